theorem upd_upd (h : Nat → Int32) (n : Nat) (x y : Int32) : upd (upd h n x) n y = upd h n y := by
  funext j
  show (if j = n then y else if j = n then x else h j) = if j = n then y else h j
  by_cases q : j = n
  · rw [if_pos q, if_pos q]
  · rw [if_neg q, if_neg q, if_neg q]
/-- an EXPR and what ends its STATEMENT, behind whole drafts -/
theorem DI_st {hD hG hB hK d g : Nat → Int32} {n n1 op w v : Nat} (h : DI hD hG hB hK n op) (e : smd n d hD) (eg : smd n g hG) (hgc : GC d g n n1) (h1 : n < n1) (hn1 : n1 < 100) (h72 : n1 ≤ n + 79) (hd1 : dpc d n1 = 1) (hw : w = 8 ∨ w = 10) (hv : v < 10) : DI (upd d n1 (nI w)) (upd g n1 (nI v)) hB hK (n1 + 1) op := by
  have E : smd n1 (upd d n1 (nI w)) d := fun i hi => upd_ne _ _ (by omega)
  have EG : smd n1 (upd g n1 (nI v)) g := fun i hi => upd_ne _ _ (by omega)
  have gc2 := GC_smd hgc E EG
  have h0 : dpc (upd d n1 (nI w)) n = 0 := (dpc_eq (fun i hi => (E i (by omega)).trans (e i hi))).trans h.2.1
  obtain ⟨w0, v0, f1, f2, f3, -⟩ := gc2 n (Nat.le_refl n) h1
  refine DI_ext h (smd_tr (smd_le E (by omega)) e) (smd_tr (smd_le EG (by omega)) eg) (by omega) (by omega) (dpc_end (upd_at _ _ _) (by omega) (by omega)) (fun z => Or.inr ?_) (fun p p1 p2 => ?_)
  · subst z; rw [f1]; exact fun q => by have := (nI_eq (by omega) (by decide)).mp q; omega
  · rcases Nat.lt_or_ge p n1 with q | q
    · obtain ⟨w, v, z, -⟩ := GC_WO (n := n1 + 1) gc2 h0 p1 q (by omega) h72
      exact ⟨w, v, z⟩
    · obtain rfl : p = n1 := by omega
      exact ⟨w, v, WO_end (upd_at _ _ _) (upd_at _ _ _) (by omega) (by omega) (by omega) (fun _ => hv) (fun z => by omega) (by rw [dpc_u (Nat.le_refl _)]; omega) (fun z => by omega)⟩
theorem DI_in {hD hG hB hK : Nat → Int32} {n op v : Nat} (h : DI hD hG hB hK n op) (hn : n < 100) (hv : v < 10) : DI (upd hD n (nI 9)) (upd hG n (nI v)) hB hK (n + 1) op := by
  refine DI_ext h (fun i hi => upd_ne _ _ (by omega)) (fun i hi => upd_ne _ _ (by omega)) (by omega) (by omega) (dpc_end (upd_at _ _ _) (by decide) (by decide)) (fun z => Or.inr ?_) (fun p p1 p2 => ?_)
  · subst z; rw [upd_at]; decide
  · obtain rfl : p = n := by omega
    exact ⟨9, v, WO_end (upd_at _ _ _) (upd_at _ _ _) (by decide) (by decide) (by omega) (fun _ => hv) (fun _ => by rw [dpc_u (Nat.le_refl _)]; exact h.2.1) (by rw [dpc_u (Nat.le_refl _), h.2.1]; omega) (fun z => by omega)⟩
set_option maxHeartbeats 4000000 in
set_option maxRecDepth 100000 in
theorem m_statement (l : Launch) (g : Lay) (sz : Nat) (f : Nat → va_E) (M : Nat) (mth : Int32) (mn : Nat) (mdr : Nat) (msz : Nat) (mix : Nat) (mdp : Nat) (mwt : Nat) (mop : Nat) (mtp : Nat) (mwa : Nat) (mgi : Nat) (mpc : Nat) (mst : Nat) (mtr : Nat) (msp : Nat) (mma : Int32) (mlg : Int32) (hT : Nat → Int32) (hQ : Nat → Int32) (hG : Nat → Int32) (hB9 : Nat → Int32) (hK9 : Nat → Int32) (hL : LO g) (t_M : g.tg M = 11) (hI : IV g f) (eM : f M = .inr (10, [.int mth, .ref (g.lk M 1), .int (nI mn), .ref (g.lk M 3), .ref (g.lk M 4), .int (nI mdr), .ref (g.lk M 6), .ref (g.lk M 7), .ref (g.lk M 8), .int (nI msz), .int (nI mix), .int (nI mdp), .ref (g.lk M 12), .int (nI mwt), .ref (g.lk M 14), .ref (g.lk M 15), .int (nI mop), .ref (g.lk M 17), .ref (g.lk M 18), .ref (g.lk M 19), .ref (g.lk M 20), .ref (g.lk M 21), .ref (g.lk M 22), .ref (g.lk M 23), .ref (g.lk M 24), .ref (g.lk M 25), .ref (g.lk M 26), .ref (g.lk M 27), .ref (g.lk M 28), .ref (g.lk M 29), .ref (g.lk M 30), .ref (g.lk M 31), .int (nI mtp), .ref (g.lk M 33), .ref (g.lk M 34), .ref (g.lk M 35), .int (nI mwa), .int (nI mgi), .int (nI mpc), .int (nI mst), .int (nI mtr), .int (nI msp), .int mma, .int mlg, .int (nI 0)])) (hMB : mn ≤ 72 ∧ mdr ≤ 100 ∧ msz ≤ 100 ∧ mix ≤ 100 ∧ mdp ≤ 20 ∧ mwt ≤ 72 ∧ mop ≤ 40 ∧ mtp ≤ 80 ∧ mwa ≤ 20 ∧ mgi ≤ msp ∧ mpc ≤ 100 ∧ mst ≤ 4 ∧ mtr ≤ 3 ∧ msp ≤ 3000) (eT : f (g.lk M 1) = .inl (g.ac (g.lk M 1), 72, .inl hT)) (cT : ∀ i, i < 72 → vp_nar .char (hT i) = hT i) (eD : f (g.lk M 3) = .inl (g.ac (g.lk M 3), 100, .inl hQ)) (eG : f (g.lk M 4) = .inl (g.ac (g.lk M 4), 100, .inl hG)) (eB : f (g.lk M 14) = .inl (g.ac (g.lk M 14), 40, .inl hB9)) (eK : f (g.lk M 15) = .inl (g.ac (g.lk M 15), 40, .inl hK9)) (hix : mix ≤ mn) (hdm : mdr ≤ mix) (hopd : mop + 1 ≤ mdp) (hdp10 : mdp ≤ 10) (hDI : DI hQ hG hB9 hK9 mdr mop) : Met l ⟨"BigRunnerModel", "statement", "()Z"⟩ [Cond.code ⟨"BigRunnerModel", "statement", "()Z"⟩ prog_12_method_12_code 3 (some .boolean)] ({ frames := 3, cells := 0, slots := 0, locals := 67 }) (va_Pc [.ref M] (pc_in g sz f)) (va_Qi (fun r f1 => ((∃ (fb ix1 op1 dp1 dr1 wt1 : Nat) (d1 g1 b1 k1 : Nat → Int32), (∀ (F : Nat), py_r (tk hT mn) mn (F + 1) mix (kl hK9 mop) mdp true = py_r (tk hT mn) mn F ix1 (kl k1 op1) dp1 (decide (fb = 1))) ∧ fb ≤ 1 ∧ mix < ix1 ∧ ix1 ≤ mn ∧ dr1 ≤ ix1 ∧ op1 + 1 ≤ dp1 ∧ dp1 ≤ 10 ∧ wt1 ≤ 72 ∧ 0 < dr1 ∧ DI d1 g1 b1 k1 dr1 op1 ∧ f1 M = .inr (10, [.int mth, .ref (g.lk M 1), .int (nI mn), .ref (g.lk M 3), .ref (g.lk M 4), .int (nI dr1), .ref (g.lk M 6), .ref (g.lk M 7), .ref (g.lk M 8), .int (nI msz), .int (nI ix1), .int (nI dp1), .ref (g.lk M 12), .int (nI wt1), .ref (g.lk M 14), .ref (g.lk M 15), .int (nI op1), .ref (g.lk M 17), .ref (g.lk M 18), .ref (g.lk M 19), .ref (g.lk M 20), .ref (g.lk M 21), .ref (g.lk M 22), .ref (g.lk M 23), .ref (g.lk M 24), .ref (g.lk M 25), .ref (g.lk M 26), .ref (g.lk M 27), .ref (g.lk M 28), .ref (g.lk M 29), .ref (g.lk M 30), .ref (g.lk M 31), .int (nI mtp), .ref (g.lk M 33), .ref (g.lk M 34), .ref (g.lk M 35), .int (nI mwa), .int (nI mgi), .int (nI mpc), .int (nI mst), .int (nI mtr), .int (nI msp), .int mma, .int mlg, .int (nI fb)]) ∧ f1 (g.lk M 3) = .inl (g.ac (g.lk M 3), 100, .inl d1) ∧ f1 (g.lk M 4) = .inl (g.ac (g.lk M 4), 100, .inl g1) ∧ f1 (g.lk M 14) = .inl (g.ac (g.lk M 14), 40, .inl b1) ∧ f1 (g.lk M 15) = .inl (g.ac (g.lk M 15), 40, .inl k1) ∧ r = nI 1) ∨ ((∀ (F : Nat), py_r (tk hT mn) mn (F + 1) mix (kl hK9 mop) mdp true = false) ∧ (∃ (fb ix1 op1 dp1 dr1 wt1 : Nat), ix1 ≤ 90 ∧ dp1 ≤ 13 ∧ dr1 ≤ 90 ∧ wt1 ≤ 72 ∧ op1 ≤ 30 ∧ fb ≤ 1 ∧ f1 M = .inr (10, [.int mth, .ref (g.lk M 1), .int (nI mn), .ref (g.lk M 3), .ref (g.lk M 4), .int (nI dr1), .ref (g.lk M 6), .ref (g.lk M 7), .ref (g.lk M 8), .int (nI msz), .int (nI ix1), .int (nI dp1), .ref (g.lk M 12), .int (nI wt1), .ref (g.lk M 14), .ref (g.lk M 15), .int (nI op1), .ref (g.lk M 17), .ref (g.lk M 18), .ref (g.lk M 19), .ref (g.lk M 20), .ref (g.lk M 21), .ref (g.lk M 22), .ref (g.lk M 23), .ref (g.lk M 24), .ref (g.lk M 25), .ref (g.lk M 26), .ref (g.lk M 27), .ref (g.lk M 28), .ref (g.lk M 29), .ref (g.lk M 30), .ref (g.lk M 31), .int (nI mtp), .ref (g.lk M 33), .ref (g.lk M 34), .ref (g.lk M 35), .int (nI mwa), .int (nI mgi), .int (nI mpc), .int (nI mst), .int (nI mtr), .int (nI msp), .int mma, .int mlg, .int (nI fb)])) ∧ r = nI 0)) ∧ (IV g f1) ∧ (un [11, 41, 42, 46, 47, 48] g f f1)) (pc_out g sz) (pc_A g sz)) 0 0 (pc_A g sz) := by
  refine pe_ofW (cc := prog_12_method_12_code) (maxL := 3) (ret := (some .boolean)) (lv := [(0, .ref M)]) (by decide) (Nat.le_of_ble_eq_true rfl) rfl ?_
  intro p e s m args below meth c ls hx hb hr hml hlocks hown hB hP hK hD hsz hS hl
  subst hsz
  have hu : un [11, 41, 42, 46, 47, 48] g f f := un.rf
  obtain ⟨hmb0, hmb1, hmb2, hmb3, hmb4, hmb5, hmb6, hmb7, hmb8, hmb9, hmb10, hmb11, hmb12, hmb13⟩ := hMB
  refine lv_aload_n hx hb d_M_statement_0 rfl (lv_at hl 0 rfl) ?_
  refine pcc_i (va_runV (C := "BigRunnerModel") (As := []) (rest := []) ⟨hx, hb, hml, hown, tb_nil⟩ (m_here l g s.heap.size f M mth mn mdr msz mix mdp mwt mop mtp mwa mgi mpc mst mtr msp mma mlg ((nI 0)) hT hL t_M hI.1 eM ⟨(by omega), (by omega), (by omega), (by omega), (by omega), (by omega), (by omega), (by omega), (by omega), (by omega), (by omega), (by omega), (by omega), (by omega), (Or.inl rfl)⟩ eT cT) ⟨(callB_of 0 (tb_one (wd_1111 hB _)) tb_good1 rfl rfl rfl (wd_82 hB _) (wd_1108 hB _) (by decide +kernel) ⟨Nat.le_of_ble_eq_true rfl, Nat.le_of_ble_eq_true rfl⟩), (wd_1110 hB _), (wd_43 hB _)⟩ ⟨pe_bl, pg_recv (ci := 10) hK hP (lo_in hL t_M (by decide)) eM rfl, pe_pre hB hK hP hD⟩ rfl rfl hl.1 rfl (lv_room (Nat.le_of_ble_eq_true rfl)) d_M_statement_1 ⟨Nat.le_of_ble_eq_true rfl, Nat.le_of_ble_eq_true rfl⟩) hS (fun r1 f2 H locs hq3 hP hD hS => ?_)
  obtain ⟨nx_4, rfl⟩ := hq3
  subst nx_4
  refine lv_istore_n (lv' := [(1, .int (nxm hT mn mix)), (0, .ref M)]) hx hb d_M_statement_4 rfl hl (by decide) rfl (fun ls hl => ?_)
  refine lv_aload_n hx hb d_M_statement_5 rfl (lv_at hl 1 rfl) ?_
  refine lv_dup hx hb d_M_statement_6 rfl ?_
  refine pf_get (v := .int (nI mix)) (C := "BigRunnerModel") (T := FT10) (N := 45) hx hb (hw10 hB _) (fun _ h9 => h9) hown hK hP (lo_in hL t_M (by decide)) eM rfl 10 (by decide) (wd_957 hB _) rfl d_M_statement_7 ?_
  refine lv_iconst (v := nI 1) hx hb d_M_statement_10 (by decide) ?_
  refine pf_iaddN (x := mix) (y := 1) hx hb d_M_statement_11 ?_
  refine pf_put (v := .int (nI (mix + 1))) (ty := .int) (fs' := [.int mth, .ref (g.lk M 1), .int (nI mn), .ref (g.lk M 3), .ref (g.lk M 4), .int (nI mdr), .ref (g.lk M 6), .ref (g.lk M 7), .ref (g.lk M 8), .int (nI msz), .int (nI (mix + 1)), .int (nI mdp), .ref (g.lk M 12), .int (nI mwt), .ref (g.lk M 14), .ref (g.lk M 15), .int (nI mop), .ref (g.lk M 17), .ref (g.lk M 18), .ref (g.lk M 19), .ref (g.lk M 20), .ref (g.lk M 21), .ref (g.lk M 22), .ref (g.lk M 23), .ref (g.lk M 24), .ref (g.lk M 25), .ref (g.lk M 26), .ref (g.lk M 27), .ref (g.lk M 28), .ref (g.lk M 29), .ref (g.lk M 30), .ref (g.lk M 31), .int (nI mtp), .ref (g.lk M 33), .ref (g.lk M 34), .ref (g.lk M 35), .int (nI mwa), .int (nI mgi), .int (nI mpc), .int (nI mst), .int (nI mtr), .int (nI msp), .int mma, .int mlg, .int (nI 0)]) (C := "BigRunnerModel") (T := FT10) (N := 45) hx hb (hw10 hB _) (fun _ h9 => h9) TY10 ok10 nm10 hown hK hP hD hS (lo_in hL t_M (by decide)) eM rfl 10 (by decide) (wd_957 hB _) rfl (by decide +kernel) rfl rfl (Nat.le_of_ble_eq_true rfl) rfl d_M_statement_12 (fun f5 H locs e6 k7 hP hD hS => ?_)
  have eT := (k7 (g.lk M 1) (tg_ne (lo_k11_1 hL _ t_M) t_M (by decide))).trans eT
  have eD := (k7 (g.lk M 3) (tg_ne (lo_k11_3 hL _ t_M) t_M (by decide))).trans eD
  have eG := (k7 (g.lk M 4) (tg_ne (lo_k11_4 hL _ t_M) t_M (by decide))).trans eG
  have eB := (k7 (g.lk M 14) (tg_ne (lo_k11_14 hL _ t_M) t_M (by decide))).trans eB
  have eK := (k7 (g.lk M 15) (tg_ne (lo_k11_15 hL _ t_M) t_M (by decide))).trans eK
  have hu := hu.st k7 t_M (by decide)
  have hk8 : ∀ b, b ≠ M → f5 b = f b := k7
  refine lv_iload_n hx hb d_M_statement_15 rfl (lv_at hl 0 rfl) ?_
  refine lv_bipush (v := nI 63) hx hb d_M_statement_16 (by decide) ?_
  refine lv_icmp_ne (tgt := 51) hx hb d_M_statement_18 (by decide) (fun b9 => ?_) (fun b9 => ?_)
  · skip
    have tq8 : tk hT mn mix ≠ 8 := fun z => b9 (kc_8.mp ((tkm hT mn mix).trans z))
    refine lv_iload_n hx hb d_M_statement_51 rfl (lv_at hl 0 rfl) ?_
    refine lv_bipush (v := nI 91) hx hb d_M_statement_52 (by decide) ?_
    refine lv_icmp_eq (tgt := 63) hx hb d_M_statement_54 (by decide) (fun b10 => ?_) (fun b10 => ?_)
    · skip
      have tq10 : tk hT mn mix = 10 := (tkm hT mn mix).symm.trans (kc_10.mpr b10)
      have hl9 : mix < mn := tk_in (h := hT) (by omega)
      refine lv_aload_n hx hb d_M_statement_63 rfl (lv_at hl 1 rfl) ?_
      refine pf_get (v := .ref (g.lk M 14)) (C := "BigRunnerModel") (T := FT10) (N := 45) hx hb (hw10 hB _) (fun _ h9 => h9) hown hK hP (lo_in hL t_M (by decide)) e6 rfl 14 (by decide) (wd_961 hB _) rfl d_M_statement_64 ?_
      refine lv_aload_n hx hb d_M_statement_67 rfl (lv_at hl 1 rfl) ?_
      refine pf_get (v := .int (nI mop)) (C := "BigRunnerModel") (T := FT10) (N := 45) hx hb (hw10 hB _) (fun _ h9 => h9) hown hK hP (lo_in hL t_M (by decide)) e6 rfl 16 (by decide) (wd_963 hB _) rfl d_M_statement_68 ?_
      refine lv_aload_n hx hb d_M_statement_71 rfl (lv_at hl 1 rfl) ?_
      refine pf_get (v := .int (nI mdr)) (C := "BigRunnerModel") (T := FT10) (N := 45) hx hb (hw10 hB _) (fun _ h9 => h9) hown hK hP (lo_in hL t_M (by decide)) e6 rfl 5 (by decide) (wd_952 hB _) rfl d_M_statement_72 ?_
      have hI11 := iv_1 hI hL t_M (by decide) hk8 (oc_11.mk t_M (⟨mth, mn, mdr, msz, (mix + 1), mdp, mwt, mop, mtp, mwa, mgi, mpc, mst, mtr, msp, mma, mlg, ((nI 0)), e6, (by omega), (by omega), (by omega), (by omega), (by omega), (by omega), (by omega), (by omega), (by omega), (by omega), (by omega), (by omega), (by omega), (by omega), (Or.inl rfl)⟩))
      refine pf_iast (i := mop) hx hb hK hP hD hS (lo_in hL (lo_k11_14 hL _ t_M) (by decide)) eB (lo_t47 hL _ (lo_k11_14 hL _ t_M)) (by omega) (by decide) d_M_statement_75 (fun f12 H locs e13 k14 hP hD hS => ?_)
      have eT := (k14 (g.lk M 1) (tg_ne (lo_k11_1 hL _ t_M) (lo_k11_14 hL _ t_M) (by decide))).trans eT
      have eD := (k14 (g.lk M 3) (tg_ne (lo_k11_3 hL _ t_M) (lo_k11_14 hL _ t_M) (by decide))).trans eD
      have eG := (k14 (g.lk M 4) (tg_ne (lo_k11_4 hL _ t_M) (lo_k11_14 hL _ t_M) (by decide))).trans eG
      have eK := (k14 (g.lk M 15) (tg_ne (lo_k11_15 hL _ t_M) (lo_k11_14 hL _ t_M) (by decide))).trans eK
      have e6 := (k14 M (tg_ne t_M (lo_k11_14 hL _ t_M) (by decide))).trans e6
      have hu := hu.st k14 (lo_k11_14 hL _ t_M) (by decide)
      have hk15 : ∀ b, b ≠ (g.lk M 14) → f12 b = f5 b := k14
      refine lv_aload_n hx hb d_M_statement_76 rfl (lv_at hl 1 rfl) ?_
      have hI16 := iv_1 hI11 hL (lo_k11_14 hL _ t_M) (by decide) hk15 (oc_47.mk (lo_k11_14 hL _ t_M) (⟨_, e13⟩))
      refine pcc_i (va_runV (C := "BigRunnerModel") (As := []) (rest := []) ⟨hx, hb, hml, hown, tb_nil⟩ (m_expr l g H.size f12 M mth mn mdr msz ((mix + 1)) mdp mwt mop mtp mwa mgi mpc mst mtr msp mma mlg ((nI 0)) hT hQ hG hL t_M hI16 e6 ⟨(by omega), (by omega), (by omega), (by omega), (by omega), (by omega), (by omega), (by omega), (by omega), (by omega), (by omega), (by omega), (by omega), (by omega), (Or.inl rfl)⟩ eT cT eD eG (by omega) (by omega) (by omega) hDI.2.1) ⟨(callB_of 0 (tb_one (wd_1122 hB _)) tb_good1 rfl rfl rfl (wd_82 hB _) (wd_1119 hB _) (by decide +kernel) ⟨Nat.le_of_ble_eq_true rfl, Nat.le_of_ble_eq_true rfl⟩), (wd_1121 hB _), (wd_45 hB _)⟩ ⟨pe_bl, pg_recv (ci := 10) hK hP (lo_in hL t_M (by decide)) e6 rfl, pe_pre hB hK hP hD⟩ rfl rfl hl.1 rfl (lv_room (Nat.le_of_ble_eq_true rfl)) d_M_statement_77 ⟨Nat.le_of_ble_eq_true rfl, Nat.le_of_ble_eq_true rfl⟩) hS (fun r17 f18 H locs hq19 hP hD hS => ?_)
      obtain ⟨rs_20, hI1_21, hu1_22⟩ := hq19
      have hu := hu.tr hu1_22 (by decide)
      have eT := hu1_22.at (lo_k11_1 hL _ t_M) (by decide) eT
      have eK := hu1_22.at (lo_k11_15 hL _ t_M) (by decide) eK
      have e13 := hu1_22.at (lo_k11_14 hL _ t_M) (by decide) e13
      rcases rs_20 with ⟨a_23, n_24, d_25, g_26, c27, c28, c29, c30, c31, c32, c33, c34, c35, e36, e37, e38, rfl⟩ | ⟨c43, ⟨ix_39, dp_40, dr_41, wt_42, c44, c45, c46, c47, e48⟩, rfl⟩
      · skip
        refine lv_if_eq (tgt := 92) hx hb d_M_statement_80 (by decide) (fun b49 => ?_) (fun b49 => ?_)
        · skip
          replace b49 := (nI_eq (a := 1) (b := 0) (by omega) (by omega)).mp b49
          exfalso; omega
        · skip
          replace b49 := mt (nI_eq (a := 1) (b := 0) (by omega) (by omega)).mpr b49
          refine lv_aload_n hx hb d_M_statement_83 rfl (lv_at hl 1 rfl) ?_
          refine pcc_i (va_runV (C := "BigRunnerModel") (As := []) (rest := []) ⟨hx, hb, hml, hown, tb_nil⟩ (m_here l g H.size f18 M mth mn n_24 msz a_23 mdp 0 mop mtp mwa mgi mpc mst mtr msp mma mlg ((nI 0)) hT hL t_M hI1_21.1 e36 ⟨(by omega), (by omega), (by omega), (by omega), (by omega), (by omega), (by omega), (by omega), (by omega), (by omega), (by omega), (by omega), (by omega), (by omega), (Or.inl rfl)⟩ eT cT) ⟨(callB_of 0 (tb_one (wd_1111 hB _)) tb_good1 rfl rfl rfl (wd_82 hB _) (wd_1108 hB _) (by decide +kernel) ⟨Nat.le_of_ble_eq_true rfl, Nat.le_of_ble_eq_true rfl⟩), (wd_1110 hB _), (wd_43 hB _)⟩ ⟨pe_bl, pg_recv (ci := 10) hK hP (lo_in hL t_M (by decide)) e36 rfl, pe_pre hB hK hP hD⟩ rfl rfl hl.1 rfl (lv_room (Nat.le_of_ble_eq_true rfl)) d_M_statement_84 ⟨Nat.le_of_ble_eq_true rfl, Nat.le_of_ble_eq_true rfl⟩) hS (fun r50 f51 H locs hq52 hP hD hS => ?_)
          obtain ⟨nx_53, rfl⟩ := hq52
          subst nx_53
          refine lv_bipush (v := nI 58) hx hb d_M_statement_87 (by decide) ?_
          refine lv_icmp_eq (tgt := 94) hx hb d_M_statement_89 (by decide) (fun b54 => ?_) (fun b54 => ?_)
          · skip
            have tq15 : tk hT mn a_23 = 15 := (tkm hT mn a_23).symm.trans (kc_15.mpr b54)
            have hl8 : a_23 < mn := tk_in (h := hT) (by omega)
            refine lv_aload_n hx hb d_M_statement_94 rfl (lv_at hl 1 rfl) ?_
            refine lv_dup hx hb d_M_statement_95 rfl ?_
            refine pf_get (v := .int (nI a_23)) (C := "BigRunnerModel") (T := FT10) (N := 45) hx hb (hw10 hB _) (fun _ h9 => h9) hown hK hP (lo_in hL t_M (by decide)) e36 rfl 10 (by decide) (wd_957 hB _) rfl d_M_statement_96 ?_
            refine lv_iconst (v := nI 1) hx hb d_M_statement_99 (by decide) ?_
            refine pf_iaddN (x := a_23) (y := 1) hx hb d_M_statement_100 ?_
            refine pf_put (v := .int (nI (a_23 + 1))) (ty := .int) (fs' := [.int mth, .ref (g.lk M 1), .int (nI mn), .ref (g.lk M 3), .ref (g.lk M 4), .int (nI n_24), .ref (g.lk M 6), .ref (g.lk M 7), .ref (g.lk M 8), .int (nI msz), .int (nI (a_23 + 1)), .int (nI mdp), .ref (g.lk M 12), .int (nI 0), .ref (g.lk M 14), .ref (g.lk M 15), .int (nI mop), .ref (g.lk M 17), .ref (g.lk M 18), .ref (g.lk M 19), .ref (g.lk M 20), .ref (g.lk M 21), .ref (g.lk M 22), .ref (g.lk M 23), .ref (g.lk M 24), .ref (g.lk M 25), .ref (g.lk M 26), .ref (g.lk M 27), .ref (g.lk M 28), .ref (g.lk M 29), .ref (g.lk M 30), .ref (g.lk M 31), .int (nI mtp), .ref (g.lk M 33), .ref (g.lk M 34), .ref (g.lk M 35), .int (nI mwa), .int (nI mgi), .int (nI mpc), .int (nI mst), .int (nI mtr), .int (nI msp), .int mma, .int mlg, .int (nI 0)]) (C := "BigRunnerModel") (T := FT10) (N := 45) hx hb (hw10 hB _) (fun _ h9 => h9) TY10 ok10 nm10 hown hK hP hD hS (lo_in hL t_M (by decide)) e36 rfl 10 (by decide) (wd_957 hB _) rfl (by decide +kernel) rfl rfl (Nat.le_of_ble_eq_true rfl) rfl d_M_statement_101 (fun f55 H locs e56 k57 hP hD hS => ?_)
            have eT := (k57 (g.lk M 1) (tg_ne (lo_k11_1 hL _ t_M) t_M (by decide))).trans eT
            have eK := (k57 (g.lk M 15) (tg_ne (lo_k11_15 hL _ t_M) t_M (by decide))).trans eK
            have e13 := (k57 (g.lk M 14) (tg_ne (lo_k11_14 hL _ t_M) t_M (by decide))).trans e13
            have e37 := (k57 (g.lk M 3) (tg_ne (lo_k11_3 hL _ t_M) t_M (by decide))).trans e37
            have e38 := (k57 (g.lk M 4) (tg_ne (lo_k11_4 hL _ t_M) t_M (by decide))).trans e38
            have hu := hu.st k57 t_M (by decide)
            have hk58 : ∀ b, b ≠ M → f55 b = f18 b := k57
            refine lv_aload_n hx hb d_M_statement_104 rfl (lv_at hl 1 rfl) ?_
            refine pf_get (v := .ref (g.lk M 15)) (C := "BigRunnerModel") (T := FT10) (N := 45) hx hb (hw10 hB _) (fun _ h9 => h9) hown hK hP (lo_in hL t_M (by decide)) e56 rfl 15 (by decide) (wd_962 hB _) rfl d_M_statement_105 ?_
            refine lv_aload_n hx hb d_M_statement_108 rfl (lv_at hl 1 rfl) ?_
            refine pf_get (v := .int (nI mop)) (C := "BigRunnerModel") (T := FT10) (N := 45) hx hb (hw10 hB _) (fun _ h9 => h9) hown hK hP (lo_in hL t_M (by decide)) e56 rfl 16 (by decide) (wd_963 hB _) rfl d_M_statement_109 ?_
            refine lv_iload_n hx hb d_M_statement_112 rfl (lv_at hl 0 rfl) ?_
            have hI59 := iv_1 hI1_21 hL t_M (by decide) hk58 (oc_11.mk t_M (⟨mth, mn, n_24, msz, (a_23 + 1), mdp, 0, mop, mtp, mwa, mgi, mpc, mst, mtr, msp, mma, mlg, ((nI 0)), e56, (by omega), (by omega), (by omega), (by omega), (by omega), (by omega), (by omega), (by omega), (by omega), (by omega), (by omega), (by omega), (by omega), (by omega), (Or.inl rfl)⟩))
            refine pf_iast (i := mop) hx hb hK hP hD hS (lo_in hL (lo_k11_15 hL _ t_M) (by decide)) eK (lo_t48 hL _ (lo_k11_15 hL _ t_M)) (by omega) (by decide) d_M_statement_113 (fun f60 H locs e61 k62 hP hD hS => ?_)
            have eT := (k62 (g.lk M 1) (tg_ne (lo_k11_1 hL _ t_M) (lo_k11_15 hL _ t_M) (by decide))).trans eT
            have e13 := (k62 (g.lk M 14) (tg_ne (lo_k11_14 hL _ t_M) (lo_k11_15 hL _ t_M) (by decide))).trans e13
            have e37 := (k62 (g.lk M 3) (tg_ne (lo_k11_3 hL _ t_M) (lo_k11_15 hL _ t_M) (by decide))).trans e37
            have e38 := (k62 (g.lk M 4) (tg_ne (lo_k11_4 hL _ t_M) (lo_k11_15 hL _ t_M) (by decide))).trans e38
            have e56 := (k62 M (tg_ne t_M (lo_k11_15 hL _ t_M) (by decide))).trans e56
            have hu := hu.st k62 (lo_k11_15 hL _ t_M) (by decide)
            have hk63 : ∀ b, b ≠ (g.lk M 15) → f60 b = f55 b := k62
            refine lv_aload_n hx hb d_M_statement_114 rfl (lv_at hl 1 rfl) ?_
            refine lv_bipush (v := nI 11) hx hb d_M_statement_115 (by decide) ?_
            refine lv_aload_n hx hb d_M_statement_117 rfl (lv_at hl 1 rfl) ?_
            refine pf_get (v := .ref (g.lk M 14)) (C := "BigRunnerModel") (T := FT10) (N := 45) hx hb (hw10 hB _) (fun _ h9 => h9) hown hK hP (lo_in hL t_M (by decide)) e56 rfl 14 (by decide) (wd_961 hB _) rfl d_M_statement_118 ?_
            refine lv_aload_n hx hb d_M_statement_121 rfl (lv_at hl 1 rfl) ?_
            refine pf_get (v := .int (nI mop)) (C := "BigRunnerModel") (T := FT10) (N := 45) hx hb (hw10 hB _) (fun _ h9 => h9) hown hK hP (lo_in hL t_M (by decide)) e56 rfl 16 (by decide) (wd_963 hB _) rfl d_M_statement_122 ?_
            refine pf_iald (i := mop) hx hb hK hP (lo_in hL (lo_k11_14 hL _ t_M) (by decide)) e13 (lo_t47 hL _ (lo_k11_14 hL _ t_M)) (by omega) (by decide) d_M_statement_125 ?_
            refine lv_topi (fun z_ hz_ => ?_)
            obtain rfl : z_ = nI mdr := hz_.trans (upd_at _ _ _)
            have hI64 := iv_1 hI59 hL (lo_k11_15 hL _ t_M) (by decide) hk63 (oc_48.mk (lo_k11_15 hL _ t_M) (⟨_, e61⟩))
            refine pcc_v (va_runV (C := "BigRunnerModel") (As := [.int (nI 11), .int (nI mdr)]) (rest := []) ⟨hx, hb, hml, hown, tb_nil⟩ (m_put l g H.size f60 M mth mn n_24 msz ((a_23 + 1)) mdp 0 mop mtp mwa mgi mpc mst mtr msp mma mlg ((nI 0)) d_25 g_26 11 ((nI mdr)) hL t_M hI64 e56 ⟨(by omega), (by omega), (by omega), (by omega), (by omega), (by omega), (by omega), (by omega), (by omega), (by omega), (by omega), (by omega), (by omega), (by omega), (Or.inl rfl)⟩ e37 e38 (by omega)) ⟨(callB_of 2 (tb_one (wd_1115 hB _)) tb_good1 rfl rfl rfl (wd_82 hB _) (wd_1112 hB _) (by decide +kernel) ⟨Nat.le_of_ble_eq_true rfl, Nat.le_of_ble_eq_true rfl⟩), (wd_1114 hB _), (wd_44 hB _)⟩ ⟨pe_bl, pg_recv (ci := 10) hK hP (lo_in hL t_M (by decide)) e56 rfl, pe_pre hB hK hP hD⟩ rfl rfl hl.1 rfl (lv_room (Nat.le_of_ble_eq_true rfl)) d_M_statement_126 ⟨Nat.le_of_ble_eq_true rfl, Nat.le_of_ble_eq_true rfl⟩) hS (fun f66 H locs hq67 hP hD hS => ?_)
            obtain ⟨x1_68, xd_69, xg_70, hI1_71, hu1_72⟩ := hq67
            have hu := hu.tr hu1_72 (by decide)
            have eT := hu1_72.at (lo_k11_1 hL _ t_M) (by decide) eT
            have e13 := hu1_72.at (lo_k11_14 hL _ t_M) (by decide) e13
            have e61 := hu1_72.at (lo_k11_15 hL _ t_M) (by decide) e61
            refine lv_aload_n hx hb d_M_statement_129 rfl (lv_at hl 1 rfl) ?_
            refine pf_get (v := .ref (g.lk M 14)) (C := "BigRunnerModel") (T := FT10) (N := 45) hx hb (hw10 hB _) (fun _ h9 => h9) hown hK hP (lo_in hL t_M (by decide)) x1_68 rfl 14 (by decide) (wd_961 hB _) rfl d_M_statement_130 ?_
            refine lv_aload_n hx hb d_M_statement_133 rfl (lv_at hl 1 rfl) ?_
            refine pf_get (v := .int (nI mop)) (C := "BigRunnerModel") (T := FT10) (N := 45) hx hb (hw10 hB _) (fun _ h9 => h9) hown hK hP (lo_in hL t_M (by decide)) x1_68 rfl 16 (by decide) (wd_963 hB _) rfl d_M_statement_134 ?_
            refine lv_aload_n hx hb d_M_statement_137 rfl (lv_at hl 1 rfl) ?_
            refine pf_get (v := .int (nI (n_24 + 1))) (C := "BigRunnerModel") (T := FT10) (N := 45) hx hb (hw10 hB _) (fun _ h9 => h9) hown hK hP (lo_in hL t_M (by decide)) x1_68 rfl 5 (by decide) (wd_952 hB _) rfl d_M_statement_138 ?_
            refine lv_iconst (v := nI 1) hx hb d_M_statement_141 (by decide) ?_
            refine pf_isubN (x := n_24 + 1) (y := 1) hx hb (by omega) d_M_statement_142 ?_
            refine lv_topi (fun z_ hz_ => ?_)
            obtain rfl : z_ = nI (n_24) := hz_.trans (congrArg nI (show (n_24 + 1) - 1 = n_24 by omega))
            refine pf_iast (i := mop) hx hb hK hP hD hS (lo_in hL (lo_k11_14 hL _ t_M) (by decide)) e13 (lo_t47 hL _ (lo_k11_14 hL _ t_M)) (by omega) (by decide) d_M_statement_143 (fun f73 H locs e74 k75 hP hD hS => ?_)
            have eT := (k75 (g.lk M 1) (tg_ne (lo_k11_1 hL _ t_M) (lo_k11_14 hL _ t_M) (by decide))).trans eT
            have e61 := (k75 (g.lk M 15) (tg_ne (lo_k11_15 hL _ t_M) (lo_k11_14 hL _ t_M) (by decide))).trans e61
            have x1_68 := (k75 M (tg_ne t_M (lo_k11_14 hL _ t_M) (by decide))).trans x1_68
            have xd_69 := (k75 (g.lk M 3) (tg_ne (lo_k11_3 hL _ t_M) (lo_k11_14 hL _ t_M) (by decide))).trans xd_69
            have xg_70 := (k75 (g.lk M 4) (tg_ne (lo_k11_4 hL _ t_M) (lo_k11_14 hL _ t_M) (by decide))).trans xg_70
            have hu := hu.st k75 (lo_k11_14 hL _ t_M) (by decide)
            have hk76 : ∀ b, b ≠ (g.lk M 14) → f73 b = f66 b := k75
            refine lv_aload_n hx hb d_M_statement_144 rfl (lv_at hl 1 rfl) ?_
            refine lv_dup hx hb d_M_statement_145 rfl ?_
            refine pf_get (v := .int (nI mop)) (C := "BigRunnerModel") (T := FT10) (N := 45) hx hb (hw10 hB _) (fun _ h9 => h9) hown hK hP (lo_in hL t_M (by decide)) x1_68 rfl 16 (by decide) (wd_963 hB _) rfl d_M_statement_146 ?_
            refine lv_iconst (v := nI 1) hx hb d_M_statement_149 (by decide) ?_
            refine pf_iaddN (x := mop) (y := 1) hx hb d_M_statement_150 ?_
            have hI77 := iv_1 hI1_71 hL (lo_k11_14 hL _ t_M) (by decide) hk76 (oc_47.mk (lo_k11_14 hL _ t_M) (⟨_, e74⟩))
            refine pf_put (v := .int (nI (mop + 1))) (ty := .int) (fs' := [.int mth, .ref (g.lk M 1), .int (nI mn), .ref (g.lk M 3), .ref (g.lk M 4), .int (nI (n_24 + 1)), .ref (g.lk M 6), .ref (g.lk M 7), .ref (g.lk M 8), .int (nI msz), .int (nI (a_23 + 1)), .int (nI mdp), .ref (g.lk M 12), .int (nI 0), .ref (g.lk M 14), .ref (g.lk M 15), .int (nI (mop + 1)), .ref (g.lk M 17), .ref (g.lk M 18), .ref (g.lk M 19), .ref (g.lk M 20), .ref (g.lk M 21), .ref (g.lk M 22), .ref (g.lk M 23), .ref (g.lk M 24), .ref (g.lk M 25), .ref (g.lk M 26), .ref (g.lk M 27), .ref (g.lk M 28), .ref (g.lk M 29), .ref (g.lk M 30), .ref (g.lk M 31), .int (nI mtp), .ref (g.lk M 33), .ref (g.lk M 34), .ref (g.lk M 35), .int (nI mwa), .int (nI mgi), .int (nI mpc), .int (nI mst), .int (nI mtr), .int (nI msp), .int mma, .int mlg, .int (nI 0)]) (C := "BigRunnerModel") (T := FT10) (N := 45) hx hb (hw10 hB _) (fun _ h9 => h9) TY10 ok10 nm10 hown hK hP hD hS (lo_in hL t_M (by decide)) x1_68 rfl 16 (by decide) (wd_963 hB _) rfl (by decide +kernel) rfl rfl (Nat.le_of_ble_eq_true rfl) rfl d_M_statement_151 (fun f78 H locs e79 k80 hP hD hS => ?_)
            have eT := (k80 (g.lk M 1) (tg_ne (lo_k11_1 hL _ t_M) t_M (by decide))).trans eT
            have e61 := (k80 (g.lk M 15) (tg_ne (lo_k11_15 hL _ t_M) t_M (by decide))).trans e61
            have xd_69 := (k80 (g.lk M 3) (tg_ne (lo_k11_3 hL _ t_M) t_M (by decide))).trans xd_69
            have xg_70 := (k80 (g.lk M 4) (tg_ne (lo_k11_4 hL _ t_M) t_M (by decide))).trans xg_70
            have e74 := (k80 (g.lk M 14) (tg_ne (lo_k11_14 hL _ t_M) t_M (by decide))).trans e74
            have hu := hu.st k80 t_M (by decide)
            have hk81 : ∀ b, b ≠ M → f78 b = f73 b := k80
            refine lv_aload_n hx hb d_M_statement_154 rfl (lv_at hl 1 rfl) ?_
            refine lv_dup hx hb d_M_statement_155 rfl ?_
            refine pf_get (v := .int (nI mdp)) (C := "BigRunnerModel") (T := FT10) (N := 45) hx hb (hw10 hB _) (fun _ h9 => h9) hown hK hP (lo_in hL t_M (by decide)) e79 rfl 11 (by decide) (wd_958 hB _) rfl d_M_statement_156 ?_
            refine lv_iconst (v := nI 1) hx hb d_M_statement_159 (by decide) ?_
            refine pf_iaddN (x := mdp) (y := 1) hx hb d_M_statement_160 ?_
            refine pf_put (v := .int (nI (mdp + 1))) (ty := .int) (fs' := [.int mth, .ref (g.lk M 1), .int (nI mn), .ref (g.lk M 3), .ref (g.lk M 4), .int (nI (n_24 + 1)), .ref (g.lk M 6), .ref (g.lk M 7), .ref (g.lk M 8), .int (nI msz), .int (nI (a_23 + 1)), .int (nI (mdp + 1)), .ref (g.lk M 12), .int (nI 0), .ref (g.lk M 14), .ref (g.lk M 15), .int (nI (mop + 1)), .ref (g.lk M 17), .ref (g.lk M 18), .ref (g.lk M 19), .ref (g.lk M 20), .ref (g.lk M 21), .ref (g.lk M 22), .ref (g.lk M 23), .ref (g.lk M 24), .ref (g.lk M 25), .ref (g.lk M 26), .ref (g.lk M 27), .ref (g.lk M 28), .ref (g.lk M 29), .ref (g.lk M 30), .ref (g.lk M 31), .int (nI mtp), .ref (g.lk M 33), .ref (g.lk M 34), .ref (g.lk M 35), .int (nI mwa), .int (nI mgi), .int (nI mpc), .int (nI mst), .int (nI mtr), .int (nI msp), .int mma, .int mlg, .int (nI 0)]) (C := "BigRunnerModel") (T := FT10) (N := 45) hx hb (hw10 hB _) (fun _ h9 => h9) TY10 ok10 nm10 hown hK hP hD hS (lo_in hL t_M (by decide)) e79 rfl 11 (by decide) (wd_958 hB _) rfl (by decide +kernel) rfl rfl (Nat.le_of_ble_eq_true rfl) rfl d_M_statement_161 (fun f82 H locs e83 k84 hP hD hS => ?_)
            have eT := (k84 (g.lk M 1) (tg_ne (lo_k11_1 hL _ t_M) t_M (by decide))).trans eT
            have e61 := (k84 (g.lk M 15) (tg_ne (lo_k11_15 hL _ t_M) t_M (by decide))).trans e61
            have xd_69 := (k84 (g.lk M 3) (tg_ne (lo_k11_3 hL _ t_M) t_M (by decide))).trans xd_69
            have xg_70 := (k84 (g.lk M 4) (tg_ne (lo_k11_4 hL _ t_M) t_M (by decide))).trans xg_70
            have e74 := (k84 (g.lk M 14) (tg_ne (lo_k11_14 hL _ t_M) t_M (by decide))).trans e74
            have hu := hu.st k84 t_M (by decide)
            have hk85 : ∀ b, b ≠ M → f82 b = f73 b := fun b q0 => (k84 b q0).trans (hk81 b q0)
            refine lv_aload_n hx hb d_M_statement_164 rfl (lv_at hl 1 rfl) ?_
            refine lv_iconst (v := nI 1) hx hb d_M_statement_165 (by decide) ?_
            refine pf_put (v := .int (nI 1)) (ty := .boolean) (fs' := [.int mth, .ref (g.lk M 1), .int (nI mn), .ref (g.lk M 3), .ref (g.lk M 4), .int (nI (n_24 + 1)), .ref (g.lk M 6), .ref (g.lk M 7), .ref (g.lk M 8), .int (nI msz), .int (nI (a_23 + 1)), .int (nI (mdp + 1)), .ref (g.lk M 12), .int (nI 0), .ref (g.lk M 14), .ref (g.lk M 15), .int (nI (mop + 1)), .ref (g.lk M 17), .ref (g.lk M 18), .ref (g.lk M 19), .ref (g.lk M 20), .ref (g.lk M 21), .ref (g.lk M 22), .ref (g.lk M 23), .ref (g.lk M 24), .ref (g.lk M 25), .ref (g.lk M 26), .ref (g.lk M 27), .ref (g.lk M 28), .ref (g.lk M 29), .ref (g.lk M 30), .ref (g.lk M 31), .int (nI mtp), .ref (g.lk M 33), .ref (g.lk M 34), .ref (g.lk M 35), .int (nI mwa), .int (nI mgi), .int (nI mpc), .int (nI mst), .int (nI mtr), .int (nI msp), .int mma, .int mlg, .int (nI 1)]) (C := "BigRunnerModel") (T := FT10) (N := 45) hx hb (hw10 hB _) (fun _ h9 => h9) TY10 ok10 nm10 hown hK hP hD hS (lo_in hL t_M (by decide)) e83 rfl 44 (by decide) (wd_991 hB _) rfl (by decide +kernel) rfl rfl (Nat.le_of_ble_eq_true rfl) rfl d_M_statement_166 (fun f86 H locs e87 k88 hP hD hS => ?_)
            have eT := (k88 (g.lk M 1) (tg_ne (lo_k11_1 hL _ t_M) t_M (by decide))).trans eT
            have e61 := (k88 (g.lk M 15) (tg_ne (lo_k11_15 hL _ t_M) t_M (by decide))).trans e61
            have xd_69 := (k88 (g.lk M 3) (tg_ne (lo_k11_3 hL _ t_M) t_M (by decide))).trans xd_69
            have xg_70 := (k88 (g.lk M 4) (tg_ne (lo_k11_4 hL _ t_M) t_M (by decide))).trans xg_70
            have e74 := (k88 (g.lk M 14) (tg_ne (lo_k11_14 hL _ t_M) t_M (by decide))).trans e74
            have hu := hu.st k88 t_M (by decide)
            have hk89 : ∀ b, b ≠ M → f86 b = f73 b := fun b q0 => (k88 b q0).trans (hk85 b q0)
            refine lv_aload_n hx hb d_M_statement_169 rfl (lv_at hl 1 rfl) ?_
            refine pf_get (v := .int (nI (mdp + 1))) (C := "BigRunnerModel") (T := FT10) (N := 45) hx hb (hw10 hB _) (fun _ h9 => h9) hown hK hP (lo_in hL t_M (by decide)) e87 rfl 11 (by decide) (wd_958 hB _) rfl d_M_statement_170 ?_
            refine lv_bipush (v := nI 10) hx hb d_M_statement_173 (by decide) ?_
            refine lv_icmp_gt (tgt := 182) hx hb d_M_statement_175 (by decide) (fun b90 => ?_) (fun b90 => ?_)
            · skip
              replace b90 := (nI_ltI (a := 10) (b := mdp + 1) (by omega) (by omega)).mp b90
              refine lv_iconst (v := nI 0) hx hb d_M_statement_182 (by decide) ?_
              have hI91 := iv_1 hI77 hL t_M (by decide) hk89 (oc_11.mk t_M (⟨mth, mn, (n_24 + 1), msz, (a_23 + 1), (mdp + 1), 0, (mop + 1), mtp, mwa, mgi, mpc, mst, mtr, msp, mma, mlg, ((nI 1)), e87, (by omega), (by omega), (by omega), (by omega), (by omega), (by omega), (by omega), (by omega), (by omega), (by omega), (by omega), (by omega), (by omega), (by omega), (Or.inr rfl)⟩))
              exact pe_zret hx hb hr hlocks hK hP hD hS d_M_statement_183 rfl ⟨(Or.inr ⟨(fun F => by rw [py_rT, if_neg (by omega), if_pos (Or.inl tq10), c27]; show (if _ then (if _ then _ else _) else _) = _; rw [if_pos tq15, if_neg (by omega)]), ⟨1, a_23 + 1, mop + 1, mdp + 1, n_24 + 1, 0, by omega, by omega, by omega, by omega, by omega, by omega, e87⟩, rfl⟩), hI91, hu⟩
            · skip
              replace b90 := mt (nI_ltI (a := 10) (b := mdp + 1) (by omega) (by omega)).mpr b90
              refine lv_iconst (v := nI 1) hx hb d_M_statement_178 (by decide) ?_
              refine lv_goto (tgt := 183) hx hb d_M_statement_179 (by decide) ?_
              have hI92 := iv_1 hI77 hL t_M (by decide) hk89 (oc_11.mk t_M (⟨mth, mn, (n_24 + 1), msz, (a_23 + 1), (mdp + 1), 0, (mop + 1), mtp, mwa, mgi, mpc, mst, mtr, msp, mma, mlg, ((nI 1)), e87, (by omega), (by omega), (by omega), (by omega), (by omega), (by omega), (by omega), (by omega), (by omega), (by omega), (by omega), (by omega), (by omega), (by omega), (Or.inr rfl)⟩))
              have hkl : kl (upd hK9 mop (nxm hT mn mix)) (mop + 1) = tk hT mn mix :: kl hK9 mop := by rw [kl_upd, tkm]
              exact pe_zret hx hb hr hlocks hK hP hD hS d_M_statement_183 rfl ⟨(Or.inl ⟨1, a_23 + 1, mop + 1, mdp + 1, n_24 + 1, 0, _, _, _, _, (fun F => by rw [py_rT, if_neg (by omega), if_pos (Or.inl tq10), c27]; show (if _ then (if _ then _ else _) else _) = _; rw [if_pos tq15, if_pos (by omega), hkl]; rfl), by omega, by omega, by omega, by omega, by omega, by omega, by omega, by omega, (DI_open hDI (smd_tr (fun i hi => upd_ne _ _ (by omega)) c34) (smd_tr (fun i hi => upd_ne _ _ (by omega)) c35) (GC_smd c32 (fun i hi => upd_ne _ _ (by omega)) (fun i hi => upd_ne _ _ (by omega))) (by omega) (by omega) (by omega) (by rw [dpc_u (Nat.le_refl _)]; exact c33) (upd_at _ _ _) (upd_at _ _ _) (fun i hi => (upd_ne _ _ (by omega)).trans (upd_ne _ _ (by omega))) (upd_at _ _ _) (fun i hi => upd_ne _ _ (by omega)) (upd_at _ _ _) (Or.inl b10)), e87, xd_69, xg_70, e74, e61, rfl⟩), hI92, hu⟩
          · skip
            have tq15 : tk hT mn a_23 ≠ 15 := fun z => b54 (kc_15.mp ((tkm hT mn a_23).trans z))
            refine lv_iconst (v := nI 0) hx hb d_M_statement_92 (by decide) ?_
            exact pe_zret hx hb hr hlocks hK hP hD hS d_M_statement_93 rfl ⟨(Or.inr ⟨(fun F => by rw [py_rT, if_neg (by omega), if_pos (Or.inl tq10), c27]; show (if _ then (if _ then _ else _) else _) = _; rw [if_neg tq15]), ⟨0, a_23, mop, mdp, n_24, 0, by omega, by omega, by omega, by omega, by omega, by omega, e36⟩, rfl⟩), hI1_21, hu⟩
      · skip
        refine lv_if_eq (tgt := 92) hx hb d_M_statement_80 (by decide) (fun b93 => ?_) (fun b93 => ?_)
        · skip
          replace b93 := (nI_eq (a := 0) (b := 0) (by omega) (by omega)).mp b93
          refine lv_iconst (v := nI 0) hx hb d_M_statement_92 (by decide) ?_
          obtain ⟨h_95, e94⟩ := oc_41.of (lo_k11_3 hL _ t_M) (hI1_21.1 (g.lk M 3))
          obtain ⟨h_98, e97⟩ := oc_42.of (lo_k11_4 hL _ t_M) (hI1_21.1 (g.lk M 4))
          exact pe_zret hx hb hr hlocks hK hP hD hS d_M_statement_93 rfl ⟨(Or.inr ⟨(fun F => by rw [py_rT, if_neg (by omega), if_pos (Or.inl tq10), c43]), ⟨0, ix_39, mop, dp_40, dr_41, wt_42, by omega, by omega, by omega, by omega, by omega, by omega, e48⟩, rfl⟩), hI1_21, hu⟩
        · skip
          replace b93 := mt (nI_eq (a := 0) (b := 0) (by omega) (by omega)).mpr b93
          exfalso; omega
    · skip
      have tq10 : tk hT mn mix ≠ 10 := fun z => b10 (kc_10.mp ((tkm hT mn mix).trans z))
      refine lv_iload_n hx hb d_M_statement_57 rfl (lv_at hl 0 rfl) ?_
      refine lv_bipush (v := nI 123) hx hb d_M_statement_58 (by decide) ?_
      refine lv_icmp_ne (tgt := 184) hx hb d_M_statement_60 (by decide) (fun b100 => ?_) (fun b100 => ?_)
      · skip
        have tq12 : tk hT mn mix ≠ 12 := fun z => b100 (kc_12.mp ((tkm hT mn mix).trans z))
        refine lv_iload_n hx hb d_M_statement_184 rfl (lv_at hl 0 rfl) ?_
        refine lv_bipush (v := nI 33) hx hb d_M_statement_185 (by decide) ?_
        refine lv_icmp_ne (tgt := 204) hx hb d_M_statement_187 (by decide) (fun b101 => ?_) (fun b101 => ?_)
        · skip
          have tq9 : tk hT mn mix ≠ 9 := fun z => b101 (kc_9.mp ((tkm hT mn mix).trans z))
          refine lv_iload_n hx hb d_M_statement_204 rfl (lv_at hl 0 rfl) ?_
          have hI102 := iv_1 hI hL t_M (by decide) hk8 (oc_11.mk t_M (⟨mth, mn, mdr, msz, (mix + 1), mdp, mwt, mop, mtp, mwa, mgi, mpc, mst, mtr, msp, mma, mlg, ((nI 0)), e6, (by omega), (by omega), (by omega), (by omega), (by omega), (by omega), (by omega), (by omega), (by omega), (by omega), (by omega), (by omega), (by omega), (by omega), (Or.inl rfl)⟩))
          refine pcc_i (va_runS (As := [.int (nxm hT mn mix)]) (rest := []) ⟨hx, hb, hml, hown, tb_nil⟩ (m_isName l g H.size f5 ((nxm hT mn mix)) hL hI102.1) ⟨(callB_of 1 (tb_one (wd_1118 hB _)) tb_good1 rfl rfl rfl (wd_82 hB _) (wd_1116 hB _) (by decide +kernel) ⟨Nat.le_of_ble_eq_true rfl, Nat.le_of_ble_eq_true rfl⟩), (wd_1117 hB _)⟩ ⟨pe_bl, pe_pre hB hK hP hD⟩ rfl rfl hl.1 rfl (lv_room (Nat.le_of_ble_eq_true rfl)) d_M_statement_205 ⟨Nat.le_of_ble_eq_true rfl, Nat.le_of_ble_eq_true rfl⟩) hS (fun r103 f104 H locs hq105 hP hD hS => ?_)
          obtain ⟨bo_106, i0_107, i1_108, rfl⟩ := hq105
          refine lv_if_eq (tgt := 220) hx hb d_M_statement_208 (by decide) (fun b109 => ?_) (fun b109 => ?_)
          · skip
            have hr110 : r103 = nI 0 := b109
            have hi111 := i0_107 hr110
            have tq6 : tk hT mn mix ≠ 6 := fun z => hi111 ((tkm hT mn mix).trans z)
            refine lv_iconst (v := nI 0) hx hb d_M_statement_220 (by decide) ?_
            exact pe_zret hx hb hr hlocks hK hP hD hS d_M_statement_221 rfl ⟨(Or.inr ⟨(fun F => by rw [py_rT, if_neg tq8, if_neg (fun z => z.elim tq10 tq12), if_neg tq9, if_neg (fun z => tq6 z.1)]), ⟨0, mix + 1, mop, mdp, mdr, mwt, by omega, by omega, by omega, by omega, by omega, by omega, e6⟩, rfl⟩), hI102, hu⟩
          · skip
            have hr112 : r103 = nI 1 := (bl_1 bo_106 b109)
            have hi113 := i1_108 hr112
            have hkc6 := hi113
            have tq6 : tk hT mn mix = 6 := (tkm hT mn mix).symm.trans hkc6
            have hl9 : mix < mn := tk_in (h := hT) (by omega)
            obtain ⟨vn, hvn, qvn⟩ := nm_of (kc_6.mp hkc6).1 (kc_6.mp hkc6).2
            refine lv_aload_n hx hb d_M_statement_211 rfl (lv_at hl 1 rfl) ?_
            refine pcc_i (va_runV (C := "BigRunnerModel") (As := []) (rest := []) ⟨hx, hb, hml, hown, tb_nil⟩ (m_here l g H.size f5 M mth mn mdr msz ((mix + 1)) mdp mwt mop mtp mwa mgi mpc mst mtr msp mma mlg ((nI 0)) hT hL t_M hI102.1 e6 ⟨(by omega), (by omega), (by omega), (by omega), (by omega), (by omega), (by omega), (by omega), (by omega), (by omega), (by omega), (by omega), (by omega), (by omega), (Or.inl rfl)⟩ eT cT) ⟨(callB_of 0 (tb_one (wd_1111 hB _)) tb_good1 rfl rfl rfl (wd_82 hB _) (wd_1108 hB _) (by decide +kernel) ⟨Nat.le_of_ble_eq_true rfl, Nat.le_of_ble_eq_true rfl⟩), (wd_1110 hB _), (wd_43 hB _)⟩ ⟨pe_bl, pg_recv (ci := 10) hK hP (lo_in hL t_M (by decide)) e6 rfl, pe_pre hB hK hP hD⟩ rfl rfl hl.1 rfl (lv_room (Nat.le_of_ble_eq_true rfl)) d_M_statement_212 ⟨Nat.le_of_ble_eq_true rfl, Nat.le_of_ble_eq_true rfl⟩) hS (fun r114 f115 H locs hq116 hP hD hS => ?_)
            obtain ⟨nx_117, rfl⟩ := hq116
            subst nx_117
            refine lv_bipush (v := nI 61) hx hb d_M_statement_215 (by decide) ?_
            refine lv_icmp_eq (tgt := 222) hx hb d_M_statement_217 (by decide) (fun b118 => ?_) (fun b118 => ?_)
            · skip
              have tq17 : tk hT mn (mix + 1) = 17 := (tkm hT mn (mix + 1)).symm.trans (kc_17.mpr b118)
              have hl8 : mix + 1 < mn := tk_in (h := hT) (by omega)
              refine lv_aload_n hx hb d_M_statement_222 rfl (lv_at hl 1 rfl) ?_
              refine lv_dup hx hb d_M_statement_223 rfl ?_
              refine pf_get (v := .int (nI (mix + 1))) (C := "BigRunnerModel") (T := FT10) (N := 45) hx hb (hw10 hB _) (fun _ h9 => h9) hown hK hP (lo_in hL t_M (by decide)) e6 rfl 10 (by decide) (wd_957 hB _) rfl d_M_statement_224 ?_
              refine lv_iconst (v := nI 1) hx hb d_M_statement_227 (by decide) ?_
              refine pf_iaddN (x := mix + 1) (y := 1) hx hb d_M_statement_228 ?_
              refine pf_put (v := .int (nI ((mix + 1) + 1))) (ty := .int) (fs' := [.int mth, .ref (g.lk M 1), .int (nI mn), .ref (g.lk M 3), .ref (g.lk M 4), .int (nI mdr), .ref (g.lk M 6), .ref (g.lk M 7), .ref (g.lk M 8), .int (nI msz), .int (nI ((mix + 1) + 1)), .int (nI mdp), .ref (g.lk M 12), .int (nI mwt), .ref (g.lk M 14), .ref (g.lk M 15), .int (nI mop), .ref (g.lk M 17), .ref (g.lk M 18), .ref (g.lk M 19), .ref (g.lk M 20), .ref (g.lk M 21), .ref (g.lk M 22), .ref (g.lk M 23), .ref (g.lk M 24), .ref (g.lk M 25), .ref (g.lk M 26), .ref (g.lk M 27), .ref (g.lk M 28), .ref (g.lk M 29), .ref (g.lk M 30), .ref (g.lk M 31), .int (nI mtp), .ref (g.lk M 33), .ref (g.lk M 34), .ref (g.lk M 35), .int (nI mwa), .int (nI mgi), .int (nI mpc), .int (nI mst), .int (nI mtr), .int (nI msp), .int mma, .int mlg, .int (nI 0)]) (C := "BigRunnerModel") (T := FT10) (N := 45) hx hb (hw10 hB _) (fun _ h9 => h9) TY10 ok10 nm10 hown hK hP hD hS (lo_in hL t_M (by decide)) e6 rfl 10 (by decide) (wd_957 hB _) rfl (by decide +kernel) rfl rfl (Nat.le_of_ble_eq_true rfl) rfl d_M_statement_229 (fun f119 H locs e120 k121 hP hD hS => ?_)
              have eT := (k121 (g.lk M 1) (tg_ne (lo_k11_1 hL _ t_M) t_M (by decide))).trans eT
              have eD := (k121 (g.lk M 3) (tg_ne (lo_k11_3 hL _ t_M) t_M (by decide))).trans eD
              have eG := (k121 (g.lk M 4) (tg_ne (lo_k11_4 hL _ t_M) t_M (by decide))).trans eG
              have eB := (k121 (g.lk M 14) (tg_ne (lo_k11_14 hL _ t_M) t_M (by decide))).trans eB
              have eK := (k121 (g.lk M 15) (tg_ne (lo_k11_15 hL _ t_M) t_M (by decide))).trans eK
              have hu := hu.st k121 t_M (by decide)
              have hk122 : ∀ b, b ≠ M → f119 b = f5 b := k121
              refine lv_aload_n hx hb d_M_statement_232 rfl (lv_at hl 1 rfl) ?_
              have hI123 := iv_1 hI102 hL t_M (by decide) hk122 (oc_11.mk t_M (⟨mth, mn, mdr, msz, ((mix + 1) + 1), mdp, mwt, mop, mtp, mwa, mgi, mpc, mst, mtr, msp, mma, mlg, ((nI 0)), e120, (by omega), (by omega), (by omega), (by omega), (by omega), (by omega), (by omega), (by omega), (by omega), (by omega), (by omega), (by omega), (by omega), (by omega), (Or.inl rfl)⟩))
              refine pcc_i (va_runV (C := "BigRunnerModel") (As := []) (rest := []) ⟨hx, hb, hml, hown, tb_nil⟩ (m_expr l g H.size f119 M mth mn mdr msz (((mix + 1) + 1)) mdp mwt mop mtp mwa mgi mpc mst mtr msp mma mlg ((nI 0)) hT hQ hG hL t_M hI123 e120 ⟨(by omega), (by omega), (by omega), (by omega), (by omega), (by omega), (by omega), (by omega), (by omega), (by omega), (by omega), (by omega), (by omega), (by omega), (Or.inl rfl)⟩ eT cT eD eG (by omega) (by omega) (by omega) hDI.2.1) ⟨(callB_of 0 (tb_one (wd_1122 hB _)) tb_good1 rfl rfl rfl (wd_82 hB _) (wd_1119 hB _) (by decide +kernel) ⟨Nat.le_of_ble_eq_true rfl, Nat.le_of_ble_eq_true rfl⟩), (wd_1121 hB _), (wd_45 hB _)⟩ ⟨pe_bl, pg_recv (ci := 10) hK hP (lo_in hL t_M (by decide)) e120 rfl, pe_pre hB hK hP hD⟩ rfl rfl hl.1 rfl (lv_room (Nat.le_of_ble_eq_true rfl)) d_M_statement_233 ⟨Nat.le_of_ble_eq_true rfl, Nat.le_of_ble_eq_true rfl⟩) hS (fun r124 f125 H locs hq126 hP hD hS => ?_)
              obtain ⟨rs_127, hI1_128, hu1_129⟩ := hq126
              have hu := hu.tr hu1_129 (by decide)
              have eT := hu1_129.at (lo_k11_1 hL _ t_M) (by decide) eT
              have eB := hu1_129.at (lo_k11_14 hL _ t_M) (by decide) eB
              have eK := hu1_129.at (lo_k11_15 hL _ t_M) (by decide) eK
              rcases rs_127 with ⟨a_130, n_131, d_132, g_133, c134, c135, c136, c137, c138, c139, c140, c141, c142, e143, e144, e145, rfl⟩ | ⟨c150, ⟨ix_146, dp_147, dr_148, wt_149, c151, c152, c153, c154, e155⟩, rfl⟩
              · skip
                refine lv_istore_n (lv' := [(2, .int (nI 1)), (1, .int (nxm hT mn mix)), (0, .ref M)]) hx hb d_M_statement_236 rfl hl (by decide) rfl (fun ls hl => ?_)
                refine lv_aload_n hx hb d_M_statement_237 rfl (lv_at hl 2 rfl) ?_
                refine lv_bipush (v := nI 8) hx hb d_M_statement_238 (by decide) ?_
                refine lv_iload_n hx hb d_M_statement_240 rfl (lv_at hl 1 rfl) ?_
                refine lv_bipush (v := nI 97) hx hb d_M_statement_241 (by decide) ?_
                refine lv_isub hx hb d_M_statement_243 ?_
                refine lv_topi (fun z_ hz_ => ?_)
                obtain rfl : z_ = nI vn := hz_.trans qvn
                refine pcc_v (va_runV (C := "BigRunnerModel") (As := [.int (nI 8), .int (nI vn)]) (rest := []) ⟨hx, hb, hml, hown, tb_nil⟩ (m_put l g H.size f125 M mth mn n_131 msz a_130 mdp 0 mop mtp mwa mgi mpc mst mtr msp mma mlg ((nI 0)) d_132 g_133 8 ((nI vn)) hL t_M hI1_128 e143 ⟨(by omega), (by omega), (by omega), (by omega), (by omega), (by omega), (by omega), (by omega), (by omega), (by omega), (by omega), (by omega), (by omega), (by omega), (Or.inl rfl)⟩ e144 e145 (by omega)) ⟨(callB_of 2 (tb_one (wd_1115 hB _)) tb_good1 rfl rfl rfl (wd_82 hB _) (wd_1112 hB _) (by decide +kernel) ⟨Nat.le_of_ble_eq_true rfl, Nat.le_of_ble_eq_true rfl⟩), (wd_1114 hB _), (wd_44 hB _)⟩ ⟨pe_bl, pg_recv (ci := 10) hK hP (lo_in hL t_M (by decide)) e143 rfl, pe_pre hB hK hP hD⟩ rfl rfl hl.1 rfl (lv_room (Nat.le_of_ble_eq_true rfl)) d_M_statement_244 ⟨Nat.le_of_ble_eq_true rfl, Nat.le_of_ble_eq_true rfl⟩) hS (fun f157 H locs hq158 hP hD hS => ?_)
                obtain ⟨x1_159, xd_160, xg_161, hI1_162, hu1_163⟩ := hq158
                have hu := hu.tr hu1_163 (by decide)
                have eT := hu1_163.at (lo_k11_1 hL _ t_M) (by decide) eT
                have eB := hu1_163.at (lo_k11_14 hL _ t_M) (by decide) eB
                have eK := hu1_163.at (lo_k11_15 hL _ t_M) (by decide) eK
                refine lv_iload_n hx hb d_M_statement_247 rfl (lv_at hl 0 rfl) ?_
                exact pe_zret hx hb hr hlocks hK hP hD hS d_M_statement_248 rfl ⟨(Or.inl ⟨0, a_130, mop, mdp, n_131 + 1, 0, _, _, _, _, (fun F => by rw [py_rT, if_neg tq8, if_neg (fun z => z.elim tq10 tq12), if_neg tq9, if_pos ⟨tq6, tq17⟩, c134]; rfl), by omega, by omega, by omega, by omega, by omega, by omega, by omega, by omega, (DI_st hDI c141 c142 c139 (by omega) (by omega) (by omega) c140 (Or.inl rfl) hvn), x1_159, xd_160, xg_161, eB, eK, rfl⟩), hI1_162, hu⟩
              · skip
                refine lv_istore_n (lv' := [(2, .int (nI 0)), (1, .int (nxm hT mn mix)), (0, .ref M)]) hx hb d_M_statement_236 rfl hl (by decide) rfl (fun ls hl => ?_)
                refine lv_aload_n hx hb d_M_statement_237 rfl (lv_at hl 2 rfl) ?_
                refine lv_bipush (v := nI 8) hx hb d_M_statement_238 (by decide) ?_
                refine lv_iload_n hx hb d_M_statement_240 rfl (lv_at hl 1 rfl) ?_
                refine lv_bipush (v := nI 97) hx hb d_M_statement_241 (by decide) ?_
                refine lv_isub hx hb d_M_statement_243 ?_
                refine lv_topi (fun z_ hz_ => ?_)
                obtain rfl : z_ = nI vn := hz_.trans qvn
                obtain ⟨h_165, e164⟩ := oc_41.of (lo_k11_3 hL _ t_M) (hI1_128.1 (g.lk M 3))
                obtain ⟨h_168, e167⟩ := oc_42.of (lo_k11_4 hL _ t_M) (hI1_128.1 (g.lk M 4))
                refine pcc_v (va_runV (C := "BigRunnerModel") (As := [.int (nI 8), .int (nI vn)]) (rest := []) ⟨hx, hb, hml, hown, tb_nil⟩ (m_put l g H.size f125 M mth mn dr_148 msz ix_146 dp_147 wt_149 mop mtp mwa mgi mpc mst mtr msp mma mlg ((nI 0)) h_165 h_168 8 ((nI vn)) hL t_M hI1_128 e155 ⟨(by omega), (by omega), (by omega), (by omega), (by omega), (by omega), (by omega), (by omega), (by omega), (by omega), (by omega), (by omega), (by omega), (by omega), (Or.inl rfl)⟩ e164 e167 (by omega)) ⟨(callB_of 2 (tb_one (wd_1115 hB _)) tb_good1 rfl rfl rfl (wd_82 hB _) (wd_1112 hB _) (by decide +kernel) ⟨Nat.le_of_ble_eq_true rfl, Nat.le_of_ble_eq_true rfl⟩), (wd_1114 hB _), (wd_44 hB _)⟩ ⟨pe_bl, pg_recv (ci := 10) hK hP (lo_in hL t_M (by decide)) e155 rfl, pe_pre hB hK hP hD⟩ rfl rfl hl.1 rfl (lv_room (Nat.le_of_ble_eq_true rfl)) d_M_statement_244 ⟨Nat.le_of_ble_eq_true rfl, Nat.le_of_ble_eq_true rfl⟩) hS (fun f171 H locs hq172 hP hD hS => ?_)
                obtain ⟨x1_173, xd_174, xg_175, hI1_176, hu1_177⟩ := hq172
                have hu := hu.tr hu1_177 (by decide)
                have eT := hu1_177.at (lo_k11_1 hL _ t_M) (by decide) eT
                have eB := hu1_177.at (lo_k11_14 hL _ t_M) (by decide) eB
                have eK := hu1_177.at (lo_k11_15 hL _ t_M) (by decide) eK
                refine lv_iload_n hx hb d_M_statement_247 rfl (lv_at hl 0 rfl) ?_
                exact pe_zret hx hb hr hlocks hK hP hD hS d_M_statement_248 rfl ⟨(Or.inr ⟨(fun F => by rw [py_rT, if_neg tq8, if_neg (fun z => z.elim tq10 tq12), if_neg tq9, if_pos ⟨tq6, tq17⟩, c150]), ⟨0, ix_146, mop, dp_147, dr_148 + 1, wt_149, by omega, by omega, by omega, by omega, by omega, by omega, x1_173⟩, rfl⟩), hI1_176, hu⟩
            · skip
              have tq17 : tk hT mn (mix + 1) ≠ 17 := fun z => b118 (kc_17.mp ((tkm hT mn (mix + 1)).trans z))
              refine lv_iconst (v := nI 0) hx hb d_M_statement_220 (by decide) ?_
              exact pe_zret hx hb hr hlocks hK hP hD hS d_M_statement_221 rfl ⟨(Or.inr ⟨(fun F => by rw [py_rT, if_neg tq8, if_neg (fun z => z.elim tq10 tq12), if_neg tq9, if_neg (fun z => tq17 z.2)]), ⟨0, mix + 1, mop, mdp, mdr, mwt, by omega, by omega, by omega, by omega, by omega, by omega, e6⟩, rfl⟩), hI102, hu⟩
        · skip
          have tq9 : tk hT mn mix = 9 := (tkm hT mn mix).symm.trans (kc_9.mpr b101)
          have hl9 : mix < mn := tk_in (h := hT) (by omega)
          refine lv_aload_n hx hb d_M_statement_190 rfl (lv_at hl 1 rfl) ?_
          have hI178 := iv_1 hI hL t_M (by decide) hk8 (oc_11.mk t_M (⟨mth, mn, mdr, msz, (mix + 1), mdp, mwt, mop, mtp, mwa, mgi, mpc, mst, mtr, msp, mma, mlg, ((nI 0)), e6, (by omega), (by omega), (by omega), (by omega), (by omega), (by omega), (by omega), (by omega), (by omega), (by omega), (by omega), (by omega), (by omega), (by omega), (Or.inl rfl)⟩))
          refine pcc_i (va_runV (C := "BigRunnerModel") (As := []) (rest := []) ⟨hx, hb, hml, hown, tb_nil⟩ (m_expr l g H.size f5 M mth mn mdr msz ((mix + 1)) mdp mwt mop mtp mwa mgi mpc mst mtr msp mma mlg ((nI 0)) hT hQ hG hL t_M hI178 e6 ⟨(by omega), (by omega), (by omega), (by omega), (by omega), (by omega), (by omega), (by omega), (by omega), (by omega), (by omega), (by omega), (by omega), (by omega), (Or.inl rfl)⟩ eT cT eD eG (by omega) (by omega) (by omega) hDI.2.1) ⟨(callB_of 0 (tb_one (wd_1122 hB _)) tb_good1 rfl rfl rfl (wd_82 hB _) (wd_1119 hB _) (by decide +kernel) ⟨Nat.le_of_ble_eq_true rfl, Nat.le_of_ble_eq_true rfl⟩), (wd_1121 hB _), (wd_45 hB _)⟩ ⟨pe_bl, pg_recv (ci := 10) hK hP (lo_in hL t_M (by decide)) e6 rfl, pe_pre hB hK hP hD⟩ rfl rfl hl.1 rfl (lv_room (Nat.le_of_ble_eq_true rfl)) d_M_statement_191 ⟨Nat.le_of_ble_eq_true rfl, Nat.le_of_ble_eq_true rfl⟩) hS (fun r179 f180 H locs hq181 hP hD hS => ?_)
          obtain ⟨rs_182, hI1_183, hu1_184⟩ := hq181
          have hu := hu.tr hu1_184 (by decide)
          have eT := hu1_184.at (lo_k11_1 hL _ t_M) (by decide) eT
          have eB := hu1_184.at (lo_k11_14 hL _ t_M) (by decide) eB
          have eK := hu1_184.at (lo_k11_15 hL _ t_M) (by decide) eK
          rcases rs_182 with ⟨a_185, n_186, d_187, g_188, c189, c190, c191, c192, c193, c194, c195, c196, c197, e198, e199, e200, rfl⟩ | ⟨c205, ⟨ix_201, dp_202, dr_203, wt_204, c206, c207, c208, c209, e210⟩, rfl⟩
          · skip
            refine lv_istore_n (lv' := [(2, .int (nI 1)), (1, .int (nxm hT mn mix)), (0, .ref M)]) hx hb d_M_statement_194 rfl hl (by decide) rfl (fun ls hl => ?_)
            refine lv_aload_n hx hb d_M_statement_195 rfl (lv_at hl 2 rfl) ?_
            refine lv_bipush (v := nI 10) hx hb d_M_statement_196 (by decide) ?_
            refine lv_iconst (v := nI 0) hx hb d_M_statement_198 (by decide) ?_
            refine pcc_v (va_runV (C := "BigRunnerModel") (As := [.int (nI 10), .int (nI 0)]) (rest := []) ⟨hx, hb, hml, hown, tb_nil⟩ (m_put l g H.size f180 M mth mn n_186 msz a_185 mdp 0 mop mtp mwa mgi mpc mst mtr msp mma mlg ((nI 0)) d_187 g_188 10 ((nI 0)) hL t_M hI1_183 e198 ⟨(by omega), (by omega), (by omega), (by omega), (by omega), (by omega), (by omega), (by omega), (by omega), (by omega), (by omega), (by omega), (by omega), (by omega), (Or.inl rfl)⟩ e199 e200 (by omega)) ⟨(callB_of 2 (tb_one (wd_1115 hB _)) tb_good1 rfl rfl rfl (wd_82 hB _) (wd_1112 hB _) (by decide +kernel) ⟨Nat.le_of_ble_eq_true rfl, Nat.le_of_ble_eq_true rfl⟩), (wd_1114 hB _), (wd_44 hB _)⟩ ⟨pe_bl, pg_recv (ci := 10) hK hP (lo_in hL t_M (by decide)) e198 rfl, pe_pre hB hK hP hD⟩ rfl rfl hl.1 rfl (lv_room (Nat.le_of_ble_eq_true rfl)) d_M_statement_199 ⟨Nat.le_of_ble_eq_true rfl, Nat.le_of_ble_eq_true rfl⟩) hS (fun f212 H locs hq213 hP hD hS => ?_)
            obtain ⟨x1_214, xd_215, xg_216, hI1_217, hu1_218⟩ := hq213
            have hu := hu.tr hu1_218 (by decide)
            have eT := hu1_218.at (lo_k11_1 hL _ t_M) (by decide) eT
            have eB := hu1_218.at (lo_k11_14 hL _ t_M) (by decide) eB
            have eK := hu1_218.at (lo_k11_15 hL _ t_M) (by decide) eK
            refine lv_iload_n hx hb d_M_statement_202 rfl (lv_at hl 0 rfl) ?_
            exact pe_zret hx hb hr hlocks hK hP hD hS d_M_statement_203 rfl ⟨(Or.inl ⟨0, a_185, mop, mdp, n_186 + 1, 0, _, _, _, _, (fun F => by rw [py_rT, if_neg tq8, if_neg (fun z => z.elim tq10 tq12), if_pos tq9, c189]; rfl), by omega, by omega, by omega, by omega, by omega, by omega, by omega, by omega, (DI_st hDI c196 c197 c194 (by omega) (by omega) (by omega) c195 (Or.inr rfl) (by decide)), x1_214, xd_215, xg_216, eB, eK, rfl⟩), hI1_217, hu⟩
          · skip
            refine lv_istore_n (lv' := [(2, .int (nI 0)), (1, .int (nxm hT mn mix)), (0, .ref M)]) hx hb d_M_statement_194 rfl hl (by decide) rfl (fun ls hl => ?_)
            refine lv_aload_n hx hb d_M_statement_195 rfl (lv_at hl 2 rfl) ?_
            refine lv_bipush (v := nI 10) hx hb d_M_statement_196 (by decide) ?_
            refine lv_iconst (v := nI 0) hx hb d_M_statement_198 (by decide) ?_
            obtain ⟨h_220, e219⟩ := oc_41.of (lo_k11_3 hL _ t_M) (hI1_183.1 (g.lk M 3))
            obtain ⟨h_223, e222⟩ := oc_42.of (lo_k11_4 hL _ t_M) (hI1_183.1 (g.lk M 4))
            refine pcc_v (va_runV (C := "BigRunnerModel") (As := [.int (nI 10), .int (nI 0)]) (rest := []) ⟨hx, hb, hml, hown, tb_nil⟩ (m_put l g H.size f180 M mth mn dr_203 msz ix_201 dp_202 wt_204 mop mtp mwa mgi mpc mst mtr msp mma mlg ((nI 0)) h_220 h_223 10 ((nI 0)) hL t_M hI1_183 e210 ⟨(by omega), (by omega), (by omega), (by omega), (by omega), (by omega), (by omega), (by omega), (by omega), (by omega), (by omega), (by omega), (by omega), (by omega), (Or.inl rfl)⟩ e219 e222 (by omega)) ⟨(callB_of 2 (tb_one (wd_1115 hB _)) tb_good1 rfl rfl rfl (wd_82 hB _) (wd_1112 hB _) (by decide +kernel) ⟨Nat.le_of_ble_eq_true rfl, Nat.le_of_ble_eq_true rfl⟩), (wd_1114 hB _), (wd_44 hB _)⟩ ⟨pe_bl, pg_recv (ci := 10) hK hP (lo_in hL t_M (by decide)) e210 rfl, pe_pre hB hK hP hD⟩ rfl rfl hl.1 rfl (lv_room (Nat.le_of_ble_eq_true rfl)) d_M_statement_199 ⟨Nat.le_of_ble_eq_true rfl, Nat.le_of_ble_eq_true rfl⟩) hS (fun f226 H locs hq227 hP hD hS => ?_)
            obtain ⟨x1_228, xd_229, xg_230, hI1_231, hu1_232⟩ := hq227
            have hu := hu.tr hu1_232 (by decide)
            have eT := hu1_232.at (lo_k11_1 hL _ t_M) (by decide) eT
            have eB := hu1_232.at (lo_k11_14 hL _ t_M) (by decide) eB
            have eK := hu1_232.at (lo_k11_15 hL _ t_M) (by decide) eK
            refine lv_iload_n hx hb d_M_statement_202 rfl (lv_at hl 0 rfl) ?_
            exact pe_zret hx hb hr hlocks hK hP hD hS d_M_statement_203 rfl ⟨(Or.inr ⟨(fun F => by rw [py_rT, if_neg tq8, if_neg (fun z => z.elim tq10 tq12), if_pos tq9, c205]), ⟨0, ix_201, mop, dp_202, dr_203 + 1, wt_204, by omega, by omega, by omega, by omega, by omega, by omega, x1_228⟩, rfl⟩), hI1_231, hu⟩
      · skip
        have tq12 : tk hT mn mix = 12 := (tkm hT mn mix).symm.trans (kc_12.mpr b100)
        have hl9 : mix < mn := tk_in (h := hT) (by omega)
        refine lv_aload_n hx hb d_M_statement_63 rfl (lv_at hl 1 rfl) ?_
        refine pf_get (v := .ref (g.lk M 14)) (C := "BigRunnerModel") (T := FT10) (N := 45) hx hb (hw10 hB _) (fun _ h9 => h9) hown hK hP (lo_in hL t_M (by decide)) e6 rfl 14 (by decide) (wd_961 hB _) rfl d_M_statement_64 ?_
        refine lv_aload_n hx hb d_M_statement_67 rfl (lv_at hl 1 rfl) ?_
        refine pf_get (v := .int (nI mop)) (C := "BigRunnerModel") (T := FT10) (N := 45) hx hb (hw10 hB _) (fun _ h9 => h9) hown hK hP (lo_in hL t_M (by decide)) e6 rfl 16 (by decide) (wd_963 hB _) rfl d_M_statement_68 ?_
        refine lv_aload_n hx hb d_M_statement_71 rfl (lv_at hl 1 rfl) ?_
        refine pf_get (v := .int (nI mdr)) (C := "BigRunnerModel") (T := FT10) (N := 45) hx hb (hw10 hB _) (fun _ h9 => h9) hown hK hP (lo_in hL t_M (by decide)) e6 rfl 5 (by decide) (wd_952 hB _) rfl d_M_statement_72 ?_
        have hI233 := iv_1 hI hL t_M (by decide) hk8 (oc_11.mk t_M (⟨mth, mn, mdr, msz, (mix + 1), mdp, mwt, mop, mtp, mwa, mgi, mpc, mst, mtr, msp, mma, mlg, ((nI 0)), e6, (by omega), (by omega), (by omega), (by omega), (by omega), (by omega), (by omega), (by omega), (by omega), (by omega), (by omega), (by omega), (by omega), (by omega), (Or.inl rfl)⟩))
        refine pf_iast (i := mop) hx hb hK hP hD hS (lo_in hL (lo_k11_14 hL _ t_M) (by decide)) eB (lo_t47 hL _ (lo_k11_14 hL _ t_M)) (by omega) (by decide) d_M_statement_75 (fun f234 H locs e235 k236 hP hD hS => ?_)
        have eT := (k236 (g.lk M 1) (tg_ne (lo_k11_1 hL _ t_M) (lo_k11_14 hL _ t_M) (by decide))).trans eT
        have eD := (k236 (g.lk M 3) (tg_ne (lo_k11_3 hL _ t_M) (lo_k11_14 hL _ t_M) (by decide))).trans eD
        have eG := (k236 (g.lk M 4) (tg_ne (lo_k11_4 hL _ t_M) (lo_k11_14 hL _ t_M) (by decide))).trans eG
        have eK := (k236 (g.lk M 15) (tg_ne (lo_k11_15 hL _ t_M) (lo_k11_14 hL _ t_M) (by decide))).trans eK
        have e6 := (k236 M (tg_ne t_M (lo_k11_14 hL _ t_M) (by decide))).trans e6
        have hu := hu.st k236 (lo_k11_14 hL _ t_M) (by decide)
        have hk237 : ∀ b, b ≠ (g.lk M 14) → f234 b = f5 b := k236
        refine lv_aload_n hx hb d_M_statement_76 rfl (lv_at hl 1 rfl) ?_
        have hI238 := iv_1 hI233 hL (lo_k11_14 hL _ t_M) (by decide) hk237 (oc_47.mk (lo_k11_14 hL _ t_M) (⟨_, e235⟩))
        refine pcc_i (va_runV (C := "BigRunnerModel") (As := []) (rest := []) ⟨hx, hb, hml, hown, tb_nil⟩ (m_expr l g H.size f234 M mth mn mdr msz ((mix + 1)) mdp mwt mop mtp mwa mgi mpc mst mtr msp mma mlg ((nI 0)) hT hQ hG hL t_M hI238 e6 ⟨(by omega), (by omega), (by omega), (by omega), (by omega), (by omega), (by omega), (by omega), (by omega), (by omega), (by omega), (by omega), (by omega), (by omega), (Or.inl rfl)⟩ eT cT eD eG (by omega) (by omega) (by omega) hDI.2.1) ⟨(callB_of 0 (tb_one (wd_1122 hB _)) tb_good1 rfl rfl rfl (wd_82 hB _) (wd_1119 hB _) (by decide +kernel) ⟨Nat.le_of_ble_eq_true rfl, Nat.le_of_ble_eq_true rfl⟩), (wd_1121 hB _), (wd_45 hB _)⟩ ⟨pe_bl, pg_recv (ci := 10) hK hP (lo_in hL t_M (by decide)) e6 rfl, pe_pre hB hK hP hD⟩ rfl rfl hl.1 rfl (lv_room (Nat.le_of_ble_eq_true rfl)) d_M_statement_77 ⟨Nat.le_of_ble_eq_true rfl, Nat.le_of_ble_eq_true rfl⟩) hS (fun r239 f240 H locs hq241 hP hD hS => ?_)
        obtain ⟨rs_242, hI1_243, hu1_244⟩ := hq241
        have hu := hu.tr hu1_244 (by decide)
        have eT := hu1_244.at (lo_k11_1 hL _ t_M) (by decide) eT
        have eK := hu1_244.at (lo_k11_15 hL _ t_M) (by decide) eK
        have e235 := hu1_244.at (lo_k11_14 hL _ t_M) (by decide) e235
        rcases rs_242 with ⟨a_245, n_246, d_247, g_248, c249, c250, c251, c252, c253, c254, c255, c256, c257, e258, e259, e260, rfl⟩ | ⟨c265, ⟨ix_261, dp_262, dr_263, wt_264, c266, c267, c268, c269, e270⟩, rfl⟩
        · skip
          refine lv_if_eq (tgt := 92) hx hb d_M_statement_80 (by decide) (fun b271 => ?_) (fun b271 => ?_)
          · skip
            replace b271 := (nI_eq (a := 1) (b := 0) (by omega) (by omega)).mp b271
            exfalso; omega
          · skip
            replace b271 := mt (nI_eq (a := 1) (b := 0) (by omega) (by omega)).mpr b271
            refine lv_aload_n hx hb d_M_statement_83 rfl (lv_at hl 1 rfl) ?_
            refine pcc_i (va_runV (C := "BigRunnerModel") (As := []) (rest := []) ⟨hx, hb, hml, hown, tb_nil⟩ (m_here l g H.size f240 M mth mn n_246 msz a_245 mdp 0 mop mtp mwa mgi mpc mst mtr msp mma mlg ((nI 0)) hT hL t_M hI1_243.1 e258 ⟨(by omega), (by omega), (by omega), (by omega), (by omega), (by omega), (by omega), (by omega), (by omega), (by omega), (by omega), (by omega), (by omega), (by omega), (Or.inl rfl)⟩ eT cT) ⟨(callB_of 0 (tb_one (wd_1111 hB _)) tb_good1 rfl rfl rfl (wd_82 hB _) (wd_1108 hB _) (by decide +kernel) ⟨Nat.le_of_ble_eq_true rfl, Nat.le_of_ble_eq_true rfl⟩), (wd_1110 hB _), (wd_43 hB _)⟩ ⟨pe_bl, pg_recv (ci := 10) hK hP (lo_in hL t_M (by decide)) e258 rfl, pe_pre hB hK hP hD⟩ rfl rfl hl.1 rfl (lv_room (Nat.le_of_ble_eq_true rfl)) d_M_statement_84 ⟨Nat.le_of_ble_eq_true rfl, Nat.le_of_ble_eq_true rfl⟩) hS (fun r272 f273 H locs hq274 hP hD hS => ?_)
            obtain ⟨nx_275, rfl⟩ := hq274
            subst nx_275
            refine lv_bipush (v := nI 58) hx hb d_M_statement_87 (by decide) ?_
            refine lv_icmp_eq (tgt := 94) hx hb d_M_statement_89 (by decide) (fun b276 => ?_) (fun b276 => ?_)
            · skip
              have tq15 : tk hT mn a_245 = 15 := (tkm hT mn a_245).symm.trans (kc_15.mpr b276)
              have hl8 : a_245 < mn := tk_in (h := hT) (by omega)
              refine lv_aload_n hx hb d_M_statement_94 rfl (lv_at hl 1 rfl) ?_
              refine lv_dup hx hb d_M_statement_95 rfl ?_
              refine pf_get (v := .int (nI a_245)) (C := "BigRunnerModel") (T := FT10) (N := 45) hx hb (hw10 hB _) (fun _ h9 => h9) hown hK hP (lo_in hL t_M (by decide)) e258 rfl 10 (by decide) (wd_957 hB _) rfl d_M_statement_96 ?_
              refine lv_iconst (v := nI 1) hx hb d_M_statement_99 (by decide) ?_
              refine pf_iaddN (x := a_245) (y := 1) hx hb d_M_statement_100 ?_
              refine pf_put (v := .int (nI (a_245 + 1))) (ty := .int) (fs' := [.int mth, .ref (g.lk M 1), .int (nI mn), .ref (g.lk M 3), .ref (g.lk M 4), .int (nI n_246), .ref (g.lk M 6), .ref (g.lk M 7), .ref (g.lk M 8), .int (nI msz), .int (nI (a_245 + 1)), .int (nI mdp), .ref (g.lk M 12), .int (nI 0), .ref (g.lk M 14), .ref (g.lk M 15), .int (nI mop), .ref (g.lk M 17), .ref (g.lk M 18), .ref (g.lk M 19), .ref (g.lk M 20), .ref (g.lk M 21), .ref (g.lk M 22), .ref (g.lk M 23), .ref (g.lk M 24), .ref (g.lk M 25), .ref (g.lk M 26), .ref (g.lk M 27), .ref (g.lk M 28), .ref (g.lk M 29), .ref (g.lk M 30), .ref (g.lk M 31), .int (nI mtp), .ref (g.lk M 33), .ref (g.lk M 34), .ref (g.lk M 35), .int (nI mwa), .int (nI mgi), .int (nI mpc), .int (nI mst), .int (nI mtr), .int (nI msp), .int mma, .int mlg, .int (nI 0)]) (C := "BigRunnerModel") (T := FT10) (N := 45) hx hb (hw10 hB _) (fun _ h9 => h9) TY10 ok10 nm10 hown hK hP hD hS (lo_in hL t_M (by decide)) e258 rfl 10 (by decide) (wd_957 hB _) rfl (by decide +kernel) rfl rfl (Nat.le_of_ble_eq_true rfl) rfl d_M_statement_101 (fun f277 H locs e278 k279 hP hD hS => ?_)
              have eT := (k279 (g.lk M 1) (tg_ne (lo_k11_1 hL _ t_M) t_M (by decide))).trans eT
              have eK := (k279 (g.lk M 15) (tg_ne (lo_k11_15 hL _ t_M) t_M (by decide))).trans eK
              have e235 := (k279 (g.lk M 14) (tg_ne (lo_k11_14 hL _ t_M) t_M (by decide))).trans e235
              have e259 := (k279 (g.lk M 3) (tg_ne (lo_k11_3 hL _ t_M) t_M (by decide))).trans e259
              have e260 := (k279 (g.lk M 4) (tg_ne (lo_k11_4 hL _ t_M) t_M (by decide))).trans e260
              have hu := hu.st k279 t_M (by decide)
              have hk280 : ∀ b, b ≠ M → f277 b = f240 b := k279
              refine lv_aload_n hx hb d_M_statement_104 rfl (lv_at hl 1 rfl) ?_
              refine pf_get (v := .ref (g.lk M 15)) (C := "BigRunnerModel") (T := FT10) (N := 45) hx hb (hw10 hB _) (fun _ h9 => h9) hown hK hP (lo_in hL t_M (by decide)) e278 rfl 15 (by decide) (wd_962 hB _) rfl d_M_statement_105 ?_
              refine lv_aload_n hx hb d_M_statement_108 rfl (lv_at hl 1 rfl) ?_
              refine pf_get (v := .int (nI mop)) (C := "BigRunnerModel") (T := FT10) (N := 45) hx hb (hw10 hB _) (fun _ h9 => h9) hown hK hP (lo_in hL t_M (by decide)) e278 rfl 16 (by decide) (wd_963 hB _) rfl d_M_statement_109 ?_
              refine lv_iload_n hx hb d_M_statement_112 rfl (lv_at hl 0 rfl) ?_
              have hI281 := iv_1 hI1_243 hL t_M (by decide) hk280 (oc_11.mk t_M (⟨mth, mn, n_246, msz, (a_245 + 1), mdp, 0, mop, mtp, mwa, mgi, mpc, mst, mtr, msp, mma, mlg, ((nI 0)), e278, (by omega), (by omega), (by omega), (by omega), (by omega), (by omega), (by omega), (by omega), (by omega), (by omega), (by omega), (by omega), (by omega), (by omega), (Or.inl rfl)⟩))
              refine pf_iast (i := mop) hx hb hK hP hD hS (lo_in hL (lo_k11_15 hL _ t_M) (by decide)) eK (lo_t48 hL _ (lo_k11_15 hL _ t_M)) (by omega) (by decide) d_M_statement_113 (fun f282 H locs e283 k284 hP hD hS => ?_)
              have eT := (k284 (g.lk M 1) (tg_ne (lo_k11_1 hL _ t_M) (lo_k11_15 hL _ t_M) (by decide))).trans eT
              have e235 := (k284 (g.lk M 14) (tg_ne (lo_k11_14 hL _ t_M) (lo_k11_15 hL _ t_M) (by decide))).trans e235
              have e259 := (k284 (g.lk M 3) (tg_ne (lo_k11_3 hL _ t_M) (lo_k11_15 hL _ t_M) (by decide))).trans e259
              have e260 := (k284 (g.lk M 4) (tg_ne (lo_k11_4 hL _ t_M) (lo_k11_15 hL _ t_M) (by decide))).trans e260
              have e278 := (k284 M (tg_ne t_M (lo_k11_15 hL _ t_M) (by decide))).trans e278
              have hu := hu.st k284 (lo_k11_15 hL _ t_M) (by decide)
              have hk285 : ∀ b, b ≠ (g.lk M 15) → f282 b = f277 b := k284
              refine lv_aload_n hx hb d_M_statement_114 rfl (lv_at hl 1 rfl) ?_
              refine lv_bipush (v := nI 11) hx hb d_M_statement_115 (by decide) ?_
              refine lv_aload_n hx hb d_M_statement_117 rfl (lv_at hl 1 rfl) ?_
              refine pf_get (v := .ref (g.lk M 14)) (C := "BigRunnerModel") (T := FT10) (N := 45) hx hb (hw10 hB _) (fun _ h9 => h9) hown hK hP (lo_in hL t_M (by decide)) e278 rfl 14 (by decide) (wd_961 hB _) rfl d_M_statement_118 ?_
              refine lv_aload_n hx hb d_M_statement_121 rfl (lv_at hl 1 rfl) ?_
              refine pf_get (v := .int (nI mop)) (C := "BigRunnerModel") (T := FT10) (N := 45) hx hb (hw10 hB _) (fun _ h9 => h9) hown hK hP (lo_in hL t_M (by decide)) e278 rfl 16 (by decide) (wd_963 hB _) rfl d_M_statement_122 ?_
              refine pf_iald (i := mop) hx hb hK hP (lo_in hL (lo_k11_14 hL _ t_M) (by decide)) e235 (lo_t47 hL _ (lo_k11_14 hL _ t_M)) (by omega) (by decide) d_M_statement_125 ?_
              refine lv_topi (fun z_ hz_ => ?_)
              obtain rfl : z_ = nI mdr := hz_.trans (upd_at _ _ _)
              have hI286 := iv_1 hI281 hL (lo_k11_15 hL _ t_M) (by decide) hk285 (oc_48.mk (lo_k11_15 hL _ t_M) (⟨_, e283⟩))
              refine pcc_v (va_runV (C := "BigRunnerModel") (As := [.int (nI 11), .int (nI mdr)]) (rest := []) ⟨hx, hb, hml, hown, tb_nil⟩ (m_put l g H.size f282 M mth mn n_246 msz ((a_245 + 1)) mdp 0 mop mtp mwa mgi mpc mst mtr msp mma mlg ((nI 0)) d_247 g_248 11 ((nI mdr)) hL t_M hI286 e278 ⟨(by omega), (by omega), (by omega), (by omega), (by omega), (by omega), (by omega), (by omega), (by omega), (by omega), (by omega), (by omega), (by omega), (by omega), (Or.inl rfl)⟩ e259 e260 (by omega)) ⟨(callB_of 2 (tb_one (wd_1115 hB _)) tb_good1 rfl rfl rfl (wd_82 hB _) (wd_1112 hB _) (by decide +kernel) ⟨Nat.le_of_ble_eq_true rfl, Nat.le_of_ble_eq_true rfl⟩), (wd_1114 hB _), (wd_44 hB _)⟩ ⟨pe_bl, pg_recv (ci := 10) hK hP (lo_in hL t_M (by decide)) e278 rfl, pe_pre hB hK hP hD⟩ rfl rfl hl.1 rfl (lv_room (Nat.le_of_ble_eq_true rfl)) d_M_statement_126 ⟨Nat.le_of_ble_eq_true rfl, Nat.le_of_ble_eq_true rfl⟩) hS (fun f288 H locs hq289 hP hD hS => ?_)
              obtain ⟨x1_290, xd_291, xg_292, hI1_293, hu1_294⟩ := hq289
              have hu := hu.tr hu1_294 (by decide)
              have eT := hu1_294.at (lo_k11_1 hL _ t_M) (by decide) eT
              have e235 := hu1_294.at (lo_k11_14 hL _ t_M) (by decide) e235
              have e283 := hu1_294.at (lo_k11_15 hL _ t_M) (by decide) e283
              refine lv_aload_n hx hb d_M_statement_129 rfl (lv_at hl 1 rfl) ?_
              refine pf_get (v := .ref (g.lk M 14)) (C := "BigRunnerModel") (T := FT10) (N := 45) hx hb (hw10 hB _) (fun _ h9 => h9) hown hK hP (lo_in hL t_M (by decide)) x1_290 rfl 14 (by decide) (wd_961 hB _) rfl d_M_statement_130 ?_
              refine lv_aload_n hx hb d_M_statement_133 rfl (lv_at hl 1 rfl) ?_
              refine pf_get (v := .int (nI mop)) (C := "BigRunnerModel") (T := FT10) (N := 45) hx hb (hw10 hB _) (fun _ h9 => h9) hown hK hP (lo_in hL t_M (by decide)) x1_290 rfl 16 (by decide) (wd_963 hB _) rfl d_M_statement_134 ?_
              refine lv_aload_n hx hb d_M_statement_137 rfl (lv_at hl 1 rfl) ?_
              refine pf_get (v := .int (nI (n_246 + 1))) (C := "BigRunnerModel") (T := FT10) (N := 45) hx hb (hw10 hB _) (fun _ h9 => h9) hown hK hP (lo_in hL t_M (by decide)) x1_290 rfl 5 (by decide) (wd_952 hB _) rfl d_M_statement_138 ?_
              refine lv_iconst (v := nI 1) hx hb d_M_statement_141 (by decide) ?_
              refine pf_isubN (x := n_246 + 1) (y := 1) hx hb (by omega) d_M_statement_142 ?_
              refine lv_topi (fun z_ hz_ => ?_)
              obtain rfl : z_ = nI (n_246) := hz_.trans (congrArg nI (show (n_246 + 1) - 1 = n_246 by omega))
              refine pf_iast (i := mop) hx hb hK hP hD hS (lo_in hL (lo_k11_14 hL _ t_M) (by decide)) e235 (lo_t47 hL _ (lo_k11_14 hL _ t_M)) (by omega) (by decide) d_M_statement_143 (fun f295 H locs e296 k297 hP hD hS => ?_)
              have eT := (k297 (g.lk M 1) (tg_ne (lo_k11_1 hL _ t_M) (lo_k11_14 hL _ t_M) (by decide))).trans eT
              have e283 := (k297 (g.lk M 15) (tg_ne (lo_k11_15 hL _ t_M) (lo_k11_14 hL _ t_M) (by decide))).trans e283
              have x1_290 := (k297 M (tg_ne t_M (lo_k11_14 hL _ t_M) (by decide))).trans x1_290
              have xd_291 := (k297 (g.lk M 3) (tg_ne (lo_k11_3 hL _ t_M) (lo_k11_14 hL _ t_M) (by decide))).trans xd_291
              have xg_292 := (k297 (g.lk M 4) (tg_ne (lo_k11_4 hL _ t_M) (lo_k11_14 hL _ t_M) (by decide))).trans xg_292
              have hu := hu.st k297 (lo_k11_14 hL _ t_M) (by decide)
              have hk298 : ∀ b, b ≠ (g.lk M 14) → f295 b = f288 b := k297
              refine lv_aload_n hx hb d_M_statement_144 rfl (lv_at hl 1 rfl) ?_
              refine lv_dup hx hb d_M_statement_145 rfl ?_
              refine pf_get (v := .int (nI mop)) (C := "BigRunnerModel") (T := FT10) (N := 45) hx hb (hw10 hB _) (fun _ h9 => h9) hown hK hP (lo_in hL t_M (by decide)) x1_290 rfl 16 (by decide) (wd_963 hB _) rfl d_M_statement_146 ?_
              refine lv_iconst (v := nI 1) hx hb d_M_statement_149 (by decide) ?_
              refine pf_iaddN (x := mop) (y := 1) hx hb d_M_statement_150 ?_
              have hI299 := iv_1 hI1_293 hL (lo_k11_14 hL _ t_M) (by decide) hk298 (oc_47.mk (lo_k11_14 hL _ t_M) (⟨_, e296⟩))
              refine pf_put (v := .int (nI (mop + 1))) (ty := .int) (fs' := [.int mth, .ref (g.lk M 1), .int (nI mn), .ref (g.lk M 3), .ref (g.lk M 4), .int (nI (n_246 + 1)), .ref (g.lk M 6), .ref (g.lk M 7), .ref (g.lk M 8), .int (nI msz), .int (nI (a_245 + 1)), .int (nI mdp), .ref (g.lk M 12), .int (nI 0), .ref (g.lk M 14), .ref (g.lk M 15), .int (nI (mop + 1)), .ref (g.lk M 17), .ref (g.lk M 18), .ref (g.lk M 19), .ref (g.lk M 20), .ref (g.lk M 21), .ref (g.lk M 22), .ref (g.lk M 23), .ref (g.lk M 24), .ref (g.lk M 25), .ref (g.lk M 26), .ref (g.lk M 27), .ref (g.lk M 28), .ref (g.lk M 29), .ref (g.lk M 30), .ref (g.lk M 31), .int (nI mtp), .ref (g.lk M 33), .ref (g.lk M 34), .ref (g.lk M 35), .int (nI mwa), .int (nI mgi), .int (nI mpc), .int (nI mst), .int (nI mtr), .int (nI msp), .int mma, .int mlg, .int (nI 0)]) (C := "BigRunnerModel") (T := FT10) (N := 45) hx hb (hw10 hB _) (fun _ h9 => h9) TY10 ok10 nm10 hown hK hP hD hS (lo_in hL t_M (by decide)) x1_290 rfl 16 (by decide) (wd_963 hB _) rfl (by decide +kernel) rfl rfl (Nat.le_of_ble_eq_true rfl) rfl d_M_statement_151 (fun f300 H locs e301 k302 hP hD hS => ?_)
              have eT := (k302 (g.lk M 1) (tg_ne (lo_k11_1 hL _ t_M) t_M (by decide))).trans eT
              have e283 := (k302 (g.lk M 15) (tg_ne (lo_k11_15 hL _ t_M) t_M (by decide))).trans e283
              have xd_291 := (k302 (g.lk M 3) (tg_ne (lo_k11_3 hL _ t_M) t_M (by decide))).trans xd_291
              have xg_292 := (k302 (g.lk M 4) (tg_ne (lo_k11_4 hL _ t_M) t_M (by decide))).trans xg_292
              have e296 := (k302 (g.lk M 14) (tg_ne (lo_k11_14 hL _ t_M) t_M (by decide))).trans e296
              have hu := hu.st k302 t_M (by decide)
              have hk303 : ∀ b, b ≠ M → f300 b = f295 b := k302
              refine lv_aload_n hx hb d_M_statement_154 rfl (lv_at hl 1 rfl) ?_
              refine lv_dup hx hb d_M_statement_155 rfl ?_
              refine pf_get (v := .int (nI mdp)) (C := "BigRunnerModel") (T := FT10) (N := 45) hx hb (hw10 hB _) (fun _ h9 => h9) hown hK hP (lo_in hL t_M (by decide)) e301 rfl 11 (by decide) (wd_958 hB _) rfl d_M_statement_156 ?_
              refine lv_iconst (v := nI 1) hx hb d_M_statement_159 (by decide) ?_
              refine pf_iaddN (x := mdp) (y := 1) hx hb d_M_statement_160 ?_
              refine pf_put (v := .int (nI (mdp + 1))) (ty := .int) (fs' := [.int mth, .ref (g.lk M 1), .int (nI mn), .ref (g.lk M 3), .ref (g.lk M 4), .int (nI (n_246 + 1)), .ref (g.lk M 6), .ref (g.lk M 7), .ref (g.lk M 8), .int (nI msz), .int (nI (a_245 + 1)), .int (nI (mdp + 1)), .ref (g.lk M 12), .int (nI 0), .ref (g.lk M 14), .ref (g.lk M 15), .int (nI (mop + 1)), .ref (g.lk M 17), .ref (g.lk M 18), .ref (g.lk M 19), .ref (g.lk M 20), .ref (g.lk M 21), .ref (g.lk M 22), .ref (g.lk M 23), .ref (g.lk M 24), .ref (g.lk M 25), .ref (g.lk M 26), .ref (g.lk M 27), .ref (g.lk M 28), .ref (g.lk M 29), .ref (g.lk M 30), .ref (g.lk M 31), .int (nI mtp), .ref (g.lk M 33), .ref (g.lk M 34), .ref (g.lk M 35), .int (nI mwa), .int (nI mgi), .int (nI mpc), .int (nI mst), .int (nI mtr), .int (nI msp), .int mma, .int mlg, .int (nI 0)]) (C := "BigRunnerModel") (T := FT10) (N := 45) hx hb (hw10 hB _) (fun _ h9 => h9) TY10 ok10 nm10 hown hK hP hD hS (lo_in hL t_M (by decide)) e301 rfl 11 (by decide) (wd_958 hB _) rfl (by decide +kernel) rfl rfl (Nat.le_of_ble_eq_true rfl) rfl d_M_statement_161 (fun f304 H locs e305 k306 hP hD hS => ?_)
              have eT := (k306 (g.lk M 1) (tg_ne (lo_k11_1 hL _ t_M) t_M (by decide))).trans eT
              have e283 := (k306 (g.lk M 15) (tg_ne (lo_k11_15 hL _ t_M) t_M (by decide))).trans e283
              have xd_291 := (k306 (g.lk M 3) (tg_ne (lo_k11_3 hL _ t_M) t_M (by decide))).trans xd_291
              have xg_292 := (k306 (g.lk M 4) (tg_ne (lo_k11_4 hL _ t_M) t_M (by decide))).trans xg_292
              have e296 := (k306 (g.lk M 14) (tg_ne (lo_k11_14 hL _ t_M) t_M (by decide))).trans e296
              have hu := hu.st k306 t_M (by decide)
              have hk307 : ∀ b, b ≠ M → f304 b = f295 b := fun b q0 => (k306 b q0).trans (hk303 b q0)
              refine lv_aload_n hx hb d_M_statement_164 rfl (lv_at hl 1 rfl) ?_
              refine lv_iconst (v := nI 1) hx hb d_M_statement_165 (by decide) ?_
              refine pf_put (v := .int (nI 1)) (ty := .boolean) (fs' := [.int mth, .ref (g.lk M 1), .int (nI mn), .ref (g.lk M 3), .ref (g.lk M 4), .int (nI (n_246 + 1)), .ref (g.lk M 6), .ref (g.lk M 7), .ref (g.lk M 8), .int (nI msz), .int (nI (a_245 + 1)), .int (nI (mdp + 1)), .ref (g.lk M 12), .int (nI 0), .ref (g.lk M 14), .ref (g.lk M 15), .int (nI (mop + 1)), .ref (g.lk M 17), .ref (g.lk M 18), .ref (g.lk M 19), .ref (g.lk M 20), .ref (g.lk M 21), .ref (g.lk M 22), .ref (g.lk M 23), .ref (g.lk M 24), .ref (g.lk M 25), .ref (g.lk M 26), .ref (g.lk M 27), .ref (g.lk M 28), .ref (g.lk M 29), .ref (g.lk M 30), .ref (g.lk M 31), .int (nI mtp), .ref (g.lk M 33), .ref (g.lk M 34), .ref (g.lk M 35), .int (nI mwa), .int (nI mgi), .int (nI mpc), .int (nI mst), .int (nI mtr), .int (nI msp), .int mma, .int mlg, .int (nI 1)]) (C := "BigRunnerModel") (T := FT10) (N := 45) hx hb (hw10 hB _) (fun _ h9 => h9) TY10 ok10 nm10 hown hK hP hD hS (lo_in hL t_M (by decide)) e305 rfl 44 (by decide) (wd_991 hB _) rfl (by decide +kernel) rfl rfl (Nat.le_of_ble_eq_true rfl) rfl d_M_statement_166 (fun f308 H locs e309 k310 hP hD hS => ?_)
              have eT := (k310 (g.lk M 1) (tg_ne (lo_k11_1 hL _ t_M) t_M (by decide))).trans eT
              have e283 := (k310 (g.lk M 15) (tg_ne (lo_k11_15 hL _ t_M) t_M (by decide))).trans e283
              have xd_291 := (k310 (g.lk M 3) (tg_ne (lo_k11_3 hL _ t_M) t_M (by decide))).trans xd_291
              have xg_292 := (k310 (g.lk M 4) (tg_ne (lo_k11_4 hL _ t_M) t_M (by decide))).trans xg_292
              have e296 := (k310 (g.lk M 14) (tg_ne (lo_k11_14 hL _ t_M) t_M (by decide))).trans e296
              have hu := hu.st k310 t_M (by decide)
              have hk311 : ∀ b, b ≠ M → f308 b = f295 b := fun b q0 => (k310 b q0).trans (hk307 b q0)
              refine lv_aload_n hx hb d_M_statement_169 rfl (lv_at hl 1 rfl) ?_
              refine pf_get (v := .int (nI (mdp + 1))) (C := "BigRunnerModel") (T := FT10) (N := 45) hx hb (hw10 hB _) (fun _ h9 => h9) hown hK hP (lo_in hL t_M (by decide)) e309 rfl 11 (by decide) (wd_958 hB _) rfl d_M_statement_170 ?_
              refine lv_bipush (v := nI 10) hx hb d_M_statement_173 (by decide) ?_
              refine lv_icmp_gt (tgt := 182) hx hb d_M_statement_175 (by decide) (fun b312 => ?_) (fun b312 => ?_)
              · skip
                replace b312 := (nI_ltI (a := 10) (b := mdp + 1) (by omega) (by omega)).mp b312
                refine lv_iconst (v := nI 0) hx hb d_M_statement_182 (by decide) ?_
                have hI313 := iv_1 hI299 hL t_M (by decide) hk311 (oc_11.mk t_M (⟨mth, mn, (n_246 + 1), msz, (a_245 + 1), (mdp + 1), 0, (mop + 1), mtp, mwa, mgi, mpc, mst, mtr, msp, mma, mlg, ((nI 1)), e309, (by omega), (by omega), (by omega), (by omega), (by omega), (by omega), (by omega), (by omega), (by omega), (by omega), (by omega), (by omega), (by omega), (by omega), (Or.inr rfl)⟩))
                exact pe_zret hx hb hr hlocks hK hP hD hS d_M_statement_183 rfl ⟨(Or.inr ⟨(fun F => by rw [py_rT, if_neg (by omega), if_pos (Or.inr tq12), c249]; show (if _ then (if _ then _ else _) else _) = _; rw [if_pos tq15, if_neg (by omega)]), ⟨1, a_245 + 1, mop + 1, mdp + 1, n_246 + 1, 0, by omega, by omega, by omega, by omega, by omega, by omega, e309⟩, rfl⟩), hI313, hu⟩
              · skip
                replace b312 := mt (nI_ltI (a := 10) (b := mdp + 1) (by omega) (by omega)).mpr b312
                refine lv_iconst (v := nI 1) hx hb d_M_statement_178 (by decide) ?_
                refine lv_goto (tgt := 183) hx hb d_M_statement_179 (by decide) ?_
                have hI314 := iv_1 hI299 hL t_M (by decide) hk311 (oc_11.mk t_M (⟨mth, mn, (n_246 + 1), msz, (a_245 + 1), (mdp + 1), 0, (mop + 1), mtp, mwa, mgi, mpc, mst, mtr, msp, mma, mlg, ((nI 1)), e309, (by omega), (by omega), (by omega), (by omega), (by omega), (by omega), (by omega), (by omega), (by omega), (by omega), (by omega), (by omega), (by omega), (by omega), (Or.inr rfl)⟩))
                have hkl : kl (upd hK9 mop (nxm hT mn mix)) (mop + 1) = tk hT mn mix :: kl hK9 mop := by rw [kl_upd, tkm]
                exact pe_zret hx hb hr hlocks hK hP hD hS d_M_statement_183 rfl ⟨(Or.inl ⟨1, a_245 + 1, mop + 1, mdp + 1, n_246 + 1, 0, _, _, _, _, (fun F => by rw [py_rT, if_neg (by omega), if_pos (Or.inr tq12), c249]; show (if _ then (if _ then _ else _) else _) = _; rw [if_pos tq15, if_pos (by omega), hkl]; rfl), by omega, by omega, by omega, by omega, by omega, by omega, by omega, by omega, (DI_open hDI (smd_tr (fun i hi => upd_ne _ _ (by omega)) c256) (smd_tr (fun i hi => upd_ne _ _ (by omega)) c257) (GC_smd c254 (fun i hi => upd_ne _ _ (by omega)) (fun i hi => upd_ne _ _ (by omega))) (by omega) (by omega) (by omega) (by rw [dpc_u (Nat.le_refl _)]; exact c255) (upd_at _ _ _) (upd_at _ _ _) (fun i hi => (upd_ne _ _ (by omega)).trans (upd_ne _ _ (by omega))) (upd_at _ _ _) (fun i hi => upd_ne _ _ (by omega)) (upd_at _ _ _) (Or.inr b100)), e309, xd_291, xg_292, e296, e283, rfl⟩), hI314, hu⟩
            · skip
              have tq15 : tk hT mn a_245 ≠ 15 := fun z => b276 (kc_15.mp ((tkm hT mn a_245).trans z))
              refine lv_iconst (v := nI 0) hx hb d_M_statement_92 (by decide) ?_
              exact pe_zret hx hb hr hlocks hK hP hD hS d_M_statement_93 rfl ⟨(Or.inr ⟨(fun F => by rw [py_rT, if_neg (by omega), if_pos (Or.inr tq12), c249]; show (if _ then (if _ then _ else _) else _) = _; rw [if_neg tq15]), ⟨0, a_245, mop, mdp, n_246, 0, by omega, by omega, by omega, by omega, by omega, by omega, e258⟩, rfl⟩), hI1_243, hu⟩
        · skip
          refine lv_if_eq (tgt := 92) hx hb d_M_statement_80 (by decide) (fun b315 => ?_) (fun b315 => ?_)
          · skip
            replace b315 := (nI_eq (a := 0) (b := 0) (by omega) (by omega)).mp b315
            refine lv_iconst (v := nI 0) hx hb d_M_statement_92 (by decide) ?_
            obtain ⟨h_317, e316⟩ := oc_41.of (lo_k11_3 hL _ t_M) (hI1_243.1 (g.lk M 3))
            obtain ⟨h_320, e319⟩ := oc_42.of (lo_k11_4 hL _ t_M) (hI1_243.1 (g.lk M 4))
            exact pe_zret hx hb hr hlocks hK hP hD hS d_M_statement_93 rfl ⟨(Or.inr ⟨(fun F => by rw [py_rT, if_neg (by omega), if_pos (Or.inr tq12), c265]), ⟨0, ix_261, mop, dp_262, dr_263, wt_264, by omega, by omega, by omega, by omega, by omega, by omega, e270⟩, rfl⟩), hI1_243, hu⟩
          · skip
            replace b315 := mt (nI_eq (a := 0) (b := 0) (by omega) (by omega)).mpr b315
            exfalso; omega
  · skip
    have tq8 : tk hT mn mix = 8 := (tkm hT mn mix).symm.trans (kc_8.mpr b9)
    have hl9 : mix < mn := tk_in (h := hT) (by omega)
    refine lv_aload_n hx hb d_M_statement_21 rfl (lv_at hl 1 rfl) ?_
    have hI322 := iv_1 hI hL t_M (by decide) hk8 (oc_11.mk t_M (⟨mth, mn, mdr, msz, (mix + 1), mdp, mwt, mop, mtp, mwa, mgi, mpc, mst, mtr, msp, mma, mlg, ((nI 0)), e6, (by omega), (by omega), (by omega), (by omega), (by omega), (by omega), (by omega), (by omega), (by omega), (by omega), (by omega), (by omega), (by omega), (by omega), (Or.inl rfl)⟩))
    refine pcc_i (va_runV (C := "BigRunnerModel") (As := []) (rest := []) ⟨hx, hb, hml, hown, tb_nil⟩ (m_here l g H.size f5 M mth mn mdr msz ((mix + 1)) mdp mwt mop mtp mwa mgi mpc mst mtr msp mma mlg ((nI 0)) hT hL t_M hI322.1 e6 ⟨(by omega), (by omega), (by omega), (by omega), (by omega), (by omega), (by omega), (by omega), (by omega), (by omega), (by omega), (by omega), (by omega), (by omega), (Or.inl rfl)⟩ eT cT) ⟨(callB_of 0 (tb_one (wd_1111 hB _)) tb_good1 rfl rfl rfl (wd_82 hB _) (wd_1108 hB _) (by decide +kernel) ⟨Nat.le_of_ble_eq_true rfl, Nat.le_of_ble_eq_true rfl⟩), (wd_1110 hB _), (wd_43 hB _)⟩ ⟨pe_bl, pg_recv (ci := 10) hK hP (lo_in hL t_M (by decide)) e6 rfl, pe_pre hB hK hP hD⟩ rfl rfl hl.1 rfl (lv_room (Nat.le_of_ble_eq_true rfl)) d_M_statement_22 ⟨Nat.le_of_ble_eq_true rfl, Nat.le_of_ble_eq_true rfl⟩) hS (fun r323 f324 H locs hq325 hP hD hS => ?_)
    obtain ⟨nx_326, rfl⟩ := hq325
    subst nx_326
    refine lv_istore_n (lv' := [(2, .int (nxm hT mn (mix + 1))), (1, .int (nxm hT mn mix)), (0, .ref M)]) hx hb d_M_statement_25 rfl hl (by decide) rfl (fun ls hl => ?_)
    refine lv_aload_n hx hb d_M_statement_26 rfl (lv_at hl 2 rfl) ?_
    refine lv_dup hx hb d_M_statement_27 rfl ?_
    refine pf_get (v := .int (nI (mix + 1))) (C := "BigRunnerModel") (T := FT10) (N := 45) hx hb (hw10 hB _) (fun _ h9 => h9) hown hK hP (lo_in hL t_M (by decide)) e6 rfl 10 (by decide) (wd_957 hB _) rfl d_M_statement_28 ?_
    refine lv_iconst (v := nI 1) hx hb d_M_statement_31 (by decide) ?_
    refine pf_iaddN (x := mix + 1) (y := 1) hx hb d_M_statement_32 ?_
    refine pf_put (v := .int (nI ((mix + 1) + 1))) (ty := .int) (fs' := [.int mth, .ref (g.lk M 1), .int (nI mn), .ref (g.lk M 3), .ref (g.lk M 4), .int (nI mdr), .ref (g.lk M 6), .ref (g.lk M 7), .ref (g.lk M 8), .int (nI msz), .int (nI ((mix + 1) + 1)), .int (nI mdp), .ref (g.lk M 12), .int (nI mwt), .ref (g.lk M 14), .ref (g.lk M 15), .int (nI mop), .ref (g.lk M 17), .ref (g.lk M 18), .ref (g.lk M 19), .ref (g.lk M 20), .ref (g.lk M 21), .ref (g.lk M 22), .ref (g.lk M 23), .ref (g.lk M 24), .ref (g.lk M 25), .ref (g.lk M 26), .ref (g.lk M 27), .ref (g.lk M 28), .ref (g.lk M 29), .ref (g.lk M 30), .ref (g.lk M 31), .int (nI mtp), .ref (g.lk M 33), .ref (g.lk M 34), .ref (g.lk M 35), .int (nI mwa), .int (nI mgi), .int (nI mpc), .int (nI mst), .int (nI mtr), .int (nI msp), .int mma, .int mlg, .int (nI 0)]) (C := "BigRunnerModel") (T := FT10) (N := 45) hx hb (hw10 hB _) (fun _ h9 => h9) TY10 ok10 nm10 hown hK hP hD hS (lo_in hL t_M (by decide)) e6 rfl 10 (by decide) (wd_957 hB _) rfl (by decide +kernel) rfl rfl (Nat.le_of_ble_eq_true rfl) rfl d_M_statement_33 (fun f327 H locs e328 k329 hP hD hS => ?_)
    have eT := (k329 (g.lk M 1) (tg_ne (lo_k11_1 hL _ t_M) t_M (by decide))).trans eT
    have eD := (k329 (g.lk M 3) (tg_ne (lo_k11_3 hL _ t_M) t_M (by decide))).trans eD
    have eG := (k329 (g.lk M 4) (tg_ne (lo_k11_4 hL _ t_M) t_M (by decide))).trans eG
    have eB := (k329 (g.lk M 14) (tg_ne (lo_k11_14 hL _ t_M) t_M (by decide))).trans eB
    have eK := (k329 (g.lk M 15) (tg_ne (lo_k11_15 hL _ t_M) t_M (by decide))).trans eK
    have hu := hu.st k329 t_M (by decide)
    have hk330 : ∀ b, b ≠ M → f327 b = f5 b := k329
    refine lv_aload_n hx hb d_M_statement_36 rfl (lv_at hl 2 rfl) ?_
    refine lv_bipush (v := nI 9) hx hb d_M_statement_37 (by decide) ?_
    refine lv_iload_n hx hb d_M_statement_39 rfl (lv_at hl 0 rfl) ?_
    refine lv_bipush (v := nI 97) hx hb d_M_statement_40 (by decide) ?_
    refine lv_isub hx hb d_M_statement_42 ?_
    have hI331 := iv_1 hI322 hL t_M (by decide) hk330 (oc_11.mk t_M (⟨mth, mn, mdr, msz, ((mix + 1) + 1), mdp, mwt, mop, mtp, mwa, mgi, mpc, mst, mtr, msp, mma, mlg, ((nI 0)), e328, (by omega), (by omega), (by omega), (by omega), (by omega), (by omega), (by omega), (by omega), (by omega), (by omega), (by omega), (by omega), (by omega), (by omega), (Or.inl rfl)⟩))
    refine pcc_v (va_runV (C := "BigRunnerModel") (As := [.int (nI 9), .int (((nxm hT mn (mix + 1))) - ((nI 97)))]) (rest := []) ⟨hx, hb, hml, hown, tb_nil⟩ (m_put l g H.size f327 M mth mn mdr msz (((mix + 1) + 1)) mdp mwt mop mtp mwa mgi mpc mst mtr msp mma mlg ((nI 0)) hQ hG 9 ((((nxm hT mn (mix + 1))) - ((nI 97)))) hL t_M hI331 e328 ⟨(by omega), (by omega), (by omega), (by omega), (by omega), (by omega), (by omega), (by omega), (by omega), (by omega), (by omega), (by omega), (by omega), (by omega), (Or.inl rfl)⟩ eD eG (by omega)) ⟨(callB_of 2 (tb_one (wd_1115 hB _)) tb_good1 rfl rfl rfl (wd_82 hB _) (wd_1112 hB _) (by decide +kernel) ⟨Nat.le_of_ble_eq_true rfl, Nat.le_of_ble_eq_true rfl⟩), (wd_1114 hB _), (wd_44 hB _)⟩ ⟨pe_bl, pg_recv (ci := 10) hK hP (lo_in hL t_M (by decide)) e328 rfl, pe_pre hB hK hP hD⟩ rfl rfl hl.1 rfl (lv_room (Nat.le_of_ble_eq_true rfl)) d_M_statement_43 ⟨Nat.le_of_ble_eq_true rfl, Nat.le_of_ble_eq_true rfl⟩) hS (fun f333 H locs hq334 hP hD hS => ?_)
    obtain ⟨x1_335, xd_336, xg_337, hI1_338, hu1_339⟩ := hq334
    have hu := hu.tr hu1_339 (by decide)
    have eT := hu1_339.at (lo_k11_1 hL _ t_M) (by decide) eT
    have eB := hu1_339.at (lo_k11_14 hL _ t_M) (by decide) eB
    have eK := hu1_339.at (lo_k11_15 hL _ t_M) (by decide) eK
    refine lv_iload_n hx hb d_M_statement_46 rfl (lv_at hl 0 rfl) ?_
    refine pcc_i (va_runS (As := [.int (nxm hT mn (mix + 1))]) (rest := []) ⟨hx, hb, hml, hown, tb_nil⟩ (m_isName l g H.size f333 ((nxm hT mn (mix + 1))) hL hI1_338.1) ⟨(callB_of 1 (tb_one (wd_1118 hB _)) tb_good1 rfl rfl rfl (wd_82 hB _) (wd_1116 hB _) (by decide +kernel) ⟨Nat.le_of_ble_eq_true rfl, Nat.le_of_ble_eq_true rfl⟩), (wd_1117 hB _)⟩ ⟨pe_bl, pe_pre hB hK hP hD⟩ rfl rfl hl.1 rfl (lv_room (Nat.le_of_ble_eq_true rfl)) d_M_statement_47 ⟨Nat.le_of_ble_eq_true rfl, Nat.le_of_ble_eq_true rfl⟩) hS (fun r340 f341 H locs hq342 hP hD hS => ?_)
    obtain ⟨bo_343, i0_344, i1_345, rfl⟩ := hq342
    rcases bo_343 with hb9 | hb9
    · skip
      have hkx := i0_344 hb9
      have tq6 : tk hT mn (mix + 1) ≠ 6 := fun z => hkx ((tkm hT mn (mix + 1)).trans z)
      subst hb9
      exact pe_zret hx hb hr hlocks hK hP hD hS d_M_statement_50 rfl ⟨(Or.inr ⟨(fun F => by rw [py_rT, if_pos tq8, if_neg tq6]), ⟨0, (mix + 1) + 1, mop, mdp, mdr + 1, mwt, by omega, by omega, by omega, by omega, by omega, by omega, x1_335⟩, rfl⟩), hI1_338, hu⟩
    · skip
      have hkx := i1_345 hb9
      have tq6 : tk hT mn (mix + 1) = 6 := (tkm hT mn (mix + 1)).symm.trans hkx
      have hl8 : mix + 1 < mn := tk_in (h := hT) (by omega)
      obtain ⟨vn, hvn, qvn⟩ := nm_of (kc_6.mp hkx).1 (kc_6.mp hkx).2
      subst hb9
      exact pe_zret hx hb hr hlocks hK hP hD hS d_M_statement_50 rfl ⟨(Or.inl ⟨0, (mix + 1) + 1, mop, mdp, mdr + 1, mwt, _, _, _, _, (fun F => by rw [py_rT, if_pos tq8, if_pos tq6]; rfl), by omega, by omega, by omega, by omega, by omega, by omega, by omega, by omega, (by have z := DI_in (v := vn) hDI (by omega) hvn; rw [← qvn] at z; exact z), x1_335, xd_336, xg_337, eB, eK, rfl⟩), hI1_338, hu⟩
