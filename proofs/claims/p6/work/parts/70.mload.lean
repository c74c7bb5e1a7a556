theorem WF_smd {hC hA d g : Nat → Int32} {dpf : Nat → Nat} {n : Nat} (h : WF d g dpf n) (e : smd n hC d) (eg : smd n hA g) : WF hC hA dpf n := by
  obtain ⟨a1, a2, a3⟩ := h
  refine ⟨a1, a2, fun p hp => ?_⟩
  obtain ⟨w, v, q1, q2, q3, q4, q5, q6, q7, q8, q9, q10, q11, q12, q13, q14, q15, q16⟩ := a3 p hp
  exact ⟨w, v, (e p hp).trans q1, (eg p hp).trans q2, q3, q4, q5, q6, q7, q8, q9, q10, q11, q12, q13, q14, q15, fun z => (q16 z).elim Or.inl (fun ⟨w', y1, y2, y3⟩ => Or.inr ⟨w', (e v y3).trans y1, y2, y3⟩)⟩
theorem smd_s {n : Nat} {h k : Nat → Int32} (e : smd n h k) : smd (n + 1) (upd h n (k n)) k := fun i hi => by
  by_cases q : i = n
  · subst q; exact upd_at _ _ _
  · exact (upd_ne _ _ q).trans (e i (by omega))
set_option maxHeartbeats 4000000 in
set_option maxRecDepth 100000 in
theorem m_load (l : Launch) (g : Lay) (sz : Nat) (f : Nat → va_E) (M : Nat) (mth : Int32) (mn : Nat) (mdr : Nat) (msz : Nat) (mix : Nat) (mdp : Nat) (mwt : Nat) (mop : Nat) (mtp : Nat) (mwa : Nat) (mgi : Nat) (mpc : Nat) (mst : Nat) (mtr : Nat) (msp : Nat) (mma : Int32) (mlg : Int32) (mdu : Int32) (hT : Nat → Int32) (hC : Nat → Int32) (hA : Nat → Int32) (hL : LO g) (t_M : g.tg M = 11) (hI : IV g f) (eM : f M = .inr (10, [.int mth, .ref (g.lk M 1), .int (nI mn), .ref (g.lk M 3), .ref (g.lk M 4), .int (nI mdr), .ref (g.lk M 6), .ref (g.lk M 7), .ref (g.lk M 8), .int (nI msz), .int (nI mix), .int (nI mdp), .ref (g.lk M 12), .int (nI mwt), .ref (g.lk M 14), .ref (g.lk M 15), .int (nI mop), .ref (g.lk M 17), .ref (g.lk M 18), .ref (g.lk M 19), .ref (g.lk M 20), .ref (g.lk M 21), .ref (g.lk M 22), .ref (g.lk M 23), .ref (g.lk M 24), .ref (g.lk M 25), .ref (g.lk M 26), .ref (g.lk M 27), .ref (g.lk M 28), .ref (g.lk M 29), .ref (g.lk M 30), .ref (g.lk M 31), .int (nI mtp), .ref (g.lk M 33), .ref (g.lk M 34), .ref (g.lk M 35), .int (nI mwa), .int (nI mgi), .int (nI mpc), .int (nI mst), .int (nI mtr), .int (nI msp), .int mma, .int mlg, .int mdu])) (hMB : mn ≤ 72 ∧ mdr ≤ 100 ∧ msz ≤ 100 ∧ mix ≤ 100 ∧ mdp ≤ 20 ∧ mwt ≤ 72 ∧ mop ≤ 40 ∧ mtp ≤ 80 ∧ mwa ≤ 20 ∧ mgi ≤ msp ∧ mpc ≤ 100 ∧ mst ≤ 4 ∧ mtr ≤ 3 ∧ msp ≤ 3000 ∧ (mdu = 0 ∨ mdu = 1)) (eT : f (g.lk M 1) = .inl (g.ac (g.lk M 1), 72, .inl hT)) (cT : ∀ i, i < 72 → vp_nar .char (hT i) = hT i) (eC : f (g.lk M 6) = .inl (g.ac (g.lk M 6), 100, .inl hC)) (eA : f (g.lk M 7) = .inl (g.ac (g.lk M 7), 100, .inl hA)) : Met l ⟨"BigRunnerModel", "load", "()I"⟩ [Cond.code ⟨"BigRunnerModel", "load", "()I"⟩ prog_12_method_40_code 2 (some .int)] ({ frames := 6, cells := 0, slots := 0, locals := 144 }) (va_Pc [.ref M] (pc_in g sz f)) (va_Qi (fun r f1 => ((∃ (ix1 dp1 n1 wt1 tp1 : Nat) (c1 a1 : Nat → Int32) (dpf : Nat → Nat), py_r (tk hT mn) mn 400 0 [] 1 true = true ∧ ix1 ≤ 90 ∧ dp1 ≤ 13 ∧ n1 ≤ 90 ∧ wt1 ≤ 72 ∧ tp1 ≤ 80 ∧ WF c1 a1 dpf n1 ∧ RI c1 dpf n1 1 0 0 ∧ f1 M = .inr (10, [.int (nI 0), .ref (g.lk M 1), .int (nI 0), .ref (g.lk M 3), .ref (g.lk M 4), .int (nI n1), .ref (g.lk M 6), .ref (g.lk M 7), .ref (g.lk M 8), .int (nI n1), .int (nI ix1), .int (nI dp1), .ref (g.lk M 12), .int (nI wt1), .ref (g.lk M 14), .ref (g.lk M 15), .int (nI 0), .ref (g.lk M 17), .ref (g.lk M 18), .ref (g.lk M 19), .ref (g.lk M 20), .ref (g.lk M 21), .ref (g.lk M 22), .ref (g.lk M 23), .ref (g.lk M 24), .ref (g.lk M 25), .ref (g.lk M 26), .ref (g.lk M 27), .ref (g.lk M 28), .ref (g.lk M 29), .ref (g.lk M 30), .ref (g.lk M 31), .int (nI tp1), .ref (g.lk M 33), .ref (g.lk M 34), .ref (g.lk M 35), .int (nI mwa), .int (nI 0), .int (nI 0), .int (nI 1), .int (nI 0), .int (nI 0), .int (nI 0), .int (nI 0), .int (nI 0)]) ∧ f1 (g.lk M 6) = .inl (g.ac (g.lk M 6), 100, .inl c1) ∧ f1 (g.lk M 7) = .inl (g.ac (g.lk M 7), 100, .inl a1)) ∨ (py_r (tk hT mn) mn 400 0 [] 1 true = false ∧ (∃ (fb ix1 op1 dp1 dr1 wt1 : Nat), ix1 ≤ 90 ∧ dp1 ≤ 13 ∧ dr1 ≤ 90 ∧ wt1 ≤ 72 ∧ op1 ≤ 30 ∧ fb ≤ 1 ∧ f1 M = .inr (10, [.int (nI 1), .ref (g.lk M 1), .int (nI mn), .ref (g.lk M 3), .ref (g.lk M 4), .int (nI dr1), .ref (g.lk M 6), .ref (g.lk M 7), .ref (g.lk M 8), .int (nI msz), .int (nI ix1), .int (nI dp1), .ref (g.lk M 12), .int (nI wt1), .ref (g.lk M 14), .ref (g.lk M 15), .int (nI op1), .ref (g.lk M 17), .ref (g.lk M 18), .ref (g.lk M 19), .ref (g.lk M 20), .ref (g.lk M 21), .ref (g.lk M 22), .ref (g.lk M 23), .ref (g.lk M 24), .ref (g.lk M 25), .ref (g.lk M 26), .ref (g.lk M 27), .ref (g.lk M 28), .ref (g.lk M 29), .ref (g.lk M 30), .ref (g.lk M 31), .int (nI mtp), .ref (g.lk M 33), .ref (g.lk M 34), .ref (g.lk M 35), .int (nI mwa), .int (nI mgi), .int (nI mpc), .int (nI mst), .int (nI mtr), .int (nI msp), .int mma, .int mlg, .int (nI fb)])) ∧ f1 (g.lk M 6) = .inl (g.ac (g.lk M 6), 100, .inl hC) ∧ f1 (g.lk M 7) = .inl (g.ac (g.lk M 7), 100, .inl hA))) ∧ (IV g f1) ∧ (un [11, 41, 42, 43, 44, 45, 46, 47, 48, 49, 50, 51, 52, 53, 54, 55, 56, 57, 58, 59] g f f1)) (pc_out g sz) (pc_A g sz)) 0 0 (pc_A g sz) := by
  refine pe_ofW (cc := prog_12_method_40_code) (maxL := 2) (ret := (some .int)) (lv := [(0, .ref M)]) (by decide) (Nat.le_of_ble_eq_true rfl) rfl ?_
  intro p e s m args below meth c ls hx hb hr hml hlocks hown hB hP hK hD hsz hS hl
  subst hsz
  have hu : un [11, 41, 42, 43, 44, 45, 46, 47, 48, 49, 50, 51, 52, 53, 54, 55, 56, 57, 58, 59] g f f := un.rf
  obtain ⟨hmb0, hmb1, hmb2, hmb3, hmb4, hmb5, hmb6, hmb7, hmb8, hmb9, hmb10, hmb11, hmb12, hmb13, hmb14⟩ := hMB
  refine lv_aload_n hx hb d_M_load_0 rfl (lv_at hl 0 rfl) ?_
  refine lv_aload_n hx hb d_M_load_1 rfl (lv_at hl 0 rfl) ?_
  refine pcc_i (va_runV (C := "BigRunnerModel") (As := []) (rest := [.ref M]) ⟨hx, hb, hml, hown, tb_nil⟩ (m_reads l g s.heap.size f M mth mn mdr msz mix mdp mwt mop mtp mwa mgi mpc mst mtr msp mma mlg mdu hT hL t_M hI eM ⟨(by omega), (by omega), (by omega), (by omega), (by omega), (by omega), (by omega), (by omega), (by omega), (by omega), (by omega), (by omega), (by omega), (by omega), hmb14⟩ eT cT) ⟨(callB_of 0 (tb_one (wd_1103 hB _)) tb_good1 rfl rfl rfl (wd_82 hB _) (wd_1100 hB _) (by decide +kernel) ⟨Nat.le_of_ble_eq_true rfl, Nat.le_of_ble_eq_true rfl⟩), (wd_1102 hB _), (wd_41 hB _)⟩ ⟨pe_bl, pg_recv (ci := 10) hK hP (lo_in hL t_M (by decide)) eM rfl, pe_pre hB hK hP hD⟩ rfl rfl hl.1 rfl (lv_room (Nat.le_of_ble_eq_true rfl)) d_M_load_2 ⟨Nat.le_of_ble_eq_true rfl, Nat.le_of_ble_eq_true rfl⟩) hS (fun r1 f2 H locs hq3 hP hD hS => ?_)
  obtain ⟨rs_4, hI1_5, hu1_6⟩ := hq3
  have hu := hu.tr hu1_6 (by decide)
  have eT := hu1_6.at (lo_k11_1 hL _ t_M) (by decide) eT
  have eC := hu1_6.at (lo_k11_6 hL _ t_M) (by decide) eC
  have eA := hu1_6.at (lo_k11_7 hL _ t_M) (by decide) eA
  rcases rs_4 with ⟨ix_7, dp_8, n_9, wt_10, d_11, g_12, c13, c14, c15, c16, c17, c18, c19, c20, e21, e22, e23, rfl⟩ | ⟨c30, ⟨fb_24, ix_25, op_26, dp_27, dr_28, wt_29, c31, c32, c33, c34, c35, c36, e37⟩, rfl⟩
  · skip
    refine lv_if_eq (tgt := 12) hx hb d_M_load_5 (by decide) (fun b38 => ?_) (fun b38 => ?_)
    · skip
      replace b38 := (nI_eq (a := 1) (b := 0) (by omega) (by omega)).mp b38
      exfalso; omega
    · skip
      replace b38 := mt (nI_eq (a := 1) (b := 0) (by omega) (by omega)).mpr b38
      refine lv_iconst (v := nI 0) hx hb d_M_load_8 (by decide) ?_
      refine lv_goto (tgt := 13) hx hb d_M_load_9 (by decide) ?_
      refine pf_put (v := .int (nI 0)) (ty := .int) (fs' := [.int (nI 0), .ref (g.lk M 1), .int (nI mn), .ref (g.lk M 3), .ref (g.lk M 4), .int (nI n_9), .ref (g.lk M 6), .ref (g.lk M 7), .ref (g.lk M 8), .int (nI msz), .int (nI ix_7), .int (nI dp_8), .ref (g.lk M 12), .int (nI wt_10), .ref (g.lk M 14), .ref (g.lk M 15), .int (nI 0), .ref (g.lk M 17), .ref (g.lk M 18), .ref (g.lk M 19), .ref (g.lk M 20), .ref (g.lk M 21), .ref (g.lk M 22), .ref (g.lk M 23), .ref (g.lk M 24), .ref (g.lk M 25), .ref (g.lk M 26), .ref (g.lk M 27), .ref (g.lk M 28), .ref (g.lk M 29), .ref (g.lk M 30), .ref (g.lk M 31), .int (nI mtp), .ref (g.lk M 33), .ref (g.lk M 34), .ref (g.lk M 35), .int (nI mwa), .int (nI mgi), .int (nI mpc), .int (nI mst), .int (nI mtr), .int (nI msp), .int mma, .int mlg, .int (nI 0)]) (C := "BigRunnerModel") (T := FT10) (N := 45) hx hb (hw10 hB _) (fun _ h9 => h9) TY10 ok10 nm10 hown hK hP hD hS (lo_in hL t_M (by decide)) e21 rfl 0 (by decide) (wd_947 hB _) rfl (by decide +kernel) rfl rfl (Nat.le_of_ble_eq_true rfl) rfl d_M_load_13 (fun f39 H locs e40 k41 hP hD hS => ?_)
      have eT := (k41 (g.lk M 1) (tg_ne (lo_k11_1 hL _ t_M) t_M (by decide))).trans eT
      have eC := (k41 (g.lk M 6) (tg_ne (lo_k11_6 hL _ t_M) t_M (by decide))).trans eC
      have eA := (k41 (g.lk M 7) (tg_ne (lo_k11_7 hL _ t_M) t_M (by decide))).trans eA
      have e22 := (k41 (g.lk M 3) (tg_ne (lo_k11_3 hL _ t_M) t_M (by decide))).trans e22
      have e23 := (k41 (g.lk M 4) (tg_ne (lo_k11_4 hL _ t_M) t_M (by decide))).trans e23
      have hu := hu.st k41 t_M (by decide)
      have hk42 : ∀ b, b ≠ M → f39 b = f2 b := k41
      refine lv_aload_n hx hb d_M_load_16 rfl (lv_at hl 0 rfl) ?_
      refine pf_get (v := .int (nI 0)) (C := "BigRunnerModel") (T := FT10) (N := 45) hx hb (hw10 hB _) (fun _ h9 => h9) hown hK hP (lo_in hL t_M (by decide)) e40 rfl 0 (by decide) (wd_947 hB _) rfl d_M_load_17 ?_
      refine lv_if_le (tgt := 25) hx hb d_M_load_20 (by decide) (fun b43 => ?_) (fun b43 => ?_)
      · skip
        replace b43 := (nI_leI (a := 0) (b := 0) (by omega) (by omega)).mp b43
        refine lv_iconst (v := nI 0) hx hb d_M_load_25 (by decide) ?_
        refine lv_istore_n (lv' := [(1, .int (nI 0)), (0, .ref M)]) hx hb d_M_load_26 rfl hl (by decide) rfl (fun ls hl => ?_)
        have hI44 := iv_1 hI1_5 hL t_M (by decide) hk42 (oc_11.mk t_M (⟨((nI 0)), mn, n_9, msz, ix_7, dp_8, wt_10, 0, mtp, mwa, mgi, mpc, mst, mtr, msp, mma, mlg, ((nI 0)), e40, (by omega), (by omega), (by omega), (by omega), (by omega), (by omega), (by omega), (by omega), (by omega), (by omega), (by omega), (by omega), (by omega), (by omega), (Or.inl rfl)⟩))
        have lp45 : ∀ (k47 : Nat) (i : Nat) (c8 : Nat → Int32) (a8 : Nat → Int32) (f46 : Nat → va_E) (H : Heap) (locs : List Loc) (ls : Array Slot), (n_9 < i + k47) → (i ≤ n_9) → (smd i c8 d_11) → (smd i a8 g_12) → f46 (g.lk M 6) = .inl (g.ac (g.lk M 6), 100, .inl (c8)) → f46 (g.lk M 7) = .inl (g.ac (g.lk M 7), 100, .inl (a8)) → IV g f46 → un [43, 44] g f39 f46 → lv_has ls 2 [(1, .int (nI i)), (0, .ref M)] → va_P g.D vcl (va_pl g.LP f46) H → va_D (pc_A g s.heap.size) (va_pl g.LP f46) → va_S (pc_A g s.heap.size) s.heap H locs → W p l e ({ frames := 6, cells := 0, slots := 0, locals := 144 }) s m args below meth c H locs 0 0 (MQ below (va_Qi (fun r f1 => ((∃ (ix1 dp1 n1 wt1 tp1 : Nat) (c1 a1 : Nat → Int32) (dpf : Nat → Nat), py_r (tk hT mn) mn 400 0 [] 1 true = true ∧ ix1 ≤ 90 ∧ dp1 ≤ 13 ∧ n1 ≤ 90 ∧ wt1 ≤ 72 ∧ tp1 ≤ 80 ∧ WF c1 a1 dpf n1 ∧ RI c1 dpf n1 1 0 0 ∧ f1 M = .inr (10, [.int (nI 0), .ref (g.lk M 1), .int (nI 0), .ref (g.lk M 3), .ref (g.lk M 4), .int (nI n1), .ref (g.lk M 6), .ref (g.lk M 7), .ref (g.lk M 8), .int (nI n1), .int (nI ix1), .int (nI dp1), .ref (g.lk M 12), .int (nI wt1), .ref (g.lk M 14), .ref (g.lk M 15), .int (nI 0), .ref (g.lk M 17), .ref (g.lk M 18), .ref (g.lk M 19), .ref (g.lk M 20), .ref (g.lk M 21), .ref (g.lk M 22), .ref (g.lk M 23), .ref (g.lk M 24), .ref (g.lk M 25), .ref (g.lk M 26), .ref (g.lk M 27), .ref (g.lk M 28), .ref (g.lk M 29), .ref (g.lk M 30), .ref (g.lk M 31), .int (nI tp1), .ref (g.lk M 33), .ref (g.lk M 34), .ref (g.lk M 35), .int (nI mwa), .int (nI 0), .int (nI 0), .int (nI 1), .int (nI 0), .int (nI 0), .int (nI 0), .int (nI 0), .int (nI 0)]) ∧ f1 (g.lk M 6) = .inl (g.ac (g.lk M 6), 100, .inl c1) ∧ f1 (g.lk M 7) = .inl (g.ac (g.lk M 7), 100, .inl a1)) ∨ (py_r (tk hT mn) mn 400 0 [] 1 true = false ∧ (∃ (fb ix1 op1 dp1 dr1 wt1 : Nat), ix1 ≤ 90 ∧ dp1 ≤ 13 ∧ dr1 ≤ 90 ∧ wt1 ≤ 72 ∧ op1 ≤ 30 ∧ fb ≤ 1 ∧ f1 M = .inr (10, [.int (nI 1), .ref (g.lk M 1), .int (nI mn), .ref (g.lk M 3), .ref (g.lk M 4), .int (nI dr1), .ref (g.lk M 6), .ref (g.lk M 7), .ref (g.lk M 8), .int (nI msz), .int (nI ix1), .int (nI dp1), .ref (g.lk M 12), .int (nI wt1), .ref (g.lk M 14), .ref (g.lk M 15), .int (nI op1), .ref (g.lk M 17), .ref (g.lk M 18), .ref (g.lk M 19), .ref (g.lk M 20), .ref (g.lk M 21), .ref (g.lk M 22), .ref (g.lk M 23), .ref (g.lk M 24), .ref (g.lk M 25), .ref (g.lk M 26), .ref (g.lk M 27), .ref (g.lk M 28), .ref (g.lk M 29), .ref (g.lk M 30), .ref (g.lk M 31), .int (nI mtp), .ref (g.lk M 33), .ref (g.lk M 34), .ref (g.lk M 35), .int (nI mwa), .int (nI mgi), .int (nI mpc), .int (nI mst), .int (nI mtr), .int (nI msp), .int mma, .int mlg, .int (nI fb)])) ∧ f1 (g.lk M 6) = .inl (g.ac (g.lk M 6), 100, .inl hC) ∧ f1 (g.lk M 7) = .inl (g.ac (g.lk M 7), 100, .inl hA))) ∧ (IV g f1) ∧ (un [11, 41, 42, 43, 44, 45, 46, 47, 48, 49, 50, 51, 52, 53, 54, 55, 56, 57, 58, 59] g f f1)) (pc_out g s.heap.size) (pc_A g s.heap.size)) args s 0 0 (pc_A g s.heap.size)) (F0 m 27 ls []) := by
          intro k47
          induction k47 with
          | zero => intros; exfalso; omega
          | succ k47 ih48 =>
            intro i c8 a8 f46 H locs ls hfu49 hi hsc hsa e50 e51 hI52 hv53 hl hP hD hS
            have eT := hv53.at (lo_k11_1 hL _ t_M) (by decide) eT
            have e22 := hv53.at (lo_k11_3 hL _ t_M) (by decide) e22
            have e23 := hv53.at (lo_k11_4 hL _ t_M) (by decide) e23
            have e40 := hv53.at t_M (by decide) e40
            have hu := hu.tr hv53 (by decide)
            refine lv_iload_n hx hb d_M_load_27 rfl (lv_at hl 0 rfl) ?_
            refine lv_aload_n hx hb d_M_load_28 rfl (lv_at hl 1 rfl) ?_
            refine pf_get (v := .int (nI n_9)) (C := "BigRunnerModel") (T := FT10) (N := 45) hx hb (hw10 hB _) (fun _ h9 => h9) hown hK hP (lo_in hL t_M (by decide)) e40 rfl 5 (by decide) (wd_952 hB _) rfl d_M_load_29 ?_
            refine lv_icmp_ge (tgt := 65) hx hb d_M_load_32 (by decide) (fun b54 => ?_) (fun b54 => ?_)
            · skip
              replace b54 := (nI_leI (a := n_9) (b := i) (by omega) (by omega)).mp b54
              have hwf : WF c8 a8 (dpc d_11) n_9 := WF_smd c19 (by have z := hsc; rw [show i = n_9 by omega] at z; exact z) (by have z := hsa; rw [show i = n_9 by omega] at z; exact z)
              have hri : RI c8 (dpc d_11) n_9 1 0 0 := fun _ => ⟨by omega, rfl, fun z => c20 ((hsc 0 (by omega)).symm.trans z), rfl⟩
              refine lv_aload_n hx hb d_M_load_65 rfl (lv_at hl 1 rfl) ?_
              refine lv_aload_n hx hb d_M_load_66 rfl (lv_at hl 1 rfl) ?_
              refine pf_get (v := .int (nI n_9)) (C := "BigRunnerModel") (T := FT10) (N := 45) hx hb (hw10 hB _) (fun _ h9 => h9) hown hK hP (lo_in hL t_M (by decide)) e40 rfl 5 (by decide) (wd_952 hB _) rfl d_M_load_67 ?_
              refine pf_put (v := .int (nI n_9)) (ty := .int) (fs' := [.int (nI 0), .ref (g.lk M 1), .int (nI mn), .ref (g.lk M 3), .ref (g.lk M 4), .int (nI n_9), .ref (g.lk M 6), .ref (g.lk M 7), .ref (g.lk M 8), .int (nI n_9), .int (nI ix_7), .int (nI dp_8), .ref (g.lk M 12), .int (nI wt_10), .ref (g.lk M 14), .ref (g.lk M 15), .int (nI 0), .ref (g.lk M 17), .ref (g.lk M 18), .ref (g.lk M 19), .ref (g.lk M 20), .ref (g.lk M 21), .ref (g.lk M 22), .ref (g.lk M 23), .ref (g.lk M 24), .ref (g.lk M 25), .ref (g.lk M 26), .ref (g.lk M 27), .ref (g.lk M 28), .ref (g.lk M 29), .ref (g.lk M 30), .ref (g.lk M 31), .int (nI mtp), .ref (g.lk M 33), .ref (g.lk M 34), .ref (g.lk M 35), .int (nI mwa), .int (nI mgi), .int (nI mpc), .int (nI mst), .int (nI mtr), .int (nI msp), .int mma, .int mlg, .int (nI 0)]) (C := "BigRunnerModel") (T := FT10) (N := 45) hx hb (hw10 hB _) (fun _ h9 => h9) TY10 ok10 nm10 hown hK hP hD hS (lo_in hL t_M (by decide)) e40 rfl 9 (by decide) (wd_956 hB _) rfl (by decide +kernel) rfl rfl (Nat.le_of_ble_eq_true rfl) rfl d_M_load_70 (fun f55 H locs e56 k57 hP hD hS => ?_)
              have eT := (k57 (g.lk M 1) (tg_ne (lo_k11_1 hL _ t_M) t_M (by decide))).trans eT
              have e22 := (k57 (g.lk M 3) (tg_ne (lo_k11_3 hL _ t_M) t_M (by decide))).trans e22
              have e23 := (k57 (g.lk M 4) (tg_ne (lo_k11_4 hL _ t_M) t_M (by decide))).trans e23
              have e50 := (k57 (g.lk M 6) (tg_ne (lo_k11_6 hL _ t_M) t_M (by decide))).trans e50
              have e51 := (k57 (g.lk M 7) (tg_ne (lo_k11_7 hL _ t_M) t_M (by decide))).trans e51
              have hu := hu.st k57 t_M (by decide)
              have hk58 : ∀ b, b ≠ M → f55 b = f46 b := k57
              refine lv_aload_n hx hb d_M_load_73 rfl (lv_at hl 1 rfl) ?_
              refine lv_iconst (v := nI 0) hx hb d_M_load_74 (by decide) ?_
              refine pf_put (v := .int (nI 0)) (ty := .int) (fs' := [.int (nI 0), .ref (g.lk M 1), .int (nI 0), .ref (g.lk M 3), .ref (g.lk M 4), .int (nI n_9), .ref (g.lk M 6), .ref (g.lk M 7), .ref (g.lk M 8), .int (nI n_9), .int (nI ix_7), .int (nI dp_8), .ref (g.lk M 12), .int (nI wt_10), .ref (g.lk M 14), .ref (g.lk M 15), .int (nI 0), .ref (g.lk M 17), .ref (g.lk M 18), .ref (g.lk M 19), .ref (g.lk M 20), .ref (g.lk M 21), .ref (g.lk M 22), .ref (g.lk M 23), .ref (g.lk M 24), .ref (g.lk M 25), .ref (g.lk M 26), .ref (g.lk M 27), .ref (g.lk M 28), .ref (g.lk M 29), .ref (g.lk M 30), .ref (g.lk M 31), .int (nI mtp), .ref (g.lk M 33), .ref (g.lk M 34), .ref (g.lk M 35), .int (nI mwa), .int (nI mgi), .int (nI mpc), .int (nI mst), .int (nI mtr), .int (nI msp), .int mma, .int mlg, .int (nI 0)]) (C := "BigRunnerModel") (T := FT10) (N := 45) hx hb (hw10 hB _) (fun _ h9 => h9) TY10 ok10 nm10 hown hK hP hD hS (lo_in hL t_M (by decide)) e56 rfl 2 (by decide) (wd_949 hB _) rfl (by decide +kernel) rfl rfl (Nat.le_of_ble_eq_true rfl) rfl d_M_load_75 (fun f59 H locs e60 k61 hP hD hS => ?_)
              have eT := (k61 (g.lk M 1) (tg_ne (lo_k11_1 hL _ t_M) t_M (by decide))).trans eT
              have e22 := (k61 (g.lk M 3) (tg_ne (lo_k11_3 hL _ t_M) t_M (by decide))).trans e22
              have e23 := (k61 (g.lk M 4) (tg_ne (lo_k11_4 hL _ t_M) t_M (by decide))).trans e23
              have e50 := (k61 (g.lk M 6) (tg_ne (lo_k11_6 hL _ t_M) t_M (by decide))).trans e50
              have e51 := (k61 (g.lk M 7) (tg_ne (lo_k11_7 hL _ t_M) t_M (by decide))).trans e51
              have hu := hu.st k61 t_M (by decide)
              have hk62 : ∀ b, b ≠ M → f59 b = f46 b := fun b q0 => (k61 b q0).trans (hk58 b q0)
              refine lv_iconst (v := nI 0) hx hb d_M_load_78 (by decide) ?_
              refine lv_istore_n (lv' := [(1, .int (nI 0)), (0, .ref M)]) hx hb d_M_load_79 rfl hl (by decide) rfl (fun ls hl => ?_)
              have hI63 := iv_1 hI52 hL t_M (by decide) hk62 (oc_11.mk t_M (⟨((nI 0)), 0, n_9, n_9, ix_7, dp_8, wt_10, 0, mtp, mwa, mgi, mpc, mst, mtr, msp, mma, mlg, ((nI 0)), e60, (by omega), (by omega), (by omega), (by omega), (by omega), (by omega), (by omega), (by omega), (by omega), (by omega), (by omega), (by omega), (by omega), (by omega), (Or.inl rfl)⟩))
              have lp64 : ∀ (k66 : Nat) (j : Nat) (f65 : Nat → va_E) (H : Heap) (locs : List Loc) (ls : Array Slot), (200 < j + k66) → (j ≤ 200) → IV g f65 → un [58, 59] g f59 f65 → lv_has ls 2 [(1, .int (nI j)), (0, .ref M)] → va_P g.D vcl (va_pl g.LP f65) H → va_D (pc_A g s.heap.size) (va_pl g.LP f65) → va_S (pc_A g s.heap.size) s.heap H locs → W p l e ({ frames := 6, cells := 0, slots := 0, locals := 144 }) s m args below meth c H locs 0 0 (MQ below (va_Qi (fun r f1 => ((∃ (ix1 dp1 n1 wt1 tp1 : Nat) (c1 a1 : Nat → Int32) (dpf : Nat → Nat), py_r (tk hT mn) mn 400 0 [] 1 true = true ∧ ix1 ≤ 90 ∧ dp1 ≤ 13 ∧ n1 ≤ 90 ∧ wt1 ≤ 72 ∧ tp1 ≤ 80 ∧ WF c1 a1 dpf n1 ∧ RI c1 dpf n1 1 0 0 ∧ f1 M = .inr (10, [.int (nI 0), .ref (g.lk M 1), .int (nI 0), .ref (g.lk M 3), .ref (g.lk M 4), .int (nI n1), .ref (g.lk M 6), .ref (g.lk M 7), .ref (g.lk M 8), .int (nI n1), .int (nI ix1), .int (nI dp1), .ref (g.lk M 12), .int (nI wt1), .ref (g.lk M 14), .ref (g.lk M 15), .int (nI 0), .ref (g.lk M 17), .ref (g.lk M 18), .ref (g.lk M 19), .ref (g.lk M 20), .ref (g.lk M 21), .ref (g.lk M 22), .ref (g.lk M 23), .ref (g.lk M 24), .ref (g.lk M 25), .ref (g.lk M 26), .ref (g.lk M 27), .ref (g.lk M 28), .ref (g.lk M 29), .ref (g.lk M 30), .ref (g.lk M 31), .int (nI tp1), .ref (g.lk M 33), .ref (g.lk M 34), .ref (g.lk M 35), .int (nI mwa), .int (nI 0), .int (nI 0), .int (nI 1), .int (nI 0), .int (nI 0), .int (nI 0), .int (nI 0), .int (nI 0)]) ∧ f1 (g.lk M 6) = .inl (g.ac (g.lk M 6), 100, .inl c1) ∧ f1 (g.lk M 7) = .inl (g.ac (g.lk M 7), 100, .inl a1)) ∨ (py_r (tk hT mn) mn 400 0 [] 1 true = false ∧ (∃ (fb ix1 op1 dp1 dr1 wt1 : Nat), ix1 ≤ 90 ∧ dp1 ≤ 13 ∧ dr1 ≤ 90 ∧ wt1 ≤ 72 ∧ op1 ≤ 30 ∧ fb ≤ 1 ∧ f1 M = .inr (10, [.int (nI 1), .ref (g.lk M 1), .int (nI mn), .ref (g.lk M 3), .ref (g.lk M 4), .int (nI dr1), .ref (g.lk M 6), .ref (g.lk M 7), .ref (g.lk M 8), .int (nI msz), .int (nI ix1), .int (nI dp1), .ref (g.lk M 12), .int (nI wt1), .ref (g.lk M 14), .ref (g.lk M 15), .int (nI op1), .ref (g.lk M 17), .ref (g.lk M 18), .ref (g.lk M 19), .ref (g.lk M 20), .ref (g.lk M 21), .ref (g.lk M 22), .ref (g.lk M 23), .ref (g.lk M 24), .ref (g.lk M 25), .ref (g.lk M 26), .ref (g.lk M 27), .ref (g.lk M 28), .ref (g.lk M 29), .ref (g.lk M 30), .ref (g.lk M 31), .int (nI mtp), .ref (g.lk M 33), .ref (g.lk M 34), .ref (g.lk M 35), .int (nI mwa), .int (nI mgi), .int (nI mpc), .int (nI mst), .int (nI mtr), .int (nI msp), .int mma, .int mlg, .int (nI fb)])) ∧ f1 (g.lk M 6) = .inl (g.ac (g.lk M 6), 100, .inl hC) ∧ f1 (g.lk M 7) = .inl (g.ac (g.lk M 7), 100, .inl hA))) ∧ (IV g f1) ∧ (un [11, 41, 42, 43, 44, 45, 46, 47, 48, 49, 50, 51, 52, 53, 54, 55, 56, 57, 58, 59] g f f1)) (pc_out g s.heap.size) (pc_A g s.heap.size)) args s 0 0 (pc_A g s.heap.size)) (F0 m 80 ls []) := by
                intro k66
                induction k66 with
                | zero => intros; exfalso; omega
                | succ k66 ih67 =>
                  intro j f65 H locs ls hfu68 hj hI69 hv70 hl hP hD hS
                  have eT := hv70.at (lo_k11_1 hL _ t_M) (by decide) eT
                  have e22 := hv70.at (lo_k11_3 hL _ t_M) (by decide) e22
                  have e23 := hv70.at (lo_k11_4 hL _ t_M) (by decide) e23
                  have e50 := hv70.at (lo_k11_6 hL _ t_M) (by decide) e50
                  have e51 := hv70.at (lo_k11_7 hL _ t_M) (by decide) e51
                  have e60 := hv70.at t_M (by decide) e60
                  have hu := hu.tr hv70 (by decide)
                  refine lv_iload_n hx hb d_M_load_80 rfl (lv_at hl 0 rfl) ?_
                  refine lv_sipush (v := nI 200) hx hb d_M_load_81 (by decide) ?_
                  refine lv_icmp_ge (tgt := 110) hx hb d_M_load_84 (by decide) (fun b71 => ?_) (fun b71 => ?_)
                  · skip
                    replace b71 := (nI_leI (a := 200) (b := j) (by omega) (by omega)).mp b71
                    refine lv_aload_n hx hb d_M_load_110 rfl (lv_at hl 1 rfl) ?_
                    refine lv_iconst (v := nI 0) hx hb d_M_load_111 (by decide) ?_
                    refine pf_put (v := .int (nI 0)) (ty := .int) (fs' := [.int (nI 0), .ref (g.lk M 1), .int (nI 0), .ref (g.lk M 3), .ref (g.lk M 4), .int (nI n_9), .ref (g.lk M 6), .ref (g.lk M 7), .ref (g.lk M 8), .int (nI n_9), .int (nI ix_7), .int (nI dp_8), .ref (g.lk M 12), .int (nI wt_10), .ref (g.lk M 14), .ref (g.lk M 15), .int (nI 0), .ref (g.lk M 17), .ref (g.lk M 18), .ref (g.lk M 19), .ref (g.lk M 20), .ref (g.lk M 21), .ref (g.lk M 22), .ref (g.lk M 23), .ref (g.lk M 24), .ref (g.lk M 25), .ref (g.lk M 26), .ref (g.lk M 27), .ref (g.lk M 28), .ref (g.lk M 29), .ref (g.lk M 30), .ref (g.lk M 31), .int (nI mtp), .ref (g.lk M 33), .ref (g.lk M 34), .ref (g.lk M 35), .int (nI mwa), .int (nI 0), .int (nI mpc), .int (nI mst), .int (nI mtr), .int (nI msp), .int mma, .int mlg, .int (nI 0)]) (C := "BigRunnerModel") (T := FT10) (N := 45) hx hb (hw10 hB _) (fun _ h9 => h9) TY10 ok10 nm10 hown hK hP hD hS (lo_in hL t_M (by decide)) e60 rfl 37 (by decide) (wd_984 hB _) rfl (by decide +kernel) rfl rfl (Nat.le_of_ble_eq_true rfl) rfl d_M_load_112 (fun f72 H locs e73 k74 hP hD hS => ?_)
                    have eT := (k74 (g.lk M 1) (tg_ne (lo_k11_1 hL _ t_M) t_M (by decide))).trans eT
                    have e22 := (k74 (g.lk M 3) (tg_ne (lo_k11_3 hL _ t_M) t_M (by decide))).trans e22
                    have e23 := (k74 (g.lk M 4) (tg_ne (lo_k11_4 hL _ t_M) t_M (by decide))).trans e23
                    have e50 := (k74 (g.lk M 6) (tg_ne (lo_k11_6 hL _ t_M) t_M (by decide))).trans e50
                    have e51 := (k74 (g.lk M 7) (tg_ne (lo_k11_7 hL _ t_M) t_M (by decide))).trans e51
                    have hu := hu.st k74 t_M (by decide)
                    have hk75 : ∀ b, b ≠ M → f72 b = f65 b := k74
                    refine lv_aload_n hx hb d_M_load_115 rfl (lv_at hl 1 rfl) ?_
                    refine lv_iconst (v := nI 0) hx hb d_M_load_116 (by decide) ?_
                    refine pf_put (v := .int (nI 0)) (ty := .int) (fs' := [.int (nI 0), .ref (g.lk M 1), .int (nI 0), .ref (g.lk M 3), .ref (g.lk M 4), .int (nI n_9), .ref (g.lk M 6), .ref (g.lk M 7), .ref (g.lk M 8), .int (nI n_9), .int (nI ix_7), .int (nI dp_8), .ref (g.lk M 12), .int (nI wt_10), .ref (g.lk M 14), .ref (g.lk M 15), .int (nI 0), .ref (g.lk M 17), .ref (g.lk M 18), .ref (g.lk M 19), .ref (g.lk M 20), .ref (g.lk M 21), .ref (g.lk M 22), .ref (g.lk M 23), .ref (g.lk M 24), .ref (g.lk M 25), .ref (g.lk M 26), .ref (g.lk M 27), .ref (g.lk M 28), .ref (g.lk M 29), .ref (g.lk M 30), .ref (g.lk M 31), .int (nI mtp), .ref (g.lk M 33), .ref (g.lk M 34), .ref (g.lk M 35), .int (nI mwa), .int (nI 0), .int (nI 0), .int (nI mst), .int (nI mtr), .int (nI msp), .int mma, .int mlg, .int (nI 0)]) (C := "BigRunnerModel") (T := FT10) (N := 45) hx hb (hw10 hB _) (fun _ h9 => h9) TY10 ok10 nm10 hown hK hP hD hS (lo_in hL t_M (by decide)) e73 rfl 38 (by decide) (wd_985 hB _) rfl (by decide +kernel) rfl rfl (Nat.le_of_ble_eq_true rfl) rfl d_M_load_117 (fun f76 H locs e77 k78 hP hD hS => ?_)
                    have eT := (k78 (g.lk M 1) (tg_ne (lo_k11_1 hL _ t_M) t_M (by decide))).trans eT
                    have e22 := (k78 (g.lk M 3) (tg_ne (lo_k11_3 hL _ t_M) t_M (by decide))).trans e22
                    have e23 := (k78 (g.lk M 4) (tg_ne (lo_k11_4 hL _ t_M) t_M (by decide))).trans e23
                    have e50 := (k78 (g.lk M 6) (tg_ne (lo_k11_6 hL _ t_M) t_M (by decide))).trans e50
                    have e51 := (k78 (g.lk M 7) (tg_ne (lo_k11_7 hL _ t_M) t_M (by decide))).trans e51
                    have hu := hu.st k78 t_M (by decide)
                    have hk79 : ∀ b, b ≠ M → f76 b = f65 b := fun b q0 => (k78 b q0).trans (hk75 b q0)
                    refine lv_aload_n hx hb d_M_load_120 rfl (lv_at hl 1 rfl) ?_
                    refine lv_iconst (v := nI 1) hx hb d_M_load_121 (by decide) ?_
                    refine pf_put (v := .int (nI 1)) (ty := .int) (fs' := [.int (nI 0), .ref (g.lk M 1), .int (nI 0), .ref (g.lk M 3), .ref (g.lk M 4), .int (nI n_9), .ref (g.lk M 6), .ref (g.lk M 7), .ref (g.lk M 8), .int (nI n_9), .int (nI ix_7), .int (nI dp_8), .ref (g.lk M 12), .int (nI wt_10), .ref (g.lk M 14), .ref (g.lk M 15), .int (nI 0), .ref (g.lk M 17), .ref (g.lk M 18), .ref (g.lk M 19), .ref (g.lk M 20), .ref (g.lk M 21), .ref (g.lk M 22), .ref (g.lk M 23), .ref (g.lk M 24), .ref (g.lk M 25), .ref (g.lk M 26), .ref (g.lk M 27), .ref (g.lk M 28), .ref (g.lk M 29), .ref (g.lk M 30), .ref (g.lk M 31), .int (nI mtp), .ref (g.lk M 33), .ref (g.lk M 34), .ref (g.lk M 35), .int (nI mwa), .int (nI 0), .int (nI 0), .int (nI 1), .int (nI mtr), .int (nI msp), .int mma, .int mlg, .int (nI 0)]) (C := "BigRunnerModel") (T := FT10) (N := 45) hx hb (hw10 hB _) (fun _ h9 => h9) TY10 ok10 nm10 hown hK hP hD hS (lo_in hL t_M (by decide)) e77 rfl 39 (by decide) (wd_986 hB _) rfl (by decide +kernel) rfl rfl (Nat.le_of_ble_eq_true rfl) rfl d_M_load_122 (fun f80 H locs e81 k82 hP hD hS => ?_)
                    have eT := (k82 (g.lk M 1) (tg_ne (lo_k11_1 hL _ t_M) t_M (by decide))).trans eT
                    have e22 := (k82 (g.lk M 3) (tg_ne (lo_k11_3 hL _ t_M) t_M (by decide))).trans e22
                    have e23 := (k82 (g.lk M 4) (tg_ne (lo_k11_4 hL _ t_M) t_M (by decide))).trans e23
                    have e50 := (k82 (g.lk M 6) (tg_ne (lo_k11_6 hL _ t_M) t_M (by decide))).trans e50
                    have e51 := (k82 (g.lk M 7) (tg_ne (lo_k11_7 hL _ t_M) t_M (by decide))).trans e51
                    have hu := hu.st k82 t_M (by decide)
                    have hk83 : ∀ b, b ≠ M → f80 b = f65 b := fun b q0 => (k82 b q0).trans (hk79 b q0)
                    refine lv_aload_n hx hb d_M_load_125 rfl (lv_at hl 1 rfl) ?_
                    refine lv_iconst (v := nI 0) hx hb d_M_load_126 (by decide) ?_
                    refine pf_put (v := .int (nI 0)) (ty := .int) (fs' := [.int (nI 0), .ref (g.lk M 1), .int (nI 0), .ref (g.lk M 3), .ref (g.lk M 4), .int (nI n_9), .ref (g.lk M 6), .ref (g.lk M 7), .ref (g.lk M 8), .int (nI n_9), .int (nI ix_7), .int (nI dp_8), .ref (g.lk M 12), .int (nI wt_10), .ref (g.lk M 14), .ref (g.lk M 15), .int (nI 0), .ref (g.lk M 17), .ref (g.lk M 18), .ref (g.lk M 19), .ref (g.lk M 20), .ref (g.lk M 21), .ref (g.lk M 22), .ref (g.lk M 23), .ref (g.lk M 24), .ref (g.lk M 25), .ref (g.lk M 26), .ref (g.lk M 27), .ref (g.lk M 28), .ref (g.lk M 29), .ref (g.lk M 30), .ref (g.lk M 31), .int (nI mtp), .ref (g.lk M 33), .ref (g.lk M 34), .ref (g.lk M 35), .int (nI mwa), .int (nI 0), .int (nI 0), .int (nI 1), .int (nI 0), .int (nI msp), .int mma, .int mlg, .int (nI 0)]) (C := "BigRunnerModel") (T := FT10) (N := 45) hx hb (hw10 hB _) (fun _ h9 => h9) TY10 ok10 nm10 hown hK hP hD hS (lo_in hL t_M (by decide)) e81 rfl 40 (by decide) (wd_987 hB _) rfl (by decide +kernel) rfl rfl (Nat.le_of_ble_eq_true rfl) rfl d_M_load_127 (fun f84 H locs e85 k86 hP hD hS => ?_)
                    have eT := (k86 (g.lk M 1) (tg_ne (lo_k11_1 hL _ t_M) t_M (by decide))).trans eT
                    have e22 := (k86 (g.lk M 3) (tg_ne (lo_k11_3 hL _ t_M) t_M (by decide))).trans e22
                    have e23 := (k86 (g.lk M 4) (tg_ne (lo_k11_4 hL _ t_M) t_M (by decide))).trans e23
                    have e50 := (k86 (g.lk M 6) (tg_ne (lo_k11_6 hL _ t_M) t_M (by decide))).trans e50
                    have e51 := (k86 (g.lk M 7) (tg_ne (lo_k11_7 hL _ t_M) t_M (by decide))).trans e51
                    have hu := hu.st k86 t_M (by decide)
                    have hk87 : ∀ b, b ≠ M → f84 b = f65 b := fun b q0 => (k86 b q0).trans (hk83 b q0)
                    refine lv_aload_n hx hb d_M_load_130 rfl (lv_at hl 1 rfl) ?_
                    refine lv_iconst (v := nI 0) hx hb d_M_load_131 (by decide) ?_
                    refine pf_put (v := .int (nI 0)) (ty := .int) (fs' := [.int (nI 0), .ref (g.lk M 1), .int (nI 0), .ref (g.lk M 3), .ref (g.lk M 4), .int (nI n_9), .ref (g.lk M 6), .ref (g.lk M 7), .ref (g.lk M 8), .int (nI n_9), .int (nI ix_7), .int (nI dp_8), .ref (g.lk M 12), .int (nI wt_10), .ref (g.lk M 14), .ref (g.lk M 15), .int (nI 0), .ref (g.lk M 17), .ref (g.lk M 18), .ref (g.lk M 19), .ref (g.lk M 20), .ref (g.lk M 21), .ref (g.lk M 22), .ref (g.lk M 23), .ref (g.lk M 24), .ref (g.lk M 25), .ref (g.lk M 26), .ref (g.lk M 27), .ref (g.lk M 28), .ref (g.lk M 29), .ref (g.lk M 30), .ref (g.lk M 31), .int (nI mtp), .ref (g.lk M 33), .ref (g.lk M 34), .ref (g.lk M 35), .int (nI mwa), .int (nI 0), .int (nI 0), .int (nI 1), .int (nI 0), .int (nI 0), .int mma, .int mlg, .int (nI 0)]) (C := "BigRunnerModel") (T := FT10) (N := 45) hx hb (hw10 hB _) (fun _ h9 => h9) TY10 ok10 nm10 hown hK hP hD hS (lo_in hL t_M (by decide)) e85 rfl 41 (by decide) (wd_988 hB _) rfl (by decide +kernel) rfl rfl (Nat.le_of_ble_eq_true rfl) rfl d_M_load_132 (fun f88 H locs e89 k90 hP hD hS => ?_)
                    have eT := (k90 (g.lk M 1) (tg_ne (lo_k11_1 hL _ t_M) t_M (by decide))).trans eT
                    have e22 := (k90 (g.lk M 3) (tg_ne (lo_k11_3 hL _ t_M) t_M (by decide))).trans e22
                    have e23 := (k90 (g.lk M 4) (tg_ne (lo_k11_4 hL _ t_M) t_M (by decide))).trans e23
                    have e50 := (k90 (g.lk M 6) (tg_ne (lo_k11_6 hL _ t_M) t_M (by decide))).trans e50
                    have e51 := (k90 (g.lk M 7) (tg_ne (lo_k11_7 hL _ t_M) t_M (by decide))).trans e51
                    have hu := hu.st k90 t_M (by decide)
                    have hk91 : ∀ b, b ≠ M → f88 b = f65 b := fun b q0 => (k90 b q0).trans (hk87 b q0)
                    refine lv_aload_n hx hb d_M_load_135 rfl (lv_at hl 1 rfl) ?_
                    refine lv_iconst (v := nI 0) hx hb d_M_load_136 (by decide) ?_
                    refine pf_put (v := .int (nI 0)) (ty := .int) (fs' := [.int (nI 0), .ref (g.lk M 1), .int (nI 0), .ref (g.lk M 3), .ref (g.lk M 4), .int (nI n_9), .ref (g.lk M 6), .ref (g.lk M 7), .ref (g.lk M 8), .int (nI n_9), .int (nI ix_7), .int (nI dp_8), .ref (g.lk M 12), .int (nI wt_10), .ref (g.lk M 14), .ref (g.lk M 15), .int (nI 0), .ref (g.lk M 17), .ref (g.lk M 18), .ref (g.lk M 19), .ref (g.lk M 20), .ref (g.lk M 21), .ref (g.lk M 22), .ref (g.lk M 23), .ref (g.lk M 24), .ref (g.lk M 25), .ref (g.lk M 26), .ref (g.lk M 27), .ref (g.lk M 28), .ref (g.lk M 29), .ref (g.lk M 30), .ref (g.lk M 31), .int (nI mtp), .ref (g.lk M 33), .ref (g.lk M 34), .ref (g.lk M 35), .int (nI mwa), .int (nI 0), .int (nI 0), .int (nI 1), .int (nI 0), .int (nI 0), .int (nI 0), .int mlg, .int (nI 0)]) (C := "BigRunnerModel") (T := FT10) (N := 45) hx hb (hw10 hB _) (fun _ h9 => h9) TY10 ok10 nm10 hown hK hP hD hS (lo_in hL t_M (by decide)) e89 rfl 42 (by decide) (wd_989 hB _) rfl (by decide +kernel) rfl rfl (Nat.le_of_ble_eq_true rfl) rfl d_M_load_137 (fun f92 H locs e93 k94 hP hD hS => ?_)
                    have eT := (k94 (g.lk M 1) (tg_ne (lo_k11_1 hL _ t_M) t_M (by decide))).trans eT
                    have e22 := (k94 (g.lk M 3) (tg_ne (lo_k11_3 hL _ t_M) t_M (by decide))).trans e22
                    have e23 := (k94 (g.lk M 4) (tg_ne (lo_k11_4 hL _ t_M) t_M (by decide))).trans e23
                    have e50 := (k94 (g.lk M 6) (tg_ne (lo_k11_6 hL _ t_M) t_M (by decide))).trans e50
                    have e51 := (k94 (g.lk M 7) (tg_ne (lo_k11_7 hL _ t_M) t_M (by decide))).trans e51
                    have hu := hu.st k94 t_M (by decide)
                    have hk95 : ∀ b, b ≠ M → f92 b = f65 b := fun b q0 => (k94 b q0).trans (hk91 b q0)
                    refine lv_aload_n hx hb d_M_load_140 rfl (lv_at hl 1 rfl) ?_
                    refine lv_iconst (v := nI 0) hx hb d_M_load_141 (by decide) ?_
                    refine pf_put (v := .int (nI 0)) (ty := .int) (fs' := [.int (nI 0), .ref (g.lk M 1), .int (nI 0), .ref (g.lk M 3), .ref (g.lk M 4), .int (nI n_9), .ref (g.lk M 6), .ref (g.lk M 7), .ref (g.lk M 8), .int (nI n_9), .int (nI ix_7), .int (nI dp_8), .ref (g.lk M 12), .int (nI wt_10), .ref (g.lk M 14), .ref (g.lk M 15), .int (nI 0), .ref (g.lk M 17), .ref (g.lk M 18), .ref (g.lk M 19), .ref (g.lk M 20), .ref (g.lk M 21), .ref (g.lk M 22), .ref (g.lk M 23), .ref (g.lk M 24), .ref (g.lk M 25), .ref (g.lk M 26), .ref (g.lk M 27), .ref (g.lk M 28), .ref (g.lk M 29), .ref (g.lk M 30), .ref (g.lk M 31), .int (nI mtp), .ref (g.lk M 33), .ref (g.lk M 34), .ref (g.lk M 35), .int (nI mwa), .int (nI 0), .int (nI 0), .int (nI 1), .int (nI 0), .int (nI 0), .int (nI 0), .int (nI 0), .int (nI 0)]) (C := "BigRunnerModel") (T := FT10) (N := 45) hx hb (hw10 hB _) (fun _ h9 => h9) TY10 ok10 nm10 hown hK hP hD hS (lo_in hL t_M (by decide)) e93 rfl 43 (by decide) (wd_990 hB _) rfl (by decide +kernel) rfl rfl (Nat.le_of_ble_eq_true rfl) rfl d_M_load_142 (fun f96 H locs e97 k98 hP hD hS => ?_)
                    have eT := (k98 (g.lk M 1) (tg_ne (lo_k11_1 hL _ t_M) t_M (by decide))).trans eT
                    have e22 := (k98 (g.lk M 3) (tg_ne (lo_k11_3 hL _ t_M) t_M (by decide))).trans e22
                    have e23 := (k98 (g.lk M 4) (tg_ne (lo_k11_4 hL _ t_M) t_M (by decide))).trans e23
                    have e50 := (k98 (g.lk M 6) (tg_ne (lo_k11_6 hL _ t_M) t_M (by decide))).trans e50
                    have e51 := (k98 (g.lk M 7) (tg_ne (lo_k11_7 hL _ t_M) t_M (by decide))).trans e51
                    have hu := hu.st k98 t_M (by decide)
                    have hk99 : ∀ b, b ≠ M → f96 b = f65 b := fun b q0 => (k98 b q0).trans (hk95 b q0)
                    refine lv_aload_n hx hb d_M_load_145 rfl (lv_at hl 1 rfl) ?_
                    have hI100 := iv_1 hI69 hL t_M (by decide) hk99 (oc_11.mk t_M (⟨((nI 0)), 0, n_9, n_9, ix_7, dp_8, wt_10, 0, mtp, mwa, 0, 0, 1, 0, 0, ((nI 0)), ((nI 0)), ((nI 0)), e97, (by omega), (by omega), (by omega), (by omega), (by omega), (by omega), (by omega), (by omega), (by omega), (by omega), (by omega), (by omega), (by omega), (by omega), (Or.inl rfl)⟩))
                    refine pcc_i (va_runV (C := "BigRunnerModel") (As := []) (rest := []) ⟨hx, hb, hml, hown, tb_nil⟩ (m_settle l g H.size f96 M ((nI 0)) 0 n_9 n_9 ix_7 dp_8 wt_10 0 mtp mwa 0 0 1 0 0 ((nI 0)) ((nI 0)) ((nI 0)) c8 a8 ((dpc d_11)) hL t_M hI100 e97 ⟨(by omega), (by omega), (by omega), (by omega), (by omega), (by omega), (by omega), (by omega), (by omega), (by omega), (by omega), (by omega), (by omega), (by omega), (Or.inl rfl)⟩ e50 e51 hwf) ⟨(callB_of 0 (tb_one (wd_1148 hB _)) tb_good1 rfl rfl rfl (wd_82 hB _) (wd_1145 hB _) (by decide +kernel) ⟨Nat.le_of_ble_eq_true rfl, Nat.le_of_ble_eq_true rfl⟩), (wd_1147 hB _), (wd_50 hB _)⟩ ⟨pe_bl, pg_recv (ci := 10) hK hP (lo_in hL t_M (by decide)) e97 rfl, pe_pre hB hK hP hD⟩ rfl rfl hl.1 rfl (lv_room (Nat.le_of_ble_eq_true rfl)) d_M_load_146 ⟨Nat.le_of_ble_eq_true rfl, Nat.le_of_ble_eq_true rfl⟩) hS (fun r101 f102 H locs hq103 hP hD hS => ?_)
                    obtain ⟨x1_104, hI1_105, hu1_106⟩ := hq103
                    have hu := hu.tr hu1_106 (by decide)
                    have eT := hu1_106.at (lo_k11_1 hL _ t_M) (by decide) eT
                    have e22 := hu1_106.at (lo_k11_3 hL _ t_M) (by decide) e22
                    have e23 := hu1_106.at (lo_k11_4 hL _ t_M) (by decide) e23
                    have e50 := hu1_106.at (lo_k11_6 hL _ t_M) (by decide) e50
                    have e51 := hu1_106.at (lo_k11_7 hL _ t_M) (by decide) e51
                    obtain ⟨tp1_108, c109, e107⟩ := x1_104
                    exact pe_iret hx hb hr hlocks hK hP hD hS d_M_load_149 ⟨(Or.inl ⟨ix_7, dp_8, n_9, wt_10, tp1_108, c8, a8, _, c13, by omega, by omega, by omega, by omega, by omega, hwf, hri, e107, e50, e51⟩), hI1_105, hu⟩
                  · skip
                    replace b71 := mt (nI_leI (a := 200) (b := j) (by omega) (by omega)).mpr b71
                    refine lv_aload_n hx hb d_M_load_87 rfl (lv_at hl 1 rfl) ?_
                    refine pf_get (v := .ref (g.lk M 26)) (C := "BigRunnerModel") (T := FT10) (N := 45) hx hb (hw10 hB _) (fun _ h9 => h9) hown hK hP (lo_in hL t_M (by decide)) e60 rfl 26 (by decide) (wd_973 hB _) rfl d_M_load_88 ?_
                    refine lv_iload_n hx hb d_M_load_91 rfl (lv_at hl 0 rfl) ?_
                    refine lv_iconst (v := nI 0) hx hb d_M_load_92 (by decide) ?_
                    obtain ⟨h_111, e110⟩ := oc_58.of (lo_k11_26 hL _ t_M) (hI69.1 (g.lk M 26))
                    refine pf_iast (i := j) hx hb hK hP hD hS (lo_in hL (lo_k11_26 hL _ t_M) (by decide)) e110 (lo_t58 hL _ (lo_k11_26 hL _ t_M)) (by omega) (by decide) d_M_load_93 (fun f113 H locs e114 k115 hP hD hS => ?_)
                    have eT := (k115 (g.lk M 1) (tg_ne (lo_k11_1 hL _ t_M) (lo_k11_26 hL _ t_M) (by decide))).trans eT
                    have e22 := (k115 (g.lk M 3) (tg_ne (lo_k11_3 hL _ t_M) (lo_k11_26 hL _ t_M) (by decide))).trans e22
                    have e23 := (k115 (g.lk M 4) (tg_ne (lo_k11_4 hL _ t_M) (lo_k11_26 hL _ t_M) (by decide))).trans e23
                    have e50 := (k115 (g.lk M 6) (tg_ne (lo_k11_6 hL _ t_M) (lo_k11_26 hL _ t_M) (by decide))).trans e50
                    have e51 := (k115 (g.lk M 7) (tg_ne (lo_k11_7 hL _ t_M) (lo_k11_26 hL _ t_M) (by decide))).trans e51
                    have e60 := (k115 M (tg_ne t_M (lo_k11_26 hL _ t_M) (by decide))).trans e60
                    have hu := hu.st k115 (lo_k11_26 hL _ t_M) (by decide)
                    have hv70 := hv70.st k115 (lo_k11_26 hL _ t_M) (by decide)
                    have hk116 : ∀ b, b ≠ (g.lk M 26) → f113 b = f65 b := k115
                    refine lv_aload_n hx hb d_M_load_94 rfl (lv_at hl 1 rfl) ?_
                    refine pf_get (v := .ref (g.lk M 27)) (C := "BigRunnerModel") (T := FT10) (N := 45) hx hb (hw10 hB _) (fun _ h9 => h9) hown hK hP (lo_in hL t_M (by decide)) e60 rfl 27 (by decide) (wd_974 hB _) rfl d_M_load_95 ?_
                    refine lv_iload_n hx hb d_M_load_98 rfl (lv_at hl 0 rfl) ?_
                    refine lv_bipush (v := nI 20) hx hb d_M_load_99 (by decide) ?_
                    refine pf_idivN (x := j) (y := 20) hx hb (by omega) (by omega) (by omega) d_M_load_101 ?_
                    refine lv_iconst (v := nI 0) hx hb d_M_load_102 (by decide) ?_
                    have hI117 := iv_1 hI69 hL (lo_k11_26 hL _ t_M) (by decide) hk116 (oc_58.mk (lo_k11_26 hL _ t_M) (⟨_, e114⟩))
                    obtain ⟨h_119, e118⟩ := oc_59.of (lo_k11_27 hL _ t_M) (hI117.1 (g.lk M 27))
                    refine pf_iast (i := j / 20) hx hb hK hP hD hS (lo_in hL (lo_k11_27 hL _ t_M) (by decide)) e118 (lo_t59 hL _ (lo_k11_27 hL _ t_M)) (by omega) (by decide) d_M_load_103 (fun f121 H locs e122 k123 hP hD hS => ?_)
                    have eT := (k123 (g.lk M 1) (tg_ne (lo_k11_1 hL _ t_M) (lo_k11_27 hL _ t_M) (by decide))).trans eT
                    have e22 := (k123 (g.lk M 3) (tg_ne (lo_k11_3 hL _ t_M) (lo_k11_27 hL _ t_M) (by decide))).trans e22
                    have e23 := (k123 (g.lk M 4) (tg_ne (lo_k11_4 hL _ t_M) (lo_k11_27 hL _ t_M) (by decide))).trans e23
                    have e50 := (k123 (g.lk M 6) (tg_ne (lo_k11_6 hL _ t_M) (lo_k11_27 hL _ t_M) (by decide))).trans e50
                    have e51 := (k123 (g.lk M 7) (tg_ne (lo_k11_7 hL _ t_M) (lo_k11_27 hL _ t_M) (by decide))).trans e51
                    have e60 := (k123 M (tg_ne t_M (lo_k11_27 hL _ t_M) (by decide))).trans e60
                    have e114 := (k123 (g.lk M 26) (tg_ne (lo_k11_26 hL _ t_M) (lo_k11_27 hL _ t_M) (by decide))).trans e114
                    have hu := hu.st k123 (lo_k11_27 hL _ t_M) (by decide)
                    have hv70 := hv70.st k123 (lo_k11_27 hL _ t_M) (by decide)
                    have hk124 : ∀ b, b ≠ (g.lk M 27) → f121 b = f113 b := k123
                    refine lv_iinc (k := 0) (v := nI (j + 1)) (lv' := [(1, .int (nI (j + 1))), (0, .ref M)]) hx hb d_M_load_104 hl rfl (by rw [nI_succ]; rfl) (by decide) rfl (fun ls hl => ?_)
                    refine lv_goto (tgt := 80) hx hb d_M_load_107 (by decide) ?_
                    have hI125 := iv_1 hI117 hL (lo_k11_27 hL _ t_M) (by decide) hk124 (oc_59.mk (lo_k11_27 hL _ t_M) (⟨_, e122⟩))
                    exact ih67 (j + 1) f121 H locs ls (by omega) (by omega) hI125 hv70 hl hP hD hS
              exact lp64 201 0 f59 H locs ls (by omega) (by omega) hI63 un.rf hl hP hD hS
            · skip
              replace b54 := mt (nI_leI (a := n_9) (b := i) (by omega) (by omega)).mpr b54
              refine lv_aload_n hx hb d_M_load_35 rfl (lv_at hl 1 rfl) ?_
              refine pf_get (v := .ref (g.lk M 6)) (C := "BigRunnerModel") (T := FT10) (N := 45) hx hb (hw10 hB _) (fun _ h9 => h9) hown hK hP (lo_in hL t_M (by decide)) e40 rfl 6 (by decide) (wd_953 hB _) rfl d_M_load_36 ?_
              refine lv_iload_n hx hb d_M_load_39 rfl (lv_at hl 0 rfl) ?_
              refine lv_aload_n hx hb d_M_load_40 rfl (lv_at hl 1 rfl) ?_
              refine pf_get (v := .ref (g.lk M 3)) (C := "BigRunnerModel") (T := FT10) (N := 45) hx hb (hw10 hB _) (fun _ h9 => h9) hown hK hP (lo_in hL t_M (by decide)) e40 rfl 3 (by decide) (wd_950 hB _) rfl d_M_load_41 ?_
              refine lv_iload_n hx hb d_M_load_44 rfl (lv_at hl 0 rfl) ?_
              refine pf_iald (i := i) hx hb hK hP (lo_in hL (lo_k11_3 hL _ t_M) (by decide)) e22 (lo_t41 hL _ (lo_k11_3 hL _ t_M)) (by omega) (by decide) d_M_load_45 ?_
              refine pf_iast (i := i) hx hb hK hP hD hS (lo_in hL (lo_k11_6 hL _ t_M) (by decide)) e50 (lo_t43 hL _ (lo_k11_6 hL _ t_M)) (by omega) (by decide) d_M_load_46 (fun f126 H locs e127 k128 hP hD hS => ?_)
              have eT := (k128 (g.lk M 1) (tg_ne (lo_k11_1 hL _ t_M) (lo_k11_6 hL _ t_M) (by decide))).trans eT
              have e22 := (k128 (g.lk M 3) (tg_ne (lo_k11_3 hL _ t_M) (lo_k11_6 hL _ t_M) (by decide))).trans e22
              have e23 := (k128 (g.lk M 4) (tg_ne (lo_k11_4 hL _ t_M) (lo_k11_6 hL _ t_M) (by decide))).trans e23
              have e40 := (k128 M (tg_ne t_M (lo_k11_6 hL _ t_M) (by decide))).trans e40
              have e51 := (k128 (g.lk M 7) (tg_ne (lo_k11_7 hL _ t_M) (lo_k11_6 hL _ t_M) (by decide))).trans e51
              have hu := hu.st k128 (lo_k11_6 hL _ t_M) (by decide)
              have hv53 := hv53.st k128 (lo_k11_6 hL _ t_M) (by decide)
              have hk129 : ∀ b, b ≠ (g.lk M 6) → f126 b = f46 b := k128
              refine lv_aload_n hx hb d_M_load_47 rfl (lv_at hl 1 rfl) ?_
              refine pf_get (v := .ref (g.lk M 7)) (C := "BigRunnerModel") (T := FT10) (N := 45) hx hb (hw10 hB _) (fun _ h9 => h9) hown hK hP (lo_in hL t_M (by decide)) e40 rfl 7 (by decide) (wd_954 hB _) rfl d_M_load_48 ?_
              refine lv_iload_n hx hb d_M_load_51 rfl (lv_at hl 0 rfl) ?_
              refine lv_aload_n hx hb d_M_load_52 rfl (lv_at hl 1 rfl) ?_
              refine pf_get (v := .ref (g.lk M 4)) (C := "BigRunnerModel") (T := FT10) (N := 45) hx hb (hw10 hB _) (fun _ h9 => h9) hown hK hP (lo_in hL t_M (by decide)) e40 rfl 4 (by decide) (wd_951 hB _) rfl d_M_load_53 ?_
              refine lv_iload_n hx hb d_M_load_56 rfl (lv_at hl 0 rfl) ?_
              refine pf_iald (i := i) hx hb hK hP (lo_in hL (lo_k11_4 hL _ t_M) (by decide)) e23 (lo_t42 hL _ (lo_k11_4 hL _ t_M)) (by omega) (by decide) d_M_load_57 ?_
              have hI130 := iv_1 hI52 hL (lo_k11_6 hL _ t_M) (by decide) hk129 (oc_43.mk (lo_k11_6 hL _ t_M) (⟨_, e127⟩))
              refine pf_iast (i := i) hx hb hK hP hD hS (lo_in hL (lo_k11_7 hL _ t_M) (by decide)) e51 (lo_t44 hL _ (lo_k11_7 hL _ t_M)) (by omega) (by decide) d_M_load_58 (fun f131 H locs e132 k133 hP hD hS => ?_)
              have eT := (k133 (g.lk M 1) (tg_ne (lo_k11_1 hL _ t_M) (lo_k11_7 hL _ t_M) (by decide))).trans eT
              have e22 := (k133 (g.lk M 3) (tg_ne (lo_k11_3 hL _ t_M) (lo_k11_7 hL _ t_M) (by decide))).trans e22
              have e23 := (k133 (g.lk M 4) (tg_ne (lo_k11_4 hL _ t_M) (lo_k11_7 hL _ t_M) (by decide))).trans e23
              have e40 := (k133 M (tg_ne t_M (lo_k11_7 hL _ t_M) (by decide))).trans e40
              have e127 := (k133 (g.lk M 6) (tg_ne (lo_k11_6 hL _ t_M) (lo_k11_7 hL _ t_M) (by decide))).trans e127
              have hu := hu.st k133 (lo_k11_7 hL _ t_M) (by decide)
              have hv53 := hv53.st k133 (lo_k11_7 hL _ t_M) (by decide)
              have hk134 : ∀ b, b ≠ (g.lk M 7) → f131 b = f126 b := k133
              refine lv_iinc (k := 0) (v := nI (i + 1)) (lv' := [(1, .int (nI (i + 1))), (0, .ref M)]) hx hb d_M_load_59 hl rfl (by rw [nI_succ]; rfl) (by decide) rfl (fun ls hl => ?_)
              refine lv_goto (tgt := 27) hx hb d_M_load_62 (by decide) ?_
              have hI135 := iv_1 hI130 hL (lo_k11_7 hL _ t_M) (by decide) hk134 (oc_44.mk (lo_k11_7 hL _ t_M) (⟨_, e132⟩))
              exact ih48 (i + 1) (upd c8 i ((d_11 i))) (upd a8 i ((g_12 i))) f131 H locs ls (by omega) (by omega) (smd_s hsc) (smd_s hsa) e127 e132 hI135 hv53 hl hP hD hS
        exact lp45 (n_9 + 1) 0 hC hA f39 H locs ls (by omega) (by omega) (fun i hi => absurd hi (by omega)) (fun i hi => absurd hi (by omega)) eC eA hI44 un.rf hl hP hD hS
      · skip
        replace b43 := mt (nI_leI (a := 0) (b := 0) (by omega) (by omega)).mpr b43
        exfalso; omega
  · skip
    have hbo136 : nI fb_24 = 0 ∨ nI fb_24 = 1 := by rcases (show fb_24 = 0 ∨ fb_24 = 1 by omega) with y | y <;> rw [y] <;> decide
    refine lv_if_eq (tgt := 12) hx hb d_M_load_5 (by decide) (fun b137 => ?_) (fun b137 => ?_)
    · skip
      replace b137 := (nI_eq (a := 0) (b := 0) (by omega) (by omega)).mp b137
      refine lv_iconst (v := nI 1) hx hb d_M_load_12 (by decide) ?_
      refine pf_put (v := .int (nI 1)) (ty := .int) (fs' := [.int (nI 1), .ref (g.lk M 1), .int (nI mn), .ref (g.lk M 3), .ref (g.lk M 4), .int (nI dr_28), .ref (g.lk M 6), .ref (g.lk M 7), .ref (g.lk M 8), .int (nI msz), .int (nI ix_25), .int (nI dp_27), .ref (g.lk M 12), .int (nI wt_29), .ref (g.lk M 14), .ref (g.lk M 15), .int (nI op_26), .ref (g.lk M 17), .ref (g.lk M 18), .ref (g.lk M 19), .ref (g.lk M 20), .ref (g.lk M 21), .ref (g.lk M 22), .ref (g.lk M 23), .ref (g.lk M 24), .ref (g.lk M 25), .ref (g.lk M 26), .ref (g.lk M 27), .ref (g.lk M 28), .ref (g.lk M 29), .ref (g.lk M 30), .ref (g.lk M 31), .int (nI mtp), .ref (g.lk M 33), .ref (g.lk M 34), .ref (g.lk M 35), .int (nI mwa), .int (nI mgi), .int (nI mpc), .int (nI mst), .int (nI mtr), .int (nI msp), .int mma, .int mlg, .int (nI fb_24)]) (C := "BigRunnerModel") (T := FT10) (N := 45) hx hb (hw10 hB _) (fun _ h9 => h9) TY10 ok10 nm10 hown hK hP hD hS (lo_in hL t_M (by decide)) e37 rfl 0 (by decide) (wd_947 hB _) rfl (by decide +kernel) rfl rfl (Nat.le_of_ble_eq_true rfl) rfl d_M_load_13 (fun f138 H locs e139 k140 hP hD hS => ?_)
      have eT := (k140 (g.lk M 1) (tg_ne (lo_k11_1 hL _ t_M) t_M (by decide))).trans eT
      have eC := (k140 (g.lk M 6) (tg_ne (lo_k11_6 hL _ t_M) t_M (by decide))).trans eC
      have eA := (k140 (g.lk M 7) (tg_ne (lo_k11_7 hL _ t_M) t_M (by decide))).trans eA
      have hu := hu.st k140 t_M (by decide)
      have hk141 : ∀ b, b ≠ M → f138 b = f2 b := k140
      refine lv_aload_n hx hb d_M_load_16 rfl (lv_at hl 0 rfl) ?_
      refine pf_get (v := .int (nI 1)) (C := "BigRunnerModel") (T := FT10) (N := 45) hx hb (hw10 hB _) (fun _ h9 => h9) hown hK hP (lo_in hL t_M (by decide)) e139 rfl 0 (by decide) (wd_947 hB _) rfl d_M_load_17 ?_
      refine lv_if_le (tgt := 25) hx hb d_M_load_20 (by decide) (fun b142 => ?_) (fun b142 => ?_)
      · skip
        replace b142 := (nI_leI (a := 1) (b := 0) (by omega) (by omega)).mp b142
        exfalso; omega
      · skip
        replace b142 := mt (nI_leI (a := 1) (b := 0) (by omega) (by omega)).mpr b142
        refine lv_iconst (v := nI 0) hx hb d_M_load_23 (by decide) ?_
        have hI143 := iv_1 hI1_5 hL t_M (by decide) hk141 (oc_11.mk t_M (⟨((nI 1)), mn, dr_28, msz, ix_25, dp_27, wt_29, op_26, mtp, mwa, mgi, mpc, mst, mtr, msp, mma, mlg, ((nI fb_24)), e139, (by omega), (by omega), (by omega), (by omega), (by omega), (by omega), (by omega), (by omega), (by omega), (by omega), (by omega), (by omega), (by omega), (by omega), hbo136⟩))
        exact pe_iret hx hb hr hlocks hK hP hD hS d_M_load_24 ⟨(Or.inr ⟨c30, ⟨fb_24, ix_25, op_26, dp_27, dr_28, wt_29, by omega, by omega, by omega, by omega, by omega, by omega, e139⟩, eC, eA⟩), hI143, hu⟩
    · skip
      replace b137 := mt (nI_eq (a := 0) (b := 0) (by omega) (by omega)).mpr b137
      exfalso; omega
