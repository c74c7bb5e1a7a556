theorem RO_iK {ua ub : Int32} {a b : Int64} {X : IVL} (h1 : RO ua a X.1) (h2 : RO ub b X.2) : iK X := ⟨fun v q => (h1.2 v q).2.2, fun v q => (h2.2 v q).2.2⟩
set_option maxHeartbeats 4000000 in
set_option maxRecDepth 100000 in
theorem m2_round (l : Launch) (g : Lay) (sz : Nat) (f : Nat → va_E) (M : Nat) (mth : Int32) (mn : Nat) (mdr : Nat) (msz : Nat) (mix : Nat) (mdp : Nat) (mwt : Nat) (mop : Nat) (mtp : Nat) (mwa : Nat) (mgi : Nat) (mpc : Nat) (mst : Nat) (mtr : Nat) (msp : Nat) (mma : Int32) (mlg : Int32) (mdu : Int32) (hC : Nat → Int32) (hA : Nat → Int32) (dpf : Nat → Nat) (hLW : Nat → Int64) (hHG : Nat → Int64) (hUN : Nat → Int32) (hOV : Nat → Int32) (n9 : Nat) (L : List (Nat × Nat)) (en : Nat → IVL) (hL : LO g) (t_M : g.tg M = 11) (hI : IV g f) (eM : f M = .inr (10, [.int mth, .ref (g.lk M 1), .int (nI mn), .ref (g.lk M 3), .ref (g.lk M 4), .int (nI mdr), .ref (g.lk M 6), .ref (g.lk M 7), .ref (g.lk M 8), .int (nI msz), .int (nI mix), .int (nI mdp), .ref (g.lk M 12), .int (nI mwt), .ref (g.lk M 14), .ref (g.lk M 15), .int (nI mop), .ref (g.lk M 17), .ref (g.lk M 18), .ref (g.lk M 19), .ref (g.lk M 20), .ref (g.lk M 21), .ref (g.lk M 22), .ref (g.lk M 23), .ref (g.lk M 24), .ref (g.lk M 25), .ref (g.lk M 26), .ref (g.lk M 27), .ref (g.lk M 28), .ref (g.lk M 29), .ref (g.lk M 30), .ref (g.lk M 31), .int (nI mtp), .ref (g.lk M 33), .ref (g.lk M 34), .ref (g.lk M 35), .int (nI mwa), .int (nI mgi), .int (nI mpc), .int (nI mst), .int (nI mtr), .int (nI msp), .int mma, .int mlg, .int mdu])) (hMB : mn ≤ 72 ∧ mdr ≤ 100 ∧ msz ≤ 100 ∧ mix ≤ 100 ∧ mdp ≤ 20 ∧ mwt ≤ 72 ∧ mop ≤ 40 ∧ mtp ≤ 80 ∧ mwa ≤ 20 ∧ mgi ≤ msp ∧ mpc ≤ 100 ∧ mst ≤ 4 ∧ mtr ≤ 3 ∧ msp ≤ 3000 ∧ (mdu = 0 ∨ mdu = 1)) (eC : f (g.lk M 6) = .inl (g.ac (g.lk M 6), 100, .inl hC)) (eA : f (g.lk M 7) = .inl (g.ac (g.lk M 7), 100, .inl hA)) (hWF : WF hC hA dpf msz) (eLW : f (g.lk M 17) = .inl (g.ac (g.lk M 17), 10, .inr (.inl hLW))) (eHG : f (g.lk M 18) = .inl (g.ac (g.lk M 18), 10, .inr (.inl hHG))) (eUN : f (g.lk M 19) = .inl (g.ac (g.lk M 19), 10, .inl hUN)) (eOV : f (g.lk M 20) = .inl (g.ac (g.lk M 20), 10, .inl hOV)) (hn9 : n9 < 1000) (hDS : DS hC hA 0 L) (hLn : L.length = msz) (hLB : ∀ x, x ∈ L → LB x) (hE8 : ∀ p, p < msz → hC p = nI 8 → dpf p = 1) (hVR : VR hLW hHG hUN hOV en) : Met l ⟨"BigRunnerModel", "round", "(I)Z"⟩ [Cond.code ⟨"BigRunnerModel", "round", "(I)Z"⟩ prog_12_method_24_code 4 (some .boolean)] ({ frames := 4, cells := 0, slots := 0, locals := 100 }) (va_Pc [.ref M, .int (nI n9)] (pc_in g sz f)) (va_Qi (fun r f1 => (r = bI (rnd (decide (3 < n9)) en [] false L).2) ∧ (∃ (tp1 : Nat), (tp1 ≤ 80) ∧ f1 M = .inr (10, [.int mth, .ref (g.lk M 1), .int (nI mn), .ref (g.lk M 3), .ref (g.lk M 4), .int (nI mdr), .ref (g.lk M 6), .ref (g.lk M 7), .ref (g.lk M 8), .int (nI msz), .int (nI mix), .int (nI mdp), .ref (g.lk M 12), .int (nI mwt), .ref (g.lk M 14), .ref (g.lk M 15), .int (nI mop), .ref (g.lk M 17), .ref (g.lk M 18), .ref (g.lk M 19), .ref (g.lk M 20), .ref (g.lk M 21), .ref (g.lk M 22), .ref (g.lk M 23), .ref (g.lk M 24), .ref (g.lk M 25), .ref (g.lk M 26), .ref (g.lk M 27), .ref (g.lk M 28), .ref (g.lk M 29), .ref (g.lk M 30), .ref (g.lk M 31), .int (nI tp1), .ref (g.lk M 33), .ref (g.lk M 34), .ref (g.lk M 35), .int (nI mwa), .int (nI mgi), .int (nI mpc), .int (nI mst), .int (nI mtr), .int (nI msp), .int mma, .int mlg, .int mdu])) ∧ (∃ (lw1 hg1 : Nat → Int64) (un1 ov1 : Nat → Int32), f1 (g.lk M 17) = .inl (g.ac (g.lk M 17), 10, .inr (.inl lw1)) ∧ f1 (g.lk M 18) = .inl (g.ac (g.lk M 18), 10, .inr (.inl hg1)) ∧ f1 (g.lk M 19) = .inl (g.ac (g.lk M 19), 10, .inl un1) ∧ f1 (g.lk M 20) = .inl (g.ac (g.lk M 20), 10, .inl ov1) ∧ VR lw1 hg1 un1 ov1 (rnd (decide (3 < n9)) en [] false L).1 ∧ CZ4 (rnd (decide (3 < n9)) en [] false L).2 (decide (3 < n9)) (cz un1 10 + cz ov1 10) (cz hUN 10 + cz hOV 10)) ∧ (IV g f1) ∧ (un [11, 45, 49, 50, 51, 52, 53, 54, 55, 56, 57] g f f1)) (pc_out g sz) (pc_A g sz)) 0 0 (pc_A g sz) := by
  refine pe_ofW (cc := prog_12_method_24_code) (maxL := 4) (ret := (some .boolean)) (lv := [(0, .ref M), (1, .int (nI n9))]) (by decide) (Nat.le_of_ble_eq_true rfl) rfl ?_
  intro p e s m args below meth c ls hx hb hr hml hlocks hown hB hP hK hD hsz hS hl
  subst hsz
  have hu : un [11, 45, 49, 50, 51, 52, 53, 54, 55, 56, 57] g f f := un.rf
  obtain ⟨hmb0, hmb1, hmb2, hmb3, hmb4, hmb5, hmb6, hmb7, hmb8, hmb9, hmb10, hmb11, hmb12, hmb13, hmb14⟩ := hMB
  refine lv_iconst (v := nI 0) hx hb d_M_round_0 (by decide) ?_
  refine lv_istore_n (lv' := [(2, .int (nI 0)), (0, .ref M), (1, .int (nI n9))]) hx hb d_M_round_1 rfl hl (by decide) rfl (fun ls hl => ?_)
  refine lv_aload_n hx hb d_M_round_2 rfl (lv_at hl 1 rfl) ?_
  refine lv_iconst (v := nI 0) hx hb d_M_round_3 (by decide) ?_
  refine pf_put (v := .int (nI 0)) (ty := .int) (fs' := [.int mth, .ref (g.lk M 1), .int (nI mn), .ref (g.lk M 3), .ref (g.lk M 4), .int (nI mdr), .ref (g.lk M 6), .ref (g.lk M 7), .ref (g.lk M 8), .int (nI msz), .int (nI mix), .int (nI mdp), .ref (g.lk M 12), .int (nI mwt), .ref (g.lk M 14), .ref (g.lk M 15), .int (nI mop), .ref (g.lk M 17), .ref (g.lk M 18), .ref (g.lk M 19), .ref (g.lk M 20), .ref (g.lk M 21), .ref (g.lk M 22), .ref (g.lk M 23), .ref (g.lk M 24), .ref (g.lk M 25), .ref (g.lk M 26), .ref (g.lk M 27), .ref (g.lk M 28), .ref (g.lk M 29), .ref (g.lk M 30), .ref (g.lk M 31), .int (nI 0), .ref (g.lk M 33), .ref (g.lk M 34), .ref (g.lk M 35), .int (nI mwa), .int (nI mgi), .int (nI mpc), .int (nI mst), .int (nI mtr), .int (nI msp), .int mma, .int mlg, .int mdu]) (C := "BigRunnerModel") (T := FT10) (N := 45) hx hb (hw10 hB _) (fun _ h9 => h9) TY10 ok10 nm10 hown hK hP hD hS (lo_in hL t_M (by decide)) eM rfl 32 (by decide) (wd_979 hB _) rfl (by decide +kernel) rfl rfl (Nat.le_of_ble_eq_true rfl) rfl d_M_round_4 (fun f1 H locs e2 k3 hP hD hS => ?_)
  have eC := (k3 (g.lk M 6) (tg_ne (lo_k11_6 hL _ t_M) t_M (by decide))).trans eC
  have eA := (k3 (g.lk M 7) (tg_ne (lo_k11_7 hL _ t_M) t_M (by decide))).trans eA
  have eUN := (k3 (g.lk M 19) (tg_ne (lo_k11_19 hL _ t_M) t_M (by decide))).trans eUN
  have eOV := (k3 (g.lk M 20) (tg_ne (lo_k11_20 hL _ t_M) t_M (by decide))).trans eOV
  have eLW := (k3 (g.lk M 17) (tg_ne (lo_k11_17 hL _ t_M) t_M (by decide))).trans eLW
  have eHG := (k3 (g.lk M 18) (tg_ne (lo_k11_18 hL _ t_M) t_M (by decide))).trans eHG
  have hu := hu.st k3 t_M (by decide)
  have hk4 : ∀ b, b ≠ M → f1 b = f b := k3
  refine lv_iconst (v := nI 0) hx hb d_M_round_7 (by decide) ?_
  refine lv_istore_n (lv' := [(3, .int (nI 0)), (2, .int (nI 0)), (0, .ref M), (1, .int (nI n9))]) hx hb d_M_round_8 rfl hl (by decide) rfl (fun ls hl => ?_)
  obtain ⟨h_6, e5⟩ := oc_55.of (lo_k11_23 hL _ t_M) (hI.1 (g.lk M 23))
  replace e5 := (hk4 (g.lk M 23) (tg_ne (lo_k11_23 hL _ t_M) t_M (by decide))).trans e5
  obtain ⟨h_9, e8⟩ := oc_56.of (lo_k11_24 hL _ t_M) (hI.1 (g.lk M 24))
  replace e8 := (hk4 (g.lk M 24) (tg_ne (lo_k11_24 hL _ t_M) t_M (by decide))).trans e8
  obtain ⟨h_12, e11⟩ := oc_53.of (lo_k11_21 hL _ t_M) (hI.1 (g.lk M 21))
  replace e11 := (hk4 (g.lk M 21) (tg_ne (lo_k11_21 hL _ t_M) t_M (by decide))).trans e11
  obtain ⟨h_15, e14⟩ := oc_54.of (lo_k11_22 hL _ t_M) (hI.1 (g.lk M 22))
  replace e14 := (hk4 (g.lk M 22) (tg_ne (lo_k11_22 hL _ t_M) t_M (by decide))).trans e14
  have hI17 := iv_1 hI hL t_M (by decide) hk4 (oc_11.mk t_M (⟨mth, mn, mdr, msz, mix, mdp, mwt, mop, 0, mwa, mgi, mpc, mst, mtr, msp, mma, mlg, mdu, e2, (by omega), (by omega), (by omega), (by omega), (by omega), (by omega), (by omega), (by omega), (by omega), (by omega), (by omega), (by omega), (by omega), (by omega), hmb14⟩))
  have lp18 : ∀ (k20 : Nat) (mvb : Bool) (p9 : Nat) (t9 : Nat) (lw2 : Nat → Int64) (hg2 : Nat → Int64) (un2 : Nat → Int32) (ov2 : Nat → Int32) (ua2 : Nat → Int32) (ub2 : Nat → Int32) (a2 : Nat → Int64) (b2 : Nat → Int64) (S2 : List IVL) (en2 : Nat → IVL) (Lr : List (Nat × Nat)) (f19 : Nat → va_E) (H : Heap) (locs : List Loc) (ls : Array Slot), (msz < p9 + k20) → (p9 ≤ msz) → (t9 = dpf p9) → (t9 ≤ 80) → (DS hC hA p9 Lr) → (p9 + Lr.length = msz) → (∀ x, x ∈ Lr → LB x) → (MR ua2 a2 ub2 b2 t9 S2) → (VR lw2 hg2 un2 ov2 en2) → (rnd (decide (3 < n9)) en [] false L = rnd (decide (3 < n9)) en2 S2 mvb Lr) → (CZ4 mvb (decide (3 < n9)) (cz un2 10 + cz ov2 10) (cz hUN 10 + cz hOV 10)) → f19 M = .inr (10, [.int mth, .ref (g.lk M 1), .int (nI mn), .ref (g.lk M 3), .ref (g.lk M 4), .int (nI mdr), .ref (g.lk M 6), .ref (g.lk M 7), .ref (g.lk M 8), .int (nI msz), .int (nI mix), .int (nI mdp), .ref (g.lk M 12), .int (nI mwt), .ref (g.lk M 14), .ref (g.lk M 15), .int (nI mop), .ref (g.lk M 17), .ref (g.lk M 18), .ref (g.lk M 19), .ref (g.lk M 20), .ref (g.lk M 21), .ref (g.lk M 22), .ref (g.lk M 23), .ref (g.lk M 24), .ref (g.lk M 25), .ref (g.lk M 26), .ref (g.lk M 27), .ref (g.lk M 28), .ref (g.lk M 29), .ref (g.lk M 30), .ref (g.lk M 31), .int (nI t9), .ref (g.lk M 33), .ref (g.lk M 34), .ref (g.lk M 35), .int (nI mwa), .int (nI mgi), .int (nI mpc), .int (nI mst), .int (nI mtr), .int (nI msp), .int mma, .int mlg, .int mdu]) → f19 (g.lk M 17) = .inl (g.ac (g.lk M 17), 10, .inr (.inl (lw2))) → f19 (g.lk M 18) = .inl (g.ac (g.lk M 18), 10, .inr (.inl (hg2))) → f19 (g.lk M 19) = .inl (g.ac (g.lk M 19), 10, .inl (un2)) → f19 (g.lk M 20) = .inl (g.ac (g.lk M 20), 10, .inl (ov2)) → f19 (g.lk M 23) = .inl (g.ac (g.lk M 23), 80, .inl (ua2)) → f19 (g.lk M 24) = .inl (g.ac (g.lk M 24), 80, .inl (ub2)) → f19 (g.lk M 21) = .inl (g.ac (g.lk M 21), 80, .inr (.inl (a2))) → f19 (g.lk M 22) = .inl (g.ac (g.lk M 22), 80, .inr (.inl (b2))) → IV g f19 → un [11, 45, 49, 50, 51, 52, 53, 54, 55, 56, 57] g f1 f19 → lv_has ls 4 [(3, .int (nI p9)), (2, .int (bI mvb)), (0, .ref M), (1, .int (nI n9))] → va_P g.D vcl (va_pl g.LP f19) H → va_D (pc_A g s.heap.size) (va_pl g.LP f19) → va_S (pc_A g s.heap.size) s.heap H locs → W p l e ({ frames := 4, cells := 0, slots := 0, locals := 100 }) s m args below meth c H locs 0 0 (MQ below (va_Qi (fun r f1 => (r = bI (rnd (decide (3 < n9)) en [] false L).2) ∧ (∃ (tp1 : Nat), (tp1 ≤ 80) ∧ f1 M = .inr (10, [.int mth, .ref (g.lk M 1), .int (nI mn), .ref (g.lk M 3), .ref (g.lk M 4), .int (nI mdr), .ref (g.lk M 6), .ref (g.lk M 7), .ref (g.lk M 8), .int (nI msz), .int (nI mix), .int (nI mdp), .ref (g.lk M 12), .int (nI mwt), .ref (g.lk M 14), .ref (g.lk M 15), .int (nI mop), .ref (g.lk M 17), .ref (g.lk M 18), .ref (g.lk M 19), .ref (g.lk M 20), .ref (g.lk M 21), .ref (g.lk M 22), .ref (g.lk M 23), .ref (g.lk M 24), .ref (g.lk M 25), .ref (g.lk M 26), .ref (g.lk M 27), .ref (g.lk M 28), .ref (g.lk M 29), .ref (g.lk M 30), .ref (g.lk M 31), .int (nI tp1), .ref (g.lk M 33), .ref (g.lk M 34), .ref (g.lk M 35), .int (nI mwa), .int (nI mgi), .int (nI mpc), .int (nI mst), .int (nI mtr), .int (nI msp), .int mma, .int mlg, .int mdu])) ∧ (∃ (lw1 hg1 : Nat → Int64) (un1 ov1 : Nat → Int32), f1 (g.lk M 17) = .inl (g.ac (g.lk M 17), 10, .inr (.inl lw1)) ∧ f1 (g.lk M 18) = .inl (g.ac (g.lk M 18), 10, .inr (.inl hg1)) ∧ f1 (g.lk M 19) = .inl (g.ac (g.lk M 19), 10, .inl un1) ∧ f1 (g.lk M 20) = .inl (g.ac (g.lk M 20), 10, .inl ov1) ∧ VR lw1 hg1 un1 ov1 (rnd (decide (3 < n9)) en [] false L).1 ∧ CZ4 (rnd (decide (3 < n9)) en [] false L).2 (decide (3 < n9)) (cz un1 10 + cz ov1 10) (cz hUN 10 + cz hOV 10)) ∧ (IV g f1) ∧ (un [11, 45, 49, 50, 51, 52, 53, 54, 55, 56, 57] g f f1)) (pc_out g s.heap.size) (pc_A g s.heap.size)) args s 0 0 (pc_A g s.heap.size)) (F0 m 9 ls []) := by
    intro k20
    induction k20 with
    | zero => intros; exfalso; omega
    | succ k20 ih21 =>
      intro mvb p9 t9 lw2 hg2 un2 ov2 ua2 ub2 a2 b2 S2 en2 Lr f19 H locs ls hfu22 hp9 ht9 ht8 hDSr hlen hLBr hMR2 hVR2 hrnd hcz e23 e24 e25 e26 e27 e28 e29 e30 e31 hI32 hv33 hl hP hD hS
      have eC := hv33.at (lo_k11_6 hL _ t_M) (by decide) eC
      have eA := hv33.at (lo_k11_7 hL _ t_M) (by decide) eA
      have hu := hu.tr hv33 (by decide)
      refine lv_iload_n hx hb d_M_round_9 rfl (lv_at hl 0 rfl) ?_
      refine lv_aload_n hx hb d_M_round_10 rfl (lv_at hl 2 rfl) ?_
      refine pf_get (v := .int (nI msz)) (C := "BigRunnerModel") (T := FT10) (N := 45) hx hb (hw10 hB _) (fun _ h9 => h9) hown hK hP (lo_in hL t_M (by decide)) e23 rfl 9 (by decide) (wd_956 hB _) rfl d_M_round_11 ?_
      refine lv_icmp_ge (tgt := 115) hx hb d_M_round_14 (by decide) (fun b34 => ?_) (fun b34 => ?_)
      · skip
        replace b34 := (nI_leI (a := msz) (b := p9) (by omega) (by omega)).mp b34
        have hLn9 : Lr = [] := DS_nil_len (by omega)
        subst hLn9
        refine lv_iload_n hx hb d_M_round_115 rfl (lv_at hl 1 rfl) ?_
        exact pe_zret hx hb hr hlocks hK hP hD hS d_M_round_116 (by rcases (bI_bo mvb) with h9 | h9 <;> rw [h9] <;> rfl) ⟨(by rw [hrnd]; rfl), ⟨t9, by omega, e23⟩, ⟨_, _, _, _, e24, e25, e26, e27, (by rw [hrnd]; exact ⟨hVR2, hcz⟩)⟩, hI32, hu⟩
      · skip
        replace b34 := mt (nI_leI (a := msz) (b := p9) (by omega) (by omega)).mpr b34
        rcases Lr with _ | ⟨⟨w, v⟩, L9⟩
        · exact absurd hlen (by rw [List.length_nil]; omega)
        · skip
          rw [List.length_cons] at hlen
          obtain ⟨hw, hv, hDS9⟩ := hDSr
          have hB9 := hLBr (w, v) (List.mem_cons_self)
          obtain ⟨hw12, hv9, hv89⟩ := hB9
          obtain ⟨w0, v0, hWO⟩ := hWF.2.2 p9 (by omega)
          have q5 := wo_dp hWO
          have q0 := wo_12 hWO
          have q1 := wo_b hWO
          obtain rfl : w = w0 := w_eq hw (wo_c hWO) (by have : w ≤ 12 := hw12; omega) (by omega)
          have hw12 : w ≤ 12 := hw12
          have hv9 : w < 2 → v < 1000000000 := hv9
          have hv89 : w = 8 ∨ w = 9 → v < 2147483648 := hv89
          have hWSv : WS w v t9 := ⟨fun z => by have y := (ws_of hWO ht9).1 z; have y2 := hv9 (by omega); have y3 := w_eq hv (wo_a hWO) (by omega) (by omega); omega, (ws_of hWO ht9).2⟩
          have hLB9 : ∀ x, x ∈ L9 → LB x := fun x q => hLBr x (List.mem_cons_of_mem _ q)
          have hHv : w = 8 ∨ w = 9 → v < 10 := fun z => by have y := wo_v hWO (by omega) (by omega); have y2 := hv89 z; have y3 := w_eq hv (wo_a hWO) (by omega) (by omega); omega
          clear hv89 hLBr
          refine lv_aload_n hx hb d_M_round_17 rfl (lv_at hl 2 rfl) ?_
          refine pf_get (v := .ref (g.lk M 6)) (C := "BigRunnerModel") (T := FT10) (N := 45) hx hb (hw10 hB _) (fun _ h9 => h9) hown hK hP (lo_in hL t_M (by decide)) e23 rfl 6 (by decide) (wd_953 hB _) rfl d_M_round_18 ?_
          refine lv_iload_n hx hb d_M_round_21 rfl (lv_at hl 0 rfl) ?_
          refine pf_iald (i := p9) hx hb hK hP (lo_in hL (lo_k11_6 hL _ t_M) (by decide)) eC (lo_t43 hL _ (lo_k11_6 hL _ t_M)) (by omega) (by decide) d_M_round_22 ?_
          refine lv_topi (fun z_ hz_ => ?_)
          obtain rfl : z_ = nI w := hz_.trans hw
          refine lv_bipush (v := nI 8) hx hb d_M_round_23 (by decide) ?_
          refine lv_icmp_ge (tgt := 36) hx hb d_M_round_25 (by decide) (fun b35 => ?_) (fun b35 => ?_)
          · skip
            replace b35 := (nI_leI (a := 8) (b := w) (by omega) (by omega)).mp b35
            have q10 := wo_end hWO (by omega)
            rcases (show w = 8 ∨ w = 9 ∨ 10 ≤ w by omega) with rfl | rfl | hwt10
            · skip
              have hvt := hHv (Or.inl rfl)
              clear hv9 hHv
              have ht1 := ht9.trans (hE8 p9 (by omega) hw)
              obtain ⟨X9, S9, rfl, hX1, hX2, hMR9⟩ := MR_pop hMR2 (by omega)
              rw [show t9 - 1 = 0 by omega] at hX1 hX2
              refine lv_aload_n hx hb d_M_round_36 rfl (lv_at hl 2 rfl) ?_
              refine pf_get (v := .ref (g.lk M 6)) (C := "BigRunnerModel") (T := FT10) (N := 45) hx hb (hw10 hB _) (fun _ h9 => h9) hown hK hP (lo_in hL t_M (by decide)) e23 rfl 6 (by decide) (wd_953 hB _) rfl d_M_round_37 ?_
              refine lv_iload_n hx hb d_M_round_40 rfl (lv_at hl 0 rfl) ?_
              refine pf_iald (i := p9) hx hb hK hP (lo_in hL (lo_k11_6 hL _ t_M) (by decide)) eC (lo_t43 hL _ (lo_k11_6 hL _ t_M)) (by omega) (by decide) d_M_round_41 ?_
              refine lv_topi (fun z_ hz_ => ?_)
              obtain rfl : z_ = nI 8 := hz_.trans hw
              refine lv_bipush (v := nI 9) hx hb d_M_round_42 (by decide) ?_
              refine lv_icmp_ne (tgt := 60) hx hb d_M_round_44 (by decide) (fun b36 => ?_) (fun b36 => ?_)
              · skip
                replace b36 := mt (nI_eq (a := 8) (b := 9) (by omega) (by omega)).mpr b36
                refine lv_aload_n hx hb d_M_round_60 rfl (lv_at hl 2 rfl) ?_
                refine pf_get (v := .ref (g.lk M 6)) (C := "BigRunnerModel") (T := FT10) (N := 45) hx hb (hw10 hB _) (fun _ h9 => h9) hown hK hP (lo_in hL t_M (by decide)) e23 rfl 6 (by decide) (wd_953 hB _) rfl d_M_round_61 ?_
                refine lv_iload_n hx hb d_M_round_64 rfl (lv_at hl 0 rfl) ?_
                refine pf_iald (i := p9) hx hb hK hP (lo_in hL (lo_k11_6 hL _ t_M) (by decide)) eC (lo_t43 hL _ (lo_k11_6 hL _ t_M)) (by omega) (by decide) d_M_round_65 ?_
                refine lv_topi (fun z_ hz_ => ?_)
                obtain rfl : z_ = nI 8 := hz_.trans hw
                refine lv_bipush (v := nI 10) hx hb d_M_round_66 (by decide) ?_
                refine lv_icmp_ge (tgt := 104) hx hb d_M_round_68 (by decide) (fun b37 => ?_) (fun b37 => ?_)
                · skip
                  replace b37 := (nI_leI (a := 10) (b := 8) (by omega) (by omega)).mp b37
                  exfalso; omega
                · skip
                  replace b37 := mt (nI_leI (a := 10) (b := 8) (by omega) (by omega)).mpr b37
                  refine lv_aload_n hx hb d_M_round_71 rfl (lv_at hl 2 rfl) ?_
                  refine lv_aload_n hx hb d_M_round_72 rfl (lv_at hl 2 rfl) ?_
                  refine pf_get (v := .ref (g.lk M 7)) (C := "BigRunnerModel") (T := FT10) (N := 45) hx hb (hw10 hB _) (fun _ h9 => h9) hown hK hP (lo_in hL t_M (by decide)) e23 rfl 7 (by decide) (wd_954 hB _) rfl d_M_round_73 ?_
                  refine lv_iload_n hx hb d_M_round_76 rfl (lv_at hl 0 rfl) ?_
                  refine pf_iald (i := p9) hx hb hK hP (lo_in hL (lo_k11_7 hL _ t_M) (by decide)) eA (lo_t44 hL _ (lo_k11_7 hL _ t_M)) (by omega) (by decide) d_M_round_77 ?_
                  refine lv_topi (fun z_ hz_ => ?_)
                  obtain rfl : z_ = nI v := hz_.trans hv
                  refine lv_iload_n hx hb d_M_round_78 rfl (lv_at hl 3 rfl) ?_
                  refine lv_iconst (v := nI 3) hx hb d_M_round_79 (by decide) ?_
                  refine lv_icmp_le (tgt := 87) hx hb d_M_round_80 (by decide) (fun b38 => ?_) (fun b38 => ?_)
                  · skip
                    replace b38 := (nI_leI (a := n9) (b := 3) (by omega) (by omega)).mp b38
                    refine lv_iconst (v := nI 0) hx hb d_M_round_87 (by decide) ?_
                    have hdw9 : decide (3 < n9) = false := decide_eq_false (by omega)
                    refine pcc_i (va_runV (C := "BigRunnerModel") (As := [.int (nI v), .int (nI 0)]) (rest := []) ⟨hx, hb, hml, hown, tb_nil⟩ (m2_joined l g H.size f19 M v false lw2 hg2 un2 ov2 ua2 ub2 a2 b2 hL t_M hI32 (by omega) e24 e25 e26 e27 e28 e29 e30 e31) ⟨(callB_of 2 (tb_one (wd_1189 hB _)) tb_good1 rfl rfl rfl (wd_82 hB _) (wd_1186 hB _) (by decide +kernel) ⟨Nat.le_of_ble_eq_true rfl, Nat.le_of_ble_eq_true rfl⟩), (wd_1188 hB _), (wd_56 hB _)⟩ ⟨pe_bl, pg_recv (ci := 10) hK hP (lo_in hL t_M (by decide)) e23 rfl, pe_pre hB hK hP hD⟩ rfl rfl hl.1 rfl (lv_room (Nat.le_of_ble_eq_true rfl)) d_M_round_88 ⟨Nat.le_of_ble_eq_true rfl, Nat.le_of_ble_eq_true rfl⟩) hS (fun r39 f40 H locs hq41 hP hD hS => ?_)
                    obtain ⟨qv_42, aLW_43, aHG_44, aUN_45, aOV_46, hI1_47, hu1_48⟩ := hq41
                    subst qv_42
                    have hu := hu.tr hu1_48 (by decide)
                    have hv33 := hv33.tr hu1_48 (by decide)
                    have eC := hu1_48.at (lo_k11_6 hL _ t_M) (by decide) eC
                    have eA := hu1_48.at (lo_k11_7 hL _ t_M) (by decide) eA
                    have e23 := hu1_48.at t_M (by decide) e23
                    have e28 := hu1_48.at (lo_k11_23 hL _ t_M) (by decide) e28
                    have e29 := hu1_48.at (lo_k11_24 hL _ t_M) (by decide) e29
                    have e30 := hu1_48.at (lo_k11_21 hL _ t_M) (by decide) e30
                    have e31 := hu1_48.at (lo_k11_22 hL _ t_M) (by decide) e31
                    have jn49 : ∀ (bj50 : Int32), bj50 = (bI ((jdn (un2 v) (ua2 0) (lw2 v) (a2 0) || jup (ov2 v) (ub2 0) (hg2 v) (b2 0)) || mvb)) → ∀ (H : Heap) (locs : List Loc), va_P g.D vcl (va_pl g.LP f40) H → va_D (pc_A g s.heap.size) (va_pl g.LP f40) → va_S (pc_A g s.heap.size) s.heap H locs → W p l e ({ frames := 4, cells := 0, slots := 0, locals := 100 }) s m args below meth c H locs 0 0 (MQ below (va_Qi (fun r f1 => (r = bI (rnd (decide (3 < n9)) en [] false L).2) ∧ (∃ (tp1 : Nat), (tp1 ≤ 80) ∧ f1 M = .inr (10, [.int mth, .ref (g.lk M 1), .int (nI mn), .ref (g.lk M 3), .ref (g.lk M 4), .int (nI mdr), .ref (g.lk M 6), .ref (g.lk M 7), .ref (g.lk M 8), .int (nI msz), .int (nI mix), .int (nI mdp), .ref (g.lk M 12), .int (nI mwt), .ref (g.lk M 14), .ref (g.lk M 15), .int (nI mop), .ref (g.lk M 17), .ref (g.lk M 18), .ref (g.lk M 19), .ref (g.lk M 20), .ref (g.lk M 21), .ref (g.lk M 22), .ref (g.lk M 23), .ref (g.lk M 24), .ref (g.lk M 25), .ref (g.lk M 26), .ref (g.lk M 27), .ref (g.lk M 28), .ref (g.lk M 29), .ref (g.lk M 30), .ref (g.lk M 31), .int (nI tp1), .ref (g.lk M 33), .ref (g.lk M 34), .ref (g.lk M 35), .int (nI mwa), .int (nI mgi), .int (nI mpc), .int (nI mst), .int (nI mtr), .int (nI msp), .int mma, .int mlg, .int mdu])) ∧ (∃ (lw1 hg1 : Nat → Int64) (un1 ov1 : Nat → Int32), f1 (g.lk M 17) = .inl (g.ac (g.lk M 17), 10, .inr (.inl lw1)) ∧ f1 (g.lk M 18) = .inl (g.ac (g.lk M 18), 10, .inr (.inl hg1)) ∧ f1 (g.lk M 19) = .inl (g.ac (g.lk M 19), 10, .inl un1) ∧ f1 (g.lk M 20) = .inl (g.ac (g.lk M 20), 10, .inl ov1) ∧ VR lw1 hg1 un1 ov1 (rnd (decide (3 < n9)) en [] false L).1 ∧ CZ4 (rnd (decide (3 < n9)) en [] false L).2 (decide (3 < n9)) (cz un1 10 + cz ov1 10) (cz hUN 10 + cz hOV 10)) ∧ (IV g f1) ∧ (un [11, 45, 49, 50, 51, 52, 53, 54, 55, 56, 57] g f f1)) (pc_out g s.heap.size) (pc_A g s.heap.size)) args s 0 0 (pc_A g s.heap.size)) (F0 m 103 ls [.int bj50]) := by
                      intro bj50 hbj51 H locs hP hD hS
                      subst hbj51
                      refine lv_istore_n (lv' := [(2, .int (bI ((jdn (un2 v) (ua2 0) (lw2 v) (a2 0) || jup (ov2 v) (ub2 0) (hg2 v) (b2 0)) || mvb))), (3, .int (nI p9)), (0, .ref M), (1, .int (nI n9))]) hx hb d_M_round_103 rfl hl (by decide) rfl (fun ls hl => ?_)
                      refine lv_aload_n hx hb d_M_round_104 rfl (lv_at hl 2 rfl) ?_
                      refine lv_iconst (v := nI 0) hx hb d_M_round_105 (by decide) ?_
                      refine pf_put (v := .int (nI 0)) (ty := .int) (fs' := [.int mth, .ref (g.lk M 1), .int (nI mn), .ref (g.lk M 3), .ref (g.lk M 4), .int (nI mdr), .ref (g.lk M 6), .ref (g.lk M 7), .ref (g.lk M 8), .int (nI msz), .int (nI mix), .int (nI mdp), .ref (g.lk M 12), .int (nI mwt), .ref (g.lk M 14), .ref (g.lk M 15), .int (nI mop), .ref (g.lk M 17), .ref (g.lk M 18), .ref (g.lk M 19), .ref (g.lk M 20), .ref (g.lk M 21), .ref (g.lk M 22), .ref (g.lk M 23), .ref (g.lk M 24), .ref (g.lk M 25), .ref (g.lk M 26), .ref (g.lk M 27), .ref (g.lk M 28), .ref (g.lk M 29), .ref (g.lk M 30), .ref (g.lk M 31), .int (nI 0), .ref (g.lk M 33), .ref (g.lk M 34), .ref (g.lk M 35), .int (nI mwa), .int (nI mgi), .int (nI mpc), .int (nI mst), .int (nI mtr), .int (nI msp), .int mma, .int mlg, .int mdu]) (C := "BigRunnerModel") (T := FT10) (N := 45) hx hb (hw10 hB _) (fun _ h9 => h9) TY10 ok10 nm10 hown hK hP hD hS (lo_in hL t_M (by decide)) e23 rfl 32 (by decide) (wd_979 hB _) rfl (by decide +kernel) rfl rfl (Nat.le_of_ble_eq_true rfl) rfl d_M_round_106 (fun f52 H locs e53 k54 hP hD hS => ?_)
                      have eC := (k54 (g.lk M 6) (tg_ne (lo_k11_6 hL _ t_M) t_M (by decide))).trans eC
                      have eA := (k54 (g.lk M 7) (tg_ne (lo_k11_7 hL _ t_M) t_M (by decide))).trans eA
                      have e28 := (k54 (g.lk M 23) (tg_ne (lo_k11_23 hL _ t_M) t_M (by decide))).trans e28
                      have e29 := (k54 (g.lk M 24) (tg_ne (lo_k11_24 hL _ t_M) t_M (by decide))).trans e29
                      have e30 := (k54 (g.lk M 21) (tg_ne (lo_k11_21 hL _ t_M) t_M (by decide))).trans e30
                      have e31 := (k54 (g.lk M 22) (tg_ne (lo_k11_22 hL _ t_M) t_M (by decide))).trans e31
                      have aLW_43 := (k54 (g.lk M 17) (tg_ne (lo_k11_17 hL _ t_M) t_M (by decide))).trans aLW_43
                      have aHG_44 := (k54 (g.lk M 18) (tg_ne (lo_k11_18 hL _ t_M) t_M (by decide))).trans aHG_44
                      have aUN_45 := (k54 (g.lk M 19) (tg_ne (lo_k11_19 hL _ t_M) t_M (by decide))).trans aUN_45
                      have aOV_46 := (k54 (g.lk M 20) (tg_ne (lo_k11_20 hL _ t_M) t_M (by decide))).trans aOV_46
                      have hu := hu.st k54 t_M (by decide)
                      have hv33 := hv33.st k54 t_M (by decide)
                      have hk55 : ∀ b, b ≠ M → f52 b = f40 b := k54
                      refine lv_iinc (k := 1) (v := nI (p9 + 1)) (lv' := [(3, .int (nI (p9 + 1))), (2, .int (bI ((jdn (un2 v) (ua2 0) (lw2 v) (a2 0) || jup (ov2 v) (ub2 0) (hg2 v) (b2 0)) || mvb))), (0, .ref M), (1, .int (nI n9))]) hx hb d_M_round_109 hl rfl (by rw [nI_succ]; rfl) (by decide) rfl (fun ls hl => ?_)
                      refine lv_goto (tgt := 9) hx hb d_M_round_112 (by decide) ?_
                      have hI56 := iv_1 hI1_47 hL t_M (by decide) hk55 (oc_11.mk t_M (⟨mth, mn, mdr, msz, mix, mdp, mwt, mop, 0, mwa, mgi, mpc, mst, mtr, msp, mma, mlg, mdu, e53, (by omega), (by omega), (by omega), (by omega), (by omega), (by omega), (by omega), (by omega), (by omega), (by omega), (by omega), (by omega), (by omega), (by omega), hmb14⟩))
                      have hmv9 : ((jdn (un2 v) (ua2 0) (lw2 v) (a2 0) || jup (ov2 v) (ub2 0) (hg2 v) (b2 0)) || mvb) = (mvI (en2 v) X9 || mvb) := by congr 1; exact mv_j hVR2 hvt hX1 hX2
                      have hl : lv_has ls 4 [(3, .int (nI (p9 + 1))), (2, .int (bI (mvI (en2 v) X9 || mvb))), (0, .ref M), (1, .int (nI n9))] := by rw [← hmv9]; exact hl
                      have hXK : iK X9 := RO_iK hX1 hX2
                      exact ih21 ((mvI (en2 v) X9 || mvb)) (p9 + 1) 0 (if jdn (un2 v) (ua2 0) (lw2 v) (a2 0) = true then vp_updL lw2 v (a2 0) else lw2) (if jup (ov2 v) (ub2 0) (hg2 v) (b2 0) = true then vp_updL hg2 v (b2 0) else hg2) (if jdn (un2 v) (ua2 0) (lw2 v) (a2 0) = true then upd un2 v (bI (nzf (ua2 0) || false)) else un2) (if jup (ov2 v) (ub2 0) (hg2 v) (b2 0) = true then upd ov2 v (bI (nzf (ub2 0) || false)) else ov2) ua2 ub2 a2 b2 ([]) ((enu en2 v (jnI (decide (3 < n9)) (en2 v) X9))) L9 f52 H locs ls (by omega) (by omega) q10.symm (by omega) hDS9 (by omega) hLB9 rfl (by rw [hdw9]; exact VR_j hVR2 hvt hX1 hX2 hXK) (hrnd.trans (rnd_8 (decide (3 < n9)) en2 _ mvb v L9)) (by rw [← hmv9, hdw9]; rw [hdw9] at hcz; exact cz_j hvt jdn_0 jup_0 hcz) e53 aLW_43 aHG_44 aUN_45 aOV_46 e28 e29 e30 e31 hI56 hv33 hl hP hD hS
                    refine lv_if_ne (tgt := 98) hx hb d_M_round_91 (by decide) (fun b57 => ?_) (fun b57 => ?_)
                    · skip
                      replace b57 : ¬ (bI (jdn (un2 v) (ua2 0) (lw2 v) (a2 0) || jup (ov2 v) (ub2 0) (hg2 v) (b2 0))) = nI 0 := b57
                      replace b57 := bI_1 b57
                      refine lv_iconst (v := nI 1) hx hb d_M_round_98 (by decide) ?_
                      refine lv_goto (tgt := 103) hx hb d_M_round_99 (by decide) ?_
                      exact jn49 ((nI 1)) (by rw [b57]; rfl) _ _ hP hD hS
                    · skip
                      replace b57 : (bI (jdn (un2 v) (ua2 0) (lw2 v) (a2 0) || jup (ov2 v) (ub2 0) (hg2 v) (b2 0))) = nI 0 := b57
                      replace b57 := bI_0 b57
                      refine lv_iload_n hx hb d_M_round_94 rfl (lv_at hl 1 rfl) ?_
                      refine lv_if_eq (tgt := 102) hx hb d_M_round_95 (by decide) (fun b58 => ?_) (fun b58 => ?_)
                      · skip
                        replace b58 : (bI mvb) = nI 0 := b58
                        replace b58 := bI_0 b58
                        refine lv_iconst (v := nI 0) hx hb d_M_round_102 (by decide) ?_
                        exact jn49 ((nI 0)) (by rw [b57, b58]; rfl) _ _ hP hD hS
                      · skip
                        replace b58 : ¬ (bI mvb) = nI 0 := b58
                        replace b58 := bI_1 b58
                        refine lv_iconst (v := nI 1) hx hb d_M_round_98 (by decide) ?_
                        refine lv_goto (tgt := 103) hx hb d_M_round_99 (by decide) ?_
                        exact jn49 ((nI 1)) (by rw [b57, b58]; rfl) _ _ hP hD hS
                  · skip
                    replace b38 := mt (nI_leI (a := n9) (b := 3) (by omega) (by omega)).mpr b38
                    refine lv_iconst (v := nI 1) hx hb d_M_round_83 (by decide) ?_
                    refine lv_goto (tgt := 88) hx hb d_M_round_84 (by decide) ?_
                    have hdw9 : decide (3 < n9) = true := decide_eq_true (by omega)
                    refine pcc_i (va_runV (C := "BigRunnerModel") (As := [.int (nI v), .int (nI 1)]) (rest := []) ⟨hx, hb, hml, hown, tb_nil⟩ (m2_joined l g H.size f19 M v true lw2 hg2 un2 ov2 ua2 ub2 a2 b2 hL t_M hI32 (by omega) e24 e25 e26 e27 e28 e29 e30 e31) ⟨(callB_of 2 (tb_one (wd_1189 hB _)) tb_good1 rfl rfl rfl (wd_82 hB _) (wd_1186 hB _) (by decide +kernel) ⟨Nat.le_of_ble_eq_true rfl, Nat.le_of_ble_eq_true rfl⟩), (wd_1188 hB _), (wd_56 hB _)⟩ ⟨pe_bl, pg_recv (ci := 10) hK hP (lo_in hL t_M (by decide)) e23 rfl, pe_pre hB hK hP hD⟩ rfl rfl hl.1 rfl (lv_room (Nat.le_of_ble_eq_true rfl)) d_M_round_88 ⟨Nat.le_of_ble_eq_true rfl, Nat.le_of_ble_eq_true rfl⟩) hS (fun r59 f60 H locs hq61 hP hD hS => ?_)
                    obtain ⟨qv_62, aLW_63, aHG_64, aUN_65, aOV_66, hI1_67, hu1_68⟩ := hq61
                    subst qv_62
                    have hu := hu.tr hu1_68 (by decide)
                    have hv33 := hv33.tr hu1_68 (by decide)
                    have eC := hu1_68.at (lo_k11_6 hL _ t_M) (by decide) eC
                    have eA := hu1_68.at (lo_k11_7 hL _ t_M) (by decide) eA
                    have e23 := hu1_68.at t_M (by decide) e23
                    have e28 := hu1_68.at (lo_k11_23 hL _ t_M) (by decide) e28
                    have e29 := hu1_68.at (lo_k11_24 hL _ t_M) (by decide) e29
                    have e30 := hu1_68.at (lo_k11_21 hL _ t_M) (by decide) e30
                    have e31 := hu1_68.at (lo_k11_22 hL _ t_M) (by decide) e31
                    have jn69 : ∀ (bj70 : Int32), bj70 = (bI ((jdn (un2 v) (ua2 0) (lw2 v) (a2 0) || jup (ov2 v) (ub2 0) (hg2 v) (b2 0)) || mvb)) → ∀ (H : Heap) (locs : List Loc), va_P g.D vcl (va_pl g.LP f60) H → va_D (pc_A g s.heap.size) (va_pl g.LP f60) → va_S (pc_A g s.heap.size) s.heap H locs → W p l e ({ frames := 4, cells := 0, slots := 0, locals := 100 }) s m args below meth c H locs 0 0 (MQ below (va_Qi (fun r f1 => (r = bI (rnd (decide (3 < n9)) en [] false L).2) ∧ (∃ (tp1 : Nat), (tp1 ≤ 80) ∧ f1 M = .inr (10, [.int mth, .ref (g.lk M 1), .int (nI mn), .ref (g.lk M 3), .ref (g.lk M 4), .int (nI mdr), .ref (g.lk M 6), .ref (g.lk M 7), .ref (g.lk M 8), .int (nI msz), .int (nI mix), .int (nI mdp), .ref (g.lk M 12), .int (nI mwt), .ref (g.lk M 14), .ref (g.lk M 15), .int (nI mop), .ref (g.lk M 17), .ref (g.lk M 18), .ref (g.lk M 19), .ref (g.lk M 20), .ref (g.lk M 21), .ref (g.lk M 22), .ref (g.lk M 23), .ref (g.lk M 24), .ref (g.lk M 25), .ref (g.lk M 26), .ref (g.lk M 27), .ref (g.lk M 28), .ref (g.lk M 29), .ref (g.lk M 30), .ref (g.lk M 31), .int (nI tp1), .ref (g.lk M 33), .ref (g.lk M 34), .ref (g.lk M 35), .int (nI mwa), .int (nI mgi), .int (nI mpc), .int (nI mst), .int (nI mtr), .int (nI msp), .int mma, .int mlg, .int mdu])) ∧ (∃ (lw1 hg1 : Nat → Int64) (un1 ov1 : Nat → Int32), f1 (g.lk M 17) = .inl (g.ac (g.lk M 17), 10, .inr (.inl lw1)) ∧ f1 (g.lk M 18) = .inl (g.ac (g.lk M 18), 10, .inr (.inl hg1)) ∧ f1 (g.lk M 19) = .inl (g.ac (g.lk M 19), 10, .inl un1) ∧ f1 (g.lk M 20) = .inl (g.ac (g.lk M 20), 10, .inl ov1) ∧ VR lw1 hg1 un1 ov1 (rnd (decide (3 < n9)) en [] false L).1 ∧ CZ4 (rnd (decide (3 < n9)) en [] false L).2 (decide (3 < n9)) (cz un1 10 + cz ov1 10) (cz hUN 10 + cz hOV 10)) ∧ (IV g f1) ∧ (un [11, 45, 49, 50, 51, 52, 53, 54, 55, 56, 57] g f f1)) (pc_out g s.heap.size) (pc_A g s.heap.size)) args s 0 0 (pc_A g s.heap.size)) (F0 m 103 ls [.int bj70]) := by
                      intro bj70 hbj71 H locs hP hD hS
                      subst hbj71
                      refine lv_istore_n (lv' := [(2, .int (bI ((jdn (un2 v) (ua2 0) (lw2 v) (a2 0) || jup (ov2 v) (ub2 0) (hg2 v) (b2 0)) || mvb))), (3, .int (nI p9)), (0, .ref M), (1, .int (nI n9))]) hx hb d_M_round_103 rfl hl (by decide) rfl (fun ls hl => ?_)
                      refine lv_aload_n hx hb d_M_round_104 rfl (lv_at hl 2 rfl) ?_
                      refine lv_iconst (v := nI 0) hx hb d_M_round_105 (by decide) ?_
                      refine pf_put (v := .int (nI 0)) (ty := .int) (fs' := [.int mth, .ref (g.lk M 1), .int (nI mn), .ref (g.lk M 3), .ref (g.lk M 4), .int (nI mdr), .ref (g.lk M 6), .ref (g.lk M 7), .ref (g.lk M 8), .int (nI msz), .int (nI mix), .int (nI mdp), .ref (g.lk M 12), .int (nI mwt), .ref (g.lk M 14), .ref (g.lk M 15), .int (nI mop), .ref (g.lk M 17), .ref (g.lk M 18), .ref (g.lk M 19), .ref (g.lk M 20), .ref (g.lk M 21), .ref (g.lk M 22), .ref (g.lk M 23), .ref (g.lk M 24), .ref (g.lk M 25), .ref (g.lk M 26), .ref (g.lk M 27), .ref (g.lk M 28), .ref (g.lk M 29), .ref (g.lk M 30), .ref (g.lk M 31), .int (nI 0), .ref (g.lk M 33), .ref (g.lk M 34), .ref (g.lk M 35), .int (nI mwa), .int (nI mgi), .int (nI mpc), .int (nI mst), .int (nI mtr), .int (nI msp), .int mma, .int mlg, .int mdu]) (C := "BigRunnerModel") (T := FT10) (N := 45) hx hb (hw10 hB _) (fun _ h9 => h9) TY10 ok10 nm10 hown hK hP hD hS (lo_in hL t_M (by decide)) e23 rfl 32 (by decide) (wd_979 hB _) rfl (by decide +kernel) rfl rfl (Nat.le_of_ble_eq_true rfl) rfl d_M_round_106 (fun f72 H locs e73 k74 hP hD hS => ?_)
                      have eC := (k74 (g.lk M 6) (tg_ne (lo_k11_6 hL _ t_M) t_M (by decide))).trans eC
                      have eA := (k74 (g.lk M 7) (tg_ne (lo_k11_7 hL _ t_M) t_M (by decide))).trans eA
                      have e28 := (k74 (g.lk M 23) (tg_ne (lo_k11_23 hL _ t_M) t_M (by decide))).trans e28
                      have e29 := (k74 (g.lk M 24) (tg_ne (lo_k11_24 hL _ t_M) t_M (by decide))).trans e29
                      have e30 := (k74 (g.lk M 21) (tg_ne (lo_k11_21 hL _ t_M) t_M (by decide))).trans e30
                      have e31 := (k74 (g.lk M 22) (tg_ne (lo_k11_22 hL _ t_M) t_M (by decide))).trans e31
                      have aLW_63 := (k74 (g.lk M 17) (tg_ne (lo_k11_17 hL _ t_M) t_M (by decide))).trans aLW_63
                      have aHG_64 := (k74 (g.lk M 18) (tg_ne (lo_k11_18 hL _ t_M) t_M (by decide))).trans aHG_64
                      have aUN_65 := (k74 (g.lk M 19) (tg_ne (lo_k11_19 hL _ t_M) t_M (by decide))).trans aUN_65
                      have aOV_66 := (k74 (g.lk M 20) (tg_ne (lo_k11_20 hL _ t_M) t_M (by decide))).trans aOV_66
                      have hu := hu.st k74 t_M (by decide)
                      have hv33 := hv33.st k74 t_M (by decide)
                      have hk75 : ∀ b, b ≠ M → f72 b = f60 b := k74
                      refine lv_iinc (k := 1) (v := nI (p9 + 1)) (lv' := [(3, .int (nI (p9 + 1))), (2, .int (bI ((jdn (un2 v) (ua2 0) (lw2 v) (a2 0) || jup (ov2 v) (ub2 0) (hg2 v) (b2 0)) || mvb))), (0, .ref M), (1, .int (nI n9))]) hx hb d_M_round_109 hl rfl (by rw [nI_succ]; rfl) (by decide) rfl (fun ls hl => ?_)
                      refine lv_goto (tgt := 9) hx hb d_M_round_112 (by decide) ?_
                      have hI76 := iv_1 hI1_67 hL t_M (by decide) hk75 (oc_11.mk t_M (⟨mth, mn, mdr, msz, mix, mdp, mwt, mop, 0, mwa, mgi, mpc, mst, mtr, msp, mma, mlg, mdu, e73, (by omega), (by omega), (by omega), (by omega), (by omega), (by omega), (by omega), (by omega), (by omega), (by omega), (by omega), (by omega), (by omega), (by omega), hmb14⟩))
                      have hmv9 : ((jdn (un2 v) (ua2 0) (lw2 v) (a2 0) || jup (ov2 v) (ub2 0) (hg2 v) (b2 0)) || mvb) = (mvI (en2 v) X9 || mvb) := by congr 1; exact mv_j hVR2 hvt hX1 hX2
                      have hl : lv_has ls 4 [(3, .int (nI (p9 + 1))), (2, .int (bI (mvI (en2 v) X9 || mvb))), (0, .ref M), (1, .int (nI n9))] := by rw [← hmv9]; exact hl
                      have hXK : iK X9 := RO_iK hX1 hX2
                      exact ih21 ((mvI (en2 v) X9 || mvb)) (p9 + 1) 0 (if jdn (un2 v) (ua2 0) (lw2 v) (a2 0) = true then vp_updL lw2 v (a2 0) else lw2) (if jup (ov2 v) (ub2 0) (hg2 v) (b2 0) = true then vp_updL hg2 v (b2 0) else hg2) (if jdn (un2 v) (ua2 0) (lw2 v) (a2 0) = true then upd un2 v (bI (nzf (ua2 0) || true)) else un2) (if jup (ov2 v) (ub2 0) (hg2 v) (b2 0) = true then upd ov2 v (bI (nzf (ub2 0) || true)) else ov2) ua2 ub2 a2 b2 ([]) ((enu en2 v (jnI (decide (3 < n9)) (en2 v) X9))) L9 f72 H locs ls (by omega) (by omega) q10.symm (by omega) hDS9 (by omega) hLB9 rfl (by rw [hdw9]; exact VR_j hVR2 hvt hX1 hX2 hXK) (hrnd.trans (rnd_8 (decide (3 < n9)) en2 _ mvb v L9)) (by rw [← hmv9, hdw9]; rw [hdw9] at hcz; exact cz_j hvt jdn_0 jup_0 hcz) e73 aLW_63 aHG_64 aUN_65 aOV_66 e28 e29 e30 e31 hI76 hv33 hl hP hD hS
                    refine lv_if_ne (tgt := 98) hx hb d_M_round_91 (by decide) (fun b77 => ?_) (fun b77 => ?_)
                    · skip
                      replace b77 : ¬ (bI (jdn (un2 v) (ua2 0) (lw2 v) (a2 0) || jup (ov2 v) (ub2 0) (hg2 v) (b2 0))) = nI 0 := b77
                      replace b77 := bI_1 b77
                      refine lv_iconst (v := nI 1) hx hb d_M_round_98 (by decide) ?_
                      refine lv_goto (tgt := 103) hx hb d_M_round_99 (by decide) ?_
                      exact jn69 ((nI 1)) (by rw [b77]; rfl) _ _ hP hD hS
                    · skip
                      replace b77 : (bI (jdn (un2 v) (ua2 0) (lw2 v) (a2 0) || jup (ov2 v) (ub2 0) (hg2 v) (b2 0))) = nI 0 := b77
                      replace b77 := bI_0 b77
                      refine lv_iload_n hx hb d_M_round_94 rfl (lv_at hl 1 rfl) ?_
                      refine lv_if_eq (tgt := 102) hx hb d_M_round_95 (by decide) (fun b78 => ?_) (fun b78 => ?_)
                      · skip
                        replace b78 : (bI mvb) = nI 0 := b78
                        replace b78 := bI_0 b78
                        refine lv_iconst (v := nI 0) hx hb d_M_round_102 (by decide) ?_
                        exact jn69 ((nI 0)) (by rw [b77, b78]; rfl) _ _ hP hD hS
                      · skip
                        replace b78 : ¬ (bI mvb) = nI 0 := b78
                        replace b78 := bI_1 b78
                        refine lv_iconst (v := nI 1) hx hb d_M_round_98 (by decide) ?_
                        refine lv_goto (tgt := 103) hx hb d_M_round_99 (by decide) ?_
                        exact jn69 ((nI 1)) (by rw [b77, b78]; rfl) _ _ hP hD hS
              · skip
                replace b36 := (nI_eq (a := 8) (b := 9) (by omega) (by omega)).mp b36
                exfalso; omega
            · skip
              have hvt := hHv (Or.inr rfl)
              clear hv9 hHv
              refine lv_aload_n hx hb d_M_round_36 rfl (lv_at hl 2 rfl) ?_
              refine pf_get (v := .ref (g.lk M 6)) (C := "BigRunnerModel") (T := FT10) (N := 45) hx hb (hw10 hB _) (fun _ h9 => h9) hown hK hP (lo_in hL t_M (by decide)) e23 rfl 6 (by decide) (wd_953 hB _) rfl d_M_round_37 ?_
              refine lv_iload_n hx hb d_M_round_40 rfl (lv_at hl 0 rfl) ?_
              refine pf_iald (i := p9) hx hb hK hP (lo_in hL (lo_k11_6 hL _ t_M) (by decide)) eC (lo_t43 hL _ (lo_k11_6 hL _ t_M)) (by omega) (by decide) d_M_round_41 ?_
              refine lv_topi (fun z_ hz_ => ?_)
              obtain rfl : z_ = nI 9 := hz_.trans hw
              refine lv_bipush (v := nI 9) hx hb d_M_round_42 (by decide) ?_
              refine lv_icmp_ne (tgt := 60) hx hb d_M_round_44 (by decide) (fun b79 => ?_) (fun b79 => ?_)
              · skip
                replace b79 := mt (nI_eq (a := 9) (b := 9) (by omega) (by omega)).mpr b79
                exfalso; omega
              · skip
                replace b79 := (nI_eq (a := 9) (b := 9) (by omega) (by omega)).mp b79
                refine lv_aload_n hx hb d_M_round_47 rfl (lv_at hl 2 rfl) ?_
                refine lv_iconst (v := nI 0) hx hb d_M_round_48 (by decide) ?_
                refine lv_ldc2 (v := (-1000000000)) hx hb hown (wd_1184 hB _) d_M_round_49 ?_
                refine lv_ldc2 (v := 1000000000) hx hb hown (wd_1185 hB _) d_M_round_52 ?_
                refine lv_topl (fun z_ hz_ => ?_)
                obtain rfl : z_ = nL 1000000000 := hz_
                refine lv_iconst (v := nI 0) hx hb d_M_round_55 (by decide) ?_
                refine lv_iconst (v := nI 0) hx hb d_M_round_56 (by decide) ?_
                refine pcc_v (va_runV (C := "BigRunnerModel") (As := [.int (nI 0), .long (-1000000000), .long (nL 1000000000), .int (nI 0), .int (nI 0)]) (rest := []) ⟨hx, hb, hml, hown, tb_nil⟩ (m2_interval l g H.size f19 M 0 ((-1000000000)) ((nL 1000000000)) false false ua2 ub2 a2 b2 hL t_M hI32 (by omega) e28 e29 e30 e31) ⟨(callB_of 5 (tb_one (wd_1160 hB _)) tb_good1 rfl rfl rfl (wd_82 hB _) (wd_1157 hB _) (by decide +kernel) ⟨Nat.le_of_ble_eq_true rfl, Nat.le_of_ble_eq_true rfl⟩), (wd_1159 hB _), (wd_53 hB _)⟩ ⟨pe_bl, pg_recv (ci := 10) hK hP (lo_in hL t_M (by decide)) e23 rfl, pe_pre hB hK hP hD⟩ rfl rfl hl.1 rfl (lv_room (Nat.le_of_ble_eq_true rfl)) d_M_round_57 ⟨Nat.le_of_ble_eq_true rfl, Nat.le_of_ble_eq_true rfl⟩) hS (fun f81 H locs hq82 hP hD hS => ?_)
                obtain ⟨aUA_83, aUB_84, aAA_85, aBB_86, hI1_87, hu1_88⟩ := hq82
                have hu := hu.tr hu1_88 (by decide)
                have hv33 := hv33.tr hu1_88 (by decide)
                have eC := hu1_88.at (lo_k11_6 hL _ t_M) (by decide) eC
                have eA := hu1_88.at (lo_k11_7 hL _ t_M) (by decide) eA
                have e23 := hu1_88.at t_M (by decide) e23
                have e24 := hu1_88.at (lo_k11_17 hL _ t_M) (by decide) e24
                have e25 := hu1_88.at (lo_k11_18 hL _ t_M) (by decide) e25
                have e26 := hu1_88.at (lo_k11_19 hL _ t_M) (by decide) e26
                have e27 := hu1_88.at (lo_k11_20 hL _ t_M) (by decide) e27
                refine lv_aload_n hx hb d_M_round_60 rfl (lv_at hl 2 rfl) ?_
                refine pf_get (v := .ref (g.lk M 6)) (C := "BigRunnerModel") (T := FT10) (N := 45) hx hb (hw10 hB _) (fun _ h9 => h9) hown hK hP (lo_in hL t_M (by decide)) e23 rfl 6 (by decide) (wd_953 hB _) rfl d_M_round_61 ?_
                refine lv_iload_n hx hb d_M_round_64 rfl (lv_at hl 0 rfl) ?_
                refine pf_iald (i := p9) hx hb hK hP (lo_in hL (lo_k11_6 hL _ t_M) (by decide)) eC (lo_t43 hL _ (lo_k11_6 hL _ t_M)) (by omega) (by decide) d_M_round_65 ?_
                refine lv_topi (fun z_ hz_ => ?_)
                obtain rfl : z_ = nI 9 := hz_.trans hw
                refine lv_bipush (v := nI 10) hx hb d_M_round_66 (by decide) ?_
                refine lv_icmp_ge (tgt := 104) hx hb d_M_round_68 (by decide) (fun b89 => ?_) (fun b89 => ?_)
                · skip
                  replace b89 := (nI_leI (a := 10) (b := 9) (by omega) (by omega)).mp b89
                  exfalso; omega
                · skip
                  replace b89 := mt (nI_leI (a := 10) (b := 9) (by omega) (by omega)).mpr b89
                  refine lv_aload_n hx hb d_M_round_71 rfl (lv_at hl 2 rfl) ?_
                  refine lv_aload_n hx hb d_M_round_72 rfl (lv_at hl 2 rfl) ?_
                  refine pf_get (v := .ref (g.lk M 7)) (C := "BigRunnerModel") (T := FT10) (N := 45) hx hb (hw10 hB _) (fun _ h9 => h9) hown hK hP (lo_in hL t_M (by decide)) e23 rfl 7 (by decide) (wd_954 hB _) rfl d_M_round_73 ?_
                  refine lv_iload_n hx hb d_M_round_76 rfl (lv_at hl 0 rfl) ?_
                  refine pf_iald (i := p9) hx hb hK hP (lo_in hL (lo_k11_7 hL _ t_M) (by decide)) eA (lo_t44 hL _ (lo_k11_7 hL _ t_M)) (by omega) (by decide) d_M_round_77 ?_
                  refine lv_topi (fun z_ hz_ => ?_)
                  obtain rfl : z_ = nI v := hz_.trans hv
                  refine lv_iload_n hx hb d_M_round_78 rfl (lv_at hl 3 rfl) ?_
                  refine lv_iconst (v := nI 3) hx hb d_M_round_79 (by decide) ?_
                  refine lv_icmp_le (tgt := 87) hx hb d_M_round_80 (by decide) (fun b90 => ?_) (fun b90 => ?_)
                  · skip
                    replace b90 := (nI_leI (a := n9) (b := 3) (by omega) (by omega)).mp b90
                    refine lv_iconst (v := nI 0) hx hb d_M_round_87 (by decide) ?_
                    have hdw9 : decide (3 < n9) = false := decide_eq_false (by omega)
                    refine pcc_i (va_runV (C := "BigRunnerModel") (As := [.int (nI v), .int (nI 0)]) (rest := []) ⟨hx, hb, hml, hown, tb_nil⟩ (m2_joined l g H.size f81 M v false lw2 hg2 un2 ov2 ((upd ua2 0 (bI (mU false (-1000000000))))) ((upd ub2 0 (bI (mU false (nL 1000000000))))) ((vp_updL a2 0 (mV false (-1000000000)))) ((vp_updL b2 0 (mV false (nL 1000000000)))) hL t_M hI1_87 (by omega) e24 e25 e26 e27 aUA_83 aUB_84 aAA_85 aBB_86) ⟨(callB_of 2 (tb_one (wd_1189 hB _)) tb_good1 rfl rfl rfl (wd_82 hB _) (wd_1186 hB _) (by decide +kernel) ⟨Nat.le_of_ble_eq_true rfl, Nat.le_of_ble_eq_true rfl⟩), (wd_1188 hB _), (wd_56 hB _)⟩ ⟨pe_bl, pg_recv (ci := 10) hK hP (lo_in hL t_M (by decide)) e23 rfl, pe_pre hB hK hP hD⟩ rfl rfl hl.1 rfl (lv_room (Nat.le_of_ble_eq_true rfl)) d_M_round_88 ⟨Nat.le_of_ble_eq_true rfl, Nat.le_of_ble_eq_true rfl⟩) hS (fun r91 f92 H locs hq93 hP hD hS => ?_)
                    obtain ⟨qv_94, aLW_95, aHG_96, aUN_97, aOV_98, hI1_99, hu1_100⟩ := hq93
                    subst qv_94
                    have hu := hu.tr hu1_100 (by decide)
                    have hv33 := hv33.tr hu1_100 (by decide)
                    have eC := hu1_100.at (lo_k11_6 hL _ t_M) (by decide) eC
                    have eA := hu1_100.at (lo_k11_7 hL _ t_M) (by decide) eA
                    have e23 := hu1_100.at t_M (by decide) e23
                    have aUA_83 := hu1_100.at (lo_k11_23 hL _ t_M) (by decide) aUA_83
                    have aUB_84 := hu1_100.at (lo_k11_24 hL _ t_M) (by decide) aUB_84
                    have aAA_85 := hu1_100.at (lo_k11_21 hL _ t_M) (by decide) aAA_85
                    have aBB_86 := hu1_100.at (lo_k11_22 hL _ t_M) (by decide) aBB_86
                    have jn101 : ∀ (bj102 : Int32), bj102 = (bI ((jdn (un2 v) ((upd ua2 0 (bI (mU false (-1000000000)))) 0) (lw2 v) ((vp_updL a2 0 (mV false (-1000000000))) 0) || jup (ov2 v) ((upd ub2 0 (bI (mU false (nL 1000000000)))) 0) (hg2 v) ((vp_updL b2 0 (mV false (nL 1000000000))) 0)) || mvb)) → ∀ (H : Heap) (locs : List Loc), va_P g.D vcl (va_pl g.LP f92) H → va_D (pc_A g s.heap.size) (va_pl g.LP f92) → va_S (pc_A g s.heap.size) s.heap H locs → W p l e ({ frames := 4, cells := 0, slots := 0, locals := 100 }) s m args below meth c H locs 0 0 (MQ below (va_Qi (fun r f1 => (r = bI (rnd (decide (3 < n9)) en [] false L).2) ∧ (∃ (tp1 : Nat), (tp1 ≤ 80) ∧ f1 M = .inr (10, [.int mth, .ref (g.lk M 1), .int (nI mn), .ref (g.lk M 3), .ref (g.lk M 4), .int (nI mdr), .ref (g.lk M 6), .ref (g.lk M 7), .ref (g.lk M 8), .int (nI msz), .int (nI mix), .int (nI mdp), .ref (g.lk M 12), .int (nI mwt), .ref (g.lk M 14), .ref (g.lk M 15), .int (nI mop), .ref (g.lk M 17), .ref (g.lk M 18), .ref (g.lk M 19), .ref (g.lk M 20), .ref (g.lk M 21), .ref (g.lk M 22), .ref (g.lk M 23), .ref (g.lk M 24), .ref (g.lk M 25), .ref (g.lk M 26), .ref (g.lk M 27), .ref (g.lk M 28), .ref (g.lk M 29), .ref (g.lk M 30), .ref (g.lk M 31), .int (nI tp1), .ref (g.lk M 33), .ref (g.lk M 34), .ref (g.lk M 35), .int (nI mwa), .int (nI mgi), .int (nI mpc), .int (nI mst), .int (nI mtr), .int (nI msp), .int mma, .int mlg, .int mdu])) ∧ (∃ (lw1 hg1 : Nat → Int64) (un1 ov1 : Nat → Int32), f1 (g.lk M 17) = .inl (g.ac (g.lk M 17), 10, .inr (.inl lw1)) ∧ f1 (g.lk M 18) = .inl (g.ac (g.lk M 18), 10, .inr (.inl hg1)) ∧ f1 (g.lk M 19) = .inl (g.ac (g.lk M 19), 10, .inl un1) ∧ f1 (g.lk M 20) = .inl (g.ac (g.lk M 20), 10, .inl ov1) ∧ VR lw1 hg1 un1 ov1 (rnd (decide (3 < n9)) en [] false L).1 ∧ CZ4 (rnd (decide (3 < n9)) en [] false L).2 (decide (3 < n9)) (cz un1 10 + cz ov1 10) (cz hUN 10 + cz hOV 10)) ∧ (IV g f1) ∧ (un [11, 45, 49, 50, 51, 52, 53, 54, 55, 56, 57] g f f1)) (pc_out g s.heap.size) (pc_A g s.heap.size)) args s 0 0 (pc_A g s.heap.size)) (F0 m 103 ls [.int bj102]) := by
                      intro bj102 hbj103 H locs hP hD hS
                      subst hbj103
                      refine lv_istore_n (lv' := [(2, .int (bI ((jdn (un2 v) ((upd ua2 0 (bI (mU false (-1000000000)))) 0) (lw2 v) ((vp_updL a2 0 (mV false (-1000000000))) 0) || jup (ov2 v) ((upd ub2 0 (bI (mU false (nL 1000000000)))) 0) (hg2 v) ((vp_updL b2 0 (mV false (nL 1000000000))) 0)) || mvb))), (3, .int (nI p9)), (0, .ref M), (1, .int (nI n9))]) hx hb d_M_round_103 rfl hl (by decide) rfl (fun ls hl => ?_)
                      refine lv_aload_n hx hb d_M_round_104 rfl (lv_at hl 2 rfl) ?_
                      refine lv_iconst (v := nI 0) hx hb d_M_round_105 (by decide) ?_
                      refine pf_put (v := .int (nI 0)) (ty := .int) (fs' := [.int mth, .ref (g.lk M 1), .int (nI mn), .ref (g.lk M 3), .ref (g.lk M 4), .int (nI mdr), .ref (g.lk M 6), .ref (g.lk M 7), .ref (g.lk M 8), .int (nI msz), .int (nI mix), .int (nI mdp), .ref (g.lk M 12), .int (nI mwt), .ref (g.lk M 14), .ref (g.lk M 15), .int (nI mop), .ref (g.lk M 17), .ref (g.lk M 18), .ref (g.lk M 19), .ref (g.lk M 20), .ref (g.lk M 21), .ref (g.lk M 22), .ref (g.lk M 23), .ref (g.lk M 24), .ref (g.lk M 25), .ref (g.lk M 26), .ref (g.lk M 27), .ref (g.lk M 28), .ref (g.lk M 29), .ref (g.lk M 30), .ref (g.lk M 31), .int (nI 0), .ref (g.lk M 33), .ref (g.lk M 34), .ref (g.lk M 35), .int (nI mwa), .int (nI mgi), .int (nI mpc), .int (nI mst), .int (nI mtr), .int (nI msp), .int mma, .int mlg, .int mdu]) (C := "BigRunnerModel") (T := FT10) (N := 45) hx hb (hw10 hB _) (fun _ h9 => h9) TY10 ok10 nm10 hown hK hP hD hS (lo_in hL t_M (by decide)) e23 rfl 32 (by decide) (wd_979 hB _) rfl (by decide +kernel) rfl rfl (Nat.le_of_ble_eq_true rfl) rfl d_M_round_106 (fun f104 H locs e105 k106 hP hD hS => ?_)
                      have eC := (k106 (g.lk M 6) (tg_ne (lo_k11_6 hL _ t_M) t_M (by decide))).trans eC
                      have eA := (k106 (g.lk M 7) (tg_ne (lo_k11_7 hL _ t_M) t_M (by decide))).trans eA
                      have aUA_83 := (k106 (g.lk M 23) (tg_ne (lo_k11_23 hL _ t_M) t_M (by decide))).trans aUA_83
                      have aUB_84 := (k106 (g.lk M 24) (tg_ne (lo_k11_24 hL _ t_M) t_M (by decide))).trans aUB_84
                      have aAA_85 := (k106 (g.lk M 21) (tg_ne (lo_k11_21 hL _ t_M) t_M (by decide))).trans aAA_85
                      have aBB_86 := (k106 (g.lk M 22) (tg_ne (lo_k11_22 hL _ t_M) t_M (by decide))).trans aBB_86
                      have aLW_95 := (k106 (g.lk M 17) (tg_ne (lo_k11_17 hL _ t_M) t_M (by decide))).trans aLW_95
                      have aHG_96 := (k106 (g.lk M 18) (tg_ne (lo_k11_18 hL _ t_M) t_M (by decide))).trans aHG_96
                      have aUN_97 := (k106 (g.lk M 19) (tg_ne (lo_k11_19 hL _ t_M) t_M (by decide))).trans aUN_97
                      have aOV_98 := (k106 (g.lk M 20) (tg_ne (lo_k11_20 hL _ t_M) t_M (by decide))).trans aOV_98
                      have hu := hu.st k106 t_M (by decide)
                      have hv33 := hv33.st k106 t_M (by decide)
                      have hk107 : ∀ b, b ≠ M → f104 b = f92 b := k106
                      refine lv_iinc (k := 1) (v := nI (p9 + 1)) (lv' := [(3, .int (nI (p9 + 1))), (2, .int (bI ((jdn (un2 v) ((upd ua2 0 (bI (mU false (-1000000000)))) 0) (lw2 v) ((vp_updL a2 0 (mV false (-1000000000))) 0) || jup (ov2 v) ((upd ub2 0 (bI (mU false (nL 1000000000)))) 0) (hg2 v) ((vp_updL b2 0 (mV false (nL 1000000000))) 0)) || mvb))), (0, .ref M), (1, .int (nI n9))]) hx hb d_M_round_109 hl rfl (by rw [nI_succ]; rfl) (by decide) rfl (fun ls hl => ?_)
                      refine lv_goto (tgt := 9) hx hb d_M_round_112 (by decide) ?_
                      have hI108 := iv_1 hI1_99 hL t_M (by decide) hk107 (oc_11.mk t_M (⟨mth, mn, mdr, msz, mix, mdp, mwt, mop, 0, mwa, mgi, mpc, mst, mtr, msp, mma, mlg, mdu, e105, (by omega), (by omega), (by omega), (by omega), (by omega), (by omega), (by omega), (by omega), (by omega), (by omega), (by omega), (by omega), (by omega), (by omega), hmb14⟩))
                      have hmv9 : ((jdn (un2 v) ((upd ua2 0 (bI (mU false (-1000000000)))) 0) (lw2 v) ((vp_updL a2 0 (mV false (-1000000000))) 0) || jup (ov2 v) ((upd ub2 0 (bI (mU false (nL 1000000000)))) 0) (hg2 v) ((vp_updL b2 0 (mV false (nL 1000000000))) 0)) || mvb) = (mvI (en2 v) inI || mvb) := by congr 1; exact mv_j hVR2 hvt (by rw [upd_at, updL_at]; exact r_in1) (by rw [upd_at, updL_at]; exact r_in2)
                      have hl : lv_has ls 4 [(3, .int (nI (p9 + 1))), (2, .int (bI (mvI (en2 v) inI || mvb))), (0, .ref M), (1, .int (nI n9))] := by rw [← hmv9]; exact hl
                      exact ih21 ((mvI (en2 v) inI || mvb)) (p9 + 1) 0 (if jdn (un2 v) ((upd ua2 0 (bI (mU false (-1000000000)))) 0) (lw2 v) ((vp_updL a2 0 (mV false (-1000000000))) 0) = true then vp_updL lw2 v ((vp_updL a2 0 (mV false (-1000000000))) 0) else lw2) (if jup (ov2 v) ((upd ub2 0 (bI (mU false (nL 1000000000)))) 0) (hg2 v) ((vp_updL b2 0 (mV false (nL 1000000000))) 0) = true then vp_updL hg2 v ((vp_updL b2 0 (mV false (nL 1000000000))) 0) else hg2) (if jdn (un2 v) ((upd ua2 0 (bI (mU false (-1000000000)))) 0) (lw2 v) ((vp_updL a2 0 (mV false (-1000000000))) 0) = true then upd un2 v (bI (nzf ((upd ua2 0 (bI (mU false (-1000000000)))) 0) || false)) else un2) (if jup (ov2 v) ((upd ub2 0 (bI (mU false (nL 1000000000)))) 0) (hg2 v) ((vp_updL b2 0 (mV false (nL 1000000000))) 0) = true then upd ov2 v (bI (nzf ((upd ub2 0 (bI (mU false (nL 1000000000)))) 0) || false)) else ov2) (upd ua2 0 (bI (mU false (-1000000000)))) (upd ub2 0 (bI (mU false (nL 1000000000)))) (vp_updL a2 0 (mV false (-1000000000))) (vp_updL b2 0 (mV false (nL 1000000000))) ([]) ((enu en2 v (jnI (decide (3 < n9)) (en2 v) inI))) L9 f104 H locs ls (by omega) (by omega) q10.symm (by omega) hDS9 (by omega) hLB9 rfl (by rw [hdw9]; exact VR_j hVR2 hvt (by rw [upd_at, updL_at]; exact r_in1) (by rw [upd_at, updL_at]; exact r_in2) iK_in) (hrnd.trans (rnd_9 (decide (3 < n9)) en2 _ mvb v L9)) (by rw [← hmv9, hdw9]; rw [hdw9] at hcz; exact cz_j hvt jdn_0 jup_0 hcz) e105 aLW_95 aHG_96 aUN_97 aOV_98 aUA_83 aUB_84 aAA_85 aBB_86 hI108 hv33 hl hP hD hS
                    refine lv_if_ne (tgt := 98) hx hb d_M_round_91 (by decide) (fun b109 => ?_) (fun b109 => ?_)
                    · skip
                      replace b109 : ¬ (bI (jdn (un2 v) ((upd ua2 0 (bI (mU false (-1000000000)))) 0) (lw2 v) ((vp_updL a2 0 (mV false (-1000000000))) 0) || jup (ov2 v) ((upd ub2 0 (bI (mU false (nL 1000000000)))) 0) (hg2 v) ((vp_updL b2 0 (mV false (nL 1000000000))) 0))) = nI 0 := b109
                      replace b109 := bI_1 b109
                      refine lv_iconst (v := nI 1) hx hb d_M_round_98 (by decide) ?_
                      refine lv_goto (tgt := 103) hx hb d_M_round_99 (by decide) ?_
                      exact jn101 ((nI 1)) (by rw [b109]; rfl) _ _ hP hD hS
                    · skip
                      replace b109 : (bI (jdn (un2 v) ((upd ua2 0 (bI (mU false (-1000000000)))) 0) (lw2 v) ((vp_updL a2 0 (mV false (-1000000000))) 0) || jup (ov2 v) ((upd ub2 0 (bI (mU false (nL 1000000000)))) 0) (hg2 v) ((vp_updL b2 0 (mV false (nL 1000000000))) 0))) = nI 0 := b109
                      replace b109 := bI_0 b109
                      refine lv_iload_n hx hb d_M_round_94 rfl (lv_at hl 1 rfl) ?_
                      refine lv_if_eq (tgt := 102) hx hb d_M_round_95 (by decide) (fun b110 => ?_) (fun b110 => ?_)
                      · skip
                        replace b110 : (bI mvb) = nI 0 := b110
                        replace b110 := bI_0 b110
                        refine lv_iconst (v := nI 0) hx hb d_M_round_102 (by decide) ?_
                        exact jn101 ((nI 0)) (by rw [b109, b110]; rfl) _ _ hP hD hS
                      · skip
                        replace b110 : ¬ (bI mvb) = nI 0 := b110
                        replace b110 := bI_1 b110
                        refine lv_iconst (v := nI 1) hx hb d_M_round_98 (by decide) ?_
                        refine lv_goto (tgt := 103) hx hb d_M_round_99 (by decide) ?_
                        exact jn101 ((nI 1)) (by rw [b109, b110]; rfl) _ _ hP hD hS
                  · skip
                    replace b90 := mt (nI_leI (a := n9) (b := 3) (by omega) (by omega)).mpr b90
                    refine lv_iconst (v := nI 1) hx hb d_M_round_83 (by decide) ?_
                    refine lv_goto (tgt := 88) hx hb d_M_round_84 (by decide) ?_
                    have hdw9 : decide (3 < n9) = true := decide_eq_true (by omega)
                    refine pcc_i (va_runV (C := "BigRunnerModel") (As := [.int (nI v), .int (nI 1)]) (rest := []) ⟨hx, hb, hml, hown, tb_nil⟩ (m2_joined l g H.size f81 M v true lw2 hg2 un2 ov2 ((upd ua2 0 (bI (mU false (-1000000000))))) ((upd ub2 0 (bI (mU false (nL 1000000000))))) ((vp_updL a2 0 (mV false (-1000000000)))) ((vp_updL b2 0 (mV false (nL 1000000000)))) hL t_M hI1_87 (by omega) e24 e25 e26 e27 aUA_83 aUB_84 aAA_85 aBB_86) ⟨(callB_of 2 (tb_one (wd_1189 hB _)) tb_good1 rfl rfl rfl (wd_82 hB _) (wd_1186 hB _) (by decide +kernel) ⟨Nat.le_of_ble_eq_true rfl, Nat.le_of_ble_eq_true rfl⟩), (wd_1188 hB _), (wd_56 hB _)⟩ ⟨pe_bl, pg_recv (ci := 10) hK hP (lo_in hL t_M (by decide)) e23 rfl, pe_pre hB hK hP hD⟩ rfl rfl hl.1 rfl (lv_room (Nat.le_of_ble_eq_true rfl)) d_M_round_88 ⟨Nat.le_of_ble_eq_true rfl, Nat.le_of_ble_eq_true rfl⟩) hS (fun r111 f112 H locs hq113 hP hD hS => ?_)
                    obtain ⟨qv_114, aLW_115, aHG_116, aUN_117, aOV_118, hI1_119, hu1_120⟩ := hq113
                    subst qv_114
                    have hu := hu.tr hu1_120 (by decide)
                    have hv33 := hv33.tr hu1_120 (by decide)
                    have eC := hu1_120.at (lo_k11_6 hL _ t_M) (by decide) eC
                    have eA := hu1_120.at (lo_k11_7 hL _ t_M) (by decide) eA
                    have e23 := hu1_120.at t_M (by decide) e23
                    have aUA_83 := hu1_120.at (lo_k11_23 hL _ t_M) (by decide) aUA_83
                    have aUB_84 := hu1_120.at (lo_k11_24 hL _ t_M) (by decide) aUB_84
                    have aAA_85 := hu1_120.at (lo_k11_21 hL _ t_M) (by decide) aAA_85
                    have aBB_86 := hu1_120.at (lo_k11_22 hL _ t_M) (by decide) aBB_86
                    have jn121 : ∀ (bj122 : Int32), bj122 = (bI ((jdn (un2 v) ((upd ua2 0 (bI (mU false (-1000000000)))) 0) (lw2 v) ((vp_updL a2 0 (mV false (-1000000000))) 0) || jup (ov2 v) ((upd ub2 0 (bI (mU false (nL 1000000000)))) 0) (hg2 v) ((vp_updL b2 0 (mV false (nL 1000000000))) 0)) || mvb)) → ∀ (H : Heap) (locs : List Loc), va_P g.D vcl (va_pl g.LP f112) H → va_D (pc_A g s.heap.size) (va_pl g.LP f112) → va_S (pc_A g s.heap.size) s.heap H locs → W p l e ({ frames := 4, cells := 0, slots := 0, locals := 100 }) s m args below meth c H locs 0 0 (MQ below (va_Qi (fun r f1 => (r = bI (rnd (decide (3 < n9)) en [] false L).2) ∧ (∃ (tp1 : Nat), (tp1 ≤ 80) ∧ f1 M = .inr (10, [.int mth, .ref (g.lk M 1), .int (nI mn), .ref (g.lk M 3), .ref (g.lk M 4), .int (nI mdr), .ref (g.lk M 6), .ref (g.lk M 7), .ref (g.lk M 8), .int (nI msz), .int (nI mix), .int (nI mdp), .ref (g.lk M 12), .int (nI mwt), .ref (g.lk M 14), .ref (g.lk M 15), .int (nI mop), .ref (g.lk M 17), .ref (g.lk M 18), .ref (g.lk M 19), .ref (g.lk M 20), .ref (g.lk M 21), .ref (g.lk M 22), .ref (g.lk M 23), .ref (g.lk M 24), .ref (g.lk M 25), .ref (g.lk M 26), .ref (g.lk M 27), .ref (g.lk M 28), .ref (g.lk M 29), .ref (g.lk M 30), .ref (g.lk M 31), .int (nI tp1), .ref (g.lk M 33), .ref (g.lk M 34), .ref (g.lk M 35), .int (nI mwa), .int (nI mgi), .int (nI mpc), .int (nI mst), .int (nI mtr), .int (nI msp), .int mma, .int mlg, .int mdu])) ∧ (∃ (lw1 hg1 : Nat → Int64) (un1 ov1 : Nat → Int32), f1 (g.lk M 17) = .inl (g.ac (g.lk M 17), 10, .inr (.inl lw1)) ∧ f1 (g.lk M 18) = .inl (g.ac (g.lk M 18), 10, .inr (.inl hg1)) ∧ f1 (g.lk M 19) = .inl (g.ac (g.lk M 19), 10, .inl un1) ∧ f1 (g.lk M 20) = .inl (g.ac (g.lk M 20), 10, .inl ov1) ∧ VR lw1 hg1 un1 ov1 (rnd (decide (3 < n9)) en [] false L).1 ∧ CZ4 (rnd (decide (3 < n9)) en [] false L).2 (decide (3 < n9)) (cz un1 10 + cz ov1 10) (cz hUN 10 + cz hOV 10)) ∧ (IV g f1) ∧ (un [11, 45, 49, 50, 51, 52, 53, 54, 55, 56, 57] g f f1)) (pc_out g s.heap.size) (pc_A g s.heap.size)) args s 0 0 (pc_A g s.heap.size)) (F0 m 103 ls [.int bj122]) := by
                      intro bj122 hbj123 H locs hP hD hS
                      subst hbj123
                      refine lv_istore_n (lv' := [(2, .int (bI ((jdn (un2 v) ((upd ua2 0 (bI (mU false (-1000000000)))) 0) (lw2 v) ((vp_updL a2 0 (mV false (-1000000000))) 0) || jup (ov2 v) ((upd ub2 0 (bI (mU false (nL 1000000000)))) 0) (hg2 v) ((vp_updL b2 0 (mV false (nL 1000000000))) 0)) || mvb))), (3, .int (nI p9)), (0, .ref M), (1, .int (nI n9))]) hx hb d_M_round_103 rfl hl (by decide) rfl (fun ls hl => ?_)
                      refine lv_aload_n hx hb d_M_round_104 rfl (lv_at hl 2 rfl) ?_
                      refine lv_iconst (v := nI 0) hx hb d_M_round_105 (by decide) ?_
                      refine pf_put (v := .int (nI 0)) (ty := .int) (fs' := [.int mth, .ref (g.lk M 1), .int (nI mn), .ref (g.lk M 3), .ref (g.lk M 4), .int (nI mdr), .ref (g.lk M 6), .ref (g.lk M 7), .ref (g.lk M 8), .int (nI msz), .int (nI mix), .int (nI mdp), .ref (g.lk M 12), .int (nI mwt), .ref (g.lk M 14), .ref (g.lk M 15), .int (nI mop), .ref (g.lk M 17), .ref (g.lk M 18), .ref (g.lk M 19), .ref (g.lk M 20), .ref (g.lk M 21), .ref (g.lk M 22), .ref (g.lk M 23), .ref (g.lk M 24), .ref (g.lk M 25), .ref (g.lk M 26), .ref (g.lk M 27), .ref (g.lk M 28), .ref (g.lk M 29), .ref (g.lk M 30), .ref (g.lk M 31), .int (nI 0), .ref (g.lk M 33), .ref (g.lk M 34), .ref (g.lk M 35), .int (nI mwa), .int (nI mgi), .int (nI mpc), .int (nI mst), .int (nI mtr), .int (nI msp), .int mma, .int mlg, .int mdu]) (C := "BigRunnerModel") (T := FT10) (N := 45) hx hb (hw10 hB _) (fun _ h9 => h9) TY10 ok10 nm10 hown hK hP hD hS (lo_in hL t_M (by decide)) e23 rfl 32 (by decide) (wd_979 hB _) rfl (by decide +kernel) rfl rfl (Nat.le_of_ble_eq_true rfl) rfl d_M_round_106 (fun f124 H locs e125 k126 hP hD hS => ?_)
                      have eC := (k126 (g.lk M 6) (tg_ne (lo_k11_6 hL _ t_M) t_M (by decide))).trans eC
                      have eA := (k126 (g.lk M 7) (tg_ne (lo_k11_7 hL _ t_M) t_M (by decide))).trans eA
                      have aUA_83 := (k126 (g.lk M 23) (tg_ne (lo_k11_23 hL _ t_M) t_M (by decide))).trans aUA_83
                      have aUB_84 := (k126 (g.lk M 24) (tg_ne (lo_k11_24 hL _ t_M) t_M (by decide))).trans aUB_84
                      have aAA_85 := (k126 (g.lk M 21) (tg_ne (lo_k11_21 hL _ t_M) t_M (by decide))).trans aAA_85
                      have aBB_86 := (k126 (g.lk M 22) (tg_ne (lo_k11_22 hL _ t_M) t_M (by decide))).trans aBB_86
                      have aLW_115 := (k126 (g.lk M 17) (tg_ne (lo_k11_17 hL _ t_M) t_M (by decide))).trans aLW_115
                      have aHG_116 := (k126 (g.lk M 18) (tg_ne (lo_k11_18 hL _ t_M) t_M (by decide))).trans aHG_116
                      have aUN_117 := (k126 (g.lk M 19) (tg_ne (lo_k11_19 hL _ t_M) t_M (by decide))).trans aUN_117
                      have aOV_118 := (k126 (g.lk M 20) (tg_ne (lo_k11_20 hL _ t_M) t_M (by decide))).trans aOV_118
                      have hu := hu.st k126 t_M (by decide)
                      have hv33 := hv33.st k126 t_M (by decide)
                      have hk127 : ∀ b, b ≠ M → f124 b = f112 b := k126
                      refine lv_iinc (k := 1) (v := nI (p9 + 1)) (lv' := [(3, .int (nI (p9 + 1))), (2, .int (bI ((jdn (un2 v) ((upd ua2 0 (bI (mU false (-1000000000)))) 0) (lw2 v) ((vp_updL a2 0 (mV false (-1000000000))) 0) || jup (ov2 v) ((upd ub2 0 (bI (mU false (nL 1000000000)))) 0) (hg2 v) ((vp_updL b2 0 (mV false (nL 1000000000))) 0)) || mvb))), (0, .ref M), (1, .int (nI n9))]) hx hb d_M_round_109 hl rfl (by rw [nI_succ]; rfl) (by decide) rfl (fun ls hl => ?_)
                      refine lv_goto (tgt := 9) hx hb d_M_round_112 (by decide) ?_
                      have hI128 := iv_1 hI1_119 hL t_M (by decide) hk127 (oc_11.mk t_M (⟨mth, mn, mdr, msz, mix, mdp, mwt, mop, 0, mwa, mgi, mpc, mst, mtr, msp, mma, mlg, mdu, e125, (by omega), (by omega), (by omega), (by omega), (by omega), (by omega), (by omega), (by omega), (by omega), (by omega), (by omega), (by omega), (by omega), (by omega), hmb14⟩))
                      have hmv9 : ((jdn (un2 v) ((upd ua2 0 (bI (mU false (-1000000000)))) 0) (lw2 v) ((vp_updL a2 0 (mV false (-1000000000))) 0) || jup (ov2 v) ((upd ub2 0 (bI (mU false (nL 1000000000)))) 0) (hg2 v) ((vp_updL b2 0 (mV false (nL 1000000000))) 0)) || mvb) = (mvI (en2 v) inI || mvb) := by congr 1; exact mv_j hVR2 hvt (by rw [upd_at, updL_at]; exact r_in1) (by rw [upd_at, updL_at]; exact r_in2)
                      have hl : lv_has ls 4 [(3, .int (nI (p9 + 1))), (2, .int (bI (mvI (en2 v) inI || mvb))), (0, .ref M), (1, .int (nI n9))] := by rw [← hmv9]; exact hl
                      exact ih21 ((mvI (en2 v) inI || mvb)) (p9 + 1) 0 (if jdn (un2 v) ((upd ua2 0 (bI (mU false (-1000000000)))) 0) (lw2 v) ((vp_updL a2 0 (mV false (-1000000000))) 0) = true then vp_updL lw2 v ((vp_updL a2 0 (mV false (-1000000000))) 0) else lw2) (if jup (ov2 v) ((upd ub2 0 (bI (mU false (nL 1000000000)))) 0) (hg2 v) ((vp_updL b2 0 (mV false (nL 1000000000))) 0) = true then vp_updL hg2 v ((vp_updL b2 0 (mV false (nL 1000000000))) 0) else hg2) (if jdn (un2 v) ((upd ua2 0 (bI (mU false (-1000000000)))) 0) (lw2 v) ((vp_updL a2 0 (mV false (-1000000000))) 0) = true then upd un2 v (bI (nzf ((upd ua2 0 (bI (mU false (-1000000000)))) 0) || true)) else un2) (if jup (ov2 v) ((upd ub2 0 (bI (mU false (nL 1000000000)))) 0) (hg2 v) ((vp_updL b2 0 (mV false (nL 1000000000))) 0) = true then upd ov2 v (bI (nzf ((upd ub2 0 (bI (mU false (nL 1000000000)))) 0) || true)) else ov2) (upd ua2 0 (bI (mU false (-1000000000)))) (upd ub2 0 (bI (mU false (nL 1000000000)))) (vp_updL a2 0 (mV false (-1000000000))) (vp_updL b2 0 (mV false (nL 1000000000))) ([]) ((enu en2 v (jnI (decide (3 < n9)) (en2 v) inI))) L9 f124 H locs ls (by omega) (by omega) q10.symm (by omega) hDS9 (by omega) hLB9 rfl (by rw [hdw9]; exact VR_j hVR2 hvt (by rw [upd_at, updL_at]; exact r_in1) (by rw [upd_at, updL_at]; exact r_in2) iK_in) (hrnd.trans (rnd_9 (decide (3 < n9)) en2 _ mvb v L9)) (by rw [← hmv9, hdw9]; rw [hdw9] at hcz; exact cz_j hvt jdn_0 jup_0 hcz) e125 aLW_115 aHG_116 aUN_117 aOV_118 aUA_83 aUB_84 aAA_85 aBB_86 hI128 hv33 hl hP hD hS
                    refine lv_if_ne (tgt := 98) hx hb d_M_round_91 (by decide) (fun b129 => ?_) (fun b129 => ?_)
                    · skip
                      replace b129 : ¬ (bI (jdn (un2 v) ((upd ua2 0 (bI (mU false (-1000000000)))) 0) (lw2 v) ((vp_updL a2 0 (mV false (-1000000000))) 0) || jup (ov2 v) ((upd ub2 0 (bI (mU false (nL 1000000000)))) 0) (hg2 v) ((vp_updL b2 0 (mV false (nL 1000000000))) 0))) = nI 0 := b129
                      replace b129 := bI_1 b129
                      refine lv_iconst (v := nI 1) hx hb d_M_round_98 (by decide) ?_
                      refine lv_goto (tgt := 103) hx hb d_M_round_99 (by decide) ?_
                      exact jn121 ((nI 1)) (by rw [b129]; rfl) _ _ hP hD hS
                    · skip
                      replace b129 : (bI (jdn (un2 v) ((upd ua2 0 (bI (mU false (-1000000000)))) 0) (lw2 v) ((vp_updL a2 0 (mV false (-1000000000))) 0) || jup (ov2 v) ((upd ub2 0 (bI (mU false (nL 1000000000)))) 0) (hg2 v) ((vp_updL b2 0 (mV false (nL 1000000000))) 0))) = nI 0 := b129
                      replace b129 := bI_0 b129
                      refine lv_iload_n hx hb d_M_round_94 rfl (lv_at hl 1 rfl) ?_
                      refine lv_if_eq (tgt := 102) hx hb d_M_round_95 (by decide) (fun b130 => ?_) (fun b130 => ?_)
                      · skip
                        replace b130 : (bI mvb) = nI 0 := b130
                        replace b130 := bI_0 b130
                        refine lv_iconst (v := nI 0) hx hb d_M_round_102 (by decide) ?_
                        exact jn121 ((nI 0)) (by rw [b129, b130]; rfl) _ _ hP hD hS
                      · skip
                        replace b130 : ¬ (bI mvb) = nI 0 := b130
                        replace b130 := bI_1 b130
                        refine lv_iconst (v := nI 1) hx hb d_M_round_98 (by decide) ?_
                        refine lv_goto (tgt := 103) hx hb d_M_round_99 (by decide) ?_
                        exact jn121 ((nI 1)) (by rw [b129, b130]; rfl) _ _ hP hD hS
            · skip
              clear hv9 hHv
              refine lv_aload_n hx hb d_M_round_36 rfl (lv_at hl 2 rfl) ?_
              refine pf_get (v := .ref (g.lk M 6)) (C := "BigRunnerModel") (T := FT10) (N := 45) hx hb (hw10 hB _) (fun _ h9 => h9) hown hK hP (lo_in hL t_M (by decide)) e23 rfl 6 (by decide) (wd_953 hB _) rfl d_M_round_37 ?_
              refine lv_iload_n hx hb d_M_round_40 rfl (lv_at hl 0 rfl) ?_
              refine pf_iald (i := p9) hx hb hK hP (lo_in hL (lo_k11_6 hL _ t_M) (by decide)) eC (lo_t43 hL _ (lo_k11_6 hL _ t_M)) (by omega) (by decide) d_M_round_41 ?_
              refine lv_topi (fun z_ hz_ => ?_)
              obtain rfl : z_ = nI w := hz_.trans hw
              refine lv_bipush (v := nI 9) hx hb d_M_round_42 (by decide) ?_
              refine lv_icmp_ne (tgt := 60) hx hb d_M_round_44 (by decide) (fun b131 => ?_) (fun b131 => ?_)
              · skip
                replace b131 := mt (nI_eq (a := w) (b := 9) (by omega) (by omega)).mpr b131
                refine lv_aload_n hx hb d_M_round_60 rfl (lv_at hl 2 rfl) ?_
                refine pf_get (v := .ref (g.lk M 6)) (C := "BigRunnerModel") (T := FT10) (N := 45) hx hb (hw10 hB _) (fun _ h9 => h9) hown hK hP (lo_in hL t_M (by decide)) e23 rfl 6 (by decide) (wd_953 hB _) rfl d_M_round_61 ?_
                refine lv_iload_n hx hb d_M_round_64 rfl (lv_at hl 0 rfl) ?_
                refine pf_iald (i := p9) hx hb hK hP (lo_in hL (lo_k11_6 hL _ t_M) (by decide)) eC (lo_t43 hL _ (lo_k11_6 hL _ t_M)) (by omega) (by decide) d_M_round_65 ?_
                refine lv_topi (fun z_ hz_ => ?_)
                obtain rfl : z_ = nI w := hz_.trans hw
                refine lv_bipush (v := nI 10) hx hb d_M_round_66 (by decide) ?_
                refine lv_icmp_ge (tgt := 104) hx hb d_M_round_68 (by decide) (fun b132 => ?_) (fun b132 => ?_)
                · skip
                  replace b132 := (nI_leI (a := 10) (b := w) (by omega) (by omega)).mp b132
                  refine lv_aload_n hx hb d_M_round_104 rfl (lv_at hl 2 rfl) ?_
                  refine lv_iconst (v := nI 0) hx hb d_M_round_105 (by decide) ?_
                  refine pf_put (v := .int (nI 0)) (ty := .int) (fs' := [.int mth, .ref (g.lk M 1), .int (nI mn), .ref (g.lk M 3), .ref (g.lk M 4), .int (nI mdr), .ref (g.lk M 6), .ref (g.lk M 7), .ref (g.lk M 8), .int (nI msz), .int (nI mix), .int (nI mdp), .ref (g.lk M 12), .int (nI mwt), .ref (g.lk M 14), .ref (g.lk M 15), .int (nI mop), .ref (g.lk M 17), .ref (g.lk M 18), .ref (g.lk M 19), .ref (g.lk M 20), .ref (g.lk M 21), .ref (g.lk M 22), .ref (g.lk M 23), .ref (g.lk M 24), .ref (g.lk M 25), .ref (g.lk M 26), .ref (g.lk M 27), .ref (g.lk M 28), .ref (g.lk M 29), .ref (g.lk M 30), .ref (g.lk M 31), .int (nI 0), .ref (g.lk M 33), .ref (g.lk M 34), .ref (g.lk M 35), .int (nI mwa), .int (nI mgi), .int (nI mpc), .int (nI mst), .int (nI mtr), .int (nI msp), .int mma, .int mlg, .int mdu]) (C := "BigRunnerModel") (T := FT10) (N := 45) hx hb (hw10 hB _) (fun _ h9 => h9) TY10 ok10 nm10 hown hK hP hD hS (lo_in hL t_M (by decide)) e23 rfl 32 (by decide) (wd_979 hB _) rfl (by decide +kernel) rfl rfl (Nat.le_of_ble_eq_true rfl) rfl d_M_round_106 (fun f133 H locs e134 k135 hP hD hS => ?_)
                  have eC := (k135 (g.lk M 6) (tg_ne (lo_k11_6 hL _ t_M) t_M (by decide))).trans eC
                  have eA := (k135 (g.lk M 7) (tg_ne (lo_k11_7 hL _ t_M) t_M (by decide))).trans eA
                  have e24 := (k135 (g.lk M 17) (tg_ne (lo_k11_17 hL _ t_M) t_M (by decide))).trans e24
                  have e25 := (k135 (g.lk M 18) (tg_ne (lo_k11_18 hL _ t_M) t_M (by decide))).trans e25
                  have e26 := (k135 (g.lk M 19) (tg_ne (lo_k11_19 hL _ t_M) t_M (by decide))).trans e26
                  have e27 := (k135 (g.lk M 20) (tg_ne (lo_k11_20 hL _ t_M) t_M (by decide))).trans e27
                  have e28 := (k135 (g.lk M 23) (tg_ne (lo_k11_23 hL _ t_M) t_M (by decide))).trans e28
                  have e29 := (k135 (g.lk M 24) (tg_ne (lo_k11_24 hL _ t_M) t_M (by decide))).trans e29
                  have e30 := (k135 (g.lk M 21) (tg_ne (lo_k11_21 hL _ t_M) t_M (by decide))).trans e30
                  have e31 := (k135 (g.lk M 22) (tg_ne (lo_k11_22 hL _ t_M) t_M (by decide))).trans e31
                  have hu := hu.st k135 t_M (by decide)
                  have hv33 := hv33.st k135 t_M (by decide)
                  have hk136 : ∀ b, b ≠ M → f133 b = f19 b := k135
                  refine lv_iinc (k := 0) (v := nI (p9 + 1)) (lv' := [(3, .int (nI (p9 + 1))), (2, .int (bI mvb)), (0, .ref M), (1, .int (nI n9))]) hx hb d_M_round_109 hl rfl (by rw [nI_succ]; rfl) (by decide) rfl (fun ls hl => ?_)
                  refine lv_goto (tgt := 9) hx hb d_M_round_112 (by decide) ?_
                  have hI137 := iv_1 hI32 hL t_M (by decide) hk136 (oc_11.mk t_M (⟨mth, mn, mdr, msz, mix, mdp, mwt, mop, 0, mwa, mgi, mpc, mst, mtr, msp, mma, mlg, mdu, e134, (by omega), (by omega), (by omega), (by omega), (by omega), (by omega), (by omega), (by omega), (by omega), (by omega), (by omega), (by omega), (by omega), (by omega), hmb14⟩))
                  exact ih21 mvb (p9 + 1) 0 lw2 hg2 un2 ov2 ua2 ub2 a2 b2 ([]) en2 L9 f133 H locs ls (by omega) (by omega) q10.symm (by omega) hDS9 (by omega) hLB9 rfl hVR2 (hrnd.trans (rnd_o (decide (3 < n9)) en2 _ mvb w v L9 hwt10)) hcz e134 e24 e25 e26 e27 e28 e29 e30 e31 hI137 hv33 hl hP hD hS
                · skip
                  replace b132 := mt (nI_leI (a := 10) (b := w) (by omega) (by omega)).mpr b132
                  exfalso; omega
              · skip
                replace b131 := (nI_eq (a := w) (b := 9) (by omega) (by omega)).mp b131
                exfalso; omega
          · skip
            replace b35 := mt (nI_leI (a := 8) (b := w) (by omega) (by omega)).mpr b35
            have hr9 : rnd (decide (3 < n9)) en [] false L = rnd (decide (3 < n9)) en2 (xst en2 S2 w v) mvb L9 := hrnd.trans (if_pos (by omega))
            clear hHv
            refine lv_aload_n hx hb d_M_round_28 rfl (lv_at hl 2 rfl) ?_
            refine lv_iload_n hx hb d_M_round_29 rfl (lv_at hl 0 rfl) ?_
            refine pcc_v (va_runV (C := "BigRunnerModel") (As := [.int (nI p9)]) (rest := []) ⟨hx, hb, hml, hown, tb_nil⟩ (m2_spanOf l g H.size f19 M mth mn mdr msz mix mdp mwt mop t9 mwa mgi mpc mst mtr msp mma mlg mdu hC hA p9 w v lw2 hg2 un2 ov2 ua2 ub2 a2 b2 S2 en2 hL t_M hI32 e23 ⟨(by omega), (by omega), (by omega), (by omega), (by omega), (by omega), (by omega), (by omega), (by omega), (by omega), (by omega), (by omega), (by omega), (by omega), hmb14⟩ eC eA hw hv (by omega) hv9 hWSv (by omega) e24 e25 e26 e27 e28 e29 e30 e31 hMR2 hVR2) ⟨(callB_of 1 (tb_one (wd_1156 hB _)) tb_good1 rfl rfl rfl (wd_82 hB _) (wd_1153 hB _) (by decide +kernel) ⟨Nat.le_of_ble_eq_true rfl, Nat.le_of_ble_eq_true rfl⟩), (wd_1155 hB _), (wd_52 hB _)⟩ ⟨pe_bl, pg_recv (ci := 10) hK hP (lo_in hL t_M (by decide)) e23 rfl, pe_pre hB hK hP hD⟩ rfl rfl hl.1 rfl (lv_room (Nat.le_of_ble_eq_true rfl)) d_M_round_30 ⟨Nat.le_of_ble_eq_true rfl, Nat.le_of_ble_eq_true rfl⟩) hS (fun f139 H locs hq140 hP hD hS => ?_)
            obtain ⟨x1_141, hI1_142, hu1_143⟩ := hq140
            have hu := hu.tr hu1_143 (by decide)
            have hv33 := hv33.tr hu1_143 (by decide)
            have eC := hu1_143.at (lo_k11_6 hL _ t_M) (by decide) eC
            have eA := hu1_143.at (lo_k11_7 hL _ t_M) (by decide) eA
            have e24 := hu1_143.at (lo_k11_17 hL _ t_M) (by decide) e24
            have e25 := hu1_143.at (lo_k11_18 hL _ t_M) (by decide) e25
            have e26 := hu1_143.at (lo_k11_19 hL _ t_M) (by decide) e26
            have e27 := hu1_143.at (lo_k11_20 hL _ t_M) (by decide) e27
            obtain ⟨tp_144, c149, c150, ⟨ua_145, a_146, ub_147, b_148, e151, e152, e153, e154, hmr155⟩, e156⟩ := x1_141
            refine lv_goto (tgt := 109) hx hb d_M_round_33 (by decide) ?_
            refine lv_iinc (k := 0) (v := nI (p9 + 1)) (lv' := [(3, .int (nI (p9 + 1))), (2, .int (bI mvb)), (0, .ref M), (1, .int (nI n9))]) hx hb d_M_round_109 hl rfl (by rw [nI_succ]; rfl) (by decide) rfl (fun ls hl => ?_)
            refine lv_goto (tgt := 9) hx hb d_M_round_112 (by decide) ?_
            exact ih21 mvb (p9 + 1) tp_144 lw2 hg2 un2 ov2 ua_145 ub_147 a_146 b_148 ((xst en2 S2 w v)) en2 L9 f139 H locs ls (by omega) (by omega) (wo_next hWO (by omega) ht9 c150) (by omega) hDS9 (by omega) hLB9 hmr155 hVR2 hr9 hcz e156 e24 e25 e26 e27 e151 e153 e152 e154 hI1_142 hv33 hl hP hD hS
  exact lp18 (msz + 1) false 0 0 hLW hHG hUN hOV h_6 h_9 h_12 h_15 ([]) en L f1 H locs ls (by omega) (by omega) hWF.2.1.symm (by omega) hDS (by omega) hLB rfl hVR rfl ⟨Nat.le_refl _, fun z => by cases z⟩ e2 eLW eHG eUN eOV e5 e8 e11 e14 hI17 un.rf hl hP hD hS
theorem cz_nb {n m k : Nat} {mv : Bool} (h : n + (k + (4 - n)) ≤ 26) (hc : CZ4 mv (decide (3 < n)) m k) (hm : mv = true) : n + 1 + (m + (4 - (n + 1))) ≤ 26 := by
  obtain ⟨h1, h2⟩ := hc
  by_cases q : 3 < n
  · have := h2 hm (decide_eq_true q); omega
  · omega
theorem cz_fu {n m k q : Nat} {mv : Bool} (h : k + (4 - n) < q + 1) (hc : CZ4 mv (decide (3 < n)) m k) (hm : mv = true) : m + (4 - (n + 1)) < q := by
  obtain ⟨h1, h2⟩ := hc
  by_cases z : 3 < n
  · have := h2 hm (decide_eq_true z); omega
  · omega
set_option maxHeartbeats 4000000 in
set_option maxRecDepth 100000 in
theorem m2_settle (l : Launch) (g : Lay) (sz : Nat) (f : Nat → va_E) (M : Nat) (mth : Int32) (mn : Nat) (mdr : Nat) (msz : Nat) (mix : Nat) (mdp : Nat) (mwt : Nat) (mop : Nat) (mtp : Nat) (mwa : Nat) (mgi : Nat) (mpc : Nat) (mst : Nat) (mtr : Nat) (msp : Nat) (mma : Int32) (mlg : Int32) (mdu : Int32) (hC : Nat → Int32) (hA : Nat → Int32) (dpf : Nat → Nat) (L : List (Nat × Nat)) (hL : LO g) (t_M : g.tg M = 11) (hI : IV g f) (eM : f M = .inr (10, [.int mth, .ref (g.lk M 1), .int (nI mn), .ref (g.lk M 3), .ref (g.lk M 4), .int (nI mdr), .ref (g.lk M 6), .ref (g.lk M 7), .ref (g.lk M 8), .int (nI msz), .int (nI mix), .int (nI mdp), .ref (g.lk M 12), .int (nI mwt), .ref (g.lk M 14), .ref (g.lk M 15), .int (nI mop), .ref (g.lk M 17), .ref (g.lk M 18), .ref (g.lk M 19), .ref (g.lk M 20), .ref (g.lk M 21), .ref (g.lk M 22), .ref (g.lk M 23), .ref (g.lk M 24), .ref (g.lk M 25), .ref (g.lk M 26), .ref (g.lk M 27), .ref (g.lk M 28), .ref (g.lk M 29), .ref (g.lk M 30), .ref (g.lk M 31), .int (nI mtp), .ref (g.lk M 33), .ref (g.lk M 34), .ref (g.lk M 35), .int (nI mwa), .int (nI mgi), .int (nI mpc), .int (nI mst), .int (nI mtr), .int (nI msp), .int mma, .int mlg, .int mdu])) (hMB : mn ≤ 72 ∧ mdr ≤ 100 ∧ msz ≤ 100 ∧ mix ≤ 100 ∧ mdp ≤ 20 ∧ mwt ≤ 72 ∧ mop ≤ 40 ∧ mtp ≤ 80 ∧ mwa ≤ 20 ∧ mgi ≤ msp ∧ mpc ≤ 100 ∧ mst ≤ 4 ∧ mtr ≤ 3 ∧ msp ≤ 3000 ∧ (mdu = 0 ∨ mdu = 1)) (eC : f (g.lk M 6) = .inl (g.ac (g.lk M 6), 100, .inl hC)) (eA : f (g.lk M 7) = .inl (g.ac (g.lk M 7), 100, .inl hA)) (hWF : WF hC hA dpf msz) (hDS : DS hC hA 0 L) (hLn : L.length = msz) (hLB : ∀ x, x ∈ L → LB x) (hE8 : ∀ p, p < msz → hC p = nI 8 → dpf p = 1) : Met l ⟨"BigRunnerModel", "settle", "()I"⟩ [Cond.code ⟨"BigRunnerModel", "settle", "()I"⟩ prog_12_method_25_code 2 (some .int)] ({ frames := 5, cells := 0, slots := 0, locals := 123 }) (va_Pc [.ref M] (pc_in g sz f)) (va_Qi (fun r f1 => (r = nI (rds L 30 1 (fun _ => zI)).1) ∧ (∃ (tp1 : Nat), (tp1 ≤ 80) ∧ f1 M = .inr (10, [.int mth, .ref (g.lk M 1), .int (nI mn), .ref (g.lk M 3), .ref (g.lk M 4), .int (nI mdr), .ref (g.lk M 6), .ref (g.lk M 7), .ref (g.lk M 8), .int (nI msz), .int (nI mix), .int (nI mdp), .ref (g.lk M 12), .int (nI mwt), .ref (g.lk M 14), .ref (g.lk M 15), .int (nI mop), .ref (g.lk M 17), .ref (g.lk M 18), .ref (g.lk M 19), .ref (g.lk M 20), .ref (g.lk M 21), .ref (g.lk M 22), .ref (g.lk M 23), .ref (g.lk M 24), .ref (g.lk M 25), .ref (g.lk M 26), .ref (g.lk M 27), .ref (g.lk M 28), .ref (g.lk M 29), .ref (g.lk M 30), .ref (g.lk M 31), .int (nI tp1), .ref (g.lk M 33), .ref (g.lk M 34), .ref (g.lk M 35), .int (nI mwa), .int (nI mgi), .int (nI mpc), .int (nI mst), .int (nI mtr), .int (nI msp), .int mma, .int mlg, .int mdu])) ∧ (∃ (lw1 hg1 : Nat → Int64) (un1 ov1 : Nat → Int32), f1 (g.lk M 17) = .inl (g.ac (g.lk M 17), 10, .inr (.inl lw1)) ∧ f1 (g.lk M 18) = .inl (g.ac (g.lk M 18), 10, .inr (.inl hg1)) ∧ f1 (g.lk M 19) = .inl (g.ac (g.lk M 19), 10, .inl un1) ∧ f1 (g.lk M 20) = .inl (g.ac (g.lk M 20), 10, .inl ov1) ∧ VR lw1 hg1 un1 ov1 ((rds L 30 1 (fun _ => zI)).2)) ∧ (IV g f1) ∧ (un [11, 45, 49, 50, 51, 52, 53, 54, 55, 56, 57] g f f1)) (pc_out g sz) (pc_A g sz)) 0 0 (pc_A g sz) := by
  refine pe_ofW (cc := prog_12_method_25_code) (maxL := 2) (ret := (some .int)) (lv := [(0, .ref M)]) (by decide) (Nat.le_of_ble_eq_true rfl) rfl ?_
  intro p e s m args below meth c ls hx hb hr hml hlocks hown hB hP hK hD hsz hS hl
  subst hsz
  have hu : un [11, 45, 49, 50, 51, 52, 53, 54, 55, 56, 57] g f f := un.rf
  obtain ⟨hmb0, hmb1, hmb2, hmb3, hmb4, hmb5, hmb6, hmb7, hmb8, hmb9, hmb10, hmb11, hmb12, hmb13, hmb14⟩ := hMB
  refine lv_iconst (v := nI 0) hx hb d_M_settle_0 (by decide) ?_
  refine lv_istore_n (lv' := [(1, .int (nI 0)), (0, .ref M)]) hx hb d_M_settle_1 rfl hl (by decide) rfl (fun ls hl => ?_)
  obtain ⟨h_2, e1⟩ := oc_49.of (lo_k11_17 hL _ t_M) (hI.1 (g.lk M 17))
  obtain ⟨h_5, e4⟩ := oc_50.of (lo_k11_18 hL _ t_M) (hI.1 (g.lk M 18))
  obtain ⟨h_8, e7⟩ := oc_51.of (lo_k11_19 hL _ t_M) (hI.1 (g.lk M 19))
  obtain ⟨h_11, e10⟩ := oc_52.of (lo_k11_20 hL _ t_M) (hI.1 (g.lk M 20))
  have lp13 : ∀ (k15 : Nat) (i : Nat) (lw2 : Nat → Int64) (hg2 : Nat → Int64) (un2 : Nat → Int32) (ov2 : Nat → Int32) (f14 : Nat → va_E) (H : Heap) (locs : List Loc) (ls : Array Slot), (10 < i + k15) → (i ≤ 10) → (∀ v, v < i → lw2 v = nL 0 ∧ hg2 v = nL 0 ∧ un2 v = nI 0 ∧ ov2 v = nI 0) → f14 (g.lk M 17) = .inl (g.ac (g.lk M 17), 10, .inr (.inl (lw2))) → f14 (g.lk M 18) = .inl (g.ac (g.lk M 18), 10, .inr (.inl (hg2))) → f14 (g.lk M 19) = .inl (g.ac (g.lk M 19), 10, .inl (un2)) → f14 (g.lk M 20) = .inl (g.ac (g.lk M 20), 10, .inl (ov2)) → IV g f14 → un [49, 50, 51, 52] g f f14 → lv_has ls 2 [(1, .int (nI i)), (0, .ref M)] → va_P g.D vcl (va_pl g.LP f14) H → va_D (pc_A g s.heap.size) (va_pl g.LP f14) → va_S (pc_A g s.heap.size) s.heap H locs → W p l e ({ frames := 5, cells := 0, slots := 0, locals := 123 }) s m args below meth c H locs 0 0 (MQ below (va_Qi (fun r f1 => (r = nI (rds L 30 1 (fun _ => zI)).1) ∧ (∃ (tp1 : Nat), (tp1 ≤ 80) ∧ f1 M = .inr (10, [.int mth, .ref (g.lk M 1), .int (nI mn), .ref (g.lk M 3), .ref (g.lk M 4), .int (nI mdr), .ref (g.lk M 6), .ref (g.lk M 7), .ref (g.lk M 8), .int (nI msz), .int (nI mix), .int (nI mdp), .ref (g.lk M 12), .int (nI mwt), .ref (g.lk M 14), .ref (g.lk M 15), .int (nI mop), .ref (g.lk M 17), .ref (g.lk M 18), .ref (g.lk M 19), .ref (g.lk M 20), .ref (g.lk M 21), .ref (g.lk M 22), .ref (g.lk M 23), .ref (g.lk M 24), .ref (g.lk M 25), .ref (g.lk M 26), .ref (g.lk M 27), .ref (g.lk M 28), .ref (g.lk M 29), .ref (g.lk M 30), .ref (g.lk M 31), .int (nI tp1), .ref (g.lk M 33), .ref (g.lk M 34), .ref (g.lk M 35), .int (nI mwa), .int (nI mgi), .int (nI mpc), .int (nI mst), .int (nI mtr), .int (nI msp), .int mma, .int mlg, .int mdu])) ∧ (∃ (lw1 hg1 : Nat → Int64) (un1 ov1 : Nat → Int32), f1 (g.lk M 17) = .inl (g.ac (g.lk M 17), 10, .inr (.inl lw1)) ∧ f1 (g.lk M 18) = .inl (g.ac (g.lk M 18), 10, .inr (.inl hg1)) ∧ f1 (g.lk M 19) = .inl (g.ac (g.lk M 19), 10, .inl un1) ∧ f1 (g.lk M 20) = .inl (g.ac (g.lk M 20), 10, .inl ov1) ∧ VR lw1 hg1 un1 ov1 ((rds L 30 1 (fun _ => zI)).2)) ∧ (IV g f1) ∧ (un [11, 45, 49, 50, 51, 52, 53, 54, 55, 56, 57] g f f1)) (pc_out g s.heap.size) (pc_A g s.heap.size)) args s 0 0 (pc_A g s.heap.size)) (F0 m 2 ls []) := by
    intro k15
    induction k15 with
    | zero => intros; exfalso; omega
    | succ k15 ih16 =>
      intro i lw2 hg2 un2 ov2 f14 H locs ls hfu17 hi hz e18 e19 e20 e21 hI22 hv23 hl hP hD hS
      have eM := hv23.at t_M (by decide) eM
      have eC := hv23.at (lo_k11_6 hL _ t_M) (by decide) eC
      have eA := hv23.at (lo_k11_7 hL _ t_M) (by decide) eA
      have hu := hu.tr hv23 (by decide)
      refine lv_iload_n hx hb d_M_settle_2 rfl (lv_at hl 0 rfl) ?_
      refine lv_bipush (v := nI 10) hx hb d_M_settle_3 (by decide) ?_
      refine lv_icmp_ge (tgt := 42) hx hb d_M_settle_5 (by decide) (fun b24 => ?_) (fun b24 => ?_)
      · skip
        replace b24 := (nI_leI (a := 10) (b := i) (by omega) (by omega)).mp b24
        refine lv_iconst (v := nI 1) hx hb d_M_settle_42 (by decide) ?_
        refine lv_istore_n (lv' := [(1, .int (nI 1)), (0, .ref M)]) hx hb d_M_settle_43 rfl hl (by decide) rfl (fun ls hl => ?_)
        have hz1 := cz_le un2 10
        have hz2 := cz_le ov2 10
        have hVRz := VR_z (fun v hv => hz v (by omega))
        clear hz
        have lp25 : ∀ (k27 : Nat) (n9 : Nat) (t9 : Nat) (lw2 : Nat → Int64) (hg2 : Nat → Int64) (un2 : Nat → Int32) (ov2 : Nat → Int32) (en2 : Nat → IVL) (f26 : Nat → va_E) (H : Heap) (locs : List Loc) (ls : Array Slot), (cz un2 10 + cz ov2 10 + (4 - n9) < k27) → (t9 ≤ 80) → (n9 + (cz un2 10 + cz ov2 10 + (4 - n9)) ≤ 26) → (VR lw2 hg2 un2 ov2 en2) → ((rds L 30 1 (fun _ => zI)) = rds L (31 - n9) n9 en2) → f26 M = .inr (10, [.int mth, .ref (g.lk M 1), .int (nI mn), .ref (g.lk M 3), .ref (g.lk M 4), .int (nI mdr), .ref (g.lk M 6), .ref (g.lk M 7), .ref (g.lk M 8), .int (nI msz), .int (nI mix), .int (nI mdp), .ref (g.lk M 12), .int (nI mwt), .ref (g.lk M 14), .ref (g.lk M 15), .int (nI mop), .ref (g.lk M 17), .ref (g.lk M 18), .ref (g.lk M 19), .ref (g.lk M 20), .ref (g.lk M 21), .ref (g.lk M 22), .ref (g.lk M 23), .ref (g.lk M 24), .ref (g.lk M 25), .ref (g.lk M 26), .ref (g.lk M 27), .ref (g.lk M 28), .ref (g.lk M 29), .ref (g.lk M 30), .ref (g.lk M 31), .int (nI t9), .ref (g.lk M 33), .ref (g.lk M 34), .ref (g.lk M 35), .int (nI mwa), .int (nI mgi), .int (nI mpc), .int (nI mst), .int (nI mtr), .int (nI msp), .int mma, .int mlg, .int mdu]) → f26 (g.lk M 17) = .inl (g.ac (g.lk M 17), 10, .inr (.inl (lw2))) → f26 (g.lk M 18) = .inl (g.ac (g.lk M 18), 10, .inr (.inl (hg2))) → f26 (g.lk M 19) = .inl (g.ac (g.lk M 19), 10, .inl (un2)) → f26 (g.lk M 20) = .inl (g.ac (g.lk M 20), 10, .inl (ov2)) → IV g f26 → un [11, 45, 49, 50, 51, 52, 53, 54, 55, 56, 57] g f14 f26 → lv_has ls 2 [(1, .int (nI n9)), (0, .ref M)] → va_P g.D vcl (va_pl g.LP f26) H → va_D (pc_A g s.heap.size) (va_pl g.LP f26) → va_S (pc_A g s.heap.size) s.heap H locs → W p l e ({ frames := 5, cells := 0, slots := 0, locals := 123 }) s m args below meth c H locs 0 0 (MQ below (va_Qi (fun r f1 => (r = nI (rds L 30 1 (fun _ => zI)).1) ∧ (∃ (tp1 : Nat), (tp1 ≤ 80) ∧ f1 M = .inr (10, [.int mth, .ref (g.lk M 1), .int (nI mn), .ref (g.lk M 3), .ref (g.lk M 4), .int (nI mdr), .ref (g.lk M 6), .ref (g.lk M 7), .ref (g.lk M 8), .int (nI msz), .int (nI mix), .int (nI mdp), .ref (g.lk M 12), .int (nI mwt), .ref (g.lk M 14), .ref (g.lk M 15), .int (nI mop), .ref (g.lk M 17), .ref (g.lk M 18), .ref (g.lk M 19), .ref (g.lk M 20), .ref (g.lk M 21), .ref (g.lk M 22), .ref (g.lk M 23), .ref (g.lk M 24), .ref (g.lk M 25), .ref (g.lk M 26), .ref (g.lk M 27), .ref (g.lk M 28), .ref (g.lk M 29), .ref (g.lk M 30), .ref (g.lk M 31), .int (nI tp1), .ref (g.lk M 33), .ref (g.lk M 34), .ref (g.lk M 35), .int (nI mwa), .int (nI mgi), .int (nI mpc), .int (nI mst), .int (nI mtr), .int (nI msp), .int mma, .int mlg, .int mdu])) ∧ (∃ (lw1 hg1 : Nat → Int64) (un1 ov1 : Nat → Int32), f1 (g.lk M 17) = .inl (g.ac (g.lk M 17), 10, .inr (.inl lw1)) ∧ f1 (g.lk M 18) = .inl (g.ac (g.lk M 18), 10, .inr (.inl hg1)) ∧ f1 (g.lk M 19) = .inl (g.ac (g.lk M 19), 10, .inl un1) ∧ f1 (g.lk M 20) = .inl (g.ac (g.lk M 20), 10, .inl ov1) ∧ VR lw1 hg1 un1 ov1 ((rds L 30 1 (fun _ => zI)).2)) ∧ (IV g f1) ∧ (un [11, 45, 49, 50, 51, 52, 53, 54, 55, 56, 57] g f f1)) (pc_out g s.heap.size) (pc_A g s.heap.size)) args s 0 0 (pc_A g s.heap.size)) (F0 m 44 ls []) := by
          intro k27
          induction k27 with
          | zero => intros; exfalso; omega
          | succ k27 ih28 =>
            intro n9 t9 lw2 hg2 un2 ov2 en2 f26 H locs ls hfu29 ht8 hnb hVR2 hrd2 e30 e31 e32 e33 e34 hI35 hv36 hl hP hD hS
            have eC := hv36.at (lo_k11_6 hL _ t_M) (by decide) eC
            have eA := hv36.at (lo_k11_7 hL _ t_M) (by decide) eA
            have hu := hu.tr hv36 (by decide)
            refine lv_aload_n hx hb d_M_settle_44 rfl (lv_at hl 1 rfl) ?_
            refine lv_iload_n hx hb d_M_settle_45 rfl (lv_at hl 0 rfl) ?_
            refine pcc_i (va_runV (C := "BigRunnerModel") (As := [.int (nI n9)]) (rest := []) ⟨hx, hb, hml, hown, tb_nil⟩ (m2_round l g H.size f26 M mth mn mdr msz mix mdp mwt mop t9 mwa mgi mpc mst mtr msp mma mlg mdu hC hA dpf lw2 hg2 un2 ov2 n9 L en2 hL t_M hI35 e30 ⟨(by omega), (by omega), (by omega), (by omega), (by omega), (by omega), (by omega), (by omega), (by omega), (by omega), (by omega), (by omega), (by omega), (by omega), hmb14⟩ eC eA hWF e31 e32 e33 e34 (by omega) hDS hLn hLB hE8 hVR2) ⟨(callB_of 1 (tb_one (wd_1152 hB _)) tb_good1 rfl rfl rfl (wd_82 hB _) (wd_1149 hB _) (by decide +kernel) ⟨Nat.le_of_ble_eq_true rfl, Nat.le_of_ble_eq_true rfl⟩), (wd_1151 hB _), (wd_51 hB _)⟩ ⟨pe_bl, pg_recv (ci := 10) hK hP (lo_in hL t_M (by decide)) e30 rfl, pe_pre hB hK hP hD⟩ rfl rfl hl.1 rfl (lv_room (Nat.le_of_ble_eq_true rfl)) d_M_settle_46 ⟨Nat.le_of_ble_eq_true rfl, Nat.le_of_ble_eq_true rfl⟩) hS (fun r37 f38 H locs hq39 hP hD hS => ?_)
            obtain ⟨qv_40, x1_41, vr_42, hI1_43, hu1_44⟩ := hq39
            subst qv_40
            have hu := hu.tr hu1_44 (by decide)
            have hv36 := hv36.tr hu1_44 (by decide)
            have eC := hu1_44.at (lo_k11_6 hL _ t_M) (by decide) eC
            have eA := hu1_44.at (lo_k11_7 hL _ t_M) (by decide) eA
            obtain ⟨tp1_46, c47, e45⟩ := x1_41
            obtain ⟨lw_48, hg_49, un_50, ov_51, e52, e53, e54, e55, hvr56, hcz57⟩ := vr_42
            refine lv_if_eq (tgt := 58) hx hb d_M_settle_49 (by decide) (fun b58 => ?_) (fun b58 => ?_)
            · skip
              replace b58 : (bI (rnd (decide (3 < n9)) en2 [] false L).2) = nI 0 := b58
              replace b58 := bI_0 b58
              have hfin : (rds L 30 1 (fun _ => zI)) = (n9, (rnd (decide (3 < n9)) en2 [] false L).1) := hrd2.trans (by rw [show 31 - n9 = (30 - n9) + 1 by omega]; exact ((rds_s L (30 - n9) n9 en2) _ _ rfl).2 b58)
              refine lv_iload_n hx hb d_M_settle_58 rfl (lv_at hl 0 rfl) ?_
              exact pe_iret hx hb hr hlocks hK hP hD hS d_M_settle_59 ⟨(by rw [hfin]), ⟨tp1_46, by omega, e45⟩, ⟨_, _, _, _, e52, e53, e54, e55, (by rw [hfin]; exact hvr56)⟩, hI1_43, hu⟩
            · skip
              replace b58 : ¬ (bI (rnd (decide (3 < n9)) en2 [] false L).2) = nI 0 := b58
              replace b58 := bI_1 b58
              have hfz := cz_fu hfu29 hcz57 b58
              refine lv_iinc (k := 0) (v := nI (n9 + 1)) (lv' := [(1, .int (nI (n9 + 1))), (0, .ref M)]) hx hb d_M_settle_52 hl rfl (by rw [nI_succ]; rfl) (by decide) rfl (fun ls hl => ?_)
              refine lv_goto (tgt := 44) hx hb d_M_settle_55 (by decide) ?_
              exact ih28 (n9 + 1) tp1_46 lw_48 hg_49 un_50 ov_51 ((rnd (decide (3 < n9)) en2 [] false L).1) f38 H locs ls (by omega) (by omega) (cz_nb hnb hcz57 b58) hvr56 (hrd2.trans (by rw [show 31 - n9 = (30 - n9) + 1 by omega, show 31 - (n9 + 1) = 30 - n9 by omega]; exact ((rds_s L (30 - n9) n9 en2) _ _ rfl).1 b58)) e45 e52 e53 e54 e55 hI1_43 hv36 hl hP hD hS
        exact lp25 (cz un2 10 + cz ov2 10 + 4) 1 mtp lw2 hg2 un2 ov2 ((fun _ => zI)) f14 H locs ls (by omega) (by omega) (by omega) hVRz rfl eM e18 e19 e20 e21 hI22 un.rf hl hP hD hS
      · skip
        replace b24 := mt (nI_leI (a := 10) (b := i) (by omega) (by omega)).mpr b24
        refine lv_aload_n hx hb d_M_settle_8 rfl (lv_at hl 1 rfl) ?_
        refine pf_get (v := .ref (g.lk M 17)) (C := "BigRunnerModel") (T := FT10) (N := 45) hx hb (hw10 hB _) (fun _ h9 => h9) hown hK hP (lo_in hL t_M (by decide)) eM rfl 17 (by decide) (wd_964 hB _) rfl d_M_settle_9 ?_
        refine lv_iload_n hx hb d_M_settle_12 rfl (lv_at hl 0 rfl) ?_
        refine lv_lconst (v := nL 0) hx hb d_M_settle_13 (by decide) ?_
        refine pf_last (i := i) hx hb hK hP hD hS (lo_in hL (lo_k11_17 hL _ t_M) (by decide)) e18 (lo_t49 hL _ (lo_k11_17 hL _ t_M)) (by omega) (by decide) d_M_settle_14 (fun f59 H locs e60 k61 hP hD hS => ?_)
        have eM := (k61 M (tg_ne t_M (lo_k11_17 hL _ t_M) (by decide))).trans eM
        have eC := (k61 (g.lk M 6) (tg_ne (lo_k11_6 hL _ t_M) (lo_k11_17 hL _ t_M) (by decide))).trans eC
        have eA := (k61 (g.lk M 7) (tg_ne (lo_k11_7 hL _ t_M) (lo_k11_17 hL _ t_M) (by decide))).trans eA
        have e19 := (k61 (g.lk M 18) (tg_ne (lo_k11_18 hL _ t_M) (lo_k11_17 hL _ t_M) (by decide))).trans e19
        have e20 := (k61 (g.lk M 19) (tg_ne (lo_k11_19 hL _ t_M) (lo_k11_17 hL _ t_M) (by decide))).trans e20
        have e21 := (k61 (g.lk M 20) (tg_ne (lo_k11_20 hL _ t_M) (lo_k11_17 hL _ t_M) (by decide))).trans e21
        have hu := hu.st k61 (lo_k11_17 hL _ t_M) (by decide)
        have hv23 := hv23.st k61 (lo_k11_17 hL _ t_M) (by decide)
        have hk62 : ∀ b, b ≠ (g.lk M 17) → f59 b = f14 b := k61
        refine lv_aload_n hx hb d_M_settle_15 rfl (lv_at hl 1 rfl) ?_
        refine pf_get (v := .ref (g.lk M 18)) (C := "BigRunnerModel") (T := FT10) (N := 45) hx hb (hw10 hB _) (fun _ h9 => h9) hown hK hP (lo_in hL t_M (by decide)) eM rfl 18 (by decide) (wd_965 hB _) rfl d_M_settle_16 ?_
        refine lv_iload_n hx hb d_M_settle_19 rfl (lv_at hl 0 rfl) ?_
        refine lv_lconst (v := nL 0) hx hb d_M_settle_20 (by decide) ?_
        have hI63 := iv_1 hI22 hL (lo_k11_17 hL _ t_M) (by decide) hk62 (oc_49.mk (lo_k11_17 hL _ t_M) (⟨_, e60⟩))
        refine pf_last (i := i) hx hb hK hP hD hS (lo_in hL (lo_k11_18 hL _ t_M) (by decide)) e19 (lo_t50 hL _ (lo_k11_18 hL _ t_M)) (by omega) (by decide) d_M_settle_21 (fun f64 H locs e65 k66 hP hD hS => ?_)
        have eM := (k66 M (tg_ne t_M (lo_k11_18 hL _ t_M) (by decide))).trans eM
        have eC := (k66 (g.lk M 6) (tg_ne (lo_k11_6 hL _ t_M) (lo_k11_18 hL _ t_M) (by decide))).trans eC
        have eA := (k66 (g.lk M 7) (tg_ne (lo_k11_7 hL _ t_M) (lo_k11_18 hL _ t_M) (by decide))).trans eA
        have e20 := (k66 (g.lk M 19) (tg_ne (lo_k11_19 hL _ t_M) (lo_k11_18 hL _ t_M) (by decide))).trans e20
        have e21 := (k66 (g.lk M 20) (tg_ne (lo_k11_20 hL _ t_M) (lo_k11_18 hL _ t_M) (by decide))).trans e21
        have e60 := (k66 (g.lk M 17) (tg_ne (lo_k11_17 hL _ t_M) (lo_k11_18 hL _ t_M) (by decide))).trans e60
        have hu := hu.st k66 (lo_k11_18 hL _ t_M) (by decide)
        have hv23 := hv23.st k66 (lo_k11_18 hL _ t_M) (by decide)
        have hk67 : ∀ b, b ≠ (g.lk M 18) → f64 b = f59 b := k66
        refine lv_aload_n hx hb d_M_settle_22 rfl (lv_at hl 1 rfl) ?_
        refine pf_get (v := .ref (g.lk M 19)) (C := "BigRunnerModel") (T := FT10) (N := 45) hx hb (hw10 hB _) (fun _ h9 => h9) hown hK hP (lo_in hL t_M (by decide)) eM rfl 19 (by decide) (wd_966 hB _) rfl d_M_settle_23 ?_
        refine lv_iload_n hx hb d_M_settle_26 rfl (lv_at hl 0 rfl) ?_
        refine lv_iconst (v := nI 0) hx hb d_M_settle_27 (by decide) ?_
        have hI68 := iv_1 hI63 hL (lo_k11_18 hL _ t_M) (by decide) hk67 (oc_50.mk (lo_k11_18 hL _ t_M) (⟨_, e65⟩))
        refine pf_zast (i := i) hx hb hK hP hD hS (lo_in hL (lo_k11_19 hL _ t_M) (by decide)) e20 (lo_t51 hL _ (lo_k11_19 hL _ t_M)) (by omega) (by decide) d_M_settle_28 (fun f69 H locs e70 k71 hP hD hS => ?_)
        have eM := (k71 M (tg_ne t_M (lo_k11_19 hL _ t_M) (by decide))).trans eM
        have eC := (k71 (g.lk M 6) (tg_ne (lo_k11_6 hL _ t_M) (lo_k11_19 hL _ t_M) (by decide))).trans eC
        have eA := (k71 (g.lk M 7) (tg_ne (lo_k11_7 hL _ t_M) (lo_k11_19 hL _ t_M) (by decide))).trans eA
        have e21 := (k71 (g.lk M 20) (tg_ne (lo_k11_20 hL _ t_M) (lo_k11_19 hL _ t_M) (by decide))).trans e21
        have e60 := (k71 (g.lk M 17) (tg_ne (lo_k11_17 hL _ t_M) (lo_k11_19 hL _ t_M) (by decide))).trans e60
        have e65 := (k71 (g.lk M 18) (tg_ne (lo_k11_18 hL _ t_M) (lo_k11_19 hL _ t_M) (by decide))).trans e65
        have hu := hu.st k71 (lo_k11_19 hL _ t_M) (by decide)
        have hv23 := hv23.st k71 (lo_k11_19 hL _ t_M) (by decide)
        have hk72 : ∀ b, b ≠ (g.lk M 19) → f69 b = f64 b := k71
        refine lv_aload_n hx hb d_M_settle_29 rfl (lv_at hl 1 rfl) ?_
        refine pf_get (v := .ref (g.lk M 20)) (C := "BigRunnerModel") (T := FT10) (N := 45) hx hb (hw10 hB _) (fun _ h9 => h9) hown hK hP (lo_in hL t_M (by decide)) eM rfl 20 (by decide) (wd_967 hB _) rfl d_M_settle_30 ?_
        refine lv_iload_n hx hb d_M_settle_33 rfl (lv_at hl 0 rfl) ?_
        refine lv_iconst (v := nI 0) hx hb d_M_settle_34 (by decide) ?_
        have hI73 := iv_1 hI68 hL (lo_k11_19 hL _ t_M) (by decide) hk72 (oc_51.mk (lo_k11_19 hL _ t_M) (⟨_, e70⟩))
        refine pf_zast (i := i) hx hb hK hP hD hS (lo_in hL (lo_k11_20 hL _ t_M) (by decide)) e21 (lo_t52 hL _ (lo_k11_20 hL _ t_M)) (by omega) (by decide) d_M_settle_35 (fun f74 H locs e75 k76 hP hD hS => ?_)
        have eM := (k76 M (tg_ne t_M (lo_k11_20 hL _ t_M) (by decide))).trans eM
        have eC := (k76 (g.lk M 6) (tg_ne (lo_k11_6 hL _ t_M) (lo_k11_20 hL _ t_M) (by decide))).trans eC
        have eA := (k76 (g.lk M 7) (tg_ne (lo_k11_7 hL _ t_M) (lo_k11_20 hL _ t_M) (by decide))).trans eA
        have e60 := (k76 (g.lk M 17) (tg_ne (lo_k11_17 hL _ t_M) (lo_k11_20 hL _ t_M) (by decide))).trans e60
        have e65 := (k76 (g.lk M 18) (tg_ne (lo_k11_18 hL _ t_M) (lo_k11_20 hL _ t_M) (by decide))).trans e65
        have e70 := (k76 (g.lk M 19) (tg_ne (lo_k11_19 hL _ t_M) (lo_k11_20 hL _ t_M) (by decide))).trans e70
        have hu := hu.st k76 (lo_k11_20 hL _ t_M) (by decide)
        have hv23 := hv23.st k76 (lo_k11_20 hL _ t_M) (by decide)
        have hk77 : ∀ b, b ≠ (g.lk M 20) → f74 b = f69 b := k76
        refine lv_iinc (k := 0) (v := nI (i + 1)) (lv' := [(1, .int (nI (i + 1))), (0, .ref M)]) hx hb d_M_settle_36 hl rfl (by rw [nI_succ]; rfl) (by decide) rfl (fun ls hl => ?_)
        refine lv_goto (tgt := 2) hx hb d_M_settle_39 (by decide) ?_
        have hI78 := iv_1 hI73 hL (lo_k11_20 hL _ t_M) (by decide) hk77 (oc_52.mk (lo_k11_20 hL _ t_M) (⟨_, e75⟩))
        exact ih16 (i + 1) (vp_updL lw2 i ((nL 0))) (vp_updL hg2 i ((nL 0))) (upd un2 i (vp_nar .boolean ((nI 0)))) (upd ov2 i (vp_nar .boolean ((nI 0)))) f74 H locs ls (by omega) (by omega) (fun v hv => by rcases Nat.lt_or_ge v i with q | q; exact ⟨(updL_ne _ _ (by omega)).trans (hz v q).1, (updL_ne _ _ (by omega)).trans (hz v q).2.1, (upd_ne _ _ (by omega)).trans (hz v q).2.2.1, (upd_ne _ _ (by omega)).trans (hz v q).2.2.2⟩; rw [show v = i by omega, updL_at, updL_at, upd_at, upd_at]; exact ⟨rfl, rfl, by decide, by decide⟩) e60 e65 e70 e75 hI78 hv23 hl hP hD hS
  exact lp13 11 0 h_2 h_5 h_8 h_11 f s.heap [] ls (by omega) (by omega) (fun v hv => absurd hv (by omega)) e1 e4 e7 e10 hI un.rf hl hP hD hS

