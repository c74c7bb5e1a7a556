theorem klx_t {k b : Nat → Int32} {n t : Nat} (hn : 0 < n) (h : b (n - 1) = nI t) (ht : t < 2 ^ 31) : klx k b n = (kc (k (n - 1)), t) :: klx k b (n - 1) := by
  rw [klx_s k b hn, h, nI_clamp ht]
theorem klx_u2 (k b : Nat → Int32) (n : Nat) (x : Int32) {t : Nat} (ht : t < 2 ^ 31) : klx (upd k n x) (upd b n (nI t)) (n + 1) = (kc x, t) :: klx k b n := by
  rw [klx_upd, nI_clamp ht]
/-- an assignment finds one number in the row -/
def E8 (d : Nat → Int32) (n : Nat) : Prop := ∀ p, p < n → d p = nI 8 → dpc d p = 1
theorem E8_put {d : Nat → Int32} {n w : Nat} (h : E8 d n) (hw : w ≠ 8) (hw2 : w < 100) : E8 (upd d n (nI w)) (n + 1) := fun p hp e => by
  rcases Nat.lt_or_ge p n with q | q
  · rw [dpc_u (by omega)]
    exact h p q ((upd_ne _ _ (by omega)).symm.trans e)
  · obtain rfl : p = n := by omega
    rw [upd_at] at e
    exact absurd ((nI_eq (by omega) (by decide)).mp e) hw
theorem E8_put8 {d : Nat → Int32} {n : Nat} (h : E8 d n) (h1 : dpc d n = 1) : E8 (upd d n (nI 8)) (n + 1) := fun p hp e => by
  rcases Nat.lt_or_ge p n with q | q
  · rw [dpc_u (by omega)]
    exact h p q ((upd_ne _ _ (by omega)).symm.trans e)
  · obtain rfl : p = n := by omega
    rw [dpc_u (Nat.le_refl _)]
    exact h1
theorem E8_ex {d g h : Nat → Int32} {n n1 : Nat} (h8 : E8 h n) (e : smd n d h) (hg : GC d g n n1) : E8 d n1 := fun p hp q => by
  rcases Nat.lt_or_ge p n with z | z
  · rw [dpc_eq (fun i hi => e i (by omega))]
    exact h8 p z ((e p z).symm.trans q)
  · obtain ⟨w, v, a1, a2, a3, -⟩ := hg p z hp
    rw [a1] at q
    have := (nI_eq (a := w) (b := 8) (by omega) (by decide)).mp q
    omega
theorem E8_0 (d : Nat → Int32) : E8 d 0 := fun p hp => absurd hp (by omega)
set_option maxHeartbeats 4000000 in
set_option maxRecDepth 100000 in
theorem m2_closes (l : Launch) (g : Lay) (sz : Nat) (f : Nat → va_E) (M : Nat) (mth : Int32) (mn : Nat) (mdr : Nat) (msz : Nat) (mix : Nat) (mdp : Nat) (mwt : Nat) (mop : Nat) (mtp : Nat) (mwa : Nat) (mgi : Nat) (mpc : Nat) (mst : Nat) (mtr : Nat) (msp : Nat) (mma : Int32) (mlg : Int32) (hT : Nat → Int32) (hQ : Nat → Int32) (hG : Nat → Int32) (hB9 : Nat → Int32) (hK9 : Nat → Int32) (c9 : Int32) (D9 : List (Nat × Nat)) (hL : LO g) (t_M : g.tg M = 11) (hI : IV g f) (eM : f M = .inr (10, [.int mth, .ref (g.lk M 1), .int (nI mn), .ref (g.lk M 3), .ref (g.lk M 4), .int (nI mdr), .ref (g.lk M 6), .ref (g.lk M 7), .ref (g.lk M 8), .int (nI msz), .int (nI mix), .int (nI mdp), .ref (g.lk M 12), .int (nI mwt), .ref (g.lk M 14), .ref (g.lk M 15), .int (nI mop), .ref (g.lk M 17), .ref (g.lk M 18), .ref (g.lk M 19), .ref (g.lk M 20), .ref (g.lk M 21), .ref (g.lk M 22), .ref (g.lk M 23), .ref (g.lk M 24), .ref (g.lk M 25), .ref (g.lk M 26), .ref (g.lk M 27), .ref (g.lk M 28), .ref (g.lk M 29), .ref (g.lk M 30), .ref (g.lk M 31), .int (nI mtp), .ref (g.lk M 33), .ref (g.lk M 34), .ref (g.lk M 35), .int (nI mwa), .int (nI mgi), .int (nI mpc), .int (nI mst), .int (nI mtr), .int (nI msp), .int mma, .int mlg, .int (nI 0)])) (hMB : mn ≤ 72 ∧ mdr ≤ 100 ∧ msz ≤ 100 ∧ mix ≤ 100 ∧ mdp ≤ 20 ∧ mwt ≤ 72 ∧ mop ≤ 40 ∧ mtp ≤ 80 ∧ mwa ≤ 20 ∧ mgi ≤ msp ∧ mpc ≤ 100 ∧ mst ≤ 4 ∧ mtr ≤ 3 ∧ msp ≤ 3000) (eD : f (g.lk M 3) = .inl (g.ac (g.lk M 3), 100, .inl hQ)) (eG : f (g.lk M 4) = .inl (g.ac (g.lk M 4), 100, .inl hG)) (eB : f (g.lk M 14) = .inl (g.ac (g.lk M 14), 40, .inl hB9)) (eK : f (g.lk M 15) = .inl (g.ac (g.lk M 15), 40, .inl hK9)) (hopd : mop + 1 ≤ mdp) (hdp10 : mdp ≤ 10) (hdr : mdr < 100) (hDI : DI hQ hG hB9 hK9 mdr mop) (hDS : DS hQ hG 0 D9) (hDl : D9.length = mdr) (hE8 : E8 hQ mdr) : Met l ⟨"BigRunnerModel", "closes", "(C)Z"⟩ [Cond.code ⟨"BigRunnerModel", "closes", "(C)Z"⟩ prog_12_method_13_code 4 (some .boolean)] ({ frames := 1, cells := 0, slots := 0, locals := 22 }) (va_Pc [.ref M, .int c9] (pc_in g sz f)) (va_Qi (fun r f1 => ((∃ (fb op1 dp1 dr1 : Nat) (d1 g1 b1 k1 : Nat → Int32), (∀ (i F : Nat), i < mn → tk hT mn i = kc c9 → kc c9 ≠ 16 → py_r (tk hT mn) mn (F + 1) i (kl hK9 mop) mdp false = py_r (tk hT mn) mn F (i + 1) (kl k1 op1) dp1 (decide (fb = 1))) ∧ fb ≤ 1 ∧ op1 + 1 ≤ dp1 ∧ dp1 ≤ 10 ∧ mdr ≤ dr1 ∧ dr1 ≤ mdr + 1 ∧ DI d1 g1 b1 k1 dr1 op1 ∧ (∃ D1 : List (Nat × Nat), D1.length = dr1 ∧ DS d1 g1 0 D1 ∧ E8 d1 dr1 ∧ (∀ (i F : Nat), i < mn → tk hT mn i = kc c9 → kc c9 ≠ 16 → oy_r (tk hT mn) (vc hT mn) mn (F + 1) i D9 (klx hK9 hB9 mop) mdp false = oy_r (tk hT mn) (vc hT mn) mn F (i + 1) D1 (klx k1 b1 op1) dp1 (decide (fb = 1)))) ∧ f1 M = .inr (10, [.int mth, .ref (g.lk M 1), .int (nI mn), .ref (g.lk M 3), .ref (g.lk M 4), .int (nI dr1), .ref (g.lk M 6), .ref (g.lk M 7), .ref (g.lk M 8), .int (nI msz), .int (nI mix), .int (nI dp1), .ref (g.lk M 12), .int (nI mwt), .ref (g.lk M 14), .ref (g.lk M 15), .int (nI op1), .ref (g.lk M 17), .ref (g.lk M 18), .ref (g.lk M 19), .ref (g.lk M 20), .ref (g.lk M 21), .ref (g.lk M 22), .ref (g.lk M 23), .ref (g.lk M 24), .ref (g.lk M 25), .ref (g.lk M 26), .ref (g.lk M 27), .ref (g.lk M 28), .ref (g.lk M 29), .ref (g.lk M 30), .ref (g.lk M 31), .int (nI mtp), .ref (g.lk M 33), .ref (g.lk M 34), .ref (g.lk M 35), .int (nI mwa), .int (nI mgi), .int (nI mpc), .int (nI mst), .int (nI mtr), .int (nI msp), .int mma, .int mlg, .int (nI fb)]) ∧ f1 (g.lk M 3) = .inl (g.ac (g.lk M 3), 100, .inl d1) ∧ f1 (g.lk M 4) = .inl (g.ac (g.lk M 4), 100, .inl g1) ∧ f1 (g.lk M 14) = .inl (g.ac (g.lk M 14), 40, .inl b1) ∧ f1 (g.lk M 15) = .inl (g.ac (g.lk M 15), 40, .inl k1) ∧ r = nI 1) ∨ ((∀ (i F : Nat), i < mn → tk hT mn i = kc c9 → kc c9 ≠ 16 → py_r (tk hT mn) mn (F + 1) i (kl hK9 mop) mdp false = false) ∧ f1 M = .inr (10, [.int mth, .ref (g.lk M 1), .int (nI mn), .ref (g.lk M 3), .ref (g.lk M 4), .int (nI mdr), .ref (g.lk M 6), .ref (g.lk M 7), .ref (g.lk M 8), .int (nI msz), .int (nI mix), .int (nI mdp), .ref (g.lk M 12), .int (nI mwt), .ref (g.lk M 14), .ref (g.lk M 15), .int (nI mop), .ref (g.lk M 17), .ref (g.lk M 18), .ref (g.lk M 19), .ref (g.lk M 20), .ref (g.lk M 21), .ref (g.lk M 22), .ref (g.lk M 23), .ref (g.lk M 24), .ref (g.lk M 25), .ref (g.lk M 26), .ref (g.lk M 27), .ref (g.lk M 28), .ref (g.lk M 29), .ref (g.lk M 30), .ref (g.lk M 31), .int (nI mtp), .ref (g.lk M 33), .ref (g.lk M 34), .ref (g.lk M 35), .int (nI mwa), .int (nI mgi), .int (nI mpc), .int (nI mst), .int (nI mtr), .int (nI msp), .int mma, .int mlg, .int (nI 0)]) ∧ r = nI 0)) ∧ (IV g f1) ∧ (un [11, 41, 42, 47, 48] g f f1)) (pc_out g sz) (pc_A g sz)) 0 0 (pc_A g sz) := by
  refine pe_ofW (cc := prog_12_method_13_code) (maxL := 4) (ret := (some .boolean)) (lv := [(0, .ref M), (1, .int c9)]) (by decide) (Nat.le_of_ble_eq_true rfl) rfl ?_
  intro p e s m args below meth c ls hx hb hr hml hlocks hown hB hP hK hD hsz hS hl
  subst hsz
  have hu : un [11, 41, 42, 47, 48] g f f := un.rf
  obtain ⟨hmb0, hmb1, hmb2, hmb3, hmb4, hmb5, hmb6, hmb7, hmb8, hmb9, hmb10, hmb11, hmb12, hmb13⟩ := hMB
  refine lv_aload_n hx hb d_M_closes_0 rfl (lv_at hl 0 rfl) ?_
  refine pf_get (v := .int (nI mop)) (C := "BigRunnerModel") (T := FT10) (N := 45) hx hb (hw10 hB _) (fun _ h9 => h9) hown hK hP (lo_in hL t_M (by decide)) eM rfl 16 (by decide) (wd_963 hB _) rfl d_M_closes_1 ?_
  refine lv_if_ne (tgt := 9) hx hb d_M_closes_4 (by decide) (fun b1 => ?_) (fun b1 => ?_)
  · skip
    replace b1 := mt (nI_eq (a := mop) (b := 0) (by omega) (by omega)).mpr b1
    obtain ⟨zz1, zz2, zz3, zz4, zz5, zz6⟩ := hDI
    have hDI := (⟨zz1, zz2, zz3, zz4, zz5, zz6⟩ : DI hQ hG hB9 hK9 mdr mop)
    obtain ⟨t9, ht9, htn, hpd⟩ := zz3 (mop - 1) (by omega)
    have hks := kl_s hK9 (show 0 < mop by omega)
    have hDIo : DI hQ hG hB9 hK9 mdr (mop - 1 + 1) := by rw [show mop - 1 + 1 = mop by omega]; exact hDI
    refine lv_aload_n hx hb d_M_closes_9 rfl (lv_at hl 0 rfl) ?_
    refine pf_get (v := .int (nI mop)) (C := "BigRunnerModel") (T := FT10) (N := 45) hx hb (hw10 hB _) (fun _ h9 => h9) hown hK hP (lo_in hL t_M (by decide)) eM rfl 16 (by decide) (wd_963 hB _) rfl d_M_closes_10 ?_
    refine lv_iconst (v := nI 1) hx hb d_M_closes_13 (by decide) ?_
    refine pf_isubN (x := mop) (y := 1) hx hb (by omega) d_M_closes_14 ?_
    refine lv_istore_n (lv' := [(2, .int (nI (mop - 1))), (0, .ref M), (1, .int c9)]) hx hb d_M_closes_15 rfl hl (by decide) rfl (fun ls hl => ?_)
    refine lv_aload_n hx hb d_M_closes_16 rfl (lv_at hl 1 rfl) ?_
    refine pf_get (v := .ref (g.lk M 14)) (C := "BigRunnerModel") (T := FT10) (N := 45) hx hb (hw10 hB _) (fun _ h9 => h9) hown hK hP (lo_in hL t_M (by decide)) eM rfl 14 (by decide) (wd_961 hB _) rfl d_M_closes_17 ?_
    refine lv_iload_n hx hb d_M_closes_20 rfl (lv_at hl 0 rfl) ?_
    refine pf_iald (i := mop - 1) hx hb hK hP (lo_in hL (lo_k11_14 hL _ t_M) (by decide)) eB (lo_t47 hL _ (lo_k11_14 hL _ t_M)) (by omega) (by decide) d_M_closes_21 ?_
    refine lv_topi (fun z_ hz_ => ?_)
    obtain rfl : z_ = nI t9 := hz_.trans ht9
    refine lv_istore_n (lv' := [(3, .int (nI t9)), (2, .int (nI (mop - 1))), (0, .ref M), (1, .int c9)]) hx hb d_M_closes_22 rfl hl (by decide) rfl (fun ls hl => ?_)
    refine lv_iload_n hx hb d_M_closes_23 rfl (lv_at hl 3 rfl) ?_
    refine lv_bipush (v := nI 93) hx hb d_M_closes_24 (by decide) ?_
    refine lv_icmp_ne (tgt := 65) hx hb d_M_closes_26 (by decide) (fun b2 => ?_) (fun b2 => ?_)
    · skip
      refine lv_iload_n hx hb d_M_closes_65 rfl (lv_at hl 3 rfl) ?_
      refine lv_bipush (v := nI 124) hx hb d_M_closes_66 (by decide) ?_
      refine lv_icmp_ne (tgt := 126) hx hb d_M_closes_68 (by decide) (fun b3 => ?_) (fun b3 => ?_)
      · skip
        refine lv_iload_n hx hb d_M_closes_126 rfl (lv_at hl 3 rfl) ?_
        refine lv_bipush (v := nI 125) hx hb d_M_closes_127 (by decide) ?_
        refine lv_icmp_ne (tgt := 156) hx hb d_M_closes_129 (by decide) (fun b4 => ?_) (fun b4 => ?_)
        · skip
          refine lv_iconst (v := nI 0) hx hb d_M_closes_156 (by decide) ?_
          exact pe_zret hx hb hr hlocks hK hP hD hS d_M_closes_157 rfl ⟨(Or.inr ⟨(fun i F h1 h2 h3 => by rw [py_rF, if_pos h1, if_neg (by rw [h2]; exact h3), hks]; show (if _ then _ else if _ then _ else if _ then _ else _) = _; rw [if_neg (fun z => b2 (kc_11.mp (h2.symm.trans z.1))), if_neg (fun z => b3 (kc_14.mp (h2.symm.trans z.1))), if_neg (fun z => b4 (kc_13.mp (h2.symm.trans z.1)))]), eM, rfl⟩), hI, hu⟩
        · skip
          refine lv_aload_n hx hb d_M_closes_132 rfl (lv_at hl 2 rfl) ?_
          refine pf_get (v := .ref (g.lk M 15)) (C := "BigRunnerModel") (T := FT10) (N := 45) hx hb (hw10 hB _) (fun _ h9 => h9) hown hK hP (lo_in hL t_M (by decide)) eM rfl 15 (by decide) (wd_962 hB _) rfl d_M_closes_133 ?_
          refine lv_iload_n hx hb d_M_closes_136 rfl (lv_at hl 1 rfl) ?_
          refine pf_iald (i := mop - 1) hx hb hK hP (lo_in hL (lo_k11_15 hL _ t_M) (by decide)) eK (lo_t48 hL _ (lo_k11_15 hL _ t_M)) (by omega) (by decide) d_M_closes_137 ?_
          refine lv_bipush (v := nI 124) hx hb d_M_closes_138 (by decide) ?_
          refine lv_icmp_ne (tgt := 156) hx hb d_M_closes_140 (by decide) (fun b5 => ?_) (fun b5 => ?_)
          · skip
            refine lv_iconst (v := nI 0) hx hb d_M_closes_156 (by decide) ?_
            exact pe_zret hx hb hr hlocks hK hP hD hS d_M_closes_157 rfl ⟨(Or.inr ⟨(fun i F h1 h2 h3 => by rw [py_rF, if_pos h1, if_neg (by rw [h2]; exact h3), hks]; show (if _ then _ else if _ then _ else if _ then _ else _) = _; rw [if_neg (fun z => b2 (kc_11.mp (h2.symm.trans z.1))), if_neg (fun z => b3 (kc_14.mp (h2.symm.trans z.1))), if_neg (fun z => b5 (kc_14.mp z.2))]), eM, rfl⟩), hI, hu⟩
          · skip
            have hkk : hK9 (mop - 1) = nI 124 := b5
            have hcc : kc c9 = 13 := kc_13.mpr b4
            obtain ⟨-, q2, q3⟩ := hpd.resolve_left (fun ⟨_, _, z, _⟩ => by rcases z with z | z <;> exact absurd (hkk.symm.trans z) (by decide))
            refine lv_aload_n hx hb d_M_closes_143 rfl (lv_at hl 2 rfl) ?_
            refine pf_get (v := .ref (g.lk M 4)) (C := "BigRunnerModel") (T := FT10) (N := 45) hx hb (hw10 hB _) (fun _ h9 => h9) hown hK hP (lo_in hL t_M (by decide)) eM rfl 4 (by decide) (wd_951 hB _) rfl d_M_closes_144 ?_
            refine lv_iload_n hx hb d_M_closes_147 rfl (lv_at hl 0 rfl) ?_
            refine lv_aload_n hx hb d_M_closes_148 rfl (lv_at hl 2 rfl) ?_
            refine pf_get (v := .int (nI mdr)) (C := "BigRunnerModel") (T := FT10) (N := 45) hx hb (hw10 hB _) (fun _ h9 => h9) hown hK hP (lo_in hL t_M (by decide)) eM rfl 5 (by decide) (wd_952 hB _) rfl d_M_closes_149 ?_
            refine pf_iast (i := t9) hx hb hK hP hD hS (lo_in hL (lo_k11_4 hL _ t_M) (by decide)) eG (lo_t42 hL _ (lo_k11_4 hL _ t_M)) (by omega) (by decide) d_M_closes_152 (fun f6 H locs e7 k8 hP hD hS => ?_)
            have eM := (k8 M (tg_ne t_M (lo_k11_4 hL _ t_M) (by decide))).trans eM
            have eD := (k8 (g.lk M 3) (tg_ne (lo_k11_3 hL _ t_M) (lo_k11_4 hL _ t_M) (by decide))).trans eD
            have eB := (k8 (g.lk M 14) (tg_ne (lo_k11_14 hL _ t_M) (lo_k11_4 hL _ t_M) (by decide))).trans eB
            have eK := (k8 (g.lk M 15) (tg_ne (lo_k11_15 hL _ t_M) (lo_k11_4 hL _ t_M) (by decide))).trans eK
            have hu := hu.st k8 (lo_k11_4 hL _ t_M) (by decide)
            have hk9 : ∀ b, b ≠ (g.lk M 4) → f6 b = f b := k8
            refine lv_goto (tgt := 158) hx hb d_M_closes_153 (by decide) ?_
            refine lv_aload_n hx hb d_M_closes_158 rfl (lv_at hl 2 rfl) ?_
            refine lv_dup hx hb d_M_closes_159 rfl ?_
            refine pf_get (v := .int (nI mop)) (C := "BigRunnerModel") (T := FT10) (N := 45) hx hb (hw10 hB _) (fun _ h9 => h9) hown hK hP (lo_in hL t_M (by decide)) eM rfl 16 (by decide) (wd_963 hB _) rfl d_M_closes_160 ?_
            refine lv_iconst (v := nI 1) hx hb d_M_closes_163 (by decide) ?_
            refine pf_isubN (x := mop) (y := 1) hx hb (by omega) d_M_closes_164 ?_
            have hI10 := iv_1 hI hL (lo_k11_4 hL _ t_M) (by decide) hk9 (oc_42.mk (lo_k11_4 hL _ t_M) (⟨_, e7⟩))
            refine pf_put (v := .int (nI (mop - 1))) (ty := .int) (fs' := [.int mth, .ref (g.lk M 1), .int (nI mn), .ref (g.lk M 3), .ref (g.lk M 4), .int (nI mdr), .ref (g.lk M 6), .ref (g.lk M 7), .ref (g.lk M 8), .int (nI msz), .int (nI mix), .int (nI mdp), .ref (g.lk M 12), .int (nI mwt), .ref (g.lk M 14), .ref (g.lk M 15), .int (nI (mop - 1)), .ref (g.lk M 17), .ref (g.lk M 18), .ref (g.lk M 19), .ref (g.lk M 20), .ref (g.lk M 21), .ref (g.lk M 22), .ref (g.lk M 23), .ref (g.lk M 24), .ref (g.lk M 25), .ref (g.lk M 26), .ref (g.lk M 27), .ref (g.lk M 28), .ref (g.lk M 29), .ref (g.lk M 30), .ref (g.lk M 31), .int (nI mtp), .ref (g.lk M 33), .ref (g.lk M 34), .ref (g.lk M 35), .int (nI mwa), .int (nI mgi), .int (nI mpc), .int (nI mst), .int (nI mtr), .int (nI msp), .int mma, .int mlg, .int (nI 0)]) (C := "BigRunnerModel") (T := FT10) (N := 45) hx hb (hw10 hB _) (fun _ h9 => h9) TY10 ok10 nm10 hown hK hP hD hS (lo_in hL t_M (by decide)) eM rfl 16 (by decide) (wd_963 hB _) rfl (by decide +kernel) rfl rfl (Nat.le_of_ble_eq_true rfl) rfl d_M_closes_165 (fun f11 H locs e12 k13 hP hD hS => ?_)
            have eD := (k13 (g.lk M 3) (tg_ne (lo_k11_3 hL _ t_M) t_M (by decide))).trans eD
            have eB := (k13 (g.lk M 14) (tg_ne (lo_k11_14 hL _ t_M) t_M (by decide))).trans eB
            have eK := (k13 (g.lk M 15) (tg_ne (lo_k11_15 hL _ t_M) t_M (by decide))).trans eK
            have e7 := (k13 (g.lk M 4) (tg_ne (lo_k11_4 hL _ t_M) t_M (by decide))).trans e7
            have hu := hu.st k13 t_M (by decide)
            have hk14 : ∀ b, b ≠ M → f11 b = f6 b := k13
            refine lv_aload_n hx hb d_M_closes_168 rfl (lv_at hl 2 rfl) ?_
            refine lv_dup hx hb d_M_closes_169 rfl ?_
            refine pf_get (v := .int (nI mdp)) (C := "BigRunnerModel") (T := FT10) (N := 45) hx hb (hw10 hB _) (fun _ h9 => h9) hown hK hP (lo_in hL t_M (by decide)) e12 rfl 11 (by decide) (wd_958 hB _) rfl d_M_closes_170 ?_
            refine lv_iconst (v := nI 1) hx hb d_M_closes_173 (by decide) ?_
            refine pf_isubN (x := mdp) (y := 1) hx hb (by omega) d_M_closes_174 ?_
            refine pf_put (v := .int (nI (mdp - 1))) (ty := .int) (fs' := [.int mth, .ref (g.lk M 1), .int (nI mn), .ref (g.lk M 3), .ref (g.lk M 4), .int (nI mdr), .ref (g.lk M 6), .ref (g.lk M 7), .ref (g.lk M 8), .int (nI msz), .int (nI mix), .int (nI (mdp - 1)), .ref (g.lk M 12), .int (nI mwt), .ref (g.lk M 14), .ref (g.lk M 15), .int (nI (mop - 1)), .ref (g.lk M 17), .ref (g.lk M 18), .ref (g.lk M 19), .ref (g.lk M 20), .ref (g.lk M 21), .ref (g.lk M 22), .ref (g.lk M 23), .ref (g.lk M 24), .ref (g.lk M 25), .ref (g.lk M 26), .ref (g.lk M 27), .ref (g.lk M 28), .ref (g.lk M 29), .ref (g.lk M 30), .ref (g.lk M 31), .int (nI mtp), .ref (g.lk M 33), .ref (g.lk M 34), .ref (g.lk M 35), .int (nI mwa), .int (nI mgi), .int (nI mpc), .int (nI mst), .int (nI mtr), .int (nI msp), .int mma, .int mlg, .int (nI 0)]) (C := "BigRunnerModel") (T := FT10) (N := 45) hx hb (hw10 hB _) (fun _ h9 => h9) TY10 ok10 nm10 hown hK hP hD hS (lo_in hL t_M (by decide)) e12 rfl 11 (by decide) (wd_958 hB _) rfl (by decide +kernel) rfl rfl (Nat.le_of_ble_eq_true rfl) rfl d_M_closes_175 (fun f15 H locs e16 k17 hP hD hS => ?_)
            have eD := (k17 (g.lk M 3) (tg_ne (lo_k11_3 hL _ t_M) t_M (by decide))).trans eD
            have eB := (k17 (g.lk M 14) (tg_ne (lo_k11_14 hL _ t_M) t_M (by decide))).trans eB
            have eK := (k17 (g.lk M 15) (tg_ne (lo_k11_15 hL _ t_M) t_M (by decide))).trans eK
            have e7 := (k17 (g.lk M 4) (tg_ne (lo_k11_4 hL _ t_M) t_M (by decide))).trans e7
            have hu := hu.st k17 t_M (by decide)
            have hk18 : ∀ b, b ≠ M → f15 b = f6 b := fun b q0 => (k17 b q0).trans (hk14 b q0)
            refine lv_iconst (v := nI 1) hx hb d_M_closes_178 (by decide) ?_
            have hI19 := iv_1 hI10 hL t_M (by decide) hk18 (oc_11.mk t_M (⟨mth, mn, mdr, msz, mix, (mdp - 1), mwt, (mop - 1), mtp, mwa, mgi, mpc, mst, mtr, msp, mma, mlg, ((nI 0)), e16, (by omega), (by omega), (by omega), (by omega), (by omega), (by omega), (by omega), (by omega), (by omega), (by omega), (by omega), (by omega), (by omega), (by omega), (Or.inl rfl)⟩))
            have hDI2 : DI hQ (upd hG t9 (nI mdr)) hB9 hK9 mdr (mop - 1) := DI_close hDIo ht9 htn smd_rf (fun q h1 h2 => upd_ne _ _ h2) (by omega) (by omega) zz2 (WO_jump q2 (upd_at _ _ _) (by omega) q3 ⟨by omega, fun z => absurd z (by omega)⟩ (Or.inl htn)) (fun p h1 h2 => absurd h2 (by omega))
            have hkx := klx_t (k := hK9) (b := hB9) (show 0 < mop by omega) ht9 (by omega)
            have hat := DS_at D9 0 t9 hDS (by omega)
            rw [Nat.zero_add] at hat
            exact pe_zret hx hb hr hlocks hK hP hD hS d_M_closes_179 rfl ⟨(Or.inl ⟨0, mop - 1, mdp - 1, mdr, _, _, _, _, (fun i F h1 h2 h3 => by rw [py_rF, if_pos h1, if_neg (by rw [h2]; exact h3), hks]; show (if _ then _ else if _ then _ else if _ then _ else _) = _; rw [if_neg (fun z => by omega), if_neg (fun z => by omega), if_pos ⟨h2.trans hcc, by rw [hkk]; decide⟩]; rfl), by omega, by omega, by omega, by omega, by omega, hDI2, ⟨opt D9 t9 D9.length, (by rw [opt_len, hDl]), (by rw [hDl]; exact DS_opt hDS (by omega)), hE8, (fun i F h1 h2 h3 => by rw [oy_rF, if_pos h1, if_neg (by rw [h2]; exact h3), hkx]; show (if _ then _ else if _ then _ else if _ then _ else _) = _; rw [if_neg (fun z => by omega), if_neg (fun z => by omega), if_pos ⟨h2.trans hcc, by rw [hkk]; decide⟩]; rfl)⟩, e16, eD, e7, eB, eK, rfl⟩), hI19, hu⟩
      · skip
        refine lv_aload_n hx hb d_M_closes_71 rfl (lv_at hl 2 rfl) ?_
        refine pf_get (v := .ref (g.lk M 15)) (C := "BigRunnerModel") (T := FT10) (N := 45) hx hb (hw10 hB _) (fun _ h9 => h9) hown hK hP (lo_in hL t_M (by decide)) eM rfl 15 (by decide) (wd_962 hB _) rfl d_M_closes_72 ?_
        refine lv_iload_n hx hb d_M_closes_75 rfl (lv_at hl 1 rfl) ?_
        refine pf_iald (i := mop - 1) hx hb hK hP (lo_in hL (lo_k11_15 hL _ t_M) (by decide)) eK (lo_t48 hL _ (lo_k11_15 hL _ t_M)) (by omega) (by decide) d_M_closes_76 ?_
        refine lv_bipush (v := nI 123) hx hb d_M_closes_77 (by decide) ?_
        refine lv_icmp_ne (tgt := 126) hx hb d_M_closes_79 (by decide) (fun b20 => ?_) (fun b20 => ?_)
        · skip
          refine lv_iload_n hx hb d_M_closes_126 rfl (lv_at hl 3 rfl) ?_
          refine lv_bipush (v := nI 125) hx hb d_M_closes_127 (by decide) ?_
          refine lv_icmp_ne (tgt := 156) hx hb d_M_closes_129 (by decide) (fun b21 => ?_) (fun b21 => ?_)
          · skip
            refine lv_iconst (v := nI 0) hx hb d_M_closes_156 (by decide) ?_
            exact pe_zret hx hb hr hlocks hK hP hD hS d_M_closes_157 rfl ⟨(Or.inr ⟨(fun i F h1 h2 h3 => by rw [py_rF, if_pos h1, if_neg (by rw [h2]; exact h3), hks]; show (if _ then _ else if _ then _ else if _ then _ else _) = _; rw [if_neg (fun z => b2 (kc_11.mp (h2.symm.trans z.1))), if_neg (fun z => b20 (kc_12.mp z.2)), if_neg (fun z => b21 (kc_13.mp (h2.symm.trans z.1)))]), eM, rfl⟩), hI, hu⟩
          · skip
            refine lv_aload_n hx hb d_M_closes_132 rfl (lv_at hl 2 rfl) ?_
            refine pf_get (v := .ref (g.lk M 15)) (C := "BigRunnerModel") (T := FT10) (N := 45) hx hb (hw10 hB _) (fun _ h9 => h9) hown hK hP (lo_in hL t_M (by decide)) eM rfl 15 (by decide) (wd_962 hB _) rfl d_M_closes_133 ?_
            refine lv_iload_n hx hb d_M_closes_136 rfl (lv_at hl 1 rfl) ?_
            refine pf_iald (i := mop - 1) hx hb hK hP (lo_in hL (lo_k11_15 hL _ t_M) (by decide)) eK (lo_t48 hL _ (lo_k11_15 hL _ t_M)) (by omega) (by decide) d_M_closes_137 ?_
            refine lv_bipush (v := nI 124) hx hb d_M_closes_138 (by decide) ?_
            refine lv_icmp_ne (tgt := 156) hx hb d_M_closes_140 (by decide) (fun b22 => ?_) (fun b22 => ?_)
            · skip
              refine lv_iconst (v := nI 0) hx hb d_M_closes_156 (by decide) ?_
              exact pe_zret hx hb hr hlocks hK hP hD hS d_M_closes_157 rfl ⟨(Or.inr ⟨(fun i F h1 h2 h3 => by rw [py_rF, if_pos h1, if_neg (by rw [h2]; exact h3), hks]; show (if _ then _ else if _ then _ else if _ then _ else _) = _; rw [if_neg (fun z => b2 (kc_11.mp (h2.symm.trans z.1))), if_neg (fun z => b20 (kc_12.mp z.2)), if_neg (fun z => b22 (kc_14.mp z.2))]), eM, rfl⟩), hI, hu⟩
            · skip
              have hkk : hK9 (mop - 1) = nI 124 := b22
              have hcc : kc c9 = 13 := kc_13.mpr b21
              obtain ⟨-, q2, q3⟩ := hpd.resolve_left (fun ⟨_, _, z, _⟩ => by rcases z with z | z <;> exact absurd (hkk.symm.trans z) (by decide))
              refine lv_aload_n hx hb d_M_closes_143 rfl (lv_at hl 2 rfl) ?_
              refine pf_get (v := .ref (g.lk M 4)) (C := "BigRunnerModel") (T := FT10) (N := 45) hx hb (hw10 hB _) (fun _ h9 => h9) hown hK hP (lo_in hL t_M (by decide)) eM rfl 4 (by decide) (wd_951 hB _) rfl d_M_closes_144 ?_
              refine lv_iload_n hx hb d_M_closes_147 rfl (lv_at hl 0 rfl) ?_
              refine lv_aload_n hx hb d_M_closes_148 rfl (lv_at hl 2 rfl) ?_
              refine pf_get (v := .int (nI mdr)) (C := "BigRunnerModel") (T := FT10) (N := 45) hx hb (hw10 hB _) (fun _ h9 => h9) hown hK hP (lo_in hL t_M (by decide)) eM rfl 5 (by decide) (wd_952 hB _) rfl d_M_closes_149 ?_
              refine pf_iast (i := t9) hx hb hK hP hD hS (lo_in hL (lo_k11_4 hL _ t_M) (by decide)) eG (lo_t42 hL _ (lo_k11_4 hL _ t_M)) (by omega) (by decide) d_M_closes_152 (fun f23 H locs e24 k25 hP hD hS => ?_)
              have eM := (k25 M (tg_ne t_M (lo_k11_4 hL _ t_M) (by decide))).trans eM
              have eD := (k25 (g.lk M 3) (tg_ne (lo_k11_3 hL _ t_M) (lo_k11_4 hL _ t_M) (by decide))).trans eD
              have eB := (k25 (g.lk M 14) (tg_ne (lo_k11_14 hL _ t_M) (lo_k11_4 hL _ t_M) (by decide))).trans eB
              have eK := (k25 (g.lk M 15) (tg_ne (lo_k11_15 hL _ t_M) (lo_k11_4 hL _ t_M) (by decide))).trans eK
              have hu := hu.st k25 (lo_k11_4 hL _ t_M) (by decide)
              have hk26 : ∀ b, b ≠ (g.lk M 4) → f23 b = f b := k25
              refine lv_goto (tgt := 158) hx hb d_M_closes_153 (by decide) ?_
              refine lv_aload_n hx hb d_M_closes_158 rfl (lv_at hl 2 rfl) ?_
              refine lv_dup hx hb d_M_closes_159 rfl ?_
              refine pf_get (v := .int (nI mop)) (C := "BigRunnerModel") (T := FT10) (N := 45) hx hb (hw10 hB _) (fun _ h9 => h9) hown hK hP (lo_in hL t_M (by decide)) eM rfl 16 (by decide) (wd_963 hB _) rfl d_M_closes_160 ?_
              refine lv_iconst (v := nI 1) hx hb d_M_closes_163 (by decide) ?_
              refine pf_isubN (x := mop) (y := 1) hx hb (by omega) d_M_closes_164 ?_
              have hI27 := iv_1 hI hL (lo_k11_4 hL _ t_M) (by decide) hk26 (oc_42.mk (lo_k11_4 hL _ t_M) (⟨_, e24⟩))
              refine pf_put (v := .int (nI (mop - 1))) (ty := .int) (fs' := [.int mth, .ref (g.lk M 1), .int (nI mn), .ref (g.lk M 3), .ref (g.lk M 4), .int (nI mdr), .ref (g.lk M 6), .ref (g.lk M 7), .ref (g.lk M 8), .int (nI msz), .int (nI mix), .int (nI mdp), .ref (g.lk M 12), .int (nI mwt), .ref (g.lk M 14), .ref (g.lk M 15), .int (nI (mop - 1)), .ref (g.lk M 17), .ref (g.lk M 18), .ref (g.lk M 19), .ref (g.lk M 20), .ref (g.lk M 21), .ref (g.lk M 22), .ref (g.lk M 23), .ref (g.lk M 24), .ref (g.lk M 25), .ref (g.lk M 26), .ref (g.lk M 27), .ref (g.lk M 28), .ref (g.lk M 29), .ref (g.lk M 30), .ref (g.lk M 31), .int (nI mtp), .ref (g.lk M 33), .ref (g.lk M 34), .ref (g.lk M 35), .int (nI mwa), .int (nI mgi), .int (nI mpc), .int (nI mst), .int (nI mtr), .int (nI msp), .int mma, .int mlg, .int (nI 0)]) (C := "BigRunnerModel") (T := FT10) (N := 45) hx hb (hw10 hB _) (fun _ h9 => h9) TY10 ok10 nm10 hown hK hP hD hS (lo_in hL t_M (by decide)) eM rfl 16 (by decide) (wd_963 hB _) rfl (by decide +kernel) rfl rfl (Nat.le_of_ble_eq_true rfl) rfl d_M_closes_165 (fun f28 H locs e29 k30 hP hD hS => ?_)
              have eD := (k30 (g.lk M 3) (tg_ne (lo_k11_3 hL _ t_M) t_M (by decide))).trans eD
              have eB := (k30 (g.lk M 14) (tg_ne (lo_k11_14 hL _ t_M) t_M (by decide))).trans eB
              have eK := (k30 (g.lk M 15) (tg_ne (lo_k11_15 hL _ t_M) t_M (by decide))).trans eK
              have e24 := (k30 (g.lk M 4) (tg_ne (lo_k11_4 hL _ t_M) t_M (by decide))).trans e24
              have hu := hu.st k30 t_M (by decide)
              have hk31 : ∀ b, b ≠ M → f28 b = f23 b := k30
              refine lv_aload_n hx hb d_M_closes_168 rfl (lv_at hl 2 rfl) ?_
              refine lv_dup hx hb d_M_closes_169 rfl ?_
              refine pf_get (v := .int (nI mdp)) (C := "BigRunnerModel") (T := FT10) (N := 45) hx hb (hw10 hB _) (fun _ h9 => h9) hown hK hP (lo_in hL t_M (by decide)) e29 rfl 11 (by decide) (wd_958 hB _) rfl d_M_closes_170 ?_
              refine lv_iconst (v := nI 1) hx hb d_M_closes_173 (by decide) ?_
              refine pf_isubN (x := mdp) (y := 1) hx hb (by omega) d_M_closes_174 ?_
              refine pf_put (v := .int (nI (mdp - 1))) (ty := .int) (fs' := [.int mth, .ref (g.lk M 1), .int (nI mn), .ref (g.lk M 3), .ref (g.lk M 4), .int (nI mdr), .ref (g.lk M 6), .ref (g.lk M 7), .ref (g.lk M 8), .int (nI msz), .int (nI mix), .int (nI (mdp - 1)), .ref (g.lk M 12), .int (nI mwt), .ref (g.lk M 14), .ref (g.lk M 15), .int (nI (mop - 1)), .ref (g.lk M 17), .ref (g.lk M 18), .ref (g.lk M 19), .ref (g.lk M 20), .ref (g.lk M 21), .ref (g.lk M 22), .ref (g.lk M 23), .ref (g.lk M 24), .ref (g.lk M 25), .ref (g.lk M 26), .ref (g.lk M 27), .ref (g.lk M 28), .ref (g.lk M 29), .ref (g.lk M 30), .ref (g.lk M 31), .int (nI mtp), .ref (g.lk M 33), .ref (g.lk M 34), .ref (g.lk M 35), .int (nI mwa), .int (nI mgi), .int (nI mpc), .int (nI mst), .int (nI mtr), .int (nI msp), .int mma, .int mlg, .int (nI 0)]) (C := "BigRunnerModel") (T := FT10) (N := 45) hx hb (hw10 hB _) (fun _ h9 => h9) TY10 ok10 nm10 hown hK hP hD hS (lo_in hL t_M (by decide)) e29 rfl 11 (by decide) (wd_958 hB _) rfl (by decide +kernel) rfl rfl (Nat.le_of_ble_eq_true rfl) rfl d_M_closes_175 (fun f32 H locs e33 k34 hP hD hS => ?_)
              have eD := (k34 (g.lk M 3) (tg_ne (lo_k11_3 hL _ t_M) t_M (by decide))).trans eD
              have eB := (k34 (g.lk M 14) (tg_ne (lo_k11_14 hL _ t_M) t_M (by decide))).trans eB
              have eK := (k34 (g.lk M 15) (tg_ne (lo_k11_15 hL _ t_M) t_M (by decide))).trans eK
              have e24 := (k34 (g.lk M 4) (tg_ne (lo_k11_4 hL _ t_M) t_M (by decide))).trans e24
              have hu := hu.st k34 t_M (by decide)
              have hk35 : ∀ b, b ≠ M → f32 b = f23 b := fun b q0 => (k34 b q0).trans (hk31 b q0)
              refine lv_iconst (v := nI 1) hx hb d_M_closes_178 (by decide) ?_
              have hI36 := iv_1 hI27 hL t_M (by decide) hk35 (oc_11.mk t_M (⟨mth, mn, mdr, msz, mix, (mdp - 1), mwt, (mop - 1), mtp, mwa, mgi, mpc, mst, mtr, msp, mma, mlg, ((nI 0)), e33, (by omega), (by omega), (by omega), (by omega), (by omega), (by omega), (by omega), (by omega), (by omega), (by omega), (by omega), (by omega), (by omega), (by omega), (Or.inl rfl)⟩))
              have hDI2 : DI hQ (upd hG t9 (nI mdr)) hB9 hK9 mdr (mop - 1) := DI_close hDIo ht9 htn smd_rf (fun q h1 h2 => upd_ne _ _ h2) (by omega) (by omega) zz2 (WO_jump q2 (upd_at _ _ _) (by omega) q3 ⟨by omega, fun z => absurd z (by omega)⟩ (Or.inl htn)) (fun p h1 h2 => absurd h2 (by omega))
              have hkx := klx_t (k := hK9) (b := hB9) (show 0 < mop by omega) ht9 (by omega)
              have hat := DS_at D9 0 t9 hDS (by omega)
              rw [Nat.zero_add] at hat
              exact pe_zret hx hb hr hlocks hK hP hD hS d_M_closes_179 rfl ⟨(Or.inl ⟨0, mop - 1, mdp - 1, mdr, _, _, _, _, (fun i F h1 h2 h3 => by rw [py_rF, if_pos h1, if_neg (by rw [h2]; exact h3), hks]; show (if _ then _ else if _ then _ else if _ then _ else _) = _; rw [if_neg (fun z => by omega), if_neg (fun z => by omega), if_pos ⟨h2.trans hcc, by rw [hkk]; decide⟩]; rfl), by omega, by omega, by omega, by omega, by omega, hDI2, ⟨opt D9 t9 D9.length, (by rw [opt_len, hDl]), (by rw [hDl]; exact DS_opt hDS (by omega)), hE8, (fun i F h1 h2 h3 => by rw [oy_rF, if_pos h1, if_neg (by rw [h2]; exact h3), hkx]; show (if _ then _ else if _ then _ else if _ then _ else _) = _; rw [if_neg (fun z => by omega), if_neg (fun z => by omega), if_pos ⟨h2.trans hcc, by rw [hkk]; decide⟩]; rfl)⟩, e33, eD, e24, eB, eK, rfl⟩), hI36, hu⟩
        · skip
          have hkk : hK9 (mop - 1) = nI 123 := b20
          have hcc : kc c9 = 14 := kc_14.mpr b3
          obtain ⟨b9, w9, -, q2, q3, q4, q5, q6, q7, q8⟩ := hpd.resolve_right (fun z => absurd (hkk.symm.trans z.1) (by decide))
          refine lv_aload_n hx hb d_M_closes_82 rfl (lv_at hl 2 rfl) ?_
          refine lv_bipush (v := nI 12) hx hb d_M_closes_83 (by decide) ?_
          refine lv_iconst (v := nI 0) hx hb d_M_closes_85 (by decide) ?_
          refine pcc_v (va_runV (C := "BigRunnerModel") (As := [.int (nI 12), .int (nI 0)]) (rest := []) ⟨hx, hb, hml, hown, tb_nil⟩ (m_put l g s.heap.size f M mth mn mdr msz mix mdp mwt mop mtp mwa mgi mpc mst mtr msp mma mlg ((nI 0)) hQ hG 12 ((nI 0)) hL t_M hI eM ⟨(by omega), (by omega), (by omega), (by omega), (by omega), (by omega), (by omega), (by omega), (by omega), (by omega), (by omega), (by omega), (by omega), (by omega), (Or.inl rfl)⟩ eD eG (by omega)) ⟨(callB_of 2 (tb_one (wd_1115 hB _)) tb_good1 rfl rfl rfl (wd_82 hB _) (wd_1112 hB _) (by decide +kernel) ⟨Nat.le_of_ble_eq_true rfl, Nat.le_of_ble_eq_true rfl⟩), (wd_1114 hB _), (wd_44 hB _)⟩ ⟨pe_bl, pg_recv (ci := 10) hK hP (lo_in hL t_M (by decide)) eM rfl, pe_pre hB hK hP hD⟩ rfl rfl hl.1 rfl (lv_room (Nat.le_of_ble_eq_true rfl)) d_M_closes_86 ⟨Nat.le_of_ble_eq_true rfl, Nat.le_of_ble_eq_true rfl⟩) hS (fun f38 H locs hq39 hP hD hS => ?_)
          obtain ⟨x1_40, xd_41, xg_42, hI1_43, hu1_44⟩ := hq39
          have hu := hu.tr hu1_44 (by decide)
          have eB := hu1_44.at (lo_k11_14 hL _ t_M) (by decide) eB
          have eK := hu1_44.at (lo_k11_15 hL _ t_M) (by decide) eK
          refine lv_aload_n hx hb d_M_closes_89 rfl (lv_at hl 2 rfl) ?_
          refine pf_get (v := .ref (g.lk M 4)) (C := "BigRunnerModel") (T := FT10) (N := 45) hx hb (hw10 hB _) (fun _ h9 => h9) hown hK hP (lo_in hL t_M (by decide)) x1_40 rfl 4 (by decide) (wd_951 hB _) rfl d_M_closes_90 ?_
          refine lv_iload_n hx hb d_M_closes_93 rfl (lv_at hl 0 rfl) ?_
          refine lv_aload_n hx hb d_M_closes_94 rfl (lv_at hl 2 rfl) ?_
          refine pf_get (v := .int (nI (mdr + 1))) (C := "BigRunnerModel") (T := FT10) (N := 45) hx hb (hw10 hB _) (fun _ h9 => h9) hown hK hP (lo_in hL t_M (by decide)) x1_40 rfl 5 (by decide) (wd_952 hB _) rfl d_M_closes_95 ?_
          refine pf_iast (i := t9) hx hb hK hP hD hS (lo_in hL (lo_k11_4 hL _ t_M) (by decide)) xg_42 (lo_t42 hL _ (lo_k11_4 hL _ t_M)) (by omega) (by decide) d_M_closes_98 (fun f45 H locs e46 k47 hP hD hS => ?_)
          have eB := (k47 (g.lk M 14) (tg_ne (lo_k11_14 hL _ t_M) (lo_k11_4 hL _ t_M) (by decide))).trans eB
          have eK := (k47 (g.lk M 15) (tg_ne (lo_k11_15 hL _ t_M) (lo_k11_4 hL _ t_M) (by decide))).trans eK
          have x1_40 := (k47 M (tg_ne t_M (lo_k11_4 hL _ t_M) (by decide))).trans x1_40
          have xd_41 := (k47 (g.lk M 3) (tg_ne (lo_k11_3 hL _ t_M) (lo_k11_4 hL _ t_M) (by decide))).trans xd_41
          have hu := hu.st k47 (lo_k11_4 hL _ t_M) (by decide)
          have hk48 : ∀ b, b ≠ (g.lk M 4) → f45 b = f38 b := k47
          refine lv_aload_n hx hb d_M_closes_99 rfl (lv_at hl 2 rfl) ?_
          refine pf_get (v := .ref (g.lk M 14)) (C := "BigRunnerModel") (T := FT10) (N := 45) hx hb (hw10 hB _) (fun _ h9 => h9) hown hK hP (lo_in hL t_M (by decide)) x1_40 rfl 14 (by decide) (wd_961 hB _) rfl d_M_closes_100 ?_
          refine lv_iload_n hx hb d_M_closes_103 rfl (lv_at hl 1 rfl) ?_
          refine lv_aload_n hx hb d_M_closes_104 rfl (lv_at hl 2 rfl) ?_
          refine pf_get (v := .int (nI (mdr + 1))) (C := "BigRunnerModel") (T := FT10) (N := 45) hx hb (hw10 hB _) (fun _ h9 => h9) hown hK hP (lo_in hL t_M (by decide)) x1_40 rfl 5 (by decide) (wd_952 hB _) rfl d_M_closes_105 ?_
          refine lv_iconst (v := nI 1) hx hb d_M_closes_108 (by decide) ?_
          refine pf_isubN (x := mdr + 1) (y := 1) hx hb (by omega) d_M_closes_109 ?_
          refine lv_topi (fun z_ hz_ => ?_)
          obtain rfl : z_ = nI (mdr) := hz_.trans (congrArg nI (show (mdr + 1) - 1 = mdr by omega))
          have hI49 := iv_1 hI1_43 hL (lo_k11_4 hL _ t_M) (by decide) hk48 (oc_42.mk (lo_k11_4 hL _ t_M) (⟨_, e46⟩))
          refine pf_iast (i := mop - 1) hx hb hK hP hD hS (lo_in hL (lo_k11_14 hL _ t_M) (by decide)) eB (lo_t47 hL _ (lo_k11_14 hL _ t_M)) (by omega) (by decide) d_M_closes_110 (fun f50 H locs e51 k52 hP hD hS => ?_)
          have eK := (k52 (g.lk M 15) (tg_ne (lo_k11_15 hL _ t_M) (lo_k11_14 hL _ t_M) (by decide))).trans eK
          have x1_40 := (k52 M (tg_ne t_M (lo_k11_14 hL _ t_M) (by decide))).trans x1_40
          have xd_41 := (k52 (g.lk M 3) (tg_ne (lo_k11_3 hL _ t_M) (lo_k11_14 hL _ t_M) (by decide))).trans xd_41
          have e46 := (k52 (g.lk M 4) (tg_ne (lo_k11_4 hL _ t_M) (lo_k11_14 hL _ t_M) (by decide))).trans e46
          have hu := hu.st k52 (lo_k11_14 hL _ t_M) (by decide)
          have hk53 : ∀ b, b ≠ (g.lk M 14) → f50 b = f45 b := k52
          refine lv_aload_n hx hb d_M_closes_111 rfl (lv_at hl 2 rfl) ?_
          refine pf_get (v := .ref (g.lk M 15)) (C := "BigRunnerModel") (T := FT10) (N := 45) hx hb (hw10 hB _) (fun _ h9 => h9) hown hK hP (lo_in hL t_M (by decide)) x1_40 rfl 15 (by decide) (wd_962 hB _) rfl d_M_closes_112 ?_
          refine lv_iload_n hx hb d_M_closes_115 rfl (lv_at hl 1 rfl) ?_
          refine lv_bipush (v := nI 124) hx hb d_M_closes_116 (by decide) ?_
          have hI54 := iv_1 hI49 hL (lo_k11_14 hL _ t_M) (by decide) hk53 (oc_47.mk (lo_k11_14 hL _ t_M) (⟨_, e51⟩))
          refine pf_iast (i := mop - 1) hx hb hK hP hD hS (lo_in hL (lo_k11_15 hL _ t_M) (by decide)) eK (lo_t48 hL _ (lo_k11_15 hL _ t_M)) (by omega) (by decide) d_M_closes_118 (fun f55 H locs e56 k57 hP hD hS => ?_)
          have x1_40 := (k57 M (tg_ne t_M (lo_k11_15 hL _ t_M) (by decide))).trans x1_40
          have xd_41 := (k57 (g.lk M 3) (tg_ne (lo_k11_3 hL _ t_M) (lo_k11_15 hL _ t_M) (by decide))).trans xd_41
          have e46 := (k57 (g.lk M 4) (tg_ne (lo_k11_4 hL _ t_M) (lo_k11_15 hL _ t_M) (by decide))).trans e46
          have e51 := (k57 (g.lk M 14) (tg_ne (lo_k11_14 hL _ t_M) (lo_k11_15 hL _ t_M) (by decide))).trans e51
          have hu := hu.st k57 (lo_k11_15 hL _ t_M) (by decide)
          have hk58 : ∀ b, b ≠ (g.lk M 15) → f55 b = f50 b := k57
          refine lv_aload_n hx hb d_M_closes_119 rfl (lv_at hl 2 rfl) ?_
          refine lv_iconst (v := nI 1) hx hb d_M_closes_120 (by decide) ?_
          have hI59 := iv_1 hI54 hL (lo_k11_15 hL _ t_M) (by decide) hk58 (oc_48.mk (lo_k11_15 hL _ t_M) (⟨_, e56⟩))
          refine pf_put (v := .int (nI 1)) (ty := .boolean) (fs' := [.int mth, .ref (g.lk M 1), .int (nI mn), .ref (g.lk M 3), .ref (g.lk M 4), .int (nI (mdr + 1)), .ref (g.lk M 6), .ref (g.lk M 7), .ref (g.lk M 8), .int (nI msz), .int (nI mix), .int (nI mdp), .ref (g.lk M 12), .int (nI mwt), .ref (g.lk M 14), .ref (g.lk M 15), .int (nI mop), .ref (g.lk M 17), .ref (g.lk M 18), .ref (g.lk M 19), .ref (g.lk M 20), .ref (g.lk M 21), .ref (g.lk M 22), .ref (g.lk M 23), .ref (g.lk M 24), .ref (g.lk M 25), .ref (g.lk M 26), .ref (g.lk M 27), .ref (g.lk M 28), .ref (g.lk M 29), .ref (g.lk M 30), .ref (g.lk M 31), .int (nI mtp), .ref (g.lk M 33), .ref (g.lk M 34), .ref (g.lk M 35), .int (nI mwa), .int (nI mgi), .int (nI mpc), .int (nI mst), .int (nI mtr), .int (nI msp), .int mma, .int mlg, .int (nI 1)]) (C := "BigRunnerModel") (T := FT10) (N := 45) hx hb (hw10 hB _) (fun _ h9 => h9) TY10 ok10 nm10 hown hK hP hD hS (lo_in hL t_M (by decide)) x1_40 rfl 44 (by decide) (wd_991 hB _) rfl (by decide +kernel) rfl rfl (Nat.le_of_ble_eq_true rfl) rfl d_M_closes_121 (fun f60 H locs e61 k62 hP hD hS => ?_)
          have xd_41 := (k62 (g.lk M 3) (tg_ne (lo_k11_3 hL _ t_M) t_M (by decide))).trans xd_41
          have e46 := (k62 (g.lk M 4) (tg_ne (lo_k11_4 hL _ t_M) t_M (by decide))).trans e46
          have e51 := (k62 (g.lk M 14) (tg_ne (lo_k11_14 hL _ t_M) t_M (by decide))).trans e51
          have e56 := (k62 (g.lk M 15) (tg_ne (lo_k11_15 hL _ t_M) t_M (by decide))).trans e56
          have hu := hu.st k62 t_M (by decide)
          have hk63 : ∀ b, b ≠ M → f60 b = f55 b := k62
          refine lv_iconst (v := nI 1) hx hb d_M_closes_124 (by decide) ?_
          have hI64 := iv_1 hI59 hL t_M (by decide) hk63 (oc_11.mk t_M (⟨mth, mn, (mdr + 1), msz, mix, mdp, mwt, mop, mtp, mwa, mgi, mpc, mst, mtr, msp, mma, mlg, ((nI 1)), e61, (by omega), (by omega), (by omega), (by omega), (by omega), (by omega), (by omega), (by omega), (by omega), (by omega), (by omega), (by omega), (by omega), (by omega), (Or.inr rfl)⟩))
          have hE : ∀ m, m ≤ mdr → dpc (upd hQ mdr (nI 12)) m = dpc hQ m := fun m hm => dpc_u hm
          have hDI2 : DI (upd hQ mdr (nI 12)) (upd (upd hG mdr (nI 0)) t9 (nI (mdr + 1))) (upd hB9 (mop - 1) (nI mdr)) (upd hK9 (mop - 1) (nI 124)) (mdr + 1) (mop - 1 + 1) := DI_bar hDIo ht9 htn (fun x hx => upd_ne _ _ (by omega)) (fun q h1 h2 => (upd_ne _ _ h2).trans (upd_ne _ _ (by omega))) (by omega) (upd_at _ _ _) (WO_end (w := 11) (v := mdr + 1) ((upd_ne _ _ (by omega)).trans q2) (upd_at _ _ _) (by decide) (by decide) (by omega) (fun z => absurd z (by decide)) (fun z => absurd z (by decide)) (by rw [hE _ (by omega)]; exact q8) (fun _ => ⟨by omega, by omega, fun z => absurd z (by omega)⟩)) (fun x hx => upd_ne _ _ (by omega)) (upd_at _ _ _) (fun x hx => upd_ne _ _ (by omega)) (upd_at _ _ _)
          have hkx := klx_t (k := hK9) (b := hB9) (show 0 < mop by omega) ht9 (by omega)
          have hat := DS_at D9 0 t9 hDS (by omega)
          rw [Nat.zero_add] at hat
          exact pe_zret hx hb hr hlocks hK hP hD hS d_M_closes_125 rfl ⟨(Or.inl ⟨1, mop - 1 + 1, mdp, mdr + 1, _, _, _, _, (fun i F h1 h2 h3 => by rw [py_rF, if_pos h1, if_neg (by rw [h2]; exact h3), hks]; show (if _ then _ else if _ then _ else if _ then _ else _) = _; rw [if_neg (fun z => by omega), if_pos ⟨h2.trans hcc, by rw [hkk]; decide⟩, kl_upd, show kc (nI 124) = 14 by decide]; rfl), by omega, by omega, by omega, by omega, by omega, hDI2, ⟨opt (D9 ++ [(12, 0)]) t9 (D9.length + 1), (by rw [opt_len, List.length_append, List.length_singleton, hDl]), (by rw [hDl]; exact DS_opt (DS_put hDS (by omega)) (by rw [List.length_append]; omega)), E8_put hE8 (by decide) (by decide), (fun i F h1 h2 h3 => by rw [oy_rF, if_pos h1, if_neg (by rw [h2]; exact h3), hkx]; show (if _ then _ else if _ then _ else if _ then _ else _) = _; rw [if_neg (fun z => by omega), if_pos ⟨h2.trans hcc, by rw [hkk]; decide⟩, klx_u2 _ _ _ _ (by omega), show kc (nI 124) = 14 by decide, ← hDl]; rfl)⟩, (by rw [show mop - 1 + 1 = mop by omega]; exact e61), xd_41, e46, e51, e56, rfl⟩), hI64, hu⟩
    · skip
      refine lv_aload_n hx hb d_M_closes_29 rfl (lv_at hl 2 rfl) ?_
      refine pf_get (v := .ref (g.lk M 15)) (C := "BigRunnerModel") (T := FT10) (N := 45) hx hb (hw10 hB _) (fun _ h9 => h9) hown hK hP (lo_in hL t_M (by decide)) eM rfl 15 (by decide) (wd_962 hB _) rfl d_M_closes_30 ?_
      refine lv_iload_n hx hb d_M_closes_33 rfl (lv_at hl 1 rfl) ?_
      refine pf_iald (i := mop - 1) hx hb hK hP (lo_in hL (lo_k11_15 hL _ t_M) (by decide)) eK (lo_t48 hL _ (lo_k11_15 hL _ t_M)) (by omega) (by decide) d_M_closes_34 ?_
      refine lv_bipush (v := nI 91) hx hb d_M_closes_35 (by decide) ?_
      refine lv_icmp_ne (tgt := 65) hx hb d_M_closes_37 (by decide) (fun b65 => ?_) (fun b65 => ?_)
      · skip
        refine lv_iload_n hx hb d_M_closes_65 rfl (lv_at hl 3 rfl) ?_
        refine lv_bipush (v := nI 124) hx hb d_M_closes_66 (by decide) ?_
        refine lv_icmp_ne (tgt := 126) hx hb d_M_closes_68 (by decide) (fun b66 => ?_) (fun b66 => ?_)
        · skip
          refine lv_iload_n hx hb d_M_closes_126 rfl (lv_at hl 3 rfl) ?_
          refine lv_bipush (v := nI 125) hx hb d_M_closes_127 (by decide) ?_
          refine lv_icmp_ne (tgt := 156) hx hb d_M_closes_129 (by decide) (fun b67 => ?_) (fun b67 => ?_)
          · skip
            refine lv_iconst (v := nI 0) hx hb d_M_closes_156 (by decide) ?_
            exact pe_zret hx hb hr hlocks hK hP hD hS d_M_closes_157 rfl ⟨(Or.inr ⟨(fun i F h1 h2 h3 => by rw [py_rF, if_pos h1, if_neg (by rw [h2]; exact h3), hks]; show (if _ then _ else if _ then _ else if _ then _ else _) = _; rw [if_neg (fun z => b65 (kc_10.mp z.2)), if_neg (fun z => b66 (kc_14.mp (h2.symm.trans z.1))), if_neg (fun z => b67 (kc_13.mp (h2.symm.trans z.1)))]), eM, rfl⟩), hI, hu⟩
          · skip
            refine lv_aload_n hx hb d_M_closes_132 rfl (lv_at hl 2 rfl) ?_
            refine pf_get (v := .ref (g.lk M 15)) (C := "BigRunnerModel") (T := FT10) (N := 45) hx hb (hw10 hB _) (fun _ h9 => h9) hown hK hP (lo_in hL t_M (by decide)) eM rfl 15 (by decide) (wd_962 hB _) rfl d_M_closes_133 ?_
            refine lv_iload_n hx hb d_M_closes_136 rfl (lv_at hl 1 rfl) ?_
            refine pf_iald (i := mop - 1) hx hb hK hP (lo_in hL (lo_k11_15 hL _ t_M) (by decide)) eK (lo_t48 hL _ (lo_k11_15 hL _ t_M)) (by omega) (by decide) d_M_closes_137 ?_
            refine lv_bipush (v := nI 124) hx hb d_M_closes_138 (by decide) ?_
            refine lv_icmp_ne (tgt := 156) hx hb d_M_closes_140 (by decide) (fun b68 => ?_) (fun b68 => ?_)
            · skip
              refine lv_iconst (v := nI 0) hx hb d_M_closes_156 (by decide) ?_
              exact pe_zret hx hb hr hlocks hK hP hD hS d_M_closes_157 rfl ⟨(Or.inr ⟨(fun i F h1 h2 h3 => by rw [py_rF, if_pos h1, if_neg (by rw [h2]; exact h3), hks]; show (if _ then _ else if _ then _ else if _ then _ else _) = _; rw [if_neg (fun z => b65 (kc_10.mp z.2)), if_neg (fun z => b66 (kc_14.mp (h2.symm.trans z.1))), if_neg (fun z => b68 (kc_14.mp z.2))]), eM, rfl⟩), hI, hu⟩
            · skip
              have hkk : hK9 (mop - 1) = nI 124 := b68
              have hcc : kc c9 = 13 := kc_13.mpr b67
              obtain ⟨-, q2, q3⟩ := hpd.resolve_left (fun ⟨_, _, z, _⟩ => by rcases z with z | z <;> exact absurd (hkk.symm.trans z) (by decide))
              refine lv_aload_n hx hb d_M_closes_143 rfl (lv_at hl 2 rfl) ?_
              refine pf_get (v := .ref (g.lk M 4)) (C := "BigRunnerModel") (T := FT10) (N := 45) hx hb (hw10 hB _) (fun _ h9 => h9) hown hK hP (lo_in hL t_M (by decide)) eM rfl 4 (by decide) (wd_951 hB _) rfl d_M_closes_144 ?_
              refine lv_iload_n hx hb d_M_closes_147 rfl (lv_at hl 0 rfl) ?_
              refine lv_aload_n hx hb d_M_closes_148 rfl (lv_at hl 2 rfl) ?_
              refine pf_get (v := .int (nI mdr)) (C := "BigRunnerModel") (T := FT10) (N := 45) hx hb (hw10 hB _) (fun _ h9 => h9) hown hK hP (lo_in hL t_M (by decide)) eM rfl 5 (by decide) (wd_952 hB _) rfl d_M_closes_149 ?_
              refine pf_iast (i := t9) hx hb hK hP hD hS (lo_in hL (lo_k11_4 hL _ t_M) (by decide)) eG (lo_t42 hL _ (lo_k11_4 hL _ t_M)) (by omega) (by decide) d_M_closes_152 (fun f69 H locs e70 k71 hP hD hS => ?_)
              have eM := (k71 M (tg_ne t_M (lo_k11_4 hL _ t_M) (by decide))).trans eM
              have eD := (k71 (g.lk M 3) (tg_ne (lo_k11_3 hL _ t_M) (lo_k11_4 hL _ t_M) (by decide))).trans eD
              have eB := (k71 (g.lk M 14) (tg_ne (lo_k11_14 hL _ t_M) (lo_k11_4 hL _ t_M) (by decide))).trans eB
              have eK := (k71 (g.lk M 15) (tg_ne (lo_k11_15 hL _ t_M) (lo_k11_4 hL _ t_M) (by decide))).trans eK
              have hu := hu.st k71 (lo_k11_4 hL _ t_M) (by decide)
              have hk72 : ∀ b, b ≠ (g.lk M 4) → f69 b = f b := k71
              refine lv_goto (tgt := 158) hx hb d_M_closes_153 (by decide) ?_
              refine lv_aload_n hx hb d_M_closes_158 rfl (lv_at hl 2 rfl) ?_
              refine lv_dup hx hb d_M_closes_159 rfl ?_
              refine pf_get (v := .int (nI mop)) (C := "BigRunnerModel") (T := FT10) (N := 45) hx hb (hw10 hB _) (fun _ h9 => h9) hown hK hP (lo_in hL t_M (by decide)) eM rfl 16 (by decide) (wd_963 hB _) rfl d_M_closes_160 ?_
              refine lv_iconst (v := nI 1) hx hb d_M_closes_163 (by decide) ?_
              refine pf_isubN (x := mop) (y := 1) hx hb (by omega) d_M_closes_164 ?_
              have hI73 := iv_1 hI hL (lo_k11_4 hL _ t_M) (by decide) hk72 (oc_42.mk (lo_k11_4 hL _ t_M) (⟨_, e70⟩))
              refine pf_put (v := .int (nI (mop - 1))) (ty := .int) (fs' := [.int mth, .ref (g.lk M 1), .int (nI mn), .ref (g.lk M 3), .ref (g.lk M 4), .int (nI mdr), .ref (g.lk M 6), .ref (g.lk M 7), .ref (g.lk M 8), .int (nI msz), .int (nI mix), .int (nI mdp), .ref (g.lk M 12), .int (nI mwt), .ref (g.lk M 14), .ref (g.lk M 15), .int (nI (mop - 1)), .ref (g.lk M 17), .ref (g.lk M 18), .ref (g.lk M 19), .ref (g.lk M 20), .ref (g.lk M 21), .ref (g.lk M 22), .ref (g.lk M 23), .ref (g.lk M 24), .ref (g.lk M 25), .ref (g.lk M 26), .ref (g.lk M 27), .ref (g.lk M 28), .ref (g.lk M 29), .ref (g.lk M 30), .ref (g.lk M 31), .int (nI mtp), .ref (g.lk M 33), .ref (g.lk M 34), .ref (g.lk M 35), .int (nI mwa), .int (nI mgi), .int (nI mpc), .int (nI mst), .int (nI mtr), .int (nI msp), .int mma, .int mlg, .int (nI 0)]) (C := "BigRunnerModel") (T := FT10) (N := 45) hx hb (hw10 hB _) (fun _ h9 => h9) TY10 ok10 nm10 hown hK hP hD hS (lo_in hL t_M (by decide)) eM rfl 16 (by decide) (wd_963 hB _) rfl (by decide +kernel) rfl rfl (Nat.le_of_ble_eq_true rfl) rfl d_M_closes_165 (fun f74 H locs e75 k76 hP hD hS => ?_)
              have eD := (k76 (g.lk M 3) (tg_ne (lo_k11_3 hL _ t_M) t_M (by decide))).trans eD
              have eB := (k76 (g.lk M 14) (tg_ne (lo_k11_14 hL _ t_M) t_M (by decide))).trans eB
              have eK := (k76 (g.lk M 15) (tg_ne (lo_k11_15 hL _ t_M) t_M (by decide))).trans eK
              have e70 := (k76 (g.lk M 4) (tg_ne (lo_k11_4 hL _ t_M) t_M (by decide))).trans e70
              have hu := hu.st k76 t_M (by decide)
              have hk77 : ∀ b, b ≠ M → f74 b = f69 b := k76
              refine lv_aload_n hx hb d_M_closes_168 rfl (lv_at hl 2 rfl) ?_
              refine lv_dup hx hb d_M_closes_169 rfl ?_
              refine pf_get (v := .int (nI mdp)) (C := "BigRunnerModel") (T := FT10) (N := 45) hx hb (hw10 hB _) (fun _ h9 => h9) hown hK hP (lo_in hL t_M (by decide)) e75 rfl 11 (by decide) (wd_958 hB _) rfl d_M_closes_170 ?_
              refine lv_iconst (v := nI 1) hx hb d_M_closes_173 (by decide) ?_
              refine pf_isubN (x := mdp) (y := 1) hx hb (by omega) d_M_closes_174 ?_
              refine pf_put (v := .int (nI (mdp - 1))) (ty := .int) (fs' := [.int mth, .ref (g.lk M 1), .int (nI mn), .ref (g.lk M 3), .ref (g.lk M 4), .int (nI mdr), .ref (g.lk M 6), .ref (g.lk M 7), .ref (g.lk M 8), .int (nI msz), .int (nI mix), .int (nI (mdp - 1)), .ref (g.lk M 12), .int (nI mwt), .ref (g.lk M 14), .ref (g.lk M 15), .int (nI (mop - 1)), .ref (g.lk M 17), .ref (g.lk M 18), .ref (g.lk M 19), .ref (g.lk M 20), .ref (g.lk M 21), .ref (g.lk M 22), .ref (g.lk M 23), .ref (g.lk M 24), .ref (g.lk M 25), .ref (g.lk M 26), .ref (g.lk M 27), .ref (g.lk M 28), .ref (g.lk M 29), .ref (g.lk M 30), .ref (g.lk M 31), .int (nI mtp), .ref (g.lk M 33), .ref (g.lk M 34), .ref (g.lk M 35), .int (nI mwa), .int (nI mgi), .int (nI mpc), .int (nI mst), .int (nI mtr), .int (nI msp), .int mma, .int mlg, .int (nI 0)]) (C := "BigRunnerModel") (T := FT10) (N := 45) hx hb (hw10 hB _) (fun _ h9 => h9) TY10 ok10 nm10 hown hK hP hD hS (lo_in hL t_M (by decide)) e75 rfl 11 (by decide) (wd_958 hB _) rfl (by decide +kernel) rfl rfl (Nat.le_of_ble_eq_true rfl) rfl d_M_closes_175 (fun f78 H locs e79 k80 hP hD hS => ?_)
              have eD := (k80 (g.lk M 3) (tg_ne (lo_k11_3 hL _ t_M) t_M (by decide))).trans eD
              have eB := (k80 (g.lk M 14) (tg_ne (lo_k11_14 hL _ t_M) t_M (by decide))).trans eB
              have eK := (k80 (g.lk M 15) (tg_ne (lo_k11_15 hL _ t_M) t_M (by decide))).trans eK
              have e70 := (k80 (g.lk M 4) (tg_ne (lo_k11_4 hL _ t_M) t_M (by decide))).trans e70
              have hu := hu.st k80 t_M (by decide)
              have hk81 : ∀ b, b ≠ M → f78 b = f69 b := fun b q0 => (k80 b q0).trans (hk77 b q0)
              refine lv_iconst (v := nI 1) hx hb d_M_closes_178 (by decide) ?_
              have hI82 := iv_1 hI73 hL t_M (by decide) hk81 (oc_11.mk t_M (⟨mth, mn, mdr, msz, mix, (mdp - 1), mwt, (mop - 1), mtp, mwa, mgi, mpc, mst, mtr, msp, mma, mlg, ((nI 0)), e79, (by omega), (by omega), (by omega), (by omega), (by omega), (by omega), (by omega), (by omega), (by omega), (by omega), (by omega), (by omega), (by omega), (by omega), (Or.inl rfl)⟩))
              have hDI2 : DI hQ (upd hG t9 (nI mdr)) hB9 hK9 mdr (mop - 1) := DI_close hDIo ht9 htn smd_rf (fun q h1 h2 => upd_ne _ _ h2) (by omega) (by omega) zz2 (WO_jump q2 (upd_at _ _ _) (by omega) q3 ⟨by omega, fun z => absurd z (by omega)⟩ (Or.inl htn)) (fun p h1 h2 => absurd h2 (by omega))
              have hkx := klx_t (k := hK9) (b := hB9) (show 0 < mop by omega) ht9 (by omega)
              have hat := DS_at D9 0 t9 hDS (by omega)
              rw [Nat.zero_add] at hat
              exact pe_zret hx hb hr hlocks hK hP hD hS d_M_closes_179 rfl ⟨(Or.inl ⟨0, mop - 1, mdp - 1, mdr, _, _, _, _, (fun i F h1 h2 h3 => by rw [py_rF, if_pos h1, if_neg (by rw [h2]; exact h3), hks]; show (if _ then _ else if _ then _ else if _ then _ else _) = _; rw [if_neg (fun z => by omega), if_neg (fun z => by omega), if_pos ⟨h2.trans hcc, by rw [hkk]; decide⟩]; rfl), by omega, by omega, by omega, by omega, by omega, hDI2, ⟨opt D9 t9 D9.length, (by rw [opt_len, hDl]), (by rw [hDl]; exact DS_opt hDS (by omega)), hE8, (fun i F h1 h2 h3 => by rw [oy_rF, if_pos h1, if_neg (by rw [h2]; exact h3), hkx]; show (if _ then _ else if _ then _ else if _ then _ else _) = _; rw [if_neg (fun z => by omega), if_neg (fun z => by omega), if_pos ⟨h2.trans hcc, by rw [hkk]; decide⟩]; rfl)⟩, e79, eD, e70, eB, eK, rfl⟩), hI82, hu⟩
        · skip
          refine lv_aload_n hx hb d_M_closes_71 rfl (lv_at hl 2 rfl) ?_
          refine pf_get (v := .ref (g.lk M 15)) (C := "BigRunnerModel") (T := FT10) (N := 45) hx hb (hw10 hB _) (fun _ h9 => h9) hown hK hP (lo_in hL t_M (by decide)) eM rfl 15 (by decide) (wd_962 hB _) rfl d_M_closes_72 ?_
          refine lv_iload_n hx hb d_M_closes_75 rfl (lv_at hl 1 rfl) ?_
          refine pf_iald (i := mop - 1) hx hb hK hP (lo_in hL (lo_k11_15 hL _ t_M) (by decide)) eK (lo_t48 hL _ (lo_k11_15 hL _ t_M)) (by omega) (by decide) d_M_closes_76 ?_
          refine lv_bipush (v := nI 123) hx hb d_M_closes_77 (by decide) ?_
          refine lv_icmp_ne (tgt := 126) hx hb d_M_closes_79 (by decide) (fun b83 => ?_) (fun b83 => ?_)
          · skip
            refine lv_iload_n hx hb d_M_closes_126 rfl (lv_at hl 3 rfl) ?_
            refine lv_bipush (v := nI 125) hx hb d_M_closes_127 (by decide) ?_
            refine lv_icmp_ne (tgt := 156) hx hb d_M_closes_129 (by decide) (fun b84 => ?_) (fun b84 => ?_)
            · skip
              refine lv_iconst (v := nI 0) hx hb d_M_closes_156 (by decide) ?_
              exact pe_zret hx hb hr hlocks hK hP hD hS d_M_closes_157 rfl ⟨(Or.inr ⟨(fun i F h1 h2 h3 => by rw [py_rF, if_pos h1, if_neg (by rw [h2]; exact h3), hks]; show (if _ then _ else if _ then _ else if _ then _ else _) = _; rw [if_neg (fun z => b65 (kc_10.mp z.2)), if_neg (fun z => b83 (kc_12.mp z.2)), if_neg (fun z => b84 (kc_13.mp (h2.symm.trans z.1)))]), eM, rfl⟩), hI, hu⟩
            · skip
              refine lv_aload_n hx hb d_M_closes_132 rfl (lv_at hl 2 rfl) ?_
              refine pf_get (v := .ref (g.lk M 15)) (C := "BigRunnerModel") (T := FT10) (N := 45) hx hb (hw10 hB _) (fun _ h9 => h9) hown hK hP (lo_in hL t_M (by decide)) eM rfl 15 (by decide) (wd_962 hB _) rfl d_M_closes_133 ?_
              refine lv_iload_n hx hb d_M_closes_136 rfl (lv_at hl 1 rfl) ?_
              refine pf_iald (i := mop - 1) hx hb hK hP (lo_in hL (lo_k11_15 hL _ t_M) (by decide)) eK (lo_t48 hL _ (lo_k11_15 hL _ t_M)) (by omega) (by decide) d_M_closes_137 ?_
              refine lv_bipush (v := nI 124) hx hb d_M_closes_138 (by decide) ?_
              refine lv_icmp_ne (tgt := 156) hx hb d_M_closes_140 (by decide) (fun b85 => ?_) (fun b85 => ?_)
              · skip
                refine lv_iconst (v := nI 0) hx hb d_M_closes_156 (by decide) ?_
                exact pe_zret hx hb hr hlocks hK hP hD hS d_M_closes_157 rfl ⟨(Or.inr ⟨(fun i F h1 h2 h3 => by rw [py_rF, if_pos h1, if_neg (by rw [h2]; exact h3), hks]; show (if _ then _ else if _ then _ else if _ then _ else _) = _; rw [if_neg (fun z => b65 (kc_10.mp z.2)), if_neg (fun z => b83 (kc_12.mp z.2)), if_neg (fun z => b85 (kc_14.mp z.2))]), eM, rfl⟩), hI, hu⟩
              · skip
                have hkk : hK9 (mop - 1) = nI 124 := b85
                have hcc : kc c9 = 13 := kc_13.mpr b84
                obtain ⟨-, q2, q3⟩ := hpd.resolve_left (fun ⟨_, _, z, _⟩ => by rcases z with z | z <;> exact absurd (hkk.symm.trans z) (by decide))
                refine lv_aload_n hx hb d_M_closes_143 rfl (lv_at hl 2 rfl) ?_
                refine pf_get (v := .ref (g.lk M 4)) (C := "BigRunnerModel") (T := FT10) (N := 45) hx hb (hw10 hB _) (fun _ h9 => h9) hown hK hP (lo_in hL t_M (by decide)) eM rfl 4 (by decide) (wd_951 hB _) rfl d_M_closes_144 ?_
                refine lv_iload_n hx hb d_M_closes_147 rfl (lv_at hl 0 rfl) ?_
                refine lv_aload_n hx hb d_M_closes_148 rfl (lv_at hl 2 rfl) ?_
                refine pf_get (v := .int (nI mdr)) (C := "BigRunnerModel") (T := FT10) (N := 45) hx hb (hw10 hB _) (fun _ h9 => h9) hown hK hP (lo_in hL t_M (by decide)) eM rfl 5 (by decide) (wd_952 hB _) rfl d_M_closes_149 ?_
                refine pf_iast (i := t9) hx hb hK hP hD hS (lo_in hL (lo_k11_4 hL _ t_M) (by decide)) eG (lo_t42 hL _ (lo_k11_4 hL _ t_M)) (by omega) (by decide) d_M_closes_152 (fun f86 H locs e87 k88 hP hD hS => ?_)
                have eM := (k88 M (tg_ne t_M (lo_k11_4 hL _ t_M) (by decide))).trans eM
                have eD := (k88 (g.lk M 3) (tg_ne (lo_k11_3 hL _ t_M) (lo_k11_4 hL _ t_M) (by decide))).trans eD
                have eB := (k88 (g.lk M 14) (tg_ne (lo_k11_14 hL _ t_M) (lo_k11_4 hL _ t_M) (by decide))).trans eB
                have eK := (k88 (g.lk M 15) (tg_ne (lo_k11_15 hL _ t_M) (lo_k11_4 hL _ t_M) (by decide))).trans eK
                have hu := hu.st k88 (lo_k11_4 hL _ t_M) (by decide)
                have hk89 : ∀ b, b ≠ (g.lk M 4) → f86 b = f b := k88
                refine lv_goto (tgt := 158) hx hb d_M_closes_153 (by decide) ?_
                refine lv_aload_n hx hb d_M_closes_158 rfl (lv_at hl 2 rfl) ?_
                refine lv_dup hx hb d_M_closes_159 rfl ?_
                refine pf_get (v := .int (nI mop)) (C := "BigRunnerModel") (T := FT10) (N := 45) hx hb (hw10 hB _) (fun _ h9 => h9) hown hK hP (lo_in hL t_M (by decide)) eM rfl 16 (by decide) (wd_963 hB _) rfl d_M_closes_160 ?_
                refine lv_iconst (v := nI 1) hx hb d_M_closes_163 (by decide) ?_
                refine pf_isubN (x := mop) (y := 1) hx hb (by omega) d_M_closes_164 ?_
                have hI90 := iv_1 hI hL (lo_k11_4 hL _ t_M) (by decide) hk89 (oc_42.mk (lo_k11_4 hL _ t_M) (⟨_, e87⟩))
                refine pf_put (v := .int (nI (mop - 1))) (ty := .int) (fs' := [.int mth, .ref (g.lk M 1), .int (nI mn), .ref (g.lk M 3), .ref (g.lk M 4), .int (nI mdr), .ref (g.lk M 6), .ref (g.lk M 7), .ref (g.lk M 8), .int (nI msz), .int (nI mix), .int (nI mdp), .ref (g.lk M 12), .int (nI mwt), .ref (g.lk M 14), .ref (g.lk M 15), .int (nI (mop - 1)), .ref (g.lk M 17), .ref (g.lk M 18), .ref (g.lk M 19), .ref (g.lk M 20), .ref (g.lk M 21), .ref (g.lk M 22), .ref (g.lk M 23), .ref (g.lk M 24), .ref (g.lk M 25), .ref (g.lk M 26), .ref (g.lk M 27), .ref (g.lk M 28), .ref (g.lk M 29), .ref (g.lk M 30), .ref (g.lk M 31), .int (nI mtp), .ref (g.lk M 33), .ref (g.lk M 34), .ref (g.lk M 35), .int (nI mwa), .int (nI mgi), .int (nI mpc), .int (nI mst), .int (nI mtr), .int (nI msp), .int mma, .int mlg, .int (nI 0)]) (C := "BigRunnerModel") (T := FT10) (N := 45) hx hb (hw10 hB _) (fun _ h9 => h9) TY10 ok10 nm10 hown hK hP hD hS (lo_in hL t_M (by decide)) eM rfl 16 (by decide) (wd_963 hB _) rfl (by decide +kernel) rfl rfl (Nat.le_of_ble_eq_true rfl) rfl d_M_closes_165 (fun f91 H locs e92 k93 hP hD hS => ?_)
                have eD := (k93 (g.lk M 3) (tg_ne (lo_k11_3 hL _ t_M) t_M (by decide))).trans eD
                have eB := (k93 (g.lk M 14) (tg_ne (lo_k11_14 hL _ t_M) t_M (by decide))).trans eB
                have eK := (k93 (g.lk M 15) (tg_ne (lo_k11_15 hL _ t_M) t_M (by decide))).trans eK
                have e87 := (k93 (g.lk M 4) (tg_ne (lo_k11_4 hL _ t_M) t_M (by decide))).trans e87
                have hu := hu.st k93 t_M (by decide)
                have hk94 : ∀ b, b ≠ M → f91 b = f86 b := k93
                refine lv_aload_n hx hb d_M_closes_168 rfl (lv_at hl 2 rfl) ?_
                refine lv_dup hx hb d_M_closes_169 rfl ?_
                refine pf_get (v := .int (nI mdp)) (C := "BigRunnerModel") (T := FT10) (N := 45) hx hb (hw10 hB _) (fun _ h9 => h9) hown hK hP (lo_in hL t_M (by decide)) e92 rfl 11 (by decide) (wd_958 hB _) rfl d_M_closes_170 ?_
                refine lv_iconst (v := nI 1) hx hb d_M_closes_173 (by decide) ?_
                refine pf_isubN (x := mdp) (y := 1) hx hb (by omega) d_M_closes_174 ?_
                refine pf_put (v := .int (nI (mdp - 1))) (ty := .int) (fs' := [.int mth, .ref (g.lk M 1), .int (nI mn), .ref (g.lk M 3), .ref (g.lk M 4), .int (nI mdr), .ref (g.lk M 6), .ref (g.lk M 7), .ref (g.lk M 8), .int (nI msz), .int (nI mix), .int (nI (mdp - 1)), .ref (g.lk M 12), .int (nI mwt), .ref (g.lk M 14), .ref (g.lk M 15), .int (nI (mop - 1)), .ref (g.lk M 17), .ref (g.lk M 18), .ref (g.lk M 19), .ref (g.lk M 20), .ref (g.lk M 21), .ref (g.lk M 22), .ref (g.lk M 23), .ref (g.lk M 24), .ref (g.lk M 25), .ref (g.lk M 26), .ref (g.lk M 27), .ref (g.lk M 28), .ref (g.lk M 29), .ref (g.lk M 30), .ref (g.lk M 31), .int (nI mtp), .ref (g.lk M 33), .ref (g.lk M 34), .ref (g.lk M 35), .int (nI mwa), .int (nI mgi), .int (nI mpc), .int (nI mst), .int (nI mtr), .int (nI msp), .int mma, .int mlg, .int (nI 0)]) (C := "BigRunnerModel") (T := FT10) (N := 45) hx hb (hw10 hB _) (fun _ h9 => h9) TY10 ok10 nm10 hown hK hP hD hS (lo_in hL t_M (by decide)) e92 rfl 11 (by decide) (wd_958 hB _) rfl (by decide +kernel) rfl rfl (Nat.le_of_ble_eq_true rfl) rfl d_M_closes_175 (fun f95 H locs e96 k97 hP hD hS => ?_)
                have eD := (k97 (g.lk M 3) (tg_ne (lo_k11_3 hL _ t_M) t_M (by decide))).trans eD
                have eB := (k97 (g.lk M 14) (tg_ne (lo_k11_14 hL _ t_M) t_M (by decide))).trans eB
                have eK := (k97 (g.lk M 15) (tg_ne (lo_k11_15 hL _ t_M) t_M (by decide))).trans eK
                have e87 := (k97 (g.lk M 4) (tg_ne (lo_k11_4 hL _ t_M) t_M (by decide))).trans e87
                have hu := hu.st k97 t_M (by decide)
                have hk98 : ∀ b, b ≠ M → f95 b = f86 b := fun b q0 => (k97 b q0).trans (hk94 b q0)
                refine lv_iconst (v := nI 1) hx hb d_M_closes_178 (by decide) ?_
                have hI99 := iv_1 hI90 hL t_M (by decide) hk98 (oc_11.mk t_M (⟨mth, mn, mdr, msz, mix, (mdp - 1), mwt, (mop - 1), mtp, mwa, mgi, mpc, mst, mtr, msp, mma, mlg, ((nI 0)), e96, (by omega), (by omega), (by omega), (by omega), (by omega), (by omega), (by omega), (by omega), (by omega), (by omega), (by omega), (by omega), (by omega), (by omega), (Or.inl rfl)⟩))
                have hDI2 : DI hQ (upd hG t9 (nI mdr)) hB9 hK9 mdr (mop - 1) := DI_close hDIo ht9 htn smd_rf (fun q h1 h2 => upd_ne _ _ h2) (by omega) (by omega) zz2 (WO_jump q2 (upd_at _ _ _) (by omega) q3 ⟨by omega, fun z => absurd z (by omega)⟩ (Or.inl htn)) (fun p h1 h2 => absurd h2 (by omega))
                have hkx := klx_t (k := hK9) (b := hB9) (show 0 < mop by omega) ht9 (by omega)
                have hat := DS_at D9 0 t9 hDS (by omega)
                rw [Nat.zero_add] at hat
                exact pe_zret hx hb hr hlocks hK hP hD hS d_M_closes_179 rfl ⟨(Or.inl ⟨0, mop - 1, mdp - 1, mdr, _, _, _, _, (fun i F h1 h2 h3 => by rw [py_rF, if_pos h1, if_neg (by rw [h2]; exact h3), hks]; show (if _ then _ else if _ then _ else if _ then _ else _) = _; rw [if_neg (fun z => by omega), if_neg (fun z => by omega), if_pos ⟨h2.trans hcc, by rw [hkk]; decide⟩]; rfl), by omega, by omega, by omega, by omega, by omega, hDI2, ⟨opt D9 t9 D9.length, (by rw [opt_len, hDl]), (by rw [hDl]; exact DS_opt hDS (by omega)), hE8, (fun i F h1 h2 h3 => by rw [oy_rF, if_pos h1, if_neg (by rw [h2]; exact h3), hkx]; show (if _ then _ else if _ then _ else if _ then _ else _) = _; rw [if_neg (fun z => by omega), if_neg (fun z => by omega), if_pos ⟨h2.trans hcc, by rw [hkk]; decide⟩]; rfl)⟩, e96, eD, e87, eB, eK, rfl⟩), hI99, hu⟩
          · skip
            have hkk : hK9 (mop - 1) = nI 123 := b83
            have hcc : kc c9 = 14 := kc_14.mpr b66
            obtain ⟨b9, w9, -, q2, q3, q4, q5, q6, q7, q8⟩ := hpd.resolve_right (fun z => absurd (hkk.symm.trans z.1) (by decide))
            refine lv_aload_n hx hb d_M_closes_82 rfl (lv_at hl 2 rfl) ?_
            refine lv_bipush (v := nI 12) hx hb d_M_closes_83 (by decide) ?_
            refine lv_iconst (v := nI 0) hx hb d_M_closes_85 (by decide) ?_
            refine pcc_v (va_runV (C := "BigRunnerModel") (As := [.int (nI 12), .int (nI 0)]) (rest := []) ⟨hx, hb, hml, hown, tb_nil⟩ (m_put l g s.heap.size f M mth mn mdr msz mix mdp mwt mop mtp mwa mgi mpc mst mtr msp mma mlg ((nI 0)) hQ hG 12 ((nI 0)) hL t_M hI eM ⟨(by omega), (by omega), (by omega), (by omega), (by omega), (by omega), (by omega), (by omega), (by omega), (by omega), (by omega), (by omega), (by omega), (by omega), (Or.inl rfl)⟩ eD eG (by omega)) ⟨(callB_of 2 (tb_one (wd_1115 hB _)) tb_good1 rfl rfl rfl (wd_82 hB _) (wd_1112 hB _) (by decide +kernel) ⟨Nat.le_of_ble_eq_true rfl, Nat.le_of_ble_eq_true rfl⟩), (wd_1114 hB _), (wd_44 hB _)⟩ ⟨pe_bl, pg_recv (ci := 10) hK hP (lo_in hL t_M (by decide)) eM rfl, pe_pre hB hK hP hD⟩ rfl rfl hl.1 rfl (lv_room (Nat.le_of_ble_eq_true rfl)) d_M_closes_86 ⟨Nat.le_of_ble_eq_true rfl, Nat.le_of_ble_eq_true rfl⟩) hS (fun f101 H locs hq102 hP hD hS => ?_)
            obtain ⟨x1_103, xd_104, xg_105, hI1_106, hu1_107⟩ := hq102
            have hu := hu.tr hu1_107 (by decide)
            have eB := hu1_107.at (lo_k11_14 hL _ t_M) (by decide) eB
            have eK := hu1_107.at (lo_k11_15 hL _ t_M) (by decide) eK
            refine lv_aload_n hx hb d_M_closes_89 rfl (lv_at hl 2 rfl) ?_
            refine pf_get (v := .ref (g.lk M 4)) (C := "BigRunnerModel") (T := FT10) (N := 45) hx hb (hw10 hB _) (fun _ h9 => h9) hown hK hP (lo_in hL t_M (by decide)) x1_103 rfl 4 (by decide) (wd_951 hB _) rfl d_M_closes_90 ?_
            refine lv_iload_n hx hb d_M_closes_93 rfl (lv_at hl 0 rfl) ?_
            refine lv_aload_n hx hb d_M_closes_94 rfl (lv_at hl 2 rfl) ?_
            refine pf_get (v := .int (nI (mdr + 1))) (C := "BigRunnerModel") (T := FT10) (N := 45) hx hb (hw10 hB _) (fun _ h9 => h9) hown hK hP (lo_in hL t_M (by decide)) x1_103 rfl 5 (by decide) (wd_952 hB _) rfl d_M_closes_95 ?_
            refine pf_iast (i := t9) hx hb hK hP hD hS (lo_in hL (lo_k11_4 hL _ t_M) (by decide)) xg_105 (lo_t42 hL _ (lo_k11_4 hL _ t_M)) (by omega) (by decide) d_M_closes_98 (fun f108 H locs e109 k110 hP hD hS => ?_)
            have eB := (k110 (g.lk M 14) (tg_ne (lo_k11_14 hL _ t_M) (lo_k11_4 hL _ t_M) (by decide))).trans eB
            have eK := (k110 (g.lk M 15) (tg_ne (lo_k11_15 hL _ t_M) (lo_k11_4 hL _ t_M) (by decide))).trans eK
            have x1_103 := (k110 M (tg_ne t_M (lo_k11_4 hL _ t_M) (by decide))).trans x1_103
            have xd_104 := (k110 (g.lk M 3) (tg_ne (lo_k11_3 hL _ t_M) (lo_k11_4 hL _ t_M) (by decide))).trans xd_104
            have hu := hu.st k110 (lo_k11_4 hL _ t_M) (by decide)
            have hk111 : ∀ b, b ≠ (g.lk M 4) → f108 b = f101 b := k110
            refine lv_aload_n hx hb d_M_closes_99 rfl (lv_at hl 2 rfl) ?_
            refine pf_get (v := .ref (g.lk M 14)) (C := "BigRunnerModel") (T := FT10) (N := 45) hx hb (hw10 hB _) (fun _ h9 => h9) hown hK hP (lo_in hL t_M (by decide)) x1_103 rfl 14 (by decide) (wd_961 hB _) rfl d_M_closes_100 ?_
            refine lv_iload_n hx hb d_M_closes_103 rfl (lv_at hl 1 rfl) ?_
            refine lv_aload_n hx hb d_M_closes_104 rfl (lv_at hl 2 rfl) ?_
            refine pf_get (v := .int (nI (mdr + 1))) (C := "BigRunnerModel") (T := FT10) (N := 45) hx hb (hw10 hB _) (fun _ h9 => h9) hown hK hP (lo_in hL t_M (by decide)) x1_103 rfl 5 (by decide) (wd_952 hB _) rfl d_M_closes_105 ?_
            refine lv_iconst (v := nI 1) hx hb d_M_closes_108 (by decide) ?_
            refine pf_isubN (x := mdr + 1) (y := 1) hx hb (by omega) d_M_closes_109 ?_
            refine lv_topi (fun z_ hz_ => ?_)
            obtain rfl : z_ = nI (mdr) := hz_.trans (congrArg nI (show (mdr + 1) - 1 = mdr by omega))
            have hI112 := iv_1 hI1_106 hL (lo_k11_4 hL _ t_M) (by decide) hk111 (oc_42.mk (lo_k11_4 hL _ t_M) (⟨_, e109⟩))
            refine pf_iast (i := mop - 1) hx hb hK hP hD hS (lo_in hL (lo_k11_14 hL _ t_M) (by decide)) eB (lo_t47 hL _ (lo_k11_14 hL _ t_M)) (by omega) (by decide) d_M_closes_110 (fun f113 H locs e114 k115 hP hD hS => ?_)
            have eK := (k115 (g.lk M 15) (tg_ne (lo_k11_15 hL _ t_M) (lo_k11_14 hL _ t_M) (by decide))).trans eK
            have x1_103 := (k115 M (tg_ne t_M (lo_k11_14 hL _ t_M) (by decide))).trans x1_103
            have xd_104 := (k115 (g.lk M 3) (tg_ne (lo_k11_3 hL _ t_M) (lo_k11_14 hL _ t_M) (by decide))).trans xd_104
            have e109 := (k115 (g.lk M 4) (tg_ne (lo_k11_4 hL _ t_M) (lo_k11_14 hL _ t_M) (by decide))).trans e109
            have hu := hu.st k115 (lo_k11_14 hL _ t_M) (by decide)
            have hk116 : ∀ b, b ≠ (g.lk M 14) → f113 b = f108 b := k115
            refine lv_aload_n hx hb d_M_closes_111 rfl (lv_at hl 2 rfl) ?_
            refine pf_get (v := .ref (g.lk M 15)) (C := "BigRunnerModel") (T := FT10) (N := 45) hx hb (hw10 hB _) (fun _ h9 => h9) hown hK hP (lo_in hL t_M (by decide)) x1_103 rfl 15 (by decide) (wd_962 hB _) rfl d_M_closes_112 ?_
            refine lv_iload_n hx hb d_M_closes_115 rfl (lv_at hl 1 rfl) ?_
            refine lv_bipush (v := nI 124) hx hb d_M_closes_116 (by decide) ?_
            have hI117 := iv_1 hI112 hL (lo_k11_14 hL _ t_M) (by decide) hk116 (oc_47.mk (lo_k11_14 hL _ t_M) (⟨_, e114⟩))
            refine pf_iast (i := mop - 1) hx hb hK hP hD hS (lo_in hL (lo_k11_15 hL _ t_M) (by decide)) eK (lo_t48 hL _ (lo_k11_15 hL _ t_M)) (by omega) (by decide) d_M_closes_118 (fun f118 H locs e119 k120 hP hD hS => ?_)
            have x1_103 := (k120 M (tg_ne t_M (lo_k11_15 hL _ t_M) (by decide))).trans x1_103
            have xd_104 := (k120 (g.lk M 3) (tg_ne (lo_k11_3 hL _ t_M) (lo_k11_15 hL _ t_M) (by decide))).trans xd_104
            have e109 := (k120 (g.lk M 4) (tg_ne (lo_k11_4 hL _ t_M) (lo_k11_15 hL _ t_M) (by decide))).trans e109
            have e114 := (k120 (g.lk M 14) (tg_ne (lo_k11_14 hL _ t_M) (lo_k11_15 hL _ t_M) (by decide))).trans e114
            have hu := hu.st k120 (lo_k11_15 hL _ t_M) (by decide)
            have hk121 : ∀ b, b ≠ (g.lk M 15) → f118 b = f113 b := k120
            refine lv_aload_n hx hb d_M_closes_119 rfl (lv_at hl 2 rfl) ?_
            refine lv_iconst (v := nI 1) hx hb d_M_closes_120 (by decide) ?_
            have hI122 := iv_1 hI117 hL (lo_k11_15 hL _ t_M) (by decide) hk121 (oc_48.mk (lo_k11_15 hL _ t_M) (⟨_, e119⟩))
            refine pf_put (v := .int (nI 1)) (ty := .boolean) (fs' := [.int mth, .ref (g.lk M 1), .int (nI mn), .ref (g.lk M 3), .ref (g.lk M 4), .int (nI (mdr + 1)), .ref (g.lk M 6), .ref (g.lk M 7), .ref (g.lk M 8), .int (nI msz), .int (nI mix), .int (nI mdp), .ref (g.lk M 12), .int (nI mwt), .ref (g.lk M 14), .ref (g.lk M 15), .int (nI mop), .ref (g.lk M 17), .ref (g.lk M 18), .ref (g.lk M 19), .ref (g.lk M 20), .ref (g.lk M 21), .ref (g.lk M 22), .ref (g.lk M 23), .ref (g.lk M 24), .ref (g.lk M 25), .ref (g.lk M 26), .ref (g.lk M 27), .ref (g.lk M 28), .ref (g.lk M 29), .ref (g.lk M 30), .ref (g.lk M 31), .int (nI mtp), .ref (g.lk M 33), .ref (g.lk M 34), .ref (g.lk M 35), .int (nI mwa), .int (nI mgi), .int (nI mpc), .int (nI mst), .int (nI mtr), .int (nI msp), .int mma, .int mlg, .int (nI 1)]) (C := "BigRunnerModel") (T := FT10) (N := 45) hx hb (hw10 hB _) (fun _ h9 => h9) TY10 ok10 nm10 hown hK hP hD hS (lo_in hL t_M (by decide)) x1_103 rfl 44 (by decide) (wd_991 hB _) rfl (by decide +kernel) rfl rfl (Nat.le_of_ble_eq_true rfl) rfl d_M_closes_121 (fun f123 H locs e124 k125 hP hD hS => ?_)
            have xd_104 := (k125 (g.lk M 3) (tg_ne (lo_k11_3 hL _ t_M) t_M (by decide))).trans xd_104
            have e109 := (k125 (g.lk M 4) (tg_ne (lo_k11_4 hL _ t_M) t_M (by decide))).trans e109
            have e114 := (k125 (g.lk M 14) (tg_ne (lo_k11_14 hL _ t_M) t_M (by decide))).trans e114
            have e119 := (k125 (g.lk M 15) (tg_ne (lo_k11_15 hL _ t_M) t_M (by decide))).trans e119
            have hu := hu.st k125 t_M (by decide)
            have hk126 : ∀ b, b ≠ M → f123 b = f118 b := k125
            refine lv_iconst (v := nI 1) hx hb d_M_closes_124 (by decide) ?_
            have hI127 := iv_1 hI122 hL t_M (by decide) hk126 (oc_11.mk t_M (⟨mth, mn, (mdr + 1), msz, mix, mdp, mwt, mop, mtp, mwa, mgi, mpc, mst, mtr, msp, mma, mlg, ((nI 1)), e124, (by omega), (by omega), (by omega), (by omega), (by omega), (by omega), (by omega), (by omega), (by omega), (by omega), (by omega), (by omega), (by omega), (by omega), (Or.inr rfl)⟩))
            have hE : ∀ m, m ≤ mdr → dpc (upd hQ mdr (nI 12)) m = dpc hQ m := fun m hm => dpc_u hm
            have hDI2 : DI (upd hQ mdr (nI 12)) (upd (upd hG mdr (nI 0)) t9 (nI (mdr + 1))) (upd hB9 (mop - 1) (nI mdr)) (upd hK9 (mop - 1) (nI 124)) (mdr + 1) (mop - 1 + 1) := DI_bar hDIo ht9 htn (fun x hx => upd_ne _ _ (by omega)) (fun q h1 h2 => (upd_ne _ _ h2).trans (upd_ne _ _ (by omega))) (by omega) (upd_at _ _ _) (WO_end (w := 11) (v := mdr + 1) ((upd_ne _ _ (by omega)).trans q2) (upd_at _ _ _) (by decide) (by decide) (by omega) (fun z => absurd z (by decide)) (fun z => absurd z (by decide)) (by rw [hE _ (by omega)]; exact q8) (fun _ => ⟨by omega, by omega, fun z => absurd z (by omega)⟩)) (fun x hx => upd_ne _ _ (by omega)) (upd_at _ _ _) (fun x hx => upd_ne _ _ (by omega)) (upd_at _ _ _)
            have hkx := klx_t (k := hK9) (b := hB9) (show 0 < mop by omega) ht9 (by omega)
            have hat := DS_at D9 0 t9 hDS (by omega)
            rw [Nat.zero_add] at hat
            exact pe_zret hx hb hr hlocks hK hP hD hS d_M_closes_125 rfl ⟨(Or.inl ⟨1, mop - 1 + 1, mdp, mdr + 1, _, _, _, _, (fun i F h1 h2 h3 => by rw [py_rF, if_pos h1, if_neg (by rw [h2]; exact h3), hks]; show (if _ then _ else if _ then _ else if _ then _ else _) = _; rw [if_neg (fun z => by omega), if_pos ⟨h2.trans hcc, by rw [hkk]; decide⟩, kl_upd, show kc (nI 124) = 14 by decide]; rfl), by omega, by omega, by omega, by omega, by omega, hDI2, ⟨opt (D9 ++ [(12, 0)]) t9 (D9.length + 1), (by rw [opt_len, List.length_append, List.length_singleton, hDl]), (by rw [hDl]; exact DS_opt (DS_put hDS (by omega)) (by rw [List.length_append]; omega)), E8_put hE8 (by decide) (by decide), (fun i F h1 h2 h3 => by rw [oy_rF, if_pos h1, if_neg (by rw [h2]; exact h3), hkx]; show (if _ then _ else if _ then _ else if _ then _ else _) = _; rw [if_neg (fun z => by omega), if_pos ⟨h2.trans hcc, by rw [hkk]; decide⟩, klx_u2 _ _ _ _ (by omega), show kc (nI 124) = 14 by decide, ← hDl]; rfl)⟩, (by rw [show mop - 1 + 1 = mop by omega]; exact e124), xd_104, e109, e114, e119, rfl⟩), hI127, hu⟩
      · skip
        have hkk : hK9 (mop - 1) = nI 91 := b65
        have hcc : kc c9 = 11 := kc_11.mpr b2
        obtain ⟨b9, w9, -, q2, q3, q4, q5, q6, q7, q8⟩ := hpd.resolve_right (fun z => absurd (hkk.symm.trans z.1) (by decide))
        refine lv_aload_n hx hb d_M_closes_40 rfl (lv_at hl 2 rfl) ?_
        refine lv_bipush (v := nI 12) hx hb d_M_closes_41 (by decide) ?_
        refine lv_aload_n hx hb d_M_closes_43 rfl (lv_at hl 2 rfl) ?_
        refine pf_get (v := .ref (g.lk M 4)) (C := "BigRunnerModel") (T := FT10) (N := 45) hx hb (hw10 hB _) (fun _ h9 => h9) hown hK hP (lo_in hL t_M (by decide)) eM rfl 4 (by decide) (wd_951 hB _) rfl d_M_closes_44 ?_
        refine lv_iload_n hx hb d_M_closes_47 rfl (lv_at hl 0 rfl) ?_
        refine pf_iald (i := t9) hx hb hK hP (lo_in hL (lo_k11_4 hL _ t_M) (by decide)) eG (lo_t42 hL _ (lo_k11_4 hL _ t_M)) (by omega) (by decide) d_M_closes_48 ?_
        refine lv_topi (fun z_ hz_ => ?_)
        obtain rfl : z_ = nI b9 := hz_.trans q3
        refine pcc_v (va_runV (C := "BigRunnerModel") (As := [.int (nI 12), .int (nI b9)]) (rest := []) ⟨hx, hb, hml, hown, tb_nil⟩ (m_put l g s.heap.size f M mth mn mdr msz mix mdp mwt mop mtp mwa mgi mpc mst mtr msp mma mlg ((nI 0)) hQ hG 12 ((nI b9)) hL t_M hI eM ⟨(by omega), (by omega), (by omega), (by omega), (by omega), (by omega), (by omega), (by omega), (by omega), (by omega), (by omega), (by omega), (by omega), (by omega), (Or.inl rfl)⟩ eD eG (by omega)) ⟨(callB_of 2 (tb_one (wd_1115 hB _)) tb_good1 rfl rfl rfl (wd_82 hB _) (wd_1112 hB _) (by decide +kernel) ⟨Nat.le_of_ble_eq_true rfl, Nat.le_of_ble_eq_true rfl⟩), (wd_1114 hB _), (wd_44 hB _)⟩ ⟨pe_bl, pg_recv (ci := 10) hK hP (lo_in hL t_M (by decide)) eM rfl, pe_pre hB hK hP hD⟩ rfl rfl hl.1 rfl (lv_room (Nat.le_of_ble_eq_true rfl)) d_M_closes_49 ⟨Nat.le_of_ble_eq_true rfl, Nat.le_of_ble_eq_true rfl⟩) hS (fun f129 H locs hq130 hP hD hS => ?_)
        obtain ⟨x1_131, xd_132, xg_133, hI1_134, hu1_135⟩ := hq130
        have hu := hu.tr hu1_135 (by decide)
        have eB := hu1_135.at (lo_k11_14 hL _ t_M) (by decide) eB
        have eK := hu1_135.at (lo_k11_15 hL _ t_M) (by decide) eK
        refine lv_aload_n hx hb d_M_closes_52 rfl (lv_at hl 2 rfl) ?_
        refine pf_get (v := .ref (g.lk M 4)) (C := "BigRunnerModel") (T := FT10) (N := 45) hx hb (hw10 hB _) (fun _ h9 => h9) hown hK hP (lo_in hL t_M (by decide)) x1_131 rfl 4 (by decide) (wd_951 hB _) rfl d_M_closes_53 ?_
        refine lv_iload_n hx hb d_M_closes_56 rfl (lv_at hl 0 rfl) ?_
        refine lv_aload_n hx hb d_M_closes_57 rfl (lv_at hl 2 rfl) ?_
        refine pf_get (v := .int (nI (mdr + 1))) (C := "BigRunnerModel") (T := FT10) (N := 45) hx hb (hw10 hB _) (fun _ h9 => h9) hown hK hP (lo_in hL t_M (by decide)) x1_131 rfl 5 (by decide) (wd_952 hB _) rfl d_M_closes_58 ?_
        refine pf_iast (i := t9) hx hb hK hP hD hS (lo_in hL (lo_k11_4 hL _ t_M) (by decide)) xg_133 (lo_t42 hL _ (lo_k11_4 hL _ t_M)) (by omega) (by decide) d_M_closes_61 (fun f136 H locs e137 k138 hP hD hS => ?_)
        have eB := (k138 (g.lk M 14) (tg_ne (lo_k11_14 hL _ t_M) (lo_k11_4 hL _ t_M) (by decide))).trans eB
        have eK := (k138 (g.lk M 15) (tg_ne (lo_k11_15 hL _ t_M) (lo_k11_4 hL _ t_M) (by decide))).trans eK
        have x1_131 := (k138 M (tg_ne t_M (lo_k11_4 hL _ t_M) (by decide))).trans x1_131
        have xd_132 := (k138 (g.lk M 3) (tg_ne (lo_k11_3 hL _ t_M) (lo_k11_4 hL _ t_M) (by decide))).trans xd_132
        have hu := hu.st k138 (lo_k11_4 hL _ t_M) (by decide)
        have hk139 : ∀ b, b ≠ (g.lk M 4) → f136 b = f129 b := k138
        refine lv_goto (tgt := 158) hx hb d_M_closes_62 (by decide) ?_
        refine lv_aload_n hx hb d_M_closes_158 rfl (lv_at hl 2 rfl) ?_
        refine lv_dup hx hb d_M_closes_159 rfl ?_
        refine pf_get (v := .int (nI mop)) (C := "BigRunnerModel") (T := FT10) (N := 45) hx hb (hw10 hB _) (fun _ h9 => h9) hown hK hP (lo_in hL t_M (by decide)) x1_131 rfl 16 (by decide) (wd_963 hB _) rfl d_M_closes_160 ?_
        refine lv_iconst (v := nI 1) hx hb d_M_closes_163 (by decide) ?_
        refine pf_isubN (x := mop) (y := 1) hx hb (by omega) d_M_closes_164 ?_
        have hI140 := iv_1 hI1_134 hL (lo_k11_4 hL _ t_M) (by decide) hk139 (oc_42.mk (lo_k11_4 hL _ t_M) (⟨_, e137⟩))
        refine pf_put (v := .int (nI (mop - 1))) (ty := .int) (fs' := [.int mth, .ref (g.lk M 1), .int (nI mn), .ref (g.lk M 3), .ref (g.lk M 4), .int (nI (mdr + 1)), .ref (g.lk M 6), .ref (g.lk M 7), .ref (g.lk M 8), .int (nI msz), .int (nI mix), .int (nI mdp), .ref (g.lk M 12), .int (nI mwt), .ref (g.lk M 14), .ref (g.lk M 15), .int (nI (mop - 1)), .ref (g.lk M 17), .ref (g.lk M 18), .ref (g.lk M 19), .ref (g.lk M 20), .ref (g.lk M 21), .ref (g.lk M 22), .ref (g.lk M 23), .ref (g.lk M 24), .ref (g.lk M 25), .ref (g.lk M 26), .ref (g.lk M 27), .ref (g.lk M 28), .ref (g.lk M 29), .ref (g.lk M 30), .ref (g.lk M 31), .int (nI mtp), .ref (g.lk M 33), .ref (g.lk M 34), .ref (g.lk M 35), .int (nI mwa), .int (nI mgi), .int (nI mpc), .int (nI mst), .int (nI mtr), .int (nI msp), .int mma, .int mlg, .int (nI 0)]) (C := "BigRunnerModel") (T := FT10) (N := 45) hx hb (hw10 hB _) (fun _ h9 => h9) TY10 ok10 nm10 hown hK hP hD hS (lo_in hL t_M (by decide)) x1_131 rfl 16 (by decide) (wd_963 hB _) rfl (by decide +kernel) rfl rfl (Nat.le_of_ble_eq_true rfl) rfl d_M_closes_165 (fun f141 H locs e142 k143 hP hD hS => ?_)
        have eB := (k143 (g.lk M 14) (tg_ne (lo_k11_14 hL _ t_M) t_M (by decide))).trans eB
        have eK := (k143 (g.lk M 15) (tg_ne (lo_k11_15 hL _ t_M) t_M (by decide))).trans eK
        have xd_132 := (k143 (g.lk M 3) (tg_ne (lo_k11_3 hL _ t_M) t_M (by decide))).trans xd_132
        have e137 := (k143 (g.lk M 4) (tg_ne (lo_k11_4 hL _ t_M) t_M (by decide))).trans e137
        have hu := hu.st k143 t_M (by decide)
        have hk144 : ∀ b, b ≠ M → f141 b = f136 b := k143
        refine lv_aload_n hx hb d_M_closes_168 rfl (lv_at hl 2 rfl) ?_
        refine lv_dup hx hb d_M_closes_169 rfl ?_
        refine pf_get (v := .int (nI mdp)) (C := "BigRunnerModel") (T := FT10) (N := 45) hx hb (hw10 hB _) (fun _ h9 => h9) hown hK hP (lo_in hL t_M (by decide)) e142 rfl 11 (by decide) (wd_958 hB _) rfl d_M_closes_170 ?_
        refine lv_iconst (v := nI 1) hx hb d_M_closes_173 (by decide) ?_
        refine pf_isubN (x := mdp) (y := 1) hx hb (by omega) d_M_closes_174 ?_
        refine pf_put (v := .int (nI (mdp - 1))) (ty := .int) (fs' := [.int mth, .ref (g.lk M 1), .int (nI mn), .ref (g.lk M 3), .ref (g.lk M 4), .int (nI (mdr + 1)), .ref (g.lk M 6), .ref (g.lk M 7), .ref (g.lk M 8), .int (nI msz), .int (nI mix), .int (nI (mdp - 1)), .ref (g.lk M 12), .int (nI mwt), .ref (g.lk M 14), .ref (g.lk M 15), .int (nI (mop - 1)), .ref (g.lk M 17), .ref (g.lk M 18), .ref (g.lk M 19), .ref (g.lk M 20), .ref (g.lk M 21), .ref (g.lk M 22), .ref (g.lk M 23), .ref (g.lk M 24), .ref (g.lk M 25), .ref (g.lk M 26), .ref (g.lk M 27), .ref (g.lk M 28), .ref (g.lk M 29), .ref (g.lk M 30), .ref (g.lk M 31), .int (nI mtp), .ref (g.lk M 33), .ref (g.lk M 34), .ref (g.lk M 35), .int (nI mwa), .int (nI mgi), .int (nI mpc), .int (nI mst), .int (nI mtr), .int (nI msp), .int mma, .int mlg, .int (nI 0)]) (C := "BigRunnerModel") (T := FT10) (N := 45) hx hb (hw10 hB _) (fun _ h9 => h9) TY10 ok10 nm10 hown hK hP hD hS (lo_in hL t_M (by decide)) e142 rfl 11 (by decide) (wd_958 hB _) rfl (by decide +kernel) rfl rfl (Nat.le_of_ble_eq_true rfl) rfl d_M_closes_175 (fun f145 H locs e146 k147 hP hD hS => ?_)
        have eB := (k147 (g.lk M 14) (tg_ne (lo_k11_14 hL _ t_M) t_M (by decide))).trans eB
        have eK := (k147 (g.lk M 15) (tg_ne (lo_k11_15 hL _ t_M) t_M (by decide))).trans eK
        have xd_132 := (k147 (g.lk M 3) (tg_ne (lo_k11_3 hL _ t_M) t_M (by decide))).trans xd_132
        have e137 := (k147 (g.lk M 4) (tg_ne (lo_k11_4 hL _ t_M) t_M (by decide))).trans e137
        have hu := hu.st k147 t_M (by decide)
        have hk148 : ∀ b, b ≠ M → f145 b = f136 b := fun b q0 => (k147 b q0).trans (hk144 b q0)
        refine lv_iconst (v := nI 1) hx hb d_M_closes_178 (by decide) ?_
        have hI149 := iv_1 hI140 hL t_M (by decide) hk148 (oc_11.mk t_M (⟨mth, mn, (mdr + 1), msz, mix, (mdp - 1), mwt, (mop - 1), mtp, mwa, mgi, mpc, mst, mtr, msp, mma, mlg, ((nI 0)), e146, (by omega), (by omega), (by omega), (by omega), (by omega), (by omega), (by omega), (by omega), (by omega), (by omega), (by omega), (by omega), (by omega), (by omega), (Or.inl rfl)⟩))
        have hdp : dpc (upd hQ mdr (nI 12)) (mdr + 1) = 0 := dpc_end (upd_at _ _ _) (by decide) (by decide)
        have hE : ∀ m, m ≤ mdr → dpc (upd hQ mdr (nI 12)) m = dpc hQ m := fun m hm => dpc_u hm
        have hwm : ∃ w v, WO (upd hQ mdr (nI 12)) (upd (upd hG mdr (nI b9)) t9 (nI (mdr + 1))) (dpc (upd hQ mdr (nI 12))) (mdr + 1) mdr w v := ⟨12, b9, WO_jump (upd_at _ _ _) ((upd_ne _ _ (by omega)).trans (upd_at _ _ _)) (by omega) (by rw [hE _ (by omega)]; exact zz2) ⟨by omega, fun _ => by rw [hE _ (by omega)]; exact q5⟩ (Or.inr ⟨w9, (upd_ne _ _ (by omega)).trans q6, q7, by omega⟩)⟩
        have hDI2 : DI (upd hQ mdr (nI 12)) (upd (upd hG mdr (nI b9)) t9 (nI (mdr + 1))) hB9 hK9 (mdr + 1) (mop - 1) := DI_close hDIo ht9 htn (fun x hx => upd_ne _ _ (by omega)) (fun q h1 h2 => (upd_ne _ _ h2).trans (upd_ne _ _ (by omega))) (by omega) (by omega) hdp (WO_end (w := 11) (v := mdr + 1) ((upd_ne _ _ (by omega)).trans q2) (upd_at _ _ _) (by decide) (by decide) (by omega) (fun z => absurd z (by decide)) (fun z => absurd z (by decide)) (by rw [hE _ (by omega)]; exact q8) (fun _ => ⟨by omega, by omega, fun z => absurd z (by omega)⟩)) (fun p h1 h2 => by rw [show p = mdr by omega]; exact hwm)
        have hkx := klx_t (k := hK9) (b := hB9) (show 0 < mop by omega) ht9 (by omega)
        have hat := DS_at D9 0 t9 hDS (by omega)
        rw [Nat.zero_add] at hat
        have hb9e : nI b9 = nI (D9.getD t9 (0, 0)).2 := q3.symm.trans hat.2
        exact pe_zret hx hb hr hlocks hK hP hD hS d_M_closes_179 rfl ⟨(Or.inl ⟨0, mop - 1, mdp - 1, mdr + 1, _, _, _, _, (fun i F h1 h2 h3 => by rw [py_rF, if_pos h1, if_neg (by rw [h2]; exact h3), hks]; show (if _ then _ else if _ then _ else if _ then _ else _) = _; rw [if_pos ⟨h2.trans hcc, by rw [hkk]; decide⟩]; rfl), by omega, by omega, by omega, by omega, by omega, hDI2, ⟨opt (D9 ++ [(12, (D9.getD t9 (0, 0)).2)]) t9 (D9.length + 1), (by rw [opt_len, List.length_append, List.length_singleton, hDl]), (by rw [hDl, hb9e]; exact DS_opt (DS_put hDS (by omega)) (by rw [List.length_append]; omega)), E8_put hE8 (by decide) (by decide), (fun i F h1 h2 h3 => by rw [oy_rF, if_pos h1, if_neg (by rw [h2]; exact h3), hkx]; show (if _ then _ else if _ then _ else if _ then _ else _) = _; rw [if_pos ⟨h2.trans hcc, by rw [hkk]; decide⟩]; rfl)⟩, e146, xd_132, e137, eB, eK, rfl⟩), hI149, hu⟩
  · skip
    replace b1 := (nI_eq (a := mop) (b := 0) (by omega) (by omega)).mp b1
    refine lv_iconst (v := nI 0) hx hb d_M_closes_7 (by decide) ?_
    exact pe_zret hx hb hr hlocks hK hP hD hS d_M_closes_8 rfl ⟨(Or.inr ⟨(fun i F h1 h2 h3 => by rw [py_rF, if_pos h1, if_neg (by rw [h2]; exact h3), show mop = 0 by omega]; rfl), eM, rfl⟩), hI, hu⟩

