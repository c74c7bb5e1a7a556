set_option maxHeartbeats 4000000 in
set_option maxRecDepth 100000 in
theorem m2_kindOf (l : Launch) (g : Lay) (sz : Nat) (f : Nat → va_E) (ch : Int32) (hL : LO g) (hI : OC g f) : Met l ⟨"BigRunnerModel", "kindOf", "(C)I"⟩ [Cond.code ⟨"BigRunnerModel", "kindOf", "(C)I"⟩ prog_12_method_7_code 1 (some .int)] ({ frames := 0, cells := 0, slots := 0, locals := 0 }) (va_Pc [.int ch] (pc_in g sz f)) (va_Qi (fun r f1 => (∃ k, k ≤ 6 ∧ KO ch k ∧ KO2 ch k ∧ r = nI k) ∧ (f = f1)) (pc_out g sz) (pc_A g sz)) 0 0 (pc_A g sz) := by
  refine pe_ofW (cc := prog_12_method_7_code) (maxL := 1) (ret := (some .int)) (lv := [(0, .int ch)]) (by decide) (Nat.le_of_ble_eq_true rfl) rfl ?_
  intro p e s m args below meth c ls hx hb hr hml hlocks hown hB hP hK hD hsz hS hl
  subst hsz
  refine lv_iload_n hx hb d_M_kindOf_0 rfl (lv_at hl 0 rfl) ?_
  refine lv_bipush (v := nI 43) hx hb d_M_kindOf_1 (by decide) ?_
  refine lv_icmp_ne (tgt := 10) hx hb d_M_kindOf_3 (by decide) (fun b1 => ?_) (fun b1 => ?_)
  · skip
    refine lv_iload_n hx hb d_M_kindOf_10 rfl (lv_at hl 0 rfl) ?_
    refine lv_bipush (v := nI 45) hx hb d_M_kindOf_11 (by decide) ?_
    refine lv_icmp_ne (tgt := 20) hx hb d_M_kindOf_13 (by decide) (fun b2 => ?_) (fun b2 => ?_)
    · skip
      refine lv_iload_n hx hb d_M_kindOf_20 rfl (lv_at hl 0 rfl) ?_
      refine lv_bipush (v := nI 42) hx hb d_M_kindOf_21 (by decide) ?_
      refine lv_icmp_ne (tgt := 30) hx hb d_M_kindOf_23 (by decide) (fun b3 => ?_) (fun b3 => ?_)
      · skip
        refine lv_iload_n hx hb d_M_kindOf_30 rfl (lv_at hl 0 rfl) ?_
        refine lv_bipush (v := nI 47) hx hb d_M_kindOf_31 (by decide) ?_
        refine lv_icmp_ne (tgt := 40) hx hb d_M_kindOf_33 (by decide) (fun b4 => ?_) (fun b4 => ?_)
        · skip
          refine lv_iload_n hx hb d_M_kindOf_40 rfl (lv_at hl 0 rfl) ?_
          refine lv_bipush (v := nI 37) hx hb d_M_kindOf_41 (by decide) ?_
          refine lv_icmp_ne (tgt := 51) hx hb d_M_kindOf_43 (by decide) (fun b5 => ?_) (fun b5 => ?_)
          · skip
            refine lv_iconst (v := nI 0) hx hb d_M_kindOf_51 (by decide) ?_
            exact pe_iret hx hb hr hlocks hK hP hD hS d_M_kindOf_52 ⟨⟨0, by decide, (Or.inl ⟨rfl, fun z => absurd (kc_1.mp z) (by assumption), fun z => absurd (kc_2.mp z) (by assumption), fun z => (kc_3.mp z).elim (fun y => absurd y (by assumption)) (fun y => y.elim (fun x => absurd x (by assumption)) (fun x => absurd x (by assumption)))⟩), Or.inl rfl, rfl⟩, rfl⟩
          · skip
            refine lv_bipush (v := nI 6) hx hb d_M_kindOf_46 (by decide) ?_
            refine lv_goto (tgt := 52) hx hb d_M_kindOf_48 (by decide) ?_
            exact pe_iret hx hb hr hlocks hK hP hD hS d_M_kindOf_52 ⟨⟨6, by decide, (Or.inr (Or.inr ⟨by decide, by decide, kc_3.mpr (Or.inr (Or.inr (by assumption)))⟩)), Or.inr (by rw [show ch = nI 37 by assumption]; decide), rfl⟩, rfl⟩
        · skip
          refine lv_iconst (v := nI 5) hx hb d_M_kindOf_36 (by decide) ?_
          refine lv_goto (tgt := 52) hx hb d_M_kindOf_37 (by decide) ?_
          exact pe_iret hx hb hr hlocks hK hP hD hS d_M_kindOf_52 ⟨⟨5, by decide, (Or.inr (Or.inr ⟨by decide, by decide, kc_3.mpr (Or.inr (Or.inl (by assumption)))⟩)), Or.inr (by rw [show ch = nI 47 by assumption]; decide), rfl⟩, rfl⟩
      · skip
        refine lv_iconst (v := nI 4) hx hb d_M_kindOf_26 (by decide) ?_
        refine lv_goto (tgt := 52) hx hb d_M_kindOf_27 (by decide) ?_
        exact pe_iret hx hb hr hlocks hK hP hD hS d_M_kindOf_52 ⟨⟨4, by decide, (Or.inr (Or.inr ⟨by decide, by decide, kc_3.mpr (Or.inl (by assumption))⟩)), Or.inr (by rw [show ch = nI 42 by assumption]; decide), rfl⟩, rfl⟩
    · skip
      refine lv_iconst (v := nI 3) hx hb d_M_kindOf_16 (by decide) ?_
      refine lv_goto (tgt := 52) hx hb d_M_kindOf_17 (by decide) ?_
      exact pe_iret hx hb hr hlocks hK hP hD hS d_M_kindOf_52 ⟨⟨3, by decide, (Or.inr (Or.inl ⟨by decide, by decide, Or.inr (kc_2.mpr (by assumption))⟩)), Or.inr (by rw [show ch = nI 45 by assumption]; decide), rfl⟩, rfl⟩
  · skip
    refine lv_iconst (v := nI 2) hx hb d_M_kindOf_6 (by decide) ?_
    refine lv_goto (tgt := 52) hx hb d_M_kindOf_7 (by decide) ?_
    exact pe_iret hx hb hr hlocks hK hP hD hS d_M_kindOf_52 ⟨⟨2, by decide, (Or.inr (Or.inl ⟨by decide, by decide, Or.inl (kc_1.mpr (by assumption))⟩)), Or.inr (by rw [show ch = nI 43 by assumption]; decide), rfl⟩, rfl⟩
set_option maxHeartbeats 4000000 in
set_option maxRecDepth 100000 in
theorem m2_negate (l : Launch) (g : Lay) (sz : Nat) (f : Nat → va_E) (M : Nat) (mth : Int32) (mn : Nat) (mdr : Nat) (msz : Nat) (mix : Nat) (mdp : Nat) (mwt : Nat) (mop : Nat) (mtp : Nat) (mwa : Nat) (mgi : Nat) (mpc : Nat) (mst : Nat) (mtr : Nat) (msp : Nat) (mma : Int32) (mlg : Int32) (mdu : Int32) (hQ : Nat → Int32) (hG : Nat → Int32) (hW : Nat → Int32) (n0 : Nat) (hL : LO g) (t_M : g.tg M = 11) (hI : IV g f) (eM : f M = .inr (10, [.int mth, .ref (g.lk M 1), .int (nI mn), .ref (g.lk M 3), .ref (g.lk M 4), .int (nI mdr), .ref (g.lk M 6), .ref (g.lk M 7), .ref (g.lk M 8), .int (nI msz), .int (nI mix), .int (nI mdp), .ref (g.lk M 12), .int (nI mwt), .ref (g.lk M 14), .ref (g.lk M 15), .int (nI mop), .ref (g.lk M 17), .ref (g.lk M 18), .ref (g.lk M 19), .ref (g.lk M 20), .ref (g.lk M 21), .ref (g.lk M 22), .ref (g.lk M 23), .ref (g.lk M 24), .ref (g.lk M 25), .ref (g.lk M 26), .ref (g.lk M 27), .ref (g.lk M 28), .ref (g.lk M 29), .ref (g.lk M 30), .ref (g.lk M 31), .int (nI mtp), .ref (g.lk M 33), .ref (g.lk M 34), .ref (g.lk M 35), .int (nI mwa), .int (nI mgi), .int (nI mpc), .int (nI mst), .int (nI mtr), .int (nI msp), .int mma, .int mlg, .int mdu])) (hMB : mn ≤ 72 ∧ mdr ≤ 100 ∧ msz ≤ 100 ∧ mix ≤ 100 ∧ mdp ≤ 20 ∧ mwt ≤ 72 ∧ mop ≤ 40 ∧ mtp ≤ 80 ∧ mwa ≤ 20 ∧ mgi ≤ msp ∧ mpc ≤ 100 ∧ mst ≤ 4 ∧ mtr ≤ 3 ∧ msp ≤ 3000 ∧ (mdu = 0 ∨ mdu = 1)) (eD : f (g.lk M 3) = .inl (g.ac (g.lk M 3), 100, .inl hQ)) (eG : f (g.lk M 4) = .inl (g.ac (g.lk M 4), 100, .inl hG)) (eW : f (g.lk M 12) = .inl (g.ac (g.lk M 12), 72, .inl hW)) (hsum : mdr + mwt ≤ 100) (hdp1 : 1 ≤ dpc hQ mdr) (hc48 : cbr (wll hW mwt) ≤ mdp) (hGC : GC hQ hG n0 mdr) : Met l ⟨"BigRunnerModel", "negate", "()V"⟩ [Cond.code ⟨"BigRunnerModel", "negate", "()V"⟩ prog_12_method_9_code 1 none] ({ frames := 1, cells := 0, slots := 0, locals := 22 }) (va_Pc [.ref M] (pc_in g sz f)) (va_Qv (fun f1 => (∃ (wt1 dp1 dr1 : Nat) (d1 g1 : Nat → Int32), wt1 ≤ mwt ∧ dr1 + wt1 = mdr + mwt ∧ dp1 ≤ mdp ∧ py_neg (wll hW mwt) mdp = (wll hW wt1, dp1) ∧ dp1 + cbr (wll hW mwt) = mdp + cbr (wll hW wt1) ∧ nbS (wll hW wt1) = nbS (wll hW mwt) ∧ dpc d1 dr1 = dpc hQ mdr ∧ GC d1 g1 n0 dr1 ∧ smd mdr d1 hQ ∧ smd mdr g1 hG ∧ ty_neg (wlk hW mwt) = wlk hW wt1 ∧ dr1 = mdr + (oy_neg (wlk hW mwt)).length ∧ DS d1 g1 mdr (oy_neg (wlk hW mwt)) ∧ f1 M = .inr (10, [.int mth, .ref (g.lk M 1), .int (nI mn), .ref (g.lk M 3), .ref (g.lk M 4), .int (nI dr1), .ref (g.lk M 6), .ref (g.lk M 7), .ref (g.lk M 8), .int (nI msz), .int (nI mix), .int (nI dp1), .ref (g.lk M 12), .int (nI wt1), .ref (g.lk M 14), .ref (g.lk M 15), .int (nI mop), .ref (g.lk M 17), .ref (g.lk M 18), .ref (g.lk M 19), .ref (g.lk M 20), .ref (g.lk M 21), .ref (g.lk M 22), .ref (g.lk M 23), .ref (g.lk M 24), .ref (g.lk M 25), .ref (g.lk M 26), .ref (g.lk M 27), .ref (g.lk M 28), .ref (g.lk M 29), .ref (g.lk M 30), .ref (g.lk M 31), .int (nI mtp), .ref (g.lk M 33), .ref (g.lk M 34), .ref (g.lk M 35), .int (nI mwa), .int (nI mgi), .int (nI mpc), .int (nI mst), .int (nI mtr), .int (nI msp), .int mma, .int mlg, .int mdu]) ∧ f1 (g.lk M 3) = .inl (g.ac (g.lk M 3), 100, .inl d1) ∧ f1 (g.lk M 4) = .inl (g.ac (g.lk M 4), 100, .inl g1)) ∧ (IV g f1) ∧ (un [11, 41, 42] g f f1)) (pc_out g sz) (pc_A g sz)) 0 0 (pc_A g sz) := by
  refine pe_ofW (cc := prog_12_method_9_code) (maxL := 1) (ret := none) (lv := [(0, .ref M)]) (by decide) (Nat.le_of_ble_eq_true rfl) rfl ?_
  intro p e s m args below meth c ls hx hb hr hml hlocks hown hB hP hK hD hsz hS hl
  subst hsz
  have hu : un [11, 41, 42] g f f := un.rf
  obtain ⟨hmb0, hmb1, hmb2, hmb3, hmb4, hmb5, hmb6, hmb7, hmb8, hmb9, hmb10, hmb11, hmb12, hmb13, hmb14⟩ := hMB
  have lp1 : ∀ (k3 : Nat) (t8 : Nat) (p8 : Nat) (r8 : Nat) (d8 : Nat → Int32) (g8 : Nat → Int32) (o8 : List (Nat × Nat)) (f2 : Nat → va_E) (H : Heap) (locs : List Loc) (ls : Array Slot), (t8 < k3) → (t8 ≤ mwt) → (p8 ≤ mdp) → (r8 + t8 = mdr + mwt) → (mdr ≤ r8) → (py_neg (wll hW mwt) mdp = py_neg (wll hW t8) p8) → (p8 + cbr (wll hW mwt) = mdp + cbr (wll hW t8)) → (nbS (wll hW t8) = nbS (wll hW mwt)) → (dpc d8 r8 = dpc hQ mdr) → (GC d8 g8 n0 r8) → (smd mdr d8 hQ) → (smd mdr g8 hG) → (ty_neg (wlk hW mwt) = ty_neg (wlk hW t8)) → (oy_neg (wlk hW mwt) = o8 ++ oy_neg (wlk hW t8)) → (DS d8 g8 mdr o8) → (r8 = mdr + o8.length) → f2 M = .inr (10, [.int mth, .ref (g.lk M 1), .int (nI mn), .ref (g.lk M 3), .ref (g.lk M 4), .int (nI r8), .ref (g.lk M 6), .ref (g.lk M 7), .ref (g.lk M 8), .int (nI msz), .int (nI mix), .int (nI p8), .ref (g.lk M 12), .int (nI t8), .ref (g.lk M 14), .ref (g.lk M 15), .int (nI mop), .ref (g.lk M 17), .ref (g.lk M 18), .ref (g.lk M 19), .ref (g.lk M 20), .ref (g.lk M 21), .ref (g.lk M 22), .ref (g.lk M 23), .ref (g.lk M 24), .ref (g.lk M 25), .ref (g.lk M 26), .ref (g.lk M 27), .ref (g.lk M 28), .ref (g.lk M 29), .ref (g.lk M 30), .ref (g.lk M 31), .int (nI mtp), .ref (g.lk M 33), .ref (g.lk M 34), .ref (g.lk M 35), .int (nI mwa), .int (nI mgi), .int (nI mpc), .int (nI mst), .int (nI mtr), .int (nI msp), .int mma, .int mlg, .int mdu]) → f2 (g.lk M 3) = .inl (g.ac (g.lk M 3), 100, .inl (d8)) → f2 (g.lk M 4) = .inl (g.ac (g.lk M 4), 100, .inl (g8)) → IV g f2 → un [11, 41, 42] g f f2 → lv_has ls 1 [(0, .ref M)] → va_P g.D vcl (va_pl g.LP f2) H → va_D (pc_A g s.heap.size) (va_pl g.LP f2) → va_S (pc_A g s.heap.size) s.heap H locs → W p l e ({ frames := 1, cells := 0, slots := 0, locals := 22 }) s m args below meth c H locs 0 0 (MQ below (va_Qv (fun f1 => (∃ (wt1 dp1 dr1 : Nat) (d1 g1 : Nat → Int32), wt1 ≤ mwt ∧ dr1 + wt1 = mdr + mwt ∧ dp1 ≤ mdp ∧ py_neg (wll hW mwt) mdp = (wll hW wt1, dp1) ∧ dp1 + cbr (wll hW mwt) = mdp + cbr (wll hW wt1) ∧ nbS (wll hW wt1) = nbS (wll hW mwt) ∧ dpc d1 dr1 = dpc hQ mdr ∧ GC d1 g1 n0 dr1 ∧ smd mdr d1 hQ ∧ smd mdr g1 hG ∧ ty_neg (wlk hW mwt) = wlk hW wt1 ∧ dr1 = mdr + (oy_neg (wlk hW mwt)).length ∧ DS d1 g1 mdr (oy_neg (wlk hW mwt)) ∧ f1 M = .inr (10, [.int mth, .ref (g.lk M 1), .int (nI mn), .ref (g.lk M 3), .ref (g.lk M 4), .int (nI dr1), .ref (g.lk M 6), .ref (g.lk M 7), .ref (g.lk M 8), .int (nI msz), .int (nI mix), .int (nI dp1), .ref (g.lk M 12), .int (nI wt1), .ref (g.lk M 14), .ref (g.lk M 15), .int (nI mop), .ref (g.lk M 17), .ref (g.lk M 18), .ref (g.lk M 19), .ref (g.lk M 20), .ref (g.lk M 21), .ref (g.lk M 22), .ref (g.lk M 23), .ref (g.lk M 24), .ref (g.lk M 25), .ref (g.lk M 26), .ref (g.lk M 27), .ref (g.lk M 28), .ref (g.lk M 29), .ref (g.lk M 30), .ref (g.lk M 31), .int (nI mtp), .ref (g.lk M 33), .ref (g.lk M 34), .ref (g.lk M 35), .int (nI mwa), .int (nI mgi), .int (nI mpc), .int (nI mst), .int (nI mtr), .int (nI msp), .int mma, .int mlg, .int mdu]) ∧ f1 (g.lk M 3) = .inl (g.ac (g.lk M 3), 100, .inl d1) ∧ f1 (g.lk M 4) = .inl (g.ac (g.lk M 4), 100, .inl g1)) ∧ (IV g f1) ∧ (un [11, 41, 42] g f f1)) (pc_out g s.heap.size) (pc_A g s.heap.size)) args s 0 0 (pc_A g s.heap.size)) (F0 m 0 ls []) := by
    intro k3
    induction k3 with
    | zero => intros; exfalso; omega
    | succ k3 ih4 =>
      intro t8 p8 r8 d8 g8 o8 f2 H locs ls hfu5 ht8 hp8 hr8 hr9 hpy hc8 hnb hdc hgc hsd hsg hty hoy hds hro e6 e7 e8 hI9 hv10 hl hP hD hS
      have eW := hv10.at (lo_k11_12 hL _ t_M) (by decide) eW
      have hu := hu.tr hv10 (by decide)
      refine lv_aload_n hx hb d_M_negate_0 rfl (lv_at hl 0 rfl) ?_
      refine pf_get (v := .int (nI t8)) (C := "BigRunnerModel") (T := FT10) (N := 45) hx hb (hw10 hB _) (fun _ h9 => h9) hown hK hP (lo_in hL t_M (by decide)) e6 rfl 13 (by decide) (wd_960 hB _) rfl d_M_negate_1 ?_
      refine lv_if_le (tgt := 53) hx hb d_M_negate_4 (by decide) (fun b11 => ?_) (fun b11 => ?_)
      · skip
        replace b11 := (nI_leI (a := t8) (b := 0) (by omega) (by omega)).mp b11
        have hne := (show oy_neg (wlk hW t8) = [] ∧ ty_neg (wlk hW t8) = wlk hW t8 by rw [show t8 = 0 by omega]; exact ⟨rfl, rfl⟩)
        have hoe : oy_neg (wlk hW mwt) = o8 := hoy.trans (by rw [hne.1, List.append_nil])
        exact pe_vret hx hb hr hlocks hK hP hD hS d_M_negate_53 ⟨⟨t8, p8, r8, _, _, ht8, hr8, hp8, (hpy.trans (by rw [show t8 = 0 by omega]; rfl)), hc8, hnb, hdc, hgc, hsd, hsg, hty.trans hne.2, (by rw [hoe]; exact hro), (by rw [hoe]; exact hds), e6, e7, e8⟩, hI9, hu⟩
      · skip
        replace b11 := mt (nI_leI (a := t8) (b := 0) (by omega) (by omega)).mpr b11
        have hws2 := wlk_s hW (show 0 < t8 by omega)
        have hws := wll_s hW (show 0 < t8 by omega)
        refine lv_aload_n hx hb d_M_negate_7 rfl (lv_at hl 0 rfl) ?_
        refine pf_get (v := .ref (g.lk M 12)) (C := "BigRunnerModel") (T := FT10) (N := 45) hx hb (hw10 hB _) (fun _ h9 => h9) hown hK hP (lo_in hL t_M (by decide)) e6 rfl 12 (by decide) (wd_959 hB _) rfl d_M_negate_8 ?_
        refine lv_aload_n hx hb d_M_negate_11 rfl (lv_at hl 0 rfl) ?_
        refine pf_get (v := .int (nI t8)) (C := "BigRunnerModel") (T := FT10) (N := 45) hx hb (hw10 hB _) (fun _ h9 => h9) hown hK hP (lo_in hL t_M (by decide)) e6 rfl 13 (by decide) (wd_960 hB _) rfl d_M_negate_12 ?_
        refine lv_iconst (v := nI 1) hx hb d_M_negate_15 (by decide) ?_
        refine pf_isubN (x := t8) (y := 1) hx hb (by omega) d_M_negate_16 ?_
        refine pf_cald (i := t8 - 1) hx hb hK hP (lo_in hL (lo_k11_12 hL _ t_M) (by decide)) eW (lo_t46 hL _ (lo_k11_12 hL _ t_M)) (by omega) (by decide) d_M_negate_17 ?_
        refine lv_bipush (v := nI 117) hx hb d_M_negate_18 (by decide) ?_
        refine lv_icmp_ne (tgt := 53) hx hb d_M_negate_20 (by decide) (fun b12 => ?_) (fun b12 => ?_)
        · skip
          have hne := (show oy_neg (wlk hW t8) = [] ∧ ty_neg (wlk hW t8) = wlk hW t8 by rw [hws2]; exact oyn_n (fun z => b12 (wkk_8 z)))
          have hoe : oy_neg (wlk hW mwt) = o8 := hoy.trans (by rw [hne.1, List.append_nil])
          exact pe_vret hx hb hr hlocks hK hP hD hS d_M_negate_53 ⟨⟨t8, p8, r8, _, _, ht8, hr8, hp8, (hpy.trans (by rw [hws]; exact neg_n (fun z => b12 (wcc_8 z)))), hc8, hnb, hdc, hgc, hsd, hsg, hty.trans hne.2, (by rw [hoe]; exact hro), (by rw [hoe]; exact hds), e6, e7, e8⟩, hI9, hu⟩
        · skip
          have hwk8 : wlk hW t8 = 8 :: wlk hW (t8 - 1) := by rw [hws2, b12]; rfl
          have hw8 : wcc (hW (t8 - 1)) = 8 := by rw [b12]; decide
          have hws8 : wll hW t8 = 8 :: wll hW (t8 - 1) := by rw [hws, hw8]
          have hp1 : 1 ≤ p8 := by rw [hws8, cbr_c, if_pos (Or.inr rfl)] at hc8; omega
          refine lv_aload_n hx hb d_M_negate_23 rfl (lv_at hl 0 rfl) ?_
          refine lv_dup hx hb d_M_negate_24 rfl ?_
          refine pf_get (v := .int (nI t8)) (C := "BigRunnerModel") (T := FT10) (N := 45) hx hb (hw10 hB _) (fun _ h9 => h9) hown hK hP (lo_in hL t_M (by decide)) e6 rfl 13 (by decide) (wd_960 hB _) rfl d_M_negate_25 ?_
          refine lv_iconst (v := nI 1) hx hb d_M_negate_28 (by decide) ?_
          refine pf_isubN (x := t8) (y := 1) hx hb (by omega) d_M_negate_29 ?_
          refine pf_put (v := .int (nI (t8 - 1))) (ty := .int) (fs' := [.int mth, .ref (g.lk M 1), .int (nI mn), .ref (g.lk M 3), .ref (g.lk M 4), .int (nI r8), .ref (g.lk M 6), .ref (g.lk M 7), .ref (g.lk M 8), .int (nI msz), .int (nI mix), .int (nI p8), .ref (g.lk M 12), .int (nI (t8 - 1)), .ref (g.lk M 14), .ref (g.lk M 15), .int (nI mop), .ref (g.lk M 17), .ref (g.lk M 18), .ref (g.lk M 19), .ref (g.lk M 20), .ref (g.lk M 21), .ref (g.lk M 22), .ref (g.lk M 23), .ref (g.lk M 24), .ref (g.lk M 25), .ref (g.lk M 26), .ref (g.lk M 27), .ref (g.lk M 28), .ref (g.lk M 29), .ref (g.lk M 30), .ref (g.lk M 31), .int (nI mtp), .ref (g.lk M 33), .ref (g.lk M 34), .ref (g.lk M 35), .int (nI mwa), .int (nI mgi), .int (nI mpc), .int (nI mst), .int (nI mtr), .int (nI msp), .int mma, .int mlg, .int mdu]) (C := "BigRunnerModel") (T := FT10) (N := 45) hx hb (hw10 hB _) (fun _ h9 => h9) TY10 ok10 nm10 hown hK hP hD hS (lo_in hL t_M (by decide)) e6 rfl 13 (by decide) (wd_960 hB _) rfl (by decide +kernel) rfl rfl (Nat.le_of_ble_eq_true rfl) rfl d_M_negate_30 (fun f13 H locs e14 k15 hP hD hS => ?_)
          have eW := (k15 (g.lk M 12) (tg_ne (lo_k11_12 hL _ t_M) t_M (by decide))).trans eW
          have e7 := (k15 (g.lk M 3) (tg_ne (lo_k11_3 hL _ t_M) t_M (by decide))).trans e7
          have e8 := (k15 (g.lk M 4) (tg_ne (lo_k11_4 hL _ t_M) t_M (by decide))).trans e8
          have hu := hu.st k15 t_M (by decide)
          have hv10 := hv10.st k15 t_M (by decide)
          have hk16 : ∀ b, b ≠ M → f13 b = f2 b := k15
          refine lv_aload_n hx hb d_M_negate_33 rfl (lv_at hl 0 rfl) ?_
          refine lv_dup hx hb d_M_negate_34 rfl ?_
          refine pf_get (v := .int (nI p8)) (C := "BigRunnerModel") (T := FT10) (N := 45) hx hb (hw10 hB _) (fun _ h9 => h9) hown hK hP (lo_in hL t_M (by decide)) e14 rfl 11 (by decide) (wd_958 hB _) rfl d_M_negate_35 ?_
          refine lv_iconst (v := nI 1) hx hb d_M_negate_38 (by decide) ?_
          refine pf_isubN (x := p8) (y := 1) hx hb (by omega) d_M_negate_39 ?_
          refine pf_put (v := .int (nI (p8 - 1))) (ty := .int) (fs' := [.int mth, .ref (g.lk M 1), .int (nI mn), .ref (g.lk M 3), .ref (g.lk M 4), .int (nI r8), .ref (g.lk M 6), .ref (g.lk M 7), .ref (g.lk M 8), .int (nI msz), .int (nI mix), .int (nI (p8 - 1)), .ref (g.lk M 12), .int (nI (t8 - 1)), .ref (g.lk M 14), .ref (g.lk M 15), .int (nI mop), .ref (g.lk M 17), .ref (g.lk M 18), .ref (g.lk M 19), .ref (g.lk M 20), .ref (g.lk M 21), .ref (g.lk M 22), .ref (g.lk M 23), .ref (g.lk M 24), .ref (g.lk M 25), .ref (g.lk M 26), .ref (g.lk M 27), .ref (g.lk M 28), .ref (g.lk M 29), .ref (g.lk M 30), .ref (g.lk M 31), .int (nI mtp), .ref (g.lk M 33), .ref (g.lk M 34), .ref (g.lk M 35), .int (nI mwa), .int (nI mgi), .int (nI mpc), .int (nI mst), .int (nI mtr), .int (nI msp), .int mma, .int mlg, .int mdu]) (C := "BigRunnerModel") (T := FT10) (N := 45) hx hb (hw10 hB _) (fun _ h9 => h9) TY10 ok10 nm10 hown hK hP hD hS (lo_in hL t_M (by decide)) e14 rfl 11 (by decide) (wd_958 hB _) rfl (by decide +kernel) rfl rfl (Nat.le_of_ble_eq_true rfl) rfl d_M_negate_40 (fun f17 H locs e18 k19 hP hD hS => ?_)
          have eW := (k19 (g.lk M 12) (tg_ne (lo_k11_12 hL _ t_M) t_M (by decide))).trans eW
          have e7 := (k19 (g.lk M 3) (tg_ne (lo_k11_3 hL _ t_M) t_M (by decide))).trans e7
          have e8 := (k19 (g.lk M 4) (tg_ne (lo_k11_4 hL _ t_M) t_M (by decide))).trans e8
          have hu := hu.st k19 t_M (by decide)
          have hv10 := hv10.st k19 t_M (by decide)
          have hk20 : ∀ b, b ≠ M → f17 b = f2 b := fun b q0 => (k19 b q0).trans (hk16 b q0)
          refine lv_aload_n hx hb d_M_negate_43 rfl (lv_at hl 0 rfl) ?_
          refine lv_bipush (v := nI 7) hx hb d_M_negate_44 (by decide) ?_
          refine lv_iconst (v := nI 0) hx hb d_M_negate_46 (by decide) ?_
          have hI21 := iv_1 hI9 hL t_M (by decide) hk20 (oc_11.mk t_M (⟨mth, mn, r8, msz, mix, (p8 - 1), (t8 - 1), mop, mtp, mwa, mgi, mpc, mst, mtr, msp, mma, mlg, mdu, e18, (by omega), (by omega), (by omega), (by omega), (by omega), (by omega), (by omega), (by omega), (by omega), (by omega), (by omega), (by omega), (by omega), (by omega), hmb14⟩))
          refine pcc_v (va_runV (C := "BigRunnerModel") (As := [.int (nI 7), .int (nI 0)]) (rest := []) ⟨hx, hb, hml, hown, tb_nil⟩ (m_put l g H.size f17 M mth mn r8 msz mix ((p8 - 1)) ((t8 - 1)) mop mtp mwa mgi mpc mst mtr msp mma mlg mdu d8 g8 7 ((nI 0)) hL t_M hI21 e18 ⟨(by omega), (by omega), (by omega), (by omega), (by omega), (by omega), (by omega), (by omega), (by omega), (by omega), (by omega), (by omega), (by omega), (by omega), hmb14⟩ e7 e8 (by omega)) ⟨(callB_of 2 (tb_one (wd_1115 hB _)) tb_good1 rfl rfl rfl (wd_82 hB _) (wd_1112 hB _) (by decide +kernel) ⟨Nat.le_of_ble_eq_true rfl, Nat.le_of_ble_eq_true rfl⟩), (wd_1114 hB _), (wd_44 hB _)⟩ ⟨pe_bl, pg_recv (ci := 10) hK hP (lo_in hL t_M (by decide)) e18 rfl, pe_pre hB hK hP hD⟩ rfl rfl hl.1 rfl (lv_room (Nat.le_of_ble_eq_true rfl)) d_M_negate_47 ⟨Nat.le_of_ble_eq_true rfl, Nat.le_of_ble_eq_true rfl⟩) hS (fun f23 H locs hq24 hP hD hS => ?_)
          obtain ⟨x1_25, xd_26, xg_27, hI1_28, hu1_29⟩ := hq24
          have hu := hu.tr hu1_29 (by decide)
          have hv10 := hv10.tr hu1_29 (by decide)
          have eW := hu1_29.at (lo_k11_12 hL _ t_M) (by decide) eW
          refine lv_goto (tgt := 0) hx hb d_M_negate_50 (by decide) ?_
          exact ih4 (t8 - 1) (p8 - 1) (r8 + 1) (upd d8 r8 (nI 7)) (upd g8 r8 (nI 0)) (o8 ++ [(7, 0)]) f23 H locs ls (by omega) (by omega) (by omega) (by omega) (by omega) (hpy.trans (by rw [hws8, neg_8])) (by rw [hws8, cbr_c, if_pos (Or.inr rfl)] at hc8; omega) (by rw [← hnb, hws8, nbS_c, if_pos (Or.inr rfl)]; omega) (by rw [dpc_s (by decide)]; exact hdc) (GC_put hgc (by decide) (by decide) (fun z => absurd z (by decide)) (fun _ => by rw [hdc]; exact hdp1) (fun _ z => absurd z (by decide))) (smd_u hsd hr9) (smd_u hsg hr9) (hty.trans (by rw [hwk8, tyn_8])) (hoy.trans (by rw [hwk8, oyn_8, List.append_assoc]; rfl)) (DS_put hds hro) (by rw [List.length_append, List.length_singleton]; omega) x1_25 xd_26 xg_27 hI1_28 hv10 hl hP hD hS
  exact lp1 (mwt + 1) mwt mdp mdr hQ hG ([]) f s.heap [] ls (by omega) (by omega) (by omega) (by omega) (by omega) rfl rfl rfl rfl hGC smd_rf smd_rf rfl rfl trivial rfl eM eD eG hI un.rf hl hP hD hS
set_option maxHeartbeats 4000000 in
set_option maxRecDepth 100000 in
theorem m2_release (l : Launch) (g : Lay) (sz : Nat) (f : Nat → va_E) (M : Nat) (mth : Int32) (mn : Nat) (mdr : Nat) (msz : Nat) (mix : Nat) (mdp : Nat) (mwt : Nat) (mop : Nat) (mtp : Nat) (mwa : Nat) (mgi : Nat) (mpc : Nat) (mst : Nat) (mtr : Nat) (msp : Nat) (mma : Int32) (mlg : Int32) (mdu : Int32) (hQ : Nat → Int32) (hG : Nat → Int32) (hW : Nat → Int32) (n0 : Nat) (b9 : Nat) (hL : LO g) (t_M : g.tg M = 11) (hI : IV g f) (eM : f M = .inr (10, [.int mth, .ref (g.lk M 1), .int (nI mn), .ref (g.lk M 3), .ref (g.lk M 4), .int (nI mdr), .ref (g.lk M 6), .ref (g.lk M 7), .ref (g.lk M 8), .int (nI msz), .int (nI mix), .int (nI mdp), .ref (g.lk M 12), .int (nI mwt), .ref (g.lk M 14), .ref (g.lk M 15), .int (nI mop), .ref (g.lk M 17), .ref (g.lk M 18), .ref (g.lk M 19), .ref (g.lk M 20), .ref (g.lk M 21), .ref (g.lk M 22), .ref (g.lk M 23), .ref (g.lk M 24), .ref (g.lk M 25), .ref (g.lk M 26), .ref (g.lk M 27), .ref (g.lk M 28), .ref (g.lk M 29), .ref (g.lk M 30), .ref (g.lk M 31), .int (nI mtp), .ref (g.lk M 33), .ref (g.lk M 34), .ref (g.lk M 35), .int (nI mwa), .int (nI mgi), .int (nI mpc), .int (nI mst), .int (nI mtr), .int (nI msp), .int mma, .int mlg, .int mdu])) (hMB : mn ≤ 72 ∧ mdr ≤ 100 ∧ msz ≤ 100 ∧ mix ≤ 100 ∧ mdp ≤ 20 ∧ mwt ≤ 72 ∧ mop ≤ 40 ∧ mtp ≤ 80 ∧ mwa ≤ 20 ∧ mgi ≤ msp ∧ mpc ≤ 100 ∧ mst ≤ 4 ∧ mtr ≤ 3 ∧ msp ≤ 3000 ∧ (mdu = 0 ∨ mdu = 1)) (eD : f (g.lk M 3) = .inl (g.ac (g.lk M 3), 100, .inl hQ)) (eG : f (g.lk M 4) = .inl (g.ac (g.lk M 4), 100, .inl hG)) (eW : f (g.lk M 12) = .inl (g.ac (g.lk M 12), 72, .inl hW)) (hb9 : b9 ≤ 2) (hsum : mdr + mwt ≤ 100) (hdp1 : dpc hQ mdr = nbS (wll hW mwt) + 1) (hn8 : n8 (wll hW mwt)) (hok : OKW hW mwt) (hGC : GC hQ hG n0 mdr) : Met l ⟨"BigRunnerModel", "release", "(I)V"⟩ [Cond.code ⟨"BigRunnerModel", "release", "(I)V"⟩ prog_12_method_8_code 2 none] ({ frames := 1, cells := 0, slots := 0, locals := 22 }) (va_Pc [.ref M, .int (nI b9)] (pc_in g sz f)) (va_Qv (fun f1 => (∃ (wt1 dr1 : Nat) (d1 g1 : Nat → Int32), wt1 ≤ mwt ∧ dr1 + wt1 = mdr + mwt ∧ wll hW wt1 = py_rel b9 (wll hW mwt) ∧ n8 (wll hW wt1) ∧ cbr (wll hW wt1) = cbr (wll hW mwt) ∧ dpc d1 dr1 = nbS (wll hW wt1) + 1 ∧ GC d1 g1 n0 dr1 ∧ smd mdr d1 hQ ∧ smd mdr g1 hG ∧ wlk hW wt1 = ty_rel b9 (wlk hW mwt) ∧ dr1 = mdr + (oy_rel b9 (wlk hW mwt)).length ∧ DS d1 g1 mdr (oy_rel b9 (wlk hW mwt)) ∧ f1 M = .inr (10, [.int mth, .ref (g.lk M 1), .int (nI mn), .ref (g.lk M 3), .ref (g.lk M 4), .int (nI dr1), .ref (g.lk M 6), .ref (g.lk M 7), .ref (g.lk M 8), .int (nI msz), .int (nI mix), .int (nI mdp), .ref (g.lk M 12), .int (nI wt1), .ref (g.lk M 14), .ref (g.lk M 15), .int (nI mop), .ref (g.lk M 17), .ref (g.lk M 18), .ref (g.lk M 19), .ref (g.lk M 20), .ref (g.lk M 21), .ref (g.lk M 22), .ref (g.lk M 23), .ref (g.lk M 24), .ref (g.lk M 25), .ref (g.lk M 26), .ref (g.lk M 27), .ref (g.lk M 28), .ref (g.lk M 29), .ref (g.lk M 30), .ref (g.lk M 31), .int (nI mtp), .ref (g.lk M 33), .ref (g.lk M 34), .ref (g.lk M 35), .int (nI mwa), .int (nI mgi), .int (nI mpc), .int (nI mst), .int (nI mtr), .int (nI msp), .int mma, .int mlg, .int mdu]) ∧ f1 (g.lk M 3) = .inl (g.ac (g.lk M 3), 100, .inl d1) ∧ f1 (g.lk M 4) = .inl (g.ac (g.lk M 4), 100, .inl g1)) ∧ (IV g f1) ∧ (un [11, 41, 42] g f f1)) (pc_out g sz) (pc_A g sz)) 0 0 (pc_A g sz) := by
  refine pe_ofW (cc := prog_12_method_8_code) (maxL := 2) (ret := none) (lv := [(0, .ref M), (1, .int (nI b9))]) (by decide) (Nat.le_of_ble_eq_true rfl) rfl ?_
  intro p e s m args below meth c ls hx hb hr hml hlocks hown hB hP hK hD hsz hS hl
  subst hsz
  have hu : un [11, 41, 42] g f f := un.rf
  obtain ⟨hmb0, hmb1, hmb2, hmb3, hmb4, hmb5, hmb6, hmb7, hmb8, hmb9, hmb10, hmb11, hmb12, hmb13, hmb14⟩ := hMB
  have lp1 : ∀ (k3 : Nat) (t8 : Nat) (r8 : Nat) (d8 : Nat → Int32) (g8 : Nat → Int32) (o8 : List (Nat × Nat)) (f2 : Nat → va_E) (H : Heap) (locs : List Loc) (ls : Array Slot), (t8 < k3) → (t8 ≤ mwt) → (r8 + t8 = mdr + mwt) → (mdr ≤ r8) → (py_rel b9 (wll hW mwt) = py_rel b9 (wll hW t8)) → (n8 (wll hW t8)) → (cbr (wll hW t8) = cbr (wll hW mwt)) → (dpc d8 r8 = nbS (wll hW t8) + 1) → (GC d8 g8 n0 r8) → (smd mdr d8 hQ) → (smd mdr g8 hG) → (ty_rel b9 (wlk hW mwt) = ty_rel b9 (wlk hW t8)) → (oy_rel b9 (wlk hW mwt) = o8 ++ oy_rel b9 (wlk hW t8)) → (DS d8 g8 mdr o8) → (r8 = mdr + o8.length) → f2 M = .inr (10, [.int mth, .ref (g.lk M 1), .int (nI mn), .ref (g.lk M 3), .ref (g.lk M 4), .int (nI r8), .ref (g.lk M 6), .ref (g.lk M 7), .ref (g.lk M 8), .int (nI msz), .int (nI mix), .int (nI mdp), .ref (g.lk M 12), .int (nI t8), .ref (g.lk M 14), .ref (g.lk M 15), .int (nI mop), .ref (g.lk M 17), .ref (g.lk M 18), .ref (g.lk M 19), .ref (g.lk M 20), .ref (g.lk M 21), .ref (g.lk M 22), .ref (g.lk M 23), .ref (g.lk M 24), .ref (g.lk M 25), .ref (g.lk M 26), .ref (g.lk M 27), .ref (g.lk M 28), .ref (g.lk M 29), .ref (g.lk M 30), .ref (g.lk M 31), .int (nI mtp), .ref (g.lk M 33), .ref (g.lk M 34), .ref (g.lk M 35), .int (nI mwa), .int (nI mgi), .int (nI mpc), .int (nI mst), .int (nI mtr), .int (nI msp), .int mma, .int mlg, .int mdu]) → f2 (g.lk M 3) = .inl (g.ac (g.lk M 3), 100, .inl (d8)) → f2 (g.lk M 4) = .inl (g.ac (g.lk M 4), 100, .inl (g8)) → IV g f2 → un [11, 41, 42] g f f2 → lv_has ls 2 [(0, .ref M), (1, .int (nI b9))] → va_P g.D vcl (va_pl g.LP f2) H → va_D (pc_A g s.heap.size) (va_pl g.LP f2) → va_S (pc_A g s.heap.size) s.heap H locs → W p l e ({ frames := 1, cells := 0, slots := 0, locals := 22 }) s m args below meth c H locs 0 0 (MQ below (va_Qv (fun f1 => (∃ (wt1 dr1 : Nat) (d1 g1 : Nat → Int32), wt1 ≤ mwt ∧ dr1 + wt1 = mdr + mwt ∧ wll hW wt1 = py_rel b9 (wll hW mwt) ∧ n8 (wll hW wt1) ∧ cbr (wll hW wt1) = cbr (wll hW mwt) ∧ dpc d1 dr1 = nbS (wll hW wt1) + 1 ∧ GC d1 g1 n0 dr1 ∧ smd mdr d1 hQ ∧ smd mdr g1 hG ∧ wlk hW wt1 = ty_rel b9 (wlk hW mwt) ∧ dr1 = mdr + (oy_rel b9 (wlk hW mwt)).length ∧ DS d1 g1 mdr (oy_rel b9 (wlk hW mwt)) ∧ f1 M = .inr (10, [.int mth, .ref (g.lk M 1), .int (nI mn), .ref (g.lk M 3), .ref (g.lk M 4), .int (nI dr1), .ref (g.lk M 6), .ref (g.lk M 7), .ref (g.lk M 8), .int (nI msz), .int (nI mix), .int (nI mdp), .ref (g.lk M 12), .int (nI wt1), .ref (g.lk M 14), .ref (g.lk M 15), .int (nI mop), .ref (g.lk M 17), .ref (g.lk M 18), .ref (g.lk M 19), .ref (g.lk M 20), .ref (g.lk M 21), .ref (g.lk M 22), .ref (g.lk M 23), .ref (g.lk M 24), .ref (g.lk M 25), .ref (g.lk M 26), .ref (g.lk M 27), .ref (g.lk M 28), .ref (g.lk M 29), .ref (g.lk M 30), .ref (g.lk M 31), .int (nI mtp), .ref (g.lk M 33), .ref (g.lk M 34), .ref (g.lk M 35), .int (nI mwa), .int (nI mgi), .int (nI mpc), .int (nI mst), .int (nI mtr), .int (nI msp), .int mma, .int mlg, .int mdu]) ∧ f1 (g.lk M 3) = .inl (g.ac (g.lk M 3), 100, .inl d1) ∧ f1 (g.lk M 4) = .inl (g.ac (g.lk M 4), 100, .inl g1)) ∧ (IV g f1) ∧ (un [11, 41, 42] g f f1)) (pc_out g s.heap.size) (pc_A g s.heap.size)) args s 0 0 (pc_A g s.heap.size)) (F0 m 0 ls []) := by
    intro k3
    induction k3 with
    | zero => intros; exfalso; omega
    | succ k3 ih4 =>
      intro t8 r8 d8 g8 o8 f2 H locs ls hfu5 ht8 hr8 hr9 hpy hn8a hc8 hdc hgc hsd hsg hty hoy hds hro e6 e7 e8 hI9 hv10 hl hP hD hS
      have eW := hv10.at (lo_k11_12 hL _ t_M) (by decide) eW
      have hu := hu.tr hv10 (by decide)
      refine lv_aload_n hx hb d_M_release_0 rfl (lv_at hl 0 rfl) ?_
      refine pf_get (v := .int (nI t8)) (C := "BigRunnerModel") (T := FT10) (N := 45) hx hb (hw10 hB _) (fun _ h9 => h9) hown hK hP (lo_in hL t_M (by decide)) e6 rfl 13 (by decide) (wd_960 hB _) rfl d_M_release_1 ?_
      refine lv_if_le (tgt := 80) hx hb d_M_release_4 (by decide) (fun b11 => ?_) (fun b11 => ?_)
      · skip
        replace b11 := (nI_leI (a := t8) (b := 0) (by omega) (by omega)).mp b11
        have hne := (show ty_rel b9 (wlk hW t8) = wlk hW t8 ∧ oy_rel b9 (wlk hW t8) = [] by rw [show t8 = 0 by omega]; exact ⟨rfl, rfl⟩)
        have hoe : oy_rel b9 (wlk hW mwt) = o8 := hoy.trans (by rw [hne.2, List.append_nil])
        exact pe_vret hx hb hr hlocks hK hP hD hS d_M_release_80 ⟨⟨t8, r8, _, _, ht8, hr8, (by rw [hpy, show t8 = 0 by omega]; rfl), hn8a, hc8, hdc, hgc, hsd, hsg, (hty.trans hne.1).symm, (by rw [hoe]; exact hro), (by rw [hoe]; exact hds), e6, e7, e8⟩, hI9, hu⟩
      · skip
        replace b11 := mt (nI_leI (a := t8) (b := 0) (by omega) (by omega)).mpr b11
        have hws := wll_s hW (show 0 < t8 by omega)
        refine lv_aload_n hx hb d_M_release_7 rfl (lv_at hl 0 rfl) ?_
        refine pf_get (v := .ref (g.lk M 12)) (C := "BigRunnerModel") (T := FT10) (N := 45) hx hb (hw10 hB _) (fun _ h9 => h9) hown hK hP (lo_in hL t_M (by decide)) e6 rfl 12 (by decide) (wd_959 hB _) rfl d_M_release_8 ?_
        refine lv_aload_n hx hb d_M_release_11 rfl (lv_at hl 0 rfl) ?_
        refine pf_get (v := .int (nI t8)) (C := "BigRunnerModel") (T := FT10) (N := 45) hx hb (hw10 hB _) (fun _ h9 => h9) hown hK hP (lo_in hL t_M (by decide)) e6 rfl 13 (by decide) (wd_960 hB _) rfl d_M_release_12 ?_
        refine lv_iconst (v := nI 1) hx hb d_M_release_15 (by decide) ?_
        refine pf_isubN (x := t8) (y := 1) hx hb (by omega) d_M_release_16 ?_
        refine pf_cald (i := t8 - 1) hx hb hK hP (lo_in hL (lo_k11_12 hL _ t_M) (by decide)) eW (lo_t46 hL _ (lo_k11_12 hL _ t_M)) (by omega) (by decide) d_M_release_17 ?_
        refine lv_bipush (v := nI 40) hx hb d_M_release_18 (by decide) ?_
        refine lv_icmp_eq (tgt := 80) hx hb d_M_release_20 (by decide) (fun b12 => ?_) (fun b12 => ?_)
        · skip
          have hne := (ryl_40 (b := b9) (h := hW) (n := t8) (by omega) b12)
          have hoe : oy_rel b9 (wlk hW mwt) = o8 := hoy.trans (by rw [hne.2, List.append_nil])
          exact pe_vret hx hb hr hlocks hK hP hD hS d_M_release_80 ⟨⟨t8, r8, _, _, ht8, hr8, (hpy.trans (rel_40 (by omega) b12)).symm, hn8a, hc8, hdc, hgc, hsd, hsg, (hty.trans hne.1).symm, (by rw [hoe]; exact hro), (by rw [hoe]; exact hds), e6, e7, e8⟩, hI9, hu⟩
        · skip
          have hn84 : wcc (hW (t8 - 1)) ≠ 4 := fun z => b12 (wcc_4 z)
          have hn88 := n8_top (show n8 (wcc (hW (t8 - 1)) :: wll hW (t8 - 1)) by rw [← hws]; exact hn8a) hn84
          have hn8b := hn88.2
          refine lv_aload_n hx hb d_M_release_23 rfl (lv_at hl 0 rfl) ?_
          refine pf_get (v := .ref (g.lk M 12)) (C := "BigRunnerModel") (T := FT10) (N := 45) hx hb (hw10 hB _) (fun _ h9 => h9) hown hK hP (lo_in hL t_M (by decide)) e6 rfl 12 (by decide) (wd_959 hB _) rfl d_M_release_24 ?_
          refine lv_aload_n hx hb d_M_release_27 rfl (lv_at hl 0 rfl) ?_
          refine pf_get (v := .int (nI t8)) (C := "BigRunnerModel") (T := FT10) (N := 45) hx hb (hw10 hB _) (fun _ h9 => h9) hown hK hP (lo_in hL t_M (by decide)) e6 rfl 13 (by decide) (wd_960 hB _) rfl d_M_release_28 ?_
          refine lv_iconst (v := nI 1) hx hb d_M_release_31 (by decide) ?_
          refine pf_isubN (x := t8) (y := 1) hx hb (by omega) d_M_release_32 ?_
          refine pf_cald (i := t8 - 1) hx hb hK hP (lo_in hL (lo_k11_12 hL _ t_M) (by decide)) eW (lo_t46 hL _ (lo_k11_12 hL _ t_M)) (by omega) (by decide) d_M_release_33 ?_
          refine pcc_i (va_runS (As := [.int (hW (t8 - 1))]) (rest := []) ⟨hx, hb, hml, hown, tb_nil⟩ (m2_kindOf l g H.size f2 ((hW (t8 - 1))) hL hI9.1) ⟨(callB_of 1 (tb_one (wd_1136 hB _)) tb_good1 rfl rfl rfl (wd_82 hB _) (wd_1134 hB _) (by decide +kernel) ⟨Nat.le_of_ble_eq_true rfl, Nat.le_of_ble_eq_true rfl⟩), (wd_1135 hB _)⟩ ⟨pe_bl, pe_pre hB hK hP hD⟩ rfl rfl hl.1 rfl (lv_room (Nat.le_of_ble_eq_true rfl)) d_M_release_34 ⟨Nat.le_of_ble_eq_true rfl, Nat.le_of_ble_eq_true rfl⟩) hS (fun r13 f14 H locs hq15 hP hD hS => ?_)
          obtain ⟨ko_16, rfl⟩ := hq15
          obtain ⟨kr17, hkr17_0, hkr17_1, hkr17_2, rfl⟩ := ko_16
          have htx := top_k2 hkr17_1 b12 hn88.1 (hok _ (by omega)) hkr17_2
          have htk := top_k hkr17_1 b12 hn88.1 (hok _ (by omega))
          refine lv_iconst (v := nI 3) hx hb d_M_release_37 (by decide) ?_
          refine lv_icmp_le (tgt := 45) hx hb d_M_release_38 (by decide) (fun b18 => ?_) (fun b18 => ?_)
          · skip
            replace b18 := (nI_leI (a := kr17) (b := 3) (by omega) (by omega)).mp b18
            refine lv_iconst (v := nI 1) hx hb d_M_release_45 (by decide) ?_
            have htm2 : rb (wkk (hW (t8 - 1))) = 1 := htx.2.1.trans (if_neg (by omega))
            have htm : (if wcc (hW (t8 - 1)) = 3 then 2 else 1) = 1 := htk.2.2.2.trans (if_neg (by omega))
            refine lv_iload_n hx hb d_M_release_46 rfl (lv_at hl 1 rfl) ?_
            refine lv_icmp_lt (tgt := 80) hx hb d_M_release_47 (by decide) (fun b19 => ?_) (fun b19 => ?_)
            · skip
              replace b19 := (nI_ltI (a := 1) (b := b9) (by omega) (by omega)).mp b19
              have hne := (ryl_st (b := b9) (h := hW) (n := t8) (by omega) htm2 (by omega))
              have hoe : oy_rel b9 (wlk hW mwt) = o8 := hoy.trans (by rw [hne.2, List.append_nil])
              exact pe_vret hx hb hr hlocks hK hP hD hS d_M_release_80 ⟨⟨t8, r8, _, _, ht8, hr8, (hpy.trans (rel_st (by omega) htm (by omega))).symm, hn8a, hc8, hdc, hgc, hsd, hsg, (hty.trans hne.1).symm, (by rw [hoe]; exact hro), (by rw [hoe]; exact hds), e6, e7, e8⟩, hI9, hu⟩
            · skip
              replace b19 := mt (nI_ltI (a := 1) (b := b9) (by omega) (by omega)).mpr b19
              have hgo := ryl_go (b := b9) (h := hW) (n := t8) (by omega) htx.2.2 htm2 (by omega)
              have hno : ¬ (wcc (hW (t8 - 1)) = 4 ∨ wcc (hW (t8 - 1)) = 8) := fun z => z.elim hn84 hn88.1
              refine lv_aload_n hx hb d_M_release_50 rfl (lv_at hl 0 rfl) ?_
              refine lv_dup hx hb d_M_release_51 rfl ?_
              refine pf_get (v := .int (nI t8)) (C := "BigRunnerModel") (T := FT10) (N := 45) hx hb (hw10 hB _) (fun _ h9 => h9) hown hK hP (lo_in hL t_M (by decide)) e6 rfl 13 (by decide) (wd_960 hB _) rfl d_M_release_52 ?_
              refine lv_iconst (v := nI 1) hx hb d_M_release_55 (by decide) ?_
              refine pf_isubN (x := t8) (y := 1) hx hb (by omega) d_M_release_56 ?_
              refine pf_put (v := .int (nI (t8 - 1))) (ty := .int) (fs' := [.int mth, .ref (g.lk M 1), .int (nI mn), .ref (g.lk M 3), .ref (g.lk M 4), .int (nI r8), .ref (g.lk M 6), .ref (g.lk M 7), .ref (g.lk M 8), .int (nI msz), .int (nI mix), .int (nI mdp), .ref (g.lk M 12), .int (nI (t8 - 1)), .ref (g.lk M 14), .ref (g.lk M 15), .int (nI mop), .ref (g.lk M 17), .ref (g.lk M 18), .ref (g.lk M 19), .ref (g.lk M 20), .ref (g.lk M 21), .ref (g.lk M 22), .ref (g.lk M 23), .ref (g.lk M 24), .ref (g.lk M 25), .ref (g.lk M 26), .ref (g.lk M 27), .ref (g.lk M 28), .ref (g.lk M 29), .ref (g.lk M 30), .ref (g.lk M 31), .int (nI mtp), .ref (g.lk M 33), .ref (g.lk M 34), .ref (g.lk M 35), .int (nI mwa), .int (nI mgi), .int (nI mpc), .int (nI mst), .int (nI mtr), .int (nI msp), .int mma, .int mlg, .int mdu]) (C := "BigRunnerModel") (T := FT10) (N := 45) hx hb (hw10 hB _) (fun _ h9 => h9) TY10 ok10 nm10 hown hK hP hD hS (lo_in hL t_M (by decide)) e6 rfl 13 (by decide) (wd_960 hB _) rfl (by decide +kernel) rfl rfl (Nat.le_of_ble_eq_true rfl) rfl d_M_release_57 (fun f20 H locs e21 k22 hP hD hS => ?_)
              have eW := (k22 (g.lk M 12) (tg_ne (lo_k11_12 hL _ t_M) t_M (by decide))).trans eW
              have e7 := (k22 (g.lk M 3) (tg_ne (lo_k11_3 hL _ t_M) t_M (by decide))).trans e7
              have e8 := (k22 (g.lk M 4) (tg_ne (lo_k11_4 hL _ t_M) t_M (by decide))).trans e8
              have hu := hu.st k22 t_M (by decide)
              have hv10 := hv10.st k22 t_M (by decide)
              have hk23 : ∀ b, b ≠ M → f20 b = f2 b := k22
              refine lv_aload_n hx hb d_M_release_60 rfl (lv_at hl 0 rfl) ?_
              refine lv_aload_n hx hb d_M_release_61 rfl (lv_at hl 0 rfl) ?_
              refine pf_get (v := .ref (g.lk M 12)) (C := "BigRunnerModel") (T := FT10) (N := 45) hx hb (hw10 hB _) (fun _ h9 => h9) hown hK hP (lo_in hL t_M (by decide)) e21 rfl 12 (by decide) (wd_959 hB _) rfl d_M_release_62 ?_
              refine lv_aload_n hx hb d_M_release_65 rfl (lv_at hl 0 rfl) ?_
              refine pf_get (v := .int (nI (t8 - 1))) (C := "BigRunnerModel") (T := FT10) (N := 45) hx hb (hw10 hB _) (fun _ h9 => h9) hown hK hP (lo_in hL t_M (by decide)) e21 rfl 13 (by decide) (wd_960 hB _) rfl d_M_release_66 ?_
              refine pf_cald (i := t8 - 1) hx hb hK hP (lo_in hL (lo_k11_12 hL _ t_M) (by decide)) eW (lo_t46 hL _ (lo_k11_12 hL _ t_M)) (by omega) (by decide) d_M_release_69 ?_
              have hI24 := iv_1 hI9 hL t_M (by decide) hk23 (oc_11.mk t_M (⟨mth, mn, r8, msz, mix, mdp, (t8 - 1), mop, mtp, mwa, mgi, mpc, mst, mtr, msp, mma, mlg, mdu, e21, (by omega), (by omega), (by omega), (by omega), (by omega), (by omega), (by omega), (by omega), (by omega), (by omega), (by omega), (by omega), (by omega), (by omega), hmb14⟩))
              refine pcc_i (va_runS (As := [.int (hW (t8 - 1))]) (rest := [.ref M]) ⟨hx, hb, hml, hown, tb_nil⟩ (m2_kindOf l g H.size f20 ((hW (t8 - 1))) hL hI24.1) ⟨(callB_of 1 (tb_one (wd_1136 hB _)) tb_good1 rfl rfl rfl (wd_82 hB _) (wd_1134 hB _) (by decide +kernel) ⟨Nat.le_of_ble_eq_true rfl, Nat.le_of_ble_eq_true rfl⟩), (wd_1135 hB _)⟩ ⟨pe_bl, pe_pre hB hK hP hD⟩ rfl rfl hl.1 rfl (lv_room (Nat.le_of_ble_eq_true rfl)) d_M_release_70 ⟨Nat.le_of_ble_eq_true rfl, Nat.le_of_ble_eq_true rfl⟩) hS (fun r25 f26 H locs hq27 hP hD hS => ?_)
              obtain ⟨ko_28, rfl⟩ := hq27
              obtain ⟨kr29, hkr29_0, hkr29_1, hkr29_2, rfl⟩ := ko_28
              have hkx := top_k2 hkr29_1 b12 hn88.1 (hok _ (by omega)) hkr29_2
              have htk2 := top_k hkr29_1 b12 hn88.1 (hok _ (by omega))
              have hk26 := htk2.1
              refine lv_iconst (v := nI 0) hx hb d_M_release_73 (by decide) ?_
              refine pcc_v (va_runV (C := "BigRunnerModel") (As := [.int (nI kr29), .int (nI 0)]) (rest := []) ⟨hx, hb, hml, hown, tb_nil⟩ (m_put l g H.size f20 M mth mn r8 msz mix mdp ((t8 - 1)) mop mtp mwa mgi mpc mst mtr msp mma mlg mdu d8 g8 kr29 ((nI 0)) hL t_M hI24 e21 ⟨(by omega), (by omega), (by omega), (by omega), (by omega), (by omega), (by omega), (by omega), (by omega), (by omega), (by omega), (by omega), (by omega), (by omega), hmb14⟩ e7 e8 (by omega)) ⟨(callB_of 2 (tb_one (wd_1115 hB _)) tb_good1 rfl rfl rfl (wd_82 hB _) (wd_1112 hB _) (by decide +kernel) ⟨Nat.le_of_ble_eq_true rfl, Nat.le_of_ble_eq_true rfl⟩), (wd_1114 hB _), (wd_44 hB _)⟩ ⟨pe_bl, pg_recv (ci := 10) hK hP (lo_in hL t_M (by decide)) e21 rfl, pe_pre hB hK hP hD⟩ rfl rfl hl.1 rfl (lv_room (Nat.le_of_ble_eq_true rfl)) d_M_release_74 ⟨Nat.le_of_ble_eq_true rfl, Nat.le_of_ble_eq_true rfl⟩) hS (fun f31 H locs hq32 hP hD hS => ?_)
              obtain ⟨x1_33, xd_34, xg_35, hI1_36, hu1_37⟩ := hq32
              have hu := hu.tr hu1_37 (by decide)
              have hv10 := hv10.tr hu1_37 (by decide)
              have eW := hu1_37.at (lo_k11_12 hL _ t_M) (by decide) eW
              refine lv_goto (tgt := 0) hx hb d_M_release_77 (by decide) ?_
              exact ih4 (t8 - 1) (r8 + 1) (upd d8 r8 (nI kr29)) (upd g8 r8 (nI 0)) (o8 ++ [(kr29, 0)]) f31 H locs ls (by omega) (by omega) (by omega) (by omega) (hpy.trans (rel_go (by omega) htk.2.2.1 htm (by omega))) hn8b (by rw [← hc8, hws, cbr_c, if_neg hno]; omega) (by rw [dpc_s (by omega), if_neg (by omega), if_neg (by omega), if_pos (by omega), hdc, hws, nbS_c, if_neg hno]; omega) (GC_put hgc (by omega) (by decide) (fun z => absurd z (by omega)) (fun z => absurd z (by omega)) (fun _ _ => by rw [hdc, hws, nbS_c, if_neg hno]; omega)) (smd_u hsd hr9) (smd_u hsg hr9) (hty.trans hgo.1) (hoy.trans (by rw [hgo.2, hkx.1, List.append_assoc]; rfl)) (DS_put hds hro) (by rw [List.length_append, List.length_singleton]; omega) x1_33 xd_34 xg_35 hI1_36 hv10 hl hP hD hS
          · skip
            replace b18 := mt (nI_leI (a := kr17) (b := 3) (by omega) (by omega)).mpr b18
            refine lv_iconst (v := nI 2) hx hb d_M_release_41 (by decide) ?_
            refine lv_goto (tgt := 46) hx hb d_M_release_42 (by decide) ?_
            have htm2 : rb (wkk (hW (t8 - 1))) = 2 := htx.2.1.trans (if_pos (by omega))
            have htm : (if wcc (hW (t8 - 1)) = 3 then 2 else 1) = 2 := htk.2.2.2.trans (if_pos (by omega))
            refine lv_iload_n hx hb d_M_release_46 rfl (lv_at hl 1 rfl) ?_
            refine lv_icmp_lt (tgt := 80) hx hb d_M_release_47 (by decide) (fun b38 => ?_) (fun b38 => ?_)
            · skip
              replace b38 := (nI_ltI (a := 2) (b := b9) (by omega) (by omega)).mp b38
              have hne := (ryl_st (b := b9) (h := hW) (n := t8) (by omega) htm2 (by omega))
              have hoe : oy_rel b9 (wlk hW mwt) = o8 := hoy.trans (by rw [hne.2, List.append_nil])
              exact pe_vret hx hb hr hlocks hK hP hD hS d_M_release_80 ⟨⟨t8, r8, _, _, ht8, hr8, (hpy.trans (rel_st (by omega) htm (by omega))).symm, hn8a, hc8, hdc, hgc, hsd, hsg, (hty.trans hne.1).symm, (by rw [hoe]; exact hro), (by rw [hoe]; exact hds), e6, e7, e8⟩, hI9, hu⟩
            · skip
              replace b38 := mt (nI_ltI (a := 2) (b := b9) (by omega) (by omega)).mpr b38
              have hgo := ryl_go (b := b9) (h := hW) (n := t8) (by omega) htx.2.2 htm2 (by omega)
              have hno : ¬ (wcc (hW (t8 - 1)) = 4 ∨ wcc (hW (t8 - 1)) = 8) := fun z => z.elim hn84 hn88.1
              refine lv_aload_n hx hb d_M_release_50 rfl (lv_at hl 0 rfl) ?_
              refine lv_dup hx hb d_M_release_51 rfl ?_
              refine pf_get (v := .int (nI t8)) (C := "BigRunnerModel") (T := FT10) (N := 45) hx hb (hw10 hB _) (fun _ h9 => h9) hown hK hP (lo_in hL t_M (by decide)) e6 rfl 13 (by decide) (wd_960 hB _) rfl d_M_release_52 ?_
              refine lv_iconst (v := nI 1) hx hb d_M_release_55 (by decide) ?_
              refine pf_isubN (x := t8) (y := 1) hx hb (by omega) d_M_release_56 ?_
              refine pf_put (v := .int (nI (t8 - 1))) (ty := .int) (fs' := [.int mth, .ref (g.lk M 1), .int (nI mn), .ref (g.lk M 3), .ref (g.lk M 4), .int (nI r8), .ref (g.lk M 6), .ref (g.lk M 7), .ref (g.lk M 8), .int (nI msz), .int (nI mix), .int (nI mdp), .ref (g.lk M 12), .int (nI (t8 - 1)), .ref (g.lk M 14), .ref (g.lk M 15), .int (nI mop), .ref (g.lk M 17), .ref (g.lk M 18), .ref (g.lk M 19), .ref (g.lk M 20), .ref (g.lk M 21), .ref (g.lk M 22), .ref (g.lk M 23), .ref (g.lk M 24), .ref (g.lk M 25), .ref (g.lk M 26), .ref (g.lk M 27), .ref (g.lk M 28), .ref (g.lk M 29), .ref (g.lk M 30), .ref (g.lk M 31), .int (nI mtp), .ref (g.lk M 33), .ref (g.lk M 34), .ref (g.lk M 35), .int (nI mwa), .int (nI mgi), .int (nI mpc), .int (nI mst), .int (nI mtr), .int (nI msp), .int mma, .int mlg, .int mdu]) (C := "BigRunnerModel") (T := FT10) (N := 45) hx hb (hw10 hB _) (fun _ h9 => h9) TY10 ok10 nm10 hown hK hP hD hS (lo_in hL t_M (by decide)) e6 rfl 13 (by decide) (wd_960 hB _) rfl (by decide +kernel) rfl rfl (Nat.le_of_ble_eq_true rfl) rfl d_M_release_57 (fun f39 H locs e40 k41 hP hD hS => ?_)
              have eW := (k41 (g.lk M 12) (tg_ne (lo_k11_12 hL _ t_M) t_M (by decide))).trans eW
              have e7 := (k41 (g.lk M 3) (tg_ne (lo_k11_3 hL _ t_M) t_M (by decide))).trans e7
              have e8 := (k41 (g.lk M 4) (tg_ne (lo_k11_4 hL _ t_M) t_M (by decide))).trans e8
              have hu := hu.st k41 t_M (by decide)
              have hv10 := hv10.st k41 t_M (by decide)
              have hk42 : ∀ b, b ≠ M → f39 b = f2 b := k41
              refine lv_aload_n hx hb d_M_release_60 rfl (lv_at hl 0 rfl) ?_
              refine lv_aload_n hx hb d_M_release_61 rfl (lv_at hl 0 rfl) ?_
              refine pf_get (v := .ref (g.lk M 12)) (C := "BigRunnerModel") (T := FT10) (N := 45) hx hb (hw10 hB _) (fun _ h9 => h9) hown hK hP (lo_in hL t_M (by decide)) e40 rfl 12 (by decide) (wd_959 hB _) rfl d_M_release_62 ?_
              refine lv_aload_n hx hb d_M_release_65 rfl (lv_at hl 0 rfl) ?_
              refine pf_get (v := .int (nI (t8 - 1))) (C := "BigRunnerModel") (T := FT10) (N := 45) hx hb (hw10 hB _) (fun _ h9 => h9) hown hK hP (lo_in hL t_M (by decide)) e40 rfl 13 (by decide) (wd_960 hB _) rfl d_M_release_66 ?_
              refine pf_cald (i := t8 - 1) hx hb hK hP (lo_in hL (lo_k11_12 hL _ t_M) (by decide)) eW (lo_t46 hL _ (lo_k11_12 hL _ t_M)) (by omega) (by decide) d_M_release_69 ?_
              have hI43 := iv_1 hI9 hL t_M (by decide) hk42 (oc_11.mk t_M (⟨mth, mn, r8, msz, mix, mdp, (t8 - 1), mop, mtp, mwa, mgi, mpc, mst, mtr, msp, mma, mlg, mdu, e40, (by omega), (by omega), (by omega), (by omega), (by omega), (by omega), (by omega), (by omega), (by omega), (by omega), (by omega), (by omega), (by omega), (by omega), hmb14⟩))
              refine pcc_i (va_runS (As := [.int (hW (t8 - 1))]) (rest := [.ref M]) ⟨hx, hb, hml, hown, tb_nil⟩ (m2_kindOf l g H.size f39 ((hW (t8 - 1))) hL hI43.1) ⟨(callB_of 1 (tb_one (wd_1136 hB _)) tb_good1 rfl rfl rfl (wd_82 hB _) (wd_1134 hB _) (by decide +kernel) ⟨Nat.le_of_ble_eq_true rfl, Nat.le_of_ble_eq_true rfl⟩), (wd_1135 hB _)⟩ ⟨pe_bl, pe_pre hB hK hP hD⟩ rfl rfl hl.1 rfl (lv_room (Nat.le_of_ble_eq_true rfl)) d_M_release_70 ⟨Nat.le_of_ble_eq_true rfl, Nat.le_of_ble_eq_true rfl⟩) hS (fun r44 f45 H locs hq46 hP hD hS => ?_)
              obtain ⟨ko_47, rfl⟩ := hq46
              obtain ⟨kr48, hkr48_0, hkr48_1, hkr48_2, rfl⟩ := ko_47
              have hkx := top_k2 hkr48_1 b12 hn88.1 (hok _ (by omega)) hkr48_2
              have htk2 := top_k hkr48_1 b12 hn88.1 (hok _ (by omega))
              have hk26 := htk2.1
              refine lv_iconst (v := nI 0) hx hb d_M_release_73 (by decide) ?_
              refine pcc_v (va_runV (C := "BigRunnerModel") (As := [.int (nI kr48), .int (nI 0)]) (rest := []) ⟨hx, hb, hml, hown, tb_nil⟩ (m_put l g H.size f39 M mth mn r8 msz mix mdp ((t8 - 1)) mop mtp mwa mgi mpc mst mtr msp mma mlg mdu d8 g8 kr48 ((nI 0)) hL t_M hI43 e40 ⟨(by omega), (by omega), (by omega), (by omega), (by omega), (by omega), (by omega), (by omega), (by omega), (by omega), (by omega), (by omega), (by omega), (by omega), hmb14⟩ e7 e8 (by omega)) ⟨(callB_of 2 (tb_one (wd_1115 hB _)) tb_good1 rfl rfl rfl (wd_82 hB _) (wd_1112 hB _) (by decide +kernel) ⟨Nat.le_of_ble_eq_true rfl, Nat.le_of_ble_eq_true rfl⟩), (wd_1114 hB _), (wd_44 hB _)⟩ ⟨pe_bl, pg_recv (ci := 10) hK hP (lo_in hL t_M (by decide)) e40 rfl, pe_pre hB hK hP hD⟩ rfl rfl hl.1 rfl (lv_room (Nat.le_of_ble_eq_true rfl)) d_M_release_74 ⟨Nat.le_of_ble_eq_true rfl, Nat.le_of_ble_eq_true rfl⟩) hS (fun f50 H locs hq51 hP hD hS => ?_)
              obtain ⟨x1_52, xd_53, xg_54, hI1_55, hu1_56⟩ := hq51
              have hu := hu.tr hu1_56 (by decide)
              have hv10 := hv10.tr hu1_56 (by decide)
              have eW := hu1_56.at (lo_k11_12 hL _ t_M) (by decide) eW
              refine lv_goto (tgt := 0) hx hb d_M_release_77 (by decide) ?_
              exact ih4 (t8 - 1) (r8 + 1) (upd d8 r8 (nI kr48)) (upd g8 r8 (nI 0)) (o8 ++ [(kr48, 0)]) f50 H locs ls (by omega) (by omega) (by omega) (by omega) (hpy.trans (rel_go (by omega) htk.2.2.1 htm (by omega))) hn8b (by rw [← hc8, hws, cbr_c, if_neg hno]; omega) (by rw [dpc_s (by omega), if_neg (by omega), if_neg (by omega), if_pos (by omega), hdc, hws, nbS_c, if_neg hno]; omega) (GC_put hgc (by omega) (by decide) (fun z => absurd z (by omega)) (fun z => absurd z (by omega)) (fun _ _ => by rw [hdc, hws, nbS_c, if_neg hno]; omega)) (smd_u hsd hr9) (smd_u hsg hr9) (hty.trans hgo.1) (hoy.trans (by rw [hgo.2, hkx.1, List.append_assoc]; rfl)) (DS_put hds hro) (by rw [List.length_append, List.length_singleton]; omega) x1_52 xd_53 xg_54 hI1_55 hv10 hl hP hD hS
  exact lp1 (mwt + 1) mwt mdr hQ hG ([]) f s.heap [] ls (by omega) (by omega) (by omega) (by omega) rfl hn8 rfl hdp1 hGC smd_rf smd_rf rfl rfl trivial rfl eM eD eG hI un.rf hl hP hD hS
set_option maxHeartbeats 4000000 in
set_option maxRecDepth 100000 in
theorem m2_number (l : Launch) (g : Lay) (sz : Nat) (f : Nat → va_E) (M : Nat) (mth : Int32) (mn : Nat) (mdr : Nat) (msz : Nat) (mix : Nat) (mdp : Nat) (mwt : Nat) (mop : Nat) (mtp : Nat) (mwa : Nat) (mgi : Nat) (mpc : Nat) (mst : Nat) (mtr : Nat) (msp : Nat) (mma : Int32) (mlg : Int32) (mdu : Int32) (hT : Nat → Int32) (hQ : Nat → Int32) (hG : Nat → Int32) (hL : LO g) (t_M : g.tg M = 11) (hI : IV g f) (eM : f M = .inr (10, [.int mth, .ref (g.lk M 1), .int (nI mn), .ref (g.lk M 3), .ref (g.lk M 4), .int (nI mdr), .ref (g.lk M 6), .ref (g.lk M 7), .ref (g.lk M 8), .int (nI msz), .int (nI mix), .int (nI mdp), .ref (g.lk M 12), .int (nI mwt), .ref (g.lk M 14), .ref (g.lk M 15), .int (nI mop), .ref (g.lk M 17), .ref (g.lk M 18), .ref (g.lk M 19), .ref (g.lk M 20), .ref (g.lk M 21), .ref (g.lk M 22), .ref (g.lk M 23), .ref (g.lk M 24), .ref (g.lk M 25), .ref (g.lk M 26), .ref (g.lk M 27), .ref (g.lk M 28), .ref (g.lk M 29), .ref (g.lk M 30), .ref (g.lk M 31), .int (nI mtp), .ref (g.lk M 33), .ref (g.lk M 34), .ref (g.lk M 35), .int (nI mwa), .int (nI mgi), .int (nI mpc), .int (nI mst), .int (nI mtr), .int (nI msp), .int mma, .int mlg, .int mdu])) (hMB : mn ≤ 72 ∧ mdr ≤ 100 ∧ msz ≤ 100 ∧ mix ≤ 100 ∧ mdp ≤ 20 ∧ mwt ≤ 72 ∧ mop ≤ 40 ∧ mtp ≤ 80 ∧ mwa ≤ 20 ∧ mgi ≤ msp ∧ mpc ≤ 100 ∧ mst ≤ 4 ∧ mtr ≤ 3 ∧ msp ≤ 3000 ∧ (mdu = 0 ∨ mdu = 1)) (eT : f (g.lk M 1) = .inl (g.ac (g.lk M 1), 72, .inl hT)) (cT : ∀ i, i < 72 → vp_nar .char (hT i) = hT i) (eD : f (g.lk M 3) = .inl (g.ac (g.lk M 3), 100, .inl hQ)) (eG : f (g.lk M 4) = .inl (g.ac (g.lk M 4), 100, .inl hG)) (hix : mix ≤ mn) (hdr : mdr < 100) : Met l ⟨"BigRunnerModel", "number", "()Z"⟩ [Cond.code ⟨"BigRunnerModel", "number", "()Z"⟩ prog_12_method_10_code 3 (some .boolean)] ({ frames := 1, cells := 0, slots := 0, locals := 22 }) (va_Pc [.ref M] (pc_in g sz f)) (va_Qi (fun r f1 => (∃ (nn v : Nat), px_dg (tk hT mn) 10 mix = nn ∧ v < 1000000000 ∧ mix + nn ≤ mn ∧ nn ≤ 10 ∧ v = nv (vc hT mn) (min nn 9) mix ∧ f1 M = .inr (10, [.int mth, .ref (g.lk M 1), .int (nI mn), .ref (g.lk M 3), .ref (g.lk M 4), .int (nI (mdr + 1)), .ref (g.lk M 6), .ref (g.lk M 7), .ref (g.lk M 8), .int (nI msz), .int (nI (mix + nn)), .int (nI mdp), .ref (g.lk M 12), .int (nI mwt), .ref (g.lk M 14), .ref (g.lk M 15), .int (nI mop), .ref (g.lk M 17), .ref (g.lk M 18), .ref (g.lk M 19), .ref (g.lk M 20), .ref (g.lk M 21), .ref (g.lk M 22), .ref (g.lk M 23), .ref (g.lk M 24), .ref (g.lk M 25), .ref (g.lk M 26), .ref (g.lk M 27), .ref (g.lk M 28), .ref (g.lk M 29), .ref (g.lk M 30), .ref (g.lk M 31), .int (nI mtp), .ref (g.lk M 33), .ref (g.lk M 34), .ref (g.lk M 35), .int (nI mwa), .int (nI mgi), .int (nI mpc), .int (nI mst), .int (nI mtr), .int (nI msp), .int mma, .int mlg, .int mdu]) ∧ f1 (g.lk M 3) = .inl (g.ac (g.lk M 3), 100, .inl (upd hQ mdr (nI 0))) ∧ f1 (g.lk M 4) = .inl (g.ac (g.lk M 4), 100, .inl (upd hG mdr (nI v))) ∧ ((r = nI 1 ∧ nn < 10) ∨ (r = nI 0 ∧ nn = 10))) ∧ (IV g f1) ∧ (un [11, 41, 42] g f f1)) (pc_out g sz) (pc_A g sz)) 0 0 (pc_A g sz) := by
  refine pe_ofW (cc := prog_12_method_10_code) (maxL := 3) (ret := (some .boolean)) (lv := [(0, .ref M)]) (by decide) (Nat.le_of_ble_eq_true rfl) rfl ?_
  intro p e s m args below meth c ls hx hb hr hml hlocks hown hB hP hK hD hsz hS hl
  subst hsz
  have hu : un [11, 41, 42] g f f := un.rf
  obtain ⟨hmb0, hmb1, hmb2, hmb3, hmb4, hmb5, hmb6, hmb7, hmb8, hmb9, hmb10, hmb11, hmb12, hmb13, hmb14⟩ := hMB
  refine lv_iconst (v := nI 0) hx hb d_M_number_0 (by decide) ?_
  refine lv_istore_n (lv' := [(1, .int (nI 0)), (0, .ref M)]) hx hb d_M_number_1 rfl hl (by decide) rfl (fun ls hl => ?_)
  refine lv_iconst (v := nI 0) hx hb d_M_number_2 (by decide) ?_
  refine lv_istore_n (lv' := [(2, .int (nI 0)), (1, .int (nI 0)), (0, .ref M)]) hx hb d_M_number_3 rfl hl (by decide) rfl (fun ls hl => ?_)
  have lp1 : ∀ (k3 : Nat) (nn : Nat) (vv : Nat) (f2 : Nat → va_E) (H : Heap) (locs : List Loc) (ls : Array Slot), (10 < nn + k3) → (nn ≤ 10) → (mix + nn ≤ mn) → (PWN nn vv) → (px_dg (tk hT mn) 10 mix = nn + px_dg (tk hT mn) (10 - nn) (mix + nn)) → (vv = nv (vc hT mn) (min nn 9) mix) → f2 M = .inr (10, [.int mth, .ref (g.lk M 1), .int (nI mn), .ref (g.lk M 3), .ref (g.lk M 4), .int (nI mdr), .ref (g.lk M 6), .ref (g.lk M 7), .ref (g.lk M 8), .int (nI msz), .int (nI (mix + nn)), .int (nI mdp), .ref (g.lk M 12), .int (nI mwt), .ref (g.lk M 14), .ref (g.lk M 15), .int (nI mop), .ref (g.lk M 17), .ref (g.lk M 18), .ref (g.lk M 19), .ref (g.lk M 20), .ref (g.lk M 21), .ref (g.lk M 22), .ref (g.lk M 23), .ref (g.lk M 24), .ref (g.lk M 25), .ref (g.lk M 26), .ref (g.lk M 27), .ref (g.lk M 28), .ref (g.lk M 29), .ref (g.lk M 30), .ref (g.lk M 31), .int (nI mtp), .ref (g.lk M 33), .ref (g.lk M 34), .ref (g.lk M 35), .int (nI mwa), .int (nI mgi), .int (nI mpc), .int (nI mst), .int (nI mtr), .int (nI msp), .int mma, .int mlg, .int mdu]) → IV g f2 → un [11] g f f2 → lv_has ls 3 [(2, .int (nI vv)), (1, .int (nI nn)), (0, .ref M)] → va_P g.D vcl (va_pl g.LP f2) H → va_D (pc_A g s.heap.size) (va_pl g.LP f2) → va_S (pc_A g s.heap.size) s.heap H locs → W p l e ({ frames := 1, cells := 0, slots := 0, locals := 22 }) s m args below meth c H locs 0 0 (MQ below (va_Qi (fun r f1 => (∃ (nn v : Nat), px_dg (tk hT mn) 10 mix = nn ∧ v < 1000000000 ∧ mix + nn ≤ mn ∧ nn ≤ 10 ∧ v = nv (vc hT mn) (min nn 9) mix ∧ f1 M = .inr (10, [.int mth, .ref (g.lk M 1), .int (nI mn), .ref (g.lk M 3), .ref (g.lk M 4), .int (nI (mdr + 1)), .ref (g.lk M 6), .ref (g.lk M 7), .ref (g.lk M 8), .int (nI msz), .int (nI (mix + nn)), .int (nI mdp), .ref (g.lk M 12), .int (nI mwt), .ref (g.lk M 14), .ref (g.lk M 15), .int (nI mop), .ref (g.lk M 17), .ref (g.lk M 18), .ref (g.lk M 19), .ref (g.lk M 20), .ref (g.lk M 21), .ref (g.lk M 22), .ref (g.lk M 23), .ref (g.lk M 24), .ref (g.lk M 25), .ref (g.lk M 26), .ref (g.lk M 27), .ref (g.lk M 28), .ref (g.lk M 29), .ref (g.lk M 30), .ref (g.lk M 31), .int (nI mtp), .ref (g.lk M 33), .ref (g.lk M 34), .ref (g.lk M 35), .int (nI mwa), .int (nI mgi), .int (nI mpc), .int (nI mst), .int (nI mtr), .int (nI msp), .int mma, .int mlg, .int mdu]) ∧ f1 (g.lk M 3) = .inl (g.ac (g.lk M 3), 100, .inl (upd hQ mdr (nI 0))) ∧ f1 (g.lk M 4) = .inl (g.ac (g.lk M 4), 100, .inl (upd hG mdr (nI v))) ∧ ((r = nI 1 ∧ nn < 10) ∨ (r = nI 0 ∧ nn = 10))) ∧ (IV g f1) ∧ (un [11, 41, 42] g f f1)) (pc_out g s.heap.size) (pc_A g s.heap.size)) args s 0 0 (pc_A g s.heap.size)) (F0 m 4 ls []) := by
    intro k3
    induction k3 with
    | zero => intros; exfalso; omega
    | succ k3 ih4 =>
      intro nn vv f2 H locs ls hfu5 hnn hal hpw hdg hvv e6 hI7 hv8 hl hP hD hS
      have eT := hv8.at (lo_k11_1 hL _ t_M) (by decide) eT
      have eD := hv8.at (lo_k11_3 hL _ t_M) (by decide) eD
      have eG := hv8.at (lo_k11_4 hL _ t_M) (by decide) eG
      have hu := hu.tr hv8 (by decide)
      refine lv_aload_n hx hb d_M_number_4 rfl (lv_at hl 2 rfl) ?_
      refine pcc_i (va_runV (C := "BigRunnerModel") (As := []) (rest := []) ⟨hx, hb, hml, hown, tb_nil⟩ (m_here l g H.size f2 M mth mn mdr msz ((mix + nn)) mdp mwt mop mtp mwa mgi mpc mst mtr msp mma mlg mdu hT hL t_M hI7.1 e6 ⟨(by omega), (by omega), (by omega), (by omega), (by omega), (by omega), (by omega), (by omega), (by omega), (by omega), (by omega), (by omega), (by omega), (by omega), hmb14⟩ eT cT) ⟨(callB_of 0 (tb_one (wd_1111 hB _)) tb_good1 rfl rfl rfl (wd_82 hB _) (wd_1108 hB _) (by decide +kernel) ⟨Nat.le_of_ble_eq_true rfl, Nat.le_of_ble_eq_true rfl⟩), (wd_1110 hB _), (wd_43 hB _)⟩ ⟨pe_bl, pg_recv (ci := 10) hK hP (lo_in hL t_M (by decide)) e6 rfl, pe_pre hB hK hP hD⟩ rfl rfl hl.1 rfl (lv_room (Nat.le_of_ble_eq_true rfl)) d_M_number_5 ⟨Nat.le_of_ble_eq_true rfl, Nat.le_of_ble_eq_true rfl⟩) hS (fun r9 f10 H locs hq11 hP hD hS => ?_)
      obtain ⟨nx_12, rfl⟩ := hq11
      subst nx_12
      refine pcc_i (va_runS (As := [.int (nxm hT mn (mix + nn))]) (rest := []) ⟨hx, hb, hml, hown, tb_nil⟩ (m_digit l g H.size f2 ((nxm hT mn (mix + nn))) hL hI7.1) ⟨(callB_of 1 (tb_one (wd_1129 hB _)) tb_good1 rfl rfl rfl (wd_82 hB _) (wd_1127 hB _) (by decide +kernel) ⟨Nat.le_of_ble_eq_true rfl, Nat.le_of_ble_eq_true rfl⟩), (wd_1128 hB _)⟩ ⟨pe_bl, pe_pre hB hK hP hD⟩ rfl rfl hl.1 rfl (lv_room (Nat.le_of_ble_eq_true rfl)) d_M_number_8 ⟨Nat.le_of_ble_eq_true rfl, Nat.le_of_ble_eq_true rfl⟩) hS (fun r13 f14 H locs hq15 hP hD hS => ?_)
      obtain ⟨bo_16, i0_17, i1_18, rfl⟩ := hq15
      refine lv_if_eq (tgt := 59) hx hb d_M_number_11 (by decide) (fun b19 => ?_) (fun b19 => ?_)
      · skip
        have hr20 : r13 = nI 0 := b19
        have hi21 := i0_17 hr20
        have hdn := dgx_done hdg (Or.inr (fun z => hi21 ((tkm hT mn (mix + nn)).trans z)))
        have hlt := pwn_lt hpw
        refine lv_aload_n hx hb d_M_number_59 rfl (lv_at hl 2 rfl) ?_
        refine lv_iconst (v := nI 0) hx hb d_M_number_60 (by decide) ?_
        refine lv_iload_n hx hb d_M_number_61 rfl (lv_at hl 0 rfl) ?_
        refine pcc_v (va_runV (C := "BigRunnerModel") (As := [.int (nI 0), .int (nI vv)]) (rest := []) ⟨hx, hb, hml, hown, tb_nil⟩ (m_put l g H.size f2 M mth mn mdr msz ((mix + nn)) mdp mwt mop mtp mwa mgi mpc mst mtr msp mma mlg mdu hQ hG 0 ((nI vv)) hL t_M hI7 e6 ⟨(by omega), (by omega), (by omega), (by omega), (by omega), (by omega), (by omega), (by omega), (by omega), (by omega), (by omega), (by omega), (by omega), (by omega), hmb14⟩ eD eG (by omega)) ⟨(callB_of 2 (tb_one (wd_1115 hB _)) tb_good1 rfl rfl rfl (wd_82 hB _) (wd_1112 hB _) (by decide +kernel) ⟨Nat.le_of_ble_eq_true rfl, Nat.le_of_ble_eq_true rfl⟩), (wd_1114 hB _), (wd_44 hB _)⟩ ⟨pe_bl, pg_recv (ci := 10) hK hP (lo_in hL t_M (by decide)) e6 rfl, pe_pre hB hK hP hD⟩ rfl rfl hl.1 rfl (lv_room (Nat.le_of_ble_eq_true rfl)) d_M_number_62 ⟨Nat.le_of_ble_eq_true rfl, Nat.le_of_ble_eq_true rfl⟩) hS (fun f23 H locs hq24 hP hD hS => ?_)
        obtain ⟨x1_25, xd_26, xg_27, hI1_28, hu1_29⟩ := hq24
        have hu := hu.tr hu1_29 (by decide)
        have eT := hu1_29.at (lo_k11_1 hL _ t_M) (by decide) eT
        refine lv_iload_n hx hb d_M_number_65 rfl (lv_at hl 1 rfl) ?_
        refine lv_bipush (v := nI 10) hx hb d_M_number_66 (by decide) ?_
        refine lv_icmp_ge (tgt := 75) hx hb d_M_number_68 (by decide) (fun b30 => ?_) (fun b30 => ?_)
        · skip
          replace b30 := (nI_leI (a := 10) (b := nn) (by omega) (by omega)).mp b30
          refine lv_iconst (v := nI 0) hx hb d_M_number_75 (by decide) ?_
          exact pe_zret hx hb hr hlocks hK hP hD hS d_M_number_76 rfl ⟨⟨nn, vv, hdn, hlt, hal, hnn, hvv, x1_25, xd_26, xg_27, Or.inr ⟨rfl, by omega⟩⟩, hI1_28, hu⟩
        · skip
          replace b30 := mt (nI_leI (a := 10) (b := nn) (by omega) (by omega)).mpr b30
          refine lv_iconst (v := nI 1) hx hb d_M_number_71 (by decide) ?_
          refine lv_goto (tgt := 76) hx hb d_M_number_72 (by decide) ?_
          exact pe_zret hx hb hr hlocks hK hP hD hS d_M_number_76 rfl ⟨⟨nn, vv, hdn, hlt, hal, hnn, hvv, x1_25, xd_26, xg_27, Or.inl ⟨rfl, by omega⟩⟩, hI1_28, hu⟩
      · skip
        have hr31 : r13 = nI 1 := (bl_1 bo_16 b19)
        have hi32 := i1_18 hr31
        have hk7 := hi32
        have hl9 : mix + nn < mn := nxm_in (by rw [hk7]; decide)
        obtain ⟨cn, hc1, hc2, hcn⟩ := dgc hk7
        have hlt := pwn_lt hpw
        refine lv_iload_n hx hb d_M_number_14 rfl (lv_at hl 1 rfl) ?_
        refine lv_bipush (v := nI 10) hx hb d_M_number_15 (by decide) ?_
        refine lv_icmp_ge (tgt := 59) hx hb d_M_number_17 (by decide) (fun b33 => ?_) (fun b33 => ?_)
        · skip
          replace b33 := (nI_leI (a := 10) (b := nn) (by omega) (by omega)).mp b33
          have hdn := dgx_done hdg (Or.inl (by omega))
          have hlt := pwn_lt hpw
          refine lv_aload_n hx hb d_M_number_59 rfl (lv_at hl 2 rfl) ?_
          refine lv_iconst (v := nI 0) hx hb d_M_number_60 (by decide) ?_
          refine lv_iload_n hx hb d_M_number_61 rfl (lv_at hl 0 rfl) ?_
          refine pcc_v (va_runV (C := "BigRunnerModel") (As := [.int (nI 0), .int (nI vv)]) (rest := []) ⟨hx, hb, hml, hown, tb_nil⟩ (m_put l g H.size f2 M mth mn mdr msz ((mix + nn)) mdp mwt mop mtp mwa mgi mpc mst mtr msp mma mlg mdu hQ hG 0 ((nI vv)) hL t_M hI7 e6 ⟨(by omega), (by omega), (by omega), (by omega), (by omega), (by omega), (by omega), (by omega), (by omega), (by omega), (by omega), (by omega), (by omega), (by omega), hmb14⟩ eD eG (by omega)) ⟨(callB_of 2 (tb_one (wd_1115 hB _)) tb_good1 rfl rfl rfl (wd_82 hB _) (wd_1112 hB _) (by decide +kernel) ⟨Nat.le_of_ble_eq_true rfl, Nat.le_of_ble_eq_true rfl⟩), (wd_1114 hB _), (wd_44 hB _)⟩ ⟨pe_bl, pg_recv (ci := 10) hK hP (lo_in hL t_M (by decide)) e6 rfl, pe_pre hB hK hP hD⟩ rfl rfl hl.1 rfl (lv_room (Nat.le_of_ble_eq_true rfl)) d_M_number_62 ⟨Nat.le_of_ble_eq_true rfl, Nat.le_of_ble_eq_true rfl⟩) hS (fun f35 H locs hq36 hP hD hS => ?_)
          obtain ⟨x1_37, xd_38, xg_39, hI1_40, hu1_41⟩ := hq36
          have hu := hu.tr hu1_41 (by decide)
          have eT := hu1_41.at (lo_k11_1 hL _ t_M) (by decide) eT
          refine lv_iload_n hx hb d_M_number_65 rfl (lv_at hl 1 rfl) ?_
          refine lv_bipush (v := nI 10) hx hb d_M_number_66 (by decide) ?_
          refine lv_icmp_ge (tgt := 75) hx hb d_M_number_68 (by decide) (fun b42 => ?_) (fun b42 => ?_)
          · skip
            replace b42 := (nI_leI (a := 10) (b := nn) (by omega) (by omega)).mp b42
            refine lv_iconst (v := nI 0) hx hb d_M_number_75 (by decide) ?_
            exact pe_zret hx hb hr hlocks hK hP hD hS d_M_number_76 rfl ⟨⟨nn, vv, hdn, hlt, hal, hnn, hvv, x1_37, xd_38, xg_39, Or.inr ⟨rfl, by omega⟩⟩, hI1_40, hu⟩
          · skip
            replace b42 := mt (nI_leI (a := 10) (b := nn) (by omega) (by omega)).mpr b42
            refine lv_iconst (v := nI 1) hx hb d_M_number_71 (by decide) ?_
            refine lv_goto (tgt := 76) hx hb d_M_number_72 (by decide) ?_
            exact pe_zret hx hb hr hlocks hK hP hD hS d_M_number_76 rfl ⟨⟨nn, vv, hdn, hlt, hal, hnn, hvv, x1_37, xd_38, xg_39, Or.inl ⟨rfl, by omega⟩⟩, hI1_40, hu⟩
        · skip
          replace b33 := mt (nI_leI (a := 10) (b := nn) (by omega) (by omega)).mpr b33
          refine lv_iload_n hx hb d_M_number_20 rfl (lv_at hl 1 rfl) ?_
          refine lv_bipush (v := nI 9) hx hb d_M_number_21 (by decide) ?_
          refine lv_icmp_ge (tgt := 41) hx hb d_M_number_23 (by decide) (fun b43 => ?_) (fun b43 => ?_)
          · skip
            replace b43 := (nI_leI (a := 9) (b := nn) (by omega) (by omega)).mp b43
            refine lv_iload_n hx hb d_M_number_41 rfl (lv_at hl 0 rfl) ?_
            refine lv_istore_n (lv' := [(2, .int (nI vv)), (1, .int (nI nn)), (0, .ref M)]) hx hb d_M_number_42 rfl hl (by decide) rfl (fun ls hl => ?_)
            refine lv_iinc (k := 1) (v := nI (nn + 1)) (lv' := [(1, .int (nI (nn + 1))), (2, .int (nI vv)), (0, .ref M)]) hx hb d_M_number_43 hl rfl (by rw [nI_succ]; rfl) (by decide) rfl (fun ls hl => ?_)
            refine lv_aload_n hx hb d_M_number_46 rfl (lv_at hl 2 rfl) ?_
            refine lv_dup hx hb d_M_number_47 rfl ?_
            refine pf_get (v := .int (nI (mix + nn))) (C := "BigRunnerModel") (T := FT10) (N := 45) hx hb (hw10 hB _) (fun _ h9 => h9) hown hK hP (lo_in hL t_M (by decide)) e6 rfl 10 (by decide) (wd_957 hB _) rfl d_M_number_48 ?_
            refine lv_iconst (v := nI 1) hx hb d_M_number_51 (by decide) ?_
            refine pf_iaddN (x := mix + nn) (y := 1) hx hb d_M_number_52 ?_
            refine pf_put (v := .int (nI ((mix + nn) + 1))) (ty := .int) (fs' := [.int mth, .ref (g.lk M 1), .int (nI mn), .ref (g.lk M 3), .ref (g.lk M 4), .int (nI mdr), .ref (g.lk M 6), .ref (g.lk M 7), .ref (g.lk M 8), .int (nI msz), .int (nI ((mix + nn) + 1)), .int (nI mdp), .ref (g.lk M 12), .int (nI mwt), .ref (g.lk M 14), .ref (g.lk M 15), .int (nI mop), .ref (g.lk M 17), .ref (g.lk M 18), .ref (g.lk M 19), .ref (g.lk M 20), .ref (g.lk M 21), .ref (g.lk M 22), .ref (g.lk M 23), .ref (g.lk M 24), .ref (g.lk M 25), .ref (g.lk M 26), .ref (g.lk M 27), .ref (g.lk M 28), .ref (g.lk M 29), .ref (g.lk M 30), .ref (g.lk M 31), .int (nI mtp), .ref (g.lk M 33), .ref (g.lk M 34), .ref (g.lk M 35), .int (nI mwa), .int (nI mgi), .int (nI mpc), .int (nI mst), .int (nI mtr), .int (nI msp), .int mma, .int mlg, .int mdu]) (C := "BigRunnerModel") (T := FT10) (N := 45) hx hb (hw10 hB _) (fun _ h9 => h9) TY10 ok10 nm10 hown hK hP hD hS (lo_in hL t_M (by decide)) e6 rfl 10 (by decide) (wd_957 hB _) rfl (by decide +kernel) rfl rfl (Nat.le_of_ble_eq_true rfl) rfl d_M_number_53 (fun f44 H locs e45 k46 hP hD hS => ?_)
            have eT := (k46 (g.lk M 1) (tg_ne (lo_k11_1 hL _ t_M) t_M (by decide))).trans eT
            have eD := (k46 (g.lk M 3) (tg_ne (lo_k11_3 hL _ t_M) t_M (by decide))).trans eD
            have eG := (k46 (g.lk M 4) (tg_ne (lo_k11_4 hL _ t_M) t_M (by decide))).trans eG
            have hu := hu.st k46 t_M (by decide)
            have hv8 := hv8.st k46 t_M (by decide)
            have hk47 : ∀ b, b ≠ M → f44 b = f2 b := k46
            refine lv_goto (tgt := 4) hx hb d_M_number_56 (by decide) ?_
            have hI48 := iv_1 hI7 hL t_M (by decide) hk47 (oc_11.mk t_M (⟨mth, mn, mdr, msz, ((mix + nn) + 1), mdp, mwt, mop, mtp, mwa, mgi, mpc, mst, mtr, msp, mma, mlg, mdu, e45, (by omega), (by omega), (by omega), (by omega), (by omega), (by omega), (by omega), (by omega), (by omega), (by omega), (by omega), (by omega), (by omega), (by omega), hmb14⟩))
            have hl : lv_has ls 3 [(2, .int (nI vv)), (1, .int (nI (nn + 1))), (0, .ref M)] := lv_sub hl [1, 0, 2] rfl
            exact ih4 (nn + 1) vv f44 H locs ls (by omega) (by omega) (by omega) (pwn_k hpw (by omega)) (dgx_more hdg (by omega) ((tkm hT mn (mix + nn)).symm.trans hk7)) (by rw [Nat.min_eq_right (by omega)] at hvv ⊢; exact hvv) e45 hI48 hv8 hl hP hD hS
          · skip
            replace b43 := mt (nI_leI (a := 9) (b := nn) (by omega) (by omega)).mpr b43
            refine lv_bipush (v := nI 10) hx hb d_M_number_26 (by decide) ?_
            refine lv_iload_n hx hb d_M_number_28 rfl (lv_at hl 0 rfl) ?_
            refine pf_imulN (x := 10) (y := vv) hx hb d_M_number_29 ?_
            refine lv_aload_n hx hb d_M_number_30 rfl (lv_at hl 2 rfl) ?_
            refine pcc_i (va_runV (C := "BigRunnerModel") (As := []) (rest := [.int (nI (10 * vv))]) ⟨hx, hb, hml, hown, tb_nil⟩ (m_here l g H.size f2 M mth mn mdr msz ((mix + nn)) mdp mwt mop mtp mwa mgi mpc mst mtr msp mma mlg mdu hT hL t_M hI7.1 e6 ⟨(by omega), (by omega), (by omega), (by omega), (by omega), (by omega), (by omega), (by omega), (by omega), (by omega), (by omega), (by omega), (by omega), (by omega), hmb14⟩ eT cT) ⟨(callB_of 0 (tb_one (wd_1111 hB _)) tb_good1 rfl rfl rfl (wd_82 hB _) (wd_1108 hB _) (by decide +kernel) ⟨Nat.le_of_ble_eq_true rfl, Nat.le_of_ble_eq_true rfl⟩), (wd_1110 hB _), (wd_43 hB _)⟩ ⟨pe_bl, pg_recv (ci := 10) hK hP (lo_in hL t_M (by decide)) e6 rfl, pe_pre hB hK hP hD⟩ rfl rfl hl.1 rfl (lv_room (Nat.le_of_ble_eq_true rfl)) d_M_number_31 ⟨Nat.le_of_ble_eq_true rfl, Nat.le_of_ble_eq_true rfl⟩) hS (fun r49 f50 H locs hq51 hP hD hS => ?_)
            obtain ⟨nx_52, rfl⟩ := hq51
            subst nx_52
            refine lv_topi (fun z_ hz_ => ?_)
            obtain rfl : z_ = nI cn := hz_.trans hcn
            refine pf_iaddN (x := 10 * vv) (y := cn) hx hb d_M_number_34 ?_
            refine lv_bipush (v := nI 48) hx hb d_M_number_35 (by decide) ?_
            refine pf_isubN (x := (10 * vv) + cn) (y := 48) hx hb (by omega) d_M_number_37 ?_
            refine lv_goto (tgt := 42) hx hb d_M_number_38 (by decide) ?_
            refine lv_istore_n (lv' := [(2, .int (nI (((10 * vv) + cn) - 48))), (1, .int (nI nn)), (0, .ref M)]) hx hb d_M_number_42 rfl hl (by decide) rfl (fun ls hl => ?_)
            refine lv_iinc (k := 1) (v := nI (nn + 1)) (lv' := [(1, .int (nI (nn + 1))), (2, .int (nI (((10 * vv) + cn) - 48))), (0, .ref M)]) hx hb d_M_number_43 hl rfl (by rw [nI_succ]; rfl) (by decide) rfl (fun ls hl => ?_)
            refine lv_aload_n hx hb d_M_number_46 rfl (lv_at hl 2 rfl) ?_
            refine lv_dup hx hb d_M_number_47 rfl ?_
            refine pf_get (v := .int (nI (mix + nn))) (C := "BigRunnerModel") (T := FT10) (N := 45) hx hb (hw10 hB _) (fun _ h9 => h9) hown hK hP (lo_in hL t_M (by decide)) e6 rfl 10 (by decide) (wd_957 hB _) rfl d_M_number_48 ?_
            refine lv_iconst (v := nI 1) hx hb d_M_number_51 (by decide) ?_
            refine pf_iaddN (x := mix + nn) (y := 1) hx hb d_M_number_52 ?_
            refine pf_put (v := .int (nI ((mix + nn) + 1))) (ty := .int) (fs' := [.int mth, .ref (g.lk M 1), .int (nI mn), .ref (g.lk M 3), .ref (g.lk M 4), .int (nI mdr), .ref (g.lk M 6), .ref (g.lk M 7), .ref (g.lk M 8), .int (nI msz), .int (nI ((mix + nn) + 1)), .int (nI mdp), .ref (g.lk M 12), .int (nI mwt), .ref (g.lk M 14), .ref (g.lk M 15), .int (nI mop), .ref (g.lk M 17), .ref (g.lk M 18), .ref (g.lk M 19), .ref (g.lk M 20), .ref (g.lk M 21), .ref (g.lk M 22), .ref (g.lk M 23), .ref (g.lk M 24), .ref (g.lk M 25), .ref (g.lk M 26), .ref (g.lk M 27), .ref (g.lk M 28), .ref (g.lk M 29), .ref (g.lk M 30), .ref (g.lk M 31), .int (nI mtp), .ref (g.lk M 33), .ref (g.lk M 34), .ref (g.lk M 35), .int (nI mwa), .int (nI mgi), .int (nI mpc), .int (nI mst), .int (nI mtr), .int (nI msp), .int mma, .int mlg, .int mdu]) (C := "BigRunnerModel") (T := FT10) (N := 45) hx hb (hw10 hB _) (fun _ h9 => h9) TY10 ok10 nm10 hown hK hP hD hS (lo_in hL t_M (by decide)) e6 rfl 10 (by decide) (wd_957 hB _) rfl (by decide +kernel) rfl rfl (Nat.le_of_ble_eq_true rfl) rfl d_M_number_53 (fun f53 H locs e54 k55 hP hD hS => ?_)
            have eT := (k55 (g.lk M 1) (tg_ne (lo_k11_1 hL _ t_M) t_M (by decide))).trans eT
            have eD := (k55 (g.lk M 3) (tg_ne (lo_k11_3 hL _ t_M) t_M (by decide))).trans eD
            have eG := (k55 (g.lk M 4) (tg_ne (lo_k11_4 hL _ t_M) t_M (by decide))).trans eG
            have hu := hu.st k55 t_M (by decide)
            have hv8 := hv8.st k55 t_M (by decide)
            have hk56 : ∀ b, b ≠ M → f53 b = f2 b := k55
            refine lv_goto (tgt := 4) hx hb d_M_number_56 (by decide) ?_
            have hI57 := iv_1 hI7 hL t_M (by decide) hk56 (oc_11.mk t_M (⟨mth, mn, mdr, msz, ((mix + nn) + 1), mdp, mwt, mop, mtp, mwa, mgi, mpc, mst, mtr, msp, mma, mlg, mdu, e54, (by omega), (by omega), (by omega), (by omega), (by omega), (by omega), (by omega), (by omega), (by omega), (by omega), (by omega), (by omega), (by omega), (by omega), hmb14⟩))
            have hl : lv_has ls 3 [(2, .int (nI (((10 * vv) + cn) - 48))), (1, .int (nI (nn + 1))), (0, .ref M)] := lv_sub hl [1, 0, 2] rfl
            exact ih4 (nn + 1) (((10 * vv) + cn) - 48) f53 H locs ls (by omega) (by omega) (by omega) (by have z := pwn_s (d := cn - 48) hpw (by omega) (by omega); rw [show 10 * vv + cn - 48 = 10 * vv + (cn - 48) by omega]; exact z) (dgx_more hdg (by omega) ((tkm hT mn (mix + nn)).symm.trans hk7)) (by rw [Nat.min_eq_left (by omega)] at hvv; rw [Nat.min_eq_left (by omega), nv_s (q := cn - 48) (by rw [vcm hl9, hcn, nI_clamp (by omega)]), ← hvv]; omega) e54 hI57 hv8 hl hP hD hS
  exact lp1 11 0 0 f s.heap [] ls (by omega) (by omega) (by omega) pwn_0 (by simp) rfl eM hI un.rf hl hP hD hS

