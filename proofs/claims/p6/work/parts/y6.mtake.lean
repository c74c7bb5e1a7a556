theorem VRS_u {hV h sV s : Nat → Int32} {vr : Nat → Int} {v : Nat} {x : Int} (h0 : VRS hV sV vr) (e : SF v hV h) (es : ∀ j, j ≠ v → s j = sV j) (q : SV h s v x) : VRS h s (uI vr v x) := fun u hu => by
  by_cases z : u = v
  · subst z; rw [show uI vr u x u = x from if_pos rfl]; exact q
  · rw [show uI vr v x u = vr u from if_neg z]; exact SV_SF (h0 u hu) e es z
/-- the inputs that wait, in a row -/
def INM (hI : Nat → Int32) (wa : Nat) (ins : List Int) : Prop := wa = ins.length ∧ ∀ k, k < wa → (hI k).toInt = ins.getD k 0 ∧ (ins.getD k 0).natAbs ≤ 1000000000
/-- what is kept of the outputs -/
def OUM (hl hs : Nat → Int32) (outs : List Int) : Prop := ∀ k, k < 12 → k < outs.length → SV hl hs k (outs.getD k 0)
theorem OUM_p {h h1 s s1 : Nat → Int32} {outs : List Int} {x : Int} (q : OUM h s outs) (e : SF outs.length h h1) (es : ∀ j, j ≠ outs.length → s1 j = s j) (hx : SV h1 s1 outs.length x) : OUM h1 s1 (outs ++ [x]) := fun k hk hk2 => by
  rw [List.length_append, List.length_singleton] at hk2
  by_cases z : k = outs.length
  · subst z; rw [gd_e]; exact hx
  · rw [gd_l (by omega)]; exact SV_SF (q k hk (by omega)) e es z
theorem OUM_n {h s : Nat → Int32} {outs : List Int} {x : Int} (q : OUM h s outs) (hl : 12 ≤ outs.length) : OUM h s (outs ++ [x]) := fun k hk hk2 => by
  rw [gd_l (by omega)]; exact q k hk (by omega)
set_option maxHeartbeats 4000000 in
set_option maxRecDepth 100000 in
theorem w_assign (l : Launch) (g : Lay) (sz : Nat) (f : Nat → va_E) (M : Nat) (v9 : Nat) (vr : Nat → Int) (x : Int) (hLI : Nat → Int32) (hSI : Nat → Int32) (hVL : Nat → Int32) (hVS : Nat → Int32) (hL : LO g) (t_M : g.tg M = 11) (hI : IV g f) (eLI : f (g.lk M 30) = .inl (g.ac (g.lk M 30), 1600, .inl hLI)) (eSI : f (g.lk M 31) = .inl (g.ac (g.lk M 31), 80, .inl hSI)) (eVL : f (g.lk M 26) = .inl (g.ac (g.lk M 26), 200, .inl hVL)) (eVS : f (g.lk M 27) = .inl (g.ac (g.lk M 27), 10, .inl hVS)) (c6LI : C6 1600 hLI) (c6VL : C6 200 hVL) (hv9 : v9 < 10) (hVR : VRS hVL hVS vr) (hx0 : SV hLI hSI 0 x) : Met l ⟨"BigRunnerModel", "assign", "(I)V"⟩ [Cond.code ⟨"BigRunnerModel", "assign", "(I)V"⟩ prog_12_method_42_code 3 none] ({ frames := 0, cells := 0, slots := 0, locals := 0 }) (va_Pc [.ref M, .int (nI v9)] (pc_in g sz f)) (va_Qv (fun f1 => (∃ hl hs : Nat → Int32, f1 (g.lk M 26) = .inl (g.ac (g.lk M 26), 200, .inl hl) ∧ f1 (g.lk M 27) = .inl (g.ac (g.lk M 27), 10, .inl hs) ∧ C6 200 hl ∧ VRS hl hs (uI vr v9 x)) ∧ (IV g f1) ∧ (∀ b, b ≠ (g.lk M 26) → b ≠ (g.lk M 27) → f1 b = f b)) (pc_out g sz) (pc_A g sz)) 0 0 (pc_A g sz) := by
  refine pe_ofW (cc := prog_12_method_42_code) (maxL := 3) (ret := none) (lv := [(0, .ref M), (1, .int (nI v9))]) (by decide) (Nat.le_of_ble_eq_true rfl) rfl ?_
  intro p e s m args below meth c ls hx hb hr hml hlocks hown hB hP hK hD hsz hS hl
  subst hsz
  have hu : ∀ b, b ≠ (g.lk M 26) → b ≠ (g.lk M 27) → f b = f b := fun _ _ _  => rfl
  refine lv_iconst (v := nI 0) hx hb d_M_assign_0 (by decide) ?_
  refine lv_istore_n (lv' := [(2, .int (nI 0)), (0, .ref M), (1, .int (nI v9))]) hx hb d_M_assign_1 rfl hl (by decide) rfl (fun ls hl => ?_)
  have lp1 : ∀ (k3 : Nat) (i : Nat) (h : Nat → Int32) (f2 : Nat → va_E) (H : Heap) (locs : List Loc) (ls : Array Slot), (20 < i + k3) → (i ≤ 20) → (C6 200 h) → (∀ j, j < i → dg h (20 * v9 + j) = dg hLI (20 * 0 + j)) → (SF v9 hVL h) → f2 (g.lk M 26) = .inl (g.ac (g.lk M 26), 200, .inl (h)) → IV g f2 → un [58] g f f2 → (∀ b, b ≠ (g.lk M 26) → b ≠ (g.lk M 27) → f2 b = f b) → lv_has ls 3 [(2, .int (nI i)), (0, .ref M), (1, .int (nI v9))] → va_P g.D vcl (va_pl g.LP f2) H → va_D (pc_A g s.heap.size) (va_pl g.LP f2) → va_S (pc_A g s.heap.size) s.heap H locs → W p l e ({ frames := 0, cells := 0, slots := 0, locals := 0 }) s m args below meth c H locs 0 0 (MQ below (va_Qv (fun f1 => (∃ hl hs : Nat → Int32, f1 (g.lk M 26) = .inl (g.ac (g.lk M 26), 200, .inl hl) ∧ f1 (g.lk M 27) = .inl (g.ac (g.lk M 27), 10, .inl hs) ∧ C6 200 hl ∧ VRS hl hs (uI vr v9 x)) ∧ (IV g f1) ∧ (∀ b, b ≠ (g.lk M 26) → b ≠ (g.lk M 27) → f1 b = f b)) (pc_out g s.heap.size) (pc_A g s.heap.size)) args s 0 0 (pc_A g s.heap.size)) (F0 m 2 ls []) := by
    intro k3
    induction k3 with
    | zero => intros; exfalso; omega
    | succ k3 ih4 =>
      intro i h f2 H locs ls hfu5 hi hc hcp hsf e6 hI7 hv8 hu hl hP hD hS
      have eLI := hv8.at (lo_k11_30 hL _ t_M) (by decide) eLI
      have eSI := hv8.at (lo_k11_31 hL _ t_M) (by decide) eSI
      have eVS := hv8.at (lo_k11_27 hL _ t_M) (by decide) eVS
      refine lv_iload_n hx hb d_M_assign_2 rfl (lv_at hl 0 rfl) ?_
      refine lv_bipush (v := nI 20) hx hb d_M_assign_3 (by decide) ?_
      refine lv_icmp_ge (tgt := 31) hx hb d_M_assign_5 (by decide) (fun b9 => ?_) (fun b9 => ?_)
      · skip
        replace b9 := (nI_leI (a := 20) (b := i) (by omega) (by omega)).mp b9
        refine lv_aload_n hx hb d_M_assign_31 rfl (lv_at hl 1 rfl) ?_
        obtain ⟨th_11, n_12, dr_13, sz_14, ix_15, dp_16, wt_17, op_18, tp_19, wa_20, gi_21, pc_22, st_23, tr_24, sp_25, ma_26, lg_27, du_28, e10, c29, c30, c31, c32, c33, c34, c35, c36, c37, c38, c39, c40, c41, c42, c43⟩ := oc_11.of t_M (hI7.1 M)
        refine pf_get (v := .ref (g.lk M 27)) (C := "BigRunnerModel") (T := FT10) (N := 45) hx hb (hw10 hB _) (fun _ h9 => h9) hown hK hP (lo_in hL t_M (by decide)) e10 rfl 27 (by decide) (wd_974 hB _) rfl d_M_assign_32 ?_
        refine lv_iload_n hx hb d_M_assign_35 rfl (lv_at hl 2 rfl) ?_
        refine lv_aload_n hx hb d_M_assign_36 rfl (lv_at hl 1 rfl) ?_
        refine pf_get (v := .ref (g.lk M 31)) (C := "BigRunnerModel") (T := FT10) (N := 45) hx hb (hw10 hB _) (fun _ h9 => h9) hown hK hP (lo_in hL t_M (by decide)) e10 rfl 31 (by decide) (wd_978 hB _) rfl d_M_assign_37 ?_
        refine lv_iconst (v := nI 0) hx hb d_M_assign_40 (by decide) ?_
        refine pf_iald (i := 0) hx hb hK hP (lo_in hL (lo_k11_31 hL _ t_M) (by decide)) eSI (lo_t63 hL _ (lo_k11_31 hL _ t_M)) (by omega) (by decide) d_M_assign_41 ?_
        refine pf_iast (i := v9) hx hb hK hP hD hS (lo_in hL (lo_k11_27 hL _ t_M) (by decide)) eVS (lo_t59 hL _ (lo_k11_27 hL _ t_M)) (by omega) (by decide) d_M_assign_42 (fun f44 H locs e45 k46 hP hD hS => ?_)
        have eLI := (k46 (g.lk M 30) (tg_ne (lo_k11_30 hL _ t_M) (lo_k11_27 hL _ t_M) (by decide))).trans eLI
        have eSI := (k46 (g.lk M 31) (tg_ne (lo_k11_31 hL _ t_M) (lo_k11_27 hL _ t_M) (by decide))).trans eSI
        have e6 := (k46 (g.lk M 26) (tg_ne (lo_k11_26 hL _ t_M) (lo_k11_27 hL _ t_M) (by decide))).trans e6
        have e10 := (k46 M (tg_ne t_M (lo_k11_27 hL _ t_M) (by decide))).trans e10
        have hu : ∀ b, b ≠ (g.lk M 26) → b ≠ (g.lk M 27) → f44 b = f b := fun b q0 q1 => (k46 b q1).trans (hu b q0 q1)
        have hk47 : ∀ b, b ≠ (g.lk M 27) → f44 b = f2 b := k46
        have hI48 := iv_1 hI7 hL (lo_k11_27 hL _ t_M) (by decide) hk47 (oc_59.mk (lo_k11_27 hL _ t_M) (⟨_, e45⟩))
        exact pe_vret hx hb hr hlocks hK hP hD hS d_M_assign_43 ⟨⟨_, _, e6, e45, hc, VRS_u hVR hsf (fun j9 hj9 => upd_ne _ _ hj9) (SV_cp hx0 (fun i9 hi9 => hcp i9 (by omega)) (upd_at _ _ _))⟩, hI48, hu⟩
      · skip
        replace b9 := mt (nI_leI (a := 20) (b := i) (by omega) (by omega)).mpr b9
        refine lv_aload_n hx hb d_M_assign_8 rfl (lv_at hl 1 rfl) ?_
        obtain ⟨th_50, n_51, dr_52, sz_53, ix_54, dp_55, wt_56, op_57, tp_58, wa_59, gi_60, pc_61, st_62, tr_63, sp_64, ma_65, lg_66, du_67, e49, c68, c69, c70, c71, c72, c73, c74, c75, c76, c77, c78, c79, c80, c81, c82⟩ := oc_11.of t_M (hI7.1 M)
        refine pf_get (v := .ref (g.lk M 26)) (C := "BigRunnerModel") (T := FT10) (N := 45) hx hb (hw10 hB _) (fun _ h9 => h9) hown hK hP (lo_in hL t_M (by decide)) e49 rfl 26 (by decide) (wd_973 hB _) rfl d_M_assign_9 ?_
        refine lv_bipush (v := nI 20) hx hb d_M_assign_12 (by decide) ?_
        refine lv_iload_n hx hb d_M_assign_14 rfl (lv_at hl 2 rfl) ?_
        refine pf_imulN (x := 20) (y := v9) hx hb d_M_assign_15 ?_
        refine lv_iload_n hx hb d_M_assign_16 rfl (lv_at hl 0 rfl) ?_
        refine pf_iaddN (x := 20 * v9) (y := i) hx hb d_M_assign_17 ?_
        refine lv_aload_n hx hb d_M_assign_18 rfl (lv_at hl 1 rfl) ?_
        refine pf_get (v := .ref (g.lk M 30)) (C := "BigRunnerModel") (T := FT10) (N := 45) hx hb (hw10 hB _) (fun _ h9 => h9) hown hK hP (lo_in hL t_M (by decide)) e49 rfl 30 (by decide) (wd_977 hB _) rfl d_M_assign_19 ?_
        refine lv_iload_n hx hb d_M_assign_22 rfl (lv_at hl 0 rfl) ?_
        refine pf_iald (i := i) hx hb hK hP (lo_in hL (lo_k11_30 hL _ t_M) (by decide)) eLI (lo_t62 hL _ (lo_k11_30 hL _ t_M)) (by omega) (by decide) d_M_assign_23 ?_
        have hd83 := dg6_lt c6LI (j := i) (by omega)
        refine lv_topi (fun z_ hz_ => ?_)
        obtain rfl : z_ = nI (dg hLI i) := hz_.trans (dg6_eq c6LI (by omega))
        refine pf_iast (i := (20 * v9) + i) hx hb hK hP hD hS (lo_in hL (lo_k11_26 hL _ t_M) (by decide)) e6 (lo_t58 hL _ (lo_k11_26 hL _ t_M)) (by omega) (by decide) d_M_assign_24 (fun f84 H locs e85 k86 hP hD hS => ?_)
        have eLI := (k86 (g.lk M 30) (tg_ne (lo_k11_30 hL _ t_M) (lo_k11_26 hL _ t_M) (by decide))).trans eLI
        have eSI := (k86 (g.lk M 31) (tg_ne (lo_k11_31 hL _ t_M) (lo_k11_26 hL _ t_M) (by decide))).trans eSI
        have eVS := (k86 (g.lk M 27) (tg_ne (lo_k11_27 hL _ t_M) (lo_k11_26 hL _ t_M) (by decide))).trans eVS
        have e49 := (k86 M (tg_ne t_M (lo_k11_26 hL _ t_M) (by decide))).trans e49
        have hu : ∀ b, b ≠ (g.lk M 26) → b ≠ (g.lk M 27) → f84 b = f b := fun b q0 q1 => (k86 b q0).trans (hu b q0 q1)
        have hv8 := hv8.st k86 (lo_k11_26 hL _ t_M) (by decide)
        have hk87 : ∀ b, b ≠ (g.lk M 26) → f84 b = f2 b := k86
        have c88 := lb6_upd (n := 200) (i := (20 * v9) + i) (v := dg hLI i) hc (by omega)
        refine lv_iinc (k := 0) (v := nI (i + 1)) (lv' := [(2, .int (nI (i + 1))), (0, .ref M), (1, .int (nI v9))]) hx hb d_M_assign_25 hl rfl (by rw [nI_succ]; rfl) (by decide) rfl (fun ls hl => ?_)
        refine lv_goto (tgt := 2) hx hb d_M_assign_28 (by decide) ?_
        have hI89 := iv_1 hI7 hL (lo_k11_26 hL _ t_M) (by decide) hk87 (oc_58.mk (lo_k11_26 hL _ t_M) (⟨_, e85⟩))
        exact ih4 (i + 1) (upd h ((20 * v9) + i) ((nI (dg hLI i)))) f84 H locs ls (by omega) (by omega) c88 (fun j hj => by rcases Nat.lt_or_ge j i with q3 | q3; rw [dg_ne (by omega)]; exact hcp j q3; obtain rfl : j = i := (by omega); rw [dg_at (by omega), Nat.mul_zero, Nat.zero_add]) (SF_u hsf (by omega)) e85 hI89 hv8 hu hl hP hD hS
  exact lp1 21 0 hVL f s.heap [] ls (by omega) (by omega) c6VL (fun j hj => absurd hj (by omega)) SF_rf eVL hI un.rf hu hl hP hD hS
set_option maxHeartbeats 4000000 in
set_option maxRecDepth 100000 in
theorem w_takeInput (l : Launch) (g : Lay) (sz : Nat) (f : Nat → va_E) (M : Nat) (mth : Int32) (mn : Nat) (mdr : Nat) (msz : Nat) (mix : Nat) (mdp : Nat) (mwt : Nat) (mop : Nat) (mtp : Nat) (mwa : Nat) (mgi : Nat) (mpc : Nat) (mst : Nat) (mtr : Nat) (msp : Nat) (mma : Int32) (mlg : Int32) (mdu : Int32) (v9 : Nat) (hLI : Nat → Int32) (hSI : Nat → Int32) (hVL : Nat → Int32) (hVS : Nat → Int32) (hIN : Nat → Int32) (vr : Nat → Int) (x0 : Int) (ins : List Int) (hL : LO g) (t_M : g.tg M = 11) (hI : IV g f) (eM : f M = .inr (10, [.int mth, .ref (g.lk M 1), .int (nI mn), .ref (g.lk M 3), .ref (g.lk M 4), .int (nI mdr), .ref (g.lk M 6), .ref (g.lk M 7), .ref (g.lk M 8), .int (nI msz), .int (nI mix), .int (nI mdp), .ref (g.lk M 12), .int (nI mwt), .ref (g.lk M 14), .ref (g.lk M 15), .int (nI mop), .ref (g.lk M 17), .ref (g.lk M 18), .ref (g.lk M 19), .ref (g.lk M 20), .ref (g.lk M 21), .ref (g.lk M 22), .ref (g.lk M 23), .ref (g.lk M 24), .ref (g.lk M 25), .ref (g.lk M 26), .ref (g.lk M 27), .ref (g.lk M 28), .ref (g.lk M 29), .ref (g.lk M 30), .ref (g.lk M 31), .int (nI mtp), .ref (g.lk M 33), .ref (g.lk M 34), .ref (g.lk M 35), .int (nI mwa), .int (nI mgi), .int (nI mpc), .int (nI mst), .int (nI mtr), .int (nI msp), .int mma, .int mlg, .int mdu])) (hMB : mn ≤ 72 ∧ mdr ≤ 100 ∧ msz ≤ 100 ∧ mix ≤ 100 ∧ mdp ≤ 20 ∧ mwt ≤ 72 ∧ mop ≤ 40 ∧ mtp ≤ 80 ∧ mwa ≤ 20 ∧ mgi ≤ msp ∧ mpc ≤ 100 ∧ mst ≤ 4 ∧ mtr ≤ 3 ∧ msp ≤ 3000 ∧ (mdu = 0 ∨ mdu = 1)) (hv9 : v9 < 10) (hpc : mpc < 100) (eLI : f (g.lk M 30) = .inl (g.ac (g.lk M 30), 1600, .inl hLI)) (eSI : f (g.lk M 31) = .inl (g.ac (g.lk M 31), 80, .inl hSI)) (eVL : f (g.lk M 26) = .inl (g.ac (g.lk M 26), 200, .inl hVL)) (eVS : f (g.lk M 27) = .inl (g.ac (g.lk M 27), 10, .inl hVS)) (eIN : f (g.lk M 35) = .inl (g.ac (g.lk M 35), 20, .inl hIN)) (c6LI : C6 1600 hLI) (c6VL : C6 200 hVL) (hVR : VRS hVL hVS vr) (hINq : INM hIN mwa (x0 :: ins)) : Met l ⟨"BigRunnerModel", "takeInput", "(I)V"⟩ [Cond.code ⟨"BigRunnerModel", "takeInput", "(I)V"⟩ prog_12_method_43_code 3 none] ({ frames := 1, cells := 0, slots := 0, locals := 23 }) (va_Pc [.ref M, .int (nI v9)] (pc_in g sz f)) (va_Qv (fun f1 => (∃ (wa1 : Nat) (pc1 : Nat), (wa1 + 1 = mwa) ∧ (pc1 = mpc + 1) ∧ f1 M = .inr (10, [.int mth, .ref (g.lk M 1), .int (nI mn), .ref (g.lk M 3), .ref (g.lk M 4), .int (nI mdr), .ref (g.lk M 6), .ref (g.lk M 7), .ref (g.lk M 8), .int (nI msz), .int (nI mix), .int (nI mdp), .ref (g.lk M 12), .int (nI mwt), .ref (g.lk M 14), .ref (g.lk M 15), .int (nI mop), .ref (g.lk M 17), .ref (g.lk M 18), .ref (g.lk M 19), .ref (g.lk M 20), .ref (g.lk M 21), .ref (g.lk M 22), .ref (g.lk M 23), .ref (g.lk M 24), .ref (g.lk M 25), .ref (g.lk M 26), .ref (g.lk M 27), .ref (g.lk M 28), .ref (g.lk M 29), .ref (g.lk M 30), .ref (g.lk M 31), .int (nI mtp), .ref (g.lk M 33), .ref (g.lk M 34), .ref (g.lk M 35), .int (nI wa1), .int (nI mgi), .int (nI pc1), .int (nI mst), .int (nI mtr), .int (nI msp), .int mma, .int mlg, .int mdu])) ∧ (∃ hl hs hv hw hi : Nat → Int32, f1 (g.lk M 30) = .inl (g.ac (g.lk M 30), 1600, .inl hl) ∧ f1 (g.lk M 31) = .inl (g.ac (g.lk M 31), 80, .inl hs) ∧ f1 (g.lk M 26) = .inl (g.ac (g.lk M 26), 200, .inl hv) ∧ f1 (g.lk M 27) = .inl (g.ac (g.lk M 27), 10, .inl hw) ∧ f1 (g.lk M 35) = .inl (g.ac (g.lk M 35), 20, .inl hi) ∧ C6 1600 hl ∧ C6 200 hv ∧ VRS hv hw (uI vr v9 x0) ∧ INM hi (mwa - 1) ins) ∧ (IV g f1) ∧ (un [11, 58, 59, 62, 63, 66] g f f1)) (pc_out g sz) (pc_A g sz)) 0 0 (pc_A g sz) := by
  refine pe_ofW (cc := prog_12_method_43_code) (maxL := 3) (ret := none) (lv := [(0, .ref M), (1, .int (nI v9))]) (by decide) (Nat.le_of_ble_eq_true rfl) rfl ?_
  intro p e s m args below meth c ls hx hb hr hml hlocks hown hB hP hK hD hsz hS hl
  subst hsz
  have hu : un [11, 58, 59, 62, 63, 66] g f f := un.rf
  obtain ⟨hmb0, hmb1, hmb2, hmb3, hmb4, hmb5, hmb6, hmb7, hmb8, hmb9, hmb10, hmb11, hmb12, hmb13, hmb14⟩ := hMB
  obtain ⟨hwa, hk9⟩ := hINq
  have hwa1 : mwa = ins.length + 1 := hwa
  obtain ⟨hx0, hx9⟩ := hk9 0 (by omega)
  have hx9 : x0.natAbs ≤ 1000000000 := hx9
  refine lv_aload_n hx hb d_M_takeInput_0 rfl (lv_at hl 0 rfl) ?_
  refine lv_iconst (v := nI 0) hx hb d_M_takeInput_1 (by decide) ?_
  refine lv_aload_n hx hb d_M_takeInput_2 rfl (lv_at hl 0 rfl) ?_
  refine pf_get (v := .ref (g.lk M 35)) (C := "BigRunnerModel") (T := FT10) (N := 45) hx hb (hw10 hB _) (fun _ h9 => h9) hown hK hP (lo_in hL t_M (by decide)) eM rfl 35 (by decide) (wd_982 hB _) rfl d_M_takeInput_3 ?_
  refine lv_iconst (v := nI 0) hx hb d_M_takeInput_6 (by decide) ?_
  refine pf_iald (i := 0) hx hb hK hP (lo_in hL (lo_k11_35 hL _ t_M) (by decide)) eIN (lo_t66 hL _ (lo_k11_35 hL _ t_M)) (by omega) (by decide) d_M_takeInput_7 ?_
  refine pcc_v (va_runV (C := "BigRunnerModel") (As := [.int (nI 0), .int (hIN 0)]) (rest := []) ⟨hx, hb, hml, hown, tb_nil⟩ (w_setNumber l g s.heap.size f M 0 ((hIN 0)) hLI hSI hL t_M hI eLI eSI c6LI (by omega) (by rw [hx0]; exact hx9)) ⟨(callB_of 2 (tb_one (wd_1211 hB _)) tb_good1 rfl rfl rfl (wd_82 hB _) (wd_1208 hB _) (by decide +kernel) ⟨Nat.le_of_ble_eq_true rfl, Nat.le_of_ble_eq_true rfl⟩), (wd_1210 hB _), (wd_59 hB _)⟩ ⟨pe_bl, pg_recv (ci := 10) hK hP (lo_in hL t_M (by decide)) eM rfl, pe_pre hB hK hP hD⟩ rfl rfl hl.1 rfl (lv_room (Nat.le_of_ble_eq_true rfl)) d_M_takeInput_8 ⟨Nat.le_of_ble_eq_true rfl, Nat.le_of_ble_eq_true rfl⟩) hS (fun f2 H locs hq3 hP hD hS => ?_)
  obtain ⟨sn_4, hI1_5, hk1_6⟩ := hq3
  have hu := hu.st2 hk1_6 (lo_k11_30 hL _ t_M) (lo_k11_31 hL _ t_M) (by decide) (by decide)
  have eM := (hk1_6 M (tg_ne t_M (lo_k11_30 hL _ t_M) (by decide)) (tg_ne t_M (lo_k11_31 hL _ t_M) (by decide))).trans eM
  have eVL := (hk1_6 (g.lk M 26) (tg_ne (lo_k11_26 hL _ t_M) (lo_k11_30 hL _ t_M) (by decide)) (tg_ne (lo_k11_26 hL _ t_M) (lo_k11_31 hL _ t_M) (by decide))).trans eVL
  have eVS := (hk1_6 (g.lk M 27) (tg_ne (lo_k11_27 hL _ t_M) (lo_k11_30 hL _ t_M) (by decide)) (tg_ne (lo_k11_27 hL _ t_M) (lo_k11_31 hL _ t_M) (by decide))).trans eVS
  have eIN := (hk1_6 (g.lk M 35) (tg_ne (lo_k11_35 hL _ t_M) (lo_k11_30 hL _ t_M) (by decide)) (tg_ne (lo_k11_35 hL _ t_M) (lo_k11_31 hL _ t_M) (by decide))).trans eIN
  obtain ⟨hl_7, hs_8, e9, e10, c11, hsv12, hsf13, hss14⟩ := sn_4
  have hsx9 : SV hl_7 hs_8 0 x0 := by have z9 := hsv12; rw [hx0] at z9; exact z9
  refine lv_aload_n hx hb d_M_takeInput_11 rfl (lv_at hl 0 rfl) ?_
  refine lv_iload_n hx hb d_M_takeInput_12 rfl (lv_at hl 1 rfl) ?_
  refine pcc_v (va_runV (C := "BigRunnerModel") (As := [.int (nI v9)]) (rest := []) ⟨hx, hb, hml, hown, tb_nil⟩ (w_assign l g H.size f2 M v9 vr x0 hl_7 hs_8 hVL hVS hL t_M hI1_5 e9 e10 eVL eVS c11 c6VL (by omega) hVR hsx9) ⟨(callB_of 1 (tb_one (wd_1216 hB _)) tb_good1 rfl rfl rfl (wd_82 hB _) (wd_1213 hB _) (by decide +kernel) ⟨Nat.le_of_ble_eq_true rfl, Nat.le_of_ble_eq_true rfl⟩), (wd_1215 hB _), (wd_60 hB _)⟩ ⟨pe_bl, pg_recv (ci := 10) hK hP (lo_in hL t_M (by decide)) eM rfl, pe_pre hB hK hP hD⟩ rfl rfl hl.1 rfl (lv_room (Nat.le_of_ble_eq_true rfl)) d_M_takeInput_13 ⟨Nat.le_of_ble_eq_true rfl, Nat.le_of_ble_eq_true rfl⟩) hS (fun f16 H locs hq17 hP hD hS => ?_)
  obtain ⟨vq_18, hI1_19, hk1_20⟩ := hq17
  have hu := hu.st2 hk1_20 (lo_k11_26 hL _ t_M) (lo_k11_27 hL _ t_M) (by decide) (by decide)
  have eM := (hk1_20 M (tg_ne t_M (lo_k11_26 hL _ t_M) (by decide)) (tg_ne t_M (lo_k11_27 hL _ t_M) (by decide))).trans eM
  have eIN := (hk1_20 (g.lk M 35) (tg_ne (lo_k11_35 hL _ t_M) (lo_k11_26 hL _ t_M) (by decide)) (tg_ne (lo_k11_35 hL _ t_M) (lo_k11_27 hL _ t_M) (by decide))).trans eIN
  have e9 := (hk1_20 (g.lk M 30) (tg_ne (lo_k11_30 hL _ t_M) (lo_k11_26 hL _ t_M) (by decide)) (tg_ne (lo_k11_30 hL _ t_M) (lo_k11_27 hL _ t_M) (by decide))).trans e9
  have e10 := (hk1_20 (g.lk M 31) (tg_ne (lo_k11_31 hL _ t_M) (lo_k11_26 hL _ t_M) (by decide)) (tg_ne (lo_k11_31 hL _ t_M) (lo_k11_27 hL _ t_M) (by decide))).trans e10
  obtain ⟨hv_21, hw_22, e23, e24, c25, hvq26⟩ := vq_18
  refine lv_aload_n hx hb d_M_takeInput_16 rfl (lv_at hl 0 rfl) ?_
  refine lv_dup hx hb d_M_takeInput_17 rfl ?_
  refine pf_get (v := .int (nI mwa)) (C := "BigRunnerModel") (T := FT10) (N := 45) hx hb (hw10 hB _) (fun _ h9 => h9) hown hK hP (lo_in hL t_M (by decide)) eM rfl 36 (by decide) (wd_983 hB _) rfl d_M_takeInput_18 ?_
  refine lv_iconst (v := nI 1) hx hb d_M_takeInput_21 (by decide) ?_
  refine pf_isubN (x := mwa) (y := 1) hx hb (by omega) d_M_takeInput_22 ?_
  refine pf_put (v := .int (nI (mwa - 1))) (ty := .int) (fs' := [.int mth, .ref (g.lk M 1), .int (nI mn), .ref (g.lk M 3), .ref (g.lk M 4), .int (nI mdr), .ref (g.lk M 6), .ref (g.lk M 7), .ref (g.lk M 8), .int (nI msz), .int (nI mix), .int (nI mdp), .ref (g.lk M 12), .int (nI mwt), .ref (g.lk M 14), .ref (g.lk M 15), .int (nI mop), .ref (g.lk M 17), .ref (g.lk M 18), .ref (g.lk M 19), .ref (g.lk M 20), .ref (g.lk M 21), .ref (g.lk M 22), .ref (g.lk M 23), .ref (g.lk M 24), .ref (g.lk M 25), .ref (g.lk M 26), .ref (g.lk M 27), .ref (g.lk M 28), .ref (g.lk M 29), .ref (g.lk M 30), .ref (g.lk M 31), .int (nI mtp), .ref (g.lk M 33), .ref (g.lk M 34), .ref (g.lk M 35), .int (nI (mwa - 1)), .int (nI mgi), .int (nI mpc), .int (nI mst), .int (nI mtr), .int (nI msp), .int mma, .int mlg, .int mdu]) (C := "BigRunnerModel") (T := FT10) (N := 45) hx hb (hw10 hB _) (fun _ h9 => h9) TY10 ok10 nm10 hown hK hP hD hS (lo_in hL t_M (by decide)) eM rfl 36 (by decide) (wd_983 hB _) rfl (by decide +kernel) rfl rfl (Nat.le_of_ble_eq_true rfl) rfl d_M_takeInput_23 (fun f27 H locs e28 k29 hP hD hS => ?_)
  have eIN := (k29 (g.lk M 35) (tg_ne (lo_k11_35 hL _ t_M) t_M (by decide))).trans eIN
  have e9 := (k29 (g.lk M 30) (tg_ne (lo_k11_30 hL _ t_M) t_M (by decide))).trans e9
  have e10 := (k29 (g.lk M 31) (tg_ne (lo_k11_31 hL _ t_M) t_M (by decide))).trans e10
  have e23 := (k29 (g.lk M 26) (tg_ne (lo_k11_26 hL _ t_M) t_M (by decide))).trans e23
  have e24 := (k29 (g.lk M 27) (tg_ne (lo_k11_27 hL _ t_M) t_M (by decide))).trans e24
  have hu := hu.st k29 t_M (by decide)
  have hk30 : ∀ b, b ≠ M → f27 b = f16 b := k29
  refine lv_iconst (v := nI 0) hx hb d_M_takeInput_26 (by decide) ?_
  refine lv_istore_n (lv' := [(2, .int (nI 0)), (0, .ref M), (1, .int (nI v9))]) hx hb d_M_takeInput_27 rfl hl (by decide) rfl (fun ls hl => ?_)
  have hI31 := iv_1 hI1_19 hL t_M (by decide) hk30 (oc_11.mk t_M (⟨mth, mn, mdr, msz, mix, mdp, mwt, mop, mtp, (mwa - 1), mgi, mpc, mst, mtr, msp, mma, mlg, mdu, e28, (by omega), (by omega), (by omega), (by omega), (by omega), (by omega), (by omega), (by omega), (by omega), (by omega), (by omega), (by omega), (by omega), (by omega), hmb14⟩))
  have lp32 : ∀ (k34 : Nat) (i : Nat) (h : Nat → Int32) (f33 : Nat → va_E) (H : Heap) (locs : List Loc) (ls : Array Slot), (mwa - 1 < i + k34) → (i ≤ mwa - 1) → (∀ j, j < i → h j = hIN (j + 1)) → (∀ j, i ≤ j → h j = hIN j) → f33 (g.lk M 35) = .inl (g.ac (g.lk M 35), 20, .inl (h)) → IV g f33 → un [66] g f27 f33 → lv_has ls 3 [(2, .int (nI i)), (0, .ref M), (1, .int (nI v9))] → va_P g.D vcl (va_pl g.LP f33) H → va_D (pc_A g s.heap.size) (va_pl g.LP f33) → va_S (pc_A g s.heap.size) s.heap H locs → W p l e ({ frames := 1, cells := 0, slots := 0, locals := 23 }) s m args below meth c H locs 0 0 (MQ below (va_Qv (fun f1 => (∃ (wa1 : Nat) (pc1 : Nat), (wa1 + 1 = mwa) ∧ (pc1 = mpc + 1) ∧ f1 M = .inr (10, [.int mth, .ref (g.lk M 1), .int (nI mn), .ref (g.lk M 3), .ref (g.lk M 4), .int (nI mdr), .ref (g.lk M 6), .ref (g.lk M 7), .ref (g.lk M 8), .int (nI msz), .int (nI mix), .int (nI mdp), .ref (g.lk M 12), .int (nI mwt), .ref (g.lk M 14), .ref (g.lk M 15), .int (nI mop), .ref (g.lk M 17), .ref (g.lk M 18), .ref (g.lk M 19), .ref (g.lk M 20), .ref (g.lk M 21), .ref (g.lk M 22), .ref (g.lk M 23), .ref (g.lk M 24), .ref (g.lk M 25), .ref (g.lk M 26), .ref (g.lk M 27), .ref (g.lk M 28), .ref (g.lk M 29), .ref (g.lk M 30), .ref (g.lk M 31), .int (nI mtp), .ref (g.lk M 33), .ref (g.lk M 34), .ref (g.lk M 35), .int (nI wa1), .int (nI mgi), .int (nI pc1), .int (nI mst), .int (nI mtr), .int (nI msp), .int mma, .int mlg, .int mdu])) ∧ (∃ hl hs hv hw hi : Nat → Int32, f1 (g.lk M 30) = .inl (g.ac (g.lk M 30), 1600, .inl hl) ∧ f1 (g.lk M 31) = .inl (g.ac (g.lk M 31), 80, .inl hs) ∧ f1 (g.lk M 26) = .inl (g.ac (g.lk M 26), 200, .inl hv) ∧ f1 (g.lk M 27) = .inl (g.ac (g.lk M 27), 10, .inl hw) ∧ f1 (g.lk M 35) = .inl (g.ac (g.lk M 35), 20, .inl hi) ∧ C6 1600 hl ∧ C6 200 hv ∧ VRS hv hw (uI vr v9 x0) ∧ INM hi (mwa - 1) ins) ∧ (IV g f1) ∧ (un [11, 58, 59, 62, 63, 66] g f f1)) (pc_out g s.heap.size) (pc_A g s.heap.size)) args s 0 0 (pc_A g s.heap.size)) (F0 m 28 ls []) := by
    intro k34
    induction k34 with
    | zero => intros; exfalso; omega
    | succ k34 ih35 =>
      intro i h f33 H locs ls hfu36 hi hcp hcq e37 hI38 hv39 hl hP hD hS
      have e9 := hv39.at (lo_k11_30 hL _ t_M) (by decide) e9
      have e10 := hv39.at (lo_k11_31 hL _ t_M) (by decide) e10
      have e23 := hv39.at (lo_k11_26 hL _ t_M) (by decide) e23
      have e24 := hv39.at (lo_k11_27 hL _ t_M) (by decide) e24
      have e28 := hv39.at t_M (by decide) e28
      have hu := hu.tr hv39 (by decide)
      refine lv_iload_n hx hb d_M_takeInput_28 rfl (lv_at hl 0 rfl) ?_
      refine lv_aload_n hx hb d_M_takeInput_29 rfl (lv_at hl 1 rfl) ?_
      refine pf_get (v := .int (nI (mwa - 1))) (C := "BigRunnerModel") (T := FT10) (N := 45) hx hb (hw10 hB _) (fun _ h9 => h9) hown hK hP (lo_in hL t_M (by decide)) e28 rfl 36 (by decide) (wd_983 hB _) rfl d_M_takeInput_30 ?_
      refine lv_icmp_ge (tgt := 56) hx hb d_M_takeInput_33 (by decide) (fun b40 => ?_) (fun b40 => ?_)
      · skip
        replace b40 := (nI_leI (a := mwa - 1) (b := i) (by omega) (by omega)).mp b40
        refine lv_aload_n hx hb d_M_takeInput_56 rfl (lv_at hl 1 rfl) ?_
        refine lv_dup hx hb d_M_takeInput_57 rfl ?_
        refine pf_get (v := .int (nI mpc)) (C := "BigRunnerModel") (T := FT10) (N := 45) hx hb (hw10 hB _) (fun _ h9 => h9) hown hK hP (lo_in hL t_M (by decide)) e28 rfl 38 (by decide) (wd_985 hB _) rfl d_M_takeInput_58 ?_
        refine lv_iconst (v := nI 1) hx hb d_M_takeInput_61 (by decide) ?_
        refine pf_iaddN (x := mpc) (y := 1) hx hb d_M_takeInput_62 ?_
        refine pf_put (v := .int (nI (mpc + 1))) (ty := .int) (fs' := [.int mth, .ref (g.lk M 1), .int (nI mn), .ref (g.lk M 3), .ref (g.lk M 4), .int (nI mdr), .ref (g.lk M 6), .ref (g.lk M 7), .ref (g.lk M 8), .int (nI msz), .int (nI mix), .int (nI mdp), .ref (g.lk M 12), .int (nI mwt), .ref (g.lk M 14), .ref (g.lk M 15), .int (nI mop), .ref (g.lk M 17), .ref (g.lk M 18), .ref (g.lk M 19), .ref (g.lk M 20), .ref (g.lk M 21), .ref (g.lk M 22), .ref (g.lk M 23), .ref (g.lk M 24), .ref (g.lk M 25), .ref (g.lk M 26), .ref (g.lk M 27), .ref (g.lk M 28), .ref (g.lk M 29), .ref (g.lk M 30), .ref (g.lk M 31), .int (nI mtp), .ref (g.lk M 33), .ref (g.lk M 34), .ref (g.lk M 35), .int (nI (mwa - 1)), .int (nI mgi), .int (nI (mpc + 1)), .int (nI mst), .int (nI mtr), .int (nI msp), .int mma, .int mlg, .int mdu]) (C := "BigRunnerModel") (T := FT10) (N := 45) hx hb (hw10 hB _) (fun _ h9 => h9) TY10 ok10 nm10 hown hK hP hD hS (lo_in hL t_M (by decide)) e28 rfl 38 (by decide) (wd_985 hB _) rfl (by decide +kernel) rfl rfl (Nat.le_of_ble_eq_true rfl) rfl d_M_takeInput_63 (fun f41 H locs e42 k43 hP hD hS => ?_)
        have e9 := (k43 (g.lk M 30) (tg_ne (lo_k11_30 hL _ t_M) t_M (by decide))).trans e9
        have e10 := (k43 (g.lk M 31) (tg_ne (lo_k11_31 hL _ t_M) t_M (by decide))).trans e10
        have e23 := (k43 (g.lk M 26) (tg_ne (lo_k11_26 hL _ t_M) t_M (by decide))).trans e23
        have e24 := (k43 (g.lk M 27) (tg_ne (lo_k11_27 hL _ t_M) t_M (by decide))).trans e24
        have e37 := (k43 (g.lk M 35) (tg_ne (lo_k11_35 hL _ t_M) t_M (by decide))).trans e37
        have hu := hu.st k43 t_M (by decide)
        have hk44 : ∀ b, b ≠ M → f41 b = f33 b := k43
        have hI45 := iv_1 hI38 hL t_M (by decide) hk44 (oc_11.mk t_M (⟨mth, mn, mdr, msz, mix, mdp, mwt, mop, mtp, (mwa - 1), mgi, (mpc + 1), mst, mtr, msp, mma, mlg, mdu, e42, (by omega), (by omega), (by omega), (by omega), (by omega), (by omega), (by omega), (by omega), (by omega), (by omega), (by omega), (by omega), (by omega), (by omega), hmb14⟩))
        exact pe_vret hx hb hr hlocks hK hP hD hS d_M_takeInput_66 ⟨⟨(mwa - 1), (mpc + 1), by omega, rfl, e42⟩, ⟨_, _, _, _, _, e9, e10, e23, e24, e37, c11, c25, hvq26, by omega, fun k8 hk8 => by rw [hcp k8 (by omega)]; exact hk9 (k8 + 1) (by omega)⟩, hI45, hu⟩
      · skip
        replace b40 := mt (nI_leI (a := mwa - 1) (b := i) (by omega) (by omega)).mpr b40
        refine lv_aload_n hx hb d_M_takeInput_36 rfl (lv_at hl 1 rfl) ?_
        refine pf_get (v := .ref (g.lk M 35)) (C := "BigRunnerModel") (T := FT10) (N := 45) hx hb (hw10 hB _) (fun _ h9 => h9) hown hK hP (lo_in hL t_M (by decide)) e28 rfl 35 (by decide) (wd_982 hB _) rfl d_M_takeInput_37 ?_
        refine lv_iload_n hx hb d_M_takeInput_40 rfl (lv_at hl 0 rfl) ?_
        refine lv_aload_n hx hb d_M_takeInput_41 rfl (lv_at hl 1 rfl) ?_
        refine pf_get (v := .ref (g.lk M 35)) (C := "BigRunnerModel") (T := FT10) (N := 45) hx hb (hw10 hB _) (fun _ h9 => h9) hown hK hP (lo_in hL t_M (by decide)) e28 rfl 35 (by decide) (wd_982 hB _) rfl d_M_takeInput_42 ?_
        refine lv_iload_n hx hb d_M_takeInput_45 rfl (lv_at hl 0 rfl) ?_
        refine lv_iconst (v := nI 1) hx hb d_M_takeInput_46 (by decide) ?_
        refine pf_iaddN (x := i) (y := 1) hx hb d_M_takeInput_47 ?_
        refine pf_iald (i := i + 1) hx hb hK hP (lo_in hL (lo_k11_35 hL _ t_M) (by decide)) e37 (lo_t66 hL _ (lo_k11_35 hL _ t_M)) (by omega) (by decide) d_M_takeInput_48 ?_
        refine pf_iast (i := i) hx hb hK hP hD hS (lo_in hL (lo_k11_35 hL _ t_M) (by decide)) e37 (lo_t66 hL _ (lo_k11_35 hL _ t_M)) (by omega) (by decide) d_M_takeInput_49 (fun f46 H locs e47 k48 hP hD hS => ?_)
        have e9 := (k48 (g.lk M 30) (tg_ne (lo_k11_30 hL _ t_M) (lo_k11_35 hL _ t_M) (by decide))).trans e9
        have e10 := (k48 (g.lk M 31) (tg_ne (lo_k11_31 hL _ t_M) (lo_k11_35 hL _ t_M) (by decide))).trans e10
        have e23 := (k48 (g.lk M 26) (tg_ne (lo_k11_26 hL _ t_M) (lo_k11_35 hL _ t_M) (by decide))).trans e23
        have e24 := (k48 (g.lk M 27) (tg_ne (lo_k11_27 hL _ t_M) (lo_k11_35 hL _ t_M) (by decide))).trans e24
        have e28 := (k48 M (tg_ne t_M (lo_k11_35 hL _ t_M) (by decide))).trans e28
        have hu := hu.st k48 (lo_k11_35 hL _ t_M) (by decide)
        have hv39 := hv39.st k48 (lo_k11_35 hL _ t_M) (by decide)
        have hk49 : ∀ b, b ≠ (g.lk M 35) → f46 b = f33 b := k48
        refine lv_iinc (k := 0) (v := nI (i + 1)) (lv' := [(2, .int (nI (i + 1))), (0, .ref M), (1, .int (nI v9))]) hx hb d_M_takeInput_50 hl rfl (by rw [nI_succ]; rfl) (by decide) rfl (fun ls hl => ?_)
        refine lv_goto (tgt := 28) hx hb d_M_takeInput_53 (by decide) ?_
        have hI50 := iv_1 hI38 hL (lo_k11_35 hL _ t_M) (by decide) hk49 (oc_66.mk (lo_k11_35 hL _ t_M) (⟨_, e47⟩))
        exact ih35 (i + 1) (upd h i ((h (i + 1)))) f46 H locs ls (by omega) (by omega) (fun j hj => by rcases Nat.lt_or_ge j i with q3 | q3; rw [upd_ne _ _ (by omega)]; exact hcp j q3; obtain rfl : j = i := (by omega); rw [upd_at]; exact hcq (j + 1) (by omega)) (fun j hj => by rw [upd_ne _ _ (by omega)]; exact hcq j (by omega)) e47 hI50 hv39 hl hP hD hS
  exact lp32 mwa 0 hIN f27 H locs ls (by omega) (by omega) (fun j hj => absurd hj (by omega)) (fun _ _ => rfl) eIN hI31 un.rf hl hP hD hS

