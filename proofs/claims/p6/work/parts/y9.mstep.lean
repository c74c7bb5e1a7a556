theorem SV_le {h s : Nat → Int32} {k : Nat} {v : Int} (q : SV h s k v) : s k ≤ nI 0 ↔ v ≤ 0 := by rw [q.1]; exact sgI_le v
theorem OUM_SF {h h1 s : Nat → Int32} {outs : List Int} (q : OUM h s outs) (e : SF outs.length h h1) (hl : 12 ≤ outs.length) : OUM h1 s outs := fun k hk hk2 => SV_SF (q k hk hk2) e (fun _ _ => rfl) (by omega)
theorem ev1_3 (vr : Nat → Int) (w a : Nat) (S : List Int) : (ev1 vr w a S).1 ≤ 2 := by
  unfold ev1
  repeat' split
  all_goals first | exact Nat.zero_le _ | (show 1 ≤ 2; decide) | (show 2 ≤ 2; decide)
theorem TR_ev {vr : Nat → Int} {w v t t1 : Nat} {V : List Int} (hs : WS w v t) (hw : w < 8) (ht : t = V.length) (h1 : t1 = (ev1 vr w v V).2.length) (h0 : (ev1 vr w v V).1 = 0) : TR w t t1 := by
  obtain ⟨-, -, h7, h2⟩ := hs
  rcases (show w = 0 ∨ w = 1 ∨ (2 ≤ w ∧ w < 7) ∨ w = 7 by omega) with z | z | z | z
  · subst z
    have h1 : t1 = V.length + 1 := h1
    exact TR.mk (fun _ => by omega) (fun q => by omega) (fun q _ => by omega)
  · subst z
    have h1 : t1 = V.length + 1 := h1
    exact TR.mk (fun _ => by omega) (fun q => by omega) (fun q _ => by omega)
  · have h2 := h2 z.1 z.2
    cases V with
    | nil => (exfalso; have q : t = 0 := ht; omega)
    | cons y V =>
      cases V with
      | nil => (exfalso; have q : t = 0 + 1 := ht; omega)
      | cons x V =>
        have ht : t = V.length + 1 + 1 := ht
        by_cases q : otr w x y = 0
        · rw [ev1_z vr z.1 z.2 q] at h1
          have h1 : t1 = V.length + 1 := h1
          exact TR.mk (fun _ => by omega) (fun q => by omega) (fun q _ => by omega)
        · rw [ev1_t vr z.1 z.2 q] at h0
          exact absurd h0 q
  · subst z
    have h7 := h7 rfl
    cases V with
    | nil => (exfalso; have q : t = 0 := ht; omega)
    | cons x V =>
      have ht : t = V.length + 1 := ht
      have h1 : t1 = V.length + 1 := h1
      exact TR.mk (fun _ => by omega) (fun q => by omega) (fun q _ => by omega)
set_option maxHeartbeats 4000000 in
set_option maxRecDepth 100000 in
theorem w_step (l : Launch) (g : Lay) (sz : Nat) (f : Nat → va_E) (M : Nat) (mth : Int32) (mn : Nat) (mdr : Nat) (msz : Nat) (mix : Nat) (mdp : Nat) (mwt : Nat) (mop : Nat) (mtp : Nat) (mwa : Nat) (mgi : Nat) (mpc : Nat) (mst : Nat) (mtr : Nat) (msp : Nat) (mma : Int32) (mlg : Int32) (mdu : Int32) (hC : Nat → Int32) (hA : Nat → Int32) (dpf : Nat → Nat) (hLI : Nat → Int32) (hSI : Nat → Int32) (hRE : Nat → Int32) (hRS : Nat → Int32) (hVL : Nat → Int32) (hVS : Nat → Int32) (hOL : Nat → Int32) (hOS : Nat → Int32) (hIN : Nat → Int32) (L : List (Nat × Nat)) (s9 : PS) (hL : LO g) (t_M : g.tg M = 11) (hI : IV g f) (eM : f M = .inr (10, [.int mth, .ref (g.lk M 1), .int (nI mn), .ref (g.lk M 3), .ref (g.lk M 4), .int (nI mdr), .ref (g.lk M 6), .ref (g.lk M 7), .ref (g.lk M 8), .int (nI msz), .int (nI mix), .int (nI mdp), .ref (g.lk M 12), .int (nI mwt), .ref (g.lk M 14), .ref (g.lk M 15), .int (nI mop), .ref (g.lk M 17), .ref (g.lk M 18), .ref (g.lk M 19), .ref (g.lk M 20), .ref (g.lk M 21), .ref (g.lk M 22), .ref (g.lk M 23), .ref (g.lk M 24), .ref (g.lk M 25), .ref (g.lk M 26), .ref (g.lk M 27), .ref (g.lk M 28), .ref (g.lk M 29), .ref (g.lk M 30), .ref (g.lk M 31), .int (nI mtp), .ref (g.lk M 33), .ref (g.lk M 34), .ref (g.lk M 35), .int (nI mwa), .int (nI mgi), .int (nI mpc), .int (nI mst), .int (nI mtr), .int (nI msp), .int mma, .int mlg, .int mdu])) (hMB : mn ≤ 72 ∧ mdr ≤ 100 ∧ msz ≤ 100 ∧ mix ≤ 100 ∧ mdp ≤ 20 ∧ mwt ≤ 72 ∧ mop ≤ 40 ∧ mtp ≤ 80 ∧ mwa ≤ 20 ∧ mgi ≤ msp ∧ mpc ≤ 100 ∧ mst ≤ 4 ∧ mtr ≤ 3 ∧ msp ≤ 3000 ∧ (mdu = 0 ∨ mdu = 1)) (eC : f (g.lk M 6) = .inl (g.ac (g.lk M 6), 100, .inl hC)) (eA : f (g.lk M 7) = .inl (g.ac (g.lk M 7), 100, .inl hA)) (hWF : WF hC hA dpf msz) (hpz : mpc < msz) (hd0 : dpf mpc = 0) (hn12 : hC mpc ≠ nI 12) (h9w : hC mpc ≠ nI 9 ∨ 0 < mwa) (htr0 : mtr = 0) (hsp : msp < 3000) (eLI : f (g.lk M 30) = .inl (g.ac (g.lk M 30), 1600, .inl hLI)) (eSI : f (g.lk M 31) = .inl (g.ac (g.lk M 31), 80, .inl hSI)) (eRE : f (g.lk M 33) = .inl (g.ac (g.lk M 33), 44, .inl hRE)) (eRS : f (g.lk M 34) = .inl (g.ac (g.lk M 34), 44, .inl hRS)) (eVL : f (g.lk M 26) = .inl (g.ac (g.lk M 26), 200, .inl hVL)) (eVS : f (g.lk M 27) = .inl (g.ac (g.lk M 27), 10, .inl hVS)) (eOL : f (g.lk M 28) = .inl (g.ac (g.lk M 28), 240, .inl hOL)) (eOS : f (g.lk M 29) = .inl (g.ac (g.lk M 29), 12, .inl hOS)) (eIN : f (g.lk M 35) = .inl (g.ac (g.lk M 35), 20, .inl hIN)) (c6LI : C6 1600 hLI) (c6RE : C6 44 hRE) (c6RS : C6 44 hRS) (c6VL : C6 200 hVL) (c6OL : C6 240 hOL) (hMCL : MCL hC hA dpf msz L) (hMQ : MQ9 hVL hVS hOL hOS hIN mwa mgi msp mtr mpc s9) : Met l ⟨"BigRunnerModel", "step", "()V"⟩ [Cond.code ⟨"BigRunnerModel", "step", "()V"⟩ prog_12_method_44_code 2 none] ({ frames := 4, cells := 0, slots := 0, locals := 103 }) (va_Pc [.ref M] (pc_in g sz f)) (va_Qv (fun f1 => (∃ (tp1 : Nat) (wa1 : Nat) (gi1 : Nat) (pc1 : Nat) (tr1 : Nat) (sp1 : Nat) (ma1 : Int32) (lg1 : Int32), (tp1 ≤ 80) ∧ (wa1 ≤ 20) ∧ (gi1 ≤ sp1) ∧ (pc1 ≤ 100) ∧ (tr1 ≤ 2) ∧ (sp1 = msp + 1) ∧ (PCO dpf msz pc1 tr1) ∧ (∃ hl hs hr hq hv hw ho hp hi : Nat → Int32, f1 (g.lk M 30) = .inl (g.ac (g.lk M 30), 1600, .inl hl) ∧ f1 (g.lk M 31) = .inl (g.ac (g.lk M 31), 80, .inl hs) ∧ f1 (g.lk M 33) = .inl (g.ac (g.lk M 33), 44, .inl hr) ∧ f1 (g.lk M 34) = .inl (g.ac (g.lk M 34), 44, .inl hq) ∧ f1 (g.lk M 26) = .inl (g.ac (g.lk M 26), 200, .inl hv) ∧ f1 (g.lk M 27) = .inl (g.ac (g.lk M 27), 10, .inl hw) ∧ f1 (g.lk M 28) = .inl (g.ac (g.lk M 28), 240, .inl ho) ∧ f1 (g.lk M 29) = .inl (g.ac (g.lk M 29), 12, .inl hp) ∧ f1 (g.lk M 35) = .inl (g.ac (g.lk M 35), 20, .inl hi) ∧ C6 1600 hl ∧ C6 44 hr ∧ C6 44 hq ∧ C6 200 hv ∧ C6 240 ho ∧ MQ9 hv hw ho hp hi wa1 gi1 sp1 tr1 pc1 (pstq L s9)) ∧ f1 M = .inr (10, [.int mth, .ref (g.lk M 1), .int (nI mn), .ref (g.lk M 3), .ref (g.lk M 4), .int (nI mdr), .ref (g.lk M 6), .ref (g.lk M 7), .ref (g.lk M 8), .int (nI msz), .int (nI mix), .int (nI mdp), .ref (g.lk M 12), .int (nI mwt), .ref (g.lk M 14), .ref (g.lk M 15), .int (nI mop), .ref (g.lk M 17), .ref (g.lk M 18), .ref (g.lk M 19), .ref (g.lk M 20), .ref (g.lk M 21), .ref (g.lk M 22), .ref (g.lk M 23), .ref (g.lk M 24), .ref (g.lk M 25), .ref (g.lk M 26), .ref (g.lk M 27), .ref (g.lk M 28), .ref (g.lk M 29), .ref (g.lk M 30), .ref (g.lk M 31), .int (nI tp1), .ref (g.lk M 33), .ref (g.lk M 34), .ref (g.lk M 35), .int (nI wa1), .int (nI gi1), .int (nI pc1), .int (nI mst), .int (nI tr1), .int (nI sp1), .int ma1, .int lg1, .int mdu])) ∧ (IV g f1) ∧ (un [11, 58, 59, 60, 61, 62, 63, 64, 65, 66] g f f1)) (pc_out g sz) (pc_A g sz)) 0 0 (pc_A g sz) := by
  refine pe_ofW (cc := prog_12_method_44_code) (maxL := 2) (ret := none) (lv := [(0, .ref M)]) (by decide) (Nat.le_of_ble_eq_true rfl) rfl ?_
  intro p e s m args below meth c ls hx hb hr hml hlocks hown hB hP hK hD hsz hS hl
  subst hsz
  have hu : un [11, 58, 59, 60, 61, 62, 63, 64, 65, 66] g f f := un.rf
  obtain ⟨hmb0, hmb1, hmb2, hmb3, hmb4, hmb5, hmb6, hmb7, hmb8, hmb9, hmb10, hmb11, hmb12, hmb13, hmb14⟩ := hMB
  have hsz := hWF.1
  obtain ⟨hVR, hOU, hINq, hgo, hspq, htrq, hpcq⟩ := hMQ
  have hpcq := hpcq htr0
  refine lv_aload_n hx hb d_M_step_0 rfl (lv_at hl 0 rfl) ?_
  refine lv_dup hx hb d_M_step_1 rfl ?_
  refine pf_get (v := .int (nI msp)) (C := "BigRunnerModel") (T := FT10) (N := 45) hx hb (hw10 hB _) (fun _ h9 => h9) hown hK hP (lo_in hL t_M (by decide)) eM rfl 41 (by decide) (wd_988 hB _) rfl d_M_step_2 ?_
  refine lv_iconst (v := nI 1) hx hb d_M_step_5 (by decide) ?_
  refine pf_iaddN (x := msp) (y := 1) hx hb d_M_step_6 ?_
  refine pf_put (v := .int (nI (msp + 1))) (ty := .int) (fs' := [.int mth, .ref (g.lk M 1), .int (nI mn), .ref (g.lk M 3), .ref (g.lk M 4), .int (nI mdr), .ref (g.lk M 6), .ref (g.lk M 7), .ref (g.lk M 8), .int (nI msz), .int (nI mix), .int (nI mdp), .ref (g.lk M 12), .int (nI mwt), .ref (g.lk M 14), .ref (g.lk M 15), .int (nI mop), .ref (g.lk M 17), .ref (g.lk M 18), .ref (g.lk M 19), .ref (g.lk M 20), .ref (g.lk M 21), .ref (g.lk M 22), .ref (g.lk M 23), .ref (g.lk M 24), .ref (g.lk M 25), .ref (g.lk M 26), .ref (g.lk M 27), .ref (g.lk M 28), .ref (g.lk M 29), .ref (g.lk M 30), .ref (g.lk M 31), .int (nI mtp), .ref (g.lk M 33), .ref (g.lk M 34), .ref (g.lk M 35), .int (nI mwa), .int (nI mgi), .int (nI mpc), .int (nI mst), .int (nI mtr), .int (nI (msp + 1)), .int mma, .int mlg, .int mdu]) (C := "BigRunnerModel") (T := FT10) (N := 45) hx hb (hw10 hB _) (fun _ h9 => h9) TY10 ok10 nm10 hown hK hP hD hS (lo_in hL t_M (by decide)) eM rfl 41 (by decide) (wd_988 hB _) rfl (by decide +kernel) rfl rfl (Nat.le_of_ble_eq_true rfl) rfl d_M_step_7 (fun f1 H locs e2 k3 hP hD hS => ?_)
  have eC := (k3 (g.lk M 6) (tg_ne (lo_k11_6 hL _ t_M) t_M (by decide))).trans eC
  have eA := (k3 (g.lk M 7) (tg_ne (lo_k11_7 hL _ t_M) t_M (by decide))).trans eA
  have eLI := (k3 (g.lk M 30) (tg_ne (lo_k11_30 hL _ t_M) t_M (by decide))).trans eLI
  have eSI := (k3 (g.lk M 31) (tg_ne (lo_k11_31 hL _ t_M) t_M (by decide))).trans eSI
  have eRE := (k3 (g.lk M 33) (tg_ne (lo_k11_33 hL _ t_M) t_M (by decide))).trans eRE
  have eRS := (k3 (g.lk M 34) (tg_ne (lo_k11_34 hL _ t_M) t_M (by decide))).trans eRS
  have eVL := (k3 (g.lk M 26) (tg_ne (lo_k11_26 hL _ t_M) t_M (by decide))).trans eVL
  have eVS := (k3 (g.lk M 27) (tg_ne (lo_k11_27 hL _ t_M) t_M (by decide))).trans eVS
  have eOL := (k3 (g.lk M 28) (tg_ne (lo_k11_28 hL _ t_M) t_M (by decide))).trans eOL
  have eOS := (k3 (g.lk M 29) (tg_ne (lo_k11_29 hL _ t_M) t_M (by decide))).trans eOS
  have eIN := (k3 (g.lk M 35) (tg_ne (lo_k11_35 hL _ t_M) t_M (by decide))).trans eIN
  have hu := hu.st k3 t_M (by decide)
  have hk4 : ∀ b, b ≠ M → f1 b = f b := k3
  refine lv_aload_n hx hb d_M_step_10 rfl (lv_at hl 0 rfl) ?_
  refine lv_iconst (v := nI 0) hx hb d_M_step_11 (by decide) ?_
  refine pf_put (v := .int (nI 0)) (ty := .int) (fs' := [.int mth, .ref (g.lk M 1), .int (nI mn), .ref (g.lk M 3), .ref (g.lk M 4), .int (nI mdr), .ref (g.lk M 6), .ref (g.lk M 7), .ref (g.lk M 8), .int (nI msz), .int (nI mix), .int (nI mdp), .ref (g.lk M 12), .int (nI mwt), .ref (g.lk M 14), .ref (g.lk M 15), .int (nI mop), .ref (g.lk M 17), .ref (g.lk M 18), .ref (g.lk M 19), .ref (g.lk M 20), .ref (g.lk M 21), .ref (g.lk M 22), .ref (g.lk M 23), .ref (g.lk M 24), .ref (g.lk M 25), .ref (g.lk M 26), .ref (g.lk M 27), .ref (g.lk M 28), .ref (g.lk M 29), .ref (g.lk M 30), .ref (g.lk M 31), .int (nI 0), .ref (g.lk M 33), .ref (g.lk M 34), .ref (g.lk M 35), .int (nI mwa), .int (nI mgi), .int (nI mpc), .int (nI mst), .int (nI mtr), .int (nI (msp + 1)), .int mma, .int mlg, .int mdu]) (C := "BigRunnerModel") (T := FT10) (N := 45) hx hb (hw10 hB _) (fun _ h9 => h9) TY10 ok10 nm10 hown hK hP hD hS (lo_in hL t_M (by decide)) e2 rfl 32 (by decide) (wd_979 hB _) rfl (by decide +kernel) rfl rfl (Nat.le_of_ble_eq_true rfl) rfl d_M_step_12 (fun f5 H locs e6 k7 hP hD hS => ?_)
  have eC := (k7 (g.lk M 6) (tg_ne (lo_k11_6 hL _ t_M) t_M (by decide))).trans eC
  have eA := (k7 (g.lk M 7) (tg_ne (lo_k11_7 hL _ t_M) t_M (by decide))).trans eA
  have eLI := (k7 (g.lk M 30) (tg_ne (lo_k11_30 hL _ t_M) t_M (by decide))).trans eLI
  have eSI := (k7 (g.lk M 31) (tg_ne (lo_k11_31 hL _ t_M) t_M (by decide))).trans eSI
  have eRE := (k7 (g.lk M 33) (tg_ne (lo_k11_33 hL _ t_M) t_M (by decide))).trans eRE
  have eRS := (k7 (g.lk M 34) (tg_ne (lo_k11_34 hL _ t_M) t_M (by decide))).trans eRS
  have eVL := (k7 (g.lk M 26) (tg_ne (lo_k11_26 hL _ t_M) t_M (by decide))).trans eVL
  have eVS := (k7 (g.lk M 27) (tg_ne (lo_k11_27 hL _ t_M) t_M (by decide))).trans eVS
  have eOL := (k7 (g.lk M 28) (tg_ne (lo_k11_28 hL _ t_M) t_M (by decide))).trans eOL
  have eOS := (k7 (g.lk M 29) (tg_ne (lo_k11_29 hL _ t_M) t_M (by decide))).trans eOS
  have eIN := (k7 (g.lk M 35) (tg_ne (lo_k11_35 hL _ t_M) t_M (by decide))).trans eIN
  have hu := hu.st k7 t_M (by decide)
  have hk8 : ∀ b, b ≠ M → f5 b = f b := fun b q0 => (k7 b q0).trans (hk4 b q0)
  obtain ⟨w, v, hWO⟩ := hWF.2.2 mpc (by omega)
  have hw := wo_c hWO
  have hv := wo_a hWO
  have q3 := wo_12 hWO
  have q4 := wo_b hWO
  have q5 := wo_dp hWO
  have hat := mcl_w hMCL (show mpc < msz by omega) hw hv q3 q4
  have hlv : w < 2 → v < 1000000000 := fun z9 => by have y9 := (hMCL.2.1 mpc (by omega)).2.2.2.2; rw [hat] at y9; exact y9 z9
  refine lv_aload_n hx hb d_M_step_15 rfl (lv_at hl 0 rfl) ?_
  refine pf_get (v := .ref (g.lk M 6)) (C := "BigRunnerModel") (T := FT10) (N := 45) hx hb (hw10 hB _) (fun _ h9 => h9) hown hK hP (lo_in hL t_M (by decide)) e6 rfl 6 (by decide) (wd_953 hB _) rfl d_M_step_16 ?_
  refine lv_aload_n hx hb d_M_step_19 rfl (lv_at hl 0 rfl) ?_
  refine pf_get (v := .int (nI mpc)) (C := "BigRunnerModel") (T := FT10) (N := 45) hx hb (hw10 hB _) (fun _ h9 => h9) hown hK hP (lo_in hL t_M (by decide)) e6 rfl 38 (by decide) (wd_985 hB _) rfl d_M_step_20 ?_
  refine pf_iald (i := mpc) hx hb hK hP (lo_in hL (lo_k11_6 hL _ t_M) (by decide)) eC (lo_t43 hL _ (lo_k11_6 hL _ t_M)) (by omega) (by decide) d_M_step_23 ?_
  refine lv_topi (fun z_ hz_ => ?_)
  obtain rfl : z_ = nI w := hz_.trans hw
  refine lv_bipush (v := nI 9) hx hb d_M_step_24 (by decide) ?_
  refine lv_icmp_ne (tgt := 43) hx hb d_M_step_26 (by decide) (fun b9 => ?_) (fun b9 => ?_)
  · skip
    replace b9 := mt (nI_eq (a := w) (b := 9) (by omega) (by omega)).mpr b9
    have hw9 : ¬ w = 9 := by omega
    have hw12 : ¬ w = 12 := fun z => hn12 (hw.trans (congrArg nI z))
    have hwm := hw
    have hn9 : (at_ L s9.pc).1 ≠ 9 := by rw [← hpcq, hat]; exact hw9
    clear hWO hv q4 q5 hat hlv
    have hI10 := iv_1 hI hL t_M (by decide) hk8 (oc_11.mk t_M (⟨mth, mn, mdr, msz, mix, mdp, mwt, mop, 0, mwa, mgi, mpc, mst, mtr, (msp + 1), mma, mlg, mdu, e6, (by omega), (by omega), (by omega), (by omega), (by omega), (by omega), (by omega), (by omega), (by omega), (by omega), (by omega), (by omega), (by omega), (by omega), hmb14⟩))
    have lp11 : ∀ (k13 : Nat) (p8 : Nat) (t8 : Nat) (ma8 : Int32) (lg8 : Int32) (V : List Int) (hl8 : Nat → Int32) (hs8 : Nat → Int32) (hr8 : Nat → Int32) (hq8 : Nat → Int32) (f12 : Nat → va_E) (H : Heap) (locs : List Loc) (ls : Array Slot), (msz < p8 + k13) → (p8 < msz) → (t8 = dpf p8) → (t8 ≤ 80) → (p8 = mpc ∨ 1 ≤ t8) → (t8 = V.length) → (SVS hl8 hs8 V) → (C6 1600 hl8) → (C6 44 hr8) → (C6 44 hq8) → (evs s9.vr (seg L s9.pc) [] = evs s9.vr (seg L p8) V) → (p8 + (seg L p8).length = s9.pc + (seg L s9.pc).length) → f12 M = .inr (10, [.int mth, .ref (g.lk M 1), .int (nI mn), .ref (g.lk M 3), .ref (g.lk M 4), .int (nI mdr), .ref (g.lk M 6), .ref (g.lk M 7), .ref (g.lk M 8), .int (nI msz), .int (nI mix), .int (nI mdp), .ref (g.lk M 12), .int (nI mwt), .ref (g.lk M 14), .ref (g.lk M 15), .int (nI mop), .ref (g.lk M 17), .ref (g.lk M 18), .ref (g.lk M 19), .ref (g.lk M 20), .ref (g.lk M 21), .ref (g.lk M 22), .ref (g.lk M 23), .ref (g.lk M 24), .ref (g.lk M 25), .ref (g.lk M 26), .ref (g.lk M 27), .ref (g.lk M 28), .ref (g.lk M 29), .ref (g.lk M 30), .ref (g.lk M 31), .int (nI t8), .ref (g.lk M 33), .ref (g.lk M 34), .ref (g.lk M 35), .int (nI mwa), .int (nI mgi), .int (nI p8), .int (nI mst), .int (nI mtr), .int (nI (msp + 1)), .int ma8, .int lg8, .int mdu]) → f12 (g.lk M 30) = .inl (g.ac (g.lk M 30), 1600, .inl (hl8)) → f12 (g.lk M 31) = .inl (g.ac (g.lk M 31), 80, .inl (hs8)) → f12 (g.lk M 33) = .inl (g.ac (g.lk M 33), 44, .inl (hr8)) → f12 (g.lk M 34) = .inl (g.ac (g.lk M 34), 44, .inl (hq8)) → IV g f12 → un [11, 62, 63, 64, 65] g f5 f12 → lv_has ls 2 [(0, .ref M)] → va_P g.D vcl (va_pl g.LP f12) H → va_D (pc_A g s.heap.size) (va_pl g.LP f12) → va_S (pc_A g s.heap.size) s.heap H locs → W p l e ({ frames := 4, cells := 0, slots := 0, locals := 103 }) s m args below meth c H locs 0 0 (MQ below (va_Qv (fun f1 => (∃ (tp1 : Nat) (wa1 : Nat) (gi1 : Nat) (pc1 : Nat) (tr1 : Nat) (sp1 : Nat) (ma1 : Int32) (lg1 : Int32), (tp1 ≤ 80) ∧ (wa1 ≤ 20) ∧ (gi1 ≤ sp1) ∧ (pc1 ≤ 100) ∧ (tr1 ≤ 2) ∧ (sp1 = msp + 1) ∧ (PCO dpf msz pc1 tr1) ∧ (∃ hl hs hr hq hv hw ho hp hi : Nat → Int32, f1 (g.lk M 30) = .inl (g.ac (g.lk M 30), 1600, .inl hl) ∧ f1 (g.lk M 31) = .inl (g.ac (g.lk M 31), 80, .inl hs) ∧ f1 (g.lk M 33) = .inl (g.ac (g.lk M 33), 44, .inl hr) ∧ f1 (g.lk M 34) = .inl (g.ac (g.lk M 34), 44, .inl hq) ∧ f1 (g.lk M 26) = .inl (g.ac (g.lk M 26), 200, .inl hv) ∧ f1 (g.lk M 27) = .inl (g.ac (g.lk M 27), 10, .inl hw) ∧ f1 (g.lk M 28) = .inl (g.ac (g.lk M 28), 240, .inl ho) ∧ f1 (g.lk M 29) = .inl (g.ac (g.lk M 29), 12, .inl hp) ∧ f1 (g.lk M 35) = .inl (g.ac (g.lk M 35), 20, .inl hi) ∧ C6 1600 hl ∧ C6 44 hr ∧ C6 44 hq ∧ C6 200 hv ∧ C6 240 ho ∧ MQ9 hv hw ho hp hi wa1 gi1 sp1 tr1 pc1 (pstq L s9)) ∧ f1 M = .inr (10, [.int mth, .ref (g.lk M 1), .int (nI mn), .ref (g.lk M 3), .ref (g.lk M 4), .int (nI mdr), .ref (g.lk M 6), .ref (g.lk M 7), .ref (g.lk M 8), .int (nI msz), .int (nI mix), .int (nI mdp), .ref (g.lk M 12), .int (nI mwt), .ref (g.lk M 14), .ref (g.lk M 15), .int (nI mop), .ref (g.lk M 17), .ref (g.lk M 18), .ref (g.lk M 19), .ref (g.lk M 20), .ref (g.lk M 21), .ref (g.lk M 22), .ref (g.lk M 23), .ref (g.lk M 24), .ref (g.lk M 25), .ref (g.lk M 26), .ref (g.lk M 27), .ref (g.lk M 28), .ref (g.lk M 29), .ref (g.lk M 30), .ref (g.lk M 31), .int (nI tp1), .ref (g.lk M 33), .ref (g.lk M 34), .ref (g.lk M 35), .int (nI wa1), .int (nI gi1), .int (nI pc1), .int (nI mst), .int (nI tr1), .int (nI sp1), .int ma1, .int lg1, .int mdu])) ∧ (IV g f1) ∧ (un [11, 58, 59, 60, 61, 62, 63, 64, 65, 66] g f f1)) (pc_out g s.heap.size) (pc_A g s.heap.size)) args s 0 0 (pc_A g s.heap.size)) (F0 m 43 ls []) := by
      intro k13
      induction k13 with
      | zero => intros; exfalso; omega
      | succ k13 ih14 =>
        intro p8 t8 ma8 lg8 V hl8 hs8 hr8 hq8 f12 H locs ls hfu15 hp8 ht9 ht8 hqq htV hSV8 cl8 cr8 cq8 hev hsl e16 e17 e18 e19 e20 hI21 hv22 hl hP hD hS
        have eC := hv22.at (lo_k11_6 hL _ t_M) (by decide) eC
        have eA := hv22.at (lo_k11_7 hL _ t_M) (by decide) eA
        have eVL := hv22.at (lo_k11_26 hL _ t_M) (by decide) eVL
        have eVS := hv22.at (lo_k11_27 hL _ t_M) (by decide) eVS
        have eOL := hv22.at (lo_k11_28 hL _ t_M) (by decide) eOL
        have eOS := hv22.at (lo_k11_29 hL _ t_M) (by decide) eOS
        have eIN := hv22.at (lo_k11_35 hL _ t_M) (by decide) eIN
        have hu := hu.tr hv22 (by decide)
        obtain ⟨w, v, hWO⟩ := hWF.2.2 p8 (by omega)
        have hw := wo_c hWO
        have hv := wo_a hWO
        have q3 := wo_12 hWO
        have q4 := wo_b hWO
        have q5 := wo_dp hWO
        have hat := mcl_w hMCL (show p8 < msz by omega) hw hv q3 q4
        have hlv : w < 2 → v < 1000000000 := fun z9 => by have y9 := (hMCL.2.1 p8 (by omega)).2.2.2.2; rw [hat] at y9; exact y9 z9
        refine lv_aload_n hx hb d_M_step_43 rfl (lv_at hl 0 rfl) ?_
        refine pf_get (v := .ref (g.lk M 6)) (C := "BigRunnerModel") (T := FT10) (N := 45) hx hb (hw10 hB _) (fun _ h9 => h9) hown hK hP (lo_in hL t_M (by decide)) e16 rfl 6 (by decide) (wd_953 hB _) rfl d_M_step_44 ?_
        refine lv_aload_n hx hb d_M_step_47 rfl (lv_at hl 0 rfl) ?_
        refine pf_get (v := .int (nI p8)) (C := "BigRunnerModel") (T := FT10) (N := 45) hx hb (hw10 hB _) (fun _ h9 => h9) hown hK hP (lo_in hL t_M (by decide)) e16 rfl 38 (by decide) (wd_985 hB _) rfl d_M_step_48 ?_
        refine pf_iald (i := p8) hx hb hK hP (lo_in hL (lo_k11_6 hL _ t_M) (by decide)) eC (lo_t43 hL _ (lo_k11_6 hL _ t_M)) (by omega) (by decide) d_M_step_51 ?_
        refine lv_topi (fun z_ hz_ => ?_)
        obtain rfl : z_ = nI w := hz_.trans hw
        refine lv_bipush (v := nI 8) hx hb d_M_step_52 (by decide) ?_
        refine lv_icmp_ge (tgt := 86) hx hb d_M_step_54 (by decide) (fun b23 => ?_) (fun b23 => ?_)
        · skip
          replace b23 := (nI_leI (a := 8) (b := w) (by omega) (by omega)).mp b23
          have hq10 := wo_end hWO (by omega)
          have hsg8 : seg L p8 = [] := seg_n (by rw [hMCL.1]; omega) (by rw [hat]; omega)
          have hev8 : evs s9.vr (seg L s9.pc) [] = (0, V) := hev.trans (by rw [hsg8]; rfl)
          have hpp8 : p8 = s9.pc + (seg L s9.pc).length := by rw [hsg8] at hsl; exact hsl
          have hw89 : w = 8 ∨ w = 10 ∨ w = 11 := by
            rcases hqq with z | z
            · have z1 : nI w = nI _ := (hw.symm.trans (by rw [z])).trans hwm
              have z2 := (nI_eq (by omega) (by omega)).mp z1
              omega
            · have z3 : ¬ (w = 9 ∨ w = 12) := fun y => by have := wo_0 hWO y; omega
              omega
          have hd1 : dpf p8 = 1 := hMCL.2.2 p8 hp8 (by rcases hw89 with z | z | z <;> rw [z] at hw; exact Or.inl hw; exact Or.inr (Or.inl hw); exact Or.inr (Or.inr hw))
          obtain ⟨x9, rfl⟩ : ∃ x, V = [x] := by
            cases V with
            | nil => (exfalso; have z9 : t8 = 0 := htV; omega)
            | cons x V' => (have z9 : t8 = V'.length + 1 := htV; have z8 : V' = [] := List.eq_nil_of_length_eq_zero (by omega); subst z8; exact ⟨x, rfl⟩)
          have hsx9 : SV hl8 hs8 0 x9 := hSV8.1
          refine lv_aload_n hx hb d_M_step_86 rfl (lv_at hl 0 rfl) ?_
          refine pf_get (v := .ref (g.lk M 6)) (C := "BigRunnerModel") (T := FT10) (N := 45) hx hb (hw10 hB _) (fun _ h9 => h9) hown hK hP (lo_in hL t_M (by decide)) e16 rfl 6 (by decide) (wd_953 hB _) rfl d_M_step_87 ?_
          refine lv_aload_n hx hb d_M_step_90 rfl (lv_at hl 0 rfl) ?_
          refine pf_get (v := .int (nI p8)) (C := "BigRunnerModel") (T := FT10) (N := 45) hx hb (hw10 hB _) (fun _ h9 => h9) hown hK hP (lo_in hL t_M (by decide)) e16 rfl 38 (by decide) (wd_985 hB _) rfl d_M_step_91 ?_
          refine pf_iald (i := p8) hx hb hK hP (lo_in hL (lo_k11_6 hL _ t_M) (by decide)) eC (lo_t43 hL _ (lo_k11_6 hL _ t_M)) (by omega) (by decide) d_M_step_94 ?_
          refine lv_topi (fun z_ hz_ => ?_)
          obtain rfl : z_ = nI w := hz_.trans hw
          refine lv_bipush (v := nI 8) hx hb d_M_step_95 (by decide) ?_
          refine lv_icmp_ne (tgt := 116) hx hb d_M_step_97 (by decide) (fun b24 => ?_) (fun b24 => ?_)
          · skip
            replace b24 := mt (nI_eq (a := w) (b := 8) (by omega) (by omega)).mpr b24
            refine lv_aload_n hx hb d_M_step_116 rfl (lv_at hl 0 rfl) ?_
            refine pf_get (v := .ref (g.lk M 6)) (C := "BigRunnerModel") (T := FT10) (N := 45) hx hb (hw10 hB _) (fun _ h9 => h9) hown hK hP (lo_in hL t_M (by decide)) e16 rfl 6 (by decide) (wd_953 hB _) rfl d_M_step_117 ?_
            refine lv_aload_n hx hb d_M_step_120 rfl (lv_at hl 0 rfl) ?_
            refine pf_get (v := .int (nI p8)) (C := "BigRunnerModel") (T := FT10) (N := 45) hx hb (hw10 hB _) (fun _ h9 => h9) hown hK hP (lo_in hL t_M (by decide)) e16 rfl 38 (by decide) (wd_985 hB _) rfl d_M_step_121 ?_
            refine pf_iald (i := p8) hx hb hK hP (lo_in hL (lo_k11_6 hL _ t_M) (by decide)) eC (lo_t43 hL _ (lo_k11_6 hL _ t_M)) (by omega) (by decide) d_M_step_124 ?_
            refine lv_topi (fun z_ hz_ => ?_)
            obtain rfl : z_ = nI w := hz_.trans hw
            refine lv_bipush (v := nI 10) hx hb d_M_step_125 (by decide) ?_
            refine lv_icmp_ne (tgt := 210) hx hb d_M_step_127 (by decide) (fun b25 => ?_) (fun b25 => ?_)
            · skip
              replace b25 := mt (nI_eq (a := w) (b := 10) (by omega) (by omega)).mpr b25
              have hw11 : w = 11 := by omega
              have hjt := wo_t hWO hw11
              have hat8 : at_ L p8 = (11, v) := by rw [hat, hw11]
              have hpq9 := pq_11 hn9 hpp8 hat8 hev8
              refine lv_aload_n hx hb d_M_step_210 rfl (lv_at hl 0 rfl) ?_
              refine pf_get (v := .ref (g.lk M 31)) (C := "BigRunnerModel") (T := FT10) (N := 45) hx hb (hw10 hB _) (fun _ h9 => h9) hown hK hP (lo_in hL t_M (by decide)) e16 rfl 31 (by decide) (wd_978 hB _) rfl d_M_step_211 ?_
              refine lv_iconst (v := nI 0) hx hb d_M_step_214 (by decide) ?_
              refine pf_iald (i := 0) hx hb hK hP (lo_in hL (lo_k11_31 hL _ t_M) (by decide)) e18 (lo_t63 hL _ (lo_k11_31 hL _ t_M)) (by omega) (by decide) d_M_step_215 ?_
              have hsl9 := SV_le hsx9
              refine lv_if_gt (tgt := 234) hx hb d_M_step_216 (by decide) (fun b26 => ?_) (fun b26 => ?_)
              · skip
                rw [if_neg (fun z9 => absurd (hsl9.mpr z9) (Int32.not_le.mpr b26))] at hpq9
                refine lv_aload_n hx hb d_M_step_234 rfl (lv_at hl 0 rfl) ?_
                refine lv_dup hx hb d_M_step_235 rfl ?_
                refine pf_get (v := .int (nI p8)) (C := "BigRunnerModel") (T := FT10) (N := 45) hx hb (hw10 hB _) (fun _ h9 => h9) hown hK hP (lo_in hL t_M (by decide)) e16 rfl 38 (by decide) (wd_985 hB _) rfl d_M_step_236 ?_
                refine lv_iconst (v := nI 1) hx hb d_M_step_239 (by decide) ?_
                refine pf_iaddN (x := p8) (y := 1) hx hb d_M_step_240 ?_
                refine pf_put (v := .int (nI (p8 + 1))) (ty := .int) (fs' := [.int mth, .ref (g.lk M 1), .int (nI mn), .ref (g.lk M 3), .ref (g.lk M 4), .int (nI mdr), .ref (g.lk M 6), .ref (g.lk M 7), .ref (g.lk M 8), .int (nI msz), .int (nI mix), .int (nI mdp), .ref (g.lk M 12), .int (nI mwt), .ref (g.lk M 14), .ref (g.lk M 15), .int (nI mop), .ref (g.lk M 17), .ref (g.lk M 18), .ref (g.lk M 19), .ref (g.lk M 20), .ref (g.lk M 21), .ref (g.lk M 22), .ref (g.lk M 23), .ref (g.lk M 24), .ref (g.lk M 25), .ref (g.lk M 26), .ref (g.lk M 27), .ref (g.lk M 28), .ref (g.lk M 29), .ref (g.lk M 30), .ref (g.lk M 31), .int (nI t8), .ref (g.lk M 33), .ref (g.lk M 34), .ref (g.lk M 35), .int (nI mwa), .int (nI mgi), .int (nI (p8 + 1)), .int (nI mst), .int (nI mtr), .int (nI (msp + 1)), .int ma8, .int lg8, .int mdu]) (C := "BigRunnerModel") (T := FT10) (N := 45) hx hb (hw10 hB _) (fun _ h9 => h9) TY10 ok10 nm10 hown hK hP hD hS (lo_in hL t_M (by decide)) e16 rfl 38 (by decide) (wd_985 hB _) rfl (by decide +kernel) rfl rfl (Nat.le_of_ble_eq_true rfl) rfl d_M_step_241 (fun f27 H locs e28 k29 hP hD hS => ?_)
                have eC := (k29 (g.lk M 6) (tg_ne (lo_k11_6 hL _ t_M) t_M (by decide))).trans eC
                have eA := (k29 (g.lk M 7) (tg_ne (lo_k11_7 hL _ t_M) t_M (by decide))).trans eA
                have eVL := (k29 (g.lk M 26) (tg_ne (lo_k11_26 hL _ t_M) t_M (by decide))).trans eVL
                have eVS := (k29 (g.lk M 27) (tg_ne (lo_k11_27 hL _ t_M) t_M (by decide))).trans eVS
                have eOL := (k29 (g.lk M 28) (tg_ne (lo_k11_28 hL _ t_M) t_M (by decide))).trans eOL
                have eOS := (k29 (g.lk M 29) (tg_ne (lo_k11_29 hL _ t_M) t_M (by decide))).trans eOS
                have eIN := (k29 (g.lk M 35) (tg_ne (lo_k11_35 hL _ t_M) t_M (by decide))).trans eIN
                have e17 := (k29 (g.lk M 30) (tg_ne (lo_k11_30 hL _ t_M) t_M (by decide))).trans e17
                have e18 := (k29 (g.lk M 31) (tg_ne (lo_k11_31 hL _ t_M) t_M (by decide))).trans e18
                have e19 := (k29 (g.lk M 33) (tg_ne (lo_k11_33 hL _ t_M) t_M (by decide))).trans e19
                have e20 := (k29 (g.lk M 34) (tg_ne (lo_k11_34 hL _ t_M) t_M (by decide))).trans e20
                have hu := hu.st k29 t_M (by decide)
                have hv22 := hv22.st k29 t_M (by decide)
                have hk30 : ∀ b, b ≠ M → f27 b = f12 b := k29
                have hI31 := iv_1 hI21 hL t_M (by decide) hk30 (oc_11.mk t_M (⟨mth, mn, mdr, msz, mix, mdp, mwt, mop, t8, mwa, mgi, (p8 + 1), mst, mtr, (msp + 1), ma8, lg8, mdu, e28, (by omega), (by omega), (by omega), (by omega), (by omega), (by omega), (by omega), (by omega), (by omega), (by omega), (by omega), (by omega), (by omega), (by omega), hmb14⟩))
                exact pe_vret hx hb hr hlocks hK hP hD hS d_M_step_244 ⟨⟨t8, mwa, mgi, (p8 + 1), mtr, (msp + 1), ma8, lg8, by omega, by omega, by omega, by omega, by omega, by omega, (fun _ => ⟨by omega, fun _ => by first | exact hq10 | (have z8 := hjt.2.2 (by omega); rw [show v - 1 + 1 = v by omega]; exact z8)⟩), ⟨_, _, _, _, _, _, _, _, _, e17, e18, e19, e20, eVL, eVS, eOL, eOS, eIN, cl8, cr8, cq8, c6VL, c6OL, (by rw [hpq9]; exact ⟨hVR, hOU, hINq, hgo, congrArg (· + 1) hspq, htr0, fun _ => by rfl⟩)⟩, e28⟩, hI31, hu⟩
              · skip
                rw [if_pos (hsl9.mp (Int32.not_lt.mp b26))] at hpq9
                refine lv_aload_n hx hb d_M_step_219 rfl (lv_at hl 0 rfl) ?_
                refine lv_aload_n hx hb d_M_step_220 rfl (lv_at hl 0 rfl) ?_
                refine pf_get (v := .ref (g.lk M 7)) (C := "BigRunnerModel") (T := FT10) (N := 45) hx hb (hw10 hB _) (fun _ h9 => h9) hown hK hP (lo_in hL t_M (by decide)) e16 rfl 7 (by decide) (wd_954 hB _) rfl d_M_step_221 ?_
                refine lv_aload_n hx hb d_M_step_224 rfl (lv_at hl 0 rfl) ?_
                refine pf_get (v := .int (nI p8)) (C := "BigRunnerModel") (T := FT10) (N := 45) hx hb (hw10 hB _) (fun _ h9 => h9) hown hK hP (lo_in hL t_M (by decide)) e16 rfl 38 (by decide) (wd_985 hB _) rfl d_M_step_225 ?_
                refine pf_iald (i := p8) hx hb hK hP (lo_in hL (lo_k11_7 hL _ t_M) (by decide)) eA (lo_t44 hL _ (lo_k11_7 hL _ t_M)) (by omega) (by decide) d_M_step_228 ?_
                refine lv_topi (fun z_ hz_ => ?_)
                obtain rfl : z_ = nI v := hz_.trans hv
                refine lv_iconst (v := nI 1) hx hb d_M_step_229 (by decide) ?_
                refine pf_isubN (x := v) (y := 1) hx hb (by omega) d_M_step_230 ?_
                refine pf_put (v := .int (nI (v - 1))) (ty := .int) (fs' := [.int mth, .ref (g.lk M 1), .int (nI mn), .ref (g.lk M 3), .ref (g.lk M 4), .int (nI mdr), .ref (g.lk M 6), .ref (g.lk M 7), .ref (g.lk M 8), .int (nI msz), .int (nI mix), .int (nI mdp), .ref (g.lk M 12), .int (nI mwt), .ref (g.lk M 14), .ref (g.lk M 15), .int (nI mop), .ref (g.lk M 17), .ref (g.lk M 18), .ref (g.lk M 19), .ref (g.lk M 20), .ref (g.lk M 21), .ref (g.lk M 22), .ref (g.lk M 23), .ref (g.lk M 24), .ref (g.lk M 25), .ref (g.lk M 26), .ref (g.lk M 27), .ref (g.lk M 28), .ref (g.lk M 29), .ref (g.lk M 30), .ref (g.lk M 31), .int (nI t8), .ref (g.lk M 33), .ref (g.lk M 34), .ref (g.lk M 35), .int (nI mwa), .int (nI mgi), .int (nI (v - 1)), .int (nI mst), .int (nI mtr), .int (nI (msp + 1)), .int ma8, .int lg8, .int mdu]) (C := "BigRunnerModel") (T := FT10) (N := 45) hx hb (hw10 hB _) (fun _ h9 => h9) TY10 ok10 nm10 hown hK hP hD hS (lo_in hL t_M (by decide)) e16 rfl 38 (by decide) (wd_985 hB _) rfl (by decide +kernel) rfl rfl (Nat.le_of_ble_eq_true rfl) rfl d_M_step_231 (fun f32 H locs e33 k34 hP hD hS => ?_)
                have eC := (k34 (g.lk M 6) (tg_ne (lo_k11_6 hL _ t_M) t_M (by decide))).trans eC
                have eA := (k34 (g.lk M 7) (tg_ne (lo_k11_7 hL _ t_M) t_M (by decide))).trans eA
                have eVL := (k34 (g.lk M 26) (tg_ne (lo_k11_26 hL _ t_M) t_M (by decide))).trans eVL
                have eVS := (k34 (g.lk M 27) (tg_ne (lo_k11_27 hL _ t_M) t_M (by decide))).trans eVS
                have eOL := (k34 (g.lk M 28) (tg_ne (lo_k11_28 hL _ t_M) t_M (by decide))).trans eOL
                have eOS := (k34 (g.lk M 29) (tg_ne (lo_k11_29 hL _ t_M) t_M (by decide))).trans eOS
                have eIN := (k34 (g.lk M 35) (tg_ne (lo_k11_35 hL _ t_M) t_M (by decide))).trans eIN
                have e17 := (k34 (g.lk M 30) (tg_ne (lo_k11_30 hL _ t_M) t_M (by decide))).trans e17
                have e18 := (k34 (g.lk M 31) (tg_ne (lo_k11_31 hL _ t_M) t_M (by decide))).trans e18
                have e19 := (k34 (g.lk M 33) (tg_ne (lo_k11_33 hL _ t_M) t_M (by decide))).trans e19
                have e20 := (k34 (g.lk M 34) (tg_ne (lo_k11_34 hL _ t_M) t_M (by decide))).trans e20
                have hu := hu.st k34 t_M (by decide)
                have hv22 := hv22.st k34 t_M (by decide)
                have hk35 : ∀ b, b ≠ M → f32 b = f12 b := k34
                refine lv_aload_n hx hb d_M_step_234 rfl (lv_at hl 0 rfl) ?_
                refine lv_dup hx hb d_M_step_235 rfl ?_
                refine pf_get (v := .int (nI (v - 1))) (C := "BigRunnerModel") (T := FT10) (N := 45) hx hb (hw10 hB _) (fun _ h9 => h9) hown hK hP (lo_in hL t_M (by decide)) e33 rfl 38 (by decide) (wd_985 hB _) rfl d_M_step_236 ?_
                refine lv_iconst (v := nI 1) hx hb d_M_step_239 (by decide) ?_
                refine pf_iaddN (x := v - 1) (y := 1) hx hb d_M_step_240 ?_
                refine pf_put (v := .int (nI ((v - 1) + 1))) (ty := .int) (fs' := [.int mth, .ref (g.lk M 1), .int (nI mn), .ref (g.lk M 3), .ref (g.lk M 4), .int (nI mdr), .ref (g.lk M 6), .ref (g.lk M 7), .ref (g.lk M 8), .int (nI msz), .int (nI mix), .int (nI mdp), .ref (g.lk M 12), .int (nI mwt), .ref (g.lk M 14), .ref (g.lk M 15), .int (nI mop), .ref (g.lk M 17), .ref (g.lk M 18), .ref (g.lk M 19), .ref (g.lk M 20), .ref (g.lk M 21), .ref (g.lk M 22), .ref (g.lk M 23), .ref (g.lk M 24), .ref (g.lk M 25), .ref (g.lk M 26), .ref (g.lk M 27), .ref (g.lk M 28), .ref (g.lk M 29), .ref (g.lk M 30), .ref (g.lk M 31), .int (nI t8), .ref (g.lk M 33), .ref (g.lk M 34), .ref (g.lk M 35), .int (nI mwa), .int (nI mgi), .int (nI ((v - 1) + 1)), .int (nI mst), .int (nI mtr), .int (nI (msp + 1)), .int ma8, .int lg8, .int mdu]) (C := "BigRunnerModel") (T := FT10) (N := 45) hx hb (hw10 hB _) (fun _ h9 => h9) TY10 ok10 nm10 hown hK hP hD hS (lo_in hL t_M (by decide)) e33 rfl 38 (by decide) (wd_985 hB _) rfl (by decide +kernel) rfl rfl (Nat.le_of_ble_eq_true rfl) rfl d_M_step_241 (fun f36 H locs e37 k38 hP hD hS => ?_)
                have eC := (k38 (g.lk M 6) (tg_ne (lo_k11_6 hL _ t_M) t_M (by decide))).trans eC
                have eA := (k38 (g.lk M 7) (tg_ne (lo_k11_7 hL _ t_M) t_M (by decide))).trans eA
                have eVL := (k38 (g.lk M 26) (tg_ne (lo_k11_26 hL _ t_M) t_M (by decide))).trans eVL
                have eVS := (k38 (g.lk M 27) (tg_ne (lo_k11_27 hL _ t_M) t_M (by decide))).trans eVS
                have eOL := (k38 (g.lk M 28) (tg_ne (lo_k11_28 hL _ t_M) t_M (by decide))).trans eOL
                have eOS := (k38 (g.lk M 29) (tg_ne (lo_k11_29 hL _ t_M) t_M (by decide))).trans eOS
                have eIN := (k38 (g.lk M 35) (tg_ne (lo_k11_35 hL _ t_M) t_M (by decide))).trans eIN
                have e17 := (k38 (g.lk M 30) (tg_ne (lo_k11_30 hL _ t_M) t_M (by decide))).trans e17
                have e18 := (k38 (g.lk M 31) (tg_ne (lo_k11_31 hL _ t_M) t_M (by decide))).trans e18
                have e19 := (k38 (g.lk M 33) (tg_ne (lo_k11_33 hL _ t_M) t_M (by decide))).trans e19
                have e20 := (k38 (g.lk M 34) (tg_ne (lo_k11_34 hL _ t_M) t_M (by decide))).trans e20
                have hu := hu.st k38 t_M (by decide)
                have hv22 := hv22.st k38 t_M (by decide)
                have hk39 : ∀ b, b ≠ M → f36 b = f12 b := fun b q0 => (k38 b q0).trans (hk35 b q0)
                have hI40 := iv_1 hI21 hL t_M (by decide) hk39 (oc_11.mk t_M (⟨mth, mn, mdr, msz, mix, mdp, mwt, mop, t8, mwa, mgi, ((v - 1) + 1), mst, mtr, (msp + 1), ma8, lg8, mdu, e37, (by omega), (by omega), (by omega), (by omega), (by omega), (by omega), (by omega), (by omega), (by omega), (by omega), (by omega), (by omega), (by omega), (by omega), hmb14⟩))
                exact pe_vret hx hb hr hlocks hK hP hD hS d_M_step_244 ⟨⟨t8, mwa, mgi, ((v - 1) + 1), mtr, (msp + 1), ma8, lg8, by omega, by omega, by omega, by omega, by omega, by omega, (fun _ => ⟨by omega, fun _ => by first | exact hq10 | (have z8 := hjt.2.2 (by omega); rw [show v - 1 + 1 = v by omega]; exact z8)⟩), ⟨_, _, _, _, _, _, _, _, _, e17, e18, e19, e20, eVL, eVS, eOL, eOS, eIN, cl8, cr8, cq8, c6VL, c6OL, (by rw [hpq9]; exact ⟨hVR, hOU, hINq, hgo, congrArg (· + 1) hspq, htr0, fun _ => by show _ = v; omega⟩)⟩, e37⟩, hI40, hu⟩
            · skip
              replace b25 := (nI_eq (a := w) (b := 10) (by omega) (by omega)).mp b25
              have hat8 : at_ L p8 = (10, v) := by rw [hat, show w = 10 by omega]
              have hpq9 := pq_10 hn9 hpp8 hat8 hev8
              refine lv_iconst (v := nI 0) hx hb d_M_step_130 (by decide) ?_
              refine lv_istore_n (lv' := [(1, .int (nI 0)), (0, .ref M)]) hx hb d_M_step_131 rfl hl (by decide) rfl (fun ls hl => ?_)
              have lp41 : ∀ (k43 : Nat) (i : Nat) (h : Nat → Int32) (f42 : Nat → va_E) (H : Heap) (locs : List Loc) (ls : Array Slot), (20 < i + k43) → (i ≤ 20) → (C6 240 h) → (mgi < 12 → ∀ j, j < i → dg h (20 * mgi + j) = dg hl8 (20 * 0 + j)) → (SF mgi hOL h) → f42 (g.lk M 28) = .inl (g.ac (g.lk M 28), 240, .inl (h)) → IV g f42 → un [60] g f12 f42 → lv_has ls 2 [(1, .int (nI i)), (0, .ref M)] → va_P g.D vcl (va_pl g.LP f42) H → va_D (pc_A g s.heap.size) (va_pl g.LP f42) → va_S (pc_A g s.heap.size) s.heap H locs → W p l e ({ frames := 4, cells := 0, slots := 0, locals := 103 }) s m args below meth c H locs 0 0 (MQ below (va_Qv (fun f1 => (∃ (tp1 : Nat) (wa1 : Nat) (gi1 : Nat) (pc1 : Nat) (tr1 : Nat) (sp1 : Nat) (ma1 : Int32) (lg1 : Int32), (tp1 ≤ 80) ∧ (wa1 ≤ 20) ∧ (gi1 ≤ sp1) ∧ (pc1 ≤ 100) ∧ (tr1 ≤ 2) ∧ (sp1 = msp + 1) ∧ (PCO dpf msz pc1 tr1) ∧ (∃ hl hs hr hq hv hw ho hp hi : Nat → Int32, f1 (g.lk M 30) = .inl (g.ac (g.lk M 30), 1600, .inl hl) ∧ f1 (g.lk M 31) = .inl (g.ac (g.lk M 31), 80, .inl hs) ∧ f1 (g.lk M 33) = .inl (g.ac (g.lk M 33), 44, .inl hr) ∧ f1 (g.lk M 34) = .inl (g.ac (g.lk M 34), 44, .inl hq) ∧ f1 (g.lk M 26) = .inl (g.ac (g.lk M 26), 200, .inl hv) ∧ f1 (g.lk M 27) = .inl (g.ac (g.lk M 27), 10, .inl hw) ∧ f1 (g.lk M 28) = .inl (g.ac (g.lk M 28), 240, .inl ho) ∧ f1 (g.lk M 29) = .inl (g.ac (g.lk M 29), 12, .inl hp) ∧ f1 (g.lk M 35) = .inl (g.ac (g.lk M 35), 20, .inl hi) ∧ C6 1600 hl ∧ C6 44 hr ∧ C6 44 hq ∧ C6 200 hv ∧ C6 240 ho ∧ MQ9 hv hw ho hp hi wa1 gi1 sp1 tr1 pc1 (pstq L s9)) ∧ f1 M = .inr (10, [.int mth, .ref (g.lk M 1), .int (nI mn), .ref (g.lk M 3), .ref (g.lk M 4), .int (nI mdr), .ref (g.lk M 6), .ref (g.lk M 7), .ref (g.lk M 8), .int (nI msz), .int (nI mix), .int (nI mdp), .ref (g.lk M 12), .int (nI mwt), .ref (g.lk M 14), .ref (g.lk M 15), .int (nI mop), .ref (g.lk M 17), .ref (g.lk M 18), .ref (g.lk M 19), .ref (g.lk M 20), .ref (g.lk M 21), .ref (g.lk M 22), .ref (g.lk M 23), .ref (g.lk M 24), .ref (g.lk M 25), .ref (g.lk M 26), .ref (g.lk M 27), .ref (g.lk M 28), .ref (g.lk M 29), .ref (g.lk M 30), .ref (g.lk M 31), .int (nI tp1), .ref (g.lk M 33), .ref (g.lk M 34), .ref (g.lk M 35), .int (nI wa1), .int (nI gi1), .int (nI pc1), .int (nI mst), .int (nI tr1), .int (nI sp1), .int ma1, .int lg1, .int mdu])) ∧ (IV g f1) ∧ (un [11, 58, 59, 60, 61, 62, 63, 64, 65, 66] g f f1)) (pc_out g s.heap.size) (pc_A g s.heap.size)) args s 0 0 (pc_A g s.heap.size)) (F0 m 132 ls []) := by
                intro k43
                induction k43 with
                | zero => intros; exfalso; omega
                | succ k43 ih44 =>
                  intro i h f42 H locs ls hfu45 hi hc hcp hsf e46 hI47 hv48 hl hP hD hS
                  have eC := hv48.at (lo_k11_6 hL _ t_M) (by decide) eC
                  have eA := hv48.at (lo_k11_7 hL _ t_M) (by decide) eA
                  have eVL := hv48.at (lo_k11_26 hL _ t_M) (by decide) eVL
                  have eVS := hv48.at (lo_k11_27 hL _ t_M) (by decide) eVS
                  have eOS := hv48.at (lo_k11_29 hL _ t_M) (by decide) eOS
                  have eIN := hv48.at (lo_k11_35 hL _ t_M) (by decide) eIN
                  have e16 := hv48.at t_M (by decide) e16
                  have e17 := hv48.at (lo_k11_30 hL _ t_M) (by decide) e17
                  have e18 := hv48.at (lo_k11_31 hL _ t_M) (by decide) e18
                  have e19 := hv48.at (lo_k11_33 hL _ t_M) (by decide) e19
                  have e20 := hv48.at (lo_k11_34 hL _ t_M) (by decide) e20
                  have hu := hu.tr hv48 (by decide)
                  refine lv_iload_n hx hb d_M_step_132 rfl (lv_at hl 0 rfl) ?_
                  refine lv_bipush (v := nI 20) hx hb d_M_step_133 (by decide) ?_
                  refine lv_icmp_ge (tgt := 173) hx hb d_M_step_135 (by decide) (fun b49 => ?_) (fun b49 => ?_)
                  · skip
                    replace b49 := (nI_leI (a := 20) (b := i) (by omega) (by omega)).mp b49
                    refine lv_aload_n hx hb d_M_step_173 rfl (lv_at hl 1 rfl) ?_
                    refine pf_get (v := .int (nI mgi)) (C := "BigRunnerModel") (T := FT10) (N := 45) hx hb (hw10 hB _) (fun _ h9 => h9) hown hK hP (lo_in hL t_M (by decide)) e16 rfl 37 (by decide) (wd_984 hB _) rfl d_M_step_174 ?_
                    refine lv_bipush (v := nI 12) hx hb d_M_step_177 (by decide) ?_
                    refine lv_icmp_ge (tgt := 197) hx hb d_M_step_179 (by decide) (fun b50 => ?_) (fun b50 => ?_)
                    · skip
                      replace b50 := (nI_leI (a := 12) (b := mgi) (by omega) (by omega)).mp b50
                      refine lv_aload_n hx hb d_M_step_197 rfl (lv_at hl 1 rfl) ?_
                      refine lv_dup hx hb d_M_step_198 rfl ?_
                      refine pf_get (v := .int (nI mgi)) (C := "BigRunnerModel") (T := FT10) (N := 45) hx hb (hw10 hB _) (fun _ h9 => h9) hown hK hP (lo_in hL t_M (by decide)) e16 rfl 37 (by decide) (wd_984 hB _) rfl d_M_step_199 ?_
                      refine lv_iconst (v := nI 1) hx hb d_M_step_202 (by decide) ?_
                      refine pf_iaddN (x := mgi) (y := 1) hx hb d_M_step_203 ?_
                      refine pf_put (v := .int (nI (mgi + 1))) (ty := .int) (fs' := [.int mth, .ref (g.lk M 1), .int (nI mn), .ref (g.lk M 3), .ref (g.lk M 4), .int (nI mdr), .ref (g.lk M 6), .ref (g.lk M 7), .ref (g.lk M 8), .int (nI msz), .int (nI mix), .int (nI mdp), .ref (g.lk M 12), .int (nI mwt), .ref (g.lk M 14), .ref (g.lk M 15), .int (nI mop), .ref (g.lk M 17), .ref (g.lk M 18), .ref (g.lk M 19), .ref (g.lk M 20), .ref (g.lk M 21), .ref (g.lk M 22), .ref (g.lk M 23), .ref (g.lk M 24), .ref (g.lk M 25), .ref (g.lk M 26), .ref (g.lk M 27), .ref (g.lk M 28), .ref (g.lk M 29), .ref (g.lk M 30), .ref (g.lk M 31), .int (nI t8), .ref (g.lk M 33), .ref (g.lk M 34), .ref (g.lk M 35), .int (nI mwa), .int (nI (mgi + 1)), .int (nI p8), .int (nI mst), .int (nI mtr), .int (nI (msp + 1)), .int ma8, .int lg8, .int mdu]) (C := "BigRunnerModel") (T := FT10) (N := 45) hx hb (hw10 hB _) (fun _ h9 => h9) TY10 ok10 nm10 hown hK hP hD hS (lo_in hL t_M (by decide)) e16 rfl 37 (by decide) (wd_984 hB _) rfl (by decide +kernel) rfl rfl (Nat.le_of_ble_eq_true rfl) rfl d_M_step_204 (fun f51 H locs e52 k53 hP hD hS => ?_)
                      have eC := (k53 (g.lk M 6) (tg_ne (lo_k11_6 hL _ t_M) t_M (by decide))).trans eC
                      have eA := (k53 (g.lk M 7) (tg_ne (lo_k11_7 hL _ t_M) t_M (by decide))).trans eA
                      have eVL := (k53 (g.lk M 26) (tg_ne (lo_k11_26 hL _ t_M) t_M (by decide))).trans eVL
                      have eVS := (k53 (g.lk M 27) (tg_ne (lo_k11_27 hL _ t_M) t_M (by decide))).trans eVS
                      have eOS := (k53 (g.lk M 29) (tg_ne (lo_k11_29 hL _ t_M) t_M (by decide))).trans eOS
                      have eIN := (k53 (g.lk M 35) (tg_ne (lo_k11_35 hL _ t_M) t_M (by decide))).trans eIN
                      have e17 := (k53 (g.lk M 30) (tg_ne (lo_k11_30 hL _ t_M) t_M (by decide))).trans e17
                      have e18 := (k53 (g.lk M 31) (tg_ne (lo_k11_31 hL _ t_M) t_M (by decide))).trans e18
                      have e19 := (k53 (g.lk M 33) (tg_ne (lo_k11_33 hL _ t_M) t_M (by decide))).trans e19
                      have e20 := (k53 (g.lk M 34) (tg_ne (lo_k11_34 hL _ t_M) t_M (by decide))).trans e20
                      have e46 := (k53 (g.lk M 28) (tg_ne (lo_k11_28 hL _ t_M) t_M (by decide))).trans e46
                      have hu := hu.st k53 t_M (by decide)
                      have hk54 : ∀ b, b ≠ M → f51 b = f42 b := k53
                      refine lv_goto (tgt := 234) hx hb d_M_step_207 (by decide) ?_
                      refine lv_aload_n hx hb d_M_step_234 rfl (lv_at hl 1 rfl) ?_
                      refine lv_dup hx hb d_M_step_235 rfl ?_
                      refine pf_get (v := .int (nI p8)) (C := "BigRunnerModel") (T := FT10) (N := 45) hx hb (hw10 hB _) (fun _ h9 => h9) hown hK hP (lo_in hL t_M (by decide)) e52 rfl 38 (by decide) (wd_985 hB _) rfl d_M_step_236 ?_
                      refine lv_iconst (v := nI 1) hx hb d_M_step_239 (by decide) ?_
                      refine pf_iaddN (x := p8) (y := 1) hx hb d_M_step_240 ?_
                      refine pf_put (v := .int (nI (p8 + 1))) (ty := .int) (fs' := [.int mth, .ref (g.lk M 1), .int (nI mn), .ref (g.lk M 3), .ref (g.lk M 4), .int (nI mdr), .ref (g.lk M 6), .ref (g.lk M 7), .ref (g.lk M 8), .int (nI msz), .int (nI mix), .int (nI mdp), .ref (g.lk M 12), .int (nI mwt), .ref (g.lk M 14), .ref (g.lk M 15), .int (nI mop), .ref (g.lk M 17), .ref (g.lk M 18), .ref (g.lk M 19), .ref (g.lk M 20), .ref (g.lk M 21), .ref (g.lk M 22), .ref (g.lk M 23), .ref (g.lk M 24), .ref (g.lk M 25), .ref (g.lk M 26), .ref (g.lk M 27), .ref (g.lk M 28), .ref (g.lk M 29), .ref (g.lk M 30), .ref (g.lk M 31), .int (nI t8), .ref (g.lk M 33), .ref (g.lk M 34), .ref (g.lk M 35), .int (nI mwa), .int (nI (mgi + 1)), .int (nI (p8 + 1)), .int (nI mst), .int (nI mtr), .int (nI (msp + 1)), .int ma8, .int lg8, .int mdu]) (C := "BigRunnerModel") (T := FT10) (N := 45) hx hb (hw10 hB _) (fun _ h9 => h9) TY10 ok10 nm10 hown hK hP hD hS (lo_in hL t_M (by decide)) e52 rfl 38 (by decide) (wd_985 hB _) rfl (by decide +kernel) rfl rfl (Nat.le_of_ble_eq_true rfl) rfl d_M_step_241 (fun f55 H locs e56 k57 hP hD hS => ?_)
                      have eC := (k57 (g.lk M 6) (tg_ne (lo_k11_6 hL _ t_M) t_M (by decide))).trans eC
                      have eA := (k57 (g.lk M 7) (tg_ne (lo_k11_7 hL _ t_M) t_M (by decide))).trans eA
                      have eVL := (k57 (g.lk M 26) (tg_ne (lo_k11_26 hL _ t_M) t_M (by decide))).trans eVL
                      have eVS := (k57 (g.lk M 27) (tg_ne (lo_k11_27 hL _ t_M) t_M (by decide))).trans eVS
                      have eOS := (k57 (g.lk M 29) (tg_ne (lo_k11_29 hL _ t_M) t_M (by decide))).trans eOS
                      have eIN := (k57 (g.lk M 35) (tg_ne (lo_k11_35 hL _ t_M) t_M (by decide))).trans eIN
                      have e17 := (k57 (g.lk M 30) (tg_ne (lo_k11_30 hL _ t_M) t_M (by decide))).trans e17
                      have e18 := (k57 (g.lk M 31) (tg_ne (lo_k11_31 hL _ t_M) t_M (by decide))).trans e18
                      have e19 := (k57 (g.lk M 33) (tg_ne (lo_k11_33 hL _ t_M) t_M (by decide))).trans e19
                      have e20 := (k57 (g.lk M 34) (tg_ne (lo_k11_34 hL _ t_M) t_M (by decide))).trans e20
                      have e46 := (k57 (g.lk M 28) (tg_ne (lo_k11_28 hL _ t_M) t_M (by decide))).trans e46
                      have hu := hu.st k57 t_M (by decide)
                      have hk58 : ∀ b, b ≠ M → f55 b = f42 b := fun b q0 => (k57 b q0).trans (hk54 b q0)
                      have hI59 := iv_1 hI47 hL t_M (by decide) hk58 (oc_11.mk t_M (⟨mth, mn, mdr, msz, mix, mdp, mwt, mop, t8, mwa, (mgi + 1), (p8 + 1), mst, mtr, (msp + 1), ma8, lg8, mdu, e56, (by omega), (by omega), (by omega), (by omega), (by omega), (by omega), (by omega), (by omega), (by omega), (by omega), (by omega), (by omega), (by omega), (by omega), hmb14⟩))
                      exact pe_vret hx hb hr hlocks hK hP hD hS d_M_step_244 ⟨⟨t8, mwa, (mgi + 1), (p8 + 1), mtr, (msp + 1), ma8, lg8, by omega, by omega, by omega, by omega, by omega, by omega, (fun _ => ⟨by omega, fun _ => by first | exact hq10 | (have z8 := hjt.2.2 (by omega); rw [show v - 1 + 1 = v by omega]; exact z8)⟩), ⟨_, _, _, _, _, _, _, _, _, e17, e18, e19, e20, eVL, eVS, e46, eOS, eIN, cl8, cr8, cq8, c6VL, hc, (by rw [hpq9]; exact ⟨hVR, (OUM_n (OUM_SF hOU (by rw [← hgo]; exact hsf) (by omega)) (by omega)), hINq, (by show _ = (s9.outs ++ [x9]).length; rw [List.length_append, List.length_singleton]; omega), congrArg (· + 1) hspq, htr0, fun _ => rfl⟩)⟩, e56⟩, hI59, hu⟩
                    · skip
                      replace b50 := mt (nI_leI (a := 12) (b := mgi) (by omega) (by omega)).mpr b50
                      refine lv_aload_n hx hb d_M_step_182 rfl (lv_at hl 1 rfl) ?_
                      refine pf_get (v := .ref (g.lk M 29)) (C := "BigRunnerModel") (T := FT10) (N := 45) hx hb (hw10 hB _) (fun _ h9 => h9) hown hK hP (lo_in hL t_M (by decide)) e16 rfl 29 (by decide) (wd_976 hB _) rfl d_M_step_183 ?_
                      refine lv_aload_n hx hb d_M_step_186 rfl (lv_at hl 1 rfl) ?_
                      refine pf_get (v := .int (nI mgi)) (C := "BigRunnerModel") (T := FT10) (N := 45) hx hb (hw10 hB _) (fun _ h9 => h9) hown hK hP (lo_in hL t_M (by decide)) e16 rfl 37 (by decide) (wd_984 hB _) rfl d_M_step_187 ?_
                      refine lv_aload_n hx hb d_M_step_190 rfl (lv_at hl 1 rfl) ?_
                      refine pf_get (v := .ref (g.lk M 31)) (C := "BigRunnerModel") (T := FT10) (N := 45) hx hb (hw10 hB _) (fun _ h9 => h9) hown hK hP (lo_in hL t_M (by decide)) e16 rfl 31 (by decide) (wd_978 hB _) rfl d_M_step_191 ?_
                      refine lv_iconst (v := nI 0) hx hb d_M_step_194 (by decide) ?_
                      refine pf_iald (i := 0) hx hb hK hP (lo_in hL (lo_k11_31 hL _ t_M) (by decide)) e18 (lo_t63 hL _ (lo_k11_31 hL _ t_M)) (by omega) (by decide) d_M_step_195 ?_
                      refine pf_iast (i := mgi) hx hb hK hP hD hS (lo_in hL (lo_k11_29 hL _ t_M) (by decide)) eOS (lo_t61 hL _ (lo_k11_29 hL _ t_M)) (by omega) (by decide) d_M_step_196 (fun f60 H locs e61 k62 hP hD hS => ?_)
                      have eC := (k62 (g.lk M 6) (tg_ne (lo_k11_6 hL _ t_M) (lo_k11_29 hL _ t_M) (by decide))).trans eC
                      have eA := (k62 (g.lk M 7) (tg_ne (lo_k11_7 hL _ t_M) (lo_k11_29 hL _ t_M) (by decide))).trans eA
                      have eVL := (k62 (g.lk M 26) (tg_ne (lo_k11_26 hL _ t_M) (lo_k11_29 hL _ t_M) (by decide))).trans eVL
                      have eVS := (k62 (g.lk M 27) (tg_ne (lo_k11_27 hL _ t_M) (lo_k11_29 hL _ t_M) (by decide))).trans eVS
                      have eIN := (k62 (g.lk M 35) (tg_ne (lo_k11_35 hL _ t_M) (lo_k11_29 hL _ t_M) (by decide))).trans eIN
                      have e16 := (k62 M (tg_ne t_M (lo_k11_29 hL _ t_M) (by decide))).trans e16
                      have e17 := (k62 (g.lk M 30) (tg_ne (lo_k11_30 hL _ t_M) (lo_k11_29 hL _ t_M) (by decide))).trans e17
                      have e18 := (k62 (g.lk M 31) (tg_ne (lo_k11_31 hL _ t_M) (lo_k11_29 hL _ t_M) (by decide))).trans e18
                      have e19 := (k62 (g.lk M 33) (tg_ne (lo_k11_33 hL _ t_M) (lo_k11_29 hL _ t_M) (by decide))).trans e19
                      have e20 := (k62 (g.lk M 34) (tg_ne (lo_k11_34 hL _ t_M) (lo_k11_29 hL _ t_M) (by decide))).trans e20
                      have e46 := (k62 (g.lk M 28) (tg_ne (lo_k11_28 hL _ t_M) (lo_k11_29 hL _ t_M) (by decide))).trans e46
                      have hu := hu.st k62 (lo_k11_29 hL _ t_M) (by decide)
                      have hk63 : ∀ b, b ≠ (g.lk M 29) → f60 b = f42 b := k62
                      refine lv_aload_n hx hb d_M_step_197 rfl (lv_at hl 1 rfl) ?_
                      refine lv_dup hx hb d_M_step_198 rfl ?_
                      refine pf_get (v := .int (nI mgi)) (C := "BigRunnerModel") (T := FT10) (N := 45) hx hb (hw10 hB _) (fun _ h9 => h9) hown hK hP (lo_in hL t_M (by decide)) e16 rfl 37 (by decide) (wd_984 hB _) rfl d_M_step_199 ?_
                      refine lv_iconst (v := nI 1) hx hb d_M_step_202 (by decide) ?_
                      refine pf_iaddN (x := mgi) (y := 1) hx hb d_M_step_203 ?_
                      have hI64 := iv_1 hI47 hL (lo_k11_29 hL _ t_M) (by decide) hk63 (oc_61.mk (lo_k11_29 hL _ t_M) (⟨_, e61⟩))
                      refine pf_put (v := .int (nI (mgi + 1))) (ty := .int) (fs' := [.int mth, .ref (g.lk M 1), .int (nI mn), .ref (g.lk M 3), .ref (g.lk M 4), .int (nI mdr), .ref (g.lk M 6), .ref (g.lk M 7), .ref (g.lk M 8), .int (nI msz), .int (nI mix), .int (nI mdp), .ref (g.lk M 12), .int (nI mwt), .ref (g.lk M 14), .ref (g.lk M 15), .int (nI mop), .ref (g.lk M 17), .ref (g.lk M 18), .ref (g.lk M 19), .ref (g.lk M 20), .ref (g.lk M 21), .ref (g.lk M 22), .ref (g.lk M 23), .ref (g.lk M 24), .ref (g.lk M 25), .ref (g.lk M 26), .ref (g.lk M 27), .ref (g.lk M 28), .ref (g.lk M 29), .ref (g.lk M 30), .ref (g.lk M 31), .int (nI t8), .ref (g.lk M 33), .ref (g.lk M 34), .ref (g.lk M 35), .int (nI mwa), .int (nI (mgi + 1)), .int (nI p8), .int (nI mst), .int (nI mtr), .int (nI (msp + 1)), .int ma8, .int lg8, .int mdu]) (C := "BigRunnerModel") (T := FT10) (N := 45) hx hb (hw10 hB _) (fun _ h9 => h9) TY10 ok10 nm10 hown hK hP hD hS (lo_in hL t_M (by decide)) e16 rfl 37 (by decide) (wd_984 hB _) rfl (by decide +kernel) rfl rfl (Nat.le_of_ble_eq_true rfl) rfl d_M_step_204 (fun f65 H locs e66 k67 hP hD hS => ?_)
                      have eC := (k67 (g.lk M 6) (tg_ne (lo_k11_6 hL _ t_M) t_M (by decide))).trans eC
                      have eA := (k67 (g.lk M 7) (tg_ne (lo_k11_7 hL _ t_M) t_M (by decide))).trans eA
                      have eVL := (k67 (g.lk M 26) (tg_ne (lo_k11_26 hL _ t_M) t_M (by decide))).trans eVL
                      have eVS := (k67 (g.lk M 27) (tg_ne (lo_k11_27 hL _ t_M) t_M (by decide))).trans eVS
                      have eIN := (k67 (g.lk M 35) (tg_ne (lo_k11_35 hL _ t_M) t_M (by decide))).trans eIN
                      have e17 := (k67 (g.lk M 30) (tg_ne (lo_k11_30 hL _ t_M) t_M (by decide))).trans e17
                      have e18 := (k67 (g.lk M 31) (tg_ne (lo_k11_31 hL _ t_M) t_M (by decide))).trans e18
                      have e19 := (k67 (g.lk M 33) (tg_ne (lo_k11_33 hL _ t_M) t_M (by decide))).trans e19
                      have e20 := (k67 (g.lk M 34) (tg_ne (lo_k11_34 hL _ t_M) t_M (by decide))).trans e20
                      have e46 := (k67 (g.lk M 28) (tg_ne (lo_k11_28 hL _ t_M) t_M (by decide))).trans e46
                      have e61 := (k67 (g.lk M 29) (tg_ne (lo_k11_29 hL _ t_M) t_M (by decide))).trans e61
                      have hu := hu.st k67 t_M (by decide)
                      have hk68 : ∀ b, b ≠ M → f65 b = f60 b := k67
                      refine lv_goto (tgt := 234) hx hb d_M_step_207 (by decide) ?_
                      refine lv_aload_n hx hb d_M_step_234 rfl (lv_at hl 1 rfl) ?_
                      refine lv_dup hx hb d_M_step_235 rfl ?_
                      refine pf_get (v := .int (nI p8)) (C := "BigRunnerModel") (T := FT10) (N := 45) hx hb (hw10 hB _) (fun _ h9 => h9) hown hK hP (lo_in hL t_M (by decide)) e66 rfl 38 (by decide) (wd_985 hB _) rfl d_M_step_236 ?_
                      refine lv_iconst (v := nI 1) hx hb d_M_step_239 (by decide) ?_
                      refine pf_iaddN (x := p8) (y := 1) hx hb d_M_step_240 ?_
                      refine pf_put (v := .int (nI (p8 + 1))) (ty := .int) (fs' := [.int mth, .ref (g.lk M 1), .int (nI mn), .ref (g.lk M 3), .ref (g.lk M 4), .int (nI mdr), .ref (g.lk M 6), .ref (g.lk M 7), .ref (g.lk M 8), .int (nI msz), .int (nI mix), .int (nI mdp), .ref (g.lk M 12), .int (nI mwt), .ref (g.lk M 14), .ref (g.lk M 15), .int (nI mop), .ref (g.lk M 17), .ref (g.lk M 18), .ref (g.lk M 19), .ref (g.lk M 20), .ref (g.lk M 21), .ref (g.lk M 22), .ref (g.lk M 23), .ref (g.lk M 24), .ref (g.lk M 25), .ref (g.lk M 26), .ref (g.lk M 27), .ref (g.lk M 28), .ref (g.lk M 29), .ref (g.lk M 30), .ref (g.lk M 31), .int (nI t8), .ref (g.lk M 33), .ref (g.lk M 34), .ref (g.lk M 35), .int (nI mwa), .int (nI (mgi + 1)), .int (nI (p8 + 1)), .int (nI mst), .int (nI mtr), .int (nI (msp + 1)), .int ma8, .int lg8, .int mdu]) (C := "BigRunnerModel") (T := FT10) (N := 45) hx hb (hw10 hB _) (fun _ h9 => h9) TY10 ok10 nm10 hown hK hP hD hS (lo_in hL t_M (by decide)) e66 rfl 38 (by decide) (wd_985 hB _) rfl (by decide +kernel) rfl rfl (Nat.le_of_ble_eq_true rfl) rfl d_M_step_241 (fun f69 H locs e70 k71 hP hD hS => ?_)
                      have eC := (k71 (g.lk M 6) (tg_ne (lo_k11_6 hL _ t_M) t_M (by decide))).trans eC
                      have eA := (k71 (g.lk M 7) (tg_ne (lo_k11_7 hL _ t_M) t_M (by decide))).trans eA
                      have eVL := (k71 (g.lk M 26) (tg_ne (lo_k11_26 hL _ t_M) t_M (by decide))).trans eVL
                      have eVS := (k71 (g.lk M 27) (tg_ne (lo_k11_27 hL _ t_M) t_M (by decide))).trans eVS
                      have eIN := (k71 (g.lk M 35) (tg_ne (lo_k11_35 hL _ t_M) t_M (by decide))).trans eIN
                      have e17 := (k71 (g.lk M 30) (tg_ne (lo_k11_30 hL _ t_M) t_M (by decide))).trans e17
                      have e18 := (k71 (g.lk M 31) (tg_ne (lo_k11_31 hL _ t_M) t_M (by decide))).trans e18
                      have e19 := (k71 (g.lk M 33) (tg_ne (lo_k11_33 hL _ t_M) t_M (by decide))).trans e19
                      have e20 := (k71 (g.lk M 34) (tg_ne (lo_k11_34 hL _ t_M) t_M (by decide))).trans e20
                      have e46 := (k71 (g.lk M 28) (tg_ne (lo_k11_28 hL _ t_M) t_M (by decide))).trans e46
                      have e61 := (k71 (g.lk M 29) (tg_ne (lo_k11_29 hL _ t_M) t_M (by decide))).trans e61
                      have hu := hu.st k71 t_M (by decide)
                      have hk72 : ∀ b, b ≠ M → f69 b = f60 b := fun b q0 => (k71 b q0).trans (hk68 b q0)
                      have hI73 := iv_1 hI64 hL t_M (by decide) hk72 (oc_11.mk t_M (⟨mth, mn, mdr, msz, mix, mdp, mwt, mop, t8, mwa, (mgi + 1), (p8 + 1), mst, mtr, (msp + 1), ma8, lg8, mdu, e70, (by omega), (by omega), (by omega), (by omega), (by omega), (by omega), (by omega), (by omega), (by omega), (by omega), (by omega), (by omega), (by omega), (by omega), hmb14⟩))
                      exact pe_vret hx hb hr hlocks hK hP hD hS d_M_step_244 ⟨⟨t8, mwa, (mgi + 1), (p8 + 1), mtr, (msp + 1), ma8, lg8, by omega, by omega, by omega, by omega, by omega, by omega, (fun _ => ⟨by omega, fun _ => by first | exact hq10 | (have z8 := hjt.2.2 (by omega); rw [show v - 1 + 1 = v by omega]; exact z8)⟩), ⟨_, _, _, _, _, _, _, _, _, e17, e18, e19, e20, eVL, eVS, e46, e61, eIN, cl8, cr8, cq8, c6VL, hc, (by rw [hpq9]; exact ⟨hVR, (by have e9 := hgo; subst e9; exact OUM_p hOU hsf (fun j9 hj9 => upd_ne _ _ hj9) (SV_cp hsx9 (fun i9 hi9 => hcp (by omega) i9 (by omega)) (upd_at _ _ _))), hINq, (by show _ = (s9.outs ++ [x9]).length; rw [List.length_append, List.length_singleton]; omega), congrArg (· + 1) hspq, htr0, fun _ => rfl⟩)⟩, e70⟩, hI73, hu⟩
                  · skip
                    replace b49 := mt (nI_leI (a := 20) (b := i) (by omega) (by omega)).mpr b49
                    refine lv_aload_n hx hb d_M_step_138 rfl (lv_at hl 1 rfl) ?_
                    refine pf_get (v := .int (nI mgi)) (C := "BigRunnerModel") (T := FT10) (N := 45) hx hb (hw10 hB _) (fun _ h9 => h9) hown hK hP (lo_in hL t_M (by decide)) e16 rfl 37 (by decide) (wd_984 hB _) rfl d_M_step_139 ?_
                    refine lv_bipush (v := nI 12) hx hb d_M_step_142 (by decide) ?_
                    refine lv_icmp_ge (tgt := 173) hx hb d_M_step_144 (by decide) (fun b74 => ?_) (fun b74 => ?_)
                    · skip
                      replace b74 := (nI_leI (a := 12) (b := mgi) (by omega) (by omega)).mp b74
                      refine lv_aload_n hx hb d_M_step_173 rfl (lv_at hl 1 rfl) ?_
                      refine pf_get (v := .int (nI mgi)) (C := "BigRunnerModel") (T := FT10) (N := 45) hx hb (hw10 hB _) (fun _ h9 => h9) hown hK hP (lo_in hL t_M (by decide)) e16 rfl 37 (by decide) (wd_984 hB _) rfl d_M_step_174 ?_
                      refine lv_bipush (v := nI 12) hx hb d_M_step_177 (by decide) ?_
                      refine lv_icmp_ge (tgt := 197) hx hb d_M_step_179 (by decide) (fun b75 => ?_) (fun b75 => ?_)
                      · skip
                        replace b75 := (nI_leI (a := 12) (b := mgi) (by omega) (by omega)).mp b75
                        refine lv_aload_n hx hb d_M_step_197 rfl (lv_at hl 1 rfl) ?_
                        refine lv_dup hx hb d_M_step_198 rfl ?_
                        refine pf_get (v := .int (nI mgi)) (C := "BigRunnerModel") (T := FT10) (N := 45) hx hb (hw10 hB _) (fun _ h9 => h9) hown hK hP (lo_in hL t_M (by decide)) e16 rfl 37 (by decide) (wd_984 hB _) rfl d_M_step_199 ?_
                        refine lv_iconst (v := nI 1) hx hb d_M_step_202 (by decide) ?_
                        refine pf_iaddN (x := mgi) (y := 1) hx hb d_M_step_203 ?_
                        refine pf_put (v := .int (nI (mgi + 1))) (ty := .int) (fs' := [.int mth, .ref (g.lk M 1), .int (nI mn), .ref (g.lk M 3), .ref (g.lk M 4), .int (nI mdr), .ref (g.lk M 6), .ref (g.lk M 7), .ref (g.lk M 8), .int (nI msz), .int (nI mix), .int (nI mdp), .ref (g.lk M 12), .int (nI mwt), .ref (g.lk M 14), .ref (g.lk M 15), .int (nI mop), .ref (g.lk M 17), .ref (g.lk M 18), .ref (g.lk M 19), .ref (g.lk M 20), .ref (g.lk M 21), .ref (g.lk M 22), .ref (g.lk M 23), .ref (g.lk M 24), .ref (g.lk M 25), .ref (g.lk M 26), .ref (g.lk M 27), .ref (g.lk M 28), .ref (g.lk M 29), .ref (g.lk M 30), .ref (g.lk M 31), .int (nI t8), .ref (g.lk M 33), .ref (g.lk M 34), .ref (g.lk M 35), .int (nI mwa), .int (nI (mgi + 1)), .int (nI p8), .int (nI mst), .int (nI mtr), .int (nI (msp + 1)), .int ma8, .int lg8, .int mdu]) (C := "BigRunnerModel") (T := FT10) (N := 45) hx hb (hw10 hB _) (fun _ h9 => h9) TY10 ok10 nm10 hown hK hP hD hS (lo_in hL t_M (by decide)) e16 rfl 37 (by decide) (wd_984 hB _) rfl (by decide +kernel) rfl rfl (Nat.le_of_ble_eq_true rfl) rfl d_M_step_204 (fun f76 H locs e77 k78 hP hD hS => ?_)
                        have eC := (k78 (g.lk M 6) (tg_ne (lo_k11_6 hL _ t_M) t_M (by decide))).trans eC
                        have eA := (k78 (g.lk M 7) (tg_ne (lo_k11_7 hL _ t_M) t_M (by decide))).trans eA
                        have eVL := (k78 (g.lk M 26) (tg_ne (lo_k11_26 hL _ t_M) t_M (by decide))).trans eVL
                        have eVS := (k78 (g.lk M 27) (tg_ne (lo_k11_27 hL _ t_M) t_M (by decide))).trans eVS
                        have eOS := (k78 (g.lk M 29) (tg_ne (lo_k11_29 hL _ t_M) t_M (by decide))).trans eOS
                        have eIN := (k78 (g.lk M 35) (tg_ne (lo_k11_35 hL _ t_M) t_M (by decide))).trans eIN
                        have e17 := (k78 (g.lk M 30) (tg_ne (lo_k11_30 hL _ t_M) t_M (by decide))).trans e17
                        have e18 := (k78 (g.lk M 31) (tg_ne (lo_k11_31 hL _ t_M) t_M (by decide))).trans e18
                        have e19 := (k78 (g.lk M 33) (tg_ne (lo_k11_33 hL _ t_M) t_M (by decide))).trans e19
                        have e20 := (k78 (g.lk M 34) (tg_ne (lo_k11_34 hL _ t_M) t_M (by decide))).trans e20
                        have e46 := (k78 (g.lk M 28) (tg_ne (lo_k11_28 hL _ t_M) t_M (by decide))).trans e46
                        have hu := hu.st k78 t_M (by decide)
                        have hk79 : ∀ b, b ≠ M → f76 b = f42 b := k78
                        refine lv_goto (tgt := 234) hx hb d_M_step_207 (by decide) ?_
                        refine lv_aload_n hx hb d_M_step_234 rfl (lv_at hl 1 rfl) ?_
                        refine lv_dup hx hb d_M_step_235 rfl ?_
                        refine pf_get (v := .int (nI p8)) (C := "BigRunnerModel") (T := FT10) (N := 45) hx hb (hw10 hB _) (fun _ h9 => h9) hown hK hP (lo_in hL t_M (by decide)) e77 rfl 38 (by decide) (wd_985 hB _) rfl d_M_step_236 ?_
                        refine lv_iconst (v := nI 1) hx hb d_M_step_239 (by decide) ?_
                        refine pf_iaddN (x := p8) (y := 1) hx hb d_M_step_240 ?_
                        refine pf_put (v := .int (nI (p8 + 1))) (ty := .int) (fs' := [.int mth, .ref (g.lk M 1), .int (nI mn), .ref (g.lk M 3), .ref (g.lk M 4), .int (nI mdr), .ref (g.lk M 6), .ref (g.lk M 7), .ref (g.lk M 8), .int (nI msz), .int (nI mix), .int (nI mdp), .ref (g.lk M 12), .int (nI mwt), .ref (g.lk M 14), .ref (g.lk M 15), .int (nI mop), .ref (g.lk M 17), .ref (g.lk M 18), .ref (g.lk M 19), .ref (g.lk M 20), .ref (g.lk M 21), .ref (g.lk M 22), .ref (g.lk M 23), .ref (g.lk M 24), .ref (g.lk M 25), .ref (g.lk M 26), .ref (g.lk M 27), .ref (g.lk M 28), .ref (g.lk M 29), .ref (g.lk M 30), .ref (g.lk M 31), .int (nI t8), .ref (g.lk M 33), .ref (g.lk M 34), .ref (g.lk M 35), .int (nI mwa), .int (nI (mgi + 1)), .int (nI (p8 + 1)), .int (nI mst), .int (nI mtr), .int (nI (msp + 1)), .int ma8, .int lg8, .int mdu]) (C := "BigRunnerModel") (T := FT10) (N := 45) hx hb (hw10 hB _) (fun _ h9 => h9) TY10 ok10 nm10 hown hK hP hD hS (lo_in hL t_M (by decide)) e77 rfl 38 (by decide) (wd_985 hB _) rfl (by decide +kernel) rfl rfl (Nat.le_of_ble_eq_true rfl) rfl d_M_step_241 (fun f80 H locs e81 k82 hP hD hS => ?_)
                        have eC := (k82 (g.lk M 6) (tg_ne (lo_k11_6 hL _ t_M) t_M (by decide))).trans eC
                        have eA := (k82 (g.lk M 7) (tg_ne (lo_k11_7 hL _ t_M) t_M (by decide))).trans eA
                        have eVL := (k82 (g.lk M 26) (tg_ne (lo_k11_26 hL _ t_M) t_M (by decide))).trans eVL
                        have eVS := (k82 (g.lk M 27) (tg_ne (lo_k11_27 hL _ t_M) t_M (by decide))).trans eVS
                        have eOS := (k82 (g.lk M 29) (tg_ne (lo_k11_29 hL _ t_M) t_M (by decide))).trans eOS
                        have eIN := (k82 (g.lk M 35) (tg_ne (lo_k11_35 hL _ t_M) t_M (by decide))).trans eIN
                        have e17 := (k82 (g.lk M 30) (tg_ne (lo_k11_30 hL _ t_M) t_M (by decide))).trans e17
                        have e18 := (k82 (g.lk M 31) (tg_ne (lo_k11_31 hL _ t_M) t_M (by decide))).trans e18
                        have e19 := (k82 (g.lk M 33) (tg_ne (lo_k11_33 hL _ t_M) t_M (by decide))).trans e19
                        have e20 := (k82 (g.lk M 34) (tg_ne (lo_k11_34 hL _ t_M) t_M (by decide))).trans e20
                        have e46 := (k82 (g.lk M 28) (tg_ne (lo_k11_28 hL _ t_M) t_M (by decide))).trans e46
                        have hu := hu.st k82 t_M (by decide)
                        have hk83 : ∀ b, b ≠ M → f80 b = f42 b := fun b q0 => (k82 b q0).trans (hk79 b q0)
                        have hI84 := iv_1 hI47 hL t_M (by decide) hk83 (oc_11.mk t_M (⟨mth, mn, mdr, msz, mix, mdp, mwt, mop, t8, mwa, (mgi + 1), (p8 + 1), mst, mtr, (msp + 1), ma8, lg8, mdu, e81, (by omega), (by omega), (by omega), (by omega), (by omega), (by omega), (by omega), (by omega), (by omega), (by omega), (by omega), (by omega), (by omega), (by omega), hmb14⟩))
                        exact pe_vret hx hb hr hlocks hK hP hD hS d_M_step_244 ⟨⟨t8, mwa, (mgi + 1), (p8 + 1), mtr, (msp + 1), ma8, lg8, by omega, by omega, by omega, by omega, by omega, by omega, (fun _ => ⟨by omega, fun _ => by first | exact hq10 | (have z8 := hjt.2.2 (by omega); rw [show v - 1 + 1 = v by omega]; exact z8)⟩), ⟨_, _, _, _, _, _, _, _, _, e17, e18, e19, e20, eVL, eVS, e46, eOS, eIN, cl8, cr8, cq8, c6VL, hc, (by rw [hpq9]; exact ⟨hVR, (OUM_n (OUM_SF hOU (by rw [← hgo]; exact hsf) (by omega)) (by omega)), hINq, (by show _ = (s9.outs ++ [x9]).length; rw [List.length_append, List.length_singleton]; omega), congrArg (· + 1) hspq, htr0, fun _ => rfl⟩)⟩, e81⟩, hI84, hu⟩
                      · skip
                        replace b75 := mt (nI_leI (a := 12) (b := mgi) (by omega) (by omega)).mpr b75
                        refine lv_aload_n hx hb d_M_step_182 rfl (lv_at hl 1 rfl) ?_
                        refine pf_get (v := .ref (g.lk M 29)) (C := "BigRunnerModel") (T := FT10) (N := 45) hx hb (hw10 hB _) (fun _ h9 => h9) hown hK hP (lo_in hL t_M (by decide)) e16 rfl 29 (by decide) (wd_976 hB _) rfl d_M_step_183 ?_
                        refine lv_aload_n hx hb d_M_step_186 rfl (lv_at hl 1 rfl) ?_
                        refine pf_get (v := .int (nI mgi)) (C := "BigRunnerModel") (T := FT10) (N := 45) hx hb (hw10 hB _) (fun _ h9 => h9) hown hK hP (lo_in hL t_M (by decide)) e16 rfl 37 (by decide) (wd_984 hB _) rfl d_M_step_187 ?_
                        refine lv_aload_n hx hb d_M_step_190 rfl (lv_at hl 1 rfl) ?_
                        refine pf_get (v := .ref (g.lk M 31)) (C := "BigRunnerModel") (T := FT10) (N := 45) hx hb (hw10 hB _) (fun _ h9 => h9) hown hK hP (lo_in hL t_M (by decide)) e16 rfl 31 (by decide) (wd_978 hB _) rfl d_M_step_191 ?_
                        refine lv_iconst (v := nI 0) hx hb d_M_step_194 (by decide) ?_
                        refine pf_iald (i := 0) hx hb hK hP (lo_in hL (lo_k11_31 hL _ t_M) (by decide)) e18 (lo_t63 hL _ (lo_k11_31 hL _ t_M)) (by omega) (by decide) d_M_step_195 ?_
                        refine pf_iast (i := mgi) hx hb hK hP hD hS (lo_in hL (lo_k11_29 hL _ t_M) (by decide)) eOS (lo_t61 hL _ (lo_k11_29 hL _ t_M)) (by omega) (by decide) d_M_step_196 (fun f85 H locs e86 k87 hP hD hS => ?_)
                        have eC := (k87 (g.lk M 6) (tg_ne (lo_k11_6 hL _ t_M) (lo_k11_29 hL _ t_M) (by decide))).trans eC
                        have eA := (k87 (g.lk M 7) (tg_ne (lo_k11_7 hL _ t_M) (lo_k11_29 hL _ t_M) (by decide))).trans eA
                        have eVL := (k87 (g.lk M 26) (tg_ne (lo_k11_26 hL _ t_M) (lo_k11_29 hL _ t_M) (by decide))).trans eVL
                        have eVS := (k87 (g.lk M 27) (tg_ne (lo_k11_27 hL _ t_M) (lo_k11_29 hL _ t_M) (by decide))).trans eVS
                        have eIN := (k87 (g.lk M 35) (tg_ne (lo_k11_35 hL _ t_M) (lo_k11_29 hL _ t_M) (by decide))).trans eIN
                        have e16 := (k87 M (tg_ne t_M (lo_k11_29 hL _ t_M) (by decide))).trans e16
                        have e17 := (k87 (g.lk M 30) (tg_ne (lo_k11_30 hL _ t_M) (lo_k11_29 hL _ t_M) (by decide))).trans e17
                        have e18 := (k87 (g.lk M 31) (tg_ne (lo_k11_31 hL _ t_M) (lo_k11_29 hL _ t_M) (by decide))).trans e18
                        have e19 := (k87 (g.lk M 33) (tg_ne (lo_k11_33 hL _ t_M) (lo_k11_29 hL _ t_M) (by decide))).trans e19
                        have e20 := (k87 (g.lk M 34) (tg_ne (lo_k11_34 hL _ t_M) (lo_k11_29 hL _ t_M) (by decide))).trans e20
                        have e46 := (k87 (g.lk M 28) (tg_ne (lo_k11_28 hL _ t_M) (lo_k11_29 hL _ t_M) (by decide))).trans e46
                        have hu := hu.st k87 (lo_k11_29 hL _ t_M) (by decide)
                        have hk88 : ∀ b, b ≠ (g.lk M 29) → f85 b = f42 b := k87
                        refine lv_aload_n hx hb d_M_step_197 rfl (lv_at hl 1 rfl) ?_
                        refine lv_dup hx hb d_M_step_198 rfl ?_
                        refine pf_get (v := .int (nI mgi)) (C := "BigRunnerModel") (T := FT10) (N := 45) hx hb (hw10 hB _) (fun _ h9 => h9) hown hK hP (lo_in hL t_M (by decide)) e16 rfl 37 (by decide) (wd_984 hB _) rfl d_M_step_199 ?_
                        refine lv_iconst (v := nI 1) hx hb d_M_step_202 (by decide) ?_
                        refine pf_iaddN (x := mgi) (y := 1) hx hb d_M_step_203 ?_
                        have hI89 := iv_1 hI47 hL (lo_k11_29 hL _ t_M) (by decide) hk88 (oc_61.mk (lo_k11_29 hL _ t_M) (⟨_, e86⟩))
                        refine pf_put (v := .int (nI (mgi + 1))) (ty := .int) (fs' := [.int mth, .ref (g.lk M 1), .int (nI mn), .ref (g.lk M 3), .ref (g.lk M 4), .int (nI mdr), .ref (g.lk M 6), .ref (g.lk M 7), .ref (g.lk M 8), .int (nI msz), .int (nI mix), .int (nI mdp), .ref (g.lk M 12), .int (nI mwt), .ref (g.lk M 14), .ref (g.lk M 15), .int (nI mop), .ref (g.lk M 17), .ref (g.lk M 18), .ref (g.lk M 19), .ref (g.lk M 20), .ref (g.lk M 21), .ref (g.lk M 22), .ref (g.lk M 23), .ref (g.lk M 24), .ref (g.lk M 25), .ref (g.lk M 26), .ref (g.lk M 27), .ref (g.lk M 28), .ref (g.lk M 29), .ref (g.lk M 30), .ref (g.lk M 31), .int (nI t8), .ref (g.lk M 33), .ref (g.lk M 34), .ref (g.lk M 35), .int (nI mwa), .int (nI (mgi + 1)), .int (nI p8), .int (nI mst), .int (nI mtr), .int (nI (msp + 1)), .int ma8, .int lg8, .int mdu]) (C := "BigRunnerModel") (T := FT10) (N := 45) hx hb (hw10 hB _) (fun _ h9 => h9) TY10 ok10 nm10 hown hK hP hD hS (lo_in hL t_M (by decide)) e16 rfl 37 (by decide) (wd_984 hB _) rfl (by decide +kernel) rfl rfl (Nat.le_of_ble_eq_true rfl) rfl d_M_step_204 (fun f90 H locs e91 k92 hP hD hS => ?_)
                        have eC := (k92 (g.lk M 6) (tg_ne (lo_k11_6 hL _ t_M) t_M (by decide))).trans eC
                        have eA := (k92 (g.lk M 7) (tg_ne (lo_k11_7 hL _ t_M) t_M (by decide))).trans eA
                        have eVL := (k92 (g.lk M 26) (tg_ne (lo_k11_26 hL _ t_M) t_M (by decide))).trans eVL
                        have eVS := (k92 (g.lk M 27) (tg_ne (lo_k11_27 hL _ t_M) t_M (by decide))).trans eVS
                        have eIN := (k92 (g.lk M 35) (tg_ne (lo_k11_35 hL _ t_M) t_M (by decide))).trans eIN
                        have e17 := (k92 (g.lk M 30) (tg_ne (lo_k11_30 hL _ t_M) t_M (by decide))).trans e17
                        have e18 := (k92 (g.lk M 31) (tg_ne (lo_k11_31 hL _ t_M) t_M (by decide))).trans e18
                        have e19 := (k92 (g.lk M 33) (tg_ne (lo_k11_33 hL _ t_M) t_M (by decide))).trans e19
                        have e20 := (k92 (g.lk M 34) (tg_ne (lo_k11_34 hL _ t_M) t_M (by decide))).trans e20
                        have e46 := (k92 (g.lk M 28) (tg_ne (lo_k11_28 hL _ t_M) t_M (by decide))).trans e46
                        have e86 := (k92 (g.lk M 29) (tg_ne (lo_k11_29 hL _ t_M) t_M (by decide))).trans e86
                        have hu := hu.st k92 t_M (by decide)
                        have hk93 : ∀ b, b ≠ M → f90 b = f85 b := k92
                        refine lv_goto (tgt := 234) hx hb d_M_step_207 (by decide) ?_
                        refine lv_aload_n hx hb d_M_step_234 rfl (lv_at hl 1 rfl) ?_
                        refine lv_dup hx hb d_M_step_235 rfl ?_
                        refine pf_get (v := .int (nI p8)) (C := "BigRunnerModel") (T := FT10) (N := 45) hx hb (hw10 hB _) (fun _ h9 => h9) hown hK hP (lo_in hL t_M (by decide)) e91 rfl 38 (by decide) (wd_985 hB _) rfl d_M_step_236 ?_
                        refine lv_iconst (v := nI 1) hx hb d_M_step_239 (by decide) ?_
                        refine pf_iaddN (x := p8) (y := 1) hx hb d_M_step_240 ?_
                        refine pf_put (v := .int (nI (p8 + 1))) (ty := .int) (fs' := [.int mth, .ref (g.lk M 1), .int (nI mn), .ref (g.lk M 3), .ref (g.lk M 4), .int (nI mdr), .ref (g.lk M 6), .ref (g.lk M 7), .ref (g.lk M 8), .int (nI msz), .int (nI mix), .int (nI mdp), .ref (g.lk M 12), .int (nI mwt), .ref (g.lk M 14), .ref (g.lk M 15), .int (nI mop), .ref (g.lk M 17), .ref (g.lk M 18), .ref (g.lk M 19), .ref (g.lk M 20), .ref (g.lk M 21), .ref (g.lk M 22), .ref (g.lk M 23), .ref (g.lk M 24), .ref (g.lk M 25), .ref (g.lk M 26), .ref (g.lk M 27), .ref (g.lk M 28), .ref (g.lk M 29), .ref (g.lk M 30), .ref (g.lk M 31), .int (nI t8), .ref (g.lk M 33), .ref (g.lk M 34), .ref (g.lk M 35), .int (nI mwa), .int (nI (mgi + 1)), .int (nI (p8 + 1)), .int (nI mst), .int (nI mtr), .int (nI (msp + 1)), .int ma8, .int lg8, .int mdu]) (C := "BigRunnerModel") (T := FT10) (N := 45) hx hb (hw10 hB _) (fun _ h9 => h9) TY10 ok10 nm10 hown hK hP hD hS (lo_in hL t_M (by decide)) e91 rfl 38 (by decide) (wd_985 hB _) rfl (by decide +kernel) rfl rfl (Nat.le_of_ble_eq_true rfl) rfl d_M_step_241 (fun f94 H locs e95 k96 hP hD hS => ?_)
                        have eC := (k96 (g.lk M 6) (tg_ne (lo_k11_6 hL _ t_M) t_M (by decide))).trans eC
                        have eA := (k96 (g.lk M 7) (tg_ne (lo_k11_7 hL _ t_M) t_M (by decide))).trans eA
                        have eVL := (k96 (g.lk M 26) (tg_ne (lo_k11_26 hL _ t_M) t_M (by decide))).trans eVL
                        have eVS := (k96 (g.lk M 27) (tg_ne (lo_k11_27 hL _ t_M) t_M (by decide))).trans eVS
                        have eIN := (k96 (g.lk M 35) (tg_ne (lo_k11_35 hL _ t_M) t_M (by decide))).trans eIN
                        have e17 := (k96 (g.lk M 30) (tg_ne (lo_k11_30 hL _ t_M) t_M (by decide))).trans e17
                        have e18 := (k96 (g.lk M 31) (tg_ne (lo_k11_31 hL _ t_M) t_M (by decide))).trans e18
                        have e19 := (k96 (g.lk M 33) (tg_ne (lo_k11_33 hL _ t_M) t_M (by decide))).trans e19
                        have e20 := (k96 (g.lk M 34) (tg_ne (lo_k11_34 hL _ t_M) t_M (by decide))).trans e20
                        have e46 := (k96 (g.lk M 28) (tg_ne (lo_k11_28 hL _ t_M) t_M (by decide))).trans e46
                        have e86 := (k96 (g.lk M 29) (tg_ne (lo_k11_29 hL _ t_M) t_M (by decide))).trans e86
                        have hu := hu.st k96 t_M (by decide)
                        have hk97 : ∀ b, b ≠ M → f94 b = f85 b := fun b q0 => (k96 b q0).trans (hk93 b q0)
                        have hI98 := iv_1 hI89 hL t_M (by decide) hk97 (oc_11.mk t_M (⟨mth, mn, mdr, msz, mix, mdp, mwt, mop, t8, mwa, (mgi + 1), (p8 + 1), mst, mtr, (msp + 1), ma8, lg8, mdu, e95, (by omega), (by omega), (by omega), (by omega), (by omega), (by omega), (by omega), (by omega), (by omega), (by omega), (by omega), (by omega), (by omega), (by omega), hmb14⟩))
                        exact pe_vret hx hb hr hlocks hK hP hD hS d_M_step_244 ⟨⟨t8, mwa, (mgi + 1), (p8 + 1), mtr, (msp + 1), ma8, lg8, by omega, by omega, by omega, by omega, by omega, by omega, (fun _ => ⟨by omega, fun _ => by first | exact hq10 | (have z8 := hjt.2.2 (by omega); rw [show v - 1 + 1 = v by omega]; exact z8)⟩), ⟨_, _, _, _, _, _, _, _, _, e17, e18, e19, e20, eVL, eVS, e46, e86, eIN, cl8, cr8, cq8, c6VL, hc, (by rw [hpq9]; exact ⟨hVR, (by have e9 := hgo; subst e9; exact OUM_p hOU hsf (fun j9 hj9 => upd_ne _ _ hj9) (SV_cp hsx9 (fun i9 hi9 => hcp (by omega) i9 (by omega)) (upd_at _ _ _))), hINq, (by show _ = (s9.outs ++ [x9]).length; rw [List.length_append, List.length_singleton]; omega), congrArg (· + 1) hspq, htr0, fun _ => rfl⟩)⟩, e95⟩, hI98, hu⟩
                    · skip
                      replace b74 := mt (nI_leI (a := 12) (b := mgi) (by omega) (by omega)).mpr b74
                      refine lv_aload_n hx hb d_M_step_147 rfl (lv_at hl 1 rfl) ?_
                      refine pf_get (v := .ref (g.lk M 28)) (C := "BigRunnerModel") (T := FT10) (N := 45) hx hb (hw10 hB _) (fun _ h9 => h9) hown hK hP (lo_in hL t_M (by decide)) e16 rfl 28 (by decide) (wd_975 hB _) rfl d_M_step_148 ?_
                      refine lv_bipush (v := nI 20) hx hb d_M_step_151 (by decide) ?_
                      refine lv_aload_n hx hb d_M_step_153 rfl (lv_at hl 1 rfl) ?_
                      refine pf_get (v := .int (nI mgi)) (C := "BigRunnerModel") (T := FT10) (N := 45) hx hb (hw10 hB _) (fun _ h9 => h9) hown hK hP (lo_in hL t_M (by decide)) e16 rfl 37 (by decide) (wd_984 hB _) rfl d_M_step_154 ?_
                      refine pf_imulN (x := 20) (y := mgi) hx hb d_M_step_157 ?_
                      refine lv_iload_n hx hb d_M_step_158 rfl (lv_at hl 0 rfl) ?_
                      refine pf_iaddN (x := 20 * mgi) (y := i) hx hb d_M_step_159 ?_
                      refine lv_aload_n hx hb d_M_step_160 rfl (lv_at hl 1 rfl) ?_
                      refine pf_get (v := .ref (g.lk M 30)) (C := "BigRunnerModel") (T := FT10) (N := 45) hx hb (hw10 hB _) (fun _ h9 => h9) hown hK hP (lo_in hL t_M (by decide)) e16 rfl 30 (by decide) (wd_977 hB _) rfl d_M_step_161 ?_
                      refine lv_iload_n hx hb d_M_step_164 rfl (lv_at hl 0 rfl) ?_
                      refine pf_iald (i := i) hx hb hK hP (lo_in hL (lo_k11_30 hL _ t_M) (by decide)) e17 (lo_t62 hL _ (lo_k11_30 hL _ t_M)) (by omega) (by decide) d_M_step_165 ?_
                      have hd99 := dg6_lt cl8 (j := i) (by omega)
                      refine lv_topi (fun z_ hz_ => ?_)
                      obtain rfl : z_ = nI (dg hl8 i) := hz_.trans (dg6_eq cl8 (by omega))
                      refine pf_iast (i := (20 * mgi) + i) hx hb hK hP hD hS (lo_in hL (lo_k11_28 hL _ t_M) (by decide)) e46 (lo_t60 hL _ (lo_k11_28 hL _ t_M)) (by omega) (by decide) d_M_step_166 (fun f100 H locs e101 k102 hP hD hS => ?_)
                      have eC := (k102 (g.lk M 6) (tg_ne (lo_k11_6 hL _ t_M) (lo_k11_28 hL _ t_M) (by decide))).trans eC
                      have eA := (k102 (g.lk M 7) (tg_ne (lo_k11_7 hL _ t_M) (lo_k11_28 hL _ t_M) (by decide))).trans eA
                      have eVL := (k102 (g.lk M 26) (tg_ne (lo_k11_26 hL _ t_M) (lo_k11_28 hL _ t_M) (by decide))).trans eVL
                      have eVS := (k102 (g.lk M 27) (tg_ne (lo_k11_27 hL _ t_M) (lo_k11_28 hL _ t_M) (by decide))).trans eVS
                      have eOS := (k102 (g.lk M 29) (tg_ne (lo_k11_29 hL _ t_M) (lo_k11_28 hL _ t_M) (by decide))).trans eOS
                      have eIN := (k102 (g.lk M 35) (tg_ne (lo_k11_35 hL _ t_M) (lo_k11_28 hL _ t_M) (by decide))).trans eIN
                      have e16 := (k102 M (tg_ne t_M (lo_k11_28 hL _ t_M) (by decide))).trans e16
                      have e17 := (k102 (g.lk M 30) (tg_ne (lo_k11_30 hL _ t_M) (lo_k11_28 hL _ t_M) (by decide))).trans e17
                      have e18 := (k102 (g.lk M 31) (tg_ne (lo_k11_31 hL _ t_M) (lo_k11_28 hL _ t_M) (by decide))).trans e18
                      have e19 := (k102 (g.lk M 33) (tg_ne (lo_k11_33 hL _ t_M) (lo_k11_28 hL _ t_M) (by decide))).trans e19
                      have e20 := (k102 (g.lk M 34) (tg_ne (lo_k11_34 hL _ t_M) (lo_k11_28 hL _ t_M) (by decide))).trans e20
                      have hu := hu.st k102 (lo_k11_28 hL _ t_M) (by decide)
                      have hv48 := hv48.st k102 (lo_k11_28 hL _ t_M) (by decide)
                      have hk103 : ∀ b, b ≠ (g.lk M 28) → f100 b = f42 b := k102
                      have c104 := lb6_upd (n := 240) (i := (20 * mgi) + i) (v := dg hl8 i) hc (by omega)
                      refine lv_iinc (k := 0) (v := nI (i + 1)) (lv' := [(1, .int (nI (i + 1))), (0, .ref M)]) hx hb d_M_step_167 hl rfl (by rw [nI_succ]; rfl) (by decide) rfl (fun ls hl => ?_)
                      refine lv_goto (tgt := 132) hx hb d_M_step_170 (by decide) ?_
                      have hI105 := iv_1 hI47 hL (lo_k11_28 hL _ t_M) (by decide) hk103 (oc_60.mk (lo_k11_28 hL _ t_M) (⟨_, e101⟩))
                      exact ih44 (i + 1) (upd h ((20 * mgi) + i) ((nI (dg hl8 i)))) f100 H locs ls (by omega) (by omega) c104 (fun hm9 j hj => by rcases Nat.lt_or_ge j i with q3 | q3; rw [dg_ne (by omega)]; exact hcp hm9 j q3; obtain rfl : j = i := (by omega); rw [dg_at (by omega), Nat.mul_zero, Nat.zero_add]) (SF_u hsf (by omega)) e101 hI105 hv48 hl hP hD hS
              exact lp41 21 0 hOL f12 H locs ls (by omega) (by omega) c6OL (fun _ j hj => absurd hj (by omega)) SF_rf eOL hI21 un.rf hl hP hD hS
          · skip
            replace b24 := (nI_eq (a := w) (b := 8) (by omega) (by omega)).mp b24
            have q11 := wo_v hWO (by omega) (by omega)
            have hat8 : at_ L p8 = (8, v) := by rw [hat, show w = 8 by omega]
            have hpq9 := pq_8 hn9 hpp8 hat8 hev8
            refine lv_aload_n hx hb d_M_step_100 rfl (lv_at hl 0 rfl) ?_
            refine lv_aload_n hx hb d_M_step_101 rfl (lv_at hl 0 rfl) ?_
            refine pf_get (v := .ref (g.lk M 7)) (C := "BigRunnerModel") (T := FT10) (N := 45) hx hb (hw10 hB _) (fun _ h9 => h9) hown hK hP (lo_in hL t_M (by decide)) e16 rfl 7 (by decide) (wd_954 hB _) rfl d_M_step_102 ?_
            refine lv_aload_n hx hb d_M_step_105 rfl (lv_at hl 0 rfl) ?_
            refine pf_get (v := .int (nI p8)) (C := "BigRunnerModel") (T := FT10) (N := 45) hx hb (hw10 hB _) (fun _ h9 => h9) hown hK hP (lo_in hL t_M (by decide)) e16 rfl 38 (by decide) (wd_985 hB _) rfl d_M_step_106 ?_
            refine pf_iald (i := p8) hx hb hK hP (lo_in hL (lo_k11_7 hL _ t_M) (by decide)) eA (lo_t44 hL _ (lo_k11_7 hL _ t_M)) (by omega) (by decide) d_M_step_109 ?_
            refine lv_topi (fun z_ hz_ => ?_)
            obtain rfl : z_ = nI v := hz_.trans hv
            refine pcc_v (va_runV (C := "BigRunnerModel") (As := [.int (nI v)]) (rest := []) ⟨hx, hb, hml, hown, tb_nil⟩ (w_assign l g H.size f12 M v s9.vr x9 hl8 hs8 hVL hVS hL t_M hI21 e17 e18 eVL eVS cl8 c6VL (by omega) hVR hsx9) ⟨(callB_of 1 (tb_one (wd_1216 hB _)) tb_good1 rfl rfl rfl (wd_82 hB _) (wd_1213 hB _) (by decide +kernel) ⟨Nat.le_of_ble_eq_true rfl, Nat.le_of_ble_eq_true rfl⟩), (wd_1215 hB _), (wd_60 hB _)⟩ ⟨pe_bl, pg_recv (ci := 10) hK hP (lo_in hL t_M (by decide)) e16 rfl, pe_pre hB hK hP hD⟩ rfl rfl hl.1 rfl (lv_room (Nat.le_of_ble_eq_true rfl)) d_M_step_110 ⟨Nat.le_of_ble_eq_true rfl, Nat.le_of_ble_eq_true rfl⟩) hS (fun f107 H locs hq108 hP hD hS => ?_)
            obtain ⟨vq_109, hI1_110, hk1_111⟩ := hq108
            have hu := hu.st2 hk1_111 (lo_k11_26 hL _ t_M) (lo_k11_27 hL _ t_M) (by decide) (by decide)
            have eC := (hk1_111 (g.lk M 6) (tg_ne (lo_k11_6 hL _ t_M) (lo_k11_26 hL _ t_M) (by decide)) (tg_ne (lo_k11_6 hL _ t_M) (lo_k11_27 hL _ t_M) (by decide))).trans eC
            have eA := (hk1_111 (g.lk M 7) (tg_ne (lo_k11_7 hL _ t_M) (lo_k11_26 hL _ t_M) (by decide)) (tg_ne (lo_k11_7 hL _ t_M) (lo_k11_27 hL _ t_M) (by decide))).trans eA
            have eOL := (hk1_111 (g.lk M 28) (tg_ne (lo_k11_28 hL _ t_M) (lo_k11_26 hL _ t_M) (by decide)) (tg_ne (lo_k11_28 hL _ t_M) (lo_k11_27 hL _ t_M) (by decide))).trans eOL
            have eOS := (hk1_111 (g.lk M 29) (tg_ne (lo_k11_29 hL _ t_M) (lo_k11_26 hL _ t_M) (by decide)) (tg_ne (lo_k11_29 hL _ t_M) (lo_k11_27 hL _ t_M) (by decide))).trans eOS
            have eIN := (hk1_111 (g.lk M 35) (tg_ne (lo_k11_35 hL _ t_M) (lo_k11_26 hL _ t_M) (by decide)) (tg_ne (lo_k11_35 hL _ t_M) (lo_k11_27 hL _ t_M) (by decide))).trans eIN
            have e16 := (hk1_111 M (tg_ne t_M (lo_k11_26 hL _ t_M) (by decide)) (tg_ne t_M (lo_k11_27 hL _ t_M) (by decide))).trans e16
            have e17 := (hk1_111 (g.lk M 30) (tg_ne (lo_k11_30 hL _ t_M) (lo_k11_26 hL _ t_M) (by decide)) (tg_ne (lo_k11_30 hL _ t_M) (lo_k11_27 hL _ t_M) (by decide))).trans e17
            have e18 := (hk1_111 (g.lk M 31) (tg_ne (lo_k11_31 hL _ t_M) (lo_k11_26 hL _ t_M) (by decide)) (tg_ne (lo_k11_31 hL _ t_M) (lo_k11_27 hL _ t_M) (by decide))).trans e18
            have e19 := (hk1_111 (g.lk M 33) (tg_ne (lo_k11_33 hL _ t_M) (lo_k11_26 hL _ t_M) (by decide)) (tg_ne (lo_k11_33 hL _ t_M) (lo_k11_27 hL _ t_M) (by decide))).trans e19
            have e20 := (hk1_111 (g.lk M 34) (tg_ne (lo_k11_34 hL _ t_M) (lo_k11_26 hL _ t_M) (by decide)) (tg_ne (lo_k11_34 hL _ t_M) (lo_k11_27 hL _ t_M) (by decide))).trans e20
            obtain ⟨hv_112, hw_113, e114, e115, c116, hvq117⟩ := vq_109
            refine lv_goto (tgt := 234) hx hb d_M_step_113 (by decide) ?_
            refine lv_aload_n hx hb d_M_step_234 rfl (lv_at hl 0 rfl) ?_
            refine lv_dup hx hb d_M_step_235 rfl ?_
            refine pf_get (v := .int (nI p8)) (C := "BigRunnerModel") (T := FT10) (N := 45) hx hb (hw10 hB _) (fun _ h9 => h9) hown hK hP (lo_in hL t_M (by decide)) e16 rfl 38 (by decide) (wd_985 hB _) rfl d_M_step_236 ?_
            refine lv_iconst (v := nI 1) hx hb d_M_step_239 (by decide) ?_
            refine pf_iaddN (x := p8) (y := 1) hx hb d_M_step_240 ?_
            refine pf_put (v := .int (nI (p8 + 1))) (ty := .int) (fs' := [.int mth, .ref (g.lk M 1), .int (nI mn), .ref (g.lk M 3), .ref (g.lk M 4), .int (nI mdr), .ref (g.lk M 6), .ref (g.lk M 7), .ref (g.lk M 8), .int (nI msz), .int (nI mix), .int (nI mdp), .ref (g.lk M 12), .int (nI mwt), .ref (g.lk M 14), .ref (g.lk M 15), .int (nI mop), .ref (g.lk M 17), .ref (g.lk M 18), .ref (g.lk M 19), .ref (g.lk M 20), .ref (g.lk M 21), .ref (g.lk M 22), .ref (g.lk M 23), .ref (g.lk M 24), .ref (g.lk M 25), .ref (g.lk M 26), .ref (g.lk M 27), .ref (g.lk M 28), .ref (g.lk M 29), .ref (g.lk M 30), .ref (g.lk M 31), .int (nI t8), .ref (g.lk M 33), .ref (g.lk M 34), .ref (g.lk M 35), .int (nI mwa), .int (nI mgi), .int (nI (p8 + 1)), .int (nI mst), .int (nI mtr), .int (nI (msp + 1)), .int ma8, .int lg8, .int mdu]) (C := "BigRunnerModel") (T := FT10) (N := 45) hx hb (hw10 hB _) (fun _ h9 => h9) TY10 ok10 nm10 hown hK hP hD hS (lo_in hL t_M (by decide)) e16 rfl 38 (by decide) (wd_985 hB _) rfl (by decide +kernel) rfl rfl (Nat.le_of_ble_eq_true rfl) rfl d_M_step_241 (fun f118 H locs e119 k120 hP hD hS => ?_)
            have eC := (k120 (g.lk M 6) (tg_ne (lo_k11_6 hL _ t_M) t_M (by decide))).trans eC
            have eA := (k120 (g.lk M 7) (tg_ne (lo_k11_7 hL _ t_M) t_M (by decide))).trans eA
            have eOL := (k120 (g.lk M 28) (tg_ne (lo_k11_28 hL _ t_M) t_M (by decide))).trans eOL
            have eOS := (k120 (g.lk M 29) (tg_ne (lo_k11_29 hL _ t_M) t_M (by decide))).trans eOS
            have eIN := (k120 (g.lk M 35) (tg_ne (lo_k11_35 hL _ t_M) t_M (by decide))).trans eIN
            have e17 := (k120 (g.lk M 30) (tg_ne (lo_k11_30 hL _ t_M) t_M (by decide))).trans e17
            have e18 := (k120 (g.lk M 31) (tg_ne (lo_k11_31 hL _ t_M) t_M (by decide))).trans e18
            have e19 := (k120 (g.lk M 33) (tg_ne (lo_k11_33 hL _ t_M) t_M (by decide))).trans e19
            have e20 := (k120 (g.lk M 34) (tg_ne (lo_k11_34 hL _ t_M) t_M (by decide))).trans e20
            have e114 := (k120 (g.lk M 26) (tg_ne (lo_k11_26 hL _ t_M) t_M (by decide))).trans e114
            have e115 := (k120 (g.lk M 27) (tg_ne (lo_k11_27 hL _ t_M) t_M (by decide))).trans e115
            have hu := hu.st k120 t_M (by decide)
            have hk121 : ∀ b, b ≠ M → f118 b = f107 b := k120
            have hI122 := iv_1 hI1_110 hL t_M (by decide) hk121 (oc_11.mk t_M (⟨mth, mn, mdr, msz, mix, mdp, mwt, mop, t8, mwa, mgi, (p8 + 1), mst, mtr, (msp + 1), ma8, lg8, mdu, e119, (by omega), (by omega), (by omega), (by omega), (by omega), (by omega), (by omega), (by omega), (by omega), (by omega), (by omega), (by omega), (by omega), (by omega), hmb14⟩))
            exact pe_vret hx hb hr hlocks hK hP hD hS d_M_step_244 ⟨⟨t8, mwa, mgi, (p8 + 1), mtr, (msp + 1), ma8, lg8, by omega, by omega, by omega, by omega, by omega, by omega, (fun _ => ⟨by omega, fun _ => by first | exact hq10 | (have z8 := hjt.2.2 (by omega); rw [show v - 1 + 1 = v by omega]; exact z8)⟩), ⟨_, _, _, _, _, _, _, _, _, e17, e18, e19, e20, e114, e115, eOL, eOS, eIN, cl8, cr8, cq8, c116, c6OL, (by rw [hpq9]; exact ⟨hvq117, hOU, hINq, hgo, congrArg (· + 1) hspq, htr0, fun _ => rfl⟩)⟩, e119⟩, hI122, hu⟩
        · skip
          replace b23 := mt (nI_leI (a := 8) (b := w) (by omega) (by omega)).mpr b23
          have hlt8 := wo_lt hWO (by omega)
          have hsg9 : seg L p8 = (w, v) :: seg L (p8 + 1) := by rw [seg_c (by rw [hMCL.1]; omega) (by rw [hat]; omega), hat]
          refine lv_aload_n hx hb d_M_step_57 rfl (lv_at hl 0 rfl) ?_
          refine lv_aload_n hx hb d_M_step_58 rfl (lv_at hl 0 rfl) ?_
          refine pf_get (v := .int (nI p8)) (C := "BigRunnerModel") (T := FT10) (N := 45) hx hb (hw10 hB _) (fun _ h9 => h9) hown hK hP (lo_in hL t_M (by decide)) e16 rfl 38 (by decide) (wd_985 hB _) rfl d_M_step_59 ?_
          refine pcc_v (va_runV (C := "BigRunnerModel") (As := [.int (nI p8)]) (rest := []) ⟨hx, hb, hml, hown, tb_nil⟩ (w_work l g H.size f12 M mth mn mdr msz mix mdp mwt mop t8 mwa mgi p8 mst mtr ((msp + 1)) ma8 lg8 mdu hC hA p8 w v hl8 hs8 hr8 hq8 hVL hVS s9.vr V hL t_M hI21 e16 ⟨(by omega), (by omega), (by omega), (by omega), (by omega), (by omega), (by omega), (by omega), (by omega), (by omega), (by omega), (by omega), (by omega), (by omega), hmb14⟩ eC eA hw hv (by omega) (by omega) (ws_of hWO ht9) (by omega) (by omega) e17 e18 e19 e20 eVL eVS cl8 cr8 cq8 c6VL htV hSV8 hVR hlv) ⟨(callB_of 1 (tb_one (wd_1220 hB _)) tb_good1 rfl rfl rfl (wd_82 hB _) (wd_1217 hB _) (by decide +kernel) ⟨Nat.le_of_ble_eq_true rfl, Nat.le_of_ble_eq_true rfl⟩), (wd_1219 hB _), (wd_61 hB _)⟩ ⟨pe_bl, pg_recv (ci := 10) hK hP (lo_in hL t_M (by decide)) e16 rfl, pe_pre hB hK hP hD⟩ rfl rfl hl.1 rfl (lv_room (Nat.le_of_ble_eq_true rfl)) d_M_step_62 ⟨Nat.le_of_ble_eq_true rfl, Nat.le_of_ble_eq_true rfl⟩) hS (fun f124 H locs hq125 hP hD hS => ?_)
          obtain ⟨x1_126, ar_127, hI1_128, hu1_129⟩ := hq125
          have hu := hu.tr hu1_129 (by decide)
          have hv22 := hv22.tr hu1_129 (by decide)
          have eC := hu1_129.at (lo_k11_6 hL _ t_M) (by decide) eC
          have eA := hu1_129.at (lo_k11_7 hL _ t_M) (by decide) eA
          have eVL := hu1_129.at (lo_k11_26 hL _ t_M) (by decide) eVL
          have eVS := hu1_129.at (lo_k11_27 hL _ t_M) (by decide) eVS
          have eOL := hu1_129.at (lo_k11_28 hL _ t_M) (by decide) eOL
          have eOS := hu1_129.at (lo_k11_29 hL _ t_M) (by decide) eOS
          have eIN := hu1_129.at (lo_k11_35 hL _ t_M) (by decide) eIN
          obtain ⟨tp1_131, ma1_132, lg1_133, tr1_134, c135, c136, c137, e130⟩ := x1_126
          obtain ⟨hl_138, hs_139, hr_140, hq_141, e142, e143, e144, e145, c146, c147, c148, hsv149⟩ := ar_127
          have hetr := c136
          have he12 : (ev1 s9.vr w v V).1 ≤ 2 := ev1_3 _ _ _ _
          refine lv_aload_n hx hb d_M_step_65 rfl (lv_at hl 0 rfl) ?_
          refine pf_get (v := .int (nI tr1_134)) (C := "BigRunnerModel") (T := FT10) (N := 45) hx hb (hw10 hB _) (fun _ h9 => h9) hown hK hP (lo_in hL t_M (by decide)) e130 rfl 40 (by decide) (wd_987 hB _) rfl d_M_step_66 ?_
          refine lv_if_le (tgt := 73) hx hb d_M_step_69 (by decide) (fun b150 => ?_) (fun b150 => ?_)
          · skip
            replace b150 := (nI_leI (a := tr1_134) (b := 0) (by omega) (by omega)).mp b150
            have hev0 : (ev1 s9.vr w v V).1 = 0 := by omega
            have htr151 : TR w t8 tp1_131 := TR_ev (vr := s9.vr) (V := V) (ws_of hWO ht9) (by omega) htV (c137 hev0) hev0
            obtain rfl : mtr = tr1_134 := by omega
            have hsv152 := hsv149 hev0
            have htv153 := c137 hev0
            refine lv_aload_n hx hb d_M_step_73 rfl (lv_at hl 0 rfl) ?_
            refine lv_dup hx hb d_M_step_74 rfl ?_
            refine pf_get (v := .int (nI p8)) (C := "BigRunnerModel") (T := FT10) (N := 45) hx hb (hw10 hB _) (fun _ h9 => h9) hown hK hP (lo_in hL t_M (by decide)) e130 rfl 38 (by decide) (wd_985 hB _) rfl d_M_step_75 ?_
            refine lv_iconst (v := nI 1) hx hb d_M_step_78 (by decide) ?_
            refine pf_iaddN (x := p8) (y := 1) hx hb d_M_step_79 ?_
            refine pf_put (v := .int (nI (p8 + 1))) (ty := .int) (fs' := [.int mth, .ref (g.lk M 1), .int (nI mn), .ref (g.lk M 3), .ref (g.lk M 4), .int (nI mdr), .ref (g.lk M 6), .ref (g.lk M 7), .ref (g.lk M 8), .int (nI msz), .int (nI mix), .int (nI mdp), .ref (g.lk M 12), .int (nI mwt), .ref (g.lk M 14), .ref (g.lk M 15), .int (nI mop), .ref (g.lk M 17), .ref (g.lk M 18), .ref (g.lk M 19), .ref (g.lk M 20), .ref (g.lk M 21), .ref (g.lk M 22), .ref (g.lk M 23), .ref (g.lk M 24), .ref (g.lk M 25), .ref (g.lk M 26), .ref (g.lk M 27), .ref (g.lk M 28), .ref (g.lk M 29), .ref (g.lk M 30), .ref (g.lk M 31), .int (nI tp1_131), .ref (g.lk M 33), .ref (g.lk M 34), .ref (g.lk M 35), .int (nI mwa), .int (nI mgi), .int (nI (p8 + 1)), .int (nI mst), .int (nI mtr), .int (nI (msp + 1)), .int ma1_132, .int lg1_133, .int mdu]) (C := "BigRunnerModel") (T := FT10) (N := 45) hx hb (hw10 hB _) (fun _ h9 => h9) TY10 ok10 nm10 hown hK hP hD hS (lo_in hL t_M (by decide)) e130 rfl 38 (by decide) (wd_985 hB _) rfl (by decide +kernel) rfl rfl (Nat.le_of_ble_eq_true rfl) rfl d_M_step_80 (fun f154 H locs e155 k156 hP hD hS => ?_)
            have eC := (k156 (g.lk M 6) (tg_ne (lo_k11_6 hL _ t_M) t_M (by decide))).trans eC
            have eA := (k156 (g.lk M 7) (tg_ne (lo_k11_7 hL _ t_M) t_M (by decide))).trans eA
            have eVL := (k156 (g.lk M 26) (tg_ne (lo_k11_26 hL _ t_M) t_M (by decide))).trans eVL
            have eVS := (k156 (g.lk M 27) (tg_ne (lo_k11_27 hL _ t_M) t_M (by decide))).trans eVS
            have eOL := (k156 (g.lk M 28) (tg_ne (lo_k11_28 hL _ t_M) t_M (by decide))).trans eOL
            have eOS := (k156 (g.lk M 29) (tg_ne (lo_k11_29 hL _ t_M) t_M (by decide))).trans eOS
            have eIN := (k156 (g.lk M 35) (tg_ne (lo_k11_35 hL _ t_M) t_M (by decide))).trans eIN
            have e142 := (k156 (g.lk M 30) (tg_ne (lo_k11_30 hL _ t_M) t_M (by decide))).trans e142
            have e143 := (k156 (g.lk M 31) (tg_ne (lo_k11_31 hL _ t_M) t_M (by decide))).trans e143
            have e144 := (k156 (g.lk M 33) (tg_ne (lo_k11_33 hL _ t_M) t_M (by decide))).trans e144
            have e145 := (k156 (g.lk M 34) (tg_ne (lo_k11_34 hL _ t_M) t_M (by decide))).trans e145
            have hu := hu.st k156 t_M (by decide)
            have hv22 := hv22.st k156 t_M (by decide)
            have hk157 : ∀ b, b ≠ M → f154 b = f124 b := k156
            refine lv_goto (tgt := 43) hx hb d_M_step_83 (by decide) ?_
            have hI158 := iv_1 hI1_128 hL t_M (by decide) hk157 (oc_11.mk t_M (⟨mth, mn, mdr, msz, mix, mdp, mwt, mop, tp1_131, mwa, mgi, (p8 + 1), mst, mtr, (msp + 1), ma1_132, lg1_133, mdu, e155, (by omega), (by omega), (by omega), (by omega), (by omega), (by omega), (by omega), (by omega), (by omega), (by omega), (by omega), (by omega), (by omega), (by omega), hmb14⟩))
            exact ih14 (p8 + 1) tp1_131 ma1_132 lg1_133 ((ev1 s9.vr w v V).2) hl_138 hs_139 hr_140 hq_141 f154 H locs ls (by omega) (by omega) (wo_next hWO (by omega) ht9 htr151) (by omega) (Or.inr (wo_pos hWO (by omega) ht9 htr151)) htv153 hsv152 c146 c147 c148 (hev.trans (by rw [hsg9]; exact evs_ok (Prod.ext hev0 rfl))) (by rw [hsg9, List.length_cons] at hsl; omega) e155 e142 e143 e144 e145 hI158 hv22 hl hP hD hS
          · skip
            replace b150 := mt (nI_leI (a := tr1_134) (b := 0) (by omega) (by omega)).mpr b150
            have hevt : evs s9.vr (seg L s9.pc) [] = ((ev1 s9.vr w v V).1, (ev1 s9.vr w v V).2) := hev.trans (by rw [hsg9]; exact evs_no (Prod.ext rfl rfl) (by omega))
            have hpq9 : pstq L s9 = PS.mk s9.vr s9.ins s9.outs s9.pc (s9.sp + 1) (ev1 s9.vr w v V).1 := (pq_t hn9 (by rw [hevt]; show (ev1 s9.vr w v V).1 ≠ 0; omega)).trans (by rw [hevt])
            exact pe_vret hx hb hr hlocks hK hP hD hS d_M_step_72 ⟨⟨tp1_131, mwa, mgi, p8, tr1_134, (msp + 1), ma1_132, lg1_133, by omega, by omega, by omega, by omega, by omega, by omega, (fun z9 => absurd z9 (by omega)), ⟨_, _, _, _, _, _, _, _, _, e142, e143, e144, e145, eVL, eVS, eOL, eOS, eIN, c146, c147, c148, c6VL, c6OL, (by rw [hpq9]; exact ⟨hVR, hOU, hINq, hgo, congrArg (· + 1) hspq, hetr, fun z9 => absurd z9 (by omega)⟩)⟩, e130⟩, hI1_128, hu⟩
    exact lp11 (msz + 1) mpc 0 mma mlg ([]) hLI hSI hRE hRS f5 H locs ls (by omega) (by omega) hd0.symm (by omega) (by omega) rfl trivial c6LI c6RE c6RS (by rw [hpcq]) (by rw [hpcq]) e6 eLI eSI eRE eRS hI10 un.rf hl hP hD hS
  · skip
    replace b9 := (nI_eq (a := w) (b := 9) (by omega) (by omega)).mp b9
    have hq10 := wo_end hWO (by omega)
    have q11 := wo_v hWO (by omega) (by omega)
    have hwa9 : 0 < mwa := h9w.resolve_left (fun z => z (hw.trans (congrArg nI (by omega))))
    obtain ⟨x0, tl, hins9⟩ : ∃ x0 tl, s9.ins = x0 :: tl := by
      cases z8 : s9.ins with
      | nil => (exfalso; have z9 := hINq.1; rw [z8] at z9; have z7 : mwa = 0 := z9; omega)
      | cons q r => exact ⟨q, r, rfl⟩
    rw [hins9] at hINq
    have hat9 : at_ L s9.pc = (9, v) := by rw [← hpcq, hat, show w = 9 by omega]
    refine lv_aload_n hx hb d_M_step_29 rfl (lv_at hl 0 rfl) ?_
    refine lv_aload_n hx hb d_M_step_30 rfl (lv_at hl 0 rfl) ?_
    refine pf_get (v := .ref (g.lk M 7)) (C := "BigRunnerModel") (T := FT10) (N := 45) hx hb (hw10 hB _) (fun _ h9 => h9) hown hK hP (lo_in hL t_M (by decide)) e6 rfl 7 (by decide) (wd_954 hB _) rfl d_M_step_31 ?_
    refine lv_aload_n hx hb d_M_step_34 rfl (lv_at hl 0 rfl) ?_
    refine pf_get (v := .int (nI mpc)) (C := "BigRunnerModel") (T := FT10) (N := 45) hx hb (hw10 hB _) (fun _ h9 => h9) hown hK hP (lo_in hL t_M (by decide)) e6 rfl 38 (by decide) (wd_985 hB _) rfl d_M_step_35 ?_
    refine pf_iald (i := mpc) hx hb hK hP (lo_in hL (lo_k11_7 hL _ t_M) (by decide)) eA (lo_t44 hL _ (lo_k11_7 hL _ t_M)) (by omega) (by decide) d_M_step_38 ?_
    refine lv_topi (fun z_ hz_ => ?_)
    obtain rfl : z_ = nI v := hz_.trans hv
    have hI159 := iv_1 hI hL t_M (by decide) hk8 (oc_11.mk t_M (⟨mth, mn, mdr, msz, mix, mdp, mwt, mop, 0, mwa, mgi, mpc, mst, mtr, (msp + 1), mma, mlg, mdu, e6, (by omega), (by omega), (by omega), (by omega), (by omega), (by omega), (by omega), (by omega), (by omega), (by omega), (by omega), (by omega), (by omega), (by omega), hmb14⟩))
    refine pcc_v (va_runV (C := "BigRunnerModel") (As := [.int (nI v)]) (rest := []) ⟨hx, hb, hml, hown, tb_nil⟩ (w_takeInput l g H.size f5 M mth mn mdr msz mix mdp mwt mop 0 mwa mgi mpc mst mtr ((msp + 1)) mma mlg mdu v hLI hSI hVL hVS hIN s9.vr x0 tl hL t_M hI159 e6 ⟨(by omega), (by omega), (by omega), (by omega), (by omega), (by omega), (by omega), (by omega), (by omega), (by omega), (by omega), (by omega), (by omega), (by omega), hmb14⟩ (by omega) (by omega) eLI eSI eVL eVS eIN c6LI c6VL hVR hINq) ⟨(callB_of 1 (tb_one (wd_1207 hB _)) tb_good1 rfl rfl rfl (wd_82 hB _) (wd_1204 hB _) (by decide +kernel) ⟨Nat.le_of_ble_eq_true rfl, Nat.le_of_ble_eq_true rfl⟩), (wd_1206 hB _), (wd_58 hB _)⟩ ⟨pe_bl, pg_recv (ci := 10) hK hP (lo_in hL t_M (by decide)) e6 rfl, pe_pre hB hK hP hD⟩ rfl rfl hl.1 rfl (lv_room (Nat.le_of_ble_eq_true rfl)) d_M_step_39 ⟨Nat.le_of_ble_eq_true rfl, Nat.le_of_ble_eq_true rfl⟩) hS (fun f161 H locs hq162 hP hD hS => ?_)
    obtain ⟨x1_163, ti_164, hI1_165, hu1_166⟩ := hq162
    have hu := hu.tr hu1_166 (by decide)
    have eC := hu1_166.at (lo_k11_6 hL _ t_M) (by decide) eC
    have eA := hu1_166.at (lo_k11_7 hL _ t_M) (by decide) eA
    have eRE := hu1_166.at (lo_k11_33 hL _ t_M) (by decide) eRE
    have eRS := hu1_166.at (lo_k11_34 hL _ t_M) (by decide) eRS
    have eOL := hu1_166.at (lo_k11_28 hL _ t_M) (by decide) eOL
    have eOS := hu1_166.at (lo_k11_29 hL _ t_M) (by decide) eOS
    obtain ⟨wa1_168, pc1_169, c170, c171, e167⟩ := x1_163
    obtain ⟨hl_172, hs_173, hv_174, hw_175, hi_176, e177, e178, e179, e180, e181, c182, c183, hvq184, hin185⟩ := ti_164
    exact pe_vret hx hb hr hlocks hK hP hD hS d_M_step_42 ⟨⟨0, wa1_168, mgi, pc1_169, mtr, (msp + 1), mma, mlg, by omega, by omega, by omega, by omega, by omega, by omega, (fun _ => ⟨by omega, fun _ => (by rw [c171]; exact hq10)⟩), ⟨_, _, _, _, _, _, _, _, _, e177, e178, eRE, eRS, e179, e180, eOL, eOS, e181, c182, c6RE, c6RS, c183, c6OL, (by rw [pq_9 hat9, hins9]; exact ⟨hvq184, hOU, (by rw [show wa1_168 = mwa - 1 by omega]; exact hin185), hgo, congrArg (· + 1) hspq, (show mtr = 0 from htr0), fun _ => by show _ = s9.pc + 1; rw [← hpcq]; omega⟩)⟩, e167⟩, hI1_165, hu⟩

