set_option maxHeartbeats 4000000 in
set_option maxRecDepth 100000 in
theorem m_work (l : Launch) (g : Lay) (sz : Nat) (f : Nat → va_E) (M : Nat) (mth : Int32) (mn : Nat) (mdr : Nat) (msz : Nat) (mix : Nat) (mdp : Nat) (mwt : Nat) (mop : Nat) (mtp : Nat) (mwa : Nat) (mgi : Nat) (mpc : Nat) (mst : Nat) (mtr : Nat) (msp : Nat) (mma : Int32) (mlg : Int32) (mdu : Int32) (hC : Nat → Int32) (hA : Nat → Int32) (p9 : Nat) (w : Nat) (v : Nat) (hL : LO g) (t_M : g.tg M = 11) (hI : IV g f) (eM : f M = .inr (10, [.int mth, .ref (g.lk M 1), .int (nI mn), .ref (g.lk M 3), .ref (g.lk M 4), .int (nI mdr), .ref (g.lk M 6), .ref (g.lk M 7), .ref (g.lk M 8), .int (nI msz), .int (nI mix), .int (nI mdp), .ref (g.lk M 12), .int (nI mwt), .ref (g.lk M 14), .ref (g.lk M 15), .int (nI mop), .ref (g.lk M 17), .ref (g.lk M 18), .ref (g.lk M 19), .ref (g.lk M 20), .ref (g.lk M 21), .ref (g.lk M 22), .ref (g.lk M 23), .ref (g.lk M 24), .ref (g.lk M 25), .ref (g.lk M 26), .ref (g.lk M 27), .ref (g.lk M 28), .ref (g.lk M 29), .ref (g.lk M 30), .ref (g.lk M 31), .int (nI mtp), .ref (g.lk M 33), .ref (g.lk M 34), .ref (g.lk M 35), .int (nI mwa), .int (nI mgi), .int (nI mpc), .int (nI mst), .int (nI mtr), .int (nI msp), .int mma, .int mlg, .int mdu])) (hMB : mn ≤ 72 ∧ mdr ≤ 100 ∧ msz ≤ 100 ∧ mix ≤ 100 ∧ mdp ≤ 20 ∧ mwt ≤ 72 ∧ mop ≤ 40 ∧ mtp ≤ 80 ∧ mwa ≤ 20 ∧ mgi ≤ msp ∧ mpc ≤ 100 ∧ mst ≤ 4 ∧ mtr ≤ 3 ∧ msp ≤ 3000 ∧ (mdu = 0 ∨ mdu = 1)) (eC : f (g.lk M 6) = .inl (g.ac (g.lk M 6), 100, .inl hC)) (eA : f (g.lk M 7) = .inl (g.ac (g.lk M 7), 100, .inl hA)) (hw : hC p9 = nI w) (hv : hA p9 = nI v) (hp9 : p9 < 100) (hv3 : v < 2147483648) (hws : WS w v mtp) (hw8 : w < 8) (htr0 : mtr = 0) : Met l ⟨"BigRunnerModel", "work", "(I)V"⟩ [Cond.code ⟨"BigRunnerModel", "work", "(I)V"⟩ prog_12_method_37_code 6 none] ({ frames := 3, cells := 0, slots := 0, locals := 78 }) (va_Pc [.ref M, .int (nI p9)] (pc_in g sz f)) (va_Qv (fun f1 => (∃ (tp1 : Nat) (ma1 : Int32) (lg1 : Int32) (tr1 : Nat), (tp1 ≤ 80) ∧ (tr1 ≤ 2) ∧ (TR0 tr1 w mtp tp1) ∧ f1 M = .inr (10, [.int mth, .ref (g.lk M 1), .int (nI mn), .ref (g.lk M 3), .ref (g.lk M 4), .int (nI mdr), .ref (g.lk M 6), .ref (g.lk M 7), .ref (g.lk M 8), .int (nI msz), .int (nI mix), .int (nI mdp), .ref (g.lk M 12), .int (nI mwt), .ref (g.lk M 14), .ref (g.lk M 15), .int (nI mop), .ref (g.lk M 17), .ref (g.lk M 18), .ref (g.lk M 19), .ref (g.lk M 20), .ref (g.lk M 21), .ref (g.lk M 22), .ref (g.lk M 23), .ref (g.lk M 24), .ref (g.lk M 25), .ref (g.lk M 26), .ref (g.lk M 27), .ref (g.lk M 28), .ref (g.lk M 29), .ref (g.lk M 30), .ref (g.lk M 31), .int (nI tp1), .ref (g.lk M 33), .ref (g.lk M 34), .ref (g.lk M 35), .int (nI mwa), .int (nI mgi), .int (nI mpc), .int (nI mst), .int (nI tr1), .int (nI msp), .int ma1, .int lg1, .int mdu])) ∧ (IV g f1) ∧ (un [11, 62, 63, 64, 65] g f f1)) (pc_out g sz) (pc_A g sz)) 0 0 (pc_A g sz) := by
  refine pe_ofW (cc := prog_12_method_37_code) (maxL := 6) (ret := none) (lv := [(0, .ref M), (1, .int (nI p9))]) (by decide) (Nat.le_of_ble_eq_true rfl) rfl ?_
  intro p e s m args below meth c ls hx hb hr hml hlocks hown hB hP hK hD hsz hS hl
  subst hsz
  have hu : un [11, 62, 63, 64, 65] g f f := un.rf
  obtain ⟨hmb0, hmb1, hmb2, hmb3, hmb4, hmb5, hmb6, hmb7, hmb8, hmb9, hmb10, hmb11, hmb12, hmb13, hmb14⟩ := hMB
  obtain ⟨hw1, hwt, hw7, hw2⟩ := hws
  refine lv_aload_n hx hb d_M_work_0 rfl (lv_at hl 0 rfl) ?_
  refine pf_get (v := .ref (g.lk M 6)) (C := "BigRunnerModel") (T := FT10) (N := 45) hx hb (hw10 hB _) (fun _ h9 => h9) hown hK hP (lo_in hL t_M (by decide)) eM rfl 6 (by decide) (wd_953 hB _) rfl d_M_work_1 ?_
  refine lv_iload_n hx hb d_M_work_4 rfl (lv_at hl 1 rfl) ?_
  refine pf_iald (i := p9) hx hb hK hP (lo_in hL (lo_k11_6 hL _ t_M) (by decide)) eC (lo_t43 hL _ (lo_k11_6 hL _ t_M)) (by omega) (by decide) d_M_work_5 ?_
  refine lv_topi (fun z_ hz_ => ?_)
  obtain rfl : z_ = nI w := hz_.trans hw
  refine lv_istore_n (lv' := [(2, .int (nI w)), (0, .ref M), (1, .int (nI p9))]) hx hb d_M_work_6 rfl hl (by decide) rfl (fun ls hl => ?_)
  refine lv_iload_n hx hb d_M_work_7 rfl (lv_at hl 0 rfl) ?_
  refine lv_if_ne (tgt := 36) hx hb d_M_work_8 (by decide) (fun b1 => ?_) (fun b1 => ?_)
  · skip
    replace b1 := mt (nI_eq (a := w) (b := 0) (by omega) (by omega)).mpr b1
    refine lv_iload_n hx hb d_M_work_36 rfl (lv_at hl 0 rfl) ?_
    refine lv_iconst (v := nI 1) hx hb d_M_work_37 (by decide) ?_
    refine lv_icmp_ne (tgt := 116) hx hb d_M_work_38 (by decide) (fun b2 => ?_) (fun b2 => ?_)
    · skip
      replace b2 := mt (nI_eq (a := w) (b := 1) (by omega) (by omega)).mpr b2
      refine lv_aload_n hx hb d_M_work_116 rfl (lv_at hl 1 rfl) ?_
      refine lv_dup hx hb d_M_work_117 rfl ?_
      refine pf_get (v := .int mma) (C := "BigRunnerModel") (T := FT10) (N := 45) hx hb (hw10 hB _) (fun _ h9 => h9) hown hK hP (lo_in hL t_M (by decide)) eM rfl 42 (by decide) (wd_989 hB _) rfl d_M_work_118 ?_
      have jn3 : ∀ (bj4 : Int32) (H : Heap) (locs : List Loc), va_P g.D vcl (va_pl g.LP f) H → va_D (pc_A g s.heap.size) (va_pl g.LP f) → va_S (pc_A g s.heap.size) s.heap H locs → W p l e ({ frames := 3, cells := 0, slots := 0, locals := 78 }) s m args below meth c H locs 0 0 (MQ below (va_Qv (fun f1 => (∃ (tp1 : Nat) (ma1 : Int32) (lg1 : Int32) (tr1 : Nat), (tp1 ≤ 80) ∧ (tr1 ≤ 2) ∧ (TR0 tr1 w mtp tp1) ∧ f1 M = .inr (10, [.int mth, .ref (g.lk M 1), .int (nI mn), .ref (g.lk M 3), .ref (g.lk M 4), .int (nI mdr), .ref (g.lk M 6), .ref (g.lk M 7), .ref (g.lk M 8), .int (nI msz), .int (nI mix), .int (nI mdp), .ref (g.lk M 12), .int (nI mwt), .ref (g.lk M 14), .ref (g.lk M 15), .int (nI mop), .ref (g.lk M 17), .ref (g.lk M 18), .ref (g.lk M 19), .ref (g.lk M 20), .ref (g.lk M 21), .ref (g.lk M 22), .ref (g.lk M 23), .ref (g.lk M 24), .ref (g.lk M 25), .ref (g.lk M 26), .ref (g.lk M 27), .ref (g.lk M 28), .ref (g.lk M 29), .ref (g.lk M 30), .ref (g.lk M 31), .int (nI tp1), .ref (g.lk M 33), .ref (g.lk M 34), .ref (g.lk M 35), .int (nI mwa), .int (nI mgi), .int (nI mpc), .int (nI mst), .int (nI tr1), .int (nI msp), .int ma1, .int lg1, .int mdu])) ∧ (IV g f1) ∧ (un [11, 62, 63, 64, 65] g f f1)) (pc_out g s.heap.size) (pc_A g s.heap.size)) args s 0 0 (pc_A g s.heap.size)) (F0 m 135 ls [.int bj4, .int mma, .ref M]) := by
        intro bj4 H locs hP hD hS
        refine lv_iadd hx hb d_M_work_135 ?_
        refine lv_topi (fun iv5 _ => ?_)
        refine pf_put (v := .int iv5) (ty := .int) (fs' := [.int mth, .ref (g.lk M 1), .int (nI mn), .ref (g.lk M 3), .ref (g.lk M 4), .int (nI mdr), .ref (g.lk M 6), .ref (g.lk M 7), .ref (g.lk M 8), .int (nI msz), .int (nI mix), .int (nI mdp), .ref (g.lk M 12), .int (nI mwt), .ref (g.lk M 14), .ref (g.lk M 15), .int (nI mop), .ref (g.lk M 17), .ref (g.lk M 18), .ref (g.lk M 19), .ref (g.lk M 20), .ref (g.lk M 21), .ref (g.lk M 22), .ref (g.lk M 23), .ref (g.lk M 24), .ref (g.lk M 25), .ref (g.lk M 26), .ref (g.lk M 27), .ref (g.lk M 28), .ref (g.lk M 29), .ref (g.lk M 30), .ref (g.lk M 31), .int (nI mtp), .ref (g.lk M 33), .ref (g.lk M 34), .ref (g.lk M 35), .int (nI mwa), .int (nI mgi), .int (nI mpc), .int (nI mst), .int (nI mtr), .int (nI msp), .int iv5, .int mlg, .int mdu]) (C := "BigRunnerModel") (T := FT10) (N := 45) hx hb (hw10 hB _) (fun _ h9 => h9) TY10 ok10 nm10 hown hK hP hD hS (lo_in hL t_M (by decide)) eM rfl 42 (by decide) (wd_989 hB _) rfl (by decide +kernel) rfl rfl (Nat.le_of_ble_eq_true rfl) rfl d_M_work_136 (fun f6 H locs e7 k8 hP hD hS => ?_)
        have eC := (k8 (g.lk M 6) (tg_ne (lo_k11_6 hL _ t_M) t_M (by decide))).trans eC
        have eA := (k8 (g.lk M 7) (tg_ne (lo_k11_7 hL _ t_M) t_M (by decide))).trans eA
        have hu := hu.st k8 t_M (by decide)
        have hk9 : ∀ b, b ≠ M → f6 b = f b := k8
        refine lv_aload_n hx hb d_M_work_139 rfl (lv_at hl 1 rfl) ?_
        refine lv_dup hx hb d_M_work_140 rfl ?_
        refine pf_get (v := .int mlg) (C := "BigRunnerModel") (T := FT10) (N := 45) hx hb (hw10 hB _) (fun _ h9 => h9) hown hK hP (lo_in hL t_M (by decide)) e7 rfl 43 (by decide) (wd_990 hB _) rfl d_M_work_141 ?_
        have jn10 : ∀ (bj11 : Int32) (H : Heap) (locs : List Loc), va_P g.D vcl (va_pl g.LP f6) H → va_D (pc_A g s.heap.size) (va_pl g.LP f6) → va_S (pc_A g s.heap.size) s.heap H locs → W p l e ({ frames := 3, cells := 0, slots := 0, locals := 78 }) s m args below meth c H locs 0 0 (MQ below (va_Qv (fun f1 => (∃ (tp1 : Nat) (ma1 : Int32) (lg1 : Int32) (tr1 : Nat), (tp1 ≤ 80) ∧ (tr1 ≤ 2) ∧ (TR0 tr1 w mtp tp1) ∧ f1 M = .inr (10, [.int mth, .ref (g.lk M 1), .int (nI mn), .ref (g.lk M 3), .ref (g.lk M 4), .int (nI mdr), .ref (g.lk M 6), .ref (g.lk M 7), .ref (g.lk M 8), .int (nI msz), .int (nI mix), .int (nI mdp), .ref (g.lk M 12), .int (nI mwt), .ref (g.lk M 14), .ref (g.lk M 15), .int (nI mop), .ref (g.lk M 17), .ref (g.lk M 18), .ref (g.lk M 19), .ref (g.lk M 20), .ref (g.lk M 21), .ref (g.lk M 22), .ref (g.lk M 23), .ref (g.lk M 24), .ref (g.lk M 25), .ref (g.lk M 26), .ref (g.lk M 27), .ref (g.lk M 28), .ref (g.lk M 29), .ref (g.lk M 30), .ref (g.lk M 31), .int (nI tp1), .ref (g.lk M 33), .ref (g.lk M 34), .ref (g.lk M 35), .int (nI mwa), .int (nI mgi), .int (nI mpc), .int (nI mst), .int (nI tr1), .int (nI msp), .int ma1, .int lg1, .int mdu])) ∧ (IV g f1) ∧ (un [11, 62, 63, 64, 65] g f f1)) (pc_out g s.heap.size) (pc_A g s.heap.size)) args s 0 0 (pc_A g s.heap.size)) (F0 m 158 ls [.int bj11, .int mlg, .ref M]) := by
          intro bj11 H locs hP hD hS
          refine lv_iadd hx hb d_M_work_158 ?_
          refine lv_topi (fun iv12 _ => ?_)
          refine pf_put (v := .int iv12) (ty := .int) (fs' := [.int mth, .ref (g.lk M 1), .int (nI mn), .ref (g.lk M 3), .ref (g.lk M 4), .int (nI mdr), .ref (g.lk M 6), .ref (g.lk M 7), .ref (g.lk M 8), .int (nI msz), .int (nI mix), .int (nI mdp), .ref (g.lk M 12), .int (nI mwt), .ref (g.lk M 14), .ref (g.lk M 15), .int (nI mop), .ref (g.lk M 17), .ref (g.lk M 18), .ref (g.lk M 19), .ref (g.lk M 20), .ref (g.lk M 21), .ref (g.lk M 22), .ref (g.lk M 23), .ref (g.lk M 24), .ref (g.lk M 25), .ref (g.lk M 26), .ref (g.lk M 27), .ref (g.lk M 28), .ref (g.lk M 29), .ref (g.lk M 30), .ref (g.lk M 31), .int (nI mtp), .ref (g.lk M 33), .ref (g.lk M 34), .ref (g.lk M 35), .int (nI mwa), .int (nI mgi), .int (nI mpc), .int (nI mst), .int (nI mtr), .int (nI msp), .int iv5, .int iv12, .int mdu]) (C := "BigRunnerModel") (T := FT10) (N := 45) hx hb (hw10 hB _) (fun _ h9 => h9) TY10 ok10 nm10 hown hK hP hD hS (lo_in hL t_M (by decide)) e7 rfl 43 (by decide) (wd_990 hB _) rfl (by decide +kernel) rfl rfl (Nat.le_of_ble_eq_true rfl) rfl d_M_work_159 (fun f13 H locs e14 k15 hP hD hS => ?_)
          have eC := (k15 (g.lk M 6) (tg_ne (lo_k11_6 hL _ t_M) t_M (by decide))).trans eC
          have eA := (k15 (g.lk M 7) (tg_ne (lo_k11_7 hL _ t_M) t_M (by decide))).trans eA
          have hu := hu.st k15 t_M (by decide)
          have hk16 : ∀ b, b ≠ M → f13 b = f b := fun b q0 => (k15 b q0).trans (hk9 b q0)
          refine lv_iload_n hx hb d_M_work_162 rfl (lv_at hl 0 rfl) ?_
          refine lv_bipush (v := nI 7) hx hb d_M_work_163 (by decide) ?_
          refine lv_icmp_ne (tgt := 192) hx hb d_M_work_165 (by decide) (fun b17 => ?_) (fun b17 => ?_)
          · skip
            replace b17 := mt (nI_eq (a := w) (b := 7) (by omega) (by omega)).mpr b17
            refine lv_aload_n hx hb d_M_work_192 rfl (lv_at hl 1 rfl) ?_
            refine lv_dup hx hb d_M_work_193 rfl ?_
            refine pf_get (v := .int (nI mtp)) (C := "BigRunnerModel") (T := FT10) (N := 45) hx hb (hw10 hB _) (fun _ h9 => h9) hown hK hP (lo_in hL t_M (by decide)) e14 rfl 32 (by decide) (wd_979 hB _) rfl d_M_work_194 ?_
            refine lv_iconst (v := nI 1) hx hb d_M_work_197 (by decide) ?_
            refine pf_isubN (x := mtp) (y := 1) hx hb (by omega) d_M_work_198 ?_
            refine pf_put (v := .int (nI (mtp - 1))) (ty := .int) (fs' := [.int mth, .ref (g.lk M 1), .int (nI mn), .ref (g.lk M 3), .ref (g.lk M 4), .int (nI mdr), .ref (g.lk M 6), .ref (g.lk M 7), .ref (g.lk M 8), .int (nI msz), .int (nI mix), .int (nI mdp), .ref (g.lk M 12), .int (nI mwt), .ref (g.lk M 14), .ref (g.lk M 15), .int (nI mop), .ref (g.lk M 17), .ref (g.lk M 18), .ref (g.lk M 19), .ref (g.lk M 20), .ref (g.lk M 21), .ref (g.lk M 22), .ref (g.lk M 23), .ref (g.lk M 24), .ref (g.lk M 25), .ref (g.lk M 26), .ref (g.lk M 27), .ref (g.lk M 28), .ref (g.lk M 29), .ref (g.lk M 30), .ref (g.lk M 31), .int (nI (mtp - 1)), .ref (g.lk M 33), .ref (g.lk M 34), .ref (g.lk M 35), .int (nI mwa), .int (nI mgi), .int (nI mpc), .int (nI mst), .int (nI mtr), .int (nI msp), .int iv5, .int iv12, .int mdu]) (C := "BigRunnerModel") (T := FT10) (N := 45) hx hb (hw10 hB _) (fun _ h9 => h9) TY10 ok10 nm10 hown hK hP hD hS (lo_in hL t_M (by decide)) e14 rfl 32 (by decide) (wd_979 hB _) rfl (by decide +kernel) rfl rfl (Nat.le_of_ble_eq_true rfl) rfl d_M_work_199 (fun f18 H locs e19 k20 hP hD hS => ?_)
            have eC := (k20 (g.lk M 6) (tg_ne (lo_k11_6 hL _ t_M) t_M (by decide))).trans eC
            have eA := (k20 (g.lk M 7) (tg_ne (lo_k11_7 hL _ t_M) t_M (by decide))).trans eA
            have hu := hu.st k20 t_M (by decide)
            have hk21 : ∀ b, b ≠ M → f18 b = f b := fun b q0 => (k20 b q0).trans (hk16 b q0)
            refine lv_aload_n hx hb d_M_work_202 rfl (lv_at hl 1 rfl) ?_
            refine pf_get (v := .int (nI (mtp - 1))) (C := "BigRunnerModel") (T := FT10) (N := 45) hx hb (hw10 hB _) (fun _ h9 => h9) hown hK hP (lo_in hL t_M (by decide)) e19 rfl 32 (by decide) (wd_979 hB _) rfl d_M_work_203 ?_
            refine lv_iconst (v := nI 1) hx hb d_M_work_206 (by decide) ?_
            refine pf_isubN (x := mtp - 1) (y := 1) hx hb (by omega) d_M_work_207 ?_
            refine lv_istore_n (lv' := [(3, .int (nI ((mtp - 1) - 1))), (2, .int (nI w)), (0, .ref M), (1, .int (nI p9))]) hx hb d_M_work_208 rfl hl (by decide) rfl (fun ls hl => ?_)
            refine lv_iload_n hx hb d_M_work_209 rfl (lv_at hl 1 rfl) ?_
            refine lv_iconst (v := nI 4) hx hb d_M_work_210 (by decide) ?_
            refine lv_icmp_le (tgt := 232) hx hb d_M_work_211 (by decide) (fun b22 => ?_) (fun b22 => ?_)
            · skip
              replace b22 := (nI_leI (a := w) (b := 4) (by omega) (by omega)).mp b22
              refine lv_aload_n hx hb d_M_work_232 rfl (lv_at hl 2 rfl) ?_
              have hI23 := iv_1 hI hL t_M (by decide) hk21 (oc_11.mk t_M (⟨mth, mn, mdr, msz, mix, mdp, mwt, mop, (mtp - 1), mwa, mgi, mpc, mst, mtr, msp, iv5, iv12, mdu, e19, (by omega), (by omega), (by omega), (by omega), (by omega), (by omega), (by omega), (by omega), (by omega), (by omega), (by omega), (by omega), (by omega), (by omega), hmb14⟩))
              refine pcc_v (va_runV (C := "BigRunnerModel") (As := []) (rest := []) ⟨hx, hb, hml, hown, tb_nil⟩ (m_clear l g H.size f18 M hL t_M hI23) ⟨(callB_of 0 (tb_one (wd_1224 hB _)) tb_good1 rfl rfl rfl (wd_82 hB _) (wd_1221 hB _) (by decide +kernel) ⟨Nat.le_of_ble_eq_true rfl, Nat.le_of_ble_eq_true rfl⟩), (wd_1223 hB _), (wd_62 hB _)⟩ ⟨pe_bl, pg_recv (ci := 10) hK hP (lo_in hL t_M (by decide)) e19 rfl, pe_pre hB hK hP hD⟩ rfl rfl hl.1 rfl (lv_room (Nat.le_of_ble_eq_true rfl)) d_M_work_233 ⟨Nat.le_of_ble_eq_true rfl, Nat.le_of_ble_eq_true rfl⟩) hS (fun f25 H locs hq26 hP hD hS => ?_)
              obtain ⟨hI1_27, hu1_28⟩ := hq26
              have hu := hu.tr hu1_28 (by decide)
              have eC := hu1_28.at (lo_k11_6 hL _ t_M) (by decide) eC
              have eA := hu1_28.at (lo_k11_7 hL _ t_M) (by decide) eA
              have e19 := hu1_28.at t_M (by decide) e19
              refine lv_iconst (v := nI 0) hx hb d_M_work_236 (by decide) ?_
              refine lv_istore (lv' := [(4, .int (nI 0)), (3, .int (nI ((mtp - 1) - 1))), (2, .int (nI w)), (0, .ref M), (1, .int (nI p9))]) hx hb d_M_work_237 hl (by decide) rfl (fun ls hl => ?_)
              refine lv_iload_n hx hb d_M_work_239 rfl (lv_at hl 2 rfl) ?_
              refine lv_iconst (v := nI 5) hx hb d_M_work_240 (by decide) ?_
              refine lv_icmp_ge (tgt := 285) hx hb d_M_work_241 (by decide) (fun b29 => ?_) (fun b29 => ?_)
              · skip
                replace b29 := (nI_leI (a := 5) (b := w) (by omega) (by omega)).mp b29
                refine lv_aload_n hx hb d_M_work_285 rfl (lv_at hl 3 rfl) ?_
                refine lv_iload_n hx hb d_M_work_286 rfl (lv_at hl 1 rfl) ?_
                refine lv_aload_n hx hb d_M_work_287 rfl (lv_at hl 3 rfl) ?_
                refine pf_get (v := .int (nI (mtp - 1))) (C := "BigRunnerModel") (T := FT10) (N := 45) hx hb (hw10 hB _) (fun _ h9 => h9) hown hK hP (lo_in hL t_M (by decide)) e19 rfl 32 (by decide) (wd_979 hB _) rfl d_M_work_288 ?_
                refine pcc_v (va_runV (C := "BigRunnerModel") (As := [.int (nI ((mtp - 1) - 1)), .int (nI (mtp - 1))]) (rest := []) ⟨hx, hb, hml, hown, tb_nil⟩ (m_divide l g H.size f25 M (((mtp - 1) - 1)) ((mtp - 1)) hL t_M hI1_27 (by omega) (by omega)) ⟨(callB_of 2 (tb_one (wd_1249 hB _)) tb_good1 rfl rfl rfl (wd_82 hB _) (wd_1246 hB _) (by decide +kernel) ⟨Nat.le_of_ble_eq_true rfl, Nat.le_of_ble_eq_true rfl⟩), (wd_1248 hB _), (wd_68 hB _)⟩ ⟨pe_bl, pg_recv (ci := 10) hK hP (lo_in hL t_M (by decide)) e19 rfl, pe_pre hB hK hP hD⟩ rfl rfl hl.1 rfl (lv_room (Nat.le_of_ble_eq_true rfl)) d_M_work_291 ⟨Nat.le_of_ble_eq_true rfl, Nat.le_of_ble_eq_true rfl⟩) hS (fun f31 H locs hq32 hP hD hS => ?_)
                obtain ⟨hI1_33, hu1_34⟩ := hq32
                have hu := hu.tr hu1_34 (by decide)
                have eC := hu1_34.at (lo_k11_6 hL _ t_M) (by decide) eC
                have eA := hu1_34.at (lo_k11_7 hL _ t_M) (by decide) eA
                have e19 := hu1_34.at t_M (by decide) e19
                refine lv_iload_n hx hb d_M_work_294 rfl (lv_at hl 2 rfl) ?_
                refine lv_iconst (v := nI 5) hx hb d_M_work_295 (by decide) ?_
                refine lv_icmp_ne (tgt := 318) hx hb d_M_work_296 (by decide) (fun b35 => ?_) (fun b35 => ?_)
                · skip
                  replace b35 := mt (nI_eq (a := w) (b := 5) (by omega) (by omega)).mpr b35
                  refine lv_aload_n hx hb d_M_work_318 rfl (lv_at hl 3 rfl) ?_
                  refine pf_get (v := .ref (g.lk M 31)) (C := "BigRunnerModel") (T := FT10) (N := 45) hx hb (hw10 hB _) (fun _ h9 => h9) hown hK hP (lo_in hL t_M (by decide)) e19 rfl 31 (by decide) (wd_978 hB _) rfl d_M_work_319 ?_
                  refine lv_iload_n hx hb d_M_work_322 rfl (lv_at hl 1 rfl) ?_
                  obtain ⟨h_37, e36⟩ := oc_63.of (lo_k11_31 hL _ t_M) (hI1_33.1 (g.lk M 31))
                  refine pf_iald (i := (mtp - 1) - 1) hx hb hK hP (lo_in hL (lo_k11_31 hL _ t_M) (by decide)) e36 (lo_t63 hL _ (lo_k11_31 hL _ t_M)) (by omega) (by decide) d_M_work_323 ?_
                  refine lv_topi (fun iv39 _ => ?_)
                  refine lv_istore (lv' := [(4, .int iv39), (3, .int (nI ((mtp - 1) - 1))), (2, .int (nI w)), (0, .ref M), (1, .int (nI p9))]) hx hb d_M_work_324 hl (by decide) rfl (fun ls hl => ?_)
                  refine lv_iconst (v := nI 0) hx hb d_M_work_326 (by decide) ?_
                  refine lv_istore (lv' := [(5, .int (nI 0)), (4, .int iv39), (3, .int (nI ((mtp - 1) - 1))), (2, .int (nI w)), (0, .ref M), (1, .int (nI p9))]) hx hb d_M_work_327 hl (by decide) rfl (fun ls hl => ?_)
                  have lp40 : ∀ (k42 : Nat) (i : Nat) (f41 : Nat → va_E) (H : Heap) (locs : List Loc) (ls : Array Slot), (20 < i + k42) → (i ≤ 20) → IV g f41 → un [64] g f31 f41 → lv_has ls 6 [(5, .int (nI i)), (4, .int iv39), (3, .int (nI ((mtp - 1) - 1))), (2, .int (nI w)), (0, .ref M), (1, .int (nI p9))] → va_P g.D vcl (va_pl g.LP f41) H → va_D (pc_A g s.heap.size) (va_pl g.LP f41) → va_S (pc_A g s.heap.size) s.heap H locs → W p l e ({ frames := 3, cells := 0, slots := 0, locals := 78 }) s m args below meth c H locs 0 0 (MQ below (va_Qv (fun f1 => (∃ (tp1 : Nat) (ma1 : Int32) (lg1 : Int32) (tr1 : Nat), (tp1 ≤ 80) ∧ (tr1 ≤ 2) ∧ (TR0 tr1 w mtp tp1) ∧ f1 M = .inr (10, [.int mth, .ref (g.lk M 1), .int (nI mn), .ref (g.lk M 3), .ref (g.lk M 4), .int (nI mdr), .ref (g.lk M 6), .ref (g.lk M 7), .ref (g.lk M 8), .int (nI msz), .int (nI mix), .int (nI mdp), .ref (g.lk M 12), .int (nI mwt), .ref (g.lk M 14), .ref (g.lk M 15), .int (nI mop), .ref (g.lk M 17), .ref (g.lk M 18), .ref (g.lk M 19), .ref (g.lk M 20), .ref (g.lk M 21), .ref (g.lk M 22), .ref (g.lk M 23), .ref (g.lk M 24), .ref (g.lk M 25), .ref (g.lk M 26), .ref (g.lk M 27), .ref (g.lk M 28), .ref (g.lk M 29), .ref (g.lk M 30), .ref (g.lk M 31), .int (nI tp1), .ref (g.lk M 33), .ref (g.lk M 34), .ref (g.lk M 35), .int (nI mwa), .int (nI mgi), .int (nI mpc), .int (nI mst), .int (nI tr1), .int (nI msp), .int ma1, .int lg1, .int mdu])) ∧ (IV g f1) ∧ (un [11, 62, 63, 64, 65] g f f1)) (pc_out g s.heap.size) (pc_A g s.heap.size)) args s 0 0 (pc_A g s.heap.size)) (F0 m 329 ls []) := by
                    intro k42
                    induction k42 with
                    | zero => intros; exfalso; omega
                    | succ k42 ih43 =>
                      intro i f41 H locs ls hfu44 hi hI45 hv46 hl hP hD hS
                      have eC := hv46.at (lo_k11_6 hL _ t_M) (by decide) eC
                      have eA := hv46.at (lo_k11_7 hL _ t_M) (by decide) eA
                      have e19 := hv46.at t_M (by decide) e19
                      have e36 := hv46.at (lo_k11_31 hL _ t_M) (by decide) e36
                      have hu := hu.tr hv46 (by decide)
                      refine lv_iload hx hb d_M_work_329 (lv_at hl 0 rfl) ?_
                      refine lv_bipush (v := nI 20) hx hb d_M_work_331 (by decide) ?_
                      refine lv_icmp_ge (tgt := 362) hx hb d_M_work_333 (by decide) (fun b47 => ?_) (fun b47 => ?_)
                      · skip
                        replace b47 := (nI_leI (a := 20) (b := i) (by omega) (by omega)).mp b47
                        refine lv_aload_n hx hb d_M_work_362 rfl (lv_at hl 4 rfl) ?_
                        refine lv_aload_n hx hb d_M_work_363 rfl (lv_at hl 4 rfl) ?_
                        refine pf_get (v := .ref (g.lk M 33)) (C := "BigRunnerModel") (T := FT10) (N := 45) hx hb (hw10 hB _) (fun _ h9 => h9) hown hK hP (lo_in hL t_M (by decide)) e19 rfl 33 (by decide) (wd_980 hB _) rfl d_M_work_364 ?_
                        refine lv_iconst (v := nI 0) hx hb d_M_work_367 (by decide) ?_
                        refine lv_bipush (v := nI 44) hx hb d_M_work_368 (by decide) ?_
                        refine pcc_i (va_runS (As := [.ref (g.lk M 33), .int (nI 0), .int (nI 44)]) (rest := [.ref M]) ⟨hx, hb, hml, hown, tb_nil⟩ (m_digitsOf64 l g H.size f41 ((g.lk M 33)) 0 44 hL (lo_k11_33 hL _ t_M) hI45.1 (by omega)) ⟨(callB_of 3 (tb_one (wd_1257 hB _)) tb_good1 rfl rfl rfl (wd_82 hB _) (wd_1255 hB _) (by decide +kernel) ⟨Nat.le_of_ble_eq_true rfl, Nat.le_of_ble_eq_true rfl⟩), (wd_1256 hB _)⟩ ⟨pe_bl, pe_pre hB hK hP hD⟩ rfl rfl hl.1 rfl (lv_room (Nat.le_of_ble_eq_true rfl)) d_M_work_370 ⟨Nat.le_of_ble_eq_true rfl, Nat.le_of_ble_eq_true rfl⟩) hS (fun r48 f49 H locs hq50 hP hD hS => ?_)
                        subst hq50
                        refine lv_bipush (v := nI 120) hx hb d_M_work_373 (by decide) ?_
                        refine lv_icmp_le (tgt := 382) hx hb d_M_work_375 (by decide) (fun b51 => ?_) (fun b51 => ?_)
                        · skip
                          refine lv_iconst (v := nI 0) hx hb d_M_work_382 (by decide) ?_
                          refine pf_put (v := .int (nI 0)) (ty := .int) (fs' := [.int mth, .ref (g.lk M 1), .int (nI mn), .ref (g.lk M 3), .ref (g.lk M 4), .int (nI mdr), .ref (g.lk M 6), .ref (g.lk M 7), .ref (g.lk M 8), .int (nI msz), .int (nI mix), .int (nI mdp), .ref (g.lk M 12), .int (nI mwt), .ref (g.lk M 14), .ref (g.lk M 15), .int (nI mop), .ref (g.lk M 17), .ref (g.lk M 18), .ref (g.lk M 19), .ref (g.lk M 20), .ref (g.lk M 21), .ref (g.lk M 22), .ref (g.lk M 23), .ref (g.lk M 24), .ref (g.lk M 25), .ref (g.lk M 26), .ref (g.lk M 27), .ref (g.lk M 28), .ref (g.lk M 29), .ref (g.lk M 30), .ref (g.lk M 31), .int (nI (mtp - 1)), .ref (g.lk M 33), .ref (g.lk M 34), .ref (g.lk M 35), .int (nI mwa), .int (nI mgi), .int (nI mpc), .int (nI mst), .int (nI 0), .int (nI msp), .int iv5, .int iv12, .int mdu]) (C := "BigRunnerModel") (T := FT10) (N := 45) hx hb (hw10 hB _) (fun _ h9 => h9) TY10 ok10 nm10 hown hK hP hD hS (lo_in hL t_M (by decide)) e19 rfl 40 (by decide) (wd_987 hB _) rfl (by decide +kernel) rfl rfl (Nat.le_of_ble_eq_true rfl) rfl d_M_work_383 (fun f52 H locs e53 k54 hP hD hS => ?_)
                          have eC := (k54 (g.lk M 6) (tg_ne (lo_k11_6 hL _ t_M) t_M (by decide))).trans eC
                          have eA := (k54 (g.lk M 7) (tg_ne (lo_k11_7 hL _ t_M) t_M (by decide))).trans eA
                          have e36 := (k54 (g.lk M 31) (tg_ne (lo_k11_31 hL _ t_M) t_M (by decide))).trans e36
                          have hu := hu.st k54 t_M (by decide)
                          have hk55 : ∀ b, b ≠ M → f52 b = f41 b := k54
                          refine lv_aload_n hx hb d_M_work_386 rfl (lv_at hl 4 rfl) ?_
                          refine pf_get (v := .int (nI 0)) (C := "BigRunnerModel") (T := FT10) (N := 45) hx hb (hw10 hB _) (fun _ h9 => h9) hown hK hP (lo_in hL t_M (by decide)) e53 rfl 40 (by decide) (wd_987 hB _) rfl d_M_work_387 ?_
                          refine lv_if_ne (tgt := 400) hx hb d_M_work_390 (by decide) (fun b56 => ?_) (fun b56 => ?_)
                          · skip
                            replace b56 := mt (nI_eq (a := 0) (b := 0) (by omega) (by omega)).mpr b56
                            exfalso; omega
                          · skip
                            replace b56 := (nI_eq (a := 0) (b := 0) (by omega) (by omega)).mp b56
                            refine lv_aload_n hx hb d_M_work_393 rfl (lv_at hl 4 rfl) ?_
                            refine lv_iload_n hx hb d_M_work_394 rfl (lv_at hl 2 rfl) ?_
                            refine lv_iload hx hb d_M_work_395 (lv_at hl 1 rfl) ?_
                            have hI57 := iv_1 hI45 hL t_M (by decide) hk55 (oc_11.mk t_M (⟨mth, mn, mdr, msz, mix, mdp, mwt, mop, (mtp - 1), mwa, mgi, mpc, mst, 0, msp, iv5, iv12, mdu, e53, (by omega), (by omega), (by omega), (by omega), (by omega), (by omega), (by omega), (by omega), (by omega), (by omega), (by omega), (by omega), (by omega), (by omega), hmb14⟩))
                            refine pcc_v (va_runV (C := "BigRunnerModel") (As := [.int (nI ((mtp - 1) - 1)), .int iv39]) (rest := []) ⟨hx, hb, hml, hown, tb_nil⟩ (m_keep l g H.size f52 M (((mtp - 1) - 1)) iv39 hL t_M hI57 (by omega)) ⟨(callB_of 2 (tb_one (wd_1261 hB _)) tb_good1 rfl rfl rfl (wd_82 hB _) (wd_1258 hB _) (by decide +kernel) ⟨Nat.le_of_ble_eq_true rfl, Nat.le_of_ble_eq_true rfl⟩), (wd_1260 hB _), (wd_70 hB _)⟩ ⟨pe_bl, pg_recv (ci := 10) hK hP (lo_in hL t_M (by decide)) e53 rfl, pe_pre hB hK hP hD⟩ rfl rfl hl.1 rfl (lv_room (Nat.le_of_ble_eq_true rfl)) d_M_work_397 ⟨Nat.le_of_ble_eq_true rfl, Nat.le_of_ble_eq_true rfl⟩) hS (fun f59 H locs hq60 hP hD hS => ?_)
                            obtain ⟨hI1_61, hu1_62⟩ := hq60
                            have hu := hu.tr hu1_62 (by decide)
                            have eC := hu1_62.at (lo_k11_6 hL _ t_M) (by decide) eC
                            have eA := hu1_62.at (lo_k11_7 hL _ t_M) (by decide) eA
                            have e53 := hu1_62.at t_M (by decide) e53
                            exact pe_vret hx hb hr hlocks hK hP hD hS d_M_work_400 ⟨⟨(mtp - 1), iv5, iv12, 0, by omega, by omega, (fun z9 => TR.mk (fun _ => by omega) (fun _ => by omega) (fun _ _ => by omega)), e53⟩, hI1_61, hu⟩
                        · skip
                          refine lv_iconst (v := nI 2) hx hb d_M_work_378 (by decide) ?_
                          refine lv_goto (tgt := 383) hx hb d_M_work_379 (by decide) ?_
                          refine pf_put (v := .int (nI 2)) (ty := .int) (fs' := [.int mth, .ref (g.lk M 1), .int (nI mn), .ref (g.lk M 3), .ref (g.lk M 4), .int (nI mdr), .ref (g.lk M 6), .ref (g.lk M 7), .ref (g.lk M 8), .int (nI msz), .int (nI mix), .int (nI mdp), .ref (g.lk M 12), .int (nI mwt), .ref (g.lk M 14), .ref (g.lk M 15), .int (nI mop), .ref (g.lk M 17), .ref (g.lk M 18), .ref (g.lk M 19), .ref (g.lk M 20), .ref (g.lk M 21), .ref (g.lk M 22), .ref (g.lk M 23), .ref (g.lk M 24), .ref (g.lk M 25), .ref (g.lk M 26), .ref (g.lk M 27), .ref (g.lk M 28), .ref (g.lk M 29), .ref (g.lk M 30), .ref (g.lk M 31), .int (nI (mtp - 1)), .ref (g.lk M 33), .ref (g.lk M 34), .ref (g.lk M 35), .int (nI mwa), .int (nI mgi), .int (nI mpc), .int (nI mst), .int (nI 2), .int (nI msp), .int iv5, .int iv12, .int mdu]) (C := "BigRunnerModel") (T := FT10) (N := 45) hx hb (hw10 hB _) (fun _ h9 => h9) TY10 ok10 nm10 hown hK hP hD hS (lo_in hL t_M (by decide)) e19 rfl 40 (by decide) (wd_987 hB _) rfl (by decide +kernel) rfl rfl (Nat.le_of_ble_eq_true rfl) rfl d_M_work_383 (fun f63 H locs e64 k65 hP hD hS => ?_)
                          have eC := (k65 (g.lk M 6) (tg_ne (lo_k11_6 hL _ t_M) t_M (by decide))).trans eC
                          have eA := (k65 (g.lk M 7) (tg_ne (lo_k11_7 hL _ t_M) t_M (by decide))).trans eA
                          have e36 := (k65 (g.lk M 31) (tg_ne (lo_k11_31 hL _ t_M) t_M (by decide))).trans e36
                          have hu := hu.st k65 t_M (by decide)
                          have hk66 : ∀ b, b ≠ M → f63 b = f41 b := k65
                          refine lv_aload_n hx hb d_M_work_386 rfl (lv_at hl 4 rfl) ?_
                          refine pf_get (v := .int (nI 2)) (C := "BigRunnerModel") (T := FT10) (N := 45) hx hb (hw10 hB _) (fun _ h9 => h9) hown hK hP (lo_in hL t_M (by decide)) e64 rfl 40 (by decide) (wd_987 hB _) rfl d_M_work_387 ?_
                          refine lv_if_ne (tgt := 400) hx hb d_M_work_390 (by decide) (fun b67 => ?_) (fun b67 => ?_)
                          · skip
                            replace b67 := mt (nI_eq (a := 2) (b := 0) (by omega) (by omega)).mpr b67
                            have hI68 := iv_1 hI45 hL t_M (by decide) hk66 (oc_11.mk t_M (⟨mth, mn, mdr, msz, mix, mdp, mwt, mop, (mtp - 1), mwa, mgi, mpc, mst, 2, msp, iv5, iv12, mdu, e64, (by omega), (by omega), (by omega), (by omega), (by omega), (by omega), (by omega), (by omega), (by omega), (by omega), (by omega), (by omega), (by omega), (by omega), hmb14⟩))
                            exact pe_vret hx hb hr hlocks hK hP hD hS d_M_work_400 ⟨⟨(mtp - 1), iv5, iv12, 2, by omega, by omega, (fun z9 => TR.mk (fun _ => by omega) (fun _ => by omega) (fun _ _ => by omega)), e64⟩, hI68, hu⟩
                          · skip
                            replace b67 := (nI_eq (a := 2) (b := 0) (by omega) (by omega)).mp b67
                            exfalso; omega
                      · skip
                        replace b47 := mt (nI_leI (a := 20) (b := i) (by omega) (by omega)).mpr b47
                        refine lv_iload_n hx hb d_M_work_336 rfl (lv_at hl 3 rfl) ?_
                        refine lv_bipush (v := nI 6) hx hb d_M_work_337 (by decide) ?_
                        refine lv_icmp_ne (tgt := 362) hx hb d_M_work_339 (by decide) (fun b69 => ?_) (fun b69 => ?_)
                        · skip
                          replace b69 := mt (nI_eq (a := w) (b := 6) (by omega) (by omega)).mpr b69
                          refine lv_aload_n hx hb d_M_work_362 rfl (lv_at hl 4 rfl) ?_
                          refine lv_aload_n hx hb d_M_work_363 rfl (lv_at hl 4 rfl) ?_
                          refine pf_get (v := .ref (g.lk M 33)) (C := "BigRunnerModel") (T := FT10) (N := 45) hx hb (hw10 hB _) (fun _ h9 => h9) hown hK hP (lo_in hL t_M (by decide)) e19 rfl 33 (by decide) (wd_980 hB _) rfl d_M_work_364 ?_
                          refine lv_iconst (v := nI 0) hx hb d_M_work_367 (by decide) ?_
                          refine lv_bipush (v := nI 44) hx hb d_M_work_368 (by decide) ?_
                          refine pcc_i (va_runS (As := [.ref (g.lk M 33), .int (nI 0), .int (nI 44)]) (rest := [.ref M]) ⟨hx, hb, hml, hown, tb_nil⟩ (m_digitsOf64 l g H.size f41 ((g.lk M 33)) 0 44 hL (lo_k11_33 hL _ t_M) hI45.1 (by omega)) ⟨(callB_of 3 (tb_one (wd_1257 hB _)) tb_good1 rfl rfl rfl (wd_82 hB _) (wd_1255 hB _) (by decide +kernel) ⟨Nat.le_of_ble_eq_true rfl, Nat.le_of_ble_eq_true rfl⟩), (wd_1256 hB _)⟩ ⟨pe_bl, pe_pre hB hK hP hD⟩ rfl rfl hl.1 rfl (lv_room (Nat.le_of_ble_eq_true rfl)) d_M_work_370 ⟨Nat.le_of_ble_eq_true rfl, Nat.le_of_ble_eq_true rfl⟩) hS (fun r70 f71 H locs hq72 hP hD hS => ?_)
                          subst hq72
                          refine lv_bipush (v := nI 120) hx hb d_M_work_373 (by decide) ?_
                          refine lv_icmp_le (tgt := 382) hx hb d_M_work_375 (by decide) (fun b73 => ?_) (fun b73 => ?_)
                          · skip
                            refine lv_iconst (v := nI 0) hx hb d_M_work_382 (by decide) ?_
                            refine pf_put (v := .int (nI 0)) (ty := .int) (fs' := [.int mth, .ref (g.lk M 1), .int (nI mn), .ref (g.lk M 3), .ref (g.lk M 4), .int (nI mdr), .ref (g.lk M 6), .ref (g.lk M 7), .ref (g.lk M 8), .int (nI msz), .int (nI mix), .int (nI mdp), .ref (g.lk M 12), .int (nI mwt), .ref (g.lk M 14), .ref (g.lk M 15), .int (nI mop), .ref (g.lk M 17), .ref (g.lk M 18), .ref (g.lk M 19), .ref (g.lk M 20), .ref (g.lk M 21), .ref (g.lk M 22), .ref (g.lk M 23), .ref (g.lk M 24), .ref (g.lk M 25), .ref (g.lk M 26), .ref (g.lk M 27), .ref (g.lk M 28), .ref (g.lk M 29), .ref (g.lk M 30), .ref (g.lk M 31), .int (nI (mtp - 1)), .ref (g.lk M 33), .ref (g.lk M 34), .ref (g.lk M 35), .int (nI mwa), .int (nI mgi), .int (nI mpc), .int (nI mst), .int (nI 0), .int (nI msp), .int iv5, .int iv12, .int mdu]) (C := "BigRunnerModel") (T := FT10) (N := 45) hx hb (hw10 hB _) (fun _ h9 => h9) TY10 ok10 nm10 hown hK hP hD hS (lo_in hL t_M (by decide)) e19 rfl 40 (by decide) (wd_987 hB _) rfl (by decide +kernel) rfl rfl (Nat.le_of_ble_eq_true rfl) rfl d_M_work_383 (fun f74 H locs e75 k76 hP hD hS => ?_)
                            have eC := (k76 (g.lk M 6) (tg_ne (lo_k11_6 hL _ t_M) t_M (by decide))).trans eC
                            have eA := (k76 (g.lk M 7) (tg_ne (lo_k11_7 hL _ t_M) t_M (by decide))).trans eA
                            have e36 := (k76 (g.lk M 31) (tg_ne (lo_k11_31 hL _ t_M) t_M (by decide))).trans e36
                            have hu := hu.st k76 t_M (by decide)
                            have hk77 : ∀ b, b ≠ M → f74 b = f41 b := k76
                            refine lv_aload_n hx hb d_M_work_386 rfl (lv_at hl 4 rfl) ?_
                            refine pf_get (v := .int (nI 0)) (C := "BigRunnerModel") (T := FT10) (N := 45) hx hb (hw10 hB _) (fun _ h9 => h9) hown hK hP (lo_in hL t_M (by decide)) e75 rfl 40 (by decide) (wd_987 hB _) rfl d_M_work_387 ?_
                            refine lv_if_ne (tgt := 400) hx hb d_M_work_390 (by decide) (fun b78 => ?_) (fun b78 => ?_)
                            · skip
                              replace b78 := mt (nI_eq (a := 0) (b := 0) (by omega) (by omega)).mpr b78
                              exfalso; omega
                            · skip
                              replace b78 := (nI_eq (a := 0) (b := 0) (by omega) (by omega)).mp b78
                              refine lv_aload_n hx hb d_M_work_393 rfl (lv_at hl 4 rfl) ?_
                              refine lv_iload_n hx hb d_M_work_394 rfl (lv_at hl 2 rfl) ?_
                              refine lv_iload hx hb d_M_work_395 (lv_at hl 1 rfl) ?_
                              have hI79 := iv_1 hI45 hL t_M (by decide) hk77 (oc_11.mk t_M (⟨mth, mn, mdr, msz, mix, mdp, mwt, mop, (mtp - 1), mwa, mgi, mpc, mst, 0, msp, iv5, iv12, mdu, e75, (by omega), (by omega), (by omega), (by omega), (by omega), (by omega), (by omega), (by omega), (by omega), (by omega), (by omega), (by omega), (by omega), (by omega), hmb14⟩))
                              refine pcc_v (va_runV (C := "BigRunnerModel") (As := [.int (nI ((mtp - 1) - 1)), .int iv39]) (rest := []) ⟨hx, hb, hml, hown, tb_nil⟩ (m_keep l g H.size f74 M (((mtp - 1) - 1)) iv39 hL t_M hI79 (by omega)) ⟨(callB_of 2 (tb_one (wd_1261 hB _)) tb_good1 rfl rfl rfl (wd_82 hB _) (wd_1258 hB _) (by decide +kernel) ⟨Nat.le_of_ble_eq_true rfl, Nat.le_of_ble_eq_true rfl⟩), (wd_1260 hB _), (wd_70 hB _)⟩ ⟨pe_bl, pg_recv (ci := 10) hK hP (lo_in hL t_M (by decide)) e75 rfl, pe_pre hB hK hP hD⟩ rfl rfl hl.1 rfl (lv_room (Nat.le_of_ble_eq_true rfl)) d_M_work_397 ⟨Nat.le_of_ble_eq_true rfl, Nat.le_of_ble_eq_true rfl⟩) hS (fun f81 H locs hq82 hP hD hS => ?_)
                              obtain ⟨hI1_83, hu1_84⟩ := hq82
                              have hu := hu.tr hu1_84 (by decide)
                              have eC := hu1_84.at (lo_k11_6 hL _ t_M) (by decide) eC
                              have eA := hu1_84.at (lo_k11_7 hL _ t_M) (by decide) eA
                              have e75 := hu1_84.at t_M (by decide) e75
                              exact pe_vret hx hb hr hlocks hK hP hD hS d_M_work_400 ⟨⟨(mtp - 1), iv5, iv12, 0, by omega, by omega, (fun z9 => TR.mk (fun _ => by omega) (fun _ => by omega) (fun _ _ => by omega)), e75⟩, hI1_83, hu⟩
                          · skip
                            refine lv_iconst (v := nI 2) hx hb d_M_work_378 (by decide) ?_
                            refine lv_goto (tgt := 383) hx hb d_M_work_379 (by decide) ?_
                            refine pf_put (v := .int (nI 2)) (ty := .int) (fs' := [.int mth, .ref (g.lk M 1), .int (nI mn), .ref (g.lk M 3), .ref (g.lk M 4), .int (nI mdr), .ref (g.lk M 6), .ref (g.lk M 7), .ref (g.lk M 8), .int (nI msz), .int (nI mix), .int (nI mdp), .ref (g.lk M 12), .int (nI mwt), .ref (g.lk M 14), .ref (g.lk M 15), .int (nI mop), .ref (g.lk M 17), .ref (g.lk M 18), .ref (g.lk M 19), .ref (g.lk M 20), .ref (g.lk M 21), .ref (g.lk M 22), .ref (g.lk M 23), .ref (g.lk M 24), .ref (g.lk M 25), .ref (g.lk M 26), .ref (g.lk M 27), .ref (g.lk M 28), .ref (g.lk M 29), .ref (g.lk M 30), .ref (g.lk M 31), .int (nI (mtp - 1)), .ref (g.lk M 33), .ref (g.lk M 34), .ref (g.lk M 35), .int (nI mwa), .int (nI mgi), .int (nI mpc), .int (nI mst), .int (nI 2), .int (nI msp), .int iv5, .int iv12, .int mdu]) (C := "BigRunnerModel") (T := FT10) (N := 45) hx hb (hw10 hB _) (fun _ h9 => h9) TY10 ok10 nm10 hown hK hP hD hS (lo_in hL t_M (by decide)) e19 rfl 40 (by decide) (wd_987 hB _) rfl (by decide +kernel) rfl rfl (Nat.le_of_ble_eq_true rfl) rfl d_M_work_383 (fun f85 H locs e86 k87 hP hD hS => ?_)
                            have eC := (k87 (g.lk M 6) (tg_ne (lo_k11_6 hL _ t_M) t_M (by decide))).trans eC
                            have eA := (k87 (g.lk M 7) (tg_ne (lo_k11_7 hL _ t_M) t_M (by decide))).trans eA
                            have e36 := (k87 (g.lk M 31) (tg_ne (lo_k11_31 hL _ t_M) t_M (by decide))).trans e36
                            have hu := hu.st k87 t_M (by decide)
                            have hk88 : ∀ b, b ≠ M → f85 b = f41 b := k87
                            refine lv_aload_n hx hb d_M_work_386 rfl (lv_at hl 4 rfl) ?_
                            refine pf_get (v := .int (nI 2)) (C := "BigRunnerModel") (T := FT10) (N := 45) hx hb (hw10 hB _) (fun _ h9 => h9) hown hK hP (lo_in hL t_M (by decide)) e86 rfl 40 (by decide) (wd_987 hB _) rfl d_M_work_387 ?_
                            refine lv_if_ne (tgt := 400) hx hb d_M_work_390 (by decide) (fun b89 => ?_) (fun b89 => ?_)
                            · skip
                              replace b89 := mt (nI_eq (a := 2) (b := 0) (by omega) (by omega)).mpr b89
                              have hI90 := iv_1 hI45 hL t_M (by decide) hk88 (oc_11.mk t_M (⟨mth, mn, mdr, msz, mix, mdp, mwt, mop, (mtp - 1), mwa, mgi, mpc, mst, 2, msp, iv5, iv12, mdu, e86, (by omega), (by omega), (by omega), (by omega), (by omega), (by omega), (by omega), (by omega), (by omega), (by omega), (by omega), (by omega), (by omega), (by omega), hmb14⟩))
                              exact pe_vret hx hb hr hlocks hK hP hD hS d_M_work_400 ⟨⟨(mtp - 1), iv5, iv12, 2, by omega, by omega, (fun z9 => TR.mk (fun _ => by omega) (fun _ => by omega) (fun _ _ => by omega)), e86⟩, hI90, hu⟩
                            · skip
                              replace b89 := (nI_eq (a := 2) (b := 0) (by omega) (by omega)).mp b89
                              exfalso; omega
                        · skip
                          replace b69 := (nI_eq (a := w) (b := 6) (by omega) (by omega)).mp b69
                          refine lv_aload_n hx hb d_M_work_342 rfl (lv_at hl 4 rfl) ?_
                          refine pf_get (v := .ref (g.lk M 33)) (C := "BigRunnerModel") (T := FT10) (N := 45) hx hb (hw10 hB _) (fun _ h9 => h9) hown hK hP (lo_in hL t_M (by decide)) e19 rfl 33 (by decide) (wd_980 hB _) rfl d_M_work_343 ?_
                          refine lv_iload hx hb d_M_work_346 (lv_at hl 0 rfl) ?_
                          refine lv_aload_n hx hb d_M_work_348 rfl (lv_at hl 4 rfl) ?_
                          refine pf_get (v := .ref (g.lk M 34)) (C := "BigRunnerModel") (T := FT10) (N := 45) hx hb (hw10 hB _) (fun _ h9 => h9) hown hK hP (lo_in hL t_M (by decide)) e19 rfl 34 (by decide) (wd_981 hB _) rfl d_M_work_349 ?_
                          refine lv_iload hx hb d_M_work_352 (lv_at hl 0 rfl) ?_
                          obtain ⟨h_92, e91⟩ := oc_65.of (lo_k11_34 hL _ t_M) (hI45.1 (g.lk M 34))
                          refine pf_iald (i := i) hx hb hK hP (lo_in hL (lo_k11_34 hL _ t_M) (by decide)) e91 (lo_t65 hL _ (lo_k11_34 hL _ t_M)) (by omega) (by decide) d_M_work_354 ?_
                          refine lv_topi (fun iv94 _ => ?_)
                          obtain ⟨h_96, e95⟩ := oc_64.of (lo_k11_33 hL _ t_M) (hI45.1 (g.lk M 33))
                          refine pf_iast (i := i) hx hb hK hP hD hS (lo_in hL (lo_k11_33 hL _ t_M) (by decide)) e95 (lo_t64 hL _ (lo_k11_33 hL _ t_M)) (by omega) (by decide) d_M_work_355 (fun f98 H locs e99 k100 hP hD hS => ?_)
                          have eC := (k100 (g.lk M 6) (tg_ne (lo_k11_6 hL _ t_M) (lo_k11_33 hL _ t_M) (by decide))).trans eC
                          have eA := (k100 (g.lk M 7) (tg_ne (lo_k11_7 hL _ t_M) (lo_k11_33 hL _ t_M) (by decide))).trans eA
                          have e19 := (k100 M (tg_ne t_M (lo_k11_33 hL _ t_M) (by decide))).trans e19
                          have e36 := (k100 (g.lk M 31) (tg_ne (lo_k11_31 hL _ t_M) (lo_k11_33 hL _ t_M) (by decide))).trans e36
                          have e91 := (k100 (g.lk M 34) (tg_ne (lo_k11_34 hL _ t_M) (lo_k11_33 hL _ t_M) (by decide))).trans e91
                          have hu := hu.st k100 (lo_k11_33 hL _ t_M) (by decide)
                          have hv46 := hv46.st k100 (lo_k11_33 hL _ t_M) (by decide)
                          have hk101 : ∀ b, b ≠ (g.lk M 33) → f98 b = f41 b := k100
                          refine lv_iinc (k := 0) (v := nI (i + 1)) (lv' := [(5, .int (nI (i + 1))), (4, .int iv39), (3, .int (nI ((mtp - 1) - 1))), (2, .int (nI w)), (0, .ref M), (1, .int (nI p9))]) hx hb d_M_work_356 hl rfl (by rw [nI_succ]; rfl) (by decide) rfl (fun ls hl => ?_)
                          refine lv_goto (tgt := 329) hx hb d_M_work_359 (by decide) ?_
                          have hI102 := iv_1 hI45 hL (lo_k11_33 hL _ t_M) (by decide) hk101 (oc_64.mk (lo_k11_33 hL _ t_M) (⟨_, e99⟩))
                          exact ih43 (i + 1) f98 H locs ls (by omega) (by omega) hI102 hv46 hl hP hD hS
                  exact lp40 21 0 f31 H locs ls (by omega) (by omega) hI1_33 un.rf hl hP hD hS
                · skip
                  replace b35 := (nI_eq (a := w) (b := 5) (by omega) (by omega)).mp b35
                  refine lv_aload_n hx hb d_M_work_299 rfl (lv_at hl 3 rfl) ?_
                  refine pf_get (v := .ref (g.lk M 31)) (C := "BigRunnerModel") (T := FT10) (N := 45) hx hb (hw10 hB _) (fun _ h9 => h9) hown hK hP (lo_in hL t_M (by decide)) e19 rfl 31 (by decide) (wd_978 hB _) rfl d_M_work_300 ?_
                  refine lv_iload_n hx hb d_M_work_303 rfl (lv_at hl 1 rfl) ?_
                  obtain ⟨h_104, e103⟩ := oc_63.of (lo_k11_31 hL _ t_M) (hI1_33.1 (g.lk M 31))
                  refine pf_iald (i := (mtp - 1) - 1) hx hb hK hP (lo_in hL (lo_k11_31 hL _ t_M) (by decide)) e103 (lo_t63 hL _ (lo_k11_31 hL _ t_M)) (by omega) (by decide) d_M_work_304 ?_
                  refine lv_topi (fun iv106 _ => ?_)
                  refine lv_aload_n hx hb d_M_work_305 rfl (lv_at hl 3 rfl) ?_
                  refine pf_get (v := .ref (g.lk M 31)) (C := "BigRunnerModel") (T := FT10) (N := 45) hx hb (hw10 hB _) (fun _ h9 => h9) hown hK hP (lo_in hL t_M (by decide)) e19 rfl 31 (by decide) (wd_978 hB _) rfl d_M_work_306 ?_
                  refine lv_aload_n hx hb d_M_work_309 rfl (lv_at hl 3 rfl) ?_
                  refine pf_get (v := .int (nI (mtp - 1))) (C := "BigRunnerModel") (T := FT10) (N := 45) hx hb (hw10 hB _) (fun _ h9 => h9) hown hK hP (lo_in hL t_M (by decide)) e19 rfl 32 (by decide) (wd_979 hB _) rfl d_M_work_310 ?_
                  refine pf_iald (i := mtp - 1) hx hb hK hP (lo_in hL (lo_k11_31 hL _ t_M) (by decide)) e103 (lo_t63 hL _ (lo_k11_31 hL _ t_M)) (by omega) (by decide) d_M_work_313 ?_
                  refine lv_topi (fun iv107 _ => ?_)
                  refine lv_imul hx hb d_M_work_314 ?_
                  refine lv_topi (fun iv108 _ => ?_)
                  refine lv_goto (tgt := 324) hx hb d_M_work_315 (by decide) ?_
                  refine lv_istore (lv' := [(4, .int iv108), (3, .int (nI ((mtp - 1) - 1))), (2, .int (nI w)), (0, .ref M), (1, .int (nI p9))]) hx hb d_M_work_324 hl (by decide) rfl (fun ls hl => ?_)
                  refine lv_iconst (v := nI 0) hx hb d_M_work_326 (by decide) ?_
                  refine lv_istore (lv' := [(5, .int (nI 0)), (4, .int iv108), (3, .int (nI ((mtp - 1) - 1))), (2, .int (nI w)), (0, .ref M), (1, .int (nI p9))]) hx hb d_M_work_327 hl (by decide) rfl (fun ls hl => ?_)
                  have lp109 : ∀ (k111 : Nat) (i : Nat) (f110 : Nat → va_E) (H : Heap) (locs : List Loc) (ls : Array Slot), (20 < i + k111) → (i ≤ 20) → IV g f110 → un [64] g f31 f110 → lv_has ls 6 [(5, .int (nI i)), (4, .int iv108), (3, .int (nI ((mtp - 1) - 1))), (2, .int (nI w)), (0, .ref M), (1, .int (nI p9))] → va_P g.D vcl (va_pl g.LP f110) H → va_D (pc_A g s.heap.size) (va_pl g.LP f110) → va_S (pc_A g s.heap.size) s.heap H locs → W p l e ({ frames := 3, cells := 0, slots := 0, locals := 78 }) s m args below meth c H locs 0 0 (MQ below (va_Qv (fun f1 => (∃ (tp1 : Nat) (ma1 : Int32) (lg1 : Int32) (tr1 : Nat), (tp1 ≤ 80) ∧ (tr1 ≤ 2) ∧ (TR0 tr1 w mtp tp1) ∧ f1 M = .inr (10, [.int mth, .ref (g.lk M 1), .int (nI mn), .ref (g.lk M 3), .ref (g.lk M 4), .int (nI mdr), .ref (g.lk M 6), .ref (g.lk M 7), .ref (g.lk M 8), .int (nI msz), .int (nI mix), .int (nI mdp), .ref (g.lk M 12), .int (nI mwt), .ref (g.lk M 14), .ref (g.lk M 15), .int (nI mop), .ref (g.lk M 17), .ref (g.lk M 18), .ref (g.lk M 19), .ref (g.lk M 20), .ref (g.lk M 21), .ref (g.lk M 22), .ref (g.lk M 23), .ref (g.lk M 24), .ref (g.lk M 25), .ref (g.lk M 26), .ref (g.lk M 27), .ref (g.lk M 28), .ref (g.lk M 29), .ref (g.lk M 30), .ref (g.lk M 31), .int (nI tp1), .ref (g.lk M 33), .ref (g.lk M 34), .ref (g.lk M 35), .int (nI mwa), .int (nI mgi), .int (nI mpc), .int (nI mst), .int (nI tr1), .int (nI msp), .int ma1, .int lg1, .int mdu])) ∧ (IV g f1) ∧ (un [11, 62, 63, 64, 65] g f f1)) (pc_out g s.heap.size) (pc_A g s.heap.size)) args s 0 0 (pc_A g s.heap.size)) (F0 m 329 ls []) := by
                    intro k111
                    induction k111 with
                    | zero => intros; exfalso; omega
                    | succ k111 ih112 =>
                      intro i f110 H locs ls hfu113 hi hI114 hv115 hl hP hD hS
                      have eC := hv115.at (lo_k11_6 hL _ t_M) (by decide) eC
                      have eA := hv115.at (lo_k11_7 hL _ t_M) (by decide) eA
                      have e19 := hv115.at t_M (by decide) e19
                      have e103 := hv115.at (lo_k11_31 hL _ t_M) (by decide) e103
                      have hu := hu.tr hv115 (by decide)
                      refine lv_iload hx hb d_M_work_329 (lv_at hl 0 rfl) ?_
                      refine lv_bipush (v := nI 20) hx hb d_M_work_331 (by decide) ?_
                      refine lv_icmp_ge (tgt := 362) hx hb d_M_work_333 (by decide) (fun b116 => ?_) (fun b116 => ?_)
                      · skip
                        replace b116 := (nI_leI (a := 20) (b := i) (by omega) (by omega)).mp b116
                        refine lv_aload_n hx hb d_M_work_362 rfl (lv_at hl 4 rfl) ?_
                        refine lv_aload_n hx hb d_M_work_363 rfl (lv_at hl 4 rfl) ?_
                        refine pf_get (v := .ref (g.lk M 33)) (C := "BigRunnerModel") (T := FT10) (N := 45) hx hb (hw10 hB _) (fun _ h9 => h9) hown hK hP (lo_in hL t_M (by decide)) e19 rfl 33 (by decide) (wd_980 hB _) rfl d_M_work_364 ?_
                        refine lv_iconst (v := nI 0) hx hb d_M_work_367 (by decide) ?_
                        refine lv_bipush (v := nI 44) hx hb d_M_work_368 (by decide) ?_
                        refine pcc_i (va_runS (As := [.ref (g.lk M 33), .int (nI 0), .int (nI 44)]) (rest := [.ref M]) ⟨hx, hb, hml, hown, tb_nil⟩ (m_digitsOf64 l g H.size f110 ((g.lk M 33)) 0 44 hL (lo_k11_33 hL _ t_M) hI114.1 (by omega)) ⟨(callB_of 3 (tb_one (wd_1257 hB _)) tb_good1 rfl rfl rfl (wd_82 hB _) (wd_1255 hB _) (by decide +kernel) ⟨Nat.le_of_ble_eq_true rfl, Nat.le_of_ble_eq_true rfl⟩), (wd_1256 hB _)⟩ ⟨pe_bl, pe_pre hB hK hP hD⟩ rfl rfl hl.1 rfl (lv_room (Nat.le_of_ble_eq_true rfl)) d_M_work_370 ⟨Nat.le_of_ble_eq_true rfl, Nat.le_of_ble_eq_true rfl⟩) hS (fun r117 f118 H locs hq119 hP hD hS => ?_)
                        subst hq119
                        refine lv_bipush (v := nI 120) hx hb d_M_work_373 (by decide) ?_
                        refine lv_icmp_le (tgt := 382) hx hb d_M_work_375 (by decide) (fun b120 => ?_) (fun b120 => ?_)
                        · skip
                          refine lv_iconst (v := nI 0) hx hb d_M_work_382 (by decide) ?_
                          refine pf_put (v := .int (nI 0)) (ty := .int) (fs' := [.int mth, .ref (g.lk M 1), .int (nI mn), .ref (g.lk M 3), .ref (g.lk M 4), .int (nI mdr), .ref (g.lk M 6), .ref (g.lk M 7), .ref (g.lk M 8), .int (nI msz), .int (nI mix), .int (nI mdp), .ref (g.lk M 12), .int (nI mwt), .ref (g.lk M 14), .ref (g.lk M 15), .int (nI mop), .ref (g.lk M 17), .ref (g.lk M 18), .ref (g.lk M 19), .ref (g.lk M 20), .ref (g.lk M 21), .ref (g.lk M 22), .ref (g.lk M 23), .ref (g.lk M 24), .ref (g.lk M 25), .ref (g.lk M 26), .ref (g.lk M 27), .ref (g.lk M 28), .ref (g.lk M 29), .ref (g.lk M 30), .ref (g.lk M 31), .int (nI (mtp - 1)), .ref (g.lk M 33), .ref (g.lk M 34), .ref (g.lk M 35), .int (nI mwa), .int (nI mgi), .int (nI mpc), .int (nI mst), .int (nI 0), .int (nI msp), .int iv5, .int iv12, .int mdu]) (C := "BigRunnerModel") (T := FT10) (N := 45) hx hb (hw10 hB _) (fun _ h9 => h9) TY10 ok10 nm10 hown hK hP hD hS (lo_in hL t_M (by decide)) e19 rfl 40 (by decide) (wd_987 hB _) rfl (by decide +kernel) rfl rfl (Nat.le_of_ble_eq_true rfl) rfl d_M_work_383 (fun f121 H locs e122 k123 hP hD hS => ?_)
                          have eC := (k123 (g.lk M 6) (tg_ne (lo_k11_6 hL _ t_M) t_M (by decide))).trans eC
                          have eA := (k123 (g.lk M 7) (tg_ne (lo_k11_7 hL _ t_M) t_M (by decide))).trans eA
                          have e103 := (k123 (g.lk M 31) (tg_ne (lo_k11_31 hL _ t_M) t_M (by decide))).trans e103
                          have hu := hu.st k123 t_M (by decide)
                          have hk124 : ∀ b, b ≠ M → f121 b = f110 b := k123
                          refine lv_aload_n hx hb d_M_work_386 rfl (lv_at hl 4 rfl) ?_
                          refine pf_get (v := .int (nI 0)) (C := "BigRunnerModel") (T := FT10) (N := 45) hx hb (hw10 hB _) (fun _ h9 => h9) hown hK hP (lo_in hL t_M (by decide)) e122 rfl 40 (by decide) (wd_987 hB _) rfl d_M_work_387 ?_
                          refine lv_if_ne (tgt := 400) hx hb d_M_work_390 (by decide) (fun b125 => ?_) (fun b125 => ?_)
                          · skip
                            replace b125 := mt (nI_eq (a := 0) (b := 0) (by omega) (by omega)).mpr b125
                            exfalso; omega
                          · skip
                            replace b125 := (nI_eq (a := 0) (b := 0) (by omega) (by omega)).mp b125
                            refine lv_aload_n hx hb d_M_work_393 rfl (lv_at hl 4 rfl) ?_
                            refine lv_iload_n hx hb d_M_work_394 rfl (lv_at hl 2 rfl) ?_
                            refine lv_iload hx hb d_M_work_395 (lv_at hl 1 rfl) ?_
                            have hI126 := iv_1 hI114 hL t_M (by decide) hk124 (oc_11.mk t_M (⟨mth, mn, mdr, msz, mix, mdp, mwt, mop, (mtp - 1), mwa, mgi, mpc, mst, 0, msp, iv5, iv12, mdu, e122, (by omega), (by omega), (by omega), (by omega), (by omega), (by omega), (by omega), (by omega), (by omega), (by omega), (by omega), (by omega), (by omega), (by omega), hmb14⟩))
                            refine pcc_v (va_runV (C := "BigRunnerModel") (As := [.int (nI ((mtp - 1) - 1)), .int iv108]) (rest := []) ⟨hx, hb, hml, hown, tb_nil⟩ (m_keep l g H.size f121 M (((mtp - 1) - 1)) iv108 hL t_M hI126 (by omega)) ⟨(callB_of 2 (tb_one (wd_1261 hB _)) tb_good1 rfl rfl rfl (wd_82 hB _) (wd_1258 hB _) (by decide +kernel) ⟨Nat.le_of_ble_eq_true rfl, Nat.le_of_ble_eq_true rfl⟩), (wd_1260 hB _), (wd_70 hB _)⟩ ⟨pe_bl, pg_recv (ci := 10) hK hP (lo_in hL t_M (by decide)) e122 rfl, pe_pre hB hK hP hD⟩ rfl rfl hl.1 rfl (lv_room (Nat.le_of_ble_eq_true rfl)) d_M_work_397 ⟨Nat.le_of_ble_eq_true rfl, Nat.le_of_ble_eq_true rfl⟩) hS (fun f128 H locs hq129 hP hD hS => ?_)
                            obtain ⟨hI1_130, hu1_131⟩ := hq129
                            have hu := hu.tr hu1_131 (by decide)
                            have eC := hu1_131.at (lo_k11_6 hL _ t_M) (by decide) eC
                            have eA := hu1_131.at (lo_k11_7 hL _ t_M) (by decide) eA
                            have e122 := hu1_131.at t_M (by decide) e122
                            exact pe_vret hx hb hr hlocks hK hP hD hS d_M_work_400 ⟨⟨(mtp - 1), iv5, iv12, 0, by omega, by omega, (fun z9 => TR.mk (fun _ => by omega) (fun _ => by omega) (fun _ _ => by omega)), e122⟩, hI1_130, hu⟩
                        · skip
                          refine lv_iconst (v := nI 2) hx hb d_M_work_378 (by decide) ?_
                          refine lv_goto (tgt := 383) hx hb d_M_work_379 (by decide) ?_
                          refine pf_put (v := .int (nI 2)) (ty := .int) (fs' := [.int mth, .ref (g.lk M 1), .int (nI mn), .ref (g.lk M 3), .ref (g.lk M 4), .int (nI mdr), .ref (g.lk M 6), .ref (g.lk M 7), .ref (g.lk M 8), .int (nI msz), .int (nI mix), .int (nI mdp), .ref (g.lk M 12), .int (nI mwt), .ref (g.lk M 14), .ref (g.lk M 15), .int (nI mop), .ref (g.lk M 17), .ref (g.lk M 18), .ref (g.lk M 19), .ref (g.lk M 20), .ref (g.lk M 21), .ref (g.lk M 22), .ref (g.lk M 23), .ref (g.lk M 24), .ref (g.lk M 25), .ref (g.lk M 26), .ref (g.lk M 27), .ref (g.lk M 28), .ref (g.lk M 29), .ref (g.lk M 30), .ref (g.lk M 31), .int (nI (mtp - 1)), .ref (g.lk M 33), .ref (g.lk M 34), .ref (g.lk M 35), .int (nI mwa), .int (nI mgi), .int (nI mpc), .int (nI mst), .int (nI 2), .int (nI msp), .int iv5, .int iv12, .int mdu]) (C := "BigRunnerModel") (T := FT10) (N := 45) hx hb (hw10 hB _) (fun _ h9 => h9) TY10 ok10 nm10 hown hK hP hD hS (lo_in hL t_M (by decide)) e19 rfl 40 (by decide) (wd_987 hB _) rfl (by decide +kernel) rfl rfl (Nat.le_of_ble_eq_true rfl) rfl d_M_work_383 (fun f132 H locs e133 k134 hP hD hS => ?_)
                          have eC := (k134 (g.lk M 6) (tg_ne (lo_k11_6 hL _ t_M) t_M (by decide))).trans eC
                          have eA := (k134 (g.lk M 7) (tg_ne (lo_k11_7 hL _ t_M) t_M (by decide))).trans eA
                          have e103 := (k134 (g.lk M 31) (tg_ne (lo_k11_31 hL _ t_M) t_M (by decide))).trans e103
                          have hu := hu.st k134 t_M (by decide)
                          have hk135 : ∀ b, b ≠ M → f132 b = f110 b := k134
                          refine lv_aload_n hx hb d_M_work_386 rfl (lv_at hl 4 rfl) ?_
                          refine pf_get (v := .int (nI 2)) (C := "BigRunnerModel") (T := FT10) (N := 45) hx hb (hw10 hB _) (fun _ h9 => h9) hown hK hP (lo_in hL t_M (by decide)) e133 rfl 40 (by decide) (wd_987 hB _) rfl d_M_work_387 ?_
                          refine lv_if_ne (tgt := 400) hx hb d_M_work_390 (by decide) (fun b136 => ?_) (fun b136 => ?_)
                          · skip
                            replace b136 := mt (nI_eq (a := 2) (b := 0) (by omega) (by omega)).mpr b136
                            have hI137 := iv_1 hI114 hL t_M (by decide) hk135 (oc_11.mk t_M (⟨mth, mn, mdr, msz, mix, mdp, mwt, mop, (mtp - 1), mwa, mgi, mpc, mst, 2, msp, iv5, iv12, mdu, e133, (by omega), (by omega), (by omega), (by omega), (by omega), (by omega), (by omega), (by omega), (by omega), (by omega), (by omega), (by omega), (by omega), (by omega), hmb14⟩))
                            exact pe_vret hx hb hr hlocks hK hP hD hS d_M_work_400 ⟨⟨(mtp - 1), iv5, iv12, 2, by omega, by omega, (fun z9 => TR.mk (fun _ => by omega) (fun _ => by omega) (fun _ _ => by omega)), e133⟩, hI137, hu⟩
                          · skip
                            replace b136 := (nI_eq (a := 2) (b := 0) (by omega) (by omega)).mp b136
                            exfalso; omega
                      · skip
                        replace b116 := mt (nI_leI (a := 20) (b := i) (by omega) (by omega)).mpr b116
                        refine lv_iload_n hx hb d_M_work_336 rfl (lv_at hl 3 rfl) ?_
                        refine lv_bipush (v := nI 6) hx hb d_M_work_337 (by decide) ?_
                        refine lv_icmp_ne (tgt := 362) hx hb d_M_work_339 (by decide) (fun b138 => ?_) (fun b138 => ?_)
                        · skip
                          replace b138 := mt (nI_eq (a := w) (b := 6) (by omega) (by omega)).mpr b138
                          refine lv_aload_n hx hb d_M_work_362 rfl (lv_at hl 4 rfl) ?_
                          refine lv_aload_n hx hb d_M_work_363 rfl (lv_at hl 4 rfl) ?_
                          refine pf_get (v := .ref (g.lk M 33)) (C := "BigRunnerModel") (T := FT10) (N := 45) hx hb (hw10 hB _) (fun _ h9 => h9) hown hK hP (lo_in hL t_M (by decide)) e19 rfl 33 (by decide) (wd_980 hB _) rfl d_M_work_364 ?_
                          refine lv_iconst (v := nI 0) hx hb d_M_work_367 (by decide) ?_
                          refine lv_bipush (v := nI 44) hx hb d_M_work_368 (by decide) ?_
                          refine pcc_i (va_runS (As := [.ref (g.lk M 33), .int (nI 0), .int (nI 44)]) (rest := [.ref M]) ⟨hx, hb, hml, hown, tb_nil⟩ (m_digitsOf64 l g H.size f110 ((g.lk M 33)) 0 44 hL (lo_k11_33 hL _ t_M) hI114.1 (by omega)) ⟨(callB_of 3 (tb_one (wd_1257 hB _)) tb_good1 rfl rfl rfl (wd_82 hB _) (wd_1255 hB _) (by decide +kernel) ⟨Nat.le_of_ble_eq_true rfl, Nat.le_of_ble_eq_true rfl⟩), (wd_1256 hB _)⟩ ⟨pe_bl, pe_pre hB hK hP hD⟩ rfl rfl hl.1 rfl (lv_room (Nat.le_of_ble_eq_true rfl)) d_M_work_370 ⟨Nat.le_of_ble_eq_true rfl, Nat.le_of_ble_eq_true rfl⟩) hS (fun r139 f140 H locs hq141 hP hD hS => ?_)
                          subst hq141
                          refine lv_bipush (v := nI 120) hx hb d_M_work_373 (by decide) ?_
                          refine lv_icmp_le (tgt := 382) hx hb d_M_work_375 (by decide) (fun b142 => ?_) (fun b142 => ?_)
                          · skip
                            refine lv_iconst (v := nI 0) hx hb d_M_work_382 (by decide) ?_
                            refine pf_put (v := .int (nI 0)) (ty := .int) (fs' := [.int mth, .ref (g.lk M 1), .int (nI mn), .ref (g.lk M 3), .ref (g.lk M 4), .int (nI mdr), .ref (g.lk M 6), .ref (g.lk M 7), .ref (g.lk M 8), .int (nI msz), .int (nI mix), .int (nI mdp), .ref (g.lk M 12), .int (nI mwt), .ref (g.lk M 14), .ref (g.lk M 15), .int (nI mop), .ref (g.lk M 17), .ref (g.lk M 18), .ref (g.lk M 19), .ref (g.lk M 20), .ref (g.lk M 21), .ref (g.lk M 22), .ref (g.lk M 23), .ref (g.lk M 24), .ref (g.lk M 25), .ref (g.lk M 26), .ref (g.lk M 27), .ref (g.lk M 28), .ref (g.lk M 29), .ref (g.lk M 30), .ref (g.lk M 31), .int (nI (mtp - 1)), .ref (g.lk M 33), .ref (g.lk M 34), .ref (g.lk M 35), .int (nI mwa), .int (nI mgi), .int (nI mpc), .int (nI mst), .int (nI 0), .int (nI msp), .int iv5, .int iv12, .int mdu]) (C := "BigRunnerModel") (T := FT10) (N := 45) hx hb (hw10 hB _) (fun _ h9 => h9) TY10 ok10 nm10 hown hK hP hD hS (lo_in hL t_M (by decide)) e19 rfl 40 (by decide) (wd_987 hB _) rfl (by decide +kernel) rfl rfl (Nat.le_of_ble_eq_true rfl) rfl d_M_work_383 (fun f143 H locs e144 k145 hP hD hS => ?_)
                            have eC := (k145 (g.lk M 6) (tg_ne (lo_k11_6 hL _ t_M) t_M (by decide))).trans eC
                            have eA := (k145 (g.lk M 7) (tg_ne (lo_k11_7 hL _ t_M) t_M (by decide))).trans eA
                            have e103 := (k145 (g.lk M 31) (tg_ne (lo_k11_31 hL _ t_M) t_M (by decide))).trans e103
                            have hu := hu.st k145 t_M (by decide)
                            have hk146 : ∀ b, b ≠ M → f143 b = f110 b := k145
                            refine lv_aload_n hx hb d_M_work_386 rfl (lv_at hl 4 rfl) ?_
                            refine pf_get (v := .int (nI 0)) (C := "BigRunnerModel") (T := FT10) (N := 45) hx hb (hw10 hB _) (fun _ h9 => h9) hown hK hP (lo_in hL t_M (by decide)) e144 rfl 40 (by decide) (wd_987 hB _) rfl d_M_work_387 ?_
                            refine lv_if_ne (tgt := 400) hx hb d_M_work_390 (by decide) (fun b147 => ?_) (fun b147 => ?_)
                            · skip
                              replace b147 := mt (nI_eq (a := 0) (b := 0) (by omega) (by omega)).mpr b147
                              exfalso; omega
                            · skip
                              replace b147 := (nI_eq (a := 0) (b := 0) (by omega) (by omega)).mp b147
                              refine lv_aload_n hx hb d_M_work_393 rfl (lv_at hl 4 rfl) ?_
                              refine lv_iload_n hx hb d_M_work_394 rfl (lv_at hl 2 rfl) ?_
                              refine lv_iload hx hb d_M_work_395 (lv_at hl 1 rfl) ?_
                              have hI148 := iv_1 hI114 hL t_M (by decide) hk146 (oc_11.mk t_M (⟨mth, mn, mdr, msz, mix, mdp, mwt, mop, (mtp - 1), mwa, mgi, mpc, mst, 0, msp, iv5, iv12, mdu, e144, (by omega), (by omega), (by omega), (by omega), (by omega), (by omega), (by omega), (by omega), (by omega), (by omega), (by omega), (by omega), (by omega), (by omega), hmb14⟩))
                              refine pcc_v (va_runV (C := "BigRunnerModel") (As := [.int (nI ((mtp - 1) - 1)), .int iv108]) (rest := []) ⟨hx, hb, hml, hown, tb_nil⟩ (m_keep l g H.size f143 M (((mtp - 1) - 1)) iv108 hL t_M hI148 (by omega)) ⟨(callB_of 2 (tb_one (wd_1261 hB _)) tb_good1 rfl rfl rfl (wd_82 hB _) (wd_1258 hB _) (by decide +kernel) ⟨Nat.le_of_ble_eq_true rfl, Nat.le_of_ble_eq_true rfl⟩), (wd_1260 hB _), (wd_70 hB _)⟩ ⟨pe_bl, pg_recv (ci := 10) hK hP (lo_in hL t_M (by decide)) e144 rfl, pe_pre hB hK hP hD⟩ rfl rfl hl.1 rfl (lv_room (Nat.le_of_ble_eq_true rfl)) d_M_work_397 ⟨Nat.le_of_ble_eq_true rfl, Nat.le_of_ble_eq_true rfl⟩) hS (fun f150 H locs hq151 hP hD hS => ?_)
                              obtain ⟨hI1_152, hu1_153⟩ := hq151
                              have hu := hu.tr hu1_153 (by decide)
                              have eC := hu1_153.at (lo_k11_6 hL _ t_M) (by decide) eC
                              have eA := hu1_153.at (lo_k11_7 hL _ t_M) (by decide) eA
                              have e144 := hu1_153.at t_M (by decide) e144
                              exact pe_vret hx hb hr hlocks hK hP hD hS d_M_work_400 ⟨⟨(mtp - 1), iv5, iv12, 0, by omega, by omega, (fun z9 => TR.mk (fun _ => by omega) (fun _ => by omega) (fun _ _ => by omega)), e144⟩, hI1_152, hu⟩
                          · skip
                            refine lv_iconst (v := nI 2) hx hb d_M_work_378 (by decide) ?_
                            refine lv_goto (tgt := 383) hx hb d_M_work_379 (by decide) ?_
                            refine pf_put (v := .int (nI 2)) (ty := .int) (fs' := [.int mth, .ref (g.lk M 1), .int (nI mn), .ref (g.lk M 3), .ref (g.lk M 4), .int (nI mdr), .ref (g.lk M 6), .ref (g.lk M 7), .ref (g.lk M 8), .int (nI msz), .int (nI mix), .int (nI mdp), .ref (g.lk M 12), .int (nI mwt), .ref (g.lk M 14), .ref (g.lk M 15), .int (nI mop), .ref (g.lk M 17), .ref (g.lk M 18), .ref (g.lk M 19), .ref (g.lk M 20), .ref (g.lk M 21), .ref (g.lk M 22), .ref (g.lk M 23), .ref (g.lk M 24), .ref (g.lk M 25), .ref (g.lk M 26), .ref (g.lk M 27), .ref (g.lk M 28), .ref (g.lk M 29), .ref (g.lk M 30), .ref (g.lk M 31), .int (nI (mtp - 1)), .ref (g.lk M 33), .ref (g.lk M 34), .ref (g.lk M 35), .int (nI mwa), .int (nI mgi), .int (nI mpc), .int (nI mst), .int (nI 2), .int (nI msp), .int iv5, .int iv12, .int mdu]) (C := "BigRunnerModel") (T := FT10) (N := 45) hx hb (hw10 hB _) (fun _ h9 => h9) TY10 ok10 nm10 hown hK hP hD hS (lo_in hL t_M (by decide)) e19 rfl 40 (by decide) (wd_987 hB _) rfl (by decide +kernel) rfl rfl (Nat.le_of_ble_eq_true rfl) rfl d_M_work_383 (fun f154 H locs e155 k156 hP hD hS => ?_)
                            have eC := (k156 (g.lk M 6) (tg_ne (lo_k11_6 hL _ t_M) t_M (by decide))).trans eC
                            have eA := (k156 (g.lk M 7) (tg_ne (lo_k11_7 hL _ t_M) t_M (by decide))).trans eA
                            have e103 := (k156 (g.lk M 31) (tg_ne (lo_k11_31 hL _ t_M) t_M (by decide))).trans e103
                            have hu := hu.st k156 t_M (by decide)
                            have hk157 : ∀ b, b ≠ M → f154 b = f110 b := k156
                            refine lv_aload_n hx hb d_M_work_386 rfl (lv_at hl 4 rfl) ?_
                            refine pf_get (v := .int (nI 2)) (C := "BigRunnerModel") (T := FT10) (N := 45) hx hb (hw10 hB _) (fun _ h9 => h9) hown hK hP (lo_in hL t_M (by decide)) e155 rfl 40 (by decide) (wd_987 hB _) rfl d_M_work_387 ?_
                            refine lv_if_ne (tgt := 400) hx hb d_M_work_390 (by decide) (fun b158 => ?_) (fun b158 => ?_)
                            · skip
                              replace b158 := mt (nI_eq (a := 2) (b := 0) (by omega) (by omega)).mpr b158
                              have hI159 := iv_1 hI114 hL t_M (by decide) hk157 (oc_11.mk t_M (⟨mth, mn, mdr, msz, mix, mdp, mwt, mop, (mtp - 1), mwa, mgi, mpc, mst, 2, msp, iv5, iv12, mdu, e155, (by omega), (by omega), (by omega), (by omega), (by omega), (by omega), (by omega), (by omega), (by omega), (by omega), (by omega), (by omega), (by omega), (by omega), hmb14⟩))
                              exact pe_vret hx hb hr hlocks hK hP hD hS d_M_work_400 ⟨⟨(mtp - 1), iv5, iv12, 2, by omega, by omega, (fun z9 => TR.mk (fun _ => by omega) (fun _ => by omega) (fun _ _ => by omega)), e155⟩, hI159, hu⟩
                            · skip
                              replace b158 := (nI_eq (a := 2) (b := 0) (by omega) (by omega)).mp b158
                              exfalso; omega
                        · skip
                          replace b138 := (nI_eq (a := w) (b := 6) (by omega) (by omega)).mp b138
                          refine lv_aload_n hx hb d_M_work_342 rfl (lv_at hl 4 rfl) ?_
                          refine pf_get (v := .ref (g.lk M 33)) (C := "BigRunnerModel") (T := FT10) (N := 45) hx hb (hw10 hB _) (fun _ h9 => h9) hown hK hP (lo_in hL t_M (by decide)) e19 rfl 33 (by decide) (wd_980 hB _) rfl d_M_work_343 ?_
                          refine lv_iload hx hb d_M_work_346 (lv_at hl 0 rfl) ?_
                          refine lv_aload_n hx hb d_M_work_348 rfl (lv_at hl 4 rfl) ?_
                          refine pf_get (v := .ref (g.lk M 34)) (C := "BigRunnerModel") (T := FT10) (N := 45) hx hb (hw10 hB _) (fun _ h9 => h9) hown hK hP (lo_in hL t_M (by decide)) e19 rfl 34 (by decide) (wd_981 hB _) rfl d_M_work_349 ?_
                          refine lv_iload hx hb d_M_work_352 (lv_at hl 0 rfl) ?_
                          obtain ⟨h_161, e160⟩ := oc_65.of (lo_k11_34 hL _ t_M) (hI114.1 (g.lk M 34))
                          refine pf_iald (i := i) hx hb hK hP (lo_in hL (lo_k11_34 hL _ t_M) (by decide)) e160 (lo_t65 hL _ (lo_k11_34 hL _ t_M)) (by omega) (by decide) d_M_work_354 ?_
                          refine lv_topi (fun iv163 _ => ?_)
                          obtain ⟨h_165, e164⟩ := oc_64.of (lo_k11_33 hL _ t_M) (hI114.1 (g.lk M 33))
                          refine pf_iast (i := i) hx hb hK hP hD hS (lo_in hL (lo_k11_33 hL _ t_M) (by decide)) e164 (lo_t64 hL _ (lo_k11_33 hL _ t_M)) (by omega) (by decide) d_M_work_355 (fun f167 H locs e168 k169 hP hD hS => ?_)
                          have eC := (k169 (g.lk M 6) (tg_ne (lo_k11_6 hL _ t_M) (lo_k11_33 hL _ t_M) (by decide))).trans eC
                          have eA := (k169 (g.lk M 7) (tg_ne (lo_k11_7 hL _ t_M) (lo_k11_33 hL _ t_M) (by decide))).trans eA
                          have e19 := (k169 M (tg_ne t_M (lo_k11_33 hL _ t_M) (by decide))).trans e19
                          have e103 := (k169 (g.lk M 31) (tg_ne (lo_k11_31 hL _ t_M) (lo_k11_33 hL _ t_M) (by decide))).trans e103
                          have e160 := (k169 (g.lk M 34) (tg_ne (lo_k11_34 hL _ t_M) (lo_k11_33 hL _ t_M) (by decide))).trans e160
                          have hu := hu.st k169 (lo_k11_33 hL _ t_M) (by decide)
                          have hv115 := hv115.st k169 (lo_k11_33 hL _ t_M) (by decide)
                          have hk170 : ∀ b, b ≠ (g.lk M 33) → f167 b = f110 b := k169
                          refine lv_iinc (k := 0) (v := nI (i + 1)) (lv' := [(5, .int (nI (i + 1))), (4, .int iv108), (3, .int (nI ((mtp - 1) - 1))), (2, .int (nI w)), (0, .ref M), (1, .int (nI p9))]) hx hb d_M_work_356 hl rfl (by rw [nI_succ]; rfl) (by decide) rfl (fun ls hl => ?_)
                          refine lv_goto (tgt := 329) hx hb d_M_work_359 (by decide) ?_
                          have hI171 := iv_1 hI114 hL (lo_k11_33 hL _ t_M) (by decide) hk170 (oc_64.mk (lo_k11_33 hL _ t_M) (⟨_, e168⟩))
                          exact ih112 (i + 1) f167 H locs ls (by omega) (by omega) hI171 hv115 hl hP hD hS
                  exact lp109 21 0 f31 H locs ls (by omega) (by omega) hI1_33 un.rf hl hP hD hS
              · skip
                replace b29 := mt (nI_leI (a := 5) (b := w) (by omega) (by omega)).mpr b29
                refine lv_iload_n hx hb d_M_work_244 rfl (lv_at hl 2 rfl) ?_
                refine lv_iconst (v := nI 4) hx hb d_M_work_245 (by decide) ?_
                refine lv_icmp_ne (tgt := 261) hx hb d_M_work_246 (by decide) (fun b172 => ?_) (fun b172 => ?_)
                · skip
                  replace b172 := mt (nI_eq (a := w) (b := 4) (by omega) (by omega)).mpr b172
                  refine lv_aload_n hx hb d_M_work_261 rfl (lv_at hl 3 rfl) ?_
                  refine lv_iload_n hx hb d_M_work_262 rfl (lv_at hl 1 rfl) ?_
                  refine lv_aload_n hx hb d_M_work_263 rfl (lv_at hl 3 rfl) ?_
                  refine pf_get (v := .int (nI (mtp - 1))) (C := "BigRunnerModel") (T := FT10) (N := 45) hx hb (hw10 hB _) (fun _ h9 => h9) hown hK hP (lo_in hL t_M (by decide)) e19 rfl 32 (by decide) (wd_979 hB _) rfl d_M_work_264 ?_
                  refine lv_iload_n hx hb d_M_work_267 rfl (lv_at hl 2 rfl) ?_
                  refine lv_iconst (v := nI 2) hx hb d_M_work_268 (by decide) ?_
                  refine lv_icmp_ne (tgt := 276) hx hb d_M_work_269 (by decide) (fun b173 => ?_) (fun b173 => ?_)
                  · skip
                    replace b173 := mt (nI_eq (a := w) (b := 2) (by omega) (by omega)).mpr b173
                    refine lv_iconst (v := (-1)) hx hb d_M_work_276 (by decide) ?_
                    refine pcc_i (va_runV (C := "BigRunnerModel") (As := [.int (nI ((mtp - 1) - 1)), .int (nI (mtp - 1)), .int (-1)]) (rest := []) ⟨hx, hb, hml, hown, tb_nil⟩ (m_sum l g H.size f25 M (((mtp - 1) - 1)) ((mtp - 1)) ((-1)) hL t_M hI1_27 (by omega) (by omega)) ⟨(callB_of 3 (tb_one (wd_1237 hB _)) tb_good1 rfl rfl rfl (wd_82 hB _) (wd_1234 hB _) (by decide +kernel) ⟨Nat.le_of_ble_eq_true rfl, Nat.le_of_ble_eq_true rfl⟩), (wd_1236 hB _), (wd_65 hB _)⟩ ⟨pe_bl, pg_recv (ci := 10) hK hP (lo_in hL t_M (by decide)) e19 rfl, pe_pre hB hK hP hD⟩ rfl rfl hl.1 rfl (lv_room (Nat.le_of_ble_eq_true rfl)) d_M_work_277 ⟨Nat.le_of_ble_eq_true rfl, Nat.le_of_ble_eq_true rfl⟩) hS (fun r174 f175 H locs hq176 hP hD hS => ?_)
                    obtain ⟨hI1_177, hu1_178⟩ := hq176
                    have hu := hu.tr hu1_178 (by decide)
                    have eC := hu1_178.at (lo_k11_6 hL _ t_M) (by decide) eC
                    have eA := hu1_178.at (lo_k11_7 hL _ t_M) (by decide) eA
                    have e19 := hu1_178.at t_M (by decide) e19
                    refine lv_istore (lv' := [(4, .int r174), (3, .int (nI ((mtp - 1) - 1))), (2, .int (nI w)), (0, .ref M), (1, .int (nI p9))]) hx hb d_M_work_280 hl (by decide) rfl (fun ls hl => ?_)
                    refine lv_goto (tgt := 362) hx hb d_M_work_282 (by decide) ?_
                    refine lv_aload_n hx hb d_M_work_362 rfl (lv_at hl 3 rfl) ?_
                    refine lv_aload_n hx hb d_M_work_363 rfl (lv_at hl 3 rfl) ?_
                    refine pf_get (v := .ref (g.lk M 33)) (C := "BigRunnerModel") (T := FT10) (N := 45) hx hb (hw10 hB _) (fun _ h9 => h9) hown hK hP (lo_in hL t_M (by decide)) e19 rfl 33 (by decide) (wd_980 hB _) rfl d_M_work_364 ?_
                    refine lv_iconst (v := nI 0) hx hb d_M_work_367 (by decide) ?_
                    refine lv_bipush (v := nI 44) hx hb d_M_work_368 (by decide) ?_
                    refine pcc_i (va_runS (As := [.ref (g.lk M 33), .int (nI 0), .int (nI 44)]) (rest := [.ref M]) ⟨hx, hb, hml, hown, tb_nil⟩ (m_digitsOf64 l g H.size f175 ((g.lk M 33)) 0 44 hL (lo_k11_33 hL _ t_M) hI1_177.1 (by omega)) ⟨(callB_of 3 (tb_one (wd_1257 hB _)) tb_good1 rfl rfl rfl (wd_82 hB _) (wd_1255 hB _) (by decide +kernel) ⟨Nat.le_of_ble_eq_true rfl, Nat.le_of_ble_eq_true rfl⟩), (wd_1256 hB _)⟩ ⟨pe_bl, pe_pre hB hK hP hD⟩ rfl rfl hl.1 rfl (lv_room (Nat.le_of_ble_eq_true rfl)) d_M_work_370 ⟨Nat.le_of_ble_eq_true rfl, Nat.le_of_ble_eq_true rfl⟩) hS (fun r179 f180 H locs hq181 hP hD hS => ?_)
                    subst hq181
                    refine lv_bipush (v := nI 120) hx hb d_M_work_373 (by decide) ?_
                    refine lv_icmp_le (tgt := 382) hx hb d_M_work_375 (by decide) (fun b182 => ?_) (fun b182 => ?_)
                    · skip
                      refine lv_iconst (v := nI 0) hx hb d_M_work_382 (by decide) ?_
                      refine pf_put (v := .int (nI 0)) (ty := .int) (fs' := [.int mth, .ref (g.lk M 1), .int (nI mn), .ref (g.lk M 3), .ref (g.lk M 4), .int (nI mdr), .ref (g.lk M 6), .ref (g.lk M 7), .ref (g.lk M 8), .int (nI msz), .int (nI mix), .int (nI mdp), .ref (g.lk M 12), .int (nI mwt), .ref (g.lk M 14), .ref (g.lk M 15), .int (nI mop), .ref (g.lk M 17), .ref (g.lk M 18), .ref (g.lk M 19), .ref (g.lk M 20), .ref (g.lk M 21), .ref (g.lk M 22), .ref (g.lk M 23), .ref (g.lk M 24), .ref (g.lk M 25), .ref (g.lk M 26), .ref (g.lk M 27), .ref (g.lk M 28), .ref (g.lk M 29), .ref (g.lk M 30), .ref (g.lk M 31), .int (nI (mtp - 1)), .ref (g.lk M 33), .ref (g.lk M 34), .ref (g.lk M 35), .int (nI mwa), .int (nI mgi), .int (nI mpc), .int (nI mst), .int (nI 0), .int (nI msp), .int iv5, .int iv12, .int mdu]) (C := "BigRunnerModel") (T := FT10) (N := 45) hx hb (hw10 hB _) (fun _ h9 => h9) TY10 ok10 nm10 hown hK hP hD hS (lo_in hL t_M (by decide)) e19 rfl 40 (by decide) (wd_987 hB _) rfl (by decide +kernel) rfl rfl (Nat.le_of_ble_eq_true rfl) rfl d_M_work_383 (fun f183 H locs e184 k185 hP hD hS => ?_)
                      have eC := (k185 (g.lk M 6) (tg_ne (lo_k11_6 hL _ t_M) t_M (by decide))).trans eC
                      have eA := (k185 (g.lk M 7) (tg_ne (lo_k11_7 hL _ t_M) t_M (by decide))).trans eA
                      have hu := hu.st k185 t_M (by decide)
                      have hk186 : ∀ b, b ≠ M → f183 b = f175 b := k185
                      refine lv_aload_n hx hb d_M_work_386 rfl (lv_at hl 3 rfl) ?_
                      refine pf_get (v := .int (nI 0)) (C := "BigRunnerModel") (T := FT10) (N := 45) hx hb (hw10 hB _) (fun _ h9 => h9) hown hK hP (lo_in hL t_M (by decide)) e184 rfl 40 (by decide) (wd_987 hB _) rfl d_M_work_387 ?_
                      refine lv_if_ne (tgt := 400) hx hb d_M_work_390 (by decide) (fun b187 => ?_) (fun b187 => ?_)
                      · skip
                        replace b187 := mt (nI_eq (a := 0) (b := 0) (by omega) (by omega)).mpr b187
                        exfalso; omega
                      · skip
                        replace b187 := (nI_eq (a := 0) (b := 0) (by omega) (by omega)).mp b187
                        refine lv_aload_n hx hb d_M_work_393 rfl (lv_at hl 3 rfl) ?_
                        refine lv_iload_n hx hb d_M_work_394 rfl (lv_at hl 1 rfl) ?_
                        refine lv_iload hx hb d_M_work_395 (lv_at hl 0 rfl) ?_
                        have hI188 := iv_1 hI1_177 hL t_M (by decide) hk186 (oc_11.mk t_M (⟨mth, mn, mdr, msz, mix, mdp, mwt, mop, (mtp - 1), mwa, mgi, mpc, mst, 0, msp, iv5, iv12, mdu, e184, (by omega), (by omega), (by omega), (by omega), (by omega), (by omega), (by omega), (by omega), (by omega), (by omega), (by omega), (by omega), (by omega), (by omega), hmb14⟩))
                        refine pcc_v (va_runV (C := "BigRunnerModel") (As := [.int (nI ((mtp - 1) - 1)), .int r174]) (rest := []) ⟨hx, hb, hml, hown, tb_nil⟩ (m_keep l g H.size f183 M (((mtp - 1) - 1)) r174 hL t_M hI188 (by omega)) ⟨(callB_of 2 (tb_one (wd_1261 hB _)) tb_good1 rfl rfl rfl (wd_82 hB _) (wd_1258 hB _) (by decide +kernel) ⟨Nat.le_of_ble_eq_true rfl, Nat.le_of_ble_eq_true rfl⟩), (wd_1260 hB _), (wd_70 hB _)⟩ ⟨pe_bl, pg_recv (ci := 10) hK hP (lo_in hL t_M (by decide)) e184 rfl, pe_pre hB hK hP hD⟩ rfl rfl hl.1 rfl (lv_room (Nat.le_of_ble_eq_true rfl)) d_M_work_397 ⟨Nat.le_of_ble_eq_true rfl, Nat.le_of_ble_eq_true rfl⟩) hS (fun f190 H locs hq191 hP hD hS => ?_)
                        obtain ⟨hI1_192, hu1_193⟩ := hq191
                        have hu := hu.tr hu1_193 (by decide)
                        have eC := hu1_193.at (lo_k11_6 hL _ t_M) (by decide) eC
                        have eA := hu1_193.at (lo_k11_7 hL _ t_M) (by decide) eA
                        have e184 := hu1_193.at t_M (by decide) e184
                        exact pe_vret hx hb hr hlocks hK hP hD hS d_M_work_400 ⟨⟨(mtp - 1), iv5, iv12, 0, by omega, by omega, (fun z9 => TR.mk (fun _ => by omega) (fun _ => by omega) (fun _ _ => by omega)), e184⟩, hI1_192, hu⟩
                    · skip
                      refine lv_iconst (v := nI 2) hx hb d_M_work_378 (by decide) ?_
                      refine lv_goto (tgt := 383) hx hb d_M_work_379 (by decide) ?_
                      refine pf_put (v := .int (nI 2)) (ty := .int) (fs' := [.int mth, .ref (g.lk M 1), .int (nI mn), .ref (g.lk M 3), .ref (g.lk M 4), .int (nI mdr), .ref (g.lk M 6), .ref (g.lk M 7), .ref (g.lk M 8), .int (nI msz), .int (nI mix), .int (nI mdp), .ref (g.lk M 12), .int (nI mwt), .ref (g.lk M 14), .ref (g.lk M 15), .int (nI mop), .ref (g.lk M 17), .ref (g.lk M 18), .ref (g.lk M 19), .ref (g.lk M 20), .ref (g.lk M 21), .ref (g.lk M 22), .ref (g.lk M 23), .ref (g.lk M 24), .ref (g.lk M 25), .ref (g.lk M 26), .ref (g.lk M 27), .ref (g.lk M 28), .ref (g.lk M 29), .ref (g.lk M 30), .ref (g.lk M 31), .int (nI (mtp - 1)), .ref (g.lk M 33), .ref (g.lk M 34), .ref (g.lk M 35), .int (nI mwa), .int (nI mgi), .int (nI mpc), .int (nI mst), .int (nI 2), .int (nI msp), .int iv5, .int iv12, .int mdu]) (C := "BigRunnerModel") (T := FT10) (N := 45) hx hb (hw10 hB _) (fun _ h9 => h9) TY10 ok10 nm10 hown hK hP hD hS (lo_in hL t_M (by decide)) e19 rfl 40 (by decide) (wd_987 hB _) rfl (by decide +kernel) rfl rfl (Nat.le_of_ble_eq_true rfl) rfl d_M_work_383 (fun f194 H locs e195 k196 hP hD hS => ?_)
                      have eC := (k196 (g.lk M 6) (tg_ne (lo_k11_6 hL _ t_M) t_M (by decide))).trans eC
                      have eA := (k196 (g.lk M 7) (tg_ne (lo_k11_7 hL _ t_M) t_M (by decide))).trans eA
                      have hu := hu.st k196 t_M (by decide)
                      have hk197 : ∀ b, b ≠ M → f194 b = f175 b := k196
                      refine lv_aload_n hx hb d_M_work_386 rfl (lv_at hl 3 rfl) ?_
                      refine pf_get (v := .int (nI 2)) (C := "BigRunnerModel") (T := FT10) (N := 45) hx hb (hw10 hB _) (fun _ h9 => h9) hown hK hP (lo_in hL t_M (by decide)) e195 rfl 40 (by decide) (wd_987 hB _) rfl d_M_work_387 ?_
                      refine lv_if_ne (tgt := 400) hx hb d_M_work_390 (by decide) (fun b198 => ?_) (fun b198 => ?_)
                      · skip
                        replace b198 := mt (nI_eq (a := 2) (b := 0) (by omega) (by omega)).mpr b198
                        have hI199 := iv_1 hI1_177 hL t_M (by decide) hk197 (oc_11.mk t_M (⟨mth, mn, mdr, msz, mix, mdp, mwt, mop, (mtp - 1), mwa, mgi, mpc, mst, 2, msp, iv5, iv12, mdu, e195, (by omega), (by omega), (by omega), (by omega), (by omega), (by omega), (by omega), (by omega), (by omega), (by omega), (by omega), (by omega), (by omega), (by omega), hmb14⟩))
                        exact pe_vret hx hb hr hlocks hK hP hD hS d_M_work_400 ⟨⟨(mtp - 1), iv5, iv12, 2, by omega, by omega, (fun z9 => TR.mk (fun _ => by omega) (fun _ => by omega) (fun _ _ => by omega)), e195⟩, hI199, hu⟩
                      · skip
                        replace b198 := (nI_eq (a := 2) (b := 0) (by omega) (by omega)).mp b198
                        exfalso; omega
                  · skip
                    replace b173 := (nI_eq (a := w) (b := 2) (by omega) (by omega)).mp b173
                    refine lv_iconst (v := nI 1) hx hb d_M_work_272 (by decide) ?_
                    refine lv_goto (tgt := 277) hx hb d_M_work_273 (by decide) ?_
                    refine pcc_i (va_runV (C := "BigRunnerModel") (As := [.int (nI ((mtp - 1) - 1)), .int (nI (mtp - 1)), .int (nI 1)]) (rest := []) ⟨hx, hb, hml, hown, tb_nil⟩ (m_sum l g H.size f25 M (((mtp - 1) - 1)) ((mtp - 1)) ((nI 1)) hL t_M hI1_27 (by omega) (by omega)) ⟨(callB_of 3 (tb_one (wd_1237 hB _)) tb_good1 rfl rfl rfl (wd_82 hB _) (wd_1234 hB _) (by decide +kernel) ⟨Nat.le_of_ble_eq_true rfl, Nat.le_of_ble_eq_true rfl⟩), (wd_1236 hB _), (wd_65 hB _)⟩ ⟨pe_bl, pg_recv (ci := 10) hK hP (lo_in hL t_M (by decide)) e19 rfl, pe_pre hB hK hP hD⟩ rfl rfl hl.1 rfl (lv_room (Nat.le_of_ble_eq_true rfl)) d_M_work_277 ⟨Nat.le_of_ble_eq_true rfl, Nat.le_of_ble_eq_true rfl⟩) hS (fun r200 f201 H locs hq202 hP hD hS => ?_)
                    obtain ⟨hI1_203, hu1_204⟩ := hq202
                    have hu := hu.tr hu1_204 (by decide)
                    have eC := hu1_204.at (lo_k11_6 hL _ t_M) (by decide) eC
                    have eA := hu1_204.at (lo_k11_7 hL _ t_M) (by decide) eA
                    have e19 := hu1_204.at t_M (by decide) e19
                    refine lv_istore (lv' := [(4, .int r200), (3, .int (nI ((mtp - 1) - 1))), (2, .int (nI w)), (0, .ref M), (1, .int (nI p9))]) hx hb d_M_work_280 hl (by decide) rfl (fun ls hl => ?_)
                    refine lv_goto (tgt := 362) hx hb d_M_work_282 (by decide) ?_
                    refine lv_aload_n hx hb d_M_work_362 rfl (lv_at hl 3 rfl) ?_
                    refine lv_aload_n hx hb d_M_work_363 rfl (lv_at hl 3 rfl) ?_
                    refine pf_get (v := .ref (g.lk M 33)) (C := "BigRunnerModel") (T := FT10) (N := 45) hx hb (hw10 hB _) (fun _ h9 => h9) hown hK hP (lo_in hL t_M (by decide)) e19 rfl 33 (by decide) (wd_980 hB _) rfl d_M_work_364 ?_
                    refine lv_iconst (v := nI 0) hx hb d_M_work_367 (by decide) ?_
                    refine lv_bipush (v := nI 44) hx hb d_M_work_368 (by decide) ?_
                    refine pcc_i (va_runS (As := [.ref (g.lk M 33), .int (nI 0), .int (nI 44)]) (rest := [.ref M]) ⟨hx, hb, hml, hown, tb_nil⟩ (m_digitsOf64 l g H.size f201 ((g.lk M 33)) 0 44 hL (lo_k11_33 hL _ t_M) hI1_203.1 (by omega)) ⟨(callB_of 3 (tb_one (wd_1257 hB _)) tb_good1 rfl rfl rfl (wd_82 hB _) (wd_1255 hB _) (by decide +kernel) ⟨Nat.le_of_ble_eq_true rfl, Nat.le_of_ble_eq_true rfl⟩), (wd_1256 hB _)⟩ ⟨pe_bl, pe_pre hB hK hP hD⟩ rfl rfl hl.1 rfl (lv_room (Nat.le_of_ble_eq_true rfl)) d_M_work_370 ⟨Nat.le_of_ble_eq_true rfl, Nat.le_of_ble_eq_true rfl⟩) hS (fun r205 f206 H locs hq207 hP hD hS => ?_)
                    subst hq207
                    refine lv_bipush (v := nI 120) hx hb d_M_work_373 (by decide) ?_
                    refine lv_icmp_le (tgt := 382) hx hb d_M_work_375 (by decide) (fun b208 => ?_) (fun b208 => ?_)
                    · skip
                      refine lv_iconst (v := nI 0) hx hb d_M_work_382 (by decide) ?_
                      refine pf_put (v := .int (nI 0)) (ty := .int) (fs' := [.int mth, .ref (g.lk M 1), .int (nI mn), .ref (g.lk M 3), .ref (g.lk M 4), .int (nI mdr), .ref (g.lk M 6), .ref (g.lk M 7), .ref (g.lk M 8), .int (nI msz), .int (nI mix), .int (nI mdp), .ref (g.lk M 12), .int (nI mwt), .ref (g.lk M 14), .ref (g.lk M 15), .int (nI mop), .ref (g.lk M 17), .ref (g.lk M 18), .ref (g.lk M 19), .ref (g.lk M 20), .ref (g.lk M 21), .ref (g.lk M 22), .ref (g.lk M 23), .ref (g.lk M 24), .ref (g.lk M 25), .ref (g.lk M 26), .ref (g.lk M 27), .ref (g.lk M 28), .ref (g.lk M 29), .ref (g.lk M 30), .ref (g.lk M 31), .int (nI (mtp - 1)), .ref (g.lk M 33), .ref (g.lk M 34), .ref (g.lk M 35), .int (nI mwa), .int (nI mgi), .int (nI mpc), .int (nI mst), .int (nI 0), .int (nI msp), .int iv5, .int iv12, .int mdu]) (C := "BigRunnerModel") (T := FT10) (N := 45) hx hb (hw10 hB _) (fun _ h9 => h9) TY10 ok10 nm10 hown hK hP hD hS (lo_in hL t_M (by decide)) e19 rfl 40 (by decide) (wd_987 hB _) rfl (by decide +kernel) rfl rfl (Nat.le_of_ble_eq_true rfl) rfl d_M_work_383 (fun f209 H locs e210 k211 hP hD hS => ?_)
                      have eC := (k211 (g.lk M 6) (tg_ne (lo_k11_6 hL _ t_M) t_M (by decide))).trans eC
                      have eA := (k211 (g.lk M 7) (tg_ne (lo_k11_7 hL _ t_M) t_M (by decide))).trans eA
                      have hu := hu.st k211 t_M (by decide)
                      have hk212 : ∀ b, b ≠ M → f209 b = f201 b := k211
                      refine lv_aload_n hx hb d_M_work_386 rfl (lv_at hl 3 rfl) ?_
                      refine pf_get (v := .int (nI 0)) (C := "BigRunnerModel") (T := FT10) (N := 45) hx hb (hw10 hB _) (fun _ h9 => h9) hown hK hP (lo_in hL t_M (by decide)) e210 rfl 40 (by decide) (wd_987 hB _) rfl d_M_work_387 ?_
                      refine lv_if_ne (tgt := 400) hx hb d_M_work_390 (by decide) (fun b213 => ?_) (fun b213 => ?_)
                      · skip
                        replace b213 := mt (nI_eq (a := 0) (b := 0) (by omega) (by omega)).mpr b213
                        exfalso; omega
                      · skip
                        replace b213 := (nI_eq (a := 0) (b := 0) (by omega) (by omega)).mp b213
                        refine lv_aload_n hx hb d_M_work_393 rfl (lv_at hl 3 rfl) ?_
                        refine lv_iload_n hx hb d_M_work_394 rfl (lv_at hl 1 rfl) ?_
                        refine lv_iload hx hb d_M_work_395 (lv_at hl 0 rfl) ?_
                        have hI214 := iv_1 hI1_203 hL t_M (by decide) hk212 (oc_11.mk t_M (⟨mth, mn, mdr, msz, mix, mdp, mwt, mop, (mtp - 1), mwa, mgi, mpc, mst, 0, msp, iv5, iv12, mdu, e210, (by omega), (by omega), (by omega), (by omega), (by omega), (by omega), (by omega), (by omega), (by omega), (by omega), (by omega), (by omega), (by omega), (by omega), hmb14⟩))
                        refine pcc_v (va_runV (C := "BigRunnerModel") (As := [.int (nI ((mtp - 1) - 1)), .int r200]) (rest := []) ⟨hx, hb, hml, hown, tb_nil⟩ (m_keep l g H.size f209 M (((mtp - 1) - 1)) r200 hL t_M hI214 (by omega)) ⟨(callB_of 2 (tb_one (wd_1261 hB _)) tb_good1 rfl rfl rfl (wd_82 hB _) (wd_1258 hB _) (by decide +kernel) ⟨Nat.le_of_ble_eq_true rfl, Nat.le_of_ble_eq_true rfl⟩), (wd_1260 hB _), (wd_70 hB _)⟩ ⟨pe_bl, pg_recv (ci := 10) hK hP (lo_in hL t_M (by decide)) e210 rfl, pe_pre hB hK hP hD⟩ rfl rfl hl.1 rfl (lv_room (Nat.le_of_ble_eq_true rfl)) d_M_work_397 ⟨Nat.le_of_ble_eq_true rfl, Nat.le_of_ble_eq_true rfl⟩) hS (fun f216 H locs hq217 hP hD hS => ?_)
                        obtain ⟨hI1_218, hu1_219⟩ := hq217
                        have hu := hu.tr hu1_219 (by decide)
                        have eC := hu1_219.at (lo_k11_6 hL _ t_M) (by decide) eC
                        have eA := hu1_219.at (lo_k11_7 hL _ t_M) (by decide) eA
                        have e210 := hu1_219.at t_M (by decide) e210
                        exact pe_vret hx hb hr hlocks hK hP hD hS d_M_work_400 ⟨⟨(mtp - 1), iv5, iv12, 0, by omega, by omega, (fun z9 => TR.mk (fun _ => by omega) (fun _ => by omega) (fun _ _ => by omega)), e210⟩, hI1_218, hu⟩
                    · skip
                      refine lv_iconst (v := nI 2) hx hb d_M_work_378 (by decide) ?_
                      refine lv_goto (tgt := 383) hx hb d_M_work_379 (by decide) ?_
                      refine pf_put (v := .int (nI 2)) (ty := .int) (fs' := [.int mth, .ref (g.lk M 1), .int (nI mn), .ref (g.lk M 3), .ref (g.lk M 4), .int (nI mdr), .ref (g.lk M 6), .ref (g.lk M 7), .ref (g.lk M 8), .int (nI msz), .int (nI mix), .int (nI mdp), .ref (g.lk M 12), .int (nI mwt), .ref (g.lk M 14), .ref (g.lk M 15), .int (nI mop), .ref (g.lk M 17), .ref (g.lk M 18), .ref (g.lk M 19), .ref (g.lk M 20), .ref (g.lk M 21), .ref (g.lk M 22), .ref (g.lk M 23), .ref (g.lk M 24), .ref (g.lk M 25), .ref (g.lk M 26), .ref (g.lk M 27), .ref (g.lk M 28), .ref (g.lk M 29), .ref (g.lk M 30), .ref (g.lk M 31), .int (nI (mtp - 1)), .ref (g.lk M 33), .ref (g.lk M 34), .ref (g.lk M 35), .int (nI mwa), .int (nI mgi), .int (nI mpc), .int (nI mst), .int (nI 2), .int (nI msp), .int iv5, .int iv12, .int mdu]) (C := "BigRunnerModel") (T := FT10) (N := 45) hx hb (hw10 hB _) (fun _ h9 => h9) TY10 ok10 nm10 hown hK hP hD hS (lo_in hL t_M (by decide)) e19 rfl 40 (by decide) (wd_987 hB _) rfl (by decide +kernel) rfl rfl (Nat.le_of_ble_eq_true rfl) rfl d_M_work_383 (fun f220 H locs e221 k222 hP hD hS => ?_)
                      have eC := (k222 (g.lk M 6) (tg_ne (lo_k11_6 hL _ t_M) t_M (by decide))).trans eC
                      have eA := (k222 (g.lk M 7) (tg_ne (lo_k11_7 hL _ t_M) t_M (by decide))).trans eA
                      have hu := hu.st k222 t_M (by decide)
                      have hk223 : ∀ b, b ≠ M → f220 b = f201 b := k222
                      refine lv_aload_n hx hb d_M_work_386 rfl (lv_at hl 3 rfl) ?_
                      refine pf_get (v := .int (nI 2)) (C := "BigRunnerModel") (T := FT10) (N := 45) hx hb (hw10 hB _) (fun _ h9 => h9) hown hK hP (lo_in hL t_M (by decide)) e221 rfl 40 (by decide) (wd_987 hB _) rfl d_M_work_387 ?_
                      refine lv_if_ne (tgt := 400) hx hb d_M_work_390 (by decide) (fun b224 => ?_) (fun b224 => ?_)
                      · skip
                        replace b224 := mt (nI_eq (a := 2) (b := 0) (by omega) (by omega)).mpr b224
                        have hI225 := iv_1 hI1_203 hL t_M (by decide) hk223 (oc_11.mk t_M (⟨mth, mn, mdr, msz, mix, mdp, mwt, mop, (mtp - 1), mwa, mgi, mpc, mst, 2, msp, iv5, iv12, mdu, e221, (by omega), (by omega), (by omega), (by omega), (by omega), (by omega), (by omega), (by omega), (by omega), (by omega), (by omega), (by omega), (by omega), (by omega), hmb14⟩))
                        exact pe_vret hx hb hr hlocks hK hP hD hS d_M_work_400 ⟨⟨(mtp - 1), iv5, iv12, 2, by omega, by omega, (fun z9 => TR.mk (fun _ => by omega) (fun _ => by omega) (fun _ _ => by omega)), e221⟩, hI225, hu⟩
                      · skip
                        replace b224 := (nI_eq (a := 2) (b := 0) (by omega) (by omega)).mp b224
                        exfalso; omega
                · skip
                  replace b172 := (nI_eq (a := w) (b := 4) (by omega) (by omega)).mp b172
                  refine lv_aload_n hx hb d_M_work_249 rfl (lv_at hl 3 rfl) ?_
                  refine lv_iload_n hx hb d_M_work_250 rfl (lv_at hl 1 rfl) ?_
                  refine lv_aload_n hx hb d_M_work_251 rfl (lv_at hl 3 rfl) ?_
                  refine pf_get (v := .int (nI (mtp - 1))) (C := "BigRunnerModel") (T := FT10) (N := 45) hx hb (hw10 hB _) (fun _ h9 => h9) hown hK hP (lo_in hL t_M (by decide)) e19 rfl 32 (by decide) (wd_979 hB _) rfl d_M_work_252 ?_
                  refine pcc_i (va_runV (C := "BigRunnerModel") (As := [.int (nI ((mtp - 1) - 1)), .int (nI (mtp - 1))]) (rest := []) ⟨hx, hb, hml, hown, tb_nil⟩ (m_product l g H.size f25 M (((mtp - 1) - 1)) ((mtp - 1)) hL t_M hI1_27 (by omega) (by omega)) ⟨(callB_of 2 (tb_one (wd_1228 hB _)) tb_good1 rfl rfl rfl (wd_82 hB _) (wd_1225 hB _) (by decide +kernel) ⟨Nat.le_of_ble_eq_true rfl, Nat.le_of_ble_eq_true rfl⟩), (wd_1227 hB _), (wd_63 hB _)⟩ ⟨pe_bl, pg_recv (ci := 10) hK hP (lo_in hL t_M (by decide)) e19 rfl, pe_pre hB hK hP hD⟩ rfl rfl hl.1 rfl (lv_room (Nat.le_of_ble_eq_true rfl)) d_M_work_255 ⟨Nat.le_of_ble_eq_true rfl, Nat.le_of_ble_eq_true rfl⟩) hS (fun r226 f227 H locs hq228 hP hD hS => ?_)
                  obtain ⟨hI1_229, hu1_230⟩ := hq228
                  have hu := hu.tr hu1_230 (by decide)
                  have eC := hu1_230.at (lo_k11_6 hL _ t_M) (by decide) eC
                  have eA := hu1_230.at (lo_k11_7 hL _ t_M) (by decide) eA
                  have e19 := hu1_230.at t_M (by decide) e19
                  refine lv_goto (tgt := 280) hx hb d_M_work_258 (by decide) ?_
                  refine lv_istore (lv' := [(4, .int r226), (3, .int (nI ((mtp - 1) - 1))), (2, .int (nI w)), (0, .ref M), (1, .int (nI p9))]) hx hb d_M_work_280 hl (by decide) rfl (fun ls hl => ?_)
                  refine lv_goto (tgt := 362) hx hb d_M_work_282 (by decide) ?_
                  refine lv_aload_n hx hb d_M_work_362 rfl (lv_at hl 3 rfl) ?_
                  refine lv_aload_n hx hb d_M_work_363 rfl (lv_at hl 3 rfl) ?_
                  refine pf_get (v := .ref (g.lk M 33)) (C := "BigRunnerModel") (T := FT10) (N := 45) hx hb (hw10 hB _) (fun _ h9 => h9) hown hK hP (lo_in hL t_M (by decide)) e19 rfl 33 (by decide) (wd_980 hB _) rfl d_M_work_364 ?_
                  refine lv_iconst (v := nI 0) hx hb d_M_work_367 (by decide) ?_
                  refine lv_bipush (v := nI 44) hx hb d_M_work_368 (by decide) ?_
                  refine pcc_i (va_runS (As := [.ref (g.lk M 33), .int (nI 0), .int (nI 44)]) (rest := [.ref M]) ⟨hx, hb, hml, hown, tb_nil⟩ (m_digitsOf64 l g H.size f227 ((g.lk M 33)) 0 44 hL (lo_k11_33 hL _ t_M) hI1_229.1 (by omega)) ⟨(callB_of 3 (tb_one (wd_1257 hB _)) tb_good1 rfl rfl rfl (wd_82 hB _) (wd_1255 hB _) (by decide +kernel) ⟨Nat.le_of_ble_eq_true rfl, Nat.le_of_ble_eq_true rfl⟩), (wd_1256 hB _)⟩ ⟨pe_bl, pe_pre hB hK hP hD⟩ rfl rfl hl.1 rfl (lv_room (Nat.le_of_ble_eq_true rfl)) d_M_work_370 ⟨Nat.le_of_ble_eq_true rfl, Nat.le_of_ble_eq_true rfl⟩) hS (fun r231 f232 H locs hq233 hP hD hS => ?_)
                  subst hq233
                  refine lv_bipush (v := nI 120) hx hb d_M_work_373 (by decide) ?_
                  refine lv_icmp_le (tgt := 382) hx hb d_M_work_375 (by decide) (fun b234 => ?_) (fun b234 => ?_)
                  · skip
                    refine lv_iconst (v := nI 0) hx hb d_M_work_382 (by decide) ?_
                    refine pf_put (v := .int (nI 0)) (ty := .int) (fs' := [.int mth, .ref (g.lk M 1), .int (nI mn), .ref (g.lk M 3), .ref (g.lk M 4), .int (nI mdr), .ref (g.lk M 6), .ref (g.lk M 7), .ref (g.lk M 8), .int (nI msz), .int (nI mix), .int (nI mdp), .ref (g.lk M 12), .int (nI mwt), .ref (g.lk M 14), .ref (g.lk M 15), .int (nI mop), .ref (g.lk M 17), .ref (g.lk M 18), .ref (g.lk M 19), .ref (g.lk M 20), .ref (g.lk M 21), .ref (g.lk M 22), .ref (g.lk M 23), .ref (g.lk M 24), .ref (g.lk M 25), .ref (g.lk M 26), .ref (g.lk M 27), .ref (g.lk M 28), .ref (g.lk M 29), .ref (g.lk M 30), .ref (g.lk M 31), .int (nI (mtp - 1)), .ref (g.lk M 33), .ref (g.lk M 34), .ref (g.lk M 35), .int (nI mwa), .int (nI mgi), .int (nI mpc), .int (nI mst), .int (nI 0), .int (nI msp), .int iv5, .int iv12, .int mdu]) (C := "BigRunnerModel") (T := FT10) (N := 45) hx hb (hw10 hB _) (fun _ h9 => h9) TY10 ok10 nm10 hown hK hP hD hS (lo_in hL t_M (by decide)) e19 rfl 40 (by decide) (wd_987 hB _) rfl (by decide +kernel) rfl rfl (Nat.le_of_ble_eq_true rfl) rfl d_M_work_383 (fun f235 H locs e236 k237 hP hD hS => ?_)
                    have eC := (k237 (g.lk M 6) (tg_ne (lo_k11_6 hL _ t_M) t_M (by decide))).trans eC
                    have eA := (k237 (g.lk M 7) (tg_ne (lo_k11_7 hL _ t_M) t_M (by decide))).trans eA
                    have hu := hu.st k237 t_M (by decide)
                    have hk238 : ∀ b, b ≠ M → f235 b = f227 b := k237
                    refine lv_aload_n hx hb d_M_work_386 rfl (lv_at hl 3 rfl) ?_
                    refine pf_get (v := .int (nI 0)) (C := "BigRunnerModel") (T := FT10) (N := 45) hx hb (hw10 hB _) (fun _ h9 => h9) hown hK hP (lo_in hL t_M (by decide)) e236 rfl 40 (by decide) (wd_987 hB _) rfl d_M_work_387 ?_
                    refine lv_if_ne (tgt := 400) hx hb d_M_work_390 (by decide) (fun b239 => ?_) (fun b239 => ?_)
                    · skip
                      replace b239 := mt (nI_eq (a := 0) (b := 0) (by omega) (by omega)).mpr b239
                      exfalso; omega
                    · skip
                      replace b239 := (nI_eq (a := 0) (b := 0) (by omega) (by omega)).mp b239
                      refine lv_aload_n hx hb d_M_work_393 rfl (lv_at hl 3 rfl) ?_
                      refine lv_iload_n hx hb d_M_work_394 rfl (lv_at hl 1 rfl) ?_
                      refine lv_iload hx hb d_M_work_395 (lv_at hl 0 rfl) ?_
                      have hI240 := iv_1 hI1_229 hL t_M (by decide) hk238 (oc_11.mk t_M (⟨mth, mn, mdr, msz, mix, mdp, mwt, mop, (mtp - 1), mwa, mgi, mpc, mst, 0, msp, iv5, iv12, mdu, e236, (by omega), (by omega), (by omega), (by omega), (by omega), (by omega), (by omega), (by omega), (by omega), (by omega), (by omega), (by omega), (by omega), (by omega), hmb14⟩))
                      refine pcc_v (va_runV (C := "BigRunnerModel") (As := [.int (nI ((mtp - 1) - 1)), .int r226]) (rest := []) ⟨hx, hb, hml, hown, tb_nil⟩ (m_keep l g H.size f235 M (((mtp - 1) - 1)) r226 hL t_M hI240 (by omega)) ⟨(callB_of 2 (tb_one (wd_1261 hB _)) tb_good1 rfl rfl rfl (wd_82 hB _) (wd_1258 hB _) (by decide +kernel) ⟨Nat.le_of_ble_eq_true rfl, Nat.le_of_ble_eq_true rfl⟩), (wd_1260 hB _), (wd_70 hB _)⟩ ⟨pe_bl, pg_recv (ci := 10) hK hP (lo_in hL t_M (by decide)) e236 rfl, pe_pre hB hK hP hD⟩ rfl rfl hl.1 rfl (lv_room (Nat.le_of_ble_eq_true rfl)) d_M_work_397 ⟨Nat.le_of_ble_eq_true rfl, Nat.le_of_ble_eq_true rfl⟩) hS (fun f242 H locs hq243 hP hD hS => ?_)
                      obtain ⟨hI1_244, hu1_245⟩ := hq243
                      have hu := hu.tr hu1_245 (by decide)
                      have eC := hu1_245.at (lo_k11_6 hL _ t_M) (by decide) eC
                      have eA := hu1_245.at (lo_k11_7 hL _ t_M) (by decide) eA
                      have e236 := hu1_245.at t_M (by decide) e236
                      exact pe_vret hx hb hr hlocks hK hP hD hS d_M_work_400 ⟨⟨(mtp - 1), iv5, iv12, 0, by omega, by omega, (fun z9 => TR.mk (fun _ => by omega) (fun _ => by omega) (fun _ _ => by omega)), e236⟩, hI1_244, hu⟩
                  · skip
                    refine lv_iconst (v := nI 2) hx hb d_M_work_378 (by decide) ?_
                    refine lv_goto (tgt := 383) hx hb d_M_work_379 (by decide) ?_
                    refine pf_put (v := .int (nI 2)) (ty := .int) (fs' := [.int mth, .ref (g.lk M 1), .int (nI mn), .ref (g.lk M 3), .ref (g.lk M 4), .int (nI mdr), .ref (g.lk M 6), .ref (g.lk M 7), .ref (g.lk M 8), .int (nI msz), .int (nI mix), .int (nI mdp), .ref (g.lk M 12), .int (nI mwt), .ref (g.lk M 14), .ref (g.lk M 15), .int (nI mop), .ref (g.lk M 17), .ref (g.lk M 18), .ref (g.lk M 19), .ref (g.lk M 20), .ref (g.lk M 21), .ref (g.lk M 22), .ref (g.lk M 23), .ref (g.lk M 24), .ref (g.lk M 25), .ref (g.lk M 26), .ref (g.lk M 27), .ref (g.lk M 28), .ref (g.lk M 29), .ref (g.lk M 30), .ref (g.lk M 31), .int (nI (mtp - 1)), .ref (g.lk M 33), .ref (g.lk M 34), .ref (g.lk M 35), .int (nI mwa), .int (nI mgi), .int (nI mpc), .int (nI mst), .int (nI 2), .int (nI msp), .int iv5, .int iv12, .int mdu]) (C := "BigRunnerModel") (T := FT10) (N := 45) hx hb (hw10 hB _) (fun _ h9 => h9) TY10 ok10 nm10 hown hK hP hD hS (lo_in hL t_M (by decide)) e19 rfl 40 (by decide) (wd_987 hB _) rfl (by decide +kernel) rfl rfl (Nat.le_of_ble_eq_true rfl) rfl d_M_work_383 (fun f246 H locs e247 k248 hP hD hS => ?_)
                    have eC := (k248 (g.lk M 6) (tg_ne (lo_k11_6 hL _ t_M) t_M (by decide))).trans eC
                    have eA := (k248 (g.lk M 7) (tg_ne (lo_k11_7 hL _ t_M) t_M (by decide))).trans eA
                    have hu := hu.st k248 t_M (by decide)
                    have hk249 : ∀ b, b ≠ M → f246 b = f227 b := k248
                    refine lv_aload_n hx hb d_M_work_386 rfl (lv_at hl 3 rfl) ?_
                    refine pf_get (v := .int (nI 2)) (C := "BigRunnerModel") (T := FT10) (N := 45) hx hb (hw10 hB _) (fun _ h9 => h9) hown hK hP (lo_in hL t_M (by decide)) e247 rfl 40 (by decide) (wd_987 hB _) rfl d_M_work_387 ?_
                    refine lv_if_ne (tgt := 400) hx hb d_M_work_390 (by decide) (fun b250 => ?_) (fun b250 => ?_)
                    · skip
                      replace b250 := mt (nI_eq (a := 2) (b := 0) (by omega) (by omega)).mpr b250
                      have hI251 := iv_1 hI1_229 hL t_M (by decide) hk249 (oc_11.mk t_M (⟨mth, mn, mdr, msz, mix, mdp, mwt, mop, (mtp - 1), mwa, mgi, mpc, mst, 2, msp, iv5, iv12, mdu, e247, (by omega), (by omega), (by omega), (by omega), (by omega), (by omega), (by omega), (by omega), (by omega), (by omega), (by omega), (by omega), (by omega), (by omega), hmb14⟩))
                      exact pe_vret hx hb hr hlocks hK hP hD hS d_M_work_400 ⟨⟨(mtp - 1), iv5, iv12, 2, by omega, by omega, (fun z9 => TR.mk (fun _ => by omega) (fun _ => by omega) (fun _ _ => by omega)), e247⟩, hI251, hu⟩
                    · skip
                      replace b250 := (nI_eq (a := 2) (b := 0) (by omega) (by omega)).mp b250
                      exfalso; omega
            · skip
              replace b22 := mt (nI_leI (a := w) (b := 4) (by omega) (by omega)).mpr b22
              refine lv_aload_n hx hb d_M_work_214 rfl (lv_at hl 2 rfl) ?_
              refine pf_get (v := .ref (g.lk M 31)) (C := "BigRunnerModel") (T := FT10) (N := 45) hx hb (hw10 hB _) (fun _ h9 => h9) hown hK hP (lo_in hL t_M (by decide)) e19 rfl 31 (by decide) (wd_978 hB _) rfl d_M_work_215 ?_
              refine lv_aload_n hx hb d_M_work_218 rfl (lv_at hl 2 rfl) ?_
              refine pf_get (v := .int (nI (mtp - 1))) (C := "BigRunnerModel") (T := FT10) (N := 45) hx hb (hw10 hB _) (fun _ h9 => h9) hown hK hP (lo_in hL t_M (by decide)) e19 rfl 32 (by decide) (wd_979 hB _) rfl d_M_work_219 ?_
              obtain ⟨h_253, e252⟩ := oc_63.of (lo_k11_31 hL _ t_M) (hI.1 (g.lk M 31))
              replace e252 := (hk21 (g.lk M 31) (tg_ne (lo_k11_31 hL _ t_M) t_M (by decide))).trans e252
              refine pf_iald (i := mtp - 1) hx hb hK hP (lo_in hL (lo_k11_31 hL _ t_M) (by decide)) e252 (lo_t63 hL _ (lo_k11_31 hL _ t_M)) (by omega) (by decide) d_M_work_222 ?_
              refine lv_topi (fun iv255 _ => ?_)
              refine lv_if_ne (tgt := 232) hx hb d_M_work_223 (by decide) (fun b256 => ?_) (fun b256 => ?_)
              · skip
                refine lv_aload_n hx hb d_M_work_232 rfl (lv_at hl 2 rfl) ?_
                have hI257 := iv_1 hI hL t_M (by decide) hk21 (oc_11.mk t_M (⟨mth, mn, mdr, msz, mix, mdp, mwt, mop, (mtp - 1), mwa, mgi, mpc, mst, mtr, msp, iv5, iv12, mdu, e19, (by omega), (by omega), (by omega), (by omega), (by omega), (by omega), (by omega), (by omega), (by omega), (by omega), (by omega), (by omega), (by omega), (by omega), hmb14⟩))
                refine pcc_v (va_runV (C := "BigRunnerModel") (As := []) (rest := []) ⟨hx, hb, hml, hown, tb_nil⟩ (m_clear l g H.size f18 M hL t_M hI257) ⟨(callB_of 0 (tb_one (wd_1224 hB _)) tb_good1 rfl rfl rfl (wd_82 hB _) (wd_1221 hB _) (by decide +kernel) ⟨Nat.le_of_ble_eq_true rfl, Nat.le_of_ble_eq_true rfl⟩), (wd_1223 hB _), (wd_62 hB _)⟩ ⟨pe_bl, pg_recv (ci := 10) hK hP (lo_in hL t_M (by decide)) e19 rfl, pe_pre hB hK hP hD⟩ rfl rfl hl.1 rfl (lv_room (Nat.le_of_ble_eq_true rfl)) d_M_work_233 ⟨Nat.le_of_ble_eq_true rfl, Nat.le_of_ble_eq_true rfl⟩) hS (fun f259 H locs hq260 hP hD hS => ?_)
                obtain ⟨hI1_261, hu1_262⟩ := hq260
                have hu := hu.tr hu1_262 (by decide)
                have eC := hu1_262.at (lo_k11_6 hL _ t_M) (by decide) eC
                have eA := hu1_262.at (lo_k11_7 hL _ t_M) (by decide) eA
                have e19 := hu1_262.at t_M (by decide) e19
                have e252 := hu1_262.at (lo_k11_31 hL _ t_M) (by decide) e252
                refine lv_iconst (v := nI 0) hx hb d_M_work_236 (by decide) ?_
                refine lv_istore (lv' := [(4, .int (nI 0)), (3, .int (nI ((mtp - 1) - 1))), (2, .int (nI w)), (0, .ref M), (1, .int (nI p9))]) hx hb d_M_work_237 hl (by decide) rfl (fun ls hl => ?_)
                refine lv_iload_n hx hb d_M_work_239 rfl (lv_at hl 2 rfl) ?_
                refine lv_iconst (v := nI 5) hx hb d_M_work_240 (by decide) ?_
                refine lv_icmp_ge (tgt := 285) hx hb d_M_work_241 (by decide) (fun b263 => ?_) (fun b263 => ?_)
                · skip
                  replace b263 := (nI_leI (a := 5) (b := w) (by omega) (by omega)).mp b263
                  refine lv_aload_n hx hb d_M_work_285 rfl (lv_at hl 3 rfl) ?_
                  refine lv_iload_n hx hb d_M_work_286 rfl (lv_at hl 1 rfl) ?_
                  refine lv_aload_n hx hb d_M_work_287 rfl (lv_at hl 3 rfl) ?_
                  refine pf_get (v := .int (nI (mtp - 1))) (C := "BigRunnerModel") (T := FT10) (N := 45) hx hb (hw10 hB _) (fun _ h9 => h9) hown hK hP (lo_in hL t_M (by decide)) e19 rfl 32 (by decide) (wd_979 hB _) rfl d_M_work_288 ?_
                  refine pcc_v (va_runV (C := "BigRunnerModel") (As := [.int (nI ((mtp - 1) - 1)), .int (nI (mtp - 1))]) (rest := []) ⟨hx, hb, hml, hown, tb_nil⟩ (m_divide l g H.size f259 M (((mtp - 1) - 1)) ((mtp - 1)) hL t_M hI1_261 (by omega) (by omega)) ⟨(callB_of 2 (tb_one (wd_1249 hB _)) tb_good1 rfl rfl rfl (wd_82 hB _) (wd_1246 hB _) (by decide +kernel) ⟨Nat.le_of_ble_eq_true rfl, Nat.le_of_ble_eq_true rfl⟩), (wd_1248 hB _), (wd_68 hB _)⟩ ⟨pe_bl, pg_recv (ci := 10) hK hP (lo_in hL t_M (by decide)) e19 rfl, pe_pre hB hK hP hD⟩ rfl rfl hl.1 rfl (lv_room (Nat.le_of_ble_eq_true rfl)) d_M_work_291 ⟨Nat.le_of_ble_eq_true rfl, Nat.le_of_ble_eq_true rfl⟩) hS (fun f265 H locs hq266 hP hD hS => ?_)
                  obtain ⟨hI1_267, hu1_268⟩ := hq266
                  have hu := hu.tr hu1_268 (by decide)
                  have eC := hu1_268.at (lo_k11_6 hL _ t_M) (by decide) eC
                  have eA := hu1_268.at (lo_k11_7 hL _ t_M) (by decide) eA
                  have e19 := hu1_268.at t_M (by decide) e19
                  have e252 := hu1_268.at (lo_k11_31 hL _ t_M) (by decide) e252
                  refine lv_iload_n hx hb d_M_work_294 rfl (lv_at hl 2 rfl) ?_
                  refine lv_iconst (v := nI 5) hx hb d_M_work_295 (by decide) ?_
                  refine lv_icmp_ne (tgt := 318) hx hb d_M_work_296 (by decide) (fun b269 => ?_) (fun b269 => ?_)
                  · skip
                    replace b269 := mt (nI_eq (a := w) (b := 5) (by omega) (by omega)).mpr b269
                    refine lv_aload_n hx hb d_M_work_318 rfl (lv_at hl 3 rfl) ?_
                    refine pf_get (v := .ref (g.lk M 31)) (C := "BigRunnerModel") (T := FT10) (N := 45) hx hb (hw10 hB _) (fun _ h9 => h9) hown hK hP (lo_in hL t_M (by decide)) e19 rfl 31 (by decide) (wd_978 hB _) rfl d_M_work_319 ?_
                    refine lv_iload_n hx hb d_M_work_322 rfl (lv_at hl 1 rfl) ?_
                    refine pf_iald (i := (mtp - 1) - 1) hx hb hK hP (lo_in hL (lo_k11_31 hL _ t_M) (by decide)) e252 (lo_t63 hL _ (lo_k11_31 hL _ t_M)) (by omega) (by decide) d_M_work_323 ?_
                    refine lv_topi (fun iv270 _ => ?_)
                    refine lv_istore (lv' := [(4, .int iv270), (3, .int (nI ((mtp - 1) - 1))), (2, .int (nI w)), (0, .ref M), (1, .int (nI p9))]) hx hb d_M_work_324 hl (by decide) rfl (fun ls hl => ?_)
                    refine lv_iconst (v := nI 0) hx hb d_M_work_326 (by decide) ?_
                    refine lv_istore (lv' := [(5, .int (nI 0)), (4, .int iv270), (3, .int (nI ((mtp - 1) - 1))), (2, .int (nI w)), (0, .ref M), (1, .int (nI p9))]) hx hb d_M_work_327 hl (by decide) rfl (fun ls hl => ?_)
                    have lp271 : ∀ (k273 : Nat) (i : Nat) (f272 : Nat → va_E) (H : Heap) (locs : List Loc) (ls : Array Slot), (20 < i + k273) → (i ≤ 20) → IV g f272 → un [64] g f265 f272 → lv_has ls 6 [(5, .int (nI i)), (4, .int iv270), (3, .int (nI ((mtp - 1) - 1))), (2, .int (nI w)), (0, .ref M), (1, .int (nI p9))] → va_P g.D vcl (va_pl g.LP f272) H → va_D (pc_A g s.heap.size) (va_pl g.LP f272) → va_S (pc_A g s.heap.size) s.heap H locs → W p l e ({ frames := 3, cells := 0, slots := 0, locals := 78 }) s m args below meth c H locs 0 0 (MQ below (va_Qv (fun f1 => (∃ (tp1 : Nat) (ma1 : Int32) (lg1 : Int32) (tr1 : Nat), (tp1 ≤ 80) ∧ (tr1 ≤ 2) ∧ (TR0 tr1 w mtp tp1) ∧ f1 M = .inr (10, [.int mth, .ref (g.lk M 1), .int (nI mn), .ref (g.lk M 3), .ref (g.lk M 4), .int (nI mdr), .ref (g.lk M 6), .ref (g.lk M 7), .ref (g.lk M 8), .int (nI msz), .int (nI mix), .int (nI mdp), .ref (g.lk M 12), .int (nI mwt), .ref (g.lk M 14), .ref (g.lk M 15), .int (nI mop), .ref (g.lk M 17), .ref (g.lk M 18), .ref (g.lk M 19), .ref (g.lk M 20), .ref (g.lk M 21), .ref (g.lk M 22), .ref (g.lk M 23), .ref (g.lk M 24), .ref (g.lk M 25), .ref (g.lk M 26), .ref (g.lk M 27), .ref (g.lk M 28), .ref (g.lk M 29), .ref (g.lk M 30), .ref (g.lk M 31), .int (nI tp1), .ref (g.lk M 33), .ref (g.lk M 34), .ref (g.lk M 35), .int (nI mwa), .int (nI mgi), .int (nI mpc), .int (nI mst), .int (nI tr1), .int (nI msp), .int ma1, .int lg1, .int mdu])) ∧ (IV g f1) ∧ (un [11, 62, 63, 64, 65] g f f1)) (pc_out g s.heap.size) (pc_A g s.heap.size)) args s 0 0 (pc_A g s.heap.size)) (F0 m 329 ls []) := by
                      intro k273
                      induction k273 with
                      | zero => intros; exfalso; omega
                      | succ k273 ih274 =>
                        intro i f272 H locs ls hfu275 hi hI276 hv277 hl hP hD hS
                        have eC := hv277.at (lo_k11_6 hL _ t_M) (by decide) eC
                        have eA := hv277.at (lo_k11_7 hL _ t_M) (by decide) eA
                        have e19 := hv277.at t_M (by decide) e19
                        have e252 := hv277.at (lo_k11_31 hL _ t_M) (by decide) e252
                        have hu := hu.tr hv277 (by decide)
                        refine lv_iload hx hb d_M_work_329 (lv_at hl 0 rfl) ?_
                        refine lv_bipush (v := nI 20) hx hb d_M_work_331 (by decide) ?_
                        refine lv_icmp_ge (tgt := 362) hx hb d_M_work_333 (by decide) (fun b278 => ?_) (fun b278 => ?_)
                        · skip
                          replace b278 := (nI_leI (a := 20) (b := i) (by omega) (by omega)).mp b278
                          refine lv_aload_n hx hb d_M_work_362 rfl (lv_at hl 4 rfl) ?_
                          refine lv_aload_n hx hb d_M_work_363 rfl (lv_at hl 4 rfl) ?_
                          refine pf_get (v := .ref (g.lk M 33)) (C := "BigRunnerModel") (T := FT10) (N := 45) hx hb (hw10 hB _) (fun _ h9 => h9) hown hK hP (lo_in hL t_M (by decide)) e19 rfl 33 (by decide) (wd_980 hB _) rfl d_M_work_364 ?_
                          refine lv_iconst (v := nI 0) hx hb d_M_work_367 (by decide) ?_
                          refine lv_bipush (v := nI 44) hx hb d_M_work_368 (by decide) ?_
                          refine pcc_i (va_runS (As := [.ref (g.lk M 33), .int (nI 0), .int (nI 44)]) (rest := [.ref M]) ⟨hx, hb, hml, hown, tb_nil⟩ (m_digitsOf64 l g H.size f272 ((g.lk M 33)) 0 44 hL (lo_k11_33 hL _ t_M) hI276.1 (by omega)) ⟨(callB_of 3 (tb_one (wd_1257 hB _)) tb_good1 rfl rfl rfl (wd_82 hB _) (wd_1255 hB _) (by decide +kernel) ⟨Nat.le_of_ble_eq_true rfl, Nat.le_of_ble_eq_true rfl⟩), (wd_1256 hB _)⟩ ⟨pe_bl, pe_pre hB hK hP hD⟩ rfl rfl hl.1 rfl (lv_room (Nat.le_of_ble_eq_true rfl)) d_M_work_370 ⟨Nat.le_of_ble_eq_true rfl, Nat.le_of_ble_eq_true rfl⟩) hS (fun r279 f280 H locs hq281 hP hD hS => ?_)
                          subst hq281
                          refine lv_bipush (v := nI 120) hx hb d_M_work_373 (by decide) ?_
                          refine lv_icmp_le (tgt := 382) hx hb d_M_work_375 (by decide) (fun b282 => ?_) (fun b282 => ?_)
                          · skip
                            refine lv_iconst (v := nI 0) hx hb d_M_work_382 (by decide) ?_
                            refine pf_put (v := .int (nI 0)) (ty := .int) (fs' := [.int mth, .ref (g.lk M 1), .int (nI mn), .ref (g.lk M 3), .ref (g.lk M 4), .int (nI mdr), .ref (g.lk M 6), .ref (g.lk M 7), .ref (g.lk M 8), .int (nI msz), .int (nI mix), .int (nI mdp), .ref (g.lk M 12), .int (nI mwt), .ref (g.lk M 14), .ref (g.lk M 15), .int (nI mop), .ref (g.lk M 17), .ref (g.lk M 18), .ref (g.lk M 19), .ref (g.lk M 20), .ref (g.lk M 21), .ref (g.lk M 22), .ref (g.lk M 23), .ref (g.lk M 24), .ref (g.lk M 25), .ref (g.lk M 26), .ref (g.lk M 27), .ref (g.lk M 28), .ref (g.lk M 29), .ref (g.lk M 30), .ref (g.lk M 31), .int (nI (mtp - 1)), .ref (g.lk M 33), .ref (g.lk M 34), .ref (g.lk M 35), .int (nI mwa), .int (nI mgi), .int (nI mpc), .int (nI mst), .int (nI 0), .int (nI msp), .int iv5, .int iv12, .int mdu]) (C := "BigRunnerModel") (T := FT10) (N := 45) hx hb (hw10 hB _) (fun _ h9 => h9) TY10 ok10 nm10 hown hK hP hD hS (lo_in hL t_M (by decide)) e19 rfl 40 (by decide) (wd_987 hB _) rfl (by decide +kernel) rfl rfl (Nat.le_of_ble_eq_true rfl) rfl d_M_work_383 (fun f283 H locs e284 k285 hP hD hS => ?_)
                            have eC := (k285 (g.lk M 6) (tg_ne (lo_k11_6 hL _ t_M) t_M (by decide))).trans eC
                            have eA := (k285 (g.lk M 7) (tg_ne (lo_k11_7 hL _ t_M) t_M (by decide))).trans eA
                            have e252 := (k285 (g.lk M 31) (tg_ne (lo_k11_31 hL _ t_M) t_M (by decide))).trans e252
                            have hu := hu.st k285 t_M (by decide)
                            have hk286 : ∀ b, b ≠ M → f283 b = f272 b := k285
                            refine lv_aload_n hx hb d_M_work_386 rfl (lv_at hl 4 rfl) ?_
                            refine pf_get (v := .int (nI 0)) (C := "BigRunnerModel") (T := FT10) (N := 45) hx hb (hw10 hB _) (fun _ h9 => h9) hown hK hP (lo_in hL t_M (by decide)) e284 rfl 40 (by decide) (wd_987 hB _) rfl d_M_work_387 ?_
                            refine lv_if_ne (tgt := 400) hx hb d_M_work_390 (by decide) (fun b287 => ?_) (fun b287 => ?_)
                            · skip
                              replace b287 := mt (nI_eq (a := 0) (b := 0) (by omega) (by omega)).mpr b287
                              exfalso; omega
                            · skip
                              replace b287 := (nI_eq (a := 0) (b := 0) (by omega) (by omega)).mp b287
                              refine lv_aload_n hx hb d_M_work_393 rfl (lv_at hl 4 rfl) ?_
                              refine lv_iload_n hx hb d_M_work_394 rfl (lv_at hl 2 rfl) ?_
                              refine lv_iload hx hb d_M_work_395 (lv_at hl 1 rfl) ?_
                              have hI288 := iv_1 hI276 hL t_M (by decide) hk286 (oc_11.mk t_M (⟨mth, mn, mdr, msz, mix, mdp, mwt, mop, (mtp - 1), mwa, mgi, mpc, mst, 0, msp, iv5, iv12, mdu, e284, (by omega), (by omega), (by omega), (by omega), (by omega), (by omega), (by omega), (by omega), (by omega), (by omega), (by omega), (by omega), (by omega), (by omega), hmb14⟩))
                              refine pcc_v (va_runV (C := "BigRunnerModel") (As := [.int (nI ((mtp - 1) - 1)), .int iv270]) (rest := []) ⟨hx, hb, hml, hown, tb_nil⟩ (m_keep l g H.size f283 M (((mtp - 1) - 1)) iv270 hL t_M hI288 (by omega)) ⟨(callB_of 2 (tb_one (wd_1261 hB _)) tb_good1 rfl rfl rfl (wd_82 hB _) (wd_1258 hB _) (by decide +kernel) ⟨Nat.le_of_ble_eq_true rfl, Nat.le_of_ble_eq_true rfl⟩), (wd_1260 hB _), (wd_70 hB _)⟩ ⟨pe_bl, pg_recv (ci := 10) hK hP (lo_in hL t_M (by decide)) e284 rfl, pe_pre hB hK hP hD⟩ rfl rfl hl.1 rfl (lv_room (Nat.le_of_ble_eq_true rfl)) d_M_work_397 ⟨Nat.le_of_ble_eq_true rfl, Nat.le_of_ble_eq_true rfl⟩) hS (fun f290 H locs hq291 hP hD hS => ?_)
                              obtain ⟨hI1_292, hu1_293⟩ := hq291
                              have hu := hu.tr hu1_293 (by decide)
                              have eC := hu1_293.at (lo_k11_6 hL _ t_M) (by decide) eC
                              have eA := hu1_293.at (lo_k11_7 hL _ t_M) (by decide) eA
                              have e284 := hu1_293.at t_M (by decide) e284
                              exact pe_vret hx hb hr hlocks hK hP hD hS d_M_work_400 ⟨⟨(mtp - 1), iv5, iv12, 0, by omega, by omega, (fun z9 => TR.mk (fun _ => by omega) (fun _ => by omega) (fun _ _ => by omega)), e284⟩, hI1_292, hu⟩
                          · skip
                            refine lv_iconst (v := nI 2) hx hb d_M_work_378 (by decide) ?_
                            refine lv_goto (tgt := 383) hx hb d_M_work_379 (by decide) ?_
                            refine pf_put (v := .int (nI 2)) (ty := .int) (fs' := [.int mth, .ref (g.lk M 1), .int (nI mn), .ref (g.lk M 3), .ref (g.lk M 4), .int (nI mdr), .ref (g.lk M 6), .ref (g.lk M 7), .ref (g.lk M 8), .int (nI msz), .int (nI mix), .int (nI mdp), .ref (g.lk M 12), .int (nI mwt), .ref (g.lk M 14), .ref (g.lk M 15), .int (nI mop), .ref (g.lk M 17), .ref (g.lk M 18), .ref (g.lk M 19), .ref (g.lk M 20), .ref (g.lk M 21), .ref (g.lk M 22), .ref (g.lk M 23), .ref (g.lk M 24), .ref (g.lk M 25), .ref (g.lk M 26), .ref (g.lk M 27), .ref (g.lk M 28), .ref (g.lk M 29), .ref (g.lk M 30), .ref (g.lk M 31), .int (nI (mtp - 1)), .ref (g.lk M 33), .ref (g.lk M 34), .ref (g.lk M 35), .int (nI mwa), .int (nI mgi), .int (nI mpc), .int (nI mst), .int (nI 2), .int (nI msp), .int iv5, .int iv12, .int mdu]) (C := "BigRunnerModel") (T := FT10) (N := 45) hx hb (hw10 hB _) (fun _ h9 => h9) TY10 ok10 nm10 hown hK hP hD hS (lo_in hL t_M (by decide)) e19 rfl 40 (by decide) (wd_987 hB _) rfl (by decide +kernel) rfl rfl (Nat.le_of_ble_eq_true rfl) rfl d_M_work_383 (fun f294 H locs e295 k296 hP hD hS => ?_)
                            have eC := (k296 (g.lk M 6) (tg_ne (lo_k11_6 hL _ t_M) t_M (by decide))).trans eC
                            have eA := (k296 (g.lk M 7) (tg_ne (lo_k11_7 hL _ t_M) t_M (by decide))).trans eA
                            have e252 := (k296 (g.lk M 31) (tg_ne (lo_k11_31 hL _ t_M) t_M (by decide))).trans e252
                            have hu := hu.st k296 t_M (by decide)
                            have hk297 : ∀ b, b ≠ M → f294 b = f272 b := k296
                            refine lv_aload_n hx hb d_M_work_386 rfl (lv_at hl 4 rfl) ?_
                            refine pf_get (v := .int (nI 2)) (C := "BigRunnerModel") (T := FT10) (N := 45) hx hb (hw10 hB _) (fun _ h9 => h9) hown hK hP (lo_in hL t_M (by decide)) e295 rfl 40 (by decide) (wd_987 hB _) rfl d_M_work_387 ?_
                            refine lv_if_ne (tgt := 400) hx hb d_M_work_390 (by decide) (fun b298 => ?_) (fun b298 => ?_)
                            · skip
                              replace b298 := mt (nI_eq (a := 2) (b := 0) (by omega) (by omega)).mpr b298
                              have hI299 := iv_1 hI276 hL t_M (by decide) hk297 (oc_11.mk t_M (⟨mth, mn, mdr, msz, mix, mdp, mwt, mop, (mtp - 1), mwa, mgi, mpc, mst, 2, msp, iv5, iv12, mdu, e295, (by omega), (by omega), (by omega), (by omega), (by omega), (by omega), (by omega), (by omega), (by omega), (by omega), (by omega), (by omega), (by omega), (by omega), hmb14⟩))
                              exact pe_vret hx hb hr hlocks hK hP hD hS d_M_work_400 ⟨⟨(mtp - 1), iv5, iv12, 2, by omega, by omega, (fun z9 => TR.mk (fun _ => by omega) (fun _ => by omega) (fun _ _ => by omega)), e295⟩, hI299, hu⟩
                            · skip
                              replace b298 := (nI_eq (a := 2) (b := 0) (by omega) (by omega)).mp b298
                              exfalso; omega
                        · skip
                          replace b278 := mt (nI_leI (a := 20) (b := i) (by omega) (by omega)).mpr b278
                          refine lv_iload_n hx hb d_M_work_336 rfl (lv_at hl 3 rfl) ?_
                          refine lv_bipush (v := nI 6) hx hb d_M_work_337 (by decide) ?_
                          refine lv_icmp_ne (tgt := 362) hx hb d_M_work_339 (by decide) (fun b300 => ?_) (fun b300 => ?_)
                          · skip
                            replace b300 := mt (nI_eq (a := w) (b := 6) (by omega) (by omega)).mpr b300
                            refine lv_aload_n hx hb d_M_work_362 rfl (lv_at hl 4 rfl) ?_
                            refine lv_aload_n hx hb d_M_work_363 rfl (lv_at hl 4 rfl) ?_
                            refine pf_get (v := .ref (g.lk M 33)) (C := "BigRunnerModel") (T := FT10) (N := 45) hx hb (hw10 hB _) (fun _ h9 => h9) hown hK hP (lo_in hL t_M (by decide)) e19 rfl 33 (by decide) (wd_980 hB _) rfl d_M_work_364 ?_
                            refine lv_iconst (v := nI 0) hx hb d_M_work_367 (by decide) ?_
                            refine lv_bipush (v := nI 44) hx hb d_M_work_368 (by decide) ?_
                            refine pcc_i (va_runS (As := [.ref (g.lk M 33), .int (nI 0), .int (nI 44)]) (rest := [.ref M]) ⟨hx, hb, hml, hown, tb_nil⟩ (m_digitsOf64 l g H.size f272 ((g.lk M 33)) 0 44 hL (lo_k11_33 hL _ t_M) hI276.1 (by omega)) ⟨(callB_of 3 (tb_one (wd_1257 hB _)) tb_good1 rfl rfl rfl (wd_82 hB _) (wd_1255 hB _) (by decide +kernel) ⟨Nat.le_of_ble_eq_true rfl, Nat.le_of_ble_eq_true rfl⟩), (wd_1256 hB _)⟩ ⟨pe_bl, pe_pre hB hK hP hD⟩ rfl rfl hl.1 rfl (lv_room (Nat.le_of_ble_eq_true rfl)) d_M_work_370 ⟨Nat.le_of_ble_eq_true rfl, Nat.le_of_ble_eq_true rfl⟩) hS (fun r301 f302 H locs hq303 hP hD hS => ?_)
                            subst hq303
                            refine lv_bipush (v := nI 120) hx hb d_M_work_373 (by decide) ?_
                            refine lv_icmp_le (tgt := 382) hx hb d_M_work_375 (by decide) (fun b304 => ?_) (fun b304 => ?_)
                            · skip
                              refine lv_iconst (v := nI 0) hx hb d_M_work_382 (by decide) ?_
                              refine pf_put (v := .int (nI 0)) (ty := .int) (fs' := [.int mth, .ref (g.lk M 1), .int (nI mn), .ref (g.lk M 3), .ref (g.lk M 4), .int (nI mdr), .ref (g.lk M 6), .ref (g.lk M 7), .ref (g.lk M 8), .int (nI msz), .int (nI mix), .int (nI mdp), .ref (g.lk M 12), .int (nI mwt), .ref (g.lk M 14), .ref (g.lk M 15), .int (nI mop), .ref (g.lk M 17), .ref (g.lk M 18), .ref (g.lk M 19), .ref (g.lk M 20), .ref (g.lk M 21), .ref (g.lk M 22), .ref (g.lk M 23), .ref (g.lk M 24), .ref (g.lk M 25), .ref (g.lk M 26), .ref (g.lk M 27), .ref (g.lk M 28), .ref (g.lk M 29), .ref (g.lk M 30), .ref (g.lk M 31), .int (nI (mtp - 1)), .ref (g.lk M 33), .ref (g.lk M 34), .ref (g.lk M 35), .int (nI mwa), .int (nI mgi), .int (nI mpc), .int (nI mst), .int (nI 0), .int (nI msp), .int iv5, .int iv12, .int mdu]) (C := "BigRunnerModel") (T := FT10) (N := 45) hx hb (hw10 hB _) (fun _ h9 => h9) TY10 ok10 nm10 hown hK hP hD hS (lo_in hL t_M (by decide)) e19 rfl 40 (by decide) (wd_987 hB _) rfl (by decide +kernel) rfl rfl (Nat.le_of_ble_eq_true rfl) rfl d_M_work_383 (fun f305 H locs e306 k307 hP hD hS => ?_)
                              have eC := (k307 (g.lk M 6) (tg_ne (lo_k11_6 hL _ t_M) t_M (by decide))).trans eC
                              have eA := (k307 (g.lk M 7) (tg_ne (lo_k11_7 hL _ t_M) t_M (by decide))).trans eA
                              have e252 := (k307 (g.lk M 31) (tg_ne (lo_k11_31 hL _ t_M) t_M (by decide))).trans e252
                              have hu := hu.st k307 t_M (by decide)
                              have hk308 : ∀ b, b ≠ M → f305 b = f272 b := k307
                              refine lv_aload_n hx hb d_M_work_386 rfl (lv_at hl 4 rfl) ?_
                              refine pf_get (v := .int (nI 0)) (C := "BigRunnerModel") (T := FT10) (N := 45) hx hb (hw10 hB _) (fun _ h9 => h9) hown hK hP (lo_in hL t_M (by decide)) e306 rfl 40 (by decide) (wd_987 hB _) rfl d_M_work_387 ?_
                              refine lv_if_ne (tgt := 400) hx hb d_M_work_390 (by decide) (fun b309 => ?_) (fun b309 => ?_)
                              · skip
                                replace b309 := mt (nI_eq (a := 0) (b := 0) (by omega) (by omega)).mpr b309
                                exfalso; omega
                              · skip
                                replace b309 := (nI_eq (a := 0) (b := 0) (by omega) (by omega)).mp b309
                                refine lv_aload_n hx hb d_M_work_393 rfl (lv_at hl 4 rfl) ?_
                                refine lv_iload_n hx hb d_M_work_394 rfl (lv_at hl 2 rfl) ?_
                                refine lv_iload hx hb d_M_work_395 (lv_at hl 1 rfl) ?_
                                have hI310 := iv_1 hI276 hL t_M (by decide) hk308 (oc_11.mk t_M (⟨mth, mn, mdr, msz, mix, mdp, mwt, mop, (mtp - 1), mwa, mgi, mpc, mst, 0, msp, iv5, iv12, mdu, e306, (by omega), (by omega), (by omega), (by omega), (by omega), (by omega), (by omega), (by omega), (by omega), (by omega), (by omega), (by omega), (by omega), (by omega), hmb14⟩))
                                refine pcc_v (va_runV (C := "BigRunnerModel") (As := [.int (nI ((mtp - 1) - 1)), .int iv270]) (rest := []) ⟨hx, hb, hml, hown, tb_nil⟩ (m_keep l g H.size f305 M (((mtp - 1) - 1)) iv270 hL t_M hI310 (by omega)) ⟨(callB_of 2 (tb_one (wd_1261 hB _)) tb_good1 rfl rfl rfl (wd_82 hB _) (wd_1258 hB _) (by decide +kernel) ⟨Nat.le_of_ble_eq_true rfl, Nat.le_of_ble_eq_true rfl⟩), (wd_1260 hB _), (wd_70 hB _)⟩ ⟨pe_bl, pg_recv (ci := 10) hK hP (lo_in hL t_M (by decide)) e306 rfl, pe_pre hB hK hP hD⟩ rfl rfl hl.1 rfl (lv_room (Nat.le_of_ble_eq_true rfl)) d_M_work_397 ⟨Nat.le_of_ble_eq_true rfl, Nat.le_of_ble_eq_true rfl⟩) hS (fun f312 H locs hq313 hP hD hS => ?_)
                                obtain ⟨hI1_314, hu1_315⟩ := hq313
                                have hu := hu.tr hu1_315 (by decide)
                                have eC := hu1_315.at (lo_k11_6 hL _ t_M) (by decide) eC
                                have eA := hu1_315.at (lo_k11_7 hL _ t_M) (by decide) eA
                                have e306 := hu1_315.at t_M (by decide) e306
                                exact pe_vret hx hb hr hlocks hK hP hD hS d_M_work_400 ⟨⟨(mtp - 1), iv5, iv12, 0, by omega, by omega, (fun z9 => TR.mk (fun _ => by omega) (fun _ => by omega) (fun _ _ => by omega)), e306⟩, hI1_314, hu⟩
                            · skip
                              refine lv_iconst (v := nI 2) hx hb d_M_work_378 (by decide) ?_
                              refine lv_goto (tgt := 383) hx hb d_M_work_379 (by decide) ?_
                              refine pf_put (v := .int (nI 2)) (ty := .int) (fs' := [.int mth, .ref (g.lk M 1), .int (nI mn), .ref (g.lk M 3), .ref (g.lk M 4), .int (nI mdr), .ref (g.lk M 6), .ref (g.lk M 7), .ref (g.lk M 8), .int (nI msz), .int (nI mix), .int (nI mdp), .ref (g.lk M 12), .int (nI mwt), .ref (g.lk M 14), .ref (g.lk M 15), .int (nI mop), .ref (g.lk M 17), .ref (g.lk M 18), .ref (g.lk M 19), .ref (g.lk M 20), .ref (g.lk M 21), .ref (g.lk M 22), .ref (g.lk M 23), .ref (g.lk M 24), .ref (g.lk M 25), .ref (g.lk M 26), .ref (g.lk M 27), .ref (g.lk M 28), .ref (g.lk M 29), .ref (g.lk M 30), .ref (g.lk M 31), .int (nI (mtp - 1)), .ref (g.lk M 33), .ref (g.lk M 34), .ref (g.lk M 35), .int (nI mwa), .int (nI mgi), .int (nI mpc), .int (nI mst), .int (nI 2), .int (nI msp), .int iv5, .int iv12, .int mdu]) (C := "BigRunnerModel") (T := FT10) (N := 45) hx hb (hw10 hB _) (fun _ h9 => h9) TY10 ok10 nm10 hown hK hP hD hS (lo_in hL t_M (by decide)) e19 rfl 40 (by decide) (wd_987 hB _) rfl (by decide +kernel) rfl rfl (Nat.le_of_ble_eq_true rfl) rfl d_M_work_383 (fun f316 H locs e317 k318 hP hD hS => ?_)
                              have eC := (k318 (g.lk M 6) (tg_ne (lo_k11_6 hL _ t_M) t_M (by decide))).trans eC
                              have eA := (k318 (g.lk M 7) (tg_ne (lo_k11_7 hL _ t_M) t_M (by decide))).trans eA
                              have e252 := (k318 (g.lk M 31) (tg_ne (lo_k11_31 hL _ t_M) t_M (by decide))).trans e252
                              have hu := hu.st k318 t_M (by decide)
                              have hk319 : ∀ b, b ≠ M → f316 b = f272 b := k318
                              refine lv_aload_n hx hb d_M_work_386 rfl (lv_at hl 4 rfl) ?_
                              refine pf_get (v := .int (nI 2)) (C := "BigRunnerModel") (T := FT10) (N := 45) hx hb (hw10 hB _) (fun _ h9 => h9) hown hK hP (lo_in hL t_M (by decide)) e317 rfl 40 (by decide) (wd_987 hB _) rfl d_M_work_387 ?_
                              refine lv_if_ne (tgt := 400) hx hb d_M_work_390 (by decide) (fun b320 => ?_) (fun b320 => ?_)
                              · skip
                                replace b320 := mt (nI_eq (a := 2) (b := 0) (by omega) (by omega)).mpr b320
                                have hI321 := iv_1 hI276 hL t_M (by decide) hk319 (oc_11.mk t_M (⟨mth, mn, mdr, msz, mix, mdp, mwt, mop, (mtp - 1), mwa, mgi, mpc, mst, 2, msp, iv5, iv12, mdu, e317, (by omega), (by omega), (by omega), (by omega), (by omega), (by omega), (by omega), (by omega), (by omega), (by omega), (by omega), (by omega), (by omega), (by omega), hmb14⟩))
                                exact pe_vret hx hb hr hlocks hK hP hD hS d_M_work_400 ⟨⟨(mtp - 1), iv5, iv12, 2, by omega, by omega, (fun z9 => TR.mk (fun _ => by omega) (fun _ => by omega) (fun _ _ => by omega)), e317⟩, hI321, hu⟩
                              · skip
                                replace b320 := (nI_eq (a := 2) (b := 0) (by omega) (by omega)).mp b320
                                exfalso; omega
                          · skip
                            replace b300 := (nI_eq (a := w) (b := 6) (by omega) (by omega)).mp b300
                            refine lv_aload_n hx hb d_M_work_342 rfl (lv_at hl 4 rfl) ?_
                            refine pf_get (v := .ref (g.lk M 33)) (C := "BigRunnerModel") (T := FT10) (N := 45) hx hb (hw10 hB _) (fun _ h9 => h9) hown hK hP (lo_in hL t_M (by decide)) e19 rfl 33 (by decide) (wd_980 hB _) rfl d_M_work_343 ?_
                            refine lv_iload hx hb d_M_work_346 (lv_at hl 0 rfl) ?_
                            refine lv_aload_n hx hb d_M_work_348 rfl (lv_at hl 4 rfl) ?_
                            refine pf_get (v := .ref (g.lk M 34)) (C := "BigRunnerModel") (T := FT10) (N := 45) hx hb (hw10 hB _) (fun _ h9 => h9) hown hK hP (lo_in hL t_M (by decide)) e19 rfl 34 (by decide) (wd_981 hB _) rfl d_M_work_349 ?_
                            refine lv_iload hx hb d_M_work_352 (lv_at hl 0 rfl) ?_
                            obtain ⟨h_323, e322⟩ := oc_65.of (lo_k11_34 hL _ t_M) (hI276.1 (g.lk M 34))
                            refine pf_iald (i := i) hx hb hK hP (lo_in hL (lo_k11_34 hL _ t_M) (by decide)) e322 (lo_t65 hL _ (lo_k11_34 hL _ t_M)) (by omega) (by decide) d_M_work_354 ?_
                            refine lv_topi (fun iv325 _ => ?_)
                            obtain ⟨h_327, e326⟩ := oc_64.of (lo_k11_33 hL _ t_M) (hI276.1 (g.lk M 33))
                            refine pf_iast (i := i) hx hb hK hP hD hS (lo_in hL (lo_k11_33 hL _ t_M) (by decide)) e326 (lo_t64 hL _ (lo_k11_33 hL _ t_M)) (by omega) (by decide) d_M_work_355 (fun f329 H locs e330 k331 hP hD hS => ?_)
                            have eC := (k331 (g.lk M 6) (tg_ne (lo_k11_6 hL _ t_M) (lo_k11_33 hL _ t_M) (by decide))).trans eC
                            have eA := (k331 (g.lk M 7) (tg_ne (lo_k11_7 hL _ t_M) (lo_k11_33 hL _ t_M) (by decide))).trans eA
                            have e19 := (k331 M (tg_ne t_M (lo_k11_33 hL _ t_M) (by decide))).trans e19
                            have e252 := (k331 (g.lk M 31) (tg_ne (lo_k11_31 hL _ t_M) (lo_k11_33 hL _ t_M) (by decide))).trans e252
                            have e322 := (k331 (g.lk M 34) (tg_ne (lo_k11_34 hL _ t_M) (lo_k11_33 hL _ t_M) (by decide))).trans e322
                            have hu := hu.st k331 (lo_k11_33 hL _ t_M) (by decide)
                            have hv277 := hv277.st k331 (lo_k11_33 hL _ t_M) (by decide)
                            have hk332 : ∀ b, b ≠ (g.lk M 33) → f329 b = f272 b := k331
                            refine lv_iinc (k := 0) (v := nI (i + 1)) (lv' := [(5, .int (nI (i + 1))), (4, .int iv270), (3, .int (nI ((mtp - 1) - 1))), (2, .int (nI w)), (0, .ref M), (1, .int (nI p9))]) hx hb d_M_work_356 hl rfl (by rw [nI_succ]; rfl) (by decide) rfl (fun ls hl => ?_)
                            refine lv_goto (tgt := 329) hx hb d_M_work_359 (by decide) ?_
                            have hI333 := iv_1 hI276 hL (lo_k11_33 hL _ t_M) (by decide) hk332 (oc_64.mk (lo_k11_33 hL _ t_M) (⟨_, e330⟩))
                            exact ih274 (i + 1) f329 H locs ls (by omega) (by omega) hI333 hv277 hl hP hD hS
                    exact lp271 21 0 f265 H locs ls (by omega) (by omega) hI1_267 un.rf hl hP hD hS
                  · skip
                    replace b269 := (nI_eq (a := w) (b := 5) (by omega) (by omega)).mp b269
                    refine lv_aload_n hx hb d_M_work_299 rfl (lv_at hl 3 rfl) ?_
                    refine pf_get (v := .ref (g.lk M 31)) (C := "BigRunnerModel") (T := FT10) (N := 45) hx hb (hw10 hB _) (fun _ h9 => h9) hown hK hP (lo_in hL t_M (by decide)) e19 rfl 31 (by decide) (wd_978 hB _) rfl d_M_work_300 ?_
                    refine lv_iload_n hx hb d_M_work_303 rfl (lv_at hl 1 rfl) ?_
                    refine pf_iald (i := (mtp - 1) - 1) hx hb hK hP (lo_in hL (lo_k11_31 hL _ t_M) (by decide)) e252 (lo_t63 hL _ (lo_k11_31 hL _ t_M)) (by omega) (by decide) d_M_work_304 ?_
                    refine lv_topi (fun iv334 _ => ?_)
                    refine lv_aload_n hx hb d_M_work_305 rfl (lv_at hl 3 rfl) ?_
                    refine pf_get (v := .ref (g.lk M 31)) (C := "BigRunnerModel") (T := FT10) (N := 45) hx hb (hw10 hB _) (fun _ h9 => h9) hown hK hP (lo_in hL t_M (by decide)) e19 rfl 31 (by decide) (wd_978 hB _) rfl d_M_work_306 ?_
                    refine lv_aload_n hx hb d_M_work_309 rfl (lv_at hl 3 rfl) ?_
                    refine pf_get (v := .int (nI (mtp - 1))) (C := "BigRunnerModel") (T := FT10) (N := 45) hx hb (hw10 hB _) (fun _ h9 => h9) hown hK hP (lo_in hL t_M (by decide)) e19 rfl 32 (by decide) (wd_979 hB _) rfl d_M_work_310 ?_
                    refine pf_iald (i := mtp - 1) hx hb hK hP (lo_in hL (lo_k11_31 hL _ t_M) (by decide)) e252 (lo_t63 hL _ (lo_k11_31 hL _ t_M)) (by omega) (by decide) d_M_work_313 ?_
                    refine lv_topi (fun iv335 _ => ?_)
                    refine lv_imul hx hb d_M_work_314 ?_
                    refine lv_topi (fun iv336 _ => ?_)
                    refine lv_goto (tgt := 324) hx hb d_M_work_315 (by decide) ?_
                    refine lv_istore (lv' := [(4, .int iv336), (3, .int (nI ((mtp - 1) - 1))), (2, .int (nI w)), (0, .ref M), (1, .int (nI p9))]) hx hb d_M_work_324 hl (by decide) rfl (fun ls hl => ?_)
                    refine lv_iconst (v := nI 0) hx hb d_M_work_326 (by decide) ?_
                    refine lv_istore (lv' := [(5, .int (nI 0)), (4, .int iv336), (3, .int (nI ((mtp - 1) - 1))), (2, .int (nI w)), (0, .ref M), (1, .int (nI p9))]) hx hb d_M_work_327 hl (by decide) rfl (fun ls hl => ?_)
                    have lp337 : ∀ (k339 : Nat) (i : Nat) (f338 : Nat → va_E) (H : Heap) (locs : List Loc) (ls : Array Slot), (20 < i + k339) → (i ≤ 20) → IV g f338 → un [64] g f265 f338 → lv_has ls 6 [(5, .int (nI i)), (4, .int iv336), (3, .int (nI ((mtp - 1) - 1))), (2, .int (nI w)), (0, .ref M), (1, .int (nI p9))] → va_P g.D vcl (va_pl g.LP f338) H → va_D (pc_A g s.heap.size) (va_pl g.LP f338) → va_S (pc_A g s.heap.size) s.heap H locs → W p l e ({ frames := 3, cells := 0, slots := 0, locals := 78 }) s m args below meth c H locs 0 0 (MQ below (va_Qv (fun f1 => (∃ (tp1 : Nat) (ma1 : Int32) (lg1 : Int32) (tr1 : Nat), (tp1 ≤ 80) ∧ (tr1 ≤ 2) ∧ (TR0 tr1 w mtp tp1) ∧ f1 M = .inr (10, [.int mth, .ref (g.lk M 1), .int (nI mn), .ref (g.lk M 3), .ref (g.lk M 4), .int (nI mdr), .ref (g.lk M 6), .ref (g.lk M 7), .ref (g.lk M 8), .int (nI msz), .int (nI mix), .int (nI mdp), .ref (g.lk M 12), .int (nI mwt), .ref (g.lk M 14), .ref (g.lk M 15), .int (nI mop), .ref (g.lk M 17), .ref (g.lk M 18), .ref (g.lk M 19), .ref (g.lk M 20), .ref (g.lk M 21), .ref (g.lk M 22), .ref (g.lk M 23), .ref (g.lk M 24), .ref (g.lk M 25), .ref (g.lk M 26), .ref (g.lk M 27), .ref (g.lk M 28), .ref (g.lk M 29), .ref (g.lk M 30), .ref (g.lk M 31), .int (nI tp1), .ref (g.lk M 33), .ref (g.lk M 34), .ref (g.lk M 35), .int (nI mwa), .int (nI mgi), .int (nI mpc), .int (nI mst), .int (nI tr1), .int (nI msp), .int ma1, .int lg1, .int mdu])) ∧ (IV g f1) ∧ (un [11, 62, 63, 64, 65] g f f1)) (pc_out g s.heap.size) (pc_A g s.heap.size)) args s 0 0 (pc_A g s.heap.size)) (F0 m 329 ls []) := by
                      intro k339
                      induction k339 with
                      | zero => intros; exfalso; omega
                      | succ k339 ih340 =>
                        intro i f338 H locs ls hfu341 hi hI342 hv343 hl hP hD hS
                        have eC := hv343.at (lo_k11_6 hL _ t_M) (by decide) eC
                        have eA := hv343.at (lo_k11_7 hL _ t_M) (by decide) eA
                        have e19 := hv343.at t_M (by decide) e19
                        have e252 := hv343.at (lo_k11_31 hL _ t_M) (by decide) e252
                        have hu := hu.tr hv343 (by decide)
                        refine lv_iload hx hb d_M_work_329 (lv_at hl 0 rfl) ?_
                        refine lv_bipush (v := nI 20) hx hb d_M_work_331 (by decide) ?_
                        refine lv_icmp_ge (tgt := 362) hx hb d_M_work_333 (by decide) (fun b344 => ?_) (fun b344 => ?_)
                        · skip
                          replace b344 := (nI_leI (a := 20) (b := i) (by omega) (by omega)).mp b344
                          refine lv_aload_n hx hb d_M_work_362 rfl (lv_at hl 4 rfl) ?_
                          refine lv_aload_n hx hb d_M_work_363 rfl (lv_at hl 4 rfl) ?_
                          refine pf_get (v := .ref (g.lk M 33)) (C := "BigRunnerModel") (T := FT10) (N := 45) hx hb (hw10 hB _) (fun _ h9 => h9) hown hK hP (lo_in hL t_M (by decide)) e19 rfl 33 (by decide) (wd_980 hB _) rfl d_M_work_364 ?_
                          refine lv_iconst (v := nI 0) hx hb d_M_work_367 (by decide) ?_
                          refine lv_bipush (v := nI 44) hx hb d_M_work_368 (by decide) ?_
                          refine pcc_i (va_runS (As := [.ref (g.lk M 33), .int (nI 0), .int (nI 44)]) (rest := [.ref M]) ⟨hx, hb, hml, hown, tb_nil⟩ (m_digitsOf64 l g H.size f338 ((g.lk M 33)) 0 44 hL (lo_k11_33 hL _ t_M) hI342.1 (by omega)) ⟨(callB_of 3 (tb_one (wd_1257 hB _)) tb_good1 rfl rfl rfl (wd_82 hB _) (wd_1255 hB _) (by decide +kernel) ⟨Nat.le_of_ble_eq_true rfl, Nat.le_of_ble_eq_true rfl⟩), (wd_1256 hB _)⟩ ⟨pe_bl, pe_pre hB hK hP hD⟩ rfl rfl hl.1 rfl (lv_room (Nat.le_of_ble_eq_true rfl)) d_M_work_370 ⟨Nat.le_of_ble_eq_true rfl, Nat.le_of_ble_eq_true rfl⟩) hS (fun r345 f346 H locs hq347 hP hD hS => ?_)
                          subst hq347
                          refine lv_bipush (v := nI 120) hx hb d_M_work_373 (by decide) ?_
                          refine lv_icmp_le (tgt := 382) hx hb d_M_work_375 (by decide) (fun b348 => ?_) (fun b348 => ?_)
                          · skip
                            refine lv_iconst (v := nI 0) hx hb d_M_work_382 (by decide) ?_
                            refine pf_put (v := .int (nI 0)) (ty := .int) (fs' := [.int mth, .ref (g.lk M 1), .int (nI mn), .ref (g.lk M 3), .ref (g.lk M 4), .int (nI mdr), .ref (g.lk M 6), .ref (g.lk M 7), .ref (g.lk M 8), .int (nI msz), .int (nI mix), .int (nI mdp), .ref (g.lk M 12), .int (nI mwt), .ref (g.lk M 14), .ref (g.lk M 15), .int (nI mop), .ref (g.lk M 17), .ref (g.lk M 18), .ref (g.lk M 19), .ref (g.lk M 20), .ref (g.lk M 21), .ref (g.lk M 22), .ref (g.lk M 23), .ref (g.lk M 24), .ref (g.lk M 25), .ref (g.lk M 26), .ref (g.lk M 27), .ref (g.lk M 28), .ref (g.lk M 29), .ref (g.lk M 30), .ref (g.lk M 31), .int (nI (mtp - 1)), .ref (g.lk M 33), .ref (g.lk M 34), .ref (g.lk M 35), .int (nI mwa), .int (nI mgi), .int (nI mpc), .int (nI mst), .int (nI 0), .int (nI msp), .int iv5, .int iv12, .int mdu]) (C := "BigRunnerModel") (T := FT10) (N := 45) hx hb (hw10 hB _) (fun _ h9 => h9) TY10 ok10 nm10 hown hK hP hD hS (lo_in hL t_M (by decide)) e19 rfl 40 (by decide) (wd_987 hB _) rfl (by decide +kernel) rfl rfl (Nat.le_of_ble_eq_true rfl) rfl d_M_work_383 (fun f349 H locs e350 k351 hP hD hS => ?_)
                            have eC := (k351 (g.lk M 6) (tg_ne (lo_k11_6 hL _ t_M) t_M (by decide))).trans eC
                            have eA := (k351 (g.lk M 7) (tg_ne (lo_k11_7 hL _ t_M) t_M (by decide))).trans eA
                            have e252 := (k351 (g.lk M 31) (tg_ne (lo_k11_31 hL _ t_M) t_M (by decide))).trans e252
                            have hu := hu.st k351 t_M (by decide)
                            have hk352 : ∀ b, b ≠ M → f349 b = f338 b := k351
                            refine lv_aload_n hx hb d_M_work_386 rfl (lv_at hl 4 rfl) ?_
                            refine pf_get (v := .int (nI 0)) (C := "BigRunnerModel") (T := FT10) (N := 45) hx hb (hw10 hB _) (fun _ h9 => h9) hown hK hP (lo_in hL t_M (by decide)) e350 rfl 40 (by decide) (wd_987 hB _) rfl d_M_work_387 ?_
                            refine lv_if_ne (tgt := 400) hx hb d_M_work_390 (by decide) (fun b353 => ?_) (fun b353 => ?_)
                            · skip
                              replace b353 := mt (nI_eq (a := 0) (b := 0) (by omega) (by omega)).mpr b353
                              exfalso; omega
                            · skip
                              replace b353 := (nI_eq (a := 0) (b := 0) (by omega) (by omega)).mp b353
                              refine lv_aload_n hx hb d_M_work_393 rfl (lv_at hl 4 rfl) ?_
                              refine lv_iload_n hx hb d_M_work_394 rfl (lv_at hl 2 rfl) ?_
                              refine lv_iload hx hb d_M_work_395 (lv_at hl 1 rfl) ?_
                              have hI354 := iv_1 hI342 hL t_M (by decide) hk352 (oc_11.mk t_M (⟨mth, mn, mdr, msz, mix, mdp, mwt, mop, (mtp - 1), mwa, mgi, mpc, mst, 0, msp, iv5, iv12, mdu, e350, (by omega), (by omega), (by omega), (by omega), (by omega), (by omega), (by omega), (by omega), (by omega), (by omega), (by omega), (by omega), (by omega), (by omega), hmb14⟩))
                              refine pcc_v (va_runV (C := "BigRunnerModel") (As := [.int (nI ((mtp - 1) - 1)), .int iv336]) (rest := []) ⟨hx, hb, hml, hown, tb_nil⟩ (m_keep l g H.size f349 M (((mtp - 1) - 1)) iv336 hL t_M hI354 (by omega)) ⟨(callB_of 2 (tb_one (wd_1261 hB _)) tb_good1 rfl rfl rfl (wd_82 hB _) (wd_1258 hB _) (by decide +kernel) ⟨Nat.le_of_ble_eq_true rfl, Nat.le_of_ble_eq_true rfl⟩), (wd_1260 hB _), (wd_70 hB _)⟩ ⟨pe_bl, pg_recv (ci := 10) hK hP (lo_in hL t_M (by decide)) e350 rfl, pe_pre hB hK hP hD⟩ rfl rfl hl.1 rfl (lv_room (Nat.le_of_ble_eq_true rfl)) d_M_work_397 ⟨Nat.le_of_ble_eq_true rfl, Nat.le_of_ble_eq_true rfl⟩) hS (fun f356 H locs hq357 hP hD hS => ?_)
                              obtain ⟨hI1_358, hu1_359⟩ := hq357
                              have hu := hu.tr hu1_359 (by decide)
                              have eC := hu1_359.at (lo_k11_6 hL _ t_M) (by decide) eC
                              have eA := hu1_359.at (lo_k11_7 hL _ t_M) (by decide) eA
                              have e350 := hu1_359.at t_M (by decide) e350
                              exact pe_vret hx hb hr hlocks hK hP hD hS d_M_work_400 ⟨⟨(mtp - 1), iv5, iv12, 0, by omega, by omega, (fun z9 => TR.mk (fun _ => by omega) (fun _ => by omega) (fun _ _ => by omega)), e350⟩, hI1_358, hu⟩
                          · skip
                            refine lv_iconst (v := nI 2) hx hb d_M_work_378 (by decide) ?_
                            refine lv_goto (tgt := 383) hx hb d_M_work_379 (by decide) ?_
                            refine pf_put (v := .int (nI 2)) (ty := .int) (fs' := [.int mth, .ref (g.lk M 1), .int (nI mn), .ref (g.lk M 3), .ref (g.lk M 4), .int (nI mdr), .ref (g.lk M 6), .ref (g.lk M 7), .ref (g.lk M 8), .int (nI msz), .int (nI mix), .int (nI mdp), .ref (g.lk M 12), .int (nI mwt), .ref (g.lk M 14), .ref (g.lk M 15), .int (nI mop), .ref (g.lk M 17), .ref (g.lk M 18), .ref (g.lk M 19), .ref (g.lk M 20), .ref (g.lk M 21), .ref (g.lk M 22), .ref (g.lk M 23), .ref (g.lk M 24), .ref (g.lk M 25), .ref (g.lk M 26), .ref (g.lk M 27), .ref (g.lk M 28), .ref (g.lk M 29), .ref (g.lk M 30), .ref (g.lk M 31), .int (nI (mtp - 1)), .ref (g.lk M 33), .ref (g.lk M 34), .ref (g.lk M 35), .int (nI mwa), .int (nI mgi), .int (nI mpc), .int (nI mst), .int (nI 2), .int (nI msp), .int iv5, .int iv12, .int mdu]) (C := "BigRunnerModel") (T := FT10) (N := 45) hx hb (hw10 hB _) (fun _ h9 => h9) TY10 ok10 nm10 hown hK hP hD hS (lo_in hL t_M (by decide)) e19 rfl 40 (by decide) (wd_987 hB _) rfl (by decide +kernel) rfl rfl (Nat.le_of_ble_eq_true rfl) rfl d_M_work_383 (fun f360 H locs e361 k362 hP hD hS => ?_)
                            have eC := (k362 (g.lk M 6) (tg_ne (lo_k11_6 hL _ t_M) t_M (by decide))).trans eC
                            have eA := (k362 (g.lk M 7) (tg_ne (lo_k11_7 hL _ t_M) t_M (by decide))).trans eA
                            have e252 := (k362 (g.lk M 31) (tg_ne (lo_k11_31 hL _ t_M) t_M (by decide))).trans e252
                            have hu := hu.st k362 t_M (by decide)
                            have hk363 : ∀ b, b ≠ M → f360 b = f338 b := k362
                            refine lv_aload_n hx hb d_M_work_386 rfl (lv_at hl 4 rfl) ?_
                            refine pf_get (v := .int (nI 2)) (C := "BigRunnerModel") (T := FT10) (N := 45) hx hb (hw10 hB _) (fun _ h9 => h9) hown hK hP (lo_in hL t_M (by decide)) e361 rfl 40 (by decide) (wd_987 hB _) rfl d_M_work_387 ?_
                            refine lv_if_ne (tgt := 400) hx hb d_M_work_390 (by decide) (fun b364 => ?_) (fun b364 => ?_)
                            · skip
                              replace b364 := mt (nI_eq (a := 2) (b := 0) (by omega) (by omega)).mpr b364
                              have hI365 := iv_1 hI342 hL t_M (by decide) hk363 (oc_11.mk t_M (⟨mth, mn, mdr, msz, mix, mdp, mwt, mop, (mtp - 1), mwa, mgi, mpc, mst, 2, msp, iv5, iv12, mdu, e361, (by omega), (by omega), (by omega), (by omega), (by omega), (by omega), (by omega), (by omega), (by omega), (by omega), (by omega), (by omega), (by omega), (by omega), hmb14⟩))
                              exact pe_vret hx hb hr hlocks hK hP hD hS d_M_work_400 ⟨⟨(mtp - 1), iv5, iv12, 2, by omega, by omega, (fun z9 => TR.mk (fun _ => by omega) (fun _ => by omega) (fun _ _ => by omega)), e361⟩, hI365, hu⟩
                            · skip
                              replace b364 := (nI_eq (a := 2) (b := 0) (by omega) (by omega)).mp b364
                              exfalso; omega
                        · skip
                          replace b344 := mt (nI_leI (a := 20) (b := i) (by omega) (by omega)).mpr b344
                          refine lv_iload_n hx hb d_M_work_336 rfl (lv_at hl 3 rfl) ?_
                          refine lv_bipush (v := nI 6) hx hb d_M_work_337 (by decide) ?_
                          refine lv_icmp_ne (tgt := 362) hx hb d_M_work_339 (by decide) (fun b366 => ?_) (fun b366 => ?_)
                          · skip
                            replace b366 := mt (nI_eq (a := w) (b := 6) (by omega) (by omega)).mpr b366
                            refine lv_aload_n hx hb d_M_work_362 rfl (lv_at hl 4 rfl) ?_
                            refine lv_aload_n hx hb d_M_work_363 rfl (lv_at hl 4 rfl) ?_
                            refine pf_get (v := .ref (g.lk M 33)) (C := "BigRunnerModel") (T := FT10) (N := 45) hx hb (hw10 hB _) (fun _ h9 => h9) hown hK hP (lo_in hL t_M (by decide)) e19 rfl 33 (by decide) (wd_980 hB _) rfl d_M_work_364 ?_
                            refine lv_iconst (v := nI 0) hx hb d_M_work_367 (by decide) ?_
                            refine lv_bipush (v := nI 44) hx hb d_M_work_368 (by decide) ?_
                            refine pcc_i (va_runS (As := [.ref (g.lk M 33), .int (nI 0), .int (nI 44)]) (rest := [.ref M]) ⟨hx, hb, hml, hown, tb_nil⟩ (m_digitsOf64 l g H.size f338 ((g.lk M 33)) 0 44 hL (lo_k11_33 hL _ t_M) hI342.1 (by omega)) ⟨(callB_of 3 (tb_one (wd_1257 hB _)) tb_good1 rfl rfl rfl (wd_82 hB _) (wd_1255 hB _) (by decide +kernel) ⟨Nat.le_of_ble_eq_true rfl, Nat.le_of_ble_eq_true rfl⟩), (wd_1256 hB _)⟩ ⟨pe_bl, pe_pre hB hK hP hD⟩ rfl rfl hl.1 rfl (lv_room (Nat.le_of_ble_eq_true rfl)) d_M_work_370 ⟨Nat.le_of_ble_eq_true rfl, Nat.le_of_ble_eq_true rfl⟩) hS (fun r367 f368 H locs hq369 hP hD hS => ?_)
                            subst hq369
                            refine lv_bipush (v := nI 120) hx hb d_M_work_373 (by decide) ?_
                            refine lv_icmp_le (tgt := 382) hx hb d_M_work_375 (by decide) (fun b370 => ?_) (fun b370 => ?_)
                            · skip
                              refine lv_iconst (v := nI 0) hx hb d_M_work_382 (by decide) ?_
                              refine pf_put (v := .int (nI 0)) (ty := .int) (fs' := [.int mth, .ref (g.lk M 1), .int (nI mn), .ref (g.lk M 3), .ref (g.lk M 4), .int (nI mdr), .ref (g.lk M 6), .ref (g.lk M 7), .ref (g.lk M 8), .int (nI msz), .int (nI mix), .int (nI mdp), .ref (g.lk M 12), .int (nI mwt), .ref (g.lk M 14), .ref (g.lk M 15), .int (nI mop), .ref (g.lk M 17), .ref (g.lk M 18), .ref (g.lk M 19), .ref (g.lk M 20), .ref (g.lk M 21), .ref (g.lk M 22), .ref (g.lk M 23), .ref (g.lk M 24), .ref (g.lk M 25), .ref (g.lk M 26), .ref (g.lk M 27), .ref (g.lk M 28), .ref (g.lk M 29), .ref (g.lk M 30), .ref (g.lk M 31), .int (nI (mtp - 1)), .ref (g.lk M 33), .ref (g.lk M 34), .ref (g.lk M 35), .int (nI mwa), .int (nI mgi), .int (nI mpc), .int (nI mst), .int (nI 0), .int (nI msp), .int iv5, .int iv12, .int mdu]) (C := "BigRunnerModel") (T := FT10) (N := 45) hx hb (hw10 hB _) (fun _ h9 => h9) TY10 ok10 nm10 hown hK hP hD hS (lo_in hL t_M (by decide)) e19 rfl 40 (by decide) (wd_987 hB _) rfl (by decide +kernel) rfl rfl (Nat.le_of_ble_eq_true rfl) rfl d_M_work_383 (fun f371 H locs e372 k373 hP hD hS => ?_)
                              have eC := (k373 (g.lk M 6) (tg_ne (lo_k11_6 hL _ t_M) t_M (by decide))).trans eC
                              have eA := (k373 (g.lk M 7) (tg_ne (lo_k11_7 hL _ t_M) t_M (by decide))).trans eA
                              have e252 := (k373 (g.lk M 31) (tg_ne (lo_k11_31 hL _ t_M) t_M (by decide))).trans e252
                              have hu := hu.st k373 t_M (by decide)
                              have hk374 : ∀ b, b ≠ M → f371 b = f338 b := k373
                              refine lv_aload_n hx hb d_M_work_386 rfl (lv_at hl 4 rfl) ?_
                              refine pf_get (v := .int (nI 0)) (C := "BigRunnerModel") (T := FT10) (N := 45) hx hb (hw10 hB _) (fun _ h9 => h9) hown hK hP (lo_in hL t_M (by decide)) e372 rfl 40 (by decide) (wd_987 hB _) rfl d_M_work_387 ?_
                              refine lv_if_ne (tgt := 400) hx hb d_M_work_390 (by decide) (fun b375 => ?_) (fun b375 => ?_)
                              · skip
                                replace b375 := mt (nI_eq (a := 0) (b := 0) (by omega) (by omega)).mpr b375
                                exfalso; omega
                              · skip
                                replace b375 := (nI_eq (a := 0) (b := 0) (by omega) (by omega)).mp b375
                                refine lv_aload_n hx hb d_M_work_393 rfl (lv_at hl 4 rfl) ?_
                                refine lv_iload_n hx hb d_M_work_394 rfl (lv_at hl 2 rfl) ?_
                                refine lv_iload hx hb d_M_work_395 (lv_at hl 1 rfl) ?_
                                have hI376 := iv_1 hI342 hL t_M (by decide) hk374 (oc_11.mk t_M (⟨mth, mn, mdr, msz, mix, mdp, mwt, mop, (mtp - 1), mwa, mgi, mpc, mst, 0, msp, iv5, iv12, mdu, e372, (by omega), (by omega), (by omega), (by omega), (by omega), (by omega), (by omega), (by omega), (by omega), (by omega), (by omega), (by omega), (by omega), (by omega), hmb14⟩))
                                refine pcc_v (va_runV (C := "BigRunnerModel") (As := [.int (nI ((mtp - 1) - 1)), .int iv336]) (rest := []) ⟨hx, hb, hml, hown, tb_nil⟩ (m_keep l g H.size f371 M (((mtp - 1) - 1)) iv336 hL t_M hI376 (by omega)) ⟨(callB_of 2 (tb_one (wd_1261 hB _)) tb_good1 rfl rfl rfl (wd_82 hB _) (wd_1258 hB _) (by decide +kernel) ⟨Nat.le_of_ble_eq_true rfl, Nat.le_of_ble_eq_true rfl⟩), (wd_1260 hB _), (wd_70 hB _)⟩ ⟨pe_bl, pg_recv (ci := 10) hK hP (lo_in hL t_M (by decide)) e372 rfl, pe_pre hB hK hP hD⟩ rfl rfl hl.1 rfl (lv_room (Nat.le_of_ble_eq_true rfl)) d_M_work_397 ⟨Nat.le_of_ble_eq_true rfl, Nat.le_of_ble_eq_true rfl⟩) hS (fun f378 H locs hq379 hP hD hS => ?_)
                                obtain ⟨hI1_380, hu1_381⟩ := hq379
                                have hu := hu.tr hu1_381 (by decide)
                                have eC := hu1_381.at (lo_k11_6 hL _ t_M) (by decide) eC
                                have eA := hu1_381.at (lo_k11_7 hL _ t_M) (by decide) eA
                                have e372 := hu1_381.at t_M (by decide) e372
                                exact pe_vret hx hb hr hlocks hK hP hD hS d_M_work_400 ⟨⟨(mtp - 1), iv5, iv12, 0, by omega, by omega, (fun z9 => TR.mk (fun _ => by omega) (fun _ => by omega) (fun _ _ => by omega)), e372⟩, hI1_380, hu⟩
                            · skip
                              refine lv_iconst (v := nI 2) hx hb d_M_work_378 (by decide) ?_
                              refine lv_goto (tgt := 383) hx hb d_M_work_379 (by decide) ?_
                              refine pf_put (v := .int (nI 2)) (ty := .int) (fs' := [.int mth, .ref (g.lk M 1), .int (nI mn), .ref (g.lk M 3), .ref (g.lk M 4), .int (nI mdr), .ref (g.lk M 6), .ref (g.lk M 7), .ref (g.lk M 8), .int (nI msz), .int (nI mix), .int (nI mdp), .ref (g.lk M 12), .int (nI mwt), .ref (g.lk M 14), .ref (g.lk M 15), .int (nI mop), .ref (g.lk M 17), .ref (g.lk M 18), .ref (g.lk M 19), .ref (g.lk M 20), .ref (g.lk M 21), .ref (g.lk M 22), .ref (g.lk M 23), .ref (g.lk M 24), .ref (g.lk M 25), .ref (g.lk M 26), .ref (g.lk M 27), .ref (g.lk M 28), .ref (g.lk M 29), .ref (g.lk M 30), .ref (g.lk M 31), .int (nI (mtp - 1)), .ref (g.lk M 33), .ref (g.lk M 34), .ref (g.lk M 35), .int (nI mwa), .int (nI mgi), .int (nI mpc), .int (nI mst), .int (nI 2), .int (nI msp), .int iv5, .int iv12, .int mdu]) (C := "BigRunnerModel") (T := FT10) (N := 45) hx hb (hw10 hB _) (fun _ h9 => h9) TY10 ok10 nm10 hown hK hP hD hS (lo_in hL t_M (by decide)) e19 rfl 40 (by decide) (wd_987 hB _) rfl (by decide +kernel) rfl rfl (Nat.le_of_ble_eq_true rfl) rfl d_M_work_383 (fun f382 H locs e383 k384 hP hD hS => ?_)
                              have eC := (k384 (g.lk M 6) (tg_ne (lo_k11_6 hL _ t_M) t_M (by decide))).trans eC
                              have eA := (k384 (g.lk M 7) (tg_ne (lo_k11_7 hL _ t_M) t_M (by decide))).trans eA
                              have e252 := (k384 (g.lk M 31) (tg_ne (lo_k11_31 hL _ t_M) t_M (by decide))).trans e252
                              have hu := hu.st k384 t_M (by decide)
                              have hk385 : ∀ b, b ≠ M → f382 b = f338 b := k384
                              refine lv_aload_n hx hb d_M_work_386 rfl (lv_at hl 4 rfl) ?_
                              refine pf_get (v := .int (nI 2)) (C := "BigRunnerModel") (T := FT10) (N := 45) hx hb (hw10 hB _) (fun _ h9 => h9) hown hK hP (lo_in hL t_M (by decide)) e383 rfl 40 (by decide) (wd_987 hB _) rfl d_M_work_387 ?_
                              refine lv_if_ne (tgt := 400) hx hb d_M_work_390 (by decide) (fun b386 => ?_) (fun b386 => ?_)
                              · skip
                                replace b386 := mt (nI_eq (a := 2) (b := 0) (by omega) (by omega)).mpr b386
                                have hI387 := iv_1 hI342 hL t_M (by decide) hk385 (oc_11.mk t_M (⟨mth, mn, mdr, msz, mix, mdp, mwt, mop, (mtp - 1), mwa, mgi, mpc, mst, 2, msp, iv5, iv12, mdu, e383, (by omega), (by omega), (by omega), (by omega), (by omega), (by omega), (by omega), (by omega), (by omega), (by omega), (by omega), (by omega), (by omega), (by omega), hmb14⟩))
                                exact pe_vret hx hb hr hlocks hK hP hD hS d_M_work_400 ⟨⟨(mtp - 1), iv5, iv12, 2, by omega, by omega, (fun z9 => TR.mk (fun _ => by omega) (fun _ => by omega) (fun _ _ => by omega)), e383⟩, hI387, hu⟩
                              · skip
                                replace b386 := (nI_eq (a := 2) (b := 0) (by omega) (by omega)).mp b386
                                exfalso; omega
                          · skip
                            replace b366 := (nI_eq (a := w) (b := 6) (by omega) (by omega)).mp b366
                            refine lv_aload_n hx hb d_M_work_342 rfl (lv_at hl 4 rfl) ?_
                            refine pf_get (v := .ref (g.lk M 33)) (C := "BigRunnerModel") (T := FT10) (N := 45) hx hb (hw10 hB _) (fun _ h9 => h9) hown hK hP (lo_in hL t_M (by decide)) e19 rfl 33 (by decide) (wd_980 hB _) rfl d_M_work_343 ?_
                            refine lv_iload hx hb d_M_work_346 (lv_at hl 0 rfl) ?_
                            refine lv_aload_n hx hb d_M_work_348 rfl (lv_at hl 4 rfl) ?_
                            refine pf_get (v := .ref (g.lk M 34)) (C := "BigRunnerModel") (T := FT10) (N := 45) hx hb (hw10 hB _) (fun _ h9 => h9) hown hK hP (lo_in hL t_M (by decide)) e19 rfl 34 (by decide) (wd_981 hB _) rfl d_M_work_349 ?_
                            refine lv_iload hx hb d_M_work_352 (lv_at hl 0 rfl) ?_
                            obtain ⟨h_389, e388⟩ := oc_65.of (lo_k11_34 hL _ t_M) (hI342.1 (g.lk M 34))
                            refine pf_iald (i := i) hx hb hK hP (lo_in hL (lo_k11_34 hL _ t_M) (by decide)) e388 (lo_t65 hL _ (lo_k11_34 hL _ t_M)) (by omega) (by decide) d_M_work_354 ?_
                            refine lv_topi (fun iv391 _ => ?_)
                            obtain ⟨h_393, e392⟩ := oc_64.of (lo_k11_33 hL _ t_M) (hI342.1 (g.lk M 33))
                            refine pf_iast (i := i) hx hb hK hP hD hS (lo_in hL (lo_k11_33 hL _ t_M) (by decide)) e392 (lo_t64 hL _ (lo_k11_33 hL _ t_M)) (by omega) (by decide) d_M_work_355 (fun f395 H locs e396 k397 hP hD hS => ?_)
                            have eC := (k397 (g.lk M 6) (tg_ne (lo_k11_6 hL _ t_M) (lo_k11_33 hL _ t_M) (by decide))).trans eC
                            have eA := (k397 (g.lk M 7) (tg_ne (lo_k11_7 hL _ t_M) (lo_k11_33 hL _ t_M) (by decide))).trans eA
                            have e19 := (k397 M (tg_ne t_M (lo_k11_33 hL _ t_M) (by decide))).trans e19
                            have e252 := (k397 (g.lk M 31) (tg_ne (lo_k11_31 hL _ t_M) (lo_k11_33 hL _ t_M) (by decide))).trans e252
                            have e388 := (k397 (g.lk M 34) (tg_ne (lo_k11_34 hL _ t_M) (lo_k11_33 hL _ t_M) (by decide))).trans e388
                            have hu := hu.st k397 (lo_k11_33 hL _ t_M) (by decide)
                            have hv343 := hv343.st k397 (lo_k11_33 hL _ t_M) (by decide)
                            have hk398 : ∀ b, b ≠ (g.lk M 33) → f395 b = f338 b := k397
                            refine lv_iinc (k := 0) (v := nI (i + 1)) (lv' := [(5, .int (nI (i + 1))), (4, .int iv336), (3, .int (nI ((mtp - 1) - 1))), (2, .int (nI w)), (0, .ref M), (1, .int (nI p9))]) hx hb d_M_work_356 hl rfl (by rw [nI_succ]; rfl) (by decide) rfl (fun ls hl => ?_)
                            refine lv_goto (tgt := 329) hx hb d_M_work_359 (by decide) ?_
                            have hI399 := iv_1 hI342 hL (lo_k11_33 hL _ t_M) (by decide) hk398 (oc_64.mk (lo_k11_33 hL _ t_M) (⟨_, e396⟩))
                            exact ih340 (i + 1) f395 H locs ls (by omega) (by omega) hI399 hv343 hl hP hD hS
                    exact lp337 21 0 f265 H locs ls (by omega) (by omega) hI1_267 un.rf hl hP hD hS
                · skip
                  replace b263 := mt (nI_leI (a := 5) (b := w) (by omega) (by omega)).mpr b263
                  refine lv_iload_n hx hb d_M_work_244 rfl (lv_at hl 2 rfl) ?_
                  refine lv_iconst (v := nI 4) hx hb d_M_work_245 (by decide) ?_
                  refine lv_icmp_ne (tgt := 261) hx hb d_M_work_246 (by decide) (fun b400 => ?_) (fun b400 => ?_)
                  · skip
                    replace b400 := mt (nI_eq (a := w) (b := 4) (by omega) (by omega)).mpr b400
                    refine lv_aload_n hx hb d_M_work_261 rfl (lv_at hl 3 rfl) ?_
                    refine lv_iload_n hx hb d_M_work_262 rfl (lv_at hl 1 rfl) ?_
                    refine lv_aload_n hx hb d_M_work_263 rfl (lv_at hl 3 rfl) ?_
                    refine pf_get (v := .int (nI (mtp - 1))) (C := "BigRunnerModel") (T := FT10) (N := 45) hx hb (hw10 hB _) (fun _ h9 => h9) hown hK hP (lo_in hL t_M (by decide)) e19 rfl 32 (by decide) (wd_979 hB _) rfl d_M_work_264 ?_
                    refine lv_iload_n hx hb d_M_work_267 rfl (lv_at hl 2 rfl) ?_
                    refine lv_iconst (v := nI 2) hx hb d_M_work_268 (by decide) ?_
                    refine lv_icmp_ne (tgt := 276) hx hb d_M_work_269 (by decide) (fun b401 => ?_) (fun b401 => ?_)
                    · skip
                      replace b401 := mt (nI_eq (a := w) (b := 2) (by omega) (by omega)).mpr b401
                      refine lv_iconst (v := (-1)) hx hb d_M_work_276 (by decide) ?_
                      refine pcc_i (va_runV (C := "BigRunnerModel") (As := [.int (nI ((mtp - 1) - 1)), .int (nI (mtp - 1)), .int (-1)]) (rest := []) ⟨hx, hb, hml, hown, tb_nil⟩ (m_sum l g H.size f259 M (((mtp - 1) - 1)) ((mtp - 1)) ((-1)) hL t_M hI1_261 (by omega) (by omega)) ⟨(callB_of 3 (tb_one (wd_1237 hB _)) tb_good1 rfl rfl rfl (wd_82 hB _) (wd_1234 hB _) (by decide +kernel) ⟨Nat.le_of_ble_eq_true rfl, Nat.le_of_ble_eq_true rfl⟩), (wd_1236 hB _), (wd_65 hB _)⟩ ⟨pe_bl, pg_recv (ci := 10) hK hP (lo_in hL t_M (by decide)) e19 rfl, pe_pre hB hK hP hD⟩ rfl rfl hl.1 rfl (lv_room (Nat.le_of_ble_eq_true rfl)) d_M_work_277 ⟨Nat.le_of_ble_eq_true rfl, Nat.le_of_ble_eq_true rfl⟩) hS (fun r402 f403 H locs hq404 hP hD hS => ?_)
                      obtain ⟨hI1_405, hu1_406⟩ := hq404
                      have hu := hu.tr hu1_406 (by decide)
                      have eC := hu1_406.at (lo_k11_6 hL _ t_M) (by decide) eC
                      have eA := hu1_406.at (lo_k11_7 hL _ t_M) (by decide) eA
                      have e19 := hu1_406.at t_M (by decide) e19
                      have e252 := hu1_406.at (lo_k11_31 hL _ t_M) (by decide) e252
                      refine lv_istore (lv' := [(4, .int r402), (3, .int (nI ((mtp - 1) - 1))), (2, .int (nI w)), (0, .ref M), (1, .int (nI p9))]) hx hb d_M_work_280 hl (by decide) rfl (fun ls hl => ?_)
                      refine lv_goto (tgt := 362) hx hb d_M_work_282 (by decide) ?_
                      refine lv_aload_n hx hb d_M_work_362 rfl (lv_at hl 3 rfl) ?_
                      refine lv_aload_n hx hb d_M_work_363 rfl (lv_at hl 3 rfl) ?_
                      refine pf_get (v := .ref (g.lk M 33)) (C := "BigRunnerModel") (T := FT10) (N := 45) hx hb (hw10 hB _) (fun _ h9 => h9) hown hK hP (lo_in hL t_M (by decide)) e19 rfl 33 (by decide) (wd_980 hB _) rfl d_M_work_364 ?_
                      refine lv_iconst (v := nI 0) hx hb d_M_work_367 (by decide) ?_
                      refine lv_bipush (v := nI 44) hx hb d_M_work_368 (by decide) ?_
                      refine pcc_i (va_runS (As := [.ref (g.lk M 33), .int (nI 0), .int (nI 44)]) (rest := [.ref M]) ⟨hx, hb, hml, hown, tb_nil⟩ (m_digitsOf64 l g H.size f403 ((g.lk M 33)) 0 44 hL (lo_k11_33 hL _ t_M) hI1_405.1 (by omega)) ⟨(callB_of 3 (tb_one (wd_1257 hB _)) tb_good1 rfl rfl rfl (wd_82 hB _) (wd_1255 hB _) (by decide +kernel) ⟨Nat.le_of_ble_eq_true rfl, Nat.le_of_ble_eq_true rfl⟩), (wd_1256 hB _)⟩ ⟨pe_bl, pe_pre hB hK hP hD⟩ rfl rfl hl.1 rfl (lv_room (Nat.le_of_ble_eq_true rfl)) d_M_work_370 ⟨Nat.le_of_ble_eq_true rfl, Nat.le_of_ble_eq_true rfl⟩) hS (fun r407 f408 H locs hq409 hP hD hS => ?_)
                      subst hq409
                      refine lv_bipush (v := nI 120) hx hb d_M_work_373 (by decide) ?_
                      refine lv_icmp_le (tgt := 382) hx hb d_M_work_375 (by decide) (fun b410 => ?_) (fun b410 => ?_)
                      · skip
                        refine lv_iconst (v := nI 0) hx hb d_M_work_382 (by decide) ?_
                        refine pf_put (v := .int (nI 0)) (ty := .int) (fs' := [.int mth, .ref (g.lk M 1), .int (nI mn), .ref (g.lk M 3), .ref (g.lk M 4), .int (nI mdr), .ref (g.lk M 6), .ref (g.lk M 7), .ref (g.lk M 8), .int (nI msz), .int (nI mix), .int (nI mdp), .ref (g.lk M 12), .int (nI mwt), .ref (g.lk M 14), .ref (g.lk M 15), .int (nI mop), .ref (g.lk M 17), .ref (g.lk M 18), .ref (g.lk M 19), .ref (g.lk M 20), .ref (g.lk M 21), .ref (g.lk M 22), .ref (g.lk M 23), .ref (g.lk M 24), .ref (g.lk M 25), .ref (g.lk M 26), .ref (g.lk M 27), .ref (g.lk M 28), .ref (g.lk M 29), .ref (g.lk M 30), .ref (g.lk M 31), .int (nI (mtp - 1)), .ref (g.lk M 33), .ref (g.lk M 34), .ref (g.lk M 35), .int (nI mwa), .int (nI mgi), .int (nI mpc), .int (nI mst), .int (nI 0), .int (nI msp), .int iv5, .int iv12, .int mdu]) (C := "BigRunnerModel") (T := FT10) (N := 45) hx hb (hw10 hB _) (fun _ h9 => h9) TY10 ok10 nm10 hown hK hP hD hS (lo_in hL t_M (by decide)) e19 rfl 40 (by decide) (wd_987 hB _) rfl (by decide +kernel) rfl rfl (Nat.le_of_ble_eq_true rfl) rfl d_M_work_383 (fun f411 H locs e412 k413 hP hD hS => ?_)
                        have eC := (k413 (g.lk M 6) (tg_ne (lo_k11_6 hL _ t_M) t_M (by decide))).trans eC
                        have eA := (k413 (g.lk M 7) (tg_ne (lo_k11_7 hL _ t_M) t_M (by decide))).trans eA
                        have e252 := (k413 (g.lk M 31) (tg_ne (lo_k11_31 hL _ t_M) t_M (by decide))).trans e252
                        have hu := hu.st k413 t_M (by decide)
                        have hk414 : ∀ b, b ≠ M → f411 b = f403 b := k413
                        refine lv_aload_n hx hb d_M_work_386 rfl (lv_at hl 3 rfl) ?_
                        refine pf_get (v := .int (nI 0)) (C := "BigRunnerModel") (T := FT10) (N := 45) hx hb (hw10 hB _) (fun _ h9 => h9) hown hK hP (lo_in hL t_M (by decide)) e412 rfl 40 (by decide) (wd_987 hB _) rfl d_M_work_387 ?_
                        refine lv_if_ne (tgt := 400) hx hb d_M_work_390 (by decide) (fun b415 => ?_) (fun b415 => ?_)
                        · skip
                          replace b415 := mt (nI_eq (a := 0) (b := 0) (by omega) (by omega)).mpr b415
                          exfalso; omega
                        · skip
                          replace b415 := (nI_eq (a := 0) (b := 0) (by omega) (by omega)).mp b415
                          refine lv_aload_n hx hb d_M_work_393 rfl (lv_at hl 3 rfl) ?_
                          refine lv_iload_n hx hb d_M_work_394 rfl (lv_at hl 1 rfl) ?_
                          refine lv_iload hx hb d_M_work_395 (lv_at hl 0 rfl) ?_
                          have hI416 := iv_1 hI1_405 hL t_M (by decide) hk414 (oc_11.mk t_M (⟨mth, mn, mdr, msz, mix, mdp, mwt, mop, (mtp - 1), mwa, mgi, mpc, mst, 0, msp, iv5, iv12, mdu, e412, (by omega), (by omega), (by omega), (by omega), (by omega), (by omega), (by omega), (by omega), (by omega), (by omega), (by omega), (by omega), (by omega), (by omega), hmb14⟩))
                          refine pcc_v (va_runV (C := "BigRunnerModel") (As := [.int (nI ((mtp - 1) - 1)), .int r402]) (rest := []) ⟨hx, hb, hml, hown, tb_nil⟩ (m_keep l g H.size f411 M (((mtp - 1) - 1)) r402 hL t_M hI416 (by omega)) ⟨(callB_of 2 (tb_one (wd_1261 hB _)) tb_good1 rfl rfl rfl (wd_82 hB _) (wd_1258 hB _) (by decide +kernel) ⟨Nat.le_of_ble_eq_true rfl, Nat.le_of_ble_eq_true rfl⟩), (wd_1260 hB _), (wd_70 hB _)⟩ ⟨pe_bl, pg_recv (ci := 10) hK hP (lo_in hL t_M (by decide)) e412 rfl, pe_pre hB hK hP hD⟩ rfl rfl hl.1 rfl (lv_room (Nat.le_of_ble_eq_true rfl)) d_M_work_397 ⟨Nat.le_of_ble_eq_true rfl, Nat.le_of_ble_eq_true rfl⟩) hS (fun f418 H locs hq419 hP hD hS => ?_)
                          obtain ⟨hI1_420, hu1_421⟩ := hq419
                          have hu := hu.tr hu1_421 (by decide)
                          have eC := hu1_421.at (lo_k11_6 hL _ t_M) (by decide) eC
                          have eA := hu1_421.at (lo_k11_7 hL _ t_M) (by decide) eA
                          have e412 := hu1_421.at t_M (by decide) e412
                          exact pe_vret hx hb hr hlocks hK hP hD hS d_M_work_400 ⟨⟨(mtp - 1), iv5, iv12, 0, by omega, by omega, (fun z9 => TR.mk (fun _ => by omega) (fun _ => by omega) (fun _ _ => by omega)), e412⟩, hI1_420, hu⟩
                      · skip
                        refine lv_iconst (v := nI 2) hx hb d_M_work_378 (by decide) ?_
                        refine lv_goto (tgt := 383) hx hb d_M_work_379 (by decide) ?_
                        refine pf_put (v := .int (nI 2)) (ty := .int) (fs' := [.int mth, .ref (g.lk M 1), .int (nI mn), .ref (g.lk M 3), .ref (g.lk M 4), .int (nI mdr), .ref (g.lk M 6), .ref (g.lk M 7), .ref (g.lk M 8), .int (nI msz), .int (nI mix), .int (nI mdp), .ref (g.lk M 12), .int (nI mwt), .ref (g.lk M 14), .ref (g.lk M 15), .int (nI mop), .ref (g.lk M 17), .ref (g.lk M 18), .ref (g.lk M 19), .ref (g.lk M 20), .ref (g.lk M 21), .ref (g.lk M 22), .ref (g.lk M 23), .ref (g.lk M 24), .ref (g.lk M 25), .ref (g.lk M 26), .ref (g.lk M 27), .ref (g.lk M 28), .ref (g.lk M 29), .ref (g.lk M 30), .ref (g.lk M 31), .int (nI (mtp - 1)), .ref (g.lk M 33), .ref (g.lk M 34), .ref (g.lk M 35), .int (nI mwa), .int (nI mgi), .int (nI mpc), .int (nI mst), .int (nI 2), .int (nI msp), .int iv5, .int iv12, .int mdu]) (C := "BigRunnerModel") (T := FT10) (N := 45) hx hb (hw10 hB _) (fun _ h9 => h9) TY10 ok10 nm10 hown hK hP hD hS (lo_in hL t_M (by decide)) e19 rfl 40 (by decide) (wd_987 hB _) rfl (by decide +kernel) rfl rfl (Nat.le_of_ble_eq_true rfl) rfl d_M_work_383 (fun f422 H locs e423 k424 hP hD hS => ?_)
                        have eC := (k424 (g.lk M 6) (tg_ne (lo_k11_6 hL _ t_M) t_M (by decide))).trans eC
                        have eA := (k424 (g.lk M 7) (tg_ne (lo_k11_7 hL _ t_M) t_M (by decide))).trans eA
                        have e252 := (k424 (g.lk M 31) (tg_ne (lo_k11_31 hL _ t_M) t_M (by decide))).trans e252
                        have hu := hu.st k424 t_M (by decide)
                        have hk425 : ∀ b, b ≠ M → f422 b = f403 b := k424
                        refine lv_aload_n hx hb d_M_work_386 rfl (lv_at hl 3 rfl) ?_
                        refine pf_get (v := .int (nI 2)) (C := "BigRunnerModel") (T := FT10) (N := 45) hx hb (hw10 hB _) (fun _ h9 => h9) hown hK hP (lo_in hL t_M (by decide)) e423 rfl 40 (by decide) (wd_987 hB _) rfl d_M_work_387 ?_
                        refine lv_if_ne (tgt := 400) hx hb d_M_work_390 (by decide) (fun b426 => ?_) (fun b426 => ?_)
                        · skip
                          replace b426 := mt (nI_eq (a := 2) (b := 0) (by omega) (by omega)).mpr b426
                          have hI427 := iv_1 hI1_405 hL t_M (by decide) hk425 (oc_11.mk t_M (⟨mth, mn, mdr, msz, mix, mdp, mwt, mop, (mtp - 1), mwa, mgi, mpc, mst, 2, msp, iv5, iv12, mdu, e423, (by omega), (by omega), (by omega), (by omega), (by omega), (by omega), (by omega), (by omega), (by omega), (by omega), (by omega), (by omega), (by omega), (by omega), hmb14⟩))
                          exact pe_vret hx hb hr hlocks hK hP hD hS d_M_work_400 ⟨⟨(mtp - 1), iv5, iv12, 2, by omega, by omega, (fun z9 => TR.mk (fun _ => by omega) (fun _ => by omega) (fun _ _ => by omega)), e423⟩, hI427, hu⟩
                        · skip
                          replace b426 := (nI_eq (a := 2) (b := 0) (by omega) (by omega)).mp b426
                          exfalso; omega
                    · skip
                      replace b401 := (nI_eq (a := w) (b := 2) (by omega) (by omega)).mp b401
                      refine lv_iconst (v := nI 1) hx hb d_M_work_272 (by decide) ?_
                      refine lv_goto (tgt := 277) hx hb d_M_work_273 (by decide) ?_
                      refine pcc_i (va_runV (C := "BigRunnerModel") (As := [.int (nI ((mtp - 1) - 1)), .int (nI (mtp - 1)), .int (nI 1)]) (rest := []) ⟨hx, hb, hml, hown, tb_nil⟩ (m_sum l g H.size f259 M (((mtp - 1) - 1)) ((mtp - 1)) ((nI 1)) hL t_M hI1_261 (by omega) (by omega)) ⟨(callB_of 3 (tb_one (wd_1237 hB _)) tb_good1 rfl rfl rfl (wd_82 hB _) (wd_1234 hB _) (by decide +kernel) ⟨Nat.le_of_ble_eq_true rfl, Nat.le_of_ble_eq_true rfl⟩), (wd_1236 hB _), (wd_65 hB _)⟩ ⟨pe_bl, pg_recv (ci := 10) hK hP (lo_in hL t_M (by decide)) e19 rfl, pe_pre hB hK hP hD⟩ rfl rfl hl.1 rfl (lv_room (Nat.le_of_ble_eq_true rfl)) d_M_work_277 ⟨Nat.le_of_ble_eq_true rfl, Nat.le_of_ble_eq_true rfl⟩) hS (fun r428 f429 H locs hq430 hP hD hS => ?_)
                      obtain ⟨hI1_431, hu1_432⟩ := hq430
                      have hu := hu.tr hu1_432 (by decide)
                      have eC := hu1_432.at (lo_k11_6 hL _ t_M) (by decide) eC
                      have eA := hu1_432.at (lo_k11_7 hL _ t_M) (by decide) eA
                      have e19 := hu1_432.at t_M (by decide) e19
                      have e252 := hu1_432.at (lo_k11_31 hL _ t_M) (by decide) e252
                      refine lv_istore (lv' := [(4, .int r428), (3, .int (nI ((mtp - 1) - 1))), (2, .int (nI w)), (0, .ref M), (1, .int (nI p9))]) hx hb d_M_work_280 hl (by decide) rfl (fun ls hl => ?_)
                      refine lv_goto (tgt := 362) hx hb d_M_work_282 (by decide) ?_
                      refine lv_aload_n hx hb d_M_work_362 rfl (lv_at hl 3 rfl) ?_
                      refine lv_aload_n hx hb d_M_work_363 rfl (lv_at hl 3 rfl) ?_
                      refine pf_get (v := .ref (g.lk M 33)) (C := "BigRunnerModel") (T := FT10) (N := 45) hx hb (hw10 hB _) (fun _ h9 => h9) hown hK hP (lo_in hL t_M (by decide)) e19 rfl 33 (by decide) (wd_980 hB _) rfl d_M_work_364 ?_
                      refine lv_iconst (v := nI 0) hx hb d_M_work_367 (by decide) ?_
                      refine lv_bipush (v := nI 44) hx hb d_M_work_368 (by decide) ?_
                      refine pcc_i (va_runS (As := [.ref (g.lk M 33), .int (nI 0), .int (nI 44)]) (rest := [.ref M]) ⟨hx, hb, hml, hown, tb_nil⟩ (m_digitsOf64 l g H.size f429 ((g.lk M 33)) 0 44 hL (lo_k11_33 hL _ t_M) hI1_431.1 (by omega)) ⟨(callB_of 3 (tb_one (wd_1257 hB _)) tb_good1 rfl rfl rfl (wd_82 hB _) (wd_1255 hB _) (by decide +kernel) ⟨Nat.le_of_ble_eq_true rfl, Nat.le_of_ble_eq_true rfl⟩), (wd_1256 hB _)⟩ ⟨pe_bl, pe_pre hB hK hP hD⟩ rfl rfl hl.1 rfl (lv_room (Nat.le_of_ble_eq_true rfl)) d_M_work_370 ⟨Nat.le_of_ble_eq_true rfl, Nat.le_of_ble_eq_true rfl⟩) hS (fun r433 f434 H locs hq435 hP hD hS => ?_)
                      subst hq435
                      refine lv_bipush (v := nI 120) hx hb d_M_work_373 (by decide) ?_
                      refine lv_icmp_le (tgt := 382) hx hb d_M_work_375 (by decide) (fun b436 => ?_) (fun b436 => ?_)
                      · skip
                        refine lv_iconst (v := nI 0) hx hb d_M_work_382 (by decide) ?_
                        refine pf_put (v := .int (nI 0)) (ty := .int) (fs' := [.int mth, .ref (g.lk M 1), .int (nI mn), .ref (g.lk M 3), .ref (g.lk M 4), .int (nI mdr), .ref (g.lk M 6), .ref (g.lk M 7), .ref (g.lk M 8), .int (nI msz), .int (nI mix), .int (nI mdp), .ref (g.lk M 12), .int (nI mwt), .ref (g.lk M 14), .ref (g.lk M 15), .int (nI mop), .ref (g.lk M 17), .ref (g.lk M 18), .ref (g.lk M 19), .ref (g.lk M 20), .ref (g.lk M 21), .ref (g.lk M 22), .ref (g.lk M 23), .ref (g.lk M 24), .ref (g.lk M 25), .ref (g.lk M 26), .ref (g.lk M 27), .ref (g.lk M 28), .ref (g.lk M 29), .ref (g.lk M 30), .ref (g.lk M 31), .int (nI (mtp - 1)), .ref (g.lk M 33), .ref (g.lk M 34), .ref (g.lk M 35), .int (nI mwa), .int (nI mgi), .int (nI mpc), .int (nI mst), .int (nI 0), .int (nI msp), .int iv5, .int iv12, .int mdu]) (C := "BigRunnerModel") (T := FT10) (N := 45) hx hb (hw10 hB _) (fun _ h9 => h9) TY10 ok10 nm10 hown hK hP hD hS (lo_in hL t_M (by decide)) e19 rfl 40 (by decide) (wd_987 hB _) rfl (by decide +kernel) rfl rfl (Nat.le_of_ble_eq_true rfl) rfl d_M_work_383 (fun f437 H locs e438 k439 hP hD hS => ?_)
                        have eC := (k439 (g.lk M 6) (tg_ne (lo_k11_6 hL _ t_M) t_M (by decide))).trans eC
                        have eA := (k439 (g.lk M 7) (tg_ne (lo_k11_7 hL _ t_M) t_M (by decide))).trans eA
                        have e252 := (k439 (g.lk M 31) (tg_ne (lo_k11_31 hL _ t_M) t_M (by decide))).trans e252
                        have hu := hu.st k439 t_M (by decide)
                        have hk440 : ∀ b, b ≠ M → f437 b = f429 b := k439
                        refine lv_aload_n hx hb d_M_work_386 rfl (lv_at hl 3 rfl) ?_
                        refine pf_get (v := .int (nI 0)) (C := "BigRunnerModel") (T := FT10) (N := 45) hx hb (hw10 hB _) (fun _ h9 => h9) hown hK hP (lo_in hL t_M (by decide)) e438 rfl 40 (by decide) (wd_987 hB _) rfl d_M_work_387 ?_
                        refine lv_if_ne (tgt := 400) hx hb d_M_work_390 (by decide) (fun b441 => ?_) (fun b441 => ?_)
                        · skip
                          replace b441 := mt (nI_eq (a := 0) (b := 0) (by omega) (by omega)).mpr b441
                          exfalso; omega
                        · skip
                          replace b441 := (nI_eq (a := 0) (b := 0) (by omega) (by omega)).mp b441
                          refine lv_aload_n hx hb d_M_work_393 rfl (lv_at hl 3 rfl) ?_
                          refine lv_iload_n hx hb d_M_work_394 rfl (lv_at hl 1 rfl) ?_
                          refine lv_iload hx hb d_M_work_395 (lv_at hl 0 rfl) ?_
                          have hI442 := iv_1 hI1_431 hL t_M (by decide) hk440 (oc_11.mk t_M (⟨mth, mn, mdr, msz, mix, mdp, mwt, mop, (mtp - 1), mwa, mgi, mpc, mst, 0, msp, iv5, iv12, mdu, e438, (by omega), (by omega), (by omega), (by omega), (by omega), (by omega), (by omega), (by omega), (by omega), (by omega), (by omega), (by omega), (by omega), (by omega), hmb14⟩))
                          refine pcc_v (va_runV (C := "BigRunnerModel") (As := [.int (nI ((mtp - 1) - 1)), .int r428]) (rest := []) ⟨hx, hb, hml, hown, tb_nil⟩ (m_keep l g H.size f437 M (((mtp - 1) - 1)) r428 hL t_M hI442 (by omega)) ⟨(callB_of 2 (tb_one (wd_1261 hB _)) tb_good1 rfl rfl rfl (wd_82 hB _) (wd_1258 hB _) (by decide +kernel) ⟨Nat.le_of_ble_eq_true rfl, Nat.le_of_ble_eq_true rfl⟩), (wd_1260 hB _), (wd_70 hB _)⟩ ⟨pe_bl, pg_recv (ci := 10) hK hP (lo_in hL t_M (by decide)) e438 rfl, pe_pre hB hK hP hD⟩ rfl rfl hl.1 rfl (lv_room (Nat.le_of_ble_eq_true rfl)) d_M_work_397 ⟨Nat.le_of_ble_eq_true rfl, Nat.le_of_ble_eq_true rfl⟩) hS (fun f444 H locs hq445 hP hD hS => ?_)
                          obtain ⟨hI1_446, hu1_447⟩ := hq445
                          have hu := hu.tr hu1_447 (by decide)
                          have eC := hu1_447.at (lo_k11_6 hL _ t_M) (by decide) eC
                          have eA := hu1_447.at (lo_k11_7 hL _ t_M) (by decide) eA
                          have e438 := hu1_447.at t_M (by decide) e438
                          exact pe_vret hx hb hr hlocks hK hP hD hS d_M_work_400 ⟨⟨(mtp - 1), iv5, iv12, 0, by omega, by omega, (fun z9 => TR.mk (fun _ => by omega) (fun _ => by omega) (fun _ _ => by omega)), e438⟩, hI1_446, hu⟩
                      · skip
                        refine lv_iconst (v := nI 2) hx hb d_M_work_378 (by decide) ?_
                        refine lv_goto (tgt := 383) hx hb d_M_work_379 (by decide) ?_
                        refine pf_put (v := .int (nI 2)) (ty := .int) (fs' := [.int mth, .ref (g.lk M 1), .int (nI mn), .ref (g.lk M 3), .ref (g.lk M 4), .int (nI mdr), .ref (g.lk M 6), .ref (g.lk M 7), .ref (g.lk M 8), .int (nI msz), .int (nI mix), .int (nI mdp), .ref (g.lk M 12), .int (nI mwt), .ref (g.lk M 14), .ref (g.lk M 15), .int (nI mop), .ref (g.lk M 17), .ref (g.lk M 18), .ref (g.lk M 19), .ref (g.lk M 20), .ref (g.lk M 21), .ref (g.lk M 22), .ref (g.lk M 23), .ref (g.lk M 24), .ref (g.lk M 25), .ref (g.lk M 26), .ref (g.lk M 27), .ref (g.lk M 28), .ref (g.lk M 29), .ref (g.lk M 30), .ref (g.lk M 31), .int (nI (mtp - 1)), .ref (g.lk M 33), .ref (g.lk M 34), .ref (g.lk M 35), .int (nI mwa), .int (nI mgi), .int (nI mpc), .int (nI mst), .int (nI 2), .int (nI msp), .int iv5, .int iv12, .int mdu]) (C := "BigRunnerModel") (T := FT10) (N := 45) hx hb (hw10 hB _) (fun _ h9 => h9) TY10 ok10 nm10 hown hK hP hD hS (lo_in hL t_M (by decide)) e19 rfl 40 (by decide) (wd_987 hB _) rfl (by decide +kernel) rfl rfl (Nat.le_of_ble_eq_true rfl) rfl d_M_work_383 (fun f448 H locs e449 k450 hP hD hS => ?_)
                        have eC := (k450 (g.lk M 6) (tg_ne (lo_k11_6 hL _ t_M) t_M (by decide))).trans eC
                        have eA := (k450 (g.lk M 7) (tg_ne (lo_k11_7 hL _ t_M) t_M (by decide))).trans eA
                        have e252 := (k450 (g.lk M 31) (tg_ne (lo_k11_31 hL _ t_M) t_M (by decide))).trans e252
                        have hu := hu.st k450 t_M (by decide)
                        have hk451 : ∀ b, b ≠ M → f448 b = f429 b := k450
                        refine lv_aload_n hx hb d_M_work_386 rfl (lv_at hl 3 rfl) ?_
                        refine pf_get (v := .int (nI 2)) (C := "BigRunnerModel") (T := FT10) (N := 45) hx hb (hw10 hB _) (fun _ h9 => h9) hown hK hP (lo_in hL t_M (by decide)) e449 rfl 40 (by decide) (wd_987 hB _) rfl d_M_work_387 ?_
                        refine lv_if_ne (tgt := 400) hx hb d_M_work_390 (by decide) (fun b452 => ?_) (fun b452 => ?_)
                        · skip
                          replace b452 := mt (nI_eq (a := 2) (b := 0) (by omega) (by omega)).mpr b452
                          have hI453 := iv_1 hI1_431 hL t_M (by decide) hk451 (oc_11.mk t_M (⟨mth, mn, mdr, msz, mix, mdp, mwt, mop, (mtp - 1), mwa, mgi, mpc, mst, 2, msp, iv5, iv12, mdu, e449, (by omega), (by omega), (by omega), (by omega), (by omega), (by omega), (by omega), (by omega), (by omega), (by omega), (by omega), (by omega), (by omega), (by omega), hmb14⟩))
                          exact pe_vret hx hb hr hlocks hK hP hD hS d_M_work_400 ⟨⟨(mtp - 1), iv5, iv12, 2, by omega, by omega, (fun z9 => TR.mk (fun _ => by omega) (fun _ => by omega) (fun _ _ => by omega)), e449⟩, hI453, hu⟩
                        · skip
                          replace b452 := (nI_eq (a := 2) (b := 0) (by omega) (by omega)).mp b452
                          exfalso; omega
                  · skip
                    replace b400 := (nI_eq (a := w) (b := 4) (by omega) (by omega)).mp b400
                    refine lv_aload_n hx hb d_M_work_249 rfl (lv_at hl 3 rfl) ?_
                    refine lv_iload_n hx hb d_M_work_250 rfl (lv_at hl 1 rfl) ?_
                    refine lv_aload_n hx hb d_M_work_251 rfl (lv_at hl 3 rfl) ?_
                    refine pf_get (v := .int (nI (mtp - 1))) (C := "BigRunnerModel") (T := FT10) (N := 45) hx hb (hw10 hB _) (fun _ h9 => h9) hown hK hP (lo_in hL t_M (by decide)) e19 rfl 32 (by decide) (wd_979 hB _) rfl d_M_work_252 ?_
                    refine pcc_i (va_runV (C := "BigRunnerModel") (As := [.int (nI ((mtp - 1) - 1)), .int (nI (mtp - 1))]) (rest := []) ⟨hx, hb, hml, hown, tb_nil⟩ (m_product l g H.size f259 M (((mtp - 1) - 1)) ((mtp - 1)) hL t_M hI1_261 (by omega) (by omega)) ⟨(callB_of 2 (tb_one (wd_1228 hB _)) tb_good1 rfl rfl rfl (wd_82 hB _) (wd_1225 hB _) (by decide +kernel) ⟨Nat.le_of_ble_eq_true rfl, Nat.le_of_ble_eq_true rfl⟩), (wd_1227 hB _), (wd_63 hB _)⟩ ⟨pe_bl, pg_recv (ci := 10) hK hP (lo_in hL t_M (by decide)) e19 rfl, pe_pre hB hK hP hD⟩ rfl rfl hl.1 rfl (lv_room (Nat.le_of_ble_eq_true rfl)) d_M_work_255 ⟨Nat.le_of_ble_eq_true rfl, Nat.le_of_ble_eq_true rfl⟩) hS (fun r454 f455 H locs hq456 hP hD hS => ?_)
                    obtain ⟨hI1_457, hu1_458⟩ := hq456
                    have hu := hu.tr hu1_458 (by decide)
                    have eC := hu1_458.at (lo_k11_6 hL _ t_M) (by decide) eC
                    have eA := hu1_458.at (lo_k11_7 hL _ t_M) (by decide) eA
                    have e19 := hu1_458.at t_M (by decide) e19
                    have e252 := hu1_458.at (lo_k11_31 hL _ t_M) (by decide) e252
                    refine lv_goto (tgt := 280) hx hb d_M_work_258 (by decide) ?_
                    refine lv_istore (lv' := [(4, .int r454), (3, .int (nI ((mtp - 1) - 1))), (2, .int (nI w)), (0, .ref M), (1, .int (nI p9))]) hx hb d_M_work_280 hl (by decide) rfl (fun ls hl => ?_)
                    refine lv_goto (tgt := 362) hx hb d_M_work_282 (by decide) ?_
                    refine lv_aload_n hx hb d_M_work_362 rfl (lv_at hl 3 rfl) ?_
                    refine lv_aload_n hx hb d_M_work_363 rfl (lv_at hl 3 rfl) ?_
                    refine pf_get (v := .ref (g.lk M 33)) (C := "BigRunnerModel") (T := FT10) (N := 45) hx hb (hw10 hB _) (fun _ h9 => h9) hown hK hP (lo_in hL t_M (by decide)) e19 rfl 33 (by decide) (wd_980 hB _) rfl d_M_work_364 ?_
                    refine lv_iconst (v := nI 0) hx hb d_M_work_367 (by decide) ?_
                    refine lv_bipush (v := nI 44) hx hb d_M_work_368 (by decide) ?_
                    refine pcc_i (va_runS (As := [.ref (g.lk M 33), .int (nI 0), .int (nI 44)]) (rest := [.ref M]) ⟨hx, hb, hml, hown, tb_nil⟩ (m_digitsOf64 l g H.size f455 ((g.lk M 33)) 0 44 hL (lo_k11_33 hL _ t_M) hI1_457.1 (by omega)) ⟨(callB_of 3 (tb_one (wd_1257 hB _)) tb_good1 rfl rfl rfl (wd_82 hB _) (wd_1255 hB _) (by decide +kernel) ⟨Nat.le_of_ble_eq_true rfl, Nat.le_of_ble_eq_true rfl⟩), (wd_1256 hB _)⟩ ⟨pe_bl, pe_pre hB hK hP hD⟩ rfl rfl hl.1 rfl (lv_room (Nat.le_of_ble_eq_true rfl)) d_M_work_370 ⟨Nat.le_of_ble_eq_true rfl, Nat.le_of_ble_eq_true rfl⟩) hS (fun r459 f460 H locs hq461 hP hD hS => ?_)
                    subst hq461
                    refine lv_bipush (v := nI 120) hx hb d_M_work_373 (by decide) ?_
                    refine lv_icmp_le (tgt := 382) hx hb d_M_work_375 (by decide) (fun b462 => ?_) (fun b462 => ?_)
                    · skip
                      refine lv_iconst (v := nI 0) hx hb d_M_work_382 (by decide) ?_
                      refine pf_put (v := .int (nI 0)) (ty := .int) (fs' := [.int mth, .ref (g.lk M 1), .int (nI mn), .ref (g.lk M 3), .ref (g.lk M 4), .int (nI mdr), .ref (g.lk M 6), .ref (g.lk M 7), .ref (g.lk M 8), .int (nI msz), .int (nI mix), .int (nI mdp), .ref (g.lk M 12), .int (nI mwt), .ref (g.lk M 14), .ref (g.lk M 15), .int (nI mop), .ref (g.lk M 17), .ref (g.lk M 18), .ref (g.lk M 19), .ref (g.lk M 20), .ref (g.lk M 21), .ref (g.lk M 22), .ref (g.lk M 23), .ref (g.lk M 24), .ref (g.lk M 25), .ref (g.lk M 26), .ref (g.lk M 27), .ref (g.lk M 28), .ref (g.lk M 29), .ref (g.lk M 30), .ref (g.lk M 31), .int (nI (mtp - 1)), .ref (g.lk M 33), .ref (g.lk M 34), .ref (g.lk M 35), .int (nI mwa), .int (nI mgi), .int (nI mpc), .int (nI mst), .int (nI 0), .int (nI msp), .int iv5, .int iv12, .int mdu]) (C := "BigRunnerModel") (T := FT10) (N := 45) hx hb (hw10 hB _) (fun _ h9 => h9) TY10 ok10 nm10 hown hK hP hD hS (lo_in hL t_M (by decide)) e19 rfl 40 (by decide) (wd_987 hB _) rfl (by decide +kernel) rfl rfl (Nat.le_of_ble_eq_true rfl) rfl d_M_work_383 (fun f463 H locs e464 k465 hP hD hS => ?_)
                      have eC := (k465 (g.lk M 6) (tg_ne (lo_k11_6 hL _ t_M) t_M (by decide))).trans eC
                      have eA := (k465 (g.lk M 7) (tg_ne (lo_k11_7 hL _ t_M) t_M (by decide))).trans eA
                      have e252 := (k465 (g.lk M 31) (tg_ne (lo_k11_31 hL _ t_M) t_M (by decide))).trans e252
                      have hu := hu.st k465 t_M (by decide)
                      have hk466 : ∀ b, b ≠ M → f463 b = f455 b := k465
                      refine lv_aload_n hx hb d_M_work_386 rfl (lv_at hl 3 rfl) ?_
                      refine pf_get (v := .int (nI 0)) (C := "BigRunnerModel") (T := FT10) (N := 45) hx hb (hw10 hB _) (fun _ h9 => h9) hown hK hP (lo_in hL t_M (by decide)) e464 rfl 40 (by decide) (wd_987 hB _) rfl d_M_work_387 ?_
                      refine lv_if_ne (tgt := 400) hx hb d_M_work_390 (by decide) (fun b467 => ?_) (fun b467 => ?_)
                      · skip
                        replace b467 := mt (nI_eq (a := 0) (b := 0) (by omega) (by omega)).mpr b467
                        exfalso; omega
                      · skip
                        replace b467 := (nI_eq (a := 0) (b := 0) (by omega) (by omega)).mp b467
                        refine lv_aload_n hx hb d_M_work_393 rfl (lv_at hl 3 rfl) ?_
                        refine lv_iload_n hx hb d_M_work_394 rfl (lv_at hl 1 rfl) ?_
                        refine lv_iload hx hb d_M_work_395 (lv_at hl 0 rfl) ?_
                        have hI468 := iv_1 hI1_457 hL t_M (by decide) hk466 (oc_11.mk t_M (⟨mth, mn, mdr, msz, mix, mdp, mwt, mop, (mtp - 1), mwa, mgi, mpc, mst, 0, msp, iv5, iv12, mdu, e464, (by omega), (by omega), (by omega), (by omega), (by omega), (by omega), (by omega), (by omega), (by omega), (by omega), (by omega), (by omega), (by omega), (by omega), hmb14⟩))
                        refine pcc_v (va_runV (C := "BigRunnerModel") (As := [.int (nI ((mtp - 1) - 1)), .int r454]) (rest := []) ⟨hx, hb, hml, hown, tb_nil⟩ (m_keep l g H.size f463 M (((mtp - 1) - 1)) r454 hL t_M hI468 (by omega)) ⟨(callB_of 2 (tb_one (wd_1261 hB _)) tb_good1 rfl rfl rfl (wd_82 hB _) (wd_1258 hB _) (by decide +kernel) ⟨Nat.le_of_ble_eq_true rfl, Nat.le_of_ble_eq_true rfl⟩), (wd_1260 hB _), (wd_70 hB _)⟩ ⟨pe_bl, pg_recv (ci := 10) hK hP (lo_in hL t_M (by decide)) e464 rfl, pe_pre hB hK hP hD⟩ rfl rfl hl.1 rfl (lv_room (Nat.le_of_ble_eq_true rfl)) d_M_work_397 ⟨Nat.le_of_ble_eq_true rfl, Nat.le_of_ble_eq_true rfl⟩) hS (fun f470 H locs hq471 hP hD hS => ?_)
                        obtain ⟨hI1_472, hu1_473⟩ := hq471
                        have hu := hu.tr hu1_473 (by decide)
                        have eC := hu1_473.at (lo_k11_6 hL _ t_M) (by decide) eC
                        have eA := hu1_473.at (lo_k11_7 hL _ t_M) (by decide) eA
                        have e464 := hu1_473.at t_M (by decide) e464
                        exact pe_vret hx hb hr hlocks hK hP hD hS d_M_work_400 ⟨⟨(mtp - 1), iv5, iv12, 0, by omega, by omega, (fun z9 => TR.mk (fun _ => by omega) (fun _ => by omega) (fun _ _ => by omega)), e464⟩, hI1_472, hu⟩
                    · skip
                      refine lv_iconst (v := nI 2) hx hb d_M_work_378 (by decide) ?_
                      refine lv_goto (tgt := 383) hx hb d_M_work_379 (by decide) ?_
                      refine pf_put (v := .int (nI 2)) (ty := .int) (fs' := [.int mth, .ref (g.lk M 1), .int (nI mn), .ref (g.lk M 3), .ref (g.lk M 4), .int (nI mdr), .ref (g.lk M 6), .ref (g.lk M 7), .ref (g.lk M 8), .int (nI msz), .int (nI mix), .int (nI mdp), .ref (g.lk M 12), .int (nI mwt), .ref (g.lk M 14), .ref (g.lk M 15), .int (nI mop), .ref (g.lk M 17), .ref (g.lk M 18), .ref (g.lk M 19), .ref (g.lk M 20), .ref (g.lk M 21), .ref (g.lk M 22), .ref (g.lk M 23), .ref (g.lk M 24), .ref (g.lk M 25), .ref (g.lk M 26), .ref (g.lk M 27), .ref (g.lk M 28), .ref (g.lk M 29), .ref (g.lk M 30), .ref (g.lk M 31), .int (nI (mtp - 1)), .ref (g.lk M 33), .ref (g.lk M 34), .ref (g.lk M 35), .int (nI mwa), .int (nI mgi), .int (nI mpc), .int (nI mst), .int (nI 2), .int (nI msp), .int iv5, .int iv12, .int mdu]) (C := "BigRunnerModel") (T := FT10) (N := 45) hx hb (hw10 hB _) (fun _ h9 => h9) TY10 ok10 nm10 hown hK hP hD hS (lo_in hL t_M (by decide)) e19 rfl 40 (by decide) (wd_987 hB _) rfl (by decide +kernel) rfl rfl (Nat.le_of_ble_eq_true rfl) rfl d_M_work_383 (fun f474 H locs e475 k476 hP hD hS => ?_)
                      have eC := (k476 (g.lk M 6) (tg_ne (lo_k11_6 hL _ t_M) t_M (by decide))).trans eC
                      have eA := (k476 (g.lk M 7) (tg_ne (lo_k11_7 hL _ t_M) t_M (by decide))).trans eA
                      have e252 := (k476 (g.lk M 31) (tg_ne (lo_k11_31 hL _ t_M) t_M (by decide))).trans e252
                      have hu := hu.st k476 t_M (by decide)
                      have hk477 : ∀ b, b ≠ M → f474 b = f455 b := k476
                      refine lv_aload_n hx hb d_M_work_386 rfl (lv_at hl 3 rfl) ?_
                      refine pf_get (v := .int (nI 2)) (C := "BigRunnerModel") (T := FT10) (N := 45) hx hb (hw10 hB _) (fun _ h9 => h9) hown hK hP (lo_in hL t_M (by decide)) e475 rfl 40 (by decide) (wd_987 hB _) rfl d_M_work_387 ?_
                      refine lv_if_ne (tgt := 400) hx hb d_M_work_390 (by decide) (fun b478 => ?_) (fun b478 => ?_)
                      · skip
                        replace b478 := mt (nI_eq (a := 2) (b := 0) (by omega) (by omega)).mpr b478
                        have hI479 := iv_1 hI1_457 hL t_M (by decide) hk477 (oc_11.mk t_M (⟨mth, mn, mdr, msz, mix, mdp, mwt, mop, (mtp - 1), mwa, mgi, mpc, mst, 2, msp, iv5, iv12, mdu, e475, (by omega), (by omega), (by omega), (by omega), (by omega), (by omega), (by omega), (by omega), (by omega), (by omega), (by omega), (by omega), (by omega), (by omega), hmb14⟩))
                        exact pe_vret hx hb hr hlocks hK hP hD hS d_M_work_400 ⟨⟨(mtp - 1), iv5, iv12, 2, by omega, by omega, (fun z9 => TR.mk (fun _ => by omega) (fun _ => by omega) (fun _ _ => by omega)), e475⟩, hI479, hu⟩
                      · skip
                        replace b478 := (nI_eq (a := 2) (b := 0) (by omega) (by omega)).mp b478
                        exfalso; omega
              · skip
                refine lv_aload_n hx hb d_M_work_226 rfl (lv_at hl 2 rfl) ?_
                refine lv_iconst (v := nI 1) hx hb d_M_work_227 (by decide) ?_
                refine pf_put (v := .int (nI 1)) (ty := .int) (fs' := [.int mth, .ref (g.lk M 1), .int (nI mn), .ref (g.lk M 3), .ref (g.lk M 4), .int (nI mdr), .ref (g.lk M 6), .ref (g.lk M 7), .ref (g.lk M 8), .int (nI msz), .int (nI mix), .int (nI mdp), .ref (g.lk M 12), .int (nI mwt), .ref (g.lk M 14), .ref (g.lk M 15), .int (nI mop), .ref (g.lk M 17), .ref (g.lk M 18), .ref (g.lk M 19), .ref (g.lk M 20), .ref (g.lk M 21), .ref (g.lk M 22), .ref (g.lk M 23), .ref (g.lk M 24), .ref (g.lk M 25), .ref (g.lk M 26), .ref (g.lk M 27), .ref (g.lk M 28), .ref (g.lk M 29), .ref (g.lk M 30), .ref (g.lk M 31), .int (nI (mtp - 1)), .ref (g.lk M 33), .ref (g.lk M 34), .ref (g.lk M 35), .int (nI mwa), .int (nI mgi), .int (nI mpc), .int (nI mst), .int (nI 1), .int (nI msp), .int iv5, .int iv12, .int mdu]) (C := "BigRunnerModel") (T := FT10) (N := 45) hx hb (hw10 hB _) (fun _ h9 => h9) TY10 ok10 nm10 hown hK hP hD hS (lo_in hL t_M (by decide)) e19 rfl 40 (by decide) (wd_987 hB _) rfl (by decide +kernel) rfl rfl (Nat.le_of_ble_eq_true rfl) rfl d_M_work_228 (fun f480 H locs e481 k482 hP hD hS => ?_)
                have eC := (k482 (g.lk M 6) (tg_ne (lo_k11_6 hL _ t_M) t_M (by decide))).trans eC
                have eA := (k482 (g.lk M 7) (tg_ne (lo_k11_7 hL _ t_M) t_M (by decide))).trans eA
                have e252 := (k482 (g.lk M 31) (tg_ne (lo_k11_31 hL _ t_M) t_M (by decide))).trans e252
                have hu := hu.st k482 t_M (by decide)
                have hk483 : ∀ b, b ≠ M → f480 b = f b := fun b q0 => (k482 b q0).trans (hk21 b q0)
                have hI484 := iv_1 hI hL t_M (by decide) hk483 (oc_11.mk t_M (⟨mth, mn, mdr, msz, mix, mdp, mwt, mop, (mtp - 1), mwa, mgi, mpc, mst, 1, msp, iv5, iv12, mdu, e481, (by omega), (by omega), (by omega), (by omega), (by omega), (by omega), (by omega), (by omega), (by omega), (by omega), (by omega), (by omega), (by omega), (by omega), hmb14⟩))
                exact pe_vret hx hb hr hlocks hK hP hD hS d_M_work_231 ⟨⟨(mtp - 1), iv5, iv12, 1, by omega, by omega, (fun z9 => TR.mk (fun _ => by omega) (fun _ => by omega) (fun _ _ => by omega)), e481⟩, hI484, hu⟩
          · skip
            replace b17 := (nI_eq (a := w) (b := 7) (by omega) (by omega)).mp b17
            refine lv_aload_n hx hb d_M_work_168 rfl (lv_at hl 1 rfl) ?_
            refine pf_get (v := .ref (g.lk M 31)) (C := "BigRunnerModel") (T := FT10) (N := 45) hx hb (hw10 hB _) (fun _ h9 => h9) hown hK hP (lo_in hL t_M (by decide)) e14 rfl 31 (by decide) (wd_978 hB _) rfl d_M_work_169 ?_
            refine lv_aload_n hx hb d_M_work_172 rfl (lv_at hl 1 rfl) ?_
            refine pf_get (v := .int (nI mtp)) (C := "BigRunnerModel") (T := FT10) (N := 45) hx hb (hw10 hB _) (fun _ h9 => h9) hown hK hP (lo_in hL t_M (by decide)) e14 rfl 32 (by decide) (wd_979 hB _) rfl d_M_work_173 ?_
            refine lv_iconst (v := nI 1) hx hb d_M_work_176 (by decide) ?_
            refine pf_isubN (x := mtp) (y := 1) hx hb (by omega) d_M_work_177 ?_
            refine lv_aload_n hx hb d_M_work_178 rfl (lv_at hl 1 rfl) ?_
            refine pf_get (v := .ref (g.lk M 31)) (C := "BigRunnerModel") (T := FT10) (N := 45) hx hb (hw10 hB _) (fun _ h9 => h9) hown hK hP (lo_in hL t_M (by decide)) e14 rfl 31 (by decide) (wd_978 hB _) rfl d_M_work_179 ?_
            refine lv_aload_n hx hb d_M_work_182 rfl (lv_at hl 1 rfl) ?_
            refine pf_get (v := .int (nI mtp)) (C := "BigRunnerModel") (T := FT10) (N := 45) hx hb (hw10 hB _) (fun _ h9 => h9) hown hK hP (lo_in hL t_M (by decide)) e14 rfl 32 (by decide) (wd_979 hB _) rfl d_M_work_183 ?_
            refine lv_iconst (v := nI 1) hx hb d_M_work_186 (by decide) ?_
            refine pf_isubN (x := mtp) (y := 1) hx hb (by omega) d_M_work_187 ?_
            obtain ⟨h_486, e485⟩ := oc_63.of (lo_k11_31 hL _ t_M) (hI.1 (g.lk M 31))
            replace e485 := (hk16 (g.lk M 31) (tg_ne (lo_k11_31 hL _ t_M) t_M (by decide))).trans e485
            refine pf_iald (i := mtp - 1) hx hb hK hP (lo_in hL (lo_k11_31 hL _ t_M) (by decide)) e485 (lo_t63 hL _ (lo_k11_31 hL _ t_M)) (by omega) (by decide) d_M_work_188 ?_
            refine lv_topi (fun iv488 _ => ?_)
            refine lv_ineg hx hb d_M_work_189 ?_
            refine lv_topi (fun iv489 _ => ?_)
            have hI490 := iv_1 hI hL t_M (by decide) hk16 (oc_11.mk t_M (⟨mth, mn, mdr, msz, mix, mdp, mwt, mop, mtp, mwa, mgi, mpc, mst, mtr, msp, iv5, iv12, mdu, e14, (by omega), (by omega), (by omega), (by omega), (by omega), (by omega), (by omega), (by omega), (by omega), (by omega), (by omega), (by omega), (by omega), (by omega), hmb14⟩))
            refine pf_iast (i := mtp - 1) hx hb hK hP hD hS (lo_in hL (lo_k11_31 hL _ t_M) (by decide)) e485 (lo_t63 hL _ (lo_k11_31 hL _ t_M)) (by omega) (by decide) d_M_work_190 (fun f491 H locs e492 k493 hP hD hS => ?_)
            have eC := (k493 (g.lk M 6) (tg_ne (lo_k11_6 hL _ t_M) (lo_k11_31 hL _ t_M) (by decide))).trans eC
            have eA := (k493 (g.lk M 7) (tg_ne (lo_k11_7 hL _ t_M) (lo_k11_31 hL _ t_M) (by decide))).trans eA
            have e14 := (k493 M (tg_ne t_M (lo_k11_31 hL _ t_M) (by decide))).trans e14
            have hu := hu.st k493 (lo_k11_31 hL _ t_M) (by decide)
            have hk494 : ∀ b, b ≠ (g.lk M 31) → f491 b = f13 b := k493
            have hI495 := iv_1 hI490 hL (lo_k11_31 hL _ t_M) (by decide) hk494 (oc_63.mk (lo_k11_31 hL _ t_M) (⟨_, e492⟩))
            exact pe_vret hx hb hr hlocks hK hP hD hS d_M_work_191 ⟨⟨mtp, iv5, iv12, mtr, by omega, by omega, (fun z9 => TR.mk (fun _ => by omega) (fun _ => by omega) (fun _ _ => by omega)), e14⟩, hI495, hu⟩
        refine lv_aload_n hx hb d_M_work_144 rfl (lv_at hl 1 rfl) ?_
        refine pf_get (v := .ref (g.lk M 8)) (C := "BigRunnerModel") (T := FT10) (N := 45) hx hb (hw10 hB _) (fun _ h9 => h9) hown hK hP (lo_in hL t_M (by decide)) e7 rfl 8 (by decide) (wd_955 hB _) rfl d_M_work_145 ?_
        refine lv_iload_n hx hb d_M_work_148 rfl (lv_at hl 2 rfl) ?_
        obtain ⟨h_497, e496⟩ := oc_45.of (lo_k11_8 hL _ t_M) (hI.1 (g.lk M 8))
        replace e496 := (hk9 (g.lk M 8) (tg_ne (lo_k11_8 hL _ t_M) t_M (by decide))).trans e496
        refine pf_zald (i := p9) hx hb hK hP (lo_in hL (lo_k11_8 hL _ t_M) (by decide)) e496 (lo_t45 hL _ (lo_k11_8 hL _ t_M)) (by omega) (by decide) d_M_work_149 ?_
        refine lv_topi (fun iv499 _ => ?_)
        refine lv_if_eq (tgt := 157) hx hb d_M_work_150 (by decide) (fun b500 => ?_) (fun b500 => ?_)
        · skip
          refine lv_iconst (v := nI 1) hx hb d_M_work_157 (by decide) ?_
          exact jn10 ((nI 1)) _ _ hP hD hS
        · skip
          refine lv_iconst (v := nI 0) hx hb d_M_work_153 (by decide) ?_
          refine lv_goto (tgt := 158) hx hb d_M_work_154 (by decide) ?_
          exact jn10 ((nI 0)) _ _ hP hD hS
      refine lv_aload_n hx hb d_M_work_121 rfl (lv_at hl 1 rfl) ?_
      refine pf_get (v := .ref (g.lk M 8)) (C := "BigRunnerModel") (T := FT10) (N := 45) hx hb (hw10 hB _) (fun _ h9 => h9) hown hK hP (lo_in hL t_M (by decide)) eM rfl 8 (by decide) (wd_955 hB _) rfl d_M_work_122 ?_
      refine lv_iload_n hx hb d_M_work_125 rfl (lv_at hl 2 rfl) ?_
      obtain ⟨h_502, e501⟩ := oc_45.of (lo_k11_8 hL _ t_M) (hI.1 (g.lk M 8))
      refine pf_zald (i := p9) hx hb hK hP (lo_in hL (lo_k11_8 hL _ t_M) (by decide)) e501 (lo_t45 hL _ (lo_k11_8 hL _ t_M)) (by omega) (by decide) d_M_work_126 ?_
      refine lv_topi (fun iv504 _ => ?_)
      refine lv_if_eq (tgt := 134) hx hb d_M_work_127 (by decide) (fun b505 => ?_) (fun b505 => ?_)
      · skip
        refine lv_iconst (v := nI 0) hx hb d_M_work_134 (by decide) ?_
        exact jn3 ((nI 0)) _ _ hP hD hS
      · skip
        refine lv_iconst (v := nI 1) hx hb d_M_work_130 (by decide) ?_
        refine lv_goto (tgt := 135) hx hb d_M_work_131 (by decide) ?_
        exact jn3 ((nI 1)) _ _ hP hD hS
    · skip
      replace b2 := (nI_eq (a := w) (b := 1) (by omega) (by omega)).mp b2
      refine lv_iconst (v := nI 0) hx hb d_M_work_41 (by decide) ?_
      refine lv_istore_n (lv' := [(3, .int (nI 0)), (2, .int (nI w)), (0, .ref M), (1, .int (nI p9))]) hx hb d_M_work_42 rfl hl (by decide) rfl (fun ls hl => ?_)
      have lp506 : ∀ (k508 : Nat) (i : Nat) (f507 : Nat → va_E) (H : Heap) (locs : List Loc) (ls : Array Slot), (20 < i + k508) → (i ≤ 20) → IV g f507 → un [62] g f f507 → lv_has ls 6 [(3, .int (nI i)), (2, .int (nI w)), (0, .ref M), (1, .int (nI p9))] → va_P g.D vcl (va_pl g.LP f507) H → va_D (pc_A g s.heap.size) (va_pl g.LP f507) → va_S (pc_A g s.heap.size) s.heap H locs → W p l e ({ frames := 3, cells := 0, slots := 0, locals := 78 }) s m args below meth c H locs 0 0 (MQ below (va_Qv (fun f1 => (∃ (tp1 : Nat) (ma1 : Int32) (lg1 : Int32) (tr1 : Nat), (tp1 ≤ 80) ∧ (tr1 ≤ 2) ∧ (TR0 tr1 w mtp tp1) ∧ f1 M = .inr (10, [.int mth, .ref (g.lk M 1), .int (nI mn), .ref (g.lk M 3), .ref (g.lk M 4), .int (nI mdr), .ref (g.lk M 6), .ref (g.lk M 7), .ref (g.lk M 8), .int (nI msz), .int (nI mix), .int (nI mdp), .ref (g.lk M 12), .int (nI mwt), .ref (g.lk M 14), .ref (g.lk M 15), .int (nI mop), .ref (g.lk M 17), .ref (g.lk M 18), .ref (g.lk M 19), .ref (g.lk M 20), .ref (g.lk M 21), .ref (g.lk M 22), .ref (g.lk M 23), .ref (g.lk M 24), .ref (g.lk M 25), .ref (g.lk M 26), .ref (g.lk M 27), .ref (g.lk M 28), .ref (g.lk M 29), .ref (g.lk M 30), .ref (g.lk M 31), .int (nI tp1), .ref (g.lk M 33), .ref (g.lk M 34), .ref (g.lk M 35), .int (nI mwa), .int (nI mgi), .int (nI mpc), .int (nI mst), .int (nI tr1), .int (nI msp), .int ma1, .int lg1, .int mdu])) ∧ (IV g f1) ∧ (un [11, 62, 63, 64, 65] g f f1)) (pc_out g s.heap.size) (pc_A g s.heap.size)) args s 0 0 (pc_A g s.heap.size)) (F0 m 43 ls []) := by
        intro k508
        induction k508 with
        | zero => intros; exfalso; omega
        | succ k508 ih509 =>
          intro i f507 H locs ls hfu510 hi hI511 hv512 hl hP hD hS
          have eM := hv512.at t_M (by decide) eM
          have eC := hv512.at (lo_k11_6 hL _ t_M) (by decide) eC
          have eA := hv512.at (lo_k11_7 hL _ t_M) (by decide) eA
          have hu := hu.tr hv512 (by decide)
          refine lv_iload_n hx hb d_M_work_43 rfl (lv_at hl 0 rfl) ?_
          refine lv_bipush (v := nI 20) hx hb d_M_work_44 (by decide) ?_
          refine lv_icmp_ge (tgt := 85) hx hb d_M_work_46 (by decide) (fun b513 => ?_) (fun b513 => ?_)
          · skip
            replace b513 := (nI_leI (a := 20) (b := i) (by omega) (by omega)).mp b513
            refine lv_aload_n hx hb d_M_work_85 rfl (lv_at hl 2 rfl) ?_
            refine pf_get (v := .ref (g.lk M 31)) (C := "BigRunnerModel") (T := FT10) (N := 45) hx hb (hw10 hB _) (fun _ h9 => h9) hown hK hP (lo_in hL t_M (by decide)) eM rfl 31 (by decide) (wd_978 hB _) rfl d_M_work_86 ?_
            refine lv_aload_n hx hb d_M_work_89 rfl (lv_at hl 2 rfl) ?_
            refine pf_get (v := .int (nI mtp)) (C := "BigRunnerModel") (T := FT10) (N := 45) hx hb (hw10 hB _) (fun _ h9 => h9) hown hK hP (lo_in hL t_M (by decide)) eM rfl 32 (by decide) (wd_979 hB _) rfl d_M_work_90 ?_
            refine lv_aload_n hx hb d_M_work_93 rfl (lv_at hl 2 rfl) ?_
            refine pf_get (v := .ref (g.lk M 27)) (C := "BigRunnerModel") (T := FT10) (N := 45) hx hb (hw10 hB _) (fun _ h9 => h9) hown hK hP (lo_in hL t_M (by decide)) eM rfl 27 (by decide) (wd_974 hB _) rfl d_M_work_94 ?_
            refine lv_aload_n hx hb d_M_work_97 rfl (lv_at hl 2 rfl) ?_
            refine pf_get (v := .ref (g.lk M 7)) (C := "BigRunnerModel") (T := FT10) (N := 45) hx hb (hw10 hB _) (fun _ h9 => h9) hown hK hP (lo_in hL t_M (by decide)) eM rfl 7 (by decide) (wd_954 hB _) rfl d_M_work_98 ?_
            refine lv_iload_n hx hb d_M_work_101 rfl (lv_at hl 3 rfl) ?_
            refine pf_iald (i := p9) hx hb hK hP (lo_in hL (lo_k11_7 hL _ t_M) (by decide)) eA (lo_t44 hL _ (lo_k11_7 hL _ t_M)) (by omega) (by decide) d_M_work_102 ?_
            refine lv_topi (fun z_ hz_ => ?_)
            obtain rfl : z_ = nI v := hz_.trans hv
            obtain ⟨h_515, e514⟩ := oc_59.of (lo_k11_27 hL _ t_M) (hI511.1 (g.lk M 27))
            refine pf_iald (i := v) hx hb hK hP (lo_in hL (lo_k11_27 hL _ t_M) (by decide)) e514 (lo_t59 hL _ (lo_k11_27 hL _ t_M)) (by omega) (by decide) d_M_work_103 ?_
            refine lv_topi (fun iv517 _ => ?_)
            obtain ⟨h_519, e518⟩ := oc_63.of (lo_k11_31 hL _ t_M) (hI511.1 (g.lk M 31))
            refine pf_iast (i := mtp) hx hb hK hP hD hS (lo_in hL (lo_k11_31 hL _ t_M) (by decide)) e518 (lo_t63 hL _ (lo_k11_31 hL _ t_M)) (by omega) (by decide) d_M_work_104 (fun f521 H locs e522 k523 hP hD hS => ?_)
            have eM := (k523 M (tg_ne t_M (lo_k11_31 hL _ t_M) (by decide))).trans eM
            have eC := (k523 (g.lk M 6) (tg_ne (lo_k11_6 hL _ t_M) (lo_k11_31 hL _ t_M) (by decide))).trans eC
            have eA := (k523 (g.lk M 7) (tg_ne (lo_k11_7 hL _ t_M) (lo_k11_31 hL _ t_M) (by decide))).trans eA
            have e514 := (k523 (g.lk M 27) (tg_ne (lo_k11_27 hL _ t_M) (lo_k11_31 hL _ t_M) (by decide))).trans e514
            have hu := hu.st k523 (lo_k11_31 hL _ t_M) (by decide)
            have hk524 : ∀ b, b ≠ (g.lk M 31) → f521 b = f507 b := k523
            refine lv_aload_n hx hb d_M_work_105 rfl (lv_at hl 2 rfl) ?_
            refine lv_dup hx hb d_M_work_106 rfl ?_
            refine pf_get (v := .int (nI mtp)) (C := "BigRunnerModel") (T := FT10) (N := 45) hx hb (hw10 hB _) (fun _ h9 => h9) hown hK hP (lo_in hL t_M (by decide)) eM rfl 32 (by decide) (wd_979 hB _) rfl d_M_work_107 ?_
            refine lv_iconst (v := nI 1) hx hb d_M_work_110 (by decide) ?_
            refine pf_iaddN (x := mtp) (y := 1) hx hb d_M_work_111 ?_
            have hI525 := iv_1 hI511 hL (lo_k11_31 hL _ t_M) (by decide) hk524 (oc_63.mk (lo_k11_31 hL _ t_M) (⟨_, e522⟩))
            refine pf_put (v := .int (nI (mtp + 1))) (ty := .int) (fs' := [.int mth, .ref (g.lk M 1), .int (nI mn), .ref (g.lk M 3), .ref (g.lk M 4), .int (nI mdr), .ref (g.lk M 6), .ref (g.lk M 7), .ref (g.lk M 8), .int (nI msz), .int (nI mix), .int (nI mdp), .ref (g.lk M 12), .int (nI mwt), .ref (g.lk M 14), .ref (g.lk M 15), .int (nI mop), .ref (g.lk M 17), .ref (g.lk M 18), .ref (g.lk M 19), .ref (g.lk M 20), .ref (g.lk M 21), .ref (g.lk M 22), .ref (g.lk M 23), .ref (g.lk M 24), .ref (g.lk M 25), .ref (g.lk M 26), .ref (g.lk M 27), .ref (g.lk M 28), .ref (g.lk M 29), .ref (g.lk M 30), .ref (g.lk M 31), .int (nI (mtp + 1)), .ref (g.lk M 33), .ref (g.lk M 34), .ref (g.lk M 35), .int (nI mwa), .int (nI mgi), .int (nI mpc), .int (nI mst), .int (nI mtr), .int (nI msp), .int mma, .int mlg, .int mdu]) (C := "BigRunnerModel") (T := FT10) (N := 45) hx hb (hw10 hB _) (fun _ h9 => h9) TY10 ok10 nm10 hown hK hP hD hS (lo_in hL t_M (by decide)) eM rfl 32 (by decide) (wd_979 hB _) rfl (by decide +kernel) rfl rfl (Nat.le_of_ble_eq_true rfl) rfl d_M_work_112 (fun f526 H locs e527 k528 hP hD hS => ?_)
            have eC := (k528 (g.lk M 6) (tg_ne (lo_k11_6 hL _ t_M) t_M (by decide))).trans eC
            have eA := (k528 (g.lk M 7) (tg_ne (lo_k11_7 hL _ t_M) t_M (by decide))).trans eA
            have e514 := (k528 (g.lk M 27) (tg_ne (lo_k11_27 hL _ t_M) t_M (by decide))).trans e514
            have e522 := (k528 (g.lk M 31) (tg_ne (lo_k11_31 hL _ t_M) t_M (by decide))).trans e522
            have hu := hu.st k528 t_M (by decide)
            have hk529 : ∀ b, b ≠ M → f526 b = f521 b := k528
            have hI530 := iv_1 hI525 hL t_M (by decide) hk529 (oc_11.mk t_M (⟨mth, mn, mdr, msz, mix, mdp, mwt, mop, (mtp + 1), mwa, mgi, mpc, mst, mtr, msp, mma, mlg, mdu, e527, (by omega), (by omega), (by omega), (by omega), (by omega), (by omega), (by omega), (by omega), (by omega), (by omega), (by omega), (by omega), (by omega), (by omega), hmb14⟩))
            exact pe_vret hx hb hr hlocks hK hP hD hS d_M_work_115 ⟨⟨(mtp + 1), mma, mlg, mtr, by omega, by omega, (fun z9 => TR.mk (fun _ => by omega) (fun _ => by omega) (fun _ _ => by omega)), e527⟩, hI530, hu⟩
          · skip
            replace b513 := mt (nI_leI (a := 20) (b := i) (by omega) (by omega)).mpr b513
            refine lv_aload_n hx hb d_M_work_49 rfl (lv_at hl 2 rfl) ?_
            refine pf_get (v := .ref (g.lk M 30)) (C := "BigRunnerModel") (T := FT10) (N := 45) hx hb (hw10 hB _) (fun _ h9 => h9) hown hK hP (lo_in hL t_M (by decide)) eM rfl 30 (by decide) (wd_977 hB _) rfl d_M_work_50 ?_
            refine lv_bipush (v := nI 20) hx hb d_M_work_53 (by decide) ?_
            refine lv_aload_n hx hb d_M_work_55 rfl (lv_at hl 2 rfl) ?_
            refine pf_get (v := .int (nI mtp)) (C := "BigRunnerModel") (T := FT10) (N := 45) hx hb (hw10 hB _) (fun _ h9 => h9) hown hK hP (lo_in hL t_M (by decide)) eM rfl 32 (by decide) (wd_979 hB _) rfl d_M_work_56 ?_
            refine pf_imulN (x := 20) (y := mtp) hx hb d_M_work_59 ?_
            refine lv_iload_n hx hb d_M_work_60 rfl (lv_at hl 0 rfl) ?_
            refine pf_iaddN (x := 20 * mtp) (y := i) hx hb d_M_work_61 ?_
            refine lv_aload_n hx hb d_M_work_62 rfl (lv_at hl 2 rfl) ?_
            refine pf_get (v := .ref (g.lk M 26)) (C := "BigRunnerModel") (T := FT10) (N := 45) hx hb (hw10 hB _) (fun _ h9 => h9) hown hK hP (lo_in hL t_M (by decide)) eM rfl 26 (by decide) (wd_973 hB _) rfl d_M_work_63 ?_
            refine lv_bipush (v := nI 20) hx hb d_M_work_66 (by decide) ?_
            refine lv_aload_n hx hb d_M_work_68 rfl (lv_at hl 2 rfl) ?_
            refine pf_get (v := .ref (g.lk M 7)) (C := "BigRunnerModel") (T := FT10) (N := 45) hx hb (hw10 hB _) (fun _ h9 => h9) hown hK hP (lo_in hL t_M (by decide)) eM rfl 7 (by decide) (wd_954 hB _) rfl d_M_work_69 ?_
            refine lv_iload_n hx hb d_M_work_72 rfl (lv_at hl 3 rfl) ?_
            refine pf_iald (i := p9) hx hb hK hP (lo_in hL (lo_k11_7 hL _ t_M) (by decide)) eA (lo_t44 hL _ (lo_k11_7 hL _ t_M)) (by omega) (by decide) d_M_work_73 ?_
            refine lv_topi (fun z_ hz_ => ?_)
            obtain rfl : z_ = nI v := hz_.trans hv
            refine pf_imulN (x := 20) (y := v) hx hb d_M_work_74 ?_
            refine lv_iload_n hx hb d_M_work_75 rfl (lv_at hl 0 rfl) ?_
            refine pf_iaddN (x := 20 * v) (y := i) hx hb d_M_work_76 ?_
            obtain ⟨h_532, e531⟩ := oc_58.of (lo_k11_26 hL _ t_M) (hI511.1 (g.lk M 26))
            refine pf_iald (i := (20 * v) + i) hx hb hK hP (lo_in hL (lo_k11_26 hL _ t_M) (by decide)) e531 (lo_t58 hL _ (lo_k11_26 hL _ t_M)) (by omega) (by decide) d_M_work_77 ?_
            refine lv_topi (fun iv534 _ => ?_)
            obtain ⟨h_536, e535⟩ := oc_62.of (lo_k11_30 hL _ t_M) (hI511.1 (g.lk M 30))
            refine pf_iast (i := (20 * mtp) + i) hx hb hK hP hD hS (lo_in hL (lo_k11_30 hL _ t_M) (by decide)) e535 (lo_t62 hL _ (lo_k11_30 hL _ t_M)) (by omega) (by decide) d_M_work_78 (fun f538 H locs e539 k540 hP hD hS => ?_)
            have eM := (k540 M (tg_ne t_M (lo_k11_30 hL _ t_M) (by decide))).trans eM
            have eC := (k540 (g.lk M 6) (tg_ne (lo_k11_6 hL _ t_M) (lo_k11_30 hL _ t_M) (by decide))).trans eC
            have eA := (k540 (g.lk M 7) (tg_ne (lo_k11_7 hL _ t_M) (lo_k11_30 hL _ t_M) (by decide))).trans eA
            have e531 := (k540 (g.lk M 26) (tg_ne (lo_k11_26 hL _ t_M) (lo_k11_30 hL _ t_M) (by decide))).trans e531
            have hu := hu.st k540 (lo_k11_30 hL _ t_M) (by decide)
            have hv512 := hv512.st k540 (lo_k11_30 hL _ t_M) (by decide)
            have hk541 : ∀ b, b ≠ (g.lk M 30) → f538 b = f507 b := k540
            refine lv_iinc (k := 0) (v := nI (i + 1)) (lv' := [(3, .int (nI (i + 1))), (2, .int (nI w)), (0, .ref M), (1, .int (nI p9))]) hx hb d_M_work_79 hl rfl (by rw [nI_succ]; rfl) (by decide) rfl (fun ls hl => ?_)
            refine lv_goto (tgt := 43) hx hb d_M_work_82 (by decide) ?_
            have hI542 := iv_1 hI511 hL (lo_k11_30 hL _ t_M) (by decide) hk541 (oc_62.mk (lo_k11_30 hL _ t_M) (⟨_, e539⟩))
            exact ih509 (i + 1) f538 H locs ls (by omega) (by omega) hI542 hv512 hl hP hD hS
      exact lp506 21 0 f s.heap [] ls (by omega) (by omega) hI un.rf hl hP hD hS
  · skip
    replace b1 := (nI_eq (a := w) (b := 0) (by omega) (by omega)).mp b1
    refine lv_aload_n hx hb d_M_work_11 rfl (lv_at hl 1 rfl) ?_
    refine lv_aload_n hx hb d_M_work_12 rfl (lv_at hl 1 rfl) ?_
    refine pf_get (v := .int (nI mtp)) (C := "BigRunnerModel") (T := FT10) (N := 45) hx hb (hw10 hB _) (fun _ h9 => h9) hown hK hP (lo_in hL t_M (by decide)) eM rfl 32 (by decide) (wd_979 hB _) rfl d_M_work_13 ?_
    refine lv_aload_n hx hb d_M_work_16 rfl (lv_at hl 1 rfl) ?_
    refine pf_get (v := .ref (g.lk M 7)) (C := "BigRunnerModel") (T := FT10) (N := 45) hx hb (hw10 hB _) (fun _ h9 => h9) hown hK hP (lo_in hL t_M (by decide)) eM rfl 7 (by decide) (wd_954 hB _) rfl d_M_work_17 ?_
    refine lv_iload_n hx hb d_M_work_20 rfl (lv_at hl 2 rfl) ?_
    refine pf_iald (i := p9) hx hb hK hP (lo_in hL (lo_k11_7 hL _ t_M) (by decide)) eA (lo_t44 hL _ (lo_k11_7 hL _ t_M)) (by omega) (by decide) d_M_work_21 ?_
    refine lv_topi (fun z_ hz_ => ?_)
    obtain rfl : z_ = nI v := hz_.trans hv
    refine pcc_v (va_runV (C := "BigRunnerModel") (As := [.int (nI mtp), .int (nI v)]) (rest := []) ⟨hx, hb, hml, hown, tb_nil⟩ (m_setNumber l g s.heap.size f M mtp ((nI v)) hL t_M hI (by omega)) ⟨(callB_of 2 (tb_one (wd_1211 hB _)) tb_good1 rfl rfl rfl (wd_82 hB _) (wd_1208 hB _) (by decide +kernel) ⟨Nat.le_of_ble_eq_true rfl, Nat.le_of_ble_eq_true rfl⟩), (wd_1210 hB _), (wd_59 hB _)⟩ ⟨pe_bl, pg_recv (ci := 10) hK hP (lo_in hL t_M (by decide)) eM rfl, pe_pre hB hK hP hD⟩ rfl rfl hl.1 rfl (lv_room (Nat.le_of_ble_eq_true rfl)) d_M_work_22 ⟨Nat.le_of_ble_eq_true rfl, Nat.le_of_ble_eq_true rfl⟩) hS (fun f544 H locs hq545 hP hD hS => ?_)
    obtain ⟨hI1_546, hu1_547⟩ := hq545
    have hu := hu.tr hu1_547 (by decide)
    have eM := hu1_547.at t_M (by decide) eM
    have eC := hu1_547.at (lo_k11_6 hL _ t_M) (by decide) eC
    have eA := hu1_547.at (lo_k11_7 hL _ t_M) (by decide) eA
    refine lv_aload_n hx hb d_M_work_25 rfl (lv_at hl 1 rfl) ?_
    refine lv_dup hx hb d_M_work_26 rfl ?_
    refine pf_get (v := .int (nI mtp)) (C := "BigRunnerModel") (T := FT10) (N := 45) hx hb (hw10 hB _) (fun _ h9 => h9) hown hK hP (lo_in hL t_M (by decide)) eM rfl 32 (by decide) (wd_979 hB _) rfl d_M_work_27 ?_
    refine lv_iconst (v := nI 1) hx hb d_M_work_30 (by decide) ?_
    refine pf_iaddN (x := mtp) (y := 1) hx hb d_M_work_31 ?_
    refine pf_put (v := .int (nI (mtp + 1))) (ty := .int) (fs' := [.int mth, .ref (g.lk M 1), .int (nI mn), .ref (g.lk M 3), .ref (g.lk M 4), .int (nI mdr), .ref (g.lk M 6), .ref (g.lk M 7), .ref (g.lk M 8), .int (nI msz), .int (nI mix), .int (nI mdp), .ref (g.lk M 12), .int (nI mwt), .ref (g.lk M 14), .ref (g.lk M 15), .int (nI mop), .ref (g.lk M 17), .ref (g.lk M 18), .ref (g.lk M 19), .ref (g.lk M 20), .ref (g.lk M 21), .ref (g.lk M 22), .ref (g.lk M 23), .ref (g.lk M 24), .ref (g.lk M 25), .ref (g.lk M 26), .ref (g.lk M 27), .ref (g.lk M 28), .ref (g.lk M 29), .ref (g.lk M 30), .ref (g.lk M 31), .int (nI (mtp + 1)), .ref (g.lk M 33), .ref (g.lk M 34), .ref (g.lk M 35), .int (nI mwa), .int (nI mgi), .int (nI mpc), .int (nI mst), .int (nI mtr), .int (nI msp), .int mma, .int mlg, .int mdu]) (C := "BigRunnerModel") (T := FT10) (N := 45) hx hb (hw10 hB _) (fun _ h9 => h9) TY10 ok10 nm10 hown hK hP hD hS (lo_in hL t_M (by decide)) eM rfl 32 (by decide) (wd_979 hB _) rfl (by decide +kernel) rfl rfl (Nat.le_of_ble_eq_true rfl) rfl d_M_work_32 (fun f548 H locs e549 k550 hP hD hS => ?_)
    have eC := (k550 (g.lk M 6) (tg_ne (lo_k11_6 hL _ t_M) t_M (by decide))).trans eC
    have eA := (k550 (g.lk M 7) (tg_ne (lo_k11_7 hL _ t_M) t_M (by decide))).trans eA
    have hu := hu.st k550 t_M (by decide)
    have hk551 : ∀ b, b ≠ M → f548 b = f544 b := k550
    have hI552 := iv_1 hI1_546 hL t_M (by decide) hk551 (oc_11.mk t_M (⟨mth, mn, mdr, msz, mix, mdp, mwt, mop, (mtp + 1), mwa, mgi, mpc, mst, mtr, msp, mma, mlg, mdu, e549, (by omega), (by omega), (by omega), (by omega), (by omega), (by omega), (by omega), (by omega), (by omega), (by omega), (by omega), (by omega), (by omega), (by omega), hmb14⟩))
    exact pe_vret hx hb hr hlocks hK hP hD hS d_M_work_35 ⟨⟨(mtp + 1), mma, mlg, mtr, by omega, by omega, (fun z9 => TR.mk (fun _ => by omega) (fun _ => by omega) (fun _ _ => by omega)), e549⟩, hI552, hu⟩
set_option maxHeartbeats 4000000 in
set_option maxRecDepth 100000 in
theorem m_assign (l : Launch) (g : Lay) (sz : Nat) (f : Nat → va_E) (M : Nat) (v9 : Nat) (hL : LO g) (t_M : g.tg M = 11) (hI : IV g f) (hv9 : v9 < 10) : Met l ⟨"BigRunnerModel", "assign", "(I)V"⟩ [Cond.code ⟨"BigRunnerModel", "assign", "(I)V"⟩ prog_12_method_42_code 3 none] ({ frames := 0, cells := 0, slots := 0, locals := 0 }) (va_Pc [.ref M, .int (nI v9)] (pc_in g sz f)) (va_Qv (fun f1 => (IV g f1) ∧ (un [58, 59] g f f1)) (pc_out g sz) (pc_A g sz)) 0 0 (pc_A g sz) := by
  refine pe_ofW (cc := prog_12_method_42_code) (maxL := 3) (ret := none) (lv := [(0, .ref M), (1, .int (nI v9))]) (by decide) (Nat.le_of_ble_eq_true rfl) rfl ?_
  intro p e s m args below meth c ls hx hb hr hml hlocks hown hB hP hK hD hsz hS hl
  subst hsz
  have hu : un [58, 59] g f f := un.rf
  refine lv_iconst (v := nI 0) hx hb d_M_assign_0 (by decide) ?_
  refine lv_istore_n (lv' := [(2, .int (nI 0)), (0, .ref M), (1, .int (nI v9))]) hx hb d_M_assign_1 rfl hl (by decide) rfl (fun ls hl => ?_)
  have lp1 : ∀ (k3 : Nat) (i : Nat) (f2 : Nat → va_E) (H : Heap) (locs : List Loc) (ls : Array Slot), (20 < i + k3) → (i ≤ 20) → IV g f2 → un [58] g f f2 → lv_has ls 3 [(2, .int (nI i)), (0, .ref M), (1, .int (nI v9))] → va_P g.D vcl (va_pl g.LP f2) H → va_D (pc_A g s.heap.size) (va_pl g.LP f2) → va_S (pc_A g s.heap.size) s.heap H locs → W p l e ({ frames := 0, cells := 0, slots := 0, locals := 0 }) s m args below meth c H locs 0 0 (MQ below (va_Qv (fun f1 => (IV g f1) ∧ (un [58, 59] g f f1)) (pc_out g s.heap.size) (pc_A g s.heap.size)) args s 0 0 (pc_A g s.heap.size)) (F0 m 2 ls []) := by
    intro k3
    induction k3 with
    | zero => intros; exfalso; omega
    | succ k3 ih4 =>
      intro i f2 H locs ls hfu5 hi hI6 hv7 hl hP hD hS
      have hu := hu.tr hv7 (by decide)
      refine lv_iload_n hx hb d_M_assign_2 rfl (lv_at hl 0 rfl) ?_
      refine lv_bipush (v := nI 20) hx hb d_M_assign_3 (by decide) ?_
      refine lv_icmp_ge (tgt := 31) hx hb d_M_assign_5 (by decide) (fun b8 => ?_) (fun b8 => ?_)
      · skip
        replace b8 := (nI_leI (a := 20) (b := i) (by omega) (by omega)).mp b8
        refine lv_aload_n hx hb d_M_assign_31 rfl (lv_at hl 1 rfl) ?_
        obtain ⟨th_10, n_11, dr_12, sz_13, ix_14, dp_15, wt_16, op_17, tp_18, wa_19, gi_20, pc_21, st_22, tr_23, sp_24, ma_25, lg_26, du_27, e9, c28, c29, c30, c31, c32, c33, c34, c35, c36, c37, c38, c39, c40, c41, c42⟩ := oc_11.of t_M (hI6.1 M)
        refine pf_get (v := .ref (g.lk M 27)) (C := "BigRunnerModel") (T := FT10) (N := 45) hx hb (hw10 hB _) (fun _ h9 => h9) hown hK hP (lo_in hL t_M (by decide)) e9 rfl 27 (by decide) (wd_974 hB _) rfl d_M_assign_32 ?_
        refine lv_iload_n hx hb d_M_assign_35 rfl (lv_at hl 2 rfl) ?_
        refine lv_aload_n hx hb d_M_assign_36 rfl (lv_at hl 1 rfl) ?_
        refine pf_get (v := .ref (g.lk M 31)) (C := "BigRunnerModel") (T := FT10) (N := 45) hx hb (hw10 hB _) (fun _ h9 => h9) hown hK hP (lo_in hL t_M (by decide)) e9 rfl 31 (by decide) (wd_978 hB _) rfl d_M_assign_37 ?_
        refine lv_iconst (v := nI 0) hx hb d_M_assign_40 (by decide) ?_
        obtain ⟨h_44, e43⟩ := oc_63.of (lo_k11_31 hL _ t_M) (hI6.1 (g.lk M 31))
        refine pf_iald (i := 0) hx hb hK hP (lo_in hL (lo_k11_31 hL _ t_M) (by decide)) e43 (lo_t63 hL _ (lo_k11_31 hL _ t_M)) (by omega) (by decide) d_M_assign_41 ?_
        refine lv_topi (fun iv46 _ => ?_)
        obtain ⟨h_48, e47⟩ := oc_59.of (lo_k11_27 hL _ t_M) (hI6.1 (g.lk M 27))
        refine pf_iast (i := v9) hx hb hK hP hD hS (lo_in hL (lo_k11_27 hL _ t_M) (by decide)) e47 (lo_t59 hL _ (lo_k11_27 hL _ t_M)) (by omega) (by decide) d_M_assign_42 (fun f50 H locs e51 k52 hP hD hS => ?_)
        have e9 := (k52 M (tg_ne t_M (lo_k11_27 hL _ t_M) (by decide))).trans e9
        have e43 := (k52 (g.lk M 31) (tg_ne (lo_k11_31 hL _ t_M) (lo_k11_27 hL _ t_M) (by decide))).trans e43
        have hu := hu.st k52 (lo_k11_27 hL _ t_M) (by decide)
        have hk53 : ∀ b, b ≠ (g.lk M 27) → f50 b = f2 b := k52
        have hI54 := iv_1 hI6 hL (lo_k11_27 hL _ t_M) (by decide) hk53 (oc_59.mk (lo_k11_27 hL _ t_M) (⟨_, e51⟩))
        exact pe_vret hx hb hr hlocks hK hP hD hS d_M_assign_43 ⟨hI54, hu⟩
      · skip
        replace b8 := mt (nI_leI (a := 20) (b := i) (by omega) (by omega)).mpr b8
        refine lv_aload_n hx hb d_M_assign_8 rfl (lv_at hl 1 rfl) ?_
        obtain ⟨th_56, n_57, dr_58, sz_59, ix_60, dp_61, wt_62, op_63, tp_64, wa_65, gi_66, pc_67, st_68, tr_69, sp_70, ma_71, lg_72, du_73, e55, c74, c75, c76, c77, c78, c79, c80, c81, c82, c83, c84, c85, c86, c87, c88⟩ := oc_11.of t_M (hI6.1 M)
        refine pf_get (v := .ref (g.lk M 26)) (C := "BigRunnerModel") (T := FT10) (N := 45) hx hb (hw10 hB _) (fun _ h9 => h9) hown hK hP (lo_in hL t_M (by decide)) e55 rfl 26 (by decide) (wd_973 hB _) rfl d_M_assign_9 ?_
        refine lv_bipush (v := nI 20) hx hb d_M_assign_12 (by decide) ?_
        refine lv_iload_n hx hb d_M_assign_14 rfl (lv_at hl 2 rfl) ?_
        refine pf_imulN (x := 20) (y := v9) hx hb d_M_assign_15 ?_
        refine lv_iload_n hx hb d_M_assign_16 rfl (lv_at hl 0 rfl) ?_
        refine pf_iaddN (x := 20 * v9) (y := i) hx hb d_M_assign_17 ?_
        refine lv_aload_n hx hb d_M_assign_18 rfl (lv_at hl 1 rfl) ?_
        refine pf_get (v := .ref (g.lk M 30)) (C := "BigRunnerModel") (T := FT10) (N := 45) hx hb (hw10 hB _) (fun _ h9 => h9) hown hK hP (lo_in hL t_M (by decide)) e55 rfl 30 (by decide) (wd_977 hB _) rfl d_M_assign_19 ?_
        refine lv_iload_n hx hb d_M_assign_22 rfl (lv_at hl 0 rfl) ?_
        obtain ⟨h_90, e89⟩ := oc_62.of (lo_k11_30 hL _ t_M) (hI6.1 (g.lk M 30))
        refine pf_iald (i := i) hx hb hK hP (lo_in hL (lo_k11_30 hL _ t_M) (by decide)) e89 (lo_t62 hL _ (lo_k11_30 hL _ t_M)) (by omega) (by decide) d_M_assign_23 ?_
        refine lv_topi (fun iv92 _ => ?_)
        obtain ⟨h_94, e93⟩ := oc_58.of (lo_k11_26 hL _ t_M) (hI6.1 (g.lk M 26))
        refine pf_iast (i := (20 * v9) + i) hx hb hK hP hD hS (lo_in hL (lo_k11_26 hL _ t_M) (by decide)) e93 (lo_t58 hL _ (lo_k11_26 hL _ t_M)) (by omega) (by decide) d_M_assign_24 (fun f96 H locs e97 k98 hP hD hS => ?_)
        have e55 := (k98 M (tg_ne t_M (lo_k11_26 hL _ t_M) (by decide))).trans e55
        have e89 := (k98 (g.lk M 30) (tg_ne (lo_k11_30 hL _ t_M) (lo_k11_26 hL _ t_M) (by decide))).trans e89
        have hu := hu.st k98 (lo_k11_26 hL _ t_M) (by decide)
        have hv7 := hv7.st k98 (lo_k11_26 hL _ t_M) (by decide)
        have hk99 : ∀ b, b ≠ (g.lk M 26) → f96 b = f2 b := k98
        refine lv_iinc (k := 0) (v := nI (i + 1)) (lv' := [(2, .int (nI (i + 1))), (0, .ref M), (1, .int (nI v9))]) hx hb d_M_assign_25 hl rfl (by rw [nI_succ]; rfl) (by decide) rfl (fun ls hl => ?_)
        refine lv_goto (tgt := 2) hx hb d_M_assign_28 (by decide) ?_
        have hI100 := iv_1 hI6 hL (lo_k11_26 hL _ t_M) (by decide) hk99 (oc_58.mk (lo_k11_26 hL _ t_M) (⟨_, e97⟩))
        exact ih4 (i + 1) f96 H locs ls (by omega) (by omega) hI100 hv7 hl hP hD hS
  exact lp1 21 0 f s.heap [] ls (by omega) (by omega) hI un.rf hl hP hD hS
set_option maxHeartbeats 4000000 in
set_option maxRecDepth 100000 in
theorem m_takeInput (l : Launch) (g : Lay) (sz : Nat) (f : Nat → va_E) (M : Nat) (mth : Int32) (mn : Nat) (mdr : Nat) (msz : Nat) (mix : Nat) (mdp : Nat) (mwt : Nat) (mop : Nat) (mtp : Nat) (mwa : Nat) (mgi : Nat) (mpc : Nat) (mst : Nat) (mtr : Nat) (msp : Nat) (mma : Int32) (mlg : Int32) (mdu : Int32) (v9 : Nat) (hL : LO g) (t_M : g.tg M = 11) (hI : IV g f) (eM : f M = .inr (10, [.int mth, .ref (g.lk M 1), .int (nI mn), .ref (g.lk M 3), .ref (g.lk M 4), .int (nI mdr), .ref (g.lk M 6), .ref (g.lk M 7), .ref (g.lk M 8), .int (nI msz), .int (nI mix), .int (nI mdp), .ref (g.lk M 12), .int (nI mwt), .ref (g.lk M 14), .ref (g.lk M 15), .int (nI mop), .ref (g.lk M 17), .ref (g.lk M 18), .ref (g.lk M 19), .ref (g.lk M 20), .ref (g.lk M 21), .ref (g.lk M 22), .ref (g.lk M 23), .ref (g.lk M 24), .ref (g.lk M 25), .ref (g.lk M 26), .ref (g.lk M 27), .ref (g.lk M 28), .ref (g.lk M 29), .ref (g.lk M 30), .ref (g.lk M 31), .int (nI mtp), .ref (g.lk M 33), .ref (g.lk M 34), .ref (g.lk M 35), .int (nI mwa), .int (nI mgi), .int (nI mpc), .int (nI mst), .int (nI mtr), .int (nI msp), .int mma, .int mlg, .int mdu])) (hMB : mn ≤ 72 ∧ mdr ≤ 100 ∧ msz ≤ 100 ∧ mix ≤ 100 ∧ mdp ≤ 20 ∧ mwt ≤ 72 ∧ mop ≤ 40 ∧ mtp ≤ 80 ∧ mwa ≤ 20 ∧ mgi ≤ msp ∧ mpc ≤ 100 ∧ mst ≤ 4 ∧ mtr ≤ 3 ∧ msp ≤ 3000 ∧ (mdu = 0 ∨ mdu = 1)) (hv9 : v9 < 10) (hwa : 0 < mwa) (hpc : mpc < 100) : Met l ⟨"BigRunnerModel", "takeInput", "(I)V"⟩ [Cond.code ⟨"BigRunnerModel", "takeInput", "(I)V"⟩ prog_12_method_43_code 3 none] ({ frames := 1, cells := 0, slots := 0, locals := 23 }) (va_Pc [.ref M, .int (nI v9)] (pc_in g sz f)) (va_Qv (fun f1 => (∃ (wa1 : Nat) (pc1 : Nat), (wa1 + 1 = mwa) ∧ (pc1 = mpc + 1) ∧ f1 M = .inr (10, [.int mth, .ref (g.lk M 1), .int (nI mn), .ref (g.lk M 3), .ref (g.lk M 4), .int (nI mdr), .ref (g.lk M 6), .ref (g.lk M 7), .ref (g.lk M 8), .int (nI msz), .int (nI mix), .int (nI mdp), .ref (g.lk M 12), .int (nI mwt), .ref (g.lk M 14), .ref (g.lk M 15), .int (nI mop), .ref (g.lk M 17), .ref (g.lk M 18), .ref (g.lk M 19), .ref (g.lk M 20), .ref (g.lk M 21), .ref (g.lk M 22), .ref (g.lk M 23), .ref (g.lk M 24), .ref (g.lk M 25), .ref (g.lk M 26), .ref (g.lk M 27), .ref (g.lk M 28), .ref (g.lk M 29), .ref (g.lk M 30), .ref (g.lk M 31), .int (nI mtp), .ref (g.lk M 33), .ref (g.lk M 34), .ref (g.lk M 35), .int (nI wa1), .int (nI mgi), .int (nI pc1), .int (nI mst), .int (nI mtr), .int (nI msp), .int mma, .int mlg, .int mdu])) ∧ (IV g f1) ∧ (un [11, 58, 59, 62, 63, 66] g f f1)) (pc_out g sz) (pc_A g sz)) 0 0 (pc_A g sz) := by
  refine pe_ofW (cc := prog_12_method_43_code) (maxL := 3) (ret := none) (lv := [(0, .ref M), (1, .int (nI v9))]) (by decide) (Nat.le_of_ble_eq_true rfl) rfl ?_
  intro p e s m args below meth c ls hx hb hr hml hlocks hown hB hP hK hD hsz hS hl
  subst hsz
  have hu : un [11, 58, 59, 62, 63, 66] g f f := un.rf
  obtain ⟨hmb0, hmb1, hmb2, hmb3, hmb4, hmb5, hmb6, hmb7, hmb8, hmb9, hmb10, hmb11, hmb12, hmb13, hmb14⟩ := hMB
  refine lv_aload_n hx hb d_M_takeInput_0 rfl (lv_at hl 0 rfl) ?_
  refine lv_iconst (v := nI 0) hx hb d_M_takeInput_1 (by decide) ?_
  refine lv_aload_n hx hb d_M_takeInput_2 rfl (lv_at hl 0 rfl) ?_
  refine pf_get (v := .ref (g.lk M 35)) (C := "BigRunnerModel") (T := FT10) (N := 45) hx hb (hw10 hB _) (fun _ h9 => h9) hown hK hP (lo_in hL t_M (by decide)) eM rfl 35 (by decide) (wd_982 hB _) rfl d_M_takeInput_3 ?_
  refine lv_iconst (v := nI 0) hx hb d_M_takeInput_6 (by decide) ?_
  obtain ⟨h_2, e1⟩ := oc_66.of (lo_k11_35 hL _ t_M) (hI.1 (g.lk M 35))
  refine pf_iald (i := 0) hx hb hK hP (lo_in hL (lo_k11_35 hL _ t_M) (by decide)) e1 (lo_t66 hL _ (lo_k11_35 hL _ t_M)) (by omega) (by decide) d_M_takeInput_7 ?_
  refine lv_topi (fun iv4 _ => ?_)
  refine pcc_v (va_runV (C := "BigRunnerModel") (As := [.int (nI 0), .int iv4]) (rest := []) ⟨hx, hb, hml, hown, tb_nil⟩ (m_setNumber l g s.heap.size f M 0 iv4 hL t_M hI (by omega)) ⟨(callB_of 2 (tb_one (wd_1211 hB _)) tb_good1 rfl rfl rfl (wd_82 hB _) (wd_1208 hB _) (by decide +kernel) ⟨Nat.le_of_ble_eq_true rfl, Nat.le_of_ble_eq_true rfl⟩), (wd_1210 hB _), (wd_59 hB _)⟩ ⟨pe_bl, pg_recv (ci := 10) hK hP (lo_in hL t_M (by decide)) eM rfl, pe_pre hB hK hP hD⟩ rfl rfl hl.1 rfl (lv_room (Nat.le_of_ble_eq_true rfl)) d_M_takeInput_8 ⟨Nat.le_of_ble_eq_true rfl, Nat.le_of_ble_eq_true rfl⟩) hS (fun f6 H locs hq7 hP hD hS => ?_)
  obtain ⟨hI1_8, hu1_9⟩ := hq7
  have hu := hu.tr hu1_9 (by decide)
  have eM := hu1_9.at t_M (by decide) eM
  have e1 := hu1_9.at (lo_k11_35 hL _ t_M) (by decide) e1
  refine lv_aload_n hx hb d_M_takeInput_11 rfl (lv_at hl 0 rfl) ?_
  refine lv_iload_n hx hb d_M_takeInput_12 rfl (lv_at hl 1 rfl) ?_
  refine pcc_v (va_runV (C := "BigRunnerModel") (As := [.int (nI v9)]) (rest := []) ⟨hx, hb, hml, hown, tb_nil⟩ (m_assign l g H.size f6 M v9 hL t_M hI1_8 (by omega)) ⟨(callB_of 1 (tb_one (wd_1216 hB _)) tb_good1 rfl rfl rfl (wd_82 hB _) (wd_1213 hB _) (by decide +kernel) ⟨Nat.le_of_ble_eq_true rfl, Nat.le_of_ble_eq_true rfl⟩), (wd_1215 hB _), (wd_60 hB _)⟩ ⟨pe_bl, pg_recv (ci := 10) hK hP (lo_in hL t_M (by decide)) eM rfl, pe_pre hB hK hP hD⟩ rfl rfl hl.1 rfl (lv_room (Nat.le_of_ble_eq_true rfl)) d_M_takeInput_13 ⟨Nat.le_of_ble_eq_true rfl, Nat.le_of_ble_eq_true rfl⟩) hS (fun f11 H locs hq12 hP hD hS => ?_)
  obtain ⟨hI1_13, hu1_14⟩ := hq12
  have hu := hu.tr hu1_14 (by decide)
  have eM := hu1_14.at t_M (by decide) eM
  have e1 := hu1_14.at (lo_k11_35 hL _ t_M) (by decide) e1
  refine lv_aload_n hx hb d_M_takeInput_16 rfl (lv_at hl 0 rfl) ?_
  refine lv_dup hx hb d_M_takeInput_17 rfl ?_
  refine pf_get (v := .int (nI mwa)) (C := "BigRunnerModel") (T := FT10) (N := 45) hx hb (hw10 hB _) (fun _ h9 => h9) hown hK hP (lo_in hL t_M (by decide)) eM rfl 36 (by decide) (wd_983 hB _) rfl d_M_takeInput_18 ?_
  refine lv_iconst (v := nI 1) hx hb d_M_takeInput_21 (by decide) ?_
  refine pf_isubN (x := mwa) (y := 1) hx hb (by omega) d_M_takeInput_22 ?_
  refine pf_put (v := .int (nI (mwa - 1))) (ty := .int) (fs' := [.int mth, .ref (g.lk M 1), .int (nI mn), .ref (g.lk M 3), .ref (g.lk M 4), .int (nI mdr), .ref (g.lk M 6), .ref (g.lk M 7), .ref (g.lk M 8), .int (nI msz), .int (nI mix), .int (nI mdp), .ref (g.lk M 12), .int (nI mwt), .ref (g.lk M 14), .ref (g.lk M 15), .int (nI mop), .ref (g.lk M 17), .ref (g.lk M 18), .ref (g.lk M 19), .ref (g.lk M 20), .ref (g.lk M 21), .ref (g.lk M 22), .ref (g.lk M 23), .ref (g.lk M 24), .ref (g.lk M 25), .ref (g.lk M 26), .ref (g.lk M 27), .ref (g.lk M 28), .ref (g.lk M 29), .ref (g.lk M 30), .ref (g.lk M 31), .int (nI mtp), .ref (g.lk M 33), .ref (g.lk M 34), .ref (g.lk M 35), .int (nI (mwa - 1)), .int (nI mgi), .int (nI mpc), .int (nI mst), .int (nI mtr), .int (nI msp), .int mma, .int mlg, .int mdu]) (C := "BigRunnerModel") (T := FT10) (N := 45) hx hb (hw10 hB _) (fun _ h9 => h9) TY10 ok10 nm10 hown hK hP hD hS (lo_in hL t_M (by decide)) eM rfl 36 (by decide) (wd_983 hB _) rfl (by decide +kernel) rfl rfl (Nat.le_of_ble_eq_true rfl) rfl d_M_takeInput_23 (fun f15 H locs e16 k17 hP hD hS => ?_)
  have e1 := (k17 (g.lk M 35) (tg_ne (lo_k11_35 hL _ t_M) t_M (by decide))).trans e1
  have hu := hu.st k17 t_M (by decide)
  have hk18 : ∀ b, b ≠ M → f15 b = f11 b := k17
  refine lv_iconst (v := nI 0) hx hb d_M_takeInput_26 (by decide) ?_
  refine lv_istore_n (lv' := [(2, .int (nI 0)), (0, .ref M), (1, .int (nI v9))]) hx hb d_M_takeInput_27 rfl hl (by decide) rfl (fun ls hl => ?_)
  have hI19 := iv_1 hI1_13 hL t_M (by decide) hk18 (oc_11.mk t_M (⟨mth, mn, mdr, msz, mix, mdp, mwt, mop, mtp, (mwa - 1), mgi, mpc, mst, mtr, msp, mma, mlg, mdu, e16, (by omega), (by omega), (by omega), (by omega), (by omega), (by omega), (by omega), (by omega), (by omega), (by omega), (by omega), (by omega), (by omega), (by omega), hmb14⟩))
  have lp20 : ∀ (k22 : Nat) (i : Nat) (f21 : Nat → va_E) (H : Heap) (locs : List Loc) (ls : Array Slot), (20 < i + k22) → (i ≤ 20) → IV g f21 → un [66] g f15 f21 → lv_has ls 3 [(2, .int (nI i)), (0, .ref M), (1, .int (nI v9))] → va_P g.D vcl (va_pl g.LP f21) H → va_D (pc_A g s.heap.size) (va_pl g.LP f21) → va_S (pc_A g s.heap.size) s.heap H locs → W p l e ({ frames := 1, cells := 0, slots := 0, locals := 23 }) s m args below meth c H locs 0 0 (MQ below (va_Qv (fun f1 => (∃ (wa1 : Nat) (pc1 : Nat), (wa1 + 1 = mwa) ∧ (pc1 = mpc + 1) ∧ f1 M = .inr (10, [.int mth, .ref (g.lk M 1), .int (nI mn), .ref (g.lk M 3), .ref (g.lk M 4), .int (nI mdr), .ref (g.lk M 6), .ref (g.lk M 7), .ref (g.lk M 8), .int (nI msz), .int (nI mix), .int (nI mdp), .ref (g.lk M 12), .int (nI mwt), .ref (g.lk M 14), .ref (g.lk M 15), .int (nI mop), .ref (g.lk M 17), .ref (g.lk M 18), .ref (g.lk M 19), .ref (g.lk M 20), .ref (g.lk M 21), .ref (g.lk M 22), .ref (g.lk M 23), .ref (g.lk M 24), .ref (g.lk M 25), .ref (g.lk M 26), .ref (g.lk M 27), .ref (g.lk M 28), .ref (g.lk M 29), .ref (g.lk M 30), .ref (g.lk M 31), .int (nI mtp), .ref (g.lk M 33), .ref (g.lk M 34), .ref (g.lk M 35), .int (nI wa1), .int (nI mgi), .int (nI pc1), .int (nI mst), .int (nI mtr), .int (nI msp), .int mma, .int mlg, .int mdu])) ∧ (IV g f1) ∧ (un [11, 58, 59, 62, 63, 66] g f f1)) (pc_out g s.heap.size) (pc_A g s.heap.size)) args s 0 0 (pc_A g s.heap.size)) (F0 m 28 ls []) := by
    intro k22
    induction k22 with
    | zero => intros; exfalso; omega
    | succ k22 ih23 =>
      intro i f21 H locs ls hfu24 hi hI25 hv26 hl hP hD hS
      have e16 := hv26.at t_M (by decide) e16
      have hu := hu.tr hv26 (by decide)
      refine lv_iload_n hx hb d_M_takeInput_28 rfl (lv_at hl 0 rfl) ?_
      refine lv_aload_n hx hb d_M_takeInput_29 rfl (lv_at hl 1 rfl) ?_
      refine pf_get (v := .int (nI (mwa - 1))) (C := "BigRunnerModel") (T := FT10) (N := 45) hx hb (hw10 hB _) (fun _ h9 => h9) hown hK hP (lo_in hL t_M (by decide)) e16 rfl 36 (by decide) (wd_983 hB _) rfl d_M_takeInput_30 ?_
      refine lv_icmp_ge (tgt := 56) hx hb d_M_takeInput_33 (by decide) (fun b27 => ?_) (fun b27 => ?_)
      · skip
        replace b27 := (nI_leI (a := mwa - 1) (b := i) (by omega) (by omega)).mp b27
        refine lv_aload_n hx hb d_M_takeInput_56 rfl (lv_at hl 1 rfl) ?_
        refine lv_dup hx hb d_M_takeInput_57 rfl ?_
        refine pf_get (v := .int (nI mpc)) (C := "BigRunnerModel") (T := FT10) (N := 45) hx hb (hw10 hB _) (fun _ h9 => h9) hown hK hP (lo_in hL t_M (by decide)) e16 rfl 38 (by decide) (wd_985 hB _) rfl d_M_takeInput_58 ?_
        refine lv_iconst (v := nI 1) hx hb d_M_takeInput_61 (by decide) ?_
        refine pf_iaddN (x := mpc) (y := 1) hx hb d_M_takeInput_62 ?_
        refine pf_put (v := .int (nI (mpc + 1))) (ty := .int) (fs' := [.int mth, .ref (g.lk M 1), .int (nI mn), .ref (g.lk M 3), .ref (g.lk M 4), .int (nI mdr), .ref (g.lk M 6), .ref (g.lk M 7), .ref (g.lk M 8), .int (nI msz), .int (nI mix), .int (nI mdp), .ref (g.lk M 12), .int (nI mwt), .ref (g.lk M 14), .ref (g.lk M 15), .int (nI mop), .ref (g.lk M 17), .ref (g.lk M 18), .ref (g.lk M 19), .ref (g.lk M 20), .ref (g.lk M 21), .ref (g.lk M 22), .ref (g.lk M 23), .ref (g.lk M 24), .ref (g.lk M 25), .ref (g.lk M 26), .ref (g.lk M 27), .ref (g.lk M 28), .ref (g.lk M 29), .ref (g.lk M 30), .ref (g.lk M 31), .int (nI mtp), .ref (g.lk M 33), .ref (g.lk M 34), .ref (g.lk M 35), .int (nI (mwa - 1)), .int (nI mgi), .int (nI (mpc + 1)), .int (nI mst), .int (nI mtr), .int (nI msp), .int mma, .int mlg, .int mdu]) (C := "BigRunnerModel") (T := FT10) (N := 45) hx hb (hw10 hB _) (fun _ h9 => h9) TY10 ok10 nm10 hown hK hP hD hS (lo_in hL t_M (by decide)) e16 rfl 38 (by decide) (wd_985 hB _) rfl (by decide +kernel) rfl rfl (Nat.le_of_ble_eq_true rfl) rfl d_M_takeInput_63 (fun f28 H locs e29 k30 hP hD hS => ?_)
        have hu := hu.st k30 t_M (by decide)
        have hk31 : ∀ b, b ≠ M → f28 b = f21 b := k30
        have hI32 := iv_1 hI25 hL t_M (by decide) hk31 (oc_11.mk t_M (⟨mth, mn, mdr, msz, mix, mdp, mwt, mop, mtp, (mwa - 1), mgi, (mpc + 1), mst, mtr, msp, mma, mlg, mdu, e29, (by omega), (by omega), (by omega), (by omega), (by omega), (by omega), (by omega), (by omega), (by omega), (by omega), (by omega), (by omega), (by omega), (by omega), hmb14⟩))
        exact pe_vret hx hb hr hlocks hK hP hD hS d_M_takeInput_66 ⟨⟨(mwa - 1), (mpc + 1), by omega, rfl, e29⟩, hI32, hu⟩
      · skip
        replace b27 := mt (nI_leI (a := mwa - 1) (b := i) (by omega) (by omega)).mpr b27
        refine lv_aload_n hx hb d_M_takeInput_36 rfl (lv_at hl 1 rfl) ?_
        refine pf_get (v := .ref (g.lk M 35)) (C := "BigRunnerModel") (T := FT10) (N := 45) hx hb (hw10 hB _) (fun _ h9 => h9) hown hK hP (lo_in hL t_M (by decide)) e16 rfl 35 (by decide) (wd_982 hB _) rfl d_M_takeInput_37 ?_
        refine lv_iload_n hx hb d_M_takeInput_40 rfl (lv_at hl 0 rfl) ?_
        refine lv_aload_n hx hb d_M_takeInput_41 rfl (lv_at hl 1 rfl) ?_
        refine pf_get (v := .ref (g.lk M 35)) (C := "BigRunnerModel") (T := FT10) (N := 45) hx hb (hw10 hB _) (fun _ h9 => h9) hown hK hP (lo_in hL t_M (by decide)) e16 rfl 35 (by decide) (wd_982 hB _) rfl d_M_takeInput_42 ?_
        refine lv_iload_n hx hb d_M_takeInput_45 rfl (lv_at hl 0 rfl) ?_
        refine lv_iconst (v := nI 1) hx hb d_M_takeInput_46 (by decide) ?_
        refine pf_iaddN (x := i) (y := 1) hx hb d_M_takeInput_47 ?_
        obtain ⟨h_34, e33⟩ := oc_66.of (lo_k11_35 hL _ t_M) (hI25.1 (g.lk M 35))
        refine pf_iald (i := i + 1) hx hb hK hP (lo_in hL (lo_k11_35 hL _ t_M) (by decide)) e33 (lo_t66 hL _ (lo_k11_35 hL _ t_M)) (by omega) (by decide) d_M_takeInput_48 ?_
        refine lv_topi (fun iv36 _ => ?_)
        refine pf_iast (i := i) hx hb hK hP hD hS (lo_in hL (lo_k11_35 hL _ t_M) (by decide)) e33 (lo_t66 hL _ (lo_k11_35 hL _ t_M)) (by omega) (by decide) d_M_takeInput_49 (fun f37 H locs e38 k39 hP hD hS => ?_)
        have e16 := (k39 M (tg_ne t_M (lo_k11_35 hL _ t_M) (by decide))).trans e16
        have hu := hu.st k39 (lo_k11_35 hL _ t_M) (by decide)
        have hv26 := hv26.st k39 (lo_k11_35 hL _ t_M) (by decide)
        have hk40 : ∀ b, b ≠ (g.lk M 35) → f37 b = f21 b := k39
        refine lv_iinc (k := 0) (v := nI (i + 1)) (lv' := [(2, .int (nI (i + 1))), (0, .ref M), (1, .int (nI v9))]) hx hb d_M_takeInput_50 hl rfl (by rw [nI_succ]; rfl) (by decide) rfl (fun ls hl => ?_)
        refine lv_goto (tgt := 28) hx hb d_M_takeInput_53 (by decide) ?_
        have hI41 := iv_1 hI25 hL (lo_k11_35 hL _ t_M) (by decide) hk40 (oc_66.mk (lo_k11_35 hL _ t_M) (⟨_, e38⟩))
        exact ih23 (i + 1) f37 H locs ls (by omega) (by omega) hI41 hv26 hl hP hD hS
  exact lp20 21 0 f15 H locs ls (by omega) (by omega) hI19 un.rf hl hP hD hS
set_option maxHeartbeats 4000000 in
set_option maxRecDepth 100000 in
theorem m_step (l : Launch) (g : Lay) (sz : Nat) (f : Nat → va_E) (M : Nat) (mth : Int32) (mn : Nat) (mdr : Nat) (msz : Nat) (mix : Nat) (mdp : Nat) (mwt : Nat) (mop : Nat) (mtp : Nat) (mwa : Nat) (mgi : Nat) (mpc : Nat) (mst : Nat) (mtr : Nat) (msp : Nat) (mma : Int32) (mlg : Int32) (mdu : Int32) (hC : Nat → Int32) (hA : Nat → Int32) (dpf : Nat → Nat) (hL : LO g) (t_M : g.tg M = 11) (hI : IV g f) (eM : f M = .inr (10, [.int mth, .ref (g.lk M 1), .int (nI mn), .ref (g.lk M 3), .ref (g.lk M 4), .int (nI mdr), .ref (g.lk M 6), .ref (g.lk M 7), .ref (g.lk M 8), .int (nI msz), .int (nI mix), .int (nI mdp), .ref (g.lk M 12), .int (nI mwt), .ref (g.lk M 14), .ref (g.lk M 15), .int (nI mop), .ref (g.lk M 17), .ref (g.lk M 18), .ref (g.lk M 19), .ref (g.lk M 20), .ref (g.lk M 21), .ref (g.lk M 22), .ref (g.lk M 23), .ref (g.lk M 24), .ref (g.lk M 25), .ref (g.lk M 26), .ref (g.lk M 27), .ref (g.lk M 28), .ref (g.lk M 29), .ref (g.lk M 30), .ref (g.lk M 31), .int (nI mtp), .ref (g.lk M 33), .ref (g.lk M 34), .ref (g.lk M 35), .int (nI mwa), .int (nI mgi), .int (nI mpc), .int (nI mst), .int (nI mtr), .int (nI msp), .int mma, .int mlg, .int mdu])) (hMB : mn ≤ 72 ∧ mdr ≤ 100 ∧ msz ≤ 100 ∧ mix ≤ 100 ∧ mdp ≤ 20 ∧ mwt ≤ 72 ∧ mop ≤ 40 ∧ mtp ≤ 80 ∧ mwa ≤ 20 ∧ mgi ≤ msp ∧ mpc ≤ 100 ∧ mst ≤ 4 ∧ mtr ≤ 3 ∧ msp ≤ 3000 ∧ (mdu = 0 ∨ mdu = 1)) (eC : f (g.lk M 6) = .inl (g.ac (g.lk M 6), 100, .inl hC)) (eA : f (g.lk M 7) = .inl (g.ac (g.lk M 7), 100, .inl hA)) (hWF : WF hC hA dpf msz) (hpz : mpc < msz) (hd0 : dpf mpc = 0) (hn12 : hC mpc ≠ nI 12) (h9w : hC mpc ≠ nI 9 ∨ 0 < mwa) (htr0 : mtr = 0) (hsp : msp < 3000) : Met l ⟨"BigRunnerModel", "step", "()V"⟩ [Cond.code ⟨"BigRunnerModel", "step", "()V"⟩ prog_12_method_44_code 2 none] ({ frames := 4, cells := 0, slots := 0, locals := 103 }) (va_Pc [.ref M] (pc_in g sz f)) (va_Qv (fun f1 => (∃ (tp1 : Nat) (wa1 : Nat) (gi1 : Nat) (pc1 : Nat) (tr1 : Nat) (sp1 : Nat) (ma1 : Int32) (lg1 : Int32), (tp1 ≤ 80) ∧ (wa1 ≤ 20) ∧ (gi1 ≤ sp1) ∧ (pc1 ≤ 100) ∧ (tr1 ≤ 2) ∧ (sp1 = msp + 1) ∧ (PCO dpf msz pc1 tr1) ∧ f1 M = .inr (10, [.int mth, .ref (g.lk M 1), .int (nI mn), .ref (g.lk M 3), .ref (g.lk M 4), .int (nI mdr), .ref (g.lk M 6), .ref (g.lk M 7), .ref (g.lk M 8), .int (nI msz), .int (nI mix), .int (nI mdp), .ref (g.lk M 12), .int (nI mwt), .ref (g.lk M 14), .ref (g.lk M 15), .int (nI mop), .ref (g.lk M 17), .ref (g.lk M 18), .ref (g.lk M 19), .ref (g.lk M 20), .ref (g.lk M 21), .ref (g.lk M 22), .ref (g.lk M 23), .ref (g.lk M 24), .ref (g.lk M 25), .ref (g.lk M 26), .ref (g.lk M 27), .ref (g.lk M 28), .ref (g.lk M 29), .ref (g.lk M 30), .ref (g.lk M 31), .int (nI tp1), .ref (g.lk M 33), .ref (g.lk M 34), .ref (g.lk M 35), .int (nI wa1), .int (nI gi1), .int (nI pc1), .int (nI mst), .int (nI tr1), .int (nI sp1), .int ma1, .int lg1, .int mdu])) ∧ (IV g f1) ∧ (un [11, 58, 59, 60, 61, 62, 63, 64, 65, 66] g f f1)) (pc_out g sz) (pc_A g sz)) 0 0 (pc_A g sz) := by
  refine pe_ofW (cc := prog_12_method_44_code) (maxL := 2) (ret := none) (lv := [(0, .ref M)]) (by decide) (Nat.le_of_ble_eq_true rfl) rfl ?_
  intro p e s m args below meth c ls hx hb hr hml hlocks hown hB hP hK hD hsz hS hl
  subst hsz
  have hu : un [11, 58, 59, 60, 61, 62, 63, 64, 65, 66] g f f := un.rf
  obtain ⟨hmb0, hmb1, hmb2, hmb3, hmb4, hmb5, hmb6, hmb7, hmb8, hmb9, hmb10, hmb11, hmb12, hmb13, hmb14⟩ := hMB
  have hsz := hWF.1
  refine lv_aload_n hx hb d_M_step_0 rfl (lv_at hl 0 rfl) ?_
  refine lv_dup hx hb d_M_step_1 rfl ?_
  refine pf_get (v := .int (nI msp)) (C := "BigRunnerModel") (T := FT10) (N := 45) hx hb (hw10 hB _) (fun _ h9 => h9) hown hK hP (lo_in hL t_M (by decide)) eM rfl 41 (by decide) (wd_988 hB _) rfl d_M_step_2 ?_
  refine lv_iconst (v := nI 1) hx hb d_M_step_5 (by decide) ?_
  refine pf_iaddN (x := msp) (y := 1) hx hb d_M_step_6 ?_
  refine pf_put (v := .int (nI (msp + 1))) (ty := .int) (fs' := [.int mth, .ref (g.lk M 1), .int (nI mn), .ref (g.lk M 3), .ref (g.lk M 4), .int (nI mdr), .ref (g.lk M 6), .ref (g.lk M 7), .ref (g.lk M 8), .int (nI msz), .int (nI mix), .int (nI mdp), .ref (g.lk M 12), .int (nI mwt), .ref (g.lk M 14), .ref (g.lk M 15), .int (nI mop), .ref (g.lk M 17), .ref (g.lk M 18), .ref (g.lk M 19), .ref (g.lk M 20), .ref (g.lk M 21), .ref (g.lk M 22), .ref (g.lk M 23), .ref (g.lk M 24), .ref (g.lk M 25), .ref (g.lk M 26), .ref (g.lk M 27), .ref (g.lk M 28), .ref (g.lk M 29), .ref (g.lk M 30), .ref (g.lk M 31), .int (nI mtp), .ref (g.lk M 33), .ref (g.lk M 34), .ref (g.lk M 35), .int (nI mwa), .int (nI mgi), .int (nI mpc), .int (nI mst), .int (nI mtr), .int (nI (msp + 1)), .int mma, .int mlg, .int mdu]) (C := "BigRunnerModel") (T := FT10) (N := 45) hx hb (hw10 hB _) (fun _ h9 => h9) TY10 ok10 nm10 hown hK hP hD hS (lo_in hL t_M (by decide)) eM rfl 41 (by decide) (wd_988 hB _) rfl (by decide +kernel) rfl rfl (Nat.le_of_ble_eq_true rfl) rfl d_M_step_7 (fun f1 H locs e2 k3 hP hD hS => ?_)
  have eC := (k3 (g.lk M 6) (tg_ne (lo_k11_6 hL _ t_M) t_M (by decide))).trans eC
  have eA := (k3 (g.lk M 7) (tg_ne (lo_k11_7 hL _ t_M) t_M (by decide))).trans eA
  have hu := hu.st k3 t_M (by decide)
  have hk4 : ∀ b, b ≠ M → f1 b = f b := k3
  refine lv_aload_n hx hb d_M_step_10 rfl (lv_at hl 0 rfl) ?_
  refine lv_iconst (v := nI 0) hx hb d_M_step_11 (by decide) ?_
  refine pf_put (v := .int (nI 0)) (ty := .int) (fs' := [.int mth, .ref (g.lk M 1), .int (nI mn), .ref (g.lk M 3), .ref (g.lk M 4), .int (nI mdr), .ref (g.lk M 6), .ref (g.lk M 7), .ref (g.lk M 8), .int (nI msz), .int (nI mix), .int (nI mdp), .ref (g.lk M 12), .int (nI mwt), .ref (g.lk M 14), .ref (g.lk M 15), .int (nI mop), .ref (g.lk M 17), .ref (g.lk M 18), .ref (g.lk M 19), .ref (g.lk M 20), .ref (g.lk M 21), .ref (g.lk M 22), .ref (g.lk M 23), .ref (g.lk M 24), .ref (g.lk M 25), .ref (g.lk M 26), .ref (g.lk M 27), .ref (g.lk M 28), .ref (g.lk M 29), .ref (g.lk M 30), .ref (g.lk M 31), .int (nI 0), .ref (g.lk M 33), .ref (g.lk M 34), .ref (g.lk M 35), .int (nI mwa), .int (nI mgi), .int (nI mpc), .int (nI mst), .int (nI mtr), .int (nI (msp + 1)), .int mma, .int mlg, .int mdu]) (C := "BigRunnerModel") (T := FT10) (N := 45) hx hb (hw10 hB _) (fun _ h9 => h9) TY10 ok10 nm10 hown hK hP hD hS (lo_in hL t_M (by decide)) e2 rfl 32 (by decide) (wd_979 hB _) rfl (by decide +kernel) rfl rfl (Nat.le_of_ble_eq_true rfl) rfl d_M_step_12 (fun f5 H locs e6 k7 hP hD hS => ?_)
  have eC := (k7 (g.lk M 6) (tg_ne (lo_k11_6 hL _ t_M) t_M (by decide))).trans eC
  have eA := (k7 (g.lk M 7) (tg_ne (lo_k11_7 hL _ t_M) t_M (by decide))).trans eA
  have hu := hu.st k7 t_M (by decide)
  have hk8 : ∀ b, b ≠ M → f5 b = f b := fun b q0 => (k7 b q0).trans (hk4 b q0)
  obtain ⟨w, v, hWO⟩ := hWF.2.2 mpc (by omega)
  have hw := wo_c hWO
  have hv := wo_a hWO
  have q3 := wo_12 hWO
  have q4 := wo_b hWO
  have q5 := wo_dp hWO
  refine lv_aload_n hx hb d_M_step_15 rfl (lv_at hl 0 rfl) ?_
  refine pf_get (v := .ref (g.lk M 6)) (C := "BigRunnerModel") (T := FT10) (N := 45) hx hb (hw10 hB _) (fun _ h9 => h9) hown hK hP (lo_in hL t_M (by decide)) e6 rfl 6 (by decide) (wd_953 hB _) rfl d_M_step_16 ?_
  refine lv_aload_n hx hb d_M_step_19 rfl (lv_at hl 0 rfl) ?_
  refine pf_get (v := .int (nI mpc)) (C := "BigRunnerModel") (T := FT10) (N := 45) hx hb (hw10 hB _) (fun _ h9 => h9) hown hK hP (lo_in hL t_M (by decide)) e6 rfl 38 (by decide) (wd_985 hB _) rfl d_M_step_20 ?_
  refine pf_iald (i := mpc) hx hb hK hP (lo_in hL (lo_k11_6 hL _ t_M) (by decide)) eC (lo_t43 hL _ (lo_k11_6 hL _ t_M)) (by omega) (by decide) d_M_step_23 ?_
  refine lv_topi (fun z_ hz_ => ?_)
  obtain rfl : z_ = nI w := hz_.trans hw
  refine lv_bipush (v := nI 9) hx hb d_M_step_24 (by decide) ?_
  refine lv_icmp_ne (tgt := 43) hx hb d_M_step_26 (by decide) (fun b9 => ?_) (fun b9 => ?_)
  · skip
    replace b9 := mt (nI_eq (a := w) (b := 9) (by omega) (by omega)).mpr b9
    have hw9 : ¬ w = 9 := by omega
    have hw12 : ¬ w = 12 := fun z => hn12 (hw.trans (congrArg nI z))
    have hwm := hw
    clear hWO hv q4 q5
    have hI10 := iv_1 hI hL t_M (by decide) hk8 (oc_11.mk t_M (⟨mth, mn, mdr, msz, mix, mdp, mwt, mop, 0, mwa, mgi, mpc, mst, mtr, (msp + 1), mma, mlg, mdu, e6, (by omega), (by omega), (by omega), (by omega), (by omega), (by omega), (by omega), (by omega), (by omega), (by omega), (by omega), (by omega), (by omega), (by omega), hmb14⟩))
    have lp11 : ∀ (k13 : Nat) (p8 : Nat) (t8 : Nat) (ma8 : Int32) (lg8 : Int32) (f12 : Nat → va_E) (H : Heap) (locs : List Loc) (ls : Array Slot), (msz < p8 + k13) → (p8 < msz) → (t8 = dpf p8) → (t8 ≤ 80) → (p8 = mpc ∨ 1 ≤ t8) → f12 M = .inr (10, [.int mth, .ref (g.lk M 1), .int (nI mn), .ref (g.lk M 3), .ref (g.lk M 4), .int (nI mdr), .ref (g.lk M 6), .ref (g.lk M 7), .ref (g.lk M 8), .int (nI msz), .int (nI mix), .int (nI mdp), .ref (g.lk M 12), .int (nI mwt), .ref (g.lk M 14), .ref (g.lk M 15), .int (nI mop), .ref (g.lk M 17), .ref (g.lk M 18), .ref (g.lk M 19), .ref (g.lk M 20), .ref (g.lk M 21), .ref (g.lk M 22), .ref (g.lk M 23), .ref (g.lk M 24), .ref (g.lk M 25), .ref (g.lk M 26), .ref (g.lk M 27), .ref (g.lk M 28), .ref (g.lk M 29), .ref (g.lk M 30), .ref (g.lk M 31), .int (nI t8), .ref (g.lk M 33), .ref (g.lk M 34), .ref (g.lk M 35), .int (nI mwa), .int (nI mgi), .int (nI p8), .int (nI mst), .int (nI mtr), .int (nI (msp + 1)), .int ma8, .int lg8, .int mdu]) → IV g f12 → un [11, 62, 63, 64, 65] g f5 f12 → lv_has ls 2 [(0, .ref M)] → va_P g.D vcl (va_pl g.LP f12) H → va_D (pc_A g s.heap.size) (va_pl g.LP f12) → va_S (pc_A g s.heap.size) s.heap H locs → W p l e ({ frames := 4, cells := 0, slots := 0, locals := 103 }) s m args below meth c H locs 0 0 (MQ below (va_Qv (fun f1 => (∃ (tp1 : Nat) (wa1 : Nat) (gi1 : Nat) (pc1 : Nat) (tr1 : Nat) (sp1 : Nat) (ma1 : Int32) (lg1 : Int32), (tp1 ≤ 80) ∧ (wa1 ≤ 20) ∧ (gi1 ≤ sp1) ∧ (pc1 ≤ 100) ∧ (tr1 ≤ 2) ∧ (sp1 = msp + 1) ∧ (PCO dpf msz pc1 tr1) ∧ f1 M = .inr (10, [.int mth, .ref (g.lk M 1), .int (nI mn), .ref (g.lk M 3), .ref (g.lk M 4), .int (nI mdr), .ref (g.lk M 6), .ref (g.lk M 7), .ref (g.lk M 8), .int (nI msz), .int (nI mix), .int (nI mdp), .ref (g.lk M 12), .int (nI mwt), .ref (g.lk M 14), .ref (g.lk M 15), .int (nI mop), .ref (g.lk M 17), .ref (g.lk M 18), .ref (g.lk M 19), .ref (g.lk M 20), .ref (g.lk M 21), .ref (g.lk M 22), .ref (g.lk M 23), .ref (g.lk M 24), .ref (g.lk M 25), .ref (g.lk M 26), .ref (g.lk M 27), .ref (g.lk M 28), .ref (g.lk M 29), .ref (g.lk M 30), .ref (g.lk M 31), .int (nI tp1), .ref (g.lk M 33), .ref (g.lk M 34), .ref (g.lk M 35), .int (nI wa1), .int (nI gi1), .int (nI pc1), .int (nI mst), .int (nI tr1), .int (nI sp1), .int ma1, .int lg1, .int mdu])) ∧ (IV g f1) ∧ (un [11, 58, 59, 60, 61, 62, 63, 64, 65, 66] g f f1)) (pc_out g s.heap.size) (pc_A g s.heap.size)) args s 0 0 (pc_A g s.heap.size)) (F0 m 43 ls []) := by
      intro k13
      induction k13 with
      | zero => intros; exfalso; omega
      | succ k13 ih14 =>
        intro p8 t8 ma8 lg8 f12 H locs ls hfu15 hp8 ht9 ht8 hq8 e16 hI17 hv18 hl hP hD hS
        have eC := hv18.at (lo_k11_6 hL _ t_M) (by decide) eC
        have eA := hv18.at (lo_k11_7 hL _ t_M) (by decide) eA
        have hu := hu.tr hv18 (by decide)
        obtain ⟨w, v, hWO⟩ := hWF.2.2 p8 (by omega)
        have hw := wo_c hWO
        have hv := wo_a hWO
        have q3 := wo_12 hWO
        have q4 := wo_b hWO
        have q5 := wo_dp hWO
        refine lv_aload_n hx hb d_M_step_43 rfl (lv_at hl 0 rfl) ?_
        refine pf_get (v := .ref (g.lk M 6)) (C := "BigRunnerModel") (T := FT10) (N := 45) hx hb (hw10 hB _) (fun _ h9 => h9) hown hK hP (lo_in hL t_M (by decide)) e16 rfl 6 (by decide) (wd_953 hB _) rfl d_M_step_44 ?_
        refine lv_aload_n hx hb d_M_step_47 rfl (lv_at hl 0 rfl) ?_
        refine pf_get (v := .int (nI p8)) (C := "BigRunnerModel") (T := FT10) (N := 45) hx hb (hw10 hB _) (fun _ h9 => h9) hown hK hP (lo_in hL t_M (by decide)) e16 rfl 38 (by decide) (wd_985 hB _) rfl d_M_step_48 ?_
        refine pf_iald (i := p8) hx hb hK hP (lo_in hL (lo_k11_6 hL _ t_M) (by decide)) eC (lo_t43 hL _ (lo_k11_6 hL _ t_M)) (by omega) (by decide) d_M_step_51 ?_
        refine lv_topi (fun z_ hz_ => ?_)
        obtain rfl : z_ = nI w := hz_.trans hw
        refine lv_bipush (v := nI 8) hx hb d_M_step_52 (by decide) ?_
        refine lv_icmp_ge (tgt := 86) hx hb d_M_step_54 (by decide) (fun b19 => ?_) (fun b19 => ?_)
        · skip
          replace b19 := (nI_leI (a := 8) (b := w) (by omega) (by omega)).mp b19
          have hq10 := wo_end hWO (by omega)
          refine lv_aload_n hx hb d_M_step_86 rfl (lv_at hl 0 rfl) ?_
          refine pf_get (v := .ref (g.lk M 6)) (C := "BigRunnerModel") (T := FT10) (N := 45) hx hb (hw10 hB _) (fun _ h9 => h9) hown hK hP (lo_in hL t_M (by decide)) e16 rfl 6 (by decide) (wd_953 hB _) rfl d_M_step_87 ?_
          refine lv_aload_n hx hb d_M_step_90 rfl (lv_at hl 0 rfl) ?_
          refine pf_get (v := .int (nI p8)) (C := "BigRunnerModel") (T := FT10) (N := 45) hx hb (hw10 hB _) (fun _ h9 => h9) hown hK hP (lo_in hL t_M (by decide)) e16 rfl 38 (by decide) (wd_985 hB _) rfl d_M_step_91 ?_
          refine pf_iald (i := p8) hx hb hK hP (lo_in hL (lo_k11_6 hL _ t_M) (by decide)) eC (lo_t43 hL _ (lo_k11_6 hL _ t_M)) (by omega) (by decide) d_M_step_94 ?_
          refine lv_topi (fun z_ hz_ => ?_)
          obtain rfl : z_ = nI w := hz_.trans hw
          refine lv_bipush (v := nI 8) hx hb d_M_step_95 (by decide) ?_
          refine lv_icmp_ne (tgt := 116) hx hb d_M_step_97 (by decide) (fun b20 => ?_) (fun b20 => ?_)
          · skip
            replace b20 := mt (nI_eq (a := w) (b := 8) (by omega) (by omega)).mpr b20
            refine lv_aload_n hx hb d_M_step_116 rfl (lv_at hl 0 rfl) ?_
            refine pf_get (v := .ref (g.lk M 6)) (C := "BigRunnerModel") (T := FT10) (N := 45) hx hb (hw10 hB _) (fun _ h9 => h9) hown hK hP (lo_in hL t_M (by decide)) e16 rfl 6 (by decide) (wd_953 hB _) rfl d_M_step_117 ?_
            refine lv_aload_n hx hb d_M_step_120 rfl (lv_at hl 0 rfl) ?_
            refine pf_get (v := .int (nI p8)) (C := "BigRunnerModel") (T := FT10) (N := 45) hx hb (hw10 hB _) (fun _ h9 => h9) hown hK hP (lo_in hL t_M (by decide)) e16 rfl 38 (by decide) (wd_985 hB _) rfl d_M_step_121 ?_
            refine pf_iald (i := p8) hx hb hK hP (lo_in hL (lo_k11_6 hL _ t_M) (by decide)) eC (lo_t43 hL _ (lo_k11_6 hL _ t_M)) (by omega) (by decide) d_M_step_124 ?_
            refine lv_topi (fun z_ hz_ => ?_)
            obtain rfl : z_ = nI w := hz_.trans hw
            refine lv_bipush (v := nI 10) hx hb d_M_step_125 (by decide) ?_
            refine lv_icmp_ne (tgt := 210) hx hb d_M_step_127 (by decide) (fun b21 => ?_) (fun b21 => ?_)
            · skip
              replace b21 := mt (nI_eq (a := w) (b := 10) (by omega) (by omega)).mpr b21
              refine lv_aload_n hx hb d_M_step_210 rfl (lv_at hl 0 rfl) ?_
              refine pf_get (v := .ref (g.lk M 31)) (C := "BigRunnerModel") (T := FT10) (N := 45) hx hb (hw10 hB _) (fun _ h9 => h9) hown hK hP (lo_in hL t_M (by decide)) e16 rfl 31 (by decide) (wd_978 hB _) rfl d_M_step_211 ?_
              refine lv_iconst (v := nI 0) hx hb d_M_step_214 (by decide) ?_
              obtain ⟨h_23, e22⟩ := oc_63.of (lo_k11_31 hL _ t_M) (hI17.1 (g.lk M 31))
              refine pf_iald (i := 0) hx hb hK hP (lo_in hL (lo_k11_31 hL _ t_M) (by decide)) e22 (lo_t63 hL _ (lo_k11_31 hL _ t_M)) (by omega) (by decide) d_M_step_215 ?_
              refine lv_topi (fun iv25 _ => ?_)
              refine lv_if_gt (tgt := 234) hx hb d_M_step_216 (by decide) (fun b26 => ?_) (fun b26 => ?_)
              · skip
                refine lv_aload_n hx hb d_M_step_234 rfl (lv_at hl 0 rfl) ?_
                refine lv_dup hx hb d_M_step_235 rfl ?_
                refine pf_get (v := .int (nI p8)) (C := "BigRunnerModel") (T := FT10) (N := 45) hx hb (hw10 hB _) (fun _ h9 => h9) hown hK hP (lo_in hL t_M (by decide)) e16 rfl 38 (by decide) (wd_985 hB _) rfl d_M_step_236 ?_
                refine lv_iconst (v := nI 1) hx hb d_M_step_239 (by decide) ?_
                refine pf_iaddN (x := p8) (y := 1) hx hb d_M_step_240 ?_
                refine pf_put (v := .int (nI (p8 + 1))) (ty := .int) (fs' := [.int mth, .ref (g.lk M 1), .int (nI mn), .ref (g.lk M 3), .ref (g.lk M 4), .int (nI mdr), .ref (g.lk M 6), .ref (g.lk M 7), .ref (g.lk M 8), .int (nI msz), .int (nI mix), .int (nI mdp), .ref (g.lk M 12), .int (nI mwt), .ref (g.lk M 14), .ref (g.lk M 15), .int (nI mop), .ref (g.lk M 17), .ref (g.lk M 18), .ref (g.lk M 19), .ref (g.lk M 20), .ref (g.lk M 21), .ref (g.lk M 22), .ref (g.lk M 23), .ref (g.lk M 24), .ref (g.lk M 25), .ref (g.lk M 26), .ref (g.lk M 27), .ref (g.lk M 28), .ref (g.lk M 29), .ref (g.lk M 30), .ref (g.lk M 31), .int (nI t8), .ref (g.lk M 33), .ref (g.lk M 34), .ref (g.lk M 35), .int (nI mwa), .int (nI mgi), .int (nI (p8 + 1)), .int (nI mst), .int (nI mtr), .int (nI (msp + 1)), .int ma8, .int lg8, .int mdu]) (C := "BigRunnerModel") (T := FT10) (N := 45) hx hb (hw10 hB _) (fun _ h9 => h9) TY10 ok10 nm10 hown hK hP hD hS (lo_in hL t_M (by decide)) e16 rfl 38 (by decide) (wd_985 hB _) rfl (by decide +kernel) rfl rfl (Nat.le_of_ble_eq_true rfl) rfl d_M_step_241 (fun f27 H locs e28 k29 hP hD hS => ?_)
                have eC := (k29 (g.lk M 6) (tg_ne (lo_k11_6 hL _ t_M) t_M (by decide))).trans eC
                have eA := (k29 (g.lk M 7) (tg_ne (lo_k11_7 hL _ t_M) t_M (by decide))).trans eA
                have e22 := (k29 (g.lk M 31) (tg_ne (lo_k11_31 hL _ t_M) t_M (by decide))).trans e22
                have hu := hu.st k29 t_M (by decide)
                have hv18 := hv18.st k29 t_M (by decide)
                have hk30 : ∀ b, b ≠ M → f27 b = f12 b := k29
                have hI31 := iv_1 hI17 hL t_M (by decide) hk30 (oc_11.mk t_M (⟨mth, mn, mdr, msz, mix, mdp, mwt, mop, t8, mwa, mgi, (p8 + 1), mst, mtr, (msp + 1), ma8, lg8, mdu, e28, (by omega), (by omega), (by omega), (by omega), (by omega), (by omega), (by omega), (by omega), (by omega), (by omega), (by omega), (by omega), (by omega), (by omega), hmb14⟩))
                exact pe_vret hx hb hr hlocks hK hP hD hS d_M_step_244 ⟨⟨t8, mwa, mgi, (p8 + 1), mtr, (msp + 1), ma8, lg8, by omega, by omega, by omega, by omega, by omega, by omega, (fun _ => ⟨by omega, fun _ => by first | exact hq10 | (have z8 := hjt.2.2 (by omega); rw [show v - 1 + 1 = v by omega]; exact z8)⟩), e28⟩, hI31, hu⟩
              · skip
                have hw11 : w = 11 := by rcases hq8 with z | z; (have z1 : nI w = nI _ := (hw.symm.trans (by rw [z])).trans hwm; have z2 := (nI_eq (by omega) (by omega)).mp z1; omega); (have z3 : ¬ (w = 9 ∨ w = 12) := fun y => by have := wo_0 hWO y; omega); omega
                have hjt := wo_t hWO hw11
                refine lv_aload_n hx hb d_M_step_219 rfl (lv_at hl 0 rfl) ?_
                refine lv_aload_n hx hb d_M_step_220 rfl (lv_at hl 0 rfl) ?_
                refine pf_get (v := .ref (g.lk M 7)) (C := "BigRunnerModel") (T := FT10) (N := 45) hx hb (hw10 hB _) (fun _ h9 => h9) hown hK hP (lo_in hL t_M (by decide)) e16 rfl 7 (by decide) (wd_954 hB _) rfl d_M_step_221 ?_
                refine lv_aload_n hx hb d_M_step_224 rfl (lv_at hl 0 rfl) ?_
                refine pf_get (v := .int (nI p8)) (C := "BigRunnerModel") (T := FT10) (N := 45) hx hb (hw10 hB _) (fun _ h9 => h9) hown hK hP (lo_in hL t_M (by decide)) e16 rfl 38 (by decide) (wd_985 hB _) rfl d_M_step_225 ?_
                refine pf_iald (i := p8) hx hb hK hP (lo_in hL (lo_k11_7 hL _ t_M) (by decide)) eA (lo_t44 hL _ (lo_k11_7 hL _ t_M)) (by omega) (by decide) d_M_step_228 ?_
                refine lv_topi (fun z_ hz_ => ?_)
                obtain rfl : z_ = nI v := hz_.trans hv
                refine lv_iconst (v := nI 1) hx hb d_M_step_229 (by decide) ?_
                refine pf_isubN (x := v) (y := 1) hx hb (by omega) d_M_step_230 ?_
                refine pf_put (v := .int (nI (v - 1))) (ty := .int) (fs' := [.int mth, .ref (g.lk M 1), .int (nI mn), .ref (g.lk M 3), .ref (g.lk M 4), .int (nI mdr), .ref (g.lk M 6), .ref (g.lk M 7), .ref (g.lk M 8), .int (nI msz), .int (nI mix), .int (nI mdp), .ref (g.lk M 12), .int (nI mwt), .ref (g.lk M 14), .ref (g.lk M 15), .int (nI mop), .ref (g.lk M 17), .ref (g.lk M 18), .ref (g.lk M 19), .ref (g.lk M 20), .ref (g.lk M 21), .ref (g.lk M 22), .ref (g.lk M 23), .ref (g.lk M 24), .ref (g.lk M 25), .ref (g.lk M 26), .ref (g.lk M 27), .ref (g.lk M 28), .ref (g.lk M 29), .ref (g.lk M 30), .ref (g.lk M 31), .int (nI t8), .ref (g.lk M 33), .ref (g.lk M 34), .ref (g.lk M 35), .int (nI mwa), .int (nI mgi), .int (nI (v - 1)), .int (nI mst), .int (nI mtr), .int (nI (msp + 1)), .int ma8, .int lg8, .int mdu]) (C := "BigRunnerModel") (T := FT10) (N := 45) hx hb (hw10 hB _) (fun _ h9 => h9) TY10 ok10 nm10 hown hK hP hD hS (lo_in hL t_M (by decide)) e16 rfl 38 (by decide) (wd_985 hB _) rfl (by decide +kernel) rfl rfl (Nat.le_of_ble_eq_true rfl) rfl d_M_step_231 (fun f32 H locs e33 k34 hP hD hS => ?_)
                have eC := (k34 (g.lk M 6) (tg_ne (lo_k11_6 hL _ t_M) t_M (by decide))).trans eC
                have eA := (k34 (g.lk M 7) (tg_ne (lo_k11_7 hL _ t_M) t_M (by decide))).trans eA
                have e22 := (k34 (g.lk M 31) (tg_ne (lo_k11_31 hL _ t_M) t_M (by decide))).trans e22
                have hu := hu.st k34 t_M (by decide)
                have hv18 := hv18.st k34 t_M (by decide)
                have hk35 : ∀ b, b ≠ M → f32 b = f12 b := k34
                refine lv_aload_n hx hb d_M_step_234 rfl (lv_at hl 0 rfl) ?_
                refine lv_dup hx hb d_M_step_235 rfl ?_
                refine pf_get (v := .int (nI (v - 1))) (C := "BigRunnerModel") (T := FT10) (N := 45) hx hb (hw10 hB _) (fun _ h9 => h9) hown hK hP (lo_in hL t_M (by decide)) e33 rfl 38 (by decide) (wd_985 hB _) rfl d_M_step_236 ?_
                refine lv_iconst (v := nI 1) hx hb d_M_step_239 (by decide) ?_
                refine pf_iaddN (x := v - 1) (y := 1) hx hb d_M_step_240 ?_
                refine pf_put (v := .int (nI ((v - 1) + 1))) (ty := .int) (fs' := [.int mth, .ref (g.lk M 1), .int (nI mn), .ref (g.lk M 3), .ref (g.lk M 4), .int (nI mdr), .ref (g.lk M 6), .ref (g.lk M 7), .ref (g.lk M 8), .int (nI msz), .int (nI mix), .int (nI mdp), .ref (g.lk M 12), .int (nI mwt), .ref (g.lk M 14), .ref (g.lk M 15), .int (nI mop), .ref (g.lk M 17), .ref (g.lk M 18), .ref (g.lk M 19), .ref (g.lk M 20), .ref (g.lk M 21), .ref (g.lk M 22), .ref (g.lk M 23), .ref (g.lk M 24), .ref (g.lk M 25), .ref (g.lk M 26), .ref (g.lk M 27), .ref (g.lk M 28), .ref (g.lk M 29), .ref (g.lk M 30), .ref (g.lk M 31), .int (nI t8), .ref (g.lk M 33), .ref (g.lk M 34), .ref (g.lk M 35), .int (nI mwa), .int (nI mgi), .int (nI ((v - 1) + 1)), .int (nI mst), .int (nI mtr), .int (nI (msp + 1)), .int ma8, .int lg8, .int mdu]) (C := "BigRunnerModel") (T := FT10) (N := 45) hx hb (hw10 hB _) (fun _ h9 => h9) TY10 ok10 nm10 hown hK hP hD hS (lo_in hL t_M (by decide)) e33 rfl 38 (by decide) (wd_985 hB _) rfl (by decide +kernel) rfl rfl (Nat.le_of_ble_eq_true rfl) rfl d_M_step_241 (fun f36 H locs e37 k38 hP hD hS => ?_)
                have eC := (k38 (g.lk M 6) (tg_ne (lo_k11_6 hL _ t_M) t_M (by decide))).trans eC
                have eA := (k38 (g.lk M 7) (tg_ne (lo_k11_7 hL _ t_M) t_M (by decide))).trans eA
                have e22 := (k38 (g.lk M 31) (tg_ne (lo_k11_31 hL _ t_M) t_M (by decide))).trans e22
                have hu := hu.st k38 t_M (by decide)
                have hv18 := hv18.st k38 t_M (by decide)
                have hk39 : ∀ b, b ≠ M → f36 b = f12 b := fun b q0 => (k38 b q0).trans (hk35 b q0)
                have hI40 := iv_1 hI17 hL t_M (by decide) hk39 (oc_11.mk t_M (⟨mth, mn, mdr, msz, mix, mdp, mwt, mop, t8, mwa, mgi, ((v - 1) + 1), mst, mtr, (msp + 1), ma8, lg8, mdu, e37, (by omega), (by omega), (by omega), (by omega), (by omega), (by omega), (by omega), (by omega), (by omega), (by omega), (by omega), (by omega), (by omega), (by omega), hmb14⟩))
                exact pe_vret hx hb hr hlocks hK hP hD hS d_M_step_244 ⟨⟨t8, mwa, mgi, ((v - 1) + 1), mtr, (msp + 1), ma8, lg8, by omega, by omega, by omega, by omega, by omega, by omega, (fun _ => ⟨by omega, fun _ => by first | exact hq10 | (have z8 := hjt.2.2 (by omega); rw [show v - 1 + 1 = v by omega]; exact z8)⟩), e37⟩, hI40, hu⟩
            · skip
              replace b21 := (nI_eq (a := w) (b := 10) (by omega) (by omega)).mp b21
              refine lv_iconst (v := nI 0) hx hb d_M_step_130 (by decide) ?_
              refine lv_istore_n (lv' := [(1, .int (nI 0)), (0, .ref M)]) hx hb d_M_step_131 rfl hl (by decide) rfl (fun ls hl => ?_)
              have lp41 : ∀ (k43 : Nat) (i : Nat) (f42 : Nat → va_E) (H : Heap) (locs : List Loc) (ls : Array Slot), (20 < i + k43) → (i ≤ 20) → IV g f42 → un [60] g f12 f42 → lv_has ls 2 [(1, .int (nI i)), (0, .ref M)] → va_P g.D vcl (va_pl g.LP f42) H → va_D (pc_A g s.heap.size) (va_pl g.LP f42) → va_S (pc_A g s.heap.size) s.heap H locs → W p l e ({ frames := 4, cells := 0, slots := 0, locals := 103 }) s m args below meth c H locs 0 0 (MQ below (va_Qv (fun f1 => (∃ (tp1 : Nat) (wa1 : Nat) (gi1 : Nat) (pc1 : Nat) (tr1 : Nat) (sp1 : Nat) (ma1 : Int32) (lg1 : Int32), (tp1 ≤ 80) ∧ (wa1 ≤ 20) ∧ (gi1 ≤ sp1) ∧ (pc1 ≤ 100) ∧ (tr1 ≤ 2) ∧ (sp1 = msp + 1) ∧ (PCO dpf msz pc1 tr1) ∧ f1 M = .inr (10, [.int mth, .ref (g.lk M 1), .int (nI mn), .ref (g.lk M 3), .ref (g.lk M 4), .int (nI mdr), .ref (g.lk M 6), .ref (g.lk M 7), .ref (g.lk M 8), .int (nI msz), .int (nI mix), .int (nI mdp), .ref (g.lk M 12), .int (nI mwt), .ref (g.lk M 14), .ref (g.lk M 15), .int (nI mop), .ref (g.lk M 17), .ref (g.lk M 18), .ref (g.lk M 19), .ref (g.lk M 20), .ref (g.lk M 21), .ref (g.lk M 22), .ref (g.lk M 23), .ref (g.lk M 24), .ref (g.lk M 25), .ref (g.lk M 26), .ref (g.lk M 27), .ref (g.lk M 28), .ref (g.lk M 29), .ref (g.lk M 30), .ref (g.lk M 31), .int (nI tp1), .ref (g.lk M 33), .ref (g.lk M 34), .ref (g.lk M 35), .int (nI wa1), .int (nI gi1), .int (nI pc1), .int (nI mst), .int (nI tr1), .int (nI sp1), .int ma1, .int lg1, .int mdu])) ∧ (IV g f1) ∧ (un [11, 58, 59, 60, 61, 62, 63, 64, 65, 66] g f f1)) (pc_out g s.heap.size) (pc_A g s.heap.size)) args s 0 0 (pc_A g s.heap.size)) (F0 m 132 ls []) := by
                intro k43
                induction k43 with
                | zero => intros; exfalso; omega
                | succ k43 ih44 =>
                  intro i f42 H locs ls hfu45 hi hI46 hv47 hl hP hD hS
                  have eC := hv47.at (lo_k11_6 hL _ t_M) (by decide) eC
                  have eA := hv47.at (lo_k11_7 hL _ t_M) (by decide) eA
                  have e16 := hv47.at t_M (by decide) e16
                  have hu := hu.tr hv47 (by decide)
                  refine lv_iload_n hx hb d_M_step_132 rfl (lv_at hl 0 rfl) ?_
                  refine lv_bipush (v := nI 20) hx hb d_M_step_133 (by decide) ?_
                  refine lv_icmp_ge (tgt := 173) hx hb d_M_step_135 (by decide) (fun b48 => ?_) (fun b48 => ?_)
                  · skip
                    replace b48 := (nI_leI (a := 20) (b := i) (by omega) (by omega)).mp b48
                    refine lv_aload_n hx hb d_M_step_173 rfl (lv_at hl 1 rfl) ?_
                    refine pf_get (v := .int (nI mgi)) (C := "BigRunnerModel") (T := FT10) (N := 45) hx hb (hw10 hB _) (fun _ h9 => h9) hown hK hP (lo_in hL t_M (by decide)) e16 rfl 37 (by decide) (wd_984 hB _) rfl d_M_step_174 ?_
                    refine lv_bipush (v := nI 12) hx hb d_M_step_177 (by decide) ?_
                    refine lv_icmp_ge (tgt := 197) hx hb d_M_step_179 (by decide) (fun b49 => ?_) (fun b49 => ?_)
                    · skip
                      replace b49 := (nI_leI (a := 12) (b := mgi) (by omega) (by omega)).mp b49
                      refine lv_aload_n hx hb d_M_step_197 rfl (lv_at hl 1 rfl) ?_
                      refine lv_dup hx hb d_M_step_198 rfl ?_
                      refine pf_get (v := .int (nI mgi)) (C := "BigRunnerModel") (T := FT10) (N := 45) hx hb (hw10 hB _) (fun _ h9 => h9) hown hK hP (lo_in hL t_M (by decide)) e16 rfl 37 (by decide) (wd_984 hB _) rfl d_M_step_199 ?_
                      refine lv_iconst (v := nI 1) hx hb d_M_step_202 (by decide) ?_
                      refine pf_iaddN (x := mgi) (y := 1) hx hb d_M_step_203 ?_
                      refine pf_put (v := .int (nI (mgi + 1))) (ty := .int) (fs' := [.int mth, .ref (g.lk M 1), .int (nI mn), .ref (g.lk M 3), .ref (g.lk M 4), .int (nI mdr), .ref (g.lk M 6), .ref (g.lk M 7), .ref (g.lk M 8), .int (nI msz), .int (nI mix), .int (nI mdp), .ref (g.lk M 12), .int (nI mwt), .ref (g.lk M 14), .ref (g.lk M 15), .int (nI mop), .ref (g.lk M 17), .ref (g.lk M 18), .ref (g.lk M 19), .ref (g.lk M 20), .ref (g.lk M 21), .ref (g.lk M 22), .ref (g.lk M 23), .ref (g.lk M 24), .ref (g.lk M 25), .ref (g.lk M 26), .ref (g.lk M 27), .ref (g.lk M 28), .ref (g.lk M 29), .ref (g.lk M 30), .ref (g.lk M 31), .int (nI t8), .ref (g.lk M 33), .ref (g.lk M 34), .ref (g.lk M 35), .int (nI mwa), .int (nI (mgi + 1)), .int (nI p8), .int (nI mst), .int (nI mtr), .int (nI (msp + 1)), .int ma8, .int lg8, .int mdu]) (C := "BigRunnerModel") (T := FT10) (N := 45) hx hb (hw10 hB _) (fun _ h9 => h9) TY10 ok10 nm10 hown hK hP hD hS (lo_in hL t_M (by decide)) e16 rfl 37 (by decide) (wd_984 hB _) rfl (by decide +kernel) rfl rfl (Nat.le_of_ble_eq_true rfl) rfl d_M_step_204 (fun f50 H locs e51 k52 hP hD hS => ?_)
                      have eC := (k52 (g.lk M 6) (tg_ne (lo_k11_6 hL _ t_M) t_M (by decide))).trans eC
                      have eA := (k52 (g.lk M 7) (tg_ne (lo_k11_7 hL _ t_M) t_M (by decide))).trans eA
                      have hu := hu.st k52 t_M (by decide)
                      have hk53 : ∀ b, b ≠ M → f50 b = f42 b := k52
                      refine lv_goto (tgt := 234) hx hb d_M_step_207 (by decide) ?_
                      refine lv_aload_n hx hb d_M_step_234 rfl (lv_at hl 1 rfl) ?_
                      refine lv_dup hx hb d_M_step_235 rfl ?_
                      refine pf_get (v := .int (nI p8)) (C := "BigRunnerModel") (T := FT10) (N := 45) hx hb (hw10 hB _) (fun _ h9 => h9) hown hK hP (lo_in hL t_M (by decide)) e51 rfl 38 (by decide) (wd_985 hB _) rfl d_M_step_236 ?_
                      refine lv_iconst (v := nI 1) hx hb d_M_step_239 (by decide) ?_
                      refine pf_iaddN (x := p8) (y := 1) hx hb d_M_step_240 ?_
                      refine pf_put (v := .int (nI (p8 + 1))) (ty := .int) (fs' := [.int mth, .ref (g.lk M 1), .int (nI mn), .ref (g.lk M 3), .ref (g.lk M 4), .int (nI mdr), .ref (g.lk M 6), .ref (g.lk M 7), .ref (g.lk M 8), .int (nI msz), .int (nI mix), .int (nI mdp), .ref (g.lk M 12), .int (nI mwt), .ref (g.lk M 14), .ref (g.lk M 15), .int (nI mop), .ref (g.lk M 17), .ref (g.lk M 18), .ref (g.lk M 19), .ref (g.lk M 20), .ref (g.lk M 21), .ref (g.lk M 22), .ref (g.lk M 23), .ref (g.lk M 24), .ref (g.lk M 25), .ref (g.lk M 26), .ref (g.lk M 27), .ref (g.lk M 28), .ref (g.lk M 29), .ref (g.lk M 30), .ref (g.lk M 31), .int (nI t8), .ref (g.lk M 33), .ref (g.lk M 34), .ref (g.lk M 35), .int (nI mwa), .int (nI (mgi + 1)), .int (nI (p8 + 1)), .int (nI mst), .int (nI mtr), .int (nI (msp + 1)), .int ma8, .int lg8, .int mdu]) (C := "BigRunnerModel") (T := FT10) (N := 45) hx hb (hw10 hB _) (fun _ h9 => h9) TY10 ok10 nm10 hown hK hP hD hS (lo_in hL t_M (by decide)) e51 rfl 38 (by decide) (wd_985 hB _) rfl (by decide +kernel) rfl rfl (Nat.le_of_ble_eq_true rfl) rfl d_M_step_241 (fun f54 H locs e55 k56 hP hD hS => ?_)
                      have eC := (k56 (g.lk M 6) (tg_ne (lo_k11_6 hL _ t_M) t_M (by decide))).trans eC
                      have eA := (k56 (g.lk M 7) (tg_ne (lo_k11_7 hL _ t_M) t_M (by decide))).trans eA
                      have hu := hu.st k56 t_M (by decide)
                      have hk57 : ∀ b, b ≠ M → f54 b = f42 b := fun b q0 => (k56 b q0).trans (hk53 b q0)
                      have hI58 := iv_1 hI46 hL t_M (by decide) hk57 (oc_11.mk t_M (⟨mth, mn, mdr, msz, mix, mdp, mwt, mop, t8, mwa, (mgi + 1), (p8 + 1), mst, mtr, (msp + 1), ma8, lg8, mdu, e55, (by omega), (by omega), (by omega), (by omega), (by omega), (by omega), (by omega), (by omega), (by omega), (by omega), (by omega), (by omega), (by omega), (by omega), hmb14⟩))
                      exact pe_vret hx hb hr hlocks hK hP hD hS d_M_step_244 ⟨⟨t8, mwa, (mgi + 1), (p8 + 1), mtr, (msp + 1), ma8, lg8, by omega, by omega, by omega, by omega, by omega, by omega, (fun _ => ⟨by omega, fun _ => by first | exact hq10 | (have z8 := hjt.2.2 (by omega); rw [show v - 1 + 1 = v by omega]; exact z8)⟩), e55⟩, hI58, hu⟩
                    · skip
                      replace b49 := mt (nI_leI (a := 12) (b := mgi) (by omega) (by omega)).mpr b49
                      refine lv_aload_n hx hb d_M_step_182 rfl (lv_at hl 1 rfl) ?_
                      refine pf_get (v := .ref (g.lk M 29)) (C := "BigRunnerModel") (T := FT10) (N := 45) hx hb (hw10 hB _) (fun _ h9 => h9) hown hK hP (lo_in hL t_M (by decide)) e16 rfl 29 (by decide) (wd_976 hB _) rfl d_M_step_183 ?_
                      refine lv_aload_n hx hb d_M_step_186 rfl (lv_at hl 1 rfl) ?_
                      refine pf_get (v := .int (nI mgi)) (C := "BigRunnerModel") (T := FT10) (N := 45) hx hb (hw10 hB _) (fun _ h9 => h9) hown hK hP (lo_in hL t_M (by decide)) e16 rfl 37 (by decide) (wd_984 hB _) rfl d_M_step_187 ?_
                      refine lv_aload_n hx hb d_M_step_190 rfl (lv_at hl 1 rfl) ?_
                      refine pf_get (v := .ref (g.lk M 31)) (C := "BigRunnerModel") (T := FT10) (N := 45) hx hb (hw10 hB _) (fun _ h9 => h9) hown hK hP (lo_in hL t_M (by decide)) e16 rfl 31 (by decide) (wd_978 hB _) rfl d_M_step_191 ?_
                      refine lv_iconst (v := nI 0) hx hb d_M_step_194 (by decide) ?_
                      obtain ⟨h_60, e59⟩ := oc_63.of (lo_k11_31 hL _ t_M) (hI46.1 (g.lk M 31))
                      refine pf_iald (i := 0) hx hb hK hP (lo_in hL (lo_k11_31 hL _ t_M) (by decide)) e59 (lo_t63 hL _ (lo_k11_31 hL _ t_M)) (by omega) (by decide) d_M_step_195 ?_
                      refine lv_topi (fun iv62 _ => ?_)
                      obtain ⟨h_64, e63⟩ := oc_61.of (lo_k11_29 hL _ t_M) (hI46.1 (g.lk M 29))
                      refine pf_iast (i := mgi) hx hb hK hP hD hS (lo_in hL (lo_k11_29 hL _ t_M) (by decide)) e63 (lo_t61 hL _ (lo_k11_29 hL _ t_M)) (by omega) (by decide) d_M_step_196 (fun f66 H locs e67 k68 hP hD hS => ?_)
                      have eC := (k68 (g.lk M 6) (tg_ne (lo_k11_6 hL _ t_M) (lo_k11_29 hL _ t_M) (by decide))).trans eC
                      have eA := (k68 (g.lk M 7) (tg_ne (lo_k11_7 hL _ t_M) (lo_k11_29 hL _ t_M) (by decide))).trans eA
                      have e16 := (k68 M (tg_ne t_M (lo_k11_29 hL _ t_M) (by decide))).trans e16
                      have e59 := (k68 (g.lk M 31) (tg_ne (lo_k11_31 hL _ t_M) (lo_k11_29 hL _ t_M) (by decide))).trans e59
                      have hu := hu.st k68 (lo_k11_29 hL _ t_M) (by decide)
                      have hk69 : ∀ b, b ≠ (g.lk M 29) → f66 b = f42 b := k68
                      refine lv_aload_n hx hb d_M_step_197 rfl (lv_at hl 1 rfl) ?_
                      refine lv_dup hx hb d_M_step_198 rfl ?_
                      refine pf_get (v := .int (nI mgi)) (C := "BigRunnerModel") (T := FT10) (N := 45) hx hb (hw10 hB _) (fun _ h9 => h9) hown hK hP (lo_in hL t_M (by decide)) e16 rfl 37 (by decide) (wd_984 hB _) rfl d_M_step_199 ?_
                      refine lv_iconst (v := nI 1) hx hb d_M_step_202 (by decide) ?_
                      refine pf_iaddN (x := mgi) (y := 1) hx hb d_M_step_203 ?_
                      have hI70 := iv_1 hI46 hL (lo_k11_29 hL _ t_M) (by decide) hk69 (oc_61.mk (lo_k11_29 hL _ t_M) (⟨_, e67⟩))
                      refine pf_put (v := .int (nI (mgi + 1))) (ty := .int) (fs' := [.int mth, .ref (g.lk M 1), .int (nI mn), .ref (g.lk M 3), .ref (g.lk M 4), .int (nI mdr), .ref (g.lk M 6), .ref (g.lk M 7), .ref (g.lk M 8), .int (nI msz), .int (nI mix), .int (nI mdp), .ref (g.lk M 12), .int (nI mwt), .ref (g.lk M 14), .ref (g.lk M 15), .int (nI mop), .ref (g.lk M 17), .ref (g.lk M 18), .ref (g.lk M 19), .ref (g.lk M 20), .ref (g.lk M 21), .ref (g.lk M 22), .ref (g.lk M 23), .ref (g.lk M 24), .ref (g.lk M 25), .ref (g.lk M 26), .ref (g.lk M 27), .ref (g.lk M 28), .ref (g.lk M 29), .ref (g.lk M 30), .ref (g.lk M 31), .int (nI t8), .ref (g.lk M 33), .ref (g.lk M 34), .ref (g.lk M 35), .int (nI mwa), .int (nI (mgi + 1)), .int (nI p8), .int (nI mst), .int (nI mtr), .int (nI (msp + 1)), .int ma8, .int lg8, .int mdu]) (C := "BigRunnerModel") (T := FT10) (N := 45) hx hb (hw10 hB _) (fun _ h9 => h9) TY10 ok10 nm10 hown hK hP hD hS (lo_in hL t_M (by decide)) e16 rfl 37 (by decide) (wd_984 hB _) rfl (by decide +kernel) rfl rfl (Nat.le_of_ble_eq_true rfl) rfl d_M_step_204 (fun f71 H locs e72 k73 hP hD hS => ?_)
                      have eC := (k73 (g.lk M 6) (tg_ne (lo_k11_6 hL _ t_M) t_M (by decide))).trans eC
                      have eA := (k73 (g.lk M 7) (tg_ne (lo_k11_7 hL _ t_M) t_M (by decide))).trans eA
                      have e59 := (k73 (g.lk M 31) (tg_ne (lo_k11_31 hL _ t_M) t_M (by decide))).trans e59
                      have e67 := (k73 (g.lk M 29) (tg_ne (lo_k11_29 hL _ t_M) t_M (by decide))).trans e67
                      have hu := hu.st k73 t_M (by decide)
                      have hk74 : ∀ b, b ≠ M → f71 b = f66 b := k73
                      refine lv_goto (tgt := 234) hx hb d_M_step_207 (by decide) ?_
                      refine lv_aload_n hx hb d_M_step_234 rfl (lv_at hl 1 rfl) ?_
                      refine lv_dup hx hb d_M_step_235 rfl ?_
                      refine pf_get (v := .int (nI p8)) (C := "BigRunnerModel") (T := FT10) (N := 45) hx hb (hw10 hB _) (fun _ h9 => h9) hown hK hP (lo_in hL t_M (by decide)) e72 rfl 38 (by decide) (wd_985 hB _) rfl d_M_step_236 ?_
                      refine lv_iconst (v := nI 1) hx hb d_M_step_239 (by decide) ?_
                      refine pf_iaddN (x := p8) (y := 1) hx hb d_M_step_240 ?_
                      refine pf_put (v := .int (nI (p8 + 1))) (ty := .int) (fs' := [.int mth, .ref (g.lk M 1), .int (nI mn), .ref (g.lk M 3), .ref (g.lk M 4), .int (nI mdr), .ref (g.lk M 6), .ref (g.lk M 7), .ref (g.lk M 8), .int (nI msz), .int (nI mix), .int (nI mdp), .ref (g.lk M 12), .int (nI mwt), .ref (g.lk M 14), .ref (g.lk M 15), .int (nI mop), .ref (g.lk M 17), .ref (g.lk M 18), .ref (g.lk M 19), .ref (g.lk M 20), .ref (g.lk M 21), .ref (g.lk M 22), .ref (g.lk M 23), .ref (g.lk M 24), .ref (g.lk M 25), .ref (g.lk M 26), .ref (g.lk M 27), .ref (g.lk M 28), .ref (g.lk M 29), .ref (g.lk M 30), .ref (g.lk M 31), .int (nI t8), .ref (g.lk M 33), .ref (g.lk M 34), .ref (g.lk M 35), .int (nI mwa), .int (nI (mgi + 1)), .int (nI (p8 + 1)), .int (nI mst), .int (nI mtr), .int (nI (msp + 1)), .int ma8, .int lg8, .int mdu]) (C := "BigRunnerModel") (T := FT10) (N := 45) hx hb (hw10 hB _) (fun _ h9 => h9) TY10 ok10 nm10 hown hK hP hD hS (lo_in hL t_M (by decide)) e72 rfl 38 (by decide) (wd_985 hB _) rfl (by decide +kernel) rfl rfl (Nat.le_of_ble_eq_true rfl) rfl d_M_step_241 (fun f75 H locs e76 k77 hP hD hS => ?_)
                      have eC := (k77 (g.lk M 6) (tg_ne (lo_k11_6 hL _ t_M) t_M (by decide))).trans eC
                      have eA := (k77 (g.lk M 7) (tg_ne (lo_k11_7 hL _ t_M) t_M (by decide))).trans eA
                      have e59 := (k77 (g.lk M 31) (tg_ne (lo_k11_31 hL _ t_M) t_M (by decide))).trans e59
                      have e67 := (k77 (g.lk M 29) (tg_ne (lo_k11_29 hL _ t_M) t_M (by decide))).trans e67
                      have hu := hu.st k77 t_M (by decide)
                      have hk78 : ∀ b, b ≠ M → f75 b = f66 b := fun b q0 => (k77 b q0).trans (hk74 b q0)
                      have hI79 := iv_1 hI70 hL t_M (by decide) hk78 (oc_11.mk t_M (⟨mth, mn, mdr, msz, mix, mdp, mwt, mop, t8, mwa, (mgi + 1), (p8 + 1), mst, mtr, (msp + 1), ma8, lg8, mdu, e76, (by omega), (by omega), (by omega), (by omega), (by omega), (by omega), (by omega), (by omega), (by omega), (by omega), (by omega), (by omega), (by omega), (by omega), hmb14⟩))
                      exact pe_vret hx hb hr hlocks hK hP hD hS d_M_step_244 ⟨⟨t8, mwa, (mgi + 1), (p8 + 1), mtr, (msp + 1), ma8, lg8, by omega, by omega, by omega, by omega, by omega, by omega, (fun _ => ⟨by omega, fun _ => by first | exact hq10 | (have z8 := hjt.2.2 (by omega); rw [show v - 1 + 1 = v by omega]; exact z8)⟩), e76⟩, hI79, hu⟩
                  · skip
                    replace b48 := mt (nI_leI (a := 20) (b := i) (by omega) (by omega)).mpr b48
                    refine lv_aload_n hx hb d_M_step_138 rfl (lv_at hl 1 rfl) ?_
                    refine pf_get (v := .int (nI mgi)) (C := "BigRunnerModel") (T := FT10) (N := 45) hx hb (hw10 hB _) (fun _ h9 => h9) hown hK hP (lo_in hL t_M (by decide)) e16 rfl 37 (by decide) (wd_984 hB _) rfl d_M_step_139 ?_
                    refine lv_bipush (v := nI 12) hx hb d_M_step_142 (by decide) ?_
                    refine lv_icmp_ge (tgt := 173) hx hb d_M_step_144 (by decide) (fun b80 => ?_) (fun b80 => ?_)
                    · skip
                      replace b80 := (nI_leI (a := 12) (b := mgi) (by omega) (by omega)).mp b80
                      refine lv_aload_n hx hb d_M_step_173 rfl (lv_at hl 1 rfl) ?_
                      refine pf_get (v := .int (nI mgi)) (C := "BigRunnerModel") (T := FT10) (N := 45) hx hb (hw10 hB _) (fun _ h9 => h9) hown hK hP (lo_in hL t_M (by decide)) e16 rfl 37 (by decide) (wd_984 hB _) rfl d_M_step_174 ?_
                      refine lv_bipush (v := nI 12) hx hb d_M_step_177 (by decide) ?_
                      refine lv_icmp_ge (tgt := 197) hx hb d_M_step_179 (by decide) (fun b81 => ?_) (fun b81 => ?_)
                      · skip
                        replace b81 := (nI_leI (a := 12) (b := mgi) (by omega) (by omega)).mp b81
                        refine lv_aload_n hx hb d_M_step_197 rfl (lv_at hl 1 rfl) ?_
                        refine lv_dup hx hb d_M_step_198 rfl ?_
                        refine pf_get (v := .int (nI mgi)) (C := "BigRunnerModel") (T := FT10) (N := 45) hx hb (hw10 hB _) (fun _ h9 => h9) hown hK hP (lo_in hL t_M (by decide)) e16 rfl 37 (by decide) (wd_984 hB _) rfl d_M_step_199 ?_
                        refine lv_iconst (v := nI 1) hx hb d_M_step_202 (by decide) ?_
                        refine pf_iaddN (x := mgi) (y := 1) hx hb d_M_step_203 ?_
                        refine pf_put (v := .int (nI (mgi + 1))) (ty := .int) (fs' := [.int mth, .ref (g.lk M 1), .int (nI mn), .ref (g.lk M 3), .ref (g.lk M 4), .int (nI mdr), .ref (g.lk M 6), .ref (g.lk M 7), .ref (g.lk M 8), .int (nI msz), .int (nI mix), .int (nI mdp), .ref (g.lk M 12), .int (nI mwt), .ref (g.lk M 14), .ref (g.lk M 15), .int (nI mop), .ref (g.lk M 17), .ref (g.lk M 18), .ref (g.lk M 19), .ref (g.lk M 20), .ref (g.lk M 21), .ref (g.lk M 22), .ref (g.lk M 23), .ref (g.lk M 24), .ref (g.lk M 25), .ref (g.lk M 26), .ref (g.lk M 27), .ref (g.lk M 28), .ref (g.lk M 29), .ref (g.lk M 30), .ref (g.lk M 31), .int (nI t8), .ref (g.lk M 33), .ref (g.lk M 34), .ref (g.lk M 35), .int (nI mwa), .int (nI (mgi + 1)), .int (nI p8), .int (nI mst), .int (nI mtr), .int (nI (msp + 1)), .int ma8, .int lg8, .int mdu]) (C := "BigRunnerModel") (T := FT10) (N := 45) hx hb (hw10 hB _) (fun _ h9 => h9) TY10 ok10 nm10 hown hK hP hD hS (lo_in hL t_M (by decide)) e16 rfl 37 (by decide) (wd_984 hB _) rfl (by decide +kernel) rfl rfl (Nat.le_of_ble_eq_true rfl) rfl d_M_step_204 (fun f82 H locs e83 k84 hP hD hS => ?_)
                        have eC := (k84 (g.lk M 6) (tg_ne (lo_k11_6 hL _ t_M) t_M (by decide))).trans eC
                        have eA := (k84 (g.lk M 7) (tg_ne (lo_k11_7 hL _ t_M) t_M (by decide))).trans eA
                        have hu := hu.st k84 t_M (by decide)
                        have hk85 : ∀ b, b ≠ M → f82 b = f42 b := k84
                        refine lv_goto (tgt := 234) hx hb d_M_step_207 (by decide) ?_
                        refine lv_aload_n hx hb d_M_step_234 rfl (lv_at hl 1 rfl) ?_
                        refine lv_dup hx hb d_M_step_235 rfl ?_
                        refine pf_get (v := .int (nI p8)) (C := "BigRunnerModel") (T := FT10) (N := 45) hx hb (hw10 hB _) (fun _ h9 => h9) hown hK hP (lo_in hL t_M (by decide)) e83 rfl 38 (by decide) (wd_985 hB _) rfl d_M_step_236 ?_
                        refine lv_iconst (v := nI 1) hx hb d_M_step_239 (by decide) ?_
                        refine pf_iaddN (x := p8) (y := 1) hx hb d_M_step_240 ?_
                        refine pf_put (v := .int (nI (p8 + 1))) (ty := .int) (fs' := [.int mth, .ref (g.lk M 1), .int (nI mn), .ref (g.lk M 3), .ref (g.lk M 4), .int (nI mdr), .ref (g.lk M 6), .ref (g.lk M 7), .ref (g.lk M 8), .int (nI msz), .int (nI mix), .int (nI mdp), .ref (g.lk M 12), .int (nI mwt), .ref (g.lk M 14), .ref (g.lk M 15), .int (nI mop), .ref (g.lk M 17), .ref (g.lk M 18), .ref (g.lk M 19), .ref (g.lk M 20), .ref (g.lk M 21), .ref (g.lk M 22), .ref (g.lk M 23), .ref (g.lk M 24), .ref (g.lk M 25), .ref (g.lk M 26), .ref (g.lk M 27), .ref (g.lk M 28), .ref (g.lk M 29), .ref (g.lk M 30), .ref (g.lk M 31), .int (nI t8), .ref (g.lk M 33), .ref (g.lk M 34), .ref (g.lk M 35), .int (nI mwa), .int (nI (mgi + 1)), .int (nI (p8 + 1)), .int (nI mst), .int (nI mtr), .int (nI (msp + 1)), .int ma8, .int lg8, .int mdu]) (C := "BigRunnerModel") (T := FT10) (N := 45) hx hb (hw10 hB _) (fun _ h9 => h9) TY10 ok10 nm10 hown hK hP hD hS (lo_in hL t_M (by decide)) e83 rfl 38 (by decide) (wd_985 hB _) rfl (by decide +kernel) rfl rfl (Nat.le_of_ble_eq_true rfl) rfl d_M_step_241 (fun f86 H locs e87 k88 hP hD hS => ?_)
                        have eC := (k88 (g.lk M 6) (tg_ne (lo_k11_6 hL _ t_M) t_M (by decide))).trans eC
                        have eA := (k88 (g.lk M 7) (tg_ne (lo_k11_7 hL _ t_M) t_M (by decide))).trans eA
                        have hu := hu.st k88 t_M (by decide)
                        have hk89 : ∀ b, b ≠ M → f86 b = f42 b := fun b q0 => (k88 b q0).trans (hk85 b q0)
                        have hI90 := iv_1 hI46 hL t_M (by decide) hk89 (oc_11.mk t_M (⟨mth, mn, mdr, msz, mix, mdp, mwt, mop, t8, mwa, (mgi + 1), (p8 + 1), mst, mtr, (msp + 1), ma8, lg8, mdu, e87, (by omega), (by omega), (by omega), (by omega), (by omega), (by omega), (by omega), (by omega), (by omega), (by omega), (by omega), (by omega), (by omega), (by omega), hmb14⟩))
                        exact pe_vret hx hb hr hlocks hK hP hD hS d_M_step_244 ⟨⟨t8, mwa, (mgi + 1), (p8 + 1), mtr, (msp + 1), ma8, lg8, by omega, by omega, by omega, by omega, by omega, by omega, (fun _ => ⟨by omega, fun _ => by first | exact hq10 | (have z8 := hjt.2.2 (by omega); rw [show v - 1 + 1 = v by omega]; exact z8)⟩), e87⟩, hI90, hu⟩
                      · skip
                        replace b81 := mt (nI_leI (a := 12) (b := mgi) (by omega) (by omega)).mpr b81
                        refine lv_aload_n hx hb d_M_step_182 rfl (lv_at hl 1 rfl) ?_
                        refine pf_get (v := .ref (g.lk M 29)) (C := "BigRunnerModel") (T := FT10) (N := 45) hx hb (hw10 hB _) (fun _ h9 => h9) hown hK hP (lo_in hL t_M (by decide)) e16 rfl 29 (by decide) (wd_976 hB _) rfl d_M_step_183 ?_
                        refine lv_aload_n hx hb d_M_step_186 rfl (lv_at hl 1 rfl) ?_
                        refine pf_get (v := .int (nI mgi)) (C := "BigRunnerModel") (T := FT10) (N := 45) hx hb (hw10 hB _) (fun _ h9 => h9) hown hK hP (lo_in hL t_M (by decide)) e16 rfl 37 (by decide) (wd_984 hB _) rfl d_M_step_187 ?_
                        refine lv_aload_n hx hb d_M_step_190 rfl (lv_at hl 1 rfl) ?_
                        refine pf_get (v := .ref (g.lk M 31)) (C := "BigRunnerModel") (T := FT10) (N := 45) hx hb (hw10 hB _) (fun _ h9 => h9) hown hK hP (lo_in hL t_M (by decide)) e16 rfl 31 (by decide) (wd_978 hB _) rfl d_M_step_191 ?_
                        refine lv_iconst (v := nI 0) hx hb d_M_step_194 (by decide) ?_
                        obtain ⟨h_92, e91⟩ := oc_63.of (lo_k11_31 hL _ t_M) (hI46.1 (g.lk M 31))
                        refine pf_iald (i := 0) hx hb hK hP (lo_in hL (lo_k11_31 hL _ t_M) (by decide)) e91 (lo_t63 hL _ (lo_k11_31 hL _ t_M)) (by omega) (by decide) d_M_step_195 ?_
                        refine lv_topi (fun iv94 _ => ?_)
                        obtain ⟨h_96, e95⟩ := oc_61.of (lo_k11_29 hL _ t_M) (hI46.1 (g.lk M 29))
                        refine pf_iast (i := mgi) hx hb hK hP hD hS (lo_in hL (lo_k11_29 hL _ t_M) (by decide)) e95 (lo_t61 hL _ (lo_k11_29 hL _ t_M)) (by omega) (by decide) d_M_step_196 (fun f98 H locs e99 k100 hP hD hS => ?_)
                        have eC := (k100 (g.lk M 6) (tg_ne (lo_k11_6 hL _ t_M) (lo_k11_29 hL _ t_M) (by decide))).trans eC
                        have eA := (k100 (g.lk M 7) (tg_ne (lo_k11_7 hL _ t_M) (lo_k11_29 hL _ t_M) (by decide))).trans eA
                        have e16 := (k100 M (tg_ne t_M (lo_k11_29 hL _ t_M) (by decide))).trans e16
                        have e91 := (k100 (g.lk M 31) (tg_ne (lo_k11_31 hL _ t_M) (lo_k11_29 hL _ t_M) (by decide))).trans e91
                        have hu := hu.st k100 (lo_k11_29 hL _ t_M) (by decide)
                        have hk101 : ∀ b, b ≠ (g.lk M 29) → f98 b = f42 b := k100
                        refine lv_aload_n hx hb d_M_step_197 rfl (lv_at hl 1 rfl) ?_
                        refine lv_dup hx hb d_M_step_198 rfl ?_
                        refine pf_get (v := .int (nI mgi)) (C := "BigRunnerModel") (T := FT10) (N := 45) hx hb (hw10 hB _) (fun _ h9 => h9) hown hK hP (lo_in hL t_M (by decide)) e16 rfl 37 (by decide) (wd_984 hB _) rfl d_M_step_199 ?_
                        refine lv_iconst (v := nI 1) hx hb d_M_step_202 (by decide) ?_
                        refine pf_iaddN (x := mgi) (y := 1) hx hb d_M_step_203 ?_
                        have hI102 := iv_1 hI46 hL (lo_k11_29 hL _ t_M) (by decide) hk101 (oc_61.mk (lo_k11_29 hL _ t_M) (⟨_, e99⟩))
                        refine pf_put (v := .int (nI (mgi + 1))) (ty := .int) (fs' := [.int mth, .ref (g.lk M 1), .int (nI mn), .ref (g.lk M 3), .ref (g.lk M 4), .int (nI mdr), .ref (g.lk M 6), .ref (g.lk M 7), .ref (g.lk M 8), .int (nI msz), .int (nI mix), .int (nI mdp), .ref (g.lk M 12), .int (nI mwt), .ref (g.lk M 14), .ref (g.lk M 15), .int (nI mop), .ref (g.lk M 17), .ref (g.lk M 18), .ref (g.lk M 19), .ref (g.lk M 20), .ref (g.lk M 21), .ref (g.lk M 22), .ref (g.lk M 23), .ref (g.lk M 24), .ref (g.lk M 25), .ref (g.lk M 26), .ref (g.lk M 27), .ref (g.lk M 28), .ref (g.lk M 29), .ref (g.lk M 30), .ref (g.lk M 31), .int (nI t8), .ref (g.lk M 33), .ref (g.lk M 34), .ref (g.lk M 35), .int (nI mwa), .int (nI (mgi + 1)), .int (nI p8), .int (nI mst), .int (nI mtr), .int (nI (msp + 1)), .int ma8, .int lg8, .int mdu]) (C := "BigRunnerModel") (T := FT10) (N := 45) hx hb (hw10 hB _) (fun _ h9 => h9) TY10 ok10 nm10 hown hK hP hD hS (lo_in hL t_M (by decide)) e16 rfl 37 (by decide) (wd_984 hB _) rfl (by decide +kernel) rfl rfl (Nat.le_of_ble_eq_true rfl) rfl d_M_step_204 (fun f103 H locs e104 k105 hP hD hS => ?_)
                        have eC := (k105 (g.lk M 6) (tg_ne (lo_k11_6 hL _ t_M) t_M (by decide))).trans eC
                        have eA := (k105 (g.lk M 7) (tg_ne (lo_k11_7 hL _ t_M) t_M (by decide))).trans eA
                        have e91 := (k105 (g.lk M 31) (tg_ne (lo_k11_31 hL _ t_M) t_M (by decide))).trans e91
                        have e99 := (k105 (g.lk M 29) (tg_ne (lo_k11_29 hL _ t_M) t_M (by decide))).trans e99
                        have hu := hu.st k105 t_M (by decide)
                        have hk106 : ∀ b, b ≠ M → f103 b = f98 b := k105
                        refine lv_goto (tgt := 234) hx hb d_M_step_207 (by decide) ?_
                        refine lv_aload_n hx hb d_M_step_234 rfl (lv_at hl 1 rfl) ?_
                        refine lv_dup hx hb d_M_step_235 rfl ?_
                        refine pf_get (v := .int (nI p8)) (C := "BigRunnerModel") (T := FT10) (N := 45) hx hb (hw10 hB _) (fun _ h9 => h9) hown hK hP (lo_in hL t_M (by decide)) e104 rfl 38 (by decide) (wd_985 hB _) rfl d_M_step_236 ?_
                        refine lv_iconst (v := nI 1) hx hb d_M_step_239 (by decide) ?_
                        refine pf_iaddN (x := p8) (y := 1) hx hb d_M_step_240 ?_
                        refine pf_put (v := .int (nI (p8 + 1))) (ty := .int) (fs' := [.int mth, .ref (g.lk M 1), .int (nI mn), .ref (g.lk M 3), .ref (g.lk M 4), .int (nI mdr), .ref (g.lk M 6), .ref (g.lk M 7), .ref (g.lk M 8), .int (nI msz), .int (nI mix), .int (nI mdp), .ref (g.lk M 12), .int (nI mwt), .ref (g.lk M 14), .ref (g.lk M 15), .int (nI mop), .ref (g.lk M 17), .ref (g.lk M 18), .ref (g.lk M 19), .ref (g.lk M 20), .ref (g.lk M 21), .ref (g.lk M 22), .ref (g.lk M 23), .ref (g.lk M 24), .ref (g.lk M 25), .ref (g.lk M 26), .ref (g.lk M 27), .ref (g.lk M 28), .ref (g.lk M 29), .ref (g.lk M 30), .ref (g.lk M 31), .int (nI t8), .ref (g.lk M 33), .ref (g.lk M 34), .ref (g.lk M 35), .int (nI mwa), .int (nI (mgi + 1)), .int (nI (p8 + 1)), .int (nI mst), .int (nI mtr), .int (nI (msp + 1)), .int ma8, .int lg8, .int mdu]) (C := "BigRunnerModel") (T := FT10) (N := 45) hx hb (hw10 hB _) (fun _ h9 => h9) TY10 ok10 nm10 hown hK hP hD hS (lo_in hL t_M (by decide)) e104 rfl 38 (by decide) (wd_985 hB _) rfl (by decide +kernel) rfl rfl (Nat.le_of_ble_eq_true rfl) rfl d_M_step_241 (fun f107 H locs e108 k109 hP hD hS => ?_)
                        have eC := (k109 (g.lk M 6) (tg_ne (lo_k11_6 hL _ t_M) t_M (by decide))).trans eC
                        have eA := (k109 (g.lk M 7) (tg_ne (lo_k11_7 hL _ t_M) t_M (by decide))).trans eA
                        have e91 := (k109 (g.lk M 31) (tg_ne (lo_k11_31 hL _ t_M) t_M (by decide))).trans e91
                        have e99 := (k109 (g.lk M 29) (tg_ne (lo_k11_29 hL _ t_M) t_M (by decide))).trans e99
                        have hu := hu.st k109 t_M (by decide)
                        have hk110 : ∀ b, b ≠ M → f107 b = f98 b := fun b q0 => (k109 b q0).trans (hk106 b q0)
                        have hI111 := iv_1 hI102 hL t_M (by decide) hk110 (oc_11.mk t_M (⟨mth, mn, mdr, msz, mix, mdp, mwt, mop, t8, mwa, (mgi + 1), (p8 + 1), mst, mtr, (msp + 1), ma8, lg8, mdu, e108, (by omega), (by omega), (by omega), (by omega), (by omega), (by omega), (by omega), (by omega), (by omega), (by omega), (by omega), (by omega), (by omega), (by omega), hmb14⟩))
                        exact pe_vret hx hb hr hlocks hK hP hD hS d_M_step_244 ⟨⟨t8, mwa, (mgi + 1), (p8 + 1), mtr, (msp + 1), ma8, lg8, by omega, by omega, by omega, by omega, by omega, by omega, (fun _ => ⟨by omega, fun _ => by first | exact hq10 | (have z8 := hjt.2.2 (by omega); rw [show v - 1 + 1 = v by omega]; exact z8)⟩), e108⟩, hI111, hu⟩
                    · skip
                      replace b80 := mt (nI_leI (a := 12) (b := mgi) (by omega) (by omega)).mpr b80
                      refine lv_aload_n hx hb d_M_step_147 rfl (lv_at hl 1 rfl) ?_
                      refine pf_get (v := .ref (g.lk M 28)) (C := "BigRunnerModel") (T := FT10) (N := 45) hx hb (hw10 hB _) (fun _ h9 => h9) hown hK hP (lo_in hL t_M (by decide)) e16 rfl 28 (by decide) (wd_975 hB _) rfl d_M_step_148 ?_
                      refine lv_bipush (v := nI 20) hx hb d_M_step_151 (by decide) ?_
                      refine lv_aload_n hx hb d_M_step_153 rfl (lv_at hl 1 rfl) ?_
                      refine pf_get (v := .int (nI mgi)) (C := "BigRunnerModel") (T := FT10) (N := 45) hx hb (hw10 hB _) (fun _ h9 => h9) hown hK hP (lo_in hL t_M (by decide)) e16 rfl 37 (by decide) (wd_984 hB _) rfl d_M_step_154 ?_
                      refine pf_imulN (x := 20) (y := mgi) hx hb d_M_step_157 ?_
                      refine lv_iload_n hx hb d_M_step_158 rfl (lv_at hl 0 rfl) ?_
                      refine pf_iaddN (x := 20 * mgi) (y := i) hx hb d_M_step_159 ?_
                      refine lv_aload_n hx hb d_M_step_160 rfl (lv_at hl 1 rfl) ?_
                      refine pf_get (v := .ref (g.lk M 30)) (C := "BigRunnerModel") (T := FT10) (N := 45) hx hb (hw10 hB _) (fun _ h9 => h9) hown hK hP (lo_in hL t_M (by decide)) e16 rfl 30 (by decide) (wd_977 hB _) rfl d_M_step_161 ?_
                      refine lv_iload_n hx hb d_M_step_164 rfl (lv_at hl 0 rfl) ?_
                      obtain ⟨h_113, e112⟩ := oc_62.of (lo_k11_30 hL _ t_M) (hI46.1 (g.lk M 30))
                      refine pf_iald (i := i) hx hb hK hP (lo_in hL (lo_k11_30 hL _ t_M) (by decide)) e112 (lo_t62 hL _ (lo_k11_30 hL _ t_M)) (by omega) (by decide) d_M_step_165 ?_
                      refine lv_topi (fun iv115 _ => ?_)
                      obtain ⟨h_117, e116⟩ := oc_60.of (lo_k11_28 hL _ t_M) (hI46.1 (g.lk M 28))
                      refine pf_iast (i := (20 * mgi) + i) hx hb hK hP hD hS (lo_in hL (lo_k11_28 hL _ t_M) (by decide)) e116 (lo_t60 hL _ (lo_k11_28 hL _ t_M)) (by omega) (by decide) d_M_step_166 (fun f119 H locs e120 k121 hP hD hS => ?_)
                      have eC := (k121 (g.lk M 6) (tg_ne (lo_k11_6 hL _ t_M) (lo_k11_28 hL _ t_M) (by decide))).trans eC
                      have eA := (k121 (g.lk M 7) (tg_ne (lo_k11_7 hL _ t_M) (lo_k11_28 hL _ t_M) (by decide))).trans eA
                      have e16 := (k121 M (tg_ne t_M (lo_k11_28 hL _ t_M) (by decide))).trans e16
                      have e112 := (k121 (g.lk M 30) (tg_ne (lo_k11_30 hL _ t_M) (lo_k11_28 hL _ t_M) (by decide))).trans e112
                      have hu := hu.st k121 (lo_k11_28 hL _ t_M) (by decide)
                      have hv47 := hv47.st k121 (lo_k11_28 hL _ t_M) (by decide)
                      have hk122 : ∀ b, b ≠ (g.lk M 28) → f119 b = f42 b := k121
                      refine lv_iinc (k := 0) (v := nI (i + 1)) (lv' := [(1, .int (nI (i + 1))), (0, .ref M)]) hx hb d_M_step_167 hl rfl (by rw [nI_succ]; rfl) (by decide) rfl (fun ls hl => ?_)
                      refine lv_goto (tgt := 132) hx hb d_M_step_170 (by decide) ?_
                      have hI123 := iv_1 hI46 hL (lo_k11_28 hL _ t_M) (by decide) hk122 (oc_60.mk (lo_k11_28 hL _ t_M) (⟨_, e120⟩))
                      exact ih44 (i + 1) f119 H locs ls (by omega) (by omega) hI123 hv47 hl hP hD hS
              exact lp41 21 0 f12 H locs ls (by omega) (by omega) hI17 un.rf hl hP hD hS
          · skip
            replace b20 := (nI_eq (a := w) (b := 8) (by omega) (by omega)).mp b20
            have q11 := wo_v hWO (by omega) (by omega)
            refine lv_aload_n hx hb d_M_step_100 rfl (lv_at hl 0 rfl) ?_
            refine lv_aload_n hx hb d_M_step_101 rfl (lv_at hl 0 rfl) ?_
            refine pf_get (v := .ref (g.lk M 7)) (C := "BigRunnerModel") (T := FT10) (N := 45) hx hb (hw10 hB _) (fun _ h9 => h9) hown hK hP (lo_in hL t_M (by decide)) e16 rfl 7 (by decide) (wd_954 hB _) rfl d_M_step_102 ?_
            refine lv_aload_n hx hb d_M_step_105 rfl (lv_at hl 0 rfl) ?_
            refine pf_get (v := .int (nI p8)) (C := "BigRunnerModel") (T := FT10) (N := 45) hx hb (hw10 hB _) (fun _ h9 => h9) hown hK hP (lo_in hL t_M (by decide)) e16 rfl 38 (by decide) (wd_985 hB _) rfl d_M_step_106 ?_
            refine pf_iald (i := p8) hx hb hK hP (lo_in hL (lo_k11_7 hL _ t_M) (by decide)) eA (lo_t44 hL _ (lo_k11_7 hL _ t_M)) (by omega) (by decide) d_M_step_109 ?_
            refine lv_topi (fun z_ hz_ => ?_)
            obtain rfl : z_ = nI v := hz_.trans hv
            refine pcc_v (va_runV (C := "BigRunnerModel") (As := [.int (nI v)]) (rest := []) ⟨hx, hb, hml, hown, tb_nil⟩ (m_assign l g H.size f12 M v hL t_M hI17 (by omega)) ⟨(callB_of 1 (tb_one (wd_1216 hB _)) tb_good1 rfl rfl rfl (wd_82 hB _) (wd_1213 hB _) (by decide +kernel) ⟨Nat.le_of_ble_eq_true rfl, Nat.le_of_ble_eq_true rfl⟩), (wd_1215 hB _), (wd_60 hB _)⟩ ⟨pe_bl, pg_recv (ci := 10) hK hP (lo_in hL t_M (by decide)) e16 rfl, pe_pre hB hK hP hD⟩ rfl rfl hl.1 rfl (lv_room (Nat.le_of_ble_eq_true rfl)) d_M_step_110 ⟨Nat.le_of_ble_eq_true rfl, Nat.le_of_ble_eq_true rfl⟩) hS (fun f125 H locs hq126 hP hD hS => ?_)
            obtain ⟨hI1_127, hu1_128⟩ := hq126
            have hu := hu.tr hu1_128 (by decide)
            have eC := hu1_128.at (lo_k11_6 hL _ t_M) (by decide) eC
            have eA := hu1_128.at (lo_k11_7 hL _ t_M) (by decide) eA
            have e16 := hu1_128.at t_M (by decide) e16
            refine lv_goto (tgt := 234) hx hb d_M_step_113 (by decide) ?_
            refine lv_aload_n hx hb d_M_step_234 rfl (lv_at hl 0 rfl) ?_
            refine lv_dup hx hb d_M_step_235 rfl ?_
            refine pf_get (v := .int (nI p8)) (C := "BigRunnerModel") (T := FT10) (N := 45) hx hb (hw10 hB _) (fun _ h9 => h9) hown hK hP (lo_in hL t_M (by decide)) e16 rfl 38 (by decide) (wd_985 hB _) rfl d_M_step_236 ?_
            refine lv_iconst (v := nI 1) hx hb d_M_step_239 (by decide) ?_
            refine pf_iaddN (x := p8) (y := 1) hx hb d_M_step_240 ?_
            refine pf_put (v := .int (nI (p8 + 1))) (ty := .int) (fs' := [.int mth, .ref (g.lk M 1), .int (nI mn), .ref (g.lk M 3), .ref (g.lk M 4), .int (nI mdr), .ref (g.lk M 6), .ref (g.lk M 7), .ref (g.lk M 8), .int (nI msz), .int (nI mix), .int (nI mdp), .ref (g.lk M 12), .int (nI mwt), .ref (g.lk M 14), .ref (g.lk M 15), .int (nI mop), .ref (g.lk M 17), .ref (g.lk M 18), .ref (g.lk M 19), .ref (g.lk M 20), .ref (g.lk M 21), .ref (g.lk M 22), .ref (g.lk M 23), .ref (g.lk M 24), .ref (g.lk M 25), .ref (g.lk M 26), .ref (g.lk M 27), .ref (g.lk M 28), .ref (g.lk M 29), .ref (g.lk M 30), .ref (g.lk M 31), .int (nI t8), .ref (g.lk M 33), .ref (g.lk M 34), .ref (g.lk M 35), .int (nI mwa), .int (nI mgi), .int (nI (p8 + 1)), .int (nI mst), .int (nI mtr), .int (nI (msp + 1)), .int ma8, .int lg8, .int mdu]) (C := "BigRunnerModel") (T := FT10) (N := 45) hx hb (hw10 hB _) (fun _ h9 => h9) TY10 ok10 nm10 hown hK hP hD hS (lo_in hL t_M (by decide)) e16 rfl 38 (by decide) (wd_985 hB _) rfl (by decide +kernel) rfl rfl (Nat.le_of_ble_eq_true rfl) rfl d_M_step_241 (fun f129 H locs e130 k131 hP hD hS => ?_)
            have eC := (k131 (g.lk M 6) (tg_ne (lo_k11_6 hL _ t_M) t_M (by decide))).trans eC
            have eA := (k131 (g.lk M 7) (tg_ne (lo_k11_7 hL _ t_M) t_M (by decide))).trans eA
            have hu := hu.st k131 t_M (by decide)
            have hk132 : ∀ b, b ≠ M → f129 b = f125 b := k131
            have hI133 := iv_1 hI1_127 hL t_M (by decide) hk132 (oc_11.mk t_M (⟨mth, mn, mdr, msz, mix, mdp, mwt, mop, t8, mwa, mgi, (p8 + 1), mst, mtr, (msp + 1), ma8, lg8, mdu, e130, (by omega), (by omega), (by omega), (by omega), (by omega), (by omega), (by omega), (by omega), (by omega), (by omega), (by omega), (by omega), (by omega), (by omega), hmb14⟩))
            exact pe_vret hx hb hr hlocks hK hP hD hS d_M_step_244 ⟨⟨t8, mwa, mgi, (p8 + 1), mtr, (msp + 1), ma8, lg8, by omega, by omega, by omega, by omega, by omega, by omega, (fun _ => ⟨by omega, fun _ => by first | exact hq10 | (have z8 := hjt.2.2 (by omega); rw [show v - 1 + 1 = v by omega]; exact z8)⟩), e130⟩, hI133, hu⟩
        · skip
          replace b19 := mt (nI_leI (a := 8) (b := w) (by omega) (by omega)).mpr b19
          have hlt8 := wo_lt hWO (by omega)
          refine lv_aload_n hx hb d_M_step_57 rfl (lv_at hl 0 rfl) ?_
          refine lv_aload_n hx hb d_M_step_58 rfl (lv_at hl 0 rfl) ?_
          refine pf_get (v := .int (nI p8)) (C := "BigRunnerModel") (T := FT10) (N := 45) hx hb (hw10 hB _) (fun _ h9 => h9) hown hK hP (lo_in hL t_M (by decide)) e16 rfl 38 (by decide) (wd_985 hB _) rfl d_M_step_59 ?_
          refine pcc_v (va_runV (C := "BigRunnerModel") (As := [.int (nI p8)]) (rest := []) ⟨hx, hb, hml, hown, tb_nil⟩ (m_work l g H.size f12 M mth mn mdr msz mix mdp mwt mop t8 mwa mgi p8 mst mtr ((msp + 1)) ma8 lg8 mdu hC hA p8 w v hL t_M hI17 e16 ⟨(by omega), (by omega), (by omega), (by omega), (by omega), (by omega), (by omega), (by omega), (by omega), (by omega), (by omega), (by omega), (by omega), (by omega), hmb14⟩ eC eA hw hv (by omega) (by omega) (ws_of hWO ht9) (by omega) (by omega)) ⟨(callB_of 1 (tb_one (wd_1220 hB _)) tb_good1 rfl rfl rfl (wd_82 hB _) (wd_1217 hB _) (by decide +kernel) ⟨Nat.le_of_ble_eq_true rfl, Nat.le_of_ble_eq_true rfl⟩), (wd_1219 hB _), (wd_61 hB _)⟩ ⟨pe_bl, pg_recv (ci := 10) hK hP (lo_in hL t_M (by decide)) e16 rfl, pe_pre hB hK hP hD⟩ rfl rfl hl.1 rfl (lv_room (Nat.le_of_ble_eq_true rfl)) d_M_step_62 ⟨Nat.le_of_ble_eq_true rfl, Nat.le_of_ble_eq_true rfl⟩) hS (fun f135 H locs hq136 hP hD hS => ?_)
          obtain ⟨x1_137, hI1_138, hu1_139⟩ := hq136
          have hu := hu.tr hu1_139 (by decide)
          have hv18 := hv18.tr hu1_139 (by decide)
          have eC := hu1_139.at (lo_k11_6 hL _ t_M) (by decide) eC
          have eA := hu1_139.at (lo_k11_7 hL _ t_M) (by decide) eA
          obtain ⟨tp1_141, ma1_142, lg1_143, tr1_144, c145, c146, c147, e140⟩ := x1_137
          refine lv_aload_n hx hb d_M_step_65 rfl (lv_at hl 0 rfl) ?_
          refine pf_get (v := .int (nI tr1_144)) (C := "BigRunnerModel") (T := FT10) (N := 45) hx hb (hw10 hB _) (fun _ h9 => h9) hown hK hP (lo_in hL t_M (by decide)) e140 rfl 40 (by decide) (wd_987 hB _) rfl d_M_step_66 ?_
          refine lv_if_le (tgt := 73) hx hb d_M_step_69 (by decide) (fun b148 => ?_) (fun b148 => ?_)
          · skip
            replace b148 := (nI_leI (a := tr1_144) (b := 0) (by omega) (by omega)).mp b148
            have htr149 := c147 (by omega)
            obtain rfl : mtr = tr1_144 := by omega
            refine lv_aload_n hx hb d_M_step_73 rfl (lv_at hl 0 rfl) ?_
            refine lv_dup hx hb d_M_step_74 rfl ?_
            refine pf_get (v := .int (nI p8)) (C := "BigRunnerModel") (T := FT10) (N := 45) hx hb (hw10 hB _) (fun _ h9 => h9) hown hK hP (lo_in hL t_M (by decide)) e140 rfl 38 (by decide) (wd_985 hB _) rfl d_M_step_75 ?_
            refine lv_iconst (v := nI 1) hx hb d_M_step_78 (by decide) ?_
            refine pf_iaddN (x := p8) (y := 1) hx hb d_M_step_79 ?_
            refine pf_put (v := .int (nI (p8 + 1))) (ty := .int) (fs' := [.int mth, .ref (g.lk M 1), .int (nI mn), .ref (g.lk M 3), .ref (g.lk M 4), .int (nI mdr), .ref (g.lk M 6), .ref (g.lk M 7), .ref (g.lk M 8), .int (nI msz), .int (nI mix), .int (nI mdp), .ref (g.lk M 12), .int (nI mwt), .ref (g.lk M 14), .ref (g.lk M 15), .int (nI mop), .ref (g.lk M 17), .ref (g.lk M 18), .ref (g.lk M 19), .ref (g.lk M 20), .ref (g.lk M 21), .ref (g.lk M 22), .ref (g.lk M 23), .ref (g.lk M 24), .ref (g.lk M 25), .ref (g.lk M 26), .ref (g.lk M 27), .ref (g.lk M 28), .ref (g.lk M 29), .ref (g.lk M 30), .ref (g.lk M 31), .int (nI tp1_141), .ref (g.lk M 33), .ref (g.lk M 34), .ref (g.lk M 35), .int (nI mwa), .int (nI mgi), .int (nI (p8 + 1)), .int (nI mst), .int (nI mtr), .int (nI (msp + 1)), .int ma1_142, .int lg1_143, .int mdu]) (C := "BigRunnerModel") (T := FT10) (N := 45) hx hb (hw10 hB _) (fun _ h9 => h9) TY10 ok10 nm10 hown hK hP hD hS (lo_in hL t_M (by decide)) e140 rfl 38 (by decide) (wd_985 hB _) rfl (by decide +kernel) rfl rfl (Nat.le_of_ble_eq_true rfl) rfl d_M_step_80 (fun f150 H locs e151 k152 hP hD hS => ?_)
            have eC := (k152 (g.lk M 6) (tg_ne (lo_k11_6 hL _ t_M) t_M (by decide))).trans eC
            have eA := (k152 (g.lk M 7) (tg_ne (lo_k11_7 hL _ t_M) t_M (by decide))).trans eA
            have hu := hu.st k152 t_M (by decide)
            have hv18 := hv18.st k152 t_M (by decide)
            have hk153 : ∀ b, b ≠ M → f150 b = f135 b := k152
            refine lv_goto (tgt := 43) hx hb d_M_step_83 (by decide) ?_
            have hI154 := iv_1 hI1_138 hL t_M (by decide) hk153 (oc_11.mk t_M (⟨mth, mn, mdr, msz, mix, mdp, mwt, mop, tp1_141, mwa, mgi, (p8 + 1), mst, mtr, (msp + 1), ma1_142, lg1_143, mdu, e151, (by omega), (by omega), (by omega), (by omega), (by omega), (by omega), (by omega), (by omega), (by omega), (by omega), (by omega), (by omega), (by omega), (by omega), hmb14⟩))
            exact ih14 (p8 + 1) tp1_141 ma1_142 lg1_143 f150 H locs ls (by omega) (by omega) (wo_next hWO (by omega) ht9 htr149) (by omega) (Or.inr (wo_pos hWO (by omega) ht9 htr149)) e151 hI154 hv18 hl hP hD hS
          · skip
            replace b148 := mt (nI_leI (a := tr1_144) (b := 0) (by omega) (by omega)).mpr b148
            exact pe_vret hx hb hr hlocks hK hP hD hS d_M_step_72 ⟨⟨tp1_141, mwa, mgi, p8, tr1_144, (msp + 1), ma1_142, lg1_143, by omega, by omega, by omega, by omega, by omega, by omega, (fun z9 => absurd z9 (by omega)), e140⟩, hI1_138, hu⟩
    exact lp11 (msz + 1) mpc 0 mma mlg f5 H locs ls (by omega) (by omega) hd0.symm (by omega) (by omega) e6 hI10 un.rf hl hP hD hS
  · skip
    replace b9 := (nI_eq (a := w) (b := 9) (by omega) (by omega)).mp b9
    have hq10 := wo_end hWO (by omega)
    have q11 := wo_v hWO (by omega) (by omega)
    have hwa9 : 0 < mwa := h9w.resolve_left (fun z => z (hw.trans (congrArg nI (by omega))))
    refine lv_aload_n hx hb d_M_step_29 rfl (lv_at hl 0 rfl) ?_
    refine lv_aload_n hx hb d_M_step_30 rfl (lv_at hl 0 rfl) ?_
    refine pf_get (v := .ref (g.lk M 7)) (C := "BigRunnerModel") (T := FT10) (N := 45) hx hb (hw10 hB _) (fun _ h9 => h9) hown hK hP (lo_in hL t_M (by decide)) e6 rfl 7 (by decide) (wd_954 hB _) rfl d_M_step_31 ?_
    refine lv_aload_n hx hb d_M_step_34 rfl (lv_at hl 0 rfl) ?_
    refine pf_get (v := .int (nI mpc)) (C := "BigRunnerModel") (T := FT10) (N := 45) hx hb (hw10 hB _) (fun _ h9 => h9) hown hK hP (lo_in hL t_M (by decide)) e6 rfl 38 (by decide) (wd_985 hB _) rfl d_M_step_35 ?_
    refine pf_iald (i := mpc) hx hb hK hP (lo_in hL (lo_k11_7 hL _ t_M) (by decide)) eA (lo_t44 hL _ (lo_k11_7 hL _ t_M)) (by omega) (by decide) d_M_step_38 ?_
    refine lv_topi (fun z_ hz_ => ?_)
    obtain rfl : z_ = nI v := hz_.trans hv
    have hI155 := iv_1 hI hL t_M (by decide) hk8 (oc_11.mk t_M (⟨mth, mn, mdr, msz, mix, mdp, mwt, mop, 0, mwa, mgi, mpc, mst, mtr, (msp + 1), mma, mlg, mdu, e6, (by omega), (by omega), (by omega), (by omega), (by omega), (by omega), (by omega), (by omega), (by omega), (by omega), (by omega), (by omega), (by omega), (by omega), hmb14⟩))
    refine pcc_v (va_runV (C := "BigRunnerModel") (As := [.int (nI v)]) (rest := []) ⟨hx, hb, hml, hown, tb_nil⟩ (m_takeInput l g H.size f5 M mth mn mdr msz mix mdp mwt mop 0 mwa mgi mpc mst mtr ((msp + 1)) mma mlg mdu v hL t_M hI155 e6 ⟨(by omega), (by omega), (by omega), (by omega), (by omega), (by omega), (by omega), (by omega), (by omega), (by omega), (by omega), (by omega), (by omega), (by omega), hmb14⟩ (by omega) (by omega) (by omega)) ⟨(callB_of 1 (tb_one (wd_1207 hB _)) tb_good1 rfl rfl rfl (wd_82 hB _) (wd_1204 hB _) (by decide +kernel) ⟨Nat.le_of_ble_eq_true rfl, Nat.le_of_ble_eq_true rfl⟩), (wd_1206 hB _), (wd_58 hB _)⟩ ⟨pe_bl, pg_recv (ci := 10) hK hP (lo_in hL t_M (by decide)) e6 rfl, pe_pre hB hK hP hD⟩ rfl rfl hl.1 rfl (lv_room (Nat.le_of_ble_eq_true rfl)) d_M_step_39 ⟨Nat.le_of_ble_eq_true rfl, Nat.le_of_ble_eq_true rfl⟩) hS (fun f157 H locs hq158 hP hD hS => ?_)
    obtain ⟨x1_159, hI1_160, hu1_161⟩ := hq158
    have hu := hu.tr hu1_161 (by decide)
    have eC := hu1_161.at (lo_k11_6 hL _ t_M) (by decide) eC
    have eA := hu1_161.at (lo_k11_7 hL _ t_M) (by decide) eA
    obtain ⟨wa1_163, pc1_164, c165, c166, e162⟩ := x1_159
    exact pe_vret hx hb hr hlocks hK hP hD hS d_M_step_42 ⟨⟨0, wa1_163, mgi, pc1_164, mtr, (msp + 1), mma, mlg, by omega, by omega, by omega, by omega, by omega, by omega, (fun _ => ⟨by omega, fun _ => (by rw [c166]; exact hq10)⟩), e162⟩, hI1_160, hu⟩
