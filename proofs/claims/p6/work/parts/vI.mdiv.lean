set_option maxHeartbeats 4000000 in
set_option maxRecDepth 100000 in
theorem w_holds0 (l : Launch) (g : Lay) (sz : Nat) (f : Nat → va_E) (M : Nat) (y : Nat) (ff : Nat) (hLI : Nat → Int32) (hRS : Nat → Int32) (hL : LO g) (t_M : g.tg M = 11) (hI : OC g f) (eLI : f (g.lk M 30) = .inl (g.ac (g.lk M 30), 1600, .inl hLI)) (eRS : f (g.lk M 34) = .inl (g.ac (g.lk M 34), 44, .inl hRS)) (c6LI : C6 1600 hLI) (c6RS : C6 44 hRS) (hy9 : y < 80) (hff : ff < 1000000) : Met l ⟨"BigRunnerModel", "holds", "(IIZ)Z"⟩ [Cond.code ⟨"BigRunnerModel", "holds", "(IIZ)Z"⟩ prog_12_method_33_code 12 (some .boolean)] ({ frames := 1, cells := 0, slots := 0, locals := 22 }) (va_Pc [.ref M, .int (nI y), .int (nI ff), .int (nI 0)] (pc_in g sz f)) (va_Qi (fun r f1 => (r = nI 0 ∨ r = nI 1) ∧ (r = nI 1 → ff * sl hLI y ≤ kw (dg hRS) 22) ∧ (r = nI 0 → kw (dg hRS) 22 < ff * sl hLI y) ∧ (f = f1)) (pc_out g sz) (pc_A g sz)) 0 0 (pc_A g sz) := by
  refine pe_ofW (cc := prog_12_method_33_code) (maxL := 12) (ret := (some .boolean)) (lv := [(0, .ref M), (1, .int (nI y)), (2, .int (nI ff)), (3, .int (nI 0))]) (by decide) (Nat.le_of_ble_eq_true rfl) rfl ?_
  intro p e s m args below meth c ls hx hb hr hml hlocks hown hB hP hK hD hsz hS hl
  subst hsz
  refine lv_lconst (v := nL 0) hx hb d_M_holds_0 (by decide) ?_
  refine lv_lstore (lv' := [(4, .long (nL 0)), (0, .ref M), (1, .int (nI y)), (2, .int (nI ff)), (3, .int (nI 0))]) hx hb d_M_holds_1 hl (by decide) rfl (fun ls hl => ?_)
  refine lv_iconst (v := nI 0) hx hb d_M_holds_3 (by decide) ?_
  refine lv_istore (lv' := [(6, .int (nI 0)), (4, .long (nL 0)), (0, .ref M), (1, .int (nI y)), (2, .int (nI ff)), (3, .int (nI 0))]) hx hb d_M_holds_4 hl (by decide) rfl (fun ls hl => ?_)
  refine lv_iconst (v := nI 0) hx hb d_M_holds_6 (by decide) ?_
  refine lv_istore (lv' := [(7, .int (nI 0)), (6, .int (nI 0)), (4, .long (nL 0)), (0, .ref M), (1, .int (nI y)), (2, .int (nI ff)), (3, .int (nI 0))]) hx hb d_M_holds_7 hl (by decide) rfl (fun ls hl => ?_)
  have lp1 : ∀ (k3 : Nat) (cy : Int64) (cI : Int) (ls9 : Nat) (i : Nat) (N : Nat) (H : Heap) (locs : List Loc) (ls : Array Slot), (22 < i + k3) → (cy.toInt = cI) → (-1000000 ≤ cI) → (cI ≤ 0) → ((ls9 = 1 ∧ cI < 0) ∨ (ls9 = 0 ∧ cI = 0)) → (i ≤ 22) → (N < 1000000 ^ i) → ((N : Int) + cI * (1000000 ^ i : Nat) = (kw (dg hRS) i : Int) - (ff : Int) * (kw (l6 hLI y) i : Int)) → lv_has ls 12 [(7, .int (nI i)), (6, .int (nI ls9)), (4, .long cy), (0, .ref M), (1, .int (nI y)), (2, .int (nI ff)), (3, .int (nI 0))] → va_P g.D vcl (va_pl g.LP f) H → va_D (pc_A g s.heap.size) (va_pl g.LP f) → va_S (pc_A g s.heap.size) s.heap H locs → W p l e ({ frames := 1, cells := 0, slots := 0, locals := 22 }) s m args below meth c H locs 0 0 (MQ below (va_Qi (fun r f1 => (r = nI 0 ∨ r = nI 1) ∧ (r = nI 1 → ff * sl hLI y ≤ kw (dg hRS) 22) ∧ (r = nI 0 → kw (dg hRS) 22 < ff * sl hLI y) ∧ (f = f1)) (pc_out g s.heap.size) (pc_A g s.heap.size)) args s 0 0 (pc_A g s.heap.size)) (F0 m 9 ls []) := by
    intro k3
    induction k3 with
    | zero => intros; exfalso; omega
    | succ k3 ih4 =>
      intro cy cI ls9 i N H locs ls hfu5 hcy hb1 hb2 hls hi hN he hl hP hD hS
      refine lv_iload hx hb d_M_holds_9 (lv_at hl 0 rfl) ?_
      refine lv_bipush (v := nI 22) hx hb d_M_holds_11 (by decide) ?_
      refine lv_icmp_ge (tgt := 102) hx hb d_M_holds_13 (by decide) (fun b8 => ?_) (fun b8 => ?_)
      · skip
        replace b8 := (nI_leI (a := 22) (b := i) (by omega) (by omega)).mp b8
        have hho : (cI < 0 → kw (dg hRS) 22 < ff * sl hLI y) ∧ (cI = 0 → ff * sl hLI y ≤ kw (dg hRS) 22 ∧ N = kw (dg hRS) 22 - ff * sl hLI y) := by have y9 : i = 22 := (by omega); subst y9; have y8 := he; rw [kw_l6 (by omega)] at y8; exact ho_end hb2 hN y8
        refine lv_iload hx hb d_M_holds_102 (lv_at hl 1 rfl) ?_
        refine lv_if_ne (tgt := 111) hx hb d_M_holds_104 (by decide) (fun b9 => ?_) (fun b9 => ?_)
        · skip
          replace b9 := mt (nI_eq (a := ls9) (b := 0) (by omega) (by omega)).mpr b9
          refine lv_iconst (v := nI 0) hx hb d_M_holds_111 (by decide) ?_
          exact pe_zret hx hb hr hlocks hK hP hD hS d_M_holds_112 rfl ⟨(Or.inl rfl), (fun z9 => absurd z9 (by decide)), (fun _ => hho.1 (by omega)), rfl⟩
        · skip
          replace b9 := (nI_eq (a := ls9) (b := 0) (by omega) (by omega)).mp b9
          refine lv_iconst (v := nI 1) hx hb d_M_holds_107 (by decide) ?_
          refine lv_goto (tgt := 112) hx hb d_M_holds_108 (by decide) ?_
          exact pe_zret hx hb hr hlocks hK hP hD hS d_M_holds_112 rfl ⟨(Or.inr rfl), (fun _ => (hho.2 (by omega)).1), (fun z9 => absurd z9 (by decide)), rfl⟩
      · skip
        replace b8 := mt (nI_leI (a := 22) (b := i) (by omega) (by omega)).mpr b8
        refine lv_aload_n hx hb d_M_holds_16 rfl (lv_at hl 3 rfl) ?_
        obtain ⟨th_11, n_12, dr_13, sz_14, ix_15, dp_16, wt_17, op_18, tp_19, wa_20, gi_21, pc_22, st_23, tr_24, sp_25, ma_26, lg_27, du_28, e10, c29, c30, c31, c32, c33, c34, c35, c36, c37, c38, c39, c40, c41, c42, c43⟩ := oc_11.of t_M (hI M)
        refine pf_get (v := .ref (g.lk M 34)) (C := "BigRunnerModel") (T := FT10) (N := 45) hx hb (hw10 hB _) (fun _ h9 => h9) hown hK hP (lo_in hL t_M (by decide)) e10 rfl 34 (by decide) (wd_981 hB _) rfl d_M_holds_17 ?_
        refine lv_iload hx hb d_M_holds_20 (lv_at hl 0 rfl) ?_
        refine pf_iald (i := i) hx hb hK hP (lo_in hL (lo_k11_34 hL _ t_M) (by decide)) eRS (lo_t65 hL _ (lo_k11_34 hL _ t_M)) (by omega) (by decide) d_M_holds_22 ?_
        have hd44 := dg6_lt c6RS (j := i) (by omega)
        refine lv_topi (fun z_ hz_ => ?_)
        obtain rfl : z_ = nI (dg hRS i) := hz_.trans (dg6_eq c6RS (by omega))
        refine pf_i2lN hx hb (by omega) d_M_holds_23 ?_
        refine lv_aload_n hx hb d_M_holds_24 rfl (lv_at hl 3 rfl) ?_
        refine lv_iload_n hx hb d_M_holds_25 rfl (lv_at hl 4 rfl) ?_
        refine lv_iload hx hb d_M_holds_26 (lv_at hl 0 rfl) ?_
        refine pcc_i (va_runV (C := "BigRunnerModel") (As := [.int (nI y), .int (nI i)]) (rest := [.long (nL (dg hRS i))]) ⟨hx, hb, hml, hown, tb_nil⟩ (w_limb l g H.size f M y i hLI hL t_M hI eLI c6LI (by omega) (by omega)) ⟨(callB_of 2 (tb_one (wd_1232 hB _)) tb_good1 rfl rfl rfl (wd_82 hB _) (wd_1229 hB _) (by decide +kernel) ⟨Nat.le_of_ble_eq_true rfl, Nat.le_of_ble_eq_true rfl⟩), (wd_1231 hB _), (wd_64 hB _)⟩ ⟨pe_bl, pg_recv (ci := 10) hK hP (lo_in hL t_M (by decide)) e10 rfl, pe_pre hB hK hP hD⟩ rfl rfl hl.1 rfl (lv_room (Nat.le_of_ble_eq_true rfl)) d_M_holds_28 ⟨Nat.le_of_ble_eq_true rfl, Nat.le_of_ble_eq_true rfl⟩) hS (fun r45 f46 H locs hq47 hP hD hS => ?_)
        obtain ⟨qv_48, rfl⟩ := hq47
        subst qv_48
        have hm49 : l6 hLI y i < 1000000 := l6_lt c6LI (by omega) _
        refine pf_i2lN hx hb (by omega) d_M_holds_31 ?_
        refine lv_iload_n hx hb d_M_holds_32 rfl (lv_at hl 5 rfl) ?_
        refine pf_i2lN hx hb (by omega) d_M_holds_33 ?_
        refine pf_lmulN (x := l6 hLI y i) (y := ff) hx hb d_M_holds_34 ?_
        have hm50 : (l6 hLI y i) * ff ≤ 999999 * 999999 := Nat.mul_le_mul (by omega) (by omega)
        refine lv_lsub hx hb d_M_holds_35 ?_
        refine lv_lload hx hb d_M_holds_36 (lv_at hl 2 rfl) ?_
        refine lv_ladd hx hb d_M_holds_38 ?_
        refine lv_topl (fun d9 hd9 => ?_)
        obtain ⟨D9, hD9⟩ : ∃ D : Int, D = (dg hRS i : Int) - ((l6 hLI y i * ff : Nat) : Int) + cI := ⟨_, rfl⟩
        have hdD : d9.toInt = D9 := by rw [hD9]; exact hd_D hcy hb1 hb2 (by omega) (by omega) hd9
        refine lv_lstore (lv' := [(8, .long d9), (7, .int (nI i)), (6, .int (nI ls9)), (4, .long cy), (0, .ref M), (1, .int (nI y)), (2, .int (nI ff)), (3, .int (nI 0))]) hx hb d_M_holds_39 hl (by decide) rfl (fun ls hl => ?_)
        refine lv_lload hx hb d_M_holds_41 (lv_at hl 0 rfl) ?_
        refine lv_ldc2 (v := 1000000) hx hb hown (wd_1233 hB _) d_M_holds_43 ?_
        refine lv_topl (fun z_ hz_ => ?_)
        obtain rfl : z_ = nL 1000000 := hz_
        refine lv_lrem hx hb d_M_holds_46 (by decide) ?_
        refine lv_ldc2 (v := 1000000) hx hb hown (wd_1233 hB _) d_M_holds_47 ?_
        refine lv_topl (fun z_ hz_ => ?_)
        obtain rfl : z_ = nL 1000000 := hz_
        refine lv_ladd hx hb d_M_holds_50 ?_
        refine lv_ldc2 (v := 1000000) hx hb hown (wd_1233 hB _) d_M_holds_51 ?_
        refine lv_topl (fun z_ hz_ => ?_)
        obtain rfl : z_ = nL 1000000 := hz_
        refine lv_lrem hx hb d_M_holds_54 (by decide) ?_
        refine lv_topl (fun r9 hr9 => ?_)
        have hrD := hd_r hdD (by omega) hr9
        obtain ⟨hr8, hr7⟩ := hd_n hrD
        obtain ⟨rr, hrr⟩ : ∃ z : Nat, z = (D9 % 1000000).toNat := ⟨_, rfl⟩
        rw [← hrr] at hr8 hr7
        clear hr9
        subst hr8
        refine lv_lstore (lv' := [(10, .long (nL rr)), (8, .long d9), (7, .int (nI i)), (6, .int (nI ls9)), (4, .long cy), (0, .ref M), (1, .int (nI y)), (2, .int (nI ff)), (3, .int (nI 0))]) hx hb d_M_holds_55 hl (by decide) rfl (fun ls hl => ?_)
        refine lv_lload hx hb d_M_holds_57 (lv_at hl 1 rfl) ?_
        refine lv_lload hx hb d_M_holds_59 (lv_at hl 0 rfl) ?_
        refine lv_lsub hx hb d_M_holds_61 ?_
        refine lv_ldc2 (v := 1000000) hx hb hown (wd_1233 hB _) d_M_holds_62 ?_
        refine lv_topl (fun z_ hz_ => ?_)
        obtain rfl : z_ = nL 1000000 := hz_
        refine lv_ldiv hx hb d_M_holds_65 (by decide) ?_
        refine lv_topl (fun c9 hc9 => ?_)
        have hcD := hd_c hdD (by omega) hrD hc9
        refine lv_lstore (lv' := [(4, .long c9), (10, .long (nL rr)), (8, .long d9), (7, .int (nI i)), (6, .int (nI ls9)), (0, .ref M), (1, .int (nI y)), (2, .int (nI ff)), (3, .int (nI 0))]) hx hb d_M_holds_66 hl (by decide) rfl (fun ls hl => ?_)
        refine lv_iload_n hx hb d_M_holds_68 rfl (lv_at hl 8 rfl) ?_
        refine lv_if_eq (tgt := 82) hx hb d_M_holds_69 (by decide) (fun b51 => ?_) (fun b51 => ?_)
        · skip
          replace b51 := (nI_eq (a := 0) (b := 0) (by omega) (by omega)).mp b51
          refine lv_lload hx hb d_M_holds_82 (lv_at hl 0 rfl) ?_
          refine lv_lconst (v := nL 0) hx hb d_M_holds_84 (by decide) ?_
          refine W.lcmp hx hb d_M_holds_85 ?_
          refine lv_if_ge (tgt := 93) hx hb d_M_holds_86 (by decide) (fun b52 => ?_) (fun b52 => ?_)
          · skip
            replace b52 := pl_ge.mp b52
            refine lv_iconst (v := nI 0) hx hb d_M_holds_93 (by decide) ?_
            refine lv_istore (lv' := [(6, .int (nI 0)), (4, .long c9), (10, .long (nL rr)), (8, .long d9), (7, .int (nI i)), (0, .ref M), (1, .int (nI y)), (2, .int (nI ff)), (3, .int (nI 0))]) hx hb d_M_holds_94 hl (by decide) rfl (fun ls hl => ?_)
            refine lv_iinc (k := 4) (v := nI (i + 1)) (lv' := [(7, .int (nI (i + 1))), (6, .int (nI 0)), (4, .long c9), (10, .long (nL rr)), (8, .long d9), (0, .ref M), (1, .int (nI y)), (2, .int (nI ff)), (3, .int (nI 0))]) hx hb d_M_holds_96 hl rfl (by rw [nI_succ]; rfl) (by decide) rfl (fun ls hl => ?_)
            refine lv_goto (tgt := 9) hx hb d_M_holds_99 (by decide) ?_
            have hl : lv_has ls 12 [(7, .int (nI (i + 1))), (6, .int (nI 0)), (4, .long c9), (0, .ref M), (1, .int (nI y)), (2, .int (nI ff)), (3, .int (nI 0))] := lv_sub hl [0, 1, 2, 5, 6, 7, 8] rfl
            exact ih4 c9 (D9 / 1000000) 0 (i + 1) (N + (D9 % 1000000).toNat * 1000000 ^ i) H locs ls (by omega) hcD (by omega) (by omega) (Or.inr ⟨rfl, by have := (lt0 hcD).1 b52; omega⟩) (by omega) (ho_nlt hN (by omega)) (ho_step (R := dg hRS) (Y := l6 hLI y) he hD9) hl hP hD hS
          · skip
            replace b52 := mt pl_ge.mpr b52
            refine lv_iconst (v := nI 1) hx hb d_M_holds_89 (by decide) ?_
            refine lv_goto (tgt := 94) hx hb d_M_holds_90 (by decide) ?_
            refine lv_istore (lv' := [(6, .int (nI 1)), (4, .long c9), (10, .long (nL rr)), (8, .long d9), (7, .int (nI i)), (0, .ref M), (1, .int (nI y)), (2, .int (nI ff)), (3, .int (nI 0))]) hx hb d_M_holds_94 hl (by decide) rfl (fun ls hl => ?_)
            refine lv_iinc (k := 4) (v := nI (i + 1)) (lv' := [(7, .int (nI (i + 1))), (6, .int (nI 1)), (4, .long c9), (10, .long (nL rr)), (8, .long d9), (0, .ref M), (1, .int (nI y)), (2, .int (nI ff)), (3, .int (nI 0))]) hx hb d_M_holds_96 hl rfl (by rw [nI_succ]; rfl) (by decide) rfl (fun ls hl => ?_)
            refine lv_goto (tgt := 9) hx hb d_M_holds_99 (by decide) ?_
            have hl : lv_has ls 12 [(7, .int (nI (i + 1))), (6, .int (nI 1)), (4, .long c9), (0, .ref M), (1, .int (nI y)), (2, .int (nI ff)), (3, .int (nI 0))] := lv_sub hl [0, 1, 2, 5, 6, 7, 8] rfl
            exact ih4 c9 (D9 / 1000000) 1 (i + 1) (N + (D9 % 1000000).toNat * 1000000 ^ i) H locs ls (by omega) hcD (by omega) (by omega) (Or.inl ⟨rfl, (lt0 hcD).2 b52⟩) (by omega) (ho_nlt hN (by omega)) (ho_step (R := dg hRS) (Y := l6 hLI y) he hD9) hl hP hD hS
        · skip
          replace b51 := mt (nI_eq (a := 0) (b := 0) (by omega) (by omega)).mpr b51
          exfalso; omega
  exact lp1 23 (nL 0) 0 0 0 0 s.heap [] ls (by omega) (by decide) (by omega) (by omega) (Or.inr ⟨rfl, rfl⟩) (by omega) (by decide) (by simp [kw]) hl hP hD hS
set_option maxHeartbeats 4000000 in
set_option maxRecDepth 100000 in
theorem w_holds1 (l : Launch) (g : Lay) (sz : Nat) (f : Nat → va_E) (M : Nat) (y : Nat) (ff : Nat) (hLI : Nat → Int32) (hRS : Nat → Int32) (hL : LO g) (t_M : g.tg M = 11) (hI : IV g f) (eLI : f (g.lk M 30) = .inl (g.ac (g.lk M 30), 1600, .inl hLI)) (eRS : f (g.lk M 34) = .inl (g.ac (g.lk M 34), 44, .inl hRS)) (c6LI : C6 1600 hLI) (c6RS : C6 44 hRS) (hy9 : y < 80) (hff : ff < 1000000) : Met l ⟨"BigRunnerModel", "holds", "(IIZ)Z"⟩ [Cond.code ⟨"BigRunnerModel", "holds", "(IIZ)Z"⟩ prog_12_method_33_code 12 (some .boolean)] ({ frames := 1, cells := 0, slots := 0, locals := 22 }) (va_Pc [.ref M, .int (nI y), .int (nI ff), .int (nI 1)] (pc_in g sz f)) (va_Qi (fun r f1 => (r = nI 0 ∨ r = nI 1) ∧ (r = nI 1 → ff * sl hLI y ≤ kw (dg hRS) 22) ∧ (r = nI 0 → kw (dg hRS) 22 < ff * sl hLI y) ∧ (∃ h1 : Nat → Int32, f1 (g.lk M 34) = .inl (g.ac (g.lk M 34), 44, .inl h1) ∧ C6 44 h1 ∧ (∀ k, 22 ≤ k → h1 k = hRS k) ∧ (ff * sl hLI y ≤ kw (dg hRS) 22 → kw (dg h1) 22 = kw (dg hRS) 22 - ff * sl hLI y)) ∧ (IV g f1) ∧ (∀ b, b ≠ (g.lk M 34) → f1 b = f b)) (pc_out g sz) (pc_A g sz)) 0 0 (pc_A g sz) := by
  refine pe_ofW (cc := prog_12_method_33_code) (maxL := 12) (ret := (some .boolean)) (lv := [(0, .ref M), (1, .int (nI y)), (2, .int (nI ff)), (3, .int (nI 1))]) (by decide) (Nat.le_of_ble_eq_true rfl) rfl ?_
  intro p e s m args below meth c ls hx hb hr hml hlocks hown hB hP hK hD hsz hS hl
  subst hsz
  have hu : ∀ b, b ≠ (g.lk M 34) → f b = f b := fun _ _ => rfl
  refine lv_lconst (v := nL 0) hx hb d_M_holds_0 (by decide) ?_
  refine lv_lstore (lv' := [(4, .long (nL 0)), (0, .ref M), (1, .int (nI y)), (2, .int (nI ff)), (3, .int (nI 1))]) hx hb d_M_holds_1 hl (by decide) rfl (fun ls hl => ?_)
  refine lv_iconst (v := nI 0) hx hb d_M_holds_3 (by decide) ?_
  refine lv_istore (lv' := [(6, .int (nI 0)), (4, .long (nL 0)), (0, .ref M), (1, .int (nI y)), (2, .int (nI ff)), (3, .int (nI 1))]) hx hb d_M_holds_4 hl (by decide) rfl (fun ls hl => ?_)
  refine lv_iconst (v := nI 0) hx hb d_M_holds_6 (by decide) ?_
  refine lv_istore (lv' := [(7, .int (nI 0)), (6, .int (nI 0)), (4, .long (nL 0)), (0, .ref M), (1, .int (nI y)), (2, .int (nI ff)), (3, .int (nI 1))]) hx hb d_M_holds_7 hl (by decide) rfl (fun ls hl => ?_)
  have lp1 : ∀ (k3 : Nat) (cy : Int64) (cI : Int) (ls9 : Nat) (i : Nat) (N : Nat) (h : Nat → Int32) (f2 : Nat → va_E) (H : Heap) (locs : List Loc) (ls : Array Slot), (22 < i + k3) → (cy.toInt = cI) → (-1000000 ≤ cI) → (cI ≤ 0) → ((ls9 = 1 ∧ cI < 0) ∨ (ls9 = 0 ∧ cI = 0)) → (i ≤ 22) → (N < 1000000 ^ i) → ((N : Int) + cI * (1000000 ^ i : Nat) = (kw (dg hRS) i : Int) - (ff : Int) * (kw (l6 hLI y) i : Int)) → (C6 44 h) → (∀ k, i ≤ k → h k = hRS k) → (N = kw (dg h) i) → f2 (g.lk M 34) = .inl (g.ac (g.lk M 34), 44, .inl (h)) → IV g f2 → un [65] g f f2 → (∀ b, b ≠ (g.lk M 34) → f2 b = f b) → lv_has ls 12 [(7, .int (nI i)), (6, .int (nI ls9)), (4, .long cy), (0, .ref M), (1, .int (nI y)), (2, .int (nI ff)), (3, .int (nI 1))] → va_P g.D vcl (va_pl g.LP f2) H → va_D (pc_A g s.heap.size) (va_pl g.LP f2) → va_S (pc_A g s.heap.size) s.heap H locs → W p l e ({ frames := 1, cells := 0, slots := 0, locals := 22 }) s m args below meth c H locs 0 0 (MQ below (va_Qi (fun r f1 => (r = nI 0 ∨ r = nI 1) ∧ (r = nI 1 → ff * sl hLI y ≤ kw (dg hRS) 22) ∧ (r = nI 0 → kw (dg hRS) 22 < ff * sl hLI y) ∧ (∃ h1 : Nat → Int32, f1 (g.lk M 34) = .inl (g.ac (g.lk M 34), 44, .inl h1) ∧ C6 44 h1 ∧ (∀ k, 22 ≤ k → h1 k = hRS k) ∧ (ff * sl hLI y ≤ kw (dg hRS) 22 → kw (dg h1) 22 = kw (dg hRS) 22 - ff * sl hLI y)) ∧ (IV g f1) ∧ (∀ b, b ≠ (g.lk M 34) → f1 b = f b)) (pc_out g s.heap.size) (pc_A g s.heap.size)) args s 0 0 (pc_A g s.heap.size)) (F0 m 9 ls []) := by
    intro k3
    induction k3 with
    | zero => intros; exfalso; omega
    | succ k3 ih4 =>
      intro cy cI ls9 i N h f2 H locs ls hfu5 hcy hb1 hb2 hls hi hN he hc hup hNk e6 hI7 hv8 hu hl hP hD hS
      have eLI := hv8.at (lo_k11_30 hL _ t_M) (by decide) eLI
      refine lv_iload hx hb d_M_holds_9 (lv_at hl 0 rfl) ?_
      refine lv_bipush (v := nI 22) hx hb d_M_holds_11 (by decide) ?_
      refine lv_icmp_ge (tgt := 102) hx hb d_M_holds_13 (by decide) (fun b9 => ?_) (fun b9 => ?_)
      · skip
        replace b9 := (nI_leI (a := 22) (b := i) (by omega) (by omega)).mp b9
        have hho : (cI < 0 → kw (dg hRS) 22 < ff * sl hLI y) ∧ (cI = 0 → ff * sl hLI y ≤ kw (dg hRS) 22 ∧ N = kw (dg hRS) 22 - ff * sl hLI y) := by have y9 : i = 22 := (by omega); subst y9; have y8 := he; rw [kw_l6 (by omega)] at y8; exact ho_end hb2 hN y8
        refine lv_iload hx hb d_M_holds_102 (lv_at hl 1 rfl) ?_
        refine lv_if_ne (tgt := 111) hx hb d_M_holds_104 (by decide) (fun b10 => ?_) (fun b10 => ?_)
        · skip
          replace b10 := mt (nI_eq (a := ls9) (b := 0) (by omega) (by omega)).mpr b10
          refine lv_iconst (v := nI 0) hx hb d_M_holds_111 (by decide) ?_
          exact pe_zret hx hb hr hlocks hK hP hD hS d_M_holds_112 rfl ⟨(Or.inl rfl), (fun z9 => absurd z9 (by decide)), (fun _ => hho.1 (by omega)), ⟨_, e6, hc, fun k hk => hup k (by omega), fun z9 => by have y9 : i = 22 := (by omega); subst y9; rw [← hNk]; rcases (show cI < 0 ∨ cI = 0 by omega) with q | q; have := hho.1 q; omega; exact (hho.2 q).2⟩, hI7, hu⟩
        · skip
          replace b10 := (nI_eq (a := ls9) (b := 0) (by omega) (by omega)).mp b10
          refine lv_iconst (v := nI 1) hx hb d_M_holds_107 (by decide) ?_
          refine lv_goto (tgt := 112) hx hb d_M_holds_108 (by decide) ?_
          exact pe_zret hx hb hr hlocks hK hP hD hS d_M_holds_112 rfl ⟨(Or.inr rfl), (fun _ => (hho.2 (by omega)).1), (fun z9 => absurd z9 (by decide)), ⟨_, e6, hc, fun k hk => hup k (by omega), fun z9 => by have y9 : i = 22 := (by omega); subst y9; rw [← hNk]; rcases (show cI < 0 ∨ cI = 0 by omega) with q | q; have := hho.1 q; omega; exact (hho.2 q).2⟩, hI7, hu⟩
      · skip
        replace b9 := mt (nI_leI (a := 22) (b := i) (by omega) (by omega)).mpr b9
        refine lv_aload_n hx hb d_M_holds_16 rfl (lv_at hl 3 rfl) ?_
        obtain ⟨th_12, n_13, dr_14, sz_15, ix_16, dp_17, wt_18, op_19, tp_20, wa_21, gi_22, pc_23, st_24, tr_25, sp_26, ma_27, lg_28, du_29, e11, c30, c31, c32, c33, c34, c35, c36, c37, c38, c39, c40, c41, c42, c43, c44⟩ := oc_11.of t_M (hI7.1 M)
        refine pf_get (v := .ref (g.lk M 34)) (C := "BigRunnerModel") (T := FT10) (N := 45) hx hb (hw10 hB _) (fun _ h9 => h9) hown hK hP (lo_in hL t_M (by decide)) e11 rfl 34 (by decide) (wd_981 hB _) rfl d_M_holds_17 ?_
        refine lv_iload hx hb d_M_holds_20 (lv_at hl 0 rfl) ?_
        refine pf_iald (i := i) hx hb hK hP (lo_in hL (lo_k11_34 hL _ t_M) (by decide)) e6 (lo_t65 hL _ (lo_k11_34 hL _ t_M)) (by omega) (by decide) d_M_holds_22 ?_
        have hd45 := dg6_lt hc (j := i) (by omega)
        refine lv_topi (fun z_ hz_ => ?_)
        obtain rfl : z_ = nI (dg h i) := hz_.trans (dg6_eq hc (by omega))
        refine pf_i2lN hx hb (by omega) d_M_holds_23 ?_
        refine lv_aload_n hx hb d_M_holds_24 rfl (lv_at hl 3 rfl) ?_
        refine lv_iload_n hx hb d_M_holds_25 rfl (lv_at hl 4 rfl) ?_
        refine lv_iload hx hb d_M_holds_26 (lv_at hl 0 rfl) ?_
        refine pcc_i (va_runV (C := "BigRunnerModel") (As := [.int (nI y), .int (nI i)]) (rest := [.long (nL (dg h i))]) ⟨hx, hb, hml, hown, tb_nil⟩ (w_limb l g H.size f2 M y i hLI hL t_M hI7.1 eLI c6LI (by omega) (by omega)) ⟨(callB_of 2 (tb_one (wd_1232 hB _)) tb_good1 rfl rfl rfl (wd_82 hB _) (wd_1229 hB _) (by decide +kernel) ⟨Nat.le_of_ble_eq_true rfl, Nat.le_of_ble_eq_true rfl⟩), (wd_1231 hB _), (wd_64 hB _)⟩ ⟨pe_bl, pg_recv (ci := 10) hK hP (lo_in hL t_M (by decide)) e11 rfl, pe_pre hB hK hP hD⟩ rfl rfl hl.1 rfl (lv_room (Nat.le_of_ble_eq_true rfl)) d_M_holds_28 ⟨Nat.le_of_ble_eq_true rfl, Nat.le_of_ble_eq_true rfl⟩) hS (fun r46 f47 H locs hq48 hP hD hS => ?_)
        obtain ⟨qv_49, rfl⟩ := hq48
        subst qv_49
        have hm50 : l6 hLI y i < 1000000 := l6_lt c6LI (by omega) _
        refine pf_i2lN hx hb (by omega) d_M_holds_31 ?_
        refine lv_iload_n hx hb d_M_holds_32 rfl (lv_at hl 5 rfl) ?_
        refine pf_i2lN hx hb (by omega) d_M_holds_33 ?_
        refine pf_lmulN (x := l6 hLI y i) (y := ff) hx hb d_M_holds_34 ?_
        have hm51 : (l6 hLI y i) * ff ≤ 999999 * 999999 := Nat.mul_le_mul (by omega) (by omega)
        refine lv_lsub hx hb d_M_holds_35 ?_
        refine lv_lload hx hb d_M_holds_36 (lv_at hl 2 rfl) ?_
        refine lv_ladd hx hb d_M_holds_38 ?_
        refine lv_topl (fun d9 hd9 => ?_)
        obtain ⟨D9, hD9⟩ : ∃ D : Int, D = (dg hRS i : Int) - ((l6 hLI y i * ff : Nat) : Int) + cI := ⟨_, rfl⟩
        have hri : dg h i = dg hRS i := by unfold dg; rw [hup i (Nat.le_refl i)]
        rw [hri] at hd9
        have hri2 : dg hRS i < 1000000 := by omega
        have hdD : d9.toInt = D9 := by rw [hD9]; exact hd_D hcy hb1 hb2 (by omega) (by omega) hd9
        refine lv_lstore (lv' := [(8, .long d9), (7, .int (nI i)), (6, .int (nI ls9)), (4, .long cy), (0, .ref M), (1, .int (nI y)), (2, .int (nI ff)), (3, .int (nI 1))]) hx hb d_M_holds_39 hl (by decide) rfl (fun ls hl => ?_)
        refine lv_lload hx hb d_M_holds_41 (lv_at hl 0 rfl) ?_
        refine lv_ldc2 (v := 1000000) hx hb hown (wd_1233 hB _) d_M_holds_43 ?_
        refine lv_topl (fun z_ hz_ => ?_)
        obtain rfl : z_ = nL 1000000 := hz_
        refine lv_lrem hx hb d_M_holds_46 (by decide) ?_
        refine lv_ldc2 (v := 1000000) hx hb hown (wd_1233 hB _) d_M_holds_47 ?_
        refine lv_topl (fun z_ hz_ => ?_)
        obtain rfl : z_ = nL 1000000 := hz_
        refine lv_ladd hx hb d_M_holds_50 ?_
        refine lv_ldc2 (v := 1000000) hx hb hown (wd_1233 hB _) d_M_holds_51 ?_
        refine lv_topl (fun z_ hz_ => ?_)
        obtain rfl : z_ = nL 1000000 := hz_
        refine lv_lrem hx hb d_M_holds_54 (by decide) ?_
        refine lv_topl (fun r9 hr9 => ?_)
        have hrD := hd_r hdD (by omega) hr9
        obtain ⟨hr8, hr7⟩ := hd_n hrD
        obtain ⟨rr, hrr⟩ : ∃ z : Nat, z = (D9 % 1000000).toNat := ⟨_, rfl⟩
        rw [← hrr] at hr8 hr7
        clear hr9
        subst hr8
        refine lv_lstore (lv' := [(10, .long (nL rr)), (8, .long d9), (7, .int (nI i)), (6, .int (nI ls9)), (4, .long cy), (0, .ref M), (1, .int (nI y)), (2, .int (nI ff)), (3, .int (nI 1))]) hx hb d_M_holds_55 hl (by decide) rfl (fun ls hl => ?_)
        refine lv_lload hx hb d_M_holds_57 (lv_at hl 1 rfl) ?_
        refine lv_lload hx hb d_M_holds_59 (lv_at hl 0 rfl) ?_
        refine lv_lsub hx hb d_M_holds_61 ?_
        refine lv_ldc2 (v := 1000000) hx hb hown (wd_1233 hB _) d_M_holds_62 ?_
        refine lv_topl (fun z_ hz_ => ?_)
        obtain rfl : z_ = nL 1000000 := hz_
        refine lv_ldiv hx hb d_M_holds_65 (by decide) ?_
        refine lv_topl (fun c9 hc9 => ?_)
        have hcD := hd_c hdD (by omega) hrD hc9
        refine lv_lstore (lv' := [(4, .long c9), (10, .long (nL rr)), (8, .long d9), (7, .int (nI i)), (6, .int (nI ls9)), (0, .ref M), (1, .int (nI y)), (2, .int (nI ff)), (3, .int (nI 1))]) hx hb d_M_holds_66 hl (by decide) rfl (fun ls hl => ?_)
        refine lv_iload_n hx hb d_M_holds_68 rfl (lv_at hl 8 rfl) ?_
        refine lv_if_eq (tgt := 82) hx hb d_M_holds_69 (by decide) (fun b52 => ?_) (fun b52 => ?_)
        · skip
          replace b52 := (nI_eq (a := 1) (b := 0) (by omega) (by omega)).mp b52
          exfalso; omega
        · skip
          replace b52 := mt (nI_eq (a := 1) (b := 0) (by omega) (by omega)).mpr b52
          refine lv_aload_n hx hb d_M_holds_72 rfl (lv_at hl 5 rfl) ?_
          refine pf_get (v := .ref (g.lk M 34)) (C := "BigRunnerModel") (T := FT10) (N := 45) hx hb (hw10 hB _) (fun _ h9 => h9) hown hK hP (lo_in hL t_M (by decide)) e11 rfl 34 (by decide) (wd_981 hB _) rfl d_M_holds_73 ?_
          refine lv_iload hx hb d_M_holds_76 (lv_at hl 3 rfl) ?_
          refine lv_lload hx hb d_M_holds_78 (lv_at hl 1 rfl) ?_
          refine pf_l2iN hx hb d_M_holds_80 ?_
          refine pf_iast (i := i) hx hb hK hP hD hS (lo_in hL (lo_k11_34 hL _ t_M) (by decide)) e6 (lo_t65 hL _ (lo_k11_34 hL _ t_M)) (by omega) (by decide) d_M_holds_81 (fun f53 H locs e54 k55 hP hD hS => ?_)
          have eLI := (k55 (g.lk M 30) (tg_ne (lo_k11_30 hL _ t_M) (lo_k11_34 hL _ t_M) (by decide))).trans eLI
          have e11 := (k55 M (tg_ne t_M (lo_k11_34 hL _ t_M) (by decide))).trans e11
          have hu : ∀ b, b ≠ (g.lk M 34) → f53 b = f b := fun b q0 => (k55 b q0).trans (hu b q0)
          have hv8 := hv8.st k55 (lo_k11_34 hL _ t_M) (by decide)
          have hk56 : ∀ b, b ≠ (g.lk M 34) → f53 b = f2 b := k55
          have c57 := lb6_upd (n := 44) (i := i) (v := rr) hc (by omega)
          refine lv_lload hx hb d_M_holds_82 (lv_at hl 0 rfl) ?_
          refine lv_lconst (v := nL 0) hx hb d_M_holds_84 (by decide) ?_
          refine W.lcmp hx hb d_M_holds_85 ?_
          refine lv_if_ge (tgt := 93) hx hb d_M_holds_86 (by decide) (fun b58 => ?_) (fun b58 => ?_)
          · skip
            replace b58 := pl_ge.mp b58
            refine lv_iconst (v := nI 0) hx hb d_M_holds_93 (by decide) ?_
            refine lv_istore (lv' := [(6, .int (nI 0)), (4, .long c9), (10, .long (nL rr)), (8, .long d9), (7, .int (nI i)), (0, .ref M), (1, .int (nI y)), (2, .int (nI ff)), (3, .int (nI 1))]) hx hb d_M_holds_94 hl (by decide) rfl (fun ls hl => ?_)
            refine lv_iinc (k := 4) (v := nI (i + 1)) (lv' := [(7, .int (nI (i + 1))), (6, .int (nI 0)), (4, .long c9), (10, .long (nL rr)), (8, .long d9), (0, .ref M), (1, .int (nI y)), (2, .int (nI ff)), (3, .int (nI 1))]) hx hb d_M_holds_96 hl rfl (by rw [nI_succ]; rfl) (by decide) rfl (fun ls hl => ?_)
            refine lv_goto (tgt := 9) hx hb d_M_holds_99 (by decide) ?_
            have hI59 := iv_1 hI7 hL (lo_k11_34 hL _ t_M) (by decide) hk56 (oc_65.mk (lo_k11_34 hL _ t_M) (⟨_, e54⟩))
            have hl : lv_has ls 12 [(7, .int (nI (i + 1))), (6, .int (nI 0)), (4, .long c9), (0, .ref M), (1, .int (nI y)), (2, .int (nI ff)), (3, .int (nI 1))] := lv_sub hl [0, 1, 2, 5, 6, 7, 8] rfl
            exact ih4 c9 (D9 / 1000000) 0 (i + 1) (N + (D9 % 1000000).toNat * 1000000 ^ i) (upd h i ((nI rr))) f53 H locs ls (by omega) hcD (by omega) (by omega) (Or.inr ⟨rfl, by have := (lt0 hcD).1 b58; omega⟩) (by omega) (ho_nlt hN (by omega)) (ho_step (R := dg hRS) (Y := l6 hLI y) he hD9) c57 (fun k hk => by rw [upd_ne _ _ (by omega)]; exact hup k (by omega)) (by rw [kw_upd (by omega), ← hNk, hrr]) e54 hI59 hv8 hu hl hP hD hS
          · skip
            replace b58 := mt pl_ge.mpr b58
            refine lv_iconst (v := nI 1) hx hb d_M_holds_89 (by decide) ?_
            refine lv_goto (tgt := 94) hx hb d_M_holds_90 (by decide) ?_
            refine lv_istore (lv' := [(6, .int (nI 1)), (4, .long c9), (10, .long (nL rr)), (8, .long d9), (7, .int (nI i)), (0, .ref M), (1, .int (nI y)), (2, .int (nI ff)), (3, .int (nI 1))]) hx hb d_M_holds_94 hl (by decide) rfl (fun ls hl => ?_)
            refine lv_iinc (k := 4) (v := nI (i + 1)) (lv' := [(7, .int (nI (i + 1))), (6, .int (nI 1)), (4, .long c9), (10, .long (nL rr)), (8, .long d9), (0, .ref M), (1, .int (nI y)), (2, .int (nI ff)), (3, .int (nI 1))]) hx hb d_M_holds_96 hl rfl (by rw [nI_succ]; rfl) (by decide) rfl (fun ls hl => ?_)
            refine lv_goto (tgt := 9) hx hb d_M_holds_99 (by decide) ?_
            have hI60 := iv_1 hI7 hL (lo_k11_34 hL _ t_M) (by decide) hk56 (oc_65.mk (lo_k11_34 hL _ t_M) (⟨_, e54⟩))
            have hl : lv_has ls 12 [(7, .int (nI (i + 1))), (6, .int (nI 1)), (4, .long c9), (0, .ref M), (1, .int (nI y)), (2, .int (nI ff)), (3, .int (nI 1))] := lv_sub hl [0, 1, 2, 5, 6, 7, 8] rfl
            exact ih4 c9 (D9 / 1000000) 1 (i + 1) (N + (D9 % 1000000).toNat * 1000000 ^ i) (upd h i ((nI rr))) f53 H locs ls (by omega) hcD (by omega) (by omega) (Or.inl ⟨rfl, (lt0 hcD).2 b58⟩) (by omega) (ho_nlt hN (by omega)) (ho_step (R := dg hRS) (Y := l6 hLI y) he hD9) c57 (fun k hk => by rw [upd_ne _ _ (by omega)]; exact hup k (by omega)) (by rw [kw_upd (by omega), ← hNk, hrr]) e54 hI60 hv8 hu hl hP hD hS
  exact lp1 23 (nL 0) 0 0 0 0 hRS f s.heap [] ls (by omega) (by decide) (by omega) (by omega) (Or.inr ⟨rfl, rfl⟩) (by omega) (by decide) (by simp [kw]) c6RS (fun _ _ => rfl) rfl eRS hI un.rf hu hl hP hD hS
set_option maxHeartbeats 4000000 in
set_option maxRecDepth 100000 in
theorem w_divide (l : Launch) (g : Lay) (sz : Nat) (f : Nat → va_E) (M : Nat) (x : Nat) (y : Nat) (hLI : Nat → Int32) (hRE : Nat → Int32) (hRS : Nat → Int32) (hL : LO g) (t_M : g.tg M = 11) (hI : IV g f) (eLI : f (g.lk M 30) = .inl (g.ac (g.lk M 30), 1600, .inl hLI)) (eRE : f (g.lk M 33) = .inl (g.ac (g.lk M 33), 44, .inl hRE)) (eRS : f (g.lk M 34) = .inl (g.ac (g.lk M 34), 44, .inl hRS)) (c6LI : C6 1600 hLI) (c6RE : C6 44 hRE) (c6RS : C6 44 hRS) (hx9 : x < 80) (hy9 : y < 80) (hz0 : ∀ k, k < 44 → dg hRE k = 0) (hz1 : ∀ k, k < 44 → dg hRS k = 0) (hy0 : 0 < sl hLI y) : Met l ⟨"BigRunnerModel", "divide", "(II)V"⟩ [Cond.code ⟨"BigRunnerModel", "divide", "(II)V"⟩ prog_12_method_34_code 6 none] ({ frames := 2, cells := 0, slots := 0, locals := 53 }) (va_Pc [.ref M, .int (nI x), .int (nI y)] (pc_in g sz f)) (va_Qv (fun f1 => (∃ (h1 h2 : Nat → Int32), f1 (g.lk M 33) = .inl (g.ac (g.lk M 33), 44, .inl h1) ∧ f1 (g.lk M 34) = .inl (g.ac (g.lk M 34), 44, .inl h2) ∧ C6 44 h1 ∧ C6 44 h2 ∧ (∀ k, 20 ≤ k → k < 44 → dg h1 k = 0) ∧ kw (dg h1) 44 = sl hLI x / sl hLI y ∧ kw (dg h2) 22 = sl hLI x % sl hLI y) ∧ (IV g f1) ∧ (∀ b, b ≠ (g.lk M 33) → b ≠ (g.lk M 34) → f1 b = f b)) (pc_out g sz) (pc_A g sz)) 0 0 (pc_A g sz) := by
  refine pe_ofW (cc := prog_12_method_34_code) (maxL := 6) (ret := none) (lv := [(0, .ref M), (1, .int (nI x)), (2, .int (nI y))]) (by decide) (Nat.le_of_ble_eq_true rfl) rfl ?_
  intro p e s m args below meth c ls hx hb hr hml hlocks hown hB hP hK hD hsz hS hl
  subst hsz
  have hu : ∀ b, b ≠ (g.lk M 33) → b ≠ (g.lk M 34) → f b = f b := fun _ _ _  => rfl
  refine lv_bipush (v := nI 19) hx hb d_M_divide_0 (by decide) ?_
  refine lv_istore_n (lv' := [(3, .int (nI 19)), (0, .ref M), (1, .int (nI x)), (2, .int (nI y))]) hx hb d_M_divide_2 rfl hl (by decide) rfl (fun ls hl => ?_)
  have hl : lv_has ls 6 [(3, .int (nI 20 - nI 1)), (0, .ref M), (1, .int (nI x)), (2, .int (nI y))] := by rw [show nI 20 - nI 1 = nI 19 by decide]; exact hl
  have lp1 : ∀ (k3 : Nat) (j : Nat) (h : Nat → Int32) (h2 : Nat → Int32) (f2 : Nat → va_E) (H : Heap) (locs : List Loc) (ls : Array Slot), (j < k3) → (j ≤ 20) → (C6 44 h) → (C6 44 h2) → (∀ k, 20 ≤ k → k < 44 → dg h k = 0) → (kw (dg h2) 22 < sl hLI y) → (kw (fun i => l6 hLI x (j + i)) (20 - j) = kw (fun i => dg h (j + i)) (20 - j) * sl hLI y + kw (dg h2) 22) → f2 (g.lk M 33) = .inl (g.ac (g.lk M 33), 44, .inl (h)) → f2 (g.lk M 34) = .inl (g.ac (g.lk M 34), 44, .inl (h2)) → IV g f2 → un [64, 65] g f f2 → (∀ b, b ≠ (g.lk M 33) → b ≠ (g.lk M 34) → f2 b = f b) → lv_has ls 6 [(3, .int (nI j - nI 1)), (0, .ref M), (1, .int (nI x)), (2, .int (nI y))] → va_P g.D vcl (va_pl g.LP f2) H → va_D (pc_A g s.heap.size) (va_pl g.LP f2) → va_S (pc_A g s.heap.size) s.heap H locs → W p l e ({ frames := 2, cells := 0, slots := 0, locals := 53 }) s m args below meth c H locs 0 0 (MQ below (va_Qv (fun f1 => (∃ (h1 h2 : Nat → Int32), f1 (g.lk M 33) = .inl (g.ac (g.lk M 33), 44, .inl h1) ∧ f1 (g.lk M 34) = .inl (g.ac (g.lk M 34), 44, .inl h2) ∧ C6 44 h1 ∧ C6 44 h2 ∧ (∀ k, 20 ≤ k → k < 44 → dg h1 k = 0) ∧ kw (dg h1) 44 = sl hLI x / sl hLI y ∧ kw (dg h2) 22 = sl hLI x % sl hLI y) ∧ (IV g f1) ∧ (∀ b, b ≠ (g.lk M 33) → b ≠ (g.lk M 34) → f1 b = f b)) (pc_out g s.heap.size) (pc_A g s.heap.size)) args s 0 0 (pc_A g s.heap.size)) (F0 m 3 ls []) := by
    intro k3
    induction k3 with
    | zero => intros; exfalso; omega
    | succ k3 ih4 =>
      intro j h h2 f2 H locs ls hfu5 hj hc hc2 hzq hlt he e6 e7 hI8 hv9 hu hl hP hD hS
      have eLI := hv9.at (lo_k11_30 hL _ t_M) (by decide) eLI
      cases j with
      | zero =>
        have hl : lv_has ls 6 [(3, .int (-1)), (0, .ref M), (1, .int (nI x)), (2, .int (nI y))] := by rw [show nI 0 - nI 1 = (-1 : Int32) by decide] at hl; exact hl
        refine lv_iload_n hx hb d_M_divide_3 rfl (lv_at hl 0 rfl) ?_
        refine lv_if_lt (tgt := 126) hx hb d_M_divide_4 (by decide) (fun b10 => ?_) (fun b10 => ?_)
        · skip
          exact pe_vret hx hb hr hlocks hK hP hD hS d_M_divide_126 ⟨⟨_, _, e6, e7, hc, hc2, hzq, (dv6_end hzq hlt he).1, (dv6_end hzq hlt he).2⟩, hI8, hu⟩
        · skip
          exact absurd (by decide) b10
      | succ j =>
        have hl : lv_has ls 6 [(3, .int (nI j)), (0, .ref M), (1, .int (nI x)), (2, .int (nI y))] := by rw [nI_pr1] at hl; exact hl
        refine lv_iload_n hx hb d_M_divide_3 rfl (lv_at hl 0 rfl) ?_
        refine lv_if_lt (tgt := 126) hx hb d_M_divide_4 (by decide) (fun b11 => ?_) (fun b11 => ?_)
        · skip
          replace b11 := (nI_ltI (a := j) (b := 0) (by omega) (by omega)).mp b11
          exfalso; omega
        · skip
          replace b11 := mt (nI_ltI (a := j) (b := 0) (by omega) (by omega)).mpr b11
          refine lv_bipush (v := nI 22) hx hb d_M_divide_7 (by decide) ?_
          refine lv_istore (lv' := [(4, .int (nI 22)), (3, .int (nI j)), (0, .ref M), (1, .int (nI x)), (2, .int (nI y))]) hx hb d_M_divide_9 hl (by decide) rfl (fun ls hl => ?_)
          have lp12 : ∀ (k14 : Nat) (q : Nat) (h3 : Nat → Int32) (f13 : Nat → va_E) (H : Heap) (locs : List Loc) (ls : Array Slot), (q < k14) → (q ≤ 22) → (C6 44 h3) → (∀ k, k < 44 → dg h3 k = if q < k ∧ k ≤ 22 then dg h2 (k - 1) else dg h2 k) → f13 (g.lk M 34) = .inl (g.ac (g.lk M 34), 44, .inl (h3)) → IV g f13 → un [65] g f2 f13 → (∀ b, b ≠ (g.lk M 33) → b ≠ (g.lk M 34) → f13 b = f b) → lv_has ls 6 [(4, .int (nI q)), (3, .int (nI j)), (0, .ref M), (1, .int (nI x)), (2, .int (nI y))] → va_P g.D vcl (va_pl g.LP f13) H → va_D (pc_A g s.heap.size) (va_pl g.LP f13) → va_S (pc_A g s.heap.size) s.heap H locs → W p l e ({ frames := 2, cells := 0, slots := 0, locals := 53 }) s m args below meth c H locs 0 0 (MQ below (va_Qv (fun f1 => (∃ (h1 h2 : Nat → Int32), f1 (g.lk M 33) = .inl (g.ac (g.lk M 33), 44, .inl h1) ∧ f1 (g.lk M 34) = .inl (g.ac (g.lk M 34), 44, .inl h2) ∧ C6 44 h1 ∧ C6 44 h2 ∧ (∀ k, 20 ≤ k → k < 44 → dg h1 k = 0) ∧ kw (dg h1) 44 = sl hLI x / sl hLI y ∧ kw (dg h2) 22 = sl hLI x % sl hLI y) ∧ (IV g f1) ∧ (∀ b, b ≠ (g.lk M 33) → b ≠ (g.lk M 34) → f1 b = f b)) (pc_out g s.heap.size) (pc_A g s.heap.size)) args s 0 0 (pc_A g s.heap.size)) (F0 m 11 ls []) := by
            intro k14
            induction k14 with
            | zero => intros; exfalso; omega
            | succ k14 ih15 =>
              intro q h3 f13 H locs ls hfu16 hq hc3 hsh e17 hI18 hv19 hu hl hP hD hS
              have eLI := hv19.at (lo_k11_30 hL _ t_M) (by decide) eLI
              have e6 := hv19.at (lo_k11_33 hL _ t_M) (by decide) e6
              have hv9 := hv9.tr hv19 (by decide)
              refine lv_iload hx hb d_M_divide_11 (lv_at hl 0 rfl) ?_
              refine lv_if_le (tgt := 38) hx hb d_M_divide_13 (by decide) (fun b20 => ?_) (fun b20 => ?_)
              · skip
                replace b20 := (nI_leI (a := q) (b := 0) (by omega) (by omega)).mp b20
                refine lv_aload_n hx hb d_M_divide_38 rfl (lv_at hl 2 rfl) ?_
                obtain ⟨th_22, n_23, dr_24, sz_25, ix_26, dp_27, wt_28, op_29, tp_30, wa_31, gi_32, pc_33, st_34, tr_35, sp_36, ma_37, lg_38, du_39, e21, c40, c41, c42, c43, c44, c45, c46, c47, c48, c49, c50, c51, c52, c53, c54⟩ := oc_11.of t_M (hI18.1 M)
                refine pf_get (v := .ref (g.lk M 34)) (C := "BigRunnerModel") (T := FT10) (N := 45) hx hb (hw10 hB _) (fun _ h9 => h9) hown hK hP (lo_in hL t_M (by decide)) e21 rfl 34 (by decide) (wd_981 hB _) rfl d_M_divide_39 ?_
                refine lv_iconst (v := nI 0) hx hb d_M_divide_42 (by decide) ?_
                refine lv_aload_n hx hb d_M_divide_43 rfl (lv_at hl 2 rfl) ?_
                refine lv_iload_n hx hb d_M_divide_44 rfl (lv_at hl 3 rfl) ?_
                refine lv_iload_n hx hb d_M_divide_45 rfl (lv_at hl 1 rfl) ?_
                refine pcc_i (va_runV (C := "BigRunnerModel") (As := [.int (nI x), .int (nI j)]) (rest := [.int (nI 0), .ref (g.lk M 34)]) ⟨hx, hb, hml, hown, tb_nil⟩ (w_limb l g H.size f13 M x j hLI hL t_M hI18.1 eLI c6LI (by omega) (by omega)) ⟨(callB_of 2 (tb_one (wd_1232 hB _)) tb_good1 rfl rfl rfl (wd_82 hB _) (wd_1229 hB _) (by decide +kernel) ⟨Nat.le_of_ble_eq_true rfl, Nat.le_of_ble_eq_true rfl⟩), (wd_1231 hB _), (wd_64 hB _)⟩ ⟨pe_bl, pg_recv (ci := 10) hK hP (lo_in hL t_M (by decide)) e21 rfl, pe_pre hB hK hP hD⟩ rfl rfl hl.1 rfl (lv_room (Nat.le_of_ble_eq_true rfl)) d_M_divide_46 ⟨Nat.le_of_ble_eq_true rfl, Nat.le_of_ble_eq_true rfl⟩) hS (fun r55 f56 H locs hq57 hP hD hS => ?_)
                obtain ⟨qv_58, rfl⟩ := hq57
                subst qv_58
                have hm59 : l6 hLI x j < 1000000 := l6_lt c6LI (by omega) _
                refine pf_iast (i := 0) hx hb hK hP hD hS (lo_in hL (lo_k11_34 hL _ t_M) (by decide)) e17 (lo_t65 hL _ (lo_k11_34 hL _ t_M)) (by omega) (by decide) d_M_divide_49 (fun f60 H locs e61 k62 hP hD hS => ?_)
                have eLI := (k62 (g.lk M 30) (tg_ne (lo_k11_30 hL _ t_M) (lo_k11_34 hL _ t_M) (by decide))).trans eLI
                have e6 := (k62 (g.lk M 33) (tg_ne (lo_k11_33 hL _ t_M) (lo_k11_34 hL _ t_M) (by decide))).trans e6
                have e21 := (k62 M (tg_ne t_M (lo_k11_34 hL _ t_M) (by decide))).trans e21
                have hu : ∀ b, b ≠ (g.lk M 33) → b ≠ (g.lk M 34) → f60 b = f b := fun b q0 q1 => (k62 b q1).trans (hu b q0 q1)
                have hv9 := hv9.st k62 (lo_k11_34 hL _ t_M) (by decide)
                have hv19 := hv19.st k62 (lo_k11_34 hL _ t_M) (by decide)
                have hk63 : ∀ b, b ≠ (g.lk M 34) → f60 b = f13 b := k62
                have c64 := lb6_upd (n := 44) (i := 0) (v := l6 hLI x j) hc3 (by omega)
                obtain ⟨hR, ehR⟩ : ∃ z, z = upd h3 0 ((nI (l6 hLI x j))) := ⟨_, rfl⟩
                have hq0 : q = 0 := by omega
                subst hq0
                have hR1a : kw (dg (upd h3 0 ((nI (l6 hLI x j))))) 23 = l6 hLI x j + 1000000 * kw (dg h2) 22 := sh_val (fun k hk => by rw [dg_ne (by omega), hsh (k + 1) (by omega), if_pos (by omega), Nat.add_sub_cancel]) (dg_at (by omega))
                have hslt := sl_lt c6LI (k := y) (by omega)
                have hR1b : kw (dg (upd h3 0 ((nI (l6 hLI x j))))) 23 < 1000000 ^ 21 := by rw [hR1a, km_s, pw_20]; omega
                have hR1 : kw (dg (upd h3 0 ((nI (l6 hLI x j))))) 22 = l6 hLI x j + 1000000 * kw (dg h2) 22 := by rw [← hR1a, kw_s (dg (upd h3 0 ((nI (l6 hLI x j))))) 22, kw_hi0 hR1b (by omega) (by omega)]; omega
                have hRb : kw (dg (upd h3 0 ((nI (l6 hLI x j))))) 22 < 1000000 * sl hLI y := by rw [hR1]; omega
                refine lv_iconst (v := nI 0) hx hb d_M_divide_50 (by decide) ?_
                refine lv_istore (lv' := [(4, .int (nI 0)), (3, .int (nI j)), (0, .ref M), (1, .int (nI x)), (2, .int (nI y))]) hx hb d_M_divide_51 hl (by decide) rfl (fun ls hl => ?_)
                refine lv_ldc (v := 524288) hx hb hown (wd_1250 hB _) d_M_divide_53 ?_
                refine lv_topi (fun z_ hz_ => ?_)
                obtain rfl : z_ = nI 524288 := hz_
                refine lv_istore (lv' := [(5, .int (nI 524288)), (4, .int (nI 0)), (3, .int (nI j)), (0, .ref M), (1, .int (nI x)), (2, .int (nI y))]) hx hb d_M_divide_55 hl (by decide) rfl (fun ls hl => ?_)
                have hI65 := iv_1 hI18 hL (lo_k11_34 hL _ t_M) (by decide) hk63 (oc_65.mk (lo_k11_34 hL _ t_M) (⟨_, e61⟩))
                have lp66 : ∀ (k68 : Nat) (ff : Nat) (bt : Nat) (e9 : Nat) (H : Heap) (locs : List Loc) (ls : Array Slot), (bt < k68) → (ff < 1000000) → (e9 ≤ 20) → (bt = 2 ^ e9 / 2) → (bt ≤ 524288) → (ff * sl hLI y ≤ kw (dg (upd h3 0 ((nI (l6 hLI x j))))) 22) → (kw (dg (upd h3 0 ((nI (l6 hLI x j))))) 22 < (ff + 2 ^ e9) * sl hLI y) → lv_has ls 6 [(5, .int (nI bt)), (4, .int (nI ff)), (3, .int (nI j)), (0, .ref M), (1, .int (nI x)), (2, .int (nI y))] → va_P g.D vcl (va_pl g.LP f60) H → va_D (pc_A g s.heap.size) (va_pl g.LP f60) → va_S (pc_A g s.heap.size) s.heap H locs → W p l e ({ frames := 2, cells := 0, slots := 0, locals := 53 }) s m args below meth c H locs 0 0 (MQ below (va_Qv (fun f1 => (∃ (h1 h2 : Nat → Int32), f1 (g.lk M 33) = .inl (g.ac (g.lk M 33), 44, .inl h1) ∧ f1 (g.lk M 34) = .inl (g.ac (g.lk M 34), 44, .inl h2) ∧ C6 44 h1 ∧ C6 44 h2 ∧ (∀ k, 20 ≤ k → k < 44 → dg h1 k = 0) ∧ kw (dg h1) 44 = sl hLI x / sl hLI y ∧ kw (dg h2) 22 = sl hLI x % sl hLI y) ∧ (IV g f1) ∧ (∀ b, b ≠ (g.lk M 33) → b ≠ (g.lk M 34) → f1 b = f b)) (pc_out g s.heap.size) (pc_A g s.heap.size)) args s 0 0 (pc_A g s.heap.size)) (F0 m 57 ls []) := by
                  intro k68
                  induction k68 with
                  | zero => intros; exfalso; omega
                  | succ k68 ih69 =>
                    intro ff bt e9 H locs ls hfu70 hff he9 hbt hb5 hf1 hf2 hl hP hD hS
                    refine lv_iload hx hb d_M_divide_57 (lv_at hl 0 rfl) ?_
                    refine lv_if_le (tgt := 102) hx hb d_M_divide_59 (by decide) (fun b73 => ?_) (fun b73 => ?_)
                    · skip
                      replace b73 := (nI_leI (a := bt) (b := 0) (by omega) (by omega)).mp b73
                      have he0 : e9 = 0 := by rcases Nat.eq_zero_or_pos e9 with q | q; exact q; exact absurd ((bt_0 e9).mpr q) (by omega)
                      subst he0
                      have hff1 := hf1
                      have hff2 : kw (dg (upd h3 0 ((nI (l6 hLI x j))))) 22 < ff * sl hLI y + sl hLI y := by have := hf2; rw [Nat.pow_zero, Nat.add_mul, Nat.one_mul] at this; exact this
                      refine lv_aload_n hx hb d_M_divide_102 rfl (lv_at hl 3 rfl) ?_
                      refine lv_iload_n hx hb d_M_divide_103 rfl (lv_at hl 5 rfl) ?_
                      refine lv_iload hx hb d_M_divide_104 (lv_at hl 1 rfl) ?_
                      refine lv_iconst (v := nI 1) hx hb d_M_divide_106 (by decide) ?_
                      refine pcc_i (va_runV (C := "BigRunnerModel") (As := [.int (nI y), .int (nI ff), .int (nI 1)]) (rest := []) ⟨hx, hb, hml, hown, tb_nil⟩ (w_holds1 l g H.size f60 M y ff hLI ((upd h3 0 ((nI (l6 hLI x j))))) hL t_M hI65 eLI e61 c6LI c64 (by omega) (by omega)) ⟨(callB_of 3 (tb_one (wd_1254 hB _)) tb_good1 rfl rfl rfl (wd_82 hB _) (wd_1251 hB _) (by decide +kernel) ⟨Nat.le_of_ble_eq_true rfl, Nat.le_of_ble_eq_true rfl⟩), (wd_1253 hB _), (wd_69 hB _)⟩ ⟨pe_bl, pg_recv (ci := 10) hK hP (lo_in hL t_M (by decide)) e21 rfl, pe_pre hB hK hP hD⟩ rfl rfl hl.1 rfl (lv_room (Nat.le_of_ble_eq_true rfl)) d_M_divide_107 ⟨Nat.le_of_ble_eq_true rfl, Nat.le_of_ble_eq_true rfl⟩) hS (fun r74 f75 H locs hq76 hP hD hS => ?_)
                      obtain ⟨bo_77, i1_78, i0_79, re_80, hI1_81, hk1_82⟩ := hq76
                      have hu : ∀ b, b ≠ (g.lk M 33) → b ≠ (g.lk M 34) → f75 b = f b := fun b q0 q1 => (hk1_82 b q1).trans (hu b q0 q1)
                      have hv9 := hv9.st hk1_82 (lo_k11_34 hL _ t_M) (by decide)
                      have hv19 := hv19.st hk1_82 (lo_k11_34 hL _ t_M) (by decide)
                      have eLI := (hk1_82 (g.lk M 30) (tg_ne (lo_k11_30 hL _ t_M) (lo_k11_34 hL _ t_M) (by decide))).trans eLI
                      have e6 := (hk1_82 (g.lk M 33) (tg_ne (lo_k11_33 hL _ t_M) (lo_k11_34 hL _ t_M) (by decide))).trans e6
                      have e21 := (hk1_82 M (tg_ne t_M (lo_k11_34 hL _ t_M) (by decide))).trans e21
                      obtain ⟨hr_83, e84, c85, hu86, hw87⟩ := re_80
                      refine lv_istore (lv' := [(5, .int r74), (4, .int (nI ff)), (3, .int (nI j)), (0, .ref M), (1, .int (nI x)), (2, .int (nI y))]) hx hb d_M_divide_110 hl (by decide) rfl (fun ls hl => ?_)
                      refine lv_aload_n hx hb d_M_divide_112 rfl (lv_at hl 3 rfl) ?_
                      refine pf_get (v := .ref (g.lk M 33)) (C := "BigRunnerModel") (T := FT10) (N := 45) hx hb (hw10 hB _) (fun _ h9 => h9) hown hK hP (lo_in hL t_M (by decide)) e21 rfl 33 (by decide) (wd_980 hB _) rfl d_M_divide_113 ?_
                      refine lv_iload_n hx hb d_M_divide_116 rfl (lv_at hl 2 rfl) ?_
                      refine lv_iload hx hb d_M_divide_117 (lv_at hl 1 rfl) ?_
                      refine pf_iast (i := j) hx hb hK hP hD hS (lo_in hL (lo_k11_33 hL _ t_M) (by decide)) e6 (lo_t64 hL _ (lo_k11_33 hL _ t_M)) (by omega) (by decide) d_M_divide_119 (fun f88 H locs e89 k90 hP hD hS => ?_)
                      have eLI := (k90 (g.lk M 30) (tg_ne (lo_k11_30 hL _ t_M) (lo_k11_33 hL _ t_M) (by decide))).trans eLI
                      have e21 := (k90 M (tg_ne t_M (lo_k11_33 hL _ t_M) (by decide))).trans e21
                      have e84 := (k90 (g.lk M 34) (tg_ne (lo_k11_34 hL _ t_M) (lo_k11_33 hL _ t_M) (by decide))).trans e84
                      have hu : ∀ b, b ≠ (g.lk M 33) → b ≠ (g.lk M 34) → f88 b = f b := fun b q0 q1 => (k90 b q0).trans (hu b q0 q1)
                      have hv9 := hv9.st k90 (lo_k11_33 hL _ t_M) (by decide)
                      have hk91 : ∀ b, b ≠ (g.lk M 33) → f88 b = f75 b := k90
                      have c92 := lb6_upd (n := 44) (i := j) (v := ff) hc (by omega)
                      refine lv_iinc (k := 2) (v := nI j - nI 1) (lv' := [(3, .int (nI j - nI 1)), (5, .int r74), (4, .int (nI ff)), (0, .ref M), (1, .int (nI x)), (2, .int (nI y))]) hx hb d_M_divide_120 hl rfl (by rw [Int32.sub_eq_add_neg]; rfl) (by decide) rfl (fun ls hl => ?_)
                      refine lv_goto (tgt := 3) hx hb d_M_divide_123 (by decide) ?_
                      have hI93 := iv_1 hI1_81 hL (lo_k11_33 hL _ t_M) (by decide) hk91 (oc_64.mk (lo_k11_33 hL _ t_M) (⟨_, e89⟩))
                      have hl : lv_has ls 6 [(3, .int (nI j - nI 1)), (0, .ref M), (1, .int (nI x)), (2, .int (nI y))] := lv_sub hl [0, 3, 4, 5] rfl
                      exact ih4 j (upd h j ((nI ff))) hr_83 f88 H locs ls (by omega) (by omega) c92 c85 (fun k q1 q2 => by rw [dg_ne (by omega)]; exact hzq k q1 q2) (by rw [hw87 hff1]; omega) (by rw [hw87 hff1]; exact dv6_step (by omega) he (by omega) hR1 hff1) e89 e84 hI93 hv9 hu hl hP hD hS
                    · skip
                      replace b73 := mt (nI_leI (a := bt) (b := 0) (by omega) (by omega)).mpr b73
                      refine lv_iload hx hb d_M_divide_62 (lv_at hl 1 rfl) ?_
                      refine lv_iload hx hb d_M_divide_64 (lv_at hl 0 rfl) ?_
                      refine pf_iaddN (x := ff) (y := bt) hx hb d_M_divide_66 ?_
                      refine lv_ldc (v := 1000000) hx hb hown (wd_1212 hB _) d_M_divide_67 ?_
                      refine lv_topi (fun z_ hz_ => ?_)
                      obtain rfl : z_ = nI 1000000 := hz_
                      refine lv_icmp_ge (tgt := 93) hx hb d_M_divide_69 (by decide) (fun b94 => ?_) (fun b94 => ?_)
                      · skip
                        replace b94 := (nI_leI (a := 1000000) (b := ff + bt) (by omega) (by omega)).mp b94
                        refine lv_iload hx hb d_M_divide_93 (lv_at hl 0 rfl) ?_
                        refine lv_iconst (v := nI 2) hx hb d_M_divide_95 (by decide) ?_
                        refine pf_idivN (x := bt) (y := 2) hx hb (by omega) (by omega) (by omega) d_M_divide_96 ?_
                        refine lv_istore (lv' := [(5, .int (nI (bt / 2))), (4, .int (nI ff)), (3, .int (nI j)), (0, .ref M), (1, .int (nI x)), (2, .int (nI y))]) hx hb d_M_divide_97 hl (by decide) rfl (fun ls hl => ?_)
                        refine lv_goto (tgt := 57) hx hb d_M_divide_99 (by decide) ?_
                        exact ih69 ff (bt / 2) (e9 - 1) H locs ls (by omega) (by omega) (by omega) (by rw [hbt, (bt_2 e9 ((bt_0 e9).mp (by omega))).1]) (by omega) (by first | assumption | exact hf1) (by have y9 := bt_2 e9 ((bt_0 e9).mp (by omega)); rw [← y9.1, ← hbt]; first | exact bt_in hf2 (by omega) | assumption | exact Nat.lt_of_lt_of_le hRb (Nat.mul_le_mul_right _ (by omega))) hl hP hD hS
                      · skip
                        replace b94 := mt (nI_leI (a := 1000000) (b := ff + bt) (by omega) (by omega)).mpr b94
                        refine lv_aload_n hx hb d_M_divide_72 rfl (lv_at hl 3 rfl) ?_
                        refine lv_iload_n hx hb d_M_divide_73 rfl (lv_at hl 5 rfl) ?_
                        refine lv_iload hx hb d_M_divide_74 (lv_at hl 1 rfl) ?_
                        refine lv_iload hx hb d_M_divide_76 (lv_at hl 0 rfl) ?_
                        refine pf_iaddN (x := ff) (y := bt) hx hb d_M_divide_78 ?_
                        refine lv_iconst (v := nI 0) hx hb d_M_divide_79 (by decide) ?_
                        refine pcc_i (va_runV (C := "BigRunnerModel") (As := [.int (nI y), .int (nI (ff + bt)), .int (nI 0)]) (rest := []) ⟨hx, hb, hml, hown, tb_nil⟩ (w_holds0 l g H.size f60 M y ((ff + bt)) hLI ((upd h3 0 ((nI (l6 hLI x j))))) hL t_M hI65.1 eLI e61 c6LI c64 (by omega) (by omega)) ⟨(callB_of 3 (tb_one (wd_1254 hB _)) tb_good1 rfl rfl rfl (wd_82 hB _) (wd_1251 hB _) (by decide +kernel) ⟨Nat.le_of_ble_eq_true rfl, Nat.le_of_ble_eq_true rfl⟩), (wd_1253 hB _), (wd_69 hB _)⟩ ⟨pe_bl, pg_recv (ci := 10) hK hP (lo_in hL t_M (by decide)) e21 rfl, pe_pre hB hK hP hD⟩ rfl rfl hl.1 rfl (lv_room (Nat.le_of_ble_eq_true rfl)) d_M_divide_80 ⟨Nat.le_of_ble_eq_true rfl, Nat.le_of_ble_eq_true rfl⟩) hS (fun r95 f96 H locs hq97 hP hD hS => ?_)
                        obtain ⟨bo_98, i1_99, i0_100, rfl⟩ := hq97
                        refine lv_if_eq (tgt := 93) hx hb d_M_divide_83 (by decide) (fun b101 => ?_) (fun b101 => ?_)
                        · skip
                          have hr102 : r95 = nI 0 := b101
                          have hi103 := i0_100 hr102
                          refine lv_iload hx hb d_M_divide_93 (lv_at hl 0 rfl) ?_
                          refine lv_iconst (v := nI 2) hx hb d_M_divide_95 (by decide) ?_
                          refine pf_idivN (x := bt) (y := 2) hx hb (by omega) (by omega) (by omega) d_M_divide_96 ?_
                          refine lv_istore (lv' := [(5, .int (nI (bt / 2))), (4, .int (nI ff)), (3, .int (nI j)), (0, .ref M), (1, .int (nI x)), (2, .int (nI y))]) hx hb d_M_divide_97 hl (by decide) rfl (fun ls hl => ?_)
                          refine lv_goto (tgt := 57) hx hb d_M_divide_99 (by decide) ?_
                          exact ih69 ff (bt / 2) (e9 - 1) H locs ls (by omega) (by omega) (by omega) (by rw [hbt, (bt_2 e9 ((bt_0 e9).mp (by omega))).1]) (by omega) (by first | assumption | exact hf1) (by have y9 := bt_2 e9 ((bt_0 e9).mp (by omega)); rw [← y9.1, ← hbt]; first | exact bt_in hf2 (by omega) | assumption | exact Nat.lt_of_lt_of_le hRb (Nat.mul_le_mul_right _ (by omega))) hl hP hD hS
                        · skip
                          have hr104 : r95 = nI 1 := (bl_1 bo_98 b101)
                          have hi105 := i1_99 hr104
                          refine lv_iload hx hb d_M_divide_86 (lv_at hl 1 rfl) ?_
                          refine lv_iload hx hb d_M_divide_88 (lv_at hl 0 rfl) ?_
                          refine pf_iaddN (x := ff) (y := bt) hx hb d_M_divide_90 ?_
                          refine lv_istore (lv' := [(4, .int (nI (ff + bt))), (5, .int (nI bt)), (3, .int (nI j)), (0, .ref M), (1, .int (nI x)), (2, .int (nI y))]) hx hb d_M_divide_91 hl (by decide) rfl (fun ls hl => ?_)
                          refine lv_iload hx hb d_M_divide_93 (lv_at hl 1 rfl) ?_
                          refine lv_iconst (v := nI 2) hx hb d_M_divide_95 (by decide) ?_
                          refine pf_idivN (x := bt) (y := 2) hx hb (by omega) (by omega) (by omega) d_M_divide_96 ?_
                          refine lv_istore (lv' := [(5, .int (nI (bt / 2))), (4, .int (nI (ff + bt))), (3, .int (nI j)), (0, .ref M), (1, .int (nI x)), (2, .int (nI y))]) hx hb d_M_divide_97 hl (by decide) rfl (fun ls hl => ?_)
                          refine lv_goto (tgt := 57) hx hb d_M_divide_99 (by decide) ?_
                          exact ih69 (ff + bt) (bt / 2) (e9 - 1) H locs ls (by omega) (by omega) (by omega) (by rw [hbt, (bt_2 e9 ((bt_0 e9).mp (by omega))).1]) (by omega) (by first | assumption | exact hf1) (by have y9 := bt_2 e9 ((bt_0 e9).mp (by omega)); rw [← y9.1, ← hbt]; first | exact bt_in hf2 (by omega) | assumption | exact Nat.lt_of_lt_of_le hRb (Nat.mul_le_mul_right _ (by omega))) hl hP hD hS
                exact lp66 (524288 + 1) 0 524288 20 H locs ls (by omega) (by omega) (by omega) (by decide) (by omega) (by rw [Nat.zero_mul]; exact Nat.zero_le _) (Nat.lt_of_lt_of_le hRb (Nat.mul_le_mul_right _ (by decide))) hl hP hD hS
              · skip
                replace b20 := mt (nI_leI (a := q) (b := 0) (by omega) (by omega)).mpr b20
                refine lv_aload_n hx hb d_M_divide_16 rfl (lv_at hl 2 rfl) ?_
                obtain ⟨th_107, n_108, dr_109, sz_110, ix_111, dp_112, wt_113, op_114, tp_115, wa_116, gi_117, pc_118, st_119, tr_120, sp_121, ma_122, lg_123, du_124, e106, c125, c126, c127, c128, c129, c130, c131, c132, c133, c134, c135, c136, c137, c138, c139⟩ := oc_11.of t_M (hI18.1 M)
                refine pf_get (v := .ref (g.lk M 34)) (C := "BigRunnerModel") (T := FT10) (N := 45) hx hb (hw10 hB _) (fun _ h9 => h9) hown hK hP (lo_in hL t_M (by decide)) e106 rfl 34 (by decide) (wd_981 hB _) rfl d_M_divide_17 ?_
                refine lv_iload hx hb d_M_divide_20 (lv_at hl 0 rfl) ?_
                refine lv_aload_n hx hb d_M_divide_22 rfl (lv_at hl 2 rfl) ?_
                refine pf_get (v := .ref (g.lk M 34)) (C := "BigRunnerModel") (T := FT10) (N := 45) hx hb (hw10 hB _) (fun _ h9 => h9) hown hK hP (lo_in hL t_M (by decide)) e106 rfl 34 (by decide) (wd_981 hB _) rfl d_M_divide_23 ?_
                refine lv_iload hx hb d_M_divide_26 (lv_at hl 0 rfl) ?_
                refine lv_iconst (v := nI 1) hx hb d_M_divide_28 (by decide) ?_
                refine pf_isubN (x := q) (y := 1) hx hb (by omega) d_M_divide_29 ?_
                refine pf_iald (i := q - 1) hx hb hK hP (lo_in hL (lo_k11_34 hL _ t_M) (by decide)) e17 (lo_t65 hL _ (lo_k11_34 hL _ t_M)) (by omega) (by decide) d_M_divide_30 ?_
                have hd140 := dg6_lt hc3 (j := q - 1) (by omega)
                refine lv_topi (fun z_ hz_ => ?_)
                obtain rfl : z_ = nI (dg h3 (q - 1)) := hz_.trans (dg6_eq hc3 (by omega))
                refine pf_iast (i := q) hx hb hK hP hD hS (lo_in hL (lo_k11_34 hL _ t_M) (by decide)) e17 (lo_t65 hL _ (lo_k11_34 hL _ t_M)) (by omega) (by decide) d_M_divide_31 (fun f141 H locs e142 k143 hP hD hS => ?_)
                have eLI := (k143 (g.lk M 30) (tg_ne (lo_k11_30 hL _ t_M) (lo_k11_34 hL _ t_M) (by decide))).trans eLI
                have e6 := (k143 (g.lk M 33) (tg_ne (lo_k11_33 hL _ t_M) (lo_k11_34 hL _ t_M) (by decide))).trans e6
                have e106 := (k143 M (tg_ne t_M (lo_k11_34 hL _ t_M) (by decide))).trans e106
                have hu : ∀ b, b ≠ (g.lk M 33) → b ≠ (g.lk M 34) → f141 b = f b := fun b q0 q1 => (k143 b q1).trans (hu b q0 q1)
                have hv9 := hv9.st k143 (lo_k11_34 hL _ t_M) (by decide)
                have hv19 := hv19.st k143 (lo_k11_34 hL _ t_M) (by decide)
                have hk144 : ∀ b, b ≠ (g.lk M 34) → f141 b = f13 b := k143
                have c145 := lb6_upd (n := 44) (i := q) (v := dg h3 (q - 1)) hc3 (by omega)
                refine lv_iinc (k := 0) (v := nI (q - 1)) (lv' := [(4, .int (nI (q - 1))), (3, .int (nI j)), (0, .ref M), (1, .int (nI x)), (2, .int (nI y))]) hx hb d_M_divide_32 hl rfl (by rw [← pk_sub (show 1 ≤ q by omega), Int32.sub_eq_add_neg]; rfl) (by decide) rfl (fun ls hl => ?_)
                refine lv_goto (tgt := 11) hx hb d_M_divide_35 (by decide) ?_
                have hI146 := iv_1 hI18 hL (lo_k11_34 hL _ t_M) (by decide) hk144 (oc_65.mk (lo_k11_34 hL _ t_M) (⟨_, e142⟩))
                exact ih15 (q - 1) (upd h3 q ((nI (dg h3 (q - 1))))) f141 H locs ls (by omega) (by omega) c145 (fun k hk => by by_cases q3 : k = q; (subst q3; rw [dg_at (by omega), if_pos (by omega), hsh (k - 1) (by omega), if_neg (by omega)]); (rw [dg_ne q3, hsh k hk]; by_cases q4 : q < k ∧ k ≤ 22; rw [if_pos q4, if_pos (by omega)]; rw [if_neg q4, if_neg (by omega)])) e142 hI146 hv19 hu hl hP hD hS
          exact lp12 (22 + 1) 22 h2 f2 H locs ls (by omega) (by omega) hc2 (fun k hk => by rw [if_neg (by omega)]) e7 hI8 un.rf hu hl hP hD hS
  exact lp1 (20 + 1) 20 hRE hRS f s.heap [] ls (by omega) (by omega) c6RE c6RS (fun k _ q2 => hz0 k q2) (by rw [kw_z (fun k hk => hz1 k (by omega))]; exact hy0) (by rw [kw_z (h := dg hRS) (fun k hk => hz1 k (by omega))]; simp [kw]) eRE eRS hI un.rf hu hl hP hD hS
set_option maxHeartbeats 4000000 in
set_option maxRecDepth 100000 in
theorem w_digitsOf64 (l : Launch) (g : Lay) (sz : Nat) (f : Nat → va_E) (A : Nat) (fr9 : Nat) (n9 : Nat) (hA : Nat → Int32) (hL : LO g) (t_A : g.tg A = 64) (hI : OC g f) (eA : f A = .inl (g.ac A, 44, .inl hA)) (c6A : C6 44 hA) (hfn : fr9 + n9 ≤ 44) : Met l ⟨"BigRunnerModel", "digitsOf", "([III)I"⟩ [Cond.code ⟨"BigRunnerModel", "digitsOf", "([III)I"⟩ prog_12_method_35_code 7 (some .int)] ({ frames := 0, cells := 0, slots := 0, locals := 0 }) (va_Pc [.ref A, .int (nI fr9), .int (nI n9)] (pc_in g sz f)) (va_Qi (fun r f1 => (∃ k, k ≤ 2000 ∧ DGT k (kw (fun i => dg hA (fr9 + i)) n9) ∧ r = nI k) ∧ (f = f1)) (pc_out g sz) (pc_A g sz)) 0 0 (pc_A g sz) := by
  refine pe_ofW (cc := prog_12_method_35_code) (maxL := 7) (ret := (some .int)) (lv := [(0, .ref A), (1, .int (nI fr9)), (2, .int (nI n9))]) (by decide) (Nat.le_of_ble_eq_true rfl) rfl ?_
  intro p e s m args below meth c ls hx hb hr hml hlocks hown hB hP hK hD hsz hS hl
  subst hsz
  refine lv_iconst (v := nI 1) hx hb d_M_digitsOf_0 (by decide) ?_
  refine lv_istore_n (lv' := [(3, .int (nI 1)), (0, .ref A), (1, .int (nI fr9)), (2, .int (nI n9))]) hx hb d_M_digitsOf_1 rfl hl (by decide) rfl (fun ls hl => ?_)
  refine lv_iconst (v := nI 0) hx hb d_M_digitsOf_2 (by decide) ?_
  refine lv_istore (lv' := [(4, .int (nI 0)), (3, .int (nI 1)), (0, .ref A), (1, .int (nI fr9)), (2, .int (nI n9))]) hx hb d_M_digitsOf_3 hl (by decide) rfl (fun ls hl => ?_)
  have lp1 : ∀ (k3 : Nat) (dd : Nat) (i : Nat) (H : Heap) (locs : List Loc) (ls : Array Slot), (n9 < i + k3) → (i ≤ n9) → (dd ≤ 6 * i + 10) → (DGT dd (kw (fun i => dg hA (fr9 + i)) i)) → lv_has ls 7 [(4, .int (nI i)), (3, .int (nI dd)), (0, .ref A), (1, .int (nI fr9)), (2, .int (nI n9))] → va_P g.D vcl (va_pl g.LP f) H → va_D (pc_A g s.heap.size) (va_pl g.LP f) → va_S (pc_A g s.heap.size) s.heap H locs → W p l e ({ frames := 0, cells := 0, slots := 0, locals := 0 }) s m args below meth c H locs 0 0 (MQ below (va_Qi (fun r f1 => (∃ k, k ≤ 2000 ∧ DGT k (kw (fun i => dg hA (fr9 + i)) n9) ∧ r = nI k) ∧ (f = f1)) (pc_out g s.heap.size) (pc_A g s.heap.size)) args s 0 0 (pc_A g s.heap.size)) (F0 m 5 ls []) := by
    intro k3
    induction k3 with
    | zero => intros; exfalso; omega
    | succ k3 ih4 =>
      intro dd i H locs ls hfu5 hi hd4 hdt hl hP hD hS
      refine lv_iload hx hb d_M_digitsOf_5 (lv_at hl 0 rfl) ?_
      refine lv_iload_n hx hb d_M_digitsOf_7 rfl (lv_at hl 4 rfl) ?_
      refine lv_icmp_ge (tgt := 55) hx hb d_M_digitsOf_8 (by decide) (fun b8 => ?_) (fun b8 => ?_)
      · skip
        replace b8 := (nI_leI (a := n9) (b := i) (by omega) (by omega)).mp b8
        refine lv_iload_n hx hb d_M_digitsOf_55 rfl (lv_at hl 1 rfl) ?_
        exact pe_iret hx hb hr hlocks hK hP hD hS d_M_digitsOf_56 ⟨⟨dd, by omega, by have y9 : i = n9 := (by omega); subst y9; exact hdt, rfl⟩, rfl⟩
      · skip
        replace b8 := mt (nI_leI (a := n9) (b := i) (by omega) (by omega)).mpr b8
        refine lv_aload_n hx hb d_M_digitsOf_11 rfl (lv_at hl 2 rfl) ?_
        refine lv_iload_n hx hb d_M_digitsOf_12 rfl (lv_at hl 3 rfl) ?_
        refine lv_iload hx hb d_M_digitsOf_13 (lv_at hl 0 rfl) ?_
        refine pf_iaddN (x := fr9) (y := i) hx hb d_M_digitsOf_15 ?_
        refine pf_iald (i := fr9 + i) hx hb hK hP (lo_in hL t_A (by decide)) eA (lo_t64 hL _ t_A) (by omega) (by decide) d_M_digitsOf_16 ?_
        have hd9 := dg6_lt c6A (j := fr9 + i) (by omega)
        refine lv_topi (fun z_ hz_ => ?_)
        obtain rfl : z_ = nI (dg hA (fr9 + i)) := hz_.trans (dg6_eq c6A (by omega))
        refine lv_istore (lv' := [(5, .int (nI (dg hA (fr9 + i)))), (4, .int (nI i)), (3, .int (nI dd)), (0, .ref A), (1, .int (nI fr9)), (2, .int (nI n9))]) hx hb d_M_digitsOf_17 hl (by decide) rfl (fun ls hl => ?_)
        refine lv_iconst (v := nI 1) hx hb d_M_digitsOf_19 (by decide) ?_
        refine lv_istore (lv' := [(6, .int (nI 1)), (5, .int (nI (dg hA (fr9 + i)))), (4, .int (nI i)), (3, .int (nI dd)), (0, .ref A), (1, .int (nI fr9)), (2, .int (nI n9))]) hx hb d_M_digitsOf_20 hl (by decide) rfl (fun ls hl => ?_)
        obtain ⟨X9, hX9⟩ : ∃ z : Nat, z = dg hA (fr9 + i) := ⟨_, rfl⟩
        have hKl : kw (fun i => dg hA (fr9 + i)) i < 1000000 ^ i := kw_lt (fun j hj => dg6_lt c6A (by omega))
        have hX6 : X9 < 1000000 := by omega
        have lp10 : ∀ (k12 : Nat) (d8 : Nat) (q : Nat) (kk : Nat) (H : Heap) (locs : List Loc) (ls : Array Slot), (q < k12) → (1 ≤ kk ∧ kk ≤ 7) → (q < 1000000) → (q = X9 / 10 ^ (kk - 1)) → (d8 ≤ 6 * i + 10) → ((kk = 1 ∧ d8 = dd) ∨ (2 ≤ kk ∧ 10 ^ (kk - 2) ≤ X9 ∧ d8 = 6 * i + (kk - 1))) → lv_has ls 7 [(6, .int (nI kk)), (5, .int (nI q)), (4, .int (nI i)), (3, .int (nI d8)), (0, .ref A), (1, .int (nI fr9)), (2, .int (nI n9))] → va_P g.D vcl (va_pl g.LP f) H → va_D (pc_A g s.heap.size) (va_pl g.LP f) → va_S (pc_A g s.heap.size) s.heap H locs → W p l e ({ frames := 0, cells := 0, slots := 0, locals := 0 }) s m args below meth c H locs 0 0 (MQ below (va_Qi (fun r f1 => (∃ k, k ≤ 2000 ∧ DGT k (kw (fun i => dg hA (fr9 + i)) n9) ∧ r = nI k) ∧ (f = f1)) (pc_out g s.heap.size) (pc_A g s.heap.size)) args s 0 0 (pc_A g s.heap.size)) (F0 m 22 ls []) := by
          intro k12
          induction k12 with
          | zero => intros; exfalso; omega
          | succ k12 ih13 =>
            intro d8 q kk H locs ls hfu14 hkk hqb hqk hd8 hin0 hl hP hD hS
            refine lv_iload hx hb d_M_digitsOf_22 (lv_at hl 1 rfl) ?_
            refine lv_if_le (tgt := 49) hx hb d_M_digitsOf_24 (by decide) (fun b17 => ?_) (fun b17 => ?_)
            · skip
              replace b17 := (nI_leI (a := q) (b := 0) (by omega) (by omega)).mp b17
              have hin : (X9 = 0 ∧ d8 = dd) ∨ (0 < kk - 1 ∧ 10 ^ (kk - 1 - 1) ≤ X9 ∧ X9 < 10 ^ (kk - 1) ∧ d8 = 6 * i + (kk - 1)) := ds_e hqk (by omega) hin0
              refine lv_iinc (k := 2) (v := nI (i + 1)) (lv' := [(4, .int (nI (i + 1))), (6, .int (nI kk)), (5, .int (nI q)), (3, .int (nI d8)), (0, .ref A), (1, .int (nI fr9)), (2, .int (nI n9))]) hx hb d_M_digitsOf_49 hl rfl (by rw [nI_succ]; rfl) (by decide) rfl (fun ls hl => ?_)
              refine lv_goto (tgt := 5) hx hb d_M_digitsOf_52 (by decide) ?_
              have hl : lv_has ls 7 [(4, .int (nI (i + 1))), (3, .int (nI d8)), (0, .ref A), (1, .int (nI fr9)), (2, .int (nI n9))] := lv_sub hl [0, 3, 4, 5, 6] rfl
              exact ih4 d8 (i + 1) H locs ls (by omega) (by omega) (by omega) (by rw [kw_s]; rcases hin with ⟨y1, y2⟩ | ⟨y1, y2, y3, y4⟩; (have y0 : X9 = 0 := (by omega); rw [← hX9, y0, y2]; simpa using hdt); (rw [← hX9, y4]; exact dt_step hKl y1 y2 y3)) hl hP hD hS
            · skip
              replace b17 := mt (nI_leI (a := q) (b := 0) (by omega) (by omega)).mpr b17
              refine lv_bipush (v := nI 6) hx hb d_M_digitsOf_27 (by decide) ?_
              refine lv_iload hx hb d_M_digitsOf_29 (lv_at hl 2 rfl) ?_
              refine pf_imulN (x := 6) (y := i) hx hb d_M_digitsOf_31 ?_
              refine lv_iload hx hb d_M_digitsOf_32 (lv_at hl 0 rfl) ?_
              refine pf_iaddN (x := 6 * i) (y := kk) hx hb d_M_digitsOf_34 ?_
              refine lv_istore_n (lv' := [(3, .int (nI ((6 * i) + kk))), (6, .int (nI kk)), (5, .int (nI q)), (4, .int (nI i)), (0, .ref A), (1, .int (nI fr9)), (2, .int (nI n9))]) hx hb d_M_digitsOf_35 rfl hl (by decide) rfl (fun ls hl => ?_)
              refine lv_iload hx hb d_M_digitsOf_36 (lv_at hl 2 rfl) ?_
              refine lv_bipush (v := nI 10) hx hb d_M_digitsOf_38 (by decide) ?_
              refine pf_idivN (x := q) (y := 10) hx hb (by omega) (by omega) (by omega) d_M_digitsOf_40 ?_
              refine lv_istore (lv' := [(5, .int (nI (q / 10))), (3, .int (nI ((6 * i) + kk))), (6, .int (nI kk)), (4, .int (nI i)), (0, .ref A), (1, .int (nI fr9)), (2, .int (nI n9))]) hx hb d_M_digitsOf_41 hl (by decide) rfl (fun ls hl => ?_)
              refine lv_iinc (k := 2) (v := nI (kk + 1)) (lv' := [(6, .int (nI (kk + 1))), (5, .int (nI (q / 10))), (3, .int (nI ((6 * i) + kk))), (4, .int (nI i)), (0, .ref A), (1, .int (nI fr9)), (2, .int (nI n9))]) hx hb d_M_digitsOf_43 hl rfl (by rw [nI_succ]; rfl) (by decide) rfl (fun ls hl => ?_)
              refine lv_goto (tgt := 22) hx hb d_M_digitsOf_46 (by decide) ?_
              have hl : lv_has ls 7 [(6, .int (nI (kk + 1))), (5, .int (nI (q / 10))), (4, .int (nI i)), (3, .int (nI ((6 * i) + kk))), (0, .ref A), (1, .int (nI fr9)), (2, .int (nI n9))] := lv_sub hl [0, 1, 3, 2, 4, 5, 6] rfl
              exact ih13 ((6 * i) + kk) (q / 10) (kk + 1) H locs ls (by omega) (ds_k hX6 hkk hqk (by omega)) (by omega) (ds_q hkk hqk) (by omega) (ds_i hkk hqk (by omega)) hl hP hD hS
        exact lp10 ((dg hA (fr9 + i)) + 1) dd (dg hA (fr9 + i)) 1 H locs ls (by omega) ⟨by omega, by omega⟩ (by omega) (by rw [Nat.sub_self, Nat.pow_zero, Nat.div_one]; exact hX9.symm) (by omega) (Or.inl ⟨rfl, rfl⟩) hl hP hD hS
  exact lp1 (n9 + 1) 1 0 s.heap [] ls (by omega) (by omega) (by omega) (Or.inl ⟨rfl, rfl⟩) hl hP hD hS
