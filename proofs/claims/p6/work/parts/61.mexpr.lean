set_option maxHeartbeats 4000000 in
set_option maxRecDepth 100000 in
theorem m_expr (l : Launch) (g : Lay) (sz : Nat) (f : Nat → va_E) (M : Nat) (mth : Int32) (mn : Nat) (mdr : Nat) (msz : Nat) (mix : Nat) (mdp : Nat) (mwt : Nat) (mop : Nat) (mtp : Nat) (mwa : Nat) (mgi : Nat) (mpc : Nat) (mst : Nat) (mtr : Nat) (msp : Nat) (mma : Int32) (mlg : Int32) (mdu : Int32) (hT : Nat → Int32) (hQ : Nat → Int32) (hG : Nat → Int32) (hL : LO g) (t_M : g.tg M = 11) (hI : IV g f) (eM : f M = .inr (10, [.int mth, .ref (g.lk M 1), .int (nI mn), .ref (g.lk M 3), .ref (g.lk M 4), .int (nI mdr), .ref (g.lk M 6), .ref (g.lk M 7), .ref (g.lk M 8), .int (nI msz), .int (nI mix), .int (nI mdp), .ref (g.lk M 12), .int (nI mwt), .ref (g.lk M 14), .ref (g.lk M 15), .int (nI mop), .ref (g.lk M 17), .ref (g.lk M 18), .ref (g.lk M 19), .ref (g.lk M 20), .ref (g.lk M 21), .ref (g.lk M 22), .ref (g.lk M 23), .ref (g.lk M 24), .ref (g.lk M 25), .ref (g.lk M 26), .ref (g.lk M 27), .ref (g.lk M 28), .ref (g.lk M 29), .ref (g.lk M 30), .ref (g.lk M 31), .int (nI mtp), .ref (g.lk M 33), .ref (g.lk M 34), .ref (g.lk M 35), .int (nI mwa), .int (nI mgi), .int (nI mpc), .int (nI mst), .int (nI mtr), .int (nI msp), .int mma, .int mlg, .int mdu])) (hMB : mn ≤ 72 ∧ mdr ≤ 100 ∧ msz ≤ 100 ∧ mix ≤ 100 ∧ mdp ≤ 20 ∧ mwt ≤ 72 ∧ mop ≤ 40 ∧ mtp ≤ 80 ∧ mwa ≤ 20 ∧ mgi ≤ msp ∧ mpc ≤ 100 ∧ mst ≤ 4 ∧ mtr ≤ 3 ∧ msp ≤ 3000 ∧ (mdu = 0 ∨ mdu = 1)) (eT : f (g.lk M 1) = .inl (g.ac (g.lk M 1), 72, .inl hT)) (cT : ∀ i, i < 72 → vp_nar .char (hT i) = hT i) (eD : f (g.lk M 3) = .inl (g.ac (g.lk M 3), 100, .inl hQ)) (eG : f (g.lk M 4) = .inl (g.ac (g.lk M 4), 100, .inl hG)) (hix : mix ≤ mn) (hdp10 : mdp ≤ 10) (hdm : mdr ≤ mix) (hdp0 : dpc hQ mdr = 0) : Met l ⟨"BigRunnerModel", "expr", "()Z"⟩ [Cond.code ⟨"BigRunnerModel", "expr", "()Z"⟩ prog_12_method_11_code 4 (some .boolean)] ({ frames := 2, cells := 0, slots := 0, locals := 44 }) (va_Pc [.ref M] (pc_in g sz f)) (va_Qi (fun r f1 => ((∃ (a n1 : Nat) (d1 g1 : Nat → Int32), py_e (tk hT mn) 400 mix [] mdp true = some (a, mdp) ∧ mix < a ∧ a ≤ mn ∧ mdr < n1 ∧ n1 + mix ≤ mdr + a ∧ GC d1 g1 mdr n1 ∧ dpc d1 n1 = 1 ∧ smd mdr d1 hQ ∧ smd mdr g1 hG ∧ f1 M = .inr (10, [.int mth, .ref (g.lk M 1), .int (nI mn), .ref (g.lk M 3), .ref (g.lk M 4), .int (nI n1), .ref (g.lk M 6), .ref (g.lk M 7), .ref (g.lk M 8), .int (nI msz), .int (nI a), .int (nI mdp), .ref (g.lk M 12), .int (nI 0), .ref (g.lk M 14), .ref (g.lk M 15), .int (nI mop), .ref (g.lk M 17), .ref (g.lk M 18), .ref (g.lk M 19), .ref (g.lk M 20), .ref (g.lk M 21), .ref (g.lk M 22), .ref (g.lk M 23), .ref (g.lk M 24), .ref (g.lk M 25), .ref (g.lk M 26), .ref (g.lk M 27), .ref (g.lk M 28), .ref (g.lk M 29), .ref (g.lk M 30), .ref (g.lk M 31), .int (nI mtp), .ref (g.lk M 33), .ref (g.lk M 34), .ref (g.lk M 35), .int (nI mwa), .int (nI mgi), .int (nI mpc), .int (nI mst), .int (nI mtr), .int (nI msp), .int mma, .int mlg, .int mdu]) ∧ f1 (g.lk M 3) = .inl (g.ac (g.lk M 3), 100, .inl d1) ∧ f1 (g.lk M 4) = .inl (g.ac (g.lk M 4), 100, .inl g1) ∧ r = nI 1) ∨ (py_e (tk hT mn) 400 mix [] mdp true = none ∧ (∃ (ix1 dp1 dr1 wt1 : Nat), ix1 ≤ 80 ∧ dp1 ≤ 12 ∧ dr1 ≤ 80 ∧ wt1 ≤ 72 ∧ f1 M = .inr (10, [.int mth, .ref (g.lk M 1), .int (nI mn), .ref (g.lk M 3), .ref (g.lk M 4), .int (nI dr1), .ref (g.lk M 6), .ref (g.lk M 7), .ref (g.lk M 8), .int (nI msz), .int (nI ix1), .int (nI dp1), .ref (g.lk M 12), .int (nI wt1), .ref (g.lk M 14), .ref (g.lk M 15), .int (nI mop), .ref (g.lk M 17), .ref (g.lk M 18), .ref (g.lk M 19), .ref (g.lk M 20), .ref (g.lk M 21), .ref (g.lk M 22), .ref (g.lk M 23), .ref (g.lk M 24), .ref (g.lk M 25), .ref (g.lk M 26), .ref (g.lk M 27), .ref (g.lk M 28), .ref (g.lk M 29), .ref (g.lk M 30), .ref (g.lk M 31), .int (nI mtp), .ref (g.lk M 33), .ref (g.lk M 34), .ref (g.lk M 35), .int (nI mwa), .int (nI mgi), .int (nI mpc), .int (nI mst), .int (nI mtr), .int (nI msp), .int mma, .int mlg, .int mdu])) ∧ r = nI 0)) ∧ (IV g f1) ∧ (un [11, 41, 42, 46] g f f1)) (pc_out g sz) (pc_A g sz)) 0 0 (pc_A g sz) := by
  refine pe_ofW (cc := prog_12_method_11_code) (maxL := 4) (ret := (some .boolean)) (lv := [(0, .ref M)]) (by decide) (Nat.le_of_ble_eq_true rfl) rfl ?_
  intro p e s m args below meth c ls hx hb hr hml hlocks hown hB hP hK hD hsz hS hl
  subst hsz
  have hu : un [11, 41, 42, 46] g f f := un.rf
  obtain ⟨hmb0, hmb1, hmb2, hmb3, hmb4, hmb5, hmb6, hmb7, hmb8, hmb9, hmb10, hmb11, hmb12, hmb13, hmb14⟩ := hMB
  refine lv_aload_n hx hb d_M_expr_0 rfl (lv_at hl 0 rfl) ?_
  refine lv_iconst (v := nI 0) hx hb d_M_expr_1 (by decide) ?_
  refine pf_put (v := .int (nI 0)) (ty := .int) (fs' := [.int mth, .ref (g.lk M 1), .int (nI mn), .ref (g.lk M 3), .ref (g.lk M 4), .int (nI mdr), .ref (g.lk M 6), .ref (g.lk M 7), .ref (g.lk M 8), .int (nI msz), .int (nI mix), .int (nI mdp), .ref (g.lk M 12), .int (nI 0), .ref (g.lk M 14), .ref (g.lk M 15), .int (nI mop), .ref (g.lk M 17), .ref (g.lk M 18), .ref (g.lk M 19), .ref (g.lk M 20), .ref (g.lk M 21), .ref (g.lk M 22), .ref (g.lk M 23), .ref (g.lk M 24), .ref (g.lk M 25), .ref (g.lk M 26), .ref (g.lk M 27), .ref (g.lk M 28), .ref (g.lk M 29), .ref (g.lk M 30), .ref (g.lk M 31), .int (nI mtp), .ref (g.lk M 33), .ref (g.lk M 34), .ref (g.lk M 35), .int (nI mwa), .int (nI mgi), .int (nI mpc), .int (nI mst), .int (nI mtr), .int (nI msp), .int mma, .int mlg, .int mdu]) (C := "BigRunnerModel") (T := FT10) (N := 45) hx hb (hw10 hB _) (fun _ h9 => h9) TY10 ok10 nm10 hown hK hP hD hS (lo_in hL t_M (by decide)) eM rfl 13 (by decide) (wd_960 hB _) rfl (by decide +kernel) rfl rfl (Nat.le_of_ble_eq_true rfl) rfl d_M_expr_2 (fun f1 H locs e2 k3 hP hD hS => ?_)
  have eT := (k3 (g.lk M 1) (tg_ne (lo_k11_1 hL _ t_M) t_M (by decide))).trans eT
  have eD := (k3 (g.lk M 3) (tg_ne (lo_k11_3 hL _ t_M) t_M (by decide))).trans eD
  have eG := (k3 (g.lk M 4) (tg_ne (lo_k11_4 hL _ t_M) t_M (by decide))).trans eG
  have hu := hu.st k3 t_M (by decide)
  have hk4 : ∀ b, b ≠ M → f1 b = f b := k3
  refine lv_iconst (v := nI 1) hx hb d_M_expr_5 (by decide) ?_
  refine lv_istore_n (lv' := [(1, .int (nI 1)), (0, .ref M)]) hx hb d_M_expr_6 rfl hl (by decide) rfl (fun ls hl => ?_)
  refine lv_iconst (v := nI 1) hx hb d_M_expr_7 (by decide) ?_
  refine lv_istore_n (lv' := [(2, .int (nI 1)), (1, .int (nI 1)), (0, .ref M)]) hx hb d_M_expr_8 rfl hl (by decide) rfl (fun ls hl => ?_)
  obtain ⟨h_6, e5⟩ := oc_46.of (lo_k11_12 hL _ t_M) (hI.1 (g.lk M 12))
  replace e5 := (hk4 (g.lk M 12) (tg_ne (lo_k11_12 hL _ t_M) t_M (by decide))).trans e5
  have hI8 := iv_1 hI hL t_M (by decide) hk4 (oc_11.mk t_M (⟨mth, mn, mdr, msz, mix, mdp, 0, mop, mtp, mwa, mgi, mpc, mst, mtr, msp, mma, mlg, mdu, e2, (by omega), (by omega), (by omega), (by omega), (by omega), (by omega), (by omega), (by omega), (by omega), (by omega), (by omega), (by omega), (by omega), (by omega), hmb14⟩))
  have lp9 : ∀ (k11 : Nat) (fb : Nat) (i8 : Nat) (t8 : Nat) (p8 : Nat) (r8 : Nat) (hW8 : Nat → Int32) (d8 : Nat → Int32) (g8 : Nat → Int32) (Fv : Nat) (f10 : Nat → va_E) (H : Heap) (locs : List Loc) (ls : Array Slot), (mn < i8 + k11) → (fb ≤ 1) → (i8 ≤ mn) → (mix ≤ i8) → (r8 + t8 + mix ≤ mdr + i8) → (mdr ≤ r8) → (OKW hW8 t8) → (p8 = mdp + cbr (wll hW8 t8)) → (p8 ≤ 10) → (EI fb (wll hW8 t8) (dpc d8 r8)) → (py_e (tk hT mn) 400 mix [] mdp true = py_e (tk hT mn) Fv i8 (wll hW8 t8) p8 (decide (fb = 1))) → (mn + 2 ≤ i8 + Fv) → (GC d8 g8 mdr r8) → (smd mdr d8 hQ) → (smd mdr g8 hG) → f10 M = .inr (10, [.int mth, .ref (g.lk M 1), .int (nI mn), .ref (g.lk M 3), .ref (g.lk M 4), .int (nI r8), .ref (g.lk M 6), .ref (g.lk M 7), .ref (g.lk M 8), .int (nI msz), .int (nI i8), .int (nI p8), .ref (g.lk M 12), .int (nI t8), .ref (g.lk M 14), .ref (g.lk M 15), .int (nI mop), .ref (g.lk M 17), .ref (g.lk M 18), .ref (g.lk M 19), .ref (g.lk M 20), .ref (g.lk M 21), .ref (g.lk M 22), .ref (g.lk M 23), .ref (g.lk M 24), .ref (g.lk M 25), .ref (g.lk M 26), .ref (g.lk M 27), .ref (g.lk M 28), .ref (g.lk M 29), .ref (g.lk M 30), .ref (g.lk M 31), .int (nI mtp), .ref (g.lk M 33), .ref (g.lk M 34), .ref (g.lk M 35), .int (nI mwa), .int (nI mgi), .int (nI mpc), .int (nI mst), .int (nI mtr), .int (nI msp), .int mma, .int mlg, .int mdu]) → f10 (g.lk M 3) = .inl (g.ac (g.lk M 3), 100, .inl (d8)) → f10 (g.lk M 4) = .inl (g.ac (g.lk M 4), 100, .inl (g8)) → f10 (g.lk M 12) = .inl (g.ac (g.lk M 12), 72, .inl (hW8)) → IV g f10 → un [11, 41, 42, 46] g f1 f10 → lv_has ls 4 [(2, .int (nI 1)), (1, .int (nI fb)), (0, .ref M)] → va_P g.D vcl (va_pl g.LP f10) H → va_D (pc_A g s.heap.size) (va_pl g.LP f10) → va_S (pc_A g s.heap.size) s.heap H locs → W p l e ({ frames := 2, cells := 0, slots := 0, locals := 44 }) s m args below meth c H locs 0 0 (MQ below (va_Qi (fun r f1 => ((∃ (a n1 : Nat) (d1 g1 : Nat → Int32), py_e (tk hT mn) 400 mix [] mdp true = some (a, mdp) ∧ mix < a ∧ a ≤ mn ∧ mdr < n1 ∧ n1 + mix ≤ mdr + a ∧ GC d1 g1 mdr n1 ∧ dpc d1 n1 = 1 ∧ smd mdr d1 hQ ∧ smd mdr g1 hG ∧ f1 M = .inr (10, [.int mth, .ref (g.lk M 1), .int (nI mn), .ref (g.lk M 3), .ref (g.lk M 4), .int (nI n1), .ref (g.lk M 6), .ref (g.lk M 7), .ref (g.lk M 8), .int (nI msz), .int (nI a), .int (nI mdp), .ref (g.lk M 12), .int (nI 0), .ref (g.lk M 14), .ref (g.lk M 15), .int (nI mop), .ref (g.lk M 17), .ref (g.lk M 18), .ref (g.lk M 19), .ref (g.lk M 20), .ref (g.lk M 21), .ref (g.lk M 22), .ref (g.lk M 23), .ref (g.lk M 24), .ref (g.lk M 25), .ref (g.lk M 26), .ref (g.lk M 27), .ref (g.lk M 28), .ref (g.lk M 29), .ref (g.lk M 30), .ref (g.lk M 31), .int (nI mtp), .ref (g.lk M 33), .ref (g.lk M 34), .ref (g.lk M 35), .int (nI mwa), .int (nI mgi), .int (nI mpc), .int (nI mst), .int (nI mtr), .int (nI msp), .int mma, .int mlg, .int mdu]) ∧ f1 (g.lk M 3) = .inl (g.ac (g.lk M 3), 100, .inl d1) ∧ f1 (g.lk M 4) = .inl (g.ac (g.lk M 4), 100, .inl g1) ∧ r = nI 1) ∨ (py_e (tk hT mn) 400 mix [] mdp true = none ∧ (∃ (ix1 dp1 dr1 wt1 : Nat), ix1 ≤ 80 ∧ dp1 ≤ 12 ∧ dr1 ≤ 80 ∧ wt1 ≤ 72 ∧ f1 M = .inr (10, [.int mth, .ref (g.lk M 1), .int (nI mn), .ref (g.lk M 3), .ref (g.lk M 4), .int (nI dr1), .ref (g.lk M 6), .ref (g.lk M 7), .ref (g.lk M 8), .int (nI msz), .int (nI ix1), .int (nI dp1), .ref (g.lk M 12), .int (nI wt1), .ref (g.lk M 14), .ref (g.lk M 15), .int (nI mop), .ref (g.lk M 17), .ref (g.lk M 18), .ref (g.lk M 19), .ref (g.lk M 20), .ref (g.lk M 21), .ref (g.lk M 22), .ref (g.lk M 23), .ref (g.lk M 24), .ref (g.lk M 25), .ref (g.lk M 26), .ref (g.lk M 27), .ref (g.lk M 28), .ref (g.lk M 29), .ref (g.lk M 30), .ref (g.lk M 31), .int (nI mtp), .ref (g.lk M 33), .ref (g.lk M 34), .ref (g.lk M 35), .int (nI mwa), .int (nI mgi), .int (nI mpc), .int (nI mst), .int (nI mtr), .int (nI msp), .int mma, .int mlg, .int mdu])) ∧ r = nI 0)) ∧ (IV g f1) ∧ (un [11, 41, 42, 46] g f f1)) (pc_out g s.heap.size) (pc_A g s.heap.size)) args s 0 0 (pc_A g s.heap.size)) (F0 m 9 ls []) := by
    intro k11
    induction k11 with
    | zero => intros; exfalso; omega
    | succ k11 ih12 =>
      intro fb i8 t8 p8 r8 hW8 d8 g8 Fv f10 H locs ls hfu13 hfb hi8 hix8 hsum hr8 hok hp8 hp10 hei hpy hFv hgc hsd hsg e14 e15 e16 e17 hI18 hv19 hl hP hD hS
      have eT := hv19.at (lo_k11_1 hL _ t_M) (by decide) eT
      have hu := hu.tr hv19 (by decide)
      obtain ⟨Fw, rfl⟩ : ∃ Fw, Fv = Fw + 1 := ⟨Fv - 1, by omega⟩
      rcases (show fb = 0 ∨ fb = 1 by omega) with rfl | rfl
      · skip
        have hl : lv_has ls 4 [(2, .int (nI 1)), (1, .int (nI 0)), (0, .ref M)] := hl
        obtain ⟨e1, e2⟩ := hei.2 rfl
        have hpy1 : py_e (tk hT mn) 400 mix [] mdp true = py_e (tk hT mn) (Fw + 1) i8 (wll hW8 t8) p8 false := hpy
        refine lv_iload_n hx hb d_M_expr_9 rfl (lv_at hl 0 rfl) ?_
        refine lv_if_eq (tgt := 284) hx hb d_M_expr_10 (by decide) (fun b20 => ?_) (fun b20 => ?_)
        · skip
          replace b20 := (nI_eq (a := 1) (b := 0) (by omega) (by omega)).mp b20
          exfalso; omega
        · skip
          replace b20 := mt (nI_eq (a := 1) (b := 0) (by omega) (by omega)).mpr b20
          refine lv_aload_n hx hb d_M_expr_13 rfl (lv_at hl 2 rfl) ?_
          refine pcc_i (va_runV (C := "BigRunnerModel") (As := []) (rest := []) ⟨hx, hb, hml, hown, tb_nil⟩ (m_here l g H.size f10 M mth mn r8 msz i8 p8 t8 mop mtp mwa mgi mpc mst mtr msp mma mlg mdu hT hL t_M hI18.1 e14 ⟨(by omega), (by omega), (by omega), (by omega), (by omega), (by omega), (by omega), (by omega), (by omega), (by omega), (by omega), (by omega), (by omega), (by omega), hmb14⟩ eT cT) ⟨(callB_of 0 (tb_one (wd_1111 hB _)) tb_good1 rfl rfl rfl (wd_82 hB _) (wd_1108 hB _) (by decide +kernel) ⟨Nat.le_of_ble_eq_true rfl, Nat.le_of_ble_eq_true rfl⟩), (wd_1110 hB _), (wd_43 hB _)⟩ ⟨pe_bl, pg_recv (ci := 10) hK hP (lo_in hL t_M (by decide)) e14 rfl, pe_pre hB hK hP hD⟩ rfl rfl hl.1 rfl (lv_room (Nat.le_of_ble_eq_true rfl)) d_M_expr_14 ⟨Nat.le_of_ble_eq_true rfl, Nat.le_of_ble_eq_true rfl⟩) hS (fun r21 f22 H locs hq23 hP hD hS => ?_)
          obtain ⟨nx_24, rfl⟩ := hq23
          subst nx_24
          refine lv_istore_n (lv' := [(3, .int (nxm hT mn i8)), (2, .int (nI 1)), (1, .int (nI 0)), (0, .ref M)]) hx hb d_M_expr_17 rfl hl (by decide) rfl (fun ls hl => ?_)
          refine lv_iload_n hx hb d_M_expr_18 rfl (lv_at hl 2 rfl) ?_
          refine lv_if_eq (tgt := 160) hx hb d_M_expr_19 (by decide) (fun b25 => ?_) (fun b25 => ?_)
          · skip
            replace b25 := (nI_eq (a := 0) (b := 0) (by omega) (by omega)).mp b25
            refine lv_iload_n hx hb d_M_expr_160 rfl (lv_at hl 0 rfl) ?_
            refine pcc_i (va_runS (As := [.int (nxm hT mn i8)]) (rest := []) ⟨hx, hb, hml, hown, tb_nil⟩ (m_kindOf l g H.size f10 ((nxm hT mn i8)) hL hI18.1) ⟨(callB_of 1 (tb_one (wd_1136 hB _)) tb_good1 rfl rfl rfl (wd_82 hB _) (wd_1134 hB _) (by decide +kernel) ⟨Nat.le_of_ble_eq_true rfl, Nat.le_of_ble_eq_true rfl⟩), (wd_1135 hB _)⟩ ⟨pe_bl, pe_pre hB hK hP hD⟩ rfl rfl hl.1 rfl (lv_room (Nat.le_of_ble_eq_true rfl)) d_M_expr_161 ⟨Nat.le_of_ble_eq_true rfl, Nat.le_of_ble_eq_true rfl⟩) hS (fun r26 f27 H locs hq28 hP hD hS => ?_)
            obtain ⟨ko_29, rfl⟩ := hq28
            obtain ⟨kr30, hkr30_0, hkr30_1, rfl⟩ := ko_29
            refine lv_if_le (tgt := 219) hx hb d_M_expr_164 (by decide) (fun b31 => ?_) (fun b31 => ?_)
            · skip
              replace b31 := (nI_leI (a := kr30) (b := 0) (by omega) (by omega)).mp b31
              have hkn := ko_0 hkr30_1 (by omega)
              rw [tkm] at hkn
              obtain ⟨hk1, hk2, hk3⟩ := hkn
              refine lv_aload_n hx hb d_M_expr_219 rfl (lv_at hl 3 rfl) ?_
              refine lv_iconst (v := nI 1) hx hb d_M_expr_220 (by decide) ?_
              refine pcc_v (va_runV (C := "BigRunnerModel") (As := [.int (nI 1)]) (rest := []) ⟨hx, hb, hml, hown, tb_nil⟩ (m_release l g H.size f10 M mth mn r8 msz i8 p8 t8 mop mtp mwa mgi mpc mst mtr msp mma mlg mdu d8 g8 hW8 mdr 1 hL t_M hI18 e14 ⟨(by omega), (by omega), (by omega), (by omega), (by omega), (by omega), (by omega), (by omega), (by omega), (by omega), (by omega), (by omega), (by omega), (by omega), hmb14⟩ e15 e16 e17 (by omega) (by omega) e2 e1 hok hgc) ⟨(callB_of 1 (tb_one (wd_1140 hB _)) tb_good1 rfl rfl rfl (wd_82 hB _) (wd_1137 hB _) (by decide +kernel) ⟨Nat.le_of_ble_eq_true rfl, Nat.le_of_ble_eq_true rfl⟩), (wd_1139 hB _), (wd_48 hB _)⟩ ⟨pe_bl, pg_recv (ci := 10) hK hP (lo_in hL t_M (by decide)) e14 rfl, pe_pre hB hK hP hD⟩ rfl rfl hl.1 rfl (lv_room (Nat.le_of_ble_eq_true rfl)) d_M_expr_221 ⟨Nat.le_of_ble_eq_true rfl, Nat.le_of_ble_eq_true rfl⟩) hS (fun f33 H locs hq34 hP hD hS => ?_)
              obtain ⟨x1_35, hI1_36, hu1_37⟩ := hq34
              have hu := hu.tr hu1_37 (by decide)
              have hv19 := hv19.tr hu1_37 (by decide)
              have eT := hu1_37.at (lo_k11_1 hL _ t_M) (by decide) eT
              have e17 := hu1_37.at (lo_k11_12 hL _ t_M) (by decide) e17
              obtain ⟨wt_38, dr_39, d_40, g_41, c42, c43, c44, c45, c46, c47, c48, c49, c50, e51, e52, e53⟩ := x1_35
              refine lv_iload_n hx hb d_M_expr_224 rfl (lv_at hl 0 rfl) ?_
              refine lv_bipush (v := nI 41) hx hb d_M_expr_225 (by decide) ?_
              refine lv_icmp_ne (tgt := 241) hx hb d_M_expr_227 (by decide) (fun b54 => ?_) (fun b54 => ?_)
              · skip
                have hk5 : tk hT mn i8 ≠ 5 := fun z => b54 (kc_5.mp ((tkm hT mn i8).trans z))
                refine lv_iconst (v := nI 0) hx hb d_M_expr_241 (by decide) ?_
                refine lv_istore_n (lv' := [(2, .int (nI 0)), (3, .int (nxm hT mn i8)), (1, .int (nI 0)), (0, .ref M)]) hx hb d_M_expr_242 rfl hl (by decide) rfl (fun ls hl => ?_)
                refine lv_iload_n hx hb d_M_expr_243 rfl (lv_at hl 0 rfl) ?_
                refine lv_if_eq (tgt := 281) hx hb d_M_expr_244 (by decide) (fun b55 => ?_) (fun b55 => ?_)
                · skip
                  replace b55 := (nI_eq (a := 0) (b := 0) (by omega) (by omega)).mp b55
                  refine lv_goto (tgt := 9) hx hb d_M_expr_281 (by decide) ?_
                  refine lv_iload_n hx hb d_M_expr_9 rfl (lv_at hl 0 rfl) ?_
                  refine lv_if_eq (tgt := 284) hx hb d_M_expr_10 (by decide) (fun b56 => ?_) (fun b56 => ?_)
                  · skip
                    replace b56 := (nI_eq (a := 0) (b := 0) (by omega) (by omega)).mp b56
                    refine lv_aload_n hx hb d_M_expr_284 rfl (lv_at hl 3 rfl) ?_
                    refine pf_get (v := .int (nI wt_38)) (C := "BigRunnerModel") (T := FT10) (N := 45) hx hb (hw10 hB _) (fun _ h9 => h9) hown hK hP (lo_in hL t_M (by decide)) e51 rfl 13 (by decide) (wd_960 hB _) rfl d_M_expr_285 ?_
                    refine lv_if_ne (tgt := 295) hx hb d_M_expr_288 (by decide) (fun b57 => ?_) (fun b57 => ?_)
                    · skip
                      replace b57 := mt (nI_eq (a := wt_38) (b := 0) (by omega) (by omega)).mpr b57
                      refine lv_iconst (v := nI 0) hx hb d_M_expr_295 (by decide) ?_
                      have hnn : ¬ py_rel 1 (wll hW8 t8) = [] := fun z => by have := wll_nil (c44.trans z); omega
                      exact pe_zret hx hb hr hlocks hK hP hD hS d_M_expr_296 rfl ⟨(Or.inr ⟨(hpy1.trans (by rw [py_eF, if_neg (by omega), if_neg (by omega), if_neg (fun z => hk5 z.1), if_neg hnn])), ⟨i8, p8, dr_39, wt_38, by omega, by omega, by omega, by omega, e51⟩, rfl⟩), hI1_36, hu⟩
                    · skip
                      replace b57 := (nI_eq (a := wt_38) (b := 0) (by omega) (by omega)).mp b57
                      refine lv_iconst (v := nI 1) hx hb d_M_expr_291 (by decide) ?_
                      refine lv_goto (tgt := 296) hx hb d_M_expr_292 (by decide) ?_
                      have hwt0 : wt_38 = 0 := by omega
                      have hnil := (show py_rel 1 (wll hW8 t8) = [] by rw [← c44, hwt0]; rfl)
                      have hc0 : cbr (wll hW8 t8) = 0 := by rw [← c46, hwt0]; rfl
                      have hpm : p8 = mdp := by omega
                      have hnd : dr_39 ≠ mdr := fun z => by have y1 := c47; rw [z, dpc_eq (smd_tr (smd_le c49 (show mdr ≤ r8 by omega)) hsd), hdp0] at y1; omega
                      exact pe_zret hx hb hr hlocks hK hP hD hS d_M_expr_296 rfl ⟨(Or.inl ⟨i8, dr_39, _, _, (hpy1.trans (by rw [py_eF, if_neg (by omega), if_neg (by omega), if_neg (fun z => z.2 hnil), if_pos hnil, hpm])), by omega, by omega, by omega, by omega, c48, (by rw [c47, hwt0]; rfl), (smd_tr (smd_le c49 (by omega)) hsd), (smd_tr (smd_le c50 (by omega)) hsg), (by have z := e51; rw [hwt0, hpm] at z; exact z), e52, e53, rfl⟩), hI1_36, hu⟩
                  · skip
                    replace b56 := mt (nI_eq (a := 0) (b := 0) (by omega) (by omega)).mpr b56
                    exfalso; omega
                · skip
                  replace b55 := mt (nI_eq (a := 0) (b := 0) (by omega) (by omega)).mpr b55
                  exfalso; omega
              · skip
                have hk5 : tk hT mn i8 = 5 := (tkm hT mn i8).symm.trans (kc_5.mpr b54)
                have hl9 : i8 < mn := tk_in (h := hT) (by omega)
                refine lv_aload_n hx hb d_M_expr_230 rfl (lv_at hl 3 rfl) ?_
                refine pf_get (v := .int (nI wt_38)) (C := "BigRunnerModel") (T := FT10) (N := 45) hx hb (hw10 hB _) (fun _ h9 => h9) hown hK hP (lo_in hL t_M (by decide)) e51 rfl 13 (by decide) (wd_960 hB _) rfl d_M_expr_231 ?_
                refine lv_if_le (tgt := 241) hx hb d_M_expr_234 (by decide) (fun b58 => ?_) (fun b58 => ?_)
                · skip
                  replace b58 := (nI_leI (a := wt_38) (b := 0) (by omega) (by omega)).mp b58
                  refine lv_iconst (v := nI 0) hx hb d_M_expr_241 (by decide) ?_
                  refine lv_istore_n (lv' := [(2, .int (nI 0)), (3, .int (nxm hT mn i8)), (1, .int (nI 0)), (0, .ref M)]) hx hb d_M_expr_242 rfl hl (by decide) rfl (fun ls hl => ?_)
                  refine lv_iload_n hx hb d_M_expr_243 rfl (lv_at hl 0 rfl) ?_
                  refine lv_if_eq (tgt := 281) hx hb d_M_expr_244 (by decide) (fun b59 => ?_) (fun b59 => ?_)
                  · skip
                    replace b59 := (nI_eq (a := 0) (b := 0) (by omega) (by omega)).mp b59
                    refine lv_goto (tgt := 9) hx hb d_M_expr_281 (by decide) ?_
                    refine lv_iload_n hx hb d_M_expr_9 rfl (lv_at hl 0 rfl) ?_
                    refine lv_if_eq (tgt := 284) hx hb d_M_expr_10 (by decide) (fun b60 => ?_) (fun b60 => ?_)
                    · skip
                      replace b60 := (nI_eq (a := 0) (b := 0) (by omega) (by omega)).mp b60
                      refine lv_aload_n hx hb d_M_expr_284 rfl (lv_at hl 3 rfl) ?_
                      refine pf_get (v := .int (nI wt_38)) (C := "BigRunnerModel") (T := FT10) (N := 45) hx hb (hw10 hB _) (fun _ h9 => h9) hown hK hP (lo_in hL t_M (by decide)) e51 rfl 13 (by decide) (wd_960 hB _) rfl d_M_expr_285 ?_
                      refine lv_if_ne (tgt := 295) hx hb d_M_expr_288 (by decide) (fun b61 => ?_) (fun b61 => ?_)
                      · skip
                        replace b61 := mt (nI_eq (a := wt_38) (b := 0) (by omega) (by omega)).mpr b61
                        exfalso; omega
                      · skip
                        replace b61 := (nI_eq (a := wt_38) (b := 0) (by omega) (by omega)).mp b61
                        refine lv_iconst (v := nI 1) hx hb d_M_expr_291 (by decide) ?_
                        refine lv_goto (tgt := 296) hx hb d_M_expr_292 (by decide) ?_
                        have hwt0 : wt_38 = 0 := by omega
                        have hnil := (show py_rel 1 (wll hW8 t8) = [] by rw [← c44, hwt0]; rfl)
                        have hc0 : cbr (wll hW8 t8) = 0 := by rw [← c46, hwt0]; rfl
                        have hpm : p8 = mdp := by omega
                        have hnd : dr_39 ≠ mdr := fun z => by have y1 := c47; rw [z, dpc_eq (smd_tr (smd_le c49 (show mdr ≤ r8 by omega)) hsd), hdp0] at y1; omega
                        exact pe_zret hx hb hr hlocks hK hP hD hS d_M_expr_296 rfl ⟨(Or.inl ⟨i8, dr_39, _, _, (hpy1.trans (by rw [py_eF, if_neg (by omega), if_neg (by omega), if_neg (fun z => z.2 hnil), if_pos hnil, hpm])), by omega, by omega, by omega, by omega, c48, (by rw [c47, hwt0]; rfl), (smd_tr (smd_le c49 (by omega)) hsd), (smd_tr (smd_le c50 (by omega)) hsg), (by have z := e51; rw [hwt0, hpm] at z; exact z), e52, e53, rfl⟩), hI1_36, hu⟩
                    · skip
                      replace b60 := mt (nI_eq (a := 0) (b := 0) (by omega) (by omega)).mpr b60
                      exfalso; omega
                  · skip
                    replace b59 := mt (nI_eq (a := 0) (b := 0) (by omega) (by omega)).mpr b59
                    exfalso; omega
                · skip
                  replace b58 := mt (nI_leI (a := wt_38) (b := 0) (by omega) (by omega)).mpr b58
                  refine lv_iconst (v := nI 1) hx hb d_M_expr_237 (by decide) ?_
                  refine lv_goto (tgt := 242) hx hb d_M_expr_238 (by decide) ?_
                  refine lv_istore_n (lv' := [(2, .int (nI 1)), (3, .int (nxm hT mn i8)), (1, .int (nI 0)), (0, .ref M)]) hx hb d_M_expr_242 rfl hl (by decide) rfl (fun ls hl => ?_)
                  refine lv_iload_n hx hb d_M_expr_243 rfl (lv_at hl 0 rfl) ?_
                  refine lv_if_eq (tgt := 281) hx hb d_M_expr_244 (by decide) (fun b62 => ?_) (fun b62 => ?_)
                  · skip
                    replace b62 := (nI_eq (a := 1) (b := 0) (by omega) (by omega)).mp b62
                    exfalso; omega
                  · skip
                    replace b62 := mt (nI_eq (a := 1) (b := 0) (by omega) (by omega)).mpr b62
                    obtain ⟨S4, hS40⟩ := (rel_1 (wll hW8 t8)).resolve_left (fun z => by have := wll_nil (c44.trans z); omega)
                    have hS41 := wll_s hW8 (show 0 < wt_38 by omega)
                    have hS42 : wcc (hW8 (wt_38 - 1)) = 4 := by have z := hS41.symm.trans (c44.trans hS40); injection z
                    have hS4 : wll hW8 wt_38 = 4 :: wll hW8 (wt_38 - 1) := by rw [hS41, hS42]
                    have hn8t : n8t (wll hW8 (wt_38 - 1)) := n8_4 (by rw [← hS4]; exact c45)
                    have hc4 : cbr (wll hW8 wt_38) = 1 + cbr (wll hW8 (wt_38 - 1)) := by rw [hS4, cbr_c, if_pos (Or.inl rfl)]
                    have hnb4 : nbS (wll hW8 wt_38) = nbS (wll hW8 (wt_38 - 1)) := by rw [hS4, nbS_c, if_pos (Or.inl rfl)]; omega
                    have c49z := smd_le c49 (show mdr ≤ r8 by omega)
                    have c50z := smd_le c50 (show mdr ≤ r8 by omega)
                    refine lv_aload_n hx hb d_M_expr_247 rfl (lv_at hl 3 rfl) ?_
                    refine lv_dup hx hb d_M_expr_248 rfl ?_
                    refine pf_get (v := .int (nI wt_38)) (C := "BigRunnerModel") (T := FT10) (N := 45) hx hb (hw10 hB _) (fun _ h9 => h9) hown hK hP (lo_in hL t_M (by decide)) e51 rfl 13 (by decide) (wd_960 hB _) rfl d_M_expr_249 ?_
                    refine lv_iconst (v := nI 1) hx hb d_M_expr_252 (by decide) ?_
                    refine pf_isubN (x := wt_38) (y := 1) hx hb (by omega) d_M_expr_253 ?_
                    refine pf_put (v := .int (nI (wt_38 - 1))) (ty := .int) (fs' := [.int mth, .ref (g.lk M 1), .int (nI mn), .ref (g.lk M 3), .ref (g.lk M 4), .int (nI dr_39), .ref (g.lk M 6), .ref (g.lk M 7), .ref (g.lk M 8), .int (nI msz), .int (nI i8), .int (nI p8), .ref (g.lk M 12), .int (nI (wt_38 - 1)), .ref (g.lk M 14), .ref (g.lk M 15), .int (nI mop), .ref (g.lk M 17), .ref (g.lk M 18), .ref (g.lk M 19), .ref (g.lk M 20), .ref (g.lk M 21), .ref (g.lk M 22), .ref (g.lk M 23), .ref (g.lk M 24), .ref (g.lk M 25), .ref (g.lk M 26), .ref (g.lk M 27), .ref (g.lk M 28), .ref (g.lk M 29), .ref (g.lk M 30), .ref (g.lk M 31), .int (nI mtp), .ref (g.lk M 33), .ref (g.lk M 34), .ref (g.lk M 35), .int (nI mwa), .int (nI mgi), .int (nI mpc), .int (nI mst), .int (nI mtr), .int (nI msp), .int mma, .int mlg, .int mdu]) (C := "BigRunnerModel") (T := FT10) (N := 45) hx hb (hw10 hB _) (fun _ h9 => h9) TY10 ok10 nm10 hown hK hP hD hS (lo_in hL t_M (by decide)) e51 rfl 13 (by decide) (wd_960 hB _) rfl (by decide +kernel) rfl rfl (Nat.le_of_ble_eq_true rfl) rfl d_M_expr_254 (fun f63 H locs e64 k65 hP hD hS => ?_)
                    have eT := (k65 (g.lk M 1) (tg_ne (lo_k11_1 hL _ t_M) t_M (by decide))).trans eT
                    have e17 := (k65 (g.lk M 12) (tg_ne (lo_k11_12 hL _ t_M) t_M (by decide))).trans e17
                    have e52 := (k65 (g.lk M 3) (tg_ne (lo_k11_3 hL _ t_M) t_M (by decide))).trans e52
                    have e53 := (k65 (g.lk M 4) (tg_ne (lo_k11_4 hL _ t_M) t_M (by decide))).trans e53
                    have hu := hu.st k65 t_M (by decide)
                    have hv19 := hv19.st k65 t_M (by decide)
                    have hk66 : ∀ b, b ≠ M → f63 b = f33 b := k65
                    refine lv_aload_n hx hb d_M_expr_257 rfl (lv_at hl 3 rfl) ?_
                    refine lv_dup hx hb d_M_expr_258 rfl ?_
                    refine pf_get (v := .int (nI p8)) (C := "BigRunnerModel") (T := FT10) (N := 45) hx hb (hw10 hB _) (fun _ h9 => h9) hown hK hP (lo_in hL t_M (by decide)) e64 rfl 11 (by decide) (wd_958 hB _) rfl d_M_expr_259 ?_
                    refine lv_iconst (v := nI 1) hx hb d_M_expr_262 (by decide) ?_
                    refine pf_isubN (x := p8) (y := 1) hx hb (by omega) d_M_expr_263 ?_
                    refine pf_put (v := .int (nI (p8 - 1))) (ty := .int) (fs' := [.int mth, .ref (g.lk M 1), .int (nI mn), .ref (g.lk M 3), .ref (g.lk M 4), .int (nI dr_39), .ref (g.lk M 6), .ref (g.lk M 7), .ref (g.lk M 8), .int (nI msz), .int (nI i8), .int (nI (p8 - 1)), .ref (g.lk M 12), .int (nI (wt_38 - 1)), .ref (g.lk M 14), .ref (g.lk M 15), .int (nI mop), .ref (g.lk M 17), .ref (g.lk M 18), .ref (g.lk M 19), .ref (g.lk M 20), .ref (g.lk M 21), .ref (g.lk M 22), .ref (g.lk M 23), .ref (g.lk M 24), .ref (g.lk M 25), .ref (g.lk M 26), .ref (g.lk M 27), .ref (g.lk M 28), .ref (g.lk M 29), .ref (g.lk M 30), .ref (g.lk M 31), .int (nI mtp), .ref (g.lk M 33), .ref (g.lk M 34), .ref (g.lk M 35), .int (nI mwa), .int (nI mgi), .int (nI mpc), .int (nI mst), .int (nI mtr), .int (nI msp), .int mma, .int mlg, .int mdu]) (C := "BigRunnerModel") (T := FT10) (N := 45) hx hb (hw10 hB _) (fun _ h9 => h9) TY10 ok10 nm10 hown hK hP hD hS (lo_in hL t_M (by decide)) e64 rfl 11 (by decide) (wd_958 hB _) rfl (by decide +kernel) rfl rfl (Nat.le_of_ble_eq_true rfl) rfl d_M_expr_264 (fun f67 H locs e68 k69 hP hD hS => ?_)
                    have eT := (k69 (g.lk M 1) (tg_ne (lo_k11_1 hL _ t_M) t_M (by decide))).trans eT
                    have e17 := (k69 (g.lk M 12) (tg_ne (lo_k11_12 hL _ t_M) t_M (by decide))).trans e17
                    have e52 := (k69 (g.lk M 3) (tg_ne (lo_k11_3 hL _ t_M) t_M (by decide))).trans e52
                    have e53 := (k69 (g.lk M 4) (tg_ne (lo_k11_4 hL _ t_M) t_M (by decide))).trans e53
                    have hu := hu.st k69 t_M (by decide)
                    have hv19 := hv19.st k69 t_M (by decide)
                    have hk70 : ∀ b, b ≠ M → f67 b = f33 b := fun b q0 => (k69 b q0).trans (hk66 b q0)
                    refine lv_aload_n hx hb d_M_expr_267 rfl (lv_at hl 3 rfl) ?_
                    refine lv_dup hx hb d_M_expr_268 rfl ?_
                    refine pf_get (v := .int (nI i8)) (C := "BigRunnerModel") (T := FT10) (N := 45) hx hb (hw10 hB _) (fun _ h9 => h9) hown hK hP (lo_in hL t_M (by decide)) e68 rfl 10 (by decide) (wd_957 hB _) rfl d_M_expr_269 ?_
                    refine lv_iconst (v := nI 1) hx hb d_M_expr_272 (by decide) ?_
                    refine pf_iaddN (x := i8) (y := 1) hx hb d_M_expr_273 ?_
                    refine pf_put (v := .int (nI (i8 + 1))) (ty := .int) (fs' := [.int mth, .ref (g.lk M 1), .int (nI mn), .ref (g.lk M 3), .ref (g.lk M 4), .int (nI dr_39), .ref (g.lk M 6), .ref (g.lk M 7), .ref (g.lk M 8), .int (nI msz), .int (nI (i8 + 1)), .int (nI (p8 - 1)), .ref (g.lk M 12), .int (nI (wt_38 - 1)), .ref (g.lk M 14), .ref (g.lk M 15), .int (nI mop), .ref (g.lk M 17), .ref (g.lk M 18), .ref (g.lk M 19), .ref (g.lk M 20), .ref (g.lk M 21), .ref (g.lk M 22), .ref (g.lk M 23), .ref (g.lk M 24), .ref (g.lk M 25), .ref (g.lk M 26), .ref (g.lk M 27), .ref (g.lk M 28), .ref (g.lk M 29), .ref (g.lk M 30), .ref (g.lk M 31), .int (nI mtp), .ref (g.lk M 33), .ref (g.lk M 34), .ref (g.lk M 35), .int (nI mwa), .int (nI mgi), .int (nI mpc), .int (nI mst), .int (nI mtr), .int (nI msp), .int mma, .int mlg, .int mdu]) (C := "BigRunnerModel") (T := FT10) (N := 45) hx hb (hw10 hB _) (fun _ h9 => h9) TY10 ok10 nm10 hown hK hP hD hS (lo_in hL t_M (by decide)) e68 rfl 10 (by decide) (wd_957 hB _) rfl (by decide +kernel) rfl rfl (Nat.le_of_ble_eq_true rfl) rfl d_M_expr_274 (fun f71 H locs e72 k73 hP hD hS => ?_)
                    have eT := (k73 (g.lk M 1) (tg_ne (lo_k11_1 hL _ t_M) t_M (by decide))).trans eT
                    have e17 := (k73 (g.lk M 12) (tg_ne (lo_k11_12 hL _ t_M) t_M (by decide))).trans e17
                    have e52 := (k73 (g.lk M 3) (tg_ne (lo_k11_3 hL _ t_M) t_M (by decide))).trans e52
                    have e53 := (k73 (g.lk M 4) (tg_ne (lo_k11_4 hL _ t_M) t_M (by decide))).trans e53
                    have hu := hu.st k73 t_M (by decide)
                    have hv19 := hv19.st k73 t_M (by decide)
                    have hk74 : ∀ b, b ≠ M → f71 b = f33 b := fun b q0 => (k73 b q0).trans (hk70 b q0)
                    refine lv_aload_n hx hb d_M_expr_277 rfl (lv_at hl 3 rfl) ?_
                    have hI75 := iv_1 hI1_36 hL t_M (by decide) hk74 (oc_11.mk t_M (⟨mth, mn, dr_39, msz, (i8 + 1), (p8 - 1), (wt_38 - 1), mop, mtp, mwa, mgi, mpc, mst, mtr, msp, mma, mlg, mdu, e72, (by omega), (by omega), (by omega), (by omega), (by omega), (by omega), (by omega), (by omega), (by omega), (by omega), (by omega), (by omega), (by omega), (by omega), hmb14⟩))
                    refine pcc_v (va_runV (C := "BigRunnerModel") (As := []) (rest := []) ⟨hx, hb, hml, hown, tb_nil⟩ (m_negate l g H.size f71 M mth mn dr_39 msz ((i8 + 1)) ((p8 - 1)) ((wt_38 - 1)) mop mtp mwa mgi mpc mst mtr msp mma mlg mdu d_40 g_41 hW8 mdr hL t_M hI75 e72 ⟨(by omega), (by omega), (by omega), (by omega), (by omega), (by omega), (by omega), (by omega), (by omega), (by omega), (by omega), (by omega), (by omega), (by omega), hmb14⟩ e52 e53 e17 (by omega) (by rw [c47]; omega) (by omega) c48) ⟨(callB_of 0 (tb_one (wd_1126 hB _)) tb_good1 rfl rfl rfl (wd_82 hB _) (wd_1123 hB _) (by decide +kernel) ⟨Nat.le_of_ble_eq_true rfl, Nat.le_of_ble_eq_true rfl⟩), (wd_1125 hB _), (wd_46 hB _)⟩ ⟨pe_bl, pg_recv (ci := 10) hK hP (lo_in hL t_M (by decide)) e72 rfl, pe_pre hB hK hP hD⟩ rfl rfl hl.1 rfl (lv_room (Nat.le_of_ble_eq_true rfl)) d_M_expr_278 ⟨Nat.le_of_ble_eq_true rfl, Nat.le_of_ble_eq_true rfl⟩) hS (fun f77 H locs hq78 hP hD hS => ?_)
                    obtain ⟨x1_79, hI1_80, hu1_81⟩ := hq78
                    have hu := hu.tr hu1_81 (by decide)
                    have hv19 := hv19.tr hu1_81 (by decide)
                    have eT := hu1_81.at (lo_k11_1 hL _ t_M) (by decide) eT
                    have e17 := hu1_81.at (lo_k11_12 hL _ t_M) (by decide) e17
                    obtain ⟨wt_82, dp_83, dr_84, d_85, g_86, c87, c88, c89, c90, c91, c92, c93, c94, c95, c96, e97, e98, e99⟩ := x1_79
                    refine lv_goto (tgt := 9) hx hb d_M_expr_281 (by decide) ?_
                    have hl : lv_has ls 4 [(2, .int (nI 1)), (1, .int (nI 0)), (0, .ref M)] := lv_sub hl [0, 2, 3] rfl
                    exact ih12 0 (i8 + 1) wt_82 dp_83 dr_84 hW8 d_85 g_86 Fw f77 H locs ls (by omega) (by omega) (by omega) (by omega) (by omega) (by omega) (OKW_le hok (by omega)) (by omega) (by omega) (EI_0 (by have z := neg_n8 (p8 - 1) hn8t; rw [c90] at z; exact z) (by rw [c93, c47]; omega)) (hpy1.trans (by rw [py_eF, if_neg (by omega), if_neg (by omega), if_pos ⟨hk5, by rw [← c44, hS4]; simp⟩, ← c44, hS4]; show py_e (tk hT mn) Fw (i8 + 1) (py_neg (wll hW8 (wt_38 - 1)) (p8 - 1)).1 (py_neg (wll hW8 (wt_38 - 1)) (p8 - 1)).2 false = _; rw [c90]; rfl)) (by omega) c94 (smd_tr (smd_le c95 (by omega)) (smd_tr c49z hsd)) (smd_tr (smd_le c96 (by omega)) (smd_tr c50z hsg)) e97 e98 e99 e17 hI1_80 hv19 hl hP hD hS
            · skip
              replace b31 := mt (nI_leI (a := kr30) (b := 0) (by omega) (by omega)).mpr b31
              refine lv_aload_n hx hb d_M_expr_167 rfl (lv_at hl 3 rfl) ?_
              refine lv_iload_n hx hb d_M_expr_168 rfl (lv_at hl 0 rfl) ?_
              refine pcc_i (va_runS (As := [.int (nxm hT mn i8)]) (rest := [.ref M]) ⟨hx, hb, hml, hown, tb_nil⟩ (m_kindOf l g H.size f10 ((nxm hT mn i8)) hL hI18.1) ⟨(callB_of 1 (tb_one (wd_1136 hB _)) tb_good1 rfl rfl rfl (wd_82 hB _) (wd_1134 hB _) (by decide +kernel) ⟨Nat.le_of_ble_eq_true rfl, Nat.le_of_ble_eq_true rfl⟩), (wd_1135 hB _)⟩ ⟨pe_bl, pe_pre hB hK hP hD⟩ rfl rfl hl.1 rfl (lv_room (Nat.le_of_ble_eq_true rfl)) d_M_expr_169 ⟨Nat.le_of_ble_eq_true rfl, Nat.le_of_ble_eq_true rfl⟩) hS (fun r100 f101 H locs hq102 hP hD hS => ?_)
              obtain ⟨ko_103, rfl⟩ := hq102
              obtain ⟨kr104, hkr104_0, hkr104_1, rfl⟩ := ko_103
              refine lv_iconst (v := nI 3) hx hb d_M_expr_172 (by decide) ?_
              refine lv_icmp_le (tgt := 180) hx hb d_M_expr_173 (by decide) (fun b105 => ?_) (fun b105 => ?_)
              · skip
                replace b105 := (nI_leI (a := kr104) (b := 3) (by omega) (by omega)).mp b105
                refine lv_iconst (v := nI 1) hx hb d_M_expr_180 (by decide) ?_
                have hk12 := ko_1 hkr30_1 (by omega) hkr104_1 (by omega)
                have hk12t : tk hT mn i8 = 1 ∨ tk hT mn i8 = 2 := by rw [← tkm]; exact hk12
                have hl9 : i8 < mn := tk_in (h := hT) (by omega)
                have hnar := nxm_nar (i := i8) cT hmb0
                have hwx : wcc (vp_nar .char (nxm hT mn i8)) = 1 := by rw [hnar]; exact wcc_12 hk12
                refine pcc_v (va_runV (C := "BigRunnerModel") (As := [.int (nI 1)]) (rest := []) ⟨hx, hb, hml, hown, tb_nil⟩ (m_release l g H.size f10 M mth mn r8 msz i8 p8 t8 mop mtp mwa mgi mpc mst mtr msp mma mlg mdu d8 g8 hW8 mdr 1 hL t_M hI18 e14 ⟨(by omega), (by omega), (by omega), (by omega), (by omega), (by omega), (by omega), (by omega), (by omega), (by omega), (by omega), (by omega), (by omega), (by omega), hmb14⟩ e15 e16 e17 (by omega) (by omega) e2 e1 hok hgc) ⟨(callB_of 1 (tb_one (wd_1140 hB _)) tb_good1 rfl rfl rfl (wd_82 hB _) (wd_1137 hB _) (by decide +kernel) ⟨Nat.le_of_ble_eq_true rfl, Nat.le_of_ble_eq_true rfl⟩), (wd_1139 hB _), (wd_48 hB _)⟩ ⟨pe_bl, pg_recv (ci := 10) hK hP (lo_in hL t_M (by decide)) e14 rfl, pe_pre hB hK hP hD⟩ rfl rfl hl.1 rfl (lv_room (Nat.le_of_ble_eq_true rfl)) d_M_expr_181 ⟨Nat.le_of_ble_eq_true rfl, Nat.le_of_ble_eq_true rfl⟩) hS (fun f107 H locs hq108 hP hD hS => ?_)
                obtain ⟨x1_109, hI1_110, hu1_111⟩ := hq108
                have hu := hu.tr hu1_111 (by decide)
                have hv19 := hv19.tr hu1_111 (by decide)
                have eT := hu1_111.at (lo_k11_1 hL _ t_M) (by decide) eT
                have e17 := hu1_111.at (lo_k11_12 hL _ t_M) (by decide) e17
                obtain ⟨wt_112, dr_113, d_114, g_115, c116, c117, c118, c119, c120, c121, c122, c123, c124, e125, e126, e127⟩ := x1_109
                refine lv_aload_n hx hb d_M_expr_184 rfl (lv_at hl 3 rfl) ?_
                refine pf_get (v := .ref (g.lk M 12)) (C := "BigRunnerModel") (T := FT10) (N := 45) hx hb (hw10 hB _) (fun _ h9 => h9) hown hK hP (lo_in hL t_M (by decide)) e125 rfl 12 (by decide) (wd_959 hB _) rfl d_M_expr_185 ?_
                refine lv_aload_n hx hb d_M_expr_188 rfl (lv_at hl 3 rfl) ?_
                refine pf_get (v := .int (nI wt_112)) (C := "BigRunnerModel") (T := FT10) (N := 45) hx hb (hw10 hB _) (fun _ h9 => h9) hown hK hP (lo_in hL t_M (by decide)) e125 rfl 13 (by decide) (wd_960 hB _) rfl d_M_expr_189 ?_
                refine lv_iload_n hx hb d_M_expr_192 rfl (lv_at hl 0 rfl) ?_
                refine pf_cast (i := wt_112) hx hb hK hP hD hS (lo_in hL (lo_k11_12 hL _ t_M) (by decide)) e17 (lo_t46 hL _ (lo_k11_12 hL _ t_M)) (by omega) (by decide) d_M_expr_193 (fun f128 H locs e129 k130 hP hD hS => ?_)
                have eT := (k130 (g.lk M 1) (tg_ne (lo_k11_1 hL _ t_M) (lo_k11_12 hL _ t_M) (by decide))).trans eT
                have e125 := (k130 M (tg_ne t_M (lo_k11_12 hL _ t_M) (by decide))).trans e125
                have e126 := (k130 (g.lk M 3) (tg_ne (lo_k11_3 hL _ t_M) (lo_k11_12 hL _ t_M) (by decide))).trans e126
                have e127 := (k130 (g.lk M 4) (tg_ne (lo_k11_4 hL _ t_M) (lo_k11_12 hL _ t_M) (by decide))).trans e127
                have hu := hu.st k130 (lo_k11_12 hL _ t_M) (by decide)
                have hv19 := hv19.st k130 (lo_k11_12 hL _ t_M) (by decide)
                have hk131 : ∀ b, b ≠ (g.lk M 12) → f128 b = f107 b := k130
                refine lv_aload_n hx hb d_M_expr_194 rfl (lv_at hl 3 rfl) ?_
                refine lv_dup hx hb d_M_expr_195 rfl ?_
                refine pf_get (v := .int (nI wt_112)) (C := "BigRunnerModel") (T := FT10) (N := 45) hx hb (hw10 hB _) (fun _ h9 => h9) hown hK hP (lo_in hL t_M (by decide)) e125 rfl 13 (by decide) (wd_960 hB _) rfl d_M_expr_196 ?_
                refine lv_iconst (v := nI 1) hx hb d_M_expr_199 (by decide) ?_
                refine pf_iaddN (x := wt_112) (y := 1) hx hb d_M_expr_200 ?_
                have hI132 := iv_1 hI1_110 hL (lo_k11_12 hL _ t_M) (by decide) hk131 (oc_46.mk (lo_k11_12 hL _ t_M) (⟨_, e129⟩))
                refine pf_put (v := .int (nI (wt_112 + 1))) (ty := .int) (fs' := [.int mth, .ref (g.lk M 1), .int (nI mn), .ref (g.lk M 3), .ref (g.lk M 4), .int (nI dr_113), .ref (g.lk M 6), .ref (g.lk M 7), .ref (g.lk M 8), .int (nI msz), .int (nI i8), .int (nI p8), .ref (g.lk M 12), .int (nI (wt_112 + 1)), .ref (g.lk M 14), .ref (g.lk M 15), .int (nI mop), .ref (g.lk M 17), .ref (g.lk M 18), .ref (g.lk M 19), .ref (g.lk M 20), .ref (g.lk M 21), .ref (g.lk M 22), .ref (g.lk M 23), .ref (g.lk M 24), .ref (g.lk M 25), .ref (g.lk M 26), .ref (g.lk M 27), .ref (g.lk M 28), .ref (g.lk M 29), .ref (g.lk M 30), .ref (g.lk M 31), .int (nI mtp), .ref (g.lk M 33), .ref (g.lk M 34), .ref (g.lk M 35), .int (nI mwa), .int (nI mgi), .int (nI mpc), .int (nI mst), .int (nI mtr), .int (nI msp), .int mma, .int mlg, .int mdu]) (C := "BigRunnerModel") (T := FT10) (N := 45) hx hb (hw10 hB _) (fun _ h9 => h9) TY10 ok10 nm10 hown hK hP hD hS (lo_in hL t_M (by decide)) e125 rfl 13 (by decide) (wd_960 hB _) rfl (by decide +kernel) rfl rfl (Nat.le_of_ble_eq_true rfl) rfl d_M_expr_201 (fun f133 H locs e134 k135 hP hD hS => ?_)
                have eT := (k135 (g.lk M 1) (tg_ne (lo_k11_1 hL _ t_M) t_M (by decide))).trans eT
                have e126 := (k135 (g.lk M 3) (tg_ne (lo_k11_3 hL _ t_M) t_M (by decide))).trans e126
                have e127 := (k135 (g.lk M 4) (tg_ne (lo_k11_4 hL _ t_M) t_M (by decide))).trans e127
                have e129 := (k135 (g.lk M 12) (tg_ne (lo_k11_12 hL _ t_M) t_M (by decide))).trans e129
                have hu := hu.st k135 t_M (by decide)
                have hv19 := hv19.st k135 t_M (by decide)
                have hk136 : ∀ b, b ≠ M → f133 b = f128 b := k135
                refine lv_aload_n hx hb d_M_expr_204 rfl (lv_at hl 3 rfl) ?_
                refine lv_dup hx hb d_M_expr_205 rfl ?_
                refine pf_get (v := .int (nI i8)) (C := "BigRunnerModel") (T := FT10) (N := 45) hx hb (hw10 hB _) (fun _ h9 => h9) hown hK hP (lo_in hL t_M (by decide)) e134 rfl 10 (by decide) (wd_957 hB _) rfl d_M_expr_206 ?_
                refine lv_iconst (v := nI 1) hx hb d_M_expr_209 (by decide) ?_
                refine pf_iaddN (x := i8) (y := 1) hx hb d_M_expr_210 ?_
                refine pf_put (v := .int (nI (i8 + 1))) (ty := .int) (fs' := [.int mth, .ref (g.lk M 1), .int (nI mn), .ref (g.lk M 3), .ref (g.lk M 4), .int (nI dr_113), .ref (g.lk M 6), .ref (g.lk M 7), .ref (g.lk M 8), .int (nI msz), .int (nI (i8 + 1)), .int (nI p8), .ref (g.lk M 12), .int (nI (wt_112 + 1)), .ref (g.lk M 14), .ref (g.lk M 15), .int (nI mop), .ref (g.lk M 17), .ref (g.lk M 18), .ref (g.lk M 19), .ref (g.lk M 20), .ref (g.lk M 21), .ref (g.lk M 22), .ref (g.lk M 23), .ref (g.lk M 24), .ref (g.lk M 25), .ref (g.lk M 26), .ref (g.lk M 27), .ref (g.lk M 28), .ref (g.lk M 29), .ref (g.lk M 30), .ref (g.lk M 31), .int (nI mtp), .ref (g.lk M 33), .ref (g.lk M 34), .ref (g.lk M 35), .int (nI mwa), .int (nI mgi), .int (nI mpc), .int (nI mst), .int (nI mtr), .int (nI msp), .int mma, .int mlg, .int mdu]) (C := "BigRunnerModel") (T := FT10) (N := 45) hx hb (hw10 hB _) (fun _ h9 => h9) TY10 ok10 nm10 hown hK hP hD hS (lo_in hL t_M (by decide)) e134 rfl 10 (by decide) (wd_957 hB _) rfl (by decide +kernel) rfl rfl (Nat.le_of_ble_eq_true rfl) rfl d_M_expr_211 (fun f137 H locs e138 k139 hP hD hS => ?_)
                have eT := (k139 (g.lk M 1) (tg_ne (lo_k11_1 hL _ t_M) t_M (by decide))).trans eT
                have e126 := (k139 (g.lk M 3) (tg_ne (lo_k11_3 hL _ t_M) t_M (by decide))).trans e126
                have e127 := (k139 (g.lk M 4) (tg_ne (lo_k11_4 hL _ t_M) t_M (by decide))).trans e127
                have e129 := (k139 (g.lk M 12) (tg_ne (lo_k11_12 hL _ t_M) t_M (by decide))).trans e129
                have hu := hu.st k139 t_M (by decide)
                have hv19 := hv19.st k139 t_M (by decide)
                have hk140 : ∀ b, b ≠ M → f137 b = f128 b := fun b q0 => (k139 b q0).trans (hk136 b q0)
                refine lv_iconst (v := nI 1) hx hb d_M_expr_214 (by decide) ?_
                refine lv_istore_n (lv' := [(1, .int (nI 1)), (3, .int (nxm hT mn i8)), (2, .int (nI 1)), (0, .ref M)]) hx hb d_M_expr_215 rfl hl (by decide) rfl (fun ls hl => ?_)
                refine lv_goto (tgt := 281) hx hb d_M_expr_216 (by decide) ?_
                refine lv_goto (tgt := 9) hx hb d_M_expr_281 (by decide) ?_
                have hI141 := iv_1 hI132 hL t_M (by decide) hk140 (oc_11.mk t_M (⟨mth, mn, dr_113, msz, (i8 + 1), p8, (wt_112 + 1), mop, mtp, mwa, mgi, mpc, mst, mtr, msp, mma, mlg, mdu, e138, (by omega), (by omega), (by omega), (by omega), (by omega), (by omega), (by omega), (by omega), (by omega), (by omega), (by omega), (by omega), (by omega), (by omega), hmb14⟩))
                have hl : lv_has ls 4 [(2, .int (nI 1)), (1, .int (nI 1)), (0, .ref M)] := lv_sub hl [2, 0, 3] rfl
                exact ih12 1 (i8 + 1) (wt_112 + 1) p8 dr_113 (upd hW8 wt_112 (vp_nar .char ((nxm hT mn i8)))) d_114 g_115 Fw f137 H locs ls (by omega) (by omega) (by omega) (by omega) (by omega) (by omega) (OKW_put (OKW_le hok (by omega)) (by rw [hnar]; exact Or.inr (Or.inr (hk12.elim Or.inl (fun z => Or.inr (Or.inl z)))))) (by rw [wll_upd, hwx, cbr_c, if_neg (by decide)]; omega) (by omega) (by rw [wll_upd, hwx]; exact EI_1 (n8t_x (by decide) (by decide) c119) (by rw [nbS_c, if_neg (by decide)]; omega)) (hpy1.trans (by rw [py_eF, if_pos hk12t, wll_upd, hwx, c118]; rfl)) (by omega) c122 (smd_tr (smd_le c123 (by omega)) hsd) (smd_tr (smd_le c124 (by omega)) hsg) e138 e126 e127 e129 hI141 hv19 hl hP hD hS
              · skip
                replace b105 := mt (nI_leI (a := kr104) (b := 3) (by omega) (by omega)).mpr b105
                refine lv_iconst (v := nI 2) hx hb d_M_expr_176 (by decide) ?_
                refine lv_goto (tgt := 181) hx hb d_M_expr_177 (by decide) ?_
                have hk3 := ko_3 hkr104_1 (by omega)
                have hk3t : tk hT mn i8 = 3 := (tkm hT mn i8).symm.trans hk3
                have hl9 : i8 < mn := tk_in (h := hT) (by omega)
                have hnar := nxm_nar (i := i8) cT hmb0
                have hwx : wcc (vp_nar .char (nxm hT mn i8)) = 3 := by rw [hnar]; exact wcc_3 hk3
                refine pcc_v (va_runV (C := "BigRunnerModel") (As := [.int (nI 2)]) (rest := []) ⟨hx, hb, hml, hown, tb_nil⟩ (m_release l g H.size f10 M mth mn r8 msz i8 p8 t8 mop mtp mwa mgi mpc mst mtr msp mma mlg mdu d8 g8 hW8 mdr 2 hL t_M hI18 e14 ⟨(by omega), (by omega), (by omega), (by omega), (by omega), (by omega), (by omega), (by omega), (by omega), (by omega), (by omega), (by omega), (by omega), (by omega), hmb14⟩ e15 e16 e17 (by omega) (by omega) e2 e1 hok hgc) ⟨(callB_of 1 (tb_one (wd_1140 hB _)) tb_good1 rfl rfl rfl (wd_82 hB _) (wd_1137 hB _) (by decide +kernel) ⟨Nat.le_of_ble_eq_true rfl, Nat.le_of_ble_eq_true rfl⟩), (wd_1139 hB _), (wd_48 hB _)⟩ ⟨pe_bl, pg_recv (ci := 10) hK hP (lo_in hL t_M (by decide)) e14 rfl, pe_pre hB hK hP hD⟩ rfl rfl hl.1 rfl (lv_room (Nat.le_of_ble_eq_true rfl)) d_M_expr_181 ⟨Nat.le_of_ble_eq_true rfl, Nat.le_of_ble_eq_true rfl⟩) hS (fun f143 H locs hq144 hP hD hS => ?_)
                obtain ⟨x1_145, hI1_146, hu1_147⟩ := hq144
                have hu := hu.tr hu1_147 (by decide)
                have hv19 := hv19.tr hu1_147 (by decide)
                have eT := hu1_147.at (lo_k11_1 hL _ t_M) (by decide) eT
                have e17 := hu1_147.at (lo_k11_12 hL _ t_M) (by decide) e17
                obtain ⟨wt_148, dr_149, d_150, g_151, c152, c153, c154, c155, c156, c157, c158, c159, c160, e161, e162, e163⟩ := x1_145
                refine lv_aload_n hx hb d_M_expr_184 rfl (lv_at hl 3 rfl) ?_
                refine pf_get (v := .ref (g.lk M 12)) (C := "BigRunnerModel") (T := FT10) (N := 45) hx hb (hw10 hB _) (fun _ h9 => h9) hown hK hP (lo_in hL t_M (by decide)) e161 rfl 12 (by decide) (wd_959 hB _) rfl d_M_expr_185 ?_
                refine lv_aload_n hx hb d_M_expr_188 rfl (lv_at hl 3 rfl) ?_
                refine pf_get (v := .int (nI wt_148)) (C := "BigRunnerModel") (T := FT10) (N := 45) hx hb (hw10 hB _) (fun _ h9 => h9) hown hK hP (lo_in hL t_M (by decide)) e161 rfl 13 (by decide) (wd_960 hB _) rfl d_M_expr_189 ?_
                refine lv_iload_n hx hb d_M_expr_192 rfl (lv_at hl 0 rfl) ?_
                refine pf_cast (i := wt_148) hx hb hK hP hD hS (lo_in hL (lo_k11_12 hL _ t_M) (by decide)) e17 (lo_t46 hL _ (lo_k11_12 hL _ t_M)) (by omega) (by decide) d_M_expr_193 (fun f164 H locs e165 k166 hP hD hS => ?_)
                have eT := (k166 (g.lk M 1) (tg_ne (lo_k11_1 hL _ t_M) (lo_k11_12 hL _ t_M) (by decide))).trans eT
                have e161 := (k166 M (tg_ne t_M (lo_k11_12 hL _ t_M) (by decide))).trans e161
                have e162 := (k166 (g.lk M 3) (tg_ne (lo_k11_3 hL _ t_M) (lo_k11_12 hL _ t_M) (by decide))).trans e162
                have e163 := (k166 (g.lk M 4) (tg_ne (lo_k11_4 hL _ t_M) (lo_k11_12 hL _ t_M) (by decide))).trans e163
                have hu := hu.st k166 (lo_k11_12 hL _ t_M) (by decide)
                have hv19 := hv19.st k166 (lo_k11_12 hL _ t_M) (by decide)
                have hk167 : ∀ b, b ≠ (g.lk M 12) → f164 b = f143 b := k166
                refine lv_aload_n hx hb d_M_expr_194 rfl (lv_at hl 3 rfl) ?_
                refine lv_dup hx hb d_M_expr_195 rfl ?_
                refine pf_get (v := .int (nI wt_148)) (C := "BigRunnerModel") (T := FT10) (N := 45) hx hb (hw10 hB _) (fun _ h9 => h9) hown hK hP (lo_in hL t_M (by decide)) e161 rfl 13 (by decide) (wd_960 hB _) rfl d_M_expr_196 ?_
                refine lv_iconst (v := nI 1) hx hb d_M_expr_199 (by decide) ?_
                refine pf_iaddN (x := wt_148) (y := 1) hx hb d_M_expr_200 ?_
                have hI168 := iv_1 hI1_146 hL (lo_k11_12 hL _ t_M) (by decide) hk167 (oc_46.mk (lo_k11_12 hL _ t_M) (⟨_, e165⟩))
                refine pf_put (v := .int (nI (wt_148 + 1))) (ty := .int) (fs' := [.int mth, .ref (g.lk M 1), .int (nI mn), .ref (g.lk M 3), .ref (g.lk M 4), .int (nI dr_149), .ref (g.lk M 6), .ref (g.lk M 7), .ref (g.lk M 8), .int (nI msz), .int (nI i8), .int (nI p8), .ref (g.lk M 12), .int (nI (wt_148 + 1)), .ref (g.lk M 14), .ref (g.lk M 15), .int (nI mop), .ref (g.lk M 17), .ref (g.lk M 18), .ref (g.lk M 19), .ref (g.lk M 20), .ref (g.lk M 21), .ref (g.lk M 22), .ref (g.lk M 23), .ref (g.lk M 24), .ref (g.lk M 25), .ref (g.lk M 26), .ref (g.lk M 27), .ref (g.lk M 28), .ref (g.lk M 29), .ref (g.lk M 30), .ref (g.lk M 31), .int (nI mtp), .ref (g.lk M 33), .ref (g.lk M 34), .ref (g.lk M 35), .int (nI mwa), .int (nI mgi), .int (nI mpc), .int (nI mst), .int (nI mtr), .int (nI msp), .int mma, .int mlg, .int mdu]) (C := "BigRunnerModel") (T := FT10) (N := 45) hx hb (hw10 hB _) (fun _ h9 => h9) TY10 ok10 nm10 hown hK hP hD hS (lo_in hL t_M (by decide)) e161 rfl 13 (by decide) (wd_960 hB _) rfl (by decide +kernel) rfl rfl (Nat.le_of_ble_eq_true rfl) rfl d_M_expr_201 (fun f169 H locs e170 k171 hP hD hS => ?_)
                have eT := (k171 (g.lk M 1) (tg_ne (lo_k11_1 hL _ t_M) t_M (by decide))).trans eT
                have e162 := (k171 (g.lk M 3) (tg_ne (lo_k11_3 hL _ t_M) t_M (by decide))).trans e162
                have e163 := (k171 (g.lk M 4) (tg_ne (lo_k11_4 hL _ t_M) t_M (by decide))).trans e163
                have e165 := (k171 (g.lk M 12) (tg_ne (lo_k11_12 hL _ t_M) t_M (by decide))).trans e165
                have hu := hu.st k171 t_M (by decide)
                have hv19 := hv19.st k171 t_M (by decide)
                have hk172 : ∀ b, b ≠ M → f169 b = f164 b := k171
                refine lv_aload_n hx hb d_M_expr_204 rfl (lv_at hl 3 rfl) ?_
                refine lv_dup hx hb d_M_expr_205 rfl ?_
                refine pf_get (v := .int (nI i8)) (C := "BigRunnerModel") (T := FT10) (N := 45) hx hb (hw10 hB _) (fun _ h9 => h9) hown hK hP (lo_in hL t_M (by decide)) e170 rfl 10 (by decide) (wd_957 hB _) rfl d_M_expr_206 ?_
                refine lv_iconst (v := nI 1) hx hb d_M_expr_209 (by decide) ?_
                refine pf_iaddN (x := i8) (y := 1) hx hb d_M_expr_210 ?_
                refine pf_put (v := .int (nI (i8 + 1))) (ty := .int) (fs' := [.int mth, .ref (g.lk M 1), .int (nI mn), .ref (g.lk M 3), .ref (g.lk M 4), .int (nI dr_149), .ref (g.lk M 6), .ref (g.lk M 7), .ref (g.lk M 8), .int (nI msz), .int (nI (i8 + 1)), .int (nI p8), .ref (g.lk M 12), .int (nI (wt_148 + 1)), .ref (g.lk M 14), .ref (g.lk M 15), .int (nI mop), .ref (g.lk M 17), .ref (g.lk M 18), .ref (g.lk M 19), .ref (g.lk M 20), .ref (g.lk M 21), .ref (g.lk M 22), .ref (g.lk M 23), .ref (g.lk M 24), .ref (g.lk M 25), .ref (g.lk M 26), .ref (g.lk M 27), .ref (g.lk M 28), .ref (g.lk M 29), .ref (g.lk M 30), .ref (g.lk M 31), .int (nI mtp), .ref (g.lk M 33), .ref (g.lk M 34), .ref (g.lk M 35), .int (nI mwa), .int (nI mgi), .int (nI mpc), .int (nI mst), .int (nI mtr), .int (nI msp), .int mma, .int mlg, .int mdu]) (C := "BigRunnerModel") (T := FT10) (N := 45) hx hb (hw10 hB _) (fun _ h9 => h9) TY10 ok10 nm10 hown hK hP hD hS (lo_in hL t_M (by decide)) e170 rfl 10 (by decide) (wd_957 hB _) rfl (by decide +kernel) rfl rfl (Nat.le_of_ble_eq_true rfl) rfl d_M_expr_211 (fun f173 H locs e174 k175 hP hD hS => ?_)
                have eT := (k175 (g.lk M 1) (tg_ne (lo_k11_1 hL _ t_M) t_M (by decide))).trans eT
                have e162 := (k175 (g.lk M 3) (tg_ne (lo_k11_3 hL _ t_M) t_M (by decide))).trans e162
                have e163 := (k175 (g.lk M 4) (tg_ne (lo_k11_4 hL _ t_M) t_M (by decide))).trans e163
                have e165 := (k175 (g.lk M 12) (tg_ne (lo_k11_12 hL _ t_M) t_M (by decide))).trans e165
                have hu := hu.st k175 t_M (by decide)
                have hv19 := hv19.st k175 t_M (by decide)
                have hk176 : ∀ b, b ≠ M → f173 b = f164 b := fun b q0 => (k175 b q0).trans (hk172 b q0)
                refine lv_iconst (v := nI 1) hx hb d_M_expr_214 (by decide) ?_
                refine lv_istore_n (lv' := [(1, .int (nI 1)), (3, .int (nxm hT mn i8)), (2, .int (nI 1)), (0, .ref M)]) hx hb d_M_expr_215 rfl hl (by decide) rfl (fun ls hl => ?_)
                refine lv_goto (tgt := 281) hx hb d_M_expr_216 (by decide) ?_
                refine lv_goto (tgt := 9) hx hb d_M_expr_281 (by decide) ?_
                have hI177 := iv_1 hI168 hL t_M (by decide) hk176 (oc_11.mk t_M (⟨mth, mn, dr_149, msz, (i8 + 1), p8, (wt_148 + 1), mop, mtp, mwa, mgi, mpc, mst, mtr, msp, mma, mlg, mdu, e174, (by omega), (by omega), (by omega), (by omega), (by omega), (by omega), (by omega), (by omega), (by omega), (by omega), (by omega), (by omega), (by omega), (by omega), hmb14⟩))
                have hl : lv_has ls 4 [(2, .int (nI 1)), (1, .int (nI 1)), (0, .ref M)] := lv_sub hl [2, 0, 3] rfl
                exact ih12 1 (i8 + 1) (wt_148 + 1) p8 dr_149 (upd hW8 wt_148 (vp_nar .char ((nxm hT mn i8)))) d_150 g_151 Fw f173 H locs ls (by omega) (by omega) (by omega) (by omega) (by omega) (by omega) (OKW_put (OKW_le hok (by omega)) (by rw [hnar]; exact Or.inr (Or.inr (Or.inr (Or.inr hk3))))) (by rw [wll_upd, hwx, cbr_c, if_neg (by decide)]; omega) (by omega) (by rw [wll_upd, hwx]; exact EI_1 (n8t_x (by decide) (by decide) c155) (by rw [nbS_c, if_neg (by decide)]; omega)) (hpy1.trans (by rw [py_eF, if_neg (by omega), if_pos hk3t, wll_upd, hwx, c154]; rfl)) (by omega) c158 (smd_tr (smd_le c159 (by omega)) hsd) (smd_tr (smd_le c160 (by omega)) hsg) e174 e162 e163 e165 hI177 hv19 hl hP hD hS
          · skip
            replace b25 := mt (nI_eq (a := 0) (b := 0) (by omega) (by omega)).mpr b25
            exfalso; omega
      · skip
        have hl : lv_has ls 4 [(2, .int (nI 1)), (1, .int (nI 1)), (0, .ref M)] := hl
        obtain ⟨e1, e2⟩ := hei.1 rfl
        have hpy1 : py_e (tk hT mn) 400 mix [] mdp true = py_e (tk hT mn) (Fw + 1) i8 (wll hW8 t8) p8 true := hpy
        refine lv_iload_n hx hb d_M_expr_9 rfl (lv_at hl 0 rfl) ?_
        refine lv_if_eq (tgt := 284) hx hb d_M_expr_10 (by decide) (fun b178 => ?_) (fun b178 => ?_)
        · skip
          replace b178 := (nI_eq (a := 1) (b := 0) (by omega) (by omega)).mp b178
          exfalso; omega
        · skip
          replace b178 := mt (nI_eq (a := 1) (b := 0) (by omega) (by omega)).mpr b178
          refine lv_aload_n hx hb d_M_expr_13 rfl (lv_at hl 2 rfl) ?_
          refine pcc_i (va_runV (C := "BigRunnerModel") (As := []) (rest := []) ⟨hx, hb, hml, hown, tb_nil⟩ (m_here l g H.size f10 M mth mn r8 msz i8 p8 t8 mop mtp mwa mgi mpc mst mtr msp mma mlg mdu hT hL t_M hI18.1 e14 ⟨(by omega), (by omega), (by omega), (by omega), (by omega), (by omega), (by omega), (by omega), (by omega), (by omega), (by omega), (by omega), (by omega), (by omega), hmb14⟩ eT cT) ⟨(callB_of 0 (tb_one (wd_1111 hB _)) tb_good1 rfl rfl rfl (wd_82 hB _) (wd_1108 hB _) (by decide +kernel) ⟨Nat.le_of_ble_eq_true rfl, Nat.le_of_ble_eq_true rfl⟩), (wd_1110 hB _), (wd_43 hB _)⟩ ⟨pe_bl, pg_recv (ci := 10) hK hP (lo_in hL t_M (by decide)) e14 rfl, pe_pre hB hK hP hD⟩ rfl rfl hl.1 rfl (lv_room (Nat.le_of_ble_eq_true rfl)) d_M_expr_14 ⟨Nat.le_of_ble_eq_true rfl, Nat.le_of_ble_eq_true rfl⟩) hS (fun r179 f180 H locs hq181 hP hD hS => ?_)
          obtain ⟨nx_182, rfl⟩ := hq181
          subst nx_182
          refine lv_istore_n (lv' := [(3, .int (nxm hT mn i8)), (2, .int (nI 1)), (1, .int (nI 1)), (0, .ref M)]) hx hb d_M_expr_17 rfl hl (by decide) rfl (fun ls hl => ?_)
          refine lv_iload_n hx hb d_M_expr_18 rfl (lv_at hl 2 rfl) ?_
          refine lv_if_eq (tgt := 160) hx hb d_M_expr_19 (by decide) (fun b183 => ?_) (fun b183 => ?_)
          · skip
            replace b183 := (nI_eq (a := 1) (b := 0) (by omega) (by omega)).mp b183
            exfalso; omega
          · skip
            replace b183 := mt (nI_eq (a := 1) (b := 0) (by omega) (by omega)).mpr b183
            refine lv_iload_n hx hb d_M_expr_22 rfl (lv_at hl 0 rfl) ?_
            refine lv_bipush (v := nI 45) hx hb d_M_expr_23 (by decide) ?_
            refine lv_icmp_eq (tgt := 34) hx hb d_M_expr_25 (by decide) (fun b184 => ?_) (fun b184 => ?_)
            · skip
              have hkc : tk hT mn i8 = 2 := (tkm hT mn i8).symm.trans (kc_2.mpr b184)
              have hl9 : i8 < mn := tk_in (h := hT) (by omega)
              refine lv_aload_n hx hb d_M_expr_34 rfl (lv_at hl 3 rfl) ?_
              refine lv_dup hx hb d_M_expr_35 rfl ?_
              refine pf_get (v := .int (nI p8)) (C := "BigRunnerModel") (T := FT10) (N := 45) hx hb (hw10 hB _) (fun _ h9 => h9) hown hK hP (lo_in hL t_M (by decide)) e14 rfl 11 (by decide) (wd_958 hB _) rfl d_M_expr_36 ?_
              refine lv_iconst (v := nI 1) hx hb d_M_expr_39 (by decide) ?_
              refine pf_iaddN (x := p8) (y := 1) hx hb d_M_expr_40 ?_
              refine pf_put (v := .int (nI (p8 + 1))) (ty := .int) (fs' := [.int mth, .ref (g.lk M 1), .int (nI mn), .ref (g.lk M 3), .ref (g.lk M 4), .int (nI r8), .ref (g.lk M 6), .ref (g.lk M 7), .ref (g.lk M 8), .int (nI msz), .int (nI i8), .int (nI (p8 + 1)), .ref (g.lk M 12), .int (nI t8), .ref (g.lk M 14), .ref (g.lk M 15), .int (nI mop), .ref (g.lk M 17), .ref (g.lk M 18), .ref (g.lk M 19), .ref (g.lk M 20), .ref (g.lk M 21), .ref (g.lk M 22), .ref (g.lk M 23), .ref (g.lk M 24), .ref (g.lk M 25), .ref (g.lk M 26), .ref (g.lk M 27), .ref (g.lk M 28), .ref (g.lk M 29), .ref (g.lk M 30), .ref (g.lk M 31), .int (nI mtp), .ref (g.lk M 33), .ref (g.lk M 34), .ref (g.lk M 35), .int (nI mwa), .int (nI mgi), .int (nI mpc), .int (nI mst), .int (nI mtr), .int (nI msp), .int mma, .int mlg, .int mdu]) (C := "BigRunnerModel") (T := FT10) (N := 45) hx hb (hw10 hB _) (fun _ h9 => h9) TY10 ok10 nm10 hown hK hP hD hS (lo_in hL t_M (by decide)) e14 rfl 11 (by decide) (wd_958 hB _) rfl (by decide +kernel) rfl rfl (Nat.le_of_ble_eq_true rfl) rfl d_M_expr_41 (fun f185 H locs e186 k187 hP hD hS => ?_)
              have eT := (k187 (g.lk M 1) (tg_ne (lo_k11_1 hL _ t_M) t_M (by decide))).trans eT
              have e15 := (k187 (g.lk M 3) (tg_ne (lo_k11_3 hL _ t_M) t_M (by decide))).trans e15
              have e16 := (k187 (g.lk M 4) (tg_ne (lo_k11_4 hL _ t_M) t_M (by decide))).trans e16
              have e17 := (k187 (g.lk M 12) (tg_ne (lo_k11_12 hL _ t_M) t_M (by decide))).trans e17
              have hu := hu.st k187 t_M (by decide)
              have hv19 := hv19.st k187 t_M (by decide)
              have hk188 : ∀ b, b ≠ M → f185 b = f10 b := k187
              refine lv_aload_n hx hb d_M_expr_44 rfl (lv_at hl 3 rfl) ?_
              refine pf_get (v := .int (nI (p8 + 1))) (C := "BigRunnerModel") (T := FT10) (N := 45) hx hb (hw10 hB _) (fun _ h9 => h9) hown hK hP (lo_in hL t_M (by decide)) e186 rfl 11 (by decide) (wd_958 hB _) rfl d_M_expr_45 ?_
              refine lv_bipush (v := nI 10) hx hb d_M_expr_48 (by decide) ?_
              refine lv_icmp_le (tgt := 55) hx hb d_M_expr_50 (by decide) (fun b189 => ?_) (fun b189 => ?_)
              · skip
                replace b189 := (nI_leI (a := p8 + 1) (b := 10) (by omega) (by omega)).mp b189
                refine lv_aload_n hx hb d_M_expr_55 rfl (lv_at hl 3 rfl) ?_
                refine pf_get (v := .ref (g.lk M 12)) (C := "BigRunnerModel") (T := FT10) (N := 45) hx hb (hw10 hB _) (fun _ h9 => h9) hown hK hP (lo_in hL t_M (by decide)) e186 rfl 12 (by decide) (wd_959 hB _) rfl d_M_expr_56 ?_
                refine lv_aload_n hx hb d_M_expr_59 rfl (lv_at hl 3 rfl) ?_
                refine pf_get (v := .int (nI t8)) (C := "BigRunnerModel") (T := FT10) (N := 45) hx hb (hw10 hB _) (fun _ h9 => h9) hown hK hP (lo_in hL t_M (by decide)) e186 rfl 13 (by decide) (wd_960 hB _) rfl d_M_expr_60 ?_
                refine lv_iload_n hx hb d_M_expr_63 rfl (lv_at hl 0 rfl) ?_
                refine lv_bipush (v := nI 45) hx hb d_M_expr_64 (by decide) ?_
                refine lv_icmp_ne (tgt := 74) hx hb d_M_expr_66 (by decide) (fun b190 => ?_) (fun b190 => ?_)
                · skip
                  exact absurd b184 b190
                · skip
                  refine lv_bipush (v := nI 117) hx hb d_M_expr_69 (by decide) ?_
                  refine lv_goto (tgt := 76) hx hb d_M_expr_71 (by decide) ?_
                  have hI191 := iv_1 hI18 hL t_M (by decide) hk188 (oc_11.mk t_M (⟨mth, mn, r8, msz, i8, (p8 + 1), t8, mop, mtp, mwa, mgi, mpc, mst, mtr, msp, mma, mlg, mdu, e186, (by omega), (by omega), (by omega), (by omega), (by omega), (by omega), (by omega), (by omega), (by omega), (by omega), (by omega), (by omega), (by omega), (by omega), hmb14⟩))
                  refine pf_cast (i := t8) hx hb hK hP hD hS (lo_in hL (lo_k11_12 hL _ t_M) (by decide)) e17 (lo_t46 hL _ (lo_k11_12 hL _ t_M)) (by omega) (by decide) d_M_expr_76 (fun f192 H locs e193 k194 hP hD hS => ?_)
                  have eT := (k194 (g.lk M 1) (tg_ne (lo_k11_1 hL _ t_M) (lo_k11_12 hL _ t_M) (by decide))).trans eT
                  have e15 := (k194 (g.lk M 3) (tg_ne (lo_k11_3 hL _ t_M) (lo_k11_12 hL _ t_M) (by decide))).trans e15
                  have e16 := (k194 (g.lk M 4) (tg_ne (lo_k11_4 hL _ t_M) (lo_k11_12 hL _ t_M) (by decide))).trans e16
                  have e186 := (k194 M (tg_ne t_M (lo_k11_12 hL _ t_M) (by decide))).trans e186
                  have hu := hu.st k194 (lo_k11_12 hL _ t_M) (by decide)
                  have hv19 := hv19.st k194 (lo_k11_12 hL _ t_M) (by decide)
                  have hk195 : ∀ b, b ≠ (g.lk M 12) → f192 b = f185 b := k194
                  refine lv_aload_n hx hb d_M_expr_77 rfl (lv_at hl 3 rfl) ?_
                  refine lv_dup hx hb d_M_expr_78 rfl ?_
                  refine pf_get (v := .int (nI t8)) (C := "BigRunnerModel") (T := FT10) (N := 45) hx hb (hw10 hB _) (fun _ h9 => h9) hown hK hP (lo_in hL t_M (by decide)) e186 rfl 13 (by decide) (wd_960 hB _) rfl d_M_expr_79 ?_
                  refine lv_iconst (v := nI 1) hx hb d_M_expr_82 (by decide) ?_
                  refine pf_iaddN (x := t8) (y := 1) hx hb d_M_expr_83 ?_
                  have hI196 := iv_1 hI191 hL (lo_k11_12 hL _ t_M) (by decide) hk195 (oc_46.mk (lo_k11_12 hL _ t_M) (⟨_, e193⟩))
                  refine pf_put (v := .int (nI (t8 + 1))) (ty := .int) (fs' := [.int mth, .ref (g.lk M 1), .int (nI mn), .ref (g.lk M 3), .ref (g.lk M 4), .int (nI r8), .ref (g.lk M 6), .ref (g.lk M 7), .ref (g.lk M 8), .int (nI msz), .int (nI i8), .int (nI (p8 + 1)), .ref (g.lk M 12), .int (nI (t8 + 1)), .ref (g.lk M 14), .ref (g.lk M 15), .int (nI mop), .ref (g.lk M 17), .ref (g.lk M 18), .ref (g.lk M 19), .ref (g.lk M 20), .ref (g.lk M 21), .ref (g.lk M 22), .ref (g.lk M 23), .ref (g.lk M 24), .ref (g.lk M 25), .ref (g.lk M 26), .ref (g.lk M 27), .ref (g.lk M 28), .ref (g.lk M 29), .ref (g.lk M 30), .ref (g.lk M 31), .int (nI mtp), .ref (g.lk M 33), .ref (g.lk M 34), .ref (g.lk M 35), .int (nI mwa), .int (nI mgi), .int (nI mpc), .int (nI mst), .int (nI mtr), .int (nI msp), .int mma, .int mlg, .int mdu]) (C := "BigRunnerModel") (T := FT10) (N := 45) hx hb (hw10 hB _) (fun _ h9 => h9) TY10 ok10 nm10 hown hK hP hD hS (lo_in hL t_M (by decide)) e186 rfl 13 (by decide) (wd_960 hB _) rfl (by decide +kernel) rfl rfl (Nat.le_of_ble_eq_true rfl) rfl d_M_expr_84 (fun f197 H locs e198 k199 hP hD hS => ?_)
                  have eT := (k199 (g.lk M 1) (tg_ne (lo_k11_1 hL _ t_M) t_M (by decide))).trans eT
                  have e15 := (k199 (g.lk M 3) (tg_ne (lo_k11_3 hL _ t_M) t_M (by decide))).trans e15
                  have e16 := (k199 (g.lk M 4) (tg_ne (lo_k11_4 hL _ t_M) t_M (by decide))).trans e16
                  have e193 := (k199 (g.lk M 12) (tg_ne (lo_k11_12 hL _ t_M) t_M (by decide))).trans e193
                  have hu := hu.st k199 t_M (by decide)
                  have hv19 := hv19.st k199 t_M (by decide)
                  have hk200 : ∀ b, b ≠ M → f197 b = f192 b := k199
                  refine lv_aload_n hx hb d_M_expr_87 rfl (lv_at hl 3 rfl) ?_
                  refine lv_dup hx hb d_M_expr_88 rfl ?_
                  refine pf_get (v := .int (nI i8)) (C := "BigRunnerModel") (T := FT10) (N := 45) hx hb (hw10 hB _) (fun _ h9 => h9) hown hK hP (lo_in hL t_M (by decide)) e198 rfl 10 (by decide) (wd_957 hB _) rfl d_M_expr_89 ?_
                  refine lv_iconst (v := nI 1) hx hb d_M_expr_92 (by decide) ?_
                  refine pf_iaddN (x := i8) (y := 1) hx hb d_M_expr_93 ?_
                  refine pf_put (v := .int (nI (i8 + 1))) (ty := .int) (fs' := [.int mth, .ref (g.lk M 1), .int (nI mn), .ref (g.lk M 3), .ref (g.lk M 4), .int (nI r8), .ref (g.lk M 6), .ref (g.lk M 7), .ref (g.lk M 8), .int (nI msz), .int (nI (i8 + 1)), .int (nI (p8 + 1)), .ref (g.lk M 12), .int (nI (t8 + 1)), .ref (g.lk M 14), .ref (g.lk M 15), .int (nI mop), .ref (g.lk M 17), .ref (g.lk M 18), .ref (g.lk M 19), .ref (g.lk M 20), .ref (g.lk M 21), .ref (g.lk M 22), .ref (g.lk M 23), .ref (g.lk M 24), .ref (g.lk M 25), .ref (g.lk M 26), .ref (g.lk M 27), .ref (g.lk M 28), .ref (g.lk M 29), .ref (g.lk M 30), .ref (g.lk M 31), .int (nI mtp), .ref (g.lk M 33), .ref (g.lk M 34), .ref (g.lk M 35), .int (nI mwa), .int (nI mgi), .int (nI mpc), .int (nI mst), .int (nI mtr), .int (nI msp), .int mma, .int mlg, .int mdu]) (C := "BigRunnerModel") (T := FT10) (N := 45) hx hb (hw10 hB _) (fun _ h9 => h9) TY10 ok10 nm10 hown hK hP hD hS (lo_in hL t_M (by decide)) e198 rfl 10 (by decide) (wd_957 hB _) rfl (by decide +kernel) rfl rfl (Nat.le_of_ble_eq_true rfl) rfl d_M_expr_94 (fun f201 H locs e202 k203 hP hD hS => ?_)
                  have eT := (k203 (g.lk M 1) (tg_ne (lo_k11_1 hL _ t_M) t_M (by decide))).trans eT
                  have e15 := (k203 (g.lk M 3) (tg_ne (lo_k11_3 hL _ t_M) t_M (by decide))).trans e15
                  have e16 := (k203 (g.lk M 4) (tg_ne (lo_k11_4 hL _ t_M) t_M (by decide))).trans e16
                  have e193 := (k203 (g.lk M 12) (tg_ne (lo_k11_12 hL _ t_M) t_M (by decide))).trans e193
                  have hu := hu.st k203 t_M (by decide)
                  have hv19 := hv19.st k203 t_M (by decide)
                  have hk204 : ∀ b, b ≠ M → f201 b = f192 b := fun b q0 => (k203 b q0).trans (hk200 b q0)
                  refine lv_goto (tgt := 281) hx hb d_M_expr_97 (by decide) ?_
                  refine lv_goto (tgt := 9) hx hb d_M_expr_281 (by decide) ?_
                  have hI205 := iv_1 hI196 hL t_M (by decide) hk204 (oc_11.mk t_M (⟨mth, mn, r8, msz, (i8 + 1), (p8 + 1), (t8 + 1), mop, mtp, mwa, mgi, mpc, mst, mtr, msp, mma, mlg, mdu, e202, (by omega), (by omega), (by omega), (by omega), (by omega), (by omega), (by omega), (by omega), (by omega), (by omega), (by omega), (by omega), (by omega), (by omega), hmb14⟩))
                  have hl : lv_has ls 4 [(2, .int (nI 1)), (1, .int (nI 1)), (0, .ref M)] := lv_sub hl [1, 2, 3] rfl
                  exact ih12 1 (i8 + 1) (t8 + 1) (p8 + 1) r8 (upd hW8 t8 (vp_nar .char ((nI 117)))) d8 g8 Fw f201 H locs ls (by omega) (by omega) (by omega) (by omega) (by omega) (by omega) (OKW_put hok (Or.inr (Or.inl (by decide)))) (by rw [wll_upd, show wcc (vp_nar .char (nI 117)) = 8 by decide, cbr_c, if_pos (by decide)]; omega) (by omega) (by rw [wll_upd, show wcc (vp_nar .char (nI 117)) = 8 by decide]; exact EI_1 (n8t_8 e1) (by rw [nbS_c, if_pos (by decide)]; omega)) (hpy1.trans (by rw [py_eT, if_pos (Or.inl hkc), if_neg (by omega), if_pos hkc, wll_upd, show wcc (vp_nar .char (nI 117)) = 8 by decide]; rfl)) (by omega) hgc hsd hsg e202 e15 e16 e193 hI205 hv19 hl hP hD hS
              · skip
                replace b189 := mt (nI_leI (a := p8 + 1) (b := 10) (by omega) (by omega)).mpr b189
                refine lv_iconst (v := nI 0) hx hb d_M_expr_53 (by decide) ?_
                have hI206 := iv_1 hI18 hL t_M (by decide) hk188 (oc_11.mk t_M (⟨mth, mn, r8, msz, i8, (p8 + 1), t8, mop, mtp, mwa, mgi, mpc, mst, mtr, msp, mma, mlg, mdu, e186, (by omega), (by omega), (by omega), (by omega), (by omega), (by omega), (by omega), (by omega), (by omega), (by omega), (by omega), (by omega), (by omega), (by omega), hmb14⟩))
                exact pe_zret hx hb hr hlocks hK hP hD hS d_M_expr_54 rfl ⟨(Or.inr ⟨(hpy1.trans (by rw [py_eT, if_pos (Or.inl hkc), if_pos (by omega)])), ⟨i8, p8 + 1, r8, t8, by omega, by omega, by omega, by omega, e186⟩, rfl⟩), hI206, hu⟩
            · skip
              refine lv_iload_n hx hb d_M_expr_28 rfl (lv_at hl 0 rfl) ?_
              refine lv_bipush (v := nI 40) hx hb d_M_expr_29 (by decide) ?_
              refine lv_icmp_ne (tgt := 100) hx hb d_M_expr_31 (by decide) (fun b207 => ?_) (fun b207 => ?_)
              · skip
                have hk2 : tk hT mn i8 ≠ 2 := fun z => b184 (kc_2.mp ((tkm hT mn i8).trans z))
                have hk4 : tk hT mn i8 ≠ 4 := fun z => b207 (kc_4.mp ((tkm hT mn i8).trans z))
                refine lv_iload_n hx hb d_M_expr_100 rfl (lv_at hl 0 rfl) ?_
                refine pcc_i (va_runS (As := [.int (nxm hT mn i8)]) (rest := []) ⟨hx, hb, hml, hown, tb_nil⟩ (m_isName l g H.size f10 ((nxm hT mn i8)) hL hI18.1) ⟨(callB_of 1 (tb_one (wd_1118 hB _)) tb_good1 rfl rfl rfl (wd_82 hB _) (wd_1116 hB _) (by decide +kernel) ⟨Nat.le_of_ble_eq_true rfl, Nat.le_of_ble_eq_true rfl⟩), (wd_1117 hB _)⟩ ⟨pe_bl, pe_pre hB hK hP hD⟩ rfl rfl hl.1 rfl (lv_room (Nat.le_of_ble_eq_true rfl)) d_M_expr_101 ⟨Nat.le_of_ble_eq_true rfl, Nat.le_of_ble_eq_true rfl⟩) hS (fun r208 f209 H locs hq210 hP hD hS => ?_)
                obtain ⟨bo_211, i0_212, i1_213, rfl⟩ := hq210
                refine lv_if_eq (tgt := 135) hx hb d_M_expr_104 (by decide) (fun b214 => ?_) (fun b214 => ?_)
                · skip
                  have hr215 : r208 = nI 0 := b214
                  have hi216 := i0_212 hr215
                  have hk6 : tk hT mn i8 ≠ 6 := fun z => hi216 ((tkm hT mn i8).trans z)
                  refine lv_iload_n hx hb d_M_expr_135 rfl (lv_at hl 0 rfl) ?_
                  refine pcc_i (va_runS (As := [.int (nxm hT mn i8)]) (rest := []) ⟨hx, hb, hml, hown, tb_nil⟩ (m_digit l g H.size f10 ((nxm hT mn i8)) hL hI18.1) ⟨(callB_of 1 (tb_one (wd_1129 hB _)) tb_good1 rfl rfl rfl (wd_82 hB _) (wd_1127 hB _) (by decide +kernel) ⟨Nat.le_of_ble_eq_true rfl, Nat.le_of_ble_eq_true rfl⟩), (wd_1128 hB _)⟩ ⟨pe_bl, pe_pre hB hK hP hD⟩ rfl rfl hl.1 rfl (lv_room (Nat.le_of_ble_eq_true rfl)) d_M_expr_136 ⟨Nat.le_of_ble_eq_true rfl, Nat.le_of_ble_eq_true rfl⟩) hS (fun r217 f218 H locs hq219 hP hD hS => ?_)
                  obtain ⟨bo_220, i0_221, i1_222, rfl⟩ := hq219
                  refine lv_if_eq (tgt := 149) hx hb d_M_expr_139 (by decide) (fun b223 => ?_) (fun b223 => ?_)
                  · skip
                    have hr224 : r217 = nI 0 := b223
                    have hi225 := i0_221 hr224
                    have hk7 : tk hT mn i8 ≠ 7 := fun z => hi225 ((tkm hT mn i8).trans z)
                    refine lv_iconst (v := nI 0) hx hb d_M_expr_149 (by decide) ?_
                    exact pe_zret hx hb hr hlocks hK hP hD hS d_M_expr_150 rfl ⟨(Or.inr ⟨(hpy1.trans (by rw [py_eT, if_neg (fun z => z.elim hk2 hk4), if_neg hk6, if_neg hk7])), ⟨i8, p8, r8, t8, by omega, by omega, by omega, by omega, e14⟩, rfl⟩), hI18, hu⟩
                  · skip
                    have hr226 : r217 = nI 1 := (bl_1 bo_220 b223)
                    have hi227 := i1_222 hr226
                    have hk7 : tk hT mn i8 = 7 := (tkm hT mn i8).symm.trans hi227
                    have hl9 : i8 < mn := tk_in (h := hT) (by omega)
                    refine lv_aload_n hx hb d_M_expr_142 rfl (lv_at hl 3 rfl) ?_
                    refine pcc_i (va_runV (C := "BigRunnerModel") (As := []) (rest := []) ⟨hx, hb, hml, hown, tb_nil⟩ (m_number l g H.size f10 M mth mn r8 msz i8 p8 t8 mop mtp mwa mgi mpc mst mtr msp mma mlg mdu hT d8 g8 hL t_M hI18 e14 ⟨(by omega), (by omega), (by omega), (by omega), (by omega), (by omega), (by omega), (by omega), (by omega), (by omega), (by omega), (by omega), (by omega), (by omega), hmb14⟩ eT cT e15 e16 (by omega) (by omega)) ⟨(callB_of 0 (tb_one (wd_1133 hB _)) tb_good1 rfl rfl rfl (wd_82 hB _) (wd_1130 hB _) (by decide +kernel) ⟨Nat.le_of_ble_eq_true rfl, Nat.le_of_ble_eq_true rfl⟩), (wd_1132 hB _), (wd_47 hB _)⟩ ⟨pe_bl, pg_recv (ci := 10) hK hP (lo_in hL t_M (by decide)) e14 rfl, pe_pre hB hK hP hD⟩ rfl rfl hl.1 rfl (lv_room (Nat.le_of_ble_eq_true rfl)) d_M_expr_143 ⟨Nat.le_of_ble_eq_true rfl, Nat.le_of_ble_eq_true rfl⟩) hS (fun r228 f229 H locs hq230 hP hD hS => ?_)
                    obtain ⟨x1_231, hI1_232, hu1_233⟩ := hq230
                    have hu := hu.tr hu1_233 (by decide)
                    have hv19 := hv19.tr hu1_233 (by decide)
                    have eT := hu1_233.at (lo_k11_1 hL _ t_M) (by decide) eT
                    have e17 := hu1_233.at (lo_k11_12 hL _ t_M) (by decide) e17
                    obtain ⟨nn_234, v_235, c236, c237, c238, c239, e240, e241, e242, c243⟩ := x1_231
                    rcases c243 with ⟨rfl, c244⟩ | ⟨rfl, c244⟩
                    · skip
                      refine lv_if_ne (tgt := 151) hx hb d_M_expr_146 (by decide) (fun b245 => ?_) (fun b245 => ?_)
                      · skip
                        replace b245 := mt (nI_eq (a := 1) (b := 0) (by omega) (by omega)).mpr b245
                        have hnp : 1 ≤ nn_234 := by have z := dg_pos (k := (tk hT mn)) hk7; omega
                        refine lv_aload_n hx hb d_M_expr_151 rfl (lv_at hl 3 rfl) ?_
                        refine pcc_v (va_runV (C := "BigRunnerModel") (As := []) (rest := []) ⟨hx, hb, hml, hown, tb_nil⟩ (m_negate l g H.size f229 M mth mn ((r8 + 1)) msz ((i8 + nn_234)) p8 t8 mop mtp mwa mgi mpc mst mtr msp mma mlg mdu ((upd d8 r8 (nI 0))) ((upd g8 r8 (nI v_235))) hW8 mdr hL t_M hI1_232 e240 ⟨(by omega), (by omega), (by omega), (by omega), (by omega), (by omega), (by omega), (by omega), (by omega), (by omega), (by omega), (by omega), (by omega), (by omega), hmb14⟩ e241 e242 e17 (by omega) (by rw [dpc_s (by decide), if_pos (by decide)]; omega) (by omega) (GC_put hgc (by decide) (by omega) (fun z => by first | exact hvn | exact absurd z (by decide)) (fun z => absurd z (by decide)) (fun z _ => absurd z (by decide)))) ⟨(callB_of 0 (tb_one (wd_1126 hB _)) tb_good1 rfl rfl rfl (wd_82 hB _) (wd_1123 hB _) (by decide +kernel) ⟨Nat.le_of_ble_eq_true rfl, Nat.le_of_ble_eq_true rfl⟩), (wd_1125 hB _), (wd_46 hB _)⟩ ⟨pe_bl, pg_recv (ci := 10) hK hP (lo_in hL t_M (by decide)) e240 rfl, pe_pre hB hK hP hD⟩ rfl rfl hl.1 rfl (lv_room (Nat.le_of_ble_eq_true rfl)) d_M_expr_152 ⟨Nat.le_of_ble_eq_true rfl, Nat.le_of_ble_eq_true rfl⟩) hS (fun f247 H locs hq248 hP hD hS => ?_)
                        obtain ⟨x1_249, hI1_250, hu1_251⟩ := hq248
                        have hu := hu.tr hu1_251 (by decide)
                        have hv19 := hv19.tr hu1_251 (by decide)
                        have eT := hu1_251.at (lo_k11_1 hL _ t_M) (by decide) eT
                        have e17 := hu1_251.at (lo_k11_12 hL _ t_M) (by decide) e17
                        obtain ⟨wt_252, dp_253, dr_254, d_255, g_256, c257, c258, c259, c260, c261, c262, c263, c264, c265, c266, e267, e268, e269⟩ := x1_249
                        refine lv_iconst (v := nI 0) hx hb d_M_expr_155 (by decide) ?_
                        refine lv_istore_n (lv' := [(1, .int (nI 0)), (3, .int (nxm hT mn i8)), (2, .int (nI 1)), (0, .ref M)]) hx hb d_M_expr_156 rfl hl (by decide) rfl (fun ls hl => ?_)
                        refine lv_goto (tgt := 281) hx hb d_M_expr_157 (by decide) ?_
                        refine lv_goto (tgt := 9) hx hb d_M_expr_281 (by decide) ?_
                        have hl : lv_has ls 4 [(2, .int (nI 1)), (1, .int (nI 0)), (0, .ref M)] := lv_sub hl [2, 0, 3] rfl
                        exact ih12 0 (i8 + nn_234) wt_252 dp_253 dr_254 hW8 d_255 g_256 Fw f247 H locs ls (by omega) (by omega) (by omega) (by omega) (by omega) (by omega) (OKW_le hok (by omega)) (by omega) (by omega) (EI_0 (by have z := neg_n8 p8 e1; rw [c260] at z; exact z) (by rw [c263, dpc_s (by decide), if_pos (by decide)]; omega)) (hpy1.trans (by rw [py_eT, if_neg (fun z => z.elim hk2 hk4), if_neg hk6, if_pos hk7, if_neg (by omega), c236, c260]; rfl)) (by omega) c264 (smd_tr (smd_le c265 (by omega)) (smd_u hsd (by omega))) (smd_tr (smd_le c266 (by omega)) (smd_u hsg (by omega))) e267 e268 e269 e17 hI1_250 hv19 hl hP hD hS
                      · skip
                        replace b245 := (nI_eq (a := 1) (b := 0) (by omega) (by omega)).mp b245
                        exfalso; omega
                    · skip
                      refine lv_if_ne (tgt := 151) hx hb d_M_expr_146 (by decide) (fun b270 => ?_) (fun b270 => ?_)
                      · skip
                        replace b270 := mt (nI_eq (a := 0) (b := 0) (by omega) (by omega)).mpr b270
                        exfalso; omega
                      · skip
                        replace b270 := (nI_eq (a := 0) (b := 0) (by omega) (by omega)).mp b270
                        refine lv_iconst (v := nI 0) hx hb d_M_expr_149 (by decide) ?_
                        exact pe_zret hx hb hr hlocks hK hP hD hS d_M_expr_150 rfl ⟨(Or.inr ⟨(hpy1.trans (by rw [py_eT, if_neg (fun z => z.elim hk2 hk4), if_neg hk6, if_pos hk7, if_pos (by omega)])), ⟨i8 + nn_234, p8, r8 + 1, t8, by omega, by omega, by omega, by omega, e240⟩, rfl⟩), hI1_232, hu⟩
                · skip
                  have hr271 : r208 = nI 1 := (bl_1 bo_211 b214)
                  have hi272 := i1_213 hr271
                  have hkc6 := hi272
                  have hk6 : tk hT mn i8 = 6 := (tkm hT mn i8).symm.trans hkc6
                  have hl9 : i8 < mn := tk_in (h := hT) (by omega)
                  obtain ⟨vn, hvn, qvn⟩ := nm_of (kc_6.mp hkc6).1 (kc_6.mp hkc6).2
                  refine lv_aload_n hx hb d_M_expr_107 rfl (lv_at hl 3 rfl) ?_
                  refine lv_iconst (v := nI 1) hx hb d_M_expr_108 (by decide) ?_
                  refine lv_iload_n hx hb d_M_expr_109 rfl (lv_at hl 0 rfl) ?_
                  refine lv_bipush (v := nI 97) hx hb d_M_expr_110 (by decide) ?_
                  refine lv_isub hx hb d_M_expr_112 ?_
                  refine lv_topi (fun z_ hz_ => ?_)
                  obtain rfl : z_ = nI vn := hz_.trans qvn
                  refine pcc_v (va_runV (C := "BigRunnerModel") (As := [.int (nI 1), .int (nI vn)]) (rest := []) ⟨hx, hb, hml, hown, tb_nil⟩ (m_put l g H.size f10 M mth mn r8 msz i8 p8 t8 mop mtp mwa mgi mpc mst mtr msp mma mlg mdu d8 g8 1 ((nI vn)) hL t_M hI18 e14 ⟨(by omega), (by omega), (by omega), (by omega), (by omega), (by omega), (by omega), (by omega), (by omega), (by omega), (by omega), (by omega), (by omega), (by omega), hmb14⟩ e15 e16 (by omega)) ⟨(callB_of 2 (tb_one (wd_1115 hB _)) tb_good1 rfl rfl rfl (wd_82 hB _) (wd_1112 hB _) (by decide +kernel) ⟨Nat.le_of_ble_eq_true rfl, Nat.le_of_ble_eq_true rfl⟩), (wd_1114 hB _), (wd_44 hB _)⟩ ⟨pe_bl, pg_recv (ci := 10) hK hP (lo_in hL t_M (by decide)) e14 rfl, pe_pre hB hK hP hD⟩ rfl rfl hl.1 rfl (lv_room (Nat.le_of_ble_eq_true rfl)) d_M_expr_113 ⟨Nat.le_of_ble_eq_true rfl, Nat.le_of_ble_eq_true rfl⟩) hS (fun f274 H locs hq275 hP hD hS => ?_)
                  obtain ⟨x1_276, xd_277, xg_278, hI1_279, hu1_280⟩ := hq275
                  have hu := hu.tr hu1_280 (by decide)
                  have hv19 := hv19.tr hu1_280 (by decide)
                  have eT := hu1_280.at (lo_k11_1 hL _ t_M) (by decide) eT
                  have e17 := hu1_280.at (lo_k11_12 hL _ t_M) (by decide) e17
                  refine lv_aload_n hx hb d_M_expr_116 rfl (lv_at hl 3 rfl) ?_
                  refine lv_dup hx hb d_M_expr_117 rfl ?_
                  refine pf_get (v := .int (nI i8)) (C := "BigRunnerModel") (T := FT10) (N := 45) hx hb (hw10 hB _) (fun _ h9 => h9) hown hK hP (lo_in hL t_M (by decide)) x1_276 rfl 10 (by decide) (wd_957 hB _) rfl d_M_expr_118 ?_
                  refine lv_iconst (v := nI 1) hx hb d_M_expr_121 (by decide) ?_
                  refine pf_iaddN (x := i8) (y := 1) hx hb d_M_expr_122 ?_
                  refine pf_put (v := .int (nI (i8 + 1))) (ty := .int) (fs' := [.int mth, .ref (g.lk M 1), .int (nI mn), .ref (g.lk M 3), .ref (g.lk M 4), .int (nI (r8 + 1)), .ref (g.lk M 6), .ref (g.lk M 7), .ref (g.lk M 8), .int (nI msz), .int (nI (i8 + 1)), .int (nI p8), .ref (g.lk M 12), .int (nI t8), .ref (g.lk M 14), .ref (g.lk M 15), .int (nI mop), .ref (g.lk M 17), .ref (g.lk M 18), .ref (g.lk M 19), .ref (g.lk M 20), .ref (g.lk M 21), .ref (g.lk M 22), .ref (g.lk M 23), .ref (g.lk M 24), .ref (g.lk M 25), .ref (g.lk M 26), .ref (g.lk M 27), .ref (g.lk M 28), .ref (g.lk M 29), .ref (g.lk M 30), .ref (g.lk M 31), .int (nI mtp), .ref (g.lk M 33), .ref (g.lk M 34), .ref (g.lk M 35), .int (nI mwa), .int (nI mgi), .int (nI mpc), .int (nI mst), .int (nI mtr), .int (nI msp), .int mma, .int mlg, .int mdu]) (C := "BigRunnerModel") (T := FT10) (N := 45) hx hb (hw10 hB _) (fun _ h9 => h9) TY10 ok10 nm10 hown hK hP hD hS (lo_in hL t_M (by decide)) x1_276 rfl 10 (by decide) (wd_957 hB _) rfl (by decide +kernel) rfl rfl (Nat.le_of_ble_eq_true rfl) rfl d_M_expr_123 (fun f281 H locs e282 k283 hP hD hS => ?_)
                  have eT := (k283 (g.lk M 1) (tg_ne (lo_k11_1 hL _ t_M) t_M (by decide))).trans eT
                  have e17 := (k283 (g.lk M 12) (tg_ne (lo_k11_12 hL _ t_M) t_M (by decide))).trans e17
                  have xd_277 := (k283 (g.lk M 3) (tg_ne (lo_k11_3 hL _ t_M) t_M (by decide))).trans xd_277
                  have xg_278 := (k283 (g.lk M 4) (tg_ne (lo_k11_4 hL _ t_M) t_M (by decide))).trans xg_278
                  have hu := hu.st k283 t_M (by decide)
                  have hv19 := hv19.st k283 t_M (by decide)
                  have hk284 : ∀ b, b ≠ M → f281 b = f274 b := k283
                  refine lv_aload_n hx hb d_M_expr_126 rfl (lv_at hl 3 rfl) ?_
                  have hI285 := iv_1 hI1_279 hL t_M (by decide) hk284 (oc_11.mk t_M (⟨mth, mn, (r8 + 1), msz, (i8 + 1), p8, t8, mop, mtp, mwa, mgi, mpc, mst, mtr, msp, mma, mlg, mdu, e282, (by omega), (by omega), (by omega), (by omega), (by omega), (by omega), (by omega), (by omega), (by omega), (by omega), (by omega), (by omega), (by omega), (by omega), hmb14⟩))
                  refine pcc_v (va_runV (C := "BigRunnerModel") (As := []) (rest := []) ⟨hx, hb, hml, hown, tb_nil⟩ (m_negate l g H.size f281 M mth mn ((r8 + 1)) msz ((i8 + 1)) p8 t8 mop mtp mwa mgi mpc mst mtr msp mma mlg mdu ((upd d8 r8 (nI 1))) ((upd g8 r8 (nI vn))) hW8 mdr hL t_M hI285 e282 ⟨(by omega), (by omega), (by omega), (by omega), (by omega), (by omega), (by omega), (by omega), (by omega), (by omega), (by omega), (by omega), (by omega), (by omega), hmb14⟩ xd_277 xg_278 e17 (by omega) (by rw [dpc_s (by decide), if_pos (by decide)]; omega) (by omega) (GC_put hgc (by decide) (by omega) (fun z => by first | exact hvn | exact absurd z (by decide)) (fun z => absurd z (by decide)) (fun z _ => absurd z (by decide)))) ⟨(callB_of 0 (tb_one (wd_1126 hB _)) tb_good1 rfl rfl rfl (wd_82 hB _) (wd_1123 hB _) (by decide +kernel) ⟨Nat.le_of_ble_eq_true rfl, Nat.le_of_ble_eq_true rfl⟩), (wd_1125 hB _), (wd_46 hB _)⟩ ⟨pe_bl, pg_recv (ci := 10) hK hP (lo_in hL t_M (by decide)) e282 rfl, pe_pre hB hK hP hD⟩ rfl rfl hl.1 rfl (lv_room (Nat.le_of_ble_eq_true rfl)) d_M_expr_127 ⟨Nat.le_of_ble_eq_true rfl, Nat.le_of_ble_eq_true rfl⟩) hS (fun f287 H locs hq288 hP hD hS => ?_)
                  obtain ⟨x1_289, hI1_290, hu1_291⟩ := hq288
                  have hu := hu.tr hu1_291 (by decide)
                  have hv19 := hv19.tr hu1_291 (by decide)
                  have eT := hu1_291.at (lo_k11_1 hL _ t_M) (by decide) eT
                  have e17 := hu1_291.at (lo_k11_12 hL _ t_M) (by decide) e17
                  obtain ⟨wt_292, dp_293, dr_294, d_295, g_296, c297, c298, c299, c300, c301, c302, c303, c304, c305, c306, e307, e308, e309⟩ := x1_289
                  refine lv_iconst (v := nI 0) hx hb d_M_expr_130 (by decide) ?_
                  refine lv_istore_n (lv' := [(1, .int (nI 0)), (3, .int (nxm hT mn i8)), (2, .int (nI 1)), (0, .ref M)]) hx hb d_M_expr_131 rfl hl (by decide) rfl (fun ls hl => ?_)
                  refine lv_goto (tgt := 281) hx hb d_M_expr_132 (by decide) ?_
                  refine lv_goto (tgt := 9) hx hb d_M_expr_281 (by decide) ?_
                  have hl : lv_has ls 4 [(2, .int (nI 1)), (1, .int (nI 0)), (0, .ref M)] := lv_sub hl [2, 0, 3] rfl
                  exact ih12 0 (i8 + 1) wt_292 dp_293 dr_294 hW8 d_295 g_296 Fw f287 H locs ls (by omega) (by omega) (by omega) (by omega) (by omega) (by omega) (OKW_le hok (by omega)) (by omega) (by omega) (EI_0 (by have z := neg_n8 p8 e1; rw [c300] at z; exact z) (by rw [c303, dpc_s (by decide), if_pos (by decide)]; omega)) (hpy1.trans (by rw [py_eT, if_neg (fun z => z.elim hk2 hk4), if_pos hk6, c300]; rfl)) (by omega) c304 (smd_tr (smd_le c305 (by omega)) (smd_u hsd (by omega))) (smd_tr (smd_le c306 (by omega)) (smd_u hsg (by omega))) e307 e308 e309 e17 hI1_290 hv19 hl hP hD hS
              · skip
                have hkc : tk hT mn i8 = 4 := (tkm hT mn i8).symm.trans (kc_4.mpr b207)
                have hl9 : i8 < mn := tk_in (h := hT) (by omega)
                refine lv_aload_n hx hb d_M_expr_34 rfl (lv_at hl 3 rfl) ?_
                refine lv_dup hx hb d_M_expr_35 rfl ?_
                refine pf_get (v := .int (nI p8)) (C := "BigRunnerModel") (T := FT10) (N := 45) hx hb (hw10 hB _) (fun _ h9 => h9) hown hK hP (lo_in hL t_M (by decide)) e14 rfl 11 (by decide) (wd_958 hB _) rfl d_M_expr_36 ?_
                refine lv_iconst (v := nI 1) hx hb d_M_expr_39 (by decide) ?_
                refine pf_iaddN (x := p8) (y := 1) hx hb d_M_expr_40 ?_
                refine pf_put (v := .int (nI (p8 + 1))) (ty := .int) (fs' := [.int mth, .ref (g.lk M 1), .int (nI mn), .ref (g.lk M 3), .ref (g.lk M 4), .int (nI r8), .ref (g.lk M 6), .ref (g.lk M 7), .ref (g.lk M 8), .int (nI msz), .int (nI i8), .int (nI (p8 + 1)), .ref (g.lk M 12), .int (nI t8), .ref (g.lk M 14), .ref (g.lk M 15), .int (nI mop), .ref (g.lk M 17), .ref (g.lk M 18), .ref (g.lk M 19), .ref (g.lk M 20), .ref (g.lk M 21), .ref (g.lk M 22), .ref (g.lk M 23), .ref (g.lk M 24), .ref (g.lk M 25), .ref (g.lk M 26), .ref (g.lk M 27), .ref (g.lk M 28), .ref (g.lk M 29), .ref (g.lk M 30), .ref (g.lk M 31), .int (nI mtp), .ref (g.lk M 33), .ref (g.lk M 34), .ref (g.lk M 35), .int (nI mwa), .int (nI mgi), .int (nI mpc), .int (nI mst), .int (nI mtr), .int (nI msp), .int mma, .int mlg, .int mdu]) (C := "BigRunnerModel") (T := FT10) (N := 45) hx hb (hw10 hB _) (fun _ h9 => h9) TY10 ok10 nm10 hown hK hP hD hS (lo_in hL t_M (by decide)) e14 rfl 11 (by decide) (wd_958 hB _) rfl (by decide +kernel) rfl rfl (Nat.le_of_ble_eq_true rfl) rfl d_M_expr_41 (fun f310 H locs e311 k312 hP hD hS => ?_)
                have eT := (k312 (g.lk M 1) (tg_ne (lo_k11_1 hL _ t_M) t_M (by decide))).trans eT
                have e15 := (k312 (g.lk M 3) (tg_ne (lo_k11_3 hL _ t_M) t_M (by decide))).trans e15
                have e16 := (k312 (g.lk M 4) (tg_ne (lo_k11_4 hL _ t_M) t_M (by decide))).trans e16
                have e17 := (k312 (g.lk M 12) (tg_ne (lo_k11_12 hL _ t_M) t_M (by decide))).trans e17
                have hu := hu.st k312 t_M (by decide)
                have hv19 := hv19.st k312 t_M (by decide)
                have hk313 : ∀ b, b ≠ M → f310 b = f10 b := k312
                refine lv_aload_n hx hb d_M_expr_44 rfl (lv_at hl 3 rfl) ?_
                refine pf_get (v := .int (nI (p8 + 1))) (C := "BigRunnerModel") (T := FT10) (N := 45) hx hb (hw10 hB _) (fun _ h9 => h9) hown hK hP (lo_in hL t_M (by decide)) e311 rfl 11 (by decide) (wd_958 hB _) rfl d_M_expr_45 ?_
                refine lv_bipush (v := nI 10) hx hb d_M_expr_48 (by decide) ?_
                refine lv_icmp_le (tgt := 55) hx hb d_M_expr_50 (by decide) (fun b314 => ?_) (fun b314 => ?_)
                · skip
                  replace b314 := (nI_leI (a := p8 + 1) (b := 10) (by omega) (by omega)).mp b314
                  refine lv_aload_n hx hb d_M_expr_55 rfl (lv_at hl 3 rfl) ?_
                  refine pf_get (v := .ref (g.lk M 12)) (C := "BigRunnerModel") (T := FT10) (N := 45) hx hb (hw10 hB _) (fun _ h9 => h9) hown hK hP (lo_in hL t_M (by decide)) e311 rfl 12 (by decide) (wd_959 hB _) rfl d_M_expr_56 ?_
                  refine lv_aload_n hx hb d_M_expr_59 rfl (lv_at hl 3 rfl) ?_
                  refine pf_get (v := .int (nI t8)) (C := "BigRunnerModel") (T := FT10) (N := 45) hx hb (hw10 hB _) (fun _ h9 => h9) hown hK hP (lo_in hL t_M (by decide)) e311 rfl 13 (by decide) (wd_960 hB _) rfl d_M_expr_60 ?_
                  refine lv_iload_n hx hb d_M_expr_63 rfl (lv_at hl 0 rfl) ?_
                  refine lv_bipush (v := nI 45) hx hb d_M_expr_64 (by decide) ?_
                  refine lv_icmp_ne (tgt := 74) hx hb d_M_expr_66 (by decide) (fun b315 => ?_) (fun b315 => ?_)
                  · skip
                    refine lv_bipush (v := nI 40) hx hb d_M_expr_74 (by decide) ?_
                    have hI316 := iv_1 hI18 hL t_M (by decide) hk313 (oc_11.mk t_M (⟨mth, mn, r8, msz, i8, (p8 + 1), t8, mop, mtp, mwa, mgi, mpc, mst, mtr, msp, mma, mlg, mdu, e311, (by omega), (by omega), (by omega), (by omega), (by omega), (by omega), (by omega), (by omega), (by omega), (by omega), (by omega), (by omega), (by omega), (by omega), hmb14⟩))
                    refine pf_cast (i := t8) hx hb hK hP hD hS (lo_in hL (lo_k11_12 hL _ t_M) (by decide)) e17 (lo_t46 hL _ (lo_k11_12 hL _ t_M)) (by omega) (by decide) d_M_expr_76 (fun f317 H locs e318 k319 hP hD hS => ?_)
                    have eT := (k319 (g.lk M 1) (tg_ne (lo_k11_1 hL _ t_M) (lo_k11_12 hL _ t_M) (by decide))).trans eT
                    have e15 := (k319 (g.lk M 3) (tg_ne (lo_k11_3 hL _ t_M) (lo_k11_12 hL _ t_M) (by decide))).trans e15
                    have e16 := (k319 (g.lk M 4) (tg_ne (lo_k11_4 hL _ t_M) (lo_k11_12 hL _ t_M) (by decide))).trans e16
                    have e311 := (k319 M (tg_ne t_M (lo_k11_12 hL _ t_M) (by decide))).trans e311
                    have hu := hu.st k319 (lo_k11_12 hL _ t_M) (by decide)
                    have hv19 := hv19.st k319 (lo_k11_12 hL _ t_M) (by decide)
                    have hk320 : ∀ b, b ≠ (g.lk M 12) → f317 b = f310 b := k319
                    refine lv_aload_n hx hb d_M_expr_77 rfl (lv_at hl 3 rfl) ?_
                    refine lv_dup hx hb d_M_expr_78 rfl ?_
                    refine pf_get (v := .int (nI t8)) (C := "BigRunnerModel") (T := FT10) (N := 45) hx hb (hw10 hB _) (fun _ h9 => h9) hown hK hP (lo_in hL t_M (by decide)) e311 rfl 13 (by decide) (wd_960 hB _) rfl d_M_expr_79 ?_
                    refine lv_iconst (v := nI 1) hx hb d_M_expr_82 (by decide) ?_
                    refine pf_iaddN (x := t8) (y := 1) hx hb d_M_expr_83 ?_
                    have hI321 := iv_1 hI316 hL (lo_k11_12 hL _ t_M) (by decide) hk320 (oc_46.mk (lo_k11_12 hL _ t_M) (⟨_, e318⟩))
                    refine pf_put (v := .int (nI (t8 + 1))) (ty := .int) (fs' := [.int mth, .ref (g.lk M 1), .int (nI mn), .ref (g.lk M 3), .ref (g.lk M 4), .int (nI r8), .ref (g.lk M 6), .ref (g.lk M 7), .ref (g.lk M 8), .int (nI msz), .int (nI i8), .int (nI (p8 + 1)), .ref (g.lk M 12), .int (nI (t8 + 1)), .ref (g.lk M 14), .ref (g.lk M 15), .int (nI mop), .ref (g.lk M 17), .ref (g.lk M 18), .ref (g.lk M 19), .ref (g.lk M 20), .ref (g.lk M 21), .ref (g.lk M 22), .ref (g.lk M 23), .ref (g.lk M 24), .ref (g.lk M 25), .ref (g.lk M 26), .ref (g.lk M 27), .ref (g.lk M 28), .ref (g.lk M 29), .ref (g.lk M 30), .ref (g.lk M 31), .int (nI mtp), .ref (g.lk M 33), .ref (g.lk M 34), .ref (g.lk M 35), .int (nI mwa), .int (nI mgi), .int (nI mpc), .int (nI mst), .int (nI mtr), .int (nI msp), .int mma, .int mlg, .int mdu]) (C := "BigRunnerModel") (T := FT10) (N := 45) hx hb (hw10 hB _) (fun _ h9 => h9) TY10 ok10 nm10 hown hK hP hD hS (lo_in hL t_M (by decide)) e311 rfl 13 (by decide) (wd_960 hB _) rfl (by decide +kernel) rfl rfl (Nat.le_of_ble_eq_true rfl) rfl d_M_expr_84 (fun f322 H locs e323 k324 hP hD hS => ?_)
                    have eT := (k324 (g.lk M 1) (tg_ne (lo_k11_1 hL _ t_M) t_M (by decide))).trans eT
                    have e15 := (k324 (g.lk M 3) (tg_ne (lo_k11_3 hL _ t_M) t_M (by decide))).trans e15
                    have e16 := (k324 (g.lk M 4) (tg_ne (lo_k11_4 hL _ t_M) t_M (by decide))).trans e16
                    have e318 := (k324 (g.lk M 12) (tg_ne (lo_k11_12 hL _ t_M) t_M (by decide))).trans e318
                    have hu := hu.st k324 t_M (by decide)
                    have hv19 := hv19.st k324 t_M (by decide)
                    have hk325 : ∀ b, b ≠ M → f322 b = f317 b := k324
                    refine lv_aload_n hx hb d_M_expr_87 rfl (lv_at hl 3 rfl) ?_
                    refine lv_dup hx hb d_M_expr_88 rfl ?_
                    refine pf_get (v := .int (nI i8)) (C := "BigRunnerModel") (T := FT10) (N := 45) hx hb (hw10 hB _) (fun _ h9 => h9) hown hK hP (lo_in hL t_M (by decide)) e323 rfl 10 (by decide) (wd_957 hB _) rfl d_M_expr_89 ?_
                    refine lv_iconst (v := nI 1) hx hb d_M_expr_92 (by decide) ?_
                    refine pf_iaddN (x := i8) (y := 1) hx hb d_M_expr_93 ?_
                    refine pf_put (v := .int (nI (i8 + 1))) (ty := .int) (fs' := [.int mth, .ref (g.lk M 1), .int (nI mn), .ref (g.lk M 3), .ref (g.lk M 4), .int (nI r8), .ref (g.lk M 6), .ref (g.lk M 7), .ref (g.lk M 8), .int (nI msz), .int (nI (i8 + 1)), .int (nI (p8 + 1)), .ref (g.lk M 12), .int (nI (t8 + 1)), .ref (g.lk M 14), .ref (g.lk M 15), .int (nI mop), .ref (g.lk M 17), .ref (g.lk M 18), .ref (g.lk M 19), .ref (g.lk M 20), .ref (g.lk M 21), .ref (g.lk M 22), .ref (g.lk M 23), .ref (g.lk M 24), .ref (g.lk M 25), .ref (g.lk M 26), .ref (g.lk M 27), .ref (g.lk M 28), .ref (g.lk M 29), .ref (g.lk M 30), .ref (g.lk M 31), .int (nI mtp), .ref (g.lk M 33), .ref (g.lk M 34), .ref (g.lk M 35), .int (nI mwa), .int (nI mgi), .int (nI mpc), .int (nI mst), .int (nI mtr), .int (nI msp), .int mma, .int mlg, .int mdu]) (C := "BigRunnerModel") (T := FT10) (N := 45) hx hb (hw10 hB _) (fun _ h9 => h9) TY10 ok10 nm10 hown hK hP hD hS (lo_in hL t_M (by decide)) e323 rfl 10 (by decide) (wd_957 hB _) rfl (by decide +kernel) rfl rfl (Nat.le_of_ble_eq_true rfl) rfl d_M_expr_94 (fun f326 H locs e327 k328 hP hD hS => ?_)
                    have eT := (k328 (g.lk M 1) (tg_ne (lo_k11_1 hL _ t_M) t_M (by decide))).trans eT
                    have e15 := (k328 (g.lk M 3) (tg_ne (lo_k11_3 hL _ t_M) t_M (by decide))).trans e15
                    have e16 := (k328 (g.lk M 4) (tg_ne (lo_k11_4 hL _ t_M) t_M (by decide))).trans e16
                    have e318 := (k328 (g.lk M 12) (tg_ne (lo_k11_12 hL _ t_M) t_M (by decide))).trans e318
                    have hu := hu.st k328 t_M (by decide)
                    have hv19 := hv19.st k328 t_M (by decide)
                    have hk329 : ∀ b, b ≠ M → f326 b = f317 b := fun b q0 => (k328 b q0).trans (hk325 b q0)
                    refine lv_goto (tgt := 281) hx hb d_M_expr_97 (by decide) ?_
                    refine lv_goto (tgt := 9) hx hb d_M_expr_281 (by decide) ?_
                    have hI330 := iv_1 hI321 hL t_M (by decide) hk329 (oc_11.mk t_M (⟨mth, mn, r8, msz, (i8 + 1), (p8 + 1), (t8 + 1), mop, mtp, mwa, mgi, mpc, mst, mtr, msp, mma, mlg, mdu, e327, (by omega), (by omega), (by omega), (by omega), (by omega), (by omega), (by omega), (by omega), (by omega), (by omega), (by omega), (by omega), (by omega), (by omega), hmb14⟩))
                    have hl : lv_has ls 4 [(2, .int (nI 1)), (1, .int (nI 1)), (0, .ref M)] := lv_sub hl [1, 2, 3] rfl
                    exact ih12 1 (i8 + 1) (t8 + 1) (p8 + 1) r8 (upd hW8 t8 (vp_nar .char ((nI 40)))) d8 g8 Fw f326 H locs ls (by omega) (by omega) (by omega) (by omega) (by omega) (by omega) (OKW_put hok (Or.inl (by decide))) (by rw [wll_upd, show wcc (vp_nar .char (nI 40)) = 4 by decide, cbr_c, if_pos (by decide)]; omega) (by omega) (by rw [wll_upd, show wcc (vp_nar .char (nI 40)) = 4 by decide]; exact EI_1 (n8t_4 e1) (by rw [nbS_c, if_pos (by decide)]; omega)) (hpy1.trans (by rw [py_eT, if_pos (Or.inr hkc), if_neg (by omega), if_neg (by omega), wll_upd, show wcc (vp_nar .char (nI 40)) = 4 by decide]; rfl)) (by omega) hgc hsd hsg e327 e15 e16 e318 hI330 hv19 hl hP hD hS
                  · skip
                    exact absurd (b207.symm.trans b315) (by decide)
                · skip
                  replace b314 := mt (nI_leI (a := p8 + 1) (b := 10) (by omega) (by omega)).mpr b314
                  refine lv_iconst (v := nI 0) hx hb d_M_expr_53 (by decide) ?_
                  have hI331 := iv_1 hI18 hL t_M (by decide) hk313 (oc_11.mk t_M (⟨mth, mn, r8, msz, i8, (p8 + 1), t8, mop, mtp, mwa, mgi, mpc, mst, mtr, msp, mma, mlg, mdu, e311, (by omega), (by omega), (by omega), (by omega), (by omega), (by omega), (by omega), (by omega), (by omega), (by omega), (by omega), (by omega), (by omega), (by omega), hmb14⟩))
                  exact pe_zret hx hb hr hlocks hK hP hD hS d_M_expr_54 rfl ⟨(Or.inr ⟨(hpy1.trans (by rw [py_eT, if_pos (Or.inr hkc), if_pos (by omega)])), ⟨i8, p8 + 1, r8, t8, by omega, by omega, by omega, by omega, e311⟩, rfl⟩), hI331, hu⟩
  exact lp9 (mn + 1) 1 mix 0 mdp mdr h_6 hQ hG 400 f1 H locs ls (by omega) (by omega) (by omega) (by omega) (by omega) (by omega) (fun i hi => absurd hi (by omega)) rfl (by omega) (EI_1 n8t_nil hdp0) rfl (by omega) GC_nil smd_rf smd_rf e2 eD eG e5 hI8 un.rf hl hP hD hS
