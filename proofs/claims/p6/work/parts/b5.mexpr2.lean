set_option maxHeartbeats 4000000 in
set_option maxRecDepth 100000 in
theorem m2_expr (l : Launch) (g : Lay) (sz : Nat) (f : Nat → va_E) (M : Nat) (mth : Int32) (mn : Nat) (mdr : Nat) (msz : Nat) (mix : Nat) (mdp : Nat) (mwt : Nat) (mop : Nat) (mtp : Nat) (mwa : Nat) (mgi : Nat) (mpc : Nat) (mst : Nat) (mtr : Nat) (msp : Nat) (mma : Int32) (mlg : Int32) (mdu : Int32) (hT : Nat → Int32) (hQ : Nat → Int32) (hG : Nat → Int32) (hL : LO g) (t_M : g.tg M = 11) (hI : IV g f) (eM : f M = .inr (10, [.int mth, .ref (g.lk M 1), .int (nI mn), .ref (g.lk M 3), .ref (g.lk M 4), .int (nI mdr), .ref (g.lk M 6), .ref (g.lk M 7), .ref (g.lk M 8), .int (nI msz), .int (nI mix), .int (nI mdp), .ref (g.lk M 12), .int (nI mwt), .ref (g.lk M 14), .ref (g.lk M 15), .int (nI mop), .ref (g.lk M 17), .ref (g.lk M 18), .ref (g.lk M 19), .ref (g.lk M 20), .ref (g.lk M 21), .ref (g.lk M 22), .ref (g.lk M 23), .ref (g.lk M 24), .ref (g.lk M 25), .ref (g.lk M 26), .ref (g.lk M 27), .ref (g.lk M 28), .ref (g.lk M 29), .ref (g.lk M 30), .ref (g.lk M 31), .int (nI mtp), .ref (g.lk M 33), .ref (g.lk M 34), .ref (g.lk M 35), .int (nI mwa), .int (nI mgi), .int (nI mpc), .int (nI mst), .int (nI mtr), .int (nI msp), .int mma, .int mlg, .int mdu])) (hMB : mn ≤ 72 ∧ mdr ≤ 100 ∧ msz ≤ 100 ∧ mix ≤ 100 ∧ mdp ≤ 20 ∧ mwt ≤ 72 ∧ mop ≤ 40 ∧ mtp ≤ 80 ∧ mwa ≤ 20 ∧ mgi ≤ msp ∧ mpc ≤ 100 ∧ mst ≤ 4 ∧ mtr ≤ 3 ∧ msp ≤ 3000 ∧ (mdu = 0 ∨ mdu = 1)) (eT : f (g.lk M 1) = .inl (g.ac (g.lk M 1), 72, .inl hT)) (cT : ∀ i, i < 72 → vp_nar .char (hT i) = hT i) (eD : f (g.lk M 3) = .inl (g.ac (g.lk M 3), 100, .inl hQ)) (eG : f (g.lk M 4) = .inl (g.ac (g.lk M 4), 100, .inl hG)) (hix : mix ≤ mn) (hdp10 : mdp ≤ 10) (hdm : mdr ≤ mix) (hdp0 : dpc hQ mdr = 0) : Met l ⟨"BigRunnerModel", "expr", "()Z"⟩ [Cond.code ⟨"BigRunnerModel", "expr", "()Z"⟩ prog_12_method_11_code 4 (some .boolean)] ({ frames := 2, cells := 0, slots := 0, locals := 44 }) (va_Pc [.ref M] (pc_in g sz f)) (va_Qi (fun r f1 => ((∃ (a n1 : Nat) (d1 g1 : Nat → Int32), py_e (tk hT mn) 400 mix [] mdp true = some (a, mdp) ∧ mix < a ∧ a ≤ mn ∧ mdr < n1 ∧ n1 + mix ≤ mdr + a ∧ GC d1 g1 mdr n1 ∧ dpc d1 n1 = 1 ∧ smd mdr d1 hQ ∧ smd mdr g1 hG ∧ n1 = mdr + (oy_e (tk hT mn) (vc hT mn) 400 mix [] true).length ∧ DS d1 g1 mdr (oy_e (tk hT mn) (vc hT mn) 400 mix [] true) ∧ f1 M = .inr (10, [.int mth, .ref (g.lk M 1), .int (nI mn), .ref (g.lk M 3), .ref (g.lk M 4), .int (nI n1), .ref (g.lk M 6), .ref (g.lk M 7), .ref (g.lk M 8), .int (nI msz), .int (nI a), .int (nI mdp), .ref (g.lk M 12), .int (nI 0), .ref (g.lk M 14), .ref (g.lk M 15), .int (nI mop), .ref (g.lk M 17), .ref (g.lk M 18), .ref (g.lk M 19), .ref (g.lk M 20), .ref (g.lk M 21), .ref (g.lk M 22), .ref (g.lk M 23), .ref (g.lk M 24), .ref (g.lk M 25), .ref (g.lk M 26), .ref (g.lk M 27), .ref (g.lk M 28), .ref (g.lk M 29), .ref (g.lk M 30), .ref (g.lk M 31), .int (nI mtp), .ref (g.lk M 33), .ref (g.lk M 34), .ref (g.lk M 35), .int (nI mwa), .int (nI mgi), .int (nI mpc), .int (nI mst), .int (nI mtr), .int (nI msp), .int mma, .int mlg, .int mdu]) ∧ f1 (g.lk M 3) = .inl (g.ac (g.lk M 3), 100, .inl d1) ∧ f1 (g.lk M 4) = .inl (g.ac (g.lk M 4), 100, .inl g1) ∧ r = nI 1) ∨ (py_e (tk hT mn) 400 mix [] mdp true = none ∧ (∃ (ix1 dp1 dr1 wt1 : Nat), ix1 ≤ 80 ∧ dp1 ≤ 12 ∧ dr1 ≤ 80 ∧ wt1 ≤ 72 ∧ f1 M = .inr (10, [.int mth, .ref (g.lk M 1), .int (nI mn), .ref (g.lk M 3), .ref (g.lk M 4), .int (nI dr1), .ref (g.lk M 6), .ref (g.lk M 7), .ref (g.lk M 8), .int (nI msz), .int (nI ix1), .int (nI dp1), .ref (g.lk M 12), .int (nI wt1), .ref (g.lk M 14), .ref (g.lk M 15), .int (nI mop), .ref (g.lk M 17), .ref (g.lk M 18), .ref (g.lk M 19), .ref (g.lk M 20), .ref (g.lk M 21), .ref (g.lk M 22), .ref (g.lk M 23), .ref (g.lk M 24), .ref (g.lk M 25), .ref (g.lk M 26), .ref (g.lk M 27), .ref (g.lk M 28), .ref (g.lk M 29), .ref (g.lk M 30), .ref (g.lk M 31), .int (nI mtp), .ref (g.lk M 33), .ref (g.lk M 34), .ref (g.lk M 35), .int (nI mwa), .int (nI mgi), .int (nI mpc), .int (nI mst), .int (nI mtr), .int (nI msp), .int mma, .int mlg, .int mdu])) ∧ r = nI 0)) ∧ (IV g f1) ∧ (un [11, 41, 42, 46] g f f1)) (pc_out g sz) (pc_A g sz)) 0 0 (pc_A g sz) := by
  refine pe_ofW (cc := prog_12_method_11_code) (maxL := 4) (ret := (some .boolean)) (lv := [(0, .ref M)]) (by decide) (Nat.le_of_ble_eq_true rfl) rfl ?_
  intro p e s m args below meth c ls hx hb hr hml hlocks hown hB hP hK hD hsz hS hl
  subst hsz
  have hu : un [11, 41, 42, 46] g f f := un.rf
  obtain ⟨hmb0, hmb1, hmb2, hmb3, hmb4, hmb5, hmb6, hmb7, hmb8, hmb9, hmb10, hmb11, hmb12, hmb13, hmb14⟩ := hMB
  refine lv_aload_n hx hb d_M_expr_0 rfl (lv_at hl 0 rfl) ?_
  refine lv_iconst (v := nI 0) hx hb d_M_expr_1 (by decide) ?_
  refine pf_put (v := .int (nI 0)) (ty := .int) (fs' := [.int mth, .ref (g.lk M 1), .int (nI mn), .ref (g.lk M 3), .ref (g.lk M 4), .int (nI mdr), .ref (g.lk M 6), .ref (g.lk M 7), .ref (g.lk M 8), .int (nI msz), .int (nI mix), .int (nI mdp), .ref (g.lk M 12), .int (nI 0), .ref (g.lk M 14), .ref (g.lk M 15), .int (nI mop), .ref (g.lk M 17), .ref (g.lk M 18), .ref (g.lk M 19), .ref (g.lk M 20), .ref (g.lk M 21), .ref (g.lk M 22), .ref (g.lk M 23), .ref (g.lk M 24), .ref (g.lk M 25), .ref (g.lk M 26), .ref (g.lk M 27), .ref (g.lk M 28), .ref (g.lk M 29), .ref (g.lk M 30), .ref (g.lk M 31), .int (nI mtp), .ref (g.lk M 33), .ref (g.lk M 34), .ref (g.lk M 35), .int (nI mwa), .int (nI mgi), .int (nI mpc), .int (nI mst), .int (nI mtr), .int (nI msp), .int mma, .int mlg, .int mdu]) (C := "BigRunnerModel") (T := FT10) (N := 45) hx hb (hw10 hB _) (fun _ h9 => h9) TY10 ok10 nm10 hown hK hP hD hS (lo_in hL t_M (by decide)) eM rfl 13 (by decide) (wd_960 hB _) rfl (by decide +kernel) rfl rfl (Nat.le_of_ble_eq_true rfl) rfl d_M_expr_2 (fun f1 H locs e2 k3 hP hD hS => ?_)
  have eT := (k3 (g.lk M 1) (tg_ne (lo_k11_1 hL _ t_M) t_M (by decide))).trans eT
  have eD := (k3 (g.lk M 3) (tg_ne (lo_k11_3 hL _ t_M) t_M (by decide))).trans eD
  have eG := (k3 (g.lk M 4) (tg_ne (lo_k11_4 hL _ t_M) t_M (by decide))).trans eG
  have hu := hu.st k3 t_M (by decide)
  have hk4 : ∀ b, b ≠ M → f1 b = f b := k3
  refine lv_iconst (v := nI 1) hx hb d_M_expr_5 (by decide) ?_
  refine lv_istore_n (lv' := [(1, .int (nI 1)), (0, .ref M)]) hx hb d_M_expr_6 rfl hl (by decide) rfl (fun ls hl => ?_)
  refine lv_iconst (v := nI 1) hx hb d_M_expr_7 (by decide) ?_
  refine lv_istore_n (lv' := [(2, .int (nI 1)), (1, .int (nI 1)), (0, .ref M)]) hx hb d_M_expr_8 rfl hl (by decide) rfl (fun ls hl => ?_)
  obtain ⟨h_6, e5⟩ := oc_46.of (lo_k11_12 hL _ t_M) (hI.1 (g.lk M 12))
  replace e5 := (hk4 (g.lk M 12) (tg_ne (lo_k11_12 hL _ t_M) t_M (by decide))).trans e5
  have hI8 := iv_1 hI hL t_M (by decide) hk4 (oc_11.mk t_M (⟨mth, mn, mdr, msz, mix, mdp, 0, mop, mtp, mwa, mgi, mpc, mst, mtr, msp, mma, mlg, mdu, e2, (by omega), (by omega), (by omega), (by omega), (by omega), (by omega), (by omega), (by omega), (by omega), (by omega), (by omega), (by omega), (by omega), (by omega), hmb14⟩))
  have lp9 : ∀ (k11 : Nat) (fb : Nat) (i8 : Nat) (t8 : Nat) (p8 : Nat) (r8 : Nat) (hW8 : Nat → Int32) (d8 : Nat → Int32) (g8 : Nat → Int32) (Fv : Nat) (o8 : List (Nat × Nat)) (f10 : Nat → va_E) (H : Heap) (locs : List Loc) (ls : Array Slot), (mn < i8 + k11) → (fb ≤ 1) → (i8 ≤ mn) → (mix ≤ i8) → (r8 + t8 + mix ≤ mdr + i8) → (mdr ≤ r8) → (OKW hW8 t8) → (p8 = mdp + cbr (wll hW8 t8)) → (p8 ≤ 10) → (EI fb (wll hW8 t8) (dpc d8 r8)) → (py_e (tk hT mn) 400 mix [] mdp true = py_e (tk hT mn) Fv i8 (wll hW8 t8) p8 (decide (fb = 1))) → (mn + 2 ≤ i8 + Fv) → (GC d8 g8 mdr r8) → (smd mdr d8 hQ) → (smd mdr g8 hG) → (oy_e (tk hT mn) (vc hT mn) 400 mix [] true = o8 ++ oy_e (tk hT mn) (vc hT mn) Fv i8 (wlk hW8 t8) (decide (fb = 1))) → (DS d8 g8 mdr o8) → (r8 = mdr + o8.length) → f10 M = .inr (10, [.int mth, .ref (g.lk M 1), .int (nI mn), .ref (g.lk M 3), .ref (g.lk M 4), .int (nI r8), .ref (g.lk M 6), .ref (g.lk M 7), .ref (g.lk M 8), .int (nI msz), .int (nI i8), .int (nI p8), .ref (g.lk M 12), .int (nI t8), .ref (g.lk M 14), .ref (g.lk M 15), .int (nI mop), .ref (g.lk M 17), .ref (g.lk M 18), .ref (g.lk M 19), .ref (g.lk M 20), .ref (g.lk M 21), .ref (g.lk M 22), .ref (g.lk M 23), .ref (g.lk M 24), .ref (g.lk M 25), .ref (g.lk M 26), .ref (g.lk M 27), .ref (g.lk M 28), .ref (g.lk M 29), .ref (g.lk M 30), .ref (g.lk M 31), .int (nI mtp), .ref (g.lk M 33), .ref (g.lk M 34), .ref (g.lk M 35), .int (nI mwa), .int (nI mgi), .int (nI mpc), .int (nI mst), .int (nI mtr), .int (nI msp), .int mma, .int mlg, .int mdu]) → f10 (g.lk M 3) = .inl (g.ac (g.lk M 3), 100, .inl (d8)) → f10 (g.lk M 4) = .inl (g.ac (g.lk M 4), 100, .inl (g8)) → f10 (g.lk M 12) = .inl (g.ac (g.lk M 12), 72, .inl (hW8)) → IV g f10 → un [11, 41, 42, 46] g f1 f10 → lv_has ls 4 [(2, .int (nI 1)), (1, .int (nI fb)), (0, .ref M)] → va_P g.D vcl (va_pl g.LP f10) H → va_D (pc_A g s.heap.size) (va_pl g.LP f10) → va_S (pc_A g s.heap.size) s.heap H locs → W p l e ({ frames := 2, cells := 0, slots := 0, locals := 44 }) s m args below meth c H locs 0 0 (MQ below (va_Qi (fun r f1 => ((∃ (a n1 : Nat) (d1 g1 : Nat → Int32), py_e (tk hT mn) 400 mix [] mdp true = some (a, mdp) ∧ mix < a ∧ a ≤ mn ∧ mdr < n1 ∧ n1 + mix ≤ mdr + a ∧ GC d1 g1 mdr n1 ∧ dpc d1 n1 = 1 ∧ smd mdr d1 hQ ∧ smd mdr g1 hG ∧ n1 = mdr + (oy_e (tk hT mn) (vc hT mn) 400 mix [] true).length ∧ DS d1 g1 mdr (oy_e (tk hT mn) (vc hT mn) 400 mix [] true) ∧ f1 M = .inr (10, [.int mth, .ref (g.lk M 1), .int (nI mn), .ref (g.lk M 3), .ref (g.lk M 4), .int (nI n1), .ref (g.lk M 6), .ref (g.lk M 7), .ref (g.lk M 8), .int (nI msz), .int (nI a), .int (nI mdp), .ref (g.lk M 12), .int (nI 0), .ref (g.lk M 14), .ref (g.lk M 15), .int (nI mop), .ref (g.lk M 17), .ref (g.lk M 18), .ref (g.lk M 19), .ref (g.lk M 20), .ref (g.lk M 21), .ref (g.lk M 22), .ref (g.lk M 23), .ref (g.lk M 24), .ref (g.lk M 25), .ref (g.lk M 26), .ref (g.lk M 27), .ref (g.lk M 28), .ref (g.lk M 29), .ref (g.lk M 30), .ref (g.lk M 31), .int (nI mtp), .ref (g.lk M 33), .ref (g.lk M 34), .ref (g.lk M 35), .int (nI mwa), .int (nI mgi), .int (nI mpc), .int (nI mst), .int (nI mtr), .int (nI msp), .int mma, .int mlg, .int mdu]) ∧ f1 (g.lk M 3) = .inl (g.ac (g.lk M 3), 100, .inl d1) ∧ f1 (g.lk M 4) = .inl (g.ac (g.lk M 4), 100, .inl g1) ∧ r = nI 1) ∨ (py_e (tk hT mn) 400 mix [] mdp true = none ∧ (∃ (ix1 dp1 dr1 wt1 : Nat), ix1 ≤ 80 ∧ dp1 ≤ 12 ∧ dr1 ≤ 80 ∧ wt1 ≤ 72 ∧ f1 M = .inr (10, [.int mth, .ref (g.lk M 1), .int (nI mn), .ref (g.lk M 3), .ref (g.lk M 4), .int (nI dr1), .ref (g.lk M 6), .ref (g.lk M 7), .ref (g.lk M 8), .int (nI msz), .int (nI ix1), .int (nI dp1), .ref (g.lk M 12), .int (nI wt1), .ref (g.lk M 14), .ref (g.lk M 15), .int (nI mop), .ref (g.lk M 17), .ref (g.lk M 18), .ref (g.lk M 19), .ref (g.lk M 20), .ref (g.lk M 21), .ref (g.lk M 22), .ref (g.lk M 23), .ref (g.lk M 24), .ref (g.lk M 25), .ref (g.lk M 26), .ref (g.lk M 27), .ref (g.lk M 28), .ref (g.lk M 29), .ref (g.lk M 30), .ref (g.lk M 31), .int (nI mtp), .ref (g.lk M 33), .ref (g.lk M 34), .ref (g.lk M 35), .int (nI mwa), .int (nI mgi), .int (nI mpc), .int (nI mst), .int (nI mtr), .int (nI msp), .int mma, .int mlg, .int mdu])) ∧ r = nI 0)) ∧ (IV g f1) ∧ (un [11, 41, 42, 46] g f f1)) (pc_out g s.heap.size) (pc_A g s.heap.size)) args s 0 0 (pc_A g s.heap.size)) (F0 m 9 ls []) := by
    intro k11
    induction k11 with
    | zero => intros; exfalso; omega
    | succ k11 ih12 =>
      intro fb i8 t8 p8 r8 hW8 d8 g8 Fv o8 f10 H locs ls hfu13 hfb hi8 hix8 hsum hr8 hok hp8 hp10 hei hpy hFv hgc hsd hsg hoy hds hro e14 e15 e16 e17 hI18 hv19 hl hP hD hS
      have eT := hv19.at (lo_k11_1 hL _ t_M) (by decide) eT
      have hu := hu.tr hv19 (by decide)
      obtain ⟨Fw, rfl⟩ : ∃ Fw, Fv = Fw + 1 := ⟨Fv - 1, by omega⟩
      rcases (show fb = 0 ∨ fb = 1 by omega) with rfl | rfl
      · skip
        have hl : lv_has ls 4 [(2, .int (nI 1)), (1, .int (nI 0)), (0, .ref M)] := hl
        obtain ⟨e1, e2⟩ := hei.2 rfl
        have hpy1 : py_e (tk hT mn) 400 mix [] mdp true = py_e (tk hT mn) (Fw + 1) i8 (wll hW8 t8) p8 false := hpy
        have hoy1 : oy_e (tk hT mn) (vc hT mn) 400 mix [] true = o8 ++ oy_e (tk hT mn) (vc hT mn) (Fw + 1) i8 (wlk hW8 t8) false := hoy
        refine lv_iload_n hx hb d_M_expr_9 rfl (lv_at hl 0 rfl) ?_
        refine lv_if_eq (tgt := 284) hx hb d_M_expr_10 (by decide) (fun b20 => ?_) (fun b20 => ?_)
        · skip
          replace b20 := (nI_eq (a := 1) (b := 0) (by omega) (by omega)).mp b20
          exfalso; omega
        · skip
          replace b20 := mt (nI_eq (a := 1) (b := 0) (by omega) (by omega)).mpr b20
          refine lv_aload_n hx hb d_M_expr_13 rfl (lv_at hl 2 rfl) ?_
          refine pcc_i (va_runV (C := "BigRunnerModel") (As := []) (rest := []) ⟨hx, hb, hml, hown, tb_nil⟩ (m_here l g H.size f10 M mth mn r8 msz i8 p8 t8 mop mtp mwa mgi mpc mst mtr msp mma mlg mdu hT hL t_M hI18.1 e14 ⟨(by omega), (by omega), (by omega), (by omega), (by omega), (by omega), (by omega), (by omega), (by omega), (by omega), (by omega), (by omega), (by omega), (by omega), hmb14⟩ eT cT) ⟨(callB_of 0 (tb_one (wd_1111 hB _)) tb_good1 rfl rfl rfl (wd_82 hB _) (wd_1108 hB _) (by decide +kernel) ⟨Nat.le_of_ble_eq_true rfl, Nat.le_of_ble_eq_true rfl⟩), (wd_1110 hB _), (wd_43 hB _)⟩ ⟨pe_bl, pg_recv (ci := 10) hK hP (lo_in hL t_M (by decide)) e14 rfl, pe_pre hB hK hP hD⟩ rfl rfl hl.1 rfl (lv_room (Nat.le_of_ble_eq_true rfl)) d_M_expr_14 ⟨Nat.le_of_ble_eq_true rfl, Nat.le_of_ble_eq_true rfl⟩) hS (fun r21 f22 H locs hq23 hP hD hS => ?_)
          obtain ⟨nx_24, rfl⟩ := hq23
          subst nx_24
          refine lv_istore_n (lv' := [(3, .int (nxm hT mn i8)), (2, .int (nI 1)), (1, .int (nI 0)), (0, .ref M)]) hx hb d_M_expr_17 rfl hl (by decide) rfl (fun ls hl => ?_)
          refine lv_iload_n hx hb d_M_expr_18 rfl (lv_at hl 2 rfl) ?_
          refine lv_if_eq (tgt := 160) hx hb d_M_expr_19 (by decide) (fun b25 => ?_) (fun b25 => ?_)
          · skip
            replace b25 := (nI_eq (a := 0) (b := 0) (by omega) (by omega)).mp b25
            refine lv_iload_n hx hb d_M_expr_160 rfl (lv_at hl 0 rfl) ?_
            refine pcc_i (va_runS (As := [.int (nxm hT mn i8)]) (rest := []) ⟨hx, hb, hml, hown, tb_nil⟩ (m2_kindOf l g H.size f10 ((nxm hT mn i8)) hL hI18.1) ⟨(callB_of 1 (tb_one (wd_1136 hB _)) tb_good1 rfl rfl rfl (wd_82 hB _) (wd_1134 hB _) (by decide +kernel) ⟨Nat.le_of_ble_eq_true rfl, Nat.le_of_ble_eq_true rfl⟩), (wd_1135 hB _)⟩ ⟨pe_bl, pe_pre hB hK hP hD⟩ rfl rfl hl.1 rfl (lv_room (Nat.le_of_ble_eq_true rfl)) d_M_expr_161 ⟨Nat.le_of_ble_eq_true rfl, Nat.le_of_ble_eq_true rfl⟩) hS (fun r26 f27 H locs hq28 hP hD hS => ?_)
            obtain ⟨ko_29, rfl⟩ := hq28
            obtain ⟨kr30, hkr30_0, hkr30_1, hkr30_2, rfl⟩ := ko_29
            refine lv_if_le (tgt := 219) hx hb d_M_expr_164 (by decide) (fun b31 => ?_) (fun b31 => ?_)
            · skip
              replace b31 := (nI_leI (a := kr30) (b := 0) (by omega) (by omega)).mp b31
              have hkn := ko_0 hkr30_1 (by omega)
              rw [tkm] at hkn
              obtain ⟨hk1, hk2, hk3⟩ := hkn
              refine lv_aload_n hx hb d_M_expr_219 rfl (lv_at hl 3 rfl) ?_
              refine lv_iconst (v := nI 1) hx hb d_M_expr_220 (by decide) ?_
              refine pcc_v (va_runV (C := "BigRunnerModel") (As := [.int (nI 1)]) (rest := []) ⟨hx, hb, hml, hown, tb_nil⟩ (m2_release l g H.size f10 M mth mn r8 msz i8 p8 t8 mop mtp mwa mgi mpc mst mtr msp mma mlg mdu d8 g8 hW8 mdr 1 hL t_M hI18 e14 ⟨(by omega), (by omega), (by omega), (by omega), (by omega), (by omega), (by omega), (by omega), (by omega), (by omega), (by omega), (by omega), (by omega), (by omega), hmb14⟩ e15 e16 e17 (by omega) (by omega) e2 e1 hok hgc) ⟨(callB_of 1 (tb_one (wd_1140 hB _)) tb_good1 rfl rfl rfl (wd_82 hB _) (wd_1137 hB _) (by decide +kernel) ⟨Nat.le_of_ble_eq_true rfl, Nat.le_of_ble_eq_true rfl⟩), (wd_1139 hB _), (wd_48 hB _)⟩ ⟨pe_bl, pg_recv (ci := 10) hK hP (lo_in hL t_M (by decide)) e14 rfl, pe_pre hB hK hP hD⟩ rfl rfl hl.1 rfl (lv_room (Nat.le_of_ble_eq_true rfl)) d_M_expr_221 ⟨Nat.le_of_ble_eq_true rfl, Nat.le_of_ble_eq_true rfl⟩) hS (fun f33 H locs hq34 hP hD hS => ?_)
              obtain ⟨x1_35, hI1_36, hu1_37⟩ := hq34
              have hu := hu.tr hu1_37 (by decide)
              have hv19 := hv19.tr hu1_37 (by decide)
              have eT := hu1_37.at (lo_k11_1 hL _ t_M) (by decide) eT
              have e17 := hu1_37.at (lo_k11_12 hL _ t_M) (by decide) e17
              obtain ⟨wt_38, dr_39, d_40, g_41, c42, c43, c44, c45, c46, c47, c48, c49, c50, c51, c52, c53, e54, e55, e56⟩ := x1_35
              refine lv_iload_n hx hb d_M_expr_224 rfl (lv_at hl 0 rfl) ?_
              refine lv_bipush (v := nI 41) hx hb d_M_expr_225 (by decide) ?_
              refine lv_icmp_ne (tgt := 241) hx hb d_M_expr_227 (by decide) (fun b57 => ?_) (fun b57 => ?_)
              · skip
                have hk5 : tk hT mn i8 ≠ 5 := fun z => b57 (kc_5.mp ((tkm hT mn i8).trans z))
                refine lv_iconst (v := nI 0) hx hb d_M_expr_241 (by decide) ?_
                refine lv_istore_n (lv' := [(2, .int (nI 0)), (3, .int (nxm hT mn i8)), (1, .int (nI 0)), (0, .ref M)]) hx hb d_M_expr_242 rfl hl (by decide) rfl (fun ls hl => ?_)
                refine lv_iload_n hx hb d_M_expr_243 rfl (lv_at hl 0 rfl) ?_
                refine lv_if_eq (tgt := 281) hx hb d_M_expr_244 (by decide) (fun b58 => ?_) (fun b58 => ?_)
                · skip
                  replace b58 := (nI_eq (a := 0) (b := 0) (by omega) (by omega)).mp b58
                  refine lv_goto (tgt := 9) hx hb d_M_expr_281 (by decide) ?_
                  refine lv_iload_n hx hb d_M_expr_9 rfl (lv_at hl 0 rfl) ?_
                  refine lv_if_eq (tgt := 284) hx hb d_M_expr_10 (by decide) (fun b59 => ?_) (fun b59 => ?_)
                  · skip
                    replace b59 := (nI_eq (a := 0) (b := 0) (by omega) (by omega)).mp b59
                    refine lv_aload_n hx hb d_M_expr_284 rfl (lv_at hl 3 rfl) ?_
                    refine pf_get (v := .int (nI wt_38)) (C := "BigRunnerModel") (T := FT10) (N := 45) hx hb (hw10 hB _) (fun _ h9 => h9) hown hK hP (lo_in hL t_M (by decide)) e54 rfl 13 (by decide) (wd_960 hB _) rfl d_M_expr_285 ?_
                    refine lv_if_ne (tgt := 295) hx hb d_M_expr_288 (by decide) (fun b60 => ?_) (fun b60 => ?_)
                    · skip
                      replace b60 := mt (nI_eq (a := wt_38) (b := 0) (by omega) (by omega)).mpr b60
                      refine lv_iconst (v := nI 0) hx hb d_M_expr_295 (by decide) ?_
                      have hnn : ¬ py_rel 1 (wll hW8 t8) = [] := fun z => by have := wll_nil (c44.trans z); omega
                      exact pe_zret hx hb hr hlocks hK hP hD hS d_M_expr_296 rfl ⟨(Or.inr ⟨(hpy1.trans (by rw [py_eF, if_neg (by omega), if_neg (by omega), if_neg (fun z => hk5 z.1), if_neg hnn])), ⟨i8, p8, dr_39, wt_38, by omega, by omega, by omega, by omega, e54⟩, rfl⟩), hI1_36, hu⟩
                    · skip
                      replace b60 := (nI_eq (a := wt_38) (b := 0) (by omega) (by omega)).mp b60
                      refine lv_iconst (v := nI 1) hx hb d_M_expr_291 (by decide) ?_
                      refine lv_goto (tgt := 296) hx hb d_M_expr_292 (by decide) ?_
                      have hwt0 : wt_38 = 0 := by omega
                      have hnil := (show py_rel 1 (wll hW8 t8) = [] by rw [← c44, hwt0]; rfl)
                      have hc0 : cbr (wll hW8 t8) = 0 := by rw [← c46, hwt0]; rfl
                      have hpm : p8 = mdp := by omega
                      have hnd : dr_39 ≠ mdr := fun z => by have y1 := c47; rw [z, dpc_eq (smd_tr (smd_le c49 (show mdr ≤ r8 by omega)) hsd), hdp0] at y1; omega
                      have hoe : oy_e (tk hT mn) (vc hT mn) 400 mix [] true = o8 ++ oy_rel 1 (wlk hW8 t8) := hoy1.trans (by rw [oy_eF, if_neg (by omega), if_neg (by omega), if_neg (fun z => z.2 (by rw [← c51, hwt0]; rfl))])
                      exact pe_zret hx hb hr hlocks hK hP hD hS d_M_expr_296 rfl ⟨(Or.inl ⟨i8, dr_39, _, _, (hpy1.trans (by rw [py_eF, if_neg (by omega), if_neg (by omega), if_neg (fun z => z.2 hnil), if_pos hnil, hpm])), by omega, by omega, by omega, by omega, c48, (by rw [c47, hwt0]; rfl), (smd_tr (smd_le c49 (by omega)) hsd), (smd_tr (smd_le c50 (by omega)) hsg), (by rw [hoe, List.length_append]; omega), (by rw [hoe]; exact DS_cat hds hro c49 c50 c53), (by have z := e54; rw [hwt0, hpm] at z; exact z), e55, e56, rfl⟩), hI1_36, hu⟩
                  · skip
                    replace b59 := mt (nI_eq (a := 0) (b := 0) (by omega) (by omega)).mpr b59
                    exfalso; omega
                · skip
                  replace b58 := mt (nI_eq (a := 0) (b := 0) (by omega) (by omega)).mpr b58
                  exfalso; omega
              · skip
                have hk5 : tk hT mn i8 = 5 := (tkm hT mn i8).symm.trans (kc_5.mpr b57)
                have hl9 : i8 < mn := tk_in (h := hT) (by omega)
                refine lv_aload_n hx hb d_M_expr_230 rfl (lv_at hl 3 rfl) ?_
                refine pf_get (v := .int (nI wt_38)) (C := "BigRunnerModel") (T := FT10) (N := 45) hx hb (hw10 hB _) (fun _ h9 => h9) hown hK hP (lo_in hL t_M (by decide)) e54 rfl 13 (by decide) (wd_960 hB _) rfl d_M_expr_231 ?_
                refine lv_if_le (tgt := 241) hx hb d_M_expr_234 (by decide) (fun b61 => ?_) (fun b61 => ?_)
                · skip
                  replace b61 := (nI_leI (a := wt_38) (b := 0) (by omega) (by omega)).mp b61
                  refine lv_iconst (v := nI 0) hx hb d_M_expr_241 (by decide) ?_
                  refine lv_istore_n (lv' := [(2, .int (nI 0)), (3, .int (nxm hT mn i8)), (1, .int (nI 0)), (0, .ref M)]) hx hb d_M_expr_242 rfl hl (by decide) rfl (fun ls hl => ?_)
                  refine lv_iload_n hx hb d_M_expr_243 rfl (lv_at hl 0 rfl) ?_
                  refine lv_if_eq (tgt := 281) hx hb d_M_expr_244 (by decide) (fun b62 => ?_) (fun b62 => ?_)
                  · skip
                    replace b62 := (nI_eq (a := 0) (b := 0) (by omega) (by omega)).mp b62
                    refine lv_goto (tgt := 9) hx hb d_M_expr_281 (by decide) ?_
                    refine lv_iload_n hx hb d_M_expr_9 rfl (lv_at hl 0 rfl) ?_
                    refine lv_if_eq (tgt := 284) hx hb d_M_expr_10 (by decide) (fun b63 => ?_) (fun b63 => ?_)
                    · skip
                      replace b63 := (nI_eq (a := 0) (b := 0) (by omega) (by omega)).mp b63
                      refine lv_aload_n hx hb d_M_expr_284 rfl (lv_at hl 3 rfl) ?_
                      refine pf_get (v := .int (nI wt_38)) (C := "BigRunnerModel") (T := FT10) (N := 45) hx hb (hw10 hB _) (fun _ h9 => h9) hown hK hP (lo_in hL t_M (by decide)) e54 rfl 13 (by decide) (wd_960 hB _) rfl d_M_expr_285 ?_
                      refine lv_if_ne (tgt := 295) hx hb d_M_expr_288 (by decide) (fun b64 => ?_) (fun b64 => ?_)
                      · skip
                        replace b64 := mt (nI_eq (a := wt_38) (b := 0) (by omega) (by omega)).mpr b64
                        exfalso; omega
                      · skip
                        replace b64 := (nI_eq (a := wt_38) (b := 0) (by omega) (by omega)).mp b64
                        refine lv_iconst (v := nI 1) hx hb d_M_expr_291 (by decide) ?_
                        refine lv_goto (tgt := 296) hx hb d_M_expr_292 (by decide) ?_
                        have hwt0 : wt_38 = 0 := by omega
                        have hnil := (show py_rel 1 (wll hW8 t8) = [] by rw [← c44, hwt0]; rfl)
                        have hc0 : cbr (wll hW8 t8) = 0 := by rw [← c46, hwt0]; rfl
                        have hpm : p8 = mdp := by omega
                        have hnd : dr_39 ≠ mdr := fun z => by have y1 := c47; rw [z, dpc_eq (smd_tr (smd_le c49 (show mdr ≤ r8 by omega)) hsd), hdp0] at y1; omega
                        have hoe : oy_e (tk hT mn) (vc hT mn) 400 mix [] true = o8 ++ oy_rel 1 (wlk hW8 t8) := hoy1.trans (by rw [oy_eF, if_neg (by omega), if_neg (by omega), if_neg (fun z => z.2 (by rw [← c51, hwt0]; rfl))])
                        exact pe_zret hx hb hr hlocks hK hP hD hS d_M_expr_296 rfl ⟨(Or.inl ⟨i8, dr_39, _, _, (hpy1.trans (by rw [py_eF, if_neg (by omega), if_neg (by omega), if_neg (fun z => z.2 hnil), if_pos hnil, hpm])), by omega, by omega, by omega, by omega, c48, (by rw [c47, hwt0]; rfl), (smd_tr (smd_le c49 (by omega)) hsd), (smd_tr (smd_le c50 (by omega)) hsg), (by rw [hoe, List.length_append]; omega), (by rw [hoe]; exact DS_cat hds hro c49 c50 c53), (by have z := e54; rw [hwt0, hpm] at z; exact z), e55, e56, rfl⟩), hI1_36, hu⟩
                    · skip
                      replace b63 := mt (nI_eq (a := 0) (b := 0) (by omega) (by omega)).mpr b63
                      exfalso; omega
                  · skip
                    replace b62 := mt (nI_eq (a := 0) (b := 0) (by omega) (by omega)).mpr b62
                    exfalso; omega
                · skip
                  replace b61 := mt (nI_leI (a := wt_38) (b := 0) (by omega) (by omega)).mpr b61
                  refine lv_iconst (v := nI 1) hx hb d_M_expr_237 (by decide) ?_
                  refine lv_goto (tgt := 242) hx hb d_M_expr_238 (by decide) ?_
                  refine lv_istore_n (lv' := [(2, .int (nI 1)), (3, .int (nxm hT mn i8)), (1, .int (nI 0)), (0, .ref M)]) hx hb d_M_expr_242 rfl hl (by decide) rfl (fun ls hl => ?_)
                  refine lv_iload_n hx hb d_M_expr_243 rfl (lv_at hl 0 rfl) ?_
                  refine lv_if_eq (tgt := 281) hx hb d_M_expr_244 (by decide) (fun b65 => ?_) (fun b65 => ?_)
                  · skip
                    replace b65 := (nI_eq (a := 1) (b := 0) (by omega) (by omega)).mp b65
                    exfalso; omega
                  · skip
                    replace b65 := mt (nI_eq (a := 1) (b := 0) (by omega) (by omega)).mpr b65
                    have hS44 := wlk_s hW8 (show 0 < wt_38 by omega)
                    obtain ⟨S4, hS40⟩ := (rel_1 (wll hW8 t8)).resolve_left (fun z => by have := wll_nil (c44.trans z); omega)
                    have hS41 := wll_s hW8 (show 0 < wt_38 by omega)
                    have hS42 : wcc (hW8 (wt_38 - 1)) = 4 := by have z := hS41.symm.trans (c44.trans hS40); injection z
                    have hS43 : wlk hW8 wt_38 = 9 :: wlk hW8 (wt_38 - 1) := by rw [hS44, show hW8 (wt_38 - 1) = nI 40 from wcc_4 hS42]; rfl
                    have hS4 : wll hW8 wt_38 = 4 :: wll hW8 (wt_38 - 1) := by rw [hS41, hS42]
                    have hn8t : n8t (wll hW8 (wt_38 - 1)) := n8_4 (by rw [← hS4]; exact c45)
                    have hc4 : cbr (wll hW8 wt_38) = 1 + cbr (wll hW8 (wt_38 - 1)) := by rw [hS4, cbr_c, if_pos (Or.inl rfl)]
                    have hnb4 : nbS (wll hW8 wt_38) = nbS (wll hW8 (wt_38 - 1)) := by rw [hS4, nbS_c, if_pos (Or.inl rfl)]; omega
                    have c49z := smd_le c49 (show mdr ≤ r8 by omega)
                    have c50z := smd_le c50 (show mdr ≤ r8 by omega)
                    refine lv_aload_n hx hb d_M_expr_247 rfl (lv_at hl 3 rfl) ?_
                    refine lv_dup hx hb d_M_expr_248 rfl ?_
                    refine pf_get (v := .int (nI wt_38)) (C := "BigRunnerModel") (T := FT10) (N := 45) hx hb (hw10 hB _) (fun _ h9 => h9) hown hK hP (lo_in hL t_M (by decide)) e54 rfl 13 (by decide) (wd_960 hB _) rfl d_M_expr_249 ?_
                    refine lv_iconst (v := nI 1) hx hb d_M_expr_252 (by decide) ?_
                    refine pf_isubN (x := wt_38) (y := 1) hx hb (by omega) d_M_expr_253 ?_
                    refine pf_put (v := .int (nI (wt_38 - 1))) (ty := .int) (fs' := [.int mth, .ref (g.lk M 1), .int (nI mn), .ref (g.lk M 3), .ref (g.lk M 4), .int (nI dr_39), .ref (g.lk M 6), .ref (g.lk M 7), .ref (g.lk M 8), .int (nI msz), .int (nI i8), .int (nI p8), .ref (g.lk M 12), .int (nI (wt_38 - 1)), .ref (g.lk M 14), .ref (g.lk M 15), .int (nI mop), .ref (g.lk M 17), .ref (g.lk M 18), .ref (g.lk M 19), .ref (g.lk M 20), .ref (g.lk M 21), .ref (g.lk M 22), .ref (g.lk M 23), .ref (g.lk M 24), .ref (g.lk M 25), .ref (g.lk M 26), .ref (g.lk M 27), .ref (g.lk M 28), .ref (g.lk M 29), .ref (g.lk M 30), .ref (g.lk M 31), .int (nI mtp), .ref (g.lk M 33), .ref (g.lk M 34), .ref (g.lk M 35), .int (nI mwa), .int (nI mgi), .int (nI mpc), .int (nI mst), .int (nI mtr), .int (nI msp), .int mma, .int mlg, .int mdu]) (C := "BigRunnerModel") (T := FT10) (N := 45) hx hb (hw10 hB _) (fun _ h9 => h9) TY10 ok10 nm10 hown hK hP hD hS (lo_in hL t_M (by decide)) e54 rfl 13 (by decide) (wd_960 hB _) rfl (by decide +kernel) rfl rfl (Nat.le_of_ble_eq_true rfl) rfl d_M_expr_254 (fun f66 H locs e67 k68 hP hD hS => ?_)
                    have eT := (k68 (g.lk M 1) (tg_ne (lo_k11_1 hL _ t_M) t_M (by decide))).trans eT
                    have e17 := (k68 (g.lk M 12) (tg_ne (lo_k11_12 hL _ t_M) t_M (by decide))).trans e17
                    have e55 := (k68 (g.lk M 3) (tg_ne (lo_k11_3 hL _ t_M) t_M (by decide))).trans e55
                    have e56 := (k68 (g.lk M 4) (tg_ne (lo_k11_4 hL _ t_M) t_M (by decide))).trans e56
                    have hu := hu.st k68 t_M (by decide)
                    have hv19 := hv19.st k68 t_M (by decide)
                    have hk69 : ∀ b, b ≠ M → f66 b = f33 b := k68
                    refine lv_aload_n hx hb d_M_expr_257 rfl (lv_at hl 3 rfl) ?_
                    refine lv_dup hx hb d_M_expr_258 rfl ?_
                    refine pf_get (v := .int (nI p8)) (C := "BigRunnerModel") (T := FT10) (N := 45) hx hb (hw10 hB _) (fun _ h9 => h9) hown hK hP (lo_in hL t_M (by decide)) e67 rfl 11 (by decide) (wd_958 hB _) rfl d_M_expr_259 ?_
                    refine lv_iconst (v := nI 1) hx hb d_M_expr_262 (by decide) ?_
                    refine pf_isubN (x := p8) (y := 1) hx hb (by omega) d_M_expr_263 ?_
                    refine pf_put (v := .int (nI (p8 - 1))) (ty := .int) (fs' := [.int mth, .ref (g.lk M 1), .int (nI mn), .ref (g.lk M 3), .ref (g.lk M 4), .int (nI dr_39), .ref (g.lk M 6), .ref (g.lk M 7), .ref (g.lk M 8), .int (nI msz), .int (nI i8), .int (nI (p8 - 1)), .ref (g.lk M 12), .int (nI (wt_38 - 1)), .ref (g.lk M 14), .ref (g.lk M 15), .int (nI mop), .ref (g.lk M 17), .ref (g.lk M 18), .ref (g.lk M 19), .ref (g.lk M 20), .ref (g.lk M 21), .ref (g.lk M 22), .ref (g.lk M 23), .ref (g.lk M 24), .ref (g.lk M 25), .ref (g.lk M 26), .ref (g.lk M 27), .ref (g.lk M 28), .ref (g.lk M 29), .ref (g.lk M 30), .ref (g.lk M 31), .int (nI mtp), .ref (g.lk M 33), .ref (g.lk M 34), .ref (g.lk M 35), .int (nI mwa), .int (nI mgi), .int (nI mpc), .int (nI mst), .int (nI mtr), .int (nI msp), .int mma, .int mlg, .int mdu]) (C := "BigRunnerModel") (T := FT10) (N := 45) hx hb (hw10 hB _) (fun _ h9 => h9) TY10 ok10 nm10 hown hK hP hD hS (lo_in hL t_M (by decide)) e67 rfl 11 (by decide) (wd_958 hB _) rfl (by decide +kernel) rfl rfl (Nat.le_of_ble_eq_true rfl) rfl d_M_expr_264 (fun f70 H locs e71 k72 hP hD hS => ?_)
                    have eT := (k72 (g.lk M 1) (tg_ne (lo_k11_1 hL _ t_M) t_M (by decide))).trans eT
                    have e17 := (k72 (g.lk M 12) (tg_ne (lo_k11_12 hL _ t_M) t_M (by decide))).trans e17
                    have e55 := (k72 (g.lk M 3) (tg_ne (lo_k11_3 hL _ t_M) t_M (by decide))).trans e55
                    have e56 := (k72 (g.lk M 4) (tg_ne (lo_k11_4 hL _ t_M) t_M (by decide))).trans e56
                    have hu := hu.st k72 t_M (by decide)
                    have hv19 := hv19.st k72 t_M (by decide)
                    have hk73 : ∀ b, b ≠ M → f70 b = f33 b := fun b q0 => (k72 b q0).trans (hk69 b q0)
                    refine lv_aload_n hx hb d_M_expr_267 rfl (lv_at hl 3 rfl) ?_
                    refine lv_dup hx hb d_M_expr_268 rfl ?_
                    refine pf_get (v := .int (nI i8)) (C := "BigRunnerModel") (T := FT10) (N := 45) hx hb (hw10 hB _) (fun _ h9 => h9) hown hK hP (lo_in hL t_M (by decide)) e71 rfl 10 (by decide) (wd_957 hB _) rfl d_M_expr_269 ?_
                    refine lv_iconst (v := nI 1) hx hb d_M_expr_272 (by decide) ?_
                    refine pf_iaddN (x := i8) (y := 1) hx hb d_M_expr_273 ?_
                    refine pf_put (v := .int (nI (i8 + 1))) (ty := .int) (fs' := [.int mth, .ref (g.lk M 1), .int (nI mn), .ref (g.lk M 3), .ref (g.lk M 4), .int (nI dr_39), .ref (g.lk M 6), .ref (g.lk M 7), .ref (g.lk M 8), .int (nI msz), .int (nI (i8 + 1)), .int (nI (p8 - 1)), .ref (g.lk M 12), .int (nI (wt_38 - 1)), .ref (g.lk M 14), .ref (g.lk M 15), .int (nI mop), .ref (g.lk M 17), .ref (g.lk M 18), .ref (g.lk M 19), .ref (g.lk M 20), .ref (g.lk M 21), .ref (g.lk M 22), .ref (g.lk M 23), .ref (g.lk M 24), .ref (g.lk M 25), .ref (g.lk M 26), .ref (g.lk M 27), .ref (g.lk M 28), .ref (g.lk M 29), .ref (g.lk M 30), .ref (g.lk M 31), .int (nI mtp), .ref (g.lk M 33), .ref (g.lk M 34), .ref (g.lk M 35), .int (nI mwa), .int (nI mgi), .int (nI mpc), .int (nI mst), .int (nI mtr), .int (nI msp), .int mma, .int mlg, .int mdu]) (C := "BigRunnerModel") (T := FT10) (N := 45) hx hb (hw10 hB _) (fun _ h9 => h9) TY10 ok10 nm10 hown hK hP hD hS (lo_in hL t_M (by decide)) e71 rfl 10 (by decide) (wd_957 hB _) rfl (by decide +kernel) rfl rfl (Nat.le_of_ble_eq_true rfl) rfl d_M_expr_274 (fun f74 H locs e75 k76 hP hD hS => ?_)
                    have eT := (k76 (g.lk M 1) (tg_ne (lo_k11_1 hL _ t_M) t_M (by decide))).trans eT
                    have e17 := (k76 (g.lk M 12) (tg_ne (lo_k11_12 hL _ t_M) t_M (by decide))).trans e17
                    have e55 := (k76 (g.lk M 3) (tg_ne (lo_k11_3 hL _ t_M) t_M (by decide))).trans e55
                    have e56 := (k76 (g.lk M 4) (tg_ne (lo_k11_4 hL _ t_M) t_M (by decide))).trans e56
                    have hu := hu.st k76 t_M (by decide)
                    have hv19 := hv19.st k76 t_M (by decide)
                    have hk77 : ∀ b, b ≠ M → f74 b = f33 b := fun b q0 => (k76 b q0).trans (hk73 b q0)
                    refine lv_aload_n hx hb d_M_expr_277 rfl (lv_at hl 3 rfl) ?_
                    have hI78 := iv_1 hI1_36 hL t_M (by decide) hk77 (oc_11.mk t_M (⟨mth, mn, dr_39, msz, (i8 + 1), (p8 - 1), (wt_38 - 1), mop, mtp, mwa, mgi, mpc, mst, mtr, msp, mma, mlg, mdu, e75, (by omega), (by omega), (by omega), (by omega), (by omega), (by omega), (by omega), (by omega), (by omega), (by omega), (by omega), (by omega), (by omega), (by omega), hmb14⟩))
                    refine pcc_v (va_runV (C := "BigRunnerModel") (As := []) (rest := []) ⟨hx, hb, hml, hown, tb_nil⟩ (m2_negate l g H.size f74 M mth mn dr_39 msz ((i8 + 1)) ((p8 - 1)) ((wt_38 - 1)) mop mtp mwa mgi mpc mst mtr msp mma mlg mdu d_40 g_41 hW8 mdr hL t_M hI78 e75 ⟨(by omega), (by omega), (by omega), (by omega), (by omega), (by omega), (by omega), (by omega), (by omega), (by omega), (by omega), (by omega), (by omega), (by omega), hmb14⟩ e55 e56 e17 (by omega) (by rw [c47]; omega) (by omega) c48) ⟨(callB_of 0 (tb_one (wd_1126 hB _)) tb_good1 rfl rfl rfl (wd_82 hB _) (wd_1123 hB _) (by decide +kernel) ⟨Nat.le_of_ble_eq_true rfl, Nat.le_of_ble_eq_true rfl⟩), (wd_1125 hB _), (wd_46 hB _)⟩ ⟨pe_bl, pg_recv (ci := 10) hK hP (lo_in hL t_M (by decide)) e75 rfl, pe_pre hB hK hP hD⟩ rfl rfl hl.1 rfl (lv_room (Nat.le_of_ble_eq_true rfl)) d_M_expr_278 ⟨Nat.le_of_ble_eq_true rfl, Nat.le_of_ble_eq_true rfl⟩) hS (fun f80 H locs hq81 hP hD hS => ?_)
                    obtain ⟨x1_82, hI1_83, hu1_84⟩ := hq81
                    have hu := hu.tr hu1_84 (by decide)
                    have hv19 := hv19.tr hu1_84 (by decide)
                    have eT := hu1_84.at (lo_k11_1 hL _ t_M) (by decide) eT
                    have e17 := hu1_84.at (lo_k11_12 hL _ t_M) (by decide) e17
                    obtain ⟨wt_85, dp_86, dr_87, d_88, g_89, c90, c91, c92, c93, c94, c95, c96, c97, c98, c99, c100, c101, c102, e103, e104, e105⟩ := x1_82
                    refine lv_goto (tgt := 9) hx hb d_M_expr_281 (by decide) ?_
                    have hl : lv_has ls 4 [(2, .int (nI 1)), (1, .int (nI 0)), (0, .ref M)] := lv_sub hl [0, 2, 3] rfl
                    exact ih12 0 (i8 + 1) wt_85 dp_86 dr_87 hW8 d_88 g_89 Fw (o8 ++ oy_rel 1 (wlk hW8 t8) ++ oy_neg (wlk hW8 (wt_38 - 1))) f80 H locs ls (by omega) (by omega) (by omega) (by omega) (by omega) (by omega) (OKW_le hok (by omega)) (by omega) (by omega) (EI_0 (by have z := neg_n8 (p8 - 1) hn8t; rw [c93] at z; exact z) (by rw [c96, c47]; omega)) (hpy1.trans (by rw [py_eF, if_neg (by omega), if_neg (by omega), if_pos ⟨hk5, by rw [← c44, hS4]; simp⟩, ← c44, hS4]; show py_e (tk hT mn) Fw (i8 + 1) (py_neg (wll hW8 (wt_38 - 1)) (p8 - 1)).1 (py_neg (wll hW8 (wt_38 - 1)) (p8 - 1)).2 false = _; rw [c93]; rfl)) (by omega) c97 (smd_tr (smd_le c98 (by omega)) (smd_tr c49z hsd)) (smd_tr (smd_le c99 (by omega)) (smd_tr c50z hsg)) (hoy1.trans (by rw [oy_eF, if_neg (by omega), if_neg (by omega), if_pos ⟨hk5, by rw [(show ty_rel 1 (wlk hW8 t8) = 9 :: wlk hW8 (wt_38 - 1) by rw [← c51, hS43])]; simp⟩, (show ty_rel 1 (wlk hW8 t8) = 9 :: wlk hW8 (wt_38 - 1) by rw [← c51, hS43]), List.tail_cons, c100]; simp)) (DS_cat (DS_cat hds hro c49 c50 c53) (by rw [List.length_append]; omega) c98 c99 c102) (by rw [List.length_append, List.length_append]; omega) e103 e104 e105 e17 hI1_83 hv19 hl hP hD hS
            · skip
              replace b31 := mt (nI_leI (a := kr30) (b := 0) (by omega) (by omega)).mpr b31
              refine lv_aload_n hx hb d_M_expr_167 rfl (lv_at hl 3 rfl) ?_
              refine lv_iload_n hx hb d_M_expr_168 rfl (lv_at hl 0 rfl) ?_
              refine pcc_i (va_runS (As := [.int (nxm hT mn i8)]) (rest := [.ref M]) ⟨hx, hb, hml, hown, tb_nil⟩ (m2_kindOf l g H.size f10 ((nxm hT mn i8)) hL hI18.1) ⟨(callB_of 1 (tb_one (wd_1136 hB _)) tb_good1 rfl rfl rfl (wd_82 hB _) (wd_1134 hB _) (by decide +kernel) ⟨Nat.le_of_ble_eq_true rfl, Nat.le_of_ble_eq_true rfl⟩), (wd_1135 hB _)⟩ ⟨pe_bl, pe_pre hB hK hP hD⟩ rfl rfl hl.1 rfl (lv_room (Nat.le_of_ble_eq_true rfl)) d_M_expr_169 ⟨Nat.le_of_ble_eq_true rfl, Nat.le_of_ble_eq_true rfl⟩) hS (fun r106 f107 H locs hq108 hP hD hS => ?_)
              obtain ⟨ko_109, rfl⟩ := hq108
              obtain ⟨kr110, hkr110_0, hkr110_1, hkr110_2, rfl⟩ := ko_109
              refine lv_iconst (v := nI 3) hx hb d_M_expr_172 (by decide) ?_
              refine lv_icmp_le (tgt := 180) hx hb d_M_expr_173 (by decide) (fun b111 => ?_) (fun b111 => ?_)
              · skip
                replace b111 := (nI_leI (a := kr110) (b := 3) (by omega) (by omega)).mp b111
                refine lv_iconst (v := nI 1) hx hb d_M_expr_180 (by decide) ?_
                have hk12 := ko_1 hkr30_1 (by omega) hkr110_1 (by omega)
                have hk12t : tk hT mn i8 = 1 ∨ tk hT mn i8 = 2 := by rw [← tkm]; exact hk12
                have hl9 : i8 < mn := tk_in (h := hT) (by omega)
                have hnar := nxm_nar (i := i8) cT hmb0
                have hwx : wcc (vp_nar .char (nxm hT mn i8)) = 1 := by rw [hnar]; exact wcc_12 hk12
                refine pcc_v (va_runV (C := "BigRunnerModel") (As := [.int (nI 1)]) (rest := []) ⟨hx, hb, hml, hown, tb_nil⟩ (m2_release l g H.size f10 M mth mn r8 msz i8 p8 t8 mop mtp mwa mgi mpc mst mtr msp mma mlg mdu d8 g8 hW8 mdr 1 hL t_M hI18 e14 ⟨(by omega), (by omega), (by omega), (by omega), (by omega), (by omega), (by omega), (by omega), (by omega), (by omega), (by omega), (by omega), (by omega), (by omega), hmb14⟩ e15 e16 e17 (by omega) (by omega) e2 e1 hok hgc) ⟨(callB_of 1 (tb_one (wd_1140 hB _)) tb_good1 rfl rfl rfl (wd_82 hB _) (wd_1137 hB _) (by decide +kernel) ⟨Nat.le_of_ble_eq_true rfl, Nat.le_of_ble_eq_true rfl⟩), (wd_1139 hB _), (wd_48 hB _)⟩ ⟨pe_bl, pg_recv (ci := 10) hK hP (lo_in hL t_M (by decide)) e14 rfl, pe_pre hB hK hP hD⟩ rfl rfl hl.1 rfl (lv_room (Nat.le_of_ble_eq_true rfl)) d_M_expr_181 ⟨Nat.le_of_ble_eq_true rfl, Nat.le_of_ble_eq_true rfl⟩) hS (fun f113 H locs hq114 hP hD hS => ?_)
                obtain ⟨x1_115, hI1_116, hu1_117⟩ := hq114
                have hu := hu.tr hu1_117 (by decide)
                have hv19 := hv19.tr hu1_117 (by decide)
                have eT := hu1_117.at (lo_k11_1 hL _ t_M) (by decide) eT
                have e17 := hu1_117.at (lo_k11_12 hL _ t_M) (by decide) e17
                obtain ⟨wt_118, dr_119, d_120, g_121, c122, c123, c124, c125, c126, c127, c128, c129, c130, c131, c132, c133, e134, e135, e136⟩ := x1_115
                refine lv_aload_n hx hb d_M_expr_184 rfl (lv_at hl 3 rfl) ?_
                refine pf_get (v := .ref (g.lk M 12)) (C := "BigRunnerModel") (T := FT10) (N := 45) hx hb (hw10 hB _) (fun _ h9 => h9) hown hK hP (lo_in hL t_M (by decide)) e134 rfl 12 (by decide) (wd_959 hB _) rfl d_M_expr_185 ?_
                refine lv_aload_n hx hb d_M_expr_188 rfl (lv_at hl 3 rfl) ?_
                refine pf_get (v := .int (nI wt_118)) (C := "BigRunnerModel") (T := FT10) (N := 45) hx hb (hw10 hB _) (fun _ h9 => h9) hown hK hP (lo_in hL t_M (by decide)) e134 rfl 13 (by decide) (wd_960 hB _) rfl d_M_expr_189 ?_
                refine lv_iload_n hx hb d_M_expr_192 rfl (lv_at hl 0 rfl) ?_
                refine pf_cast (i := wt_118) hx hb hK hP hD hS (lo_in hL (lo_k11_12 hL _ t_M) (by decide)) e17 (lo_t46 hL _ (lo_k11_12 hL _ t_M)) (by omega) (by decide) d_M_expr_193 (fun f137 H locs e138 k139 hP hD hS => ?_)
                have eT := (k139 (g.lk M 1) (tg_ne (lo_k11_1 hL _ t_M) (lo_k11_12 hL _ t_M) (by decide))).trans eT
                have e134 := (k139 M (tg_ne t_M (lo_k11_12 hL _ t_M) (by decide))).trans e134
                have e135 := (k139 (g.lk M 3) (tg_ne (lo_k11_3 hL _ t_M) (lo_k11_12 hL _ t_M) (by decide))).trans e135
                have e136 := (k139 (g.lk M 4) (tg_ne (lo_k11_4 hL _ t_M) (lo_k11_12 hL _ t_M) (by decide))).trans e136
                have hu := hu.st k139 (lo_k11_12 hL _ t_M) (by decide)
                have hv19 := hv19.st k139 (lo_k11_12 hL _ t_M) (by decide)
                have hk140 : ∀ b, b ≠ (g.lk M 12) → f137 b = f113 b := k139
                refine lv_aload_n hx hb d_M_expr_194 rfl (lv_at hl 3 rfl) ?_
                refine lv_dup hx hb d_M_expr_195 rfl ?_
                refine pf_get (v := .int (nI wt_118)) (C := "BigRunnerModel") (T := FT10) (N := 45) hx hb (hw10 hB _) (fun _ h9 => h9) hown hK hP (lo_in hL t_M (by decide)) e134 rfl 13 (by decide) (wd_960 hB _) rfl d_M_expr_196 ?_
                refine lv_iconst (v := nI 1) hx hb d_M_expr_199 (by decide) ?_
                refine pf_iaddN (x := wt_118) (y := 1) hx hb d_M_expr_200 ?_
                have hI141 := iv_1 hI1_116 hL (lo_k11_12 hL _ t_M) (by decide) hk140 (oc_46.mk (lo_k11_12 hL _ t_M) (⟨_, e138⟩))
                refine pf_put (v := .int (nI (wt_118 + 1))) (ty := .int) (fs' := [.int mth, .ref (g.lk M 1), .int (nI mn), .ref (g.lk M 3), .ref (g.lk M 4), .int (nI dr_119), .ref (g.lk M 6), .ref (g.lk M 7), .ref (g.lk M 8), .int (nI msz), .int (nI i8), .int (nI p8), .ref (g.lk M 12), .int (nI (wt_118 + 1)), .ref (g.lk M 14), .ref (g.lk M 15), .int (nI mop), .ref (g.lk M 17), .ref (g.lk M 18), .ref (g.lk M 19), .ref (g.lk M 20), .ref (g.lk M 21), .ref (g.lk M 22), .ref (g.lk M 23), .ref (g.lk M 24), .ref (g.lk M 25), .ref (g.lk M 26), .ref (g.lk M 27), .ref (g.lk M 28), .ref (g.lk M 29), .ref (g.lk M 30), .ref (g.lk M 31), .int (nI mtp), .ref (g.lk M 33), .ref (g.lk M 34), .ref (g.lk M 35), .int (nI mwa), .int (nI mgi), .int (nI mpc), .int (nI mst), .int (nI mtr), .int (nI msp), .int mma, .int mlg, .int mdu]) (C := "BigRunnerModel") (T := FT10) (N := 45) hx hb (hw10 hB _) (fun _ h9 => h9) TY10 ok10 nm10 hown hK hP hD hS (lo_in hL t_M (by decide)) e134 rfl 13 (by decide) (wd_960 hB _) rfl (by decide +kernel) rfl rfl (Nat.le_of_ble_eq_true rfl) rfl d_M_expr_201 (fun f142 H locs e143 k144 hP hD hS => ?_)
                have eT := (k144 (g.lk M 1) (tg_ne (lo_k11_1 hL _ t_M) t_M (by decide))).trans eT
                have e135 := (k144 (g.lk M 3) (tg_ne (lo_k11_3 hL _ t_M) t_M (by decide))).trans e135
                have e136 := (k144 (g.lk M 4) (tg_ne (lo_k11_4 hL _ t_M) t_M (by decide))).trans e136
                have e138 := (k144 (g.lk M 12) (tg_ne (lo_k11_12 hL _ t_M) t_M (by decide))).trans e138
                have hu := hu.st k144 t_M (by decide)
                have hv19 := hv19.st k144 t_M (by decide)
                have hk145 : ∀ b, b ≠ M → f142 b = f137 b := k144
                refine lv_aload_n hx hb d_M_expr_204 rfl (lv_at hl 3 rfl) ?_
                refine lv_dup hx hb d_M_expr_205 rfl ?_
                refine pf_get (v := .int (nI i8)) (C := "BigRunnerModel") (T := FT10) (N := 45) hx hb (hw10 hB _) (fun _ h9 => h9) hown hK hP (lo_in hL t_M (by decide)) e143 rfl 10 (by decide) (wd_957 hB _) rfl d_M_expr_206 ?_
                refine lv_iconst (v := nI 1) hx hb d_M_expr_209 (by decide) ?_
                refine pf_iaddN (x := i8) (y := 1) hx hb d_M_expr_210 ?_
                refine pf_put (v := .int (nI (i8 + 1))) (ty := .int) (fs' := [.int mth, .ref (g.lk M 1), .int (nI mn), .ref (g.lk M 3), .ref (g.lk M 4), .int (nI dr_119), .ref (g.lk M 6), .ref (g.lk M 7), .ref (g.lk M 8), .int (nI msz), .int (nI (i8 + 1)), .int (nI p8), .ref (g.lk M 12), .int (nI (wt_118 + 1)), .ref (g.lk M 14), .ref (g.lk M 15), .int (nI mop), .ref (g.lk M 17), .ref (g.lk M 18), .ref (g.lk M 19), .ref (g.lk M 20), .ref (g.lk M 21), .ref (g.lk M 22), .ref (g.lk M 23), .ref (g.lk M 24), .ref (g.lk M 25), .ref (g.lk M 26), .ref (g.lk M 27), .ref (g.lk M 28), .ref (g.lk M 29), .ref (g.lk M 30), .ref (g.lk M 31), .int (nI mtp), .ref (g.lk M 33), .ref (g.lk M 34), .ref (g.lk M 35), .int (nI mwa), .int (nI mgi), .int (nI mpc), .int (nI mst), .int (nI mtr), .int (nI msp), .int mma, .int mlg, .int mdu]) (C := "BigRunnerModel") (T := FT10) (N := 45) hx hb (hw10 hB _) (fun _ h9 => h9) TY10 ok10 nm10 hown hK hP hD hS (lo_in hL t_M (by decide)) e143 rfl 10 (by decide) (wd_957 hB _) rfl (by decide +kernel) rfl rfl (Nat.le_of_ble_eq_true rfl) rfl d_M_expr_211 (fun f146 H locs e147 k148 hP hD hS => ?_)
                have eT := (k148 (g.lk M 1) (tg_ne (lo_k11_1 hL _ t_M) t_M (by decide))).trans eT
                have e135 := (k148 (g.lk M 3) (tg_ne (lo_k11_3 hL _ t_M) t_M (by decide))).trans e135
                have e136 := (k148 (g.lk M 4) (tg_ne (lo_k11_4 hL _ t_M) t_M (by decide))).trans e136
                have e138 := (k148 (g.lk M 12) (tg_ne (lo_k11_12 hL _ t_M) t_M (by decide))).trans e138
                have hu := hu.st k148 t_M (by decide)
                have hv19 := hv19.st k148 t_M (by decide)
                have hk149 : ∀ b, b ≠ M → f146 b = f137 b := fun b q0 => (k148 b q0).trans (hk145 b q0)
                refine lv_iconst (v := nI 1) hx hb d_M_expr_214 (by decide) ?_
                refine lv_istore_n (lv' := [(1, .int (nI 1)), (3, .int (nxm hT mn i8)), (2, .int (nI 1)), (0, .ref M)]) hx hb d_M_expr_215 rfl hl (by decide) rfl (fun ls hl => ?_)
                refine lv_goto (tgt := 281) hx hb d_M_expr_216 (by decide) ?_
                refine lv_goto (tgt := 9) hx hb d_M_expr_281 (by decide) ?_
                have hI150 := iv_1 hI141 hL t_M (by decide) hk149 (oc_11.mk t_M (⟨mth, mn, dr_119, msz, (i8 + 1), p8, (wt_118 + 1), mop, mtp, mwa, mgi, mpc, mst, mtr, msp, mma, mlg, mdu, e147, (by omega), (by omega), (by omega), (by omega), (by omega), (by omega), (by omega), (by omega), (by omega), (by omega), (by omega), (by omega), (by omega), (by omega), hmb14⟩))
                have hl : lv_has ls 4 [(2, .int (nI 1)), (1, .int (nI 1)), (0, .ref M)] := lv_sub hl [2, 0, 3] rfl
                exact ih12 1 (i8 + 1) (wt_118 + 1) p8 dr_119 (upd hW8 wt_118 (vp_nar .char ((nxm hT mn i8)))) d_120 g_121 Fw (o8 ++ oy_rel 1 (wlk hW8 t8)) f146 H locs ls (by omega) (by omega) (by omega) (by omega) (by omega) (by omega) (OKW_put (OKW_le hok (by omega)) (by rw [hnar]; exact Or.inr (Or.inr (hk12.elim Or.inl (fun z => Or.inr (Or.inl z)))))) (by rw [wll_upd, hwx, cbr_c, if_neg (by decide)]; omega) (by omega) (by rw [wll_upd, hwx]; exact EI_1 (n8t_x (by decide) (by decide) c125) (by rw [nbS_c, if_neg (by decide)]; omega)) (hpy1.trans (by rw [py_eF, if_pos hk12t, wll_upd, hwx, c124]; rfl)) (by omega) c128 (smd_tr (smd_le c129 (by omega)) hsd) (smd_tr (smd_le c130 (by omega)) hsg) (hoy1.trans (by rw [oy_eF, if_pos hk12t, wlk_upd, show wkk (vp_nar .char (nxm hT mn i8)) = okd ((vc hT mn) i8) by rw [hnar, vcm hl9]; exact wkk_o (fun q => by rw [q] at hk12; revert hk12; decide) (fun q => by rw [q] at hk12; revert hk12; decide), c131]; simp)) (DS_cat hds hro c129 c130 c133) (by rw [List.length_append]; omega) e147 e135 e136 e138 hI150 hv19 hl hP hD hS
              · skip
                replace b111 := mt (nI_leI (a := kr110) (b := 3) (by omega) (by omega)).mpr b111
                refine lv_iconst (v := nI 2) hx hb d_M_expr_176 (by decide) ?_
                refine lv_goto (tgt := 181) hx hb d_M_expr_177 (by decide) ?_
                have hk3 := ko_3 hkr110_1 (by omega)
                have hk3t : tk hT mn i8 = 3 := (tkm hT mn i8).symm.trans hk3
                have hl9 : i8 < mn := tk_in (h := hT) (by omega)
                have hnar := nxm_nar (i := i8) cT hmb0
                have hwx : wcc (vp_nar .char (nxm hT mn i8)) = 3 := by rw [hnar]; exact wcc_3 hk3
                refine pcc_v (va_runV (C := "BigRunnerModel") (As := [.int (nI 2)]) (rest := []) ⟨hx, hb, hml, hown, tb_nil⟩ (m2_release l g H.size f10 M mth mn r8 msz i8 p8 t8 mop mtp mwa mgi mpc mst mtr msp mma mlg mdu d8 g8 hW8 mdr 2 hL t_M hI18 e14 ⟨(by omega), (by omega), (by omega), (by omega), (by omega), (by omega), (by omega), (by omega), (by omega), (by omega), (by omega), (by omega), (by omega), (by omega), hmb14⟩ e15 e16 e17 (by omega) (by omega) e2 e1 hok hgc) ⟨(callB_of 1 (tb_one (wd_1140 hB _)) tb_good1 rfl rfl rfl (wd_82 hB _) (wd_1137 hB _) (by decide +kernel) ⟨Nat.le_of_ble_eq_true rfl, Nat.le_of_ble_eq_true rfl⟩), (wd_1139 hB _), (wd_48 hB _)⟩ ⟨pe_bl, pg_recv (ci := 10) hK hP (lo_in hL t_M (by decide)) e14 rfl, pe_pre hB hK hP hD⟩ rfl rfl hl.1 rfl (lv_room (Nat.le_of_ble_eq_true rfl)) d_M_expr_181 ⟨Nat.le_of_ble_eq_true rfl, Nat.le_of_ble_eq_true rfl⟩) hS (fun f152 H locs hq153 hP hD hS => ?_)
                obtain ⟨x1_154, hI1_155, hu1_156⟩ := hq153
                have hu := hu.tr hu1_156 (by decide)
                have hv19 := hv19.tr hu1_156 (by decide)
                have eT := hu1_156.at (lo_k11_1 hL _ t_M) (by decide) eT
                have e17 := hu1_156.at (lo_k11_12 hL _ t_M) (by decide) e17
                obtain ⟨wt_157, dr_158, d_159, g_160, c161, c162, c163, c164, c165, c166, c167, c168, c169, c170, c171, c172, e173, e174, e175⟩ := x1_154
                refine lv_aload_n hx hb d_M_expr_184 rfl (lv_at hl 3 rfl) ?_
                refine pf_get (v := .ref (g.lk M 12)) (C := "BigRunnerModel") (T := FT10) (N := 45) hx hb (hw10 hB _) (fun _ h9 => h9) hown hK hP (lo_in hL t_M (by decide)) e173 rfl 12 (by decide) (wd_959 hB _) rfl d_M_expr_185 ?_
                refine lv_aload_n hx hb d_M_expr_188 rfl (lv_at hl 3 rfl) ?_
                refine pf_get (v := .int (nI wt_157)) (C := "BigRunnerModel") (T := FT10) (N := 45) hx hb (hw10 hB _) (fun _ h9 => h9) hown hK hP (lo_in hL t_M (by decide)) e173 rfl 13 (by decide) (wd_960 hB _) rfl d_M_expr_189 ?_
                refine lv_iload_n hx hb d_M_expr_192 rfl (lv_at hl 0 rfl) ?_
                refine pf_cast (i := wt_157) hx hb hK hP hD hS (lo_in hL (lo_k11_12 hL _ t_M) (by decide)) e17 (lo_t46 hL _ (lo_k11_12 hL _ t_M)) (by omega) (by decide) d_M_expr_193 (fun f176 H locs e177 k178 hP hD hS => ?_)
                have eT := (k178 (g.lk M 1) (tg_ne (lo_k11_1 hL _ t_M) (lo_k11_12 hL _ t_M) (by decide))).trans eT
                have e173 := (k178 M (tg_ne t_M (lo_k11_12 hL _ t_M) (by decide))).trans e173
                have e174 := (k178 (g.lk M 3) (tg_ne (lo_k11_3 hL _ t_M) (lo_k11_12 hL _ t_M) (by decide))).trans e174
                have e175 := (k178 (g.lk M 4) (tg_ne (lo_k11_4 hL _ t_M) (lo_k11_12 hL _ t_M) (by decide))).trans e175
                have hu := hu.st k178 (lo_k11_12 hL _ t_M) (by decide)
                have hv19 := hv19.st k178 (lo_k11_12 hL _ t_M) (by decide)
                have hk179 : ∀ b, b ≠ (g.lk M 12) → f176 b = f152 b := k178
                refine lv_aload_n hx hb d_M_expr_194 rfl (lv_at hl 3 rfl) ?_
                refine lv_dup hx hb d_M_expr_195 rfl ?_
                refine pf_get (v := .int (nI wt_157)) (C := "BigRunnerModel") (T := FT10) (N := 45) hx hb (hw10 hB _) (fun _ h9 => h9) hown hK hP (lo_in hL t_M (by decide)) e173 rfl 13 (by decide) (wd_960 hB _) rfl d_M_expr_196 ?_
                refine lv_iconst (v := nI 1) hx hb d_M_expr_199 (by decide) ?_
                refine pf_iaddN (x := wt_157) (y := 1) hx hb d_M_expr_200 ?_
                have hI180 := iv_1 hI1_155 hL (lo_k11_12 hL _ t_M) (by decide) hk179 (oc_46.mk (lo_k11_12 hL _ t_M) (⟨_, e177⟩))
                refine pf_put (v := .int (nI (wt_157 + 1))) (ty := .int) (fs' := [.int mth, .ref (g.lk M 1), .int (nI mn), .ref (g.lk M 3), .ref (g.lk M 4), .int (nI dr_158), .ref (g.lk M 6), .ref (g.lk M 7), .ref (g.lk M 8), .int (nI msz), .int (nI i8), .int (nI p8), .ref (g.lk M 12), .int (nI (wt_157 + 1)), .ref (g.lk M 14), .ref (g.lk M 15), .int (nI mop), .ref (g.lk M 17), .ref (g.lk M 18), .ref (g.lk M 19), .ref (g.lk M 20), .ref (g.lk M 21), .ref (g.lk M 22), .ref (g.lk M 23), .ref (g.lk M 24), .ref (g.lk M 25), .ref (g.lk M 26), .ref (g.lk M 27), .ref (g.lk M 28), .ref (g.lk M 29), .ref (g.lk M 30), .ref (g.lk M 31), .int (nI mtp), .ref (g.lk M 33), .ref (g.lk M 34), .ref (g.lk M 35), .int (nI mwa), .int (nI mgi), .int (nI mpc), .int (nI mst), .int (nI mtr), .int (nI msp), .int mma, .int mlg, .int mdu]) (C := "BigRunnerModel") (T := FT10) (N := 45) hx hb (hw10 hB _) (fun _ h9 => h9) TY10 ok10 nm10 hown hK hP hD hS (lo_in hL t_M (by decide)) e173 rfl 13 (by decide) (wd_960 hB _) rfl (by decide +kernel) rfl rfl (Nat.le_of_ble_eq_true rfl) rfl d_M_expr_201 (fun f181 H locs e182 k183 hP hD hS => ?_)
                have eT := (k183 (g.lk M 1) (tg_ne (lo_k11_1 hL _ t_M) t_M (by decide))).trans eT
                have e174 := (k183 (g.lk M 3) (tg_ne (lo_k11_3 hL _ t_M) t_M (by decide))).trans e174
                have e175 := (k183 (g.lk M 4) (tg_ne (lo_k11_4 hL _ t_M) t_M (by decide))).trans e175
                have e177 := (k183 (g.lk M 12) (tg_ne (lo_k11_12 hL _ t_M) t_M (by decide))).trans e177
                have hu := hu.st k183 t_M (by decide)
                have hv19 := hv19.st k183 t_M (by decide)
                have hk184 : ∀ b, b ≠ M → f181 b = f176 b := k183
                refine lv_aload_n hx hb d_M_expr_204 rfl (lv_at hl 3 rfl) ?_
                refine lv_dup hx hb d_M_expr_205 rfl ?_
                refine pf_get (v := .int (nI i8)) (C := "BigRunnerModel") (T := FT10) (N := 45) hx hb (hw10 hB _) (fun _ h9 => h9) hown hK hP (lo_in hL t_M (by decide)) e182 rfl 10 (by decide) (wd_957 hB _) rfl d_M_expr_206 ?_
                refine lv_iconst (v := nI 1) hx hb d_M_expr_209 (by decide) ?_
                refine pf_iaddN (x := i8) (y := 1) hx hb d_M_expr_210 ?_
                refine pf_put (v := .int (nI (i8 + 1))) (ty := .int) (fs' := [.int mth, .ref (g.lk M 1), .int (nI mn), .ref (g.lk M 3), .ref (g.lk M 4), .int (nI dr_158), .ref (g.lk M 6), .ref (g.lk M 7), .ref (g.lk M 8), .int (nI msz), .int (nI (i8 + 1)), .int (nI p8), .ref (g.lk M 12), .int (nI (wt_157 + 1)), .ref (g.lk M 14), .ref (g.lk M 15), .int (nI mop), .ref (g.lk M 17), .ref (g.lk M 18), .ref (g.lk M 19), .ref (g.lk M 20), .ref (g.lk M 21), .ref (g.lk M 22), .ref (g.lk M 23), .ref (g.lk M 24), .ref (g.lk M 25), .ref (g.lk M 26), .ref (g.lk M 27), .ref (g.lk M 28), .ref (g.lk M 29), .ref (g.lk M 30), .ref (g.lk M 31), .int (nI mtp), .ref (g.lk M 33), .ref (g.lk M 34), .ref (g.lk M 35), .int (nI mwa), .int (nI mgi), .int (nI mpc), .int (nI mst), .int (nI mtr), .int (nI msp), .int mma, .int mlg, .int mdu]) (C := "BigRunnerModel") (T := FT10) (N := 45) hx hb (hw10 hB _) (fun _ h9 => h9) TY10 ok10 nm10 hown hK hP hD hS (lo_in hL t_M (by decide)) e182 rfl 10 (by decide) (wd_957 hB _) rfl (by decide +kernel) rfl rfl (Nat.le_of_ble_eq_true rfl) rfl d_M_expr_211 (fun f185 H locs e186 k187 hP hD hS => ?_)
                have eT := (k187 (g.lk M 1) (tg_ne (lo_k11_1 hL _ t_M) t_M (by decide))).trans eT
                have e174 := (k187 (g.lk M 3) (tg_ne (lo_k11_3 hL _ t_M) t_M (by decide))).trans e174
                have e175 := (k187 (g.lk M 4) (tg_ne (lo_k11_4 hL _ t_M) t_M (by decide))).trans e175
                have e177 := (k187 (g.lk M 12) (tg_ne (lo_k11_12 hL _ t_M) t_M (by decide))).trans e177
                have hu := hu.st k187 t_M (by decide)
                have hv19 := hv19.st k187 t_M (by decide)
                have hk188 : ∀ b, b ≠ M → f185 b = f176 b := fun b q0 => (k187 b q0).trans (hk184 b q0)
                refine lv_iconst (v := nI 1) hx hb d_M_expr_214 (by decide) ?_
                refine lv_istore_n (lv' := [(1, .int (nI 1)), (3, .int (nxm hT mn i8)), (2, .int (nI 1)), (0, .ref M)]) hx hb d_M_expr_215 rfl hl (by decide) rfl (fun ls hl => ?_)
                refine lv_goto (tgt := 281) hx hb d_M_expr_216 (by decide) ?_
                refine lv_goto (tgt := 9) hx hb d_M_expr_281 (by decide) ?_
                have hI189 := iv_1 hI180 hL t_M (by decide) hk188 (oc_11.mk t_M (⟨mth, mn, dr_158, msz, (i8 + 1), p8, (wt_157 + 1), mop, mtp, mwa, mgi, mpc, mst, mtr, msp, mma, mlg, mdu, e186, (by omega), (by omega), (by omega), (by omega), (by omega), (by omega), (by omega), (by omega), (by omega), (by omega), (by omega), (by omega), (by omega), (by omega), hmb14⟩))
                have hl : lv_has ls 4 [(2, .int (nI 1)), (1, .int (nI 1)), (0, .ref M)] := lv_sub hl [2, 0, 3] rfl
                exact ih12 1 (i8 + 1) (wt_157 + 1) p8 dr_158 (upd hW8 wt_157 (vp_nar .char ((nxm hT mn i8)))) d_159 g_160 Fw (o8 ++ oy_rel 2 (wlk hW8 t8)) f185 H locs ls (by omega) (by omega) (by omega) (by omega) (by omega) (by omega) (OKW_put (OKW_le hok (by omega)) (by rw [hnar]; exact Or.inr (Or.inr (Or.inr (Or.inr hk3))))) (by rw [wll_upd, hwx, cbr_c, if_neg (by decide)]; omega) (by omega) (by rw [wll_upd, hwx]; exact EI_1 (n8t_x (by decide) (by decide) c164) (by rw [nbS_c, if_neg (by decide)]; omega)) (hpy1.trans (by rw [py_eF, if_neg (by omega), if_pos hk3t, wll_upd, hwx, c163]; rfl)) (by omega) c167 (smd_tr (smd_le c168 (by omega)) hsd) (smd_tr (smd_le c169 (by omega)) hsg) (hoy1.trans (by rw [oy_eF, if_neg (by omega), if_pos hk3t, wlk_upd, show wkk (vp_nar .char (nxm hT mn i8)) = okd ((vc hT mn) i8) by rw [hnar, vcm hl9]; exact wkk_o (fun q => by rw [q] at hk3; revert hk3; decide) (fun q => by rw [q] at hk3; revert hk3; decide), c170]; simp)) (DS_cat hds hro c168 c169 c172) (by rw [List.length_append]; omega) e186 e174 e175 e177 hI189 hv19 hl hP hD hS
          · skip
            replace b25 := mt (nI_eq (a := 0) (b := 0) (by omega) (by omega)).mpr b25
            exfalso; omega
      · skip
        have hl : lv_has ls 4 [(2, .int (nI 1)), (1, .int (nI 1)), (0, .ref M)] := hl
        obtain ⟨e1, e2⟩ := hei.1 rfl
        have hpy1 : py_e (tk hT mn) 400 mix [] mdp true = py_e (tk hT mn) (Fw + 1) i8 (wll hW8 t8) p8 true := hpy
        have hoy1 : oy_e (tk hT mn) (vc hT mn) 400 mix [] true = o8 ++ oy_e (tk hT mn) (vc hT mn) (Fw + 1) i8 (wlk hW8 t8) true := hoy
        refine lv_iload_n hx hb d_M_expr_9 rfl (lv_at hl 0 rfl) ?_
        refine lv_if_eq (tgt := 284) hx hb d_M_expr_10 (by decide) (fun b190 => ?_) (fun b190 => ?_)
        · skip
          replace b190 := (nI_eq (a := 1) (b := 0) (by omega) (by omega)).mp b190
          exfalso; omega
        · skip
          replace b190 := mt (nI_eq (a := 1) (b := 0) (by omega) (by omega)).mpr b190
          refine lv_aload_n hx hb d_M_expr_13 rfl (lv_at hl 2 rfl) ?_
          refine pcc_i (va_runV (C := "BigRunnerModel") (As := []) (rest := []) ⟨hx, hb, hml, hown, tb_nil⟩ (m_here l g H.size f10 M mth mn r8 msz i8 p8 t8 mop mtp mwa mgi mpc mst mtr msp mma mlg mdu hT hL t_M hI18.1 e14 ⟨(by omega), (by omega), (by omega), (by omega), (by omega), (by omega), (by omega), (by omega), (by omega), (by omega), (by omega), (by omega), (by omega), (by omega), hmb14⟩ eT cT) ⟨(callB_of 0 (tb_one (wd_1111 hB _)) tb_good1 rfl rfl rfl (wd_82 hB _) (wd_1108 hB _) (by decide +kernel) ⟨Nat.le_of_ble_eq_true rfl, Nat.le_of_ble_eq_true rfl⟩), (wd_1110 hB _), (wd_43 hB _)⟩ ⟨pe_bl, pg_recv (ci := 10) hK hP (lo_in hL t_M (by decide)) e14 rfl, pe_pre hB hK hP hD⟩ rfl rfl hl.1 rfl (lv_room (Nat.le_of_ble_eq_true rfl)) d_M_expr_14 ⟨Nat.le_of_ble_eq_true rfl, Nat.le_of_ble_eq_true rfl⟩) hS (fun r191 f192 H locs hq193 hP hD hS => ?_)
          obtain ⟨nx_194, rfl⟩ := hq193
          subst nx_194
          refine lv_istore_n (lv' := [(3, .int (nxm hT mn i8)), (2, .int (nI 1)), (1, .int (nI 1)), (0, .ref M)]) hx hb d_M_expr_17 rfl hl (by decide) rfl (fun ls hl => ?_)
          refine lv_iload_n hx hb d_M_expr_18 rfl (lv_at hl 2 rfl) ?_
          refine lv_if_eq (tgt := 160) hx hb d_M_expr_19 (by decide) (fun b195 => ?_) (fun b195 => ?_)
          · skip
            replace b195 := (nI_eq (a := 1) (b := 0) (by omega) (by omega)).mp b195
            exfalso; omega
          · skip
            replace b195 := mt (nI_eq (a := 1) (b := 0) (by omega) (by omega)).mpr b195
            refine lv_iload_n hx hb d_M_expr_22 rfl (lv_at hl 0 rfl) ?_
            refine lv_bipush (v := nI 45) hx hb d_M_expr_23 (by decide) ?_
            refine lv_icmp_eq (tgt := 34) hx hb d_M_expr_25 (by decide) (fun b196 => ?_) (fun b196 => ?_)
            · skip
              have hkc : tk hT mn i8 = 2 := (tkm hT mn i8).symm.trans (kc_2.mpr b196)
              have hl9 : i8 < mn := tk_in (h := hT) (by omega)
              refine lv_aload_n hx hb d_M_expr_34 rfl (lv_at hl 3 rfl) ?_
              refine lv_dup hx hb d_M_expr_35 rfl ?_
              refine pf_get (v := .int (nI p8)) (C := "BigRunnerModel") (T := FT10) (N := 45) hx hb (hw10 hB _) (fun _ h9 => h9) hown hK hP (lo_in hL t_M (by decide)) e14 rfl 11 (by decide) (wd_958 hB _) rfl d_M_expr_36 ?_
              refine lv_iconst (v := nI 1) hx hb d_M_expr_39 (by decide) ?_
              refine pf_iaddN (x := p8) (y := 1) hx hb d_M_expr_40 ?_
              refine pf_put (v := .int (nI (p8 + 1))) (ty := .int) (fs' := [.int mth, .ref (g.lk M 1), .int (nI mn), .ref (g.lk M 3), .ref (g.lk M 4), .int (nI r8), .ref (g.lk M 6), .ref (g.lk M 7), .ref (g.lk M 8), .int (nI msz), .int (nI i8), .int (nI (p8 + 1)), .ref (g.lk M 12), .int (nI t8), .ref (g.lk M 14), .ref (g.lk M 15), .int (nI mop), .ref (g.lk M 17), .ref (g.lk M 18), .ref (g.lk M 19), .ref (g.lk M 20), .ref (g.lk M 21), .ref (g.lk M 22), .ref (g.lk M 23), .ref (g.lk M 24), .ref (g.lk M 25), .ref (g.lk M 26), .ref (g.lk M 27), .ref (g.lk M 28), .ref (g.lk M 29), .ref (g.lk M 30), .ref (g.lk M 31), .int (nI mtp), .ref (g.lk M 33), .ref (g.lk M 34), .ref (g.lk M 35), .int (nI mwa), .int (nI mgi), .int (nI mpc), .int (nI mst), .int (nI mtr), .int (nI msp), .int mma, .int mlg, .int mdu]) (C := "BigRunnerModel") (T := FT10) (N := 45) hx hb (hw10 hB _) (fun _ h9 => h9) TY10 ok10 nm10 hown hK hP hD hS (lo_in hL t_M (by decide)) e14 rfl 11 (by decide) (wd_958 hB _) rfl (by decide +kernel) rfl rfl (Nat.le_of_ble_eq_true rfl) rfl d_M_expr_41 (fun f197 H locs e198 k199 hP hD hS => ?_)
              have eT := (k199 (g.lk M 1) (tg_ne (lo_k11_1 hL _ t_M) t_M (by decide))).trans eT
              have e15 := (k199 (g.lk M 3) (tg_ne (lo_k11_3 hL _ t_M) t_M (by decide))).trans e15
              have e16 := (k199 (g.lk M 4) (tg_ne (lo_k11_4 hL _ t_M) t_M (by decide))).trans e16
              have e17 := (k199 (g.lk M 12) (tg_ne (lo_k11_12 hL _ t_M) t_M (by decide))).trans e17
              have hu := hu.st k199 t_M (by decide)
              have hv19 := hv19.st k199 t_M (by decide)
              have hk200 : ∀ b, b ≠ M → f197 b = f10 b := k199
              refine lv_aload_n hx hb d_M_expr_44 rfl (lv_at hl 3 rfl) ?_
              refine pf_get (v := .int (nI (p8 + 1))) (C := "BigRunnerModel") (T := FT10) (N := 45) hx hb (hw10 hB _) (fun _ h9 => h9) hown hK hP (lo_in hL t_M (by decide)) e198 rfl 11 (by decide) (wd_958 hB _) rfl d_M_expr_45 ?_
              refine lv_bipush (v := nI 10) hx hb d_M_expr_48 (by decide) ?_
              refine lv_icmp_le (tgt := 55) hx hb d_M_expr_50 (by decide) (fun b201 => ?_) (fun b201 => ?_)
              · skip
                replace b201 := (nI_leI (a := p8 + 1) (b := 10) (by omega) (by omega)).mp b201
                refine lv_aload_n hx hb d_M_expr_55 rfl (lv_at hl 3 rfl) ?_
                refine pf_get (v := .ref (g.lk M 12)) (C := "BigRunnerModel") (T := FT10) (N := 45) hx hb (hw10 hB _) (fun _ h9 => h9) hown hK hP (lo_in hL t_M (by decide)) e198 rfl 12 (by decide) (wd_959 hB _) rfl d_M_expr_56 ?_
                refine lv_aload_n hx hb d_M_expr_59 rfl (lv_at hl 3 rfl) ?_
                refine pf_get (v := .int (nI t8)) (C := "BigRunnerModel") (T := FT10) (N := 45) hx hb (hw10 hB _) (fun _ h9 => h9) hown hK hP (lo_in hL t_M (by decide)) e198 rfl 13 (by decide) (wd_960 hB _) rfl d_M_expr_60 ?_
                refine lv_iload_n hx hb d_M_expr_63 rfl (lv_at hl 0 rfl) ?_
                refine lv_bipush (v := nI 45) hx hb d_M_expr_64 (by decide) ?_
                refine lv_icmp_ne (tgt := 74) hx hb d_M_expr_66 (by decide) (fun b202 => ?_) (fun b202 => ?_)
                · skip
                  exact absurd b196 b202
                · skip
                  refine lv_bipush (v := nI 117) hx hb d_M_expr_69 (by decide) ?_
                  refine lv_goto (tgt := 76) hx hb d_M_expr_71 (by decide) ?_
                  have hI203 := iv_1 hI18 hL t_M (by decide) hk200 (oc_11.mk t_M (⟨mth, mn, r8, msz, i8, (p8 + 1), t8, mop, mtp, mwa, mgi, mpc, mst, mtr, msp, mma, mlg, mdu, e198, (by omega), (by omega), (by omega), (by omega), (by omega), (by omega), (by omega), (by omega), (by omega), (by omega), (by omega), (by omega), (by omega), (by omega), hmb14⟩))
                  refine pf_cast (i := t8) hx hb hK hP hD hS (lo_in hL (lo_k11_12 hL _ t_M) (by decide)) e17 (lo_t46 hL _ (lo_k11_12 hL _ t_M)) (by omega) (by decide) d_M_expr_76 (fun f204 H locs e205 k206 hP hD hS => ?_)
                  have eT := (k206 (g.lk M 1) (tg_ne (lo_k11_1 hL _ t_M) (lo_k11_12 hL _ t_M) (by decide))).trans eT
                  have e15 := (k206 (g.lk M 3) (tg_ne (lo_k11_3 hL _ t_M) (lo_k11_12 hL _ t_M) (by decide))).trans e15
                  have e16 := (k206 (g.lk M 4) (tg_ne (lo_k11_4 hL _ t_M) (lo_k11_12 hL _ t_M) (by decide))).trans e16
                  have e198 := (k206 M (tg_ne t_M (lo_k11_12 hL _ t_M) (by decide))).trans e198
                  have hu := hu.st k206 (lo_k11_12 hL _ t_M) (by decide)
                  have hv19 := hv19.st k206 (lo_k11_12 hL _ t_M) (by decide)
                  have hk207 : ∀ b, b ≠ (g.lk M 12) → f204 b = f197 b := k206
                  refine lv_aload_n hx hb d_M_expr_77 rfl (lv_at hl 3 rfl) ?_
                  refine lv_dup hx hb d_M_expr_78 rfl ?_
                  refine pf_get (v := .int (nI t8)) (C := "BigRunnerModel") (T := FT10) (N := 45) hx hb (hw10 hB _) (fun _ h9 => h9) hown hK hP (lo_in hL t_M (by decide)) e198 rfl 13 (by decide) (wd_960 hB _) rfl d_M_expr_79 ?_
                  refine lv_iconst (v := nI 1) hx hb d_M_expr_82 (by decide) ?_
                  refine pf_iaddN (x := t8) (y := 1) hx hb d_M_expr_83 ?_
                  have hI208 := iv_1 hI203 hL (lo_k11_12 hL _ t_M) (by decide) hk207 (oc_46.mk (lo_k11_12 hL _ t_M) (⟨_, e205⟩))
                  refine pf_put (v := .int (nI (t8 + 1))) (ty := .int) (fs' := [.int mth, .ref (g.lk M 1), .int (nI mn), .ref (g.lk M 3), .ref (g.lk M 4), .int (nI r8), .ref (g.lk M 6), .ref (g.lk M 7), .ref (g.lk M 8), .int (nI msz), .int (nI i8), .int (nI (p8 + 1)), .ref (g.lk M 12), .int (nI (t8 + 1)), .ref (g.lk M 14), .ref (g.lk M 15), .int (nI mop), .ref (g.lk M 17), .ref (g.lk M 18), .ref (g.lk M 19), .ref (g.lk M 20), .ref (g.lk M 21), .ref (g.lk M 22), .ref (g.lk M 23), .ref (g.lk M 24), .ref (g.lk M 25), .ref (g.lk M 26), .ref (g.lk M 27), .ref (g.lk M 28), .ref (g.lk M 29), .ref (g.lk M 30), .ref (g.lk M 31), .int (nI mtp), .ref (g.lk M 33), .ref (g.lk M 34), .ref (g.lk M 35), .int (nI mwa), .int (nI mgi), .int (nI mpc), .int (nI mst), .int (nI mtr), .int (nI msp), .int mma, .int mlg, .int mdu]) (C := "BigRunnerModel") (T := FT10) (N := 45) hx hb (hw10 hB _) (fun _ h9 => h9) TY10 ok10 nm10 hown hK hP hD hS (lo_in hL t_M (by decide)) e198 rfl 13 (by decide) (wd_960 hB _) rfl (by decide +kernel) rfl rfl (Nat.le_of_ble_eq_true rfl) rfl d_M_expr_84 (fun f209 H locs e210 k211 hP hD hS => ?_)
                  have eT := (k211 (g.lk M 1) (tg_ne (lo_k11_1 hL _ t_M) t_M (by decide))).trans eT
                  have e15 := (k211 (g.lk M 3) (tg_ne (lo_k11_3 hL _ t_M) t_M (by decide))).trans e15
                  have e16 := (k211 (g.lk M 4) (tg_ne (lo_k11_4 hL _ t_M) t_M (by decide))).trans e16
                  have e205 := (k211 (g.lk M 12) (tg_ne (lo_k11_12 hL _ t_M) t_M (by decide))).trans e205
                  have hu := hu.st k211 t_M (by decide)
                  have hv19 := hv19.st k211 t_M (by decide)
                  have hk212 : ∀ b, b ≠ M → f209 b = f204 b := k211
                  refine lv_aload_n hx hb d_M_expr_87 rfl (lv_at hl 3 rfl) ?_
                  refine lv_dup hx hb d_M_expr_88 rfl ?_
                  refine pf_get (v := .int (nI i8)) (C := "BigRunnerModel") (T := FT10) (N := 45) hx hb (hw10 hB _) (fun _ h9 => h9) hown hK hP (lo_in hL t_M (by decide)) e210 rfl 10 (by decide) (wd_957 hB _) rfl d_M_expr_89 ?_
                  refine lv_iconst (v := nI 1) hx hb d_M_expr_92 (by decide) ?_
                  refine pf_iaddN (x := i8) (y := 1) hx hb d_M_expr_93 ?_
                  refine pf_put (v := .int (nI (i8 + 1))) (ty := .int) (fs' := [.int mth, .ref (g.lk M 1), .int (nI mn), .ref (g.lk M 3), .ref (g.lk M 4), .int (nI r8), .ref (g.lk M 6), .ref (g.lk M 7), .ref (g.lk M 8), .int (nI msz), .int (nI (i8 + 1)), .int (nI (p8 + 1)), .ref (g.lk M 12), .int (nI (t8 + 1)), .ref (g.lk M 14), .ref (g.lk M 15), .int (nI mop), .ref (g.lk M 17), .ref (g.lk M 18), .ref (g.lk M 19), .ref (g.lk M 20), .ref (g.lk M 21), .ref (g.lk M 22), .ref (g.lk M 23), .ref (g.lk M 24), .ref (g.lk M 25), .ref (g.lk M 26), .ref (g.lk M 27), .ref (g.lk M 28), .ref (g.lk M 29), .ref (g.lk M 30), .ref (g.lk M 31), .int (nI mtp), .ref (g.lk M 33), .ref (g.lk M 34), .ref (g.lk M 35), .int (nI mwa), .int (nI mgi), .int (nI mpc), .int (nI mst), .int (nI mtr), .int (nI msp), .int mma, .int mlg, .int mdu]) (C := "BigRunnerModel") (T := FT10) (N := 45) hx hb (hw10 hB _) (fun _ h9 => h9) TY10 ok10 nm10 hown hK hP hD hS (lo_in hL t_M (by decide)) e210 rfl 10 (by decide) (wd_957 hB _) rfl (by decide +kernel) rfl rfl (Nat.le_of_ble_eq_true rfl) rfl d_M_expr_94 (fun f213 H locs e214 k215 hP hD hS => ?_)
                  have eT := (k215 (g.lk M 1) (tg_ne (lo_k11_1 hL _ t_M) t_M (by decide))).trans eT
                  have e15 := (k215 (g.lk M 3) (tg_ne (lo_k11_3 hL _ t_M) t_M (by decide))).trans e15
                  have e16 := (k215 (g.lk M 4) (tg_ne (lo_k11_4 hL _ t_M) t_M (by decide))).trans e16
                  have e205 := (k215 (g.lk M 12) (tg_ne (lo_k11_12 hL _ t_M) t_M (by decide))).trans e205
                  have hu := hu.st k215 t_M (by decide)
                  have hv19 := hv19.st k215 t_M (by decide)
                  have hk216 : ∀ b, b ≠ M → f213 b = f204 b := fun b q0 => (k215 b q0).trans (hk212 b q0)
                  refine lv_goto (tgt := 281) hx hb d_M_expr_97 (by decide) ?_
                  refine lv_goto (tgt := 9) hx hb d_M_expr_281 (by decide) ?_
                  have hI217 := iv_1 hI208 hL t_M (by decide) hk216 (oc_11.mk t_M (⟨mth, mn, r8, msz, (i8 + 1), (p8 + 1), (t8 + 1), mop, mtp, mwa, mgi, mpc, mst, mtr, msp, mma, mlg, mdu, e214, (by omega), (by omega), (by omega), (by omega), (by omega), (by omega), (by omega), (by omega), (by omega), (by omega), (by omega), (by omega), (by omega), (by omega), hmb14⟩))
                  have hl : lv_has ls 4 [(2, .int (nI 1)), (1, .int (nI 1)), (0, .ref M)] := lv_sub hl [1, 2, 3] rfl
                  exact ih12 1 (i8 + 1) (t8 + 1) (p8 + 1) r8 (upd hW8 t8 (vp_nar .char ((nI 117)))) d8 g8 Fw o8 f213 H locs ls (by omega) (by omega) (by omega) (by omega) (by omega) (by omega) (OKW_put hok (Or.inr (Or.inl (by decide)))) (by rw [wll_upd, show wcc (vp_nar .char (nI 117)) = 8 by decide, cbr_c, if_pos (by decide)]; omega) (by omega) (by rw [wll_upd, show wcc (vp_nar .char (nI 117)) = 8 by decide]; exact EI_1 (n8t_8 e1) (by rw [nbS_c, if_pos (by decide)]; omega)) (hpy1.trans (by rw [py_eT, if_pos (Or.inl hkc), if_neg (by omega), if_pos hkc, wll_upd, show wcc (vp_nar .char (nI 117)) = 8 by decide]; rfl)) (by omega) hgc hsd hsg (hoy1.trans (by rw [oy_eT, if_pos (Or.inl hkc), if_pos hkc, wlk_upd, show wkk (vp_nar .char (nI 117)) = 8 by decide]; rfl)) hds hro e214 e15 e16 e205 hI217 hv19 hl hP hD hS
              · skip
                replace b201 := mt (nI_leI (a := p8 + 1) (b := 10) (by omega) (by omega)).mpr b201
                refine lv_iconst (v := nI 0) hx hb d_M_expr_53 (by decide) ?_
                have hI218 := iv_1 hI18 hL t_M (by decide) hk200 (oc_11.mk t_M (⟨mth, mn, r8, msz, i8, (p8 + 1), t8, mop, mtp, mwa, mgi, mpc, mst, mtr, msp, mma, mlg, mdu, e198, (by omega), (by omega), (by omega), (by omega), (by omega), (by omega), (by omega), (by omega), (by omega), (by omega), (by omega), (by omega), (by omega), (by omega), hmb14⟩))
                exact pe_zret hx hb hr hlocks hK hP hD hS d_M_expr_54 rfl ⟨(Or.inr ⟨(hpy1.trans (by rw [py_eT, if_pos (Or.inl hkc), if_pos (by omega)])), ⟨i8, p8 + 1, r8, t8, by omega, by omega, by omega, by omega, e198⟩, rfl⟩), hI218, hu⟩
            · skip
              refine lv_iload_n hx hb d_M_expr_28 rfl (lv_at hl 0 rfl) ?_
              refine lv_bipush (v := nI 40) hx hb d_M_expr_29 (by decide) ?_
              refine lv_icmp_ne (tgt := 100) hx hb d_M_expr_31 (by decide) (fun b219 => ?_) (fun b219 => ?_)
              · skip
                have hk2 : tk hT mn i8 ≠ 2 := fun z => b196 (kc_2.mp ((tkm hT mn i8).trans z))
                have hk4 : tk hT mn i8 ≠ 4 := fun z => b219 (kc_4.mp ((tkm hT mn i8).trans z))
                refine lv_iload_n hx hb d_M_expr_100 rfl (lv_at hl 0 rfl) ?_
                refine pcc_i (va_runS (As := [.int (nxm hT mn i8)]) (rest := []) ⟨hx, hb, hml, hown, tb_nil⟩ (m_isName l g H.size f10 ((nxm hT mn i8)) hL hI18.1) ⟨(callB_of 1 (tb_one (wd_1118 hB _)) tb_good1 rfl rfl rfl (wd_82 hB _) (wd_1116 hB _) (by decide +kernel) ⟨Nat.le_of_ble_eq_true rfl, Nat.le_of_ble_eq_true rfl⟩), (wd_1117 hB _)⟩ ⟨pe_bl, pe_pre hB hK hP hD⟩ rfl rfl hl.1 rfl (lv_room (Nat.le_of_ble_eq_true rfl)) d_M_expr_101 ⟨Nat.le_of_ble_eq_true rfl, Nat.le_of_ble_eq_true rfl⟩) hS (fun r220 f221 H locs hq222 hP hD hS => ?_)
                obtain ⟨bo_223, i0_224, i1_225, rfl⟩ := hq222
                refine lv_if_eq (tgt := 135) hx hb d_M_expr_104 (by decide) (fun b226 => ?_) (fun b226 => ?_)
                · skip
                  have hr227 : r220 = nI 0 := b226
                  have hi228 := i0_224 hr227
                  have hk6 : tk hT mn i8 ≠ 6 := fun z => hi228 ((tkm hT mn i8).trans z)
                  refine lv_iload_n hx hb d_M_expr_135 rfl (lv_at hl 0 rfl) ?_
                  refine pcc_i (va_runS (As := [.int (nxm hT mn i8)]) (rest := []) ⟨hx, hb, hml, hown, tb_nil⟩ (m_digit l g H.size f10 ((nxm hT mn i8)) hL hI18.1) ⟨(callB_of 1 (tb_one (wd_1129 hB _)) tb_good1 rfl rfl rfl (wd_82 hB _) (wd_1127 hB _) (by decide +kernel) ⟨Nat.le_of_ble_eq_true rfl, Nat.le_of_ble_eq_true rfl⟩), (wd_1128 hB _)⟩ ⟨pe_bl, pe_pre hB hK hP hD⟩ rfl rfl hl.1 rfl (lv_room (Nat.le_of_ble_eq_true rfl)) d_M_expr_136 ⟨Nat.le_of_ble_eq_true rfl, Nat.le_of_ble_eq_true rfl⟩) hS (fun r229 f230 H locs hq231 hP hD hS => ?_)
                  obtain ⟨bo_232, i0_233, i1_234, rfl⟩ := hq231
                  refine lv_if_eq (tgt := 149) hx hb d_M_expr_139 (by decide) (fun b235 => ?_) (fun b235 => ?_)
                  · skip
                    have hr236 : r229 = nI 0 := b235
                    have hi237 := i0_233 hr236
                    have hk7 : tk hT mn i8 ≠ 7 := fun z => hi237 ((tkm hT mn i8).trans z)
                    refine lv_iconst (v := nI 0) hx hb d_M_expr_149 (by decide) ?_
                    exact pe_zret hx hb hr hlocks hK hP hD hS d_M_expr_150 rfl ⟨(Or.inr ⟨(hpy1.trans (by rw [py_eT, if_neg (fun z => z.elim hk2 hk4), if_neg hk6, if_neg hk7])), ⟨i8, p8, r8, t8, by omega, by omega, by omega, by omega, e14⟩, rfl⟩), hI18, hu⟩
                  · skip
                    have hr238 : r229 = nI 1 := (bl_1 bo_232 b235)
                    have hi239 := i1_234 hr238
                    have hk7 : tk hT mn i8 = 7 := (tkm hT mn i8).symm.trans hi239
                    have hl9 : i8 < mn := tk_in (h := hT) (by omega)
                    refine lv_aload_n hx hb d_M_expr_142 rfl (lv_at hl 3 rfl) ?_
                    refine pcc_i (va_runV (C := "BigRunnerModel") (As := []) (rest := []) ⟨hx, hb, hml, hown, tb_nil⟩ (m2_number l g H.size f10 M mth mn r8 msz i8 p8 t8 mop mtp mwa mgi mpc mst mtr msp mma mlg mdu hT d8 g8 hL t_M hI18 e14 ⟨(by omega), (by omega), (by omega), (by omega), (by omega), (by omega), (by omega), (by omega), (by omega), (by omega), (by omega), (by omega), (by omega), (by omega), hmb14⟩ eT cT e15 e16 (by omega) (by omega)) ⟨(callB_of 0 (tb_one (wd_1133 hB _)) tb_good1 rfl rfl rfl (wd_82 hB _) (wd_1130 hB _) (by decide +kernel) ⟨Nat.le_of_ble_eq_true rfl, Nat.le_of_ble_eq_true rfl⟩), (wd_1132 hB _), (wd_47 hB _)⟩ ⟨pe_bl, pg_recv (ci := 10) hK hP (lo_in hL t_M (by decide)) e14 rfl, pe_pre hB hK hP hD⟩ rfl rfl hl.1 rfl (lv_room (Nat.le_of_ble_eq_true rfl)) d_M_expr_143 ⟨Nat.le_of_ble_eq_true rfl, Nat.le_of_ble_eq_true rfl⟩) hS (fun r240 f241 H locs hq242 hP hD hS => ?_)
                    obtain ⟨x1_243, hI1_244, hu1_245⟩ := hq242
                    have hu := hu.tr hu1_245 (by decide)
                    have hv19 := hv19.tr hu1_245 (by decide)
                    have eT := hu1_245.at (lo_k11_1 hL _ t_M) (by decide) eT
                    have e17 := hu1_245.at (lo_k11_12 hL _ t_M) (by decide) e17
                    obtain ⟨nn_246, v_247, c248, c249, c250, c251, c252, e253, e254, e255, c256⟩ := x1_243
                    rcases c256 with ⟨rfl, c257⟩ | ⟨rfl, c257⟩
                    · skip
                      refine lv_if_ne (tgt := 151) hx hb d_M_expr_146 (by decide) (fun b258 => ?_) (fun b258 => ?_)
                      · skip
                        replace b258 := mt (nI_eq (a := 1) (b := 0) (by omega) (by omega)).mpr b258
                        have hnp : 1 ≤ nn_246 := by have z := dg_pos (k := (tk hT mn)) hk7; omega
                        refine lv_aload_n hx hb d_M_expr_151 rfl (lv_at hl 3 rfl) ?_
                        refine pcc_v (va_runV (C := "BigRunnerModel") (As := []) (rest := []) ⟨hx, hb, hml, hown, tb_nil⟩ (m2_negate l g H.size f241 M mth mn ((r8 + 1)) msz ((i8 + nn_246)) p8 t8 mop mtp mwa mgi mpc mst mtr msp mma mlg mdu ((upd d8 r8 (nI 0))) ((upd g8 r8 (nI v_247))) hW8 mdr hL t_M hI1_244 e253 ⟨(by omega), (by omega), (by omega), (by omega), (by omega), (by omega), (by omega), (by omega), (by omega), (by omega), (by omega), (by omega), (by omega), (by omega), hmb14⟩ e254 e255 e17 (by omega) (by rw [dpc_s (by decide), if_pos (by decide)]; omega) (by omega) (GC_put hgc (by decide) (by omega) (fun z => by first | exact hvn | exact absurd z (by decide)) (fun z => absurd z (by decide)) (fun z _ => absurd z (by decide)))) ⟨(callB_of 0 (tb_one (wd_1126 hB _)) tb_good1 rfl rfl rfl (wd_82 hB _) (wd_1123 hB _) (by decide +kernel) ⟨Nat.le_of_ble_eq_true rfl, Nat.le_of_ble_eq_true rfl⟩), (wd_1125 hB _), (wd_46 hB _)⟩ ⟨pe_bl, pg_recv (ci := 10) hK hP (lo_in hL t_M (by decide)) e253 rfl, pe_pre hB hK hP hD⟩ rfl rfl hl.1 rfl (lv_room (Nat.le_of_ble_eq_true rfl)) d_M_expr_152 ⟨Nat.le_of_ble_eq_true rfl, Nat.le_of_ble_eq_true rfl⟩) hS (fun f260 H locs hq261 hP hD hS => ?_)
                        obtain ⟨x1_262, hI1_263, hu1_264⟩ := hq261
                        have hu := hu.tr hu1_264 (by decide)
                        have hv19 := hv19.tr hu1_264 (by decide)
                        have eT := hu1_264.at (lo_k11_1 hL _ t_M) (by decide) eT
                        have e17 := hu1_264.at (lo_k11_12 hL _ t_M) (by decide) e17
                        obtain ⟨wt_265, dp_266, dr_267, d_268, g_269, c270, c271, c272, c273, c274, c275, c276, c277, c278, c279, c280, c281, c282, e283, e284, e285⟩ := x1_262
                        refine lv_iconst (v := nI 0) hx hb d_M_expr_155 (by decide) ?_
                        refine lv_istore_n (lv' := [(1, .int (nI 0)), (3, .int (nxm hT mn i8)), (2, .int (nI 1)), (0, .ref M)]) hx hb d_M_expr_156 rfl hl (by decide) rfl (fun ls hl => ?_)
                        refine lv_goto (tgt := 281) hx hb d_M_expr_157 (by decide) ?_
                        refine lv_goto (tgt := 9) hx hb d_M_expr_281 (by decide) ?_
                        have hl : lv_has ls 4 [(2, .int (nI 1)), (1, .int (nI 0)), (0, .ref M)] := lv_sub hl [2, 0, 3] rfl
                        exact ih12 0 (i8 + nn_246) wt_265 dp_266 dr_267 hW8 d_268 g_269 Fw (o8 ++ [(0, v_247)] ++ oy_neg (wlk hW8 t8)) f260 H locs ls (by omega) (by omega) (by omega) (by omega) (by omega) (by omega) (OKW_le hok (by omega)) (by omega) (by omega) (EI_0 (by have z := neg_n8 p8 e1; rw [c273] at z; exact z) (by rw [c276, dpc_s (by decide), if_pos (by decide)]; omega)) (hpy1.trans (by rw [py_eT, if_neg (fun z => z.elim hk2 hk4), if_neg hk6, if_pos hk7, if_neg (by omega), c248, c273]; rfl)) (by omega) c277 (smd_tr (smd_le c278 (by omega)) (smd_u hsd (by omega))) (smd_tr (smd_le c279 (by omega)) (smd_u hsg (by omega))) (hoy1.trans (by rw [oy_eT, if_neg (fun z => z.elim hk2 hk4), if_neg hk6, if_pos hk7, c248, show nv (vc hT mn) nn_246 i8 = v_247 by rw [c252, Nat.min_eq_left (by omega)], c280]; simp)) (DS_cat (DS_put hds hro) (by rw [List.length_append, List.length_singleton]; omega) c278 c279 c282) (by rw [List.length_append, List.length_append, List.length_singleton]; omega) e283 e284 e285 e17 hI1_263 hv19 hl hP hD hS
                      · skip
                        replace b258 := (nI_eq (a := 1) (b := 0) (by omega) (by omega)).mp b258
                        exfalso; omega
                    · skip
                      refine lv_if_ne (tgt := 151) hx hb d_M_expr_146 (by decide) (fun b286 => ?_) (fun b286 => ?_)
                      · skip
                        replace b286 := mt (nI_eq (a := 0) (b := 0) (by omega) (by omega)).mpr b286
                        exfalso; omega
                      · skip
                        replace b286 := (nI_eq (a := 0) (b := 0) (by omega) (by omega)).mp b286
                        refine lv_iconst (v := nI 0) hx hb d_M_expr_149 (by decide) ?_
                        exact pe_zret hx hb hr hlocks hK hP hD hS d_M_expr_150 rfl ⟨(Or.inr ⟨(hpy1.trans (by rw [py_eT, if_neg (fun z => z.elim hk2 hk4), if_neg hk6, if_pos hk7, if_pos (by omega)])), ⟨i8 + nn_246, p8, r8 + 1, t8, by omega, by omega, by omega, by omega, e253⟩, rfl⟩), hI1_244, hu⟩
                · skip
                  have hr287 : r220 = nI 1 := (bl_1 bo_223 b226)
                  have hi288 := i1_225 hr287
                  have hkc6 := hi288
                  have hk6 : tk hT mn i8 = 6 := (tkm hT mn i8).symm.trans hkc6
                  have hl9 : i8 < mn := tk_in (h := hT) (by omega)
                  obtain ⟨vn, hvn, qvn⟩ := nm_of (kc_6.mp hkc6).1 (kc_6.mp hkc6).2
                  refine lv_aload_n hx hb d_M_expr_107 rfl (lv_at hl 3 rfl) ?_
                  refine lv_iconst (v := nI 1) hx hb d_M_expr_108 (by decide) ?_
                  refine lv_iload_n hx hb d_M_expr_109 rfl (lv_at hl 0 rfl) ?_
                  refine lv_bipush (v := nI 97) hx hb d_M_expr_110 (by decide) ?_
                  refine lv_isub hx hb d_M_expr_112 ?_
                  refine lv_topi (fun z_ hz_ => ?_)
                  obtain rfl : z_ = nI vn := hz_.trans qvn
                  refine pcc_v (va_runV (C := "BigRunnerModel") (As := [.int (nI 1), .int (nI vn)]) (rest := []) ⟨hx, hb, hml, hown, tb_nil⟩ (m_put l g H.size f10 M mth mn r8 msz i8 p8 t8 mop mtp mwa mgi mpc mst mtr msp mma mlg mdu d8 g8 1 ((nI vn)) hL t_M hI18 e14 ⟨(by omega), (by omega), (by omega), (by omega), (by omega), (by omega), (by omega), (by omega), (by omega), (by omega), (by omega), (by omega), (by omega), (by omega), hmb14⟩ e15 e16 (by omega)) ⟨(callB_of 2 (tb_one (wd_1115 hB _)) tb_good1 rfl rfl rfl (wd_82 hB _) (wd_1112 hB _) (by decide +kernel) ⟨Nat.le_of_ble_eq_true rfl, Nat.le_of_ble_eq_true rfl⟩), (wd_1114 hB _), (wd_44 hB _)⟩ ⟨pe_bl, pg_recv (ci := 10) hK hP (lo_in hL t_M (by decide)) e14 rfl, pe_pre hB hK hP hD⟩ rfl rfl hl.1 rfl (lv_room (Nat.le_of_ble_eq_true rfl)) d_M_expr_113 ⟨Nat.le_of_ble_eq_true rfl, Nat.le_of_ble_eq_true rfl⟩) hS (fun f290 H locs hq291 hP hD hS => ?_)
                  obtain ⟨x1_292, xd_293, xg_294, hI1_295, hu1_296⟩ := hq291
                  have hu := hu.tr hu1_296 (by decide)
                  have hv19 := hv19.tr hu1_296 (by decide)
                  have eT := hu1_296.at (lo_k11_1 hL _ t_M) (by decide) eT
                  have e17 := hu1_296.at (lo_k11_12 hL _ t_M) (by decide) e17
                  refine lv_aload_n hx hb d_M_expr_116 rfl (lv_at hl 3 rfl) ?_
                  refine lv_dup hx hb d_M_expr_117 rfl ?_
                  refine pf_get (v := .int (nI i8)) (C := "BigRunnerModel") (T := FT10) (N := 45) hx hb (hw10 hB _) (fun _ h9 => h9) hown hK hP (lo_in hL t_M (by decide)) x1_292 rfl 10 (by decide) (wd_957 hB _) rfl d_M_expr_118 ?_
                  refine lv_iconst (v := nI 1) hx hb d_M_expr_121 (by decide) ?_
                  refine pf_iaddN (x := i8) (y := 1) hx hb d_M_expr_122 ?_
                  refine pf_put (v := .int (nI (i8 + 1))) (ty := .int) (fs' := [.int mth, .ref (g.lk M 1), .int (nI mn), .ref (g.lk M 3), .ref (g.lk M 4), .int (nI (r8 + 1)), .ref (g.lk M 6), .ref (g.lk M 7), .ref (g.lk M 8), .int (nI msz), .int (nI (i8 + 1)), .int (nI p8), .ref (g.lk M 12), .int (nI t8), .ref (g.lk M 14), .ref (g.lk M 15), .int (nI mop), .ref (g.lk M 17), .ref (g.lk M 18), .ref (g.lk M 19), .ref (g.lk M 20), .ref (g.lk M 21), .ref (g.lk M 22), .ref (g.lk M 23), .ref (g.lk M 24), .ref (g.lk M 25), .ref (g.lk M 26), .ref (g.lk M 27), .ref (g.lk M 28), .ref (g.lk M 29), .ref (g.lk M 30), .ref (g.lk M 31), .int (nI mtp), .ref (g.lk M 33), .ref (g.lk M 34), .ref (g.lk M 35), .int (nI mwa), .int (nI mgi), .int (nI mpc), .int (nI mst), .int (nI mtr), .int (nI msp), .int mma, .int mlg, .int mdu]) (C := "BigRunnerModel") (T := FT10) (N := 45) hx hb (hw10 hB _) (fun _ h9 => h9) TY10 ok10 nm10 hown hK hP hD hS (lo_in hL t_M (by decide)) x1_292 rfl 10 (by decide) (wd_957 hB _) rfl (by decide +kernel) rfl rfl (Nat.le_of_ble_eq_true rfl) rfl d_M_expr_123 (fun f297 H locs e298 k299 hP hD hS => ?_)
                  have eT := (k299 (g.lk M 1) (tg_ne (lo_k11_1 hL _ t_M) t_M (by decide))).trans eT
                  have e17 := (k299 (g.lk M 12) (tg_ne (lo_k11_12 hL _ t_M) t_M (by decide))).trans e17
                  have xd_293 := (k299 (g.lk M 3) (tg_ne (lo_k11_3 hL _ t_M) t_M (by decide))).trans xd_293
                  have xg_294 := (k299 (g.lk M 4) (tg_ne (lo_k11_4 hL _ t_M) t_M (by decide))).trans xg_294
                  have hu := hu.st k299 t_M (by decide)
                  have hv19 := hv19.st k299 t_M (by decide)
                  have hk300 : ∀ b, b ≠ M → f297 b = f290 b := k299
                  refine lv_aload_n hx hb d_M_expr_126 rfl (lv_at hl 3 rfl) ?_
                  have hI301 := iv_1 hI1_295 hL t_M (by decide) hk300 (oc_11.mk t_M (⟨mth, mn, (r8 + 1), msz, (i8 + 1), p8, t8, mop, mtp, mwa, mgi, mpc, mst, mtr, msp, mma, mlg, mdu, e298, (by omega), (by omega), (by omega), (by omega), (by omega), (by omega), (by omega), (by omega), (by omega), (by omega), (by omega), (by omega), (by omega), (by omega), hmb14⟩))
                  refine pcc_v (va_runV (C := "BigRunnerModel") (As := []) (rest := []) ⟨hx, hb, hml, hown, tb_nil⟩ (m2_negate l g H.size f297 M mth mn ((r8 + 1)) msz ((i8 + 1)) p8 t8 mop mtp mwa mgi mpc mst mtr msp mma mlg mdu ((upd d8 r8 (nI 1))) ((upd g8 r8 (nI vn))) hW8 mdr hL t_M hI301 e298 ⟨(by omega), (by omega), (by omega), (by omega), (by omega), (by omega), (by omega), (by omega), (by omega), (by omega), (by omega), (by omega), (by omega), (by omega), hmb14⟩ xd_293 xg_294 e17 (by omega) (by rw [dpc_s (by decide), if_pos (by decide)]; omega) (by omega) (GC_put hgc (by decide) (by omega) (fun z => by first | exact hvn | exact absurd z (by decide)) (fun z => absurd z (by decide)) (fun z _ => absurd z (by decide)))) ⟨(callB_of 0 (tb_one (wd_1126 hB _)) tb_good1 rfl rfl rfl (wd_82 hB _) (wd_1123 hB _) (by decide +kernel) ⟨Nat.le_of_ble_eq_true rfl, Nat.le_of_ble_eq_true rfl⟩), (wd_1125 hB _), (wd_46 hB _)⟩ ⟨pe_bl, pg_recv (ci := 10) hK hP (lo_in hL t_M (by decide)) e298 rfl, pe_pre hB hK hP hD⟩ rfl rfl hl.1 rfl (lv_room (Nat.le_of_ble_eq_true rfl)) d_M_expr_127 ⟨Nat.le_of_ble_eq_true rfl, Nat.le_of_ble_eq_true rfl⟩) hS (fun f303 H locs hq304 hP hD hS => ?_)
                  obtain ⟨x1_305, hI1_306, hu1_307⟩ := hq304
                  have hu := hu.tr hu1_307 (by decide)
                  have hv19 := hv19.tr hu1_307 (by decide)
                  have eT := hu1_307.at (lo_k11_1 hL _ t_M) (by decide) eT
                  have e17 := hu1_307.at (lo_k11_12 hL _ t_M) (by decide) e17
                  obtain ⟨wt_308, dp_309, dr_310, d_311, g_312, c313, c314, c315, c316, c317, c318, c319, c320, c321, c322, c323, c324, c325, e326, e327, e328⟩ := x1_305
                  refine lv_iconst (v := nI 0) hx hb d_M_expr_130 (by decide) ?_
                  refine lv_istore_n (lv' := [(1, .int (nI 0)), (3, .int (nxm hT mn i8)), (2, .int (nI 1)), (0, .ref M)]) hx hb d_M_expr_131 rfl hl (by decide) rfl (fun ls hl => ?_)
                  refine lv_goto (tgt := 281) hx hb d_M_expr_132 (by decide) ?_
                  refine lv_goto (tgt := 9) hx hb d_M_expr_281 (by decide) ?_
                  have hl : lv_has ls 4 [(2, .int (nI 1)), (1, .int (nI 0)), (0, .ref M)] := lv_sub hl [2, 0, 3] rfl
                  exact ih12 0 (i8 + 1) wt_308 dp_309 dr_310 hW8 d_311 g_312 Fw (o8 ++ [(1, vn)] ++ oy_neg (wlk hW8 t8)) f303 H locs ls (by omega) (by omega) (by omega) (by omega) (by omega) (by omega) (OKW_le hok (by omega)) (by omega) (by omega) (EI_0 (by have z := neg_n8 p8 e1; rw [c316] at z; exact z) (by rw [c319, dpc_s (by decide), if_pos (by decide)]; omega)) (hpy1.trans (by rw [py_eT, if_neg (fun z => z.elim hk2 hk4), if_pos hk6, c316]; rfl)) (by omega) c320 (smd_tr (smd_le c321 (by omega)) (smd_u hsd (by omega))) (smd_tr (smd_le c322 (by omega)) (smd_u hsg (by omega))) (hoy1.trans (by rw [oy_eT, if_neg (fun z => z.elim hk2 hk4), if_pos hk6, show (vc hT mn) i8 - 97 = vn by rw [vcm hl9]; exact vc_nm (kc_6.mp hkc6).1 (kc_6.mp hkc6).2 hvn qvn, c323]; simp)) (DS_cat (DS_put hds hro) (by rw [List.length_append, List.length_singleton]; omega) c321 c322 c325) (by rw [List.length_append, List.length_append, List.length_singleton]; omega) e326 e327 e328 e17 hI1_306 hv19 hl hP hD hS
              · skip
                have hkc : tk hT mn i8 = 4 := (tkm hT mn i8).symm.trans (kc_4.mpr b219)
                have hl9 : i8 < mn := tk_in (h := hT) (by omega)
                refine lv_aload_n hx hb d_M_expr_34 rfl (lv_at hl 3 rfl) ?_
                refine lv_dup hx hb d_M_expr_35 rfl ?_
                refine pf_get (v := .int (nI p8)) (C := "BigRunnerModel") (T := FT10) (N := 45) hx hb (hw10 hB _) (fun _ h9 => h9) hown hK hP (lo_in hL t_M (by decide)) e14 rfl 11 (by decide) (wd_958 hB _) rfl d_M_expr_36 ?_
                refine lv_iconst (v := nI 1) hx hb d_M_expr_39 (by decide) ?_
                refine pf_iaddN (x := p8) (y := 1) hx hb d_M_expr_40 ?_
                refine pf_put (v := .int (nI (p8 + 1))) (ty := .int) (fs' := [.int mth, .ref (g.lk M 1), .int (nI mn), .ref (g.lk M 3), .ref (g.lk M 4), .int (nI r8), .ref (g.lk M 6), .ref (g.lk M 7), .ref (g.lk M 8), .int (nI msz), .int (nI i8), .int (nI (p8 + 1)), .ref (g.lk M 12), .int (nI t8), .ref (g.lk M 14), .ref (g.lk M 15), .int (nI mop), .ref (g.lk M 17), .ref (g.lk M 18), .ref (g.lk M 19), .ref (g.lk M 20), .ref (g.lk M 21), .ref (g.lk M 22), .ref (g.lk M 23), .ref (g.lk M 24), .ref (g.lk M 25), .ref (g.lk M 26), .ref (g.lk M 27), .ref (g.lk M 28), .ref (g.lk M 29), .ref (g.lk M 30), .ref (g.lk M 31), .int (nI mtp), .ref (g.lk M 33), .ref (g.lk M 34), .ref (g.lk M 35), .int (nI mwa), .int (nI mgi), .int (nI mpc), .int (nI mst), .int (nI mtr), .int (nI msp), .int mma, .int mlg, .int mdu]) (C := "BigRunnerModel") (T := FT10) (N := 45) hx hb (hw10 hB _) (fun _ h9 => h9) TY10 ok10 nm10 hown hK hP hD hS (lo_in hL t_M (by decide)) e14 rfl 11 (by decide) (wd_958 hB _) rfl (by decide +kernel) rfl rfl (Nat.le_of_ble_eq_true rfl) rfl d_M_expr_41 (fun f329 H locs e330 k331 hP hD hS => ?_)
                have eT := (k331 (g.lk M 1) (tg_ne (lo_k11_1 hL _ t_M) t_M (by decide))).trans eT
                have e15 := (k331 (g.lk M 3) (tg_ne (lo_k11_3 hL _ t_M) t_M (by decide))).trans e15
                have e16 := (k331 (g.lk M 4) (tg_ne (lo_k11_4 hL _ t_M) t_M (by decide))).trans e16
                have e17 := (k331 (g.lk M 12) (tg_ne (lo_k11_12 hL _ t_M) t_M (by decide))).trans e17
                have hu := hu.st k331 t_M (by decide)
                have hv19 := hv19.st k331 t_M (by decide)
                have hk332 : ∀ b, b ≠ M → f329 b = f10 b := k331
                refine lv_aload_n hx hb d_M_expr_44 rfl (lv_at hl 3 rfl) ?_
                refine pf_get (v := .int (nI (p8 + 1))) (C := "BigRunnerModel") (T := FT10) (N := 45) hx hb (hw10 hB _) (fun _ h9 => h9) hown hK hP (lo_in hL t_M (by decide)) e330 rfl 11 (by decide) (wd_958 hB _) rfl d_M_expr_45 ?_
                refine lv_bipush (v := nI 10) hx hb d_M_expr_48 (by decide) ?_
                refine lv_icmp_le (tgt := 55) hx hb d_M_expr_50 (by decide) (fun b333 => ?_) (fun b333 => ?_)
                · skip
                  replace b333 := (nI_leI (a := p8 + 1) (b := 10) (by omega) (by omega)).mp b333
                  refine lv_aload_n hx hb d_M_expr_55 rfl (lv_at hl 3 rfl) ?_
                  refine pf_get (v := .ref (g.lk M 12)) (C := "BigRunnerModel") (T := FT10) (N := 45) hx hb (hw10 hB _) (fun _ h9 => h9) hown hK hP (lo_in hL t_M (by decide)) e330 rfl 12 (by decide) (wd_959 hB _) rfl d_M_expr_56 ?_
                  refine lv_aload_n hx hb d_M_expr_59 rfl (lv_at hl 3 rfl) ?_
                  refine pf_get (v := .int (nI t8)) (C := "BigRunnerModel") (T := FT10) (N := 45) hx hb (hw10 hB _) (fun _ h9 => h9) hown hK hP (lo_in hL t_M (by decide)) e330 rfl 13 (by decide) (wd_960 hB _) rfl d_M_expr_60 ?_
                  refine lv_iload_n hx hb d_M_expr_63 rfl (lv_at hl 0 rfl) ?_
                  refine lv_bipush (v := nI 45) hx hb d_M_expr_64 (by decide) ?_
                  refine lv_icmp_ne (tgt := 74) hx hb d_M_expr_66 (by decide) (fun b334 => ?_) (fun b334 => ?_)
                  · skip
                    refine lv_bipush (v := nI 40) hx hb d_M_expr_74 (by decide) ?_
                    have hI335 := iv_1 hI18 hL t_M (by decide) hk332 (oc_11.mk t_M (⟨mth, mn, r8, msz, i8, (p8 + 1), t8, mop, mtp, mwa, mgi, mpc, mst, mtr, msp, mma, mlg, mdu, e330, (by omega), (by omega), (by omega), (by omega), (by omega), (by omega), (by omega), (by omega), (by omega), (by omega), (by omega), (by omega), (by omega), (by omega), hmb14⟩))
                    refine pf_cast (i := t8) hx hb hK hP hD hS (lo_in hL (lo_k11_12 hL _ t_M) (by decide)) e17 (lo_t46 hL _ (lo_k11_12 hL _ t_M)) (by omega) (by decide) d_M_expr_76 (fun f336 H locs e337 k338 hP hD hS => ?_)
                    have eT := (k338 (g.lk M 1) (tg_ne (lo_k11_1 hL _ t_M) (lo_k11_12 hL _ t_M) (by decide))).trans eT
                    have e15 := (k338 (g.lk M 3) (tg_ne (lo_k11_3 hL _ t_M) (lo_k11_12 hL _ t_M) (by decide))).trans e15
                    have e16 := (k338 (g.lk M 4) (tg_ne (lo_k11_4 hL _ t_M) (lo_k11_12 hL _ t_M) (by decide))).trans e16
                    have e330 := (k338 M (tg_ne t_M (lo_k11_12 hL _ t_M) (by decide))).trans e330
                    have hu := hu.st k338 (lo_k11_12 hL _ t_M) (by decide)
                    have hv19 := hv19.st k338 (lo_k11_12 hL _ t_M) (by decide)
                    have hk339 : ∀ b, b ≠ (g.lk M 12) → f336 b = f329 b := k338
                    refine lv_aload_n hx hb d_M_expr_77 rfl (lv_at hl 3 rfl) ?_
                    refine lv_dup hx hb d_M_expr_78 rfl ?_
                    refine pf_get (v := .int (nI t8)) (C := "BigRunnerModel") (T := FT10) (N := 45) hx hb (hw10 hB _) (fun _ h9 => h9) hown hK hP (lo_in hL t_M (by decide)) e330 rfl 13 (by decide) (wd_960 hB _) rfl d_M_expr_79 ?_
                    refine lv_iconst (v := nI 1) hx hb d_M_expr_82 (by decide) ?_
                    refine pf_iaddN (x := t8) (y := 1) hx hb d_M_expr_83 ?_
                    have hI340 := iv_1 hI335 hL (lo_k11_12 hL _ t_M) (by decide) hk339 (oc_46.mk (lo_k11_12 hL _ t_M) (⟨_, e337⟩))
                    refine pf_put (v := .int (nI (t8 + 1))) (ty := .int) (fs' := [.int mth, .ref (g.lk M 1), .int (nI mn), .ref (g.lk M 3), .ref (g.lk M 4), .int (nI r8), .ref (g.lk M 6), .ref (g.lk M 7), .ref (g.lk M 8), .int (nI msz), .int (nI i8), .int (nI (p8 + 1)), .ref (g.lk M 12), .int (nI (t8 + 1)), .ref (g.lk M 14), .ref (g.lk M 15), .int (nI mop), .ref (g.lk M 17), .ref (g.lk M 18), .ref (g.lk M 19), .ref (g.lk M 20), .ref (g.lk M 21), .ref (g.lk M 22), .ref (g.lk M 23), .ref (g.lk M 24), .ref (g.lk M 25), .ref (g.lk M 26), .ref (g.lk M 27), .ref (g.lk M 28), .ref (g.lk M 29), .ref (g.lk M 30), .ref (g.lk M 31), .int (nI mtp), .ref (g.lk M 33), .ref (g.lk M 34), .ref (g.lk M 35), .int (nI mwa), .int (nI mgi), .int (nI mpc), .int (nI mst), .int (nI mtr), .int (nI msp), .int mma, .int mlg, .int mdu]) (C := "BigRunnerModel") (T := FT10) (N := 45) hx hb (hw10 hB _) (fun _ h9 => h9) TY10 ok10 nm10 hown hK hP hD hS (lo_in hL t_M (by decide)) e330 rfl 13 (by decide) (wd_960 hB _) rfl (by decide +kernel) rfl rfl (Nat.le_of_ble_eq_true rfl) rfl d_M_expr_84 (fun f341 H locs e342 k343 hP hD hS => ?_)
                    have eT := (k343 (g.lk M 1) (tg_ne (lo_k11_1 hL _ t_M) t_M (by decide))).trans eT
                    have e15 := (k343 (g.lk M 3) (tg_ne (lo_k11_3 hL _ t_M) t_M (by decide))).trans e15
                    have e16 := (k343 (g.lk M 4) (tg_ne (lo_k11_4 hL _ t_M) t_M (by decide))).trans e16
                    have e337 := (k343 (g.lk M 12) (tg_ne (lo_k11_12 hL _ t_M) t_M (by decide))).trans e337
                    have hu := hu.st k343 t_M (by decide)
                    have hv19 := hv19.st k343 t_M (by decide)
                    have hk344 : ∀ b, b ≠ M → f341 b = f336 b := k343
                    refine lv_aload_n hx hb d_M_expr_87 rfl (lv_at hl 3 rfl) ?_
                    refine lv_dup hx hb d_M_expr_88 rfl ?_
                    refine pf_get (v := .int (nI i8)) (C := "BigRunnerModel") (T := FT10) (N := 45) hx hb (hw10 hB _) (fun _ h9 => h9) hown hK hP (lo_in hL t_M (by decide)) e342 rfl 10 (by decide) (wd_957 hB _) rfl d_M_expr_89 ?_
                    refine lv_iconst (v := nI 1) hx hb d_M_expr_92 (by decide) ?_
                    refine pf_iaddN (x := i8) (y := 1) hx hb d_M_expr_93 ?_
                    refine pf_put (v := .int (nI (i8 + 1))) (ty := .int) (fs' := [.int mth, .ref (g.lk M 1), .int (nI mn), .ref (g.lk M 3), .ref (g.lk M 4), .int (nI r8), .ref (g.lk M 6), .ref (g.lk M 7), .ref (g.lk M 8), .int (nI msz), .int (nI (i8 + 1)), .int (nI (p8 + 1)), .ref (g.lk M 12), .int (nI (t8 + 1)), .ref (g.lk M 14), .ref (g.lk M 15), .int (nI mop), .ref (g.lk M 17), .ref (g.lk M 18), .ref (g.lk M 19), .ref (g.lk M 20), .ref (g.lk M 21), .ref (g.lk M 22), .ref (g.lk M 23), .ref (g.lk M 24), .ref (g.lk M 25), .ref (g.lk M 26), .ref (g.lk M 27), .ref (g.lk M 28), .ref (g.lk M 29), .ref (g.lk M 30), .ref (g.lk M 31), .int (nI mtp), .ref (g.lk M 33), .ref (g.lk M 34), .ref (g.lk M 35), .int (nI mwa), .int (nI mgi), .int (nI mpc), .int (nI mst), .int (nI mtr), .int (nI msp), .int mma, .int mlg, .int mdu]) (C := "BigRunnerModel") (T := FT10) (N := 45) hx hb (hw10 hB _) (fun _ h9 => h9) TY10 ok10 nm10 hown hK hP hD hS (lo_in hL t_M (by decide)) e342 rfl 10 (by decide) (wd_957 hB _) rfl (by decide +kernel) rfl rfl (Nat.le_of_ble_eq_true rfl) rfl d_M_expr_94 (fun f345 H locs e346 k347 hP hD hS => ?_)
                    have eT := (k347 (g.lk M 1) (tg_ne (lo_k11_1 hL _ t_M) t_M (by decide))).trans eT
                    have e15 := (k347 (g.lk M 3) (tg_ne (lo_k11_3 hL _ t_M) t_M (by decide))).trans e15
                    have e16 := (k347 (g.lk M 4) (tg_ne (lo_k11_4 hL _ t_M) t_M (by decide))).trans e16
                    have e337 := (k347 (g.lk M 12) (tg_ne (lo_k11_12 hL _ t_M) t_M (by decide))).trans e337
                    have hu := hu.st k347 t_M (by decide)
                    have hv19 := hv19.st k347 t_M (by decide)
                    have hk348 : ∀ b, b ≠ M → f345 b = f336 b := fun b q0 => (k347 b q0).trans (hk344 b q0)
                    refine lv_goto (tgt := 281) hx hb d_M_expr_97 (by decide) ?_
                    refine lv_goto (tgt := 9) hx hb d_M_expr_281 (by decide) ?_
                    have hI349 := iv_1 hI340 hL t_M (by decide) hk348 (oc_11.mk t_M (⟨mth, mn, r8, msz, (i8 + 1), (p8 + 1), (t8 + 1), mop, mtp, mwa, mgi, mpc, mst, mtr, msp, mma, mlg, mdu, e346, (by omega), (by omega), (by omega), (by omega), (by omega), (by omega), (by omega), (by omega), (by omega), (by omega), (by omega), (by omega), (by omega), (by omega), hmb14⟩))
                    have hl : lv_has ls 4 [(2, .int (nI 1)), (1, .int (nI 1)), (0, .ref M)] := lv_sub hl [1, 2, 3] rfl
                    exact ih12 1 (i8 + 1) (t8 + 1) (p8 + 1) r8 (upd hW8 t8 (vp_nar .char ((nI 40)))) d8 g8 Fw o8 f345 H locs ls (by omega) (by omega) (by omega) (by omega) (by omega) (by omega) (OKW_put hok (Or.inl (by decide))) (by rw [wll_upd, show wcc (vp_nar .char (nI 40)) = 4 by decide, cbr_c, if_pos (by decide)]; omega) (by omega) (by rw [wll_upd, show wcc (vp_nar .char (nI 40)) = 4 by decide]; exact EI_1 (n8t_4 e1) (by rw [nbS_c, if_pos (by decide)]; omega)) (hpy1.trans (by rw [py_eT, if_pos (Or.inr hkc), if_neg (by omega), if_neg (by omega), wll_upd, show wcc (vp_nar .char (nI 40)) = 4 by decide]; rfl)) (by omega) hgc hsd hsg (hoy1.trans (by rw [oy_eT, if_pos (Or.inr hkc), if_neg (by omega), wlk_upd, show wkk (vp_nar .char (nI 40)) = 9 by decide]; rfl)) hds hro e346 e15 e16 e337 hI349 hv19 hl hP hD hS
                  · skip
                    exact absurd (b219.symm.trans b334) (by decide)
                · skip
                  replace b333 := mt (nI_leI (a := p8 + 1) (b := 10) (by omega) (by omega)).mpr b333
                  refine lv_iconst (v := nI 0) hx hb d_M_expr_53 (by decide) ?_
                  have hI350 := iv_1 hI18 hL t_M (by decide) hk332 (oc_11.mk t_M (⟨mth, mn, r8, msz, i8, (p8 + 1), t8, mop, mtp, mwa, mgi, mpc, mst, mtr, msp, mma, mlg, mdu, e330, (by omega), (by omega), (by omega), (by omega), (by omega), (by omega), (by omega), (by omega), (by omega), (by omega), (by omega), (by omega), (by omega), (by omega), hmb14⟩))
                  exact pe_zret hx hb hr hlocks hK hP hD hS d_M_expr_54 rfl ⟨(Or.inr ⟨(hpy1.trans (by rw [py_eT, if_pos (Or.inr hkc), if_pos (by omega)])), ⟨i8, p8 + 1, r8, t8, by omega, by omega, by omega, by omega, e330⟩, rfl⟩), hI350, hu⟩
  exact lp9 (mn + 1) 1 mix 0 mdp mdr h_6 hQ hG 400 ([]) f1 H locs ls (by omega) (by omega) (by omega) (by omega) (by omega) (by omega) (fun i hi => absurd hi (by omega)) rfl (by omega) (EI_1 n8t_nil hdp0) rfl (by omega) GC_nil smd_rf smd_rf (List.nil_append _).symm trivial rfl e2 eD eG e5 hI8 un.rf hl hP hD hS

