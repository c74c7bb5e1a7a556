def MVO (hC hA : Nat → Int32) (dpf : Nat → Nat) (msz mst mwa mgi msp mtr mpc : Nat) (hv hw ho hp hi : Nat → Int32) : Option (List (Nat × Nat)) → PS → Prop
  | none, s => mst = 0 ∧ mgi = 0 ∧ s.outs = [] ∧ INM hi mwa s.ins
  | some L, s => MCL hC hA dpf msz L ∧ MQ9 hv hw ho hp hi mwa mgi msp mtr mpc s ∧ mst ≠ 0 ∧ (2 < mst ↔ s.tr ≠ 0 ∨ s.pc = L.length)
def MVS (g : Lay) (f : Nat → va_E) (M : Nat) (hC hA : Nat → Int32) (dpf : Nat → Nat) (msz mst mwa mgi msp mtr mpc : Nat) (o : Option (List (Nat × Nat))) (s : PS) : Prop := ∃ hl hs hr hq hv hw ho hp hi : Nat → Int32, f (g.lk M 30) = .inl (g.ac (g.lk M 30), 1600, .inl hl) ∧ f (g.lk M 31) = .inl (g.ac (g.lk M 31), 80, .inl hs) ∧ f (g.lk M 33) = .inl (g.ac (g.lk M 33), 44, .inl hr) ∧ f (g.lk M 34) = .inl (g.ac (g.lk M 34), 44, .inl hq) ∧ f (g.lk M 26) = .inl (g.ac (g.lk M 26), 200, .inl hv) ∧ f (g.lk M 27) = .inl (g.ac (g.lk M 27), 10, .inl hw) ∧ f (g.lk M 28) = .inl (g.ac (g.lk M 28), 240, .inl ho) ∧ f (g.lk M 29) = .inl (g.ac (g.lk M 29), 12, .inl hp) ∧ f (g.lk M 35) = .inl (g.ac (g.lk M 35), 20, .inl hi) ∧ C6 1600 hl ∧ C6 44 hr ∧ C6 44 hq ∧ C6 200 hv ∧ C6 240 ho ∧ MVO hC hA dpf msz mst mwa mgi msp mtr mpc hv hw ho hp hi o s
theorem MVS_un {g : Lay} {f f1 : Nat → va_E} {M msz mst mwa mgi msp mtr mpc : Nat} {hC hA : Nat → Int32} {dpf : Nat → Nat} {o : Option (List (Nat × Nat))} {s : PS} {W : List Nat} (hL : LO g) (t : g.tg M = 11) (h : MVS g f M hC hA dpf msz mst mwa mgi msp mtr mpc o s) (hu : un W g f f1) (hW : ∀ x ∈ [58, 59, 60, 61, 62, 63, 64, 65, 66], x ∉ W) : MVS g f1 M hC hA dpf msz mst mwa mgi msp mtr mpc o s := by
  obtain ⟨hl, hs, hr, hq, hv, hw, ho, hp, hi, e0, e1, e2, e3, e4, e5, e6, e7, e8, q⟩ := h
  exact ⟨hl, hs, hr, hq, hv, hw, ho, hp, hi, hu.at (lo_k11_30 hL _ t) (hW 62 (by decide)) e0, hu.at (lo_k11_31 hL _ t) (hW 63 (by decide)) e1, hu.at (lo_k11_33 hL _ t) (hW 64 (by decide)) e2, hu.at (lo_k11_34 hL _ t) (hW 65 (by decide)) e3, hu.at (lo_k11_26 hL _ t) (hW 58 (by decide)) e4, hu.at (lo_k11_27 hL _ t) (hW 59 (by decide)) e5, hu.at (lo_k11_28 hL _ t) (hW 60 (by decide)) e6, hu.at (lo_k11_29 hL _ t) (hW 61 (by decide)) e7, hu.at (lo_k11_35 hL _ t) (hW 66 (by decide)) e8, q⟩
theorem MVS_ins {g : Lay} {f : Nat → va_E} {M msz mst mwa mgi msp mtr mpc : Nat} {hC hA : Nat → Int32} {dpf : Nat → Nat} {o : Option (List (Nat × Nat))} {s : PS} (h : MVS g f M hC hA dpf msz mst mwa mgi msp mtr mpc o s) : mwa = s.ins.length := by
  obtain ⟨hl, hs, hr, hq, hv, hw, ho, hp, hi, -, -, -, -, -, -, -, -, -, -, -, -, -, -, q⟩ := h
  cases o with
  | none => exact q.2.2.2.1
  | some L => exact q.2.1.2.2.1.1
def MV (g : Lay) (M : Nat) (f : Nat → va_E) (n : Nat) (hT : Nat → Int32) (o : Option (List (Nat × Nat))) (s9 : PS) : Prop := ∃ (mth : Int32) (mdr : Nat) (msz : Nat) (mix : Nat) (mdp : Nat) (mwt : Nat) (mop : Nat) (mtp : Nat) (mwa : Nat) (mgi : Nat) (mpc : Nat) (mst : Nat) (mtr : Nat) (msp : Nat) (mma : Int32) (mlg : Int32) (mdu : Int32) (hC : Nat → Int32) (hA : Nat → Int32) (dpf : Nat → Nat), (f M = .inr (10, [.int mth, .ref (g.lk M 1), .int (nI n), .ref (g.lk M 3), .ref (g.lk M 4), .int (nI mdr), .ref (g.lk M 6), .ref (g.lk M 7), .ref (g.lk M 8), .int (nI msz), .int (nI mix), .int (nI mdp), .ref (g.lk M 12), .int (nI mwt), .ref (g.lk M 14), .ref (g.lk M 15), .int (nI mop), .ref (g.lk M 17), .ref (g.lk M 18), .ref (g.lk M 19), .ref (g.lk M 20), .ref (g.lk M 21), .ref (g.lk M 22), .ref (g.lk M 23), .ref (g.lk M 24), .ref (g.lk M 25), .ref (g.lk M 26), .ref (g.lk M 27), .ref (g.lk M 28), .ref (g.lk M 29), .ref (g.lk M 30), .ref (g.lk M 31), .int (nI mtp), .ref (g.lk M 33), .ref (g.lk M 34), .ref (g.lk M 35), .int (nI mwa), .int (nI mgi), .int (nI mpc), .int (nI mst), .int (nI mtr), .int (nI msp), .int mma, .int mlg, .int mdu])) ∧ (n ≤ 72 ∧ mdr ≤ 100 ∧ msz ≤ 100 ∧ mix ≤ 100 ∧ mdp ≤ 20 ∧ mwt ≤ 72 ∧ mop ≤ 40 ∧ mtp ≤ 80 ∧ mwa ≤ 20 ∧ mgi ≤ msp ∧ mpc ≤ 100 ∧ mst ≤ 4 ∧ mtr ≤ 3 ∧ msp ≤ 3000 ∧ (mdu = 0 ∨ mdu = 1)) ∧ (f (g.lk M 1) = .inl (g.ac (g.lk M 1), 72, .inl hT)) ∧ (∀ i, i < 72 → vp_nar .char (hT i) = hT i) ∧ (f (g.lk M 6) = .inl (g.ac (g.lk M 6), 100, .inl hC)) ∧ (f (g.lk M 7) = .inl (g.ac (g.lk M 7), 100, .inl hA)) ∧ (WF hC hA dpf msz) ∧ (RI hC dpf msz mst mpc mtr) ∧ (MVS g f M hC hA dpf msz mst mwa mgi msp mtr mpc o s9)
def MV2 (g : Lay) (M : Nat) (f : Nat → va_E) (n : Nat) (hT : Nat → Int32) (sg : GS) : Prop := MV g M f n hT sg.1 sg.2
theorem MV.un {g : Lay} {M n : Nat} {hT : Nat → Int32} {o : Option (List (Nat × Nat))} {s9 : PS} {f f1 : Nat → va_E} (hL : LO g) (t_M : g.tg M = 11) {W : List Nat} (h : MV g M f n hT o s9) (hu : un W g f f1) (hW : ∀ x ∈ [11, 40, 43, 44, 58, 59, 60, 61, 62, 63, 64, 65, 66], x ∉ W) : MV g M f1 n hT o s9 := by
  obtain ⟨mth, mdr, msz, mix, mdp, mwt, mop, mtp, mwa, mgi, mpc, mst, mtr, msp, mma, mlg, mdu, hC, hA, dpf, eM, hMB, eT, cT, eC, eA, hWF, hRI, hmv⟩ := h
  exact ⟨mth, mdr, msz, mix, mdp, mwt, mop, mtp, mwa, mgi, mpc, mst, mtr, msp, mma, mlg, mdu, hC, hA, dpf, hu.at t_M (hW 11 (by decide)) eM, hMB, hu.at (lo_k11_1 hL _ t_M) (hW 40 (by decide)) eT, cT, hu.at (lo_k11_6 hL _ t_M) (hW 43 (by decide)) eC, hu.at (lo_k11_7 hL _ t_M) (hW 44 (by decide)) eA, hWF, hRI, MVS_un hL t_M hmv hu (fun x hx => hW x (by revert x; decide))⟩
theorem MV2.un {g : Lay} {M n : Nat} {hT : Nat → Int32} {sg : GS} {f f1 : Nat → va_E} (hL : LO g) (t_M : g.tg M = 11) {W : List Nat} (h : MV2 g M f n hT sg) (hu : un W g f f1) (hW : ∀ x ∈ [11, 40, 43, 44, 58, 59, 60, 61, 62, 63, 64, 65, 66], x ∉ W) : MV2 g M f1 n hT sg := MV.un hL t_M h hu hW
set_option maxHeartbeats 4000000 in
set_option maxRecDepth 100000 in
theorem w_give (l : Launch) (g : Lay) (sz : Nat) (f : Nat → va_E) (M : Nat) (mth : Int32) (mn : Nat) (mdr : Nat) (msz : Nat) (mix : Nat) (mdp : Nat) (mwt : Nat) (mop : Nat) (mtp : Nat) (mwa : Nat) (mgi : Nat) (mpc : Nat) (mst : Nat) (mtr : Nat) (msp : Nat) (mma : Int32) (mlg : Int32) (mdu : Int32) (hIN : Nat → Int32) (ins : List Int) (v : Int32) (hL : LO g) (t_M : g.tg M = 11) (hI : IV g f) (eM : f M = .inr (10, [.int mth, .ref (g.lk M 1), .int (nI mn), .ref (g.lk M 3), .ref (g.lk M 4), .int (nI mdr), .ref (g.lk M 6), .ref (g.lk M 7), .ref (g.lk M 8), .int (nI msz), .int (nI mix), .int (nI mdp), .ref (g.lk M 12), .int (nI mwt), .ref (g.lk M 14), .ref (g.lk M 15), .int (nI mop), .ref (g.lk M 17), .ref (g.lk M 18), .ref (g.lk M 19), .ref (g.lk M 20), .ref (g.lk M 21), .ref (g.lk M 22), .ref (g.lk M 23), .ref (g.lk M 24), .ref (g.lk M 25), .ref (g.lk M 26), .ref (g.lk M 27), .ref (g.lk M 28), .ref (g.lk M 29), .ref (g.lk M 30), .ref (g.lk M 31), .int (nI mtp), .ref (g.lk M 33), .ref (g.lk M 34), .ref (g.lk M 35), .int (nI mwa), .int (nI mgi), .int (nI mpc), .int (nI mst), .int (nI mtr), .int (nI msp), .int mma, .int mlg, .int mdu])) (hMB : mn ≤ 72 ∧ mdr ≤ 100 ∧ msz ≤ 100 ∧ mix ≤ 100 ∧ mdp ≤ 20 ∧ mwt ≤ 72 ∧ mop ≤ 40 ∧ mtp ≤ 80 ∧ mwa ≤ 20 ∧ mgi ≤ msp ∧ mpc ≤ 100 ∧ mst ≤ 4 ∧ mtr ≤ 3 ∧ msp ≤ 3000 ∧ (mdu = 0 ∨ mdu = 1)) (eIN : f (g.lk M 35) = .inl (g.ac (g.lk M 35), 20, .inl hIN)) (hINq : INM hIN mwa ins) : Met l ⟨"BigRunnerModel", "give", "(I)Z"⟩ [Cond.code ⟨"BigRunnerModel", "give", "(I)Z"⟩ prog_12_method_41_code 2 (some .boolean)] ({ frames := 0, cells := 0, slots := 0, locals := 0 }) (va_Pc [.ref M, .int v] (pc_in g sz f)) (va_Qi (fun r f1 => ((r = nI 1 ∧ GOK v ins ∧ (f1 M = .inr (10, [.int (nI 0), .ref (g.lk M 1), .int (nI mn), .ref (g.lk M 3), .ref (g.lk M 4), .int (nI mdr), .ref (g.lk M 6), .ref (g.lk M 7), .ref (g.lk M 8), .int (nI msz), .int (nI mix), .int (nI mdp), .ref (g.lk M 12), .int (nI mwt), .ref (g.lk M 14), .ref (g.lk M 15), .int (nI mop), .ref (g.lk M 17), .ref (g.lk M 18), .ref (g.lk M 19), .ref (g.lk M 20), .ref (g.lk M 21), .ref (g.lk M 22), .ref (g.lk M 23), .ref (g.lk M 24), .ref (g.lk M 25), .ref (g.lk M 26), .ref (g.lk M 27), .ref (g.lk M 28), .ref (g.lk M 29), .ref (g.lk M 30), .ref (g.lk M 31), .int (nI mtp), .ref (g.lk M 33), .ref (g.lk M 34), .ref (g.lk M 35), .int (nI (mwa + 1)), .int (nI mgi), .int (nI mpc), .int (nI mst), .int (nI mtr), .int (nI msp), .int mma, .int mlg, .int mdu])) ∧ f1 (g.lk M 35) = .inl (g.ac (g.lk M 35), 20, .inl (upd hIN mwa v))) ∨ (r = nI 0 ∧ ¬ GOK v ins ∧ (f1 M = .inr (10, [.int (nI 0), .ref (g.lk M 1), .int (nI mn), .ref (g.lk M 3), .ref (g.lk M 4), .int (nI mdr), .ref (g.lk M 6), .ref (g.lk M 7), .ref (g.lk M 8), .int (nI msz), .int (nI mix), .int (nI mdp), .ref (g.lk M 12), .int (nI mwt), .ref (g.lk M 14), .ref (g.lk M 15), .int (nI mop), .ref (g.lk M 17), .ref (g.lk M 18), .ref (g.lk M 19), .ref (g.lk M 20), .ref (g.lk M 21), .ref (g.lk M 22), .ref (g.lk M 23), .ref (g.lk M 24), .ref (g.lk M 25), .ref (g.lk M 26), .ref (g.lk M 27), .ref (g.lk M 28), .ref (g.lk M 29), .ref (g.lk M 30), .ref (g.lk M 31), .int (nI mtp), .ref (g.lk M 33), .ref (g.lk M 34), .ref (g.lk M 35), .int (nI mwa), .int (nI mgi), .int (nI mpc), .int (nI mst), .int (nI mtr), .int (nI msp), .int mma, .int mlg, .int mdu])) ∧ f1 (g.lk M 35) = .inl (g.ac (g.lk M 35), 20, .inl hIN))) ∧ (IV g f1) ∧ (un [11, 66] g f f1)) (pc_out g sz) (pc_A g sz)) 0 0 (pc_A g sz) := by
  refine pe_ofW (cc := prog_12_method_41_code) (maxL := 2) (ret := (some .boolean)) (lv := [(0, .ref M), (1, .int v)]) (by decide) (Nat.le_of_ble_eq_true rfl) rfl ?_
  intro p e s m args below meth c ls hx hb hr hml hlocks hown hB hP hK hD hsz hS hl
  subst hsz
  have hu : un [11, 66] g f f := un.rf
  obtain ⟨hmb0, hmb1, hmb2, hmb3, hmb4, hmb5, hmb6, hmb7, hmb8, hmb9, hmb10, hmb11, hmb12, hmb13, hmb14⟩ := hMB
  have hwa := hINq.1
  have hIm : (-1000000000 : Int32).toInt = -1000000000 := by decide
  have hIp : (nI 1000000000).toInt = 1000000000 := by decide
  refine lv_aload_n hx hb d_M_give_0 rfl (lv_at hl 0 rfl) ?_
  refine lv_iconst (v := nI 0) hx hb d_M_give_1 (by decide) ?_
  refine pf_put (v := .int (nI 0)) (ty := .int) (fs' := [.int (nI 0), .ref (g.lk M 1), .int (nI mn), .ref (g.lk M 3), .ref (g.lk M 4), .int (nI mdr), .ref (g.lk M 6), .ref (g.lk M 7), .ref (g.lk M 8), .int (nI msz), .int (nI mix), .int (nI mdp), .ref (g.lk M 12), .int (nI mwt), .ref (g.lk M 14), .ref (g.lk M 15), .int (nI mop), .ref (g.lk M 17), .ref (g.lk M 18), .ref (g.lk M 19), .ref (g.lk M 20), .ref (g.lk M 21), .ref (g.lk M 22), .ref (g.lk M 23), .ref (g.lk M 24), .ref (g.lk M 25), .ref (g.lk M 26), .ref (g.lk M 27), .ref (g.lk M 28), .ref (g.lk M 29), .ref (g.lk M 30), .ref (g.lk M 31), .int (nI mtp), .ref (g.lk M 33), .ref (g.lk M 34), .ref (g.lk M 35), .int (nI mwa), .int (nI mgi), .int (nI mpc), .int (nI mst), .int (nI mtr), .int (nI msp), .int mma, .int mlg, .int mdu]) (C := "BigRunnerModel") (T := FT10) (N := 45) hx hb (hw10 hB _) (fun _ h9 => h9) TY10 ok10 nm10 hown hK hP hD hS (lo_in hL t_M (by decide)) eM rfl 0 (by decide) (wd_947 hB _) rfl (by decide +kernel) rfl rfl (Nat.le_of_ble_eq_true rfl) rfl d_M_give_2 (fun f1 H locs e2 k3 hP hD hS => ?_)
  have eIN := (k3 (g.lk M 35) (tg_ne (lo_k11_35 hL _ t_M) t_M (by decide))).trans eIN
  have hu := hu.st k3 t_M (by decide)
  have hk4 : ∀ b, b ≠ M → f1 b = f b := k3
  refine lv_iload_n hx hb d_M_give_5 rfl (lv_at hl 1 rfl) ?_
  refine lv_ldcw (v := (-1000000000)) hx hb hown (wd_1194 hB _) d_M_give_6 ?_
  refine lv_icmp_lt (tgt := 28) hx hb d_M_give_9 (by decide) (fun b5 => ?_) (fun b5 => ?_)
  · skip
    refine lv_iconst (v := nI 0) hx hb d_M_give_28 (by decide) ?_
    have hI6 := iv_1 hI hL t_M (by decide) hk4 (oc_11.mk t_M (⟨((nI 0)), mn, mdr, msz, mix, mdp, mwt, mop, mtp, mwa, mgi, mpc, mst, mtr, msp, mma, mlg, mdu, e2, (by omega), (by omega), (by omega), (by omega), (by omega), (by omega), (by omega), (by omega), (by omega), (by omega), (by omega), (by omega), (by omega), (by omega), hmb14⟩))
    exact pe_zret hx hb hr hlocks hK hP hD hS d_M_give_29 rfl ⟨(Or.inr ⟨rfl, (fun z9 => by have y9 := Int32.lt_iff_toInt_lt.mp b5; rw [hIm] at y9; have := z9.1; omega), e2, eIN⟩), hI6, hu⟩
  · skip
    have hg1 : -1000000000 ≤ v.toInt := by have z9 := Int32.not_lt.mp b5; rw [Int32.le_iff_toInt_le, hIm] at z9; exact z9
    refine lv_iload_n hx hb d_M_give_12 rfl (lv_at hl 1 rfl) ?_
    refine lv_ldcw (v := 1000000000) hx hb hown (wd_1195 hB _) d_M_give_13 ?_
    refine lv_topi (fun z_ hz_ => ?_)
    obtain rfl : z_ = nI 1000000000 := hz_
    refine lv_icmp_gt (tgt := 28) hx hb d_M_give_16 (by decide) (fun b7 => ?_) (fun b7 => ?_)
    · skip
      refine lv_iconst (v := nI 0) hx hb d_M_give_28 (by decide) ?_
      have hI8 := iv_1 hI hL t_M (by decide) hk4 (oc_11.mk t_M (⟨((nI 0)), mn, mdr, msz, mix, mdp, mwt, mop, mtp, mwa, mgi, mpc, mst, mtr, msp, mma, mlg, mdu, e2, (by omega), (by omega), (by omega), (by omega), (by omega), (by omega), (by omega), (by omega), (by omega), (by omega), (by omega), (by omega), (by omega), (by omega), hmb14⟩))
      exact pe_zret hx hb hr hlocks hK hP hD hS d_M_give_29 rfl ⟨(Or.inr ⟨rfl, (fun z9 => by have y9 := Int32.lt_iff_toInt_lt.mp b7; rw [hIp] at y9; have := z9.2.1; omega), e2, eIN⟩), hI8, hu⟩
    · skip
      have hg2 : v.toInt ≤ 1000000000 := by have z9 := Int32.not_lt.mp b7; rw [Int32.le_iff_toInt_le, hIp] at z9; exact z9
      refine lv_aload_n hx hb d_M_give_19 rfl (lv_at hl 0 rfl) ?_
      refine pf_get (v := .int (nI mwa)) (C := "BigRunnerModel") (T := FT10) (N := 45) hx hb (hw10 hB _) (fun _ h9 => h9) hown hK hP (lo_in hL t_M (by decide)) e2 rfl 36 (by decide) (wd_983 hB _) rfl d_M_give_20 ?_
      refine lv_bipush (v := nI 20) hx hb d_M_give_23 (by decide) ?_
      refine lv_icmp_ne (tgt := 30) hx hb d_M_give_25 (by decide) (fun b9 => ?_) (fun b9 => ?_)
      · skip
        replace b9 := mt (nI_eq (a := mwa) (b := 20) (by omega) (by omega)).mpr b9
        refine lv_aload_n hx hb d_M_give_30 rfl (lv_at hl 0 rfl) ?_
        refine pf_get (v := .ref (g.lk M 35)) (C := "BigRunnerModel") (T := FT10) (N := 45) hx hb (hw10 hB _) (fun _ h9 => h9) hown hK hP (lo_in hL t_M (by decide)) e2 rfl 35 (by decide) (wd_982 hB _) rfl d_M_give_31 ?_
        refine lv_aload_n hx hb d_M_give_34 rfl (lv_at hl 0 rfl) ?_
        refine pf_get (v := .int (nI mwa)) (C := "BigRunnerModel") (T := FT10) (N := 45) hx hb (hw10 hB _) (fun _ h9 => h9) hown hK hP (lo_in hL t_M (by decide)) e2 rfl 36 (by decide) (wd_983 hB _) rfl d_M_give_35 ?_
        refine lv_iload_n hx hb d_M_give_38 rfl (lv_at hl 1 rfl) ?_
        have hI10 := iv_1 hI hL t_M (by decide) hk4 (oc_11.mk t_M (⟨((nI 0)), mn, mdr, msz, mix, mdp, mwt, mop, mtp, mwa, mgi, mpc, mst, mtr, msp, mma, mlg, mdu, e2, (by omega), (by omega), (by omega), (by omega), (by omega), (by omega), (by omega), (by omega), (by omega), (by omega), (by omega), (by omega), (by omega), (by omega), hmb14⟩))
        refine pf_iast (i := mwa) hx hb hK hP hD hS (lo_in hL (lo_k11_35 hL _ t_M) (by decide)) eIN (lo_t66 hL _ (lo_k11_35 hL _ t_M)) (by omega) (by decide) d_M_give_39 (fun f11 H locs e12 k13 hP hD hS => ?_)
        have e2 := (k13 M (tg_ne t_M (lo_k11_35 hL _ t_M) (by decide))).trans e2
        have hu := hu.st k13 (lo_k11_35 hL _ t_M) (by decide)
        have hk14 : ∀ b, b ≠ (g.lk M 35) → f11 b = f1 b := k13
        refine lv_aload_n hx hb d_M_give_40 rfl (lv_at hl 0 rfl) ?_
        refine lv_dup hx hb d_M_give_41 rfl ?_
        refine pf_get (v := .int (nI mwa)) (C := "BigRunnerModel") (T := FT10) (N := 45) hx hb (hw10 hB _) (fun _ h9 => h9) hown hK hP (lo_in hL t_M (by decide)) e2 rfl 36 (by decide) (wd_983 hB _) rfl d_M_give_42 ?_
        refine lv_iconst (v := nI 1) hx hb d_M_give_45 (by decide) ?_
        refine pf_iaddN (x := mwa) (y := 1) hx hb d_M_give_46 ?_
        have hI15 := iv_1 hI10 hL (lo_k11_35 hL _ t_M) (by decide) hk14 (oc_66.mk (lo_k11_35 hL _ t_M) (⟨_, e12⟩))
        refine pf_put (v := .int (nI (mwa + 1))) (ty := .int) (fs' := [.int (nI 0), .ref (g.lk M 1), .int (nI mn), .ref (g.lk M 3), .ref (g.lk M 4), .int (nI mdr), .ref (g.lk M 6), .ref (g.lk M 7), .ref (g.lk M 8), .int (nI msz), .int (nI mix), .int (nI mdp), .ref (g.lk M 12), .int (nI mwt), .ref (g.lk M 14), .ref (g.lk M 15), .int (nI mop), .ref (g.lk M 17), .ref (g.lk M 18), .ref (g.lk M 19), .ref (g.lk M 20), .ref (g.lk M 21), .ref (g.lk M 22), .ref (g.lk M 23), .ref (g.lk M 24), .ref (g.lk M 25), .ref (g.lk M 26), .ref (g.lk M 27), .ref (g.lk M 28), .ref (g.lk M 29), .ref (g.lk M 30), .ref (g.lk M 31), .int (nI mtp), .ref (g.lk M 33), .ref (g.lk M 34), .ref (g.lk M 35), .int (nI (mwa + 1)), .int (nI mgi), .int (nI mpc), .int (nI mst), .int (nI mtr), .int (nI msp), .int mma, .int mlg, .int mdu]) (C := "BigRunnerModel") (T := FT10) (N := 45) hx hb (hw10 hB _) (fun _ h9 => h9) TY10 ok10 nm10 hown hK hP hD hS (lo_in hL t_M (by decide)) e2 rfl 36 (by decide) (wd_983 hB _) rfl (by decide +kernel) rfl rfl (Nat.le_of_ble_eq_true rfl) rfl d_M_give_47 (fun f16 H locs e17 k18 hP hD hS => ?_)
        have e12 := (k18 (g.lk M 35) (tg_ne (lo_k11_35 hL _ t_M) t_M (by decide))).trans e12
        have hu := hu.st k18 t_M (by decide)
        have hk19 : ∀ b, b ≠ M → f16 b = f11 b := k18
        refine lv_iconst (v := nI 1) hx hb d_M_give_50 (by decide) ?_
        have hI20 := iv_1 hI15 hL t_M (by decide) hk19 (oc_11.mk t_M (⟨((nI 0)), mn, mdr, msz, mix, mdp, mwt, mop, mtp, (mwa + 1), mgi, mpc, mst, mtr, msp, mma, mlg, mdu, e17, (by omega), (by omega), (by omega), (by omega), (by omega), (by omega), (by omega), (by omega), (by omega), (by omega), (by omega), (by omega), (by omega), (by omega), hmb14⟩))
        exact pe_zret hx hb hr hlocks hK hP hD hS d_M_give_51 rfl ⟨(Or.inl ⟨rfl, ⟨hg1, hg2, by omega⟩, e17, e12⟩), hI20, hu⟩
      · skip
        replace b9 := (nI_eq (a := mwa) (b := 20) (by omega) (by omega)).mp b9
        refine lv_iconst (v := nI 0) hx hb d_M_give_28 (by decide) ?_
        have hI21 := iv_1 hI hL t_M (by decide) hk4 (oc_11.mk t_M (⟨((nI 0)), mn, mdr, msz, mix, mdp, mwt, mop, mtp, mwa, mgi, mpc, mst, mtr, msp, mma, mlg, mdu, e2, (by omega), (by omega), (by omega), (by omega), (by omega), (by omega), (by omega), (by omega), (by omega), (by omega), (by omega), (by omega), (by omega), (by omega), hmb14⟩))
        exact pe_zret hx hb hr hlocks hK hP hD hS d_M_give_29 rfl ⟨(Or.inr ⟨rfl, (fun z9 => by have := z9.2.2; omega), e2, eIN⟩), hI21, hu⟩
set_option maxHeartbeats 4000000 in
set_option maxRecDepth 100000 in
theorem w_runN (l : Launch) (g : Lay) (sz : Nat) (f : Nat → va_E) (M : Nat) (mth : Int32) (mn : Nat) (mdr : Nat) (msz : Nat) (mix : Nat) (mdp : Nat) (mwt : Nat) (mop : Nat) (mtp : Nat) (mwa : Nat) (mgi : Nat) (mpc : Nat) (mst : Nat) (mtr : Nat) (msp : Nat) (mma : Int32) (mlg : Int32) (mdu : Int32) (vn : Int32) (hL : LO g) (t_M : g.tg M = 11) (hI : IV g f) (eM : f M = .inr (10, [.int mth, .ref (g.lk M 1), .int (nI mn), .ref (g.lk M 3), .ref (g.lk M 4), .int (nI mdr), .ref (g.lk M 6), .ref (g.lk M 7), .ref (g.lk M 8), .int (nI msz), .int (nI mix), .int (nI mdp), .ref (g.lk M 12), .int (nI mwt), .ref (g.lk M 14), .ref (g.lk M 15), .int (nI mop), .ref (g.lk M 17), .ref (g.lk M 18), .ref (g.lk M 19), .ref (g.lk M 20), .ref (g.lk M 21), .ref (g.lk M 22), .ref (g.lk M 23), .ref (g.lk M 24), .ref (g.lk M 25), .ref (g.lk M 26), .ref (g.lk M 27), .ref (g.lk M 28), .ref (g.lk M 29), .ref (g.lk M 30), .ref (g.lk M 31), .int (nI mtp), .ref (g.lk M 33), .ref (g.lk M 34), .ref (g.lk M 35), .int (nI mwa), .int (nI mgi), .int (nI mpc), .int (nI mst), .int (nI mtr), .int (nI msp), .int mma, .int mlg, .int mdu])) (hMB : mn ≤ 72 ∧ mdr ≤ 100 ∧ msz ≤ 100 ∧ mix ≤ 100 ∧ mdp ≤ 20 ∧ mwt ≤ 72 ∧ mop ≤ 40 ∧ mtp ≤ 80 ∧ mwa ≤ 20 ∧ mgi ≤ msp ∧ mpc ≤ 100 ∧ mst ≤ 4 ∧ mtr ≤ 3 ∧ msp ≤ 3000 ∧ (mdu = 0 ∨ mdu = 1)) (hst0 : mst = 0) : Met l ⟨"BigRunnerModel", "run", "(I)I"⟩ [Cond.code ⟨"BigRunnerModel", "run", "(I)I"⟩ prog_12_method_45_code 3 (some .int)] ({ frames := 5, cells := 0, slots := 0, locals := 124 }) (va_Pc [.ref M, .int vn] (pc_in g sz f)) (va_Qi (fun r f1 => (f1 M = .inr (10, [.int (nI 1), .ref (g.lk M 1), .int (nI mn), .ref (g.lk M 3), .ref (g.lk M 4), .int (nI mdr), .ref (g.lk M 6), .ref (g.lk M 7), .ref (g.lk M 8), .int (nI msz), .int (nI mix), .int (nI mdp), .ref (g.lk M 12), .int (nI mwt), .ref (g.lk M 14), .ref (g.lk M 15), .int (nI mop), .ref (g.lk M 17), .ref (g.lk M 18), .ref (g.lk M 19), .ref (g.lk M 20), .ref (g.lk M 21), .ref (g.lk M 22), .ref (g.lk M 23), .ref (g.lk M 24), .ref (g.lk M 25), .ref (g.lk M 26), .ref (g.lk M 27), .ref (g.lk M 28), .ref (g.lk M 29), .ref (g.lk M 30), .ref (g.lk M 31), .int (nI mtp), .ref (g.lk M 33), .ref (g.lk M 34), .ref (g.lk M 35), .int (nI mwa), .int (nI mgi), .int (nI mpc), .int (nI mst), .int (nI mtr), .int (nI msp), .int mma, .int mlg, .int mdu])) ∧ (r = nI 0) ∧ (IV g f1) ∧ (un [11] g f f1)) (pc_out g sz) (pc_A g sz)) 0 0 (pc_A g sz) := by
  refine pe_ofW (cc := prog_12_method_45_code) (maxL := 3) (ret := (some .int)) (lv := [(0, .ref M), (1, .int vn)]) (by decide) (Nat.le_of_ble_eq_true rfl) rfl ?_
  intro p e s m args below meth c ls hx hb hr hml hlocks hown hB hP hK hD hsz hS hl
  subst hsz
  have hu : un [11] g f f := un.rf
  obtain ⟨hmb0, hmb1, hmb2, hmb3, hmb4, hmb5, hmb6, hmb7, hmb8, hmb9, hmb10, hmb11, hmb12, hmb13, hmb14⟩ := hMB
  refine lv_aload_n hx hb d_M_run_0 rfl (lv_at hl 0 rfl) ?_
  refine lv_aload_n hx hb d_M_run_1 rfl (lv_at hl 0 rfl) ?_
  refine pf_get (v := .int (nI mst)) (C := "BigRunnerModel") (T := FT10) (N := 45) hx hb (hw10 hB _) (fun _ h9 => h9) hown hK hP (lo_in hL t_M (by decide)) eM rfl 39 (by decide) (wd_986 hB _) rfl d_M_run_2 ?_
  refine lv_if_eq (tgt := 16) hx hb d_M_run_5 (by decide) (fun b1 => ?_) (fun b1 => ?_)
  · skip
    replace b1 := (nI_eq (a := mst) (b := 0) (by omega) (by omega)).mp b1
    refine lv_iconst (v := nI 1) hx hb d_M_run_16 (by decide) ?_
    refine lv_goto (tgt := 37) hx hb d_M_run_17 (by decide) ?_
    refine pf_put (v := .int (nI 1)) (ty := .int) (fs' := [.int (nI 1), .ref (g.lk M 1), .int (nI mn), .ref (g.lk M 3), .ref (g.lk M 4), .int (nI mdr), .ref (g.lk M 6), .ref (g.lk M 7), .ref (g.lk M 8), .int (nI msz), .int (nI mix), .int (nI mdp), .ref (g.lk M 12), .int (nI mwt), .ref (g.lk M 14), .ref (g.lk M 15), .int (nI mop), .ref (g.lk M 17), .ref (g.lk M 18), .ref (g.lk M 19), .ref (g.lk M 20), .ref (g.lk M 21), .ref (g.lk M 22), .ref (g.lk M 23), .ref (g.lk M 24), .ref (g.lk M 25), .ref (g.lk M 26), .ref (g.lk M 27), .ref (g.lk M 28), .ref (g.lk M 29), .ref (g.lk M 30), .ref (g.lk M 31), .int (nI mtp), .ref (g.lk M 33), .ref (g.lk M 34), .ref (g.lk M 35), .int (nI mwa), .int (nI mgi), .int (nI mpc), .int (nI mst), .int (nI mtr), .int (nI msp), .int mma, .int mlg, .int mdu]) (C := "BigRunnerModel") (T := FT10) (N := 45) hx hb (hw10 hB _) (fun _ h9 => h9) TY10 ok10 nm10 hown hK hP hD hS (lo_in hL t_M (by decide)) eM rfl 0 (by decide) (wd_947 hB _) rfl (by decide +kernel) rfl rfl (Nat.le_of_ble_eq_true rfl) rfl d_M_run_37 (fun f2 H locs e3 k4 hP hD hS => ?_)
    have hu := hu.st k4 t_M (by decide)
    have hk5 : ∀ b, b ≠ M → f2 b = f b := k4
    refine lv_aload_n hx hb d_M_run_40 rfl (lv_at hl 0 rfl) ?_
    refine pf_get (v := .int (nI 1)) (C := "BigRunnerModel") (T := FT10) (N := 45) hx hb (hw10 hB _) (fun _ h9 => h9) hown hK hP (lo_in hL t_M (by decide)) e3 rfl 0 (by decide) (wd_947 hB _) rfl d_M_run_41 ?_
    refine lv_if_le (tgt := 49) hx hb d_M_run_44 (by decide) (fun b6 => ?_) (fun b6 => ?_)
    · skip
      replace b6 := (nI_leI (a := 1) (b := 0) (by omega) (by omega)).mp b6
      exfalso; omega
    · skip
      replace b6 := mt (nI_leI (a := 1) (b := 0) (by omega) (by omega)).mpr b6
      refine lv_iconst (v := nI 0) hx hb d_M_run_47 (by decide) ?_
      have hI7 := iv_1 hI hL t_M (by decide) hk5 (oc_11.mk t_M (⟨((nI 1)), mn, mdr, msz, mix, mdp, mwt, mop, mtp, mwa, mgi, mpc, mst, mtr, msp, mma, mlg, mdu, e3, (by omega), (by omega), (by omega), (by omega), (by omega), (by omega), (by omega), (by omega), (by omega), (by omega), (by omega), (by omega), (by omega), (by omega), hmb14⟩))
      exact pe_iret hx hb hr hlocks hK hP hD hS d_M_run_48 ⟨e3, rfl, hI7, hu⟩
  · skip
    replace b1 := mt (nI_eq (a := mst) (b := 0) (by omega) (by omega)).mpr b1
    exfalso; omega
set_option maxHeartbeats 4000000 in
set_option maxRecDepth 100000 in
theorem w_load (l : Launch) (g : Lay) (sz : Nat) (f : Nat → va_E) (M : Nat) (mth : Int32) (mn : Nat) (mdr : Nat) (msz : Nat) (mix : Nat) (mdp : Nat) (mwt : Nat) (mop : Nat) (mtp : Nat) (mwa : Nat) (mgi : Nat) (mpc : Nat) (mst : Nat) (mtr : Nat) (msp : Nat) (mma : Int32) (mlg : Int32) (mdu : Int32) (hT : Nat → Int32) (hC : Nat → Int32) (hA : Nat → Int32) (hL : LO g) (t_M : g.tg M = 11) (hI : IV g f) (eM : f M = .inr (10, [.int mth, .ref (g.lk M 1), .int (nI mn), .ref (g.lk M 3), .ref (g.lk M 4), .int (nI mdr), .ref (g.lk M 6), .ref (g.lk M 7), .ref (g.lk M 8), .int (nI msz), .int (nI mix), .int (nI mdp), .ref (g.lk M 12), .int (nI mwt), .ref (g.lk M 14), .ref (g.lk M 15), .int (nI mop), .ref (g.lk M 17), .ref (g.lk M 18), .ref (g.lk M 19), .ref (g.lk M 20), .ref (g.lk M 21), .ref (g.lk M 22), .ref (g.lk M 23), .ref (g.lk M 24), .ref (g.lk M 25), .ref (g.lk M 26), .ref (g.lk M 27), .ref (g.lk M 28), .ref (g.lk M 29), .ref (g.lk M 30), .ref (g.lk M 31), .int (nI mtp), .ref (g.lk M 33), .ref (g.lk M 34), .ref (g.lk M 35), .int (nI mwa), .int (nI mgi), .int (nI mpc), .int (nI mst), .int (nI mtr), .int (nI msp), .int mma, .int mlg, .int mdu])) (hMB : mn ≤ 72 ∧ mdr ≤ 100 ∧ msz ≤ 100 ∧ mix ≤ 100 ∧ mdp ≤ 20 ∧ mwt ≤ 72 ∧ mop ≤ 40 ∧ mtp ≤ 80 ∧ mwa ≤ 20 ∧ mgi ≤ msp ∧ mpc ≤ 100 ∧ mst ≤ 4 ∧ mtr ≤ 3 ∧ msp ≤ 3000 ∧ (mdu = 0 ∨ mdu = 1)) (eT : f (g.lk M 1) = .inl (g.ac (g.lk M 1), 72, .inl hT)) (cT : ∀ i, i < 72 → vp_nar .char (hT i) = hT i) (eC : f (g.lk M 6) = .inl (g.ac (g.lk M 6), 100, .inl hC)) (eA : f (g.lk M 7) = .inl (g.ac (g.lk M 7), 100, .inl hA)) (hLB : py_r (tk hT mn) mn 400 0 [] 1 true = true → ∀ x, x ∈ oy_r (tk hT mn) (vc hT mn) mn 400 0 [] [] 1 true → LB x) : Met l ⟨"BigRunnerModel", "load", "()I"⟩ [Cond.code ⟨"BigRunnerModel", "load", "()I"⟩ prog_12_method_40_code 2 (some .int)] ({ frames := 6, cells := 0, slots := 0, locals := 144 }) (va_Pc [.ref M] (pc_in g sz f)) (va_Qi (fun r f1 => ((∃ (ix1 dp1 n1 wt1 tp1 : Nat) (c1 a1 : Nat → Int32) (dpf : Nat → Nat), py_r (tk hT mn) mn 400 0 [] 1 true = true ∧ ix1 ≤ 90 ∧ dp1 ≤ 13 ∧ n1 ≤ 90 ∧ wt1 ≤ 72 ∧ tp1 ≤ 80 ∧ WF c1 a1 dpf n1 ∧ RI c1 dpf n1 1 0 0 ∧ (n1 = (oy_r (tk hT mn) (vc hT mn) mn 400 0 [] [] 1 true).length ∧ DS c1 a1 0 (oy_r (tk hT mn) (vc hT mn) mn 400 0 [] [] 1 true) ∧ (∃ hv hw : Nat → Int32, f1 (g.lk M 26) = .inl (g.ac (g.lk M 26), 200, .inl hv) ∧ f1 (g.lk M 27) = .inl (g.ac (g.lk M 27), 10, .inl hw) ∧ C6 200 hv ∧ VRS hv hw (fun _ => 0))) ∧ r = nI (rds (oy_r (tk hT mn) (vc hT mn) mn 400 0 [] [] 1 true) 30 1 (fun _ => zI)).1 ∧ (∃ (lw1 hg1 : Nat → Int64) (un1 ov1 : Nat → Int32), f1 (g.lk M 17) = .inl (g.ac (g.lk M 17), 10, .inr (.inl lw1)) ∧ f1 (g.lk M 18) = .inl (g.ac (g.lk M 18), 10, .inr (.inl hg1)) ∧ f1 (g.lk M 19) = .inl (g.ac (g.lk M 19), 10, .inl un1) ∧ f1 (g.lk M 20) = .inl (g.ac (g.lk M 20), 10, .inl ov1) ∧ VR lw1 hg1 un1 ov1 ((rds (oy_r (tk hT mn) (vc hT mn) mn 400 0 [] [] 1 true) 30 1 (fun _ => zI)).2)) ∧ f1 M = .inr (10, [.int (nI 0), .ref (g.lk M 1), .int (nI 0), .ref (g.lk M 3), .ref (g.lk M 4), .int (nI n1), .ref (g.lk M 6), .ref (g.lk M 7), .ref (g.lk M 8), .int (nI n1), .int (nI ix1), .int (nI dp1), .ref (g.lk M 12), .int (nI wt1), .ref (g.lk M 14), .ref (g.lk M 15), .int (nI 0), .ref (g.lk M 17), .ref (g.lk M 18), .ref (g.lk M 19), .ref (g.lk M 20), .ref (g.lk M 21), .ref (g.lk M 22), .ref (g.lk M 23), .ref (g.lk M 24), .ref (g.lk M 25), .ref (g.lk M 26), .ref (g.lk M 27), .ref (g.lk M 28), .ref (g.lk M 29), .ref (g.lk M 30), .ref (g.lk M 31), .int (nI tp1), .ref (g.lk M 33), .ref (g.lk M 34), .ref (g.lk M 35), .int (nI mwa), .int (nI 0), .int (nI 0), .int (nI 1), .int (nI 0), .int (nI 0), .int (nI 0), .int (nI 0), .int (nI 0)]) ∧ f1 (g.lk M 6) = .inl (g.ac (g.lk M 6), 100, .inl c1) ∧ f1 (g.lk M 7) = .inl (g.ac (g.lk M 7), 100, .inl a1)) ∨ (py_r (tk hT mn) mn 400 0 [] 1 true = false ∧ (∃ (fb ix1 op1 dp1 dr1 wt1 : Nat), ix1 ≤ 90 ∧ dp1 ≤ 13 ∧ dr1 ≤ 90 ∧ wt1 ≤ 72 ∧ op1 ≤ 30 ∧ fb ≤ 1 ∧ f1 M = .inr (10, [.int (nI 1), .ref (g.lk M 1), .int (nI mn), .ref (g.lk M 3), .ref (g.lk M 4), .int (nI dr1), .ref (g.lk M 6), .ref (g.lk M 7), .ref (g.lk M 8), .int (nI msz), .int (nI ix1), .int (nI dp1), .ref (g.lk M 12), .int (nI wt1), .ref (g.lk M 14), .ref (g.lk M 15), .int (nI op1), .ref (g.lk M 17), .ref (g.lk M 18), .ref (g.lk M 19), .ref (g.lk M 20), .ref (g.lk M 21), .ref (g.lk M 22), .ref (g.lk M 23), .ref (g.lk M 24), .ref (g.lk M 25), .ref (g.lk M 26), .ref (g.lk M 27), .ref (g.lk M 28), .ref (g.lk M 29), .ref (g.lk M 30), .ref (g.lk M 31), .int (nI mtp), .ref (g.lk M 33), .ref (g.lk M 34), .ref (g.lk M 35), .int (nI mwa), .int (nI mgi), .int (nI mpc), .int (nI mst), .int (nI mtr), .int (nI msp), .int mma, .int mlg, .int (nI fb)])) ∧ f1 (g.lk M 6) = .inl (g.ac (g.lk M 6), 100, .inl hC) ∧ f1 (g.lk M 7) = .inl (g.ac (g.lk M 7), 100, .inl hA) ∧ un [11, 41, 42, 46, 47, 48] g f f1)) ∧ (IV g f1) ∧ (un [11, 41, 42, 43, 44, 45, 46, 47, 48, 49, 50, 51, 52, 53, 54, 55, 56, 57, 58, 59] g f f1)) (pc_out g sz) (pc_A g sz)) 0 0 (pc_A g sz) := by
  refine pe_ofW (cc := prog_12_method_40_code) (maxL := 2) (ret := (some .int)) (lv := [(0, .ref M)]) (by decide) (Nat.le_of_ble_eq_true rfl) rfl ?_
  intro p e s m args below meth c ls hx hb hr hml hlocks hown hB hP hK hD hsz hS hl
  subst hsz
  have hu : un [11, 41, 42, 43, 44, 45, 46, 47, 48, 49, 50, 51, 52, 53, 54, 55, 56, 57, 58, 59] g f f := un.rf
  obtain ⟨hmb0, hmb1, hmb2, hmb3, hmb4, hmb5, hmb6, hmb7, hmb8, hmb9, hmb10, hmb11, hmb12, hmb13, hmb14⟩ := hMB
  have hLBx := hLB
  have hub0 : un [11, 41, 42, 46, 47, 48] g f f := un.rf
  refine lv_aload_n hx hb d_M_load_0 rfl (lv_at hl 0 rfl) ?_
  refine lv_aload_n hx hb d_M_load_1 rfl (lv_at hl 0 rfl) ?_
  refine pcc_i (va_runV (C := "BigRunnerModel") (As := []) (rest := [.ref M]) ⟨hx, hb, hml, hown, tb_nil⟩ (m2_reads l g s.heap.size f M mth mn mdr msz mix mdp mwt mop mtp mwa mgi mpc mst mtr msp mma mlg mdu hT hL t_M hI eM ⟨(by omega), (by omega), (by omega), (by omega), (by omega), (by omega), (by omega), (by omega), (by omega), (by omega), (by omega), (by omega), (by omega), (by omega), hmb14⟩ eT cT) ⟨(callB_of 0 (tb_one (wd_1103 hB _)) tb_good1 rfl rfl rfl (wd_82 hB _) (wd_1100 hB _) (by decide +kernel) ⟨Nat.le_of_ble_eq_true rfl, Nat.le_of_ble_eq_true rfl⟩), (wd_1102 hB _), (wd_41 hB _)⟩ ⟨pe_bl, pg_recv (ci := 10) hK hP (lo_in hL t_M (by decide)) eM rfl, pe_pre hB hK hP hD⟩ rfl rfl hl.1 rfl (lv_room (Nat.le_of_ble_eq_true rfl)) d_M_load_2 ⟨Nat.le_of_ble_eq_true rfl, Nat.le_of_ble_eq_true rfl⟩) hS (fun r1 f2 H locs hq3 hP hD hS => ?_)
  obtain ⟨rs_4, hI1_5, hu1_6⟩ := hq3
  have hu := hu.tr hu1_6 (by decide)
  have hub0 := hub0.tr hu1_6 (by decide)
  have eT := hu1_6.at (lo_k11_1 hL _ t_M) (by decide) eT
  have eC := hu1_6.at (lo_k11_6 hL _ t_M) (by decide) eC
  have eA := hu1_6.at (lo_k11_7 hL _ t_M) (by decide) eA
  rcases rs_4 with ⟨ix_7, dp_8, n_9, wt_10, d_11, g_12, c13, c14, c15, c16, c17, c18, c19, c20, c21, c22, c23, e24, e25, e26, rfl⟩ | ⟨c33, ⟨fb_27, ix_28, op_29, dp_30, dr_31, wt_32, c34, c35, c36, c37, c38, c39, e40⟩, rfl⟩
  · skip
    refine lv_if_eq (tgt := 12) hx hb d_M_load_5 (by decide) (fun b41 => ?_) (fun b41 => ?_)
    · skip
      replace b41 := (nI_eq (a := 1) (b := 0) (by omega) (by omega)).mp b41
      exfalso; omega
    · skip
      replace b41 := mt (nI_eq (a := 1) (b := 0) (by omega) (by omega)).mpr b41
      refine lv_iconst (v := nI 0) hx hb d_M_load_8 (by decide) ?_
      refine lv_goto (tgt := 13) hx hb d_M_load_9 (by decide) ?_
      refine pf_put (v := .int (nI 0)) (ty := .int) (fs' := [.int (nI 0), .ref (g.lk M 1), .int (nI mn), .ref (g.lk M 3), .ref (g.lk M 4), .int (nI n_9), .ref (g.lk M 6), .ref (g.lk M 7), .ref (g.lk M 8), .int (nI msz), .int (nI ix_7), .int (nI dp_8), .ref (g.lk M 12), .int (nI wt_10), .ref (g.lk M 14), .ref (g.lk M 15), .int (nI 0), .ref (g.lk M 17), .ref (g.lk M 18), .ref (g.lk M 19), .ref (g.lk M 20), .ref (g.lk M 21), .ref (g.lk M 22), .ref (g.lk M 23), .ref (g.lk M 24), .ref (g.lk M 25), .ref (g.lk M 26), .ref (g.lk M 27), .ref (g.lk M 28), .ref (g.lk M 29), .ref (g.lk M 30), .ref (g.lk M 31), .int (nI mtp), .ref (g.lk M 33), .ref (g.lk M 34), .ref (g.lk M 35), .int (nI mwa), .int (nI mgi), .int (nI mpc), .int (nI mst), .int (nI mtr), .int (nI msp), .int mma, .int mlg, .int (nI 0)]) (C := "BigRunnerModel") (T := FT10) (N := 45) hx hb (hw10 hB _) (fun _ h9 => h9) TY10 ok10 nm10 hown hK hP hD hS (lo_in hL t_M (by decide)) e24 rfl 0 (by decide) (wd_947 hB _) rfl (by decide +kernel) rfl rfl (Nat.le_of_ble_eq_true rfl) rfl d_M_load_13 (fun f42 H locs e43 k44 hP hD hS => ?_)
      have eT := (k44 (g.lk M 1) (tg_ne (lo_k11_1 hL _ t_M) t_M (by decide))).trans eT
      have eC := (k44 (g.lk M 6) (tg_ne (lo_k11_6 hL _ t_M) t_M (by decide))).trans eC
      have eA := (k44 (g.lk M 7) (tg_ne (lo_k11_7 hL _ t_M) t_M (by decide))).trans eA
      have e25 := (k44 (g.lk M 3) (tg_ne (lo_k11_3 hL _ t_M) t_M (by decide))).trans e25
      have e26 := (k44 (g.lk M 4) (tg_ne (lo_k11_4 hL _ t_M) t_M (by decide))).trans e26
      have hu := hu.st k44 t_M (by decide)
      have hub0 := hub0.st k44 t_M (by decide)
      have hk45 : ∀ b, b ≠ M → f42 b = f2 b := k44
      refine lv_aload_n hx hb d_M_load_16 rfl (lv_at hl 0 rfl) ?_
      refine pf_get (v := .int (nI 0)) (C := "BigRunnerModel") (T := FT10) (N := 45) hx hb (hw10 hB _) (fun _ h9 => h9) hown hK hP (lo_in hL t_M (by decide)) e43 rfl 0 (by decide) (wd_947 hB _) rfl d_M_load_17 ?_
      refine lv_if_le (tgt := 25) hx hb d_M_load_20 (by decide) (fun b46 => ?_) (fun b46 => ?_)
      · skip
        replace b46 := (nI_leI (a := 0) (b := 0) (by omega) (by omega)).mp b46
        refine lv_iconst (v := nI 0) hx hb d_M_load_25 (by decide) ?_
        refine lv_istore_n (lv' := [(1, .int (nI 0)), (0, .ref M)]) hx hb d_M_load_26 rfl hl (by decide) rfl (fun ls hl => ?_)
        have hI47 := iv_1 hI1_5 hL t_M (by decide) hk45 (oc_11.mk t_M (⟨((nI 0)), mn, n_9, msz, ix_7, dp_8, wt_10, 0, mtp, mwa, mgi, mpc, mst, mtr, msp, mma, mlg, ((nI 0)), e43, (by omega), (by omega), (by omega), (by omega), (by omega), (by omega), (by omega), (by omega), (by omega), (by omega), (by omega), (by omega), (by omega), (by omega), (Or.inl rfl)⟩))
        have lp48 : ∀ (k50 : Nat) (i : Nat) (c8 : Nat → Int32) (a8 : Nat → Int32) (f49 : Nat → va_E) (H : Heap) (locs : List Loc) (ls : Array Slot), (n_9 < i + k50) → (i ≤ n_9) → (smd i c8 d_11) → (smd i a8 g_12) → f49 (g.lk M 6) = .inl (g.ac (g.lk M 6), 100, .inl (c8)) → f49 (g.lk M 7) = .inl (g.ac (g.lk M 7), 100, .inl (a8)) → IV g f49 → un [43, 44] g f42 f49 → lv_has ls 2 [(1, .int (nI i)), (0, .ref M)] → va_P g.D vcl (va_pl g.LP f49) H → va_D (pc_A g s.heap.size) (va_pl g.LP f49) → va_S (pc_A g s.heap.size) s.heap H locs → W p l e ({ frames := 6, cells := 0, slots := 0, locals := 144 }) s m args below meth c H locs 0 0 (MQ below (va_Qi (fun r f1 => ((∃ (ix1 dp1 n1 wt1 tp1 : Nat) (c1 a1 : Nat → Int32) (dpf : Nat → Nat), py_r (tk hT mn) mn 400 0 [] 1 true = true ∧ ix1 ≤ 90 ∧ dp1 ≤ 13 ∧ n1 ≤ 90 ∧ wt1 ≤ 72 ∧ tp1 ≤ 80 ∧ WF c1 a1 dpf n1 ∧ RI c1 dpf n1 1 0 0 ∧ (n1 = (oy_r (tk hT mn) (vc hT mn) mn 400 0 [] [] 1 true).length ∧ DS c1 a1 0 (oy_r (tk hT mn) (vc hT mn) mn 400 0 [] [] 1 true) ∧ (∃ hv hw : Nat → Int32, f1 (g.lk M 26) = .inl (g.ac (g.lk M 26), 200, .inl hv) ∧ f1 (g.lk M 27) = .inl (g.ac (g.lk M 27), 10, .inl hw) ∧ C6 200 hv ∧ VRS hv hw (fun _ => 0))) ∧ r = nI (rds (oy_r (tk hT mn) (vc hT mn) mn 400 0 [] [] 1 true) 30 1 (fun _ => zI)).1 ∧ (∃ (lw1 hg1 : Nat → Int64) (un1 ov1 : Nat → Int32), f1 (g.lk M 17) = .inl (g.ac (g.lk M 17), 10, .inr (.inl lw1)) ∧ f1 (g.lk M 18) = .inl (g.ac (g.lk M 18), 10, .inr (.inl hg1)) ∧ f1 (g.lk M 19) = .inl (g.ac (g.lk M 19), 10, .inl un1) ∧ f1 (g.lk M 20) = .inl (g.ac (g.lk M 20), 10, .inl ov1) ∧ VR lw1 hg1 un1 ov1 ((rds (oy_r (tk hT mn) (vc hT mn) mn 400 0 [] [] 1 true) 30 1 (fun _ => zI)).2)) ∧ f1 M = .inr (10, [.int (nI 0), .ref (g.lk M 1), .int (nI 0), .ref (g.lk M 3), .ref (g.lk M 4), .int (nI n1), .ref (g.lk M 6), .ref (g.lk M 7), .ref (g.lk M 8), .int (nI n1), .int (nI ix1), .int (nI dp1), .ref (g.lk M 12), .int (nI wt1), .ref (g.lk M 14), .ref (g.lk M 15), .int (nI 0), .ref (g.lk M 17), .ref (g.lk M 18), .ref (g.lk M 19), .ref (g.lk M 20), .ref (g.lk M 21), .ref (g.lk M 22), .ref (g.lk M 23), .ref (g.lk M 24), .ref (g.lk M 25), .ref (g.lk M 26), .ref (g.lk M 27), .ref (g.lk M 28), .ref (g.lk M 29), .ref (g.lk M 30), .ref (g.lk M 31), .int (nI tp1), .ref (g.lk M 33), .ref (g.lk M 34), .ref (g.lk M 35), .int (nI mwa), .int (nI 0), .int (nI 0), .int (nI 1), .int (nI 0), .int (nI 0), .int (nI 0), .int (nI 0), .int (nI 0)]) ∧ f1 (g.lk M 6) = .inl (g.ac (g.lk M 6), 100, .inl c1) ∧ f1 (g.lk M 7) = .inl (g.ac (g.lk M 7), 100, .inl a1)) ∨ (py_r (tk hT mn) mn 400 0 [] 1 true = false ∧ (∃ (fb ix1 op1 dp1 dr1 wt1 : Nat), ix1 ≤ 90 ∧ dp1 ≤ 13 ∧ dr1 ≤ 90 ∧ wt1 ≤ 72 ∧ op1 ≤ 30 ∧ fb ≤ 1 ∧ f1 M = .inr (10, [.int (nI 1), .ref (g.lk M 1), .int (nI mn), .ref (g.lk M 3), .ref (g.lk M 4), .int (nI dr1), .ref (g.lk M 6), .ref (g.lk M 7), .ref (g.lk M 8), .int (nI msz), .int (nI ix1), .int (nI dp1), .ref (g.lk M 12), .int (nI wt1), .ref (g.lk M 14), .ref (g.lk M 15), .int (nI op1), .ref (g.lk M 17), .ref (g.lk M 18), .ref (g.lk M 19), .ref (g.lk M 20), .ref (g.lk M 21), .ref (g.lk M 22), .ref (g.lk M 23), .ref (g.lk M 24), .ref (g.lk M 25), .ref (g.lk M 26), .ref (g.lk M 27), .ref (g.lk M 28), .ref (g.lk M 29), .ref (g.lk M 30), .ref (g.lk M 31), .int (nI mtp), .ref (g.lk M 33), .ref (g.lk M 34), .ref (g.lk M 35), .int (nI mwa), .int (nI mgi), .int (nI mpc), .int (nI mst), .int (nI mtr), .int (nI msp), .int mma, .int mlg, .int (nI fb)])) ∧ f1 (g.lk M 6) = .inl (g.ac (g.lk M 6), 100, .inl hC) ∧ f1 (g.lk M 7) = .inl (g.ac (g.lk M 7), 100, .inl hA) ∧ un [11, 41, 42, 46, 47, 48] g f f1)) ∧ (IV g f1) ∧ (un [11, 41, 42, 43, 44, 45, 46, 47, 48, 49, 50, 51, 52, 53, 54, 55, 56, 57, 58, 59] g f f1)) (pc_out g s.heap.size) (pc_A g s.heap.size)) args s 0 0 (pc_A g s.heap.size)) (F0 m 27 ls []) := by
          intro k50
          induction k50 with
          | zero => intros; exfalso; omega
          | succ k50 ih51 =>
            intro i c8 a8 f49 H locs ls hfu52 hi hsc hsa e53 e54 hI55 hv56 hl hP hD hS
            have eT := hv56.at (lo_k11_1 hL _ t_M) (by decide) eT
            have e25 := hv56.at (lo_k11_3 hL _ t_M) (by decide) e25
            have e26 := hv56.at (lo_k11_4 hL _ t_M) (by decide) e26
            have e43 := hv56.at t_M (by decide) e43
            have hu := hu.tr hv56 (by decide)
            refine lv_iload_n hx hb d_M_load_27 rfl (lv_at hl 0 rfl) ?_
            refine lv_aload_n hx hb d_M_load_28 rfl (lv_at hl 1 rfl) ?_
            refine pf_get (v := .int (nI n_9)) (C := "BigRunnerModel") (T := FT10) (N := 45) hx hb (hw10 hB _) (fun _ h9 => h9) hown hK hP (lo_in hL t_M (by decide)) e43 rfl 5 (by decide) (wd_952 hB _) rfl d_M_load_29 ?_
            refine lv_icmp_ge (tgt := 65) hx hb d_M_load_32 (by decide) (fun b57 => ?_) (fun b57 => ?_)
            · skip
              replace b57 := (nI_leI (a := n_9) (b := i) (by omega) (by omega)).mp b57
              have hDSc : DS c8 a8 0 (oy_r (tk hT mn) (vc hT mn) mn 400 0 [] [] 1 true) := DS_smd c22 hsc hsa (by omega)
              have hE8c : ∀ p, p < n_9 → c8 p = nI 8 → dpc d_11 p = 1 := fun p hp e => c23 p hp ((hsc p (by omega)).symm.trans e)
              have hwf : WF c8 a8 (dpc d_11) n_9 := WF_smd c19 (by have z := hsc; rw [show i = n_9 by omega] at z; exact z) (by have z := hsa; rw [show i = n_9 by omega] at z; exact z)
              have hri : RI c8 (dpc d_11) n_9 1 0 0 := fun _ => ⟨by omega, rfl, fun z => c20 ((hsc 0 (by omega)).symm.trans z), rfl⟩
              refine lv_aload_n hx hb d_M_load_65 rfl (lv_at hl 1 rfl) ?_
              refine lv_aload_n hx hb d_M_load_66 rfl (lv_at hl 1 rfl) ?_
              refine pf_get (v := .int (nI n_9)) (C := "BigRunnerModel") (T := FT10) (N := 45) hx hb (hw10 hB _) (fun _ h9 => h9) hown hK hP (lo_in hL t_M (by decide)) e43 rfl 5 (by decide) (wd_952 hB _) rfl d_M_load_67 ?_
              refine pf_put (v := .int (nI n_9)) (ty := .int) (fs' := [.int (nI 0), .ref (g.lk M 1), .int (nI mn), .ref (g.lk M 3), .ref (g.lk M 4), .int (nI n_9), .ref (g.lk M 6), .ref (g.lk M 7), .ref (g.lk M 8), .int (nI n_9), .int (nI ix_7), .int (nI dp_8), .ref (g.lk M 12), .int (nI wt_10), .ref (g.lk M 14), .ref (g.lk M 15), .int (nI 0), .ref (g.lk M 17), .ref (g.lk M 18), .ref (g.lk M 19), .ref (g.lk M 20), .ref (g.lk M 21), .ref (g.lk M 22), .ref (g.lk M 23), .ref (g.lk M 24), .ref (g.lk M 25), .ref (g.lk M 26), .ref (g.lk M 27), .ref (g.lk M 28), .ref (g.lk M 29), .ref (g.lk M 30), .ref (g.lk M 31), .int (nI mtp), .ref (g.lk M 33), .ref (g.lk M 34), .ref (g.lk M 35), .int (nI mwa), .int (nI mgi), .int (nI mpc), .int (nI mst), .int (nI mtr), .int (nI msp), .int mma, .int mlg, .int (nI 0)]) (C := "BigRunnerModel") (T := FT10) (N := 45) hx hb (hw10 hB _) (fun _ h9 => h9) TY10 ok10 nm10 hown hK hP hD hS (lo_in hL t_M (by decide)) e43 rfl 9 (by decide) (wd_956 hB _) rfl (by decide +kernel) rfl rfl (Nat.le_of_ble_eq_true rfl) rfl d_M_load_70 (fun f58 H locs e59 k60 hP hD hS => ?_)
              have eT := (k60 (g.lk M 1) (tg_ne (lo_k11_1 hL _ t_M) t_M (by decide))).trans eT
              have e25 := (k60 (g.lk M 3) (tg_ne (lo_k11_3 hL _ t_M) t_M (by decide))).trans e25
              have e26 := (k60 (g.lk M 4) (tg_ne (lo_k11_4 hL _ t_M) t_M (by decide))).trans e26
              have e53 := (k60 (g.lk M 6) (tg_ne (lo_k11_6 hL _ t_M) t_M (by decide))).trans e53
              have e54 := (k60 (g.lk M 7) (tg_ne (lo_k11_7 hL _ t_M) t_M (by decide))).trans e54
              have hu := hu.st k60 t_M (by decide)
              have hk61 : ∀ b, b ≠ M → f58 b = f49 b := k60
              refine lv_aload_n hx hb d_M_load_73 rfl (lv_at hl 1 rfl) ?_
              refine lv_iconst (v := nI 0) hx hb d_M_load_74 (by decide) ?_
              refine pf_put (v := .int (nI 0)) (ty := .int) (fs' := [.int (nI 0), .ref (g.lk M 1), .int (nI 0), .ref (g.lk M 3), .ref (g.lk M 4), .int (nI n_9), .ref (g.lk M 6), .ref (g.lk M 7), .ref (g.lk M 8), .int (nI n_9), .int (nI ix_7), .int (nI dp_8), .ref (g.lk M 12), .int (nI wt_10), .ref (g.lk M 14), .ref (g.lk M 15), .int (nI 0), .ref (g.lk M 17), .ref (g.lk M 18), .ref (g.lk M 19), .ref (g.lk M 20), .ref (g.lk M 21), .ref (g.lk M 22), .ref (g.lk M 23), .ref (g.lk M 24), .ref (g.lk M 25), .ref (g.lk M 26), .ref (g.lk M 27), .ref (g.lk M 28), .ref (g.lk M 29), .ref (g.lk M 30), .ref (g.lk M 31), .int (nI mtp), .ref (g.lk M 33), .ref (g.lk M 34), .ref (g.lk M 35), .int (nI mwa), .int (nI mgi), .int (nI mpc), .int (nI mst), .int (nI mtr), .int (nI msp), .int mma, .int mlg, .int (nI 0)]) (C := "BigRunnerModel") (T := FT10) (N := 45) hx hb (hw10 hB _) (fun _ h9 => h9) TY10 ok10 nm10 hown hK hP hD hS (lo_in hL t_M (by decide)) e59 rfl 2 (by decide) (wd_949 hB _) rfl (by decide +kernel) rfl rfl (Nat.le_of_ble_eq_true rfl) rfl d_M_load_75 (fun f62 H locs e63 k64 hP hD hS => ?_)
              have eT := (k64 (g.lk M 1) (tg_ne (lo_k11_1 hL _ t_M) t_M (by decide))).trans eT
              have e25 := (k64 (g.lk M 3) (tg_ne (lo_k11_3 hL _ t_M) t_M (by decide))).trans e25
              have e26 := (k64 (g.lk M 4) (tg_ne (lo_k11_4 hL _ t_M) t_M (by decide))).trans e26
              have e53 := (k64 (g.lk M 6) (tg_ne (lo_k11_6 hL _ t_M) t_M (by decide))).trans e53
              have e54 := (k64 (g.lk M 7) (tg_ne (lo_k11_7 hL _ t_M) t_M (by decide))).trans e54
              have hu := hu.st k64 t_M (by decide)
              have hk65 : ∀ b, b ≠ M → f62 b = f49 b := fun b q0 => (k64 b q0).trans (hk61 b q0)
              refine lv_iconst (v := nI 0) hx hb d_M_load_78 (by decide) ?_
              refine lv_istore_n (lv' := [(1, .int (nI 0)), (0, .ref M)]) hx hb d_M_load_79 rfl hl (by decide) rfl (fun ls hl => ?_)
              obtain ⟨h_67, e66⟩ := oc_58.of (lo_k11_26 hL _ t_M) (hI55.1 (g.lk M 26))
              replace e66 := (hk65 (g.lk M 26) (tg_ne (lo_k11_26 hL _ t_M) t_M (by decide))).trans e66
              obtain ⟨h_70, e69⟩ := oc_59.of (lo_k11_27 hL _ t_M) (hI55.1 (g.lk M 27))
              replace e69 := (hk65 (g.lk M 27) (tg_ne (lo_k11_27 hL _ t_M) t_M (by decide))).trans e69
              have hI72 := iv_1 hI55 hL t_M (by decide) hk65 (oc_11.mk t_M (⟨((nI 0)), 0, n_9, n_9, ix_7, dp_8, wt_10, 0, mtp, mwa, mgi, mpc, mst, mtr, msp, mma, mlg, ((nI 0)), e63, (by omega), (by omega), (by omega), (by omega), (by omega), (by omega), (by omega), (by omega), (by omega), (by omega), (by omega), (by omega), (by omega), (by omega), (Or.inl rfl)⟩))
              have lp73 : ∀ (k75 : Nat) (j : Nat) (hv8 : Nat → Int32) (hw8 : Nat → Int32) (f74 : Nat → va_E) (H : Heap) (locs : List Loc) (ls : Array Slot), (200 < j + k75) → (j ≤ 200) → (∀ k, k < j → hv8 k = nI 0) → (∀ k, 20 * k < j → hw8 k = nI 0) → f74 (g.lk M 26) = .inl (g.ac (g.lk M 26), 200, .inl (hv8)) → f74 (g.lk M 27) = .inl (g.ac (g.lk M 27), 10, .inl (hw8)) → IV g f74 → un [58, 59] g f62 f74 → lv_has ls 2 [(1, .int (nI j)), (0, .ref M)] → va_P g.D vcl (va_pl g.LP f74) H → va_D (pc_A g s.heap.size) (va_pl g.LP f74) → va_S (pc_A g s.heap.size) s.heap H locs → W p l e ({ frames := 6, cells := 0, slots := 0, locals := 144 }) s m args below meth c H locs 0 0 (MQ below (va_Qi (fun r f1 => ((∃ (ix1 dp1 n1 wt1 tp1 : Nat) (c1 a1 : Nat → Int32) (dpf : Nat → Nat), py_r (tk hT mn) mn 400 0 [] 1 true = true ∧ ix1 ≤ 90 ∧ dp1 ≤ 13 ∧ n1 ≤ 90 ∧ wt1 ≤ 72 ∧ tp1 ≤ 80 ∧ WF c1 a1 dpf n1 ∧ RI c1 dpf n1 1 0 0 ∧ (n1 = (oy_r (tk hT mn) (vc hT mn) mn 400 0 [] [] 1 true).length ∧ DS c1 a1 0 (oy_r (tk hT mn) (vc hT mn) mn 400 0 [] [] 1 true) ∧ (∃ hv hw : Nat → Int32, f1 (g.lk M 26) = .inl (g.ac (g.lk M 26), 200, .inl hv) ∧ f1 (g.lk M 27) = .inl (g.ac (g.lk M 27), 10, .inl hw) ∧ C6 200 hv ∧ VRS hv hw (fun _ => 0))) ∧ r = nI (rds (oy_r (tk hT mn) (vc hT mn) mn 400 0 [] [] 1 true) 30 1 (fun _ => zI)).1 ∧ (∃ (lw1 hg1 : Nat → Int64) (un1 ov1 : Nat → Int32), f1 (g.lk M 17) = .inl (g.ac (g.lk M 17), 10, .inr (.inl lw1)) ∧ f1 (g.lk M 18) = .inl (g.ac (g.lk M 18), 10, .inr (.inl hg1)) ∧ f1 (g.lk M 19) = .inl (g.ac (g.lk M 19), 10, .inl un1) ∧ f1 (g.lk M 20) = .inl (g.ac (g.lk M 20), 10, .inl ov1) ∧ VR lw1 hg1 un1 ov1 ((rds (oy_r (tk hT mn) (vc hT mn) mn 400 0 [] [] 1 true) 30 1 (fun _ => zI)).2)) ∧ f1 M = .inr (10, [.int (nI 0), .ref (g.lk M 1), .int (nI 0), .ref (g.lk M 3), .ref (g.lk M 4), .int (nI n1), .ref (g.lk M 6), .ref (g.lk M 7), .ref (g.lk M 8), .int (nI n1), .int (nI ix1), .int (nI dp1), .ref (g.lk M 12), .int (nI wt1), .ref (g.lk M 14), .ref (g.lk M 15), .int (nI 0), .ref (g.lk M 17), .ref (g.lk M 18), .ref (g.lk M 19), .ref (g.lk M 20), .ref (g.lk M 21), .ref (g.lk M 22), .ref (g.lk M 23), .ref (g.lk M 24), .ref (g.lk M 25), .ref (g.lk M 26), .ref (g.lk M 27), .ref (g.lk M 28), .ref (g.lk M 29), .ref (g.lk M 30), .ref (g.lk M 31), .int (nI tp1), .ref (g.lk M 33), .ref (g.lk M 34), .ref (g.lk M 35), .int (nI mwa), .int (nI 0), .int (nI 0), .int (nI 1), .int (nI 0), .int (nI 0), .int (nI 0), .int (nI 0), .int (nI 0)]) ∧ f1 (g.lk M 6) = .inl (g.ac (g.lk M 6), 100, .inl c1) ∧ f1 (g.lk M 7) = .inl (g.ac (g.lk M 7), 100, .inl a1)) ∨ (py_r (tk hT mn) mn 400 0 [] 1 true = false ∧ (∃ (fb ix1 op1 dp1 dr1 wt1 : Nat), ix1 ≤ 90 ∧ dp1 ≤ 13 ∧ dr1 ≤ 90 ∧ wt1 ≤ 72 ∧ op1 ≤ 30 ∧ fb ≤ 1 ∧ f1 M = .inr (10, [.int (nI 1), .ref (g.lk M 1), .int (nI mn), .ref (g.lk M 3), .ref (g.lk M 4), .int (nI dr1), .ref (g.lk M 6), .ref (g.lk M 7), .ref (g.lk M 8), .int (nI msz), .int (nI ix1), .int (nI dp1), .ref (g.lk M 12), .int (nI wt1), .ref (g.lk M 14), .ref (g.lk M 15), .int (nI op1), .ref (g.lk M 17), .ref (g.lk M 18), .ref (g.lk M 19), .ref (g.lk M 20), .ref (g.lk M 21), .ref (g.lk M 22), .ref (g.lk M 23), .ref (g.lk M 24), .ref (g.lk M 25), .ref (g.lk M 26), .ref (g.lk M 27), .ref (g.lk M 28), .ref (g.lk M 29), .ref (g.lk M 30), .ref (g.lk M 31), .int (nI mtp), .ref (g.lk M 33), .ref (g.lk M 34), .ref (g.lk M 35), .int (nI mwa), .int (nI mgi), .int (nI mpc), .int (nI mst), .int (nI mtr), .int (nI msp), .int mma, .int mlg, .int (nI fb)])) ∧ f1 (g.lk M 6) = .inl (g.ac (g.lk M 6), 100, .inl hC) ∧ f1 (g.lk M 7) = .inl (g.ac (g.lk M 7), 100, .inl hA) ∧ un [11, 41, 42, 46, 47, 48] g f f1)) ∧ (IV g f1) ∧ (un [11, 41, 42, 43, 44, 45, 46, 47, 48, 49, 50, 51, 52, 53, 54, 55, 56, 57, 58, 59] g f f1)) (pc_out g s.heap.size) (pc_A g s.heap.size)) args s 0 0 (pc_A g s.heap.size)) (F0 m 80 ls []) := by
                intro k75
                induction k75 with
                | zero => intros; exfalso; omega
                | succ k75 ih76 =>
                  intro j hv8 hw8 f74 H locs ls hfu77 hj hz8 hz9 e78 e79 hI80 hv81 hl hP hD hS
                  have eT := hv81.at (lo_k11_1 hL _ t_M) (by decide) eT
                  have e25 := hv81.at (lo_k11_3 hL _ t_M) (by decide) e25
                  have e26 := hv81.at (lo_k11_4 hL _ t_M) (by decide) e26
                  have e53 := hv81.at (lo_k11_6 hL _ t_M) (by decide) e53
                  have e54 := hv81.at (lo_k11_7 hL _ t_M) (by decide) e54
                  have e63 := hv81.at t_M (by decide) e63
                  have hu := hu.tr hv81 (by decide)
                  refine lv_iload_n hx hb d_M_load_80 rfl (lv_at hl 0 rfl) ?_
                  refine lv_sipush (v := nI 200) hx hb d_M_load_81 (by decide) ?_
                  refine lv_icmp_ge (tgt := 110) hx hb d_M_load_84 (by decide) (fun b82 => ?_) (fun b82 => ?_)
                  · skip
                    replace b82 := (nI_leI (a := 200) (b := j) (by omega) (by omega)).mp b82
                    refine lv_aload_n hx hb d_M_load_110 rfl (lv_at hl 1 rfl) ?_
                    refine lv_iconst (v := nI 0) hx hb d_M_load_111 (by decide) ?_
                    refine pf_put (v := .int (nI 0)) (ty := .int) (fs' := [.int (nI 0), .ref (g.lk M 1), .int (nI 0), .ref (g.lk M 3), .ref (g.lk M 4), .int (nI n_9), .ref (g.lk M 6), .ref (g.lk M 7), .ref (g.lk M 8), .int (nI n_9), .int (nI ix_7), .int (nI dp_8), .ref (g.lk M 12), .int (nI wt_10), .ref (g.lk M 14), .ref (g.lk M 15), .int (nI 0), .ref (g.lk M 17), .ref (g.lk M 18), .ref (g.lk M 19), .ref (g.lk M 20), .ref (g.lk M 21), .ref (g.lk M 22), .ref (g.lk M 23), .ref (g.lk M 24), .ref (g.lk M 25), .ref (g.lk M 26), .ref (g.lk M 27), .ref (g.lk M 28), .ref (g.lk M 29), .ref (g.lk M 30), .ref (g.lk M 31), .int (nI mtp), .ref (g.lk M 33), .ref (g.lk M 34), .ref (g.lk M 35), .int (nI mwa), .int (nI 0), .int (nI mpc), .int (nI mst), .int (nI mtr), .int (nI msp), .int mma, .int mlg, .int (nI 0)]) (C := "BigRunnerModel") (T := FT10) (N := 45) hx hb (hw10 hB _) (fun _ h9 => h9) TY10 ok10 nm10 hown hK hP hD hS (lo_in hL t_M (by decide)) e63 rfl 37 (by decide) (wd_984 hB _) rfl (by decide +kernel) rfl rfl (Nat.le_of_ble_eq_true rfl) rfl d_M_load_112 (fun f83 H locs e84 k85 hP hD hS => ?_)
                    have eT := (k85 (g.lk M 1) (tg_ne (lo_k11_1 hL _ t_M) t_M (by decide))).trans eT
                    have e25 := (k85 (g.lk M 3) (tg_ne (lo_k11_3 hL _ t_M) t_M (by decide))).trans e25
                    have e26 := (k85 (g.lk M 4) (tg_ne (lo_k11_4 hL _ t_M) t_M (by decide))).trans e26
                    have e53 := (k85 (g.lk M 6) (tg_ne (lo_k11_6 hL _ t_M) t_M (by decide))).trans e53
                    have e54 := (k85 (g.lk M 7) (tg_ne (lo_k11_7 hL _ t_M) t_M (by decide))).trans e54
                    have e78 := (k85 (g.lk M 26) (tg_ne (lo_k11_26 hL _ t_M) t_M (by decide))).trans e78
                    have e79 := (k85 (g.lk M 27) (tg_ne (lo_k11_27 hL _ t_M) t_M (by decide))).trans e79
                    have hu := hu.st k85 t_M (by decide)
                    have hk86 : ∀ b, b ≠ M → f83 b = f74 b := k85
                    refine lv_aload_n hx hb d_M_load_115 rfl (lv_at hl 1 rfl) ?_
                    refine lv_iconst (v := nI 0) hx hb d_M_load_116 (by decide) ?_
                    refine pf_put (v := .int (nI 0)) (ty := .int) (fs' := [.int (nI 0), .ref (g.lk M 1), .int (nI 0), .ref (g.lk M 3), .ref (g.lk M 4), .int (nI n_9), .ref (g.lk M 6), .ref (g.lk M 7), .ref (g.lk M 8), .int (nI n_9), .int (nI ix_7), .int (nI dp_8), .ref (g.lk M 12), .int (nI wt_10), .ref (g.lk M 14), .ref (g.lk M 15), .int (nI 0), .ref (g.lk M 17), .ref (g.lk M 18), .ref (g.lk M 19), .ref (g.lk M 20), .ref (g.lk M 21), .ref (g.lk M 22), .ref (g.lk M 23), .ref (g.lk M 24), .ref (g.lk M 25), .ref (g.lk M 26), .ref (g.lk M 27), .ref (g.lk M 28), .ref (g.lk M 29), .ref (g.lk M 30), .ref (g.lk M 31), .int (nI mtp), .ref (g.lk M 33), .ref (g.lk M 34), .ref (g.lk M 35), .int (nI mwa), .int (nI 0), .int (nI 0), .int (nI mst), .int (nI mtr), .int (nI msp), .int mma, .int mlg, .int (nI 0)]) (C := "BigRunnerModel") (T := FT10) (N := 45) hx hb (hw10 hB _) (fun _ h9 => h9) TY10 ok10 nm10 hown hK hP hD hS (lo_in hL t_M (by decide)) e84 rfl 38 (by decide) (wd_985 hB _) rfl (by decide +kernel) rfl rfl (Nat.le_of_ble_eq_true rfl) rfl d_M_load_117 (fun f87 H locs e88 k89 hP hD hS => ?_)
                    have eT := (k89 (g.lk M 1) (tg_ne (lo_k11_1 hL _ t_M) t_M (by decide))).trans eT
                    have e25 := (k89 (g.lk M 3) (tg_ne (lo_k11_3 hL _ t_M) t_M (by decide))).trans e25
                    have e26 := (k89 (g.lk M 4) (tg_ne (lo_k11_4 hL _ t_M) t_M (by decide))).trans e26
                    have e53 := (k89 (g.lk M 6) (tg_ne (lo_k11_6 hL _ t_M) t_M (by decide))).trans e53
                    have e54 := (k89 (g.lk M 7) (tg_ne (lo_k11_7 hL _ t_M) t_M (by decide))).trans e54
                    have e78 := (k89 (g.lk M 26) (tg_ne (lo_k11_26 hL _ t_M) t_M (by decide))).trans e78
                    have e79 := (k89 (g.lk M 27) (tg_ne (lo_k11_27 hL _ t_M) t_M (by decide))).trans e79
                    have hu := hu.st k89 t_M (by decide)
                    have hk90 : ∀ b, b ≠ M → f87 b = f74 b := fun b q0 => (k89 b q0).trans (hk86 b q0)
                    refine lv_aload_n hx hb d_M_load_120 rfl (lv_at hl 1 rfl) ?_
                    refine lv_iconst (v := nI 1) hx hb d_M_load_121 (by decide) ?_
                    refine pf_put (v := .int (nI 1)) (ty := .int) (fs' := [.int (nI 0), .ref (g.lk M 1), .int (nI 0), .ref (g.lk M 3), .ref (g.lk M 4), .int (nI n_9), .ref (g.lk M 6), .ref (g.lk M 7), .ref (g.lk M 8), .int (nI n_9), .int (nI ix_7), .int (nI dp_8), .ref (g.lk M 12), .int (nI wt_10), .ref (g.lk M 14), .ref (g.lk M 15), .int (nI 0), .ref (g.lk M 17), .ref (g.lk M 18), .ref (g.lk M 19), .ref (g.lk M 20), .ref (g.lk M 21), .ref (g.lk M 22), .ref (g.lk M 23), .ref (g.lk M 24), .ref (g.lk M 25), .ref (g.lk M 26), .ref (g.lk M 27), .ref (g.lk M 28), .ref (g.lk M 29), .ref (g.lk M 30), .ref (g.lk M 31), .int (nI mtp), .ref (g.lk M 33), .ref (g.lk M 34), .ref (g.lk M 35), .int (nI mwa), .int (nI 0), .int (nI 0), .int (nI 1), .int (nI mtr), .int (nI msp), .int mma, .int mlg, .int (nI 0)]) (C := "BigRunnerModel") (T := FT10) (N := 45) hx hb (hw10 hB _) (fun _ h9 => h9) TY10 ok10 nm10 hown hK hP hD hS (lo_in hL t_M (by decide)) e88 rfl 39 (by decide) (wd_986 hB _) rfl (by decide +kernel) rfl rfl (Nat.le_of_ble_eq_true rfl) rfl d_M_load_122 (fun f91 H locs e92 k93 hP hD hS => ?_)
                    have eT := (k93 (g.lk M 1) (tg_ne (lo_k11_1 hL _ t_M) t_M (by decide))).trans eT
                    have e25 := (k93 (g.lk M 3) (tg_ne (lo_k11_3 hL _ t_M) t_M (by decide))).trans e25
                    have e26 := (k93 (g.lk M 4) (tg_ne (lo_k11_4 hL _ t_M) t_M (by decide))).trans e26
                    have e53 := (k93 (g.lk M 6) (tg_ne (lo_k11_6 hL _ t_M) t_M (by decide))).trans e53
                    have e54 := (k93 (g.lk M 7) (tg_ne (lo_k11_7 hL _ t_M) t_M (by decide))).trans e54
                    have e78 := (k93 (g.lk M 26) (tg_ne (lo_k11_26 hL _ t_M) t_M (by decide))).trans e78
                    have e79 := (k93 (g.lk M 27) (tg_ne (lo_k11_27 hL _ t_M) t_M (by decide))).trans e79
                    have hu := hu.st k93 t_M (by decide)
                    have hk94 : ∀ b, b ≠ M → f91 b = f74 b := fun b q0 => (k93 b q0).trans (hk90 b q0)
                    refine lv_aload_n hx hb d_M_load_125 rfl (lv_at hl 1 rfl) ?_
                    refine lv_iconst (v := nI 0) hx hb d_M_load_126 (by decide) ?_
                    refine pf_put (v := .int (nI 0)) (ty := .int) (fs' := [.int (nI 0), .ref (g.lk M 1), .int (nI 0), .ref (g.lk M 3), .ref (g.lk M 4), .int (nI n_9), .ref (g.lk M 6), .ref (g.lk M 7), .ref (g.lk M 8), .int (nI n_9), .int (nI ix_7), .int (nI dp_8), .ref (g.lk M 12), .int (nI wt_10), .ref (g.lk M 14), .ref (g.lk M 15), .int (nI 0), .ref (g.lk M 17), .ref (g.lk M 18), .ref (g.lk M 19), .ref (g.lk M 20), .ref (g.lk M 21), .ref (g.lk M 22), .ref (g.lk M 23), .ref (g.lk M 24), .ref (g.lk M 25), .ref (g.lk M 26), .ref (g.lk M 27), .ref (g.lk M 28), .ref (g.lk M 29), .ref (g.lk M 30), .ref (g.lk M 31), .int (nI mtp), .ref (g.lk M 33), .ref (g.lk M 34), .ref (g.lk M 35), .int (nI mwa), .int (nI 0), .int (nI 0), .int (nI 1), .int (nI 0), .int (nI msp), .int mma, .int mlg, .int (nI 0)]) (C := "BigRunnerModel") (T := FT10) (N := 45) hx hb (hw10 hB _) (fun _ h9 => h9) TY10 ok10 nm10 hown hK hP hD hS (lo_in hL t_M (by decide)) e92 rfl 40 (by decide) (wd_987 hB _) rfl (by decide +kernel) rfl rfl (Nat.le_of_ble_eq_true rfl) rfl d_M_load_127 (fun f95 H locs e96 k97 hP hD hS => ?_)
                    have eT := (k97 (g.lk M 1) (tg_ne (lo_k11_1 hL _ t_M) t_M (by decide))).trans eT
                    have e25 := (k97 (g.lk M 3) (tg_ne (lo_k11_3 hL _ t_M) t_M (by decide))).trans e25
                    have e26 := (k97 (g.lk M 4) (tg_ne (lo_k11_4 hL _ t_M) t_M (by decide))).trans e26
                    have e53 := (k97 (g.lk M 6) (tg_ne (lo_k11_6 hL _ t_M) t_M (by decide))).trans e53
                    have e54 := (k97 (g.lk M 7) (tg_ne (lo_k11_7 hL _ t_M) t_M (by decide))).trans e54
                    have e78 := (k97 (g.lk M 26) (tg_ne (lo_k11_26 hL _ t_M) t_M (by decide))).trans e78
                    have e79 := (k97 (g.lk M 27) (tg_ne (lo_k11_27 hL _ t_M) t_M (by decide))).trans e79
                    have hu := hu.st k97 t_M (by decide)
                    have hk98 : ∀ b, b ≠ M → f95 b = f74 b := fun b q0 => (k97 b q0).trans (hk94 b q0)
                    refine lv_aload_n hx hb d_M_load_130 rfl (lv_at hl 1 rfl) ?_
                    refine lv_iconst (v := nI 0) hx hb d_M_load_131 (by decide) ?_
                    refine pf_put (v := .int (nI 0)) (ty := .int) (fs' := [.int (nI 0), .ref (g.lk M 1), .int (nI 0), .ref (g.lk M 3), .ref (g.lk M 4), .int (nI n_9), .ref (g.lk M 6), .ref (g.lk M 7), .ref (g.lk M 8), .int (nI n_9), .int (nI ix_7), .int (nI dp_8), .ref (g.lk M 12), .int (nI wt_10), .ref (g.lk M 14), .ref (g.lk M 15), .int (nI 0), .ref (g.lk M 17), .ref (g.lk M 18), .ref (g.lk M 19), .ref (g.lk M 20), .ref (g.lk M 21), .ref (g.lk M 22), .ref (g.lk M 23), .ref (g.lk M 24), .ref (g.lk M 25), .ref (g.lk M 26), .ref (g.lk M 27), .ref (g.lk M 28), .ref (g.lk M 29), .ref (g.lk M 30), .ref (g.lk M 31), .int (nI mtp), .ref (g.lk M 33), .ref (g.lk M 34), .ref (g.lk M 35), .int (nI mwa), .int (nI 0), .int (nI 0), .int (nI 1), .int (nI 0), .int (nI 0), .int mma, .int mlg, .int (nI 0)]) (C := "BigRunnerModel") (T := FT10) (N := 45) hx hb (hw10 hB _) (fun _ h9 => h9) TY10 ok10 nm10 hown hK hP hD hS (lo_in hL t_M (by decide)) e96 rfl 41 (by decide) (wd_988 hB _) rfl (by decide +kernel) rfl rfl (Nat.le_of_ble_eq_true rfl) rfl d_M_load_132 (fun f99 H locs e100 k101 hP hD hS => ?_)
                    have eT := (k101 (g.lk M 1) (tg_ne (lo_k11_1 hL _ t_M) t_M (by decide))).trans eT
                    have e25 := (k101 (g.lk M 3) (tg_ne (lo_k11_3 hL _ t_M) t_M (by decide))).trans e25
                    have e26 := (k101 (g.lk M 4) (tg_ne (lo_k11_4 hL _ t_M) t_M (by decide))).trans e26
                    have e53 := (k101 (g.lk M 6) (tg_ne (lo_k11_6 hL _ t_M) t_M (by decide))).trans e53
                    have e54 := (k101 (g.lk M 7) (tg_ne (lo_k11_7 hL _ t_M) t_M (by decide))).trans e54
                    have e78 := (k101 (g.lk M 26) (tg_ne (lo_k11_26 hL _ t_M) t_M (by decide))).trans e78
                    have e79 := (k101 (g.lk M 27) (tg_ne (lo_k11_27 hL _ t_M) t_M (by decide))).trans e79
                    have hu := hu.st k101 t_M (by decide)
                    have hk102 : ∀ b, b ≠ M → f99 b = f74 b := fun b q0 => (k101 b q0).trans (hk98 b q0)
                    refine lv_aload_n hx hb d_M_load_135 rfl (lv_at hl 1 rfl) ?_
                    refine lv_iconst (v := nI 0) hx hb d_M_load_136 (by decide) ?_
                    refine pf_put (v := .int (nI 0)) (ty := .int) (fs' := [.int (nI 0), .ref (g.lk M 1), .int (nI 0), .ref (g.lk M 3), .ref (g.lk M 4), .int (nI n_9), .ref (g.lk M 6), .ref (g.lk M 7), .ref (g.lk M 8), .int (nI n_9), .int (nI ix_7), .int (nI dp_8), .ref (g.lk M 12), .int (nI wt_10), .ref (g.lk M 14), .ref (g.lk M 15), .int (nI 0), .ref (g.lk M 17), .ref (g.lk M 18), .ref (g.lk M 19), .ref (g.lk M 20), .ref (g.lk M 21), .ref (g.lk M 22), .ref (g.lk M 23), .ref (g.lk M 24), .ref (g.lk M 25), .ref (g.lk M 26), .ref (g.lk M 27), .ref (g.lk M 28), .ref (g.lk M 29), .ref (g.lk M 30), .ref (g.lk M 31), .int (nI mtp), .ref (g.lk M 33), .ref (g.lk M 34), .ref (g.lk M 35), .int (nI mwa), .int (nI 0), .int (nI 0), .int (nI 1), .int (nI 0), .int (nI 0), .int (nI 0), .int mlg, .int (nI 0)]) (C := "BigRunnerModel") (T := FT10) (N := 45) hx hb (hw10 hB _) (fun _ h9 => h9) TY10 ok10 nm10 hown hK hP hD hS (lo_in hL t_M (by decide)) e100 rfl 42 (by decide) (wd_989 hB _) rfl (by decide +kernel) rfl rfl (Nat.le_of_ble_eq_true rfl) rfl d_M_load_137 (fun f103 H locs e104 k105 hP hD hS => ?_)
                    have eT := (k105 (g.lk M 1) (tg_ne (lo_k11_1 hL _ t_M) t_M (by decide))).trans eT
                    have e25 := (k105 (g.lk M 3) (tg_ne (lo_k11_3 hL _ t_M) t_M (by decide))).trans e25
                    have e26 := (k105 (g.lk M 4) (tg_ne (lo_k11_4 hL _ t_M) t_M (by decide))).trans e26
                    have e53 := (k105 (g.lk M 6) (tg_ne (lo_k11_6 hL _ t_M) t_M (by decide))).trans e53
                    have e54 := (k105 (g.lk M 7) (tg_ne (lo_k11_7 hL _ t_M) t_M (by decide))).trans e54
                    have e78 := (k105 (g.lk M 26) (tg_ne (lo_k11_26 hL _ t_M) t_M (by decide))).trans e78
                    have e79 := (k105 (g.lk M 27) (tg_ne (lo_k11_27 hL _ t_M) t_M (by decide))).trans e79
                    have hu := hu.st k105 t_M (by decide)
                    have hk106 : ∀ b, b ≠ M → f103 b = f74 b := fun b q0 => (k105 b q0).trans (hk102 b q0)
                    refine lv_aload_n hx hb d_M_load_140 rfl (lv_at hl 1 rfl) ?_
                    refine lv_iconst (v := nI 0) hx hb d_M_load_141 (by decide) ?_
                    refine pf_put (v := .int (nI 0)) (ty := .int) (fs' := [.int (nI 0), .ref (g.lk M 1), .int (nI 0), .ref (g.lk M 3), .ref (g.lk M 4), .int (nI n_9), .ref (g.lk M 6), .ref (g.lk M 7), .ref (g.lk M 8), .int (nI n_9), .int (nI ix_7), .int (nI dp_8), .ref (g.lk M 12), .int (nI wt_10), .ref (g.lk M 14), .ref (g.lk M 15), .int (nI 0), .ref (g.lk M 17), .ref (g.lk M 18), .ref (g.lk M 19), .ref (g.lk M 20), .ref (g.lk M 21), .ref (g.lk M 22), .ref (g.lk M 23), .ref (g.lk M 24), .ref (g.lk M 25), .ref (g.lk M 26), .ref (g.lk M 27), .ref (g.lk M 28), .ref (g.lk M 29), .ref (g.lk M 30), .ref (g.lk M 31), .int (nI mtp), .ref (g.lk M 33), .ref (g.lk M 34), .ref (g.lk M 35), .int (nI mwa), .int (nI 0), .int (nI 0), .int (nI 1), .int (nI 0), .int (nI 0), .int (nI 0), .int (nI 0), .int (nI 0)]) (C := "BigRunnerModel") (T := FT10) (N := 45) hx hb (hw10 hB _) (fun _ h9 => h9) TY10 ok10 nm10 hown hK hP hD hS (lo_in hL t_M (by decide)) e104 rfl 43 (by decide) (wd_990 hB _) rfl (by decide +kernel) rfl rfl (Nat.le_of_ble_eq_true rfl) rfl d_M_load_142 (fun f107 H locs e108 k109 hP hD hS => ?_)
                    have eT := (k109 (g.lk M 1) (tg_ne (lo_k11_1 hL _ t_M) t_M (by decide))).trans eT
                    have e25 := (k109 (g.lk M 3) (tg_ne (lo_k11_3 hL _ t_M) t_M (by decide))).trans e25
                    have e26 := (k109 (g.lk M 4) (tg_ne (lo_k11_4 hL _ t_M) t_M (by decide))).trans e26
                    have e53 := (k109 (g.lk M 6) (tg_ne (lo_k11_6 hL _ t_M) t_M (by decide))).trans e53
                    have e54 := (k109 (g.lk M 7) (tg_ne (lo_k11_7 hL _ t_M) t_M (by decide))).trans e54
                    have e78 := (k109 (g.lk M 26) (tg_ne (lo_k11_26 hL _ t_M) t_M (by decide))).trans e78
                    have e79 := (k109 (g.lk M 27) (tg_ne (lo_k11_27 hL _ t_M) t_M (by decide))).trans e79
                    have hu := hu.st k109 t_M (by decide)
                    have hk110 : ∀ b, b ≠ M → f107 b = f74 b := fun b q0 => (k109 b q0).trans (hk106 b q0)
                    refine lv_aload_n hx hb d_M_load_145 rfl (lv_at hl 1 rfl) ?_
                    have hI111 := iv_1 hI80 hL t_M (by decide) hk110 (oc_11.mk t_M (⟨((nI 0)), 0, n_9, n_9, ix_7, dp_8, wt_10, 0, mtp, mwa, 0, 0, 1, 0, 0, ((nI 0)), ((nI 0)), ((nI 0)), e108, (by omega), (by omega), (by omega), (by omega), (by omega), (by omega), (by omega), (by omega), (by omega), (by omega), (by omega), (by omega), (by omega), (by omega), (Or.inl rfl)⟩))
                    refine pcc_i (va_runV (C := "BigRunnerModel") (As := []) (rest := []) ⟨hx, hb, hml, hown, tb_nil⟩ (m2_settle l g H.size f107 M ((nI 0)) 0 n_9 n_9 ix_7 dp_8 wt_10 0 mtp mwa 0 0 1 0 0 ((nI 0)) ((nI 0)) ((nI 0)) c8 a8 ((dpc d_11)) ((oy_r (tk hT mn) (vc hT mn) mn 400 0 [] [] 1 true)) hL t_M hI111 e108 ⟨(by omega), (by omega), (by omega), (by omega), (by omega), (by omega), (by omega), (by omega), (by omega), (by omega), (by omega), (by omega), (by omega), (by omega), (Or.inl rfl)⟩ e53 e54 hwf hDSc c21.symm (hLBx c13) hE8c) ⟨(callB_of 0 (tb_one (wd_1148 hB _)) tb_good1 rfl rfl rfl (wd_82 hB _) (wd_1145 hB _) (by decide +kernel) ⟨Nat.le_of_ble_eq_true rfl, Nat.le_of_ble_eq_true rfl⟩), (wd_1147 hB _), (wd_50 hB _)⟩ ⟨pe_bl, pg_recv (ci := 10) hK hP (lo_in hL t_M (by decide)) e108 rfl, pe_pre hB hK hP hD⟩ rfl rfl hl.1 rfl (lv_room (Nat.le_of_ble_eq_true rfl)) d_M_load_146 ⟨Nat.le_of_ble_eq_true rfl, Nat.le_of_ble_eq_true rfl⟩) hS (fun r112 f113 H locs hq114 hP hD hS => ?_)
                    obtain ⟨qv_115, x1_116, vr_117, hI1_118, hu1_119⟩ := hq114
                    subst qv_115
                    have hu := hu.tr hu1_119 (by decide)
                    have eT := hu1_119.at (lo_k11_1 hL _ t_M) (by decide) eT
                    have e25 := hu1_119.at (lo_k11_3 hL _ t_M) (by decide) e25
                    have e26 := hu1_119.at (lo_k11_4 hL _ t_M) (by decide) e26
                    have e53 := hu1_119.at (lo_k11_6 hL _ t_M) (by decide) e53
                    have e54 := hu1_119.at (lo_k11_7 hL _ t_M) (by decide) e54
                    have e78 := hu1_119.at (lo_k11_26 hL _ t_M) (by decide) e78
                    have e79 := hu1_119.at (lo_k11_27 hL _ t_M) (by decide) e79
                    obtain ⟨tp1_121, c122, e120⟩ := x1_116
                    exact pe_iret hx hb hr hlocks hK hP hD hS d_M_load_149 ⟨(Or.inl ⟨ix_7, dp_8, n_9, wt_10, tp1_121, c8, a8, _, c13, by omega, by omega, by omega, by omega, by omega, hwf, hri, ⟨c21, hDSc, ⟨_, _, e78, e79, fun i9 hi9 => ⟨0, by decide, hz8 i9 (by omega)⟩, fun u9 hu9 => ⟨hz9 u9 (by omega), kw_z (fun k9 hk9 => by unfold l6; rw [if_pos hk9]; exact dg_is (by decide) (hz8 _ (by omega)))⟩⟩⟩, rfl, vr_117, e120, e53, e54⟩), hI1_118, hu⟩
                  · skip
                    replace b82 := mt (nI_leI (a := 200) (b := j) (by omega) (by omega)).mpr b82
                    refine lv_aload_n hx hb d_M_load_87 rfl (lv_at hl 1 rfl) ?_
                    refine pf_get (v := .ref (g.lk M 26)) (C := "BigRunnerModel") (T := FT10) (N := 45) hx hb (hw10 hB _) (fun _ h9 => h9) hown hK hP (lo_in hL t_M (by decide)) e63 rfl 26 (by decide) (wd_973 hB _) rfl d_M_load_88 ?_
                    refine lv_iload_n hx hb d_M_load_91 rfl (lv_at hl 0 rfl) ?_
                    refine lv_iconst (v := nI 0) hx hb d_M_load_92 (by decide) ?_
                    refine pf_iast (i := j) hx hb hK hP hD hS (lo_in hL (lo_k11_26 hL _ t_M) (by decide)) e78 (lo_t58 hL _ (lo_k11_26 hL _ t_M)) (by omega) (by decide) d_M_load_93 (fun f123 H locs e124 k125 hP hD hS => ?_)
                    have eT := (k125 (g.lk M 1) (tg_ne (lo_k11_1 hL _ t_M) (lo_k11_26 hL _ t_M) (by decide))).trans eT
                    have e25 := (k125 (g.lk M 3) (tg_ne (lo_k11_3 hL _ t_M) (lo_k11_26 hL _ t_M) (by decide))).trans e25
                    have e26 := (k125 (g.lk M 4) (tg_ne (lo_k11_4 hL _ t_M) (lo_k11_26 hL _ t_M) (by decide))).trans e26
                    have e53 := (k125 (g.lk M 6) (tg_ne (lo_k11_6 hL _ t_M) (lo_k11_26 hL _ t_M) (by decide))).trans e53
                    have e54 := (k125 (g.lk M 7) (tg_ne (lo_k11_7 hL _ t_M) (lo_k11_26 hL _ t_M) (by decide))).trans e54
                    have e63 := (k125 M (tg_ne t_M (lo_k11_26 hL _ t_M) (by decide))).trans e63
                    have e79 := (k125 (g.lk M 27) (tg_ne (lo_k11_27 hL _ t_M) (lo_k11_26 hL _ t_M) (by decide))).trans e79
                    have hu := hu.st k125 (lo_k11_26 hL _ t_M) (by decide)
                    have hv81 := hv81.st k125 (lo_k11_26 hL _ t_M) (by decide)
                    have hk126 : ∀ b, b ≠ (g.lk M 26) → f123 b = f74 b := k125
                    refine lv_aload_n hx hb d_M_load_94 rfl (lv_at hl 1 rfl) ?_
                    refine pf_get (v := .ref (g.lk M 27)) (C := "BigRunnerModel") (T := FT10) (N := 45) hx hb (hw10 hB _) (fun _ h9 => h9) hown hK hP (lo_in hL t_M (by decide)) e63 rfl 27 (by decide) (wd_974 hB _) rfl d_M_load_95 ?_
                    refine lv_iload_n hx hb d_M_load_98 rfl (lv_at hl 0 rfl) ?_
                    refine lv_bipush (v := nI 20) hx hb d_M_load_99 (by decide) ?_
                    refine pf_idivN (x := j) (y := 20) hx hb (by omega) (by omega) (by omega) d_M_load_101 ?_
                    refine lv_iconst (v := nI 0) hx hb d_M_load_102 (by decide) ?_
                    have hI127 := iv_1 hI80 hL (lo_k11_26 hL _ t_M) (by decide) hk126 (oc_58.mk (lo_k11_26 hL _ t_M) (⟨_, e124⟩))
                    refine pf_iast (i := j / 20) hx hb hK hP hD hS (lo_in hL (lo_k11_27 hL _ t_M) (by decide)) e79 (lo_t59 hL _ (lo_k11_27 hL _ t_M)) (by omega) (by decide) d_M_load_103 (fun f128 H locs e129 k130 hP hD hS => ?_)
                    have eT := (k130 (g.lk M 1) (tg_ne (lo_k11_1 hL _ t_M) (lo_k11_27 hL _ t_M) (by decide))).trans eT
                    have e25 := (k130 (g.lk M 3) (tg_ne (lo_k11_3 hL _ t_M) (lo_k11_27 hL _ t_M) (by decide))).trans e25
                    have e26 := (k130 (g.lk M 4) (tg_ne (lo_k11_4 hL _ t_M) (lo_k11_27 hL _ t_M) (by decide))).trans e26
                    have e53 := (k130 (g.lk M 6) (tg_ne (lo_k11_6 hL _ t_M) (lo_k11_27 hL _ t_M) (by decide))).trans e53
                    have e54 := (k130 (g.lk M 7) (tg_ne (lo_k11_7 hL _ t_M) (lo_k11_27 hL _ t_M) (by decide))).trans e54
                    have e63 := (k130 M (tg_ne t_M (lo_k11_27 hL _ t_M) (by decide))).trans e63
                    have e124 := (k130 (g.lk M 26) (tg_ne (lo_k11_26 hL _ t_M) (lo_k11_27 hL _ t_M) (by decide))).trans e124
                    have hu := hu.st k130 (lo_k11_27 hL _ t_M) (by decide)
                    have hv81 := hv81.st k130 (lo_k11_27 hL _ t_M) (by decide)
                    have hk131 : ∀ b, b ≠ (g.lk M 27) → f128 b = f123 b := k130
                    refine lv_iinc (k := 0) (v := nI (j + 1)) (lv' := [(1, .int (nI (j + 1))), (0, .ref M)]) hx hb d_M_load_104 hl rfl (by rw [nI_succ]; rfl) (by decide) rfl (fun ls hl => ?_)
                    refine lv_goto (tgt := 80) hx hb d_M_load_107 (by decide) ?_
                    have hI132 := iv_1 hI127 hL (lo_k11_27 hL _ t_M) (by decide) hk131 (oc_59.mk (lo_k11_27 hL _ t_M) (⟨_, e129⟩))
                    exact ih76 (j + 1) (upd hv8 j ((nI 0))) (upd hw8 (j / 20) ((nI 0))) f128 H locs ls (by omega) (by omega) (fun k hk => by by_cases q3 : k = j; (subst q3; exact upd_at _ _ _); (rw [upd_ne _ _ q3]; exact hz8 k (by omega))) (fun k hk => by by_cases q3 : k = j / 20; (rw [q3]; exact upd_at _ _ _); (rw [upd_ne _ _ q3]; exact hz9 k (by omega))) e124 e129 hI132 hv81 hl hP hD hS
              exact lp73 201 0 h_67 h_70 f62 H locs ls (by omega) (by omega) (fun k hk => absurd hk (by omega)) (fun k hk => absurd hk (by omega)) e66 e69 hI72 un.rf hl hP hD hS
            · skip
              replace b57 := mt (nI_leI (a := n_9) (b := i) (by omega) (by omega)).mpr b57
              refine lv_aload_n hx hb d_M_load_35 rfl (lv_at hl 1 rfl) ?_
              refine pf_get (v := .ref (g.lk M 6)) (C := "BigRunnerModel") (T := FT10) (N := 45) hx hb (hw10 hB _) (fun _ h9 => h9) hown hK hP (lo_in hL t_M (by decide)) e43 rfl 6 (by decide) (wd_953 hB _) rfl d_M_load_36 ?_
              refine lv_iload_n hx hb d_M_load_39 rfl (lv_at hl 0 rfl) ?_
              refine lv_aload_n hx hb d_M_load_40 rfl (lv_at hl 1 rfl) ?_
              refine pf_get (v := .ref (g.lk M 3)) (C := "BigRunnerModel") (T := FT10) (N := 45) hx hb (hw10 hB _) (fun _ h9 => h9) hown hK hP (lo_in hL t_M (by decide)) e43 rfl 3 (by decide) (wd_950 hB _) rfl d_M_load_41 ?_
              refine lv_iload_n hx hb d_M_load_44 rfl (lv_at hl 0 rfl) ?_
              refine pf_iald (i := i) hx hb hK hP (lo_in hL (lo_k11_3 hL _ t_M) (by decide)) e25 (lo_t41 hL _ (lo_k11_3 hL _ t_M)) (by omega) (by decide) d_M_load_45 ?_
              refine pf_iast (i := i) hx hb hK hP hD hS (lo_in hL (lo_k11_6 hL _ t_M) (by decide)) e53 (lo_t43 hL _ (lo_k11_6 hL _ t_M)) (by omega) (by decide) d_M_load_46 (fun f133 H locs e134 k135 hP hD hS => ?_)
              have eT := (k135 (g.lk M 1) (tg_ne (lo_k11_1 hL _ t_M) (lo_k11_6 hL _ t_M) (by decide))).trans eT
              have e25 := (k135 (g.lk M 3) (tg_ne (lo_k11_3 hL _ t_M) (lo_k11_6 hL _ t_M) (by decide))).trans e25
              have e26 := (k135 (g.lk M 4) (tg_ne (lo_k11_4 hL _ t_M) (lo_k11_6 hL _ t_M) (by decide))).trans e26
              have e43 := (k135 M (tg_ne t_M (lo_k11_6 hL _ t_M) (by decide))).trans e43
              have e54 := (k135 (g.lk M 7) (tg_ne (lo_k11_7 hL _ t_M) (lo_k11_6 hL _ t_M) (by decide))).trans e54
              have hu := hu.st k135 (lo_k11_6 hL _ t_M) (by decide)
              have hv56 := hv56.st k135 (lo_k11_6 hL _ t_M) (by decide)
              have hk136 : ∀ b, b ≠ (g.lk M 6) → f133 b = f49 b := k135
              refine lv_aload_n hx hb d_M_load_47 rfl (lv_at hl 1 rfl) ?_
              refine pf_get (v := .ref (g.lk M 7)) (C := "BigRunnerModel") (T := FT10) (N := 45) hx hb (hw10 hB _) (fun _ h9 => h9) hown hK hP (lo_in hL t_M (by decide)) e43 rfl 7 (by decide) (wd_954 hB _) rfl d_M_load_48 ?_
              refine lv_iload_n hx hb d_M_load_51 rfl (lv_at hl 0 rfl) ?_
              refine lv_aload_n hx hb d_M_load_52 rfl (lv_at hl 1 rfl) ?_
              refine pf_get (v := .ref (g.lk M 4)) (C := "BigRunnerModel") (T := FT10) (N := 45) hx hb (hw10 hB _) (fun _ h9 => h9) hown hK hP (lo_in hL t_M (by decide)) e43 rfl 4 (by decide) (wd_951 hB _) rfl d_M_load_53 ?_
              refine lv_iload_n hx hb d_M_load_56 rfl (lv_at hl 0 rfl) ?_
              refine pf_iald (i := i) hx hb hK hP (lo_in hL (lo_k11_4 hL _ t_M) (by decide)) e26 (lo_t42 hL _ (lo_k11_4 hL _ t_M)) (by omega) (by decide) d_M_load_57 ?_
              have hI137 := iv_1 hI55 hL (lo_k11_6 hL _ t_M) (by decide) hk136 (oc_43.mk (lo_k11_6 hL _ t_M) (⟨_, e134⟩))
              refine pf_iast (i := i) hx hb hK hP hD hS (lo_in hL (lo_k11_7 hL _ t_M) (by decide)) e54 (lo_t44 hL _ (lo_k11_7 hL _ t_M)) (by omega) (by decide) d_M_load_58 (fun f138 H locs e139 k140 hP hD hS => ?_)
              have eT := (k140 (g.lk M 1) (tg_ne (lo_k11_1 hL _ t_M) (lo_k11_7 hL _ t_M) (by decide))).trans eT
              have e25 := (k140 (g.lk M 3) (tg_ne (lo_k11_3 hL _ t_M) (lo_k11_7 hL _ t_M) (by decide))).trans e25
              have e26 := (k140 (g.lk M 4) (tg_ne (lo_k11_4 hL _ t_M) (lo_k11_7 hL _ t_M) (by decide))).trans e26
              have e43 := (k140 M (tg_ne t_M (lo_k11_7 hL _ t_M) (by decide))).trans e43
              have e134 := (k140 (g.lk M 6) (tg_ne (lo_k11_6 hL _ t_M) (lo_k11_7 hL _ t_M) (by decide))).trans e134
              have hu := hu.st k140 (lo_k11_7 hL _ t_M) (by decide)
              have hv56 := hv56.st k140 (lo_k11_7 hL _ t_M) (by decide)
              have hk141 : ∀ b, b ≠ (g.lk M 7) → f138 b = f133 b := k140
              refine lv_iinc (k := 0) (v := nI (i + 1)) (lv' := [(1, .int (nI (i + 1))), (0, .ref M)]) hx hb d_M_load_59 hl rfl (by rw [nI_succ]; rfl) (by decide) rfl (fun ls hl => ?_)
              refine lv_goto (tgt := 27) hx hb d_M_load_62 (by decide) ?_
              have hI142 := iv_1 hI137 hL (lo_k11_7 hL _ t_M) (by decide) hk141 (oc_44.mk (lo_k11_7 hL _ t_M) (⟨_, e139⟩))
              exact ih51 (i + 1) (upd c8 i ((d_11 i))) (upd a8 i ((g_12 i))) f138 H locs ls (by omega) (by omega) (smd_s hsc) (smd_s hsa) e134 e139 hI142 hv56 hl hP hD hS
        exact lp48 (n_9 + 1) 0 hC hA f42 H locs ls (by omega) (by omega) (fun i hi => absurd hi (by omega)) (fun i hi => absurd hi (by omega)) eC eA hI47 un.rf hl hP hD hS
      · skip
        replace b46 := mt (nI_leI (a := 0) (b := 0) (by omega) (by omega)).mpr b46
        exfalso; omega
  · skip
    have hbo143 : nI fb_27 = 0 ∨ nI fb_27 = 1 := by rcases (show fb_27 = 0 ∨ fb_27 = 1 by omega) with y | y <;> rw [y] <;> decide
    refine lv_if_eq (tgt := 12) hx hb d_M_load_5 (by decide) (fun b144 => ?_) (fun b144 => ?_)
    · skip
      replace b144 := (nI_eq (a := 0) (b := 0) (by omega) (by omega)).mp b144
      refine lv_iconst (v := nI 1) hx hb d_M_load_12 (by decide) ?_
      refine pf_put (v := .int (nI 1)) (ty := .int) (fs' := [.int (nI 1), .ref (g.lk M 1), .int (nI mn), .ref (g.lk M 3), .ref (g.lk M 4), .int (nI dr_31), .ref (g.lk M 6), .ref (g.lk M 7), .ref (g.lk M 8), .int (nI msz), .int (nI ix_28), .int (nI dp_30), .ref (g.lk M 12), .int (nI wt_32), .ref (g.lk M 14), .ref (g.lk M 15), .int (nI op_29), .ref (g.lk M 17), .ref (g.lk M 18), .ref (g.lk M 19), .ref (g.lk M 20), .ref (g.lk M 21), .ref (g.lk M 22), .ref (g.lk M 23), .ref (g.lk M 24), .ref (g.lk M 25), .ref (g.lk M 26), .ref (g.lk M 27), .ref (g.lk M 28), .ref (g.lk M 29), .ref (g.lk M 30), .ref (g.lk M 31), .int (nI mtp), .ref (g.lk M 33), .ref (g.lk M 34), .ref (g.lk M 35), .int (nI mwa), .int (nI mgi), .int (nI mpc), .int (nI mst), .int (nI mtr), .int (nI msp), .int mma, .int mlg, .int (nI fb_27)]) (C := "BigRunnerModel") (T := FT10) (N := 45) hx hb (hw10 hB _) (fun _ h9 => h9) TY10 ok10 nm10 hown hK hP hD hS (lo_in hL t_M (by decide)) e40 rfl 0 (by decide) (wd_947 hB _) rfl (by decide +kernel) rfl rfl (Nat.le_of_ble_eq_true rfl) rfl d_M_load_13 (fun f145 H locs e146 k147 hP hD hS => ?_)
      have eT := (k147 (g.lk M 1) (tg_ne (lo_k11_1 hL _ t_M) t_M (by decide))).trans eT
      have eC := (k147 (g.lk M 6) (tg_ne (lo_k11_6 hL _ t_M) t_M (by decide))).trans eC
      have eA := (k147 (g.lk M 7) (tg_ne (lo_k11_7 hL _ t_M) t_M (by decide))).trans eA
      have hu := hu.st k147 t_M (by decide)
      have hub0 := hub0.st k147 t_M (by decide)
      have hk148 : ∀ b, b ≠ M → f145 b = f2 b := k147
      refine lv_aload_n hx hb d_M_load_16 rfl (lv_at hl 0 rfl) ?_
      refine pf_get (v := .int (nI 1)) (C := "BigRunnerModel") (T := FT10) (N := 45) hx hb (hw10 hB _) (fun _ h9 => h9) hown hK hP (lo_in hL t_M (by decide)) e146 rfl 0 (by decide) (wd_947 hB _) rfl d_M_load_17 ?_
      refine lv_if_le (tgt := 25) hx hb d_M_load_20 (by decide) (fun b149 => ?_) (fun b149 => ?_)
      · skip
        replace b149 := (nI_leI (a := 1) (b := 0) (by omega) (by omega)).mp b149
        exfalso; omega
      · skip
        replace b149 := mt (nI_leI (a := 1) (b := 0) (by omega) (by omega)).mpr b149
        refine lv_iconst (v := nI 0) hx hb d_M_load_23 (by decide) ?_
        have hI150 := iv_1 hI1_5 hL t_M (by decide) hk148 (oc_11.mk t_M (⟨((nI 1)), mn, dr_31, msz, ix_28, dp_30, wt_32, op_29, mtp, mwa, mgi, mpc, mst, mtr, msp, mma, mlg, ((nI fb_27)), e146, (by omega), (by omega), (by omega), (by omega), (by omega), (by omega), (by omega), (by omega), (by omega), (by omega), (by omega), (by omega), (by omega), (by omega), hbo143⟩))
        exact pe_iret hx hb hr hlocks hK hP hD hS d_M_load_24 ⟨(Or.inr ⟨c33, ⟨fb_27, ix_28, op_29, dp_30, dr_31, wt_32, by omega, by omega, by omega, by omega, by omega, by omega, e146⟩, eC, eA, hub0⟩), hI150, hu⟩
    · skip
      replace b144 := mt (nI_eq (a := 0) (b := 0) (by omega) (by omega)).mpr b144
      exfalso; omega

