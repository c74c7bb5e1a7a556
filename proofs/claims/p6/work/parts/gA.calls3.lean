set_option maxHeartbeats 4000000 in
set_option maxRecDepth 100000 in
theorem c3_hasVarOut (l : Launch) (g : Lay) (sz : Nat) (f : Nat → va_E) (B : Nat) (n : Nat) (ld : Int32) (v : Int32) (hL : LO g) (t_B : g.tg B = 1) (hI : OC g f) (eB : f B = .inr (0, [.ref (g.lk B 0), .int (nI n), .ref (g.lk B 2), .ref (g.lk B 3), .int ld])) (hld : ld = nI 0 ∨ ld = nI 1) (hno : vok v = false ∨ ld = nI 0) : Met l ⟨"BigRunner", "hasVariable", "(I)Z"⟩ [Cond.code ⟨"BigRunner", "hasVariable", "(I)Z"⟩ prog_1_method_12_code 2 (some .boolean)] ({ frames := 0, cells := 0, slots := 0, locals := 0 }) (va_Pc [.ref B, .int v] (pc_in g sz f)) (va_Qi (fun r f1 => (r = nI 0) ∧ (f = f1)) (pc_out g sz) (pc_A g sz)) 0 0 (pc_A g sz) := by
  refine pe_ofW (cc := prog_1_method_12_code) (maxL := 2) (ret := (some .boolean)) (lv := [(0, .ref B), (1, .int v)]) (by decide) (Nat.le_of_ble_eq_true rfl) rfl ?_
  intro p e s m args below meth c ls hx hb hr hml hlocks hown hB hP hK hD hsz hS hl
  subst hsz
  refine lv_aload_n hx hb d_B_hasVariable_0 rfl (lv_at hl 0 rfl) ?_
  refine pf_get (v := .int ld) (C := "BigRunner") (T := FT0) (N := 5) hx hb (hw0 hB _) (fun _ h9 => h9) hown hK hP (lo_in hL t_B (by decide)) eB rfl 4 (by decide) (wd_382 hB _) rfl d_B_hasVariable_1 ?_
  refine lv_if_eq (tgt := 21) hx hb d_B_hasVariable_4 (by decide) (fun b1 => ?_) (fun b1 => ?_)
  · skip
    have hr2 : ld = nI 0 := b1
    replace b1 : ld = nI 0 := b1
    refine lv_iconst (v := nI 0) hx hb d_B_hasVariable_21 (by decide) ?_
    exact pe_zret hx hb hr hlocks hK hP hD hS d_B_hasVariable_22 rfl ⟨rfl, rfl⟩
  · skip
    have hr3 : ld = nI 1 := (bl_1 hld b1)
    replace b1 : ¬ ld = nI 0 := b1
    refine lv_iload_n hx hb d_B_hasVariable_7 rfl (lv_at hl 1 rfl) ?_
    refine lv_if_lt (tgt := 21) hx hb d_B_hasVariable_8 (by decide) (fun b4 => ?_) (fun b4 => ?_)
    · skip
      refine lv_iconst (v := nI 0) hx hb d_B_hasVariable_21 (by decide) ?_
      exact pe_zret hx hb hr hlocks hK hP hD hS d_B_hasVariable_22 rfl ⟨rfl, rfl⟩
    · skip
      refine lv_iload_n hx hb d_B_hasVariable_11 rfl (lv_at hl 1 rfl) ?_
      refine lv_bipush (v := nI 10) hx hb d_B_hasVariable_12 (by decide) ?_
      refine lv_icmp_ge (tgt := 21) hx hb d_B_hasVariable_14 (by decide) (fun b5 => ?_) (fun b5 => ?_)
      · skip
        refine lv_iconst (v := nI 0) hx hb d_B_hasVariable_21 (by decide) ?_
        exact pe_zret hx hb hr hlocks hK hP hD hS d_B_hasVariable_22 rfl ⟨rfl, rfl⟩
      · skip
        exfalso
        rcases hno with hno | hno
        · simp [vok, b4, b5] at hno
        · exact b1 hno
def MK (g : Lay) (M : Nat) (f : Nat → va_E) (n : Nat) (hT : Nat → Int32) (sg : Option (Nat → IVL)) : Prop := ∃ (mth : Int32) (mdr : Nat) (msz : Nat) (mix : Nat) (mdp : Nat) (mwt : Nat) (mop : Nat) (mtp : Nat) (mwa : Nat) (mgi : Nat) (mpc : Nat) (mst : Nat) (mtr : Nat) (msp : Nat) (mma : Int32) (mlg : Int32) (mdu : Int32) (hC : Nat → Int32) (hA : Nat → Int32) (dpf : Nat → Nat), (f M = .inr (10, [.int mth, .ref (g.lk M 1), .int (nI n), .ref (g.lk M 3), .ref (g.lk M 4), .int (nI mdr), .ref (g.lk M 6), .ref (g.lk M 7), .ref (g.lk M 8), .int (nI msz), .int (nI mix), .int (nI mdp), .ref (g.lk M 12), .int (nI mwt), .ref (g.lk M 14), .ref (g.lk M 15), .int (nI mop), .ref (g.lk M 17), .ref (g.lk M 18), .ref (g.lk M 19), .ref (g.lk M 20), .ref (g.lk M 21), .ref (g.lk M 22), .ref (g.lk M 23), .ref (g.lk M 24), .ref (g.lk M 25), .ref (g.lk M 26), .ref (g.lk M 27), .ref (g.lk M 28), .ref (g.lk M 29), .ref (g.lk M 30), .ref (g.lk M 31), .int (nI mtp), .ref (g.lk M 33), .ref (g.lk M 34), .ref (g.lk M 35), .int (nI mwa), .int (nI mgi), .int (nI mpc), .int (nI mst), .int (nI mtr), .int (nI msp), .int mma, .int mlg, .int mdu])) ∧ (n ≤ 72 ∧ mdr ≤ 100 ∧ msz ≤ 100 ∧ mix ≤ 100 ∧ mdp ≤ 20 ∧ mwt ≤ 72 ∧ mop ≤ 40 ∧ mtp ≤ 80 ∧ mwa ≤ 20 ∧ mgi ≤ msp ∧ mpc ≤ 100 ∧ mst ≤ 4 ∧ mtr ≤ 3 ∧ msp ≤ 3000 ∧ (mdu = 0 ∨ mdu = 1)) ∧ (f (g.lk M 1) = .inl (g.ac (g.lk M 1), 72, .inl hT)) ∧ (∀ i, i < 72 → vp_nar .char (hT i) = hT i) ∧ (f (g.lk M 6) = .inl (g.ac (g.lk M 6), 100, .inl hC)) ∧ (f (g.lk M 7) = .inl (g.ac (g.lk M 7), 100, .inl hA)) ∧ (WF hC hA dpf msz) ∧ (RI hC dpf msz mst mpc mtr) ∧ (ME g f M mst sg)
/-- a fresh object of the reference: no program -/
def MJ0 (g : Lay) (M : Nat) (f : Nat → va_E) (n : Nat) (hT : Nat → Int32) : Prop := ∃ (mth : Int32) (mdr : Nat) (msz : Nat) (mix : Nat) (mdp : Nat) (mwt : Nat) (mop : Nat) (mtp : Nat) (mwa : Nat) (mgi : Nat) (mpc : Nat) (mst : Nat) (mtr : Nat) (msp : Nat) (mma : Int32) (mlg : Int32) (mdu : Int32) (hC : Nat → Int32) (hA : Nat → Int32) (dpf : Nat → Nat), (f M = .inr (10, [.int mth, .ref (g.lk M 1), .int (nI n), .ref (g.lk M 3), .ref (g.lk M 4), .int (nI mdr), .ref (g.lk M 6), .ref (g.lk M 7), .ref (g.lk M 8), .int (nI msz), .int (nI mix), .int (nI mdp), .ref (g.lk M 12), .int (nI mwt), .ref (g.lk M 14), .ref (g.lk M 15), .int (nI mop), .ref (g.lk M 17), .ref (g.lk M 18), .ref (g.lk M 19), .ref (g.lk M 20), .ref (g.lk M 21), .ref (g.lk M 22), .ref (g.lk M 23), .ref (g.lk M 24), .ref (g.lk M 25), .ref (g.lk M 26), .ref (g.lk M 27), .ref (g.lk M 28), .ref (g.lk M 29), .ref (g.lk M 30), .ref (g.lk M 31), .int (nI mtp), .ref (g.lk M 33), .ref (g.lk M 34), .ref (g.lk M 35), .int (nI mwa), .int (nI mgi), .int (nI mpc), .int (nI mst), .int (nI mtr), .int (nI msp), .int mma, .int mlg, .int mdu])) ∧ (n ≤ 72 ∧ mdr ≤ 100 ∧ msz ≤ 100 ∧ mix ≤ 100 ∧ mdp ≤ 20 ∧ mwt ≤ 72 ∧ mop ≤ 40 ∧ mtp ≤ 80 ∧ mwa ≤ 20 ∧ mgi ≤ msp ∧ mpc ≤ 100 ∧ mst ≤ 4 ∧ mtr ≤ 3 ∧ msp ≤ 3000 ∧ (mdu = 0 ∨ mdu = 1)) ∧ (f (g.lk M 1) = .inl (g.ac (g.lk M 1), 72, .inl hT)) ∧ (∀ i, i < 72 → vp_nar .char (hT i) = hT i) ∧ (f (g.lk M 6) = .inl (g.ac (g.lk M 6), 100, .inl hC)) ∧ (f (g.lk M 7) = .inl (g.ac (g.lk M 7), 100, .inl hA)) ∧ (WF hC hA dpf msz) ∧ (RI hC dpf msz mst mpc mtr) ∧ mst = 0
theorem MK.un {g : Lay} {M n : Nat} {hT : Nat → Int32} {sg : Option (Nat → IVL)} {f f1 : Nat → va_E} (hL : LO g) (t_M : g.tg M = 11) {W : List Nat} (h : MK g M f n hT sg) (hu : un W g f f1) (hW : ∀ x ∈ [11, 40, 43, 44, 49, 50, 51, 52], x ∉ W) : MK g M f1 n hT sg := by
  obtain ⟨mth, mdr, msz, mix, mdp, mwt, mop, mtp, mwa, mgi, mpc, mst, mtr, msp, mma, mlg, mdu, hC, hA, dpf, eM, hMB, eT, cT, eC, eA, hWF, hRI, hme⟩ := h
  exact ⟨mth, mdr, msz, mix, mdp, mwt, mop, mtp, mwa, mgi, mpc, mst, mtr, msp, mma, mlg, mdu, hC, hA, dpf, hu.at t_M (hW 11 (by decide)) eM, hMB, hu.at (lo_k11_1 hL _ t_M) (hW 40 (by decide)) eT, cT, hu.at (lo_k11_6 hL _ t_M) (hW 43 (by decide)) eC, hu.at (lo_k11_7 hL _ t_M) (hW 44 (by decide)) eA, hWF, hRI, hme.un hL t_M hu (fun x hx => hW x (by revert x; decide))⟩
theorem MJ0.ex {g g1 : Lay} {M n z : Nat} {hT : Nat → Int32} {f f1 : Nat → va_E} (h : MJ0 g M f n hT) (hL : LO g) (t_M : g.tg M = 11) (hz : EX z g f g1 f1) (h0 : g.tg z = 0) : MJ0 g1 M f1 n hT := by
  obtain ⟨mth, mdr, msz, mix, mdp, mwt, mop, mtp, mwa, mgi, mpc, mst, mtr, msp, mma, mlg, mdu, hC, hA, dpf, eM, hMB, eT, cT, eC, eA, hWF, hRI, hm0⟩ := h
  obtain ⟨-, a1, a2, a3, a4, a5⟩ := hz.tg_ hL h0 t_M (by decide)
  obtain ⟨-, d1, d2, d3, d4, d5⟩ := hz.tg_ hL h0 (lo_k11_1 hL _ t_M) (by decide)
  obtain ⟨-, b1, b2, b3, b4, b5⟩ := hz.tg_ hL h0 (lo_k11_6 hL _ t_M) (by decide)
  obtain ⟨-, c1, c2, c3, c4, c5⟩ := hz.tg_ hL h0 (lo_k11_7 hL _ t_M) (by decide)
  exact ⟨mth, mdr, msz, mix, mdp, mwt, mop, mtp, mwa, mgi, mpc, mst, mtr, msp, mma, mlg, mdu, hC, hA, dpf, (by rw [a5, a2]; exact eM), hMB, (by rw [a2, d5, d3]; exact eT), cT, (by rw [a2, b5, b3]; exact eC), (by rw [a2, c5, c3]; exact eA), hWF, hRI, hm0⟩
