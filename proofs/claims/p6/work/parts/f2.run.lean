set_option maxHeartbeats 4000000 in
set_option maxRecDepth 100000 in
theorem c2_run (l : Launch) (g : Lay) (sz : Nat) (f : Nat → va_E) (B : Nat) (n : Nat) (hT : Nat → Int32) (ld : Int32) (tx : Value) (ln0 : Nat) (ax0 : Nat) (PR : Nat) (pr : Nat) (ix : Nat) (os : Nat) (st : Nat) (mo : Int32) (lo : Int32) (tr : Nat) (sn : Nat) (nn : Nat) (sg : Option (Nat → IVL)) (k9 : Int32) (hL : LO g) (t_B : g.tg B = 1) (t_PR : g.tg PR = 7) (t_pr : g.tg pr = 7) (hI : IV g f) (eB : f B = .inr (0, [.ref (g.lk B 0), .int (nI n), .ref (g.lk B 2), .ref (g.lk B 3), .int ld])) (hn : n ≤ 72) (hld : ld = nI 0 ∨ ld = nI 1) (eT : f (g.lk B 0) = .inl (g.ac (g.lk B 0), 72, .inl hT)) (cT : ∀ i, i < 72 → vp_nar .char (hT i) = hT i) (eR : f (g.lk B 2) = .inr (7, [tx, .int (nI ln0), .int (nI ax0), .ref PR])) (hl0 : ln0 ≤ 72) (ha0 : ax0 ≤ 72) (eX : f (g.lk B 3) = .inr (8, [.ref pr, .ref (g.lk (g.lk B 3) 1), .int (nI ix), .ref (g.lk (g.lk B 3) 3), .ref (g.lk (g.lk B 3) 4), .ref (g.lk (g.lk B 3) 5), .ref (g.lk (g.lk B 3) 6), .ref (g.lk (g.lk B 3) 7), .int (nI os), .int (nI st), .int mo, .int lo, .int (nI tr)])) (hix : ix ≤ 36) (hos : os ≤ st) (hst : st ≤ 3000) (htr : tr ≤ 3) (hPR : PR ≠ pr) (eP : f pr = .inr (6, [.ref (g.lk pr 0), .int (nI sn), .ref (g.lk pr 2), .int (nI nn), .ref (g.lk pr 4), .ref (g.lk pr 5)])) (hsn : sn ≤ 36) (hnn : nn ≤ 72) (hSG : SG g f pr 0 sn) (hnj : sn ≤ ix ∨ nj g f pr ix) (hi1 : OIN g f PR) (hi2 : OIN g f pr) (hce : CE g f pr ld sg) (hLt : l.stackTraces = false) : tw_Met l ⟨"BigRunner", "run", "(I)I"⟩ [Cond.code ⟨"BigRunner", "run", "(I)I"⟩ prog_1_method_6_code 3 (some .int)] ({ frames := 7, cells := 1, slots := 6, locals := 182 }) (va_Pc [.ref B, .int k9] (pt_in g sz f)) (tq (fun v9 f1 => ∃ r, v9 = some (.int r) ∧ (CK g B f1 n hT sg) ∧ (IV g f1) ∧ (un [2, 4, 5, 6, 9, 22, 23, 27] g f f1)) (fun C9 f1 => (C9 = "java/lang/IllegalStateException" ∨ C9 = "java/lang/IllegalArgumentException" ∨ C9 = "java/lang/ArithmeticException" ∨ C9 = "java/lang/UnsupportedOperationException") ∧ (CK g B f1 n hT sg) ∧ (IV g f1) ∧ (un [2, 4, 5, 6, 9, 22, 23, 27] g f f1)) g sz) 1 6 (pc_A g sz) := by
  refine pt_ofW (cc := prog_1_method_6_code) (maxL := 3) (ret := (some .int)) (lv := [(0, .ref B), (1, .int k9)]) (by decide) (Nat.le_of_ble_eq_true rfl) rfl ?_
  intro p e s m args below meth c ls hx hb hr hml hlocks hown hB hP hK hD hsz hS hl hno hTZ
  subst hsz
  have hu : un [2, 4, 5, 6, 9, 22, 23, 27] g f f := un.rf
  refine lv_aload_n hx hb d_B_run_0 rfl (lv_at hl 0 rfl) ?_
  refine pf_get (v := .int ld) (C := "BigRunner") (T := FT0) (N := 5) hx hb (hw0 hB _) (fun _ h9 => h9) hown hK hP (lo_in hL t_B (by decide)) eB rfl 4 (by decide) (wd_382 hB _) rfl d_B_run_1 ?_
  refine lv_if_eq (tgt := 27) hx hb d_B_run_4 (by decide) (fun b1 => ?_) (fun b1 => ?_)
  · skip
    have hr2 : ld = nI 0 := b1
    exact pt_throw (own := "BigRunner") (cls := "java/lang/IllegalStateException") (text := "no program is under way") (names := ["java/lang/RuntimeException", "java/lang/Exception"]) hx hb (hl.1.trans hml.symm) hlocks hno hLt hown (by decide +kernel) (by decide +kernel) hB hTZ (fun U hB hH => ⟨(wd_696 hB _), (wd_697 hB _), (wd_89 hB _), (wd_705 hB _), oa_3 hB hH _⟩) hK hP hD hS d_B_run_27 d_B_run_30 d_B_run_31 d_B_run_33 d_B_run_36 (Nat.le_of_ble_eq_true rfl) (Nat.le_of_ble_eq_true rfl) (Nat.le_of_ble_eq_true rfl) (Nat.le_of_ble_eq_true rfl) ⟨(Or.inl rfl), ⟨ld, (tx), ln0, ax0, PR, pr, ix, os, st, mo, lo, tr, sn, nn, t_PR, t_pr, eB, by omega, hld, eT, cT, eR, by omega, by omega, eX, by omega, by omega, by omega, by omega, hPR, eP, by omega, by omega, SG_un hSG hL t_pr hsn hu (by decide), hnj, hi1.un hL t_PR hu (by decide), hi2.un hL t_pr hu (by decide), hce.un hL t_pr hu (by decide)⟩, hI, hu⟩
  · skip
    have hr3 : ld = nI 1 := (bl_1 hld b1)
    refine lv_aload_n hx hb d_B_run_7 rfl (lv_at hl 0 rfl) ?_
    refine pf_get (v := .ref (g.lk B 3)) (C := "BigRunner") (T := FT0) (N := 5) hx hb (hw0 hB _) (fun _ h9 => h9) hown hK hP (lo_in hL t_B (by decide)) eB rfl 3 (by decide) (wd_381 hB _) rfl d_B_run_8 ?_
    refine pcc_i (va_runV (C := "BigRunner$Runner") (As := []) (rest := []) ⟨hx, hb, hml, hown, tb_nil⟩ (c_ended l g s.heap.size f ((g.lk B 3)) pr ix os st mo lo tr sn nn hL (lo_k1_3 hL _ t_B) t_pr hI.1 eX (by omega) (by omega) (by omega) (by omega) eP (by omega) (by omega)) ⟨(callB_of 0 (tb_one (wd_423 hB _)) tb_good1 rfl rfl rfl (wd_79 hB _) (wd_420 hB _) (by decide +kernel) ⟨Nat.le_of_ble_eq_true rfl, Nat.le_of_ble_eq_true rfl⟩), (wd_421 hB _), (wd_422 hB _)⟩ ⟨pe_bl, pg_recv (ci := 8) hK hP (lo_in hL (lo_k1_3 hL _ t_B) (by decide)) eX rfl, pe_pre hB hK hP hD⟩ rfl rfl hl.1 rfl (lv_room (Nat.le_of_ble_eq_true rfl)) d_B_run_11 ⟨Nat.le_of_ble_eq_true rfl, Nat.le_of_ble_eq_true rfl⟩) hS (fun r4 f5 H locs hq6 hP hD hS => ?_)
    obtain ⟨bo_7, i0_8, i1_9, rfl⟩ := hq6
    refine lv_if_ne (tgt := 27) hx hb d_B_run_14 (by decide) (fun b10 => ?_) (fun b10 => ?_)
    · skip
      have hr11 : r4 = nI 1 := (bl_1 bo_7 b10)
      have hi12 := i1_9 hr11
      exact pt_throw (own := "BigRunner") (cls := "java/lang/IllegalStateException") (text := "no program is under way") (names := ["java/lang/RuntimeException", "java/lang/Exception"]) hx hb (hl.1.trans hml.symm) hlocks hno hLt hown (by decide +kernel) (by decide +kernel) hB hTZ (fun U hB hH => ⟨(wd_696 hB _), (wd_697 hB _), (wd_89 hB _), (wd_705 hB _), oa_3 hB hH _⟩) hK hP hD hS d_B_run_27 d_B_run_30 d_B_run_31 d_B_run_33 d_B_run_36 (Nat.le_of_ble_eq_true rfl) (Nat.le_of_ble_eq_true rfl) (Nat.le_of_ble_eq_true rfl) (Nat.le_of_ble_eq_true rfl) ⟨(Or.inl rfl), ⟨ld, (tx), ln0, ax0, PR, pr, ix, os, st, mo, lo, tr, sn, nn, t_PR, t_pr, eB, by omega, hld, eT, cT, eR, by omega, by omega, eX, by omega, by omega, by omega, by omega, hPR, eP, by omega, by omega, SG_un hSG hL t_pr hsn hu (by decide), hnj, hi1.un hL t_PR hu (by decide), hi2.un hL t_pr hu (by decide), hce.un hL t_pr hu (by decide)⟩, hI, hu⟩
    · skip
      have hr13 : r4 = nI 0 := b10
      have hi14 := i0_8 hr13
      refine lv_aload_n hx hb d_B_run_17 rfl (lv_at hl 0 rfl) ?_
      refine pf_get (v := .ref (g.lk B 3)) (C := "BigRunner") (T := FT0) (N := 5) hx hb (hw0 hB _) (fun _ h9 => h9) hown hK hP (lo_in hL t_B (by decide)) eB rfl 3 (by decide) (wd_381 hB _) rfl d_B_run_18 ?_
      refine pf_get (v := .int (nI tr)) (C := "BigRunner$Runner") (T := FT8) (N := 13) hx hb (hw8 hB _) (fun _ h9 => h9) hown hK hP (lo_in hL (lo_k1_3 hL _ t_B) (by decide)) eX rfl 12 (by decide) (wd_350 hB _) rfl d_B_run_21 ?_
      refine lv_if_eq (tgt := 37) hx hb d_B_run_24 (by decide) (fun b15 => ?_) (fun b15 => ?_)
      · skip
        replace b15 := (nI_eq (a := tr) (b := 0) (by omega) (by omega)).mp b15
        refine lv_iload_n hx hb d_B_run_37 rfl (lv_at hl 1 rfl) ?_
        refine lv_iconst (v := nI 1) hx hb d_B_run_38 (by decide) ?_
        refine lv_icmp_lt (tgt := 49) hx hb d_B_run_39 (by decide) (fun b16 => ?_) (fun b16 => ?_)
        · skip
          exact pt_throw (own := "BigRunner") (cls := "java/lang/IllegalArgumentException") (text := "not 1 .. 200 steps") (names := ["java/lang/RuntimeException", "java/lang/Exception"]) hx hb (hl.1.trans hml.symm) hlocks hno hLt hown (by decide +kernel) (by decide +kernel) hB hTZ (fun U hB hH => ⟨(wd_521 hB _), (wd_522 hB _), (wd_87 hB _), (wd_712 hB _), oa_2 hB hH _⟩) hK hP hD hS d_B_run_49 d_B_run_52 d_B_run_53 d_B_run_55 d_B_run_58 (Nat.le_of_ble_eq_true rfl) (Nat.le_of_ble_eq_true rfl) (Nat.le_of_ble_eq_true rfl) (Nat.le_of_ble_eq_true rfl) ⟨(Or.inr (Or.inl rfl)), ⟨ld, (tx), ln0, ax0, PR, pr, ix, os, st, mo, lo, tr, sn, nn, t_PR, t_pr, eB, by omega, hld, eT, cT, eR, by omega, by omega, eX, by omega, by omega, by omega, by omega, hPR, eP, by omega, by omega, SG_un hSG hL t_pr hsn hu (by decide), hnj, hi1.un hL t_PR hu (by decide), hi2.un hL t_pr hu (by decide), hce.un hL t_pr hu (by decide)⟩, hI, hu⟩
        · skip
          have hk1 := b16
          refine lv_iload_n hx hb d_B_run_42 rfl (lv_at hl 1 rfl) ?_
          refine lv_sipush (v := nI 200) hx hb d_B_run_43 (by decide) ?_
          refine lv_icmp_le (tgt := 59) hx hb d_B_run_46 (by decide) (fun b17 => ?_) (fun b17 => ?_)
          · skip
            obtain ⟨j9, hj9, rfl⟩ := nI_of (x := k9) (fun z => hk1 (Int32.lt_trans z (by decide)))
            have hj2 := (nI_leI (a := j9) (b := 200) (by omega) (by decide)).mp b17
            refine lv_iconst (v := nI 0) hx hb d_B_run_59 (by decide) ?_
            refine lv_istore_n (lv' := [(2, .int (nI 0)), (0, .ref B), (1, .int (nI j9))]) hx hb d_B_run_60 rfl hl (by decide) rfl (fun ls hl => ?_)
            have lp18 : ∀ (k20 : Nat) (i : Nat) (ix2 : Nat) (os2 : Nat) (st2 : Nat) (mo2 : Int32) (lo2 : Int32) (tr2 : Nat) (f19 : Nat → va_E) (H : Heap) (locs : List Loc) (ls : Array Slot), (j9 < i + k20) → (i ≤ j9) → (ix2 ≤ 36) → (os2 ≤ st2) → (st2 ≤ 3000) → (tr2 ≤ 3) → (sn ≤ ix2 ∨ nj g f19 pr ix2) → f19 (g.lk B 3) = .inr (8, [.ref pr, .ref (g.lk (g.lk B 3) 1), .int (nI ix2), .ref (g.lk (g.lk B 3) 3), .ref (g.lk (g.lk B 3) 4), .ref (g.lk (g.lk B 3) 5), .ref (g.lk (g.lk B 3) 6), .ref (g.lk (g.lk B 3) 7), .int (nI os2), .int (nI st2), .int mo2, .int lo2, .int (nI tr2)]) → IV g f19 → un [2, 4, 5, 6, 9, 22, 23, 27] g f f19 → lv_has ls 3 [(2, .int (nI i)), (0, .ref B), (1, .int (nI j9))] → va_P g.D vcl (va_pl g.LP f19) H → va_D (pc_A g s.heap.size) (va_pl g.LP f19) → va_S (pc_A g s.heap.size) s.heap H locs → W p l e ({ frames := 7, cells := 1, slots := 6, locals := 182 }) s m args below meth c H locs 0 0 (tw_MQ below (tq (fun v9 f1 => ∃ r, v9 = some (.int r) ∧ (CK g B f1 n hT sg) ∧ (IV g f1) ∧ (un [2, 4, 5, 6, 9, 22, 23, 27] g f f1)) (fun C9 f1 => (C9 = "java/lang/IllegalStateException" ∨ C9 = "java/lang/IllegalArgumentException" ∨ C9 = "java/lang/ArithmeticException" ∨ C9 = "java/lang/UnsupportedOperationException") ∧ (CK g B f1 n hT sg) ∧ (IV g f1) ∧ (un [2, 4, 5, 6, 9, 22, 23, 27] g f f1)) g s.heap.size) args s 1 6 (pc_A g s.heap.size)) (F0 m 61 ls []) := by
              intro k20
              induction k20 with
              | zero => intros; exfalso; omega
              | succ k20 ih21 =>
                intro i ix2 os2 st2 mo2 lo2 tr2 f19 H locs ls hfu22 hi hix2 hos2 hst2 htr2 hnj2 e23 hI24 hv25 hl hP hD hS
                have eB := hv25.at t_B (by decide) eB
                have eT := hv25.at (lo_k1_0 hL _ t_B) (by decide) eT
                have eR := hv25.at (lo_k1_2 hL _ t_B) (by decide) eR
                have eP := hv25.at t_pr (by decide) eP
                have hu := hu.tr hv25 (by decide)
                refine lv_iload_n hx hb d_B_run_61 rfl (lv_at hl 0 rfl) ?_
                refine lv_iload_n hx hb d_B_run_62 rfl (lv_at hl 2 rfl) ?_
                refine lv_icmp_ge (tgt := 89) hx hb d_B_run_63 (by decide) (fun b26 => ?_) (fun b26 => ?_)
                · skip
                  replace b26 := (nI_leI (a := j9) (b := i) (by omega) (by omega)).mp b26
                  refine lv_aload_n hx hb d_B_run_89 rfl (lv_at hl 1 rfl) ?_
                  refine pf_get (v := .ref (g.lk B 3)) (C := "BigRunner") (T := FT0) (N := 5) hx hb (hw0 hB _) (fun _ h9 => h9) hown hK hP (lo_in hL t_B (by decide)) eB rfl 3 (by decide) (wd_381 hB _) rfl d_B_run_90 ?_
                  refine pf_get (v := .int (nI tr2)) (C := "BigRunner$Runner") (T := FT8) (N := 13) hx hb (hw8 hB _) (fun _ h9 => h9) hown hK hP (lo_in hL (lo_k1_3 hL _ t_B) (by decide)) e23 rfl 12 (by decide) (wd_350 hB _) rfl d_B_run_93 ?_
                  refine lv_iconst (v := nI 1) hx hb d_B_run_96 (by decide) ?_
                  refine lv_icmp_ne (tgt := 110) hx hb d_B_run_97 (by decide) (fun b27 => ?_) (fun b27 => ?_)
                  · skip
                    replace b27 := mt (nI_eq (a := tr2) (b := 1) (by omega) (by omega)).mpr b27
                    refine lv_aload_n hx hb d_B_run_110 rfl (lv_at hl 1 rfl) ?_
                    refine pf_get (v := .ref (g.lk B 3)) (C := "BigRunner") (T := FT0) (N := 5) hx hb (hw0 hB _) (fun _ h9 => h9) hown hK hP (lo_in hL t_B (by decide)) eB rfl 3 (by decide) (wd_381 hB _) rfl d_B_run_111 ?_
                    refine pf_get (v := .int (nI tr2)) (C := "BigRunner$Runner") (T := FT8) (N := 13) hx hb (hw8 hB _) (fun _ h9 => h9) hown hK hP (lo_in hL (lo_k1_3 hL _ t_B) (by decide)) e23 rfl 12 (by decide) (wd_350 hB _) rfl d_B_run_114 ?_
                    refine lv_if_eq (tgt := 130) hx hb d_B_run_117 (by decide) (fun b28 => ?_) (fun b28 => ?_)
                    · skip
                      replace b28 := (nI_eq (a := tr2) (b := 0) (by omega) (by omega)).mp b28
                      refine lv_iload_n hx hb d_B_run_130 rfl (lv_at hl 0 rfl) ?_
                      exact pt_iret hx hb hr hlocks hK hP hD hS d_B_run_131 ⟨_, rfl, ⟨⟨ld, (tx), ln0, ax0, PR, pr, ix2, os2, st2, mo2, lo2, tr2, sn, nn, t_PR, t_pr, eB, by omega, hld, eT, cT, eR, by omega, by omega, e23, by omega, by omega, by omega, by omega, hPR, eP, by omega, by omega, SG_un hSG hL t_pr hsn hu (by decide), hnj2, hi1.un hL t_PR hu (by decide), hi2.un hL t_pr hu (by decide), hce.un hL t_pr hu (by decide)⟩, hI24, hu⟩⟩
                    · skip
                      replace b28 := mt (nI_eq (a := tr2) (b := 0) (by omega) (by omega)).mpr b28
                      exact pt_throw (own := "BigRunner") (cls := "java/lang/UnsupportedOperationException") (text := "too many digits or steps") (names := ["java/lang/RuntimeException", "java/lang/Exception"]) hx hb (hl.1.trans hml.symm) hlocks hno hLt hown (by decide +kernel) (by decide +kernel) hB hTZ (fun U hB hH => ⟨(wd_864 hB _), (wd_865 hB _), (wd_93 hB _), (wd_873 hB _), oa_0 hB hH _⟩) hK hP hD hS d_B_run_120 d_B_run_123 d_B_run_124 d_B_run_126 d_B_run_129 (Nat.le_of_ble_eq_true rfl) (Nat.le_of_ble_eq_true rfl) (Nat.le_of_ble_eq_true rfl) (Nat.le_of_ble_eq_true rfl) ⟨(Or.inr (Or.inr (Or.inr (rfl)))), ⟨ld, (tx), ln0, ax0, PR, pr, ix2, os2, st2, mo2, lo2, tr2, sn, nn, t_PR, t_pr, eB, by omega, hld, eT, cT, eR, by omega, by omega, e23, by omega, by omega, by omega, by omega, hPR, eP, by omega, by omega, SG_un hSG hL t_pr hsn hu (by decide), hnj2, hi1.un hL t_PR hu (by decide), hi2.un hL t_pr hu (by decide), hce.un hL t_pr hu (by decide)⟩, hI24, hu⟩
                  · skip
                    replace b27 := (nI_eq (a := tr2) (b := 1) (by omega) (by omega)).mp b27
                    exact pt_throw (own := "BigRunner") (cls := "java/lang/ArithmeticException") (text := "a division by 0") (names := ["java/lang/RuntimeException", "java/lang/Exception"]) hx hb (hl.1.trans hml.symm) hlocks hno hLt hown (by decide +kernel) (by decide +kernel) hB hTZ (fun U hB hH => ⟨(wd_848 hB _), (wd_849 hB _), (wd_92 hB _), (wd_857 hB _), oa_4 hB hH _⟩) hK hP hD hS d_B_run_100 d_B_run_103 d_B_run_104 d_B_run_106 d_B_run_109 (Nat.le_of_ble_eq_true rfl) (Nat.le_of_ble_eq_true rfl) (Nat.le_of_ble_eq_true rfl) (Nat.le_of_ble_eq_true rfl) ⟨(Or.inr (Or.inr (Or.inl rfl))), ⟨ld, (tx), ln0, ax0, PR, pr, ix2, os2, st2, mo2, lo2, tr2, sn, nn, t_PR, t_pr, eB, by omega, hld, eT, cT, eR, by omega, by omega, e23, by omega, by omega, by omega, by omega, hPR, eP, by omega, by omega, SG_un hSG hL t_pr hsn hu (by decide), hnj2, hi1.un hL t_PR hu (by decide), hi2.un hL t_pr hu (by decide), hce.un hL t_pr hu (by decide)⟩, hI24, hu⟩
                · skip
                  replace b26 := mt (nI_leI (a := j9) (b := i) (by omega) (by omega)).mpr b26
                  refine lv_aload_n hx hb d_B_run_66 rfl (lv_at hl 1 rfl) ?_
                  refine pf_get (v := .ref (g.lk B 3)) (C := "BigRunner") (T := FT0) (N := 5) hx hb (hw0 hB _) (fun _ h9 => h9) hown hK hP (lo_in hL t_B (by decide)) eB rfl 3 (by decide) (wd_381 hB _) rfl d_B_run_67 ?_
                  refine pcc_i (va_runV (C := "BigRunner$Runner") (As := []) (rest := []) ⟨hx, hb, hml, hown, tb_nil⟩ (c_goesOn l g H.size f19 ((g.lk B 3)) pr ix2 os2 st2 mo2 lo2 tr2 sn nn hL (lo_k1_3 hL _ t_B) t_pr hI24.1 e23 (by omega) (by omega) (by omega) (by omega) eP (by omega) (by omega)) ⟨(callB_of 0 (tb_one (wd_716 hB _)) tb_good1 rfl rfl rfl (wd_79 hB _) (wd_713 hB _) (by decide +kernel) ⟨Nat.le_of_ble_eq_true rfl, Nat.le_of_ble_eq_true rfl⟩), (wd_714 hB _), (wd_715 hB _)⟩ ⟨pe_bl, pg_recv (ci := 8) hK hP (lo_in hL (lo_k1_3 hL _ t_B) (by decide)) e23 rfl, pe_pre hB hK hP hD⟩ rfl rfl hl.1 rfl (lv_room (Nat.le_of_ble_eq_true rfl)) d_B_run_70 ⟨Nat.le_of_ble_eq_true rfl, Nat.le_of_ble_eq_true rfl⟩) hS (fun r29 f30 H locs hq31 hP hD hS => ?_)
                  obtain ⟨bo_32, i1_33, rfl⟩ := hq31
                  refine lv_if_eq (tgt := 89) hx hb d_B_run_73 (by decide) (fun b34 => ?_) (fun b34 => ?_)
                  · skip
                    have hr35 : r29 = nI 0 := b34
                    refine lv_aload_n hx hb d_B_run_89 rfl (lv_at hl 1 rfl) ?_
                    refine pf_get (v := .ref (g.lk B 3)) (C := "BigRunner") (T := FT0) (N := 5) hx hb (hw0 hB _) (fun _ h9 => h9) hown hK hP (lo_in hL t_B (by decide)) eB rfl 3 (by decide) (wd_381 hB _) rfl d_B_run_90 ?_
                    refine pf_get (v := .int (nI tr2)) (C := "BigRunner$Runner") (T := FT8) (N := 13) hx hb (hw8 hB _) (fun _ h9 => h9) hown hK hP (lo_in hL (lo_k1_3 hL _ t_B) (by decide)) e23 rfl 12 (by decide) (wd_350 hB _) rfl d_B_run_93 ?_
                    refine lv_iconst (v := nI 1) hx hb d_B_run_96 (by decide) ?_
                    refine lv_icmp_ne (tgt := 110) hx hb d_B_run_97 (by decide) (fun b36 => ?_) (fun b36 => ?_)
                    · skip
                      replace b36 := mt (nI_eq (a := tr2) (b := 1) (by omega) (by omega)).mpr b36
                      refine lv_aload_n hx hb d_B_run_110 rfl (lv_at hl 1 rfl) ?_
                      refine pf_get (v := .ref (g.lk B 3)) (C := "BigRunner") (T := FT0) (N := 5) hx hb (hw0 hB _) (fun _ h9 => h9) hown hK hP (lo_in hL t_B (by decide)) eB rfl 3 (by decide) (wd_381 hB _) rfl d_B_run_111 ?_
                      refine pf_get (v := .int (nI tr2)) (C := "BigRunner$Runner") (T := FT8) (N := 13) hx hb (hw8 hB _) (fun _ h9 => h9) hown hK hP (lo_in hL (lo_k1_3 hL _ t_B) (by decide)) e23 rfl 12 (by decide) (wd_350 hB _) rfl d_B_run_114 ?_
                      refine lv_if_eq (tgt := 130) hx hb d_B_run_117 (by decide) (fun b37 => ?_) (fun b37 => ?_)
                      · skip
                        replace b37 := (nI_eq (a := tr2) (b := 0) (by omega) (by omega)).mp b37
                        refine lv_iload_n hx hb d_B_run_130 rfl (lv_at hl 0 rfl) ?_
                        exact pt_iret hx hb hr hlocks hK hP hD hS d_B_run_131 ⟨_, rfl, ⟨⟨ld, (tx), ln0, ax0, PR, pr, ix2, os2, st2, mo2, lo2, tr2, sn, nn, t_PR, t_pr, eB, by omega, hld, eT, cT, eR, by omega, by omega, e23, by omega, by omega, by omega, by omega, hPR, eP, by omega, by omega, SG_un hSG hL t_pr hsn hu (by decide), hnj2, hi1.un hL t_PR hu (by decide), hi2.un hL t_pr hu (by decide), hce.un hL t_pr hu (by decide)⟩, hI24, hu⟩⟩
                      · skip
                        replace b37 := mt (nI_eq (a := tr2) (b := 0) (by omega) (by omega)).mpr b37
                        exact pt_throw (own := "BigRunner") (cls := "java/lang/UnsupportedOperationException") (text := "too many digits or steps") (names := ["java/lang/RuntimeException", "java/lang/Exception"]) hx hb (hl.1.trans hml.symm) hlocks hno hLt hown (by decide +kernel) (by decide +kernel) hB hTZ (fun U hB hH => ⟨(wd_864 hB _), (wd_865 hB _), (wd_93 hB _), (wd_873 hB _), oa_0 hB hH _⟩) hK hP hD hS d_B_run_120 d_B_run_123 d_B_run_124 d_B_run_126 d_B_run_129 (Nat.le_of_ble_eq_true rfl) (Nat.le_of_ble_eq_true rfl) (Nat.le_of_ble_eq_true rfl) (Nat.le_of_ble_eq_true rfl) ⟨(Or.inr (Or.inr (Or.inr (rfl)))), ⟨ld, (tx), ln0, ax0, PR, pr, ix2, os2, st2, mo2, lo2, tr2, sn, nn, t_PR, t_pr, eB, by omega, hld, eT, cT, eR, by omega, by omega, e23, by omega, by omega, by omega, by omega, hPR, eP, by omega, by omega, SG_un hSG hL t_pr hsn hu (by decide), hnj2, hi1.un hL t_PR hu (by decide), hi2.un hL t_pr hu (by decide), hce.un hL t_pr hu (by decide)⟩, hI24, hu⟩
                    · skip
                      replace b36 := (nI_eq (a := tr2) (b := 1) (by omega) (by omega)).mp b36
                      exact pt_throw (own := "BigRunner") (cls := "java/lang/ArithmeticException") (text := "a division by 0") (names := ["java/lang/RuntimeException", "java/lang/Exception"]) hx hb (hl.1.trans hml.symm) hlocks hno hLt hown (by decide +kernel) (by decide +kernel) hB hTZ (fun U hB hH => ⟨(wd_848 hB _), (wd_849 hB _), (wd_92 hB _), (wd_857 hB _), oa_4 hB hH _⟩) hK hP hD hS d_B_run_100 d_B_run_103 d_B_run_104 d_B_run_106 d_B_run_109 (Nat.le_of_ble_eq_true rfl) (Nat.le_of_ble_eq_true rfl) (Nat.le_of_ble_eq_true rfl) (Nat.le_of_ble_eq_true rfl) ⟨(Or.inr (Or.inr (Or.inl rfl))), ⟨ld, (tx), ln0, ax0, PR, pr, ix2, os2, st2, mo2, lo2, tr2, sn, nn, t_PR, t_pr, eB, by omega, hld, eT, cT, eR, by omega, by omega, e23, by omega, by omega, by omega, by omega, hPR, eP, by omega, by omega, SG_un hSG hL t_pr hsn hu (by decide), hnj2, hi1.un hL t_PR hu (by decide), hi2.un hL t_pr hu (by decide), hce.un hL t_pr hu (by decide)⟩, hI24, hu⟩
                  · skip
                    have hr38 : r29 = nI 1 := (bl_1 bo_32 b34)
                    have hi39 := i1_33 hr38
                    refine lv_aload_n hx hb d_B_run_76 rfl (lv_at hl 1 rfl) ?_
                    refine pf_get (v := .ref (g.lk B 3)) (C := "BigRunner") (T := FT0) (N := 5) hx hb (hw0 hB _) (fun _ h9 => h9) hown hK hP (lo_in hL t_B (by decide)) eB rfl 3 (by decide) (wd_381 hB _) rfl d_B_run_77 ?_
                    refine pcc_v (va_runV (C := "BigRunner$Runner") (As := []) (rest := []) ⟨hx, hb, hml, hown, tb_nil⟩ (c_makeStep l g H.size f19 ((g.lk B 3)) pr ix2 os2 st2 mo2 lo2 tr2 sn nn hL (lo_k1_3 hL _ t_B) t_pr hI24 e23 (by omega) (by omega) (by omega) (by omega) eP (by omega) (by omega) (SG_un hSG hL t_pr hsn hu (by decide)) (by omega) (hnj2.resolve_left (by omega))) ⟨(callB_of 0 (tb_one (wd_721 hB _)) tb_good1 rfl rfl rfl (wd_79 hB _) (wd_718 hB _) (by decide +kernel) ⟨Nat.le_of_ble_eq_true rfl, Nat.le_of_ble_eq_true rfl⟩), (wd_719 hB _), (wd_720 hB _)⟩ ⟨pe_bl, pg_recv (ci := 8) hK hP (lo_in hL (lo_k1_3 hL _ t_B) (by decide)) e23 rfl, pe_pre hB hK hP hD⟩ rfl rfl hl.1 rfl (lv_room (Nat.le_of_ble_eq_true rfl)) d_B_run_80 ⟨Nat.le_of_ble_eq_true rfl, Nat.le_of_ble_eq_true rfl⟩) hS (fun f41 H locs hq42 hP hD hS => ?_)
                    obtain ⟨x1_43, hI1_44, hu1_45⟩ := hq42
                    have hu := hu.tr hu1_45 (by decide)
                    have hv25 := hv25.tr hu1_45 (by decide)
                    have eB := hu1_45.at t_B (by decide) eB
                    have eT := hu1_45.at (lo_k1_0 hL _ t_B) (by decide) eT
                    have eR := hu1_45.at (lo_k1_2 hL _ t_B) (by decide) eR
                    have eP := hu1_45.at t_pr (by decide) eP
                    obtain ⟨ix1_46, os1_47, st1_48, mo1_49, lo1_50, tr1_51, c52, c53, c54, c55, c56, e57⟩ := x1_43
                    refine lv_iinc (k := 0) (v := nI (i + 1)) (lv' := [(2, .int (nI (i + 1))), (0, .ref B), (1, .int (nI j9))]) hx hb d_B_run_83 hl rfl (by rw [nI_succ]; rfl) (by decide) rfl (fun ls hl => ?_)
                    refine lv_goto (tgt := 61) hx hb d_B_run_86 (by decide) ?_
                    exact ih21 (i + 1) ix1_46 os1_47 st1_48 mo1_49 lo1_50 tr1_51 f41 H locs ls (by omega) (by omega) (by omega) (by omega) (by omega) (by omega) c56 e57 hI1_44 hv25 hl hP hD hS
            exact lp18 (j9 + 1) 0 ix os st mo lo tr f H locs ls (by omega) (by omega) (by omega) (by omega) (by omega) (by omega) hnj eX hI un.rf hl hP hD hS
          · skip
            exact pt_throw (own := "BigRunner") (cls := "java/lang/IllegalArgumentException") (text := "not 1 .. 200 steps") (names := ["java/lang/RuntimeException", "java/lang/Exception"]) hx hb (hl.1.trans hml.symm) hlocks hno hLt hown (by decide +kernel) (by decide +kernel) hB hTZ (fun U hB hH => ⟨(wd_521 hB _), (wd_522 hB _), (wd_87 hB _), (wd_712 hB _), oa_2 hB hH _⟩) hK hP hD hS d_B_run_49 d_B_run_52 d_B_run_53 d_B_run_55 d_B_run_58 (Nat.le_of_ble_eq_true rfl) (Nat.le_of_ble_eq_true rfl) (Nat.le_of_ble_eq_true rfl) (Nat.le_of_ble_eq_true rfl) ⟨(Or.inr (Or.inl rfl)), ⟨ld, (tx), ln0, ax0, PR, pr, ix, os, st, mo, lo, tr, sn, nn, t_PR, t_pr, eB, by omega, hld, eT, cT, eR, by omega, by omega, eX, by omega, by omega, by omega, by omega, hPR, eP, by omega, by omega, SG_un hSG hL t_pr hsn hu (by decide), hnj, hi1.un hL t_PR hu (by decide), hi2.un hL t_pr hu (by decide), hce.un hL t_pr hu (by decide)⟩, hI, hu⟩
      · skip
        replace b15 := mt (nI_eq (a := tr) (b := 0) (by omega) (by omega)).mpr b15
        exact pt_throw (own := "BigRunner") (cls := "java/lang/IllegalStateException") (text := "no program is under way") (names := ["java/lang/RuntimeException", "java/lang/Exception"]) hx hb (hl.1.trans hml.symm) hlocks hno hLt hown (by decide +kernel) (by decide +kernel) hB hTZ (fun U hB hH => ⟨(wd_696 hB _), (wd_697 hB _), (wd_89 hB _), (wd_705 hB _), oa_3 hB hH _⟩) hK hP hD hS d_B_run_27 d_B_run_30 d_B_run_31 d_B_run_33 d_B_run_36 (Nat.le_of_ble_eq_true rfl) (Nat.le_of_ble_eq_true rfl) (Nat.le_of_ble_eq_true rfl) (Nat.le_of_ble_eq_true rfl) ⟨(Or.inl rfl), ⟨ld, (tx), ln0, ax0, PR, pr, ix, os, st, mo, lo, tr, sn, nn, t_PR, t_pr, eB, by omega, hld, eT, cT, eR, by omega, by omega, eX, by omega, by omega, by omega, by omega, hPR, eP, by omega, by omega, SG_un hSG hL t_pr hsn hu (by decide), hnj, hi1.un hL t_PR hu (by decide), hi2.un hL t_pr hu (by decide), hce.un hL t_pr hu (by decide)⟩, hI, hu⟩
