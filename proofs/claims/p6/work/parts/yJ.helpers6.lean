set_option maxHeartbeats 4000000 in
set_option maxRecDepth 100000 in
theorem h6_load (l : Launch) (g : Lay) (sz : Nat) (f : Nat → va_E) (B : Nat) (n : Nat) (hT : Nat → Int32) (sg : GS) (ob : Nat) (hL : LO g) (t_B : g.tg B = 1) (hI : IV g f) (hJ : CV2 g B f n hT sg) (m_ob : ob ∈ g.LP) (t_ob : g.tg ob = 0) (y_ob : g.tys[g.tn ob]? = some (g.ac ob, .long)) (hO : OB g f ob) (hLt : l.stackTraces = false) : Met l ⟨"BigRunnerLaw", "load", "(LBigRunner;[J)I"⟩ [Cond.codeWith ⟨"BigRunnerLaw", "load", "(LBigRunner;[J)I"⟩ method_3_code 3 (some .int) [(0, 8, 11, 13)]] ({ frames := 1213, cells := 1, slots := 6, locals := 37066 }) (va_Pc [.ref B, .ref ob] (pt_in g sz f)) (va_Qi (fun r f1 => ((px_s (tk hT n) 400 1 1 0 = some n → r = nI 0 ∧ CV2 g B f1 0 hT (some (ox_s (tk hT n) (vc hT n) 400 1 1 0 0), PS.mk (fun _ => 0) sg.2.ins [] 0 0 0)) ∧ (px_s (tk hT n) 400 1 1 0 ≠ some n → r = nI 1 ∧ CV2 g B f1 n hT sg)) ∧ (IV g f1) ∧ (un [0, 1, 2, 3, 4, 5, 6, 7, 8, 9, 10, 20, 21, 22, 23, 24, 25, 26, 27, 28, 29] g f f1) ∧ (OB g f1 ob)) (pc_out g sz) (pc_A g sz)) 1 6 (pc_A g sz) := by
  refine hp_ofW (cc := method_3_code) (maxL := 3) (ret := (some .int)) (lv := [(0, .ref B), (1, .ref ob)]) (by decide) (Nat.le_of_ble_eq_true rfl) rfl ?_
  intro p e s m args below meth c ls hx hb hr hml hlocks hown hB hP hK hD hsz hS hl htab hTZ
  subst hsz
  have hu : un [1] g f f := un.rf
  refine lv_aload_n hx hb d_L_load_0 rfl (lv_at hl 1 rfl) ?_
  refine lv_iconst (v := nI 0) hx hb d_L_load_1 (by decide) ?_
  refine lv_aload_n hx hb d_L_load_2 rfl (lv_at hl 0 rfl) ?_
  have hJ0 := hJ
  obtain ⟨ld, tx, ln0, ax0, PR, pr, ix, os, st, mo, lo, tr, sn, nn, t_PR, t_pr, eB, hn, hld, eT, cT, eR, hl0, ha0, eX, hix, hos, hst, htr, hPR, eP, hsn, hnn, hSG, hnj, hi1, hi2, hcv⟩ := hJ
  have htab : c.exceptionTable.toList = ([⟨0, 8, 11, 13⟩] : List ExceptionTableEntry) := htab.trans rfl
  have hall : ∀ x ∈ c.exceptionTable.toList, covers x 3 = true ∧ x.catchType ≠ 0 ∧ (Cond.classLink "BigRunnerLaw" x.catchType ((fun x : ExceptionTableEntry => "java/lang/IllegalArgumentException") x)).before args s = true := by
    intro x9 h9
    rw [htab] at h9
    simp only [List.mem_cons, List.not_mem_nil, or_false] at h9
    rcases h9 with rfl
    · exact ⟨by decide, by decide, (wd_449 hB _)⟩
  have hrow : ∀ C9, (C9 = "java/lang/IllegalArgumentException") → (∃ r ∈ c.exceptionTable.toList, (fun x : ExceptionTableEntry => "java/lang/IllegalArgumentException") r = C9) ∧ ∀ r ∈ c.exceptionTable.toList, (fun x : ExceptionTableEntry => "java/lang/IllegalArgumentException") r ≠ C9 → (C9, (fun x : ExceptionTableEntry => "java/lang/IllegalArgumentException") r) ∈ ncl := by
    intro C9 h9
    rw [htab]
    subst h9
    · exact ⟨⟨⟨0, 8, 11, 13⟩, by simp, rfl⟩, by decide⟩
  refine hp_call2 (C := "BigRunner") (N := (fun x : ExceptionTableEntry => "java/lang/IllegalArgumentException")) (b := B) (As := []) (rest := [.int (nI 0), .ref ob]) (n := 0) hx hb hml hown (v_load l g s.heap.size f B n hT ld tx ln0 ax0 PR pr ix os st mo lo tr sn nn sg.1 sg.2 hL t_B t_PR t_pr hI eB hn hld eT cT eR hl0 ha0 eX hix hos hst htr hPR eP hsn hnn hSG hnj hi1 hi2 hcv hLt) (wd_453 hB _) (wd_72 hB _) (wd_450 hB _) (wd_451 hB _) (wd_452 hB _) (by decide +kernel) ⟨Nat.le_of_ble_eq_true rfl, Nat.le_of_ble_eq_true rfl⟩ rfl rfl ⟨pt_bl, pg_recv (ci := 0) hK hP (lo_in hL t_B (by decide)) eB rfl, pt_pre hTZ hS hB hK hP hD⟩ rfl hl.1 (Nat.le_of_ble_eq_true rfl) d_L_load_3 ⟨Nat.le_of_ble_eq_true rfl, Nat.le_of_ble_eq_true rfl⟩ hall (fun C9 f1 h9 => hrow C9 h9.1) hTZ.2.1.2 hS (fun v9 f9 H locs hq hP hD hS => ?_) (fun x9 C9 f9 H locs r9 hr9 hrq hq hP hD hS => ?_)
  · skip
    obtain ⟨r9, rfl, h_ps, h_cj, hI9, hu9⟩ := hq
    have hcj := h_cj
    have hO9 := hO.un t_ob hu9 (by decide)
    obtain ⟨h9, e9⟩ := hO9
    refine W.eq (g2 := F0 m 6 ls [.int r9, .int (nI 0), .ref ob]) rfl ?_
    refine lv_i2l hx hb d_L_load_6 rfl ?_
    refine pf_last hx hb hK hP hD hS m_ob e9 y_ob (by decide) (by decide) d_L_load_7 (fun f8 H locs e8 k8 hP hD hS => ?_)
    refine lv_goto (tgt := 14) hx hb d_L_load_8 (by decide) ?_
    refine lv_iconst (v := nI 0) hx hb d_L_load_14 (by decide) ?_
    exact hp_iret hx hb hr hlocks hK hP hD hS d_L_load_15 ⟨⟨fun _ => ⟨rfl, CV.un hL t_B hcj (un_w0 t_ob k8) (by decide)⟩, fun z => absurd h_ps z⟩, IV_w0 hL hI9 t_ob k8, (hu9.wd (by decide)).tr (un_w0 t_ob k8) (by decide), ⟨_, e8⟩⟩
  · skip
    obtain ⟨h_cl, h_ps, h_cj, hI9, hu9⟩ := hq
    have hcj := h_cj
    have hO9 := hO.un t_ob hu9 (by decide)
    rw [htab] at hr9
    simp only [List.mem_cons, List.not_mem_nil, or_false] at hr9
    subst hr9
    · skip
      refine W.eq (g2 := F0 m 11 ls [.ref x9]) rfl ?_
      have hC9 : C9 = "java/lang/IllegalArgumentException" := hrq.symm
      subst hC9
      refine lv_astore_n (lv' := [(2, .ref x9), (0, .ref B), (1, .ref ob)]) hx hb d_L_load_11 rfl hl (by decide) rfl (fun ls hl => ?_)
      refine lv_iconst (v := nI 1) hx hb d_L_load_12 (by decide) ?_
      exact hp_iret hx hb hr hlocks hK hP hD hS d_L_load_13 ⟨⟨fun z => absurd z h_ps, fun _ => ⟨rfl, hcj⟩⟩, hI9, hu9.wd (by decide), hO9⟩
theorem prn_le (L : List (Nat × Nat)) : ∀ (n : Nat) (s : PS), (prun L n s).1 ≤ n := by
  intro n
  induction n with
  | zero => intro s; exact Nat.le_refl _
  | succ n ih =>
    intro s
    show (if s.tr ≠ 0 ∨ s.pc = L.length then (0, s) else if s.sp = 3000 then (0, PS.mk s.vr s.ins s.outs s.pc s.sp 3) else if (at_ L s.pc).1 = 9 ∧ s.ins = [] then (0, s) else ((prun L n (pstep L s)).1 + 1, (prun L n (pstep L s)).2)).1 ≤ n + 1
    split
    · exact Nat.zero_le _
    · split
      · exact Nat.zero_le _
      · split
        · exact Nat.zero_le _
        · exact Nat.succ_le_succ (ih _)
theorem prA_4 (L : List (Nat × Nat)) (k : Int) (s : PS) : (prunA L k s).1 ≤ 4 := by
  unfold prunA
  split
  · show 1 ≤ 4; decide
  · split
    · show 2 ≤ 4; decide
    · split
      · exact Nat.zero_le _
      · show (if (prun L k.toNat s).2.tr = 1 then 3 else 4) ≤ 4
        split <;> decide
theorem prA_200 (L : List (Nat × Nat)) (k : Int) (s : PS) : (prunA L k s).2.1 ≤ 200 := by
  unfold prunA
  split
  · exact Nat.zero_le _
  · split
    · exact Nat.zero_le _
    · split
      · show (prun L k.toNat s).1 ≤ 200
        have := prn_le L k.toNat s
        omega
      · exact Nat.zero_le _
theorem excn_1 {t : Nat} (h4 : t ≤ 4) (h0 : t ≠ 0) (e : "java/lang/IllegalStateException" = excn t) : t = 1 := by
  rcases (show t = 1 ∨ t = 2 ∨ t = 3 ∨ t = 4 by omega) with rfl | rfl | rfl | rfl
  · rfl
  all_goals exact absurd e (by decide)
theorem excn_2 {t : Nat} (h4 : t ≤ 4) (h0 : t ≠ 0) (e : "java/lang/IllegalArgumentException" = excn t) : t = 2 := by
  rcases (show t = 2 ∨ t = 1 ∨ t = 3 ∨ t = 4 by omega) with rfl | rfl | rfl | rfl
  · rfl
  all_goals exact absurd e (by decide)
theorem excn_3 {t : Nat} (h4 : t ≤ 4) (h0 : t ≠ 0) (e : "java/lang/ArithmeticException" = excn t) : t = 3 := by
  rcases (show t = 3 ∨ t = 1 ∨ t = 2 ∨ t = 4 by omega) with rfl | rfl | rfl | rfl
  · rfl
  all_goals exact absurd e (by decide)
theorem excn_4 {t : Nat} (h4 : t ≤ 4) (h0 : t ≠ 0) (e : "java/lang/UnsupportedOperationException" = excn t) : t = 4 := by
  rcases (show t = 4 ∨ t = 1 ∨ t = 2 ∨ t = 3 by omega) with rfl | rfl | rfl | rfl
  · rfl
  all_goals exact absurd e (by decide)
theorem excn_c {t : Nat} {C : String} (h4 : t ≤ 4) (h0 : t ≠ 0) (e : C = excn t) : C = "java/lang/IllegalStateException" ∨ C = "java/lang/IllegalArgumentException" ∨ C = "java/lang/ArithmeticException" ∨ C = "java/lang/UnsupportedOperationException" := by
  rcases (show t = 1 ∨ t = 2 ∨ t = 3 ∨ t = 4 by omega) with rfl | rfl | rfl | rfl
  · exact Or.inl e
  · exact Or.inr (Or.inl e)
  · exact Or.inr (Or.inr (Or.inl e))
  · exact Or.inr (Or.inr (Or.inr e))
set_option maxHeartbeats 4000000 in
set_option maxRecDepth 100000 in
theorem h6_run (l : Launch) (g : Lay) (sz : Nat) (f : Nat → va_E) (B : Nat) (n : Nat) (hT : Nat → Int32) (sg : GS) (ob : Nat) (k9 : Int32) (hL : LO g) (t_B : g.tg B = 1) (hI : IV g f) (hJ : CV2 g B f n hT sg) (m_ob : ob ∈ g.LP) (t_ob : g.tg ob = 0) (y_ob : g.tys[g.tn ob]? = some (g.ac ob, .long)) (hO : OB g f ob) (hLt : l.stackTraces = false) : Met l ⟨"BigRunnerLaw", "run", "(LBigRunner;I[J)I"⟩ [Cond.codeWith ⟨"BigRunnerLaw", "run", "(LBigRunner;I[J)I"⟩ method_4_code 4 (some .int) [(0, 9, 12, 19), (0, 9, 15, 13), (0, 9, 18, 21), (0, 9, 21, 23)]] ({ frames := 8, cells := 1, slots := 6, locals := 204 }) (va_Pc [.ref B, .int k9, .ref ob] (pt_in g sz f)) (va_Qi (fun r f1 => (r = nI (prG sg k9).1 ∧ ((prG sg k9).1 = 0 → OBv g f1 ob (nL (prG sg k9).2.1)) ∧ (prG sg k9).1 ≤ 4 ∧ (prG sg k9).2.1 ≤ 200 ∧ CV2 g B f1 n hT (prG sg k9).2.2) ∧ (IV g f1) ∧ (un [0, 1, 2, 3, 4, 5, 6, 7, 8, 9, 10, 20, 21, 22, 23, 24, 25, 26, 27, 28, 29] g f f1) ∧ (OB g f1 ob)) (pc_out g sz) (pc_A g sz)) 1 6 (pc_A g sz) := by
  refine hp_ofW (cc := method_4_code) (maxL := 4) (ret := (some .int)) (lv := [(0, .ref B), (1, .int k9), (2, .ref ob)]) (by decide) (Nat.le_of_ble_eq_true rfl) rfl ?_
  intro p e s m args below meth c ls hx hb hr hml hlocks hown hB hP hK hD hsz hS hl htab hTZ
  subst hsz
  have hu : un [1] g f f := un.rf
  refine lv_aload_n hx hb d_L_run_0 rfl (lv_at hl 2 rfl) ?_
  refine lv_iconst (v := nI 0) hx hb d_L_run_1 (by decide) ?_
  refine lv_aload_n hx hb d_L_run_2 rfl (lv_at hl 0 rfl) ?_
  refine lv_iload_n hx hb d_L_run_3 rfl (lv_at hl 1 rfl) ?_
  have hJ0 := hJ
  obtain ⟨ld, tx, ln0, ax0, PR, pr, ix, os, st, mo, lo, tr, sn, nn, t_PR, t_pr, eB, hn, hld, eT, cT, eR, hl0, ha0, eX, hix, hos, hst, htr, hPR, eP, hsn, hnn, hSG, hnj, hi1, hi2, hcv⟩ := hJ
  have htab : c.exceptionTable.toList = ([⟨0, 9, 12, 19⟩, ⟨0, 9, 15, 13⟩, ⟨0, 9, 18, 21⟩, ⟨0, 9, 21, 23⟩] : List ExceptionTableEntry) := htab.trans rfl
  have hall : ∀ x ∈ c.exceptionTable.toList, covers x 4 = true ∧ x.catchType ≠ 0 ∧ (Cond.classLink "BigRunnerLaw" x.catchType ((fun x : ExceptionTableEntry => if x.handlerPc = 12 then "java/lang/IllegalStateException" else if x.handlerPc = 15 then "java/lang/IllegalArgumentException" else if x.handlerPc = 18 then "java/lang/ArithmeticException" else "java/lang/UnsupportedOperationException") x)).before args s = true := by
    intro x9 h9
    rw [htab] at h9
    simp only [List.mem_cons, List.not_mem_nil, or_false] at h9
    rcases h9 with rfl | rfl | rfl | rfl
    · exact ⟨by decide, by decide, (wd_689 hB _)⟩
    · exact ⟨by decide, by decide, (wd_449 hB _)⟩
    · exact ⟨by decide, by decide, (wd_690 hB _)⟩
    · exact ⟨by decide, by decide, (wd_691 hB _)⟩
  have hrow : ∀ C9, (C9 = "java/lang/IllegalStateException" ∨ C9 = "java/lang/IllegalArgumentException" ∨ C9 = "java/lang/ArithmeticException" ∨ C9 = "java/lang/UnsupportedOperationException") → (∃ r ∈ c.exceptionTable.toList, (fun x : ExceptionTableEntry => if x.handlerPc = 12 then "java/lang/IllegalStateException" else if x.handlerPc = 15 then "java/lang/IllegalArgumentException" else if x.handlerPc = 18 then "java/lang/ArithmeticException" else "java/lang/UnsupportedOperationException") r = C9) ∧ ∀ r ∈ c.exceptionTable.toList, (fun x : ExceptionTableEntry => if x.handlerPc = 12 then "java/lang/IllegalStateException" else if x.handlerPc = 15 then "java/lang/IllegalArgumentException" else if x.handlerPc = 18 then "java/lang/ArithmeticException" else "java/lang/UnsupportedOperationException") r ≠ C9 → (C9, (fun x : ExceptionTableEntry => if x.handlerPc = 12 then "java/lang/IllegalStateException" else if x.handlerPc = 15 then "java/lang/IllegalArgumentException" else if x.handlerPc = 18 then "java/lang/ArithmeticException" else "java/lang/UnsupportedOperationException") r) ∈ ncl := by
    intro C9 h9
    rw [htab]
    rcases h9 with rfl | rfl | rfl | rfl
    · exact ⟨⟨⟨0, 9, 12, 19⟩, by simp, rfl⟩, by decide⟩
    · exact ⟨⟨⟨0, 9, 15, 13⟩, by simp, rfl⟩, by decide⟩
    · exact ⟨⟨⟨0, 9, 18, 21⟩, by simp, rfl⟩, by decide⟩
    · exact ⟨⟨⟨0, 9, 21, 23⟩, by simp, rfl⟩, by decide⟩
  obtain ⟨o, s9⟩ := sg
  cases o with
  | none =>
    have hld0 := hcv.1
    refine hp_call2 (C := "BigRunner") (N := (fun x : ExceptionTableEntry => if x.handlerPc = 12 then "java/lang/IllegalStateException" else if x.handlerPc = 15 then "java/lang/IllegalArgumentException" else if x.handlerPc = 18 then "java/lang/ArithmeticException" else "java/lang/UnsupportedOperationException")) (b := B) (As := [.int k9]) (rest := [.int (nI 0), .ref ob]) (n := 1) hx hb hml hown (v_runN l g s.heap.size f B n hT ld tx ln0 ax0 PR pr ix os st mo lo tr sn nn s9 k9 hL t_B t_PR t_pr hI eB hn hld eT cT eR hl0 ha0 eX hix hos hst htr hPR eP hsn hnn hSG hnj hi1 hi2 hld0 hcv hLt) (wd_695 hB _) (wd_72 hB _) (wd_692 hB _) (wd_693 hB _) (wd_694 hB _) (by decide +kernel) ⟨Nat.le_of_ble_eq_true rfl, Nat.le_of_ble_eq_true rfl⟩ rfl rfl ⟨pt_bl, pg_recv (ci := 0) hK hP (lo_in hL t_B (by decide)) eB rfl, pt_pre hTZ hS hB hK hP hD⟩ rfl hl.1 (Nat.le_of_ble_eq_true rfl) d_L_run_4 ⟨Nat.le_of_ble_eq_true rfl, Nat.le_of_ble_eq_true rfl⟩ hall (fun C9 f1 h9 => hrow C9 (Or.inl h9.1)) hTZ.2.1.2 hS (fun v9 f9 H locs hq hP hD hS => ?_) (fun x9 C9 f9 H locs r9 hr9 hrq hq hP hD hS => ?_)
    · skip
      obtain ⟨r9, rfl, h_no, rfl⟩ := hq
      exact absurd h_no id
    · skip
      obtain ⟨h_cl, rfl⟩ := hq
      have hI9 := hI
      have hu9 : un [] g f f := un.rf
      have hcj := hJ0
      have hO9 := hO.un t_ob hu9 (by decide)
      rw [htab] at hr9
      simp only [List.mem_cons, List.not_mem_nil, or_false] at hr9
      rcases hr9 with rfl | rfl | rfl | rfl
      · skip
        refine W.eq (g2 := F0 m 12 ls [.ref x9]) rfl ?_
        have hC9 : C9 = "java/lang/IllegalStateException" := hrq.symm
        subst hC9
        refine lv_astore_n (lv' := [(3, .ref x9), (0, .ref B), (1, .int k9), (2, .ref ob)]) hx hb d_L_run_12 rfl hl (by decide) rfl (fun ls hl => ?_)
        refine lv_iconst (v := nI 1) hx hb d_L_run_13 (by decide) ?_
        exact hp_iret hx hb hr hlocks hK hP hD hS d_L_run_14 ⟨⟨rfl, (fun z => absurd z (by show ¬ (1 : Nat) = 0; decide)), (by show 1 ≤ 4; decide), (by show 0 ≤ 200; decide), hcj⟩, hI9, hu9.wd (by decide), hO9⟩
      · skip
        refine W.eq (g2 := F0 m 15 ls [.ref x9]) rfl ?_
        have hC9 : C9 = "java/lang/IllegalArgumentException" := hrq.symm
        subst hC9
        exact absurd h_cl (by decide)
      · skip
        refine W.eq (g2 := F0 m 18 ls [.ref x9]) rfl ?_
        have hC9 : C9 = "java/lang/ArithmeticException" := hrq.symm
        subst hC9
        exact absurd h_cl (by decide)
      · skip
        refine W.eq (g2 := F0 m 21 ls [.ref x9]) rfl ?_
        have hC9 : C9 = "java/lang/UnsupportedOperationException" := hrq.symm
        subst hC9
        exact absurd h_cl (by decide)
  | some L =>
    obtain ⟨hld1, T, nb, en, hPT, hRS⟩ := hcv
    refine hp_call2 (C := "BigRunner") (N := (fun x : ExceptionTableEntry => if x.handlerPc = 12 then "java/lang/IllegalStateException" else if x.handlerPc = 15 then "java/lang/IllegalArgumentException" else if x.handlerPc = 18 then "java/lang/ArithmeticException" else "java/lang/UnsupportedOperationException")) (b := B) (As := [.int k9]) (rest := [.int (nI 0), .ref ob]) (n := 1) hx hb hml hown (v_run l g s.heap.size f B n hT ld tx ln0 ax0 PR pr ix os st mo lo tr sn nn T nb en L s9 k9 hL t_B t_PR t_pr hI eB hn hld eT cT eR hl0 ha0 eX hix hos hst htr hPR eP hsn hnn hSG hnj hi1 hi2 hld1 hPT hRS hLt) (wd_695 hB _) (wd_72 hB _) (wd_692 hB _) (wd_693 hB _) (wd_694 hB _) (by decide +kernel) ⟨Nat.le_of_ble_eq_true rfl, Nat.le_of_ble_eq_true rfl⟩ rfl rfl ⟨pt_bl, pg_recv (ci := 0) hK hP (lo_in hL t_B (by decide)) eB rfl, pt_pre hTZ hS hB hK hP hD⟩ rfl hl.1 (Nat.le_of_ble_eq_true rfl) d_L_run_4 ⟨Nat.le_of_ble_eq_true rfl, Nat.le_of_ble_eq_true rfl⟩ hall (fun C9 f1 h9 => hrow C9 (excn_c (prA_4 L k9.toInt s9) h9.1.1 h9.1.2)) hTZ.2.1.2 hS (fun v9 f9 H locs hq hP hD hS => ?_) (fun x9 C9 f9 H locs r9 hr9 hrq hq hP hD hS => ?_)
    · skip
      obtain ⟨r9, rfl, h_rn, h_cj, hI9, hu9⟩ := hq
      have hcj := h_cj
      have hO9 := hO.un t_ob hu9 (by decide)
      obtain ⟨h9, e9⟩ := hO9
      refine W.eq (g2 := F0 m 7 ls [.int r9, .int (nI 0), .ref ob]) rfl ?_
      refine lv_i2l hx hb d_L_run_7 rfl ?_
      refine pf_last hx hb hK hP hD hS m_ob e9 y_ob (by decide) (by decide) d_L_run_8 (fun f8 H locs e8 k8 hP hD hS => ?_)
      refine lv_goto (tgt := 24) hx hb d_L_run_9 (by decide) ?_
      refine lv_iconst (v := nI 0) hx hb d_L_run_24 (by decide) ?_
      exact hp_iret hx hb hr hlocks hK hP hD hS d_L_run_25 ⟨⟨(by show nI 0 = nI (prunA L k9.toInt s9).1; rw [h_rn.1]), (fun _ => ⟨_, e8, (updL_at _ _ _).trans (by rw [h_rn.2.2]; exact nI_nL (by have := h_rn.2.1; omega))⟩), prA_4 L k9.toInt s9, prA_200 L k9.toInt s9, CV.un hL t_B hcj (un_w0 t_ob k8) (by decide)⟩, IV_w0 hL hI9 t_ob k8, (hu9.wd (by decide)).tr (un_w0 t_ob k8) (by decide), ⟨_, e8⟩⟩
    · skip
      obtain ⟨h_cx, h_cj, hI9, hu9⟩ := hq
      have hcj := h_cj
      have hO9 := hO.un t_ob hu9 (by decide)
      rw [htab] at hr9
      simp only [List.mem_cons, List.not_mem_nil, or_false] at hr9
      rcases hr9 with rfl | rfl | rfl | rfl
      · skip
        refine W.eq (g2 := F0 m 12 ls [.ref x9]) rfl ?_
        have hC9 : C9 = "java/lang/IllegalStateException" := hrq.symm
        subst hC9
        have hcode : (prunA L k9.toInt s9).1 = 1 := excn_1 (prA_4 L k9.toInt s9) h_cx.1 h_cx.2
        refine lv_astore_n (lv' := [(3, .ref x9), (0, .ref B), (1, .int k9), (2, .ref ob)]) hx hb d_L_run_12 rfl hl (by decide) rfl (fun ls hl => ?_)
        refine lv_iconst (v := nI 1) hx hb d_L_run_13 (by decide) ?_
        exact hp_iret hx hb hr hlocks hK hP hD hS d_L_run_14 ⟨⟨(by show _ = nI (prunA L k9.toInt s9).1; rw [hcode]), (fun z => absurd (hcode.symm.trans z) (by decide)), prA_4 L k9.toInt s9, prA_200 L k9.toInt s9, hcj⟩, hI9, hu9.wd (by decide), hO9⟩
      · skip
        refine W.eq (g2 := F0 m 15 ls [.ref x9]) rfl ?_
        have hC9 : C9 = "java/lang/IllegalArgumentException" := hrq.symm
        subst hC9
        have hcode : (prunA L k9.toInt s9).1 = 2 := excn_2 (prA_4 L k9.toInt s9) h_cx.1 h_cx.2
        refine lv_astore_n (lv' := [(3, .ref x9), (0, .ref B), (1, .int k9), (2, .ref ob)]) hx hb d_L_run_15 rfl hl (by decide) rfl (fun ls hl => ?_)
        refine lv_iconst (v := nI 2) hx hb d_L_run_16 (by decide) ?_
        exact hp_iret hx hb hr hlocks hK hP hD hS d_L_run_17 ⟨⟨(by show _ = nI (prunA L k9.toInt s9).1; rw [hcode]), (fun z => absurd (hcode.symm.trans z) (by decide)), prA_4 L k9.toInt s9, prA_200 L k9.toInt s9, hcj⟩, hI9, hu9.wd (by decide), hO9⟩
      · skip
        refine W.eq (g2 := F0 m 18 ls [.ref x9]) rfl ?_
        have hC9 : C9 = "java/lang/ArithmeticException" := hrq.symm
        subst hC9
        have hcode : (prunA L k9.toInt s9).1 = 3 := excn_3 (prA_4 L k9.toInt s9) h_cx.1 h_cx.2
        refine lv_astore_n (lv' := [(3, .ref x9), (0, .ref B), (1, .int k9), (2, .ref ob)]) hx hb d_L_run_18 rfl hl (by decide) rfl (fun ls hl => ?_)
        refine lv_iconst (v := nI 3) hx hb d_L_run_19 (by decide) ?_
        exact hp_iret hx hb hr hlocks hK hP hD hS d_L_run_20 ⟨⟨(by show _ = nI (prunA L k9.toInt s9).1; rw [hcode]), (fun z => absurd (hcode.symm.trans z) (by decide)), prA_4 L k9.toInt s9, prA_200 L k9.toInt s9, hcj⟩, hI9, hu9.wd (by decide), hO9⟩
      · skip
        refine W.eq (g2 := F0 m 21 ls [.ref x9]) rfl ?_
        have hC9 : C9 = "java/lang/UnsupportedOperationException" := hrq.symm
        subst hC9
        have hcode : (prunA L k9.toInt s9).1 = 4 := excn_4 (prA_4 L k9.toInt s9) h_cx.1 h_cx.2
        refine lv_astore_n (lv' := [(3, .ref x9), (0, .ref B), (1, .int k9), (2, .ref ob)]) hx hb d_L_run_21 rfl hl (by decide) rfl (fun ls hl => ?_)
        refine lv_iconst (v := nI 4) hx hb d_L_run_22 (by decide) ?_
        exact hp_iret hx hb hr hlocks hK hP hD hS d_L_run_23 ⟨⟨(by show _ = nI (prunA L k9.toInt s9).1; rw [hcode]), (fun z => absurd (hcode.symm.trans z) (by decide)), prA_4 L k9.toInt s9, prA_200 L k9.toInt s9, hcj⟩, hI9, hu9.wd (by decide), hO9⟩
set_option maxHeartbeats 4000000 in
set_option maxRecDepth 100000 in
theorem h6_bound (l : Launch) (g : Lay) (sz : Nat) (f : Nat → va_E) (B : Nat) (n : Nat) (hT : Nat → Int32) (sg : GS) (ob : Nat) (v : Int32) (gr : Int32) (hL : LO g) (t_B : g.tg B = 1) (hI : IV g f) (hJ : CV2 g B f n hT sg) (m_ob : ob ∈ g.LP) (t_ob : g.tg ob = 0) (y_ob : g.tys[g.tn ob]? = some (g.ac ob, .long)) (hO : OB g f ob) (hLt : l.stackTraces = false) : Met l ⟨"BigRunnerLaw", "bound", "(LBigRunner;IZ[J)I"⟩ [Cond.codeWith ⟨"BigRunnerLaw", "bound", "(LBigRunner;IZ[J)I"⟩ method_5_code 5 (some .int) [(0, 9, 12, 29), (0, 9, 16, 23)]] ({ frames := 7, cells := 1, slots := 6, locals := 145 }) (va_Pc [.ref B, .int v, .int gr, .ref ob] (pt_in g sz f)) (va_Qi (fun r f1 => (CV2 g B f1 n hT sg) ∧ (IV g f1) ∧ (un [0, 1, 2, 3, 4, 5, 6, 7, 8, 9, 10, 20, 21, 22, 23, 24, 25, 26, 27, 28, 29] g f f1) ∧ (OB g f1 ob)) (pc_out g sz) (pc_A g sz)) 1 6 (pc_A g sz) := by
  refine hp_ofW (cc := method_5_code) (maxL := 5) (ret := (some .int)) (lv := [(0, .ref B), (1, .int v), (2, .int gr), (3, .ref ob)]) (by decide) (Nat.le_of_ble_eq_true rfl) rfl ?_
  intro p e s m args below meth c ls hx hb hr hml hlocks hown hB hP hK hD hsz hS hl htab hTZ
  subst hsz
  have hu : un [1] g f f := un.rf
  refine lv_aload_n hx hb d_L_bound_0 rfl (lv_at hl 3 rfl) ?_
  refine lv_iconst (v := nI 0) hx hb d_L_bound_1 (by decide) ?_
  refine lv_aload_n hx hb d_L_bound_2 rfl (lv_at hl 0 rfl) ?_
  refine lv_iload_n hx hb d_L_bound_3 rfl (lv_at hl 1 rfl) ?_
  refine lv_iload_n hx hb d_L_bound_4 rfl (lv_at hl 2 rfl) ?_
  have hJ0 := hJ
  obtain ⟨ld, tx, ln0, ax0, PR, pr, ix, os, st, mo, lo, tr, sn, nn, t_PR, t_pr, eB, hn, hld, eT, cT, eR, hl0, ha0, eX, hix, hos, hst, htr, hPR, eP, hsn, hnn, hSG, hnj, hi1, hi2, hcv⟩ := hJ
  have htab : c.exceptionTable.toList = ([⟨0, 9, 12, 29⟩, ⟨0, 9, 16, 23⟩] : List ExceptionTableEntry) := htab.trans rfl
  have hall : ∀ x ∈ c.exceptionTable.toList, covers x 5 = true ∧ x.catchType ≠ 0 ∧ (Cond.classLink "BigRunnerLaw" x.catchType ((fun x : ExceptionTableEntry => if x.handlerPc = 12 then "java/lang/IndexOutOfBoundsException" else "java/lang/UnsupportedOperationException") x)).before args s = true := by
    intro x9 h9
    rw [htab] at h9
    simp only [List.mem_cons, List.not_mem_nil, or_false] at h9
    rcases h9 with rfl | rfl
    · exact ⟨by decide, by decide, (wd_883 hB _)⟩
    · exact ⟨by decide, by decide, (wd_691 hB _)⟩
  have hrow : ∀ C9, (C9 = "java/lang/IndexOutOfBoundsException" ∨ C9 = "java/lang/UnsupportedOperationException") → (∃ r ∈ c.exceptionTable.toList, (fun x : ExceptionTableEntry => if x.handlerPc = 12 then "java/lang/IndexOutOfBoundsException" else "java/lang/UnsupportedOperationException") r = C9) ∧ ∀ r ∈ c.exceptionTable.toList, (fun x : ExceptionTableEntry => if x.handlerPc = 12 then "java/lang/IndexOutOfBoundsException" else "java/lang/UnsupportedOperationException") r ≠ C9 → (C9, (fun x : ExceptionTableEntry => if x.handlerPc = 12 then "java/lang/IndexOutOfBoundsException" else "java/lang/UnsupportedOperationException") r) ∈ ncl := by
    intro C9 h9
    rw [htab]
    rcases h9 with rfl | rfl
    · exact ⟨⟨⟨0, 9, 12, 29⟩, by simp, rfl⟩, by decide⟩
    · exact ⟨⟨⟨0, 9, 16, 23⟩, by simp, rfl⟩, by decide⟩
  refine hp_call2 (C := "BigRunner") (N := (fun x : ExceptionTableEntry => if x.handlerPc = 12 then "java/lang/IndexOutOfBoundsException" else "java/lang/UnsupportedOperationException")) (b := B) (As := [.int v, .int gr]) (rest := [.int (nI 0), .ref ob]) (n := 2) hx hb hml hown (c_bound l g s.heap.size f B v gr hL t_B hI.1 hLt) (wd_887 hB _) (wd_72 hB _) (wd_884 hB _) (wd_885 hB _) (wd_886 hB _) (by decide +kernel) ⟨Nat.le_of_ble_eq_true rfl, Nat.le_of_ble_eq_true rfl⟩ rfl rfl ⟨pt_bl, pg_recv (ci := 0) hK hP (lo_in hL t_B (by decide)) eB rfl, pt_pre hTZ hS hB hK hP hD⟩ rfl hl.1 (Nat.le_of_ble_eq_true rfl) d_L_bound_5 ⟨Nat.le_of_ble_eq_true rfl, Nat.le_of_ble_eq_true rfl⟩ hall (fun C9 f1 h9 => hrow C9 h9.1) hTZ.2.1.2 hS (fun v9 f9 H locs hq hP hD hS => ?_) (fun x9 C9 f9 H locs r9 hr9 hrq hq hP hD hS => ?_)
  · skip
    obtain ⟨r9, rfl, rfl⟩ := hq
    have hI9 := hI
    have hu9 : un [] g f f := un.rf
    have hcj := hJ0
    have hO9 := hO.un t_ob hu9 (by decide)
    obtain ⟨h9, e9⟩ := hO9
    refine W.eq (g2 := F0 m 8 ls [.long r9, .int (nI 0), .ref ob]) rfl ?_
    refine pf_last hx hb hK hP hD hS m_ob e9 y_ob (by decide) (by decide) d_L_bound_8 (fun f8 H locs e8 k8 hP hD hS => ?_)
    refine lv_goto (tgt := 20) hx hb d_L_bound_9 (by decide) ?_
    refine lv_iconst (v := nI 0) hx hb d_L_bound_20 (by decide) ?_
    exact hp_iret hx hb hr hlocks hK hP hD hS d_L_bound_21 ⟨CV.un hL t_B hcj (un_w0 t_ob k8) (by decide), IV_w0 hL hI9 t_ob k8, (hu9.wd (by decide)).tr (un_w0 t_ob k8) (by decide), ⟨_, e8⟩⟩
  · skip
    obtain ⟨h_cl, rfl⟩ := hq
    have hI9 := hI
    have hu9 : un [] g f f := un.rf
    have hcj := hJ0
    have hO9 := hO.un t_ob hu9 (by decide)
    rw [htab] at hr9
    simp only [List.mem_cons, List.not_mem_nil, or_false] at hr9
    rcases hr9 with rfl | rfl
    · skip
      refine W.eq (g2 := F0 m 12 ls [.ref x9]) rfl ?_
      have hC9 : C9 = "java/lang/IndexOutOfBoundsException" := hrq.symm
      subst hC9
      refine lv_astore (lv' := [(4, .ref x9), (0, .ref B), (1, .int v), (2, .int gr), (3, .ref ob)]) hx hb d_L_bound_12 hl (by decide) rfl (fun ls hl => ?_)
      refine lv_iconst (v := nI 1) hx hb d_L_bound_14 (by decide) ?_
      exact hp_iret hx hb hr hlocks hK hP hD hS d_L_bound_15 ⟨hcj, hI9, hu9.wd (by decide), hO9⟩
    · skip
      refine W.eq (g2 := F0 m 16 ls [.ref x9]) rfl ?_
      have hC9 : C9 = "java/lang/UnsupportedOperationException" := hrq.symm
      subst hC9
      refine lv_astore (lv' := [(4, .ref x9), (0, .ref B), (1, .int v), (2, .int gr), (3, .ref ob)]) hx hb d_L_bound_16 hl (by decide) rfl (fun ls hl => ?_)
      refine lv_iconst (v := nI 2) hx hb d_L_bound_18 (by decide) ?_
      exact hp_iret hx hb hr hlocks hK hP hD hS d_L_bound_19 ⟨hcj, hI9, hu9.wd (by decide), hO9⟩
set_option maxHeartbeats 4000000 in
set_option maxRecDepth 100000 in
theorem h6_variable (l : Launch) (g : Lay) (sz : Nat) (f : Nat → va_E) (B : Nat) (n : Nat) (hT : Nat → Int32) (sg : GS) (ob : Nat) (v : Int32) (k9 : Int32) (hL : LO g) (t_B : g.tg B = 1) (hI : IV g f) (hJ : CV2 g B f n hT sg) (m_ob : ob ∈ g.LP) (t_ob : g.tg ob = 0) (y_ob : g.tys[g.tn ob]? = some (g.ac ob, .long)) (hO : OB g f ob) (hLt : l.stackTraces = false) : Met l ⟨"BigRunnerLaw", "variable", "(LBigRunner;II[J)I"⟩ [Cond.codeWith ⟨"BigRunnerLaw", "variable", "(LBigRunner;II[J)I"⟩ method_6_code 5 (some .int) [(0, 10, 13, 29)]] ({ frames := 7, cells := 1, slots := 6, locals := 142 }) (va_Pc [.ref B, .int v, .int k9, .ref ob] (pt_in g sz f)) (va_Qi (fun r f1 => (CV2 g B f1 n hT sg) ∧ (IV g f1) ∧ (un [0, 1, 2, 3, 4, 5, 6, 7, 8, 9, 10, 20, 21, 22, 23, 24, 25, 26, 27, 28, 29] g f f1) ∧ (OB g f1 ob)) (pc_out g sz) (pc_A g sz)) 1 6 (pc_A g sz) := by
  refine hp_ofW (cc := method_6_code) (maxL := 5) (ret := (some .int)) (lv := [(0, .ref B), (1, .int v), (2, .int k9), (3, .ref ob)]) (by decide) (Nat.le_of_ble_eq_true rfl) rfl ?_
  intro p e s m args below meth c ls hx hb hr hml hlocks hown hB hP hK hD hsz hS hl htab hTZ
  subst hsz
  have hu : un [1] g f f := un.rf
  refine lv_aload_n hx hb d_L_variable_0 rfl (lv_at hl 3 rfl) ?_
  refine lv_iconst (v := nI 0) hx hb d_L_variable_1 (by decide) ?_
  refine lv_aload_n hx hb d_L_variable_2 rfl (lv_at hl 0 rfl) ?_
  refine lv_iload_n hx hb d_L_variable_3 rfl (lv_at hl 1 rfl) ?_
  refine lv_iload_n hx hb d_L_variable_4 rfl (lv_at hl 2 rfl) ?_
  have hJ0 := hJ
  obtain ⟨ld, tx, ln0, ax0, PR, pr, ix, os, st, mo, lo, tr, sn, nn, t_PR, t_pr, eB, hn, hld, eT, cT, eR, hl0, ha0, eX, hix, hos, hst, htr, hPR, eP, hsn, hnn, hSG, hnj, hi1, hi2, hcv⟩ := hJ
  have htab : c.exceptionTable.toList = ([⟨0, 10, 13, 29⟩] : List ExceptionTableEntry) := htab.trans rfl
  have hall : ∀ x ∈ c.exceptionTable.toList, covers x 5 = true ∧ x.catchType ≠ 0 ∧ (Cond.classLink "BigRunnerLaw" x.catchType ((fun x : ExceptionTableEntry => "java/lang/IndexOutOfBoundsException") x)).before args s = true := by
    intro x9 h9
    rw [htab] at h9
    simp only [List.mem_cons, List.not_mem_nil, or_false] at h9
    rcases h9 with rfl
    · exact ⟨by decide, by decide, (wd_883 hB _)⟩
  have hrow : ∀ C9, (C9 = "java/lang/IndexOutOfBoundsException") → (∃ r ∈ c.exceptionTable.toList, (fun x : ExceptionTableEntry => "java/lang/IndexOutOfBoundsException") r = C9) ∧ ∀ r ∈ c.exceptionTable.toList, (fun x : ExceptionTableEntry => "java/lang/IndexOutOfBoundsException") r ≠ C9 → (C9, (fun x : ExceptionTableEntry => "java/lang/IndexOutOfBoundsException") r) ∈ ncl := by
    intro C9 h9
    rw [htab]
    subst h9
    · exact ⟨⟨⟨0, 10, 13, 29⟩, by simp, rfl⟩, by decide⟩
  obtain ⟨o, s9⟩ := sg
  cases o with
  | none =>
    have hld0 := hcv.1
    refine hp_call2 (C := "BigRunner") (N := (fun x : ExceptionTableEntry => "java/lang/IndexOutOfBoundsException")) (b := B) (As := [.int v, .int k9]) (rest := [.int (nI 0), .ref ob]) (n := 2) hx hb hml hown (v_varN l g s.heap.size f B n hT ld tx ln0 ax0 PR pr ix os st mo lo tr sn nn s9 v k9 hL t_B t_PR t_pr hI eB hn hld eT cT eR hl0 ha0 eX hix hos hst htr hPR eP hsn hnn hSG hnj hi1 hi2 hld0 hcv hLt) (wd_912 hB _) (wd_72 hB _) (wd_909 hB _) (wd_910 hB _) (wd_911 hB _) (by decide +kernel) ⟨Nat.le_of_ble_eq_true rfl, Nat.le_of_ble_eq_true rfl⟩ rfl rfl ⟨pt_bl, pg_recv (ci := 0) hK hP (lo_in hL t_B (by decide)) eB rfl, pt_pre hTZ hS hB hK hP hD⟩ rfl hl.1 (Nat.le_of_ble_eq_true rfl) d_L_variable_5 ⟨Nat.le_of_ble_eq_true rfl, Nat.le_of_ble_eq_true rfl⟩ hall (fun C9 f1 h9 => hrow C9 h9.1) hTZ.2.1.2 hS (fun v9 f9 H locs hq hP hD hS => ?_) (fun x9 C9 f9 H locs r9 hr9 hrq hq hP hD hS => ?_)
    · skip
      obtain ⟨r9, rfl, h_no, rfl⟩ := hq
      exact absurd h_no id
    · skip
      obtain ⟨h_cl, rfl⟩ := hq
      have hI9 := hI
      have hu9 : un [] g f f := un.rf
      have hcj := hJ0
      have hO9 := hO.un t_ob hu9 (by decide)
      rw [htab] at hr9
      simp only [List.mem_cons, List.not_mem_nil, or_false] at hr9
      subst hr9
      · skip
        refine W.eq (g2 := F0 m 13 ls [.ref x9]) rfl ?_
        have hC9 : C9 = "java/lang/IndexOutOfBoundsException" := hrq.symm
        subst hC9
        refine lv_astore (lv' := [(4, .ref x9), (0, .ref B), (1, .int v), (2, .int k9), (3, .ref ob)]) hx hb d_L_variable_13 hl (by decide) rfl (fun ls hl => ?_)
        refine lv_iconst (v := nI 1) hx hb d_L_variable_15 (by decide) ?_
        exact hp_iret hx hb hr hlocks hK hP hD hS d_L_variable_16 ⟨hcj, hI9, hu9.wd (by decide), hO9⟩
  | some L =>
    obtain ⟨hld1, T, nb, en, hPT, hRS⟩ := hcv
    refine hp_call2 (C := "BigRunner") (N := (fun x : ExceptionTableEntry => "java/lang/IndexOutOfBoundsException")) (b := B) (As := [.int v, .int k9]) (rest := [.int (nI 0), .ref ob]) (n := 2) hx hb hml hown (v_variable l g s.heap.size f B n hT ld tx ln0 ax0 PR pr ix os st mo lo tr sn nn T nb en L s9 v k9 hL t_B t_PR t_pr hI eB hn hld eT cT eR hl0 ha0 eX hix hos hst htr hPR eP hsn hnn hSG hnj hi1 hi2 hld1 hPT hRS hLt) (wd_912 hB _) (wd_72 hB _) (wd_909 hB _) (wd_910 hB _) (wd_911 hB _) (by decide +kernel) ⟨Nat.le_of_ble_eq_true rfl, Nat.le_of_ble_eq_true rfl⟩ rfl rfl ⟨pt_bl, pg_recv (ci := 0) hK hP (lo_in hL t_B (by decide)) eB rfl, pt_pre hTZ hS hB hK hP hD⟩ rfl hl.1 (Nat.le_of_ble_eq_true rfl) d_L_variable_5 ⟨Nat.le_of_ble_eq_true rfl, Nat.le_of_ble_eq_true rfl⟩ hall (fun C9 f1 h9 => hrow C9 h9.1) hTZ.2.1.2 hS (fun v9 f9 H locs hq hP hD hS => ?_) (fun x9 C9 f9 H locs r9 hr9 hrq hq hP hD hS => ?_)
    · skip
      obtain ⟨r9, rfl, h_cj, hI9, hu9⟩ := hq
      have hcj := h_cj
      have hO9 := hO.un t_ob hu9 (by decide)
      obtain ⟨h9, e9⟩ := hO9
      refine W.eq (g2 := F0 m 8 ls [.int r9, .int (nI 0), .ref ob]) rfl ?_
      refine lv_i2l hx hb d_L_variable_8 rfl ?_
      refine pf_last hx hb hK hP hD hS m_ob e9 y_ob (by decide) (by decide) d_L_variable_9 (fun f8 H locs e8 k8 hP hD hS => ?_)
      refine lv_goto (tgt := 17) hx hb d_L_variable_10 (by decide) ?_
      refine lv_iconst (v := nI 0) hx hb d_L_variable_17 (by decide) ?_
      exact hp_iret hx hb hr hlocks hK hP hD hS d_L_variable_18 ⟨CV.un hL t_B hcj (un_w0 t_ob k8) (by decide), IV_w0 hL hI9 t_ob k8, (hu9.wd (by decide)).tr (un_w0 t_ob k8) (by decide), ⟨_, e8⟩⟩
    · skip
      obtain ⟨h_cl, h_cj, hI9, hu9⟩ := hq
      have hcj := h_cj
      have hO9 := hO.un t_ob hu9 (by decide)
      rw [htab] at hr9
      simp only [List.mem_cons, List.not_mem_nil, or_false] at hr9
      subst hr9
      · skip
        refine W.eq (g2 := F0 m 13 ls [.ref x9]) rfl ?_
        have hC9 : C9 = "java/lang/IndexOutOfBoundsException" := hrq.symm
        subst hC9
        refine lv_astore (lv' := [(4, .ref x9), (0, .ref B), (1, .int v), (2, .int k9), (3, .ref ob)]) hx hb d_L_variable_13 hl (by decide) rfl (fun ls hl => ?_)
        refine lv_iconst (v := nI 1) hx hb d_L_variable_15 (by decide) ?_
        exact hp_iret hx hb hr hlocks hK hP hD hS d_L_variable_16 ⟨hcj, hI9, hu9.wd (by decide), hO9⟩
set_option maxHeartbeats 4000000 in
set_option maxRecDepth 100000 in
theorem h6_output (l : Launch) (g : Lay) (sz : Nat) (f : Nat → va_E) (B : Nat) (n : Nat) (hT : Nat → Int32) (sg : GS) (ob : Nat) (v : Int32) (k9 : Int32) (hL : LO g) (t_B : g.tg B = 1) (hI : IV g f) (hJ : CV2 g B f n hT sg) (m_ob : ob ∈ g.LP) (t_ob : g.tg ob = 0) (y_ob : g.tys[g.tn ob]? = some (g.ac ob, .long)) (hO : OB g f ob) (hLt : l.stackTraces = false) : Met l ⟨"BigRunnerLaw", "output", "(LBigRunner;II[J)I"⟩ [Cond.codeWith ⟨"BigRunnerLaw", "output", "(LBigRunner;II[J)I"⟩ method_7_code 5 (some .int) [(0, 10, 13, 29)]] ({ frames := 7, cells := 1, slots := 6, locals := 142 }) (va_Pc [.ref B, .int v, .int k9, .ref ob] (pt_in g sz f)) (va_Qi (fun r f1 => (CV2 g B f1 n hT sg) ∧ (IV g f1) ∧ (un [0, 1, 2, 3, 4, 5, 6, 7, 8, 9, 10, 20, 21, 22, 23, 24, 25, 26, 27, 28, 29] g f f1) ∧ (OB g f1 ob)) (pc_out g sz) (pc_A g sz)) 1 6 (pc_A g sz) := by
  refine hp_ofW (cc := method_7_code) (maxL := 5) (ret := (some .int)) (lv := [(0, .ref B), (1, .int v), (2, .int k9), (3, .ref ob)]) (by decide) (Nat.le_of_ble_eq_true rfl) rfl ?_
  intro p e s m args below meth c ls hx hb hr hml hlocks hown hB hP hK hD hsz hS hl htab hTZ
  subst hsz
  have hu : un [1] g f f := un.rf
  refine lv_aload_n hx hb d_L_output_0 rfl (lv_at hl 3 rfl) ?_
  refine lv_iconst (v := nI 0) hx hb d_L_output_1 (by decide) ?_
  refine lv_aload_n hx hb d_L_output_2 rfl (lv_at hl 0 rfl) ?_
  refine lv_iload_n hx hb d_L_output_3 rfl (lv_at hl 1 rfl) ?_
  refine lv_iload_n hx hb d_L_output_4 rfl (lv_at hl 2 rfl) ?_
  have hJ0 := hJ
  obtain ⟨ld, tx, ln0, ax0, PR, pr, ix, os, st, mo, lo, tr, sn, nn, t_PR, t_pr, eB, hn, hld, eT, cT, eR, hl0, ha0, eX, hix, hos, hst, htr, hPR, eP, hsn, hnn, hSG, hnj, hi1, hi2, hcv⟩ := hJ
  have htab : c.exceptionTable.toList = ([⟨0, 10, 13, 29⟩] : List ExceptionTableEntry) := htab.trans rfl
  have hall : ∀ x ∈ c.exceptionTable.toList, covers x 5 = true ∧ x.catchType ≠ 0 ∧ (Cond.classLink "BigRunnerLaw" x.catchType ((fun x : ExceptionTableEntry => "java/lang/IndexOutOfBoundsException") x)).before args s = true := by
    intro x9 h9
    rw [htab] at h9
    simp only [List.mem_cons, List.not_mem_nil, or_false] at h9
    rcases h9 with rfl
    · exact ⟨by decide, by decide, (wd_883 hB _)⟩
  have hrow : ∀ C9, (C9 = "java/lang/IndexOutOfBoundsException") → (∃ r ∈ c.exceptionTable.toList, (fun x : ExceptionTableEntry => "java/lang/IndexOutOfBoundsException") r = C9) ∧ ∀ r ∈ c.exceptionTable.toList, (fun x : ExceptionTableEntry => "java/lang/IndexOutOfBoundsException") r ≠ C9 → (C9, (fun x : ExceptionTableEntry => "java/lang/IndexOutOfBoundsException") r) ∈ ncl := by
    intro C9 h9
    rw [htab]
    subst h9
    · exact ⟨⟨⟨0, 10, 13, 29⟩, by simp, rfl⟩, by decide⟩
  refine hp_call2 (C := "BigRunner") (N := (fun x : ExceptionTableEntry => "java/lang/IndexOutOfBoundsException")) (b := B) (As := [.int v, .int k9]) (rest := [.int (nI 0), .ref ob]) (n := 2) hx hb hml hown (c_output l g s.heap.size f B v k9 hL t_B hI.1 hLt) (wd_934 hB _) (wd_72 hB _) (wd_931 hB _) (wd_932 hB _) (wd_933 hB _) (by decide +kernel) ⟨Nat.le_of_ble_eq_true rfl, Nat.le_of_ble_eq_true rfl⟩ rfl rfl ⟨pt_bl, pg_recv (ci := 0) hK hP (lo_in hL t_B (by decide)) eB rfl, pt_pre hTZ hS hB hK hP hD⟩ rfl hl.1 (Nat.le_of_ble_eq_true rfl) d_L_output_5 ⟨Nat.le_of_ble_eq_true rfl, Nat.le_of_ble_eq_true rfl⟩ hall (fun C9 f1 h9 => hrow C9 h9.1) hTZ.2.1.2 hS (fun v9 f9 H locs hq hP hD hS => ?_) (fun x9 C9 f9 H locs r9 hr9 hrq hq hP hD hS => ?_)
  · skip
    obtain ⟨r9, rfl, rfl⟩ := hq
    have hI9 := hI
    have hu9 : un [] g f f := un.rf
    have hcj := hJ0
    have hO9 := hO.un t_ob hu9 (by decide)
    obtain ⟨h9, e9⟩ := hO9
    refine W.eq (g2 := F0 m 8 ls [.int r9, .int (nI 0), .ref ob]) rfl ?_
    refine lv_i2l hx hb d_L_output_8 rfl ?_
    refine pf_last hx hb hK hP hD hS m_ob e9 y_ob (by decide) (by decide) d_L_output_9 (fun f8 H locs e8 k8 hP hD hS => ?_)
    refine lv_goto (tgt := 17) hx hb d_L_output_10 (by decide) ?_
    refine lv_iconst (v := nI 0) hx hb d_L_output_17 (by decide) ?_
    exact hp_iret hx hb hr hlocks hK hP hD hS d_L_output_18 ⟨CV.un hL t_B hcj (un_w0 t_ob k8) (by decide), IV_w0 hL hI9 t_ob k8, (hu9.wd (by decide)).tr (un_w0 t_ob k8) (by decide), ⟨_, e8⟩⟩
  · skip
    obtain ⟨h_cl, rfl⟩ := hq
    have hI9 := hI
    have hu9 : un [] g f f := un.rf
    have hcj := hJ0
    have hO9 := hO.un t_ob hu9 (by decide)
    rw [htab] at hr9
    simp only [List.mem_cons, List.not_mem_nil, or_false] at hr9
    subst hr9
    · skip
      refine W.eq (g2 := F0 m 13 ls [.ref x9]) rfl ?_
      have hC9 : C9 = "java/lang/IndexOutOfBoundsException" := hrq.symm
      subst hC9
      refine lv_astore (lv' := [(4, .ref x9), (0, .ref B), (1, .int v), (2, .int k9), (3, .ref ob)]) hx hb d_L_output_13 hl (by decide) rfl (fun ls hl => ?_)
      refine lv_iconst (v := nI 1) hx hb d_L_output_15 (by decide) ?_
      exact hp_iret hx hb hr hlocks hK hP hD hS d_L_output_16 ⟨hcj, hI9, hu9.wd (by decide), hO9⟩

