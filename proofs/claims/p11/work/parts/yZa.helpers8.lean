set_option maxHeartbeats 4000000 in
set_option maxRecDepth 100000 in
theorem h8_variable (l : Launch) (g : Lay) (sz : Nat) (f : Nat → va_E) (B : Nat) (n : Nat) (hT : Nat → Int32) (sg : GS) (ob : Nat) (v : Int32) (k9 : Int32) (hL : LO g) (t_B : g.tg B = 1) (hI : IV g f) (hJ : CV2 g B f n hT sg) (m_ob : ob ∈ g.LP) (t_ob : g.tg ob = 0) (y_ob : g.tys[g.tn ob]? = some (g.ac ob, .long)) (hO : OB g f ob) (hLt : l.stackTraces = false) : Met l ⟨"BigRunnerLaw", "variable", "(LBigRunner;II[J)I"⟩ [Cond.codeWith ⟨"BigRunnerLaw", "variable", "(LBigRunner;II[J)I"⟩ method_6_code 5 (some .int) [(0, 10, 13, 29)]] ({ frames := 7, cells := 1, slots := 6, locals := 142 }) (va_Pc [.ref B, .int v, .int k9, .ref ob] (pt_in g sz f)) (va_Qi (fun r f1 => ((vaok sg v k9 → r = nI 0 ∧ ∃ x : Int32, TQ (sg.2.vr v.toNatClampNeg) k9 x ∧ OBv g f1 ob x.toInt64) ∧ (¬ vaok sg v k9 → r = nI 1) ∧ CV2 g B f1 n hT sg) ∧ (IV g f1) ∧ (un [0, 1, 2, 3, 4, 5, 6, 7, 8, 9, 10, 20, 21, 22, 23, 24, 25, 26, 27, 28, 29] g f f1) ∧ (OB g f1 ob)) (pc_out g sz) (pc_A g sz)) 1 6 (pc_A g sz) := by
  refine hp_ofW (cc := method_6_code) (maxL := 5) (ret := (some .int)) (lv := [(0, .ref B), (1, .int v), (2, .int k9), (3, .ref ob)]) (by decide) (Nat.le_of_ble_eq_true rfl) rfl ?_
  intro p e s m args below meth c ls hx hb hr hml hlocks hown hB hP hK hD hsz hS hl htab hTZ
  subst hsz
  have hu : un [1] g f f := un.rf
  refine lv_aload_n hx hb d_L_variable_0 rfl (lv_at hl 3 rfl) ?_
  refine lv_iconst (v := nI 0) hx hb d_L_variable_1 (by decide) ?_
  refine lv_aload_n hx hb d_L_variable_2 rfl (lv_at hl 0 rfl) ?_
  refine lv_iload_n hx hb d_L_variable_3 rfl (lv_at hl 1 rfl) ?_
  refine lv_iload_n hx hb d_L_variable_4 rfl (lv_at hl 2 rfl) ?_
  have hJ0 := hJ
  obtain ⟨ld, tx, ln0, ax0, PR, pr, ix, os, st, mo, lo, tr, sn, nn, t_PR, t_pr, eB, hn, hld, eT, cT, eR, hl0, ha0, eX, hix, hos, hst, htr, hPR, eP, hsn, hnn, hSG, hnj, hi1, hi2, hcv⟩ := hJ
  have htab : c.exceptionTable.toList = ([⟨0, 10, 13, 29⟩] : List ExceptionTableEntry) := htab.trans rfl
  have hall : ∀ x ∈ c.exceptionTable.toList, covers x 5 = true ∧ x.catchType ≠ 0 ∧ (Cond.classLink "BigRunnerLaw" x.catchType ((fun x : ExceptionTableEntry => "java/lang/IndexOutOfBoundsException") x)).before args s = true := by
    intro x9 h9
    rw [htab] at h9
    simp only [List.mem_cons, List.not_mem_nil, or_false] at h9
    rcases h9 with rfl
    · exact ⟨by decide, by decide, (wd_883 hB _)⟩
  have hrow : ∀ C9, (C9 = "java/lang/IndexOutOfBoundsException") → (∃ r ∈ c.exceptionTable.toList, (fun x : ExceptionTableEntry => "java/lang/IndexOutOfBoundsException") r = C9) ∧ ∀ r ∈ c.exceptionTable.toList, (fun x : ExceptionTableEntry => "java/lang/IndexOutOfBoundsException") r ≠ C9 → (C9, (fun x : ExceptionTableEntry => "java/lang/IndexOutOfBoundsException") r) ∈ ncl := by
    intro C9 h9
    rw [htab]
    subst h9
    · exact ⟨⟨⟨0, 10, 13, 29⟩, by simp, rfl⟩, by decide⟩
  obtain ⟨o, s9⟩ := sg
  cases o with
  | none =>
    have hld0 := hcv.1
    refine hp_call2 (C := "BigRunner") (N := (fun x : ExceptionTableEntry => "java/lang/IndexOutOfBoundsException")) (b := B) (As := [.int v, .int k9]) (rest := [.int (nI 0), .ref ob]) (n := 2) hx hb hml hown (v_varN l g s.heap.size f B n hT ld tx ln0 ax0 PR pr ix os st mo lo tr sn nn s9 v k9 hL t_B t_PR t_pr hI eB hn hld eT cT eR hl0 ha0 eX hix hos hst htr hPR eP hsn hnn hSG hnj hi1 hi2 hld0 hcv hLt) (wd_912 hB _) (wd_72 hB _) (wd_909 hB _) (wd_910 hB _) (wd_911 hB _) (by decide +kernel) ⟨Nat.le_of_ble_eq_true rfl, Nat.le_of_ble_eq_true rfl⟩ rfl rfl ⟨pt_bl, pg_recv (ci := 0) hK hP (lo_in hL t_B (by decide)) eB rfl, pt_pre hTZ hS hB hK hP hD⟩ rfl hl.1 (Nat.le_of_ble_eq_true rfl) d_L_variable_5 ⟨Nat.le_of_ble_eq_true rfl, Nat.le_of_ble_eq_true rfl⟩ hall (fun C9 f1 h9 => hrow C9 h9.1) hTZ.2.1.2 hS (fun v9 f9 H locs hq hP hD hS => ?_) (fun x9 C9 f9 H locs r9 hr9 hrq hq hP hD hS => ?_)
    · skip
      obtain ⟨r9, rfl, h_no, rfl⟩ := hq
      exact absurd h_no id
    · skip
      obtain ⟨h_cl, rfl⟩ := hq
      have hI9 := hI
      have hu9 : un [] g f f := un.rf
      have hcj := hJ0
      have hO9 := hO.un t_ob hu9 (by decide)
      rw [htab] at hr9
      simp only [List.mem_cons, List.not_mem_nil, or_false] at hr9
      subst hr9
      · skip
        refine W.eq (g2 := F0 m 13 ls [.ref x9]) rfl ?_
        have hC9 : C9 = "java/lang/IndexOutOfBoundsException" := hrq.symm
        subst hC9
        refine lv_astore (lv' := [(4, .ref x9), (0, .ref B), (1, .int v), (2, .int k9), (3, .ref ob)]) hx hb d_L_variable_13 hl (by decide) rfl (fun ls hl => ?_)
        refine lv_iconst (v := nI 1) hx hb d_L_variable_15 (by decide) ?_
        exact hp_iret hx hb hr hlocks hK hP hD hS d_L_variable_16 ⟨⟨(fun z => absurd rfl z.1), (fun _ => rfl), hcj⟩, hI9, hu9.wd (by decide), hO9⟩
  | some L =>
    obtain ⟨hld1, T, nb, en, hPT, hRS⟩ := hcv
    refine hp_call2 (C := "BigRunner") (N := (fun x : ExceptionTableEntry => "java/lang/IndexOutOfBoundsException")) (b := B) (As := [.int v, .int k9]) (rest := [.int (nI 0), .ref ob]) (n := 2) hx hb hml hown (v_variable2 l g s.heap.size f B n hT ld tx ln0 ax0 PR pr ix os st mo lo tr sn nn T nb en L s9 v k9 hL t_B t_PR t_pr hI eB hn hld eT cT eR hl0 ha0 eX hix hos hst htr hPR eP hsn hnn hSG hnj hi1 hi2 hld1 hPT hRS hLt) (wd_912 hB _) (wd_72 hB _) (wd_909 hB _) (wd_910 hB _) (wd_911 hB _) (by decide +kernel) ⟨Nat.le_of_ble_eq_true rfl, Nat.le_of_ble_eq_true rfl⟩ rfl rfl ⟨pt_bl, pg_recv (ci := 0) hK hP (lo_in hL t_B (by decide)) eB rfl, pt_pre hTZ hS hB hK hP hD⟩ rfl hl.1 (Nat.le_of_ble_eq_true rfl) d_L_variable_5 ⟨Nat.le_of_ble_eq_true rfl, Nat.le_of_ble_eq_true rfl⟩ hall (fun C9 f1 h9 => hrow C9 h9.1) hTZ.2.1.2 hS (fun v9 f9 H locs hq hP hD hS => ?_) (fun x9 C9 f9 H locs r9 hr9 hrq hq hP hD hS => ?_)
    · skip
      obtain ⟨r9, rfl, h_tq, h_cj, hI9, hu9⟩ := hq
      have hcj := h_cj
      have hO9 := hO.un t_ob hu9 (by decide)
      obtain ⟨h9, e9⟩ := hO9
      refine W.eq (g2 := F0 m 8 ls [.int r9, .int (nI 0), .ref ob]) rfl ?_
      refine lv_i2l hx hb d_L_variable_8 rfl ?_
      refine pf_last hx hb hK hP hD hS m_ob e9 y_ob (by decide) (by decide) d_L_variable_9 (fun f8 H locs e8 k8 hP hD hS => ?_)
      refine lv_goto (tgt := 17) hx hb d_L_variable_10 (by decide) ?_
      refine lv_iconst (v := nI 0) hx hb d_L_variable_17 (by decide) ?_
      exact hp_iret hx hb hr hlocks hK hP hD hS d_L_variable_18 ⟨⟨(fun _ => ⟨rfl, r9, h_tq.2.2, ⟨_, e8, updL_at _ _ _⟩⟩), (fun z => absurd ⟨(fun y => by cases y), h_tq.1, h_tq.2.1⟩ z), CV.un hL t_B hcj (un_w0 t_ob k8) (by decide)⟩, IV_w0 hL hI9 t_ob k8, (hu9.wd (by decide)).tr (un_w0 t_ob k8) (by decide), ⟨_, e8⟩⟩
    · skip
      obtain ⟨h_cl, h_nq, h_cj, hI9, hu9⟩ := hq
      have hcj := h_cj
      have hO9 := hO.un t_ob hu9 (by decide)
      rw [htab] at hr9
      simp only [List.mem_cons, List.not_mem_nil, or_false] at hr9
      subst hr9
      · skip
        refine W.eq (g2 := F0 m 13 ls [.ref x9]) rfl ?_
        have hC9 : C9 = "java/lang/IndexOutOfBoundsException" := hrq.symm
        subst hC9
        refine lv_astore (lv' := [(4, .ref x9), (0, .ref B), (1, .int v), (2, .int k9), (3, .ref ob)]) hx hb d_L_variable_13 hl (by decide) rfl (fun ls hl => ?_)
        refine lv_iconst (v := nI 1) hx hb d_L_variable_15 (by decide) ?_
        exact hp_iret hx hb hr hlocks hK hP hD hS d_L_variable_16 ⟨⟨(fun z => absurd z.2 h_nq), (fun _ => rfl), hcj⟩, hI9, hu9.wd (by decide), hO9⟩
set_option maxHeartbeats 4000000 in
set_option maxRecDepth 100000 in
theorem h8_output (l : Launch) (g : Lay) (sz : Nat) (f : Nat → va_E) (B : Nat) (n : Nat) (hT : Nat → Int32) (sg : GS) (ob : Nat) (v : Int32) (k9 : Int32) (hL : LO g) (t_B : g.tg B = 1) (hI : IV g f) (hJ : CV2 g B f n hT sg) (m_ob : ob ∈ g.LP) (t_ob : g.tg ob = 0) (y_ob : g.tys[g.tn ob]? = some (g.ac ob, .long)) (hO : OB g f ob) (hLt : l.stackTraces = false) : Met l ⟨"BigRunnerLaw", "output", "(LBigRunner;II[J)I"⟩ [Cond.codeWith ⟨"BigRunnerLaw", "output", "(LBigRunner;II[J)I"⟩ method_7_code 5 (some .int) [(0, 10, 13, 29)]] ({ frames := 7, cells := 1, slots := 6, locals := 142 }) (va_Pc [.ref B, .int v, .int k9, .ref ob] (pt_in g sz f)) (va_Qi (fun r f1 => ((ook sg.2.outs v k9 → r = nI 0 ∧ ∃ x : Int32, TQ (sg.2.outs.getD v.toNatClampNeg 0) k9 x ∧ OBv g f1 ob x.toInt64) ∧ (¬ ook sg.2.outs v k9 → r = nI 1) ∧ CV2 g B f1 n hT sg) ∧ (IV g f1) ∧ (un [0, 1, 2, 3, 4, 5, 6, 7, 8, 9, 10, 20, 21, 22, 23, 24, 25, 26, 27, 28, 29] g f f1) ∧ (OB g f1 ob)) (pc_out g sz) (pc_A g sz)) 1 6 (pc_A g sz) := by
  refine hp_ofW (cc := method_7_code) (maxL := 5) (ret := (some .int)) (lv := [(0, .ref B), (1, .int v), (2, .int k9), (3, .ref ob)]) (by decide) (Nat.le_of_ble_eq_true rfl) rfl ?_
  intro p e s m args below meth c ls hx hb hr hml hlocks hown hB hP hK hD hsz hS hl htab hTZ
  subst hsz
  have hu : un [1] g f f := un.rf
  refine lv_aload_n hx hb d_L_output_0 rfl (lv_at hl 3 rfl) ?_
  refine lv_iconst (v := nI 0) hx hb d_L_output_1 (by decide) ?_
  refine lv_aload_n hx hb d_L_output_2 rfl (lv_at hl 0 rfl) ?_
  refine lv_iload_n hx hb d_L_output_3 rfl (lv_at hl 1 rfl) ?_
  refine lv_iload_n hx hb d_L_output_4 rfl (lv_at hl 2 rfl) ?_
  have hJ0 := hJ
  obtain ⟨ld, tx, ln0, ax0, PR, pr, ix, os, st, mo, lo, tr, sn, nn, t_PR, t_pr, eB, hn, hld, eT, cT, eR, hl0, ha0, eX, hix, hos, hst, htr, hPR, eP, hsn, hnn, hSG, hnj, hi1, hi2, hcv⟩ := hJ
  have htab : c.exceptionTable.toList = ([⟨0, 10, 13, 29⟩] : List ExceptionTableEntry) := htab.trans rfl
  have hall : ∀ x ∈ c.exceptionTable.toList, covers x 5 = true ∧ x.catchType ≠ 0 ∧ (Cond.classLink "BigRunnerLaw" x.catchType ((fun x : ExceptionTableEntry => "java/lang/IndexOutOfBoundsException") x)).before args s = true := by
    intro x9 h9
    rw [htab] at h9
    simp only [List.mem_cons, List.not_mem_nil, or_false] at h9
    rcases h9 with rfl
    · exact ⟨by decide, by decide, (wd_883 hB _)⟩
  have hrow : ∀ C9, (C9 = "java/lang/IndexOutOfBoundsException") → (∃ r ∈ c.exceptionTable.toList, (fun x : ExceptionTableEntry => "java/lang/IndexOutOfBoundsException") r = C9) ∧ ∀ r ∈ c.exceptionTable.toList, (fun x : ExceptionTableEntry => "java/lang/IndexOutOfBoundsException") r ≠ C9 → (C9, (fun x : ExceptionTableEntry => "java/lang/IndexOutOfBoundsException") r) ∈ ncl := by
    intro C9 h9
    rw [htab]
    subst h9
    · exact ⟨⟨⟨0, 10, 13, 29⟩, by simp, rfl⟩, by decide⟩
  obtain ⟨o, s9⟩ := sg
  cases o with
  | none =>
    have hld0 := hcv.1
    refine hp_call2 (C := "BigRunner") (N := (fun x : ExceptionTableEntry => "java/lang/IndexOutOfBoundsException")) (b := B) (As := [.int v, .int k9]) (rest := [.int (nI 0), .ref ob]) (n := 2) hx hb hml hown (v_output2 l g s.heap.size f B n hT ld tx ln0 ax0 PR pr ix os st mo lo tr sn nn s9.outs v k9 hL t_B t_PR t_pr hI eB hn hld eT cT eR hl0 ha0 eX hix hos hst htr hPR eP hsn hnn hSG hnj (fun k9 _ y9 => absurd y9 (by rw [hcv.2.2.2]; exact Nat.not_lt_zero k9)) (CVS_ins hcv).2.symm hLt) (wd_934 hB _) (wd_72 hB _) (wd_931 hB _) (wd_932 hB _) (wd_933 hB _) (by decide +kernel) ⟨Nat.le_of_ble_eq_true rfl, Nat.le_of_ble_eq_true rfl⟩ rfl rfl ⟨pt_bl, pg_recv (ci := 0) hK hP (lo_in hL t_B (by decide)) eB rfl, pt_pre hTZ hS hB hK hP hD⟩ rfl hl.1 (Nat.le_of_ble_eq_true rfl) d_L_output_5 ⟨Nat.le_of_ble_eq_true rfl, Nat.le_of_ble_eq_true rfl⟩ hall (fun C9 f1 h9 => hrow C9 h9.1) hTZ.2.1.2 hS (fun v9 f9 H locs hq hP hD hS => ?_) (fun x9 C9 f9 H locs r9 hr9 hrq hq hP hD hS => ?_)
    · skip
      obtain ⟨r9, rfl, h_tq, rfl⟩ := hq
      have hI9 := hI
      have hu9 : un [] g f f := un.rf
      have hcj := hJ0
      have hO9 := hO.un t_ob hu9 (by decide)
      obtain ⟨h9, e9⟩ := hO9
      refine W.eq (g2 := F0 m 8 ls [.int r9, .int (nI 0), .ref ob]) rfl ?_
      refine lv_i2l hx hb d_L_output_8 rfl ?_
      refine pf_last hx hb hK hP hD hS m_ob e9 y_ob (by decide) (by decide) d_L_output_9 (fun f8 H locs e8 k8 hP hD hS => ?_)
      refine lv_goto (tgt := 17) hx hb d_L_output_10 (by decide) ?_
      refine lv_iconst (v := nI 0) hx hb d_L_output_17 (by decide) ?_
      exact hp_iret hx hb hr hlocks hK hP hD hS d_L_output_18 ⟨⟨(fun _ => ⟨rfl, r9, h_tq.2, ⟨_, e8, updL_at _ _ _⟩⟩), (fun z => absurd h_tq.1 z), CV.un hL t_B hcj (un_w0 t_ob k8) (by decide)⟩, IV_w0 hL hI9 t_ob k8, (hu9.wd (by decide)).tr (un_w0 t_ob k8) (by decide), ⟨_, e8⟩⟩
    · skip
      obtain ⟨h_cl, h_nq, rfl⟩ := hq
      have hI9 := hI
      have hu9 : un [] g f f := un.rf
      have hcj := hJ0
      have hO9 := hO.un t_ob hu9 (by decide)
      rw [htab] at hr9
      simp only [List.mem_cons, List.not_mem_nil, or_false] at hr9
      subst hr9
      · skip
        refine W.eq (g2 := F0 m 13 ls [.ref x9]) rfl ?_
        have hC9 : C9 = "java/lang/IndexOutOfBoundsException" := hrq.symm
        subst hC9
        refine lv_astore (lv' := [(4, .ref x9), (0, .ref B), (1, .int v), (2, .int k9), (3, .ref ob)]) hx hb d_L_output_13 hl (by decide) rfl (fun ls hl => ?_)
        refine lv_iconst (v := nI 1) hx hb d_L_output_15 (by decide) ?_
        exact hp_iret hx hb hr hlocks hK hP hD hS d_L_output_16 ⟨⟨(fun z => absurd z h_nq), (fun _ => rfl), hcj⟩, hI9, hu9.wd (by decide), hO9⟩
  | some L =>
    obtain ⟨hld1, T, nb, en, hPT, hRS⟩ := hcv
    refine hp_call2 (C := "BigRunner") (N := (fun x : ExceptionTableEntry => "java/lang/IndexOutOfBoundsException")) (b := B) (As := [.int v, .int k9]) (rest := [.int (nI 0), .ref ob]) (n := 2) hx hb hml hown (v_output2 l g s.heap.size f B n hT ld tx ln0 ax0 PR pr ix os st mo lo tr sn nn s9.outs v k9 hL t_B t_PR t_pr hI eB hn hld eT cT eR hl0 ha0 eX hix hos hst htr hPR eP hsn hnn hSG hnj hRS.2.2.2.2.2.2.1 hRS.2.2.2.2.2.2.2.1.symm hLt) (wd_934 hB _) (wd_72 hB _) (wd_931 hB _) (wd_932 hB _) (wd_933 hB _) (by decide +kernel) ⟨Nat.le_of_ble_eq_true rfl, Nat.le_of_ble_eq_true rfl⟩ rfl rfl ⟨pt_bl, pg_recv (ci := 0) hK hP (lo_in hL t_B (by decide)) eB rfl, pt_pre hTZ hS hB hK hP hD⟩ rfl hl.1 (Nat.le_of_ble_eq_true rfl) d_L_output_5 ⟨Nat.le_of_ble_eq_true rfl, Nat.le_of_ble_eq_true rfl⟩ hall (fun C9 f1 h9 => hrow C9 h9.1) hTZ.2.1.2 hS (fun v9 f9 H locs hq hP hD hS => ?_) (fun x9 C9 f9 H locs r9 hr9 hrq hq hP hD hS => ?_)
    · skip
      obtain ⟨r9, rfl, h_tq, rfl⟩ := hq
      have hI9 := hI
      have hu9 : un [] g f f := un.rf
      have hcj := hJ0
      have hO9 := hO.un t_ob hu9 (by decide)
      obtain ⟨h9, e9⟩ := hO9
      refine W.eq (g2 := F0 m 8 ls [.int r9, .int (nI 0), .ref ob]) rfl ?_
      refine lv_i2l hx hb d_L_output_8 rfl ?_
      refine pf_last hx hb hK hP hD hS m_ob e9 y_ob (by decide) (by decide) d_L_output_9 (fun f8 H locs e8 k8 hP hD hS => ?_)
      refine lv_goto (tgt := 17) hx hb d_L_output_10 (by decide) ?_
      refine lv_iconst (v := nI 0) hx hb d_L_output_17 (by decide) ?_
      exact hp_iret hx hb hr hlocks hK hP hD hS d_L_output_18 ⟨⟨(fun _ => ⟨rfl, r9, h_tq.2, ⟨_, e8, updL_at _ _ _⟩⟩), (fun z => absurd h_tq.1 z), CV.un hL t_B hcj (un_w0 t_ob k8) (by decide)⟩, IV_w0 hL hI9 t_ob k8, (hu9.wd (by decide)).tr (un_w0 t_ob k8) (by decide), ⟨_, e8⟩⟩
    · skip
      obtain ⟨h_cl, h_nq, rfl⟩ := hq
      have hI9 := hI
      have hu9 : un [] g f f := un.rf
      have hcj := hJ0
      have hO9 := hO.un t_ob hu9 (by decide)
      rw [htab] at hr9
      simp only [List.mem_cons, List.not_mem_nil, or_false] at hr9
      subst hr9
      · skip
        refine W.eq (g2 := F0 m 13 ls [.ref x9]) rfl ?_
        have hC9 : C9 = "java/lang/IndexOutOfBoundsException" := hrq.symm
        subst hC9
        refine lv_astore (lv' := [(4, .ref x9), (0, .ref B), (1, .int v), (2, .int k9), (3, .ref ob)]) hx hb d_L_output_13 hl (by decide) rfl (fun ls hl => ?_)
        refine lv_iconst (v := nI 1) hx hb d_L_output_15 (by decide) ?_
        exact hp_iret hx hb hr hlocks hK hP hD hS d_L_output_16 ⟨⟨(fun z => absurd z h_nq), (fun _ => rfl), hcj⟩, hI9, hu9.wd (by decide), hO9⟩

