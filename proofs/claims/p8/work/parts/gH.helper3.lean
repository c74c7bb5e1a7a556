set_option maxHeartbeats 4000000 in
set_option maxRecDepth 100000 in
theorem h3_bound (l : Launch) (g : Lay) (sz : Nat) (f : Nat → va_E) (B : Nat) (n : Nat) (hT : Nat → Int32) (sg : Option (Nat → IVL)) (ob : Nat) (v : Int32) (gr : Int32) (hL : LO g) (t_B : g.tg B = 1) (hI : IV g f) (hJ : CK g B f n hT sg) (m_ob : ob ∈ g.LP) (t_ob : g.tg ob = 0) (y_ob : g.tys[g.tn ob]? = some (g.ac ob, .long)) (hO : OB g f ob) (hLt : l.stackTraces = false) : Met l ⟨"BigRunnerLaw", "bound", "(LBigRunner;IZ[J)I"⟩ [Cond.codeWith ⟨"BigRunnerLaw", "bound", "(LBigRunner;IZ[J)I"⟩ method_5_code 5 (some .int) [(0, 9, 12, 29), (0, 9, 16, 23)]] ({ frames := 7, cells := 1, slots := 6, locals := 145 }) (va_Pc [.ref B, .int v, .int gr, .ref ob] (pt_in g sz f)) (va_Qi (fun r f1 => (r = nI (bnd sg v gr).1 ∧ ((bnd sg v gr).1 = 0 → OBv g f1 ob (bnd sg v gr).2) ∧ CK g B f1 n hT sg) ∧ (IV g f1) ∧ (un [0, 1, 2, 3, 4, 5, 6, 7, 8, 9, 10, 20, 21, 22, 23, 24, 25, 26, 27, 28, 29] g f f1) ∧ (OB g f1 ob)) (pc_out g sz) (pc_A g sz)) 1 6 (pc_A g sz) := by
  refine hp_ofW (cc := method_5_code) (maxL := 5) (ret := (some .int)) (lv := [(0, .ref B), (1, .int v), (2, .int gr), (3, .ref ob)]) (by decide) (Nat.le_of_ble_eq_true rfl) rfl ?_
  intro p e s m args below meth c ls hx hb hr hml hlocks hown hB hP hK hD hsz hS hl htab hTZ
  subst hsz
  have hu : un [1] g f f := un.rf
  refine lv_aload_n hx hb d_L_bound_0 rfl (lv_at hl 3 rfl) ?_
  refine lv_iconst (v := nI 0) hx hb d_L_bound_1 (by decide) ?_
  refine lv_aload_n hx hb d_L_bound_2 rfl (lv_at hl 0 rfl) ?_
  refine lv_iload_n hx hb d_L_bound_3 rfl (lv_at hl 1 rfl) ?_
  refine lv_iload_n hx hb d_L_bound_4 rfl (lv_at hl 2 rfl) ?_
  have hJ0 := hJ
  obtain ⟨ld, tx, ln0, ax0, PR, pr, ix, os, st, mo, lo, tr, sn, nn, t_PR, t_pr, eB, hn, hld, eT, cT, eR, hl0, ha0, eX, hix, hos, hst, htr, hPR, eP, hsn, hnn, hSG, hnj, hi1, hi2, hce⟩ := hJ
  have htab : c.exceptionTable.toList = ([⟨0, 9, 12, 29⟩, ⟨0, 9, 16, 23⟩] : List ExceptionTableEntry) := htab.trans rfl
  have hall : ∀ x ∈ c.exceptionTable.toList, covers x 5 = true ∧ x.catchType ≠ 0 ∧ (Cond.classLink "BigRunnerLaw" x.catchType ((fun x : ExceptionTableEntry => if x.handlerPc = 12 then "java/lang/IndexOutOfBoundsException" else "java/lang/UnsupportedOperationException") x)).before args s = true := by
    intro x9 h9
    rw [htab] at h9
    simp only [List.mem_cons, List.not_mem_nil, or_false] at h9
    rcases h9 with rfl | rfl
    · exact ⟨by decide, by decide, (wd_883 hB _)⟩
    · exact ⟨by decide, by decide, (wd_691 hB _)⟩
  have hrow : ∀ C9, (C9 = "java/lang/IndexOutOfBoundsException" ∨ C9 = "java/lang/UnsupportedOperationException") → (∃ r ∈ c.exceptionTable.toList, (fun x : ExceptionTableEntry => if x.handlerPc = 12 then "java/lang/IndexOutOfBoundsException" else "java/lang/UnsupportedOperationException") r = C9) ∧ ∀ r ∈ c.exceptionTable.toList, (fun x : ExceptionTableEntry => if x.handlerPc = 12 then "java/lang/IndexOutOfBoundsException" else "java/lang/UnsupportedOperationException") r ≠ C9 → (C9, (fun x : ExceptionTableEntry => if x.handlerPc = 12 then "java/lang/IndexOutOfBoundsException" else "java/lang/UnsupportedOperationException") r) ∈ ncl := by
    intro C9 h9
    rw [htab]
    rcases h9 with rfl | rfl
    · exact ⟨⟨⟨0, 9, 12, 29⟩, by simp, rfl⟩, by decide⟩
    · exact ⟨⟨⟨0, 9, 16, 23⟩, by simp, rfl⟩, by decide⟩
  refine hp_call2 (C := "BigRunner") (N := (fun x : ExceptionTableEntry => if x.handlerPc = 12 then "java/lang/IndexOutOfBoundsException" else "java/lang/UnsupportedOperationException")) (b := B) (As := [.int v, .int gr]) (rest := [.int (nI 0), .ref ob]) (n := 2) hx hb hml hown (c3_bound l g s.heap.size f B n hT ld tx ln0 ax0 PR pr ix os st mo lo tr sn nn sg v gr hL t_B t_PR t_pr hI.1 eB hn hld eT cT eR hl0 ha0 eX hix hos hst htr hPR eP hsn hnn hSG hnj hi1 hi2 hce hLt) (wd_887 hB _) (wd_72 hB _) (wd_884 hB _) (wd_885 hB _) (wd_886 hB _) (by decide +kernel) ⟨Nat.le_of_ble_eq_true rfl, Nat.le_of_ble_eq_true rfl⟩ rfl rfl ⟨pt_bl, pg_recv (ci := 0) hK hP (lo_in hL t_B (by decide)) eB rfl, pt_pre hTZ hS hB hK hP hD⟩ rfl hl.1 (Nat.le_of_ble_eq_true rfl) d_L_bound_5 ⟨Nat.le_of_ble_eq_true rfl, Nat.le_of_ble_eq_true rfl⟩ hall (fun C9 f1 h9 => hrow C9 (h9.1.imp (fun z => z.1) (fun z => z.1))) hTZ.2.1.2 hS (fun v9 f9 H locs hq hP hD hS => ?_) (fun x9 C9 f9 H locs r9 hr9 hrq hq hP hD hS => ?_)
  · skip
    obtain ⟨r9, rfl, h_b0, h_rr, rfl⟩ := hq
    have hI9 := hI
    have hu9 : un [] g f f := un.rf
    have hcj := hJ0
    have hO9 := hO.un t_ob hu9 (by decide)
    obtain ⟨h9, e9⟩ := hO9
    refine W.eq (g2 := F0 m 8 ls [.long r9, .int (nI 0), .ref ob]) rfl ?_
    refine pf_last hx hb hK hP hD hS m_ob e9 y_ob (by decide) (by decide) d_L_bound_8 (fun f8 H locs e8 k8 hP hD hS => ?_)
    refine lv_goto (tgt := 20) hx hb d_L_bound_9 (by decide) ?_
    refine lv_iconst (v := nI 0) hx hb d_L_bound_20 (by decide) ?_
    exact hp_iret hx hb hr hlocks hK hP hD hS d_L_bound_21 ⟨⟨(by rw [h_b0]), fun _ => ⟨_, e8, (updL_at _ _ _).trans h_rr⟩, hcj.un hL t_B (un_w0 t_ob k8) (by decide)⟩, IV_w0 hL hI9 t_ob k8, (hu9.wd (by decide)).tr (un_w0 t_ob k8) (by decide), ⟨_, e8⟩⟩
  · skip
    obtain ⟨h_cb, rfl⟩ := hq
    have hI9 := hI
    have hu9 : un [] g f f := un.rf
    have hcj := hJ0
    have hO9 := hO.un t_ob hu9 (by decide)
    rw [htab] at hr9
    simp only [List.mem_cons, List.not_mem_nil, or_false] at hr9
    rcases hr9 with rfl | rfl
    · skip
      refine W.eq (g2 := F0 m 12 ls [.ref x9]) rfl ?_
      have hC9 : C9 = "java/lang/IndexOutOfBoundsException" := hrq.symm
      subst hC9
      have h90 : (bnd sg v gr).1 = 1 := h_cb.elim (fun z => z.2) (fun z => absurd z.1 (by decide))
      refine lv_astore (lv' := [(4, .ref x9), (0, .ref B), (1, .int v), (2, .int gr), (3, .ref ob)]) hx hb d_L_bound_12 hl (by decide) rfl (fun ls hl => ?_)
      refine lv_iconst (v := nI 1) hx hb d_L_bound_14 (by decide) ?_
      exact hp_iret hx hb hr hlocks hK hP hD hS d_L_bound_15 ⟨⟨(by rw [h90]), fun z => absurd (z.symm.trans h90) (by decide), hcj⟩, hI9, hu9.wd (by decide), hO9⟩
    · skip
      refine W.eq (g2 := F0 m 16 ls [.ref x9]) rfl ?_
      have hC9 : C9 = "java/lang/UnsupportedOperationException" := hrq.symm
      subst hC9
      have h91 : (bnd sg v gr).1 = 2 := h_cb.elim (fun z => absurd z.1 (by decide)) (fun z => z.2)
      refine lv_astore (lv' := [(4, .ref x9), (0, .ref B), (1, .int v), (2, .int gr), (3, .ref ob)]) hx hb d_L_bound_16 hl (by decide) rfl (fun ls hl => ?_)
      refine lv_iconst (v := nI 2) hx hb d_L_bound_18 (by decide) ?_
      exact hp_iret hx hb hr hlocks hK hP hD hS d_L_bound_19 ⟨⟨(by rw [h91]), fun z => absurd (z.symm.trans h91) (by decide), hcj⟩, hI9, hu9.wd (by decide), hO9⟩

