def RG2 (l : Launch) (F : Nat) : Prop := ∀ (g : Lay) (sz : Nat) (f : Nat → va_E) (Rd : Nat) (tl : Nat) (ln : Nat) (ax : Nat) (P : Nat) (hT : Nat → Int32) (sn : Nat) (nn : Nat) (d : Nat) (hL : LO g) (t_Rd : g.tg Rd = 8) (t_tl : g.tg tl = 20) (t_P : g.tg P = 7) (hI : IV g f) (eR : f Rd = .inr (7, [.ref tl, .int (nI ln), .int (nI ax), .ref P])) (eT : f tl = .inl (g.ac tl, 72, .inl hT)) (cT : ∀ i, i < 72 → vp_nar .char (hT i) = hT i) (hln : ln ≤ 72) (hax : ax ≤ ln) (eP : f P = .inr (6, [.ref (g.lk P 0), .int (nI sn), .ref (g.lk P 2), .int (nI nn), .ref (g.lk P 4), .ref (g.lk P 5)])) (hsn : sn ≤ 36) (hnn : nn ≤ 72) (hna : nn ≤ ax) (h2s : 2 * sn ≤ ax) (hd : d ≤ 11) (hF : 2 * (ln - ax) + 2 ≤ F), Met l ⟨"BigRunner$Reader", "readProgram", "(I)Z"⟩ [Cond.code ⟨"BigRunner$Reader", "readProgram", "(I)Z"⟩ prog_8_method_5_code 3 (some .boolean)] ({ frames := 2 * F + 410, cells := 0, slots := 0, locals := 60 * F + 13000 }) (va_Pc [.ref Rd, .int (nI d)] (pc_in g sz f)) (va_Qi (fun r f1 => ((∃ (a s1 n1 : Nat), a ≤ ln ∧ ax < a ∧ s1 ≤ 36 ∧ n1 ≤ 72 ∧ n1 + ax ≤ nn + a ∧ nn ≤ n1 ∧ sn < s1 ∧ 2 * s1 + ax ≤ 2 * sn + a ∧ px_s (tk hT ln) F 1 d ax = some a ∧ f1 Rd = .inr (7, [.ref tl, .int (nI ln), .int (nI a), .ref P]) ∧ f1 P = .inr (6, [.ref (g.lk P 0), .int (nI s1), .ref (g.lk P 2), .int (nI n1), .ref (g.lk P 4), .ref (g.lk P 5)]) ∧ SG g f1 P sn s1 ∧ nj g f1 P sn ∧ SRP g f1 P sn nn s1 n1 (ox_s (tk hT ln) (vc hT ln) F 1 d ax (sn + nn)) ∧ r = nI 1) ∨ (∃ (a s1 n1 : Nat), a ≤ ln ∧ s1 ≤ 36 ∧ n1 ≤ 72 ∧ px_s (tk hT ln) F 1 d ax = none ∧ f1 Rd = .inr (7, [.ref tl, .int (nI ln), .int (nI a), .ref P]) ∧ f1 P = .inr (6, [.ref (g.lk P 0), .int (nI s1), .ref (g.lk P 2), .int (nI n1), .ref (g.lk P 4), .ref (g.lk P 5)]) ∧ r = nI 0)) ∧ (∀ i, i < 36 → i < sn → f1 (g.lk (g.lk P 0) i) = f (g.lk (g.lk P 0) i)) ∧ (∀ i, i < 72 → i < nn → f1 (g.lk (g.lk P 2) i) = f (g.lk (g.lk P 2) i)) ∧ (IV g f1) ∧ (un [6, 7, 8, 10] g f f1)) (pc_out g sz) (pc_A g sz)) 0 0 (pc_A g sz)
def RS2 (l : Launch) (F : Nat) : Prop := ∀ (g : Lay) (sz : Nat) (f : Nat → va_E) (Rd : Nat) (tl : Nat) (ln : Nat) (ax : Nat) (P : Nat) (hT : Nat → Int32) (sn : Nat) (nn : Nat) (d : Nat) (hL : LO g) (t_Rd : g.tg Rd = 8) (t_tl : g.tg tl = 20) (t_P : g.tg P = 7) (hI : IV g f) (eR : f Rd = .inr (7, [.ref tl, .int (nI ln), .int (nI ax), .ref P])) (eT : f tl = .inl (g.ac tl, 72, .inl hT)) (cT : ∀ i, i < 72 → vp_nar .char (hT i) = hT i) (hln : ln ≤ 72) (hax : ax ≤ ln) (eP : f P = .inr (6, [.ref (g.lk P 0), .int (nI sn), .ref (g.lk P 2), .int (nI nn), .ref (g.lk P 4), .ref (g.lk P 5)])) (hsn : sn ≤ 36) (hnn : nn ≤ 72) (hna : nn ≤ ax) (h2s : 2 * sn ≤ ax) (hd : d ≤ 10) (hF : 2 * (ln - ax) + 1 ≤ F), Met l ⟨"BigRunner$Reader", "readStatement", "(I)Z"⟩ [Cond.code ⟨"BigRunner$Reader", "readStatement", "(I)Z"⟩ prog_8_method_6_code 3 (some .boolean)] ({ frames := 2 * F + 410, cells := 0, slots := 0, locals := 60 * F + 13000 }) (va_Pc [.ref Rd, .int (nI d)] (pc_in g sz f)) (va_Qi (fun r f1 => ((∃ (a s1 n1 : Nat), a ≤ ln ∧ ax < a ∧ s1 ≤ 36 ∧ n1 ≤ 72 ∧ n1 + ax ≤ nn + a ∧ nn ≤ n1 ∧ sn < s1 ∧ 2 * s1 + ax ≤ 2 * sn + a ∧ px_s (tk hT ln) F 0 d ax = some a ∧ f1 Rd = .inr (7, [.ref tl, .int (nI ln), .int (nI a), .ref P]) ∧ f1 P = .inr (6, [.ref (g.lk P 0), .int (nI s1), .ref (g.lk P 2), .int (nI n1), .ref (g.lk P 4), .ref (g.lk P 5)]) ∧ SG g f1 P sn s1 ∧ nj g f1 P sn ∧ SRP g f1 P sn nn s1 n1 (ox_s (tk hT ln) (vc hT ln) F 0 d ax (sn + nn)) ∧ r = nI 1) ∨ (∃ (a s1 n1 : Nat), a ≤ ln ∧ s1 ≤ 36 ∧ n1 ≤ 72 ∧ px_s (tk hT ln) F 0 d ax = none ∧ f1 Rd = .inr (7, [.ref tl, .int (nI ln), .int (nI a), .ref P]) ∧ f1 P = .inr (6, [.ref (g.lk P 0), .int (nI s1), .ref (g.lk P 2), .int (nI n1), .ref (g.lk P 4), .ref (g.lk P 5)]) ∧ r = nI 0)) ∧ (∀ i, i < 36 → i < sn → f1 (g.lk (g.lk P 0) i) = f (g.lk (g.lk P 0) i)) ∧ (∀ i, i < 72 → i < nn → f1 (g.lk (g.lk P 2) i) = f (g.lk (g.lk P 2) i)) ∧ (IV g f1) ∧ (un [6, 7, 8, 10] g f f1)) (pc_out g sz) (pc_A g sz)) 0 0 (pc_A g sz)
def RL2 (l : Launch) (F : Nat) : Prop := ∀ (g : Lay) (sz : Nat) (f : Nat → va_E) (Rd : Nat) (tl : Nat) (ln : Nat) (ax : Nat) (P : Nat) (hT : Nat → Int32) (sn : Nat) (nn : Nat) (d : Nat) (hL : LO g) (t_Rd : g.tg Rd = 8) (t_tl : g.tg tl = 20) (t_P : g.tg P = 7) (hI : IV g f) (eR : f Rd = .inr (7, [.ref tl, .int (nI ln), .int (nI ax), .ref P])) (eT : f tl = .inl (g.ac tl, 72, .inl hT)) (cT : ∀ i, i < 72 → vp_nar .char (hT i) = hT i) (hln : ln ≤ 72) (hax : ax ≤ ln) (eP : f P = .inr (6, [.ref (g.lk P 0), .int (nI sn), .ref (g.lk P 2), .int (nI nn), .ref (g.lk P 4), .ref (g.lk P 5)])) (hsn : sn ≤ 36) (hnn : nn ≤ 72) (hna : nn ≤ ax) (h2s : 2 * sn + 1 ≤ ax) (hd : d ≤ 10) (hF : 2 * (ln - ax) + 2 ≤ F), Met l ⟨"BigRunner$Reader", "readLoop", "(I)Z"⟩ [Cond.code ⟨"BigRunner$Reader", "readLoop", "(I)Z"⟩ prog_8_method_7_code 3 (some .boolean)] ({ frames := 2 * F + 411, cells := 0, slots := 0, locals := 60 * F + 13030 }) (va_Pc [.ref Rd, .int (nI d)] (pc_in g sz f)) (va_Qi (fun r f1 => ((∃ (a s1 n1 : Nat), a ≤ ln ∧ ax < a ∧ s1 ≤ 36 ∧ n1 ≤ 72 ∧ n1 + ax ≤ nn + a ∧ nn ≤ n1 ∧ sn < s1 ∧ 2 * s1 + ax ≤ 2 * sn + a + 1 ∧ px_l (tk hT ln) F d ax = some a ∧ f1 Rd = .inr (7, [.ref tl, .int (nI ln), .int (nI a), .ref P]) ∧ f1 P = .inr (6, [.ref (g.lk P 0), .int (nI s1), .ref (g.lk P 2), .int (nI n1), .ref (g.lk P 4), .ref (g.lk P 5)]) ∧ SG g f1 P sn s1 ∧ nj g f1 P sn ∧ SRP g f1 P sn nn s1 n1 (ox_l (tk hT ln) (vc hT ln) F d ax (sn + nn)) ∧ r = nI 1) ∨ (∃ (a s1 n1 : Nat), a ≤ ln ∧ s1 ≤ 36 ∧ n1 ≤ 72 ∧ px_l (tk hT ln) F d ax = none ∧ f1 Rd = .inr (7, [.ref tl, .int (nI ln), .int (nI a), .ref P]) ∧ f1 P = .inr (6, [.ref (g.lk P 0), .int (nI s1), .ref (g.lk P 2), .int (nI n1), .ref (g.lk P 4), .ref (g.lk P 5)]) ∧ r = nI 0)) ∧ (∀ i, i < 36 → i < sn → f1 (g.lk (g.lk P 0) i) = f (g.lk (g.lk P 0) i)) ∧ (∀ i, i < 72 → i < nn → f1 (g.lk (g.lk P 2) i) = f (g.lk (g.lk P 2) i)) ∧ (IV g f1) ∧ (un [6, 7, 8, 10] g f f1)) (pc_out g sz) (pc_A g sz)) 0 0 (pc_A g sz)
def RC2 (l : Launch) (F : Nat) : Prop := ∀ (g : Lay) (sz : Nat) (f : Nat → va_E) (Rd : Nat) (tl : Nat) (ln : Nat) (ax : Nat) (P : Nat) (hT : Nat → Int32) (sn : Nat) (nn : Nat) (d : Nat) (hL : LO g) (t_Rd : g.tg Rd = 8) (t_tl : g.tg tl = 20) (t_P : g.tg P = 7) (hI : IV g f) (eR : f Rd = .inr (7, [.ref tl, .int (nI ln), .int (nI ax), .ref P])) (eT : f tl = .inl (g.ac tl, 72, .inl hT)) (cT : ∀ i, i < 72 → vp_nar .char (hT i) = hT i) (hln : ln ≤ 72) (hax : ax ≤ ln) (eP : f P = .inr (6, [.ref (g.lk P 0), .int (nI sn), .ref (g.lk P 2), .int (nI nn), .ref (g.lk P 4), .ref (g.lk P 5)])) (hsn : sn ≤ 36) (hnn : nn ≤ 72) (hna : nn ≤ ax) (h2s : 2 * sn + 1 ≤ ax) (hd : d ≤ 10) (hF : 2 * (ln - ax) + 2 ≤ F), Met l ⟨"BigRunner$Reader", "readChoice", "(I)Z"⟩ [Cond.code ⟨"BigRunner$Reader", "readChoice", "(I)Z"⟩ prog_8_method_8_code 4 (some .boolean)] ({ frames := 2 * F + 411, cells := 0, slots := 0, locals := 60 * F + 13030 }) (va_Pc [.ref Rd, .int (nI d)] (pc_in g sz f)) (va_Qi (fun r f1 => ((∃ (a s1 n1 : Nat), a ≤ ln ∧ ax < a ∧ s1 ≤ 36 ∧ n1 ≤ 72 ∧ n1 + ax ≤ nn + a ∧ nn ≤ n1 ∧ sn < s1 ∧ 2 * s1 + ax ≤ 2 * sn + a + 1 ∧ px_c (tk hT ln) F d ax = some a ∧ f1 Rd = .inr (7, [.ref tl, .int (nI ln), .int (nI a), .ref P]) ∧ f1 P = .inr (6, [.ref (g.lk P 0), .int (nI s1), .ref (g.lk P 2), .int (nI n1), .ref (g.lk P 4), .ref (g.lk P 5)]) ∧ SG g f1 P sn s1 ∧ nj g f1 P sn ∧ SRP g f1 P sn nn s1 n1 (ox_c (tk hT ln) (vc hT ln) F d ax (sn + nn)) ∧ r = nI 1) ∨ (∃ (a s1 n1 : Nat), a ≤ ln ∧ s1 ≤ 36 ∧ n1 ≤ 72 ∧ px_c (tk hT ln) F d ax = none ∧ f1 Rd = .inr (7, [.ref tl, .int (nI ln), .int (nI a), .ref P]) ∧ f1 P = .inr (6, [.ref (g.lk P 0), .int (nI s1), .ref (g.lk P 2), .int (nI n1), .ref (g.lk P 4), .ref (g.lk P 5)]) ∧ r = nI 0)) ∧ (∀ i, i < 36 → i < sn → f1 (g.lk (g.lk P 0) i) = f (g.lk (g.lk P 0) i)) ∧ (∀ i, i < 72 → i < nn → f1 (g.lk (g.lk P 2) i) = f (g.lk (g.lk P 2) i)) ∧ (IV g f1) ∧ (un [6, 7, 8, 10] g f f1)) (pc_out g sz) (pc_A g sz)) 0 0 (pc_A g sz)
set_option maxHeartbeats 4000000 in
set_option maxRecDepth 100000 in
theorem rl2_at (l : Launch) (F : Nat) (ih : ∀ F', F' ≤ F → RG2 l F' ∧ RS2 l F') : RL2 l F := by
  intro g sz f Rd tl ln ax P hT sn nn d hL t_Rd t_tl t_P hI eR eT cT hln hax eP hsn hnn hna h2s hd hF
  refine pe_ofW (cc := prog_8_method_7_code) (maxL := 3) (ret := (some .boolean)) (lv := [(0, .ref Rd), (1, .int (nI d))]) (by decide) (Nat.le_of_ble_eq_true rfl) rfl ?_
  intro p e s m args below meth c ls hx hb hr hml hlocks hown hB hP hK hD hsz hS hl
  subst hsz
  have hu : un [6, 7, 8, 10] g f f := un.rf
  have hfr : ∀ i, i < 36 → i < sn → f (g.lk (g.lk P 0) i) = f (g.lk (g.lk P 0) i) := fun _ _ _ => rfl
  have hfn : ∀ i, i < 72 → i < nn → f (g.lk (g.lk P 2) i) = f (g.lk (g.lk P 2) i) := fun _ _ _ => rfl
  refine lv_aload_n hx hb d_NReader_readLoop_0 rfl (lv_at hl 0 rfl) ?_
  refine lv_iconst (v := nI 3) hx hb d_NReader_readLoop_1 (by decide) ?_
  refine pcc_i (va_runV (C := "BigRunner$Reader") (As := [.int (nI 3)]) (rest := []) ⟨hx, hb, hml, hown, tb_nil⟩ (c_addSt l g s.heap.size f Rd tl ln ax P hT sn nn 3 hL t_Rd t_tl t_P hI eR eT cT (by omega) (by omega) eP (by omega) (by omega) (by omega) (by omega)) ⟨(callB_of 1 (tb_one (wd_480 hB _)) tb_good1 rfl rfl rfl (wd_73 hB _) (wd_477 hB _) (by decide +kernel) ⟨(show 1 ≤ 2 * F + 411 by omega), (show 21 ≤ 60 * F + 13030 by omega)⟩), (wd_479 hB _), (wd_6 hB _)⟩ ⟨pe_bl, pg_recv (ci := 7) hK hP (lo_in hL t_Rd (by decide)) eR rfl, pe_pre hB hK hP hD⟩ rfl rfl hl.1 rfl (lv_room (Nat.le_of_ble_eq_true rfl)) d_NReader_readLoop_2 ⟨Nat.le_of_ble_eq_true rfl, Nat.le_of_ble_eq_true rfl⟩) hS (fun r1 f2 H locs hq3 hP hD hS => ?_)
  obtain ⟨q_4, x1_5, xs_6, fr_7, hI1_8, hu1_9⟩ := hq3
  subst q_4
  have hu := hu.tr hu1_9 (by decide)
  have eR := hu1_9.at t_Rd (by decide) eR
  have eT := hu1_9.at t_tl (by decide) eT
  have hfr : ∀ i, i < 36 → i < sn → f2 (g.lk (g.lk P 0) i) = f (g.lk (g.lk P 0) i) := fun i h1 h2 => (fr_7 i h1 (by omega)).trans (hfr i h1 h2)
  have hfn : ∀ i, i < 72 → i < nn → f2 (g.lk (g.lk P 2) i) = f (g.lk (g.lk P 2) i) := fun i h1 h2 => (hu1_9 _ (by rw [lo_e25 hL _ (lo_k7_2 hL _ t_P) i h1]; decide)).trans (hfn i h1 h2)
  obtain ⟨nm_10, fn_11, la_12, ta_13, c14, c15, c16, c17, e18⟩ := xs_6
  refine lv_istore_n (lv' := [(2, .int (nI sn)), (0, .ref Rd), (1, .int (nI d))]) hx hb d_NReader_readLoop_5 rfl hl (by decide) rfl (fun ls hl => ?_)
  refine lv_aload_n hx hb d_NReader_readLoop_6 rfl (lv_at hl 1 rfl) ?_
  refine lv_iload_n hx hb d_NReader_readLoop_7 rfl (lv_at hl 0 rfl) ?_
  refine lv_iload_n hx hb d_NReader_readLoop_8 rfl (lv_at hl 2 rfl) ?_
  refine pcc_i (va_runV (C := "BigRunner$Reader") (As := [.int (nI sn), .int (nI d)]) (rest := []) ⟨hx, hb, hml, hown, tb_nil⟩ (c2_readExprOf l g H.size f2 Rd tl ln ax P hT ((sn + 1)) nn sn 3 nm_10 fn_11 la_12 ta_13 d hL t_Rd t_tl t_P hI1_8 eR eT cT (by omega) (by omega) x1_5 (by omega) (by omega) (by omega) e18 (by omega) (by omega) (by omega) c16 (by omega) (by omega) (by omega)) ⟨(callB_of 2 (tb_one (wd_488 hB _)) tb_good1 rfl rfl rfl (wd_73 hB _) (wd_485 hB _) (by decide +kernel) ⟨(show 405 ≤ 2 * F + 411 by omega), (show 12247 ≤ 60 * F + 13030 by omega)⟩), (wd_487 hB _), (wd_8 hB _)⟩ ⟨pe_bl, pg_recv (ci := 7) hK hP (lo_in hL t_Rd (by decide)) eR rfl, pe_pre hB hK hP hD⟩ rfl rfl hl.1 rfl (lv_room (Nat.le_of_ble_eq_true rfl)) d_NReader_readLoop_9 ⟨Nat.le_of_ble_eq_true rfl, Nat.le_of_ble_eq_true rfl⟩) hS (fun r19 f20 H locs hq21 hP hD hS => ?_)
  obtain ⟨rs_22, fr_23, frn_24, hI1_25, hu1_26⟩ := hq21
  have hu := hu.tr hu1_26 (by decide)
  have eT := hu1_26.at t_tl (by decide) eT
  have hfr : ∀ i, i < 36 → i < sn → f20 (g.lk (g.lk P 0) i) = f (g.lk (g.lk P 0) i) := fun i h1 h2 => (fr_23 i h1 (by omega)).trans (hfr i h1 h2)
  have hfn : ∀ i, i < 72 → i < nn → f20 (g.lk (g.lk P 2) i) = f (g.lk (g.lk P 2) i) := fun i h1 h2 => (frn_24 i h1 (by omega)).trans (hfn i h1 h2)
  rcases rs_22 with ⟨a27, n28, j29, c35, c36, c37, c38, c39, c40, hp33, e30, e31, hx_34, e32, rfl⟩ | ⟨a27, n28, c35, c36, hp33, e30, e31, rfl⟩
  · skip
    have hfb41 : ∀ i, i < 72 → i < n28 → f20 (g.lk (g.lk P 2) i) = f20 (g.lk (g.lk P 2) i) := fun _ _ _ => rfl
    refine lv_if_eq (tgt := 43) hx hb d_NReader_readLoop_12 (by decide) (fun b42 => ?_) (fun b42 => ?_)
    · skip
      replace b42 := (nI_eq (a := 1) (b := 0) (by omega) (by omega)).mp b42
      exfalso; omega
    · skip
      replace b42 := mt (nI_eq (a := 1) (b := 0) (by omega) (by omega)).mpr b42
      refine lv_aload_n hx hb d_NReader_readLoop_15 rfl (lv_at hl 1 rfl) ?_
      refine lv_bipush (v := nI 58) hx hb d_NReader_readLoop_16 (by decide) ?_
      refine pcc_i (va_runV (C := "BigRunner$Reader") (As := [.int (nI 58)]) (rest := []) ⟨hx, hb, hml, hown, tb_nil⟩ (c_accept l g H.size f20 Rd tl ln a27 P hT 58 hL t_Rd t_tl t_P hI1_25 e30 eT cT (by omega) (by omega) (by decide)) ⟨(callB_of 1 (tb_one (wd_472 hB _)) tb_good1 rfl rfl rfl (wd_73 hB _) (wd_469 hB _) (by decide +kernel) ⟨(show 2 ≤ 2 * F + 411 by omega), (show 41 ≤ 60 * F + 13030 by omega)⟩), (wd_471 hB _), (wd_4 hB _)⟩ ⟨pe_bl, pg_recv (ci := 7) hK hP (lo_in hL t_Rd (by decide)) e30 rfl, pe_pre hB hK hP hD⟩ rfl rfl hl.1 rfl (lv_room (Nat.le_of_ble_eq_true rfl)) d_NReader_readLoop_18 ⟨Nat.le_of_ble_eq_true rfl, Nat.le_of_ble_eq_true rfl⟩) hS (fun r43 f44 H locs hq45 hP hD hS => ?_)
      obtain ⟨bo_46, i0_47, i1_48, hI1_49, hu1_50⟩ := hq45
      have hu := hu.tr hu1_50 (by decide)
      have eT := hu1_50.at t_tl (by decide) eT
      have e31 := hu1_50.at t_P (by decide) e31
      have e32 := hu1_50.at (lo_e24 hL _ (lo_k7_0 hL _ t_P) _ (by omega)) (by decide) e32
      have hfr : ∀ i, i < 36 → i < sn → f44 (g.lk (g.lk P 0) i) = f (g.lk (g.lk P 0) i) := fun i h1 h2 => (hu1_50 _ (by rw [lo_e24 hL _ (lo_k7_0 hL _ t_P) i h1]; decide)).trans (hfr i h1 h2)
      have hfn : ∀ i, i < 72 → i < nn → f44 (g.lk (g.lk P 2) i) = f (g.lk (g.lk P 2) i) := fun i h1 h2 => (hu1_50 _ (by rw [lo_e25 hL _ (lo_k7_2 hL _ t_P) i h1]; decide)).trans (hfn i h1 h2)
      have hfb41 : ∀ i, i < 72 → i < n28 → f44 (g.lk (g.lk P 2) i) = f20 (g.lk (g.lk P 2) i) := fun i h1 h2 => (hu1_50 _ (by rw [lo_e25 hL _ (lo_k7_2 hL _ t_P) i h1]; decide)).trans (hfb41 i h1 h2)
      refine lv_if_eq (tgt := 43) hx hb d_NReader_readLoop_21 (by decide) (fun b51 => ?_) (fun b51 => ?_)
      · skip
        have hr52 : r43 = nI 0 := b51
        have hi53 := i0_47 hr52
        obtain ⟨hc54, e55⟩ := hi53
        have hk56 : tk hT ln a27 ≠ 15 := fun z => hc54 (kc_15.mp z)
        refine lv_iconst (v := nI 0) hx hb d_NReader_readLoop_43 (by decide) ?_
        exact pe_zret hx hb hr hlocks hK hP hD hS d_NReader_readLoop_44 rfl ⟨(Or.inr ⟨a27, sn + 1, n28, by omega, by omega, by omega, (by unfold px_l; rw [hp33]; show (if _ then _ else _) = _; exact if_neg hk56), e55, e31, rfl⟩), hfr, hfn, hI1_49, hu⟩
      · skip
        have hr57 : r43 = nI 1 := (bl_1 bo_46 b51)
        have hi58 := i1_48 hr57
        obtain ⟨hc59, hl62, e60⟩ := hi58
        have hk61 : tk hT ln a27 = 15 := kc_15.mpr hc59
        refine lv_aload_n hx hb d_NReader_readLoop_24 rfl (lv_at hl 1 rfl) ?_
        refine lv_iload_n hx hb d_NReader_readLoop_25 rfl (lv_at hl 2 rfl) ?_
        refine lv_iconst (v := nI 1) hx hb d_NReader_readLoop_26 (by decide) ?_
        refine pf_iaddN (x := d) (y := 1) hx hb d_NReader_readLoop_27 ?_
        refine pcc_i (va_runV (C := "BigRunner$Reader") (As := [.int (nI (d + 1))]) (rest := []) ⟨hx, hb, hml, hown, tb_nil⟩ ((ih F (by omega)).1 g H.size f44 Rd tl ln ((a27 + 1)) P hT ((sn + 1)) n28 ((d + 1)) hL t_Rd t_tl t_P hI1_49 e60 eT cT (by omega) (by omega) e31 (by omega) (by omega) (by omega) (by omega) (by omega) (by omega)) ⟨(callB_of 1 (tb_one (wd_464 hB _)) tb_good1 rfl rfl rfl (wd_73 hB _) (wd_461 hB _) (by decide +kernel) ⟨(show 2 * F + 410 + 1 ≤ 2 * F + 411 by omega), (show 8 + (3 + 11) + (60 * F + 13000) ≤ 60 * F + 13030 by omega)⟩), (wd_463 hB _), (wd_2 hB _)⟩ ⟨pe_bl, pg_recv (ci := 7) hK hP (lo_in hL t_Rd (by decide)) e60 rfl, pe_pre hB hK hP hD⟩ rfl rfl hl.1 rfl (lv_room (Nat.le_of_ble_eq_true rfl)) d_NReader_readLoop_28 ⟨Nat.le_of_ble_eq_true rfl, Nat.le_of_ble_eq_true rfl⟩) hS (fun r63 f64 H locs hq65 hP hD hS => ?_)
        obtain ⟨rs_66, fr_67, frn_68, hI1_69, hu1_70⟩ := hq65
        have hu := hu.tr hu1_70 (by decide)
        have eT := hu1_70.at t_tl (by decide) eT
        have hfr : ∀ i, i < 36 → i < sn → f64 (g.lk (g.lk P 0) i) = f (g.lk (g.lk P 0) i) := fun i h1 h2 => (fr_67 i h1 (by omega)).trans (hfr i h1 h2)
        have hfn : ∀ i, i < 72 → i < nn → f64 (g.lk (g.lk P 2) i) = f (g.lk (g.lk P 2) i) := fun i h1 h2 => (frn_68 i h1 (by omega)).trans (hfn i h1 h2)
        have hfb41 : ∀ i, i < 72 → i < n28 → f64 (g.lk (g.lk P 2) i) = f20 (g.lk (g.lk P 2) i) := fun i h1 h2 => (frn_68 i h1 (by omega)).trans (hfb41 i h1 h2)
        have e71 := (fr_67 sn (by omega) (by omega)).trans e32
        rcases rs_66 with ⟨a72, s73, n74, c81, c82, c83, c84, c85, c86, c87, c88, hp77, e75, e76, hsg78, hnj79, hsp80, rfl⟩ | ⟨a72, s73, n74, c81, c82, c83, hp77, e75, e76, rfl⟩
        · skip
          have hfb89 : ∀ i, i < 72 → i < n74 → f64 (g.lk (g.lk P 2) i) = f64 (g.lk (g.lk P 2) i) := fun _ _ _ => rfl
          have hfi : ∀ i, i < 36 → sn + 1 ≤ i ∧ i < s73 → f64 (g.lk (g.lk P 0) i) = f64 (g.lk (g.lk P 0) i) := fun _ _ _ => rfl
          refine lv_if_eq (tgt := 43) hx hb d_NReader_readLoop_31 (by decide) (fun b90 => ?_) (fun b90 => ?_)
          · skip
            replace b90 := (nI_eq (a := 1) (b := 0) (by omega) (by omega)).mp b90
            exfalso; omega
          · skip
            replace b90 := mt (nI_eq (a := 1) (b := 0) (by omega) (by omega)).mpr b90
            refine lv_aload_n hx hb d_NReader_readLoop_34 rfl (lv_at hl 1 rfl) ?_
            refine lv_bipush (v := nI 93) hx hb d_NReader_readLoop_35 (by decide) ?_
            refine pcc_i (va_runV (C := "BigRunner$Reader") (As := [.int (nI 93)]) (rest := []) ⟨hx, hb, hml, hown, tb_nil⟩ (c_accept l g H.size f64 Rd tl ln a72 P hT 93 hL t_Rd t_tl t_P hI1_69 e75 eT cT (by omega) (by omega) (by decide)) ⟨(callB_of 1 (tb_one (wd_472 hB _)) tb_good1 rfl rfl rfl (wd_73 hB _) (wd_469 hB _) (by decide +kernel) ⟨(show 2 ≤ 2 * F + 411 by omega), (show 41 ≤ 60 * F + 13030 by omega)⟩), (wd_471 hB _), (wd_4 hB _)⟩ ⟨pe_bl, pg_recv (ci := 7) hK hP (lo_in hL t_Rd (by decide)) e75 rfl, pe_pre hB hK hP hD⟩ rfl rfl hl.1 rfl (lv_room (Nat.le_of_ble_eq_true rfl)) d_NReader_readLoop_37 ⟨Nat.le_of_ble_eq_true rfl, Nat.le_of_ble_eq_true rfl⟩) hS (fun r91 f92 H locs hq93 hP hD hS => ?_)
            obtain ⟨bo_94, i0_95, i1_96, hI1_97, hu1_98⟩ := hq93
            have hu := hu.tr hu1_98 (by decide)
            have eT := hu1_98.at t_tl (by decide) eT
            have e71 := hu1_98.at (lo_e24 hL _ (lo_k7_0 hL _ t_P) _ (by omega)) (by decide) e71
            have e76 := hu1_98.at t_P (by decide) e76
            have hfr : ∀ i, i < 36 → i < sn → f92 (g.lk (g.lk P 0) i) = f (g.lk (g.lk P 0) i) := fun i h1 h2 => (hu1_98 _ (by rw [lo_e24 hL _ (lo_k7_0 hL _ t_P) i h1]; decide)).trans (hfr i h1 h2)
            have hfi : ∀ i, i < 36 → sn + 1 ≤ i ∧ i < s73 → f92 (g.lk (g.lk P 0) i) = f64 (g.lk (g.lk P 0) i) := fun i h1 h2 => (hu1_98 _ (by rw [lo_e24 hL _ (lo_k7_0 hL _ t_P) i h1]; decide)).trans (hfi i h1 h2)
            have hfn : ∀ i, i < 72 → i < nn → f92 (g.lk (g.lk P 2) i) = f (g.lk (g.lk P 2) i) := fun i h1 h2 => (hu1_98 _ (by rw [lo_e25 hL _ (lo_k7_2 hL _ t_P) i h1]; decide)).trans (hfn i h1 h2)
            have hfb41 : ∀ i, i < 72 → i < n28 → f92 (g.lk (g.lk P 2) i) = f20 (g.lk (g.lk P 2) i) := fun i h1 h2 => (hu1_98 _ (by rw [lo_e25 hL _ (lo_k7_2 hL _ t_P) i h1]; decide)).trans (hfb41 i h1 h2)
            have hfb89 : ∀ i, i < 72 → i < n74 → f92 (g.lk (g.lk P 2) i) = f64 (g.lk (g.lk P 2) i) := fun i h1 h2 => (hu1_98 _ (by rw [lo_e25 hL _ (lo_k7_2 hL _ t_P) i h1]; decide)).trans (hfb89 i h1 h2)
            refine lv_if_ne (tgt := 45) hx hb d_NReader_readLoop_40 (by decide) (fun b99 => ?_) (fun b99 => ?_)
            · skip
              have hr100 : r91 = nI 1 := (bl_1 bo_94 b99)
              have hi101 := i1_96 hr100
              obtain ⟨hc102, hl105, e103⟩ := hi101
              have hk104 : tk hT ln a72 = 11 := kc_11.mpr hc102
              refine lv_aload_n hx hb d_NReader_readLoop_45 rfl (lv_at hl 1 rfl) ?_
              refine lv_aload_n hx hb d_NReader_readLoop_46 rfl (lv_at hl 1 rfl) ?_
              refine lv_iconst (v := nI 5) hx hb d_NReader_readLoop_47 (by decide) ?_
              refine pcc_i (va_runV (C := "BigRunner$Reader") (As := [.int (nI 5)]) (rest := [.ref Rd]) ⟨hx, hb, hml, hown, tb_nil⟩ (c_addSt l g H.size f92 Rd tl ln ((a72 + 1)) P hT s73 n74 5 hL t_Rd t_tl t_P hI1_97 e103 eT cT (by omega) (by omega) e76 (by omega) (by omega) (by omega) (by omega)) ⟨(callB_of 1 (tb_one (wd_480 hB _)) tb_good1 rfl rfl rfl (wd_73 hB _) (wd_477 hB _) (by decide +kernel) ⟨(show 1 ≤ 2 * F + 411 by omega), (show 21 ≤ 60 * F + 13030 by omega)⟩), (wd_479 hB _), (wd_6 hB _)⟩ ⟨pe_bl, pg_recv (ci := 7) hK hP (lo_in hL t_Rd (by decide)) e103 rfl, pe_pre hB hK hP hD⟩ rfl rfl hl.1 rfl (lv_room (Nat.le_of_ble_eq_true rfl)) d_NReader_readLoop_48 ⟨Nat.le_of_ble_eq_true rfl, Nat.le_of_ble_eq_true rfl⟩) hS (fun r106 f107 H locs hq108 hP hD hS => ?_)
              obtain ⟨q_109, x1_110, xs_111, fr_112, hI1_113, hu1_114⟩ := hq108
              subst q_109
              have hu := hu.tr hu1_114 (by decide)
              have eT := hu1_114.at t_tl (by decide) eT
              have e103 := hu1_114.at t_Rd (by decide) e103
              have hfr : ∀ i, i < 36 → i < sn → f107 (g.lk (g.lk P 0) i) = f (g.lk (g.lk P 0) i) := fun i h1 h2 => (fr_112 i h1 (by omega)).trans (hfr i h1 h2)
              have hfi : ∀ i, i < 36 → sn + 1 ≤ i ∧ i < s73 → f107 (g.lk (g.lk P 0) i) = f64 (g.lk (g.lk P 0) i) := fun i h1 h2 => (fr_112 i h1 (by omega)).trans (hfi i h1 h2)
              have hfn : ∀ i, i < 72 → i < nn → f107 (g.lk (g.lk P 2) i) = f (g.lk (g.lk P 2) i) := fun i h1 h2 => (hu1_114 _ (by rw [lo_e25 hL _ (lo_k7_2 hL _ t_P) i h1]; decide)).trans (hfn i h1 h2)
              have hfb41 : ∀ i, i < 72 → i < n28 → f107 (g.lk (g.lk P 2) i) = f20 (g.lk (g.lk P 2) i) := fun i h1 h2 => (hu1_114 _ (by rw [lo_e25 hL _ (lo_k7_2 hL _ t_P) i h1]; decide)).trans (hfb41 i h1 h2)
              have hfb89 : ∀ i, i < 72 → i < n74 → f107 (g.lk (g.lk P 2) i) = f64 (g.lk (g.lk P 2) i) := fun i h1 h2 => (hu1_114 _ (by rw [lo_e25 hL _ (lo_k7_2 hL _ t_P) i h1]; decide)).trans (hfb89 i h1 h2)
              obtain ⟨nm_115, fn_116, la_117, ta_118, c119, c120, c121, c122, e123⟩ := xs_111
              have e124 := (fr_112 sn (by omega) (by omega)).trans e71
              refine lv_iload_n hx hb d_NReader_readLoop_51 rfl (lv_at hl 0 rfl) ?_
              refine pcc_i (va_runV (C := "BigRunner$Reader") (As := [.int (nI s73), .int (nI sn)]) (rest := []) ⟨hx, hb, hml, hown, tb_nil⟩ (c_aim l g H.size f107 Rd tl ln ((a72 + 1)) P hT ((s73 + 1)) n74 s73 5 nm_115 fn_116 la_117 ta_118 sn hL t_Rd t_tl t_P hI1_113 e103 eT cT (by omega) (by omega) x1_110 (by omega) (by omega) (by omega) e123 (by omega) (by omega) (by omega) c121 (by omega) (by omega)) ⟨(callB_of 2 (tb_one (wd_516 hB _)) tb_good1 rfl rfl rfl (wd_73 hB _) (wd_513 hB _) (by decide +kernel) ⟨(show 1 ≤ 2 * F + 411 by omega), (show 22 ≤ 60 * F + 13030 by omega)⟩), (wd_515 hB _), (wd_15 hB _)⟩ ⟨pe_bl, pg_recv (ci := 7) hK hP (lo_in hL t_Rd (by decide)) e103 rfl, pe_pre hB hK hP hD⟩ rfl rfl hl.1 rfl (lv_room (Nat.le_of_ble_eq_true rfl)) d_NReader_readLoop_52 ⟨Nat.le_of_ble_eq_true rfl, Nat.le_of_ble_eq_true rfl⟩) hS (fun r125 f126 H locs hq127 hP hD hS => ?_)
              obtain ⟨q_128, x1_129, fr_130, hI1_131, hu1_132⟩ := hq127
              subst q_128
              have hu := hu.tr hu1_132 (by decide)
              have eT := hu1_132.at t_tl (by decide) eT
              have e103 := hu1_132.at t_Rd (by decide) e103
              have x1_110 := hu1_132.at t_P (by decide) x1_110
              have hfr : ∀ i, i < 36 → i < sn → f126 (g.lk (g.lk P 0) i) = f (g.lk (g.lk P 0) i) := fun i h1 h2 => (fr_130 i h1 (by omega)).trans (hfr i h1 h2)
              have hfi : ∀ i, i < 36 → sn + 1 ≤ i ∧ i < s73 → f126 (g.lk (g.lk P 0) i) = f64 (g.lk (g.lk P 0) i) := fun i h1 h2 => (fr_130 i h1 (by omega)).trans (hfi i h1 h2)
              have hfn : ∀ i, i < 72 → i < nn → f126 (g.lk (g.lk P 2) i) = f (g.lk (g.lk P 2) i) := fun i h1 h2 => (hu1_132 _ (by rw [lo_e25 hL _ (lo_k7_2 hL _ t_P) i h1]; decide)).trans (hfn i h1 h2)
              have hfb41 : ∀ i, i < 72 → i < n28 → f126 (g.lk (g.lk P 2) i) = f20 (g.lk (g.lk P 2) i) := fun i h1 h2 => (hu1_132 _ (by rw [lo_e25 hL _ (lo_k7_2 hL _ t_P) i h1]; decide)).trans (hfb41 i h1 h2)
              have hfb89 : ∀ i, i < 72 → i < n74 → f126 (g.lk (g.lk P 2) i) = f64 (g.lk (g.lk P 2) i) := fun i h1 h2 => (hu1_132 _ (by rw [lo_e25 hL _ (lo_k7_2 hL _ t_P) i h1]; decide)).trans (hfb89 i h1 h2)
              have e133 := (fr_130 sn (by omega) (by omega)).trans e124
              refine lv_if_eq (tgt := 77) hx hb d_NReader_readLoop_55 (by decide) (fun b134 => ?_) (fun b134 => ?_)
              · skip
                replace b134 := (nI_eq (a := 1) (b := 0) (by omega) (by omega)).mp b134
                exfalso; omega
              · skip
                replace b134 := mt (nI_eq (a := 1) (b := 0) (by omega) (by omega)).mpr b134
                refine lv_aload_n hx hb d_NReader_readLoop_58 rfl (lv_at hl 1 rfl) ?_
                refine lv_iload_n hx hb d_NReader_readLoop_59 rfl (lv_at hl 0 rfl) ?_
                refine lv_aload_n hx hb d_NReader_readLoop_60 rfl (lv_at hl 1 rfl) ?_
                refine pf_get (v := .ref P) (C := "BigRunner$Reader") (T := FT7) (N := 4) hx hb (hw7 hB _) (fun _ h9 => h9) hown hK hP (lo_in hL t_Rd (by decide)) e103 rfl 3 (by decide) (wd_273 hB _) rfl d_NReader_readLoop_61 ?_
                refine pf_get (v := .int (nI (s73 + 1))) (C := "BigRunner$Program") (T := FT6) (N := 6) hx hb (hw6 hB _) (fun _ h9 => h9) hown hK hP (lo_in hL t_P (by decide)) x1_110 rfl 1 (by decide) (wd_246 hB _) rfl d_NReader_readLoop_64 ?_
                refine pcc_i (va_runV (C := "BigRunner$Reader") (As := [.int (nI sn), .int (nI (s73 + 1))]) (rest := []) ⟨hx, hb, hml, hown, tb_nil⟩ (c_aim l g H.size f126 Rd tl ln ((a72 + 1)) P hT ((s73 + 1)) n74 sn 3 nm_10 nn ((nI j29)) ta_13 ((s73 + 1)) hL t_Rd t_tl t_P hI1_131 e103 eT cT (by omega) (by omega) x1_110 (by omega) (by omega) (by omega) e133 (by omega) (by omega) (by omega) (Or.inr ⟨_, by omega, rfl⟩) (by omega) (by omega)) ⟨(callB_of 2 (tb_one (wd_516 hB _)) tb_good1 rfl rfl rfl (wd_73 hB _) (wd_513 hB _) (by decide +kernel) ⟨(show 1 ≤ 2 * F + 411 by omega), (show 22 ≤ 60 * F + 13030 by omega)⟩), (wd_515 hB _), (wd_15 hB _)⟩ ⟨pe_bl, pg_recv (ci := 7) hK hP (lo_in hL t_Rd (by decide)) e103 rfl, pe_pre hB hK hP hD⟩ rfl rfl hl.1 rfl (lv_room (Nat.le_of_ble_eq_true rfl)) d_NReader_readLoop_67 ⟨Nat.le_of_ble_eq_true rfl, Nat.le_of_ble_eq_true rfl⟩) hS (fun r135 f136 H locs hq137 hP hD hS => ?_)
                obtain ⟨q_138, x1_139, fr_140, hI1_141, hu1_142⟩ := hq137
                subst q_138
                have hu := hu.tr hu1_142 (by decide)
                have eT := hu1_142.at t_tl (by decide) eT
                have e103 := hu1_142.at t_Rd (by decide) e103
                have x1_110 := hu1_142.at t_P (by decide) x1_110
                have hfr : ∀ i, i < 36 → i < sn → f136 (g.lk (g.lk P 0) i) = f (g.lk (g.lk P 0) i) := fun i h1 h2 => (fr_140 i h1 (by omega)).trans (hfr i h1 h2)
                have hfi : ∀ i, i < 36 → sn + 1 ≤ i ∧ i < s73 → f136 (g.lk (g.lk P 0) i) = f64 (g.lk (g.lk P 0) i) := fun i h1 h2 => (fr_140 i h1 (by omega)).trans (hfi i h1 h2)
                have hfn : ∀ i, i < 72 → i < nn → f136 (g.lk (g.lk P 2) i) = f (g.lk (g.lk P 2) i) := fun i h1 h2 => (hu1_142 _ (by rw [lo_e25 hL _ (lo_k7_2 hL _ t_P) i h1]; decide)).trans (hfn i h1 h2)
                have hfb41 : ∀ i, i < 72 → i < n28 → f136 (g.lk (g.lk P 2) i) = f20 (g.lk (g.lk P 2) i) := fun i h1 h2 => (hu1_142 _ (by rw [lo_e25 hL _ (lo_k7_2 hL _ t_P) i h1]; decide)).trans (hfb41 i h1 h2)
                have hfb89 : ∀ i, i < 72 → i < n74 → f136 (g.lk (g.lk P 2) i) = f64 (g.lk (g.lk P 2) i) := fun i h1 h2 => (hu1_142 _ (by rw [lo_e25 hL _ (lo_k7_2 hL _ t_P) i h1]; decide)).trans (hfb89 i h1 h2)
                have e143 := (fr_140 s73 (by omega) (by omega)).trans x1_129
                refine lv_if_eq (tgt := 77) hx hb d_NReader_readLoop_70 (by decide) (fun b144 => ?_) (fun b144 => ?_)
                · skip
                  replace b144 := (nI_eq (a := 1) (b := 0) (by omega) (by omega)).mp b144
                  exfalso; omega
                · skip
                  replace b144 := mt (nI_eq (a := 1) (b := 0) (by omega) (by omega)).mpr b144
                  refine lv_iconst (v := nI 1) hx hb d_NReader_readLoop_73 (by decide) ?_
                  refine lv_goto (tgt := 78) hx hb d_NReader_readLoop_74 (by decide) ?_
                  exact pe_zret hx hb hr hlocks hK hP hD hS d_NReader_readLoop_78 rfl ⟨(Or.inl ⟨a72 + 1, s73 + 1, n74, by omega, by omega, by omega, by omega, by omega, by omega, by omega, by omega, (by unfold px_l; rw [hp33]; show (if _ then _ else _) = _; rw [if_pos hk61, hp77]; exact if_pos hk104), e103, x1_110, (SG_back (SG_app (b := sn + 1) (by omega) (by omega) (SG_one x1_139 (by omega) (by omega) (by omega) (by omega) (fun _ => ⟨_, by omega, rfl⟩)) (SG_eq hsg78 (fun i q1 q2 => hfi i (by omega) (by omega)))) e143 (by omega) (by omega) (by omega) (by omega) (by omega) (nj_of x1_139 (by omega))), (nj_of x1_139 (by omega)), (by unfold ox_l; rw [hp33, Option.getD_some]; exact SRP_loop (XR_eq hx_34 (fun i q1 q2 => hfb41 i (by omega) (by omega))) x1_139 (by rw [← c40]; exact congrArg nI (show j29 = n28 - 1 by omega)) (by have z9 := (SRP_eq hsp80 (fun i q1 q2 => hfi i (by omega) (by omega)) (fun i q1 q2 => hfb89 i (by omega) (by omega))); rw [c40, show sn + 1 + (nn + (ox_e (tk hT ln) (vc hT ln) 400 1 d ax).length) = sn + nn + (ox_e (tk hT ln) (vc hT ln) 400 1 d ax).length + 1 by omega] at z9; exact z9) e143 (by omega) (by omega) (by omega) (by omega) rfl), rfl⟩), hfr, hfn, hI1_141, hu⟩
            · skip
              have hr145 : r91 = nI 0 := b99
              have hi146 := i0_95 hr145
              obtain ⟨hc147, e148⟩ := hi146
              have hk149 : tk hT ln a72 ≠ 11 := fun z => hc147 (kc_11.mp z)
              refine lv_iconst (v := nI 0) hx hb d_NReader_readLoop_43 (by decide) ?_
              exact pe_zret hx hb hr hlocks hK hP hD hS d_NReader_readLoop_44 rfl ⟨(Or.inr ⟨a72, s73, n74, by omega, by omega, by omega, (by unfold px_l; rw [hp33]; show (if _ then _ else _) = _; rw [if_pos hk61, hp77]; exact if_neg hk149), e148, e76, rfl⟩), hfr, hfn, hI1_97, hu⟩
        · skip
          refine lv_if_eq (tgt := 43) hx hb d_NReader_readLoop_31 (by decide) (fun b150 => ?_) (fun b150 => ?_)
          · skip
            replace b150 := (nI_eq (a := 0) (b := 0) (by omega) (by omega)).mp b150
            refine lv_iconst (v := nI 0) hx hb d_NReader_readLoop_43 (by decide) ?_
            exact pe_zret hx hb hr hlocks hK hP hD hS d_NReader_readLoop_44 rfl ⟨(Or.inr ⟨a72, s73, n74, by omega, by omega, by omega, (by unfold px_l; rw [hp33]; show (if _ then _ else _) = _; rw [if_pos hk61, hp77]; rfl), e75, e76, rfl⟩), hfr, hfn, hI1_69, hu⟩
          · skip
            replace b150 := mt (nI_eq (a := 0) (b := 0) (by omega) (by omega)).mpr b150
            exfalso; omega
  · skip
    refine lv_if_eq (tgt := 43) hx hb d_NReader_readLoop_12 (by decide) (fun b151 => ?_) (fun b151 => ?_)
    · skip
      replace b151 := (nI_eq (a := 0) (b := 0) (by omega) (by omega)).mp b151
      refine lv_iconst (v := nI 0) hx hb d_NReader_readLoop_43 (by decide) ?_
      exact pe_zret hx hb hr hlocks hK hP hD hS d_NReader_readLoop_44 rfl ⟨(Or.inr ⟨a27, sn + 1, n28, by omega, by omega, by omega, (by unfold px_l; rw [hp33]; rfl), e30, e31, rfl⟩), hfr, hfn, hI1_25, hu⟩
    · skip
      replace b151 := mt (nI_eq (a := 0) (b := 0) (by omega) (by omega)).mpr b151
      exfalso; omega
set_option maxHeartbeats 4000000 in
set_option maxRecDepth 100000 in
theorem rc2_at (l : Launch) (F : Nat) (ih : ∀ F', F' ≤ F → RG2 l F' ∧ RS2 l F') : RC2 l F := by
  intro g sz f Rd tl ln ax P hT sn nn d hL t_Rd t_tl t_P hI eR eT cT hln hax eP hsn hnn hna h2s hd hF
  refine pe_ofW (cc := prog_8_method_8_code) (maxL := 4) (ret := (some .boolean)) (lv := [(0, .ref Rd), (1, .int (nI d))]) (by decide) (Nat.le_of_ble_eq_true rfl) rfl ?_
  intro p e s m args below meth c ls hx hb hr hml hlocks hown hB hP hK hD hsz hS hl
  subst hsz
  have hu : un [6, 7, 8, 10] g f f := un.rf
  have hfr : ∀ i, i < 36 → i < sn → f (g.lk (g.lk P 0) i) = f (g.lk (g.lk P 0) i) := fun _ _ _ => rfl
  have hfn : ∀ i, i < 72 → i < nn → f (g.lk (g.lk P 2) i) = f (g.lk (g.lk P 2) i) := fun _ _ _ => rfl
  refine lv_aload_n hx hb d_NReader_readChoice_0 rfl (lv_at hl 0 rfl) ?_
  refine lv_iconst (v := nI 4) hx hb d_NReader_readChoice_1 (by decide) ?_
  refine pcc_i (va_runV (C := "BigRunner$Reader") (As := [.int (nI 4)]) (rest := []) ⟨hx, hb, hml, hown, tb_nil⟩ (c_addSt l g s.heap.size f Rd tl ln ax P hT sn nn 4 hL t_Rd t_tl t_P hI eR eT cT (by omega) (by omega) eP (by omega) (by omega) (by omega) (by omega)) ⟨(callB_of 1 (tb_one (wd_480 hB _)) tb_good1 rfl rfl rfl (wd_73 hB _) (wd_477 hB _) (by decide +kernel) ⟨(show 1 ≤ 2 * F + 411 by omega), (show 21 ≤ 60 * F + 13030 by omega)⟩), (wd_479 hB _), (wd_6 hB _)⟩ ⟨pe_bl, pg_recv (ci := 7) hK hP (lo_in hL t_Rd (by decide)) eR rfl, pe_pre hB hK hP hD⟩ rfl rfl hl.1 rfl (lv_room (Nat.le_of_ble_eq_true rfl)) d_NReader_readChoice_2 ⟨Nat.le_of_ble_eq_true rfl, Nat.le_of_ble_eq_true rfl⟩) hS (fun r1 f2 H locs hq3 hP hD hS => ?_)
  obtain ⟨q_4, x1_5, xs_6, fr_7, hI1_8, hu1_9⟩ := hq3
  subst q_4
  have hu := hu.tr hu1_9 (by decide)
  have eR := hu1_9.at t_Rd (by decide) eR
  have eT := hu1_9.at t_tl (by decide) eT
  have hfr : ∀ i, i < 36 → i < sn → f2 (g.lk (g.lk P 0) i) = f (g.lk (g.lk P 0) i) := fun i h1 h2 => (fr_7 i h1 (by omega)).trans (hfr i h1 h2)
  have hfn : ∀ i, i < 72 → i < nn → f2 (g.lk (g.lk P 2) i) = f (g.lk (g.lk P 2) i) := fun i h1 h2 => (hu1_9 _ (by rw [lo_e25 hL _ (lo_k7_2 hL _ t_P) i h1]; decide)).trans (hfn i h1 h2)
  obtain ⟨nm_10, fn_11, la_12, ta_13, c14, c15, c16, c17, e18⟩ := xs_6
  refine lv_istore_n (lv' := [(2, .int (nI sn)), (0, .ref Rd), (1, .int (nI d))]) hx hb d_NReader_readChoice_5 rfl hl (by decide) rfl (fun ls hl => ?_)
  refine lv_aload_n hx hb d_NReader_readChoice_6 rfl (lv_at hl 1 rfl) ?_
  refine lv_iload_n hx hb d_NReader_readChoice_7 rfl (lv_at hl 0 rfl) ?_
  refine lv_iload_n hx hb d_NReader_readChoice_8 rfl (lv_at hl 2 rfl) ?_
  refine pcc_i (va_runV (C := "BigRunner$Reader") (As := [.int (nI sn), .int (nI d)]) (rest := []) ⟨hx, hb, hml, hown, tb_nil⟩ (c2_readExprOf l g H.size f2 Rd tl ln ax P hT ((sn + 1)) nn sn 4 nm_10 fn_11 la_12 ta_13 d hL t_Rd t_tl t_P hI1_8 eR eT cT (by omega) (by omega) x1_5 (by omega) (by omega) (by omega) e18 (by omega) (by omega) (by omega) c16 (by omega) (by omega) (by omega)) ⟨(callB_of 2 (tb_one (wd_488 hB _)) tb_good1 rfl rfl rfl (wd_73 hB _) (wd_485 hB _) (by decide +kernel) ⟨(show 405 ≤ 2 * F + 411 by omega), (show 12247 ≤ 60 * F + 13030 by omega)⟩), (wd_487 hB _), (wd_8 hB _)⟩ ⟨pe_bl, pg_recv (ci := 7) hK hP (lo_in hL t_Rd (by decide)) eR rfl, pe_pre hB hK hP hD⟩ rfl rfl hl.1 rfl (lv_room (Nat.le_of_ble_eq_true rfl)) d_NReader_readChoice_9 ⟨Nat.le_of_ble_eq_true rfl, Nat.le_of_ble_eq_true rfl⟩) hS (fun r19 f20 H locs hq21 hP hD hS => ?_)
  obtain ⟨rs_22, fr_23, frn_24, hI1_25, hu1_26⟩ := hq21
  have hu := hu.tr hu1_26 (by decide)
  have eT := hu1_26.at t_tl (by decide) eT
  have hfr : ∀ i, i < 36 → i < sn → f20 (g.lk (g.lk P 0) i) = f (g.lk (g.lk P 0) i) := fun i h1 h2 => (fr_23 i h1 (by omega)).trans (hfr i h1 h2)
  have hfn : ∀ i, i < 72 → i < nn → f20 (g.lk (g.lk P 2) i) = f (g.lk (g.lk P 2) i) := fun i h1 h2 => (frn_24 i h1 (by omega)).trans (hfn i h1 h2)
  rcases rs_22 with ⟨a27, n28, j29, c35, c36, c37, c38, c39, c40, hp33, e30, e31, hx_34, e32, rfl⟩ | ⟨a27, n28, c35, c36, hp33, e30, e31, rfl⟩
  · skip
    have hfb41 : ∀ i, i < 72 → i < n28 → f20 (g.lk (g.lk P 2) i) = f20 (g.lk (g.lk P 2) i) := fun _ _ _ => rfl
    refine lv_if_eq (tgt := 43) hx hb d_NReader_readChoice_12 (by decide) (fun b42 => ?_) (fun b42 => ?_)
    · skip
      replace b42 := (nI_eq (a := 1) (b := 0) (by omega) (by omega)).mp b42
      exfalso; omega
    · skip
      replace b42 := mt (nI_eq (a := 1) (b := 0) (by omega) (by omega)).mpr b42
      refine lv_aload_n hx hb d_NReader_readChoice_15 rfl (lv_at hl 1 rfl) ?_
      refine lv_bipush (v := nI 58) hx hb d_NReader_readChoice_16 (by decide) ?_
      refine pcc_i (va_runV (C := "BigRunner$Reader") (As := [.int (nI 58)]) (rest := []) ⟨hx, hb, hml, hown, tb_nil⟩ (c_accept l g H.size f20 Rd tl ln a27 P hT 58 hL t_Rd t_tl t_P hI1_25 e30 eT cT (by omega) (by omega) (by decide)) ⟨(callB_of 1 (tb_one (wd_472 hB _)) tb_good1 rfl rfl rfl (wd_73 hB _) (wd_469 hB _) (by decide +kernel) ⟨(show 2 ≤ 2 * F + 411 by omega), (show 41 ≤ 60 * F + 13030 by omega)⟩), (wd_471 hB _), (wd_4 hB _)⟩ ⟨pe_bl, pg_recv (ci := 7) hK hP (lo_in hL t_Rd (by decide)) e30 rfl, pe_pre hB hK hP hD⟩ rfl rfl hl.1 rfl (lv_room (Nat.le_of_ble_eq_true rfl)) d_NReader_readChoice_18 ⟨Nat.le_of_ble_eq_true rfl, Nat.le_of_ble_eq_true rfl⟩) hS (fun r43 f44 H locs hq45 hP hD hS => ?_)
      obtain ⟨bo_46, i0_47, i1_48, hI1_49, hu1_50⟩ := hq45
      have hu := hu.tr hu1_50 (by decide)
      have eT := hu1_50.at t_tl (by decide) eT
      have e31 := hu1_50.at t_P (by decide) e31
      have e32 := hu1_50.at (lo_e24 hL _ (lo_k7_0 hL _ t_P) _ (by omega)) (by decide) e32
      have hfr : ∀ i, i < 36 → i < sn → f44 (g.lk (g.lk P 0) i) = f (g.lk (g.lk P 0) i) := fun i h1 h2 => (hu1_50 _ (by rw [lo_e24 hL _ (lo_k7_0 hL _ t_P) i h1]; decide)).trans (hfr i h1 h2)
      have hfn : ∀ i, i < 72 → i < nn → f44 (g.lk (g.lk P 2) i) = f (g.lk (g.lk P 2) i) := fun i h1 h2 => (hu1_50 _ (by rw [lo_e25 hL _ (lo_k7_2 hL _ t_P) i h1]; decide)).trans (hfn i h1 h2)
      have hfb41 : ∀ i, i < 72 → i < n28 → f44 (g.lk (g.lk P 2) i) = f20 (g.lk (g.lk P 2) i) := fun i h1 h2 => (hu1_50 _ (by rw [lo_e25 hL _ (lo_k7_2 hL _ t_P) i h1]; decide)).trans (hfb41 i h1 h2)
      refine lv_if_eq (tgt := 43) hx hb d_NReader_readChoice_21 (by decide) (fun b51 => ?_) (fun b51 => ?_)
      · skip
        have hr52 : r43 = nI 0 := b51
        have hi53 := i0_47 hr52
        obtain ⟨hc54, e55⟩ := hi53
        have hk56 : tk hT ln a27 ≠ 15 := fun z => hc54 (kc_15.mp z)
        refine lv_iconst (v := nI 0) hx hb d_NReader_readChoice_43 (by decide) ?_
        exact pe_zret hx hb hr hlocks hK hP hD hS d_NReader_readChoice_44 rfl ⟨(Or.inr ⟨a27, sn + 1, n28, by omega, by omega, by omega, (by unfold px_c; rw [hp33]; show (if _ then _ else _) = _; exact if_neg hk56), e55, e31, rfl⟩), hfr, hfn, hI1_49, hu⟩
      · skip
        have hr57 : r43 = nI 1 := (bl_1 bo_46 b51)
        have hi58 := i1_48 hr57
        obtain ⟨hc59, hl62, e60⟩ := hi58
        have hk61 : tk hT ln a27 = 15 := kc_15.mpr hc59
        refine lv_aload_n hx hb d_NReader_readChoice_24 rfl (lv_at hl 1 rfl) ?_
        refine lv_iload_n hx hb d_NReader_readChoice_25 rfl (lv_at hl 2 rfl) ?_
        refine lv_iconst (v := nI 1) hx hb d_NReader_readChoice_26 (by decide) ?_
        refine pf_iaddN (x := d) (y := 1) hx hb d_NReader_readChoice_27 ?_
        refine pcc_i (va_runV (C := "BigRunner$Reader") (As := [.int (nI (d + 1))]) (rest := []) ⟨hx, hb, hml, hown, tb_nil⟩ ((ih F (by omega)).1 g H.size f44 Rd tl ln ((a27 + 1)) P hT ((sn + 1)) n28 ((d + 1)) hL t_Rd t_tl t_P hI1_49 e60 eT cT (by omega) (by omega) e31 (by omega) (by omega) (by omega) (by omega) (by omega) (by omega)) ⟨(callB_of 1 (tb_one (wd_464 hB _)) tb_good1 rfl rfl rfl (wd_73 hB _) (wd_461 hB _) (by decide +kernel) ⟨(show 2 * F + 410 + 1 ≤ 2 * F + 411 by omega), (show 8 + (3 + 11) + (60 * F + 13000) ≤ 60 * F + 13030 by omega)⟩), (wd_463 hB _), (wd_2 hB _)⟩ ⟨pe_bl, pg_recv (ci := 7) hK hP (lo_in hL t_Rd (by decide)) e60 rfl, pe_pre hB hK hP hD⟩ rfl rfl hl.1 rfl (lv_room (Nat.le_of_ble_eq_true rfl)) d_NReader_readChoice_28 ⟨Nat.le_of_ble_eq_true rfl, Nat.le_of_ble_eq_true rfl⟩) hS (fun r63 f64 H locs hq65 hP hD hS => ?_)
        obtain ⟨rs_66, fr_67, frn_68, hI1_69, hu1_70⟩ := hq65
        have hu := hu.tr hu1_70 (by decide)
        have eT := hu1_70.at t_tl (by decide) eT
        have hfr : ∀ i, i < 36 → i < sn → f64 (g.lk (g.lk P 0) i) = f (g.lk (g.lk P 0) i) := fun i h1 h2 => (fr_67 i h1 (by omega)).trans (hfr i h1 h2)
        have hfn : ∀ i, i < 72 → i < nn → f64 (g.lk (g.lk P 2) i) = f (g.lk (g.lk P 2) i) := fun i h1 h2 => (frn_68 i h1 (by omega)).trans (hfn i h1 h2)
        have hfb41 : ∀ i, i < 72 → i < n28 → f64 (g.lk (g.lk P 2) i) = f20 (g.lk (g.lk P 2) i) := fun i h1 h2 => (frn_68 i h1 (by omega)).trans (hfb41 i h1 h2)
        have e71 := (fr_67 sn (by omega) (by omega)).trans e32
        rcases rs_66 with ⟨a72, s73, n74, c81, c82, c83, c84, c85, c86, c87, c88, hp77, e75, e76, hsg78, hnj79, hsp80, rfl⟩ | ⟨a72, s73, n74, c81, c82, c83, hp77, e75, e76, rfl⟩
        · skip
          have hfb89 : ∀ i, i < 72 → i < n74 → f64 (g.lk (g.lk P 2) i) = f64 (g.lk (g.lk P 2) i) := fun _ _ _ => rfl
          have hfi : ∀ i, i < 36 → sn + 1 ≤ i ∧ i < s73 → f64 (g.lk (g.lk P 0) i) = f64 (g.lk (g.lk P 0) i) := fun _ _ _ => rfl
          refine lv_if_eq (tgt := 43) hx hb d_NReader_readChoice_31 (by decide) (fun b90 => ?_) (fun b90 => ?_)
          · skip
            replace b90 := (nI_eq (a := 1) (b := 0) (by omega) (by omega)).mp b90
            exfalso; omega
          · skip
            replace b90 := mt (nI_eq (a := 1) (b := 0) (by omega) (by omega)).mpr b90
            refine lv_aload_n hx hb d_NReader_readChoice_34 rfl (lv_at hl 1 rfl) ?_
            refine lv_bipush (v := nI 124) hx hb d_NReader_readChoice_35 (by decide) ?_
            refine pcc_i (va_runV (C := "BigRunner$Reader") (As := [.int (nI 124)]) (rest := []) ⟨hx, hb, hml, hown, tb_nil⟩ (c_accept l g H.size f64 Rd tl ln a72 P hT 124 hL t_Rd t_tl t_P hI1_69 e75 eT cT (by omega) (by omega) (by decide)) ⟨(callB_of 1 (tb_one (wd_472 hB _)) tb_good1 rfl rfl rfl (wd_73 hB _) (wd_469 hB _) (by decide +kernel) ⟨(show 2 ≤ 2 * F + 411 by omega), (show 41 ≤ 60 * F + 13030 by omega)⟩), (wd_471 hB _), (wd_4 hB _)⟩ ⟨pe_bl, pg_recv (ci := 7) hK hP (lo_in hL t_Rd (by decide)) e75 rfl, pe_pre hB hK hP hD⟩ rfl rfl hl.1 rfl (lv_room (Nat.le_of_ble_eq_true rfl)) d_NReader_readChoice_37 ⟨Nat.le_of_ble_eq_true rfl, Nat.le_of_ble_eq_true rfl⟩) hS (fun r91 f92 H locs hq93 hP hD hS => ?_)
            obtain ⟨bo_94, i0_95, i1_96, hI1_97, hu1_98⟩ := hq93
            have hu := hu.tr hu1_98 (by decide)
            have eT := hu1_98.at t_tl (by decide) eT
            have e71 := hu1_98.at (lo_e24 hL _ (lo_k7_0 hL _ t_P) _ (by omega)) (by decide) e71
            have e76 := hu1_98.at t_P (by decide) e76
            have hfr : ∀ i, i < 36 → i < sn → f92 (g.lk (g.lk P 0) i) = f (g.lk (g.lk P 0) i) := fun i h1 h2 => (hu1_98 _ (by rw [lo_e24 hL _ (lo_k7_0 hL _ t_P) i h1]; decide)).trans (hfr i h1 h2)
            have hfi : ∀ i, i < 36 → sn + 1 ≤ i ∧ i < s73 → f92 (g.lk (g.lk P 0) i) = f64 (g.lk (g.lk P 0) i) := fun i h1 h2 => (hu1_98 _ (by rw [lo_e24 hL _ (lo_k7_0 hL _ t_P) i h1]; decide)).trans (hfi i h1 h2)
            have hfn : ∀ i, i < 72 → i < nn → f92 (g.lk (g.lk P 2) i) = f (g.lk (g.lk P 2) i) := fun i h1 h2 => (hu1_98 _ (by rw [lo_e25 hL _ (lo_k7_2 hL _ t_P) i h1]; decide)).trans (hfn i h1 h2)
            have hfb41 : ∀ i, i < 72 → i < n28 → f92 (g.lk (g.lk P 2) i) = f20 (g.lk (g.lk P 2) i) := fun i h1 h2 => (hu1_98 _ (by rw [lo_e25 hL _ (lo_k7_2 hL _ t_P) i h1]; decide)).trans (hfb41 i h1 h2)
            have hfb89 : ∀ i, i < 72 → i < n74 → f92 (g.lk (g.lk P 2) i) = f64 (g.lk (g.lk P 2) i) := fun i h1 h2 => (hu1_98 _ (by rw [lo_e25 hL _ (lo_k7_2 hL _ t_P) i h1]; decide)).trans (hfb89 i h1 h2)
            refine lv_if_ne (tgt := 45) hx hb d_NReader_readChoice_40 (by decide) (fun b99 => ?_) (fun b99 => ?_)
            · skip
              have hr100 : r91 = nI 1 := (bl_1 bo_94 b99)
              have hi101 := i1_96 hr100
              obtain ⟨hc102, hl105, e103⟩ := hi101
              have hk104 : tk hT ln a72 = 14 := kc_14.mpr hc102
              refine lv_aload_n hx hb d_NReader_readChoice_45 rfl (lv_at hl 1 rfl) ?_
              refine lv_iconst (v := nI 5) hx hb d_NReader_readChoice_46 (by decide) ?_
              refine pcc_i (va_runV (C := "BigRunner$Reader") (As := [.int (nI 5)]) (rest := []) ⟨hx, hb, hml, hown, tb_nil⟩ (c_addSt l g H.size f92 Rd tl ln ((a72 + 1)) P hT s73 n74 5 hL t_Rd t_tl t_P hI1_97 e103 eT cT (by omega) (by omega) e76 (by omega) (by omega) (by omega) (by omega)) ⟨(callB_of 1 (tb_one (wd_480 hB _)) tb_good1 rfl rfl rfl (wd_73 hB _) (wd_477 hB _) (by decide +kernel) ⟨(show 1 ≤ 2 * F + 411 by omega), (show 21 ≤ 60 * F + 13030 by omega)⟩), (wd_479 hB _), (wd_6 hB _)⟩ ⟨pe_bl, pg_recv (ci := 7) hK hP (lo_in hL t_Rd (by decide)) e103 rfl, pe_pre hB hK hP hD⟩ rfl rfl hl.1 rfl (lv_room (Nat.le_of_ble_eq_true rfl)) d_NReader_readChoice_47 ⟨Nat.le_of_ble_eq_true rfl, Nat.le_of_ble_eq_true rfl⟩) hS (fun r106 f107 H locs hq108 hP hD hS => ?_)
              obtain ⟨q_109, x1_110, xs_111, fr_112, hI1_113, hu1_114⟩ := hq108
              subst q_109
              have hu := hu.tr hu1_114 (by decide)
              have eT := hu1_114.at t_tl (by decide) eT
              have e103 := hu1_114.at t_Rd (by decide) e103
              have hfr : ∀ i, i < 36 → i < sn → f107 (g.lk (g.lk P 0) i) = f (g.lk (g.lk P 0) i) := fun i h1 h2 => (fr_112 i h1 (by omega)).trans (hfr i h1 h2)
              have hfi : ∀ i, i < 36 → sn + 1 ≤ i ∧ i < s73 → f107 (g.lk (g.lk P 0) i) = f64 (g.lk (g.lk P 0) i) := fun i h1 h2 => (fr_112 i h1 (by omega)).trans (hfi i h1 h2)
              have hfn : ∀ i, i < 72 → i < nn → f107 (g.lk (g.lk P 2) i) = f (g.lk (g.lk P 2) i) := fun i h1 h2 => (hu1_114 _ (by rw [lo_e25 hL _ (lo_k7_2 hL _ t_P) i h1]; decide)).trans (hfn i h1 h2)
              have hfb41 : ∀ i, i < 72 → i < n28 → f107 (g.lk (g.lk P 2) i) = f20 (g.lk (g.lk P 2) i) := fun i h1 h2 => (hu1_114 _ (by rw [lo_e25 hL _ (lo_k7_2 hL _ t_P) i h1]; decide)).trans (hfb41 i h1 h2)
              have hfb89 : ∀ i, i < 72 → i < n74 → f107 (g.lk (g.lk P 2) i) = f64 (g.lk (g.lk P 2) i) := fun i h1 h2 => (hu1_114 _ (by rw [lo_e25 hL _ (lo_k7_2 hL _ t_P) i h1]; decide)).trans (hfb89 i h1 h2)
              obtain ⟨nm_115, fn_116, la_117, ta_118, c119, c120, c121, c122, e123⟩ := xs_111
              have e124 := (fr_112 sn (by omega) (by omega)).trans e71
              refine lv_istore_n (lv' := [(3, .int (nI s73)), (2, .int (nI sn)), (0, .ref Rd), (1, .int (nI d))]) hx hb d_NReader_readChoice_50 rfl hl (by decide) rfl (fun ls hl => ?_)
              refine lv_aload_n hx hb d_NReader_readChoice_51 rfl (lv_at hl 2 rfl) ?_
              refine lv_iload_n hx hb d_NReader_readChoice_52 rfl (lv_at hl 1 rfl) ?_
              refine lv_aload_n hx hb d_NReader_readChoice_53 rfl (lv_at hl 2 rfl) ?_
              refine pf_get (v := .ref P) (C := "BigRunner$Reader") (T := FT7) (N := 4) hx hb (hw7 hB _) (fun _ h9 => h9) hown hK hP (lo_in hL t_Rd (by decide)) e103 rfl 3 (by decide) (wd_273 hB _) rfl d_NReader_readChoice_54 ?_
              refine pf_get (v := .int (nI (s73 + 1))) (C := "BigRunner$Program") (T := FT6) (N := 6) hx hb (hw6 hB _) (fun _ h9 => h9) hown hK hP (lo_in hL t_P (by decide)) x1_110 rfl 1 (by decide) (wd_246 hB _) rfl d_NReader_readChoice_57 ?_
              refine pcc_i (va_runV (C := "BigRunner$Reader") (As := [.int (nI sn), .int (nI (s73 + 1))]) (rest := []) ⟨hx, hb, hml, hown, tb_nil⟩ (c_aim l g H.size f107 Rd tl ln ((a72 + 1)) P hT ((s73 + 1)) n74 sn 4 nm_10 nn ((nI j29)) ta_13 ((s73 + 1)) hL t_Rd t_tl t_P hI1_113 e103 eT cT (by omega) (by omega) x1_110 (by omega) (by omega) (by omega) e124 (by omega) (by omega) (by omega) (Or.inr ⟨_, by omega, rfl⟩) (by omega) (by omega)) ⟨(callB_of 2 (tb_one (wd_516 hB _)) tb_good1 rfl rfl rfl (wd_73 hB _) (wd_513 hB _) (by decide +kernel) ⟨(show 1 ≤ 2 * F + 411 by omega), (show 22 ≤ 60 * F + 13030 by omega)⟩), (wd_515 hB _), (wd_15 hB _)⟩ ⟨pe_bl, pg_recv (ci := 7) hK hP (lo_in hL t_Rd (by decide)) e103 rfl, pe_pre hB hK hP hD⟩ rfl rfl hl.1 rfl (lv_room (Nat.le_of_ble_eq_true rfl)) d_NReader_readChoice_60 ⟨Nat.le_of_ble_eq_true rfl, Nat.le_of_ble_eq_true rfl⟩) hS (fun r125 f126 H locs hq127 hP hD hS => ?_)
              obtain ⟨q_128, x1_129, fr_130, hI1_131, hu1_132⟩ := hq127
              subst q_128
              have hu := hu.tr hu1_132 (by decide)
              have eT := hu1_132.at t_tl (by decide) eT
              have e103 := hu1_132.at t_Rd (by decide) e103
              have x1_110 := hu1_132.at t_P (by decide) x1_110
              have hfr : ∀ i, i < 36 → i < sn → f126 (g.lk (g.lk P 0) i) = f (g.lk (g.lk P 0) i) := fun i h1 h2 => (fr_130 i h1 (by omega)).trans (hfr i h1 h2)
              have hfi : ∀ i, i < 36 → sn + 1 ≤ i ∧ i < s73 → f126 (g.lk (g.lk P 0) i) = f64 (g.lk (g.lk P 0) i) := fun i h1 h2 => (fr_130 i h1 (by omega)).trans (hfi i h1 h2)
              have hfn : ∀ i, i < 72 → i < nn → f126 (g.lk (g.lk P 2) i) = f (g.lk (g.lk P 2) i) := fun i h1 h2 => (hu1_132 _ (by rw [lo_e25 hL _ (lo_k7_2 hL _ t_P) i h1]; decide)).trans (hfn i h1 h2)
              have hfb41 : ∀ i, i < 72 → i < n28 → f126 (g.lk (g.lk P 2) i) = f20 (g.lk (g.lk P 2) i) := fun i h1 h2 => (hu1_132 _ (by rw [lo_e25 hL _ (lo_k7_2 hL _ t_P) i h1]; decide)).trans (hfb41 i h1 h2)
              have hfb89 : ∀ i, i < 72 → i < n74 → f126 (g.lk (g.lk P 2) i) = f64 (g.lk (g.lk P 2) i) := fun i h1 h2 => (hu1_132 _ (by rw [lo_e25 hL _ (lo_k7_2 hL _ t_P) i h1]; decide)).trans (hfb89 i h1 h2)
              have e133 := (fr_130 s73 (by omega) (by omega)).trans e123
              refine lv_if_eq (tgt := 104) hx hb d_NReader_readChoice_63 (by decide) (fun b134 => ?_) (fun b134 => ?_)
              · skip
                replace b134 := (nI_eq (a := 1) (b := 0) (by omega) (by omega)).mp b134
                exfalso; omega
              · skip
                replace b134 := mt (nI_eq (a := 1) (b := 0) (by omega) (by omega)).mpr b134
                refine lv_aload_n hx hb d_NReader_readChoice_66 rfl (lv_at hl 2 rfl) ?_
                refine lv_iload_n hx hb d_NReader_readChoice_67 rfl (lv_at hl 3 rfl) ?_
                refine lv_iconst (v := nI 1) hx hb d_NReader_readChoice_68 (by decide) ?_
                refine pf_iaddN (x := d) (y := 1) hx hb d_NReader_readChoice_69 ?_
                refine pcc_i (va_runV (C := "BigRunner$Reader") (As := [.int (nI (d + 1))]) (rest := []) ⟨hx, hb, hml, hown, tb_nil⟩ ((ih F (by omega)).1 g H.size f126 Rd tl ln ((a72 + 1)) P hT ((s73 + 1)) n74 ((d + 1)) hL t_Rd t_tl t_P hI1_131 e103 eT cT (by omega) (by omega) x1_110 (by omega) (by omega) (by omega) (by omega) (by omega) (by omega)) ⟨(callB_of 1 (tb_one (wd_464 hB _)) tb_good1 rfl rfl rfl (wd_73 hB _) (wd_461 hB _) (by decide +kernel) ⟨(show 2 * F + 410 + 1 ≤ 2 * F + 411 by omega), (show 8 + (3 + 11) + (60 * F + 13000) ≤ 60 * F + 13030 by omega)⟩), (wd_463 hB _), (wd_2 hB _)⟩ ⟨pe_bl, pg_recv (ci := 7) hK hP (lo_in hL t_Rd (by decide)) e103 rfl, pe_pre hB hK hP hD⟩ rfl rfl hl.1 rfl (lv_room (Nat.le_of_ble_eq_true rfl)) d_NReader_readChoice_70 ⟨Nat.le_of_ble_eq_true rfl, Nat.le_of_ble_eq_true rfl⟩) hS (fun r135 f136 H locs hq137 hP hD hS => ?_)
                obtain ⟨rs_138, fr_139, frn_140, hI1_141, hu1_142⟩ := hq137
                have hu := hu.tr hu1_142 (by decide)
                have eT := hu1_142.at t_tl (by decide) eT
                have hfr : ∀ i, i < 36 → i < sn → f136 (g.lk (g.lk P 0) i) = f (g.lk (g.lk P 0) i) := fun i h1 h2 => (fr_139 i h1 (by omega)).trans (hfr i h1 h2)
                have hfi : ∀ i, i < 36 → sn + 1 ≤ i ∧ i < s73 → f136 (g.lk (g.lk P 0) i) = f64 (g.lk (g.lk P 0) i) := fun i h1 h2 => (fr_139 i h1 (by omega)).trans (hfi i h1 h2)
                have hfn : ∀ i, i < 72 → i < nn → f136 (g.lk (g.lk P 2) i) = f (g.lk (g.lk P 2) i) := fun i h1 h2 => (frn_140 i h1 (by omega)).trans (hfn i h1 h2)
                have hfb41 : ∀ i, i < 72 → i < n28 → f136 (g.lk (g.lk P 2) i) = f20 (g.lk (g.lk P 2) i) := fun i h1 h2 => (frn_140 i h1 (by omega)).trans (hfb41 i h1 h2)
                have hfb89 : ∀ i, i < 72 → i < n74 → f136 (g.lk (g.lk P 2) i) = f64 (g.lk (g.lk P 2) i) := fun i h1 h2 => (frn_140 i h1 (by omega)).trans (hfb89 i h1 h2)
                have e143 := (fr_139 s73 (by omega) (by omega)).trans e133
                have e144 := (fr_139 sn (by omega) (by omega)).trans x1_129
                rcases rs_138 with ⟨a145, s146, n147, c154, c155, c156, c157, c158, c159, c160, c161, hp150, e148, e149, hsg151, hnj152, hsp153, rfl⟩ | ⟨a145, s146, n147, c154, c155, c156, hp150, e148, e149, rfl⟩
                · skip
                  have hfb162 : ∀ i, i < 72 → i < n147 → f136 (g.lk (g.lk P 2) i) = f136 (g.lk (g.lk P 2) i) := fun _ _ _ => rfl
                  have hfj : ∀ i, i < 36 → s73 + 1 ≤ i ∧ i < s146 → f136 (g.lk (g.lk P 0) i) = f136 (g.lk (g.lk P 0) i) := fun _ _ _ => rfl
                  refine lv_if_eq (tgt := 104) hx hb d_NReader_readChoice_73 (by decide) (fun b163 => ?_) (fun b163 => ?_)
                  · skip
                    replace b163 := (nI_eq (a := 1) (b := 0) (by omega) (by omega)).mp b163
                    exfalso; omega
                  · skip
                    replace b163 := mt (nI_eq (a := 1) (b := 0) (by omega) (by omega)).mpr b163
                    refine lv_aload_n hx hb d_NReader_readChoice_76 rfl (lv_at hl 2 rfl) ?_
                    refine lv_bipush (v := nI 125) hx hb d_NReader_readChoice_77 (by decide) ?_
                    refine pcc_i (va_runV (C := "BigRunner$Reader") (As := [.int (nI 125)]) (rest := []) ⟨hx, hb, hml, hown, tb_nil⟩ (c_accept l g H.size f136 Rd tl ln a145 P hT 125 hL t_Rd t_tl t_P hI1_141 e148 eT cT (by omega) (by omega) (by decide)) ⟨(callB_of 1 (tb_one (wd_472 hB _)) tb_good1 rfl rfl rfl (wd_73 hB _) (wd_469 hB _) (by decide +kernel) ⟨(show 2 ≤ 2 * F + 411 by omega), (show 41 ≤ 60 * F + 13030 by omega)⟩), (wd_471 hB _), (wd_4 hB _)⟩ ⟨pe_bl, pg_recv (ci := 7) hK hP (lo_in hL t_Rd (by decide)) e148 rfl, pe_pre hB hK hP hD⟩ rfl rfl hl.1 rfl (lv_room (Nat.le_of_ble_eq_true rfl)) d_NReader_readChoice_79 ⟨Nat.le_of_ble_eq_true rfl, Nat.le_of_ble_eq_true rfl⟩) hS (fun r164 f165 H locs hq166 hP hD hS => ?_)
                    obtain ⟨bo_167, i0_168, i1_169, hI1_170, hu1_171⟩ := hq166
                    have hu := hu.tr hu1_171 (by decide)
                    have eT := hu1_171.at t_tl (by decide) eT
                    have e143 := hu1_171.at (lo_e24 hL _ (lo_k7_0 hL _ t_P) _ (by omega)) (by decide) e143
                    have e144 := hu1_171.at (lo_e24 hL _ (lo_k7_0 hL _ t_P) _ (by omega)) (by decide) e144
                    have e149 := hu1_171.at t_P (by decide) e149
                    have hfr : ∀ i, i < 36 → i < sn → f165 (g.lk (g.lk P 0) i) = f (g.lk (g.lk P 0) i) := fun i h1 h2 => (hu1_171 _ (by rw [lo_e24 hL _ (lo_k7_0 hL _ t_P) i h1]; decide)).trans (hfr i h1 h2)
                    have hfi : ∀ i, i < 36 → sn + 1 ≤ i ∧ i < s73 → f165 (g.lk (g.lk P 0) i) = f64 (g.lk (g.lk P 0) i) := fun i h1 h2 => (hu1_171 _ (by rw [lo_e24 hL _ (lo_k7_0 hL _ t_P) i h1]; decide)).trans (hfi i h1 h2)
                    have hfj : ∀ i, i < 36 → s73 + 1 ≤ i ∧ i < s146 → f165 (g.lk (g.lk P 0) i) = f136 (g.lk (g.lk P 0) i) := fun i h1 h2 => (hu1_171 _ (by rw [lo_e24 hL _ (lo_k7_0 hL _ t_P) i h1]; decide)).trans (hfj i h1 h2)
                    have hfn : ∀ i, i < 72 → i < nn → f165 (g.lk (g.lk P 2) i) = f (g.lk (g.lk P 2) i) := fun i h1 h2 => (hu1_171 _ (by rw [lo_e25 hL _ (lo_k7_2 hL _ t_P) i h1]; decide)).trans (hfn i h1 h2)
                    have hfb41 : ∀ i, i < 72 → i < n28 → f165 (g.lk (g.lk P 2) i) = f20 (g.lk (g.lk P 2) i) := fun i h1 h2 => (hu1_171 _ (by rw [lo_e25 hL _ (lo_k7_2 hL _ t_P) i h1]; decide)).trans (hfb41 i h1 h2)
                    have hfb89 : ∀ i, i < 72 → i < n74 → f165 (g.lk (g.lk P 2) i) = f64 (g.lk (g.lk P 2) i) := fun i h1 h2 => (hu1_171 _ (by rw [lo_e25 hL _ (lo_k7_2 hL _ t_P) i h1]; decide)).trans (hfb89 i h1 h2)
                    have hfb162 : ∀ i, i < 72 → i < n147 → f165 (g.lk (g.lk P 2) i) = f136 (g.lk (g.lk P 2) i) := fun i h1 h2 => (hu1_171 _ (by rw [lo_e25 hL _ (lo_k7_2 hL _ t_P) i h1]; decide)).trans (hfb162 i h1 h2)
                    refine lv_if_eq (tgt := 104) hx hb d_NReader_readChoice_82 (by decide) (fun b172 => ?_) (fun b172 => ?_)
                    · skip
                      have hr173 : r164 = nI 0 := b172
                      have hi174 := i0_168 hr173
                      obtain ⟨hc175, e176⟩ := hi174
                      have hk177 : tk hT ln a145 ≠ 13 := fun z => hc175 (kc_13.mp z)
                      refine lv_iconst (v := nI 0) hx hb d_NReader_readChoice_104 (by decide) ?_
                      exact pe_zret hx hb hr hlocks hK hP hD hS d_NReader_readChoice_105 rfl ⟨(Or.inr ⟨a145, s146, n147, by omega, by omega, by omega, (by unfold px_c; rw [hp33]; show (if _ then _ else _) = _; rw [if_pos hk61, hp77]; show (if _ then _ else _) = _; rw [if_pos hk104, hp150]; exact if_neg hk177), e176, e149, rfl⟩), hfr, hfn, hI1_170, hu⟩
                    · skip
                      have hr178 : r164 = nI 1 := (bl_1 bo_167 b172)
                      have hi179 := i1_169 hr178
                      obtain ⟨hc180, hl183, e181⟩ := hi179
                      have hk182 : tk hT ln a145 = 13 := kc_13.mpr hc180
                      refine lv_aload_n hx hb d_NReader_readChoice_85 rfl (lv_at hl 2 rfl) ?_
                      refine lv_iload_n hx hb d_NReader_readChoice_86 rfl (lv_at hl 0 rfl) ?_
                      refine lv_aload_n hx hb d_NReader_readChoice_87 rfl (lv_at hl 2 rfl) ?_
                      refine pf_get (v := .ref P) (C := "BigRunner$Reader") (T := FT7) (N := 4) hx hb (hw7 hB _) (fun _ h9 => h9) hown hK hP (lo_in hL t_Rd (by decide)) e181 rfl 3 (by decide) (wd_273 hB _) rfl d_NReader_readChoice_88 ?_
                      refine pf_get (v := .int (nI s146)) (C := "BigRunner$Program") (T := FT6) (N := 6) hx hb (hw6 hB _) (fun _ h9 => h9) hown hK hP (lo_in hL t_P (by decide)) e149 rfl 1 (by decide) (wd_246 hB _) rfl d_NReader_readChoice_91 ?_
                      refine pcc_i (va_runV (C := "BigRunner$Reader") (As := [.int (nI s73), .int (nI s146)]) (rest := []) ⟨hx, hb, hml, hown, tb_nil⟩ (c_aim l g H.size f165 Rd tl ln ((a145 + 1)) P hT s146 n147 s73 5 nm_115 fn_116 la_117 ta_118 s146 hL t_Rd t_tl t_P hI1_170 e181 eT cT (by omega) (by omega) e149 (by omega) (by omega) (by omega) e143 (by omega) (by omega) (by omega) c121 (by omega) (by omega)) ⟨(callB_of 2 (tb_one (wd_516 hB _)) tb_good1 rfl rfl rfl (wd_73 hB _) (wd_513 hB _) (by decide +kernel) ⟨(show 1 ≤ 2 * F + 411 by omega), (show 22 ≤ 60 * F + 13030 by omega)⟩), (wd_515 hB _), (wd_15 hB _)⟩ ⟨pe_bl, pg_recv (ci := 7) hK hP (lo_in hL t_Rd (by decide)) e181 rfl, pe_pre hB hK hP hD⟩ rfl rfl hl.1 rfl (lv_room (Nat.le_of_ble_eq_true rfl)) d_NReader_readChoice_94 ⟨Nat.le_of_ble_eq_true rfl, Nat.le_of_ble_eq_true rfl⟩) hS (fun r184 f185 H locs hq186 hP hD hS => ?_)
                      obtain ⟨q_187, x1_188, fr_189, hI1_190, hu1_191⟩ := hq186
                      subst q_187
                      have hu := hu.tr hu1_191 (by decide)
                      have eT := hu1_191.at t_tl (by decide) eT
                      have e149 := hu1_191.at t_P (by decide) e149
                      have e181 := hu1_191.at t_Rd (by decide) e181
                      have hfr : ∀ i, i < 36 → i < sn → f185 (g.lk (g.lk P 0) i) = f (g.lk (g.lk P 0) i) := fun i h1 h2 => (fr_189 i h1 (by omega)).trans (hfr i h1 h2)
                      have hfi : ∀ i, i < 36 → sn + 1 ≤ i ∧ i < s73 → f185 (g.lk (g.lk P 0) i) = f64 (g.lk (g.lk P 0) i) := fun i h1 h2 => (fr_189 i h1 (by omega)).trans (hfi i h1 h2)
                      have hfj : ∀ i, i < 36 → s73 + 1 ≤ i ∧ i < s146 → f185 (g.lk (g.lk P 0) i) = f136 (g.lk (g.lk P 0) i) := fun i h1 h2 => (fr_189 i h1 (by omega)).trans (hfj i h1 h2)
                      have hfn : ∀ i, i < 72 → i < nn → f185 (g.lk (g.lk P 2) i) = f (g.lk (g.lk P 2) i) := fun i h1 h2 => (hu1_191 _ (by rw [lo_e25 hL _ (lo_k7_2 hL _ t_P) i h1]; decide)).trans (hfn i h1 h2)
                      have hfb41 : ∀ i, i < 72 → i < n28 → f185 (g.lk (g.lk P 2) i) = f20 (g.lk (g.lk P 2) i) := fun i h1 h2 => (hu1_191 _ (by rw [lo_e25 hL _ (lo_k7_2 hL _ t_P) i h1]; decide)).trans (hfb41 i h1 h2)
                      have hfb89 : ∀ i, i < 72 → i < n74 → f185 (g.lk (g.lk P 2) i) = f64 (g.lk (g.lk P 2) i) := fun i h1 h2 => (hu1_191 _ (by rw [lo_e25 hL _ (lo_k7_2 hL _ t_P) i h1]; decide)).trans (hfb89 i h1 h2)
                      have hfb162 : ∀ i, i < 72 → i < n147 → f185 (g.lk (g.lk P 2) i) = f136 (g.lk (g.lk P 2) i) := fun i h1 h2 => (hu1_191 _ (by rw [lo_e25 hL _ (lo_k7_2 hL _ t_P) i h1]; decide)).trans (hfb162 i h1 h2)
                      have e192 := (fr_189 sn (by omega) (by omega)).trans e144
                      refine lv_if_eq (tgt := 104) hx hb d_NReader_readChoice_97 (by decide) (fun b193 => ?_) (fun b193 => ?_)
                      · skip
                        replace b193 := (nI_eq (a := 1) (b := 0) (by omega) (by omega)).mp b193
                        exfalso; omega
                      · skip
                        replace b193 := mt (nI_eq (a := 1) (b := 0) (by omega) (by omega)).mpr b193
                        refine lv_iconst (v := nI 1) hx hb d_NReader_readChoice_100 (by decide) ?_
                        refine lv_goto (tgt := 105) hx hb d_NReader_readChoice_101 (by decide) ?_
                        exact pe_zret hx hb hr hlocks hK hP hD hS d_NReader_readChoice_105 rfl ⟨(Or.inl ⟨a145 + 1, s146, n147, by omega, by omega, by omega, by omega, by omega, by omega, by omega, by omega, (by unfold px_c; rw [hp33]; show (if _ then _ else _) = _; rw [if_pos hk61, hp77]; show (if _ then _ else _) = _; rw [if_pos hk104, hp150]; exact if_pos hk182), e181, e149, (SG_mid (SG_app (b := sn + 1) (by omega) (by omega) (SG_one e192 (by omega) (by omega) (by omega) (by omega) (fun _ => ⟨_, by omega, rfl⟩)) (SG_eq hsg78 (fun i q1 q2 => hfi i (by omega) (by omega)))) (SG_eq hsg151 (fun i q1 q2 => hfj i (by omega) (by omega))) (by omega) x1_188 (by omega) (by omega) (by omega) (by omega) (by omega) (by omega)), (nj_of e192 (by omega)), (by unfold ox_c; rw [hp33, Option.getD_some, hp77, Option.getD_some]; exact SRP_choice (XR_eq hx_34 (fun i q1 q2 => hfb41 i (by omega) (by omega))) e192 (by rw [← c40]; exact congrArg nI (show j29 = n28 - 1 by omega)) (by have z9 := (SRP_eq hsp80 (fun i q1 q2 => hfi i (by omega) (by omega)) (fun i q1 q2 => hfb89 i (by omega) (by omega))); rw [c40, show sn + 1 + (nn + (ox_e (tk hT ln) (vc hT ln) 400 1 d ax).length) = sn + nn + (ox_e (tk hT ln) (vc hT ln) 400 1 d ax).length + 1 by omega] at z9; exact z9) x1_188 (by have z9 := (SRP_eq hsp153 (fun i q1 q2 => hfj i (by omega) (by omega)) (fun i q1 q2 => hfb162 i (by omega) (by omega))); have z8 := ren_len _ _ _ _ _ _ _ _ _ hsp80.1; rw [show s73 + 1 + n74 = sn + nn + (ox_e (tk hT ln) (vc hT ln) 400 1 d ax).length + (ox_s (tk hT ln) (vc hT ln) F 1 (d + 1) (a27 + 1) (sn + nn + (ox_e (tk hT ln) (vc hT ln) 400 1 d ax).length + 1)).length + 2 by rw [show sn + nn + (ox_e (tk hT ln) (vc hT ln) 400 1 d ax).length + 1 = sn + 1 + n28 by omega]; omega] at z9; exact z9) (by omega) (by omega) (by omega) (by omega) rfl), rfl⟩), hfr, hfn, hI1_190, hu⟩
                · skip
                  refine lv_if_eq (tgt := 104) hx hb d_NReader_readChoice_73 (by decide) (fun b194 => ?_) (fun b194 => ?_)
                  · skip
                    replace b194 := (nI_eq (a := 0) (b := 0) (by omega) (by omega)).mp b194
                    refine lv_iconst (v := nI 0) hx hb d_NReader_readChoice_104 (by decide) ?_
                    exact pe_zret hx hb hr hlocks hK hP hD hS d_NReader_readChoice_105 rfl ⟨(Or.inr ⟨a145, s146, n147, by omega, by omega, by omega, (by unfold px_c; rw [hp33]; show (if _ then _ else _) = _; rw [if_pos hk61, hp77]; show (if _ then _ else _) = _; rw [if_pos hk104, hp150]; rfl), e148, e149, rfl⟩), hfr, hfn, hI1_141, hu⟩
                  · skip
                    replace b194 := mt (nI_eq (a := 0) (b := 0) (by omega) (by omega)).mpr b194
                    exfalso; omega
            · skip
              have hr195 : r91 = nI 0 := b99
              have hi196 := i0_95 hr195
              obtain ⟨hc197, e198⟩ := hi196
              have hk199 : tk hT ln a72 ≠ 14 := fun z => hc197 (kc_14.mp z)
              refine lv_iconst (v := nI 0) hx hb d_NReader_readChoice_43 (by decide) ?_
              exact pe_zret hx hb hr hlocks hK hP hD hS d_NReader_readChoice_44 rfl ⟨(Or.inr ⟨a72, s73, n74, by omega, by omega, by omega, (by unfold px_c; rw [hp33]; show (if _ then _ else _) = _; rw [if_pos hk61, hp77]; exact if_neg hk199), e198, e76, rfl⟩), hfr, hfn, hI1_97, hu⟩
        · skip
          refine lv_if_eq (tgt := 43) hx hb d_NReader_readChoice_31 (by decide) (fun b200 => ?_) (fun b200 => ?_)
          · skip
            replace b200 := (nI_eq (a := 0) (b := 0) (by omega) (by omega)).mp b200
            refine lv_iconst (v := nI 0) hx hb d_NReader_readChoice_43 (by decide) ?_
            exact pe_zret hx hb hr hlocks hK hP hD hS d_NReader_readChoice_44 rfl ⟨(Or.inr ⟨a72, s73, n74, by omega, by omega, by omega, (by unfold px_c; rw [hp33]; show (if _ then _ else _) = _; rw [if_pos hk61, hp77]; rfl), e75, e76, rfl⟩), hfr, hfn, hI1_69, hu⟩
          · skip
            replace b200 := mt (nI_eq (a := 0) (b := 0) (by omega) (by omega)).mpr b200
            exfalso; omega
  · skip
    refine lv_if_eq (tgt := 43) hx hb d_NReader_readChoice_12 (by decide) (fun b201 => ?_) (fun b201 => ?_)
    · skip
      replace b201 := (nI_eq (a := 0) (b := 0) (by omega) (by omega)).mp b201
      refine lv_iconst (v := nI 0) hx hb d_NReader_readChoice_43 (by decide) ?_
      exact pe_zret hx hb hr hlocks hK hP hD hS d_NReader_readChoice_44 rfl ⟨(Or.inr ⟨a27, sn + 1, n28, by omega, by omega, by omega, (by unfold px_c; rw [hp33]; rfl), e30, e31, rfl⟩), hfr, hfn, hI1_25, hu⟩
    · skip
      replace b201 := mt (nI_eq (a := 0) (b := 0) (by omega) (by omega)).mpr b201
      exfalso; omega

