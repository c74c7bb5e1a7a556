set_option maxHeartbeats 4000000 in
set_option maxRecDepth 100000 in
theorem law_end {p : Program} {l : Launch} {e : Env} {s : State} {m : MethodId} {below : List Frame} {meth : Method} {c : Code} {b : Nat} {A : Nat → Prop} {H : Heap} {locs : List Loc} {cells slots : Nat} {ls : Array Slot} (hx : p.tables.exec = Jvm.exec) (hb : c.code = code) (hr : meth.sig.returnType = ret) (hlocks : meth.locks = false) (hA2 : ∀ q, A q → s.heap.size ≤ q) (hS : va_S A s.heap H locs) (hc : cells ≤ 601024) (hs : slots ≤ 7293034) : W p l e room_1 s m #[Value.ref b] below meth c H locs cells slots (lw_Z below #[Value.ref b] s) (F0 m 419 ls []) := by
  refine lv_iconst (v := nI 1) hx hb d_L_law_419 (by decide) ?_
  refine va_forget (fun q hq => hA2 _ (hS.2.2 q hq)) ?_
  refine W.widen (k := 601024) (n := 7293034) hc hs ?_
  exact lw_ret hx hb hr hlocks d_L_law_420
set_option maxHeartbeats 4000000 in
set_option maxRecDepth 100000 in
theorem law_loop {p : Program} {l : Launch} {e : Env} {s : State} {m : MethodId} {below : List Frame} {meth : Method} {c : Code} {b Ls : Nat} {xs : Nat → Int32} {A : Nat → Prop} {g : Lay} {B M ob : Nat} (hx : p.tables.exec = Jvm.exec) (hb : c.code = code) (hr : meth.sig.returnType = ret) (hml : c.maxLocals = 8) (hlocks : meth.locks = false) (hown : s.vm.findClass "BigRunnerLaw" = some m.cls) (hB : TB s) (hLt : l.stackTraces = false) (hTZ : TZ A s s.heap) (hA : ∀ q, s.heap.size ≤ q → A q) (hA2 : ∀ q, A q → s.heap.size ≤ q) (hX : va_X b Ls xs s s.heap) (hbl : b < s.heap.size) (hbA : ¬ A b) (hLs : Ls ≤ 1536) (hK : va_K g.D vcl g.tys s) (hL : LO g) (t_B : g.tg B = 1) (t_M : g.tg M = 11) (m_ob : ob ∈ g.LP) (t_ob : g.tg ob = 0) (y_ob : g.tys[g.tn ob]? = some (g.ac ob, .long)) : ∀ (k i : Nat) (f : Nat → va_E) (n : Nat) (hT : Nat → Int32) (sg : GS) (H : Heap) (locs : List Loc) (ls : Array Slot), Ls + 3 < i + k → i ≤ Ls + 3 → IV g f → CV2 g B f n hT sg → MV2 g M f n hT sg → OB g f ob → lv_has ls 8 [(4, .int (nI i)), (3, .ref ob), (2, .ref M), (1, .ref B), (0, .ref b)] → va_P g.D vcl (va_pl g.LP f) H → va_D A (va_pl g.LP f) → va_S A s.heap H locs → W p l e room_1 s m #[Value.ref b] below meth c H locs (766 + i) (8598 + 6 * i) (lw_Z below #[Value.ref b] s) (F0 m 23 ls []) := by
  intro k
  induction k with
  | zero => intros; exfalso; omega
  | succ k ih =>
    intro i f n hT sg H locs ls hk hi hI hJ hM hO hl hP hD hS
    have kk : i + 2 < Ls → ∀ (f : Nat → va_E) (n : Nat) (hT : Nat → Int32) (sg : GS) (H : Heap) (locs : List Loc) (ls : Array Slot), IV g f → CV2 g B f n hT sg → MV2 g M f n hT sg → OB g f ob → lv_has ls 8 [(4, .int (nI i)), (3, .ref ob), (2, .ref M), (1, .ref B), (0, .ref b)] → va_P g.D vcl (va_pl g.LP f) H → va_D A (va_pl g.LP f) → va_S A s.heap H locs → W p l e room_1 s m #[Value.ref b] below meth c H locs (766 + i + 1) (8598 + 6 * i + 6) (lw_Z below #[Value.ref b] s) (F0 m 413 ls []) := by
      intro hi2 f n hT sg H locs ls hI hJ hM hO hl hP hD hS
      refine lv_iinc (k := 0) (v := nI (i + 3)) (lv' := [(4, .int (nI (i + 3))), (3, .ref ob), (2, .ref M), (1, .ref B), (0, .ref b)]) hx hb d_L_law_413 hl rfl (by rw [← nI_add]; rfl) (by decide) rfl (fun ls hl => ?_)
      refine lv_goto (tgt := 23) hx hb d_L_law_416 (by decide) ?_
      refine W.widen (k := 766 + (i + 3)) (n := 8598 + 6 * (i + 3)) (by omega) (by omega) ?_
      exact ih (i + 3) f n hT sg H locs _ (by omega) (by omega) hI hJ hM hO (lv_sub hl [0, 1, 2, 3, 4] rfl) hP hD hS
    refine lv_iload hx hb d_L_law_23 (lv_at hl 0 rfl) ?_
    refine lv_aload_n hx hb d_L_law_25 rfl (lv_at hl 4 rfl) ?_
    refine va_slen hx hb hX hbl hbA hS d_L_law_26 ?_
    refine lv_iconst (v := nI 3) hx hb d_L_law_27 (by decide) ?_
    refine lv_isub hx hb d_L_law_28 ?_
    refine lv_icmp_gt (tgt := 419) hx hb d_L_law_29 (by decide) (fun h9 => ?_) (fun h9 => ?_)
    · exact law_end hx hb hr hlocks hA2 hS (by omega) (by omega)
    have hi2 : i + 2 < Ls := by have := mt (lw_cmp (i := i) (L := Ls) (by omega) hLs).mpr h9; omega
    clear h9
    refine lv_aload_n hx hb d_L_law_32 rfl (lv_at hl 4 rfl) ?_
    refine lv_iload hx hb d_L_law_33 (lv_at hl 0 rfl) ?_
    refine va_sld hx hb hX hbl hbA hS (vp_in_nI (by omega) (by omega)) d_L_law_35 ?_
    refine lv_topi (fun z1 hz1 => ?_)
    refine lv_bipush (v := nI 15) hx hb d_L_law_36 (by decide) ?_
    refine lv_iand hx hb d_L_law_38 ?_
    refine lv_topi (fun z hz => ?_)
    by_cases hk0 : z = 0
    · subst hk0
      refine lv_tableIn (off := 53) (tgt := 92) hx hb d_L_law_39 (by decide) (by decide) (by decide) (by decide) ?_
      exact law_c0 hx hb hr hml hlocks hown hB hLt hTZ hA hA2 hX hbl hbA hLs hK hL t_B t_M m_ob t_ob y_ob hi2 (show 766 + i + 1 ≤ 601024 by omega) (show 8598 + 6 * i + 6 ≤ 7293034 by omega) f n hT sg H locs ls hI hJ hM hO hl hP hD hS (kk hi2)
    by_cases hk1 : z = 1
    · subst hk1
      refine lv_tableIn (off := 80) (tgt := 119) hx hb d_L_law_39 (by decide) (by decide) (by decide) (by decide) ?_
      exact law_c1 hx hb hr hml hlocks hown hB hLt hTZ hA hA2 hX hbl hbA hLs hK hL t_B t_M m_ob t_ob y_ob hi2 (show 766 + i + 1 ≤ 601024 by omega) (show 8598 + 6 * i + 6 ≤ 7293034 by omega) f n hT sg H locs ls hI hJ hM hO hl hP hD hS (kk hi2)
    by_cases hk2 : z = 2
    · subst hk2
      refine lv_tableIn (off := 91) (tgt := 130) hx hb d_L_law_39 (by decide) (by decide) (by decide) (by decide) ?_
      exact law_c2 hx hb hr hml hlocks hown hB hLt hTZ hA hA2 hX hbl hbA hLs hK hL t_B t_M m_ob t_ob y_ob hi2 (show 766 + i + 1 ≤ 601024 by omega) (show 8598 + 6 * i + 6 ≤ 7293034 by omega) f n hT sg H locs ls hI hJ hM hO hl hP hD hS (kk hi2)
    by_cases hk3 : z = 3
    · subst hk3
      refine lv_tableIn (off := 107) (tgt := 146) hx hb d_L_law_39 (by decide) (by decide) (by decide) (by decide) ?_
      exact law_c3 hx hb hr hml hlocks hown hB hLt hTZ hA hA2 hX hbl hbA hLs hK hL t_B t_M m_ob t_ob y_ob hi2 (show 766 + i + 1 ≤ 601024 by omega) (show 8598 + 6 * i + 6 ≤ 7293034 by omega) f n hT sg H locs ls hI hJ hM hO hl hP hD hS (kk hi2)
    by_cases hk4 : z = 4
    · subst hk4
      refine lv_tableIn (off := 132) (tgt := 171) hx hb d_L_law_39 (by decide) (by decide) (by decide) (by decide) ?_
      exact law_c4 hx hb hr hml hlocks hown hB hLt hTZ hA hA2 hX hbl hbA hLs hK hL t_B t_M m_ob t_ob y_ob hi2 (show 766 + i + 1 ≤ 601024 by omega) (show 8598 + 6 * i + 6 ≤ 7293034 by omega) f n hT sg H locs ls hI hJ hM hO hl hP hD hS (kk hi2)
    by_cases hk5 : z = 5
    · subst hk5
      refine lv_tableIn (off := 188) (tgt := 227) hx hb d_L_law_39 (by decide) (by decide) (by decide) (by decide) ?_
      exact law_c5 hx hb hr hml hlocks hown hB hLt hTZ hA hA2 hX hbl hbA hLs hK hL t_B t_M m_ob t_ob y_ob hi2 (show 766 + i + 1 ≤ 601024 by omega) (show 8598 + 6 * i + 6 ≤ 7293034 by omega) f n hT sg H locs ls hI hJ hM hO hl hP hD hS (kk hi2)
    by_cases hk6 : z = 6
    · subst hk6
      refine lv_tableIn (off := 213) (tgt := 252) hx hb d_L_law_39 (by decide) (by decide) (by decide) (by decide) ?_
      exact law_c6 hx hb hr hml hlocks hown hB hLt hTZ hA hA2 hX hbl hbA hLs hK hL t_B t_M m_ob t_ob y_ob hi2 (show 766 + i + 1 ≤ 601024 by omega) (show 8598 + 6 * i + 6 ≤ 7293034 by omega) f n hT sg H locs ls hI hJ hM hO hl hP hD hS (kk hi2)
    by_cases hk7 : z = 7
    · subst hk7
      refine lv_tableIn (off := 269) (tgt := 308) hx hb d_L_law_39 (by decide) (by decide) (by decide) (by decide) ?_
      exact law_c7 hx hb hr hml hlocks hown hB hLt hTZ hA hA2 hX hbl hbA hLs hK hL t_B t_M m_ob t_ob y_ob hi2 (show 766 + i + 1 ≤ 601024 by omega) (show 8598 + 6 * i + 6 ≤ 7293034 by omega) f n hT sg H locs ls hI hJ hM hO hl hP hD hS (kk hi2)
    by_cases hk8 : z = 8
    · subst hk8
      refine lv_tableIn (off := 294) (tgt := 333) hx hb d_L_law_39 (by decide) (by decide) (by decide) (by decide) ?_
      exact law_c8 hx hb hr hml hlocks hown hB hLt hTZ hA hA2 hX hbl hbA hLs hK hL t_B t_M m_ob t_ob y_ob hi2 (show 766 + i + 1 ≤ 601024 by omega) (show 8598 + 6 * i + 6 ≤ 7293034 by omega) f n hT sg H locs ls hI hJ hM hO hl hP hD hS (kk hi2)
    by_cases hk9 : z = 9
    · subst hk9
      refine lv_tableIn (off := 334) (tgt := 373) hx hb d_L_law_39 (by decide) (by decide) (by decide) (by decide) ?_
      exact law_c9 hx hb hr hml hlocks hown hB hLt hTZ hA hA2 hX hbl hbA hLs hK hL t_B t_M m_ob t_ob y_ob hi2 (show 766 + i + 1 ≤ 601024 by omega) (show 8598 + 6 * i + 6 ≤ 7293034 by omega) f n hT sg H locs ls hI hJ hM hO hl hP hD hS (kk hi2)
    refine lv_tableOut (tgt := 413) hx hb d_L_law_39 (by have := lv_neT hk0 (a := 0) (by decide); have := lv_neT hk1 (a := 1) (by decide); have := lv_neT hk2 (a := 2) (by decide); have := lv_neT hk3 (a := 3) (by decide); have := lv_neT hk4 (a := 4) (by decide); have := lv_neT hk5 (a := 5) (by decide); have := lv_neT hk6 (a := 6) (by decide); have := lv_neT hk7 (a := 7) (by decide); have := lv_neT hk8 (a := 8) (by decide); have := lv_neT hk9 (a := 9) (by decide); omega) (by decide) ?_
    refine W.widen (k := 766 + i + 1) (n := 8598 + 6 * i + 6) (by omega) (by omega) ?_
    exact kk hi2 f n hT sg H locs ls hI hJ hM hO hl hP hD hS
set_option maxHeartbeats 4000000 in
set_option maxRecDepth 100000 in
theorem whole_start {p : Program} {e : Env} {s : State} {m : MethodId} {below : List Frame} {meth : Method} {c : Code} (l : Launch) (htr : l.stackTraces = false) {b L : Nat} {xs : Nat → Int32} (hL : L ≤ 1536) (C0 : lw_At p s m meth c b L xs) : W p l e room_1 s m #[Value.ref b] below meth c s.heap [] 0 0 (lw_Z below #[Value.ref b] s) (entryFrame m ([Value.ref b] : List Value).toArray 8) := by
  obtain ⟨hx, hb, hr, hml, hown, hts, hX, hbl, hlocks, hgv⟩ := C0
  have hown : s.vm.findClass "BigRunnerLaw" = some m.cls := hown
  have hB : TB s := fun w hw h => tb_args h (hts w hw)
  obtain ⟨dC, dI, hK0⟩ := lk_K hB
  have hZS : th_Z "UNASSIGNED_STACK" "[Ljava/lang/StackTraceElement;" (fun q => s.heap.size ≤ q) s s.heap := th_Z.of (hts _ (List.mem_of_getElem? (i := 548) (by decide +kernel))) (flat_of_before _ hgv _ (by decide +kernel)) (fun a h1 h2 => Nat.not_lt.mpr h2 h1)
  have hZL : th_Z "SUPPRESSED_SENTINEL" "Ljava/util/List;" (fun q => s.heap.size ≤ q) s s.heap := th_Z.of (hts _ (List.mem_of_getElem? (i := 550) (by decide +kernel))) (flat_of_before _ hgv _ (by decide +kernel)) (fun a h1 h2 => Nat.not_lt.mpr h2 h1)
  have el0 : (Term.elem (Term.static "BigRunner$LongNumber" "POWERS" "[I") (.int 0)).eval #[Value.ref b] s none [] s = some (.int 1) := va_eqt (flat_of_before _ hgv _ (by decide +kernel))
  have el1 : (Term.elem (Term.static "BigRunner$LongNumber" "POWERS" "[I") (.int 1)).eval #[Value.ref b] s none [] s = some (.int 10) := va_eqt (flat_of_before _ hgv _ (by decide +kernel))
  have el2 : (Term.elem (Term.static "BigRunner$LongNumber" "POWERS" "[I") (.int 2)).eval #[Value.ref b] s none [] s = some (.int 100) := va_eqt (flat_of_before _ hgv _ (by decide +kernel))
  have el3 : (Term.elem (Term.static "BigRunner$LongNumber" "POWERS" "[I") (.int 3)).eval #[Value.ref b] s none [] s = some (.int 1000) := va_eqt (flat_of_before _ hgv _ (by decide +kernel))
  have el4 : (Term.elem (Term.static "BigRunner$LongNumber" "POWERS" "[I") (.int 4)).eval #[Value.ref b] s none [] s = some (.int 10000) := va_eqt (flat_of_before _ hgv _ (by decide +kernel))
  have el5 : (Term.elem (Term.static "BigRunner$LongNumber" "POWERS" "[I") (.int 5)).eval #[Value.ref b] s none [] s = some (.int 100000) := va_eqt (flat_of_before _ hgv _ (by decide +kernel))
  have el6 : (Term.elem (Term.static "BigRunner$LongNumber" "POWERS" "[I") (.int 6)).eval #[Value.ref b] s none [] s = some (.int 1000000) := va_eqt (flat_of_before _ hgv _ (by decide +kernel))
  have el7 : (Term.elem (Term.static "BigRunner$LongNumber" "POWERS" "[I") (.int 7)).eval #[Value.ref b] s none [] s = some (.int 10000000) := va_eqt (flat_of_before _ hgv _ (by decide +kernel))
  have el8 : (Term.elem (Term.static "BigRunner$LongNumber" "POWERS" "[I") (.int 8)).eval #[Value.ref b] s none [] s = some (.int 100000000) := va_eqt (flat_of_before _ hgv _ (by decide +kernel))
  have eln : (Term.length (Term.static "BigRunner$LongNumber" "POWERS" "[I")).eval #[Value.ref b] s none [] s = some (.int 9) := va_eqt (flat_of_before _ hgv _ (by decide +kernel))
  obtain ⟨tp, etp, hTp⟩ := va_Tof (args := #[Value.ref b]) (s := s) (tm := (Term.static "BigRunner$LongNumber" "POWERS" "[I")) (ty := .int) (N := 9) (f := fun j => .int (nI (10 ^ j))) (A := (fun q => s.heap.size ≤ q)) (by decide) (flat_of_before _ hgv _ (by decide +kernel)) eln (fun j hj => by
    rcases (show j = 0 ∨ j = 1 ∨ j = 2 ∨ j = 3 ∨ j = 4 ∨ j = 5 ∨ j = 6 ∨ j = 7 ∨ j = 8 by omega) with rfl | rfl | rfl | rfl | rfl | rfl | rfl | rfl | rfl
    · exact el0
    · exact el1
    · exact el2
    · exact el3
    · exact el4
    · exact el5
    · exact el6
    · exact el7
    · exact el8
    ) (fun a h1 h2 => Nat.not_lt.mpr h2 h1)
  have hZP := va_Zref (args := #[Value.ref b]) (hts _ (List.mem_of_getElem? (i := 927) (by decide +kernel))) (wd_78 hB _) etp (A := (fun q => s.heap.size ≤ q)) (fun a h1 h2 => Nat.not_lt.mpr h2 h1)
  have hNC : NCs s := by
    intro x9 hx9
    simp only [ncl, List.mem_cons, List.not_mem_nil, or_false] at hx9
    rcases hx9 with rfl | rfl | rfl | rfl | rfl | rfl | rfl | rfl | rfl | rfl | rfl | rfl | rfl | rfl
    · exact NCs.one (args := #[Value.ref b]) (flat_of_before _ hgv _ (by decide +kernel))
    · exact NCs.one (args := #[Value.ref b]) (flat_of_before _ hgv _ (by decide +kernel))
    · exact NCs.one (args := #[Value.ref b]) (flat_of_before _ hgv _ (by decide +kernel))
    · exact NCs.one (args := #[Value.ref b]) (flat_of_before _ hgv _ (by decide +kernel))
    · exact NCs.one (args := #[Value.ref b]) (flat_of_before _ hgv _ (by decide +kernel))
    · exact NCs.one (args := #[Value.ref b]) (flat_of_before _ hgv _ (by decide +kernel))
    · exact NCs.one (args := #[Value.ref b]) (flat_of_before _ hgv _ (by decide +kernel))
    · exact NCs.one (args := #[Value.ref b]) (flat_of_before _ hgv _ (by decide +kernel))
    · exact NCs.one (args := #[Value.ref b]) (flat_of_before _ hgv _ (by decide +kernel))
    · exact NCs.one (args := #[Value.ref b]) (flat_of_before _ hgv _ (by decide +kernel))
    · exact NCs.one (args := #[Value.ref b]) (flat_of_before _ hgv _ (by decide +kernel))
    · exact NCs.one (args := #[Value.ref b]) (flat_of_before _ hgv _ (by decide +kernel))
    · exact NCs.one (args := #[Value.ref b]) (flat_of_before _ hgv _ (by decide +kernel))
    · exact NCs.one (args := #[Value.ref b]) (flat_of_before _ hgv _ (by decide +kernel))
  have hTZ : TZ (fun q => s.heap.size ≤ q) s s.heap := ⟨hZS, ⟨hZL, hNC⟩, tp, fun j => 10 ^ j, fun j hj => ⟨Nat.pow_pos (by decide), Nat.pow_le_pow_right (n := 10) (i := j) (j := 8) (by decide) (by omega), rfl⟩, hZP, hTp⟩
  have hA : ∀ q : Nat, s.heap.size ≤ q → (fun q => s.heap.size ≤ q) q := fun q h => h
  have hA2 : ∀ q : Nat, (fun q => s.heap.size ≤ q) q → s.heap.size ≤ q := fun q h => h
  have hbA : ¬ (fun q => s.heap.size ≤ q) b := Nat.not_le.mpr hbl
  clear hZS hZL hTp hZP etp eln el0 el1 el2 el3 el4 el5 el6 el7 el8
  generalize (fun q => s.heap.size ≤ q) = A at hTZ hA hA2 hbA
  have hS : va_S A s.heap s.heap [] := va_S.rf
  obtain ⟨g, htg, hLP, hty, hgD⟩ := lay0 (dC, dI)
  obtain ⟨f, -⟩ : ∃ f : Nat → va_E, True := ⟨fun _ => .inr (0, []), trivial⟩
  have hL0 : LO g := lo0 htg
  have hI : IV g f := iv0 htg f
  have hP : va_P g.D vcl (va_pl g.LP f) s.heap := by rw [hLP]; exact fun k q h => by simp [va_pl] at h
  have hD : va_D A (va_pl g.LP f) := by rw [hLP]; exact ⟨fun i j p q h => by simp [va_pl] at h, fun k q h => by simp [va_pl] at h⟩
  have hK : va_K g.D vcl g.tys s := by rw [hgD, hty]; exact hK0
  have hE : EX 0 g f g f := EX.rf
  have hN : NT [] g g := NT.rf
  have hLs := hL
  have hL := hL0
  have hl := lv_entry ([.ref b]) (n := 8) (Nat.le_of_ble_eq_true rfl)
  rw [lg_entry_eq]
  generalize (lg_sl ([.ref b]) ++ List.replicate (8 - (lg_sl ([.ref b])).length) Slot.unset).toArray = ls at hl ⊢
  have hl : lv_has ls 8 [(0, .ref b)] := hl
  refine gw_new (ci := 0) (fs := [.null, .int (nI 0), .null, .null, .int (nI 0)]) (C := "BigRunner") (T := FT0) (N := 5) hx hb (hw0 hB _) (fun _ h9 => h9) TY0 ok0 hown (wd_95 hB _) (wd_96 hB _) (wd_72 hB _) hK hP hD hS hA hL rfl (fun j hj => by rcases (show j = 0 ∨ j = 1 ∨ j = 2 ∨ j = 3 ∨ j = 4 by omega) with rfl | rfl | rfl | rfl | rfl <;> rfl) (Nat.le_of_ble_eq_true rfl) (Nat.le_of_ble_eq_true rfl) d_L_law_0 (fun q1 g2 f3 H hz0 t_q1 p_q1 e_q1 hK hP hD hS => ?_)
  have o_q1 := hE.new p_q1
  have hz := hz0.ex
  have hI := IV_t0 hz0 hL hI t_q1
  have hL := LO_tp_0 hz0 hL t_q1
  have hN := hN.tp hz0 t_q1 (by decide)
  have hE := hE.tr hz (Or.inr o_q1)
  have m_q1 := hz0.2.1
  refine W.widen (k := 1) (n := 5) (by omega) (by omega) ?_
  refine lv_dup hx hb d_L_law_3 rfl ?_
  refine gw_call (va_runI (As := []) (rest := [.ref q1]) ⟨hx, hb, hml, hown, tb_nil⟩ (g6_BigRunner l g2 H.size f3 q1 0 hL hI m_q1 t_q1 e_q1) ⟨(callB_of 0 (tb_one (wd_99 hB _)) tb_good1 rfl rfl rfl (wd_72 hB _) (wd_97 hB _) (by decide +kernel) ⟨Nat.le_of_ble_eq_true rfl, Nat.le_of_ble_eq_true rfl⟩), rfl, (wd_98 hB _)⟩ ⟨pe_bl, pe_pre hB hK hP hD⟩ rfl rfl hl.1 rfl (lv_room (Nat.le_of_ble_eq_true rfl)) d_L_law_4 ⟨(Nat.le_of_ble_eq_true rfl), (Nat.le_of_ble_eq_true rfl)⟩) hA hD hS (fun g4 f5 H locs hq hK hP hD hS => ?_)
  obtain ⟨hz, hL9, hI9, t9_q1, n_q1, hN9, cj_q1⟩ := hq
  have hL := hL9
  have hI := hI9
  have hN := (hN.sub (S1 := []) (by decide)).tr hN9 (by decide)
  have hE := hE.tr hz (Or.inr o_q1)
  have m_q1 := hz.mem m_q1
  have t_q1 := t9_q1
  have hc0 := cj_q1
  refine W.widen (k := 737) (n := 5138) (by omega) (by omega) ?_
  refine lv_astore_n (lv' := [(1, .ref q1), (0, .ref b)]) hx hb d_L_law_7 rfl hl (by decide) rfl (fun ls hl => ?_)
  refine gw_new (ci := 10) (fs := [.int (nI 0), .null, .int (nI 0), .null, .null, .int (nI 0), .null, .null, .null, .int (nI 0), .int (nI 0), .int (nI 0), .null, .int (nI 0), .null, .null, .int (nI 0), .null, .null, .null, .null, .null, .null, .null, .null, .null, .null, .null, .null, .null, .null, .null, .int (nI 0), .null, .null, .null, .int (nI 0), .int (nI 0), .int (nI 0), .int (nI 0), .int (nI 0), .int (nI 0), .int (nI 0), .int (nI 0), .int (nI 0)]) (C := "BigRunnerModel") (T := FT10) (N := 45) hx hb (hw10 hB _) (fun _ h9 => h9) TY10 ok10 hown (wd_941 hB _) (wd_942 hB _) (wd_82 hB _) hK hP hD hS hA hL rfl (fun j hj => by rcases (show j = 0 ∨ j = 1 ∨ j = 2 ∨ j = 3 ∨ j = 4 ∨ j = 5 ∨ j = 6 ∨ j = 7 ∨ j = 8 ∨ j = 9 ∨ j = 10 ∨ j = 11 ∨ j = 12 ∨ j = 13 ∨ j = 14 ∨ j = 15 ∨ j = 16 ∨ j = 17 ∨ j = 18 ∨ j = 19 ∨ j = 20 ∨ j = 21 ∨ j = 22 ∨ j = 23 ∨ j = 24 ∨ j = 25 ∨ j = 26 ∨ j = 27 ∨ j = 28 ∨ j = 29 ∨ j = 30 ∨ j = 31 ∨ j = 32 ∨ j = 33 ∨ j = 34 ∨ j = 35 ∨ j = 36 ∨ j = 37 ∨ j = 38 ∨ j = 39 ∨ j = 40 ∨ j = 41 ∨ j = 42 ∨ j = 43 ∨ j = 44 by omega) with rfl | rfl | rfl | rfl | rfl | rfl | rfl | rfl | rfl | rfl | rfl | rfl | rfl | rfl | rfl | rfl | rfl | rfl | rfl | rfl | rfl | rfl | rfl | rfl | rfl | rfl | rfl | rfl | rfl | rfl | rfl | rfl | rfl | rfl | rfl | rfl | rfl | rfl | rfl | rfl | rfl | rfl | rfl | rfl | rfl <;> rfl) (Nat.le_of_ble_eq_true rfl) (Nat.le_of_ble_eq_true rfl) d_L_law_8 (fun q6 g7 f8 H hz0 t_q6 p_q6 e_q6 hK hP hD hS => ?_)
  have d_q1_q6 : q1 ≠ q6 := fun z9 => p_q6 (z9 ▸ m_q1)
  have o_q6 := hE.new p_q6
  have hz := hz0.ex
  have hc0 := hc0.ex hL hz hz0.1
  have hI := IV_t0 hz0 hL hI t_q6
  have hL := LO_tp_0 hz0 hL t_q6
  have hN := hN.tp hz0 t_q6 (by decide)
  have hE := hE.tr hz (Or.inr o_q6)
  have n_q1 := hz.kN m_q1 d_q1_q6 n_q1
  obtain ⟨m_q1, t_q1⟩ := hz.kT m_q1 d_q1_q6 t_q1
  have m_q6 := hz0.2.1
  refine W.widen (k := 738) (n := 5183) (by omega) (by omega) ?_
  refine lv_dup hx hb d_L_law_11 rfl ?_
  refine gw_call (va_runI (As := []) (rest := [.ref q6]) ⟨hx, hb, hml, hown, tb_nil⟩ (g6_BigRunnerModel l g7 H.size f8 q6 0 hL hI m_q6 t_q6 e_q6) ⟨(callB_of 0 (tb_one (wd_945 hB _)) tb_good1 rfl rfl rfl (wd_82 hB _) (wd_943 hB _) (by decide +kernel) ⟨Nat.le_of_ble_eq_true rfl, Nat.le_of_ble_eq_true rfl⟩), rfl, (wd_944 hB _)⟩ ⟨pe_bl, pe_pre hB hK hP hD⟩ rfl rfl hl.1 rfl (lv_room (Nat.le_of_ble_eq_true rfl)) d_L_law_12 ⟨(Nat.le_of_ble_eq_true rfl), (Nat.le_of_ble_eq_true rfl)⟩) hA hD hS (fun g9 f10 H locs hq hK hP hD hS => ?_)
  obtain ⟨hz, hL9, hI9, t9_q6, n_q6, hN9, mj_q6⟩ := hq
  have hc0 := hc0.ex hL hz t_q6
  have hL := hL9
  have hI := hI9
  have hN := (hN.sub (S1 := []) (by decide)).tr hN9 (by decide)
  have hE := hE.tr hz (Or.inr o_q6)
  have n_q1 := hz.kN m_q1 d_q1_q6 n_q1
  obtain ⟨m_q1, t_q1⟩ := hz.kT m_q1 d_q1_q6 t_q1
  have m_q6 := hz.mem m_q6
  have t_q6 := t9_q6
  have hm0 := mj_q6
  refine W.widen (k := 765) (n := 8597) (by omega) (by omega) ?_
  refine lv_astore_n (lv' := [(2, .ref q6), (1, .ref q1), (0, .ref b)]) hx hb d_L_law_15 rfl hl (by decide) rfl (fun ls hl => ?_)
  refine lv_iconst (v := nI 1) hx hb d_L_law_16 (by decide) ?_
  refine gw_arr (atype := .long) (a0 := (1, .inr (.inl (fun _ => nL 0)))) (N' := 1) (ty := .long) hx hb (wd_329 hB _) rfl 0 hK hP hD hS hA hL (fun _ => rfl) (by decide +kernel) (by decide +kernel) (by decide +kernel) (Nat.le_of_ble_eq_true rfl) (Nat.le_of_ble_eq_true rfl) d_L_law_17 (fun q11 g12 f13 H hz0 t_q11 p_q11 e_q11 y_q11 hK hP hD hS => ?_)
  have d_q1_q11 : q1 ≠ q11 := fun z9 => p_q11 (z9 ▸ m_q1)
  have d_q6_q11 : q6 ≠ q11 := fun z9 => p_q11 (z9 ▸ m_q6)
  have o_q11 := hE.new p_q11
  have hz := hz0.ex
  have hc0 := hc0.ex hL hz hz0.1
  have hm0 := hm0.ex hL t_q6 hz hz0.1
  have hI := IV_t0 hz0 hL hI t_q11
  have hL := LO_tp_0 hz0 hL t_q11
  have hN := hN.tp hz0 t_q11 (by decide)
  have hE := hE.tr hz (Or.inr o_q11)
  have n_q1 := hz.kN m_q1 d_q1_q11 n_q1
  obtain ⟨m_q1, t_q1⟩ := hz.kT m_q1 d_q1_q11 t_q1
  have n_q6 := hz.kN m_q6 d_q6_q11 n_q6
  obtain ⟨m_q6, t_q6⟩ := hz.kT m_q6 d_q6_q11 t_q6
  have m_q11 := hz0.2.1
  refine W.widen (k := 766) (n := 8598) (by omega) (by omega) ?_
  refine lv_astore_n (lv' := [(3, .ref q11), (2, .ref q6), (1, .ref q1), (0, .ref b)]) hx hb d_L_law_19 rfl hl (by decide) rfl (fun ls hl => ?_)
  refine lv_iconst (v := nI 0) hx hb d_L_law_20 (by decide) ?_
  refine lv_istore (lv' := [(4, .int (nI 0)), (3, .ref q11), (2, .ref q6), (1, .ref q1), (0, .ref b)]) hx hb d_L_law_21 hl (by decide) rfl (fun ls hl => ?_)
  exact law_loop (b := b) (Ls := L) (xs := xs) (A := A) (g := g12) (B := q1) (M := q6) (ob := q11) hx hb hr hml hlocks hown hB htr hTZ hA hA2 hX hbl hbA hLs hK hL t_q1 t_q6 m_q11 t_q11 y_q11 (L + 4) 0 f13 0 (fun _ => nI 0) (none, S00) H _ ls (by omega) (by omega) hI (hc0.cv hL hI) (hm0.mv hL t_q6 hI) ⟨_, e_q11⟩ (lv_sub hl [0, 1, 2, 3, 4] rfl) hP hD hS

