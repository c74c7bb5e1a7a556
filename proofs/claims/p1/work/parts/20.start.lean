set_option maxHeartbeats 4000000 in
set_option maxRecDepth 100000 in
theorem whole_start {p : Program} {e : Env} {s : State} {m : MethodId} {below : List Frame} {meth : Method} {c : Code} (l : Launch) (htr : l.stackTraces = false) {b L : Nat} {xs : Nat → Int32} (hL : L ≤ 3) (C0 : lw_At p s m meth c b L xs) : W p l e room_1 s m #[Value.ref b] below meth c s.heap [] 0 0 (lw_Z below #[Value.ref b] s) (entryFrame m ([Value.ref b] : List Value).toArray 8) := by
  obtain ⟨hx, hb, hr, hml, hown, hts, hX, hbl, hlocks, hgv⟩ := C0
  have hB : TB s := fun w hw h => tb_args h (hts w hw)
  obtain ⟨dC, dI, hK⟩ := lk_K hB
  have hZS : th_Z "UNASSIGNED_STACK" "[Ljava/lang/StackTraceElement;" (fun q => s.heap.size ≤ q) s s.heap := th_Z.of (hts _ (List.mem_of_getElem? (i := 548) (by decide +kernel))) (flat_of_before _ hgv _ (by decide +kernel)) (fun a h1 h2 => Nat.not_lt.mpr h2 h1)
  have hZL : th_Z "SUPPRESSED_SENTINEL" "Ljava/util/List;" (fun q => s.heap.size ≤ q) s s.heap := th_Z.of (hts _ (List.mem_of_getElem? (i := 550) (by decide +kernel))) (flat_of_before _ hgv _ (by decide +kernel)) (fun a h1 h2 => Nat.not_lt.mpr h2 h1)
  have hA : ∀ q : Nat, s.heap.size ≤ q → (fun q => s.heap.size ≤ q) q := fun q h => h
  have hA2 : ∀ q : Nat, (fun q => s.heap.size ≤ q) q → s.heap.size ≤ q := fun q h => h
  have hbA : ¬ (fun q => s.heap.size ≤ q) b := Nat.not_le.mpr hbl
  generalize (fun q => s.heap.size ≤ q) = A at hZS hZL hA hA2 hbA
  have hS : va_S A s.heap s.heap [] := va_S.rf
  have hP : va_P (dC, dI) vcl [] s.heap := fun k q h => by simp at h
  have hD : va_D A [] := ⟨fun i j p q h => by simp at h, fun k q h => by simp at h⟩
  have hl := lv_entry ([.ref b]) (n := 8) (Nat.le_of_ble_eq_true rfl)
  rw [lg_entry_eq]
  generalize (lg_sl ([.ref b]) ++ List.replicate (8 - (lg_sl ([.ref b])).length) Slot.unset).toArray = ls at hl ⊢
  have hl : lv_has ls 8 [(0, .ref b)] := hl
  refine va_new (ci := 0) (fs := [.null, .int 0, .null, .null, .int 0]) (C := "BigRunner") (T := FT0) (N := 5) hx hb (hw0 hB _) (fun _ h9 => h9) TY0 ok0 hown (wd_95 hB _) (wd_96 hB _) (wd_72 hB _) hK hP hD hS hA rfl (fun j hj => by rcases (show j = 0 ∨ j = 1 ∨ j = 2 ∨ j = 3 ∨ j = 4 by omega) with rfl | rfl | rfl | rfl | rfl <;> rfl) (Nat.le_of_ble_eq_true rfl) (Nat.le_of_ble_eq_true rfl) d_L_law_0 (fun q0_1 H hP hD hS => ?_)
  have hP : va_P (dC, dI) vcl [(q0_1, .inr (0, [.null, .int 0, .null, .null, .int 0]))] H := hP
  have hD : va_D A [(q0_1, .inr (0, [.null, .int 0, .null, .null, .int 0]))] := hD
  refine W.widen (k := 1) (n := 5) (by omega) (by omega) ?_
  refine lv_dup hx hb d_L_law_3 rfl ?_
  have hPc := hP.sub (ws' := [(q0_1, .inr (0, [.null, .int 0, .null, .null, .int 0]))]) [0] rfl
  have hDc := hD.sub (ws' := [(q0_1, .inr (0, [.null, .int 0, .null, .null, .int 0]))]) [0] (by decide) rfl
  have hKc := hK.sub (tys' := []) [] rfl
  have hFc := va_free (wc := [(q0_1, .inr (0, [.null, .int 0, .null, .null, .int 0]))]) hD hS hA [0] rfl
  refine va_callv (va_runI (As := []) (rest := [.ref q0_1]) ⟨hx, hb, hml, hown, tb_nil⟩ (c_BigRunner_init l dC dI H.size q0_1) ⟨(callB_of 0 (tb_one (wd_99 hB _)) tb_good1 rfl rfl rfl (wd_72 hB _) (wd_97 hB _) (by decide +kernel) ⟨Nat.le_of_ble_eq_true rfl, Nat.le_of_ble_eq_true rfl⟩), rfl, (wd_98 hB _)⟩ ⟨fun a U g mk q => by obtain ⟨q0, q1, qB, qP, qK, qD⟩ := q; exact ⟨q0, q1, TB.same (s := U) (U := U.calling g mk a) rfl qB, qP, va_K.moved (u := U) (U := U.calling g mk a) (Vm.Alike.refl U.vm) qK, qD⟩, fun U hU hW => ⟨rfl, by rw [hU], hB.moved hW, by rw [hU]; exact hPc, va_K.moved hW.alike hKc, hDc.weaken (fun _ _ _ _ => trivial)⟩⟩ rfl rfl hl.1 rfl (lv_room (Nat.le_of_ble_eq_true rfl)) d_L_law_4 ⟨(Nat.le_of_ble_eq_true rfl), (Nat.le_of_ble_eq_true rfl)⟩) hS (fun q _ h => hFc q h) hFc (fun u_ t H1 locs ht hvm hw_ hB1 hz1 hk1 hS => ?_)
  obtain ⟨u4_2, u4_3, u4_4, u4_5, u4_6, u4_7, u4_8, u4_9, u4_10, u4_11, u4_12, u4_13, u4_14, u4_15, u4_16, u4_17, u4_18, u4_19, u4_20, u4_21, u4_22, u4_23⟩ := u_
  obtain ⟨hP1, hK1, hD1⟩ := hB1
  rw [ht] at hP1
  have hK1 := va_K.moved hvm.symm hK1
  try dsimp only at hw_
  obtain ⟨hP, hD⟩ := va_join (wr := []) (w1 := [(q0_1, .inr (0, [.ref u4_2, .int 0, .ref u4_4, .ref u4_5, .int 0])), (u4_2, .inl (u4_3, 72, .inl (fun _ => 0))), (u4_4, .inr (7, [.ref u4_6, .int 0, .int 0, .ref u4_7])), (u4_7, .inr (6, [.ref u4_8, .int 0, .ref u4_12, .int 0, .ref u4_13, .ref u4_14])), (u4_8, .inl (u4_9, 36, .inr (.inr (.inr (.inr (u4_10)))))), (u4_11, .inr (9, [.int 5, .int 0, .int 0, .int (-1), .int 0])), (u4_5, .inr (8, [.ref u4_15, .ref u4_16, .int 0, .ref u4_17, .ref u4_18, .ref u4_19, .ref u4_20, .ref u4_21, .int 0, .int 0, .int 0, .int 0, .int 0])), (u4_16, .inr (1, [.ref u4_22, .int 0, .int 0])), (u4_22, .inl (u4_23, 20, .inl (fun _ => 0)))]) hP hD [0] [] rfl rfl (by decide) (by decide) hk1 hFc hP1 hD1
  have hK := (hK.sub (tys' := []) [] rfl).app hK1
  clear hk1 hFc hPc hDc hKc hP1 hD1 hK1 hz1 ht hvm
  generalize H1 = H at hP hS ⊢
  have hP : va_P (dC, dI) vcl [(q0_1, .inr (0, [.ref u4_2, .int 0, .ref u4_4, .ref u4_5, .int 0])), (u4_2, .inl (u4_3, 72, .inl (fun _ => 0))), (u4_4, .inr (7, [.ref u4_6, .int 0, .int 0, .ref u4_7])), (u4_7, .inr (6, [.ref u4_8, .int 0, .ref u4_12, .int 0, .ref u4_13, .ref u4_14])), (u4_8, .inl (u4_9, 36, .inr (.inr (.inr (.inr (u4_10)))))), (u4_11, .inr (9, [.int 5, .int 0, .int 0, .int (-1), .int 0])), (u4_5, .inr (8, [.ref u4_15, .ref u4_16, .int 0, .ref u4_17, .ref u4_18, .ref u4_19, .ref u4_20, .ref u4_21, .int 0, .int 0, .int 0, .int 0, .int 0])), (u4_16, .inr (1, [.ref u4_22, .int 0, .int 0])), (u4_22, .inl (u4_23, 20, .inl (fun _ => 0)))] H := hP
  have hD : va_D A [(q0_1, .inr (0, [.ref u4_2, .int 0, .ref u4_4, .ref u4_5, .int 0])), (u4_2, .inl (u4_3, 72, .inl (fun _ => 0))), (u4_4, .inr (7, [.ref u4_6, .int 0, .int 0, .ref u4_7])), (u4_7, .inr (6, [.ref u4_8, .int 0, .ref u4_12, .int 0, .ref u4_13, .ref u4_14])), (u4_8, .inl (u4_9, 36, .inr (.inr (.inr (.inr (u4_10)))))), (u4_11, .inr (9, [.int 5, .int 0, .int 0, .int (-1), .int 0])), (u4_5, .inr (8, [.ref u4_15, .ref u4_16, .int 0, .ref u4_17, .ref u4_18, .ref u4_19, .ref u4_20, .ref u4_21, .int 0, .int 0, .int 0, .int 0, .int 0])), (u4_16, .inr (1, [.ref u4_22, .int 0, .int 0])), (u4_22, .inl (u4_23, 20, .inl (fun _ => 0)))] := hD
  have hK : va_K (dC, dI) vcl [(u4_3, .char), (u4_9, (.object "BigRunner$Statement")), (u4_23, .int)] s := hK
  refine W.widen (k := 737) (n := 5138) (by omega) (by omega) ?_
  have hf := hw_
  refine lv_astore_n (lv' := [(1, .ref q0_1), (0, .ref b)]) hx hb d_L_law_7 rfl hl (by decide) rfl (fun ls hl => ?_)
  refine va_new (ci := 10) (fs := [.int 0, .null, .int 0, .null, .null, .int 0, .null, .null, .null, .int 0, .int 0, .int 0, .null, .int 0, .null, .null, .int 0, .null, .null, .null, .null, .null, .null, .null, .null, .null, .null, .null, .null, .null, .null, .null, .int 0, .null, .null, .null, .int 0, .int 0, .int 0, .int 0, .int 0, .int 0, .int 0, .int 0, .int 0]) (C := "BigRunnerModel") (T := FT10) (N := 45) hx hb (hw10 hB _) (fun _ h9 => h9) TY10 ok10 hown (wd_941 hB _) (wd_942 hB _) (wd_82 hB _) hK hP hD hS hA rfl (fun j hj => by rcases (show j = 0 ∨ j = 1 ∨ j = 2 ∨ j = 3 ∨ j = 4 ∨ j = 5 ∨ j = 6 ∨ j = 7 ∨ j = 8 ∨ j = 9 ∨ j = 10 ∨ j = 11 ∨ j = 12 ∨ j = 13 ∨ j = 14 ∨ j = 15 ∨ j = 16 ∨ j = 17 ∨ j = 18 ∨ j = 19 ∨ j = 20 ∨ j = 21 ∨ j = 22 ∨ j = 23 ∨ j = 24 ∨ j = 25 ∨ j = 26 ∨ j = 27 ∨ j = 28 ∨ j = 29 ∨ j = 30 ∨ j = 31 ∨ j = 32 ∨ j = 33 ∨ j = 34 ∨ j = 35 ∨ j = 36 ∨ j = 37 ∨ j = 38 ∨ j = 39 ∨ j = 40 ∨ j = 41 ∨ j = 42 ∨ j = 43 ∨ j = 44 by omega) with rfl | rfl | rfl | rfl | rfl | rfl | rfl | rfl | rfl | rfl | rfl | rfl | rfl | rfl | rfl | rfl | rfl | rfl | rfl | rfl | rfl | rfl | rfl | rfl | rfl | rfl | rfl | rfl | rfl | rfl | rfl | rfl | rfl | rfl | rfl | rfl | rfl | rfl | rfl | rfl | rfl | rfl | rfl | rfl | rfl <;> rfl) (Nat.le_of_ble_eq_true rfl) (Nat.le_of_ble_eq_true rfl) d_L_law_8 (fun q8_24 H hP hD hS => ?_)
  have hP : va_P (dC, dI) vcl [(q0_1, .inr (0, [.ref u4_2, .int 0, .ref u4_4, .ref u4_5, .int 0])), (u4_2, .inl (u4_3, 72, .inl (fun _ => 0))), (u4_4, .inr (7, [.ref u4_6, .int 0, .int 0, .ref u4_7])), (u4_7, .inr (6, [.ref u4_8, .int 0, .ref u4_12, .int 0, .ref u4_13, .ref u4_14])), (u4_8, .inl (u4_9, 36, .inr (.inr (.inr (.inr (u4_10)))))), (u4_11, .inr (9, [.int 5, .int 0, .int 0, .int (-1), .int 0])), (u4_5, .inr (8, [.ref u4_15, .ref u4_16, .int 0, .ref u4_17, .ref u4_18, .ref u4_19, .ref u4_20, .ref u4_21, .int 0, .int 0, .int 0, .int 0, .int 0])), (u4_16, .inr (1, [.ref u4_22, .int 0, .int 0])), (u4_22, .inl (u4_23, 20, .inl (fun _ => 0))), (q8_24, .inr (10, [.int 0, .null, .int 0, .null, .null, .int 0, .null, .null, .null, .int 0, .int 0, .int 0, .null, .int 0, .null, .null, .int 0, .null, .null, .null, .null, .null, .null, .null, .null, .null, .null, .null, .null, .null, .null, .null, .int 0, .null, .null, .null, .int 0, .int 0, .int 0, .int 0, .int 0, .int 0, .int 0, .int 0, .int 0]))] H := hP
  have hD : va_D A [(q0_1, .inr (0, [.ref u4_2, .int 0, .ref u4_4, .ref u4_5, .int 0])), (u4_2, .inl (u4_3, 72, .inl (fun _ => 0))), (u4_4, .inr (7, [.ref u4_6, .int 0, .int 0, .ref u4_7])), (u4_7, .inr (6, [.ref u4_8, .int 0, .ref u4_12, .int 0, .ref u4_13, .ref u4_14])), (u4_8, .inl (u4_9, 36, .inr (.inr (.inr (.inr (u4_10)))))), (u4_11, .inr (9, [.int 5, .int 0, .int 0, .int (-1), .int 0])), (u4_5, .inr (8, [.ref u4_15, .ref u4_16, .int 0, .ref u4_17, .ref u4_18, .ref u4_19, .ref u4_20, .ref u4_21, .int 0, .int 0, .int 0, .int 0, .int 0])), (u4_16, .inr (1, [.ref u4_22, .int 0, .int 0])), (u4_22, .inl (u4_23, 20, .inl (fun _ => 0))), (q8_24, .inr (10, [.int 0, .null, .int 0, .null, .null, .int 0, .null, .null, .null, .int 0, .int 0, .int 0, .null, .int 0, .null, .null, .int 0, .null, .null, .null, .null, .null, .null, .null, .null, .null, .null, .null, .null, .null, .null, .null, .int 0, .null, .null, .null, .int 0, .int 0, .int 0, .int 0, .int 0, .int 0, .int 0, .int 0, .int 0]))] := hD
  refine W.widen (k := 738) (n := 5183) (by omega) (by omega) ?_
  refine lv_dup hx hb d_L_law_11 rfl ?_
  have hPc := hP.sub (ws' := [(q8_24, .inr (10, [.int 0, .null, .int 0, .null, .null, .int 0, .null, .null, .null, .int 0, .int 0, .int 0, .null, .int 0, .null, .null, .int 0, .null, .null, .null, .null, .null, .null, .null, .null, .null, .null, .null, .null, .null, .null, .null, .int 0, .null, .null, .null, .int 0, .int 0, .int 0, .int 0, .int 0, .int 0, .int 0, .int 0, .int 0]))]) [9] rfl
  have hDc := hD.sub (ws' := [(q8_24, .inr (10, [.int 0, .null, .int 0, .null, .null, .int 0, .null, .null, .null, .int 0, .int 0, .int 0, .null, .int 0, .null, .null, .int 0, .null, .null, .null, .null, .null, .null, .null, .null, .null, .null, .null, .null, .null, .null, .null, .int 0, .null, .null, .null, .int 0, .int 0, .int 0, .int 0, .int 0, .int 0, .int 0, .int 0, .int 0]))]) [9] (by decide) rfl
  have hKc := hK.sub (tys' := []) [] rfl
  have hFc := va_free (wc := [(q8_24, .inr (10, [.int 0, .null, .int 0, .null, .null, .int 0, .null, .null, .null, .int 0, .int 0, .int 0, .null, .int 0, .null, .null, .int 0, .null, .null, .null, .null, .null, .null, .null, .null, .null, .null, .null, .null, .null, .null, .null, .int 0, .null, .null, .null, .int 0, .int 0, .int 0, .int 0, .int 0, .int 0, .int 0, .int 0, .int 0]))]) hD hS hA [9] rfl
  refine va_callv (va_runI (As := []) (rest := [.ref q8_24]) ⟨hx, hb, hml, hown, tb_nil⟩ (c_M_init l dC dI H.size q8_24) ⟨(callB_of 0 (tb_one (wd_945 hB _)) tb_good1 rfl rfl rfl (wd_82 hB _) (wd_943 hB _) (by decide +kernel) ⟨Nat.le_of_ble_eq_true rfl, Nat.le_of_ble_eq_true rfl⟩), rfl, (wd_944 hB _)⟩ ⟨fun a U g mk q => by obtain ⟨q0, q1, qB, qP, qK, qD⟩ := q; exact ⟨q0, q1, TB.same (s := U) (U := U.calling g mk a) rfl qB, qP, va_K.moved (u := U) (U := U.calling g mk a) (Vm.Alike.refl U.vm) qK, qD⟩, fun U hU hW => ⟨rfl, by rw [hU], hB.moved hW, by rw [hU]; exact hPc, va_K.moved hW.alike hKc, hDc.weaken (fun _ _ _ _ => trivial)⟩⟩ rfl rfl hl.1 rfl (lv_room (Nat.le_of_ble_eq_true rfl)) d_L_law_12 ⟨(Nat.le_of_ble_eq_true rfl), (Nat.le_of_ble_eq_true rfl)⟩) hS (fun q _ h => hFc q h) hFc (fun u_ t H1 locs ht hvm hw_ hB1 hz1 hk1 hS => ?_)
  obtain ⟨u12_25, u12_26, u12_27, u12_28, u12_29, u12_30, u12_31, u12_32, u12_33, u12_34, u12_35, u12_36, u12_37, u12_38, u12_39, u12_40, u12_41, u12_42, u12_43, u12_44, u12_45, u12_46, u12_47, u12_48, u12_49, u12_50, u12_51, u12_52, u12_53⟩ := u_
  obtain ⟨hP1, hK1, hD1⟩ := hB1
  rw [ht] at hP1
  have hK1 := va_K.moved hvm.symm hK1
  try dsimp only at hw_
  obtain ⟨hP, hD⟩ := va_join (wr := [(q0_1, .inr (0, [.ref u4_2, .int 0, .ref u4_4, .ref u4_5, .int 0])), (u4_2, .inl (u4_3, 72, .inl (fun _ => 0))), (u4_4, .inr (7, [.ref u4_6, .int 0, .int 0, .ref u4_7])), (u4_7, .inr (6, [.ref u4_8, .int 0, .ref u4_12, .int 0, .ref u4_13, .ref u4_14])), (u4_8, .inl (u4_9, 36, .inr (.inr (.inr (.inr (u4_10)))))), (u4_11, .inr (9, [.int 5, .int 0, .int 0, .int (-1), .int 0])), (u4_5, .inr (8, [.ref u4_15, .ref u4_16, .int 0, .ref u4_17, .ref u4_18, .ref u4_19, .ref u4_20, .ref u4_21, .int 0, .int 0, .int 0, .int 0, .int 0])), (u4_16, .inr (1, [.ref u4_22, .int 0, .int 0])), (u4_22, .inl (u4_23, 20, .inl (fun _ => 0)))]) (w1 := [(q8_24, .inr (10, [.int 0, .ref u12_25, .int 0, .ref u12_29, .ref u12_30, .int 0, .ref u12_31, .ref u12_32, .ref u12_33, .int 0, .int 0, .int 0, .ref u12_34, .int 0, .ref u12_35, .ref u12_36, .int 0, .ref u12_37, .ref u12_38, .ref u12_39, .ref u12_40, .ref u12_41, .ref u12_42, .ref u12_43, .ref u12_44, .ref u12_45, .ref u12_46, .ref u12_47, .ref u12_48, .ref u12_49, .ref u12_50, .ref u12_51, .int 0, .ref u12_52, .ref u12_53, .ref u12_27, .int 0, .int 0, .int 0, .int 0, .int 0, .int 0, .int 0, .int 0, .int 0])), (u12_25, .inl (u12_26, 72, .inl (fun _ => 0))), (u12_27, .inl (u12_28, 20, .inl (fun _ => 0)))]) hP hD [9] [0, 1, 2, 3, 4, 5, 6, 7, 8] rfl rfl (by decide) (by decide) hk1 hFc hP1 hD1
  have hK := (hK.sub (tys' := [(u4_3, .char), (u4_9, (.object "BigRunner$Statement")), (u4_23, .int)]) [0, 1, 2] rfl).app hK1
  clear hk1 hFc hPc hDc hKc hP1 hD1 hK1 hz1 ht hvm
  generalize H1 = H at hP hS ⊢
  have hP : va_P (dC, dI) vcl [(q0_1, .inr (0, [.ref u4_2, .int 0, .ref u4_4, .ref u4_5, .int 0])), (u4_2, .inl (u4_3, 72, .inl (fun _ => 0))), (u4_4, .inr (7, [.ref u4_6, .int 0, .int 0, .ref u4_7])), (u4_7, .inr (6, [.ref u4_8, .int 0, .ref u4_12, .int 0, .ref u4_13, .ref u4_14])), (u4_8, .inl (u4_9, 36, .inr (.inr (.inr (.inr (u4_10)))))), (u4_11, .inr (9, [.int 5, .int 0, .int 0, .int (-1), .int 0])), (u4_5, .inr (8, [.ref u4_15, .ref u4_16, .int 0, .ref u4_17, .ref u4_18, .ref u4_19, .ref u4_20, .ref u4_21, .int 0, .int 0, .int 0, .int 0, .int 0])), (u4_16, .inr (1, [.ref u4_22, .int 0, .int 0])), (u4_22, .inl (u4_23, 20, .inl (fun _ => 0))), (q8_24, .inr (10, [.int 0, .ref u12_25, .int 0, .ref u12_29, .ref u12_30, .int 0, .ref u12_31, .ref u12_32, .ref u12_33, .int 0, .int 0, .int 0, .ref u12_34, .int 0, .ref u12_35, .ref u12_36, .int 0, .ref u12_37, .ref u12_38, .ref u12_39, .ref u12_40, .ref u12_41, .ref u12_42, .ref u12_43, .ref u12_44, .ref u12_45, .ref u12_46, .ref u12_47, .ref u12_48, .ref u12_49, .ref u12_50, .ref u12_51, .int 0, .ref u12_52, .ref u12_53, .ref u12_27, .int 0, .int 0, .int 0, .int 0, .int 0, .int 0, .int 0, .int 0, .int 0])), (u12_25, .inl (u12_26, 72, .inl (fun _ => 0))), (u12_27, .inl (u12_28, 20, .inl (fun _ => 0)))] H := hP
  have hD : va_D A [(q0_1, .inr (0, [.ref u4_2, .int 0, .ref u4_4, .ref u4_5, .int 0])), (u4_2, .inl (u4_3, 72, .inl (fun _ => 0))), (u4_4, .inr (7, [.ref u4_6, .int 0, .int 0, .ref u4_7])), (u4_7, .inr (6, [.ref u4_8, .int 0, .ref u4_12, .int 0, .ref u4_13, .ref u4_14])), (u4_8, .inl (u4_9, 36, .inr (.inr (.inr (.inr (u4_10)))))), (u4_11, .inr (9, [.int 5, .int 0, .int 0, .int (-1), .int 0])), (u4_5, .inr (8, [.ref u4_15, .ref u4_16, .int 0, .ref u4_17, .ref u4_18, .ref u4_19, .ref u4_20, .ref u4_21, .int 0, .int 0, .int 0, .int 0, .int 0])), (u4_16, .inr (1, [.ref u4_22, .int 0, .int 0])), (u4_22, .inl (u4_23, 20, .inl (fun _ => 0))), (q8_24, .inr (10, [.int 0, .ref u12_25, .int 0, .ref u12_29, .ref u12_30, .int 0, .ref u12_31, .ref u12_32, .ref u12_33, .int 0, .int 0, .int 0, .ref u12_34, .int 0, .ref u12_35, .ref u12_36, .int 0, .ref u12_37, .ref u12_38, .ref u12_39, .ref u12_40, .ref u12_41, .ref u12_42, .ref u12_43, .ref u12_44, .ref u12_45, .ref u12_46, .ref u12_47, .ref u12_48, .ref u12_49, .ref u12_50, .ref u12_51, .int 0, .ref u12_52, .ref u12_53, .ref u12_27, .int 0, .int 0, .int 0, .int 0, .int 0, .int 0, .int 0, .int 0, .int 0])), (u12_25, .inl (u12_26, 72, .inl (fun _ => 0))), (u12_27, .inl (u12_28, 20, .inl (fun _ => 0)))] := hD
  have hK : va_K (dC, dI) vcl [(u4_3, .char), (u4_9, (.object "BigRunner$Statement")), (u4_23, .int), (u12_26, .char), (u12_28, .int)] s := hK
  refine W.widen (k := 765) (n := 8597) (by omega) (by omega) ?_
  refine lv_astore_n (lv' := [(2, .ref q8_24), (1, .ref q0_1), (0, .ref b)]) hx hb d_L_law_15 rfl hl (by decide) rfl (fun ls hl => ?_)
  refine lv_iconst (v := 1) hx hb d_L_law_16 (by decide) ?_
  refine va_newa (atype := .long) (a0 := (1, .inr (.inl (fun _ => 0)))) (N' := 1) (ty := .long) hx hb (wd_329 hB _) rfl hK hP hD hS hA (fun _ => rfl) (by decide +kernel) (by decide +kernel) (by decide +kernel) (Nat.le_of_ble_eq_true rfl) (Nat.le_of_ble_eq_true rfl) d_L_law_17 (fun q17_54 cA17_55 H hK hP hD hS => ?_)
  have hP : va_P (dC, dI) vcl [(q0_1, .inr (0, [.ref u4_2, .int 0, .ref u4_4, .ref u4_5, .int 0])), (u4_2, .inl (u4_3, 72, .inl (fun _ => 0))), (u4_4, .inr (7, [.ref u4_6, .int 0, .int 0, .ref u4_7])), (u4_7, .inr (6, [.ref u4_8, .int 0, .ref u4_12, .int 0, .ref u4_13, .ref u4_14])), (u4_8, .inl (u4_9, 36, .inr (.inr (.inr (.inr (u4_10)))))), (u4_11, .inr (9, [.int 5, .int 0, .int 0, .int (-1), .int 0])), (u4_5, .inr (8, [.ref u4_15, .ref u4_16, .int 0, .ref u4_17, .ref u4_18, .ref u4_19, .ref u4_20, .ref u4_21, .int 0, .int 0, .int 0, .int 0, .int 0])), (u4_16, .inr (1, [.ref u4_22, .int 0, .int 0])), (u4_22, .inl (u4_23, 20, .inl (fun _ => 0))), (q8_24, .inr (10, [.int 0, .ref u12_25, .int 0, .ref u12_29, .ref u12_30, .int 0, .ref u12_31, .ref u12_32, .ref u12_33, .int 0, .int 0, .int 0, .ref u12_34, .int 0, .ref u12_35, .ref u12_36, .int 0, .ref u12_37, .ref u12_38, .ref u12_39, .ref u12_40, .ref u12_41, .ref u12_42, .ref u12_43, .ref u12_44, .ref u12_45, .ref u12_46, .ref u12_47, .ref u12_48, .ref u12_49, .ref u12_50, .ref u12_51, .int 0, .ref u12_52, .ref u12_53, .ref u12_27, .int 0, .int 0, .int 0, .int 0, .int 0, .int 0, .int 0, .int 0, .int 0])), (u12_25, .inl (u12_26, 72, .inl (fun _ => 0))), (u12_27, .inl (u12_28, 20, .inl (fun _ => 0))), (q17_54, .inl (cA17_55, 1, .inr (.inl (fun _ => 0))))] H := hP
  have hD : va_D A [(q0_1, .inr (0, [.ref u4_2, .int 0, .ref u4_4, .ref u4_5, .int 0])), (u4_2, .inl (u4_3, 72, .inl (fun _ => 0))), (u4_4, .inr (7, [.ref u4_6, .int 0, .int 0, .ref u4_7])), (u4_7, .inr (6, [.ref u4_8, .int 0, .ref u4_12, .int 0, .ref u4_13, .ref u4_14])), (u4_8, .inl (u4_9, 36, .inr (.inr (.inr (.inr (u4_10)))))), (u4_11, .inr (9, [.int 5, .int 0, .int 0, .int (-1), .int 0])), (u4_5, .inr (8, [.ref u4_15, .ref u4_16, .int 0, .ref u4_17, .ref u4_18, .ref u4_19, .ref u4_20, .ref u4_21, .int 0, .int 0, .int 0, .int 0, .int 0])), (u4_16, .inr (1, [.ref u4_22, .int 0, .int 0])), (u4_22, .inl (u4_23, 20, .inl (fun _ => 0))), (q8_24, .inr (10, [.int 0, .ref u12_25, .int 0, .ref u12_29, .ref u12_30, .int 0, .ref u12_31, .ref u12_32, .ref u12_33, .int 0, .int 0, .int 0, .ref u12_34, .int 0, .ref u12_35, .ref u12_36, .int 0, .ref u12_37, .ref u12_38, .ref u12_39, .ref u12_40, .ref u12_41, .ref u12_42, .ref u12_43, .ref u12_44, .ref u12_45, .ref u12_46, .ref u12_47, .ref u12_48, .ref u12_49, .ref u12_50, .ref u12_51, .int 0, .ref u12_52, .ref u12_53, .ref u12_27, .int 0, .int 0, .int 0, .int 0, .int 0, .int 0, .int 0, .int 0, .int 0])), (u12_25, .inl (u12_26, 72, .inl (fun _ => 0))), (u12_27, .inl (u12_28, 20, .inl (fun _ => 0))), (q17_54, .inl (cA17_55, 1, .inr (.inl (fun _ => 0))))] := hD
  have hK : va_K (dC, dI) vcl [(u4_3, .char), (u4_9, (.object "BigRunner$Statement")), (u4_23, .int), (u12_26, .char), (u12_28, .int), (cA17_55, .long)] s := hK
  refine W.widen (k := 766) (n := 8598) (by omega) (by omega) ?_
  have hD := hD.sub (ws' := [(q0_1, .inr (0, [.ref u4_2, .int 0, .ref u4_4, .ref u4_5, .int 0])), (u4_2, .inl (u4_3, 72, .inl (fun _ => 0))), (u4_4, .inr (7, [.ref u4_6, .int 0, .int 0, .ref u4_7])), (u4_7, .inr (6, [.ref u4_8, .int 0, .ref u4_12, .int 0, .ref u4_13, .ref u4_14])), (u4_8, .inl (u4_9, 36, .inr (.inr (.inr (.inr (u4_10)))))), (u4_11, .inr (9, [.int 5, .int 0, .int 0, .int (-1), .int 0])), (u4_5, .inr (8, [.ref u4_15, .ref u4_16, .int 0, .ref u4_17, .ref u4_18, .ref u4_19, .ref u4_20, .ref u4_21, .int 0, .int 0, .int 0, .int 0, .int 0])), (u4_16, .inr (1, [.ref u4_22, .int 0, .int 0])), (u4_22, .inl (u4_23, 20, .inl (fun _ => 0))), (q8_24, .inr (10, [.int 0, .ref u12_25, .int 0, .ref u12_29, .ref u12_30, .int 0, .ref u12_31, .ref u12_32, .ref u12_33, .int 0, .int 0, .int 0, .ref u12_34, .int 0, .ref u12_35, .ref u12_36, .int 0, .ref u12_37, .ref u12_38, .ref u12_39, .ref u12_40, .ref u12_41, .ref u12_42, .ref u12_43, .ref u12_44, .ref u12_45, .ref u12_46, .ref u12_47, .ref u12_48, .ref u12_49, .ref u12_50, .ref u12_51, .int 0, .ref u12_52, .ref u12_53, .ref u12_27, .int 0, .int 0, .int 0, .int 0, .int 0, .int 0, .int 0, .int 0, .int 0])), (u12_25, .inl (u12_26, 72, .inl (fun _ => 0))), (u12_27, .inl (u12_28, 20, .inl (fun _ => 0)))]) [0, 1, 2, 3, 4, 5, 6, 7, 8, 9, 10, 11] (by decide) rfl
  have hP := hP.sub (ws' := [(q0_1, .inr (0, [.ref u4_2, .int 0, .ref u4_4, .ref u4_5, .int 0])), (u4_2, .inl (u4_3, 72, .inl (fun _ => 0))), (u4_4, .inr (7, [.ref u4_6, .int 0, .int 0, .ref u4_7])), (u4_7, .inr (6, [.ref u4_8, .int 0, .ref u4_12, .int 0, .ref u4_13, .ref u4_14])), (u4_8, .inl (u4_9, 36, .inr (.inr (.inr (.inr (u4_10)))))), (u4_11, .inr (9, [.int 5, .int 0, .int 0, .int (-1), .int 0])), (u4_5, .inr (8, [.ref u4_15, .ref u4_16, .int 0, .ref u4_17, .ref u4_18, .ref u4_19, .ref u4_20, .ref u4_21, .int 0, .int 0, .int 0, .int 0, .int 0])), (u4_16, .inr (1, [.ref u4_22, .int 0, .int 0])), (u4_22, .inl (u4_23, 20, .inl (fun _ => 0))), (q8_24, .inr (10, [.int 0, .ref u12_25, .int 0, .ref u12_29, .ref u12_30, .int 0, .ref u12_31, .ref u12_32, .ref u12_33, .int 0, .int 0, .int 0, .ref u12_34, .int 0, .ref u12_35, .ref u12_36, .int 0, .ref u12_37, .ref u12_38, .ref u12_39, .ref u12_40, .ref u12_41, .ref u12_42, .ref u12_43, .ref u12_44, .ref u12_45, .ref u12_46, .ref u12_47, .ref u12_48, .ref u12_49, .ref u12_50, .ref u12_51, .int 0, .ref u12_52, .ref u12_53, .ref u12_27, .int 0, .int 0, .int 0, .int 0, .int 0, .int 0, .int 0, .int 0, .int 0])), (u12_25, .inl (u12_26, 72, .inl (fun _ => 0))), (u12_27, .inl (u12_28, 20, .inl (fun _ => 0)))]) [0, 1, 2, 3, 4, 5, 6, 7, 8, 9, 10, 11] rfl
  have hK := hK.sub (tys' := [(u4_3, .char), (u4_9, (.object "BigRunner$Statement")), (u4_23, .int), (u12_26, .char), (u12_28, .int)]) [0, 1, 2, 3, 4] rfl
  refine lv_astore_n (lv' := [(3, .ref q17_54), (2, .ref q8_24), (1, .ref q0_1), (0, .ref b)]) hx hb d_L_law_19 rfl hl (by decide) rfl (fun ls hl => ?_)
  refine lv_iconst (v := 0) hx hb d_L_law_20 (by decide) ?_
  refine lv_istore (lv' := [(4, .int 0), (3, .ref q17_54), (2, .ref q8_24), (1, .ref q0_1), (0, .ref b)]) hx hb d_L_law_21 hl (by decide) rfl (fun ls hl => ?_)
  refine W.widen (k := 1000) (n := 20000) (by omega) (by omega) ?_
  have hL4 : L = 0 ∨ L = 1 ∨ L = 2 ∨ L = 3 := by omega
  rcases hL4 with rfl | rfl | rfl | rfl
  · skip
    refine lv_iload hx hb d_L_law_23 (lv_at hl 0 rfl) ?_
    refine lv_aload_n hx hb d_L_law_25 rfl (lv_at hl 4 rfl) ?_
    refine va_slen hx hb hX hbl hbA hS d_L_law_26 ?_
    refine lv_iconst (v := 3) hx hb d_L_law_27 (by decide) ?_
    refine lv_isub hx hb d_L_law_28 ?_
    refine lv_icmp_gt (tgt := 530) hx hb d_L_law_29 (by decide) (fun _ => ?_) (fun hq => absurd (by decide) hq)
    exact law_530 hx hb hr hlocks hA2 hS (by omega) (by omega)
  · skip
    refine lv_iload hx hb d_L_law_23 (lv_at hl 0 rfl) ?_
    refine lv_aload_n hx hb d_L_law_25 rfl (lv_at hl 4 rfl) ?_
    refine va_slen hx hb hX hbl hbA hS d_L_law_26 ?_
    refine lv_iconst (v := 3) hx hb d_L_law_27 (by decide) ?_
    refine lv_isub hx hb d_L_law_28 ?_
    refine lv_icmp_gt (tgt := 530) hx hb d_L_law_29 (by decide) (fun _ => ?_) (fun hq => absurd (by decide) hq)
    exact law_530 hx hb hr hlocks hA2 hS (by omega) (by omega)
  · skip
    refine lv_iload hx hb d_L_law_23 (lv_at hl 0 rfl) ?_
    refine lv_aload_n hx hb d_L_law_25 rfl (lv_at hl 4 rfl) ?_
    refine va_slen hx hb hX hbl hbA hS d_L_law_26 ?_
    refine lv_iconst (v := 3) hx hb d_L_law_27 (by decide) ?_
    refine lv_isub hx hb d_L_law_28 ?_
    refine lv_icmp_gt (tgt := 530) hx hb d_L_law_29 (by decide) (fun _ => ?_) (fun hq => absurd (by decide) hq)
    exact law_530 hx hb hr hlocks hA2 hS (by omega) (by omega)
  · skip
    refine lv_iload hx hb d_L_law_23 (lv_at hl 0 rfl) ?_
    refine lv_aload_n hx hb d_L_law_25 rfl (lv_at hl 4 rfl) ?_
    refine va_slen hx hb hX hbl hbA hS d_L_law_26 ?_
    refine lv_iconst (v := 3) hx hb d_L_law_27 (by decide) ?_
    refine lv_isub hx hb d_L_law_28 ?_
    refine lv_icmp_gt (tgt := 530) hx hb d_L_law_29 (by decide) (fun hq => absurd hq (by decide)) (fun _ => ?_)
    refine lv_aload_n hx hb d_L_law_32 rfl (lv_at hl 4 rfl) ?_
    refine lv_iload hx hb d_L_law_33 (lv_at hl 0 rfl) ?_
    refine va_sld hx hb hX hbl hbA hS (vp_in_nI (n := 0) (by decide) (by decide)) d_L_law_35 ?_
    refine W.eq (g2 := F0 m 36 ls [.int (xs 0)]) rfl ?_
    refine lv_bipush (v := 15) hx hb d_L_law_36 (by decide) ?_
    refine lv_iand hx hb d_L_law_38 ?_
    refine lv_topi (fun z hz => ?_)
    by_cases hk0 : z = 0
    · skip
      subst hk0
      refine lv_tableIn (off := 53) (tgt := 92) hx hb d_L_law_39 (by decide) (by decide) (by decide) (by decide) ?_
      exact law_c0 dC dI q0_1 u4_2 u4_3 u4_4 u4_5 u4_6 u4_7 u4_8 u4_9 u4_10 u4_11 u4_12 u4_13 u4_14 u4_15 u4_16 u4_17 u4_18 u4_19 u4_20 u4_21 u4_22 u4_23 q8_24 u12_25 u12_26 u12_27 u12_28 u12_29 u12_30 u12_31 u12_32 u12_33 u12_34 u12_35 u12_36 u12_37 u12_38 u12_39 u12_40 u12_41 u12_42 u12_43 u12_44 u12_45 u12_46 u12_47 u12_48 u12_49 u12_50 u12_51 u12_52 u12_53 q17_54 hx hb hr hlocks hA2 hS hX hbl hbA hml hown hB htr hZS hZL hf hA hl hP hD hK
    by_cases hk1 : z = 1
    · skip
      subst hk1
      refine lv_tableIn (off := 80) (tgt := 119) hx hb d_L_law_39 (by decide) (by decide) (by decide) (by decide) ?_
      exact law_c1 dC dI q0_1 u4_2 u4_3 u4_4 u4_5 u4_6 u4_7 u4_8 u4_9 u4_10 u4_11 u4_12 u4_13 u4_14 u4_15 u4_16 u4_17 u4_18 u4_19 u4_20 u4_21 u4_22 u4_23 q8_24 u12_25 u12_26 u12_27 u12_28 u12_29 u12_30 u12_31 u12_32 u12_33 u12_34 u12_35 u12_36 u12_37 u12_38 u12_39 u12_40 u12_41 u12_42 u12_43 u12_44 u12_45 u12_46 u12_47 u12_48 u12_49 u12_50 u12_51 u12_52 u12_53 q17_54 hx hb hr hlocks hA2 hS hX hbl hbA hml hown hB htr hZS hZL hf hA hl hP hD hK
    by_cases hk2 : z = 2
    · skip
      subst hk2
      refine lv_tableIn (off := 91) (tgt := 130) hx hb d_L_law_39 (by decide) (by decide) (by decide) (by decide) ?_
      exact law_c2 dC dI q0_1 u4_2 u4_3 u4_4 u4_5 u4_6 u4_7 u4_8 u4_9 u4_10 u4_11 u4_12 u4_13 u4_14 u4_15 u4_16 u4_17 u4_18 u4_19 u4_20 u4_21 u4_22 u4_23 q8_24 u12_25 u12_26 u12_27 u12_28 u12_29 u12_30 u12_31 u12_32 u12_33 u12_34 u12_35 u12_36 u12_37 u12_38 u12_39 u12_40 u12_41 u12_42 u12_43 u12_44 u12_45 u12_46 u12_47 u12_48 u12_49 u12_50 u12_51 u12_52 u12_53 q17_54 hx hb hr hlocks hA2 hS hX hbl hbA hml hown hB htr hZS hZL hf hA hl hP hD hK
    by_cases hk3 : z = 3
    · skip
      subst hk3
      refine lv_tableIn (off := 135) (tgt := 174) hx hb d_L_law_39 (by decide) (by decide) (by decide) (by decide) ?_
      exact law_c3 dC dI q0_1 u4_2 u4_3 u4_4 u4_5 u4_6 u4_7 u4_8 u4_9 u4_10 u4_11 u4_12 u4_13 u4_14 u4_15 u4_16 u4_17 u4_18 u4_19 u4_20 u4_21 u4_22 u4_23 q8_24 u12_25 u12_26 u12_27 u12_28 u12_29 u12_30 u12_31 u12_32 u12_33 u12_34 u12_35 u12_36 u12_37 u12_38 u12_39 u12_40 u12_41 u12_42 u12_43 u12_44 u12_45 u12_46 u12_47 u12_48 u12_49 u12_50 u12_51 u12_52 u12_53 q17_54 hx hb hr hlocks hA2 hS hX hbl hbA hml hown hB htr hZS hZL hf hA hl hP hD hK
    by_cases hk4 : z = 4
    · skip
      subst hk4
      refine lv_tableIn (off := 160) (tgt := 199) hx hb d_L_law_39 (by decide) (by decide) (by decide) (by decide) ?_
      exact law_c4 dC dI q0_1 u4_2 u4_3 u4_4 u4_5 u4_6 u4_7 u4_8 u4_9 u4_10 u4_11 u4_12 u4_13 u4_14 u4_15 u4_16 u4_17 u4_18 u4_19 u4_20 u4_21 u4_22 u4_23 q8_24 u12_25 u12_26 u12_27 u12_28 u12_29 u12_30 u12_31 u12_32 u12_33 u12_34 u12_35 u12_36 u12_37 u12_38 u12_39 u12_40 u12_41 u12_42 u12_43 u12_44 u12_45 u12_46 u12_47 u12_48 u12_49 u12_50 u12_51 u12_52 u12_53 q17_54 hx hb hr hlocks hA2 hS hX hbl hbA hml hown hB htr hZS hZL hf hA hl hP hD hK
    by_cases hk5 : z = 5
    · skip
      subst hk5
      refine lv_tableIn (off := 216) (tgt := 255) hx hb d_L_law_39 (by decide) (by decide) (by decide) (by decide) ?_
      exact law_c5 dC dI q0_1 u4_2 u4_3 u4_4 u4_5 u4_6 u4_7 u4_8 u4_9 u4_10 u4_11 u4_12 u4_13 u4_14 u4_15 u4_16 u4_17 u4_18 u4_19 u4_20 u4_21 u4_22 u4_23 q8_24 u12_25 u12_26 u12_27 u12_28 u12_29 u12_30 u12_31 u12_32 u12_33 u12_34 u12_35 u12_36 u12_37 u12_38 u12_39 u12_40 u12_41 u12_42 u12_43 u12_44 u12_45 u12_46 u12_47 u12_48 u12_49 u12_50 u12_51 u12_52 u12_53 q17_54 hx hb hr hlocks hA2 hS hX hbl hbA hml hown hB htr hZS hZL hf hA hl hP hD hK
    by_cases hk6 : z = 6
    · skip
      subst hk6
      refine lv_tableIn (off := 241) (tgt := 280) hx hb d_L_law_39 (by decide) (by decide) (by decide) (by decide) ?_
      exact law_c6 dC dI q0_1 u4_2 u4_3 u4_4 u4_5 u4_6 u4_7 u4_8 u4_9 u4_10 u4_11 u4_12 u4_13 u4_14 u4_15 u4_16 u4_17 u4_18 u4_19 u4_20 u4_21 u4_22 u4_23 q8_24 u12_25 u12_26 u12_27 u12_28 u12_29 u12_30 u12_31 u12_32 u12_33 u12_34 u12_35 u12_36 u12_37 u12_38 u12_39 u12_40 u12_41 u12_42 u12_43 u12_44 u12_45 u12_46 u12_47 u12_48 u12_49 u12_50 u12_51 u12_52 u12_53 q17_54 hx hb hr hlocks hA2 hS hX hbl hbA hml hown hB htr hZS hZL hf hA hl hP hD hK
    by_cases hk7 : z = 7
    · skip
      subst hk7
      refine lv_tableIn (off := 324) (tgt := 363) hx hb d_L_law_39 (by decide) (by decide) (by decide) (by decide) ?_
      exact law_c7 dC dI q0_1 u4_2 u4_3 u4_4 u4_5 u4_6 u4_7 u4_8 u4_9 u4_10 u4_11 u4_12 u4_13 u4_14 u4_15 u4_16 u4_17 u4_18 u4_19 u4_20 u4_21 u4_22 u4_23 q8_24 u12_25 u12_26 u12_27 u12_28 u12_29 u12_30 u12_31 u12_32 u12_33 u12_34 u12_35 u12_36 u12_37 u12_38 u12_39 u12_40 u12_41 u12_42 u12_43 u12_44 u12_45 u12_46 u12_47 u12_48 u12_49 u12_50 u12_51 u12_52 u12_53 q17_54 hx hb hr hlocks hA2 hS hX hbl hbA hml hown hB htr hZS hZL hf hA hl hP hD hK
    by_cases hk8 : z = 8
    · skip
      subst hk8
      refine lv_tableIn (off := 349) (tgt := 388) hx hb d_L_law_39 (by decide) (by decide) (by decide) (by decide) ?_
      exact law_c8 dC dI q0_1 u4_2 u4_3 u4_4 u4_5 u4_6 u4_7 u4_8 u4_9 u4_10 u4_11 u4_12 u4_13 u4_14 u4_15 u4_16 u4_17 u4_18 u4_19 u4_20 u4_21 u4_22 u4_23 q8_24 u12_25 u12_26 u12_27 u12_28 u12_29 u12_30 u12_31 u12_32 u12_33 u12_34 u12_35 u12_36 u12_37 u12_38 u12_39 u12_40 u12_41 u12_42 u12_43 u12_44 u12_45 u12_46 u12_47 u12_48 u12_49 u12_50 u12_51 u12_52 u12_53 q17_54 hx hb hr hlocks hA2 hS hX hbl hbA hml hown hB htr hZS hZL hf hA hl hP hD hK
    by_cases hk9 : z = 9
    · skip
      subst hk9
      refine lv_tableIn (off := 417) (tgt := 456) hx hb d_L_law_39 (by decide) (by decide) (by decide) (by decide) ?_
      exact law_c9 dC dI q0_1 u4_2 u4_3 u4_4 u4_5 u4_6 u4_7 u4_8 u4_9 u4_10 u4_11 u4_12 u4_13 u4_14 u4_15 u4_16 u4_17 u4_18 u4_19 u4_20 u4_21 u4_22 u4_23 q8_24 u12_25 u12_26 u12_27 u12_28 u12_29 u12_30 u12_31 u12_32 u12_33 u12_34 u12_35 u12_36 u12_37 u12_38 u12_39 u12_40 u12_41 u12_42 u12_43 u12_44 u12_45 u12_46 u12_47 u12_48 u12_49 u12_50 u12_51 u12_52 u12_53 q17_54 hx hb hr hlocks hA2 hS hX hbl hbA hml hown hB htr hZS hZL hf hA hl hP hD hK
    refine lv_tableOut (tgt := 524) hx hb d_L_law_39 (by have := lv_neT hk0 (a := 0) (by decide); have := lv_neT hk1 (a := 1) (by decide); have := lv_neT hk2 (a := 2) (by decide); have := lv_neT hk3 (a := 3) (by decide); have := lv_neT hk4 (a := 4) (by decide); have := lv_neT hk5 (a := 5) (by decide); have := lv_neT hk6 (a := 6) (by decide); have := lv_neT hk7 (a := 7) (by decide); have := lv_neT hk8 (a := 8) (by decide); have := lv_neT hk9 (a := 9) (by decide); omega) (by decide) ?_
    exact law_524 hx hb hr hlocks hA2 hS (by omega) (by omega) hX hbl hbA (lv_sub hl [0, 4] rfl)
