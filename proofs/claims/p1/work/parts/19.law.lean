theorem tb_args {w : Cond} (hw : tb_rides w = true) {s : State} {args : Array Value} (h : w.before args s = true) : w.before #[] s = true := by
  cases w with
  | fieldLinkNest a i b n d q => exact va_Nw.of rfl h
  | methodLinkNest a i x q => exact va_Nw.of rfl h
  | castable a b => exact va_Nw.of rfl h
  | declares x => exact va_Nw.of rfl h
  | arrayClass ty => exact word_at (State.WarmedH.refl s) (Or.inr ⟨ty, rfl⟩) h
  | stringRef a i t => exact h
  | arrayOver ty =>
    cases ty with
    | object n => exact va_AO.of h
    | _ => exact word_at (State.WarmedH.refl s) (Or.inl hw) h
  | _ => exact word_at (State.WarmedH.refl s) (Or.inl hw) h
theorem lk_K {s : State} (hB : TB s) : ∃ (dC : Nat → ClassId) (dI : Nat → Nat → Nat), va_K (dC, dI) vcl [] s := by
  obtain ⟨c0, i0, h0⟩ := u_known (hw0 hB #[]) (fun _ h => h) (wd_96 hB #[])
  obtain ⟨c1, i1, h1⟩ := u_known (hw1 hB #[]) (fun _ h => h) (wd_293 hB #[])
  obtain ⟨c2, i2, h2⟩ := u_known (hw2 hB #[]) (fun _ h => h) (wd_121 hB #[])
  obtain ⟨c3, i3, h3⟩ := u_known (hw3 hB #[]) (fun _ h => h) (wd_314 hB #[])
  obtain ⟨c4, i4, h4⟩ := u_known (hw4 hB #[]) (fun _ h => h) (wd_181 hB #[])
  obtain ⟨c5, i5, h5⟩ := u_known (hw5 hB #[]) (fun _ h => h) (wd_173 hB #[])
  obtain ⟨c6, i6, h6⟩ := u_known (hw6 hB #[]) (fun _ h => h) (wd_110 hB #[])
  obtain ⟨c7, i7, h7⟩ := u_known (hw7 hB #[]) (fun _ h => h) (wd_104 hB #[])
  obtain ⟨c8, i8, h8⟩ := u_known (hw8 hB #[]) (fun _ h => h) (wd_285 hB #[])
  obtain ⟨c9, i9, h9⟩ := u_known (hw9 hB #[]) (fun _ h => h) (wd_138 hB #[])
  obtain ⟨c10, i10, h10⟩ := u_known (hw10 hB #[]) (fun _ h => h) (wd_942 hB #[])
  refine ⟨fun k => [c0, c1, c2, c3, c4, c5, c6, c7, c8, c9, c10].getD k 0, fun k => [i0, i1, i2, i3, i4, i5, i6, i7, i8, i9, i10].getD k (fun _ => 0), ?_, fun k q h => by simp at h⟩
  intro c q hq
  match c, hq with
  | 0, hq => cases hq; exact h0
  | 1, hq => cases hq; exact h1
  | 2, hq => cases hq; exact h2
  | 3, hq => cases hq; exact h3
  | 4, hq => cases hq; exact h4
  | 5, hq => cases hq; exact h5
  | 6, hq => cases hq; exact h6
  | 7, hq => cases hq; exact h7
  | 8, hq => cases hq; exact h8
  | 9, hq => cases hq; exact h9
  | 10, hq => cases hq; exact h10
  | k + 11, hq => simp at hq
set_option maxHeartbeats 4000000 in
set_option maxRecDepth 100000 in
theorem law_530 {p : Program} {l : Launch} {e : Env} {s : State} {m : MethodId} {below : List Frame} {meth : Method} {c : Code} {b : Nat} {A : Nat → Prop} {H : Heap} {locs : List Loc} {cells slots : Nat} {ls : Array Slot} (hx : p.tables.exec = Jvm.exec) (hb : c.code = code) (hr : meth.sig.returnType = ret) (hlocks : meth.locks = false) (hA2 : ∀ q : Nat, A q → s.heap.size ≤ q) (hS : va_S A s.heap H locs) (hcc : cells ≤ 600002) (hss : slots ≤ 7302231) : W p l e room_1 s m #[Value.ref b] below meth c H locs cells slots (lw_Z below #[Value.ref b] s) (F0 m 530 ls []) := by
  refine lv_iconst (v := 1) hx hb d_L_law_530 (by decide) ?_
  refine va_forget (fun q hq => hA2 _ (hS.2.2 q hq)) ?_
  refine W.widen (k := 600002) (n := 7302231) hcc hss ?_
  exact lw_ret hx hb hr hlocks d_L_law_531
set_option maxHeartbeats 4000000 in
set_option maxRecDepth 100000 in
theorem law_524 {p : Program} {l : Launch} {e : Env} {s : State} {m : MethodId} {below : List Frame} {meth : Method} {c : Code} {b : Nat} {xs : Nat → Int32} {A : Nat → Prop} {H : Heap} {locs : List Loc} {cells slots : Nat} {ls : Array Slot} (hx : p.tables.exec = Jvm.exec) (hb : c.code = code) (hr : meth.sig.returnType = ret) (hlocks : meth.locks = false) (hA2 : ∀ q : Nat, A q → s.heap.size ≤ q) (hS : va_S A s.heap H locs) (hcc : cells ≤ 600002) (hss : slots ≤ 7302231) (hX : va_X b 3 xs s s.heap) (hbl : b < s.heap.size) (hbA : ¬ A b) (hl : lv_has ls 8 [(4, .int 0), (0, .ref b)]) : W p l e room_1 s m #[Value.ref b] below meth c H locs cells slots (lw_Z below #[Value.ref b] s) (F0 m 524 ls []) := by
  refine lv_iinc (k := 0) (v := 3) (lv' := [(4, .int (3)), (0, .ref b)]) hx hb d_L_law_524 hl rfl (by decide) (by decide) rfl (fun ls hl => ?_)
  refine lv_goto (tgt := 23) hx hb d_L_law_527 (by decide) ?_
  refine lv_iload hx hb d_L_law_23 (lv_at hl 0 rfl) ?_
  refine lv_aload_n hx hb d_L_law_25 rfl (lv_at hl 1 rfl) ?_
  refine va_slen hx hb hX hbl hbA hS d_L_law_26 ?_
  refine lv_iconst (v := 3) hx hb d_L_law_27 (by decide) ?_
  refine lv_isub hx hb d_L_law_28 ?_
  refine lv_icmp_gt (tgt := 530) hx hb d_L_law_29 (by decide) (fun _ => ?_) (fun hq => absurd (by decide) hq)
  exact law_530 hx hb hr hlocks hA2 hS hcc hss
set_option maxHeartbeats 4000000 in
set_option maxRecDepth 100000 in
theorem law_c0 {p : Program} {l : Launch} {e : Env} {s : State} {m : MethodId} {below : List Frame} {meth : Method} {c : Code} {b : Nat} {xs : Nat → Int32} {A : Nat → Prop} {H : Heap} {locs : List Loc} {ls : Array Slot}  (dC : Nat → ClassId) (dI : Nat → Nat → Nat) (x : Nat) (ql : Nat) (cl : ClassId) (rd : Nat) (rn : Nat) (qt : Nat) (pr : Nat) (qs : Nat) (cs : ClassId) (fs : Nat → Option Nat) (q0 : Nat) (qn : Nat) (qv : Nat) (qi : Nat) (pn : Nat) (qi2 : Nat) (qm : Nat) (qw : Nat) (qh : Nat) (qd : Nat) (qk : Nat) (qr : Nat) (cr : ClassId) (y : Nat) (mt : Nat) (ct : ClassId) (mi : Nat) (cj : ClassId) (b0 : Nat) (b1 : Nat) (b2 : Nat) (b3 : Nat) (b4 : Nat) (b5 : Nat) (b6 : Nat) (b7 : Nat) (b8 : Nat) (b9 : Nat) (b10 : Nat) (b11 : Nat) (b12 : Nat) (b13 : Nat) (b14 : Nat) (b15 : Nat) (b16 : Nat) (b17 : Nat) (b18 : Nat) (b19 : Nat) (b20 : Nat) (b21 : Nat) (b22 : Nat) (b23 : Nat) (b24 : Nat) (ob : Nat) (hx : p.tables.exec = Jvm.exec) (hb : c.code = code) (hr : meth.sig.returnType = ret) (hlocks : meth.locks = false) (hA2 : ∀ q : Nat, A q → s.heap.size ≤ q) (hS : va_S A s.heap H locs)  (hX : va_X b 3 xs s s.heap) (hbl : b < s.heap.size) (hbA : ¬ A b) (hml : c.maxLocals = 8) (hown : s.vm.findClass "BigRunnerLaw" = some m.cls) (hB : TB s) (htr : l.stackTraces = false) (hZS : th_Z "UNASSIGNED_STACK" "[Ljava/lang/StackTraceElement;" A s s.heap) (hZL : th_Z "SUPPRESSED_SENTINEL" "Ljava/util/List;" A s s.heap) (hf : fs 0 = some q0) (hA : ∀ q : Nat, s.heap.size ≤ q → A q) (hl : lv_has ls 8 [(4, .int 0), (3, .ref ob), (2, .ref y), (1, .ref x), (0, .ref b)]) (hP : va_P (dC, dI) vcl [(x, .inr (0, [.ref ql, .int 0, .ref rd, .ref rn, .int 0])), (ql, .inl (cl, 72, .inl (fun _ => 0))), (rd, .inr (7, [.ref qt, .int 0, .int 0, .ref pr])), (pr, .inr (6, [.ref qs, .int 0, .ref qn, .int 0, .ref qv, .ref qi])), (qs, .inl (cs, 36, .inr (.inr (.inr (.inr (fs)))))), (q0, .inr (9, [.int 5, .int 0, .int 0, .int (-1), .int 0])), (rn, .inr (8, [.ref pn, .ref qi2, .int 0, .ref qm, .ref qw, .ref qh, .ref qd, .ref qk, .int 0, .int 0, .int 0, .int 0, .int 0])), (qi2, .inr (1, [.ref qr, .int 0, .int 0])), (qr, .inl (cr, 20, .inl (fun _ => 0))), (y, .inr (10, [.int 0, .ref mt, .int 0, .ref b0, .ref b1, .int 0, .ref b2, .ref b3, .ref b4, .int 0, .int 0, .int 0, .ref b5, .int 0, .ref b6, .ref b7, .int 0, .ref b8, .ref b9, .ref b10, .ref b11, .ref b12, .ref b13, .ref b14, .ref b15, .ref b16, .ref b17, .ref b18, .ref b19, .ref b20, .ref b21, .ref b22, .int 0, .ref b23, .ref b24, .ref mi, .int 0, .int 0, .int 0, .int 0, .int 0, .int 0, .int 0, .int 0, .int 0])), (mt, .inl (ct, 72, .inl (fun _ => 0))), (mi, .inl (cj, 20, .inl (fun _ => 0)))] H) (hD : va_D A [(x, .inr (0, [.ref ql, .int 0, .ref rd, .ref rn, .int 0])), (ql, .inl (cl, 72, .inl (fun _ => 0))), (rd, .inr (7, [.ref qt, .int 0, .int 0, .ref pr])), (pr, .inr (6, [.ref qs, .int 0, .ref qn, .int 0, .ref qv, .ref qi])), (qs, .inl (cs, 36, .inr (.inr (.inr (.inr (fs)))))), (q0, .inr (9, [.int 5, .int 0, .int 0, .int (-1), .int 0])), (rn, .inr (8, [.ref pn, .ref qi2, .int 0, .ref qm, .ref qw, .ref qh, .ref qd, .ref qk, .int 0, .int 0, .int 0, .int 0, .int 0])), (qi2, .inr (1, [.ref qr, .int 0, .int 0])), (qr, .inl (cr, 20, .inl (fun _ => 0))), (y, .inr (10, [.int 0, .ref mt, .int 0, .ref b0, .ref b1, .int 0, .ref b2, .ref b3, .ref b4, .int 0, .int 0, .int 0, .ref b5, .int 0, .ref b6, .ref b7, .int 0, .ref b8, .ref b9, .ref b10, .ref b11, .ref b12, .ref b13, .ref b14, .ref b15, .ref b16, .ref b17, .ref b18, .ref b19, .ref b20, .ref b21, .ref b22, .int 0, .ref b23, .ref b24, .ref mi, .int 0, .int 0, .int 0, .int 0, .int 0, .int 0, .int 0, .int 0, .int 0])), (mt, .inl (ct, 72, .inl (fun _ => 0))), (mi, .inl (cj, 20, .inl (fun _ => 0)))]) (hK : va_K (dC, dI) vcl [(cl, .char), (cs, (.object "BigRunner$Statement")), (cr, .int), (ct, .char), (cj, .int)] s) : W p l e room_1 s m #[Value.ref b] below meth c H locs 1000 20000 (lw_Z below #[Value.ref b] s) (F0 m 92 ls []) := by
  refine lv_aload_n hx hb d_L_law_92 rfl (lv_at hl 3 rfl) ?_
  refine lv_aload_n hx hb d_L_law_93 rfl (lv_at hl 4 rfl) ?_
  refine lv_iload hx hb d_L_law_94 (lv_at hl 0 rfl) ?_
  refine lv_iconst (v := 1) hx hb d_L_law_96 (by decide) ?_
  refine lv_iadd hx hb d_L_law_97 ?_
  refine lv_topi (fun z_ hz_ => ?_)
  have hz_ : z_ = 1 := hz_.trans (by decide)
  subst hz_
  refine va_sld hx hb hX hbl hbA hS (vp_in_nI (n := 1) (by decide) (by decide)) d_L_law_98 ?_
  refine W.eq (g2 := F0 m 99 ls [.int (xs 1), .ref x]) rfl ?_
  refine lv_i2c hx hb d_L_law_99 rfl ?_
  have hPc := hP.sub (ws' := [(x, .inr (0, [.ref ql, .int 0, .ref rd, .ref rn, .int 0])), (ql, .inl (cl, 72, .inl (fun _ => 0))), (rd, .inr (7, [.ref qt, .int 0, .int 0, .ref pr])), (pr, .inr (6, [.ref qs, .int 0, .ref qn, .int 0, .ref qv, .ref qi])), (qs, .inl (cs, 36, .inr (.inr (.inr (.inr (fs)))))), (q0, .inr (9, [.int 5, .int 0, .int 0, .int (-1), .int 0])), (rn, .inr (8, [.ref pn, .ref qi2, .int 0, .ref qm, .ref qw, .ref qh, .ref qd, .ref qk, .int 0, .int 0, .int 0, .int 0, .int 0])), (qi2, .inr (1, [.ref qr, .int 0, .int 0])), (qr, .inl (cr, 20, .inl (fun _ => 0)))]) [0, 1, 2, 3, 4, 5, 6, 7, 8] rfl
  have hDc := hD.sub (ws' := [(x, .inr (0, [.ref ql, .int 0, .ref rd, .ref rn, .int 0])), (ql, .inl (cl, 72, .inl (fun _ => 0))), (rd, .inr (7, [.ref qt, .int 0, .int 0, .ref pr])), (pr, .inr (6, [.ref qs, .int 0, .ref qn, .int 0, .ref qv, .ref qi])), (qs, .inl (cs, 36, .inr (.inr (.inr (.inr (fs)))))), (q0, .inr (9, [.int 5, .int 0, .int 0, .int (-1), .int 0])), (rn, .inr (8, [.ref pn, .ref qi2, .int 0, .ref qm, .ref qw, .ref qh, .ref qd, .ref qk, .int 0, .int 0, .int 0, .int 0, .int 0])), (qi2, .inr (1, [.ref qr, .int 0, .int 0])), (qr, .inl (cr, 20, .inl (fun _ => 0)))]) [0, 1, 2, 3, 4, 5, 6, 7, 8] (by decide) rfl
  have hKc := hK.sub (tys' := [(cl, .char), (cs, (.object "BigRunner$Statement")), (cr, .int)]) [0, 1, 2] rfl
  have hFc := va_free (wc := [(x, .inr (0, [.ref ql, .int 0, .ref rd, .ref rn, .int 0])), (ql, .inl (cl, 72, .inl (fun _ => 0))), (rd, .inr (7, [.ref qt, .int 0, .int 0, .ref pr])), (pr, .inr (6, [.ref qs, .int 0, .ref qn, .int 0, .ref qv, .ref qi])), (qs, .inl (cs, 36, .inr (.inr (.inr (.inr (fs)))))), (q0, .inr (9, [.int 5, .int 0, .int 0, .int (-1), .int 0])), (rn, .inr (8, [.ref pn, .ref qi2, .int 0, .ref qm, .ref qw, .ref qh, .ref qd, .ref qk, .int 0, .int 0, .int 0, .int 0, .int 0])), (qi2, .inr (1, [.ref qr, .int 0, .int 0])), (qr, .inl (cr, 20, .inl (fun _ => 0)))]) hD hS hA [0, 1, 2, 3, 4, 5, 6, 7, 8] rfl
  refine va_calli (va_runV (C := "BigRunner") (As := [.int (((xs 1)).toUInt32 % 65536).toInt32]) (rest := []) ⟨hx, hb, hml, hown, tb_nil⟩ (c_B_type l dC dI H.size x ql cl rd rn qt pr qs cs fs q0 qn qv qi pn qi2 qm qw qh qd qk qr cr (((((xs 1)).toUInt32 % 65536).toInt32))) ⟨(callB_of 1 (tb_one (wd_397 hB _)) tb_good1 rfl rfl rfl (wd_72 hB _) (wd_394 hB _) (by decide +kernel) ⟨Nat.le_of_ble_eq_true rfl, Nat.le_of_ble_eq_true rfl⟩), (wd_395 hB _), (wd_396 hB _)⟩ ⟨fun a U g mk q => by obtain ⟨q0, q1, qB, qP, qK, qD⟩ := q; exact ⟨q0, q1, TB.same (s := U) (U := U.calling g mk a) rfl qB, qP, va_K.moved (u := U) (U := U.calling g mk a) (Vm.Alike.refl U.vm) qK, qD⟩, va_recv hK hP (q0 := 0) (ci := 0) rfl rfl, fun U hU hW => ⟨rfl, by rw [hU], hB.moved hW, by rw [hU]; exact hPc, va_K.moved hW.alike hKc, hDc.weaken (fun _ _ _ _ => trivial)⟩⟩ rfl rfl hl.1 rfl (lv_room (Nat.le_of_ble_eq_true rfl)) d_L_law_100 ⟨(Nat.le_of_ble_eq_true rfl), (Nat.le_of_ble_eq_true rfl)⟩) hS (fun q _ h => hFc q h) hFc (fun r_ u_ t H1 locs ht hvm hw_ hB1 hz1 hk1 hS => ?_)
  obtain ⟨hP1, hK1, hD1⟩ := hB1
  rw [ht] at hP1
  have hK1 := va_K.moved hvm.symm hK1
  try dsimp only at hw_
  obtain ⟨hP, hD⟩ := va_join (wr := [(y, .inr (10, [.int 0, .ref mt, .int 0, .ref b0, .ref b1, .int 0, .ref b2, .ref b3, .ref b4, .int 0, .int 0, .int 0, .ref b5, .int 0, .ref b6, .ref b7, .int 0, .ref b8, .ref b9, .ref b10, .ref b11, .ref b12, .ref b13, .ref b14, .ref b15, .ref b16, .ref b17, .ref b18, .ref b19, .ref b20, .ref b21, .ref b22, .int 0, .ref b23, .ref b24, .ref mi, .int 0, .int 0, .int 0, .int 0, .int 0, .int 0, .int 0, .int 0, .int 0])), (mt, .inl (ct, 72, .inl (fun _ => 0))), (mi, .inl (cj, 20, .inl (fun _ => 0)))]) (w1 := []) hP hD [0, 1, 2, 3, 4, 5, 6, 7, 8] [9, 10, 11] rfl rfl (by decide) (by decide) hk1 hFc hP1 hD1
  have hK := (hK.sub (tys' := [(ct, .char), (cj, .int)]) [3, 4] rfl).app hK1
  clear hk1 hFc hPc hDc hKc hP1 hD1 hK1 hz1 ht hvm
  generalize H1 = H at hP hS ⊢
  have hP : va_P (dC, dI) vcl [(y, .inr (10, [.int 0, .ref mt, .int 0, .ref b0, .ref b1, .int 0, .ref b2, .ref b3, .ref b4, .int 0, .int 0, .int 0, .ref b5, .int 0, .ref b6, .ref b7, .int 0, .ref b8, .ref b9, .ref b10, .ref b11, .ref b12, .ref b13, .ref b14, .ref b15, .ref b16, .ref b17, .ref b18, .ref b19, .ref b20, .ref b21, .ref b22, .int 0, .ref b23, .ref b24, .ref mi, .int 0, .int 0, .int 0, .int 0, .int 0, .int 0, .int 0, .int 0, .int 0])), (mt, .inl (ct, 72, .inl (fun _ => 0))), (mi, .inl (cj, 20, .inl (fun _ => 0)))] H := hP
  have hD : va_D A [(y, .inr (10, [.int 0, .ref mt, .int 0, .ref b0, .ref b1, .int 0, .ref b2, .ref b3, .ref b4, .int 0, .int 0, .int 0, .ref b5, .int 0, .ref b6, .ref b7, .int 0, .ref b8, .ref b9, .ref b10, .ref b11, .ref b12, .ref b13, .ref b14, .ref b15, .ref b16, .ref b17, .ref b18, .ref b19, .ref b20, .ref b21, .ref b22, .int 0, .ref b23, .ref b24, .ref mi, .int 0, .int 0, .int 0, .int 0, .int 0, .int 0, .int 0, .int 0, .int 0])), (mt, .inl (ct, 72, .inl (fun _ => 0))), (mi, .inl (cj, 20, .inl (fun _ => 0)))] := hD
  have hK : va_K (dC, dI) vcl [(ct, .char), (cj, .int)] s := hK
  refine W.widen (k := 1000) (n := 20000) (by omega) (by omega) ?_
  subst hw_
  refine lv_aload_n hx hb d_L_law_103 rfl (lv_at hl 2 rfl) ?_
  refine lv_aload_n hx hb d_L_law_104 rfl (lv_at hl 4 rfl) ?_
  refine lv_iload hx hb d_L_law_105 (lv_at hl 0 rfl) ?_
  refine lv_iconst (v := 1) hx hb d_L_law_107 (by decide) ?_
  refine lv_iadd hx hb d_L_law_108 ?_
  refine lv_topi (fun z_ hz_ => ?_)
  have hz_ : z_ = 1 := hz_.trans (by decide)
  subst hz_
  refine va_sld hx hb hX hbl hbA hS (vp_in_nI (n := 1) (by decide) (by decide)) d_L_law_109 ?_
  refine W.eq (g2 := F0 m 110 ls [.int (xs 1), .ref y, .int (vt_type ((xs 1).toUInt32 % 65536).toInt32)]) rfl ?_
  refine lv_i2c hx hb d_L_law_110 rfl ?_
  have hPc := hP.sub (ws' := [(y, .inr (10, [.int 0, .ref mt, .int 0, .ref b0, .ref b1, .int 0, .ref b2, .ref b3, .ref b4, .int 0, .int 0, .int 0, .ref b5, .int 0, .ref b6, .ref b7, .int 0, .ref b8, .ref b9, .ref b10, .ref b11, .ref b12, .ref b13, .ref b14, .ref b15, .ref b16, .ref b17, .ref b18, .ref b19, .ref b20, .ref b21, .ref b22, .int 0, .ref b23, .ref b24, .ref mi, .int 0, .int 0, .int 0, .int 0, .int 0, .int 0, .int 0, .int 0, .int 0])), (mt, .inl (ct, 72, .inl (fun _ => 0))), (mi, .inl (cj, 20, .inl (fun _ => 0)))]) [0, 1, 2] rfl
  have hDc := hD.sub (ws' := [(y, .inr (10, [.int 0, .ref mt, .int 0, .ref b0, .ref b1, .int 0, .ref b2, .ref b3, .ref b4, .int 0, .int 0, .int 0, .ref b5, .int 0, .ref b6, .ref b7, .int 0, .ref b8, .ref b9, .ref b10, .ref b11, .ref b12, .ref b13, .ref b14, .ref b15, .ref b16, .ref b17, .ref b18, .ref b19, .ref b20, .ref b21, .ref b22, .int 0, .ref b23, .ref b24, .ref mi, .int 0, .int 0, .int 0, .int 0, .int 0, .int 0, .int 0, .int 0, .int 0])), (mt, .inl (ct, 72, .inl (fun _ => 0))), (mi, .inl (cj, 20, .inl (fun _ => 0)))]) [0, 1, 2] (by decide) rfl
  have hKc := hK.sub (tys' := [(ct, .char), (cj, .int)]) [0, 1] rfl
  have hFc := va_free (wc := [(y, .inr (10, [.int 0, .ref mt, .int 0, .ref b0, .ref b1, .int 0, .ref b2, .ref b3, .ref b4, .int 0, .int 0, .int 0, .ref b5, .int 0, .ref b6, .ref b7, .int 0, .ref b8, .ref b9, .ref b10, .ref b11, .ref b12, .ref b13, .ref b14, .ref b15, .ref b16, .ref b17, .ref b18, .ref b19, .ref b20, .ref b21, .ref b22, .int 0, .ref b23, .ref b24, .ref mi, .int 0, .int 0, .int 0, .int 0, .int 0, .int 0, .int 0, .int 0, .int 0])), (mt, .inl (ct, 72, .inl (fun _ => 0))), (mi, .inl (cj, 20, .inl (fun _ => 0)))]) hD hS hA [0, 1, 2] rfl
  refine va_calli (va_runV (C := "BigRunnerModel") (As := [.int (((xs 1)).toUInt32 % 65536).toInt32]) (rest := [.int (vt_type ((xs 1).toUInt32 % 65536).toInt32)]) ⟨hx, hb, hml, hown, tb_nil⟩ (c_M_type l dC dI H.size y mt ct mi cj b0 b1 b2 b3 b4 b5 b6 b7 b8 b9 b10 b11 b12 b13 b14 b15 b16 b17 b18 b19 b20 b21 b22 b23 b24 (((((xs 1)).toUInt32 % 65536).toInt32))) ⟨(callB_of 1 (tb_one (wd_1091 hB _)) tb_good1 rfl rfl rfl (wd_82 hB _) (wd_1088 hB _) (by decide +kernel) ⟨Nat.le_of_ble_eq_true rfl, Nat.le_of_ble_eq_true rfl⟩), (wd_1089 hB _), (wd_1090 hB _)⟩ ⟨fun a U g mk q => by obtain ⟨q0, q1, qB, qP, qK, qD⟩ := q; exact ⟨q0, q1, TB.same (s := U) (U := U.calling g mk a) rfl qB, qP, va_K.moved (u := U) (U := U.calling g mk a) (Vm.Alike.refl U.vm) qK, qD⟩, va_recv hK hP (q0 := 0) (ci := 10) rfl rfl, fun U hU hW => ⟨rfl, by rw [hU], hB.moved hW, by rw [hU]; exact hPc, va_K.moved hW.alike hKc, hDc.weaken (fun _ _ _ _ => trivial)⟩⟩ rfl rfl hl.1 rfl (lv_room (Nat.le_of_ble_eq_true rfl)) d_L_law_111 ⟨(Nat.le_of_ble_eq_true rfl), (Nat.le_of_ble_eq_true rfl)⟩) hS (fun q _ h => hFc q h) hFc (fun r_ u_ t H1 locs ht hvm hw_ hB1 hz1 hk1 hS => ?_)
  obtain ⟨hP1, hK1, hD1⟩ := hB1
  rw [ht] at hP1
  have hK1 := va_K.moved hvm.symm hK1
  try dsimp only at hw_
  obtain ⟨hP, hD⟩ := va_join (wr := []) (w1 := []) hP hD [0, 1, 2] [] rfl rfl (by decide) (by decide) hk1 hFc hP1 hD1
  have hK := (hK.sub (tys' := []) [] rfl).app hK1
  clear hk1 hFc hPc hDc hKc hP1 hD1 hK1 hz1 ht hvm
  generalize H1 = H at hP hS ⊢
  have hP : va_P (dC, dI) vcl [] H := hP
  have hD : va_D A [] := hD
  have hK : va_K (dC, dI) vcl [] s := hK
  refine W.widen (k := 1000) (n := 20000) (by omega) (by omega) ?_
  subst hw_
  refine lv_icmp_eq (tgt := 524) hx hb d_L_law_114 (by decide) (fun _ => ?_) (fun hq => absurd rfl hq)
  exact law_524 hx hb hr hlocks hA2 hS (by omega) (by omega) hX hbl hbA (lv_sub hl [0, 4] rfl)
set_option maxHeartbeats 4000000 in
set_option maxRecDepth 100000 in
theorem law_c1 {p : Program} {l : Launch} {e : Env} {s : State} {m : MethodId} {below : List Frame} {meth : Method} {c : Code} {b : Nat} {xs : Nat → Int32} {A : Nat → Prop} {H : Heap} {locs : List Loc} {ls : Array Slot}  (dC : Nat → ClassId) (dI : Nat → Nat → Nat) (x : Nat) (ql : Nat) (cl : ClassId) (rd : Nat) (rn : Nat) (qt : Nat) (pr : Nat) (qs : Nat) (cs : ClassId) (fs : Nat → Option Nat) (q0 : Nat) (qn : Nat) (qv : Nat) (qi : Nat) (pn : Nat) (qi2 : Nat) (qm : Nat) (qw : Nat) (qh : Nat) (qd : Nat) (qk : Nat) (qr : Nat) (cr : ClassId) (y : Nat) (mt : Nat) (ct : ClassId) (mi : Nat) (cj : ClassId) (b0 : Nat) (b1 : Nat) (b2 : Nat) (b3 : Nat) (b4 : Nat) (b5 : Nat) (b6 : Nat) (b7 : Nat) (b8 : Nat) (b9 : Nat) (b10 : Nat) (b11 : Nat) (b12 : Nat) (b13 : Nat) (b14 : Nat) (b15 : Nat) (b16 : Nat) (b17 : Nat) (b18 : Nat) (b19 : Nat) (b20 : Nat) (b21 : Nat) (b22 : Nat) (b23 : Nat) (b24 : Nat) (ob : Nat) (hx : p.tables.exec = Jvm.exec) (hb : c.code = code) (hr : meth.sig.returnType = ret) (hlocks : meth.locks = false) (hA2 : ∀ q : Nat, A q → s.heap.size ≤ q) (hS : va_S A s.heap H locs)  (hX : va_X b 3 xs s s.heap) (hbl : b < s.heap.size) (hbA : ¬ A b) (hml : c.maxLocals = 8) (hown : s.vm.findClass "BigRunnerLaw" = some m.cls) (hB : TB s) (htr : l.stackTraces = false) (hZS : th_Z "UNASSIGNED_STACK" "[Ljava/lang/StackTraceElement;" A s s.heap) (hZL : th_Z "SUPPRESSED_SENTINEL" "Ljava/util/List;" A s s.heap) (hf : fs 0 = some q0) (hA : ∀ q : Nat, s.heap.size ≤ q → A q) (hl : lv_has ls 8 [(4, .int 0), (3, .ref ob), (2, .ref y), (1, .ref x), (0, .ref b)]) (hP : va_P (dC, dI) vcl [(x, .inr (0, [.ref ql, .int 0, .ref rd, .ref rn, .int 0])), (ql, .inl (cl, 72, .inl (fun _ => 0))), (rd, .inr (7, [.ref qt, .int 0, .int 0, .ref pr])), (pr, .inr (6, [.ref qs, .int 0, .ref qn, .int 0, .ref qv, .ref qi])), (qs, .inl (cs, 36, .inr (.inr (.inr (.inr (fs)))))), (q0, .inr (9, [.int 5, .int 0, .int 0, .int (-1), .int 0])), (rn, .inr (8, [.ref pn, .ref qi2, .int 0, .ref qm, .ref qw, .ref qh, .ref qd, .ref qk, .int 0, .int 0, .int 0, .int 0, .int 0])), (qi2, .inr (1, [.ref qr, .int 0, .int 0])), (qr, .inl (cr, 20, .inl (fun _ => 0))), (y, .inr (10, [.int 0, .ref mt, .int 0, .ref b0, .ref b1, .int 0, .ref b2, .ref b3, .ref b4, .int 0, .int 0, .int 0, .ref b5, .int 0, .ref b6, .ref b7, .int 0, .ref b8, .ref b9, .ref b10, .ref b11, .ref b12, .ref b13, .ref b14, .ref b15, .ref b16, .ref b17, .ref b18, .ref b19, .ref b20, .ref b21, .ref b22, .int 0, .ref b23, .ref b24, .ref mi, .int 0, .int 0, .int 0, .int 0, .int 0, .int 0, .int 0, .int 0, .int 0])), (mt, .inl (ct, 72, .inl (fun _ => 0))), (mi, .inl (cj, 20, .inl (fun _ => 0)))] H) (hD : va_D A [(x, .inr (0, [.ref ql, .int 0, .ref rd, .ref rn, .int 0])), (ql, .inl (cl, 72, .inl (fun _ => 0))), (rd, .inr (7, [.ref qt, .int 0, .int 0, .ref pr])), (pr, .inr (6, [.ref qs, .int 0, .ref qn, .int 0, .ref qv, .ref qi])), (qs, .inl (cs, 36, .inr (.inr (.inr (.inr (fs)))))), (q0, .inr (9, [.int 5, .int 0, .int 0, .int (-1), .int 0])), (rn, .inr (8, [.ref pn, .ref qi2, .int 0, .ref qm, .ref qw, .ref qh, .ref qd, .ref qk, .int 0, .int 0, .int 0, .int 0, .int 0])), (qi2, .inr (1, [.ref qr, .int 0, .int 0])), (qr, .inl (cr, 20, .inl (fun _ => 0))), (y, .inr (10, [.int 0, .ref mt, .int 0, .ref b0, .ref b1, .int 0, .ref b2, .ref b3, .ref b4, .int 0, .int 0, .int 0, .ref b5, .int 0, .ref b6, .ref b7, .int 0, .ref b8, .ref b9, .ref b10, .ref b11, .ref b12, .ref b13, .ref b14, .ref b15, .ref b16, .ref b17, .ref b18, .ref b19, .ref b20, .ref b21, .ref b22, .int 0, .ref b23, .ref b24, .ref mi, .int 0, .int 0, .int 0, .int 0, .int 0, .int 0, .int 0, .int 0, .int 0])), (mt, .inl (ct, 72, .inl (fun _ => 0))), (mi, .inl (cj, 20, .inl (fun _ => 0)))]) (hK : va_K (dC, dI) vcl [(cl, .char), (cs, (.object "BigRunner$Statement")), (cr, .int), (ct, .char), (cj, .int)] s) : W p l e room_1 s m #[Value.ref b] below meth c H locs 1000 20000 (lw_Z below #[Value.ref b] s) (F0 m 119 ls []) := by
  refine lv_aload_n hx hb d_L_law_119 rfl (lv_at hl 3 rfl) ?_
  have hPc := hP.sub (ws' := [(x, .inr (0, [.ref ql, .int 0, .ref rd, .ref rn, .int 0])), (ql, .inl (cl, 72, .inl (fun _ => 0))), (rd, .inr (7, [.ref qt, .int 0, .int 0, .ref pr])), (pr, .inr (6, [.ref qs, .int 0, .ref qn, .int 0, .ref qv, .ref qi])), (qs, .inl (cs, 36, .inr (.inr (.inr (.inr (fs)))))), (q0, .inr (9, [.int 5, .int 0, .int 0, .int (-1), .int 0])), (rn, .inr (8, [.ref pn, .ref qi2, .int 0, .ref qm, .ref qw, .ref qh, .ref qd, .ref qk, .int 0, .int 0, .int 0, .int 0, .int 0])), (qi2, .inr (1, [.ref qr, .int 0, .int 0])), (qr, .inl (cr, 20, .inl (fun _ => 0)))]) [0, 1, 2, 3, 4, 5, 6, 7, 8] rfl
  have hDc := hD.sub (ws' := [(x, .inr (0, [.ref ql, .int 0, .ref rd, .ref rn, .int 0])), (ql, .inl (cl, 72, .inl (fun _ => 0))), (rd, .inr (7, [.ref qt, .int 0, .int 0, .ref pr])), (pr, .inr (6, [.ref qs, .int 0, .ref qn, .int 0, .ref qv, .ref qi])), (qs, .inl (cs, 36, .inr (.inr (.inr (.inr (fs)))))), (q0, .inr (9, [.int 5, .int 0, .int 0, .int (-1), .int 0])), (rn, .inr (8, [.ref pn, .ref qi2, .int 0, .ref qm, .ref qw, .ref qh, .ref qd, .ref qk, .int 0, .int 0, .int 0, .int 0, .int 0])), (qi2, .inr (1, [.ref qr, .int 0, .int 0])), (qr, .inl (cr, 20, .inl (fun _ => 0)))]) [0, 1, 2, 3, 4, 5, 6, 7, 8] (by decide) rfl
  have hKc := hK.sub (tys' := [(cl, .char), (cs, (.object "BigRunner$Statement")), (cr, .int)]) [0, 1, 2] rfl
  have hFc := va_free (wc := [(x, .inr (0, [.ref ql, .int 0, .ref rd, .ref rn, .int 0])), (ql, .inl (cl, 72, .inl (fun _ => 0))), (rd, .inr (7, [.ref qt, .int 0, .int 0, .ref pr])), (pr, .inr (6, [.ref qs, .int 0, .ref qn, .int 0, .ref qv, .ref qi])), (qs, .inl (cs, 36, .inr (.inr (.inr (.inr (fs)))))), (q0, .inr (9, [.int 5, .int 0, .int 0, .int (-1), .int 0])), (rn, .inr (8, [.ref pn, .ref qi2, .int 0, .ref qm, .ref qw, .ref qh, .ref qd, .ref qk, .int 0, .int 0, .int 0, .int 0, .int 0])), (qi2, .inr (1, [.ref qr, .int 0, .int 0])), (qr, .inl (cr, 20, .inl (fun _ => 0)))]) hD hS hA [0, 1, 2, 3, 4, 5, 6, 7, 8] rfl
  refine va_callv (va_runV (C := "BigRunner") (As := []) (rest := []) ⟨hx, hb, hml, hown, tb_nil⟩ (c_B_wipe l dC dI H.size x ql cl rd rn qt pr qs cs fs q0 qn qv qi pn qi2 qm qw qh qd qk qr cr) ⟨(callB_of 0 (tb_one (wd_401 hB _)) tb_good1 rfl rfl rfl (wd_72 hB _) (wd_398 hB _) (by decide +kernel) ⟨Nat.le_of_ble_eq_true rfl, Nat.le_of_ble_eq_true rfl⟩), (wd_399 hB _), (wd_400 hB _)⟩ ⟨fun a U g mk q => by obtain ⟨q0, q1, qB, qP, qK, qD⟩ := q; exact ⟨q0, q1, TB.same (s := U) (U := U.calling g mk a) rfl qB, qP, va_K.moved (u := U) (U := U.calling g mk a) (Vm.Alike.refl U.vm) qK, qD⟩, va_recv hK hP (q0 := 0) (ci := 0) rfl rfl, fun U hU hW => ⟨rfl, by rw [hU], hB.moved hW, by rw [hU]; exact hPc, va_K.moved hW.alike hKc, hDc.weaken (fun _ _ _ _ => trivial)⟩⟩ rfl rfl hl.1 rfl (lv_room (Nat.le_of_ble_eq_true rfl)) d_L_law_120 ⟨(Nat.le_of_ble_eq_true rfl), (Nat.le_of_ble_eq_true rfl)⟩) hS (fun q _ h => hFc q h) hFc (fun u_ t H1 locs ht hvm hw_ hB1 hz1 hk1 hS => ?_)
  obtain ⟨hP1, hK1, hD1⟩ := hB1
  rw [ht] at hP1
  have hK1 := va_K.moved hvm.symm hK1
  try dsimp only at hw_
  obtain ⟨hP, hD⟩ := va_join (wr := [(y, .inr (10, [.int 0, .ref mt, .int 0, .ref b0, .ref b1, .int 0, .ref b2, .ref b3, .ref b4, .int 0, .int 0, .int 0, .ref b5, .int 0, .ref b6, .ref b7, .int 0, .ref b8, .ref b9, .ref b10, .ref b11, .ref b12, .ref b13, .ref b14, .ref b15, .ref b16, .ref b17, .ref b18, .ref b19, .ref b20, .ref b21, .ref b22, .int 0, .ref b23, .ref b24, .ref mi, .int 0, .int 0, .int 0, .int 0, .int 0, .int 0, .int 0, .int 0, .int 0])), (mt, .inl (ct, 72, .inl (fun _ => 0))), (mi, .inl (cj, 20, .inl (fun _ => 0)))]) (w1 := []) hP hD [0, 1, 2, 3, 4, 5, 6, 7, 8] [9, 10, 11] rfl rfl (by decide) (by decide) hk1 hFc hP1 hD1
  have hK := (hK.sub (tys' := [(ct, .char), (cj, .int)]) [3, 4] rfl).app hK1
  clear hk1 hFc hPc hDc hKc hP1 hD1 hK1 hz1 ht hvm
  generalize H1 = H at hP hS ⊢
  have hP : va_P (dC, dI) vcl [(y, .inr (10, [.int 0, .ref mt, .int 0, .ref b0, .ref b1, .int 0, .ref b2, .ref b3, .ref b4, .int 0, .int 0, .int 0, .ref b5, .int 0, .ref b6, .ref b7, .int 0, .ref b8, .ref b9, .ref b10, .ref b11, .ref b12, .ref b13, .ref b14, .ref b15, .ref b16, .ref b17, .ref b18, .ref b19, .ref b20, .ref b21, .ref b22, .int 0, .ref b23, .ref b24, .ref mi, .int 0, .int 0, .int 0, .int 0, .int 0, .int 0, .int 0, .int 0, .int 0])), (mt, .inl (ct, 72, .inl (fun _ => 0))), (mi, .inl (cj, 20, .inl (fun _ => 0)))] H := hP
  have hD : va_D A [(y, .inr (10, [.int 0, .ref mt, .int 0, .ref b0, .ref b1, .int 0, .ref b2, .ref b3, .ref b4, .int 0, .int 0, .int 0, .ref b5, .int 0, .ref b6, .ref b7, .int 0, .ref b8, .ref b9, .ref b10, .ref b11, .ref b12, .ref b13, .ref b14, .ref b15, .ref b16, .ref b17, .ref b18, .ref b19, .ref b20, .ref b21, .ref b22, .int 0, .ref b23, .ref b24, .ref mi, .int 0, .int 0, .int 0, .int 0, .int 0, .int 0, .int 0, .int 0, .int 0])), (mt, .inl (ct, 72, .inl (fun _ => 0))), (mi, .inl (cj, 20, .inl (fun _ => 0)))] := hD
  have hK : va_K (dC, dI) vcl [(ct, .char), (cj, .int)] s := hK
  refine W.widen (k := 1000) (n := 20000) (by omega) (by omega) ?_
  refine lv_aload_n hx hb d_L_law_123 rfl (lv_at hl 2 rfl) ?_
  have hPc := hP.sub (ws' := [(y, .inr (10, [.int 0, .ref mt, .int 0, .ref b0, .ref b1, .int 0, .ref b2, .ref b3, .ref b4, .int 0, .int 0, .int 0, .ref b5, .int 0, .ref b6, .ref b7, .int 0, .ref b8, .ref b9, .ref b10, .ref b11, .ref b12, .ref b13, .ref b14, .ref b15, .ref b16, .ref b17, .ref b18, .ref b19, .ref b20, .ref b21, .ref b22, .int 0, .ref b23, .ref b24, .ref mi, .int 0, .int 0, .int 0, .int 0, .int 0, .int 0, .int 0, .int 0, .int 0])), (mt, .inl (ct, 72, .inl (fun _ => 0))), (mi, .inl (cj, 20, .inl (fun _ => 0)))]) [0, 1, 2] rfl
  have hDc := hD.sub (ws' := [(y, .inr (10, [.int 0, .ref mt, .int 0, .ref b0, .ref b1, .int 0, .ref b2, .ref b3, .ref b4, .int 0, .int 0, .int 0, .ref b5, .int 0, .ref b6, .ref b7, .int 0, .ref b8, .ref b9, .ref b10, .ref b11, .ref b12, .ref b13, .ref b14, .ref b15, .ref b16, .ref b17, .ref b18, .ref b19, .ref b20, .ref b21, .ref b22, .int 0, .ref b23, .ref b24, .ref mi, .int 0, .int 0, .int 0, .int 0, .int 0, .int 0, .int 0, .int 0, .int 0])), (mt, .inl (ct, 72, .inl (fun _ => 0))), (mi, .inl (cj, 20, .inl (fun _ => 0)))]) [0, 1, 2] (by decide) rfl
  have hKc := hK.sub (tys' := [(ct, .char), (cj, .int)]) [0, 1] rfl
  have hFc := va_free (wc := [(y, .inr (10, [.int 0, .ref mt, .int 0, .ref b0, .ref b1, .int 0, .ref b2, .ref b3, .ref b4, .int 0, .int 0, .int 0, .ref b5, .int 0, .ref b6, .ref b7, .int 0, .ref b8, .ref b9, .ref b10, .ref b11, .ref b12, .ref b13, .ref b14, .ref b15, .ref b16, .ref b17, .ref b18, .ref b19, .ref b20, .ref b21, .ref b22, .int 0, .ref b23, .ref b24, .ref mi, .int 0, .int 0, .int 0, .int 0, .int 0, .int 0, .int 0, .int 0, .int 0])), (mt, .inl (ct, 72, .inl (fun _ => 0))), (mi, .inl (cj, 20, .inl (fun _ => 0)))]) hD hS hA [0, 1, 2] rfl
  refine va_callv (va_runV (C := "BigRunnerModel") (As := []) (rest := []) ⟨hx, hb, hml, hown, tb_nil⟩ (c_M_wipe l dC dI H.size y mt ct mi cj b0 b1 b2 b3 b4 b5 b6 b7 b8 b9 b10 b11 b12 b13 b14 b15 b16 b17 b18 b19 b20 b21 b22 b23 b24) ⟨(callB_of 0 (tb_one (wd_1095 hB _)) tb_good1 rfl rfl rfl (wd_82 hB _) (wd_1092 hB _) (by decide +kernel) ⟨Nat.le_of_ble_eq_true rfl, Nat.le_of_ble_eq_true rfl⟩), (wd_1093 hB _), (wd_1094 hB _)⟩ ⟨fun a U g mk q => by obtain ⟨q0, q1, qB, qP, qK, qD⟩ := q; exact ⟨q0, q1, TB.same (s := U) (U := U.calling g mk a) rfl qB, qP, va_K.moved (u := U) (U := U.calling g mk a) (Vm.Alike.refl U.vm) qK, qD⟩, va_recv hK hP (q0 := 0) (ci := 10) rfl rfl, fun U hU hW => ⟨rfl, by rw [hU], hB.moved hW, by rw [hU]; exact hPc, va_K.moved hW.alike hKc, hDc.weaken (fun _ _ _ _ => trivial)⟩⟩ rfl rfl hl.1 rfl (lv_room (Nat.le_of_ble_eq_true rfl)) d_L_law_124 ⟨(Nat.le_of_ble_eq_true rfl), (Nat.le_of_ble_eq_true rfl)⟩) hS (fun q _ h => hFc q h) hFc (fun u_ t H1 locs ht hvm hw_ hB1 hz1 hk1 hS => ?_)
  obtain ⟨hP1, hK1, hD1⟩ := hB1
  rw [ht] at hP1
  have hK1 := va_K.moved hvm.symm hK1
  try dsimp only at hw_
  obtain ⟨hP, hD⟩ := va_join (wr := []) (w1 := []) hP hD [0, 1, 2] [] rfl rfl (by decide) (by decide) hk1 hFc hP1 hD1
  have hK := (hK.sub (tys' := []) [] rfl).app hK1
  clear hk1 hFc hPc hDc hKc hP1 hD1 hK1 hz1 ht hvm
  generalize H1 = H at hP hS ⊢
  have hP : va_P (dC, dI) vcl [] H := hP
  have hD : va_D A [] := hD
  have hK : va_K (dC, dI) vcl [] s := hK
  refine W.widen (k := 1000) (n := 20000) (by omega) (by omega) ?_
  refine lv_goto (tgt := 524) hx hb d_L_law_127 (by decide) ?_
  exact law_524 hx hb hr hlocks hA2 hS (by omega) (by omega) hX hbl hbA (lv_sub hl [0, 4] rfl)
set_option maxHeartbeats 4000000 in
set_option maxRecDepth 100000 in
theorem law_c3 {p : Program} {l : Launch} {e : Env} {s : State} {m : MethodId} {below : List Frame} {meth : Method} {c : Code} {b : Nat} {xs : Nat → Int32} {A : Nat → Prop} {H : Heap} {locs : List Loc} {ls : Array Slot}  (dC : Nat → ClassId) (dI : Nat → Nat → Nat) (x : Nat) (ql : Nat) (cl : ClassId) (rd : Nat) (rn : Nat) (qt : Nat) (pr : Nat) (qs : Nat) (cs : ClassId) (fs : Nat → Option Nat) (q0 : Nat) (qn : Nat) (qv : Nat) (qi : Nat) (pn : Nat) (qi2 : Nat) (qm : Nat) (qw : Nat) (qh : Nat) (qd : Nat) (qk : Nat) (qr : Nat) (cr : ClassId) (y : Nat) (mt : Nat) (ct : ClassId) (mi : Nat) (cj : ClassId) (b0 : Nat) (b1 : Nat) (b2 : Nat) (b3 : Nat) (b4 : Nat) (b5 : Nat) (b6 : Nat) (b7 : Nat) (b8 : Nat) (b9 : Nat) (b10 : Nat) (b11 : Nat) (b12 : Nat) (b13 : Nat) (b14 : Nat) (b15 : Nat) (b16 : Nat) (b17 : Nat) (b18 : Nat) (b19 : Nat) (b20 : Nat) (b21 : Nat) (b22 : Nat) (b23 : Nat) (b24 : Nat) (ob : Nat) (hx : p.tables.exec = Jvm.exec) (hb : c.code = code) (hr : meth.sig.returnType = ret) (hlocks : meth.locks = false) (hA2 : ∀ q : Nat, A q → s.heap.size ≤ q) (hS : va_S A s.heap H locs)  (hX : va_X b 3 xs s s.heap) (hbl : b < s.heap.size) (hbA : ¬ A b) (hml : c.maxLocals = 8) (hown : s.vm.findClass "BigRunnerLaw" = some m.cls) (hB : TB s) (htr : l.stackTraces = false) (hZS : th_Z "UNASSIGNED_STACK" "[Ljava/lang/StackTraceElement;" A s s.heap) (hZL : th_Z "SUPPRESSED_SENTINEL" "Ljava/util/List;" A s s.heap) (hf : fs 0 = some q0) (hA : ∀ q : Nat, s.heap.size ≤ q → A q) (hl : lv_has ls 8 [(4, .int 0), (3, .ref ob), (2, .ref y), (1, .ref x), (0, .ref b)]) (hP : va_P (dC, dI) vcl [(x, .inr (0, [.ref ql, .int 0, .ref rd, .ref rn, .int 0])), (ql, .inl (cl, 72, .inl (fun _ => 0))), (rd, .inr (7, [.ref qt, .int 0, .int 0, .ref pr])), (pr, .inr (6, [.ref qs, .int 0, .ref qn, .int 0, .ref qv, .ref qi])), (qs, .inl (cs, 36, .inr (.inr (.inr (.inr (fs)))))), (q0, .inr (9, [.int 5, .int 0, .int 0, .int (-1), .int 0])), (rn, .inr (8, [.ref pn, .ref qi2, .int 0, .ref qm, .ref qw, .ref qh, .ref qd, .ref qk, .int 0, .int 0, .int 0, .int 0, .int 0])), (qi2, .inr (1, [.ref qr, .int 0, .int 0])), (qr, .inl (cr, 20, .inl (fun _ => 0))), (y, .inr (10, [.int 0, .ref mt, .int 0, .ref b0, .ref b1, .int 0, .ref b2, .ref b3, .ref b4, .int 0, .int 0, .int 0, .ref b5, .int 0, .ref b6, .ref b7, .int 0, .ref b8, .ref b9, .ref b10, .ref b11, .ref b12, .ref b13, .ref b14, .ref b15, .ref b16, .ref b17, .ref b18, .ref b19, .ref b20, .ref b21, .ref b22, .int 0, .ref b23, .ref b24, .ref mi, .int 0, .int 0, .int 0, .int 0, .int 0, .int 0, .int 0, .int 0, .int 0])), (mt, .inl (ct, 72, .inl (fun _ => 0))), (mi, .inl (cj, 20, .inl (fun _ => 0)))] H) (hD : va_D A [(x, .inr (0, [.ref ql, .int 0, .ref rd, .ref rn, .int 0])), (ql, .inl (cl, 72, .inl (fun _ => 0))), (rd, .inr (7, [.ref qt, .int 0, .int 0, .ref pr])), (pr, .inr (6, [.ref qs, .int 0, .ref qn, .int 0, .ref qv, .ref qi])), (qs, .inl (cs, 36, .inr (.inr (.inr (.inr (fs)))))), (q0, .inr (9, [.int 5, .int 0, .int 0, .int (-1), .int 0])), (rn, .inr (8, [.ref pn, .ref qi2, .int 0, .ref qm, .ref qw, .ref qh, .ref qd, .ref qk, .int 0, .int 0, .int 0, .int 0, .int 0])), (qi2, .inr (1, [.ref qr, .int 0, .int 0])), (qr, .inl (cr, 20, .inl (fun _ => 0))), (y, .inr (10, [.int 0, .ref mt, .int 0, .ref b0, .ref b1, .int 0, .ref b2, .ref b3, .ref b4, .int 0, .int 0, .int 0, .ref b5, .int 0, .ref b6, .ref b7, .int 0, .ref b8, .ref b9, .ref b10, .ref b11, .ref b12, .ref b13, .ref b14, .ref b15, .ref b16, .ref b17, .ref b18, .ref b19, .ref b20, .ref b21, .ref b22, .int 0, .ref b23, .ref b24, .ref mi, .int 0, .int 0, .int 0, .int 0, .int 0, .int 0, .int 0, .int 0, .int 0])), (mt, .inl (ct, 72, .inl (fun _ => 0))), (mi, .inl (cj, 20, .inl (fun _ => 0)))]) (hK : va_K (dC, dI) vcl [(cl, .char), (cs, (.object "BigRunner$Statement")), (cr, .int), (ct, .char), (cj, .int)] s) : W p l e room_1 s m #[Value.ref b] below meth c H locs 1000 20000 (lw_Z below #[Value.ref b] s) (F0 m 174 ls []) := by
  refine lv_aload_n hx hb d_L_law_174 rfl (lv_at hl 3 rfl) ?_
  refine lv_aload_n hx hb d_L_law_175 rfl (lv_at hl 4 rfl) ?_
  refine lv_iload hx hb d_L_law_176 (lv_at hl 0 rfl) ?_
  refine lv_iconst (v := 1) hx hb d_L_law_178 (by decide) ?_
  refine lv_iadd hx hb d_L_law_179 ?_
  refine lv_topi (fun z_ hz_ => ?_)
  have hz_ : z_ = 1 := hz_.trans (by decide)
  subst hz_
  refine va_sld hx hb hX hbl hbA hS (vp_in_nI (n := 1) (by decide) (by decide)) d_L_law_180 ?_
  refine W.eq (g2 := F0 m 181 ls [.int (xs 1), .ref x]) rfl ?_
  have hPc := hP.sub (ws' := [(x, .inr (0, [.ref ql, .int 0, .ref rd, .ref rn, .int 0])), (ql, .inl (cl, 72, .inl (fun _ => 0))), (rd, .inr (7, [.ref qt, .int 0, .int 0, .ref pr])), (pr, .inr (6, [.ref qs, .int 0, .ref qn, .int 0, .ref qv, .ref qi])), (qs, .inl (cs, 36, .inr (.inr (.inr (.inr (fs)))))), (q0, .inr (9, [.int 5, .int 0, .int 0, .int (-1), .int 0])), (rn, .inr (8, [.ref pn, .ref qi2, .int 0, .ref qm, .ref qw, .ref qh, .ref qd, .ref qk, .int 0, .int 0, .int 0, .int 0, .int 0])), (qi2, .inr (1, [.ref qr, .int 0, .int 0])), (qr, .inl (cr, 20, .inl (fun _ => 0)))]) [0, 1, 2, 3, 4, 5, 6, 7, 8] rfl
  have hDc := hD.sub (ws' := [(x, .inr (0, [.ref ql, .int 0, .ref rd, .ref rn, .int 0])), (ql, .inl (cl, 72, .inl (fun _ => 0))), (rd, .inr (7, [.ref qt, .int 0, .int 0, .ref pr])), (pr, .inr (6, [.ref qs, .int 0, .ref qn, .int 0, .ref qv, .ref qi])), (qs, .inl (cs, 36, .inr (.inr (.inr (.inr (fs)))))), (q0, .inr (9, [.int 5, .int 0, .int 0, .int (-1), .int 0])), (rn, .inr (8, [.ref pn, .ref qi2, .int 0, .ref qm, .ref qw, .ref qh, .ref qd, .ref qk, .int 0, .int 0, .int 0, .int 0, .int 0])), (qi2, .inr (1, [.ref qr, .int 0, .int 0])), (qr, .inl (cr, 20, .inl (fun _ => 0)))]) [0, 1, 2, 3, 4, 5, 6, 7, 8] (by decide) rfl
  have hKc := hK.sub (tys' := [(cl, .char), (cs, (.object "BigRunner$Statement")), (cr, .int)]) [0, 1, 2] rfl
  have hFc := va_free (wc := [(x, .inr (0, [.ref ql, .int 0, .ref rd, .ref rn, .int 0])), (ql, .inl (cl, 72, .inl (fun _ => 0))), (rd, .inr (7, [.ref qt, .int 0, .int 0, .ref pr])), (pr, .inr (6, [.ref qs, .int 0, .ref qn, .int 0, .ref qv, .ref qi])), (qs, .inl (cs, 36, .inr (.inr (.inr (.inr (fs)))))), (q0, .inr (9, [.int 5, .int 0, .int 0, .int (-1), .int 0])), (rn, .inr (8, [.ref pn, .ref qi2, .int 0, .ref qm, .ref qw, .ref qh, .ref qd, .ref qk, .int 0, .int 0, .int 0, .int 0, .int 0])), (qi2, .inr (1, [.ref qr, .int 0, .int 0])), (qr, .inl (cr, 20, .inl (fun _ => 0)))]) hD hS hA [0, 1, 2, 3, 4, 5, 6, 7, 8] rfl
  refine va_calli (va_runV (C := "BigRunner") (As := [.int (xs 1)]) (rest := []) ⟨hx, hb, hml, hown, tb_nil⟩ (c_B_give l dC dI H.size x ql cl rd rn qt pr qs cs fs q0 qn qv qi pn qi2 qm qw qh qd qk qr cr (((xs 1)))) ⟨(callB_of 1 (tb_one (wd_405 hB _)) tb_good1 rfl rfl rfl (wd_72 hB _) (wd_402 hB _) (by decide +kernel) ⟨Nat.le_of_ble_eq_true rfl, Nat.le_of_ble_eq_true rfl⟩), (wd_403 hB _), (wd_404 hB _)⟩ ⟨fun a U g mk q => by obtain ⟨q0, q1, qB, qP, qK, qD⟩ := q; exact ⟨q0, q1, TB.same (s := U) (U := U.calling g mk a) rfl qB, qP, va_K.moved (u := U) (U := U.calling g mk a) (Vm.Alike.refl U.vm) qK, qD⟩, va_recv hK hP (q0 := 0) (ci := 0) rfl rfl, fun U hU hW => ⟨rfl, by rw [hU], hB.moved hW, by rw [hU]; exact hPc, va_K.moved hW.alike hKc, hDc.weaken (fun _ _ _ _ => trivial)⟩⟩ rfl rfl hl.1 rfl (lv_room (Nat.le_of_ble_eq_true rfl)) d_L_law_181 ⟨(Nat.le_of_ble_eq_true rfl), (Nat.le_of_ble_eq_true rfl)⟩) hS (fun q _ h => hFc q h) hFc (fun r_ u_ t H1 locs ht hvm hw_ hB1 hz1 hk1 hS => ?_)
  obtain ⟨hP1, hK1, hD1⟩ := hB1
  rw [ht] at hP1
  have hK1 := va_K.moved hvm.symm hK1
  try dsimp only at hw_
  obtain ⟨hP, hD⟩ := va_join (wr := [(y, .inr (10, [.int 0, .ref mt, .int 0, .ref b0, .ref b1, .int 0, .ref b2, .ref b3, .ref b4, .int 0, .int 0, .int 0, .ref b5, .int 0, .ref b6, .ref b7, .int 0, .ref b8, .ref b9, .ref b10, .ref b11, .ref b12, .ref b13, .ref b14, .ref b15, .ref b16, .ref b17, .ref b18, .ref b19, .ref b20, .ref b21, .ref b22, .int 0, .ref b23, .ref b24, .ref mi, .int 0, .int 0, .int 0, .int 0, .int 0, .int 0, .int 0, .int 0, .int 0])), (mt, .inl (ct, 72, .inl (fun _ => 0))), (mi, .inl (cj, 20, .inl (fun _ => 0)))]) (w1 := []) hP hD [0, 1, 2, 3, 4, 5, 6, 7, 8] [9, 10, 11] rfl rfl (by decide) (by decide) hk1 hFc hP1 hD1
  have hK := (hK.sub (tys' := [(ct, .char), (cj, .int)]) [3, 4] rfl).app hK1
  clear hk1 hFc hPc hDc hKc hP1 hD1 hK1 hz1 ht hvm
  generalize H1 = H at hP hS ⊢
  have hP : va_P (dC, dI) vcl [(y, .inr (10, [.int 0, .ref mt, .int 0, .ref b0, .ref b1, .int 0, .ref b2, .ref b3, .ref b4, .int 0, .int 0, .int 0, .ref b5, .int 0, .ref b6, .ref b7, .int 0, .ref b8, .ref b9, .ref b10, .ref b11, .ref b12, .ref b13, .ref b14, .ref b15, .ref b16, .ref b17, .ref b18, .ref b19, .ref b20, .ref b21, .ref b22, .int 0, .ref b23, .ref b24, .ref mi, .int 0, .int 0, .int 0, .int 0, .int 0, .int 0, .int 0, .int 0, .int 0])), (mt, .inl (ct, 72, .inl (fun _ => 0))), (mi, .inl (cj, 20, .inl (fun _ => 0)))] H := hP
  have hD : va_D A [(y, .inr (10, [.int 0, .ref mt, .int 0, .ref b0, .ref b1, .int 0, .ref b2, .ref b3, .ref b4, .int 0, .int 0, .int 0, .ref b5, .int 0, .ref b6, .ref b7, .int 0, .ref b8, .ref b9, .ref b10, .ref b11, .ref b12, .ref b13, .ref b14, .ref b15, .ref b16, .ref b17, .ref b18, .ref b19, .ref b20, .ref b21, .ref b22, .int 0, .ref b23, .ref b24, .ref mi, .int 0, .int 0, .int 0, .int 0, .int 0, .int 0, .int 0, .int 0, .int 0])), (mt, .inl (ct, 72, .inl (fun _ => 0))), (mi, .inl (cj, 20, .inl (fun _ => 0)))] := hD
  have hK : va_K (dC, dI) vcl [(ct, .char), (cj, .int)] s := hK
  refine W.widen (k := 1000) (n := 20000) (by omega) (by omega) ?_
  subst hw_
  refine lv_aload_n hx hb d_L_law_184 rfl (lv_at hl 2 rfl) ?_
  refine lv_aload_n hx hb d_L_law_185 rfl (lv_at hl 4 rfl) ?_
  refine lv_iload hx hb d_L_law_186 (lv_at hl 0 rfl) ?_
  refine lv_iconst (v := 1) hx hb d_L_law_188 (by decide) ?_
  refine lv_iadd hx hb d_L_law_189 ?_
  refine lv_topi (fun z_ hz_ => ?_)
  have hz_ : z_ = 1 := hz_.trans (by decide)
  subst hz_
  refine va_sld hx hb hX hbl hbA hS (vp_in_nI (n := 1) (by decide) (by decide)) d_L_law_190 ?_
  refine W.eq (g2 := F0 m 191 ls [.int (xs 1), .ref y, .int (vt_give (xs 1))]) rfl ?_
  have hPc := hP.sub (ws' := [(y, .inr (10, [.int 0, .ref mt, .int 0, .ref b0, .ref b1, .int 0, .ref b2, .ref b3, .ref b4, .int 0, .int 0, .int 0, .ref b5, .int 0, .ref b6, .ref b7, .int 0, .ref b8, .ref b9, .ref b10, .ref b11, .ref b12, .ref b13, .ref b14, .ref b15, .ref b16, .ref b17, .ref b18, .ref b19, .ref b20, .ref b21, .ref b22, .int 0, .ref b23, .ref b24, .ref mi, .int 0, .int 0, .int 0, .int 0, .int 0, .int 0, .int 0, .int 0, .int 0])), (mt, .inl (ct, 72, .inl (fun _ => 0))), (mi, .inl (cj, 20, .inl (fun _ => 0)))]) [0, 1, 2] rfl
  have hDc := hD.sub (ws' := [(y, .inr (10, [.int 0, .ref mt, .int 0, .ref b0, .ref b1, .int 0, .ref b2, .ref b3, .ref b4, .int 0, .int 0, .int 0, .ref b5, .int 0, .ref b6, .ref b7, .int 0, .ref b8, .ref b9, .ref b10, .ref b11, .ref b12, .ref b13, .ref b14, .ref b15, .ref b16, .ref b17, .ref b18, .ref b19, .ref b20, .ref b21, .ref b22, .int 0, .ref b23, .ref b24, .ref mi, .int 0, .int 0, .int 0, .int 0, .int 0, .int 0, .int 0, .int 0, .int 0])), (mt, .inl (ct, 72, .inl (fun _ => 0))), (mi, .inl (cj, 20, .inl (fun _ => 0)))]) [0, 1, 2] (by decide) rfl
  have hKc := hK.sub (tys' := [(ct, .char), (cj, .int)]) [0, 1] rfl
  have hFc := va_free (wc := [(y, .inr (10, [.int 0, .ref mt, .int 0, .ref b0, .ref b1, .int 0, .ref b2, .ref b3, .ref b4, .int 0, .int 0, .int 0, .ref b5, .int 0, .ref b6, .ref b7, .int 0, .ref b8, .ref b9, .ref b10, .ref b11, .ref b12, .ref b13, .ref b14, .ref b15, .ref b16, .ref b17, .ref b18, .ref b19, .ref b20, .ref b21, .ref b22, .int 0, .ref b23, .ref b24, .ref mi, .int 0, .int 0, .int 0, .int 0, .int 0, .int 0, .int 0, .int 0, .int 0])), (mt, .inl (ct, 72, .inl (fun _ => 0))), (mi, .inl (cj, 20, .inl (fun _ => 0)))]) hD hS hA [0, 1, 2] rfl
  refine va_calli (va_runV (C := "BigRunnerModel") (As := [.int (xs 1)]) (rest := [.int (vt_give (xs 1))]) ⟨hx, hb, hml, hown, tb_nil⟩ (c_M_give l dC dI H.size y mt ct mi cj b0 b1 b2 b3 b4 b5 b6 b7 b8 b9 b10 b11 b12 b13 b14 b15 b16 b17 b18 b19 b20 b21 b22 b23 b24 (((xs 1)))) ⟨(callB_of 1 (tb_one (wd_1193 hB _)) tb_good1 rfl rfl rfl (wd_82 hB _) (wd_1190 hB _) (by decide +kernel) ⟨Nat.le_of_ble_eq_true rfl, Nat.le_of_ble_eq_true rfl⟩), (wd_1191 hB _), (wd_1192 hB _)⟩ ⟨fun a U g mk q => by obtain ⟨q0, q1, qB, qP, qK, qD⟩ := q; exact ⟨q0, q1, TB.same (s := U) (U := U.calling g mk a) rfl qB, qP, va_K.moved (u := U) (U := U.calling g mk a) (Vm.Alike.refl U.vm) qK, qD⟩, va_recv hK hP (q0 := 0) (ci := 10) rfl rfl, fun U hU hW => ⟨rfl, by rw [hU], hB.moved hW, by rw [hU]; exact hPc, va_K.moved hW.alike hKc, hDc.weaken (fun _ _ _ _ => trivial)⟩⟩ rfl rfl hl.1 rfl (lv_room (Nat.le_of_ble_eq_true rfl)) d_L_law_191 ⟨(Nat.le_of_ble_eq_true rfl), (Nat.le_of_ble_eq_true rfl)⟩) hS (fun q _ h => hFc q h) hFc (fun r_ u_ t H1 locs ht hvm hw_ hB1 hz1 hk1 hS => ?_)
  obtain ⟨hP1, hK1, hD1⟩ := hB1
  rw [ht] at hP1
  have hK1 := va_K.moved hvm.symm hK1
  try dsimp only at hw_
  obtain ⟨hP, hD⟩ := va_join (wr := []) (w1 := []) hP hD [0, 1, 2] [] rfl rfl (by decide) (by decide) hk1 hFc hP1 hD1
  have hK := (hK.sub (tys' := []) [] rfl).app hK1
  clear hk1 hFc hPc hDc hKc hP1 hD1 hK1 hz1 ht hvm
  generalize H1 = H at hP hS ⊢
  have hP : va_P (dC, dI) vcl [] H := hP
  have hD : va_D A [] := hD
  have hK : va_K (dC, dI) vcl [] s := hK
  refine W.widen (k := 1000) (n := 20000) (by omega) (by omega) ?_
  subst hw_
  refine lv_icmp_eq (tgt := 524) hx hb d_L_law_194 (by decide) (fun _ => ?_) (fun hq => absurd rfl hq)
  exact law_524 hx hb hr hlocks hA2 hS (by omega) (by omega) hX hbl hbA (lv_sub hl [0, 4] rfl)
set_option maxHeartbeats 4000000 in
set_option maxRecDepth 100000 in
theorem law_c5 {p : Program} {l : Launch} {e : Env} {s : State} {m : MethodId} {below : List Frame} {meth : Method} {c : Code} {b : Nat} {xs : Nat → Int32} {A : Nat → Prop} {H : Heap} {locs : List Loc} {ls : Array Slot}  (dC : Nat → ClassId) (dI : Nat → Nat → Nat) (x : Nat) (ql : Nat) (cl : ClassId) (rd : Nat) (rn : Nat) (qt : Nat) (pr : Nat) (qs : Nat) (cs : ClassId) (fs : Nat → Option Nat) (q0 : Nat) (qn : Nat) (qv : Nat) (qi : Nat) (pn : Nat) (qi2 : Nat) (qm : Nat) (qw : Nat) (qh : Nat) (qd : Nat) (qk : Nat) (qr : Nat) (cr : ClassId) (y : Nat) (mt : Nat) (ct : ClassId) (mi : Nat) (cj : ClassId) (b0 : Nat) (b1 : Nat) (b2 : Nat) (b3 : Nat) (b4 : Nat) (b5 : Nat) (b6 : Nat) (b7 : Nat) (b8 : Nat) (b9 : Nat) (b10 : Nat) (b11 : Nat) (b12 : Nat) (b13 : Nat) (b14 : Nat) (b15 : Nat) (b16 : Nat) (b17 : Nat) (b18 : Nat) (b19 : Nat) (b20 : Nat) (b21 : Nat) (b22 : Nat) (b23 : Nat) (b24 : Nat) (ob : Nat) (hx : p.tables.exec = Jvm.exec) (hb : c.code = code) (hr : meth.sig.returnType = ret) (hlocks : meth.locks = false) (hA2 : ∀ q : Nat, A q → s.heap.size ≤ q) (hS : va_S A s.heap H locs)  (hX : va_X b 3 xs s s.heap) (hbl : b < s.heap.size) (hbA : ¬ A b) (hml : c.maxLocals = 8) (hown : s.vm.findClass "BigRunnerLaw" = some m.cls) (hB : TB s) (htr : l.stackTraces = false) (hZS : th_Z "UNASSIGNED_STACK" "[Ljava/lang/StackTraceElement;" A s s.heap) (hZL : th_Z "SUPPRESSED_SENTINEL" "Ljava/util/List;" A s s.heap) (hf : fs 0 = some q0) (hA : ∀ q : Nat, s.heap.size ≤ q → A q) (hl : lv_has ls 8 [(4, .int 0), (3, .ref ob), (2, .ref y), (1, .ref x), (0, .ref b)]) (hP : va_P (dC, dI) vcl [(x, .inr (0, [.ref ql, .int 0, .ref rd, .ref rn, .int 0])), (ql, .inl (cl, 72, .inl (fun _ => 0))), (rd, .inr (7, [.ref qt, .int 0, .int 0, .ref pr])), (pr, .inr (6, [.ref qs, .int 0, .ref qn, .int 0, .ref qv, .ref qi])), (qs, .inl (cs, 36, .inr (.inr (.inr (.inr (fs)))))), (q0, .inr (9, [.int 5, .int 0, .int 0, .int (-1), .int 0])), (rn, .inr (8, [.ref pn, .ref qi2, .int 0, .ref qm, .ref qw, .ref qh, .ref qd, .ref qk, .int 0, .int 0, .int 0, .int 0, .int 0])), (qi2, .inr (1, [.ref qr, .int 0, .int 0])), (qr, .inl (cr, 20, .inl (fun _ => 0))), (y, .inr (10, [.int 0, .ref mt, .int 0, .ref b0, .ref b1, .int 0, .ref b2, .ref b3, .ref b4, .int 0, .int 0, .int 0, .ref b5, .int 0, .ref b6, .ref b7, .int 0, .ref b8, .ref b9, .ref b10, .ref b11, .ref b12, .ref b13, .ref b14, .ref b15, .ref b16, .ref b17, .ref b18, .ref b19, .ref b20, .ref b21, .ref b22, .int 0, .ref b23, .ref b24, .ref mi, .int 0, .int 0, .int 0, .int 0, .int 0, .int 0, .int 0, .int 0, .int 0])), (mt, .inl (ct, 72, .inl (fun _ => 0))), (mi, .inl (cj, 20, .inl (fun _ => 0)))] H) (hD : va_D A [(x, .inr (0, [.ref ql, .int 0, .ref rd, .ref rn, .int 0])), (ql, .inl (cl, 72, .inl (fun _ => 0))), (rd, .inr (7, [.ref qt, .int 0, .int 0, .ref pr])), (pr, .inr (6, [.ref qs, .int 0, .ref qn, .int 0, .ref qv, .ref qi])), (qs, .inl (cs, 36, .inr (.inr (.inr (.inr (fs)))))), (q0, .inr (9, [.int 5, .int 0, .int 0, .int (-1), .int 0])), (rn, .inr (8, [.ref pn, .ref qi2, .int 0, .ref qm, .ref qw, .ref qh, .ref qd, .ref qk, .int 0, .int 0, .int 0, .int 0, .int 0])), (qi2, .inr (1, [.ref qr, .int 0, .int 0])), (qr, .inl (cr, 20, .inl (fun _ => 0))), (y, .inr (10, [.int 0, .ref mt, .int 0, .ref b0, .ref b1, .int 0, .ref b2, .ref b3, .ref b4, .int 0, .int 0, .int 0, .ref b5, .int 0, .ref b6, .ref b7, .int 0, .ref b8, .ref b9, .ref b10, .ref b11, .ref b12, .ref b13, .ref b14, .ref b15, .ref b16, .ref b17, .ref b18, .ref b19, .ref b20, .ref b21, .ref b22, .int 0, .ref b23, .ref b24, .ref mi, .int 0, .int 0, .int 0, .int 0, .int 0, .int 0, .int 0, .int 0, .int 0])), (mt, .inl (ct, 72, .inl (fun _ => 0))), (mi, .inl (cj, 20, .inl (fun _ => 0)))]) (hK : va_K (dC, dI) vcl [(cl, .char), (cs, (.object "BigRunner$Statement")), (cr, .int), (ct, .char), (cj, .int)] s) : W p l e room_1 s m #[Value.ref b] below meth c H locs 1000 20000 (lw_Z below #[Value.ref b] s) (F0 m 255 ls []) := by
  refine lv_aload_n hx hb d_L_law_255 rfl (lv_at hl 3 rfl) ?_
  refine lv_aload_n hx hb d_L_law_256 rfl (lv_at hl 4 rfl) ?_
  refine lv_iload hx hb d_L_law_257 (lv_at hl 0 rfl) ?_
  refine lv_iconst (v := 1) hx hb d_L_law_259 (by decide) ?_
  refine lv_iadd hx hb d_L_law_260 ?_
  refine lv_topi (fun z_ hz_ => ?_)
  have hz_ : z_ = 1 := hz_.trans (by decide)
  subst hz_
  refine va_sld hx hb hX hbl hbA hS (vp_in_nI (n := 1) (by decide) (by decide)) d_L_law_261 ?_
  refine W.eq (g2 := F0 m 262 ls [.int (xs 1), .ref x]) rfl ?_
  have hPc := hP.sub (ws' := [(x, .inr (0, [.ref ql, .int 0, .ref rd, .ref rn, .int 0])), (ql, .inl (cl, 72, .inl (fun _ => 0))), (rd, .inr (7, [.ref qt, .int 0, .int 0, .ref pr])), (pr, .inr (6, [.ref qs, .int 0, .ref qn, .int 0, .ref qv, .ref qi])), (qs, .inl (cs, 36, .inr (.inr (.inr (.inr (fs)))))), (q0, .inr (9, [.int 5, .int 0, .int 0, .int (-1), .int 0])), (rn, .inr (8, [.ref pn, .ref qi2, .int 0, .ref qm, .ref qw, .ref qh, .ref qd, .ref qk, .int 0, .int 0, .int 0, .int 0, .int 0])), (qi2, .inr (1, [.ref qr, .int 0, .int 0])), (qr, .inl (cr, 20, .inl (fun _ => 0)))]) [0, 1, 2, 3, 4, 5, 6, 7, 8] rfl
  have hDc := hD.sub (ws' := [(x, .inr (0, [.ref ql, .int 0, .ref rd, .ref rn, .int 0])), (ql, .inl (cl, 72, .inl (fun _ => 0))), (rd, .inr (7, [.ref qt, .int 0, .int 0, .ref pr])), (pr, .inr (6, [.ref qs, .int 0, .ref qn, .int 0, .ref qv, .ref qi])), (qs, .inl (cs, 36, .inr (.inr (.inr (.inr (fs)))))), (q0, .inr (9, [.int 5, .int 0, .int 0, .int (-1), .int 0])), (rn, .inr (8, [.ref pn, .ref qi2, .int 0, .ref qm, .ref qw, .ref qh, .ref qd, .ref qk, .int 0, .int 0, .int 0, .int 0, .int 0])), (qi2, .inr (1, [.ref qr, .int 0, .int 0])), (qr, .inl (cr, 20, .inl (fun _ => 0)))]) [0, 1, 2, 3, 4, 5, 6, 7, 8] (by decide) rfl
  have hKc := hK.sub (tys' := [(cl, .char), (cs, (.object "BigRunner$Statement")), (cr, .int)]) [0, 1, 2] rfl
  have hFc := va_free (wc := [(x, .inr (0, [.ref ql, .int 0, .ref rd, .ref rn, .int 0])), (ql, .inl (cl, 72, .inl (fun _ => 0))), (rd, .inr (7, [.ref qt, .int 0, .int 0, .ref pr])), (pr, .inr (6, [.ref qs, .int 0, .ref qn, .int 0, .ref qv, .ref qi])), (qs, .inl (cs, 36, .inr (.inr (.inr (.inr (fs)))))), (q0, .inr (9, [.int 5, .int 0, .int 0, .int (-1), .int 0])), (rn, .inr (8, [.ref pn, .ref qi2, .int 0, .ref qm, .ref qw, .ref qh, .ref qd, .ref qk, .int 0, .int 0, .int 0, .int 0, .int 0])), (qi2, .inr (1, [.ref qr, .int 0, .int 0])), (qr, .inl (cr, 20, .inl (fun _ => 0)))]) hD hS hA [0, 1, 2, 3, 4, 5, 6, 7, 8] rfl
  refine va_calli (va_runV (C := "BigRunner") (As := [.int (xs 1)]) (rest := []) ⟨hx, hb, hml, hown, tb_nil⟩ (c_B_look l dC dI H.size x ql cl rd rn qt pr qs cs fs q0 qn qv qi pn qi2 qm qw qh qd qk qr cr (((xs 1)))) ⟨(callB_of 1 (tb_one (wd_415 hB _)) tb_good1 rfl rfl rfl (wd_72 hB _) (wd_412 hB _) (by decide +kernel) ⟨Nat.le_of_ble_eq_true rfl, Nat.le_of_ble_eq_true rfl⟩), (wd_413 hB _), (wd_414 hB _)⟩ ⟨fun a U g mk q => by obtain ⟨q0, q1, qB, qP, qK, qD⟩ := q; exact ⟨q0, q1, TB.same (s := U) (U := U.calling g mk a) rfl qB, qP, va_K.moved (u := U) (U := U.calling g mk a) (Vm.Alike.refl U.vm) qK, qD⟩, va_recv hK hP (q0 := 0) (ci := 0) rfl rfl, fun U hU hW => ⟨rfl, by rw [hU], hB.moved hW, by rw [hU]; exact hPc, va_K.moved hW.alike hKc, hDc.weaken (fun _ _ _ _ => trivial)⟩⟩ rfl rfl hl.1 rfl (lv_room (Nat.le_of_ble_eq_true rfl)) d_L_law_262 ⟨(Nat.le_of_ble_eq_true rfl), (Nat.le_of_ble_eq_true rfl)⟩) hS (fun q _ h => hFc q h) hFc (fun r_ u_ t H1 locs ht hvm hw_ hB1 hz1 hk1 hS => ?_)
  obtain ⟨hP1, hK1, hD1⟩ := hB1
  rw [ht] at hP1
  have hK1 := va_K.moved hvm.symm hK1
  try dsimp only at hw_
  obtain ⟨hP, hD⟩ := va_join (wr := [(y, .inr (10, [.int 0, .ref mt, .int 0, .ref b0, .ref b1, .int 0, .ref b2, .ref b3, .ref b4, .int 0, .int 0, .int 0, .ref b5, .int 0, .ref b6, .ref b7, .int 0, .ref b8, .ref b9, .ref b10, .ref b11, .ref b12, .ref b13, .ref b14, .ref b15, .ref b16, .ref b17, .ref b18, .ref b19, .ref b20, .ref b21, .ref b22, .int 0, .ref b23, .ref b24, .ref mi, .int 0, .int 0, .int 0, .int 0, .int 0, .int 0, .int 0, .int 0, .int 0])), (mt, .inl (ct, 72, .inl (fun _ => 0))), (mi, .inl (cj, 20, .inl (fun _ => 0)))]) (w1 := []) hP hD [0, 1, 2, 3, 4, 5, 6, 7, 8] [9, 10, 11] rfl rfl (by decide) (by decide) hk1 hFc hP1 hD1
  have hK := (hK.sub (tys' := [(ct, .char), (cj, .int)]) [3, 4] rfl).app hK1
  clear hk1 hFc hPc hDc hKc hP1 hD1 hK1 hz1 ht hvm
  generalize H1 = H at hP hS ⊢
  have hP : va_P (dC, dI) vcl [(y, .inr (10, [.int 0, .ref mt, .int 0, .ref b0, .ref b1, .int 0, .ref b2, .ref b3, .ref b4, .int 0, .int 0, .int 0, .ref b5, .int 0, .ref b6, .ref b7, .int 0, .ref b8, .ref b9, .ref b10, .ref b11, .ref b12, .ref b13, .ref b14, .ref b15, .ref b16, .ref b17, .ref b18, .ref b19, .ref b20, .ref b21, .ref b22, .int 0, .ref b23, .ref b24, .ref mi, .int 0, .int 0, .int 0, .int 0, .int 0, .int 0, .int 0, .int 0, .int 0])), (mt, .inl (ct, 72, .inl (fun _ => 0))), (mi, .inl (cj, 20, .inl (fun _ => 0)))] H := hP
  have hD : va_D A [(y, .inr (10, [.int 0, .ref mt, .int 0, .ref b0, .ref b1, .int 0, .ref b2, .ref b3, .ref b4, .int 0, .int 0, .int 0, .ref b5, .int 0, .ref b6, .ref b7, .int 0, .ref b8, .ref b9, .ref b10, .ref b11, .ref b12, .ref b13, .ref b14, .ref b15, .ref b16, .ref b17, .ref b18, .ref b19, .ref b20, .ref b21, .ref b22, .int 0, .ref b23, .ref b24, .ref mi, .int 0, .int 0, .int 0, .int 0, .int 0, .int 0, .int 0, .int 0, .int 0])), (mt, .inl (ct, 72, .inl (fun _ => 0))), (mi, .inl (cj, 20, .inl (fun _ => 0)))] := hD
  have hK : va_K (dC, dI) vcl [(ct, .char), (cj, .int)] s := hK
  refine W.widen (k := 1000) (n := 20000) (by omega) (by omega) ?_
  subst hw_
  refine lv_aload_n hx hb d_L_law_265 rfl (lv_at hl 2 rfl) ?_
  refine lv_aload_n hx hb d_L_law_266 rfl (lv_at hl 4 rfl) ?_
  refine lv_iload hx hb d_L_law_267 (lv_at hl 0 rfl) ?_
  refine lv_iconst (v := 1) hx hb d_L_law_269 (by decide) ?_
  refine lv_iadd hx hb d_L_law_270 ?_
  refine lv_topi (fun z_ hz_ => ?_)
  have hz_ : z_ = 1 := hz_.trans (by decide)
  subst hz_
  refine va_sld hx hb hX hbl hbA hS (vp_in_nI (n := 1) (by decide) (by decide)) d_L_law_271 ?_
  refine W.eq (g2 := F0 m 272 ls [.int (xs 1), .ref y, .int (vt_look (xs 1))]) rfl ?_
  have hPc := hP.sub (ws' := [(y, .inr (10, [.int 0, .ref mt, .int 0, .ref b0, .ref b1, .int 0, .ref b2, .ref b3, .ref b4, .int 0, .int 0, .int 0, .ref b5, .int 0, .ref b6, .ref b7, .int 0, .ref b8, .ref b9, .ref b10, .ref b11, .ref b12, .ref b13, .ref b14, .ref b15, .ref b16, .ref b17, .ref b18, .ref b19, .ref b20, .ref b21, .ref b22, .int 0, .ref b23, .ref b24, .ref mi, .int 0, .int 0, .int 0, .int 0, .int 0, .int 0, .int 0, .int 0, .int 0]))]) [0] rfl
  have hDc := hD.sub (ws' := [(y, .inr (10, [.int 0, .ref mt, .int 0, .ref b0, .ref b1, .int 0, .ref b2, .ref b3, .ref b4, .int 0, .int 0, .int 0, .ref b5, .int 0, .ref b6, .ref b7, .int 0, .ref b8, .ref b9, .ref b10, .ref b11, .ref b12, .ref b13, .ref b14, .ref b15, .ref b16, .ref b17, .ref b18, .ref b19, .ref b20, .ref b21, .ref b22, .int 0, .ref b23, .ref b24, .ref mi, .int 0, .int 0, .int 0, .int 0, .int 0, .int 0, .int 0, .int 0, .int 0]))]) [0] (by decide) rfl
  have hKc := hK.sub (tys' := []) [] rfl
  have hFc := va_free (wc := [(y, .inr (10, [.int 0, .ref mt, .int 0, .ref b0, .ref b1, .int 0, .ref b2, .ref b3, .ref b4, .int 0, .int 0, .int 0, .ref b5, .int 0, .ref b6, .ref b7, .int 0, .ref b8, .ref b9, .ref b10, .ref b11, .ref b12, .ref b13, .ref b14, .ref b15, .ref b16, .ref b17, .ref b18, .ref b19, .ref b20, .ref b21, .ref b22, .int 0, .ref b23, .ref b24, .ref mi, .int 0, .int 0, .int 0, .int 0, .int 0, .int 0, .int 0, .int 0, .int 0]))]) hD hS hA [0] rfl
  refine va_calli (va_runV (C := "BigRunnerModel") (As := [.int (xs 1)]) (rest := [.int (vt_look (xs 1))]) ⟨hx, hb, hml, hown, tb_nil⟩ (c_M_look l dC dI H.size y mt ct mi cj b0 b1 b2 b3 b4 b5 b6 b7 b8 b9 b10 b11 b12 b13 b14 b15 b16 b17 b18 b19 b20 b21 b22 b23 b24 (((xs 1)))) ⟨(callB_of 1 (tb_one (wd_1265 hB _)) tb_good1 rfl rfl rfl (wd_82 hB _) (wd_1262 hB _) (by decide +kernel) ⟨Nat.le_of_ble_eq_true rfl, Nat.le_of_ble_eq_true rfl⟩), (wd_1263 hB _), (wd_1264 hB _)⟩ ⟨fun a U g mk q => by obtain ⟨q0, q1, qB, qP, qK, qD⟩ := q; exact ⟨q0, q1, TB.same (s := U) (U := U.calling g mk a) rfl qB, qP, va_K.moved (u := U) (U := U.calling g mk a) (Vm.Alike.refl U.vm) qK, qD⟩, va_recv hK hP (q0 := 0) (ci := 10) rfl rfl, fun U hU hW => ⟨rfl, by rw [hU], hB.moved hW, by rw [hU]; exact hPc, va_K.moved hW.alike hKc, hDc.weaken (fun _ _ _ _ => trivial)⟩⟩ rfl rfl hl.1 rfl (lv_room (Nat.le_of_ble_eq_true rfl)) d_L_law_272 ⟨(Nat.le_of_ble_eq_true rfl), (Nat.le_of_ble_eq_true rfl)⟩) hS (fun q _ h => hFc q h) hFc (fun r_ u_ t H1 locs ht hvm hw_ hB1 hz1 hk1 hS => ?_)
  obtain ⟨hP1, hK1, hD1⟩ := hB1
  rw [ht] at hP1
  have hK1 := va_K.moved hvm.symm hK1
  try dsimp only at hw_
  obtain ⟨hP, hD⟩ := va_join (wr := [(mt, .inl (ct, 72, .inl (fun _ => 0))), (mi, .inl (cj, 20, .inl (fun _ => 0)))]) (w1 := []) hP hD [0] [1, 2] rfl rfl (by decide) (by decide) hk1 hFc hP1 hD1
  have hK := (hK.sub (tys' := [(ct, .char), (cj, .int)]) [0, 1] rfl).app hK1
  clear hk1 hFc hPc hDc hKc hP1 hD1 hK1 hz1 ht hvm
  generalize H1 = H at hP hS ⊢
  have hP : va_P (dC, dI) vcl [(mt, .inl (ct, 72, .inl (fun _ => 0))), (mi, .inl (cj, 20, .inl (fun _ => 0)))] H := hP
  have hD : va_D A [(mt, .inl (ct, 72, .inl (fun _ => 0))), (mi, .inl (cj, 20, .inl (fun _ => 0)))] := hD
  have hK : va_K (dC, dI) vcl [(ct, .char), (cj, .int)] s := hK
  refine W.widen (k := 1000) (n := 20000) (by omega) (by omega) ?_
  subst hw_
  refine lv_icmp_eq (tgt := 524) hx hb d_L_law_275 (by decide) (fun _ => ?_) (fun hq => absurd rfl hq)
  exact law_524 hx hb hr hlocks hA2 hS (by omega) (by omega) hX hbl hbA (lv_sub hl [0, 4] rfl)
set_option maxHeartbeats 4000000 in
set_option maxRecDepth 100000 in
theorem law_c7 {p : Program} {l : Launch} {e : Env} {s : State} {m : MethodId} {below : List Frame} {meth : Method} {c : Code} {b : Nat} {xs : Nat → Int32} {A : Nat → Prop} {H : Heap} {locs : List Loc} {ls : Array Slot}  (dC : Nat → ClassId) (dI : Nat → Nat → Nat) (x : Nat) (ql : Nat) (cl : ClassId) (rd : Nat) (rn : Nat) (qt : Nat) (pr : Nat) (qs : Nat) (cs : ClassId) (fs : Nat → Option Nat) (q0 : Nat) (qn : Nat) (qv : Nat) (qi : Nat) (pn : Nat) (qi2 : Nat) (qm : Nat) (qw : Nat) (qh : Nat) (qd : Nat) (qk : Nat) (qr : Nat) (cr : ClassId) (y : Nat) (mt : Nat) (ct : ClassId) (mi : Nat) (cj : ClassId) (b0 : Nat) (b1 : Nat) (b2 : Nat) (b3 : Nat) (b4 : Nat) (b5 : Nat) (b6 : Nat) (b7 : Nat) (b8 : Nat) (b9 : Nat) (b10 : Nat) (b11 : Nat) (b12 : Nat) (b13 : Nat) (b14 : Nat) (b15 : Nat) (b16 : Nat) (b17 : Nat) (b18 : Nat) (b19 : Nat) (b20 : Nat) (b21 : Nat) (b22 : Nat) (b23 : Nat) (b24 : Nat) (ob : Nat) (hx : p.tables.exec = Jvm.exec) (hb : c.code = code) (hr : meth.sig.returnType = ret) (hlocks : meth.locks = false) (hA2 : ∀ q : Nat, A q → s.heap.size ≤ q) (hS : va_S A s.heap H locs)  (hX : va_X b 3 xs s s.heap) (hbl : b < s.heap.size) (hbA : ¬ A b) (hml : c.maxLocals = 8) (hown : s.vm.findClass "BigRunnerLaw" = some m.cls) (hB : TB s) (htr : l.stackTraces = false) (hZS : th_Z "UNASSIGNED_STACK" "[Ljava/lang/StackTraceElement;" A s s.heap) (hZL : th_Z "SUPPRESSED_SENTINEL" "Ljava/util/List;" A s s.heap) (hf : fs 0 = some q0) (hA : ∀ q : Nat, s.heap.size ≤ q → A q) (hl : lv_has ls 8 [(4, .int 0), (3, .ref ob), (2, .ref y), (1, .ref x), (0, .ref b)]) (hP : va_P (dC, dI) vcl [(x, .inr (0, [.ref ql, .int 0, .ref rd, .ref rn, .int 0])), (ql, .inl (cl, 72, .inl (fun _ => 0))), (rd, .inr (7, [.ref qt, .int 0, .int 0, .ref pr])), (pr, .inr (6, [.ref qs, .int 0, .ref qn, .int 0, .ref qv, .ref qi])), (qs, .inl (cs, 36, .inr (.inr (.inr (.inr (fs)))))), (q0, .inr (9, [.int 5, .int 0, .int 0, .int (-1), .int 0])), (rn, .inr (8, [.ref pn, .ref qi2, .int 0, .ref qm, .ref qw, .ref qh, .ref qd, .ref qk, .int 0, .int 0, .int 0, .int 0, .int 0])), (qi2, .inr (1, [.ref qr, .int 0, .int 0])), (qr, .inl (cr, 20, .inl (fun _ => 0))), (y, .inr (10, [.int 0, .ref mt, .int 0, .ref b0, .ref b1, .int 0, .ref b2, .ref b3, .ref b4, .int 0, .int 0, .int 0, .ref b5, .int 0, .ref b6, .ref b7, .int 0, .ref b8, .ref b9, .ref b10, .ref b11, .ref b12, .ref b13, .ref b14, .ref b15, .ref b16, .ref b17, .ref b18, .ref b19, .ref b20, .ref b21, .ref b22, .int 0, .ref b23, .ref b24, .ref mi, .int 0, .int 0, .int 0, .int 0, .int 0, .int 0, .int 0, .int 0, .int 0])), (mt, .inl (ct, 72, .inl (fun _ => 0))), (mi, .inl (cj, 20, .inl (fun _ => 0)))] H) (hD : va_D A [(x, .inr (0, [.ref ql, .int 0, .ref rd, .ref rn, .int 0])), (ql, .inl (cl, 72, .inl (fun _ => 0))), (rd, .inr (7, [.ref qt, .int 0, .int 0, .ref pr])), (pr, .inr (6, [.ref qs, .int 0, .ref qn, .int 0, .ref qv, .ref qi])), (qs, .inl (cs, 36, .inr (.inr (.inr (.inr (fs)))))), (q0, .inr (9, [.int 5, .int 0, .int 0, .int (-1), .int 0])), (rn, .inr (8, [.ref pn, .ref qi2, .int 0, .ref qm, .ref qw, .ref qh, .ref qd, .ref qk, .int 0, .int 0, .int 0, .int 0, .int 0])), (qi2, .inr (1, [.ref qr, .int 0, .int 0])), (qr, .inl (cr, 20, .inl (fun _ => 0))), (y, .inr (10, [.int 0, .ref mt, .int 0, .ref b0, .ref b1, .int 0, .ref b2, .ref b3, .ref b4, .int 0, .int 0, .int 0, .ref b5, .int 0, .ref b6, .ref b7, .int 0, .ref b8, .ref b9, .ref b10, .ref b11, .ref b12, .ref b13, .ref b14, .ref b15, .ref b16, .ref b17, .ref b18, .ref b19, .ref b20, .ref b21, .ref b22, .int 0, .ref b23, .ref b24, .ref mi, .int 0, .int 0, .int 0, .int 0, .int 0, .int 0, .int 0, .int 0, .int 0])), (mt, .inl (ct, 72, .inl (fun _ => 0))), (mi, .inl (cj, 20, .inl (fun _ => 0)))]) (hK : va_K (dC, dI) vcl [(cl, .char), (cs, (.object "BigRunner$Statement")), (cr, .int), (ct, .char), (cj, .int)] s) : W p l e room_1 s m #[Value.ref b] below meth c H locs 1000 20000 (lw_Z below #[Value.ref b] s) (F0 m 363 ls []) := by
  refine lv_aload_n hx hb d_L_law_363 rfl (lv_at hl 3 rfl) ?_
  refine lv_aload_n hx hb d_L_law_364 rfl (lv_at hl 4 rfl) ?_
  refine lv_iload hx hb d_L_law_365 (lv_at hl 0 rfl) ?_
  refine lv_iconst (v := 1) hx hb d_L_law_367 (by decide) ?_
  refine lv_iadd hx hb d_L_law_368 ?_
  refine lv_topi (fun z_ hz_ => ?_)
  have hz_ : z_ = 1 := hz_.trans (by decide)
  subst hz_
  refine va_sld hx hb hX hbl hbA hS (vp_in_nI (n := 1) (by decide) (by decide)) d_L_law_369 ?_
  refine W.eq (g2 := F0 m 370 ls [.int (xs 1), .ref x]) rfl ?_
  have hPc := hP.sub (ws' := [(x, .inr (0, [.ref ql, .int 0, .ref rd, .ref rn, .int 0])), (ql, .inl (cl, 72, .inl (fun _ => 0))), (rd, .inr (7, [.ref qt, .int 0, .int 0, .ref pr])), (pr, .inr (6, [.ref qs, .int 0, .ref qn, .int 0, .ref qv, .ref qi])), (qs, .inl (cs, 36, .inr (.inr (.inr (.inr (fs)))))), (q0, .inr (9, [.int 5, .int 0, .int 0, .int (-1), .int 0])), (rn, .inr (8, [.ref pn, .ref qi2, .int 0, .ref qm, .ref qw, .ref qh, .ref qd, .ref qk, .int 0, .int 0, .int 0, .int 0, .int 0])), (qi2, .inr (1, [.ref qr, .int 0, .int 0])), (qr, .inl (cr, 20, .inl (fun _ => 0)))]) [0, 1, 2, 3, 4, 5, 6, 7, 8] rfl
  have hDc := hD.sub (ws' := [(x, .inr (0, [.ref ql, .int 0, .ref rd, .ref rn, .int 0])), (ql, .inl (cl, 72, .inl (fun _ => 0))), (rd, .inr (7, [.ref qt, .int 0, .int 0, .ref pr])), (pr, .inr (6, [.ref qs, .int 0, .ref qn, .int 0, .ref qv, .ref qi])), (qs, .inl (cs, 36, .inr (.inr (.inr (.inr (fs)))))), (q0, .inr (9, [.int 5, .int 0, .int 0, .int (-1), .int 0])), (rn, .inr (8, [.ref pn, .ref qi2, .int 0, .ref qm, .ref qw, .ref qh, .ref qd, .ref qk, .int 0, .int 0, .int 0, .int 0, .int 0])), (qi2, .inr (1, [.ref qr, .int 0, .int 0])), (qr, .inl (cr, 20, .inl (fun _ => 0)))]) [0, 1, 2, 3, 4, 5, 6, 7, 8] (by decide) rfl
  have hKc := hK.sub (tys' := [(cl, .char), (cs, (.object "BigRunner$Statement")), (cr, .int)]) [0, 1, 2] rfl
  have hFc := va_free (wc := [(x, .inr (0, [.ref ql, .int 0, .ref rd, .ref rn, .int 0])), (ql, .inl (cl, 72, .inl (fun _ => 0))), (rd, .inr (7, [.ref qt, .int 0, .int 0, .ref pr])), (pr, .inr (6, [.ref qs, .int 0, .ref qn, .int 0, .ref qv, .ref qi])), (qs, .inl (cs, 36, .inr (.inr (.inr (.inr (fs)))))), (q0, .inr (9, [.int 5, .int 0, .int 0, .int (-1), .int 0])), (rn, .inr (8, [.ref pn, .ref qi2, .int 0, .ref qm, .ref qw, .ref qh, .ref qd, .ref qk, .int 0, .int 0, .int 0, .int 0, .int 0])), (qi2, .inr (1, [.ref qr, .int 0, .int 0])), (qr, .inl (cr, 20, .inl (fun _ => 0)))]) hD hS hA [0, 1, 2, 3, 4, 5, 6, 7, 8] rfl
  refine va_calli (va_runV (C := "BigRunner") (As := [.int (xs 1)]) (rest := []) ⟨hx, hb, hml, hown, tb_nil⟩ (c_B_small l dC dI H.size x ql cl rd rn qt pr qs cs fs q0 qn qv qi pn qi2 qm qw qh qd qk qr cr (((xs 1)))) ⟨(callB_of 1 (tb_one (wd_432 hB _)) tb_good1 rfl rfl rfl (wd_72 hB _) (wd_429 hB _) (by decide +kernel) ⟨Nat.le_of_ble_eq_true rfl, Nat.le_of_ble_eq_true rfl⟩), (wd_430 hB _), (wd_431 hB _)⟩ ⟨fun a U g mk q => by obtain ⟨q0, q1, qB, qP, qK, qD⟩ := q; exact ⟨q0, q1, TB.same (s := U) (U := U.calling g mk a) rfl qB, qP, va_K.moved (u := U) (U := U.calling g mk a) (Vm.Alike.refl U.vm) qK, qD⟩, va_recv hK hP (q0 := 0) (ci := 0) rfl rfl, fun U hU hW => ⟨rfl, by rw [hU], hB.moved hW, by rw [hU]; exact hPc, va_K.moved hW.alike hKc, hDc.weaken (fun _ _ _ _ => trivial)⟩⟩ rfl rfl hl.1 rfl (lv_room (Nat.le_of_ble_eq_true rfl)) d_L_law_370 ⟨(Nat.le_of_ble_eq_true rfl), (Nat.le_of_ble_eq_true rfl)⟩) hS (fun q _ h => hFc q h) hFc (fun r_ u_ t H1 locs ht hvm hw_ hB1 hz1 hk1 hS => ?_)
  obtain ⟨hP1, hK1, hD1⟩ := hB1
  rw [ht] at hP1
  have hK1 := va_K.moved hvm.symm hK1
  try dsimp only at hw_
  obtain ⟨hP, hD⟩ := va_join (wr := [(y, .inr (10, [.int 0, .ref mt, .int 0, .ref b0, .ref b1, .int 0, .ref b2, .ref b3, .ref b4, .int 0, .int 0, .int 0, .ref b5, .int 0, .ref b6, .ref b7, .int 0, .ref b8, .ref b9, .ref b10, .ref b11, .ref b12, .ref b13, .ref b14, .ref b15, .ref b16, .ref b17, .ref b18, .ref b19, .ref b20, .ref b21, .ref b22, .int 0, .ref b23, .ref b24, .ref mi, .int 0, .int 0, .int 0, .int 0, .int 0, .int 0, .int 0, .int 0, .int 0])), (mt, .inl (ct, 72, .inl (fun _ => 0))), (mi, .inl (cj, 20, .inl (fun _ => 0)))]) (w1 := []) hP hD [0, 1, 2, 3, 4, 5, 6, 7, 8] [9, 10, 11] rfl rfl (by decide) (by decide) hk1 hFc hP1 hD1
  have hK := (hK.sub (tys' := [(ct, .char), (cj, .int)]) [3, 4] rfl).app hK1
  clear hk1 hFc hPc hDc hKc hP1 hD1 hK1 hz1 ht hvm
  generalize H1 = H at hP hS ⊢
  have hP : va_P (dC, dI) vcl [(y, .inr (10, [.int 0, .ref mt, .int 0, .ref b0, .ref b1, .int 0, .ref b2, .ref b3, .ref b4, .int 0, .int 0, .int 0, .ref b5, .int 0, .ref b6, .ref b7, .int 0, .ref b8, .ref b9, .ref b10, .ref b11, .ref b12, .ref b13, .ref b14, .ref b15, .ref b16, .ref b17, .ref b18, .ref b19, .ref b20, .ref b21, .ref b22, .int 0, .ref b23, .ref b24, .ref mi, .int 0, .int 0, .int 0, .int 0, .int 0, .int 0, .int 0, .int 0, .int 0])), (mt, .inl (ct, 72, .inl (fun _ => 0))), (mi, .inl (cj, 20, .inl (fun _ => 0)))] H := hP
  have hD : va_D A [(y, .inr (10, [.int 0, .ref mt, .int 0, .ref b0, .ref b1, .int 0, .ref b2, .ref b3, .ref b4, .int 0, .int 0, .int 0, .ref b5, .int 0, .ref b6, .ref b7, .int 0, .ref b8, .ref b9, .ref b10, .ref b11, .ref b12, .ref b13, .ref b14, .ref b15, .ref b16, .ref b17, .ref b18, .ref b19, .ref b20, .ref b21, .ref b22, .int 0, .ref b23, .ref b24, .ref mi, .int 0, .int 0, .int 0, .int 0, .int 0, .int 0, .int 0, .int 0, .int 0])), (mt, .inl (ct, 72, .inl (fun _ => 0))), (mi, .inl (cj, 20, .inl (fun _ => 0)))] := hD
  have hK : va_K (dC, dI) vcl [(ct, .char), (cj, .int)] s := hK
  refine W.widen (k := 1000) (n := 20000) (by omega) (by omega) ?_
  subst hw_
  refine lv_aload_n hx hb d_L_law_373 rfl (lv_at hl 2 rfl) ?_
  refine lv_aload_n hx hb d_L_law_374 rfl (lv_at hl 4 rfl) ?_
  refine lv_iload hx hb d_L_law_375 (lv_at hl 0 rfl) ?_
  refine lv_iconst (v := 1) hx hb d_L_law_377 (by decide) ?_
  refine lv_iadd hx hb d_L_law_378 ?_
  refine lv_topi (fun z_ hz_ => ?_)
  have hz_ : z_ = 1 := hz_.trans (by decide)
  subst hz_
  refine va_sld hx hb hX hbl hbA hS (vp_in_nI (n := 1) (by decide) (by decide)) d_L_law_379 ?_
  refine W.eq (g2 := F0 m 380 ls [.int (xs 1), .ref y, .int 0]) rfl ?_
  have hPc := hP.sub (ws' := [(y, .inr (10, [.int 0, .ref mt, .int 0, .ref b0, .ref b1, .int 0, .ref b2, .ref b3, .ref b4, .int 0, .int 0, .int 0, .ref b5, .int 0, .ref b6, .ref b7, .int 0, .ref b8, .ref b9, .ref b10, .ref b11, .ref b12, .ref b13, .ref b14, .ref b15, .ref b16, .ref b17, .ref b18, .ref b19, .ref b20, .ref b21, .ref b22, .int 0, .ref b23, .ref b24, .ref mi, .int 0, .int 0, .int 0, .int 0, .int 0, .int 0, .int 0, .int 0, .int 0]))]) [0] rfl
  have hDc := hD.sub (ws' := [(y, .inr (10, [.int 0, .ref mt, .int 0, .ref b0, .ref b1, .int 0, .ref b2, .ref b3, .ref b4, .int 0, .int 0, .int 0, .ref b5, .int 0, .ref b6, .ref b7, .int 0, .ref b8, .ref b9, .ref b10, .ref b11, .ref b12, .ref b13, .ref b14, .ref b15, .ref b16, .ref b17, .ref b18, .ref b19, .ref b20, .ref b21, .ref b22, .int 0, .ref b23, .ref b24, .ref mi, .int 0, .int 0, .int 0, .int 0, .int 0, .int 0, .int 0, .int 0, .int 0]))]) [0] (by decide) rfl
  have hKc := hK.sub (tys' := []) [] rfl
  have hFc := va_free (wc := [(y, .inr (10, [.int 0, .ref mt, .int 0, .ref b0, .ref b1, .int 0, .ref b2, .ref b3, .ref b4, .int 0, .int 0, .int 0, .ref b5, .int 0, .ref b6, .ref b7, .int 0, .ref b8, .ref b9, .ref b10, .ref b11, .ref b12, .ref b13, .ref b14, .ref b15, .ref b16, .ref b17, .ref b18, .ref b19, .ref b20, .ref b21, .ref b22, .int 0, .ref b23, .ref b24, .ref mi, .int 0, .int 0, .int 0, .int 0, .int 0, .int 0, .int 0, .int 0, .int 0]))]) hD hS hA [0] rfl
  refine va_calli (va_runV (C := "BigRunnerModel") (As := [.int (xs 1)]) (rest := [.int 0]) ⟨hx, hb, hml, hown, tb_nil⟩ (c_M_small l dC dI H.size y mt ct mi cj b0 b1 b2 b3 b4 b5 b6 b7 b8 b9 b10 b11 b12 b13 b14 b15 b16 b17 b18 b19 b20 b21 b22 b23 b24 (((xs 1)))) ⟨(callB_of 1 (tb_one (wd_1273 hB _)) tb_good1 rfl rfl rfl (wd_82 hB _) (wd_1270 hB _) (by decide +kernel) ⟨Nat.le_of_ble_eq_true rfl, Nat.le_of_ble_eq_true rfl⟩), (wd_1271 hB _), (wd_1272 hB _)⟩ ⟨fun a U g mk q => by obtain ⟨q0, q1, qB, qP, qK, qD⟩ := q; exact ⟨q0, q1, TB.same (s := U) (U := U.calling g mk a) rfl qB, qP, va_K.moved (u := U) (U := U.calling g mk a) (Vm.Alike.refl U.vm) qK, qD⟩, va_recv hK hP (q0 := 0) (ci := 10) rfl rfl, fun U hU hW => ⟨rfl, by rw [hU], hB.moved hW, by rw [hU]; exact hPc, va_K.moved hW.alike hKc, hDc.weaken (fun _ _ _ _ => trivial)⟩⟩ rfl rfl hl.1 rfl (lv_room (Nat.le_of_ble_eq_true rfl)) d_L_law_380 ⟨(Nat.le_of_ble_eq_true rfl), (Nat.le_of_ble_eq_true rfl)⟩) hS (fun q _ h => hFc q h) hFc (fun r_ u_ t H1 locs ht hvm hw_ hB1 hz1 hk1 hS => ?_)
  obtain ⟨hP1, hK1, hD1⟩ := hB1
  rw [ht] at hP1
  have hK1 := va_K.moved hvm.symm hK1
  try dsimp only at hw_
  obtain ⟨hP, hD⟩ := va_join (wr := [(mt, .inl (ct, 72, .inl (fun _ => 0))), (mi, .inl (cj, 20, .inl (fun _ => 0)))]) (w1 := []) hP hD [0] [1, 2] rfl rfl (by decide) (by decide) hk1 hFc hP1 hD1
  have hK := (hK.sub (tys' := [(ct, .char), (cj, .int)]) [0, 1] rfl).app hK1
  clear hk1 hFc hPc hDc hKc hP1 hD1 hK1 hz1 ht hvm
  generalize H1 = H at hP hS ⊢
  have hP : va_P (dC, dI) vcl [(mt, .inl (ct, 72, .inl (fun _ => 0))), (mi, .inl (cj, 20, .inl (fun _ => 0)))] H := hP
  have hD : va_D A [(mt, .inl (ct, 72, .inl (fun _ => 0))), (mi, .inl (cj, 20, .inl (fun _ => 0)))] := hD
  have hK : va_K (dC, dI) vcl [(ct, .char), (cj, .int)] s := hK
  refine W.widen (k := 1000) (n := 20000) (by omega) (by omega) ?_
  subst hw_
  refine lv_icmp_eq (tgt := 524) hx hb d_L_law_383 (by decide) (fun _ => ?_) (fun hq => absurd rfl hq)
  exact law_524 hx hb hr hlocks hA2 hS (by omega) (by omega) hX hbl hbA (lv_sub hl [0, 4] rfl)
set_option maxHeartbeats 4000000 in
set_option maxRecDepth 100000 in
theorem law_c2 {p : Program} {l : Launch} {e : Env} {s : State} {m : MethodId} {below : List Frame} {meth : Method} {c : Code} {b : Nat} {xs : Nat → Int32} {A : Nat → Prop} {H : Heap} {locs : List Loc} {ls : Array Slot}  (dC : Nat → ClassId) (dI : Nat → Nat → Nat) (x : Nat) (ql : Nat) (cl : ClassId) (rd : Nat) (rn : Nat) (qt : Nat) (pr : Nat) (qs : Nat) (cs : ClassId) (fs : Nat → Option Nat) (q0 : Nat) (qn : Nat) (qv : Nat) (qi : Nat) (pn : Nat) (qi2 : Nat) (qm : Nat) (qw : Nat) (qh : Nat) (qd : Nat) (qk : Nat) (qr : Nat) (cr : ClassId) (y : Nat) (mt : Nat) (ct : ClassId) (mi : Nat) (cj : ClassId) (b0 : Nat) (b1 : Nat) (b2 : Nat) (b3 : Nat) (b4 : Nat) (b5 : Nat) (b6 : Nat) (b7 : Nat) (b8 : Nat) (b9 : Nat) (b10 : Nat) (b11 : Nat) (b12 : Nat) (b13 : Nat) (b14 : Nat) (b15 : Nat) (b16 : Nat) (b17 : Nat) (b18 : Nat) (b19 : Nat) (b20 : Nat) (b21 : Nat) (b22 : Nat) (b23 : Nat) (b24 : Nat) (ob : Nat) (hx : p.tables.exec = Jvm.exec) (hb : c.code = code) (hr : meth.sig.returnType = ret) (hlocks : meth.locks = false) (hA2 : ∀ q : Nat, A q → s.heap.size ≤ q) (hS : va_S A s.heap H locs)  (hX : va_X b 3 xs s s.heap) (hbl : b < s.heap.size) (hbA : ¬ A b) (hml : c.maxLocals = 8) (hown : s.vm.findClass "BigRunnerLaw" = some m.cls) (hB : TB s) (htr : l.stackTraces = false) (hZS : th_Z "UNASSIGNED_STACK" "[Ljava/lang/StackTraceElement;" A s s.heap) (hZL : th_Z "SUPPRESSED_SENTINEL" "Ljava/util/List;" A s s.heap) (hf : fs 0 = some q0) (hA : ∀ q : Nat, s.heap.size ≤ q → A q) (hl : lv_has ls 8 [(4, .int 0), (3, .ref ob), (2, .ref y), (1, .ref x), (0, .ref b)]) (hP : va_P (dC, dI) vcl [(x, .inr (0, [.ref ql, .int 0, .ref rd, .ref rn, .int 0])), (ql, .inl (cl, 72, .inl (fun _ => 0))), (rd, .inr (7, [.ref qt, .int 0, .int 0, .ref pr])), (pr, .inr (6, [.ref qs, .int 0, .ref qn, .int 0, .ref qv, .ref qi])), (qs, .inl (cs, 36, .inr (.inr (.inr (.inr (fs)))))), (q0, .inr (9, [.int 5, .int 0, .int 0, .int (-1), .int 0])), (rn, .inr (8, [.ref pn, .ref qi2, .int 0, .ref qm, .ref qw, .ref qh, .ref qd, .ref qk, .int 0, .int 0, .int 0, .int 0, .int 0])), (qi2, .inr (1, [.ref qr, .int 0, .int 0])), (qr, .inl (cr, 20, .inl (fun _ => 0))), (y, .inr (10, [.int 0, .ref mt, .int 0, .ref b0, .ref b1, .int 0, .ref b2, .ref b3, .ref b4, .int 0, .int 0, .int 0, .ref b5, .int 0, .ref b6, .ref b7, .int 0, .ref b8, .ref b9, .ref b10, .ref b11, .ref b12, .ref b13, .ref b14, .ref b15, .ref b16, .ref b17, .ref b18, .ref b19, .ref b20, .ref b21, .ref b22, .int 0, .ref b23, .ref b24, .ref mi, .int 0, .int 0, .int 0, .int 0, .int 0, .int 0, .int 0, .int 0, .int 0])), (mt, .inl (ct, 72, .inl (fun _ => 0))), (mi, .inl (cj, 20, .inl (fun _ => 0)))] H) (hD : va_D A [(x, .inr (0, [.ref ql, .int 0, .ref rd, .ref rn, .int 0])), (ql, .inl (cl, 72, .inl (fun _ => 0))), (rd, .inr (7, [.ref qt, .int 0, .int 0, .ref pr])), (pr, .inr (6, [.ref qs, .int 0, .ref qn, .int 0, .ref qv, .ref qi])), (qs, .inl (cs, 36, .inr (.inr (.inr (.inr (fs)))))), (q0, .inr (9, [.int 5, .int 0, .int 0, .int (-1), .int 0])), (rn, .inr (8, [.ref pn, .ref qi2, .int 0, .ref qm, .ref qw, .ref qh, .ref qd, .ref qk, .int 0, .int 0, .int 0, .int 0, .int 0])), (qi2, .inr (1, [.ref qr, .int 0, .int 0])), (qr, .inl (cr, 20, .inl (fun _ => 0))), (y, .inr (10, [.int 0, .ref mt, .int 0, .ref b0, .ref b1, .int 0, .ref b2, .ref b3, .ref b4, .int 0, .int 0, .int 0, .ref b5, .int 0, .ref b6, .ref b7, .int 0, .ref b8, .ref b9, .ref b10, .ref b11, .ref b12, .ref b13, .ref b14, .ref b15, .ref b16, .ref b17, .ref b18, .ref b19, .ref b20, .ref b21, .ref b22, .int 0, .ref b23, .ref b24, .ref mi, .int 0, .int 0, .int 0, .int 0, .int 0, .int 0, .int 0, .int 0, .int 0])), (mt, .inl (ct, 72, .inl (fun _ => 0))), (mi, .inl (cj, 20, .inl (fun _ => 0)))]) (hK : va_K (dC, dI) vcl [(cl, .char), (cs, (.object "BigRunner$Statement")), (cr, .int), (ct, .char), (cj, .int)] s) : W p l e room_1 s m #[Value.ref b] below meth c H locs 1000 20000 (lw_Z below #[Value.ref b] s) (F0 m 130 ls []) := by
  refine lv_aload_n hx hb d_L_law_130 rfl (lv_at hl 3 rfl) ?_
  refine lv_aload_n hx hb d_L_law_131 rfl (lv_at hl 1 rfl) ?_
  have hPc := hP.sub (ws' := [(x, .inr (0, [.ref ql, .int 0, .ref rd, .ref rn, .int 0])), (ql, .inl (cl, 72, .inl (fun _ => 0))), (rd, .inr (7, [.ref qt, .int 0, .int 0, .ref pr])), (pr, .inr (6, [.ref qs, .int 0, .ref qn, .int 0, .ref qv, .ref qi])), (qs, .inl (cs, 36, .inr (.inr (.inr (.inr (fs)))))), (q0, .inr (9, [.int 5, .int 0, .int 0, .int (-1), .int 0])), (rn, .inr (8, [.ref pn, .ref qi2, .int 0, .ref qm, .ref qw, .ref qh, .ref qd, .ref qk, .int 0, .int 0, .int 0, .int 0, .int 0])), (qi2, .inr (1, [.ref qr, .int 0, .int 0])), (qr, .inl (cr, 20, .inl (fun _ => 0)))]) [0, 1, 2, 3, 4, 5, 6, 7, 8] rfl
  have hDc := hD.sub (ws' := [(x, .inr (0, [.ref ql, .int 0, .ref rd, .ref rn, .int 0])), (ql, .inl (cl, 72, .inl (fun _ => 0))), (rd, .inr (7, [.ref qt, .int 0, .int 0, .ref pr])), (pr, .inr (6, [.ref qs, .int 0, .ref qn, .int 0, .ref qv, .ref qi])), (qs, .inl (cs, 36, .inr (.inr (.inr (.inr (fs)))))), (q0, .inr (9, [.int 5, .int 0, .int 0, .int (-1), .int 0])), (rn, .inr (8, [.ref pn, .ref qi2, .int 0, .ref qm, .ref qw, .ref qh, .ref qd, .ref qk, .int 0, .int 0, .int 0, .int 0, .int 0])), (qi2, .inr (1, [.ref qr, .int 0, .int 0])), (qr, .inl (cr, 20, .inl (fun _ => 0)))]) [0, 1, 2, 3, 4, 5, 6, 7, 8] (by decide) rfl
  have hKc := hK.sub (tys' := [(cl, .char), (cs, (.object "BigRunner$Statement")), (cr, .int)]) [0, 1, 2] rfl
  have hFc := va_free (wc := [(x, .inr (0, [.ref ql, .int 0, .ref rd, .ref rn, .int 0])), (ql, .inl (cl, 72, .inl (fun _ => 0))), (rd, .inr (7, [.ref qt, .int 0, .int 0, .ref pr])), (pr, .inr (6, [.ref qs, .int 0, .ref qn, .int 0, .ref qv, .ref qi])), (qs, .inl (cs, 36, .inr (.inr (.inr (.inr (fs)))))), (q0, .inr (9, [.int 5, .int 0, .int 0, .int (-1), .int 0])), (rn, .inr (8, [.ref pn, .ref qi2, .int 0, .ref qm, .ref qw, .ref qh, .ref qd, .ref qk, .int 0, .int 0, .int 0, .int 0, .int 0])), (qi2, .inr (1, [.ref qr, .int 0, .int 0])), (qr, .inl (cr, 20, .inl (fun _ => 0)))]) hD hS hA [0, 1, 2, 3, 4, 5, 6, 7, 8] rfl
  have hZ1 := (hZS.kept (fun a h1 h2 => hS.2.1 a h1 h2)).narrow (B := fun _ => False) (fun _ h => h.elim)
  have hZ2 := (hZL.kept (fun a h1 h2 => hS.2.1 a h1 h2)).narrow (B := fun _ => False) (fun _ h => h.elim)
  refine va_calli (tw_runS (As := [.ref x, .ref ob]) (rest := []) (n := 2) hx hb hml hown (c_L_load l dC dI H.size x ql cl rd rn qt pr qs cs fs q0 qn qv qi pn qi2 qm qw qh qd qk qr cr ob hf htr) (wd_448 hB _) (wd_71 hB _) (wd_446 hB _) (wd_447 hB _) (by decide +kernel) ⟨Nat.le_of_ble_eq_true rfl, Nat.le_of_ble_eq_true rfl⟩ rfl rfl ⟨fun a U g mk q => by obtain ⟨q0, q1, qB, qH, qP, qK, qD⟩ := q; exact ⟨q0, q1, TB.same (s := U) (U := U.calling g mk a) rfl qB, TH.moved (s := U) (U := U.calling g mk a) (Vm.Alike.refl U.vm) rfl qH, qP, va_K.moved (u := U) (U := U.calling g mk a) (Vm.Alike.refl U.vm) qK, qD⟩, fun U hU hW => ⟨rfl, by rw [hU], hB.moved hW, by unfold TH; rw [hU]; exact ⟨hZ1.moved hW.alike, hZ2.moved hW.alike⟩, by rw [hU]; exact hPc, va_K.moved hW.alike hKc, hDc.weaken (fun _ _ _ _ => trivial)⟩⟩ rfl rfl hl.1 rfl (lv_room (Nat.le_of_ble_eq_true rfl)) d_L_law_132 ⟨Nat.le_of_ble_eq_true rfl, Nat.le_of_ble_eq_true rfl⟩) hS (fun q _ h => hFc q h) hFc (fun r_ u_ t H1 locs ht hvm hw_ hB1 hz1 hk1 hS => ?_)
  obtain ⟨hP1, hK1, hD1⟩ := hB1
  rw [ht] at hP1
  have hK1 := va_K.moved hvm.symm hK1
  try dsimp only at hw_
  obtain ⟨hP, hD⟩ := va_join (wr := [(y, .inr (10, [.int 0, .ref mt, .int 0, .ref b0, .ref b1, .int 0, .ref b2, .ref b3, .ref b4, .int 0, .int 0, .int 0, .ref b5, .int 0, .ref b6, .ref b7, .int 0, .ref b8, .ref b9, .ref b10, .ref b11, .ref b12, .ref b13, .ref b14, .ref b15, .ref b16, .ref b17, .ref b18, .ref b19, .ref b20, .ref b21, .ref b22, .int 0, .ref b23, .ref b24, .ref mi, .int 0, .int 0, .int 0, .int 0, .int 0, .int 0, .int 0, .int 0, .int 0])), (mt, .inl (ct, 72, .inl (fun _ => 0))), (mi, .inl (cj, 20, .inl (fun _ => 0)))]) (w1 := []) hP hD [0, 1, 2, 3, 4, 5, 6, 7, 8] [9, 10, 11] rfl rfl (by decide) (by decide) hk1 hFc hP1 hD1
  have hK := (hK.sub (tys' := [(ct, .char), (cj, .int)]) [3, 4] rfl).app hK1
  clear hk1 hFc hPc hDc hKc hP1 hD1 hK1 hz1 ht hvm
  generalize H1 = H at hP hS ⊢
  have hP : va_P (dC, dI) vcl [(y, .inr (10, [.int 0, .ref mt, .int 0, .ref b0, .ref b1, .int 0, .ref b2, .ref b3, .ref b4, .int 0, .int 0, .int 0, .ref b5, .int 0, .ref b6, .ref b7, .int 0, .ref b8, .ref b9, .ref b10, .ref b11, .ref b12, .ref b13, .ref b14, .ref b15, .ref b16, .ref b17, .ref b18, .ref b19, .ref b20, .ref b21, .ref b22, .int 0, .ref b23, .ref b24, .ref mi, .int 0, .int 0, .int 0, .int 0, .int 0, .int 0, .int 0, .int 0, .int 0])), (mt, .inl (ct, 72, .inl (fun _ => 0))), (mi, .inl (cj, 20, .inl (fun _ => 0)))] H := hP
  have hD : va_D A [(y, .inr (10, [.int 0, .ref mt, .int 0, .ref b0, .ref b1, .int 0, .ref b2, .ref b3, .ref b4, .int 0, .int 0, .int 0, .ref b5, .int 0, .ref b6, .ref b7, .int 0, .ref b8, .ref b9, .ref b10, .ref b11, .ref b12, .ref b13, .ref b14, .ref b15, .ref b16, .ref b17, .ref b18, .ref b19, .ref b20, .ref b21, .ref b22, .int 0, .ref b23, .ref b24, .ref mi, .int 0, .int 0, .int 0, .int 0, .int 0, .int 0, .int 0, .int 0, .int 0])), (mt, .inl (ct, 72, .inl (fun _ => 0))), (mi, .inl (cj, 20, .inl (fun _ => 0)))] := hD
  have hK : va_K (dC, dI) vcl [(ct, .char), (cj, .int)] s := hK
  refine W.widen (k := 1001) (n := 20006) (by omega) (by omega) ?_
  subst hw_
  refine lv_istore (lv' := [(5, .int 1), (4, .int 0), (3, .ref ob), (2, .ref y), (1, .ref x), (0, .ref b)]) hx hb d_L_law_135 hl (by decide) rfl (fun ls hl => ?_)
  refine lv_aload_n hx hb d_L_law_137 rfl (lv_at hl 3 rfl) ?_
  have hPc := hP.sub (ws' := [(y, .inr (10, [.int 0, .ref mt, .int 0, .ref b0, .ref b1, .int 0, .ref b2, .ref b3, .ref b4, .int 0, .int 0, .int 0, .ref b5, .int 0, .ref b6, .ref b7, .int 0, .ref b8, .ref b9, .ref b10, .ref b11, .ref b12, .ref b13, .ref b14, .ref b15, .ref b16, .ref b17, .ref b18, .ref b19, .ref b20, .ref b21, .ref b22, .int 0, .ref b23, .ref b24, .ref mi, .int 0, .int 0, .int 0, .int 0, .int 0, .int 0, .int 0, .int 0, .int 0]))]) [0] rfl
  have hDc := hD.sub (ws' := [(y, .inr (10, [.int 0, .ref mt, .int 0, .ref b0, .ref b1, .int 0, .ref b2, .ref b3, .ref b4, .int 0, .int 0, .int 0, .ref b5, .int 0, .ref b6, .ref b7, .int 0, .ref b8, .ref b9, .ref b10, .ref b11, .ref b12, .ref b13, .ref b14, .ref b15, .ref b16, .ref b17, .ref b18, .ref b19, .ref b20, .ref b21, .ref b22, .int 0, .ref b23, .ref b24, .ref mi, .int 0, .int 0, .int 0, .int 0, .int 0, .int 0, .int 0, .int 0, .int 0]))]) [0] (by decide) rfl
  have hKc := hK.sub (tys' := []) [] rfl
  have hFc := va_free (wc := [(y, .inr (10, [.int 0, .ref mt, .int 0, .ref b0, .ref b1, .int 0, .ref b2, .ref b3, .ref b4, .int 0, .int 0, .int 0, .ref b5, .int 0, .ref b6, .ref b7, .int 0, .ref b8, .ref b9, .ref b10, .ref b11, .ref b12, .ref b13, .ref b14, .ref b15, .ref b16, .ref b17, .ref b18, .ref b19, .ref b20, .ref b21, .ref b22, .int 0, .ref b23, .ref b24, .ref mi, .int 0, .int 0, .int 0, .int 0, .int 0, .int 0, .int 0, .int 0, .int 0]))]) hD hS hA [0] rfl
  refine va_calli (va_runV (C := "BigRunnerModel") (As := []) (rest := []) ⟨hx, hb, hml, hown, tb_nil⟩ (c_M_load l dC dI H.size y mt ct mi cj b0 b1 b2 b3 b4 b5 b6 b7 b8 b9 b10 b11 b12 b13 b14 b15 b16 b17 b18 b19 b20 b21 b22 b23 b24) ⟨(callB_of 0 (tb_one (wd_1099 hB _)) tb_good1 rfl rfl rfl (wd_82 hB _) (wd_1096 hB _) (by decide +kernel) ⟨Nat.le_of_ble_eq_true rfl, Nat.le_of_ble_eq_true rfl⟩), (wd_1097 hB _), (wd_1098 hB _)⟩ ⟨fun a U g mk q => by obtain ⟨q0, q1, qB, qP, qK, qD⟩ := q; exact ⟨q0, q1, TB.same (s := U) (U := U.calling g mk a) rfl qB, qP, va_K.moved (u := U) (U := U.calling g mk a) (Vm.Alike.refl U.vm) qK, qD⟩, va_recv hK hP (q0 := 0) (ci := 10) rfl rfl, fun U hU hW => ⟨rfl, by rw [hU], hB.moved hW, by rw [hU]; exact hPc, va_K.moved hW.alike hKc, hDc.weaken (fun _ _ _ _ => trivial)⟩⟩ rfl rfl hl.1 rfl (lv_room (Nat.le_of_ble_eq_true rfl)) d_L_law_138 ⟨(Nat.le_of_ble_eq_true rfl), (Nat.le_of_ble_eq_true rfl)⟩) hS (fun q _ h => hFc q h) hFc (fun r_ u_ t H1 locs ht hvm hw_ hB1 hz1 hk1 hS => ?_)
  obtain ⟨hP1, hK1, hD1⟩ := hB1
  rw [ht] at hP1
  have hK1 := va_K.moved hvm.symm hK1
  try dsimp only at hw_
  obtain ⟨hP, hD⟩ := va_join (wr := [(mt, .inl (ct, 72, .inl (fun _ => 0))), (mi, .inl (cj, 20, .inl (fun _ => 0)))]) (w1 := [(y, .inr (10, [.int 1, .ref mt, .int 0, .ref b0, .ref b1, .int 0, .ref b2, .ref b3, .ref b4, .int 0, .int 1, .int 1, .ref b5, .int 0, .ref b6, .ref b7, .int 0, .ref b8, .ref b9, .ref b10, .ref b11, .ref b12, .ref b13, .ref b14, .ref b15, .ref b16, .ref b17, .ref b18, .ref b19, .ref b20, .ref b21, .ref b22, .int 0, .ref b23, .ref b24, .ref mi, .int 0, .int 0, .int 0, .int 0, .int 0, .int 0, .int 0, .int 0, .int 0]))]) hP hD [0] [1, 2] rfl rfl (by decide) (by decide) hk1 hFc hP1 hD1
  have hK := (hK.sub (tys' := [(ct, .char), (cj, .int)]) [0, 1] rfl).app hK1
  clear hk1 hFc hPc hDc hKc hP1 hD1 hK1 hz1 ht hvm
  generalize H1 = H at hP hS ⊢
  have hP : va_P (dC, dI) vcl [(mt, .inl (ct, 72, .inl (fun _ => 0))), (mi, .inl (cj, 20, .inl (fun _ => 0))), (y, .inr (10, [.int 1, .ref mt, .int 0, .ref b0, .ref b1, .int 0, .ref b2, .ref b3, .ref b4, .int 0, .int 1, .int 1, .ref b5, .int 0, .ref b6, .ref b7, .int 0, .ref b8, .ref b9, .ref b10, .ref b11, .ref b12, .ref b13, .ref b14, .ref b15, .ref b16, .ref b17, .ref b18, .ref b19, .ref b20, .ref b21, .ref b22, .int 0, .ref b23, .ref b24, .ref mi, .int 0, .int 0, .int 0, .int 0, .int 0, .int 0, .int 0, .int 0, .int 0]))] H := hP
  have hD : va_D A [(mt, .inl (ct, 72, .inl (fun _ => 0))), (mi, .inl (cj, 20, .inl (fun _ => 0))), (y, .inr (10, [.int 1, .ref mt, .int 0, .ref b0, .ref b1, .int 0, .ref b2, .ref b3, .ref b4, .int 0, .int 1, .int 1, .ref b5, .int 0, .ref b6, .ref b7, .int 0, .ref b8, .ref b9, .ref b10, .ref b11, .ref b12, .ref b13, .ref b14, .ref b15, .ref b16, .ref b17, .ref b18, .ref b19, .ref b20, .ref b21, .ref b22, .int 0, .ref b23, .ref b24, .ref mi, .int 0, .int 0, .int 0, .int 0, .int 0, .int 0, .int 0, .int 0, .int 0]))] := hD
  have hK : va_K (dC, dI) vcl [(ct, .char), (cj, .int)] s := hK
  refine W.widen (k := 1001) (n := 20006) (by omega) (by omega) ?_
  subst hw_
  refine lv_istore (lv' := [(6, .int 0), (5, .int 1), (4, .int 0), (3, .ref ob), (2, .ref y), (1, .ref x), (0, .ref b)]) hx hb d_L_law_141 hl (by decide) rfl (fun ls hl => ?_)
  refine lv_aload_n hx hb d_L_law_143 rfl (lv_at hl 4 rfl) ?_
  have hPc := hP.sub (ws' := [(y, .inr (10, [.int 1, .ref mt, .int 0, .ref b0, .ref b1, .int 0, .ref b2, .ref b3, .ref b4, .int 0, .int 1, .int 1, .ref b5, .int 0, .ref b6, .ref b7, .int 0, .ref b8, .ref b9, .ref b10, .ref b11, .ref b12, .ref b13, .ref b14, .ref b15, .ref b16, .ref b17, .ref b18, .ref b19, .ref b20, .ref b21, .ref b22, .int 0, .ref b23, .ref b24, .ref mi, .int 0, .int 0, .int 0, .int 0, .int 0, .int 0, .int 0, .int 0, .int 0]))]) [2] rfl
  have hDc := hD.sub (ws' := [(y, .inr (10, [.int 1, .ref mt, .int 0, .ref b0, .ref b1, .int 0, .ref b2, .ref b3, .ref b4, .int 0, .int 1, .int 1, .ref b5, .int 0, .ref b6, .ref b7, .int 0, .ref b8, .ref b9, .ref b10, .ref b11, .ref b12, .ref b13, .ref b14, .ref b15, .ref b16, .ref b17, .ref b18, .ref b19, .ref b20, .ref b21, .ref b22, .int 0, .ref b23, .ref b24, .ref mi, .int 0, .int 0, .int 0, .int 0, .int 0, .int 0, .int 0, .int 0, .int 0]))]) [2] (by decide) rfl
  have hKc := hK.sub (tys' := []) [] rfl
  have hFc := va_free (wc := [(y, .inr (10, [.int 1, .ref mt, .int 0, .ref b0, .ref b1, .int 0, .ref b2, .ref b3, .ref b4, .int 0, .int 1, .int 1, .ref b5, .int 0, .ref b6, .ref b7, .int 0, .ref b8, .ref b9, .ref b10, .ref b11, .ref b12, .ref b13, .ref b14, .ref b15, .ref b16, .ref b17, .ref b18, .ref b19, .ref b20, .ref b21, .ref b22, .int 0, .ref b23, .ref b24, .ref mi, .int 0, .int 0, .int 0, .int 0, .int 0, .int 0, .int 0, .int 0, .int 0]))]) hD hS hA [2] rfl
  refine va_calli (va_runV (C := "BigRunnerModel") (As := []) (rest := []) ⟨hx, hb, hml, hown, tb_nil⟩ (c_M_thrown l dC dI H.size y mt b0 b1 b2 b3 b4 b5 b6 b7 b8 b9 b10 b11 b12 b13 b14 b15 b16 b17 b18 b19 b20 b21 b22 b23 b24 mi 1 0 0 0 1 1 0 0 0 0 0 0 0 0 0 0 0 0) ⟨(callB_of 0 (tb_one (wd_1087 hB _)) tb_good1 rfl rfl rfl (wd_82 hB _) (wd_1084 hB _) (by decide +kernel) ⟨Nat.le_of_ble_eq_true rfl, Nat.le_of_ble_eq_true rfl⟩), (wd_1085 hB _), (wd_1086 hB _)⟩ ⟨fun a U g mk q => by obtain ⟨q0, q1, qB, qP, qK, qD⟩ := q; exact ⟨q0, q1, TB.same (s := U) (U := U.calling g mk a) rfl qB, qP, va_K.moved (u := U) (U := U.calling g mk a) (Vm.Alike.refl U.vm) qK, qD⟩, va_recv hK hP (q0 := 2) (ci := 10) rfl rfl, fun U hU hW => ⟨rfl, by rw [hU], hB.moved hW, by rw [hU]; exact hPc, va_K.moved hW.alike hKc, hDc.weaken (fun _ _ _ _ => trivial)⟩⟩ rfl rfl hl.1 rfl (lv_room (Nat.le_of_ble_eq_true rfl)) d_L_law_144 ⟨(Nat.le_of_ble_eq_true rfl), (Nat.le_of_ble_eq_true rfl)⟩) hS (fun q _ h => hFc q h) hFc (fun r_ u_ t H1 locs ht hvm hw_ hB1 hz1 hk1 hS => ?_)
  obtain ⟨hP1, hK1, hD1⟩ := hB1
  rw [ht] at hP1
  have hK1 := va_K.moved hvm.symm hK1
  try dsimp only at hw_
  obtain ⟨hP, hD⟩ := va_join (wr := [(mt, .inl (ct, 72, .inl (fun _ => 0))), (mi, .inl (cj, 20, .inl (fun _ => 0)))]) (w1 := []) hP hD [2] [0, 1] rfl rfl (by decide) (by decide) hk1 hFc hP1 hD1
  have hK := (hK.sub (tys' := [(ct, .char), (cj, .int)]) [0, 1] rfl).app hK1
  clear hk1 hFc hPc hDc hKc hP1 hD1 hK1 hz1 ht hvm
  generalize H1 = H at hP hS ⊢
  have hP : va_P (dC, dI) vcl [(mt, .inl (ct, 72, .inl (fun _ => 0))), (mi, .inl (cj, 20, .inl (fun _ => 0)))] H := hP
  have hD : va_D A [(mt, .inl (ct, 72, .inl (fun _ => 0))), (mi, .inl (cj, 20, .inl (fun _ => 0)))] := hD
  have hK : va_K (dC, dI) vcl [(ct, .char), (cj, .int)] s := hK
  refine W.widen (k := 1001) (n := 20006) (by omega) (by omega) ?_
  subst hw_
  refine lv_iload hx hb d_L_law_147 (lv_at hl 1 rfl) ?_
  refine lv_icmp_eq (tgt := 154) hx hb d_L_law_149 (by decide) (fun _ => ?_) (fun hq => absurd rfl hq)
  refine lv_iload hx hb d_L_law_154 (lv_at hl 1 rfl) ?_
  refine lv_if_ne (tgt := 171) hx hb d_L_law_156 (by decide) (fun _ => ?_) (fun hq => absurd hq (by decide))
  refine lv_goto (tgt := 524) hx hb d_L_law_171 (by decide) ?_
  exact law_524 hx hb hr hlocks hA2 hS (by omega) (by omega) hX hbl hbA (lv_sub hl [2, 6] rfl)
set_option maxHeartbeats 4000000 in
set_option maxRecDepth 100000 in
theorem law_c4 {p : Program} {l : Launch} {e : Env} {s : State} {m : MethodId} {below : List Frame} {meth : Method} {c : Code} {b : Nat} {xs : Nat → Int32} {A : Nat → Prop} {H : Heap} {locs : List Loc} {ls : Array Slot}  (dC : Nat → ClassId) (dI : Nat → Nat → Nat) (x : Nat) (ql : Nat) (cl : ClassId) (rd : Nat) (rn : Nat) (qt : Nat) (pr : Nat) (qs : Nat) (cs : ClassId) (fs : Nat → Option Nat) (q0 : Nat) (qn : Nat) (qv : Nat) (qi : Nat) (pn : Nat) (qi2 : Nat) (qm : Nat) (qw : Nat) (qh : Nat) (qd : Nat) (qk : Nat) (qr : Nat) (cr : ClassId) (y : Nat) (mt : Nat) (ct : ClassId) (mi : Nat) (cj : ClassId) (b0 : Nat) (b1 : Nat) (b2 : Nat) (b3 : Nat) (b4 : Nat) (b5 : Nat) (b6 : Nat) (b7 : Nat) (b8 : Nat) (b9 : Nat) (b10 : Nat) (b11 : Nat) (b12 : Nat) (b13 : Nat) (b14 : Nat) (b15 : Nat) (b16 : Nat) (b17 : Nat) (b18 : Nat) (b19 : Nat) (b20 : Nat) (b21 : Nat) (b22 : Nat) (b23 : Nat) (b24 : Nat) (ob : Nat) (hx : p.tables.exec = Jvm.exec) (hb : c.code = code) (hr : meth.sig.returnType = ret) (hlocks : meth.locks = false) (hA2 : ∀ q : Nat, A q → s.heap.size ≤ q) (hS : va_S A s.heap H locs)  (hX : va_X b 3 xs s s.heap) (hbl : b < s.heap.size) (hbA : ¬ A b) (hml : c.maxLocals = 8) (hown : s.vm.findClass "BigRunnerLaw" = some m.cls) (hB : TB s) (htr : l.stackTraces = false) (hZS : th_Z "UNASSIGNED_STACK" "[Ljava/lang/StackTraceElement;" A s s.heap) (hZL : th_Z "SUPPRESSED_SENTINEL" "Ljava/util/List;" A s s.heap) (hf : fs 0 = some q0) (hA : ∀ q : Nat, s.heap.size ≤ q → A q) (hl : lv_has ls 8 [(4, .int 0), (3, .ref ob), (2, .ref y), (1, .ref x), (0, .ref b)]) (hP : va_P (dC, dI) vcl [(x, .inr (0, [.ref ql, .int 0, .ref rd, .ref rn, .int 0])), (ql, .inl (cl, 72, .inl (fun _ => 0))), (rd, .inr (7, [.ref qt, .int 0, .int 0, .ref pr])), (pr, .inr (6, [.ref qs, .int 0, .ref qn, .int 0, .ref qv, .ref qi])), (qs, .inl (cs, 36, .inr (.inr (.inr (.inr (fs)))))), (q0, .inr (9, [.int 5, .int 0, .int 0, .int (-1), .int 0])), (rn, .inr (8, [.ref pn, .ref qi2, .int 0, .ref qm, .ref qw, .ref qh, .ref qd, .ref qk, .int 0, .int 0, .int 0, .int 0, .int 0])), (qi2, .inr (1, [.ref qr, .int 0, .int 0])), (qr, .inl (cr, 20, .inl (fun _ => 0))), (y, .inr (10, [.int 0, .ref mt, .int 0, .ref b0, .ref b1, .int 0, .ref b2, .ref b3, .ref b4, .int 0, .int 0, .int 0, .ref b5, .int 0, .ref b6, .ref b7, .int 0, .ref b8, .ref b9, .ref b10, .ref b11, .ref b12, .ref b13, .ref b14, .ref b15, .ref b16, .ref b17, .ref b18, .ref b19, .ref b20, .ref b21, .ref b22, .int 0, .ref b23, .ref b24, .ref mi, .int 0, .int 0, .int 0, .int 0, .int 0, .int 0, .int 0, .int 0, .int 0])), (mt, .inl (ct, 72, .inl (fun _ => 0))), (mi, .inl (cj, 20, .inl (fun _ => 0)))] H) (hD : va_D A [(x, .inr (0, [.ref ql, .int 0, .ref rd, .ref rn, .int 0])), (ql, .inl (cl, 72, .inl (fun _ => 0))), (rd, .inr (7, [.ref qt, .int 0, .int 0, .ref pr])), (pr, .inr (6, [.ref qs, .int 0, .ref qn, .int 0, .ref qv, .ref qi])), (qs, .inl (cs, 36, .inr (.inr (.inr (.inr (fs)))))), (q0, .inr (9, [.int 5, .int 0, .int 0, .int (-1), .int 0])), (rn, .inr (8, [.ref pn, .ref qi2, .int 0, .ref qm, .ref qw, .ref qh, .ref qd, .ref qk, .int 0, .int 0, .int 0, .int 0, .int 0])), (qi2, .inr (1, [.ref qr, .int 0, .int 0])), (qr, .inl (cr, 20, .inl (fun _ => 0))), (y, .inr (10, [.int 0, .ref mt, .int 0, .ref b0, .ref b1, .int 0, .ref b2, .ref b3, .ref b4, .int 0, .int 0, .int 0, .ref b5, .int 0, .ref b6, .ref b7, .int 0, .ref b8, .ref b9, .ref b10, .ref b11, .ref b12, .ref b13, .ref b14, .ref b15, .ref b16, .ref b17, .ref b18, .ref b19, .ref b20, .ref b21, .ref b22, .int 0, .ref b23, .ref b24, .ref mi, .int 0, .int 0, .int 0, .int 0, .int 0, .int 0, .int 0, .int 0, .int 0])), (mt, .inl (ct, 72, .inl (fun _ => 0))), (mi, .inl (cj, 20, .inl (fun _ => 0)))]) (hK : va_K (dC, dI) vcl [(cl, .char), (cs, (.object "BigRunner$Statement")), (cr, .int), (ct, .char), (cj, .int)] s) : W p l e room_1 s m #[Value.ref b] below meth c H locs 1000 20000 (lw_Z below #[Value.ref b] s) (F0 m 199 ls []) := by
  refine lv_aload_n hx hb d_L_law_199 rfl (lv_at hl 3 rfl) ?_
  refine lv_aload_n hx hb d_L_law_200 rfl (lv_at hl 4 rfl) ?_
  refine lv_iload hx hb d_L_law_201 (lv_at hl 0 rfl) ?_
  refine lv_iconst (v := 1) hx hb d_L_law_203 (by decide) ?_
  refine lv_iadd hx hb d_L_law_204 ?_
  refine lv_topi (fun z_ hz_ => ?_)
  have hz_ : z_ = 1 := hz_.trans (by decide)
  subst hz_
  refine va_sld hx hb hX hbl hbA hS (vp_in_nI (n := 1) (by decide) (by decide)) d_L_law_205 ?_
  refine W.eq (g2 := F0 m 206 ls [.int (xs 1), .ref x]) rfl ?_
  refine lv_aload_n hx hb d_L_law_206 rfl (lv_at hl 1 rfl) ?_
  have hPc := hP.sub (ws' := [(x, .inr (0, [.ref ql, .int 0, .ref rd, .ref rn, .int 0])), (ql, .inl (cl, 72, .inl (fun _ => 0))), (rd, .inr (7, [.ref qt, .int 0, .int 0, .ref pr])), (pr, .inr (6, [.ref qs, .int 0, .ref qn, .int 0, .ref qv, .ref qi])), (qs, .inl (cs, 36, .inr (.inr (.inr (.inr (fs)))))), (q0, .inr (9, [.int 5, .int 0, .int 0, .int (-1), .int 0])), (rn, .inr (8, [.ref pn, .ref qi2, .int 0, .ref qm, .ref qw, .ref qh, .ref qd, .ref qk, .int 0, .int 0, .int 0, .int 0, .int 0])), (qi2, .inr (1, [.ref qr, .int 0, .int 0])), (qr, .inl (cr, 20, .inl (fun _ => 0)))]) [0, 1, 2, 3, 4, 5, 6, 7, 8] rfl
  have hDc := hD.sub (ws' := [(x, .inr (0, [.ref ql, .int 0, .ref rd, .ref rn, .int 0])), (ql, .inl (cl, 72, .inl (fun _ => 0))), (rd, .inr (7, [.ref qt, .int 0, .int 0, .ref pr])), (pr, .inr (6, [.ref qs, .int 0, .ref qn, .int 0, .ref qv, .ref qi])), (qs, .inl (cs, 36, .inr (.inr (.inr (.inr (fs)))))), (q0, .inr (9, [.int 5, .int 0, .int 0, .int (-1), .int 0])), (rn, .inr (8, [.ref pn, .ref qi2, .int 0, .ref qm, .ref qw, .ref qh, .ref qd, .ref qk, .int 0, .int 0, .int 0, .int 0, .int 0])), (qi2, .inr (1, [.ref qr, .int 0, .int 0])), (qr, .inl (cr, 20, .inl (fun _ => 0)))]) [0, 1, 2, 3, 4, 5, 6, 7, 8] (by decide) rfl
  have hKc := hK.sub (tys' := [(cl, .char), (cs, (.object "BigRunner$Statement")), (cr, .int)]) [0, 1, 2] rfl
  have hFc := va_free (wc := [(x, .inr (0, [.ref ql, .int 0, .ref rd, .ref rn, .int 0])), (ql, .inl (cl, 72, .inl (fun _ => 0))), (rd, .inr (7, [.ref qt, .int 0, .int 0, .ref pr])), (pr, .inr (6, [.ref qs, .int 0, .ref qn, .int 0, .ref qv, .ref qi])), (qs, .inl (cs, 36, .inr (.inr (.inr (.inr (fs)))))), (q0, .inr (9, [.int 5, .int 0, .int 0, .int (-1), .int 0])), (rn, .inr (8, [.ref pn, .ref qi2, .int 0, .ref qm, .ref qw, .ref qh, .ref qd, .ref qk, .int 0, .int 0, .int 0, .int 0, .int 0])), (qi2, .inr (1, [.ref qr, .int 0, .int 0])), (qr, .inl (cr, 20, .inl (fun _ => 0)))]) hD hS hA [0, 1, 2, 3, 4, 5, 6, 7, 8] rfl
  have hZ1 := (hZS.kept (fun a h1 h2 => hS.2.1 a h1 h2)).narrow (B := fun _ => False) (fun _ h => h.elim)
  have hZ2 := (hZL.kept (fun a h1 h2 => hS.2.1 a h1 h2)).narrow (B := fun _ => False) (fun _ h => h.elim)
  refine va_calli (tw_runS (As := [.ref x, .int (xs 1), .ref ob]) (rest := []) (n := 3) hx hb hml hown (c_L_run l dC dI H.size x ql cl rd rn qt pr qs cs fs q0 qn qv qi pn qi2 qm qw qh qd qk qr cr ob (((xs 1))) htr) (wd_688 hB _) (wd_71 hB _) (wd_686 hB _) (wd_687 hB _) (by decide +kernel) ⟨Nat.le_of_ble_eq_true rfl, Nat.le_of_ble_eq_true rfl⟩ rfl rfl ⟨fun a U g mk q => by obtain ⟨q0, q1, qB, qH, qP, qK, qD⟩ := q; exact ⟨q0, q1, TB.same (s := U) (U := U.calling g mk a) rfl qB, TH.moved (s := U) (U := U.calling g mk a) (Vm.Alike.refl U.vm) rfl qH, qP, va_K.moved (u := U) (U := U.calling g mk a) (Vm.Alike.refl U.vm) qK, qD⟩, fun U hU hW => ⟨rfl, by rw [hU], hB.moved hW, by unfold TH; rw [hU]; exact ⟨hZ1.moved hW.alike, hZ2.moved hW.alike⟩, by rw [hU]; exact hPc, va_K.moved hW.alike hKc, hDc.weaken (fun _ _ _ _ => trivial)⟩⟩ rfl rfl hl.1 rfl (lv_room (Nat.le_of_ble_eq_true rfl)) d_L_law_207 ⟨Nat.le_of_ble_eq_true rfl, Nat.le_of_ble_eq_true rfl⟩) hS (fun q _ h => hFc q h) hFc (fun r_ u_ t H1 locs ht hvm hw_ hB1 hz1 hk1 hS => ?_)
  obtain ⟨hP1, hK1, hD1⟩ := hB1
  rw [ht] at hP1
  have hK1 := va_K.moved hvm.symm hK1
  try dsimp only at hw_
  obtain ⟨hP, hD⟩ := va_join (wr := [(y, .inr (10, [.int 0, .ref mt, .int 0, .ref b0, .ref b1, .int 0, .ref b2, .ref b3, .ref b4, .int 0, .int 0, .int 0, .ref b5, .int 0, .ref b6, .ref b7, .int 0, .ref b8, .ref b9, .ref b10, .ref b11, .ref b12, .ref b13, .ref b14, .ref b15, .ref b16, .ref b17, .ref b18, .ref b19, .ref b20, .ref b21, .ref b22, .int 0, .ref b23, .ref b24, .ref mi, .int 0, .int 0, .int 0, .int 0, .int 0, .int 0, .int 0, .int 0, .int 0])), (mt, .inl (ct, 72, .inl (fun _ => 0))), (mi, .inl (cj, 20, .inl (fun _ => 0)))]) (w1 := []) hP hD [0, 1, 2, 3, 4, 5, 6, 7, 8] [9, 10, 11] rfl rfl (by decide) (by decide) hk1 hFc hP1 hD1
  have hK := (hK.sub (tys' := [(ct, .char), (cj, .int)]) [3, 4] rfl).app hK1
  clear hk1 hFc hPc hDc hKc hP1 hD1 hK1 hz1 ht hvm
  generalize H1 = H at hP hS ⊢
  have hP : va_P (dC, dI) vcl [(y, .inr (10, [.int 0, .ref mt, .int 0, .ref b0, .ref b1, .int 0, .ref b2, .ref b3, .ref b4, .int 0, .int 0, .int 0, .ref b5, .int 0, .ref b6, .ref b7, .int 0, .ref b8, .ref b9, .ref b10, .ref b11, .ref b12, .ref b13, .ref b14, .ref b15, .ref b16, .ref b17, .ref b18, .ref b19, .ref b20, .ref b21, .ref b22, .int 0, .ref b23, .ref b24, .ref mi, .int 0, .int 0, .int 0, .int 0, .int 0, .int 0, .int 0, .int 0, .int 0])), (mt, .inl (ct, 72, .inl (fun _ => 0))), (mi, .inl (cj, 20, .inl (fun _ => 0)))] H := hP
  have hD : va_D A [(y, .inr (10, [.int 0, .ref mt, .int 0, .ref b0, .ref b1, .int 0, .ref b2, .ref b3, .ref b4, .int 0, .int 0, .int 0, .ref b5, .int 0, .ref b6, .ref b7, .int 0, .ref b8, .ref b9, .ref b10, .ref b11, .ref b12, .ref b13, .ref b14, .ref b15, .ref b16, .ref b17, .ref b18, .ref b19, .ref b20, .ref b21, .ref b22, .int 0, .ref b23, .ref b24, .ref mi, .int 0, .int 0, .int 0, .int 0, .int 0, .int 0, .int 0, .int 0, .int 0])), (mt, .inl (ct, 72, .inl (fun _ => 0))), (mi, .inl (cj, 20, .inl (fun _ => 0)))] := hD
  have hK : va_K (dC, dI) vcl [(ct, .char), (cj, .int)] s := hK
  refine W.widen (k := 1001) (n := 20006) (by omega) (by omega) ?_
  subst hw_
  refine lv_istore (lv' := [(5, .int 1), (4, .int 0), (3, .ref ob), (2, .ref y), (1, .ref x), (0, .ref b)]) hx hb d_L_law_210 hl (by decide) rfl (fun ls hl => ?_)
  refine lv_aload_n hx hb d_L_law_212 rfl (lv_at hl 3 rfl) ?_
  refine lv_aload_n hx hb d_L_law_213 rfl (lv_at hl 5 rfl) ?_
  refine lv_iload hx hb d_L_law_214 (lv_at hl 1 rfl) ?_
  refine lv_iconst (v := 1) hx hb d_L_law_216 (by decide) ?_
  refine lv_iadd hx hb d_L_law_217 ?_
  refine lv_topi (fun z_ hz_ => ?_)
  have hz_ : z_ = 1 := hz_.trans (by decide)
  subst hz_
  refine va_sld hx hb hX hbl hbA hS (vp_in_nI (n := 1) (by decide) (by decide)) d_L_law_218 ?_
  refine W.eq (g2 := F0 m 219 ls [.int (xs 1), .ref y]) rfl ?_
  have hPc := hP.sub (ws' := [(y, .inr (10, [.int 0, .ref mt, .int 0, .ref b0, .ref b1, .int 0, .ref b2, .ref b3, .ref b4, .int 0, .int 0, .int 0, .ref b5, .int 0, .ref b6, .ref b7, .int 0, .ref b8, .ref b9, .ref b10, .ref b11, .ref b12, .ref b13, .ref b14, .ref b15, .ref b16, .ref b17, .ref b18, .ref b19, .ref b20, .ref b21, .ref b22, .int 0, .ref b23, .ref b24, .ref mi, .int 0, .int 0, .int 0, .int 0, .int 0, .int 0, .int 0, .int 0, .int 0]))]) [0] rfl
  have hDc := hD.sub (ws' := [(y, .inr (10, [.int 0, .ref mt, .int 0, .ref b0, .ref b1, .int 0, .ref b2, .ref b3, .ref b4, .int 0, .int 0, .int 0, .ref b5, .int 0, .ref b6, .ref b7, .int 0, .ref b8, .ref b9, .ref b10, .ref b11, .ref b12, .ref b13, .ref b14, .ref b15, .ref b16, .ref b17, .ref b18, .ref b19, .ref b20, .ref b21, .ref b22, .int 0, .ref b23, .ref b24, .ref mi, .int 0, .int 0, .int 0, .int 0, .int 0, .int 0, .int 0, .int 0, .int 0]))]) [0] (by decide) rfl
  have hKc := hK.sub (tys' := []) [] rfl
  have hFc := va_free (wc := [(y, .inr (10, [.int 0, .ref mt, .int 0, .ref b0, .ref b1, .int 0, .ref b2, .ref b3, .ref b4, .int 0, .int 0, .int 0, .ref b5, .int 0, .ref b6, .ref b7, .int 0, .ref b8, .ref b9, .ref b10, .ref b11, .ref b12, .ref b13, .ref b14, .ref b15, .ref b16, .ref b17, .ref b18, .ref b19, .ref b20, .ref b21, .ref b22, .int 0, .ref b23, .ref b24, .ref mi, .int 0, .int 0, .int 0, .int 0, .int 0, .int 0, .int 0, .int 0, .int 0]))]) hD hS hA [0] rfl
  refine va_calli (va_runV (C := "BigRunnerModel") (As := [.int (xs 1)]) (rest := []) ⟨hx, hb, hml, hown, tb_nil⟩ (c_M_run l dC dI H.size y mt ct mi cj b0 b1 b2 b3 b4 b5 b6 b7 b8 b9 b10 b11 b12 b13 b14 b15 b16 b17 b18 b19 b20 b21 b22 b23 b24 (((xs 1)))) ⟨(callB_of 1 (tb_one (wd_1199 hB _)) tb_good1 rfl rfl rfl (wd_82 hB _) (wd_1196 hB _) (by decide +kernel) ⟨Nat.le_of_ble_eq_true rfl, Nat.le_of_ble_eq_true rfl⟩), (wd_1197 hB _), (wd_1198 hB _)⟩ ⟨fun a U g mk q => by obtain ⟨q0, q1, qB, qP, qK, qD⟩ := q; exact ⟨q0, q1, TB.same (s := U) (U := U.calling g mk a) rfl qB, qP, va_K.moved (u := U) (U := U.calling g mk a) (Vm.Alike.refl U.vm) qK, qD⟩, va_recv hK hP (q0 := 0) (ci := 10) rfl rfl, fun U hU hW => ⟨rfl, by rw [hU], hB.moved hW, by rw [hU]; exact hPc, va_K.moved hW.alike hKc, hDc.weaken (fun _ _ _ _ => trivial)⟩⟩ rfl rfl hl.1 rfl (lv_room (Nat.le_of_ble_eq_true rfl)) d_L_law_219 ⟨(Nat.le_of_ble_eq_true rfl), (Nat.le_of_ble_eq_true rfl)⟩) hS (fun q _ h => hFc q h) hFc (fun r_ u_ t H1 locs ht hvm hw_ hB1 hz1 hk1 hS => ?_)
  obtain ⟨hP1, hK1, hD1⟩ := hB1
  rw [ht] at hP1
  have hK1 := va_K.moved hvm.symm hK1
  try dsimp only at hw_
  obtain ⟨hP, hD⟩ := va_join (wr := [(mt, .inl (ct, 72, .inl (fun _ => 0))), (mi, .inl (cj, 20, .inl (fun _ => 0)))]) (w1 := [(y, .inr (10, [.int 1, .ref mt, .int 0, .ref b0, .ref b1, .int 0, .ref b2, .ref b3, .ref b4, .int 0, .int 0, .int 0, .ref b5, .int 0, .ref b6, .ref b7, .int 0, .ref b8, .ref b9, .ref b10, .ref b11, .ref b12, .ref b13, .ref b14, .ref b15, .ref b16, .ref b17, .ref b18, .ref b19, .ref b20, .ref b21, .ref b22, .int 0, .ref b23, .ref b24, .ref mi, .int 0, .int 0, .int 0, .int 0, .int 0, .int 0, .int 0, .int 0, .int 0]))]) hP hD [0] [1, 2] rfl rfl (by decide) (by decide) hk1 hFc hP1 hD1
  have hK := (hK.sub (tys' := [(ct, .char), (cj, .int)]) [0, 1] rfl).app hK1
  clear hk1 hFc hPc hDc hKc hP1 hD1 hK1 hz1 ht hvm
  generalize H1 = H at hP hS ⊢
  have hP : va_P (dC, dI) vcl [(mt, .inl (ct, 72, .inl (fun _ => 0))), (mi, .inl (cj, 20, .inl (fun _ => 0))), (y, .inr (10, [.int 1, .ref mt, .int 0, .ref b0, .ref b1, .int 0, .ref b2, .ref b3, .ref b4, .int 0, .int 0, .int 0, .ref b5, .int 0, .ref b6, .ref b7, .int 0, .ref b8, .ref b9, .ref b10, .ref b11, .ref b12, .ref b13, .ref b14, .ref b15, .ref b16, .ref b17, .ref b18, .ref b19, .ref b20, .ref b21, .ref b22, .int 0, .ref b23, .ref b24, .ref mi, .int 0, .int 0, .int 0, .int 0, .int 0, .int 0, .int 0, .int 0, .int 0]))] H := hP
  have hD : va_D A [(mt, .inl (ct, 72, .inl (fun _ => 0))), (mi, .inl (cj, 20, .inl (fun _ => 0))), (y, .inr (10, [.int 1, .ref mt, .int 0, .ref b0, .ref b1, .int 0, .ref b2, .ref b3, .ref b4, .int 0, .int 0, .int 0, .ref b5, .int 0, .ref b6, .ref b7, .int 0, .ref b8, .ref b9, .ref b10, .ref b11, .ref b12, .ref b13, .ref b14, .ref b15, .ref b16, .ref b17, .ref b18, .ref b19, .ref b20, .ref b21, .ref b22, .int 0, .ref b23, .ref b24, .ref mi, .int 0, .int 0, .int 0, .int 0, .int 0, .int 0, .int 0, .int 0, .int 0]))] := hD
  have hK : va_K (dC, dI) vcl [(ct, .char), (cj, .int)] s := hK
  refine W.widen (k := 1001) (n := 20006) (by omega) (by omega) ?_
  subst hw_
  refine lv_istore (lv' := [(6, .int 0), (5, .int 1), (4, .int 0), (3, .ref ob), (2, .ref y), (1, .ref x), (0, .ref b)]) hx hb d_L_law_222 hl (by decide) rfl (fun ls hl => ?_)
  refine lv_aload_n hx hb d_L_law_224 rfl (lv_at hl 4 rfl) ?_
  have hPc := hP.sub (ws' := [(y, .inr (10, [.int 1, .ref mt, .int 0, .ref b0, .ref b1, .int 0, .ref b2, .ref b3, .ref b4, .int 0, .int 0, .int 0, .ref b5, .int 0, .ref b6, .ref b7, .int 0, .ref b8, .ref b9, .ref b10, .ref b11, .ref b12, .ref b13, .ref b14, .ref b15, .ref b16, .ref b17, .ref b18, .ref b19, .ref b20, .ref b21, .ref b22, .int 0, .ref b23, .ref b24, .ref mi, .int 0, .int 0, .int 0, .int 0, .int 0, .int 0, .int 0, .int 0, .int 0]))]) [2] rfl
  have hDc := hD.sub (ws' := [(y, .inr (10, [.int 1, .ref mt, .int 0, .ref b0, .ref b1, .int 0, .ref b2, .ref b3, .ref b4, .int 0, .int 0, .int 0, .ref b5, .int 0, .ref b6, .ref b7, .int 0, .ref b8, .ref b9, .ref b10, .ref b11, .ref b12, .ref b13, .ref b14, .ref b15, .ref b16, .ref b17, .ref b18, .ref b19, .ref b20, .ref b21, .ref b22, .int 0, .ref b23, .ref b24, .ref mi, .int 0, .int 0, .int 0, .int 0, .int 0, .int 0, .int 0, .int 0, .int 0]))]) [2] (by decide) rfl
  have hKc := hK.sub (tys' := []) [] rfl
  have hFc := va_free (wc := [(y, .inr (10, [.int 1, .ref mt, .int 0, .ref b0, .ref b1, .int 0, .ref b2, .ref b3, .ref b4, .int 0, .int 0, .int 0, .ref b5, .int 0, .ref b6, .ref b7, .int 0, .ref b8, .ref b9, .ref b10, .ref b11, .ref b12, .ref b13, .ref b14, .ref b15, .ref b16, .ref b17, .ref b18, .ref b19, .ref b20, .ref b21, .ref b22, .int 0, .ref b23, .ref b24, .ref mi, .int 0, .int 0, .int 0, .int 0, .int 0, .int 0, .int 0, .int 0, .int 0]))]) hD hS hA [2] rfl
  refine va_calli (va_runV (C := "BigRunnerModel") (As := []) (rest := []) ⟨hx, hb, hml, hown, tb_nil⟩ (c_M_thrown l dC dI H.size y mt b0 b1 b2 b3 b4 b5 b6 b7 b8 b9 b10 b11 b12 b13 b14 b15 b16 b17 b18 b19 b20 b21 b22 b23 b24 mi 1 0 0 0 0 0 0 0 0 0 0 0 0 0 0 0 0 0) ⟨(callB_of 0 (tb_one (wd_1087 hB _)) tb_good1 rfl rfl rfl (wd_82 hB _) (wd_1084 hB _) (by decide +kernel) ⟨Nat.le_of_ble_eq_true rfl, Nat.le_of_ble_eq_true rfl⟩), (wd_1085 hB _), (wd_1086 hB _)⟩ ⟨fun a U g mk q => by obtain ⟨q0, q1, qB, qP, qK, qD⟩ := q; exact ⟨q0, q1, TB.same (s := U) (U := U.calling g mk a) rfl qB, qP, va_K.moved (u := U) (U := U.calling g mk a) (Vm.Alike.refl U.vm) qK, qD⟩, va_recv hK hP (q0 := 2) (ci := 10) rfl rfl, fun U hU hW => ⟨rfl, by rw [hU], hB.moved hW, by rw [hU]; exact hPc, va_K.moved hW.alike hKc, hDc.weaken (fun _ _ _ _ => trivial)⟩⟩ rfl rfl hl.1 rfl (lv_room (Nat.le_of_ble_eq_true rfl)) d_L_law_225 ⟨(Nat.le_of_ble_eq_true rfl), (Nat.le_of_ble_eq_true rfl)⟩) hS (fun q _ h => hFc q h) hFc (fun r_ u_ t H1 locs ht hvm hw_ hB1 hz1 hk1 hS => ?_)
  obtain ⟨hP1, hK1, hD1⟩ := hB1
  rw [ht] at hP1
  have hK1 := va_K.moved hvm.symm hK1
  try dsimp only at hw_
  obtain ⟨hP, hD⟩ := va_join (wr := [(mt, .inl (ct, 72, .inl (fun _ => 0))), (mi, .inl (cj, 20, .inl (fun _ => 0)))]) (w1 := []) hP hD [2] [0, 1] rfl rfl (by decide) (by decide) hk1 hFc hP1 hD1
  have hK := (hK.sub (tys' := [(ct, .char), (cj, .int)]) [0, 1] rfl).app hK1
  clear hk1 hFc hPc hDc hKc hP1 hD1 hK1 hz1 ht hvm
  generalize H1 = H at hP hS ⊢
  have hP : va_P (dC, dI) vcl [(mt, .inl (ct, 72, .inl (fun _ => 0))), (mi, .inl (cj, 20, .inl (fun _ => 0)))] H := hP
  have hD : va_D A [(mt, .inl (ct, 72, .inl (fun _ => 0))), (mi, .inl (cj, 20, .inl (fun _ => 0)))] := hD
  have hK : va_K (dC, dI) vcl [(ct, .char), (cj, .int)] s := hK
  refine W.widen (k := 1001) (n := 20006) (by omega) (by omega) ?_
  subst hw_
  refine lv_iload hx hb d_L_law_228 (lv_at hl 1 rfl) ?_
  refine lv_icmp_eq (tgt := 235) hx hb d_L_law_230 (by decide) (fun _ => ?_) (fun hq => absurd rfl hq)
  refine lv_iload hx hb d_L_law_235 (lv_at hl 1 rfl) ?_
  refine lv_if_ne (tgt := 252) hx hb d_L_law_237 (by decide) (fun _ => ?_) (fun hq => absurd hq (by decide))
  refine lv_goto (tgt := 524) hx hb d_L_law_252 (by decide) ?_
  exact law_524 hx hb hr hlocks hA2 hS (by omega) (by omega) hX hbl hbA (lv_sub hl [2, 6] rfl)
set_option maxHeartbeats 4000000 in
set_option maxRecDepth 100000 in
theorem law_c8 {p : Program} {l : Launch} {e : Env} {s : State} {m : MethodId} {below : List Frame} {meth : Method} {c : Code} {b : Nat} {xs : Nat → Int32} {A : Nat → Prop} {H : Heap} {locs : List Loc} {ls : Array Slot}  (dC : Nat → ClassId) (dI : Nat → Nat → Nat) (x : Nat) (ql : Nat) (cl : ClassId) (rd : Nat) (rn : Nat) (qt : Nat) (pr : Nat) (qs : Nat) (cs : ClassId) (fs : Nat → Option Nat) (q0 : Nat) (qn : Nat) (qv : Nat) (qi : Nat) (pn : Nat) (qi2 : Nat) (qm : Nat) (qw : Nat) (qh : Nat) (qd : Nat) (qk : Nat) (qr : Nat) (cr : ClassId) (y : Nat) (mt : Nat) (ct : ClassId) (mi : Nat) (cj : ClassId) (b0 : Nat) (b1 : Nat) (b2 : Nat) (b3 : Nat) (b4 : Nat) (b5 : Nat) (b6 : Nat) (b7 : Nat) (b8 : Nat) (b9 : Nat) (b10 : Nat) (b11 : Nat) (b12 : Nat) (b13 : Nat) (b14 : Nat) (b15 : Nat) (b16 : Nat) (b17 : Nat) (b18 : Nat) (b19 : Nat) (b20 : Nat) (b21 : Nat) (b22 : Nat) (b23 : Nat) (b24 : Nat) (ob : Nat) (hx : p.tables.exec = Jvm.exec) (hb : c.code = code) (hr : meth.sig.returnType = ret) (hlocks : meth.locks = false) (hA2 : ∀ q : Nat, A q → s.heap.size ≤ q) (hS : va_S A s.heap H locs)  (hX : va_X b 3 xs s s.heap) (hbl : b < s.heap.size) (hbA : ¬ A b) (hml : c.maxLocals = 8) (hown : s.vm.findClass "BigRunnerLaw" = some m.cls) (hB : TB s) (htr : l.stackTraces = false) (hZS : th_Z "UNASSIGNED_STACK" "[Ljava/lang/StackTraceElement;" A s s.heap) (hZL : th_Z "SUPPRESSED_SENTINEL" "Ljava/util/List;" A s s.heap) (hf : fs 0 = some q0) (hA : ∀ q : Nat, s.heap.size ≤ q → A q) (hl : lv_has ls 8 [(4, .int 0), (3, .ref ob), (2, .ref y), (1, .ref x), (0, .ref b)]) (hP : va_P (dC, dI) vcl [(x, .inr (0, [.ref ql, .int 0, .ref rd, .ref rn, .int 0])), (ql, .inl (cl, 72, .inl (fun _ => 0))), (rd, .inr (7, [.ref qt, .int 0, .int 0, .ref pr])), (pr, .inr (6, [.ref qs, .int 0, .ref qn, .int 0, .ref qv, .ref qi])), (qs, .inl (cs, 36, .inr (.inr (.inr (.inr (fs)))))), (q0, .inr (9, [.int 5, .int 0, .int 0, .int (-1), .int 0])), (rn, .inr (8, [.ref pn, .ref qi2, .int 0, .ref qm, .ref qw, .ref qh, .ref qd, .ref qk, .int 0, .int 0, .int 0, .int 0, .int 0])), (qi2, .inr (1, [.ref qr, .int 0, .int 0])), (qr, .inl (cr, 20, .inl (fun _ => 0))), (y, .inr (10, [.int 0, .ref mt, .int 0, .ref b0, .ref b1, .int 0, .ref b2, .ref b3, .ref b4, .int 0, .int 0, .int 0, .ref b5, .int 0, .ref b6, .ref b7, .int 0, .ref b8, .ref b9, .ref b10, .ref b11, .ref b12, .ref b13, .ref b14, .ref b15, .ref b16, .ref b17, .ref b18, .ref b19, .ref b20, .ref b21, .ref b22, .int 0, .ref b23, .ref b24, .ref mi, .int 0, .int 0, .int 0, .int 0, .int 0, .int 0, .int 0, .int 0, .int 0])), (mt, .inl (ct, 72, .inl (fun _ => 0))), (mi, .inl (cj, 20, .inl (fun _ => 0)))] H) (hD : va_D A [(x, .inr (0, [.ref ql, .int 0, .ref rd, .ref rn, .int 0])), (ql, .inl (cl, 72, .inl (fun _ => 0))), (rd, .inr (7, [.ref qt, .int 0, .int 0, .ref pr])), (pr, .inr (6, [.ref qs, .int 0, .ref qn, .int 0, .ref qv, .ref qi])), (qs, .inl (cs, 36, .inr (.inr (.inr (.inr (fs)))))), (q0, .inr (9, [.int 5, .int 0, .int 0, .int (-1), .int 0])), (rn, .inr (8, [.ref pn, .ref qi2, .int 0, .ref qm, .ref qw, .ref qh, .ref qd, .ref qk, .int 0, .int 0, .int 0, .int 0, .int 0])), (qi2, .inr (1, [.ref qr, .int 0, .int 0])), (qr, .inl (cr, 20, .inl (fun _ => 0))), (y, .inr (10, [.int 0, .ref mt, .int 0, .ref b0, .ref b1, .int 0, .ref b2, .ref b3, .ref b4, .int 0, .int 0, .int 0, .ref b5, .int 0, .ref b6, .ref b7, .int 0, .ref b8, .ref b9, .ref b10, .ref b11, .ref b12, .ref b13, .ref b14, .ref b15, .ref b16, .ref b17, .ref b18, .ref b19, .ref b20, .ref b21, .ref b22, .int 0, .ref b23, .ref b24, .ref mi, .int 0, .int 0, .int 0, .int 0, .int 0, .int 0, .int 0, .int 0, .int 0])), (mt, .inl (ct, 72, .inl (fun _ => 0))), (mi, .inl (cj, 20, .inl (fun _ => 0)))]) (hK : va_K (dC, dI) vcl [(cl, .char), (cs, (.object "BigRunner$Statement")), (cr, .int), (ct, .char), (cj, .int)] s) : W p l e room_1 s m #[Value.ref b] below meth c H locs 1000 20000 (lw_Z below #[Value.ref b] s) (F0 m 388 ls []) := by
  refine lv_aload_n hx hb d_L_law_388 rfl (lv_at hl 3 rfl) ?_
  refine lv_aload_n hx hb d_L_law_389 rfl (lv_at hl 4 rfl) ?_
  refine lv_iload hx hb d_L_law_390 (lv_at hl 0 rfl) ?_
  refine lv_iconst (v := 1) hx hb d_L_law_392 (by decide) ?_
  refine lv_iadd hx hb d_L_law_393 ?_
  refine lv_topi (fun z_ hz_ => ?_)
  have hz_ : z_ = 1 := hz_.trans (by decide)
  subst hz_
  refine va_sld hx hb hX hbl hbA hS (vp_in_nI (n := 1) (by decide) (by decide)) d_L_law_394 ?_
  refine W.eq (g2 := F0 m 395 ls [.int (xs 1), .ref x]) rfl ?_
  refine lv_aload_n hx hb d_L_law_395 rfl (lv_at hl 4 rfl) ?_
  refine lv_iload hx hb d_L_law_396 (lv_at hl 0 rfl) ?_
  refine lv_iconst (v := 2) hx hb d_L_law_398 (by decide) ?_
  refine lv_iadd hx hb d_L_law_399 ?_
  refine lv_topi (fun z_ hz_ => ?_)
  have hz_ : z_ = 2 := hz_.trans (by decide)
  subst hz_
  refine va_sld hx hb hX hbl hbA hS (vp_in_nI (n := 2) (by decide) (by decide)) d_L_law_400 ?_
  refine W.eq (g2 := F0 m 401 ls [.int (xs 2), .int (xs 1), .ref x]) rfl ?_
  refine lv_aload_n hx hb d_L_law_401 rfl (lv_at hl 1 rfl) ?_
  have hPc := hP.sub (ws' := [(x, .inr (0, [.ref ql, .int 0, .ref rd, .ref rn, .int 0])), (ql, .inl (cl, 72, .inl (fun _ => 0))), (rd, .inr (7, [.ref qt, .int 0, .int 0, .ref pr])), (pr, .inr (6, [.ref qs, .int 0, .ref qn, .int 0, .ref qv, .ref qi])), (qs, .inl (cs, 36, .inr (.inr (.inr (.inr (fs)))))), (q0, .inr (9, [.int 5, .int 0, .int 0, .int (-1), .int 0])), (rn, .inr (8, [.ref pn, .ref qi2, .int 0, .ref qm, .ref qw, .ref qh, .ref qd, .ref qk, .int 0, .int 0, .int 0, .int 0, .int 0])), (qi2, .inr (1, [.ref qr, .int 0, .int 0])), (qr, .inl (cr, 20, .inl (fun _ => 0)))]) [0, 1, 2, 3, 4, 5, 6, 7, 8] rfl
  have hDc := hD.sub (ws' := [(x, .inr (0, [.ref ql, .int 0, .ref rd, .ref rn, .int 0])), (ql, .inl (cl, 72, .inl (fun _ => 0))), (rd, .inr (7, [.ref qt, .int 0, .int 0, .ref pr])), (pr, .inr (6, [.ref qs, .int 0, .ref qn, .int 0, .ref qv, .ref qi])), (qs, .inl (cs, 36, .inr (.inr (.inr (.inr (fs)))))), (q0, .inr (9, [.int 5, .int 0, .int 0, .int (-1), .int 0])), (rn, .inr (8, [.ref pn, .ref qi2, .int 0, .ref qm, .ref qw, .ref qh, .ref qd, .ref qk, .int 0, .int 0, .int 0, .int 0, .int 0])), (qi2, .inr (1, [.ref qr, .int 0, .int 0])), (qr, .inl (cr, 20, .inl (fun _ => 0)))]) [0, 1, 2, 3, 4, 5, 6, 7, 8] (by decide) rfl
  have hKc := hK.sub (tys' := [(cl, .char), (cs, (.object "BigRunner$Statement")), (cr, .int)]) [0, 1, 2] rfl
  have hFc := va_free (wc := [(x, .inr (0, [.ref ql, .int 0, .ref rd, .ref rn, .int 0])), (ql, .inl (cl, 72, .inl (fun _ => 0))), (rd, .inr (7, [.ref qt, .int 0, .int 0, .ref pr])), (pr, .inr (6, [.ref qs, .int 0, .ref qn, .int 0, .ref qv, .ref qi])), (qs, .inl (cs, 36, .inr (.inr (.inr (.inr (fs)))))), (q0, .inr (9, [.int 5, .int 0, .int 0, .int (-1), .int 0])), (rn, .inr (8, [.ref pn, .ref qi2, .int 0, .ref qm, .ref qw, .ref qh, .ref qd, .ref qk, .int 0, .int 0, .int 0, .int 0, .int 0])), (qi2, .inr (1, [.ref qr, .int 0, .int 0])), (qr, .inl (cr, 20, .inl (fun _ => 0)))]) hD hS hA [0, 1, 2, 3, 4, 5, 6, 7, 8] rfl
  have hZ1 := (hZS.kept (fun a h1 h2 => hS.2.1 a h1 h2)).narrow (B := fun _ => False) (fun _ h => h.elim)
  have hZ2 := (hZL.kept (fun a h1 h2 => hS.2.1 a h1 h2)).narrow (B := fun _ => False) (fun _ h => h.elim)
  refine va_calli (tw_runS (As := [.ref x, .int (xs 1), .int (xs 2), .ref ob]) (rest := []) (n := 4) hx hb hml hown (c_L_variable l dC dI H.size x ql cl rd rn qt pr qs cs fs q0 qn qv qi pn qi2 qm qw qh qd qk qr cr ob (((xs 1))) (((xs 2))) htr) (wd_908 hB _) (wd_71 hB _) (wd_906 hB _) (wd_907 hB _) (by decide +kernel) ⟨Nat.le_of_ble_eq_true rfl, Nat.le_of_ble_eq_true rfl⟩ rfl rfl ⟨fun a U g mk q => by obtain ⟨q0, q1, qB, qH, qP, qK, qD⟩ := q; exact ⟨q0, q1, TB.same (s := U) (U := U.calling g mk a) rfl qB, TH.moved (s := U) (U := U.calling g mk a) (Vm.Alike.refl U.vm) rfl qH, qP, va_K.moved (u := U) (U := U.calling g mk a) (Vm.Alike.refl U.vm) qK, qD⟩, fun U hU hW => ⟨rfl, by rw [hU], hB.moved hW, by unfold TH; rw [hU]; exact ⟨hZ1.moved hW.alike, hZ2.moved hW.alike⟩, by rw [hU]; exact hPc, va_K.moved hW.alike hKc, hDc.weaken (fun _ _ _ _ => trivial)⟩⟩ rfl rfl hl.1 rfl (lv_room (Nat.le_of_ble_eq_true rfl)) d_L_law_402 ⟨Nat.le_of_ble_eq_true rfl, Nat.le_of_ble_eq_true rfl⟩) hS (fun q _ h => hFc q h) hFc (fun r_ u_ t H1 locs ht hvm hw_ hB1 hz1 hk1 hS => ?_)
  obtain ⟨hP1, hK1, hD1⟩ := hB1
  rw [ht] at hP1
  have hK1 := va_K.moved hvm.symm hK1
  try dsimp only at hw_
  obtain ⟨hP, hD⟩ := va_join (wr := [(y, .inr (10, [.int 0, .ref mt, .int 0, .ref b0, .ref b1, .int 0, .ref b2, .ref b3, .ref b4, .int 0, .int 0, .int 0, .ref b5, .int 0, .ref b6, .ref b7, .int 0, .ref b8, .ref b9, .ref b10, .ref b11, .ref b12, .ref b13, .ref b14, .ref b15, .ref b16, .ref b17, .ref b18, .ref b19, .ref b20, .ref b21, .ref b22, .int 0, .ref b23, .ref b24, .ref mi, .int 0, .int 0, .int 0, .int 0, .int 0, .int 0, .int 0, .int 0, .int 0])), (mt, .inl (ct, 72, .inl (fun _ => 0))), (mi, .inl (cj, 20, .inl (fun _ => 0)))]) (w1 := []) hP hD [0, 1, 2, 3, 4, 5, 6, 7, 8] [9, 10, 11] rfl rfl (by decide) (by decide) hk1 hFc hP1 hD1
  have hK := (hK.sub (tys' := [(ct, .char), (cj, .int)]) [3, 4] rfl).app hK1
  clear hk1 hFc hPc hDc hKc hP1 hD1 hK1 hz1 ht hvm
  generalize H1 = H at hP hS ⊢
  have hP : va_P (dC, dI) vcl [(y, .inr (10, [.int 0, .ref mt, .int 0, .ref b0, .ref b1, .int 0, .ref b2, .ref b3, .ref b4, .int 0, .int 0, .int 0, .ref b5, .int 0, .ref b6, .ref b7, .int 0, .ref b8, .ref b9, .ref b10, .ref b11, .ref b12, .ref b13, .ref b14, .ref b15, .ref b16, .ref b17, .ref b18, .ref b19, .ref b20, .ref b21, .ref b22, .int 0, .ref b23, .ref b24, .ref mi, .int 0, .int 0, .int 0, .int 0, .int 0, .int 0, .int 0, .int 0, .int 0])), (mt, .inl (ct, 72, .inl (fun _ => 0))), (mi, .inl (cj, 20, .inl (fun _ => 0)))] H := hP
  have hD : va_D A [(y, .inr (10, [.int 0, .ref mt, .int 0, .ref b0, .ref b1, .int 0, .ref b2, .ref b3, .ref b4, .int 0, .int 0, .int 0, .ref b5, .int 0, .ref b6, .ref b7, .int 0, .ref b8, .ref b9, .ref b10, .ref b11, .ref b12, .ref b13, .ref b14, .ref b15, .ref b16, .ref b17, .ref b18, .ref b19, .ref b20, .ref b21, .ref b22, .int 0, .ref b23, .ref b24, .ref mi, .int 0, .int 0, .int 0, .int 0, .int 0, .int 0, .int 0, .int 0, .int 0])), (mt, .inl (ct, 72, .inl (fun _ => 0))), (mi, .inl (cj, 20, .inl (fun _ => 0)))] := hD
  have hK : va_K (dC, dI) vcl [(ct, .char), (cj, .int)] s := hK
  refine W.widen (k := 1001) (n := 20006) (by omega) (by omega) ?_
  subst hw_
  refine lv_istore (lv' := [(5, .int 1), (4, .int 0), (3, .ref ob), (2, .ref y), (1, .ref x), (0, .ref b)]) hx hb d_L_law_405 hl (by decide) rfl (fun ls hl => ?_)
  refine lv_aload_n hx hb d_L_law_407 rfl (lv_at hl 3 rfl) ?_
  refine lv_aload_n hx hb d_L_law_408 rfl (lv_at hl 5 rfl) ?_
  refine lv_iload hx hb d_L_law_409 (lv_at hl 1 rfl) ?_
  refine lv_iconst (v := 1) hx hb d_L_law_411 (by decide) ?_
  refine lv_iadd hx hb d_L_law_412 ?_
  refine lv_topi (fun z_ hz_ => ?_)
  have hz_ : z_ = 1 := hz_.trans (by decide)
  subst hz_
  refine va_sld hx hb hX hbl hbA hS (vp_in_nI (n := 1) (by decide) (by decide)) d_L_law_413 ?_
  refine W.eq (g2 := F0 m 414 ls [.int (xs 1), .ref y]) rfl ?_
  refine lv_aload_n hx hb d_L_law_414 rfl (lv_at hl 5 rfl) ?_
  refine lv_iload hx hb d_L_law_415 (lv_at hl 1 rfl) ?_
  refine lv_iconst (v := 2) hx hb d_L_law_417 (by decide) ?_
  refine lv_iadd hx hb d_L_law_418 ?_
  refine lv_topi (fun z_ hz_ => ?_)
  have hz_ : z_ = 2 := hz_.trans (by decide)
  subst hz_
  refine va_sld hx hb hX hbl hbA hS (vp_in_nI (n := 2) (by decide) (by decide)) d_L_law_419 ?_
  refine W.eq (g2 := F0 m 420 ls [.int (xs 2), .int (xs 1), .ref y]) rfl ?_
  have hPc := hP.sub (ws' := [(y, .inr (10, [.int 0, .ref mt, .int 0, .ref b0, .ref b1, .int 0, .ref b2, .ref b3, .ref b4, .int 0, .int 0, .int 0, .ref b5, .int 0, .ref b6, .ref b7, .int 0, .ref b8, .ref b9, .ref b10, .ref b11, .ref b12, .ref b13, .ref b14, .ref b15, .ref b16, .ref b17, .ref b18, .ref b19, .ref b20, .ref b21, .ref b22, .int 0, .ref b23, .ref b24, .ref mi, .int 0, .int 0, .int 0, .int 0, .int 0, .int 0, .int 0, .int 0, .int 0]))]) [0] rfl
  have hDc := hD.sub (ws' := [(y, .inr (10, [.int 0, .ref mt, .int 0, .ref b0, .ref b1, .int 0, .ref b2, .ref b3, .ref b4, .int 0, .int 0, .int 0, .ref b5, .int 0, .ref b6, .ref b7, .int 0, .ref b8, .ref b9, .ref b10, .ref b11, .ref b12, .ref b13, .ref b14, .ref b15, .ref b16, .ref b17, .ref b18, .ref b19, .ref b20, .ref b21, .ref b22, .int 0, .ref b23, .ref b24, .ref mi, .int 0, .int 0, .int 0, .int 0, .int 0, .int 0, .int 0, .int 0, .int 0]))]) [0] (by decide) rfl
  have hKc := hK.sub (tys' := []) [] rfl
  have hFc := va_free (wc := [(y, .inr (10, [.int 0, .ref mt, .int 0, .ref b0, .ref b1, .int 0, .ref b2, .ref b3, .ref b4, .int 0, .int 0, .int 0, .ref b5, .int 0, .ref b6, .ref b7, .int 0, .ref b8, .ref b9, .ref b10, .ref b11, .ref b12, .ref b13, .ref b14, .ref b15, .ref b16, .ref b17, .ref b18, .ref b19, .ref b20, .ref b21, .ref b22, .int 0, .ref b23, .ref b24, .ref mi, .int 0, .int 0, .int 0, .int 0, .int 0, .int 0, .int 0, .int 0, .int 0]))]) hD hS hA [0] rfl
  refine va_calli (va_runV (C := "BigRunnerModel") (As := [.int (xs 1), .int (xs 2)]) (rest := []) ⟨hx, hb, hml, hown, tb_nil⟩ (c_M_variable l dC dI H.size y mt ct mi cj b0 b1 b2 b3 b4 b5 b6 b7 b8 b9 b10 b11 b12 b13 b14 b15 b16 b17 b18 b19 b20 b21 b22 b23 b24 (((xs 1))) (((xs 2)))) ⟨(callB_of 2 (tb_one (wd_1277 hB _)) tb_good1 rfl rfl rfl (wd_82 hB _) (wd_1274 hB _) (by decide +kernel) ⟨Nat.le_of_ble_eq_true rfl, Nat.le_of_ble_eq_true rfl⟩), (wd_1275 hB _), (wd_1276 hB _)⟩ ⟨fun a U g mk q => by obtain ⟨q0, q1, qB, qP, qK, qD⟩ := q; exact ⟨q0, q1, TB.same (s := U) (U := U.calling g mk a) rfl qB, qP, va_K.moved (u := U) (U := U.calling g mk a) (Vm.Alike.refl U.vm) qK, qD⟩, va_recv hK hP (q0 := 0) (ci := 10) rfl rfl, fun U hU hW => ⟨rfl, by rw [hU], hB.moved hW, by rw [hU]; exact hPc, va_K.moved hW.alike hKc, hDc.weaken (fun _ _ _ _ => trivial)⟩⟩ rfl rfl hl.1 rfl (lv_room (Nat.le_of_ble_eq_true rfl)) d_L_law_420 ⟨(Nat.le_of_ble_eq_true rfl), (Nat.le_of_ble_eq_true rfl)⟩) hS (fun q _ h => hFc q h) hFc (fun r_ u_ t H1 locs ht hvm hw_ hB1 hz1 hk1 hS => ?_)
  obtain ⟨hP1, hK1, hD1⟩ := hB1
  rw [ht] at hP1
  have hK1 := va_K.moved hvm.symm hK1
  try dsimp only at hw_
  obtain ⟨hP, hD⟩ := va_join (wr := [(mt, .inl (ct, 72, .inl (fun _ => 0))), (mi, .inl (cj, 20, .inl (fun _ => 0)))]) (w1 := [(y, .inr (10, [.int 1, .ref mt, .int 0, .ref b0, .ref b1, .int 0, .ref b2, .ref b3, .ref b4, .int 0, .int 0, .int 0, .ref b5, .int 0, .ref b6, .ref b7, .int 0, .ref b8, .ref b9, .ref b10, .ref b11, .ref b12, .ref b13, .ref b14, .ref b15, .ref b16, .ref b17, .ref b18, .ref b19, .ref b20, .ref b21, .ref b22, .int 0, .ref b23, .ref b24, .ref mi, .int 0, .int 0, .int 0, .int 0, .int 0, .int 0, .int 0, .int 0, .int 0]))]) hP hD [0] [1, 2] rfl rfl (by decide) (by decide) hk1 hFc hP1 hD1
  have hK := (hK.sub (tys' := [(ct, .char), (cj, .int)]) [0, 1] rfl).app hK1
  clear hk1 hFc hPc hDc hKc hP1 hD1 hK1 hz1 ht hvm
  generalize H1 = H at hP hS ⊢
  have hP : va_P (dC, dI) vcl [(mt, .inl (ct, 72, .inl (fun _ => 0))), (mi, .inl (cj, 20, .inl (fun _ => 0))), (y, .inr (10, [.int 1, .ref mt, .int 0, .ref b0, .ref b1, .int 0, .ref b2, .ref b3, .ref b4, .int 0, .int 0, .int 0, .ref b5, .int 0, .ref b6, .ref b7, .int 0, .ref b8, .ref b9, .ref b10, .ref b11, .ref b12, .ref b13, .ref b14, .ref b15, .ref b16, .ref b17, .ref b18, .ref b19, .ref b20, .ref b21, .ref b22, .int 0, .ref b23, .ref b24, .ref mi, .int 0, .int 0, .int 0, .int 0, .int 0, .int 0, .int 0, .int 0, .int 0]))] H := hP
  have hD : va_D A [(mt, .inl (ct, 72, .inl (fun _ => 0))), (mi, .inl (cj, 20, .inl (fun _ => 0))), (y, .inr (10, [.int 1, .ref mt, .int 0, .ref b0, .ref b1, .int 0, .ref b2, .ref b3, .ref b4, .int 0, .int 0, .int 0, .ref b5, .int 0, .ref b6, .ref b7, .int 0, .ref b8, .ref b9, .ref b10, .ref b11, .ref b12, .ref b13, .ref b14, .ref b15, .ref b16, .ref b17, .ref b18, .ref b19, .ref b20, .ref b21, .ref b22, .int 0, .ref b23, .ref b24, .ref mi, .int 0, .int 0, .int 0, .int 0, .int 0, .int 0, .int 0, .int 0, .int 0]))] := hD
  have hK : va_K (dC, dI) vcl [(ct, .char), (cj, .int)] s := hK
  refine W.widen (k := 1001) (n := 20006) (by omega) (by omega) ?_
  subst hw_
  refine lv_istore (lv' := [(6, .int 0), (5, .int 1), (4, .int 0), (3, .ref ob), (2, .ref y), (1, .ref x), (0, .ref b)]) hx hb d_L_law_423 hl (by decide) rfl (fun ls hl => ?_)
  refine lv_aload_n hx hb d_L_law_425 rfl (lv_at hl 4 rfl) ?_
  have hPc := hP.sub (ws' := [(y, .inr (10, [.int 1, .ref mt, .int 0, .ref b0, .ref b1, .int 0, .ref b2, .ref b3, .ref b4, .int 0, .int 0, .int 0, .ref b5, .int 0, .ref b6, .ref b7, .int 0, .ref b8, .ref b9, .ref b10, .ref b11, .ref b12, .ref b13, .ref b14, .ref b15, .ref b16, .ref b17, .ref b18, .ref b19, .ref b20, .ref b21, .ref b22, .int 0, .ref b23, .ref b24, .ref mi, .int 0, .int 0, .int 0, .int 0, .int 0, .int 0, .int 0, .int 0, .int 0]))]) [2] rfl
  have hDc := hD.sub (ws' := [(y, .inr (10, [.int 1, .ref mt, .int 0, .ref b0, .ref b1, .int 0, .ref b2, .ref b3, .ref b4, .int 0, .int 0, .int 0, .ref b5, .int 0, .ref b6, .ref b7, .int 0, .ref b8, .ref b9, .ref b10, .ref b11, .ref b12, .ref b13, .ref b14, .ref b15, .ref b16, .ref b17, .ref b18, .ref b19, .ref b20, .ref b21, .ref b22, .int 0, .ref b23, .ref b24, .ref mi, .int 0, .int 0, .int 0, .int 0, .int 0, .int 0, .int 0, .int 0, .int 0]))]) [2] (by decide) rfl
  have hKc := hK.sub (tys' := []) [] rfl
  have hFc := va_free (wc := [(y, .inr (10, [.int 1, .ref mt, .int 0, .ref b0, .ref b1, .int 0, .ref b2, .ref b3, .ref b4, .int 0, .int 0, .int 0, .ref b5, .int 0, .ref b6, .ref b7, .int 0, .ref b8, .ref b9, .ref b10, .ref b11, .ref b12, .ref b13, .ref b14, .ref b15, .ref b16, .ref b17, .ref b18, .ref b19, .ref b20, .ref b21, .ref b22, .int 0, .ref b23, .ref b24, .ref mi, .int 0, .int 0, .int 0, .int 0, .int 0, .int 0, .int 0, .int 0, .int 0]))]) hD hS hA [2] rfl
  refine va_calli (va_runV (C := "BigRunnerModel") (As := []) (rest := []) ⟨hx, hb, hml, hown, tb_nil⟩ (c_M_thrown l dC dI H.size y mt b0 b1 b2 b3 b4 b5 b6 b7 b8 b9 b10 b11 b12 b13 b14 b15 b16 b17 b18 b19 b20 b21 b22 b23 b24 mi 1 0 0 0 0 0 0 0 0 0 0 0 0 0 0 0 0 0) ⟨(callB_of 0 (tb_one (wd_1087 hB _)) tb_good1 rfl rfl rfl (wd_82 hB _) (wd_1084 hB _) (by decide +kernel) ⟨Nat.le_of_ble_eq_true rfl, Nat.le_of_ble_eq_true rfl⟩), (wd_1085 hB _), (wd_1086 hB _)⟩ ⟨fun a U g mk q => by obtain ⟨q0, q1, qB, qP, qK, qD⟩ := q; exact ⟨q0, q1, TB.same (s := U) (U := U.calling g mk a) rfl qB, qP, va_K.moved (u := U) (U := U.calling g mk a) (Vm.Alike.refl U.vm) qK, qD⟩, va_recv hK hP (q0 := 2) (ci := 10) rfl rfl, fun U hU hW => ⟨rfl, by rw [hU], hB.moved hW, by rw [hU]; exact hPc, va_K.moved hW.alike hKc, hDc.weaken (fun _ _ _ _ => trivial)⟩⟩ rfl rfl hl.1 rfl (lv_room (Nat.le_of_ble_eq_true rfl)) d_L_law_426 ⟨(Nat.le_of_ble_eq_true rfl), (Nat.le_of_ble_eq_true rfl)⟩) hS (fun q _ h => hFc q h) hFc (fun r_ u_ t H1 locs ht hvm hw_ hB1 hz1 hk1 hS => ?_)
  obtain ⟨hP1, hK1, hD1⟩ := hB1
  rw [ht] at hP1
  have hK1 := va_K.moved hvm.symm hK1
  try dsimp only at hw_
  obtain ⟨hP, hD⟩ := va_join (wr := [(mt, .inl (ct, 72, .inl (fun _ => 0))), (mi, .inl (cj, 20, .inl (fun _ => 0)))]) (w1 := []) hP hD [2] [0, 1] rfl rfl (by decide) (by decide) hk1 hFc hP1 hD1
  have hK := (hK.sub (tys' := [(ct, .char), (cj, .int)]) [0, 1] rfl).app hK1
  clear hk1 hFc hPc hDc hKc hP1 hD1 hK1 hz1 ht hvm
  generalize H1 = H at hP hS ⊢
  have hP : va_P (dC, dI) vcl [(mt, .inl (ct, 72, .inl (fun _ => 0))), (mi, .inl (cj, 20, .inl (fun _ => 0)))] H := hP
  have hD : va_D A [(mt, .inl (ct, 72, .inl (fun _ => 0))), (mi, .inl (cj, 20, .inl (fun _ => 0)))] := hD
  have hK : va_K (dC, dI) vcl [(ct, .char), (cj, .int)] s := hK
  refine W.widen (k := 1001) (n := 20006) (by omega) (by omega) ?_
  subst hw_
  refine lv_iload hx hb d_L_law_429 (lv_at hl 1 rfl) ?_
  refine lv_icmp_eq (tgt := 436) hx hb d_L_law_431 (by decide) (fun _ => ?_) (fun hq => absurd rfl hq)
  refine lv_iload hx hb d_L_law_436 (lv_at hl 1 rfl) ?_
  refine lv_if_ne (tgt := 453) hx hb d_L_law_438 (by decide) (fun _ => ?_) (fun hq => absurd hq (by decide))
  refine lv_goto (tgt := 524) hx hb d_L_law_453 (by decide) ?_
  exact law_524 hx hb hr hlocks hA2 hS (by omega) (by omega) hX hbl hbA (lv_sub hl [2, 6] rfl)
set_option maxHeartbeats 4000000 in
set_option maxRecDepth 100000 in
theorem law_c9 {p : Program} {l : Launch} {e : Env} {s : State} {m : MethodId} {below : List Frame} {meth : Method} {c : Code} {b : Nat} {xs : Nat → Int32} {A : Nat → Prop} {H : Heap} {locs : List Loc} {ls : Array Slot}  (dC : Nat → ClassId) (dI : Nat → Nat → Nat) (x : Nat) (ql : Nat) (cl : ClassId) (rd : Nat) (rn : Nat) (qt : Nat) (pr : Nat) (qs : Nat) (cs : ClassId) (fs : Nat → Option Nat) (q0 : Nat) (qn : Nat) (qv : Nat) (qi : Nat) (pn : Nat) (qi2 : Nat) (qm : Nat) (qw : Nat) (qh : Nat) (qd : Nat) (qk : Nat) (qr : Nat) (cr : ClassId) (y : Nat) (mt : Nat) (ct : ClassId) (mi : Nat) (cj : ClassId) (b0 : Nat) (b1 : Nat) (b2 : Nat) (b3 : Nat) (b4 : Nat) (b5 : Nat) (b6 : Nat) (b7 : Nat) (b8 : Nat) (b9 : Nat) (b10 : Nat) (b11 : Nat) (b12 : Nat) (b13 : Nat) (b14 : Nat) (b15 : Nat) (b16 : Nat) (b17 : Nat) (b18 : Nat) (b19 : Nat) (b20 : Nat) (b21 : Nat) (b22 : Nat) (b23 : Nat) (b24 : Nat) (ob : Nat) (hx : p.tables.exec = Jvm.exec) (hb : c.code = code) (hr : meth.sig.returnType = ret) (hlocks : meth.locks = false) (hA2 : ∀ q : Nat, A q → s.heap.size ≤ q) (hS : va_S A s.heap H locs)  (hX : va_X b 3 xs s s.heap) (hbl : b < s.heap.size) (hbA : ¬ A b) (hml : c.maxLocals = 8) (hown : s.vm.findClass "BigRunnerLaw" = some m.cls) (hB : TB s) (htr : l.stackTraces = false) (hZS : th_Z "UNASSIGNED_STACK" "[Ljava/lang/StackTraceElement;" A s s.heap) (hZL : th_Z "SUPPRESSED_SENTINEL" "Ljava/util/List;" A s s.heap) (hf : fs 0 = some q0) (hA : ∀ q : Nat, s.heap.size ≤ q → A q) (hl : lv_has ls 8 [(4, .int 0), (3, .ref ob), (2, .ref y), (1, .ref x), (0, .ref b)]) (hP : va_P (dC, dI) vcl [(x, .inr (0, [.ref ql, .int 0, .ref rd, .ref rn, .int 0])), (ql, .inl (cl, 72, .inl (fun _ => 0))), (rd, .inr (7, [.ref qt, .int 0, .int 0, .ref pr])), (pr, .inr (6, [.ref qs, .int 0, .ref qn, .int 0, .ref qv, .ref qi])), (qs, .inl (cs, 36, .inr (.inr (.inr (.inr (fs)))))), (q0, .inr (9, [.int 5, .int 0, .int 0, .int (-1), .int 0])), (rn, .inr (8, [.ref pn, .ref qi2, .int 0, .ref qm, .ref qw, .ref qh, .ref qd, .ref qk, .int 0, .int 0, .int 0, .int 0, .int 0])), (qi2, .inr (1, [.ref qr, .int 0, .int 0])), (qr, .inl (cr, 20, .inl (fun _ => 0))), (y, .inr (10, [.int 0, .ref mt, .int 0, .ref b0, .ref b1, .int 0, .ref b2, .ref b3, .ref b4, .int 0, .int 0, .int 0, .ref b5, .int 0, .ref b6, .ref b7, .int 0, .ref b8, .ref b9, .ref b10, .ref b11, .ref b12, .ref b13, .ref b14, .ref b15, .ref b16, .ref b17, .ref b18, .ref b19, .ref b20, .ref b21, .ref b22, .int 0, .ref b23, .ref b24, .ref mi, .int 0, .int 0, .int 0, .int 0, .int 0, .int 0, .int 0, .int 0, .int 0])), (mt, .inl (ct, 72, .inl (fun _ => 0))), (mi, .inl (cj, 20, .inl (fun _ => 0)))] H) (hD : va_D A [(x, .inr (0, [.ref ql, .int 0, .ref rd, .ref rn, .int 0])), (ql, .inl (cl, 72, .inl (fun _ => 0))), (rd, .inr (7, [.ref qt, .int 0, .int 0, .ref pr])), (pr, .inr (6, [.ref qs, .int 0, .ref qn, .int 0, .ref qv, .ref qi])), (qs, .inl (cs, 36, .inr (.inr (.inr (.inr (fs)))))), (q0, .inr (9, [.int 5, .int 0, .int 0, .int (-1), .int 0])), (rn, .inr (8, [.ref pn, .ref qi2, .int 0, .ref qm, .ref qw, .ref qh, .ref qd, .ref qk, .int 0, .int 0, .int 0, .int 0, .int 0])), (qi2, .inr (1, [.ref qr, .int 0, .int 0])), (qr, .inl (cr, 20, .inl (fun _ => 0))), (y, .inr (10, [.int 0, .ref mt, .int 0, .ref b0, .ref b1, .int 0, .ref b2, .ref b3, .ref b4, .int 0, .int 0, .int 0, .ref b5, .int 0, .ref b6, .ref b7, .int 0, .ref b8, .ref b9, .ref b10, .ref b11, .ref b12, .ref b13, .ref b14, .ref b15, .ref b16, .ref b17, .ref b18, .ref b19, .ref b20, .ref b21, .ref b22, .int 0, .ref b23, .ref b24, .ref mi, .int 0, .int 0, .int 0, .int 0, .int 0, .int 0, .int 0, .int 0, .int 0])), (mt, .inl (ct, 72, .inl (fun _ => 0))), (mi, .inl (cj, 20, .inl (fun _ => 0)))]) (hK : va_K (dC, dI) vcl [(cl, .char), (cs, (.object "BigRunner$Statement")), (cr, .int), (ct, .char), (cj, .int)] s) : W p l e room_1 s m #[Value.ref b] below meth c H locs 1000 20000 (lw_Z below #[Value.ref b] s) (F0 m 456 ls []) := by
  refine lv_aload_n hx hb d_L_law_456 rfl (lv_at hl 3 rfl) ?_
  refine lv_aload_n hx hb d_L_law_457 rfl (lv_at hl 4 rfl) ?_
  refine lv_iload hx hb d_L_law_458 (lv_at hl 0 rfl) ?_
  refine lv_iconst (v := 1) hx hb d_L_law_460 (by decide) ?_
  refine lv_iadd hx hb d_L_law_461 ?_
  refine lv_topi (fun z_ hz_ => ?_)
  have hz_ : z_ = 1 := hz_.trans (by decide)
  subst hz_
  refine va_sld hx hb hX hbl hbA hS (vp_in_nI (n := 1) (by decide) (by decide)) d_L_law_462 ?_
  refine W.eq (g2 := F0 m 463 ls [.int (xs 1), .ref x]) rfl ?_
  refine lv_aload_n hx hb d_L_law_463 rfl (lv_at hl 4 rfl) ?_
  refine lv_iload hx hb d_L_law_464 (lv_at hl 0 rfl) ?_
  refine lv_iconst (v := 2) hx hb d_L_law_466 (by decide) ?_
  refine lv_iadd hx hb d_L_law_467 ?_
  refine lv_topi (fun z_ hz_ => ?_)
  have hz_ : z_ = 2 := hz_.trans (by decide)
  subst hz_
  refine va_sld hx hb hX hbl hbA hS (vp_in_nI (n := 2) (by decide) (by decide)) d_L_law_468 ?_
  refine W.eq (g2 := F0 m 469 ls [.int (xs 2), .int (xs 1), .ref x]) rfl ?_
  refine lv_aload_n hx hb d_L_law_469 rfl (lv_at hl 1 rfl) ?_
  have hPc := hP.sub (ws' := [(x, .inr (0, [.ref ql, .int 0, .ref rd, .ref rn, .int 0])), (ql, .inl (cl, 72, .inl (fun _ => 0))), (rd, .inr (7, [.ref qt, .int 0, .int 0, .ref pr])), (pr, .inr (6, [.ref qs, .int 0, .ref qn, .int 0, .ref qv, .ref qi])), (qs, .inl (cs, 36, .inr (.inr (.inr (.inr (fs)))))), (q0, .inr (9, [.int 5, .int 0, .int 0, .int (-1), .int 0])), (rn, .inr (8, [.ref pn, .ref qi2, .int 0, .ref qm, .ref qw, .ref qh, .ref qd, .ref qk, .int 0, .int 0, .int 0, .int 0, .int 0])), (qi2, .inr (1, [.ref qr, .int 0, .int 0])), (qr, .inl (cr, 20, .inl (fun _ => 0)))]) [0, 1, 2, 3, 4, 5, 6, 7, 8] rfl
  have hDc := hD.sub (ws' := [(x, .inr (0, [.ref ql, .int 0, .ref rd, .ref rn, .int 0])), (ql, .inl (cl, 72, .inl (fun _ => 0))), (rd, .inr (7, [.ref qt, .int 0, .int 0, .ref pr])), (pr, .inr (6, [.ref qs, .int 0, .ref qn, .int 0, .ref qv, .ref qi])), (qs, .inl (cs, 36, .inr (.inr (.inr (.inr (fs)))))), (q0, .inr (9, [.int 5, .int 0, .int 0, .int (-1), .int 0])), (rn, .inr (8, [.ref pn, .ref qi2, .int 0, .ref qm, .ref qw, .ref qh, .ref qd, .ref qk, .int 0, .int 0, .int 0, .int 0, .int 0])), (qi2, .inr (1, [.ref qr, .int 0, .int 0])), (qr, .inl (cr, 20, .inl (fun _ => 0)))]) [0, 1, 2, 3, 4, 5, 6, 7, 8] (by decide) rfl
  have hKc := hK.sub (tys' := [(cl, .char), (cs, (.object "BigRunner$Statement")), (cr, .int)]) [0, 1, 2] rfl
  have hFc := va_free (wc := [(x, .inr (0, [.ref ql, .int 0, .ref rd, .ref rn, .int 0])), (ql, .inl (cl, 72, .inl (fun _ => 0))), (rd, .inr (7, [.ref qt, .int 0, .int 0, .ref pr])), (pr, .inr (6, [.ref qs, .int 0, .ref qn, .int 0, .ref qv, .ref qi])), (qs, .inl (cs, 36, .inr (.inr (.inr (.inr (fs)))))), (q0, .inr (9, [.int 5, .int 0, .int 0, .int (-1), .int 0])), (rn, .inr (8, [.ref pn, .ref qi2, .int 0, .ref qm, .ref qw, .ref qh, .ref qd, .ref qk, .int 0, .int 0, .int 0, .int 0, .int 0])), (qi2, .inr (1, [.ref qr, .int 0, .int 0])), (qr, .inl (cr, 20, .inl (fun _ => 0)))]) hD hS hA [0, 1, 2, 3, 4, 5, 6, 7, 8] rfl
  have hZ1 := (hZS.kept (fun a h1 h2 => hS.2.1 a h1 h2)).narrow (B := fun _ => False) (fun _ h => h.elim)
  have hZ2 := (hZL.kept (fun a h1 h2 => hS.2.1 a h1 h2)).narrow (B := fun _ => False) (fun _ h => h.elim)
  refine va_calli (tw_runS (As := [.ref x, .int (xs 1), .int (xs 2), .ref ob]) (rest := []) (n := 4) hx hb hml hown (c_L_output l dC dI H.size x ql cl rd rn qt pr qs cs fs q0 qn qv qi pn qi2 qm qw qh qd qk qr cr ob (((xs 1))) (((xs 2))) htr) (wd_930 hB _) (wd_71 hB _) (wd_928 hB _) (wd_929 hB _) (by decide +kernel) ⟨Nat.le_of_ble_eq_true rfl, Nat.le_of_ble_eq_true rfl⟩ rfl rfl ⟨fun a U g mk q => by obtain ⟨q0, q1, qB, qH, qP, qK, qD⟩ := q; exact ⟨q0, q1, TB.same (s := U) (U := U.calling g mk a) rfl qB, TH.moved (s := U) (U := U.calling g mk a) (Vm.Alike.refl U.vm) rfl qH, qP, va_K.moved (u := U) (U := U.calling g mk a) (Vm.Alike.refl U.vm) qK, qD⟩, fun U hU hW => ⟨rfl, by rw [hU], hB.moved hW, by unfold TH; rw [hU]; exact ⟨hZ1.moved hW.alike, hZ2.moved hW.alike⟩, by rw [hU]; exact hPc, va_K.moved hW.alike hKc, hDc.weaken (fun _ _ _ _ => trivial)⟩⟩ rfl rfl hl.1 rfl (lv_room (Nat.le_of_ble_eq_true rfl)) d_L_law_470 ⟨Nat.le_of_ble_eq_true rfl, Nat.le_of_ble_eq_true rfl⟩) hS (fun q _ h => hFc q h) hFc (fun r_ u_ t H1 locs ht hvm hw_ hB1 hz1 hk1 hS => ?_)
  obtain ⟨hP1, hK1, hD1⟩ := hB1
  rw [ht] at hP1
  have hK1 := va_K.moved hvm.symm hK1
  try dsimp only at hw_
  obtain ⟨hP, hD⟩ := va_join (wr := [(y, .inr (10, [.int 0, .ref mt, .int 0, .ref b0, .ref b1, .int 0, .ref b2, .ref b3, .ref b4, .int 0, .int 0, .int 0, .ref b5, .int 0, .ref b6, .ref b7, .int 0, .ref b8, .ref b9, .ref b10, .ref b11, .ref b12, .ref b13, .ref b14, .ref b15, .ref b16, .ref b17, .ref b18, .ref b19, .ref b20, .ref b21, .ref b22, .int 0, .ref b23, .ref b24, .ref mi, .int 0, .int 0, .int 0, .int 0, .int 0, .int 0, .int 0, .int 0, .int 0])), (mt, .inl (ct, 72, .inl (fun _ => 0))), (mi, .inl (cj, 20, .inl (fun _ => 0)))]) (w1 := []) hP hD [0, 1, 2, 3, 4, 5, 6, 7, 8] [9, 10, 11] rfl rfl (by decide) (by decide) hk1 hFc hP1 hD1
  have hK := (hK.sub (tys' := [(ct, .char), (cj, .int)]) [3, 4] rfl).app hK1
  clear hk1 hFc hPc hDc hKc hP1 hD1 hK1 hz1 ht hvm
  generalize H1 = H at hP hS ⊢
  have hP : va_P (dC, dI) vcl [(y, .inr (10, [.int 0, .ref mt, .int 0, .ref b0, .ref b1, .int 0, .ref b2, .ref b3, .ref b4, .int 0, .int 0, .int 0, .ref b5, .int 0, .ref b6, .ref b7, .int 0, .ref b8, .ref b9, .ref b10, .ref b11, .ref b12, .ref b13, .ref b14, .ref b15, .ref b16, .ref b17, .ref b18, .ref b19, .ref b20, .ref b21, .ref b22, .int 0, .ref b23, .ref b24, .ref mi, .int 0, .int 0, .int 0, .int 0, .int 0, .int 0, .int 0, .int 0, .int 0])), (mt, .inl (ct, 72, .inl (fun _ => 0))), (mi, .inl (cj, 20, .inl (fun _ => 0)))] H := hP
  have hD : va_D A [(y, .inr (10, [.int 0, .ref mt, .int 0, .ref b0, .ref b1, .int 0, .ref b2, .ref b3, .ref b4, .int 0, .int 0, .int 0, .ref b5, .int 0, .ref b6, .ref b7, .int 0, .ref b8, .ref b9, .ref b10, .ref b11, .ref b12, .ref b13, .ref b14, .ref b15, .ref b16, .ref b17, .ref b18, .ref b19, .ref b20, .ref b21, .ref b22, .int 0, .ref b23, .ref b24, .ref mi, .int 0, .int 0, .int 0, .int 0, .int 0, .int 0, .int 0, .int 0, .int 0])), (mt, .inl (ct, 72, .inl (fun _ => 0))), (mi, .inl (cj, 20, .inl (fun _ => 0)))] := hD
  have hK : va_K (dC, dI) vcl [(ct, .char), (cj, .int)] s := hK
  refine W.widen (k := 1001) (n := 20006) (by omega) (by omega) ?_
  subst hw_
  refine lv_istore (lv' := [(5, .int 1), (4, .int 0), (3, .ref ob), (2, .ref y), (1, .ref x), (0, .ref b)]) hx hb d_L_law_473 hl (by decide) rfl (fun ls hl => ?_)
  refine lv_aload_n hx hb d_L_law_475 rfl (lv_at hl 3 rfl) ?_
  refine lv_aload_n hx hb d_L_law_476 rfl (lv_at hl 5 rfl) ?_
  refine lv_iload hx hb d_L_law_477 (lv_at hl 1 rfl) ?_
  refine lv_iconst (v := 1) hx hb d_L_law_479 (by decide) ?_
  refine lv_iadd hx hb d_L_law_480 ?_
  refine lv_topi (fun z_ hz_ => ?_)
  have hz_ : z_ = 1 := hz_.trans (by decide)
  subst hz_
  refine va_sld hx hb hX hbl hbA hS (vp_in_nI (n := 1) (by decide) (by decide)) d_L_law_481 ?_
  refine W.eq (g2 := F0 m 482 ls [.int (xs 1), .ref y]) rfl ?_
  refine lv_aload_n hx hb d_L_law_482 rfl (lv_at hl 5 rfl) ?_
  refine lv_iload hx hb d_L_law_483 (lv_at hl 1 rfl) ?_
  refine lv_iconst (v := 2) hx hb d_L_law_485 (by decide) ?_
  refine lv_iadd hx hb d_L_law_486 ?_
  refine lv_topi (fun z_ hz_ => ?_)
  have hz_ : z_ = 2 := hz_.trans (by decide)
  subst hz_
  refine va_sld hx hb hX hbl hbA hS (vp_in_nI (n := 2) (by decide) (by decide)) d_L_law_487 ?_
  refine W.eq (g2 := F0 m 488 ls [.int (xs 2), .int (xs 1), .ref y]) rfl ?_
  have hPc := hP.sub (ws' := [(y, .inr (10, [.int 0, .ref mt, .int 0, .ref b0, .ref b1, .int 0, .ref b2, .ref b3, .ref b4, .int 0, .int 0, .int 0, .ref b5, .int 0, .ref b6, .ref b7, .int 0, .ref b8, .ref b9, .ref b10, .ref b11, .ref b12, .ref b13, .ref b14, .ref b15, .ref b16, .ref b17, .ref b18, .ref b19, .ref b20, .ref b21, .ref b22, .int 0, .ref b23, .ref b24, .ref mi, .int 0, .int 0, .int 0, .int 0, .int 0, .int 0, .int 0, .int 0, .int 0]))]) [0] rfl
  have hDc := hD.sub (ws' := [(y, .inr (10, [.int 0, .ref mt, .int 0, .ref b0, .ref b1, .int 0, .ref b2, .ref b3, .ref b4, .int 0, .int 0, .int 0, .ref b5, .int 0, .ref b6, .ref b7, .int 0, .ref b8, .ref b9, .ref b10, .ref b11, .ref b12, .ref b13, .ref b14, .ref b15, .ref b16, .ref b17, .ref b18, .ref b19, .ref b20, .ref b21, .ref b22, .int 0, .ref b23, .ref b24, .ref mi, .int 0, .int 0, .int 0, .int 0, .int 0, .int 0, .int 0, .int 0, .int 0]))]) [0] (by decide) rfl
  have hKc := hK.sub (tys' := []) [] rfl
  have hFc := va_free (wc := [(y, .inr (10, [.int 0, .ref mt, .int 0, .ref b0, .ref b1, .int 0, .ref b2, .ref b3, .ref b4, .int 0, .int 0, .int 0, .ref b5, .int 0, .ref b6, .ref b7, .int 0, .ref b8, .ref b9, .ref b10, .ref b11, .ref b12, .ref b13, .ref b14, .ref b15, .ref b16, .ref b17, .ref b18, .ref b19, .ref b20, .ref b21, .ref b22, .int 0, .ref b23, .ref b24, .ref mi, .int 0, .int 0, .int 0, .int 0, .int 0, .int 0, .int 0, .int 0, .int 0]))]) hD hS hA [0] rfl
  refine va_calli (va_runV (C := "BigRunnerModel") (As := [.int (xs 1), .int (xs 2)]) (rest := []) ⟨hx, hb, hml, hown, tb_nil⟩ (c_M_output l dC dI H.size y mt ct mi cj b0 b1 b2 b3 b4 b5 b6 b7 b8 b9 b10 b11 b12 b13 b14 b15 b16 b17 b18 b19 b20 b21 b22 b23 b24 (((xs 1))) (((xs 2)))) ⟨(callB_of 2 (tb_one (wd_1284 hB _)) tb_good1 rfl rfl rfl (wd_82 hB _) (wd_1281 hB _) (by decide +kernel) ⟨Nat.le_of_ble_eq_true rfl, Nat.le_of_ble_eq_true rfl⟩), (wd_1282 hB _), (wd_1283 hB _)⟩ ⟨fun a U g mk q => by obtain ⟨q0, q1, qB, qP, qK, qD⟩ := q; exact ⟨q0, q1, TB.same (s := U) (U := U.calling g mk a) rfl qB, qP, va_K.moved (u := U) (U := U.calling g mk a) (Vm.Alike.refl U.vm) qK, qD⟩, va_recv hK hP (q0 := 0) (ci := 10) rfl rfl, fun U hU hW => ⟨rfl, by rw [hU], hB.moved hW, by rw [hU]; exact hPc, va_K.moved hW.alike hKc, hDc.weaken (fun _ _ _ _ => trivial)⟩⟩ rfl rfl hl.1 rfl (lv_room (Nat.le_of_ble_eq_true rfl)) d_L_law_488 ⟨(Nat.le_of_ble_eq_true rfl), (Nat.le_of_ble_eq_true rfl)⟩) hS (fun q _ h => hFc q h) hFc (fun r_ u_ t H1 locs ht hvm hw_ hB1 hz1 hk1 hS => ?_)
  obtain ⟨hP1, hK1, hD1⟩ := hB1
  rw [ht] at hP1
  have hK1 := va_K.moved hvm.symm hK1
  try dsimp only at hw_
  obtain ⟨hP, hD⟩ := va_join (wr := [(mt, .inl (ct, 72, .inl (fun _ => 0))), (mi, .inl (cj, 20, .inl (fun _ => 0)))]) (w1 := [(y, .inr (10, [.int 1, .ref mt, .int 0, .ref b0, .ref b1, .int 0, .ref b2, .ref b3, .ref b4, .int 0, .int 0, .int 0, .ref b5, .int 0, .ref b6, .ref b7, .int 0, .ref b8, .ref b9, .ref b10, .ref b11, .ref b12, .ref b13, .ref b14, .ref b15, .ref b16, .ref b17, .ref b18, .ref b19, .ref b20, .ref b21, .ref b22, .int 0, .ref b23, .ref b24, .ref mi, .int 0, .int 0, .int 0, .int 0, .int 0, .int 0, .int 0, .int 0, .int 0]))]) hP hD [0] [1, 2] rfl rfl (by decide) (by decide) hk1 hFc hP1 hD1
  have hK := (hK.sub (tys' := [(ct, .char), (cj, .int)]) [0, 1] rfl).app hK1
  clear hk1 hFc hPc hDc hKc hP1 hD1 hK1 hz1 ht hvm
  generalize H1 = H at hP hS ⊢
  have hP : va_P (dC, dI) vcl [(mt, .inl (ct, 72, .inl (fun _ => 0))), (mi, .inl (cj, 20, .inl (fun _ => 0))), (y, .inr (10, [.int 1, .ref mt, .int 0, .ref b0, .ref b1, .int 0, .ref b2, .ref b3, .ref b4, .int 0, .int 0, .int 0, .ref b5, .int 0, .ref b6, .ref b7, .int 0, .ref b8, .ref b9, .ref b10, .ref b11, .ref b12, .ref b13, .ref b14, .ref b15, .ref b16, .ref b17, .ref b18, .ref b19, .ref b20, .ref b21, .ref b22, .int 0, .ref b23, .ref b24, .ref mi, .int 0, .int 0, .int 0, .int 0, .int 0, .int 0, .int 0, .int 0, .int 0]))] H := hP
  have hD : va_D A [(mt, .inl (ct, 72, .inl (fun _ => 0))), (mi, .inl (cj, 20, .inl (fun _ => 0))), (y, .inr (10, [.int 1, .ref mt, .int 0, .ref b0, .ref b1, .int 0, .ref b2, .ref b3, .ref b4, .int 0, .int 0, .int 0, .ref b5, .int 0, .ref b6, .ref b7, .int 0, .ref b8, .ref b9, .ref b10, .ref b11, .ref b12, .ref b13, .ref b14, .ref b15, .ref b16, .ref b17, .ref b18, .ref b19, .ref b20, .ref b21, .ref b22, .int 0, .ref b23, .ref b24, .ref mi, .int 0, .int 0, .int 0, .int 0, .int 0, .int 0, .int 0, .int 0, .int 0]))] := hD
  have hK : va_K (dC, dI) vcl [(ct, .char), (cj, .int)] s := hK
  refine W.widen (k := 1001) (n := 20006) (by omega) (by omega) ?_
  subst hw_
  refine lv_istore (lv' := [(6, .int 0), (5, .int 1), (4, .int 0), (3, .ref ob), (2, .ref y), (1, .ref x), (0, .ref b)]) hx hb d_L_law_491 hl (by decide) rfl (fun ls hl => ?_)
  refine lv_aload_n hx hb d_L_law_493 rfl (lv_at hl 4 rfl) ?_
  have hPc := hP.sub (ws' := [(y, .inr (10, [.int 1, .ref mt, .int 0, .ref b0, .ref b1, .int 0, .ref b2, .ref b3, .ref b4, .int 0, .int 0, .int 0, .ref b5, .int 0, .ref b6, .ref b7, .int 0, .ref b8, .ref b9, .ref b10, .ref b11, .ref b12, .ref b13, .ref b14, .ref b15, .ref b16, .ref b17, .ref b18, .ref b19, .ref b20, .ref b21, .ref b22, .int 0, .ref b23, .ref b24, .ref mi, .int 0, .int 0, .int 0, .int 0, .int 0, .int 0, .int 0, .int 0, .int 0]))]) [2] rfl
  have hDc := hD.sub (ws' := [(y, .inr (10, [.int 1, .ref mt, .int 0, .ref b0, .ref b1, .int 0, .ref b2, .ref b3, .ref b4, .int 0, .int 0, .int 0, .ref b5, .int 0, .ref b6, .ref b7, .int 0, .ref b8, .ref b9, .ref b10, .ref b11, .ref b12, .ref b13, .ref b14, .ref b15, .ref b16, .ref b17, .ref b18, .ref b19, .ref b20, .ref b21, .ref b22, .int 0, .ref b23, .ref b24, .ref mi, .int 0, .int 0, .int 0, .int 0, .int 0, .int 0, .int 0, .int 0, .int 0]))]) [2] (by decide) rfl
  have hKc := hK.sub (tys' := []) [] rfl
  have hFc := va_free (wc := [(y, .inr (10, [.int 1, .ref mt, .int 0, .ref b0, .ref b1, .int 0, .ref b2, .ref b3, .ref b4, .int 0, .int 0, .int 0, .ref b5, .int 0, .ref b6, .ref b7, .int 0, .ref b8, .ref b9, .ref b10, .ref b11, .ref b12, .ref b13, .ref b14, .ref b15, .ref b16, .ref b17, .ref b18, .ref b19, .ref b20, .ref b21, .ref b22, .int 0, .ref b23, .ref b24, .ref mi, .int 0, .int 0, .int 0, .int 0, .int 0, .int 0, .int 0, .int 0, .int 0]))]) hD hS hA [2] rfl
  refine va_calli (va_runV (C := "BigRunnerModel") (As := []) (rest := []) ⟨hx, hb, hml, hown, tb_nil⟩ (c_M_thrown l dC dI H.size y mt b0 b1 b2 b3 b4 b5 b6 b7 b8 b9 b10 b11 b12 b13 b14 b15 b16 b17 b18 b19 b20 b21 b22 b23 b24 mi 1 0 0 0 0 0 0 0 0 0 0 0 0 0 0 0 0 0) ⟨(callB_of 0 (tb_one (wd_1087 hB _)) tb_good1 rfl rfl rfl (wd_82 hB _) (wd_1084 hB _) (by decide +kernel) ⟨Nat.le_of_ble_eq_true rfl, Nat.le_of_ble_eq_true rfl⟩), (wd_1085 hB _), (wd_1086 hB _)⟩ ⟨fun a U g mk q => by obtain ⟨q0, q1, qB, qP, qK, qD⟩ := q; exact ⟨q0, q1, TB.same (s := U) (U := U.calling g mk a) rfl qB, qP, va_K.moved (u := U) (U := U.calling g mk a) (Vm.Alike.refl U.vm) qK, qD⟩, va_recv hK hP (q0 := 2) (ci := 10) rfl rfl, fun U hU hW => ⟨rfl, by rw [hU], hB.moved hW, by rw [hU]; exact hPc, va_K.moved hW.alike hKc, hDc.weaken (fun _ _ _ _ => trivial)⟩⟩ rfl rfl hl.1 rfl (lv_room (Nat.le_of_ble_eq_true rfl)) d_L_law_494 ⟨(Nat.le_of_ble_eq_true rfl), (Nat.le_of_ble_eq_true rfl)⟩) hS (fun q _ h => hFc q h) hFc (fun r_ u_ t H1 locs ht hvm hw_ hB1 hz1 hk1 hS => ?_)
  obtain ⟨hP1, hK1, hD1⟩ := hB1
  rw [ht] at hP1
  have hK1 := va_K.moved hvm.symm hK1
  try dsimp only at hw_
  obtain ⟨hP, hD⟩ := va_join (wr := [(mt, .inl (ct, 72, .inl (fun _ => 0))), (mi, .inl (cj, 20, .inl (fun _ => 0)))]) (w1 := []) hP hD [2] [0, 1] rfl rfl (by decide) (by decide) hk1 hFc hP1 hD1
  have hK := (hK.sub (tys' := [(ct, .char), (cj, .int)]) [0, 1] rfl).app hK1
  clear hk1 hFc hPc hDc hKc hP1 hD1 hK1 hz1 ht hvm
  generalize H1 = H at hP hS ⊢
  have hP : va_P (dC, dI) vcl [(mt, .inl (ct, 72, .inl (fun _ => 0))), (mi, .inl (cj, 20, .inl (fun _ => 0)))] H := hP
  have hD : va_D A [(mt, .inl (ct, 72, .inl (fun _ => 0))), (mi, .inl (cj, 20, .inl (fun _ => 0)))] := hD
  have hK : va_K (dC, dI) vcl [(ct, .char), (cj, .int)] s := hK
  refine W.widen (k := 1001) (n := 20006) (by omega) (by omega) ?_
  subst hw_
  refine lv_iload hx hb d_L_law_497 (lv_at hl 1 rfl) ?_
  refine lv_icmp_eq (tgt := 504) hx hb d_L_law_499 (by decide) (fun _ => ?_) (fun hq => absurd rfl hq)
  refine lv_iload hx hb d_L_law_504 (lv_at hl 1 rfl) ?_
  refine lv_if_ne (tgt := 521) hx hb d_L_law_506 (by decide) (fun _ => ?_) (fun hq => absurd hq (by decide))
  refine lv_goto (tgt := 524) hx hb d_L_law_521 (by decide) ?_
  exact law_524 hx hb hr hlocks hA2 hS (by omega) (by omega) hX hbl hbA (lv_sub hl [2, 6] rfl)
set_option maxHeartbeats 4000000 in
set_option maxRecDepth 100000 in
theorem law_c6 {p : Program} {l : Launch} {e : Env} {s : State} {m : MethodId} {below : List Frame} {meth : Method} {c : Code} {b : Nat} {xs : Nat → Int32} {A : Nat → Prop} {H : Heap} {locs : List Loc} {ls : Array Slot}  (dC : Nat → ClassId) (dI : Nat → Nat → Nat) (x : Nat) (ql : Nat) (cl : ClassId) (rd : Nat) (rn : Nat) (qt : Nat) (pr : Nat) (qs : Nat) (cs : ClassId) (fs : Nat → Option Nat) (q0 : Nat) (qn : Nat) (qv : Nat) (qi : Nat) (pn : Nat) (qi2 : Nat) (qm : Nat) (qw : Nat) (qh : Nat) (qd : Nat) (qk : Nat) (qr : Nat) (cr : ClassId) (y : Nat) (mt : Nat) (ct : ClassId) (mi : Nat) (cj : ClassId) (b0 : Nat) (b1 : Nat) (b2 : Nat) (b3 : Nat) (b4 : Nat) (b5 : Nat) (b6 : Nat) (b7 : Nat) (b8 : Nat) (b9 : Nat) (b10 : Nat) (b11 : Nat) (b12 : Nat) (b13 : Nat) (b14 : Nat) (b15 : Nat) (b16 : Nat) (b17 : Nat) (b18 : Nat) (b19 : Nat) (b20 : Nat) (b21 : Nat) (b22 : Nat) (b23 : Nat) (b24 : Nat) (ob : Nat) (hx : p.tables.exec = Jvm.exec) (hb : c.code = code) (hr : meth.sig.returnType = ret) (hlocks : meth.locks = false) (hA2 : ∀ q : Nat, A q → s.heap.size ≤ q) (hS : va_S A s.heap H locs)  (hX : va_X b 3 xs s s.heap) (hbl : b < s.heap.size) (hbA : ¬ A b) (hml : c.maxLocals = 8) (hown : s.vm.findClass "BigRunnerLaw" = some m.cls) (hB : TB s) (htr : l.stackTraces = false) (hZS : th_Z "UNASSIGNED_STACK" "[Ljava/lang/StackTraceElement;" A s s.heap) (hZL : th_Z "SUPPRESSED_SENTINEL" "Ljava/util/List;" A s s.heap) (hf : fs 0 = some q0) (hA : ∀ q : Nat, s.heap.size ≤ q → A q) (hl : lv_has ls 8 [(4, .int 0), (3, .ref ob), (2, .ref y), (1, .ref x), (0, .ref b)]) (hP : va_P (dC, dI) vcl [(x, .inr (0, [.ref ql, .int 0, .ref rd, .ref rn, .int 0])), (ql, .inl (cl, 72, .inl (fun _ => 0))), (rd, .inr (7, [.ref qt, .int 0, .int 0, .ref pr])), (pr, .inr (6, [.ref qs, .int 0, .ref qn, .int 0, .ref qv, .ref qi])), (qs, .inl (cs, 36, .inr (.inr (.inr (.inr (fs)))))), (q0, .inr (9, [.int 5, .int 0, .int 0, .int (-1), .int 0])), (rn, .inr (8, [.ref pn, .ref qi2, .int 0, .ref qm, .ref qw, .ref qh, .ref qd, .ref qk, .int 0, .int 0, .int 0, .int 0, .int 0])), (qi2, .inr (1, [.ref qr, .int 0, .int 0])), (qr, .inl (cr, 20, .inl (fun _ => 0))), (y, .inr (10, [.int 0, .ref mt, .int 0, .ref b0, .ref b1, .int 0, .ref b2, .ref b3, .ref b4, .int 0, .int 0, .int 0, .ref b5, .int 0, .ref b6, .ref b7, .int 0, .ref b8, .ref b9, .ref b10, .ref b11, .ref b12, .ref b13, .ref b14, .ref b15, .ref b16, .ref b17, .ref b18, .ref b19, .ref b20, .ref b21, .ref b22, .int 0, .ref b23, .ref b24, .ref mi, .int 0, .int 0, .int 0, .int 0, .int 0, .int 0, .int 0, .int 0, .int 0])), (mt, .inl (ct, 72, .inl (fun _ => 0))), (mi, .inl (cj, 20, .inl (fun _ => 0)))] H) (hD : va_D A [(x, .inr (0, [.ref ql, .int 0, .ref rd, .ref rn, .int 0])), (ql, .inl (cl, 72, .inl (fun _ => 0))), (rd, .inr (7, [.ref qt, .int 0, .int 0, .ref pr])), (pr, .inr (6, [.ref qs, .int 0, .ref qn, .int 0, .ref qv, .ref qi])), (qs, .inl (cs, 36, .inr (.inr (.inr (.inr (fs)))))), (q0, .inr (9, [.int 5, .int 0, .int 0, .int (-1), .int 0])), (rn, .inr (8, [.ref pn, .ref qi2, .int 0, .ref qm, .ref qw, .ref qh, .ref qd, .ref qk, .int 0, .int 0, .int 0, .int 0, .int 0])), (qi2, .inr (1, [.ref qr, .int 0, .int 0])), (qr, .inl (cr, 20, .inl (fun _ => 0))), (y, .inr (10, [.int 0, .ref mt, .int 0, .ref b0, .ref b1, .int 0, .ref b2, .ref b3, .ref b4, .int 0, .int 0, .int 0, .ref b5, .int 0, .ref b6, .ref b7, .int 0, .ref b8, .ref b9, .ref b10, .ref b11, .ref b12, .ref b13, .ref b14, .ref b15, .ref b16, .ref b17, .ref b18, .ref b19, .ref b20, .ref b21, .ref b22, .int 0, .ref b23, .ref b24, .ref mi, .int 0, .int 0, .int 0, .int 0, .int 0, .int 0, .int 0, .int 0, .int 0])), (mt, .inl (ct, 72, .inl (fun _ => 0))), (mi, .inl (cj, 20, .inl (fun _ => 0)))]) (hK : va_K (dC, dI) vcl [(cl, .char), (cs, (.object "BigRunner$Statement")), (cr, .int), (ct, .char), (cj, .int)] s) : W p l e room_1 s m #[Value.ref b] below meth c H locs 1000 20000 (lw_Z below #[Value.ref b] s) (F0 m 280 ls []) := by
  by_cases hz2 : xs 2 = 0
  · skip
    refine lv_aload_n hx hb d_L_law_280 rfl (lv_at hl 3 rfl) ?_
    refine lv_aload_n hx hb d_L_law_281 rfl (lv_at hl 4 rfl) ?_
    refine lv_iload hx hb d_L_law_282 (lv_at hl 0 rfl) ?_
    refine lv_iconst (v := 1) hx hb d_L_law_284 (by decide) ?_
    refine lv_iadd hx hb d_L_law_285 ?_
    refine lv_topi (fun z_ hz_ => ?_)
    have hz_ : z_ = 1 := hz_.trans (by decide)
    subst hz_
    refine va_sld hx hb hX hbl hbA hS (vp_in_nI (n := 1) (by decide) (by decide)) d_L_law_286 ?_
    refine W.eq (g2 := F0 m 287 ls [.int (xs 1), .ref x]) rfl ?_
    refine lv_aload_n hx hb d_L_law_287 rfl (lv_at hl 4 rfl) ?_
    refine lv_iload hx hb d_L_law_288 (lv_at hl 0 rfl) ?_
    refine lv_iconst (v := 2) hx hb d_L_law_290 (by decide) ?_
    refine lv_iadd hx hb d_L_law_291 ?_
    refine lv_topi (fun z_ hz_ => ?_)
    have hz_ : z_ = 2 := hz_.trans (by decide)
    subst hz_
    refine va_sld hx hb hX hbl hbA hS (vp_in_nI (n := 2) (by decide) (by decide)) d_L_law_292 ?_
    refine W.eq (g2 := F0 m 293 ls [.int (xs 2), .int (xs 1), .ref x]) rfl ?_
    refine lv_if_eq (tgt := 300) hx hb d_L_law_293 (by decide) (fun _ => ?_) (fun hq => absurd hz2 hq)
    refine lv_iconst (v := 0) hx hb d_L_law_300 (by decide) ?_
    refine lv_aload_n hx hb d_L_law_301 rfl (lv_at hl 1 rfl) ?_
    have hPc := hP.sub (ws' := [(x, .inr (0, [.ref ql, .int 0, .ref rd, .ref rn, .int 0])), (ql, .inl (cl, 72, .inl (fun _ => 0))), (rd, .inr (7, [.ref qt, .int 0, .int 0, .ref pr])), (pr, .inr (6, [.ref qs, .int 0, .ref qn, .int 0, .ref qv, .ref qi])), (qs, .inl (cs, 36, .inr (.inr (.inr (.inr (fs)))))), (q0, .inr (9, [.int 5, .int 0, .int 0, .int (-1), .int 0])), (rn, .inr (8, [.ref pn, .ref qi2, .int 0, .ref qm, .ref qw, .ref qh, .ref qd, .ref qk, .int 0, .int 0, .int 0, .int 0, .int 0])), (qi2, .inr (1, [.ref qr, .int 0, .int 0])), (qr, .inl (cr, 20, .inl (fun _ => 0)))]) [0, 1, 2, 3, 4, 5, 6, 7, 8] rfl
    have hDc := hD.sub (ws' := [(x, .inr (0, [.ref ql, .int 0, .ref rd, .ref rn, .int 0])), (ql, .inl (cl, 72, .inl (fun _ => 0))), (rd, .inr (7, [.ref qt, .int 0, .int 0, .ref pr])), (pr, .inr (6, [.ref qs, .int 0, .ref qn, .int 0, .ref qv, .ref qi])), (qs, .inl (cs, 36, .inr (.inr (.inr (.inr (fs)))))), (q0, .inr (9, [.int 5, .int 0, .int 0, .int (-1), .int 0])), (rn, .inr (8, [.ref pn, .ref qi2, .int 0, .ref qm, .ref qw, .ref qh, .ref qd, .ref qk, .int 0, .int 0, .int 0, .int 0, .int 0])), (qi2, .inr (1, [.ref qr, .int 0, .int 0])), (qr, .inl (cr, 20, .inl (fun _ => 0)))]) [0, 1, 2, 3, 4, 5, 6, 7, 8] (by decide) rfl
    have hKc := hK.sub (tys' := [(cl, .char), (cs, (.object "BigRunner$Statement")), (cr, .int)]) [0, 1, 2] rfl
    have hFc := va_free (wc := [(x, .inr (0, [.ref ql, .int 0, .ref rd, .ref rn, .int 0])), (ql, .inl (cl, 72, .inl (fun _ => 0))), (rd, .inr (7, [.ref qt, .int 0, .int 0, .ref pr])), (pr, .inr (6, [.ref qs, .int 0, .ref qn, .int 0, .ref qv, .ref qi])), (qs, .inl (cs, 36, .inr (.inr (.inr (.inr (fs)))))), (q0, .inr (9, [.int 5, .int 0, .int 0, .int (-1), .int 0])), (rn, .inr (8, [.ref pn, .ref qi2, .int 0, .ref qm, .ref qw, .ref qh, .ref qd, .ref qk, .int 0, .int 0, .int 0, .int 0, .int 0])), (qi2, .inr (1, [.ref qr, .int 0, .int 0])), (qr, .inl (cr, 20, .inl (fun _ => 0)))]) hD hS hA [0, 1, 2, 3, 4, 5, 6, 7, 8] rfl
    have hZ1 := (hZS.kept (fun a h1 h2 => hS.2.1 a h1 h2)).narrow (B := fun _ => False) (fun _ h => h.elim)
    have hZ2 := (hZL.kept (fun a h1 h2 => hS.2.1 a h1 h2)).narrow (B := fun _ => False) (fun _ h => h.elim)
    refine va_calli (tw_runS (As := [.ref x, .int (xs 1), .int 0, .ref ob]) (rest := []) (n := 4) hx hb hml hown (c_L_bound l dC dI H.size x ql cl rd rn qt pr qs cs fs q0 qn qv qi pn qi2 qm qw qh qd qk qr cr ob (((xs 1))) 0 htr) (wd_882 hB _) (wd_71 hB _) (wd_880 hB _) (wd_881 hB _) (by decide +kernel) ⟨Nat.le_of_ble_eq_true rfl, Nat.le_of_ble_eq_true rfl⟩ rfl rfl ⟨fun a U g mk q => by obtain ⟨q0, q1, qB, qH, qP, qK, qD⟩ := q; exact ⟨q0, q1, TB.same (s := U) (U := U.calling g mk a) rfl qB, TH.moved (s := U) (U := U.calling g mk a) (Vm.Alike.refl U.vm) rfl qH, qP, va_K.moved (u := U) (U := U.calling g mk a) (Vm.Alike.refl U.vm) qK, qD⟩, fun U hU hW => ⟨rfl, by rw [hU], hB.moved hW, by unfold TH; rw [hU]; exact ⟨hZ1.moved hW.alike, hZ2.moved hW.alike⟩, by rw [hU]; exact hPc, va_K.moved hW.alike hKc, hDc.weaken (fun _ _ _ _ => trivial)⟩⟩ rfl rfl hl.1 rfl (lv_room (Nat.le_of_ble_eq_true rfl)) d_L_law_302 ⟨Nat.le_of_ble_eq_true rfl, Nat.le_of_ble_eq_true rfl⟩) hS (fun q _ h => hFc q h) hFc (fun r_ u_ t H1 locs ht hvm hw_ hB1 hz1 hk1 hS => ?_)
    obtain ⟨hP1, hK1, hD1⟩ := hB1
    rw [ht] at hP1
    have hK1 := va_K.moved hvm.symm hK1
    try dsimp only at hw_
    obtain ⟨hP, hD⟩ := va_join (wr := [(y, .inr (10, [.int 0, .ref mt, .int 0, .ref b0, .ref b1, .int 0, .ref b2, .ref b3, .ref b4, .int 0, .int 0, .int 0, .ref b5, .int 0, .ref b6, .ref b7, .int 0, .ref b8, .ref b9, .ref b10, .ref b11, .ref b12, .ref b13, .ref b14, .ref b15, .ref b16, .ref b17, .ref b18, .ref b19, .ref b20, .ref b21, .ref b22, .int 0, .ref b23, .ref b24, .ref mi, .int 0, .int 0, .int 0, .int 0, .int 0, .int 0, .int 0, .int 0, .int 0])), (mt, .inl (ct, 72, .inl (fun _ => 0))), (mi, .inl (cj, 20, .inl (fun _ => 0)))]) (w1 := []) hP hD [0, 1, 2, 3, 4, 5, 6, 7, 8] [9, 10, 11] rfl rfl (by decide) (by decide) hk1 hFc hP1 hD1
    have hK := (hK.sub (tys' := [(ct, .char), (cj, .int)]) [3, 4] rfl).app hK1
    clear hk1 hFc hPc hDc hKc hP1 hD1 hK1 hz1 ht hvm
    generalize H1 = H at hP hS ⊢
    have hP : va_P (dC, dI) vcl [(y, .inr (10, [.int 0, .ref mt, .int 0, .ref b0, .ref b1, .int 0, .ref b2, .ref b3, .ref b4, .int 0, .int 0, .int 0, .ref b5, .int 0, .ref b6, .ref b7, .int 0, .ref b8, .ref b9, .ref b10, .ref b11, .ref b12, .ref b13, .ref b14, .ref b15, .ref b16, .ref b17, .ref b18, .ref b19, .ref b20, .ref b21, .ref b22, .int 0, .ref b23, .ref b24, .ref mi, .int 0, .int 0, .int 0, .int 0, .int 0, .int 0, .int 0, .int 0, .int 0])), (mt, .inl (ct, 72, .inl (fun _ => 0))), (mi, .inl (cj, 20, .inl (fun _ => 0)))] H := hP
    have hD : va_D A [(y, .inr (10, [.int 0, .ref mt, .int 0, .ref b0, .ref b1, .int 0, .ref b2, .ref b3, .ref b4, .int 0, .int 0, .int 0, .ref b5, .int 0, .ref b6, .ref b7, .int 0, .ref b8, .ref b9, .ref b10, .ref b11, .ref b12, .ref b13, .ref b14, .ref b15, .ref b16, .ref b17, .ref b18, .ref b19, .ref b20, .ref b21, .ref b22, .int 0, .ref b23, .ref b24, .ref mi, .int 0, .int 0, .int 0, .int 0, .int 0, .int 0, .int 0, .int 0, .int 0])), (mt, .inl (ct, 72, .inl (fun _ => 0))), (mi, .inl (cj, 20, .inl (fun _ => 0)))] := hD
    have hK : va_K (dC, dI) vcl [(ct, .char), (cj, .int)] s := hK
    refine W.widen (k := 1001) (n := 20006) (by omega) (by omega) ?_
    subst hw_
    refine lv_istore (lv' := [(5, .int 1), (4, .int 0), (3, .ref ob), (2, .ref y), (1, .ref x), (0, .ref b)]) hx hb d_L_law_305 hl (by decide) rfl (fun ls hl => ?_)
    refine lv_aload_n hx hb d_L_law_307 rfl (lv_at hl 3 rfl) ?_
    refine lv_aload_n hx hb d_L_law_308 rfl (lv_at hl 5 rfl) ?_
    refine lv_iload hx hb d_L_law_309 (lv_at hl 1 rfl) ?_
    refine lv_iconst (v := 1) hx hb d_L_law_311 (by decide) ?_
    refine lv_iadd hx hb d_L_law_312 ?_
    refine lv_topi (fun z_ hz_ => ?_)
    have hz_ : z_ = 1 := hz_.trans (by decide)
    subst hz_
    refine va_sld hx hb hX hbl hbA hS (vp_in_nI (n := 1) (by decide) (by decide)) d_L_law_313 ?_
    refine W.eq (g2 := F0 m 314 ls [.int (xs 1), .ref y]) rfl ?_
    refine lv_aload_n hx hb d_L_law_314 rfl (lv_at hl 5 rfl) ?_
    refine lv_iload hx hb d_L_law_315 (lv_at hl 1 rfl) ?_
    refine lv_iconst (v := 2) hx hb d_L_law_317 (by decide) ?_
    refine lv_iadd hx hb d_L_law_318 ?_
    refine lv_topi (fun z_ hz_ => ?_)
    have hz_ : z_ = 2 := hz_.trans (by decide)
    subst hz_
    refine va_sld hx hb hX hbl hbA hS (vp_in_nI (n := 2) (by decide) (by decide)) d_L_law_319 ?_
    refine W.eq (g2 := F0 m 320 ls [.int (xs 2), .int (xs 1), .ref y]) rfl ?_
    refine lv_if_eq (tgt := 327) hx hb d_L_law_320 (by decide) (fun _ => ?_) (fun hq => absurd hz2 hq)
    refine lv_iconst (v := 0) hx hb d_L_law_327 (by decide) ?_
    have hPc := hP.sub (ws' := [(y, .inr (10, [.int 0, .ref mt, .int 0, .ref b0, .ref b1, .int 0, .ref b2, .ref b3, .ref b4, .int 0, .int 0, .int 0, .ref b5, .int 0, .ref b6, .ref b7, .int 0, .ref b8, .ref b9, .ref b10, .ref b11, .ref b12, .ref b13, .ref b14, .ref b15, .ref b16, .ref b17, .ref b18, .ref b19, .ref b20, .ref b21, .ref b22, .int 0, .ref b23, .ref b24, .ref mi, .int 0, .int 0, .int 0, .int 0, .int 0, .int 0, .int 0, .int 0, .int 0]))]) [0] rfl
    have hDc := hD.sub (ws' := [(y, .inr (10, [.int 0, .ref mt, .int 0, .ref b0, .ref b1, .int 0, .ref b2, .ref b3, .ref b4, .int 0, .int 0, .int 0, .ref b5, .int 0, .ref b6, .ref b7, .int 0, .ref b8, .ref b9, .ref b10, .ref b11, .ref b12, .ref b13, .ref b14, .ref b15, .ref b16, .ref b17, .ref b18, .ref b19, .ref b20, .ref b21, .ref b22, .int 0, .ref b23, .ref b24, .ref mi, .int 0, .int 0, .int 0, .int 0, .int 0, .int 0, .int 0, .int 0, .int 0]))]) [0] (by decide) rfl
    have hKc := hK.sub (tys' := []) [] rfl
    have hFc := va_free (wc := [(y, .inr (10, [.int 0, .ref mt, .int 0, .ref b0, .ref b1, .int 0, .ref b2, .ref b3, .ref b4, .int 0, .int 0, .int 0, .ref b5, .int 0, .ref b6, .ref b7, .int 0, .ref b8, .ref b9, .ref b10, .ref b11, .ref b12, .ref b13, .ref b14, .ref b15, .ref b16, .ref b17, .ref b18, .ref b19, .ref b20, .ref b21, .ref b22, .int 0, .ref b23, .ref b24, .ref mi, .int 0, .int 0, .int 0, .int 0, .int 0, .int 0, .int 0, .int 0, .int 0]))]) hD hS hA [0] rfl
    refine va_calll (va_runV (C := "BigRunnerModel") (As := [.int (xs 1), .int 0]) (rest := []) ⟨hx, hb, hml, hown, tb_nil⟩ (c_M_bound l dC dI H.size y mt ct mi cj b0 b1 b2 b3 b4 b5 b6 b7 b8 b9 b10 b11 b12 b13 b14 b15 b16 b17 b18 b19 b20 b21 b22 b23 b24 (((xs 1))) 0) ⟨(callB_of 2 (tb_one (wd_1269 hB _)) tb_good1 rfl rfl rfl (wd_82 hB _) (wd_1266 hB _) (by decide +kernel) ⟨Nat.le_of_ble_eq_true rfl, Nat.le_of_ble_eq_true rfl⟩), (wd_1267 hB _), (wd_1268 hB _)⟩ ⟨fun a U g mk q => by obtain ⟨q0, q1, qB, qP, qK, qD⟩ := q; exact ⟨q0, q1, TB.same (s := U) (U := U.calling g mk a) rfl qB, qP, va_K.moved (u := U) (U := U.calling g mk a) (Vm.Alike.refl U.vm) qK, qD⟩, va_recv hK hP (q0 := 0) (ci := 10) rfl rfl, fun U hU hW => ⟨rfl, by rw [hU], hB.moved hW, by rw [hU]; exact hPc, va_K.moved hW.alike hKc, hDc.weaken (fun _ _ _ _ => trivial)⟩⟩ rfl rfl hl.1 rfl (lv_room (Nat.le_of_ble_eq_true rfl)) d_L_law_328 ⟨(Nat.le_of_ble_eq_true rfl), (Nat.le_of_ble_eq_true rfl)⟩) hS (fun q _ h => hFc q h) hFc (fun r_ u_ t H1 locs ht hvm hw_ hB1 hz1 hk1 hS => ?_)
    obtain ⟨hP1, hK1, hD1⟩ := hB1
    rw [ht] at hP1
    have hK1 := va_K.moved hvm.symm hK1
    try dsimp only at hw_
    obtain ⟨hP, hD⟩ := va_join (wr := [(mt, .inl (ct, 72, .inl (fun _ => 0))), (mi, .inl (cj, 20, .inl (fun _ => 0)))]) (w1 := [(y, .inr (10, [.int 1, .ref mt, .int 0, .ref b0, .ref b1, .int 0, .ref b2, .ref b3, .ref b4, .int 0, .int 0, .int 0, .ref b5, .int 0, .ref b6, .ref b7, .int 0, .ref b8, .ref b9, .ref b10, .ref b11, .ref b12, .ref b13, .ref b14, .ref b15, .ref b16, .ref b17, .ref b18, .ref b19, .ref b20, .ref b21, .ref b22, .int 0, .ref b23, .ref b24, .ref mi, .int 0, .int 0, .int 0, .int 0, .int 0, .int 0, .int 0, .int 0, .int 0]))]) hP hD [0] [1, 2] rfl rfl (by decide) (by decide) hk1 hFc hP1 hD1
    have hK := (hK.sub (tys' := [(ct, .char), (cj, .int)]) [0, 1] rfl).app hK1
    clear hk1 hFc hPc hDc hKc hP1 hD1 hK1 hz1 ht hvm
    generalize H1 = H at hP hS ⊢
    have hP : va_P (dC, dI) vcl [(mt, .inl (ct, 72, .inl (fun _ => 0))), (mi, .inl (cj, 20, .inl (fun _ => 0))), (y, .inr (10, [.int 1, .ref mt, .int 0, .ref b0, .ref b1, .int 0, .ref b2, .ref b3, .ref b4, .int 0, .int 0, .int 0, .ref b5, .int 0, .ref b6, .ref b7, .int 0, .ref b8, .ref b9, .ref b10, .ref b11, .ref b12, .ref b13, .ref b14, .ref b15, .ref b16, .ref b17, .ref b18, .ref b19, .ref b20, .ref b21, .ref b22, .int 0, .ref b23, .ref b24, .ref mi, .int 0, .int 0, .int 0, .int 0, .int 0, .int 0, .int 0, .int 0, .int 0]))] H := hP
    have hD : va_D A [(mt, .inl (ct, 72, .inl (fun _ => 0))), (mi, .inl (cj, 20, .inl (fun _ => 0))), (y, .inr (10, [.int 1, .ref mt, .int 0, .ref b0, .ref b1, .int 0, .ref b2, .ref b3, .ref b4, .int 0, .int 0, .int 0, .ref b5, .int 0, .ref b6, .ref b7, .int 0, .ref b8, .ref b9, .ref b10, .ref b11, .ref b12, .ref b13, .ref b14, .ref b15, .ref b16, .ref b17, .ref b18, .ref b19, .ref b20, .ref b21, .ref b22, .int 0, .ref b23, .ref b24, .ref mi, .int 0, .int 0, .int 0, .int 0, .int 0, .int 0, .int 0, .int 0, .int 0]))] := hD
    have hK : va_K (dC, dI) vcl [(ct, .char), (cj, .int)] s := hK
    refine W.widen (k := 1001) (n := 20006) (by omega) (by omega) ?_
    subst hw_
    refine lv_lstore (lv' := [(6, .long 0), (5, .int 1), (4, .int 0), (3, .ref ob), (2, .ref y), (1, .ref x), (0, .ref b)]) hx hb d_L_law_331 hl (by decide) rfl (fun ls hl => ?_)
    refine lv_aload_n hx hb d_L_law_333 rfl (lv_at hl 4 rfl) ?_
    have hPc := hP.sub (ws' := [(y, .inr (10, [.int 1, .ref mt, .int 0, .ref b0, .ref b1, .int 0, .ref b2, .ref b3, .ref b4, .int 0, .int 0, .int 0, .ref b5, .int 0, .ref b6, .ref b7, .int 0, .ref b8, .ref b9, .ref b10, .ref b11, .ref b12, .ref b13, .ref b14, .ref b15, .ref b16, .ref b17, .ref b18, .ref b19, .ref b20, .ref b21, .ref b22, .int 0, .ref b23, .ref b24, .ref mi, .int 0, .int 0, .int 0, .int 0, .int 0, .int 0, .int 0, .int 0, .int 0]))]) [2] rfl
    have hDc := hD.sub (ws' := [(y, .inr (10, [.int 1, .ref mt, .int 0, .ref b0, .ref b1, .int 0, .ref b2, .ref b3, .ref b4, .int 0, .int 0, .int 0, .ref b5, .int 0, .ref b6, .ref b7, .int 0, .ref b8, .ref b9, .ref b10, .ref b11, .ref b12, .ref b13, .ref b14, .ref b15, .ref b16, .ref b17, .ref b18, .ref b19, .ref b20, .ref b21, .ref b22, .int 0, .ref b23, .ref b24, .ref mi, .int 0, .int 0, .int 0, .int 0, .int 0, .int 0, .int 0, .int 0, .int 0]))]) [2] (by decide) rfl
    have hKc := hK.sub (tys' := []) [] rfl
    have hFc := va_free (wc := [(y, .inr (10, [.int 1, .ref mt, .int 0, .ref b0, .ref b1, .int 0, .ref b2, .ref b3, .ref b4, .int 0, .int 0, .int 0, .ref b5, .int 0, .ref b6, .ref b7, .int 0, .ref b8, .ref b9, .ref b10, .ref b11, .ref b12, .ref b13, .ref b14, .ref b15, .ref b16, .ref b17, .ref b18, .ref b19, .ref b20, .ref b21, .ref b22, .int 0, .ref b23, .ref b24, .ref mi, .int 0, .int 0, .int 0, .int 0, .int 0, .int 0, .int 0, .int 0, .int 0]))]) hD hS hA [2] rfl
    refine va_calli (va_runV (C := "BigRunnerModel") (As := []) (rest := []) ⟨hx, hb, hml, hown, tb_nil⟩ (c_M_thrown l dC dI H.size y mt b0 b1 b2 b3 b4 b5 b6 b7 b8 b9 b10 b11 b12 b13 b14 b15 b16 b17 b18 b19 b20 b21 b22 b23 b24 mi 1 0 0 0 0 0 0 0 0 0 0 0 0 0 0 0 0 0) ⟨(callB_of 0 (tb_one (wd_1087 hB _)) tb_good1 rfl rfl rfl (wd_82 hB _) (wd_1084 hB _) (by decide +kernel) ⟨Nat.le_of_ble_eq_true rfl, Nat.le_of_ble_eq_true rfl⟩), (wd_1085 hB _), (wd_1086 hB _)⟩ ⟨fun a U g mk q => by obtain ⟨q0, q1, qB, qP, qK, qD⟩ := q; exact ⟨q0, q1, TB.same (s := U) (U := U.calling g mk a) rfl qB, qP, va_K.moved (u := U) (U := U.calling g mk a) (Vm.Alike.refl U.vm) qK, qD⟩, va_recv hK hP (q0 := 2) (ci := 10) rfl rfl, fun U hU hW => ⟨rfl, by rw [hU], hB.moved hW, by rw [hU]; exact hPc, va_K.moved hW.alike hKc, hDc.weaken (fun _ _ _ _ => trivial)⟩⟩ rfl rfl hl.1 rfl (lv_room (Nat.le_of_ble_eq_true rfl)) d_L_law_334 ⟨(Nat.le_of_ble_eq_true rfl), (Nat.le_of_ble_eq_true rfl)⟩) hS (fun q _ h => hFc q h) hFc (fun r_ u_ t H1 locs ht hvm hw_ hB1 hz1 hk1 hS => ?_)
    obtain ⟨hP1, hK1, hD1⟩ := hB1
    rw [ht] at hP1
    have hK1 := va_K.moved hvm.symm hK1
    try dsimp only at hw_
    obtain ⟨hP, hD⟩ := va_join (wr := [(mt, .inl (ct, 72, .inl (fun _ => 0))), (mi, .inl (cj, 20, .inl (fun _ => 0)))]) (w1 := []) hP hD [2] [0, 1] rfl rfl (by decide) (by decide) hk1 hFc hP1 hD1
    have hK := (hK.sub (tys' := [(ct, .char), (cj, .int)]) [0, 1] rfl).app hK1
    clear hk1 hFc hPc hDc hKc hP1 hD1 hK1 hz1 ht hvm
    generalize H1 = H at hP hS ⊢
    have hP : va_P (dC, dI) vcl [(mt, .inl (ct, 72, .inl (fun _ => 0))), (mi, .inl (cj, 20, .inl (fun _ => 0)))] H := hP
    have hD : va_D A [(mt, .inl (ct, 72, .inl (fun _ => 0))), (mi, .inl (cj, 20, .inl (fun _ => 0)))] := hD
    have hK : va_K (dC, dI) vcl [(ct, .char), (cj, .int)] s := hK
    refine W.widen (k := 1001) (n := 20006) (by omega) (by omega) ?_
    subst hw_
    refine lv_iload hx hb d_L_law_337 (lv_at hl 1 rfl) ?_
    refine lv_icmp_eq (tgt := 344) hx hb d_L_law_339 (by decide) (fun _ => ?_) (fun hq => absurd rfl hq)
    refine lv_iload hx hb d_L_law_344 (lv_at hl 1 rfl) ?_
    refine lv_if_ne (tgt := 360) hx hb d_L_law_346 (by decide) (fun _ => ?_) (fun hq => absurd hq (by decide))
    refine lv_goto (tgt := 524) hx hb d_L_law_360 (by decide) ?_
    exact law_524 hx hb hr hlocks hA2 hS (by omega) (by omega) hX hbl hbA (lv_sub hl [2, 6] rfl)
  · skip
    refine lv_aload_n hx hb d_L_law_280 rfl (lv_at hl 3 rfl) ?_
    refine lv_aload_n hx hb d_L_law_281 rfl (lv_at hl 4 rfl) ?_
    refine lv_iload hx hb d_L_law_282 (lv_at hl 0 rfl) ?_
    refine lv_iconst (v := 1) hx hb d_L_law_284 (by decide) ?_
    refine lv_iadd hx hb d_L_law_285 ?_
    refine lv_topi (fun z_ hz_ => ?_)
    have hz_ : z_ = 1 := hz_.trans (by decide)
    subst hz_
    refine va_sld hx hb hX hbl hbA hS (vp_in_nI (n := 1) (by decide) (by decide)) d_L_law_286 ?_
    refine W.eq (g2 := F0 m 287 ls [.int (xs 1), .ref x]) rfl ?_
    refine lv_aload_n hx hb d_L_law_287 rfl (lv_at hl 4 rfl) ?_
    refine lv_iload hx hb d_L_law_288 (lv_at hl 0 rfl) ?_
    refine lv_iconst (v := 2) hx hb d_L_law_290 (by decide) ?_
    refine lv_iadd hx hb d_L_law_291 ?_
    refine lv_topi (fun z_ hz_ => ?_)
    have hz_ : z_ = 2 := hz_.trans (by decide)
    subst hz_
    refine va_sld hx hb hX hbl hbA hS (vp_in_nI (n := 2) (by decide) (by decide)) d_L_law_292 ?_
    refine W.eq (g2 := F0 m 293 ls [.int (xs 2), .int (xs 1), .ref x]) rfl ?_
    refine lv_if_eq (tgt := 300) hx hb d_L_law_293 (by decide) (fun hq => absurd hq hz2) (fun _ => ?_)
    refine lv_iconst (v := 1) hx hb d_L_law_296 (by decide) ?_
    refine lv_goto (tgt := 301) hx hb d_L_law_297 (by decide) ?_
    refine lv_aload_n hx hb d_L_law_301 rfl (lv_at hl 1 rfl) ?_
    have hPc := hP.sub (ws' := [(x, .inr (0, [.ref ql, .int 0, .ref rd, .ref rn, .int 0])), (ql, .inl (cl, 72, .inl (fun _ => 0))), (rd, .inr (7, [.ref qt, .int 0, .int 0, .ref pr])), (pr, .inr (6, [.ref qs, .int 0, .ref qn, .int 0, .ref qv, .ref qi])), (qs, .inl (cs, 36, .inr (.inr (.inr (.inr (fs)))))), (q0, .inr (9, [.int 5, .int 0, .int 0, .int (-1), .int 0])), (rn, .inr (8, [.ref pn, .ref qi2, .int 0, .ref qm, .ref qw, .ref qh, .ref qd, .ref qk, .int 0, .int 0, .int 0, .int 0, .int 0])), (qi2, .inr (1, [.ref qr, .int 0, .int 0])), (qr, .inl (cr, 20, .inl (fun _ => 0)))]) [0, 1, 2, 3, 4, 5, 6, 7, 8] rfl
    have hDc := hD.sub (ws' := [(x, .inr (0, [.ref ql, .int 0, .ref rd, .ref rn, .int 0])), (ql, .inl (cl, 72, .inl (fun _ => 0))), (rd, .inr (7, [.ref qt, .int 0, .int 0, .ref pr])), (pr, .inr (6, [.ref qs, .int 0, .ref qn, .int 0, .ref qv, .ref qi])), (qs, .inl (cs, 36, .inr (.inr (.inr (.inr (fs)))))), (q0, .inr (9, [.int 5, .int 0, .int 0, .int (-1), .int 0])), (rn, .inr (8, [.ref pn, .ref qi2, .int 0, .ref qm, .ref qw, .ref qh, .ref qd, .ref qk, .int 0, .int 0, .int 0, .int 0, .int 0])), (qi2, .inr (1, [.ref qr, .int 0, .int 0])), (qr, .inl (cr, 20, .inl (fun _ => 0)))]) [0, 1, 2, 3, 4, 5, 6, 7, 8] (by decide) rfl
    have hKc := hK.sub (tys' := [(cl, .char), (cs, (.object "BigRunner$Statement")), (cr, .int)]) [0, 1, 2] rfl
    have hFc := va_free (wc := [(x, .inr (0, [.ref ql, .int 0, .ref rd, .ref rn, .int 0])), (ql, .inl (cl, 72, .inl (fun _ => 0))), (rd, .inr (7, [.ref qt, .int 0, .int 0, .ref pr])), (pr, .inr (6, [.ref qs, .int 0, .ref qn, .int 0, .ref qv, .ref qi])), (qs, .inl (cs, 36, .inr (.inr (.inr (.inr (fs)))))), (q0, .inr (9, [.int 5, .int 0, .int 0, .int (-1), .int 0])), (rn, .inr (8, [.ref pn, .ref qi2, .int 0, .ref qm, .ref qw, .ref qh, .ref qd, .ref qk, .int 0, .int 0, .int 0, .int 0, .int 0])), (qi2, .inr (1, [.ref qr, .int 0, .int 0])), (qr, .inl (cr, 20, .inl (fun _ => 0)))]) hD hS hA [0, 1, 2, 3, 4, 5, 6, 7, 8] rfl
    have hZ1 := (hZS.kept (fun a h1 h2 => hS.2.1 a h1 h2)).narrow (B := fun _ => False) (fun _ h => h.elim)
    have hZ2 := (hZL.kept (fun a h1 h2 => hS.2.1 a h1 h2)).narrow (B := fun _ => False) (fun _ h => h.elim)
    refine va_calli (tw_runS (As := [.ref x, .int (xs 1), .int 1, .ref ob]) (rest := []) (n := 4) hx hb hml hown (c_L_bound l dC dI H.size x ql cl rd rn qt pr qs cs fs q0 qn qv qi pn qi2 qm qw qh qd qk qr cr ob (((xs 1))) 1 htr) (wd_882 hB _) (wd_71 hB _) (wd_880 hB _) (wd_881 hB _) (by decide +kernel) ⟨Nat.le_of_ble_eq_true rfl, Nat.le_of_ble_eq_true rfl⟩ rfl rfl ⟨fun a U g mk q => by obtain ⟨q0, q1, qB, qH, qP, qK, qD⟩ := q; exact ⟨q0, q1, TB.same (s := U) (U := U.calling g mk a) rfl qB, TH.moved (s := U) (U := U.calling g mk a) (Vm.Alike.refl U.vm) rfl qH, qP, va_K.moved (u := U) (U := U.calling g mk a) (Vm.Alike.refl U.vm) qK, qD⟩, fun U hU hW => ⟨rfl, by rw [hU], hB.moved hW, by unfold TH; rw [hU]; exact ⟨hZ1.moved hW.alike, hZ2.moved hW.alike⟩, by rw [hU]; exact hPc, va_K.moved hW.alike hKc, hDc.weaken (fun _ _ _ _ => trivial)⟩⟩ rfl rfl hl.1 rfl (lv_room (Nat.le_of_ble_eq_true rfl)) d_L_law_302 ⟨Nat.le_of_ble_eq_true rfl, Nat.le_of_ble_eq_true rfl⟩) hS (fun q _ h => hFc q h) hFc (fun r_ u_ t H1 locs ht hvm hw_ hB1 hz1 hk1 hS => ?_)
    obtain ⟨hP1, hK1, hD1⟩ := hB1
    rw [ht] at hP1
    have hK1 := va_K.moved hvm.symm hK1
    try dsimp only at hw_
    obtain ⟨hP, hD⟩ := va_join (wr := [(y, .inr (10, [.int 0, .ref mt, .int 0, .ref b0, .ref b1, .int 0, .ref b2, .ref b3, .ref b4, .int 0, .int 0, .int 0, .ref b5, .int 0, .ref b6, .ref b7, .int 0, .ref b8, .ref b9, .ref b10, .ref b11, .ref b12, .ref b13, .ref b14, .ref b15, .ref b16, .ref b17, .ref b18, .ref b19, .ref b20, .ref b21, .ref b22, .int 0, .ref b23, .ref b24, .ref mi, .int 0, .int 0, .int 0, .int 0, .int 0, .int 0, .int 0, .int 0, .int 0])), (mt, .inl (ct, 72, .inl (fun _ => 0))), (mi, .inl (cj, 20, .inl (fun _ => 0)))]) (w1 := []) hP hD [0, 1, 2, 3, 4, 5, 6, 7, 8] [9, 10, 11] rfl rfl (by decide) (by decide) hk1 hFc hP1 hD1
    have hK := (hK.sub (tys' := [(ct, .char), (cj, .int)]) [3, 4] rfl).app hK1
    clear hk1 hFc hPc hDc hKc hP1 hD1 hK1 hz1 ht hvm
    generalize H1 = H at hP hS ⊢
    have hP : va_P (dC, dI) vcl [(y, .inr (10, [.int 0, .ref mt, .int 0, .ref b0, .ref b1, .int 0, .ref b2, .ref b3, .ref b4, .int 0, .int 0, .int 0, .ref b5, .int 0, .ref b6, .ref b7, .int 0, .ref b8, .ref b9, .ref b10, .ref b11, .ref b12, .ref b13, .ref b14, .ref b15, .ref b16, .ref b17, .ref b18, .ref b19, .ref b20, .ref b21, .ref b22, .int 0, .ref b23, .ref b24, .ref mi, .int 0, .int 0, .int 0, .int 0, .int 0, .int 0, .int 0, .int 0, .int 0])), (mt, .inl (ct, 72, .inl (fun _ => 0))), (mi, .inl (cj, 20, .inl (fun _ => 0)))] H := hP
    have hD : va_D A [(y, .inr (10, [.int 0, .ref mt, .int 0, .ref b0, .ref b1, .int 0, .ref b2, .ref b3, .ref b4, .int 0, .int 0, .int 0, .ref b5, .int 0, .ref b6, .ref b7, .int 0, .ref b8, .ref b9, .ref b10, .ref b11, .ref b12, .ref b13, .ref b14, .ref b15, .ref b16, .ref b17, .ref b18, .ref b19, .ref b20, .ref b21, .ref b22, .int 0, .ref b23, .ref b24, .ref mi, .int 0, .int 0, .int 0, .int 0, .int 0, .int 0, .int 0, .int 0, .int 0])), (mt, .inl (ct, 72, .inl (fun _ => 0))), (mi, .inl (cj, 20, .inl (fun _ => 0)))] := hD
    have hK : va_K (dC, dI) vcl [(ct, .char), (cj, .int)] s := hK
    refine W.widen (k := 1001) (n := 20006) (by omega) (by omega) ?_
    subst hw_
    refine lv_istore (lv' := [(5, .int 1), (4, .int 0), (3, .ref ob), (2, .ref y), (1, .ref x), (0, .ref b)]) hx hb d_L_law_305 hl (by decide) rfl (fun ls hl => ?_)
    refine lv_aload_n hx hb d_L_law_307 rfl (lv_at hl 3 rfl) ?_
    refine lv_aload_n hx hb d_L_law_308 rfl (lv_at hl 5 rfl) ?_
    refine lv_iload hx hb d_L_law_309 (lv_at hl 1 rfl) ?_
    refine lv_iconst (v := 1) hx hb d_L_law_311 (by decide) ?_
    refine lv_iadd hx hb d_L_law_312 ?_
    refine lv_topi (fun z_ hz_ => ?_)
    have hz_ : z_ = 1 := hz_.trans (by decide)
    subst hz_
    refine va_sld hx hb hX hbl hbA hS (vp_in_nI (n := 1) (by decide) (by decide)) d_L_law_313 ?_
    refine W.eq (g2 := F0 m 314 ls [.int (xs 1), .ref y]) rfl ?_
    refine lv_aload_n hx hb d_L_law_314 rfl (lv_at hl 5 rfl) ?_
    refine lv_iload hx hb d_L_law_315 (lv_at hl 1 rfl) ?_
    refine lv_iconst (v := 2) hx hb d_L_law_317 (by decide) ?_
    refine lv_iadd hx hb d_L_law_318 ?_
    refine lv_topi (fun z_ hz_ => ?_)
    have hz_ : z_ = 2 := hz_.trans (by decide)
    subst hz_
    refine va_sld hx hb hX hbl hbA hS (vp_in_nI (n := 2) (by decide) (by decide)) d_L_law_319 ?_
    refine W.eq (g2 := F0 m 320 ls [.int (xs 2), .int (xs 1), .ref y]) rfl ?_
    refine lv_if_eq (tgt := 327) hx hb d_L_law_320 (by decide) (fun hq => absurd hq hz2) (fun _ => ?_)
    refine lv_iconst (v := 1) hx hb d_L_law_323 (by decide) ?_
    refine lv_goto (tgt := 328) hx hb d_L_law_324 (by decide) ?_
    have hPc := hP.sub (ws' := [(y, .inr (10, [.int 0, .ref mt, .int 0, .ref b0, .ref b1, .int 0, .ref b2, .ref b3, .ref b4, .int 0, .int 0, .int 0, .ref b5, .int 0, .ref b6, .ref b7, .int 0, .ref b8, .ref b9, .ref b10, .ref b11, .ref b12, .ref b13, .ref b14, .ref b15, .ref b16, .ref b17, .ref b18, .ref b19, .ref b20, .ref b21, .ref b22, .int 0, .ref b23, .ref b24, .ref mi, .int 0, .int 0, .int 0, .int 0, .int 0, .int 0, .int 0, .int 0, .int 0]))]) [0] rfl
    have hDc := hD.sub (ws' := [(y, .inr (10, [.int 0, .ref mt, .int 0, .ref b0, .ref b1, .int 0, .ref b2, .ref b3, .ref b4, .int 0, .int 0, .int 0, .ref b5, .int 0, .ref b6, .ref b7, .int 0, .ref b8, .ref b9, .ref b10, .ref b11, .ref b12, .ref b13, .ref b14, .ref b15, .ref b16, .ref b17, .ref b18, .ref b19, .ref b20, .ref b21, .ref b22, .int 0, .ref b23, .ref b24, .ref mi, .int 0, .int 0, .int 0, .int 0, .int 0, .int 0, .int 0, .int 0, .int 0]))]) [0] (by decide) rfl
    have hKc := hK.sub (tys' := []) [] rfl
    have hFc := va_free (wc := [(y, .inr (10, [.int 0, .ref mt, .int 0, .ref b0, .ref b1, .int 0, .ref b2, .ref b3, .ref b4, .int 0, .int 0, .int 0, .ref b5, .int 0, .ref b6, .ref b7, .int 0, .ref b8, .ref b9, .ref b10, .ref b11, .ref b12, .ref b13, .ref b14, .ref b15, .ref b16, .ref b17, .ref b18, .ref b19, .ref b20, .ref b21, .ref b22, .int 0, .ref b23, .ref b24, .ref mi, .int 0, .int 0, .int 0, .int 0, .int 0, .int 0, .int 0, .int 0, .int 0]))]) hD hS hA [0] rfl
    refine va_calll (va_runV (C := "BigRunnerModel") (As := [.int (xs 1), .int 1]) (rest := []) ⟨hx, hb, hml, hown, tb_nil⟩ (c_M_bound l dC dI H.size y mt ct mi cj b0 b1 b2 b3 b4 b5 b6 b7 b8 b9 b10 b11 b12 b13 b14 b15 b16 b17 b18 b19 b20 b21 b22 b23 b24 (((xs 1))) 1) ⟨(callB_of 2 (tb_one (wd_1269 hB _)) tb_good1 rfl rfl rfl (wd_82 hB _) (wd_1266 hB _) (by decide +kernel) ⟨Nat.le_of_ble_eq_true rfl, Nat.le_of_ble_eq_true rfl⟩), (wd_1267 hB _), (wd_1268 hB _)⟩ ⟨fun a U g mk q => by obtain ⟨q0, q1, qB, qP, qK, qD⟩ := q; exact ⟨q0, q1, TB.same (s := U) (U := U.calling g mk a) rfl qB, qP, va_K.moved (u := U) (U := U.calling g mk a) (Vm.Alike.refl U.vm) qK, qD⟩, va_recv hK hP (q0 := 0) (ci := 10) rfl rfl, fun U hU hW => ⟨rfl, by rw [hU], hB.moved hW, by rw [hU]; exact hPc, va_K.moved hW.alike hKc, hDc.weaken (fun _ _ _ _ => trivial)⟩⟩ rfl rfl hl.1 rfl (lv_room (Nat.le_of_ble_eq_true rfl)) d_L_law_328 ⟨(Nat.le_of_ble_eq_true rfl), (Nat.le_of_ble_eq_true rfl)⟩) hS (fun q _ h => hFc q h) hFc (fun r_ u_ t H1 locs ht hvm hw_ hB1 hz1 hk1 hS => ?_)
    obtain ⟨hP1, hK1, hD1⟩ := hB1
    rw [ht] at hP1
    have hK1 := va_K.moved hvm.symm hK1
    try dsimp only at hw_
    obtain ⟨hP, hD⟩ := va_join (wr := [(mt, .inl (ct, 72, .inl (fun _ => 0))), (mi, .inl (cj, 20, .inl (fun _ => 0)))]) (w1 := [(y, .inr (10, [.int 1, .ref mt, .int 0, .ref b0, .ref b1, .int 0, .ref b2, .ref b3, .ref b4, .int 0, .int 0, .int 0, .ref b5, .int 0, .ref b6, .ref b7, .int 0, .ref b8, .ref b9, .ref b10, .ref b11, .ref b12, .ref b13, .ref b14, .ref b15, .ref b16, .ref b17, .ref b18, .ref b19, .ref b20, .ref b21, .ref b22, .int 0, .ref b23, .ref b24, .ref mi, .int 0, .int 0, .int 0, .int 0, .int 0, .int 0, .int 0, .int 0, .int 0]))]) hP hD [0] [1, 2] rfl rfl (by decide) (by decide) hk1 hFc hP1 hD1
    have hK := (hK.sub (tys' := [(ct, .char), (cj, .int)]) [0, 1] rfl).app hK1
    clear hk1 hFc hPc hDc hKc hP1 hD1 hK1 hz1 ht hvm
    generalize H1 = H at hP hS ⊢
    have hP : va_P (dC, dI) vcl [(mt, .inl (ct, 72, .inl (fun _ => 0))), (mi, .inl (cj, 20, .inl (fun _ => 0))), (y, .inr (10, [.int 1, .ref mt, .int 0, .ref b0, .ref b1, .int 0, .ref b2, .ref b3, .ref b4, .int 0, .int 0, .int 0, .ref b5, .int 0, .ref b6, .ref b7, .int 0, .ref b8, .ref b9, .ref b10, .ref b11, .ref b12, .ref b13, .ref b14, .ref b15, .ref b16, .ref b17, .ref b18, .ref b19, .ref b20, .ref b21, .ref b22, .int 0, .ref b23, .ref b24, .ref mi, .int 0, .int 0, .int 0, .int 0, .int 0, .int 0, .int 0, .int 0, .int 0]))] H := hP
    have hD : va_D A [(mt, .inl (ct, 72, .inl (fun _ => 0))), (mi, .inl (cj, 20, .inl (fun _ => 0))), (y, .inr (10, [.int 1, .ref mt, .int 0, .ref b0, .ref b1, .int 0, .ref b2, .ref b3, .ref b4, .int 0, .int 0, .int 0, .ref b5, .int 0, .ref b6, .ref b7, .int 0, .ref b8, .ref b9, .ref b10, .ref b11, .ref b12, .ref b13, .ref b14, .ref b15, .ref b16, .ref b17, .ref b18, .ref b19, .ref b20, .ref b21, .ref b22, .int 0, .ref b23, .ref b24, .ref mi, .int 0, .int 0, .int 0, .int 0, .int 0, .int 0, .int 0, .int 0, .int 0]))] := hD
    have hK : va_K (dC, dI) vcl [(ct, .char), (cj, .int)] s := hK
    refine W.widen (k := 1001) (n := 20006) (by omega) (by omega) ?_
    subst hw_
    refine lv_lstore (lv' := [(6, .long 0), (5, .int 1), (4, .int 0), (3, .ref ob), (2, .ref y), (1, .ref x), (0, .ref b)]) hx hb d_L_law_331 hl (by decide) rfl (fun ls hl => ?_)
    refine lv_aload_n hx hb d_L_law_333 rfl (lv_at hl 4 rfl) ?_
    have hPc := hP.sub (ws' := [(y, .inr (10, [.int 1, .ref mt, .int 0, .ref b0, .ref b1, .int 0, .ref b2, .ref b3, .ref b4, .int 0, .int 0, .int 0, .ref b5, .int 0, .ref b6, .ref b7, .int 0, .ref b8, .ref b9, .ref b10, .ref b11, .ref b12, .ref b13, .ref b14, .ref b15, .ref b16, .ref b17, .ref b18, .ref b19, .ref b20, .ref b21, .ref b22, .int 0, .ref b23, .ref b24, .ref mi, .int 0, .int 0, .int 0, .int 0, .int 0, .int 0, .int 0, .int 0, .int 0]))]) [2] rfl
    have hDc := hD.sub (ws' := [(y, .inr (10, [.int 1, .ref mt, .int 0, .ref b0, .ref b1, .int 0, .ref b2, .ref b3, .ref b4, .int 0, .int 0, .int 0, .ref b5, .int 0, .ref b6, .ref b7, .int 0, .ref b8, .ref b9, .ref b10, .ref b11, .ref b12, .ref b13, .ref b14, .ref b15, .ref b16, .ref b17, .ref b18, .ref b19, .ref b20, .ref b21, .ref b22, .int 0, .ref b23, .ref b24, .ref mi, .int 0, .int 0, .int 0, .int 0, .int 0, .int 0, .int 0, .int 0, .int 0]))]) [2] (by decide) rfl
    have hKc := hK.sub (tys' := []) [] rfl
    have hFc := va_free (wc := [(y, .inr (10, [.int 1, .ref mt, .int 0, .ref b0, .ref b1, .int 0, .ref b2, .ref b3, .ref b4, .int 0, .int 0, .int 0, .ref b5, .int 0, .ref b6, .ref b7, .int 0, .ref b8, .ref b9, .ref b10, .ref b11, .ref b12, .ref b13, .ref b14, .ref b15, .ref b16, .ref b17, .ref b18, .ref b19, .ref b20, .ref b21, .ref b22, .int 0, .ref b23, .ref b24, .ref mi, .int 0, .int 0, .int 0, .int 0, .int 0, .int 0, .int 0, .int 0, .int 0]))]) hD hS hA [2] rfl
    refine va_calli (va_runV (C := "BigRunnerModel") (As := []) (rest := []) ⟨hx, hb, hml, hown, tb_nil⟩ (c_M_thrown l dC dI H.size y mt b0 b1 b2 b3 b4 b5 b6 b7 b8 b9 b10 b11 b12 b13 b14 b15 b16 b17 b18 b19 b20 b21 b22 b23 b24 mi 1 0 0 0 0 0 0 0 0 0 0 0 0 0 0 0 0 0) ⟨(callB_of 0 (tb_one (wd_1087 hB _)) tb_good1 rfl rfl rfl (wd_82 hB _) (wd_1084 hB _) (by decide +kernel) ⟨Nat.le_of_ble_eq_true rfl, Nat.le_of_ble_eq_true rfl⟩), (wd_1085 hB _), (wd_1086 hB _)⟩ ⟨fun a U g mk q => by obtain ⟨q0, q1, qB, qP, qK, qD⟩ := q; exact ⟨q0, q1, TB.same (s := U) (U := U.calling g mk a) rfl qB, qP, va_K.moved (u := U) (U := U.calling g mk a) (Vm.Alike.refl U.vm) qK, qD⟩, va_recv hK hP (q0 := 2) (ci := 10) rfl rfl, fun U hU hW => ⟨rfl, by rw [hU], hB.moved hW, by rw [hU]; exact hPc, va_K.moved hW.alike hKc, hDc.weaken (fun _ _ _ _ => trivial)⟩⟩ rfl rfl hl.1 rfl (lv_room (Nat.le_of_ble_eq_true rfl)) d_L_law_334 ⟨(Nat.le_of_ble_eq_true rfl), (Nat.le_of_ble_eq_true rfl)⟩) hS (fun q _ h => hFc q h) hFc (fun r_ u_ t H1 locs ht hvm hw_ hB1 hz1 hk1 hS => ?_)
    obtain ⟨hP1, hK1, hD1⟩ := hB1
    rw [ht] at hP1
    have hK1 := va_K.moved hvm.symm hK1
    try dsimp only at hw_
    obtain ⟨hP, hD⟩ := va_join (wr := [(mt, .inl (ct, 72, .inl (fun _ => 0))), (mi, .inl (cj, 20, .inl (fun _ => 0)))]) (w1 := []) hP hD [2] [0, 1] rfl rfl (by decide) (by decide) hk1 hFc hP1 hD1
    have hK := (hK.sub (tys' := [(ct, .char), (cj, .int)]) [0, 1] rfl).app hK1
    clear hk1 hFc hPc hDc hKc hP1 hD1 hK1 hz1 ht hvm
    generalize H1 = H at hP hS ⊢
    have hP : va_P (dC, dI) vcl [(mt, .inl (ct, 72, .inl (fun _ => 0))), (mi, .inl (cj, 20, .inl (fun _ => 0)))] H := hP
    have hD : va_D A [(mt, .inl (ct, 72, .inl (fun _ => 0))), (mi, .inl (cj, 20, .inl (fun _ => 0)))] := hD
    have hK : va_K (dC, dI) vcl [(ct, .char), (cj, .int)] s := hK
    refine W.widen (k := 1001) (n := 20006) (by omega) (by omega) ?_
    subst hw_
    refine lv_iload hx hb d_L_law_337 (lv_at hl 1 rfl) ?_
    refine lv_icmp_eq (tgt := 344) hx hb d_L_law_339 (by decide) (fun _ => ?_) (fun hq => absurd rfl hq)
    refine lv_iload hx hb d_L_law_344 (lv_at hl 1 rfl) ?_
    refine lv_if_ne (tgt := 360) hx hb d_L_law_346 (by decide) (fun _ => ?_) (fun hq => absurd hq (by decide))
    refine lv_goto (tgt := 524) hx hb d_L_law_360 (by decide) ?_
    exact law_524 hx hb hr hlocks hA2 hS (by omega) (by omega) hX hbl hbA (lv_sub hl [2, 6] rfl)
