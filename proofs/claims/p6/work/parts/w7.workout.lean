set_option maxHeartbeats 4000000 in
set_option maxRecDepth 100000 in
theorem v_workOut (l : Launch) (g : Lay) (sz : Nat) (f : Nat → va_E) (X : Nat) (pr : Nat) (ix : Nat) (os : Nat) (st : Nat) (mo : Int32) (lo : Int32) (tr : Nat) (s9 : Nat) (kd : Nat) (nm : Nat) (fn : Nat) (la : Nat) (ta : Nat) (T : TT) (en : Nat → IVL) (E : List (Nat × Nat)) (vr : Nat → Int) (hL : LO g) (t_X : g.tg X = 9) (t_pr : g.tg pr = 7) (hI : IV g f) (eX : f X = .inr (8, [.ref pr, .ref (g.lk X 1), .int (nI ix), .ref (g.lk X 3), .ref (g.lk X 4), .ref (g.lk X 5), .ref (g.lk X 6), .ref (g.lk X 7), .int (nI os), .int (nI st), .int mo, .int lo, .int (nI tr)])) (hix : ix ≤ 36) (hos : os ≤ st) (hst : st ≤ 3000) (htr : tr ≤ 3) (hs36 : s9 < 36) (eS : f (g.lk (g.lk pr 0) s9) = .inr (9, [.int (nI kd), .int (nI nm), .int (nI fn), .int ((nI la)), .int (nI ta)])) (hTP : TPN g f pr T) (hTB : TB2 T) (henK : enK en) (hNR : NRT T en [] [] fn E) (hla : la + 1 = fn + E.length) (hfn : fn + E.length ≤ 72) (hE0 : 0 < E.length) (hV : VARS g f X en vr) (hVI : VIN en vr) : Met l ⟨"BigRunner$Runner", "workOut", "(LBigRunner$Statement;)I"⟩ [Cond.code ⟨"BigRunner$Runner", "workOut", "(LBigRunner$Statement;)I"⟩ prog_9_method_13_code 5 (some .int)] ({ frames := 5, cells := 0, slots := 0, locals := 136 }) (va_Pc [.ref X, .ref (g.lk (g.lk pr 0) s9)] (pc_in g sz f)) (va_Qi (fun r f1 => (∃ (mo1 : Int32) (lo1 : Int32), f1 X = .inr (8, [.ref pr, .ref (g.lk X 1), .int (nI ix), .ref (g.lk X 3), .ref (g.lk X 4), .ref (g.lk X 5), .ref (g.lk X 6), .ref (g.lk X 7), .int (nI os), .int (nI st), .int mo1, .int lo1, .int (nI tr)])) ∧ (r = nI ((evs vr E []).1)) ∧ ((evs vr E []).1 = 0 → VL g f1 pr (T 3 la) la ((evs vr E []).2.headD 0) ∧ ivin ((evs vr E []).2.headD 0) ((xsts en [] E).headD zI) ∧ iK ((xsts en [] E).headD zI)) ∧ (FW g f f1) ∧ (TPN g f1 pr T) ∧ (IV g f1) ∧ (un [4, 5, 6, 9, 22, 23] g f f1)) (pc_out g sz) (pc_A g sz)) 0 0 (pc_A g sz) := by
  refine pe_ofW (cc := prog_9_method_13_code) (maxL := 5) (ret := (some .int)) (lv := [(0, .ref X), (1, .ref (g.lk (g.lk pr 0) s9))]) (by decide) (Nat.le_of_ble_eq_true rfl) rfl ?_
  intro p e s m args below meth c ls hx hb hr hml hlocks hown hB hP hK hD hsz hS hl
  subst hsz
  have hu : un [4, 5, 6, 9, 22, 23] g f f := un.rf
  refine lv_aload_n hx hb d_NRunner_workOut_0 rfl (lv_at hl 1 rfl) ?_
  refine pf_get (v := .int (nI fn)) (C := "BigRunner$Statement") (T := FT9) (N := 5) hx hb (hw9 hB _) (fun _ h9 => h9) hown hK hP (lo_in hL (lo_e24 hL _ (lo_k7_0 hL _ t_pr) s9 hs36) (by decide)) eS rfl 2 (by decide) (wd_154 hB _) rfl d_NRunner_workOut_1 ?_
  refine lv_istore_n (lv' := [(2, .int (nI fn)), (0, .ref X), (1, .ref (g.lk (g.lk pr 0) s9))]) hx hb d_NRunner_workOut_4 rfl hl (by decide) rfl (fun ls hl => ?_)
  have lp1 : ∀ (k3 : Nat) (i : Nat) (sk : List Nat) (V : List Int) (SI : List IVL) (Er : List (Nat × Nat)) (mo2 : Int32) (lo2 : Int32) (f2 : Nat → va_E) (H : Heap) (locs : List Loc) (ls : Array Slot), (la + 1 < i + k3) → (fn ≤ i ∧ i ≤ la + 1) → (i + Er.length = la + 1) → (NRT T en sk SI i Er) → (VS g f2 pr T i sk V SI) → (evs vr E [] = evs vr Er V) → (xsts en [] E = xsts en SI Er) → (pst [] fn E = pst sk i Er) → (TPN g f2 pr T) → (FW g f f2) → (VARS g f2 X en vr) → f2 X = .inr (8, [.ref pr, .ref (g.lk X 1), .int (nI ix), .ref (g.lk X 3), .ref (g.lk X 4), .ref (g.lk X 5), .ref (g.lk X 6), .ref (g.lk X 7), .int (nI os), .int (nI st), .int mo2, .int lo2, .int (nI tr)]) → IV g f2 → un [4, 5, 6, 9, 22, 23] g f f2 → lv_has ls 5 [(2, .int (nI i)), (0, .ref X), (1, .ref (g.lk (g.lk pr 0) s9))] → va_P g.D vcl (va_pl g.LP f2) H → va_D (pc_A g s.heap.size) (va_pl g.LP f2) → va_S (pc_A g s.heap.size) s.heap H locs → W p l e ({ frames := 5, cells := 0, slots := 0, locals := 136 }) s m args below meth c H locs 0 0 (MQ below (va_Qi (fun r f1 => (∃ (mo1 : Int32) (lo1 : Int32), f1 X = .inr (8, [.ref pr, .ref (g.lk X 1), .int (nI ix), .ref (g.lk X 3), .ref (g.lk X 4), .ref (g.lk X 5), .ref (g.lk X 6), .ref (g.lk X 7), .int (nI os), .int (nI st), .int mo1, .int lo1, .int (nI tr)])) ∧ (r = nI ((evs vr E []).1)) ∧ ((evs vr E []).1 = 0 → VL g f1 pr (T 3 la) la ((evs vr E []).2.headD 0) ∧ ivin ((evs vr E []).2.headD 0) ((xsts en [] E).headD zI) ∧ iK ((xsts en [] E).headD zI)) ∧ (FW g f f1) ∧ (TPN g f1 pr T) ∧ (IV g f1) ∧ (un [4, 5, 6, 9, 22, 23] g f f1)) (pc_out g s.heap.size) (pc_A g s.heap.size)) args s 0 0 (pc_A g s.heap.size)) (F0 m 5 ls []) := by
    intro k3
    induction k3 with
    | zero => intros; exfalso; omega
    | succ k3 ih4 =>
      intro i sk V SI Er mo2 lo2 f2 H locs ls hfu5 hi hlen hNRr hVS hev hxs hps hTPi hFW hVi e6 hI7 hv8 hl hP hD hS
      have eS := hv8.at (lo_e24 hL _ (lo_k7_0 hL _ t_pr) s9 hs36) (by decide) eS
      have hu := hu.tr hv8 (by decide)
      refine lv_iload_n hx hb d_NRunner_workOut_5 rfl (lv_at hl 0 rfl) ?_
      refine lv_aload_n hx hb d_NRunner_workOut_6 rfl (lv_at hl 2 rfl) ?_
      refine pf_get (v := .int (nI la)) (C := "BigRunner$Statement") (T := FT9) (N := 5) hx hb (hw9 hB _) (fun _ h9 => h9) hown hK hP (lo_in hL (lo_e24 hL _ (lo_k7_0 hL _ t_pr) s9 hs36) (by decide)) eS rfl 3 (by decide) (wd_157 hB _) rfl d_NRunner_workOut_7 ?_
      refine lv_icmp_gt (tgt := 85) hx hb d_NRunner_workOut_10 (by decide) (fun b9 => ?_) (fun b9 => ?_)
      · skip
        replace b9 := (nI_ltI (a := la) (b := i) (by omega) (by omega)).mp b9
        have hEr9 : Er = [] := List.eq_nil_of_length_eq_zero (by omega)
        subst hEr9
        obtain ⟨r8, hr8⟩ := pst_hd E [] fn hE0
        have hst8 : sk = la :: r8 := by rw [show pst [] fn E = sk from hps] at hr8; rw [hr8, show fn + E.length - 1 = la by omega]
        subst hst8
        obtain ⟨v8, V8, X8, S8, hV8, hS8, hj8, hL8, hi8, hK8, hR8⟩ := hVS
        subst hV8
        subst hS8
        refine lv_iconst (v := nI 0) hx hb d_NRunner_workOut_85 (by decide) ?_
        exact pe_iret hx hb hr hlocks hK hP hD hS d_NRunner_workOut_86 ⟨⟨mo2, lo2, e6⟩, (by rw [hev]; rfl), (fun _ => by rw [hev, hxs]; exact ⟨hL8, hi8, hK8⟩), hFW, hTPi, hI7, hu⟩
      · skip
        replace b9 := mt (nI_ltI (a := la) (b := i) (by omega) (by omega)).mpr b9
        cases Er with
        | nil => exfalso; have : i + 0 = la + 1 := hlen; omega
        | cons x9 E9 =>
          obtain ⟨w9, a9⟩ := x9
          obtain ⟨hTN9, hSB9, hNR9⟩ := hNRr
          have hlen9 : i + (E9.length + 1) = la + 1 := hlen
          have hi72 : i < 72 := by omega
          obtain ⟨hk9, hW8, hz0, hz1, hz7, hz2⟩ := hTN9
          obtain ⟨hs0, hs1, hsb, hs2⟩ := hSB9
          obtain ⟨hb0, hb1, hb2, hb3, hb4⟩ := hTB.1 i hi72
          obtain ⟨mv9, eN9, hm9⟩ := hTPi i hi72
          rcases (show w9 = 0 ∨ w9 = 1 ∨ w9 = 2 ∨ w9 = 3 ∨ w9 = 4 ∨ w9 = 5 ∨ w9 = 6 ∨ w9 = 7 by omega) with rfl | rfl | rfl | rfl | rfl | rfl | rfl | rfl
          · skip
            have hkd9 : T 0 i = 0 := hk9
            have h39 : T 3 i = 1 := hs0 rfl
            rw [hkd9, h39] at eN9
            have eN8 := eN9
            refine lv_aload_n hx hb d_NRunner_workOut_13 rfl (lv_at hl 1 rfl) ?_
            refine pf_get (v := .ref pr) (C := "BigRunner$Runner") (T := FT8) (N := 13) hx hb (hw8 hB _) (fun _ h9 => h9) hown hK hP (lo_in hL t_X (by decide)) e6 rfl 0 (by decide) (wd_330 hB _) rfl d_NRunner_workOut_14 ?_
            obtain ⟨sc_11, nc_12, e10, c13, c14⟩ := oc_7.of t_pr (hI7.1 pr)
            refine pf_get (v := .ref (g.lk pr 2)) (C := "BigRunner$Program") (T := FT6) (N := 6) hx hb (hw6 hB _) (fun _ h9 => h9) hown hK hP (lo_in hL t_pr (by decide)) e10 rfl 2 (by decide) (wd_249 hB _) rfl d_NRunner_workOut_17 ?_
            refine lv_iload_n hx hb d_NRunner_workOut_20 rfl (lv_at hl 0 rfl) ?_
            have e15 := oc_25.of (lo_k7_2 hL _ t_pr) (hI7.1 (g.lk pr 2))
            refine pf_aald (i := i) hx hb hK hP (lo_in hL (lo_k7_2 hL _ t_pr) (by decide)) e15 (lo_t25 hL _ (lo_k7_2 hL _ t_pr)) (by omega) (by decide) d_NRunner_workOut_21 ?_
            have t16 := lo_e25 hL _ (lo_k7_2 hL _ t_pr) i (by omega)
            refine lv_astore_n (lv' := [(3, .ref (g.lk (g.lk pr 2) i)), (2, .int (nI i)), (0, .ref X), (1, .ref (g.lk (g.lk pr 0) s9))]) hx hb d_NRunner_workOut_22 rfl hl (by decide) rfl (fun ls hl => ?_)
            refine lv_iconst (v := nI 0) hx hb d_NRunner_workOut_23 (by decide) ?_
            refine lv_istore (lv' := [(4, .int (nI 0)), (3, .ref (g.lk (g.lk pr 2) i)), (2, .int (nI i)), (0, .ref X), (1, .ref (g.lk (g.lk pr 0) s9))]) hx hb d_NRunner_workOut_24 hl (by decide) rfl (fun ls hl => ?_)
            refine lv_aload_n hx hb d_NRunner_workOut_26 rfl (lv_at hl 1 rfl) ?_
            refine pf_get (v := .int (nI 0)) (C := "BigRunner$Node") (T := FT5) (N := 7) hx hb (hw5 hB _) (fun _ h9 => h9) hown hK hP (lo_in hL t16 (by decide)) eN8 rfl 0 (by decide) (wd_204 hB _) rfl d_NRunner_workOut_27 ?_
            refine lv_iconst (v := nI 1) hx hb d_NRunner_workOut_30 (by decide) ?_
            refine lv_icmp_ne (tgt := 42) hx hb d_NRunner_workOut_31 (by decide) (fun b17 => ?_) (fun b17 => ?_)
            · skip
              replace b17 := mt (nI_eq (a := 0) (b := 1) (by omega) (by omega)).mpr b17
              refine lv_aload_n hx hb d_NRunner_workOut_42 rfl (lv_at hl 1 rfl) ?_
              refine pf_get (v := .int (nI 0)) (C := "BigRunner$Node") (T := FT5) (N := 7) hx hb (hw5 hB _) (fun _ h9 => h9) hown hK hP (lo_in hL t16 (by decide)) eN8 rfl 0 (by decide) (wd_204 hB _) rfl d_NRunner_workOut_43 ?_
              refine lv_if_eq (tgt := 71) hx hb d_NRunner_workOut_46 (by decide) (fun b18 => ?_) (fun b18 => ?_)
              · skip
                replace b18 := (nI_eq (a := 0) (b := 0) (by omega) (by omega)).mp b18
                refine lv_iload hx hb d_NRunner_workOut_71 (lv_at hl 0 rfl) ?_
                refine lv_if_eq (tgt := 79) hx hb d_NRunner_workOut_73 (by decide) (fun b19 => ?_) (fun b19 => ?_)
                · skip
                  replace b19 := (nI_eq (a := 0) (b := 0) (by omega) (by omega)).mp b19
                  refine lv_iinc (k := 2) (v := nI (i + 1)) (lv' := [(2, .int (nI (i + 1))), (4, .int (nI 0)), (3, .ref (g.lk (g.lk pr 2) i)), (0, .ref X), (1, .ref (g.lk (g.lk pr 0) s9))]) hx hb d_NRunner_workOut_79 hl rfl (by rw [nI_succ]; rfl) (by decide) rfl (fun ls hl => ?_)
                  refine lv_goto (tgt := 5) hx hb d_NRunner_workOut_82 (by decide) ?_
                  have hl : lv_has ls 5 [(2, .int (nI (i + 1))), (0, .ref X), (1, .ref (g.lk (g.lk pr 0) s9))] := lv_sub hl [0, 3, 4] rfl
                  exact ih4 (i + 1) ((i :: sk)) (((a9 : Int) :: V)) ((xst en SI 0 a9)) E9 mo2 lo2 f2 H locs ls (by omega) (by omega) (by have z9 := hlen9; omega) hNR9 ⟨_, _, _, _, rfl, rfl, Nat.lt_succ_self i, (by rw [h39]; exact ⟨_, _, _, mv9, eN8, fun _ => ⟨by rw [hm9 hkd9 a9 (hz0 rfl).1]; exact nL_toInt (by have := (hz0 rfl).2; omega), by have := (hz0 rfl).2; omega⟩, fun z => absurd z (by decide), T12_60 (by have := (hz0 rfl).2; omega)⟩), ivin_1 _, (iK_ivn (henK a9) iK_z (fun _ => (hz0 rfl).2)), hVS⟩ (hev.trans (evs_ok (ev1_0 vr a9 V))) hxs hps hTPi hFW hVi e6 hI7 hv8 hl hP hD hS
                · skip
                  replace b19 := mt (nI_eq (a := 0) (b := 0) (by omega) (by omega)).mpr b19
                  exfalso; omega
              · skip
                replace b18 := mt (nI_eq (a := 0) (b := 0) (by omega) (by omega)).mpr b18
                exfalso; omega
            · skip
              replace b17 := (nI_eq (a := 0) (b := 1) (by omega) (by omega)).mp b17
              exfalso; omega
          · skip
            have hkd9 : T 0 i = 1 := hk9
            rcases hb4 with h39 | h39
            · skip
              obtain ⟨hT19, ha9⟩ := hz1 rfl
              have hbd9 := hs1 rfl
              rw [hkd9, h39, hT19] at eN9
              have eN8 := eN9
              refine lv_aload_n hx hb d_NRunner_workOut_13 rfl (lv_at hl 1 rfl) ?_
              refine pf_get (v := .ref pr) (C := "BigRunner$Runner") (T := FT8) (N := 13) hx hb (hw8 hB _) (fun _ h9 => h9) hown hK hP (lo_in hL t_X (by decide)) e6 rfl 0 (by decide) (wd_330 hB _) rfl d_NRunner_workOut_14 ?_
              obtain ⟨sc_21, nc_22, e20, c23, c24⟩ := oc_7.of t_pr (hI7.1 pr)
              refine pf_get (v := .ref (g.lk pr 2)) (C := "BigRunner$Program") (T := FT6) (N := 6) hx hb (hw6 hB _) (fun _ h9 => h9) hown hK hP (lo_in hL t_pr (by decide)) e20 rfl 2 (by decide) (wd_249 hB _) rfl d_NRunner_workOut_17 ?_
              refine lv_iload_n hx hb d_NRunner_workOut_20 rfl (lv_at hl 0 rfl) ?_
              have e25 := oc_25.of (lo_k7_2 hL _ t_pr) (hI7.1 (g.lk pr 2))
              refine pf_aald (i := i) hx hb hK hP (lo_in hL (lo_k7_2 hL _ t_pr) (by decide)) e25 (lo_t25 hL _ (lo_k7_2 hL _ t_pr)) (by omega) (by decide) d_NRunner_workOut_21 ?_
              have t26 := lo_e25 hL _ (lo_k7_2 hL _ t_pr) i (by omega)
              refine lv_astore_n (lv' := [(3, .ref (g.lk (g.lk pr 2) i)), (2, .int (nI i)), (0, .ref X), (1, .ref (g.lk (g.lk pr 0) s9))]) hx hb d_NRunner_workOut_22 rfl hl (by decide) rfl (fun ls hl => ?_)
              refine lv_iconst (v := nI 0) hx hb d_NRunner_workOut_23 (by decide) ?_
              refine lv_istore (lv' := [(4, .int (nI 0)), (3, .ref (g.lk (g.lk pr 2) i)), (2, .int (nI i)), (0, .ref X), (1, .ref (g.lk (g.lk pr 0) s9))]) hx hb d_NRunner_workOut_24 hl (by decide) rfl (fun ls hl => ?_)
              refine lv_aload_n hx hb d_NRunner_workOut_26 rfl (lv_at hl 1 rfl) ?_
              refine pf_get (v := .int (nI 1)) (C := "BigRunner$Node") (T := FT5) (N := 7) hx hb (hw5 hB _) (fun _ h9 => h9) hown hK hP (lo_in hL t26 (by decide)) eN8 rfl 0 (by decide) (wd_204 hB _) rfl d_NRunner_workOut_27 ?_
              refine lv_iconst (v := nI 1) hx hb d_NRunner_workOut_30 (by decide) ?_
              refine lv_icmp_ne (tgt := 42) hx hb d_NRunner_workOut_31 (by decide) (fun b27 => ?_) (fun b27 => ?_)
              · skip
                replace b27 := mt (nI_eq (a := 1) (b := 1) (by omega) (by omega)).mpr b27
                exfalso; omega
              · skip
                replace b27 := (nI_eq (a := 1) (b := 1) (by omega) (by omega)).mp b27
                refine lv_aload_n hx hb d_NRunner_workOut_34 rfl (lv_at hl 3 rfl) ?_
                refine lv_aload_n hx hb d_NRunner_workOut_35 rfl (lv_at hl 1 rfl) ?_
                have hVj := hVi
                obtain ⟨hM9, eM9, hva9⟩ := hVj
                obtain ⟨hvs9, hvl9⟩ := hva9 a9 ha9
                obtain ⟨sg9, nn9, dd9, ea9, eb9, hN9⟩ := hvl9 (fun q => absurd (h39.symm.trans (hbd9.mpr q)) (by decide))
                have cb9 : ∀ i, i < 15 → ∃ k, k < 1000000000 ∧ dd9 i = nI k := hN9.2.1
                have hnn9 : nn9 ≤ 15 := hN9.1
                refine pcc_v (va_runV (C := "BigRunner$Runner") (As := [.ref (g.lk (g.lk pr 2) i)]) (rest := []) ⟨hx, hb, hml, hown, tb_nil⟩ (v_fetchL l g H.size f2 X pr ix os st mo2 lo2 tr i a9 ((T 2 i)) mv9 sg9 nn9 dd9 ((vr a9)) hL t_X t_pr hI7 e6 (by omega) (by omega) (by omega) (by omega) eN8 (by omega) (by omega) ea9 eb9 hN9) ⟨(callB_of 1 (tb_one (wd_742 hB _)) tb_good1 rfl rfl rfl (wd_79 hB _) (wd_739 hB _) (by decide +kernel) ⟨Nat.le_of_ble_eq_true rfl, Nat.le_of_ble_eq_true rfl⟩), (wd_741 hB _), (wd_27 hB _)⟩ ⟨pe_bl, pg_recv (ci := 8) hK hP (lo_in hL t_X (by decide)) e6 rfl, pe_pre hB hK hP hD⟩ rfl rfl hl.1 rfl (lv_room (Nat.le_of_ble_eq_true rfl)) d_NRunner_workOut_36 ⟨Nat.le_of_ble_eq_true rfl, Nat.le_of_ble_eq_true rfl⟩) hS (fun f29 H locs hq30 hP hD hS => ?_)
                obtain ⟨lv_31, hI1_32, hk1_33⟩ := hq30
                have hu := hu.st2 hk1_33 (lo_k6_6 hL _ t26) (lo_k5_2 hL _ (lo_k6_6 hL _ t26)) (by decide) (by decide)
                have hv8 := hv8.st2 hk1_33 (lo_k6_6 hL _ t26) (lo_k5_2 hL _ (lo_k6_6 hL _ t26)) (by decide) (by decide)
                have eS := (hk1_33 (g.lk (g.lk pr 0) s9) (tg_ne (lo_e24 hL _ (lo_k7_0 hL _ t_pr) s9 hs36) (lo_k6_6 hL _ t26) (by decide)) (tg_ne (lo_e24 hL _ (lo_k7_0 hL _ t_pr) s9 hs36) (lo_k5_2 hL _ (lo_k6_6 hL _ t26)) (by decide))).trans eS
                have e6 := (hk1_33 X (tg_ne t_X (lo_k6_6 hL _ t26) (by decide)) (tg_ne t_X (lo_k5_2 hL _ (lo_k6_6 hL _ t26)) (by decide))).trans e6
                have eN8 := (hk1_33 (g.lk (g.lk pr 2) i) (tg_ne t26 (lo_k6_6 hL _ t26) (by decide)) (tg_ne t26 (lo_k5_2 hL _ (lo_k6_6 hL _ t26)) (by decide))).trans eN8
                have e20 := (hk1_33 pr (tg_ne t_pr (lo_k6_6 hL _ t26) (by decide)) (tg_ne t_pr (lo_k5_2 hL _ (lo_k6_6 hL _ t26)) (by decide))).trans e20
                have e25 := (hk1_33 (g.lk pr 2) (tg_ne (lo_k7_2 hL _ t_pr) (lo_k6_6 hL _ t26) (by decide)) (tg_ne (lo_k7_2 hL _ t_pr) (lo_k5_2 hL _ (lo_k6_6 hL _ t26)) (by decide))).trans e25
                have eM9 := (hk1_33 (g.lk X 3) (tg_ne (lo_k9_3 hL _ t_X) (lo_k6_6 hL _ t26) (by decide)) (tg_ne (lo_k9_3 hL _ t_X) (lo_k5_2 hL _ (lo_k6_6 hL _ t26)) (by decide))).trans eM9
                have ea9 := (hk1_33 (g.lk (g.lk X 4) a9) (tn_ne (lo_n28 hL _ (lo_k9_4 hL _ t_X) _ (by omega)) ((lo_n6 hL _ t26).trans (lo_n25 hL _ (lo_k7_2 hL _ t_pr) _ (by omega))) (by omega)) (tg_ne (lo_e28 hL _ (lo_k9_4 hL _ t_X) a9 ha9) (lo_k5_2 hL _ (lo_k6_6 hL _ t26)) (by decide))).trans ea9
                have eb9 := (hk1_33 (g.lk (g.lk (g.lk X 4) a9) 2) (tg_ne (lo_k5_2 hL _ (lo_e28 hL _ (lo_k9_4 hL _ t_X) a9 ha9)) (lo_k6_6 hL _ t26) (by decide)) (fun q9 => (tn_ne (lo_n28 hL _ (lo_k9_4 hL _ t_X) _ (by omega)) ((lo_n6 hL _ t26).trans (lo_n25 hL _ (lo_k7_2 hL _ t_pr) _ (by omega))) (by omega)) (lo_inj5 hL _ _ (lo_e28 hL _ (lo_k9_4 hL _ t_X) a9 ha9) (lo_k6_6 hL _ t26) q9))).trans eb9
                obtain ⟨sg34, nn35, dd36, e37, e38, hN39⟩ := lv_31
                have c40 : ∀ i, i < 15 → ∃ k, k < 1000000000 ∧ dd36 i = nI k := hN39.2.1
                have hnn35 : nn35 ≤ 15 := hN39.1
                refine lv_goto (tgt := 71) hx hb d_NRunner_workOut_39 (by decide) ?_
                refine lv_iload hx hb d_NRunner_workOut_71 (lv_at hl 0 rfl) ?_
                refine lv_if_eq (tgt := 79) hx hb d_NRunner_workOut_73 (by decide) (fun b41 => ?_) (fun b41 => ?_)
                · skip
                  replace b41 := (nI_eq (a := 0) (b := 0) (by omega) (by omega)).mp b41
                  refine lv_iinc (k := 2) (v := nI (i + 1)) (lv' := [(2, .int (nI (i + 1))), (4, .int (nI 0)), (3, .ref (g.lk (g.lk pr 2) i)), (0, .ref X), (1, .ref (g.lk (g.lk pr 0) s9))]) hx hb d_NRunner_workOut_79 hl rfl (by rw [nI_succ]; rfl) (by decide) rfl (fun ls hl => ?_)
                  refine lv_goto (tgt := 5) hx hb d_NRunner_workOut_82 (by decide) ?_
                  have hFK9 : FK g f2 f29 X pr T i i := (fun b q1 q2 q3 q4 q5 q6 q7 q8 => hk1_33 b q3 q4)
                  have hFW9 := FW_fk hL t_X t_pr hi72 hFK9
                  have hl : lv_has ls 5 [(2, .int (nI (i + 1))), (0, .ref X), (1, .ref (g.lk (g.lk pr 0) s9))] := lv_sub hl [0, 3, 4] rfl
                  exact ih4 (i + 1) ((i :: sk)) ((vr a9 :: V)) ((xst en SI 1 a9)) E9 mo2 lo2 f29 H locs ls (by omega) (by omega) (by have z9 := hlen9; omega) hNR9 ⟨_, _, _, _, rfl, rfl, Nat.lt_succ_self i, (by rw [h39]; exact ⟨_, _, _, _, eN8, fun z => absurd z (by decide), fun _ => ⟨_, _, _, e37, e38, hN39⟩, (hVI a9 ha9).2⟩), (hVI a9 ha9).1, (iK_ivn (henK a9) iK_z (fun q => absurd q (by decide))), VS_fk hL t_X t_pr hi72 hFK9 (Nat.le_refl _) _ _ _ _ (Nat.le_refl _) hVS⟩ (hev.trans (evs_ok (ev1_1 vr a9 V))) hxs hps (TPN_fk hL t_X t_pr hi72 hFK9 (by rw [hkd9, h39, hT19]; exact eN8) (fun z => absurd (hkd9.symm.trans z) (by decide)) hTPi) (hFW.tr hFW9) (VARS_fw hL t_X hVi hFW9 (hFK9 _ (tg_ne (lo_k9_3 hL _ t_X) t_X (by decide)) (tg_ne (lo_k9_3 hL _ t_X) (lo_e25 hL _ (lo_k7_2 hL _ t_pr) i hi72) (by decide)) (tg_ne (lo_k9_3 hL _ t_X) (nw_5 hL t_pr hi72) (by decide)) (tg_ne (lo_k9_3 hL _ t_X) (nw_23 hL t_pr hi72) (by decide)) (tg_ne (lo_k9_3 hL _ t_X) (lo_k9_6 hL _ t_X) (by decide)) (tg_ne (lo_k9_3 hL _ t_X) (lo_k4_0 hL _ (lo_k9_6 hL _ t_X)) (by decide)) (tg_ne (lo_k9_3 hL _ t_X) (lo_k4_1 hL _ (lo_k9_6 hL _ t_X)) (by decide)) (fun j9 hj9 _ => ⟨tg_ne (lo_k9_3 hL _ t_X) (nw_5 hL t_pr (by omega)) (by decide), tg_ne (lo_k9_3 hL _ t_X) (nw_23 hL t_pr (by omega)) (by decide)⟩))) e6 hI1_32 hv8 hl hP hD hS
                · skip
                  replace b41 := mt (nI_eq (a := 0) (b := 0) (by omega) (by omega)).mpr b41
                  exfalso; omega
            · skip
              obtain ⟨hT19, ha9⟩ := hz1 rfl
              have hbd9 := hs1 rfl
              rw [hkd9, h39, hT19] at eN9
              have eN8 := eN9
              refine lv_aload_n hx hb d_NRunner_workOut_13 rfl (lv_at hl 1 rfl) ?_
              refine pf_get (v := .ref pr) (C := "BigRunner$Runner") (T := FT8) (N := 13) hx hb (hw8 hB _) (fun _ h9 => h9) hown hK hP (lo_in hL t_X (by decide)) e6 rfl 0 (by decide) (wd_330 hB _) rfl d_NRunner_workOut_14 ?_
              obtain ⟨sc_43, nc_44, e42, c45, c46⟩ := oc_7.of t_pr (hI7.1 pr)
              refine pf_get (v := .ref (g.lk pr 2)) (C := "BigRunner$Program") (T := FT6) (N := 6) hx hb (hw6 hB _) (fun _ h9 => h9) hown hK hP (lo_in hL t_pr (by decide)) e42 rfl 2 (by decide) (wd_249 hB _) rfl d_NRunner_workOut_17 ?_
              refine lv_iload_n hx hb d_NRunner_workOut_20 rfl (lv_at hl 0 rfl) ?_
              have e47 := oc_25.of (lo_k7_2 hL _ t_pr) (hI7.1 (g.lk pr 2))
              refine pf_aald (i := i) hx hb hK hP (lo_in hL (lo_k7_2 hL _ t_pr) (by decide)) e47 (lo_t25 hL _ (lo_k7_2 hL _ t_pr)) (by omega) (by decide) d_NRunner_workOut_21 ?_
              have t48 := lo_e25 hL _ (lo_k7_2 hL _ t_pr) i (by omega)
              refine lv_astore_n (lv' := [(3, .ref (g.lk (g.lk pr 2) i)), (2, .int (nI i)), (0, .ref X), (1, .ref (g.lk (g.lk pr 0) s9))]) hx hb d_NRunner_workOut_22 rfl hl (by decide) rfl (fun ls hl => ?_)
              refine lv_iconst (v := nI 0) hx hb d_NRunner_workOut_23 (by decide) ?_
              refine lv_istore (lv' := [(4, .int (nI 0)), (3, .ref (g.lk (g.lk pr 2) i)), (2, .int (nI i)), (0, .ref X), (1, .ref (g.lk (g.lk pr 0) s9))]) hx hb d_NRunner_workOut_24 hl (by decide) rfl (fun ls hl => ?_)
              refine lv_aload_n hx hb d_NRunner_workOut_26 rfl (lv_at hl 1 rfl) ?_
              refine pf_get (v := .int (nI 1)) (C := "BigRunner$Node") (T := FT5) (N := 7) hx hb (hw5 hB _) (fun _ h9 => h9) hown hK hP (lo_in hL t48 (by decide)) eN8 rfl 0 (by decide) (wd_204 hB _) rfl d_NRunner_workOut_27 ?_
              refine lv_iconst (v := nI 1) hx hb d_NRunner_workOut_30 (by decide) ?_
              refine lv_icmp_ne (tgt := 42) hx hb d_NRunner_workOut_31 (by decide) (fun b49 => ?_) (fun b49 => ?_)
              · skip
                replace b49 := mt (nI_eq (a := 1) (b := 1) (by omega) (by omega)).mpr b49
                exfalso; omega
              · skip
                replace b49 := (nI_eq (a := 1) (b := 1) (by omega) (by omega)).mp b49
                refine lv_aload_n hx hb d_NRunner_workOut_34 rfl (lv_at hl 3 rfl) ?_
                refine lv_aload_n hx hb d_NRunner_workOut_35 rfl (lv_at hl 1 rfl) ?_
                have hVj := hVi
                obtain ⟨hM9, eM9, hva9⟩ := hVj
                obtain ⟨hvs9, hvl9⟩ := hva9 a9 ha9
                refine pcc_v (va_runV (C := "BigRunner$Runner") (As := [.ref (g.lk (g.lk pr 2) i)]) (rest := []) ⟨hx, hb, hml, hown, tb_nil⟩ (v_fetchS l g H.size f2 X pr ix os st mo2 lo2 tr i a9 ((T 2 i)) mv9 hM9 hL t_X t_pr hI7 e6 (by omega) (by omega) (by omega) (by omega) eN8 (by omega) (by omega) (by omega) eM9) ⟨(callB_of 1 (tb_one (wd_742 hB _)) tb_good1 rfl rfl rfl (wd_79 hB _) (wd_739 hB _) (by decide +kernel) ⟨Nat.le_of_ble_eq_true rfl, Nat.le_of_ble_eq_true rfl⟩), (wd_741 hB _), (wd_27 hB _)⟩ ⟨pe_bl, pg_recv (ci := 8) hK hP (lo_in hL t_X (by decide)) e6 rfl, pe_pre hB hK hP hD⟩ rfl rfl hl.1 rfl (lv_room (Nat.le_of_ble_eq_true rfl)) d_NRunner_workOut_36 ⟨Nat.le_of_ble_eq_true rfl, Nat.le_of_ble_eq_true rfl⟩) hS (fun f51 H locs hq52 hP hD hS => ?_)
                obtain ⟨nv_53, hI1_54, hk1_55⟩ := hq52
                have hu := hu.st hk1_55 t48 (by decide)
                have hv8 := hv8.st hk1_55 t48 (by decide)
                have eS := (hk1_55 (g.lk (g.lk pr 0) s9) (tg_ne (lo_e24 hL _ (lo_k7_0 hL _ t_pr) s9 hs36) t48 (by decide))).trans eS
                have e6 := (hk1_55 X (tg_ne t_X t48 (by decide))).trans e6
                have e42 := (hk1_55 pr (tg_ne t_pr t48 (by decide))).trans e42
                have e47 := (hk1_55 (g.lk pr 2) (tg_ne (lo_k7_2 hL _ t_pr) t48 (by decide))).trans e47
                have eM9 := (hk1_55 (g.lk X 3) (tg_ne (lo_k9_3 hL _ t_X) t48 (by decide))).trans eM9
                refine lv_goto (tgt := 71) hx hb d_NRunner_workOut_39 (by decide) ?_
                refine lv_iload hx hb d_NRunner_workOut_71 (lv_at hl 0 rfl) ?_
                refine lv_if_eq (tgt := 79) hx hb d_NRunner_workOut_73 (by decide) (fun b56 => ?_) (fun b56 => ?_)
                · skip
                  replace b56 := (nI_eq (a := 0) (b := 0) (by omega) (by omega)).mp b56
                  refine lv_iinc (k := 2) (v := nI (i + 1)) (lv' := [(2, .int (nI (i + 1))), (4, .int (nI 0)), (3, .ref (g.lk (g.lk pr 2) i)), (0, .ref X), (1, .ref (g.lk (g.lk pr 0) s9))]) hx hb d_NRunner_workOut_79 hl rfl (by rw [nI_succ]; rfl) (by decide) rfl (fun ls hl => ?_)
                  refine lv_goto (tgt := 5) hx hb d_NRunner_workOut_82 (by decide) ?_
                  have hFK9 : FK g f2 f51 X pr T i i := (fun b q1 q2 q3 q4 q5 q6 q7 q8 => hk1_55 b q2)
                  have hFW9 := FW_fk hL t_X t_pr hi72 hFK9
                  have hl : lv_has ls 5 [(2, .int (nI (i + 1))), (0, .ref X), (1, .ref (g.lk (g.lk pr 0) s9))] := lv_sub hl [0, 3, 4] rfl
                  exact ih4 (i + 1) ((i :: sk)) ((vr a9 :: V)) ((xst en SI 1 a9)) E9 mo2 lo2 f51 H locs ls (by omega) (by omega) (by have z9 := hlen9; omega) hNR9 ⟨_, _, _, _, rfl, rfl, Nat.lt_succ_self i, (by rw [h39]; exact ⟨_, _, _, _, nv_53, fun _ => ⟨hvs9 (hbd9.mp h39), ivin_60 (hVI a9 ha9).1 (hbd9.mp h39) (henK a9)⟩, fun z => absurd z (by decide), (hVI a9 ha9).2⟩), (hVI a9 ha9).1, (iK_ivn (henK a9) iK_z (fun q => absurd q (by decide))), VS_fk hL t_X t_pr hi72 hFK9 (Nat.le_refl _) _ _ _ _ (Nat.le_refl _) hVS⟩ (hev.trans (evs_ok (ev1_1 vr a9 V))) hxs hps (TPN_fk hL t_X t_pr hi72 hFK9 (by rw [hkd9, h39, hT19]; exact nv_53) (fun z => absurd (hkd9.symm.trans z) (by decide)) hTPi) (hFW.tr hFW9) (VARS_fw hL t_X hVi hFW9 (hFK9 _ (tg_ne (lo_k9_3 hL _ t_X) t_X (by decide)) (tg_ne (lo_k9_3 hL _ t_X) (lo_e25 hL _ (lo_k7_2 hL _ t_pr) i hi72) (by decide)) (tg_ne (lo_k9_3 hL _ t_X) (nw_5 hL t_pr hi72) (by decide)) (tg_ne (lo_k9_3 hL _ t_X) (nw_23 hL t_pr hi72) (by decide)) (tg_ne (lo_k9_3 hL _ t_X) (lo_k9_6 hL _ t_X) (by decide)) (tg_ne (lo_k9_3 hL _ t_X) (lo_k4_0 hL _ (lo_k9_6 hL _ t_X)) (by decide)) (tg_ne (lo_k9_3 hL _ t_X) (lo_k4_1 hL _ (lo_k9_6 hL _ t_X)) (by decide)) (fun j9 hj9 _ => ⟨tg_ne (lo_k9_3 hL _ t_X) (nw_5 hL t_pr (by omega)) (by decide), tg_ne (lo_k9_3 hL _ t_X) (nw_23 hL t_pr (by omega)) (by decide)⟩))) e6 hI1_54 hv8 hl hP hD hS
                · skip
                  replace b56 := mt (nI_eq (a := 0) (b := 0) (by omega) (by omega)).mpr b56
                  exfalso; omega
          · skip
            have hkd9 : T 0 i = 3 := hk9
            rcases hb4 with h39 | h39
            · skip
              obtain ⟨r9, hst9⟩ := hz2 (by decide) (by decide)
              subst hst9
              obtain ⟨y9, V8, Y9, S8, hV8, hS8, hk89, hLy9, hiy9, hKy9, hR8⟩ := hVS
              obtain ⟨x9, V9, X9, S9, hV9, hS9, hj9, hL9, hi9, hK9, hR9⟩ := hR8
              subst hV9
              subst hV8
              subst hS9
              subst hS8
              rw [hkd9, h39] at eN9
              have eN8 := eN9
              have hot9 := otr_3 2 x9 y9
              refine lv_aload_n hx hb d_NRunner_workOut_13 rfl (lv_at hl 1 rfl) ?_
              refine pf_get (v := .ref pr) (C := "BigRunner$Runner") (T := FT8) (N := 13) hx hb (hw8 hB _) (fun _ h9 => h9) hown hK hP (lo_in hL t_X (by decide)) e6 rfl 0 (by decide) (wd_330 hB _) rfl d_NRunner_workOut_14 ?_
              obtain ⟨sc_58, nc_59, e57, c60, c61⟩ := oc_7.of t_pr (hI7.1 pr)
              refine pf_get (v := .ref (g.lk pr 2)) (C := "BigRunner$Program") (T := FT6) (N := 6) hx hb (hw6 hB _) (fun _ h9 => h9) hown hK hP (lo_in hL t_pr (by decide)) e57 rfl 2 (by decide) (wd_249 hB _) rfl d_NRunner_workOut_17 ?_
              refine lv_iload_n hx hb d_NRunner_workOut_20 rfl (lv_at hl 0 rfl) ?_
              have e62 := oc_25.of (lo_k7_2 hL _ t_pr) (hI7.1 (g.lk pr 2))
              refine pf_aald (i := i) hx hb hK hP (lo_in hL (lo_k7_2 hL _ t_pr) (by decide)) e62 (lo_t25 hL _ (lo_k7_2 hL _ t_pr)) (by omega) (by decide) d_NRunner_workOut_21 ?_
              have t63 := lo_e25 hL _ (lo_k7_2 hL _ t_pr) i (by omega)
              refine lv_astore_n (lv' := [(3, .ref (g.lk (g.lk pr 2) i)), (2, .int (nI i)), (0, .ref X), (1, .ref (g.lk (g.lk pr 0) s9))]) hx hb d_NRunner_workOut_22 rfl hl (by decide) rfl (fun ls hl => ?_)
              refine lv_iconst (v := nI 0) hx hb d_NRunner_workOut_23 (by decide) ?_
              refine lv_istore (lv' := [(4, .int (nI 0)), (3, .ref (g.lk (g.lk pr 2) i)), (2, .int (nI i)), (0, .ref X), (1, .ref (g.lk (g.lk pr 0) s9))]) hx hb d_NRunner_workOut_24 hl (by decide) rfl (fun ls hl => ?_)
              refine lv_aload_n hx hb d_NRunner_workOut_26 rfl (lv_at hl 1 rfl) ?_
              refine pf_get (v := .int (nI 3)) (C := "BigRunner$Node") (T := FT5) (N := 7) hx hb (hw5 hB _) (fun _ h9 => h9) hown hK hP (lo_in hL t63 (by decide)) eN8 rfl 0 (by decide) (wd_204 hB _) rfl d_NRunner_workOut_27 ?_
              refine lv_iconst (v := nI 1) hx hb d_NRunner_workOut_30 (by decide) ?_
              refine lv_icmp_ne (tgt := 42) hx hb d_NRunner_workOut_31 (by decide) (fun b64 => ?_) (fun b64 => ?_)
              · skip
                replace b64 := mt (nI_eq (a := 3) (b := 1) (by omega) (by omega)).mpr b64
                refine lv_aload_n hx hb d_NRunner_workOut_42 rfl (lv_at hl 1 rfl) ?_
                refine pf_get (v := .int (nI 3)) (C := "BigRunner$Node") (T := FT5) (N := 7) hx hb (hw5 hB _) (fun _ h9 => h9) hown hK hP (lo_in hL t63 (by decide)) eN8 rfl 0 (by decide) (wd_204 hB _) rfl d_NRunner_workOut_43 ?_
                refine lv_if_eq (tgt := 71) hx hb d_NRunner_workOut_46 (by decide) (fun b65 => ?_) (fun b65 => ?_)
                · skip
                  replace b65 := (nI_eq (a := 3) (b := 0) (by omega) (by omega)).mp b65
                  exfalso; omega
                · skip
                  replace b65 := mt (nI_eq (a := 3) (b := 0) (by omega) (by omega)).mpr b65
                  refine lv_aload_n hx hb d_NRunner_workOut_49 rfl (lv_at hl 1 rfl) ?_
                  refine pf_get (v := .int (nI 0)) (C := "BigRunner$Node") (T := FT5) (N := 7) hx hb (hw5 hB _) (fun _ h9 => h9) hown hK hP (lo_in hL t63 (by decide)) eN8 rfl 4 (by decide) (wd_218 hB _) rfl d_NRunner_workOut_50 ?_
                  refine lv_if_eq (tgt := 64) hx hb d_NRunner_workOut_53 (by decide) (fun b66 => ?_) (fun b66 => ?_)
                  · skip
                    replace b66 := (nI_eq (a := 0) (b := 0) (by omega) (by omega)).mp b66
                    refine lv_aload_n hx hb d_NRunner_workOut_64 rfl (lv_at hl 3 rfl) ?_
                    refine lv_aload_n hx hb d_NRunner_workOut_65 rfl (lv_at hl 1 rfl) ?_
                    have eK8 : f2 (g.lk (g.lk pr 2) i) = .inr (5, [.int (nI (km 2)), .int (nI (T 1 i)), .int (nI (T 2 i)), .ref (g.lk (g.lk (g.lk pr 2) i) 3), .int (nI 0), .long mv9, .ref (g.lk (g.lk (g.lk pr 2) i) 6)]) := eN8
                    refine pcc_i (va_runV (C := "BigRunner$Runner") (As := [.ref (g.lk (g.lk pr 2) i)]) (rest := []) ⟨hx, hb, hml, hown, tb_nil⟩ (v_opLong l g H.size f2 X pr ix os st mo2 lo2 tr i 2 ((T 1 i)) ((T 2 i)) mv9 ((T 3 (T 1 i))) x9 ((T 3 (T 2 i))) y9 hL t_X t_pr hI7 e6 (by omega) (by omega) (by omega) (by omega) eK8 hL9 hLy9 (by omega) (by omega) (by omega) (by omega) (by omega) (by omega) ((hTB.1 (T 1 i) (by omega)).2.2.2.2) ((hTB.1 (T 2 i) (by omega)).2.2.2.2)) ⟨(callB_of 1 (tb_one (wd_757 hB _)) tb_good1 rfl rfl rfl (wd_79 hB _) (wd_754 hB _) (by decide +kernel) ⟨Nat.le_of_ble_eq_true rfl, Nat.le_of_ble_eq_true rfl⟩), (wd_756 hB _), (wd_29 hB _)⟩ ⟨pe_bl, pg_recv (ci := 8) hK hP (lo_in hL t_X (by decide)) e6 rfl, pe_pre hB hK hP hD⟩ rfl rfl hl.1 rfl (lv_room (Nat.le_of_ble_eq_true rfl)) d_NRunner_workOut_66 ⟨Nat.le_of_ble_eq_true rfl, Nat.le_of_ble_eq_true rfl⟩) hS (fun r67 f68 H locs hq69 hP hD hS => ?_)
                    obtain ⟨x1_70, q9_71, lv9_72, hI1_73, hk1_74⟩ := hq69
                    subst q9_71
                    have hu : un [4, 5, 6, 9, 22, 23] g f f68 := fun a9 ha9 => (hk1_74 a9 (fun q9 => ha9 (by rw [q9, t_X]; decide)) (fun q9 => ha9 (by rw [q9, (lo_k6_6 hL _ t63)]; decide)) (fun q9 => ha9 (by rw [q9, (lo_k5_2 hL _ (lo_k6_6 hL _ t63))]; decide)) (fun q9 => ha9 (by rw [q9, (lo_k6_6 hL _ (lo_e25 hL _ (lo_k7_2 hL _ t_pr) _ (by omega)))]; decide)) (fun q9 => ha9 (by rw [q9, (lo_k5_2 hL _ (lo_k6_6 hL _ (lo_e25 hL _ (lo_k7_2 hL _ t_pr) _ (by omega))))]; decide)) (fun q9 => ha9 (by rw [q9, (lo_k6_6 hL _ (lo_e25 hL _ (lo_k7_2 hL _ t_pr) _ (by omega)))]; decide)) (fun q9 => ha9 (by rw [q9, (lo_k5_2 hL _ (lo_k6_6 hL _ (lo_e25 hL _ (lo_k7_2 hL _ t_pr) _ (by omega))))]; decide)) (fun q9 => ha9 (by rw [q9, (lo_k9_6 hL _ t_X)]; decide)) (fun q9 => ha9 (by rw [q9, (lo_k4_0 hL _ (lo_k9_6 hL _ t_X))]; decide)) (fun q9 => ha9 (by rw [q9, (lo_k4_1 hL _ (lo_k9_6 hL _ t_X))]; decide))).trans (hu a9 ha9)
                    have hv8 : un [4, 5, 6, 9, 22, 23] g f f68 := fun a9 ha9 => (hk1_74 a9 (fun q9 => ha9 (by rw [q9, t_X]; decide)) (fun q9 => ha9 (by rw [q9, (lo_k6_6 hL _ t63)]; decide)) (fun q9 => ha9 (by rw [q9, (lo_k5_2 hL _ (lo_k6_6 hL _ t63))]; decide)) (fun q9 => ha9 (by rw [q9, (lo_k6_6 hL _ (lo_e25 hL _ (lo_k7_2 hL _ t_pr) _ (by omega)))]; decide)) (fun q9 => ha9 (by rw [q9, (lo_k5_2 hL _ (lo_k6_6 hL _ (lo_e25 hL _ (lo_k7_2 hL _ t_pr) _ (by omega))))]; decide)) (fun q9 => ha9 (by rw [q9, (lo_k6_6 hL _ (lo_e25 hL _ (lo_k7_2 hL _ t_pr) _ (by omega)))]; decide)) (fun q9 => ha9 (by rw [q9, (lo_k5_2 hL _ (lo_k6_6 hL _ (lo_e25 hL _ (lo_k7_2 hL _ t_pr) _ (by omega))))]; decide)) (fun q9 => ha9 (by rw [q9, (lo_k9_6 hL _ t_X)]; decide)) (fun q9 => ha9 (by rw [q9, (lo_k4_0 hL _ (lo_k9_6 hL _ t_X))]; decide)) (fun q9 => ha9 (by rw [q9, (lo_k4_1 hL _ (lo_k9_6 hL _ t_X))]; decide))).trans (hv8 a9 ha9)
                    have eS := (hk1_74 (g.lk (g.lk pr 0) s9) (tg_ne (lo_e24 hL _ (lo_k7_0 hL _ t_pr) s9 hs36) t_X (by decide)) (tg_ne (lo_e24 hL _ (lo_k7_0 hL _ t_pr) s9 hs36) (lo_k6_6 hL _ t63) (by decide)) (tg_ne (lo_e24 hL _ (lo_k7_0 hL _ t_pr) s9 hs36) (lo_k5_2 hL _ (lo_k6_6 hL _ t63)) (by decide)) (tg_ne (lo_e24 hL _ (lo_k7_0 hL _ t_pr) s9 hs36) (lo_k6_6 hL _ (lo_e25 hL _ (lo_k7_2 hL _ t_pr) _ (by omega))) (by decide)) (tg_ne (lo_e24 hL _ (lo_k7_0 hL _ t_pr) s9 hs36) (lo_k5_2 hL _ (lo_k6_6 hL _ (lo_e25 hL _ (lo_k7_2 hL _ t_pr) _ (by omega)))) (by decide)) (tg_ne (lo_e24 hL _ (lo_k7_0 hL _ t_pr) s9 hs36) (lo_k6_6 hL _ (lo_e25 hL _ (lo_k7_2 hL _ t_pr) _ (by omega))) (by decide)) (tg_ne (lo_e24 hL _ (lo_k7_0 hL _ t_pr) s9 hs36) (lo_k5_2 hL _ (lo_k6_6 hL _ (lo_e25 hL _ (lo_k7_2 hL _ t_pr) _ (by omega)))) (by decide)) (tg_ne (lo_e24 hL _ (lo_k7_0 hL _ t_pr) s9 hs36) (lo_k9_6 hL _ t_X) (by decide)) (tg_ne (lo_e24 hL _ (lo_k7_0 hL _ t_pr) s9 hs36) (lo_k4_0 hL _ (lo_k9_6 hL _ t_X)) (by decide)) (tg_ne (lo_e24 hL _ (lo_k7_0 hL _ t_pr) s9 hs36) (lo_k4_1 hL _ (lo_k9_6 hL _ t_X)) (by decide))).trans eS
                    have eK8 := (hk1_74 (g.lk (g.lk pr 2) i) (tg_ne t63 t_X (by decide)) (tg_ne t63 (lo_k6_6 hL _ t63) (by decide)) (tg_ne t63 (lo_k5_2 hL _ (lo_k6_6 hL _ t63)) (by decide)) (tg_ne t63 (lo_k6_6 hL _ (lo_e25 hL _ (lo_k7_2 hL _ t_pr) _ (by omega))) (by decide)) (tg_ne t63 (lo_k5_2 hL _ (lo_k6_6 hL _ (lo_e25 hL _ (lo_k7_2 hL _ t_pr) _ (by omega)))) (by decide)) (tg_ne t63 (lo_k6_6 hL _ (lo_e25 hL _ (lo_k7_2 hL _ t_pr) _ (by omega))) (by decide)) (tg_ne t63 (lo_k5_2 hL _ (lo_k6_6 hL _ (lo_e25 hL _ (lo_k7_2 hL _ t_pr) _ (by omega)))) (by decide)) (tg_ne t63 (lo_k9_6 hL _ t_X) (by decide)) (tg_ne t63 (lo_k4_0 hL _ (lo_k9_6 hL _ t_X)) (by decide)) (tg_ne t63 (lo_k4_1 hL _ (lo_k9_6 hL _ t_X)) (by decide))).trans eK8
                    have e57 := (hk1_74 pr (tg_ne t_pr t_X (by decide)) (tg_ne t_pr (lo_k6_6 hL _ t63) (by decide)) (tg_ne t_pr (lo_k5_2 hL _ (lo_k6_6 hL _ t63)) (by decide)) (tg_ne t_pr (lo_k6_6 hL _ (lo_e25 hL _ (lo_k7_2 hL _ t_pr) _ (by omega))) (by decide)) (tg_ne t_pr (lo_k5_2 hL _ (lo_k6_6 hL _ (lo_e25 hL _ (lo_k7_2 hL _ t_pr) _ (by omega)))) (by decide)) (tg_ne t_pr (lo_k6_6 hL _ (lo_e25 hL _ (lo_k7_2 hL _ t_pr) _ (by omega))) (by decide)) (tg_ne t_pr (lo_k5_2 hL _ (lo_k6_6 hL _ (lo_e25 hL _ (lo_k7_2 hL _ t_pr) _ (by omega)))) (by decide)) (tg_ne t_pr (lo_k9_6 hL _ t_X) (by decide)) (tg_ne t_pr (lo_k4_0 hL _ (lo_k9_6 hL _ t_X)) (by decide)) (tg_ne t_pr (lo_k4_1 hL _ (lo_k9_6 hL _ t_X)) (by decide))).trans e57
                    have e62 := (hk1_74 (g.lk pr 2) (tg_ne (lo_k7_2 hL _ t_pr) t_X (by decide)) (tg_ne (lo_k7_2 hL _ t_pr) (lo_k6_6 hL _ t63) (by decide)) (tg_ne (lo_k7_2 hL _ t_pr) (lo_k5_2 hL _ (lo_k6_6 hL _ t63)) (by decide)) (tg_ne (lo_k7_2 hL _ t_pr) (lo_k6_6 hL _ (lo_e25 hL _ (lo_k7_2 hL _ t_pr) _ (by omega))) (by decide)) (tg_ne (lo_k7_2 hL _ t_pr) (lo_k5_2 hL _ (lo_k6_6 hL _ (lo_e25 hL _ (lo_k7_2 hL _ t_pr) _ (by omega)))) (by decide)) (tg_ne (lo_k7_2 hL _ t_pr) (lo_k6_6 hL _ (lo_e25 hL _ (lo_k7_2 hL _ t_pr) _ (by omega))) (by decide)) (tg_ne (lo_k7_2 hL _ t_pr) (lo_k5_2 hL _ (lo_k6_6 hL _ (lo_e25 hL _ (lo_k7_2 hL _ t_pr) _ (by omega)))) (by decide)) (tg_ne (lo_k7_2 hL _ t_pr) (lo_k9_6 hL _ t_X) (by decide)) (tg_ne (lo_k7_2 hL _ t_pr) (lo_k4_0 hL _ (lo_k9_6 hL _ t_X)) (by decide)) (tg_ne (lo_k7_2 hL _ t_pr) (lo_k4_1 hL _ (lo_k9_6 hL _ t_X)) (by decide))).trans e62
                    obtain ⟨lo_75, e76⟩ := x1_70
                    refine lv_istore (lv' := [(4, .int (nI (otr 2 x9 y9))), (3, .ref (g.lk (g.lk pr 2) i)), (2, .int (nI i)), (0, .ref X), (1, .ref (g.lk (g.lk pr 0) s9))]) hx hb d_NRunner_workOut_69 hl (by decide) rfl (fun ls hl => ?_)
                    refine lv_iload hx hb d_NRunner_workOut_71 (lv_at hl 0 rfl) ?_
                    refine lv_if_eq (tgt := 79) hx hb d_NRunner_workOut_73 (by decide) (fun b77 => ?_) (fun b77 => ?_)
                    · skip
                      replace b77 := (nI_eq (a := otr 2 x9 y9) (b := 0) (by omega) (by omega)).mp b77
                      refine lv_iinc (k := 2) (v := nI (i + 1)) (lv' := [(2, .int (nI (i + 1))), (4, .int (nI (otr 2 x9 y9))), (3, .ref (g.lk (g.lk pr 2) i)), (0, .ref X), (1, .ref (g.lk (g.lk pr 0) s9))]) hx hb d_NRunner_workOut_79 hl rfl (by rw [nI_succ]; rfl) (by decide) rfl (fun ls hl => ?_)
                      refine lv_goto (tgt := 5) hx hb d_NRunner_workOut_82 (by decide) ?_
                      have hFK9 : FK g f2 f68 X pr T (T 1 i) i := (fun b q1 q2 q3 q4 q5 q6 q7 q8 => hk1_74 b q1 q3 q4 (q8 (T 1 i) (by omega) (Or.inr (Nat.le_refl _))).1 (q8 (T 1 i) (by omega) (Or.inr (Nat.le_refl _))).2 (q8 (T 2 i) (by omega) (Or.inr (Nat.le_of_lt hj9))).1 (q8 (T 2 i) (by omega) (Or.inr (Nat.le_of_lt hj9))).2 q5 q6 q7)
                      have hFW9 := FW_fk hL t_X t_pr hi72 hFK9
                      have hot0 : otr 2 x9 y9 = 0 := by omega
                      have hl : lv_has ls 5 [(2, .int (nI (i + 1))), (0, .ref X), (1, .ref (g.lk (g.lk pr 0) s9))] := lv_sub hl [0, 3, 4] rfl
                      exact ih4 (i + 1) ((i :: r9)) ((ovl 2 x9 y9 :: V9)) ((xst en (Y9 :: X9 :: S9) 2 a9)) E9 mo2 lo_75 f68 H locs ls (by omega) (by omega) (by have z9 := hlen9; omega) hNR9 ⟨_, _, _, _, rfl, rfl, Nat.lt_succ_self i, (by rw [h39]; exact ⟨_, _, _, _, eK8, fun z => absurd z (by decide), fun _ => lv9_72 hot0, (ovl_lt (by obtain ⟨_, _, _, _, _, _, _, z⟩ := hL9; exact z) hot0)⟩), (ovl_in (w := 2) (a := a9) (by decide) (by decide) hi9 (fun _ => hiy9) hot0), (iK_ivn hK9 hKy9 (fun q => absurd q (by decide))), VS_mono (by omega) (VS_fk hL t_X t_pr hi72 hFK9 (by omega) _ _ _ _ (Nat.le_refl _) hR9)⟩ (hev.trans (evs_ok (ev1_z vr (by decide) (by decide) hot0))) hxs hps (TPN_fk hL t_X t_pr hi72 hFK9 (by rw [hkd9, h39]; exact eK8) (fun z => absurd (hkd9.symm.trans z) (by decide)) hTPi) (hFW.tr hFW9) (VARS_fw hL t_X hVi hFW9 (hFK9 _ (tg_ne (lo_k9_3 hL _ t_X) t_X (by decide)) (tg_ne (lo_k9_3 hL _ t_X) (lo_e25 hL _ (lo_k7_2 hL _ t_pr) i hi72) (by decide)) (tg_ne (lo_k9_3 hL _ t_X) (nw_5 hL t_pr hi72) (by decide)) (tg_ne (lo_k9_3 hL _ t_X) (nw_23 hL t_pr hi72) (by decide)) (tg_ne (lo_k9_3 hL _ t_X) (lo_k9_6 hL _ t_X) (by decide)) (tg_ne (lo_k9_3 hL _ t_X) (lo_k4_0 hL _ (lo_k9_6 hL _ t_X)) (by decide)) (tg_ne (lo_k9_3 hL _ t_X) (lo_k4_1 hL _ (lo_k9_6 hL _ t_X)) (by decide)) (fun j9 hj9 _ => ⟨tg_ne (lo_k9_3 hL _ t_X) (nw_5 hL t_pr (by omega)) (by decide), tg_ne (lo_k9_3 hL _ t_X) (nw_23 hL t_pr (by omega)) (by decide)⟩))) e76 hI1_73 hv8 hl hP hD hS
                    · skip
                      replace b77 := mt (nI_eq (a := otr 2 x9 y9) (b := 0) (by omega) (by omega)).mpr b77
                      refine lv_iload hx hb d_NRunner_workOut_76 (lv_at hl 0 rfl) ?_
                      have hFK9 : FK g f2 f68 X pr T (T 1 i) i := (fun b q1 q2 q3 q4 q5 q6 q7 q8 => hk1_74 b q1 q3 q4 (q8 (T 1 i) (by omega) (Or.inr (Nat.le_refl _))).1 (q8 (T 1 i) (by omega) (Or.inr (Nat.le_refl _))).2 (q8 (T 2 i) (by omega) (Or.inr (Nat.le_of_lt hj9))).1 (q8 (T 2 i) (by omega) (Or.inr (Nat.le_of_lt hj9))).2 q5 q6 q7)
                      exact pe_iret hx hb hr hlocks hK hP hD hS d_NRunner_workOut_78 ⟨⟨mo2, lo_75, e76⟩, (by rw [hev]; exact congrArg (fun z : Nat × List Int => nI z.1) (evs_no (ev1_t vr (by decide) (by decide) b77) b77).symm), (fun z => absurd ((congrArg (fun z : Nat × List Int => z.1) (hev.trans (evs_no (ev1_t vr (by decide) (by decide) b77) b77))).symm.trans z) b77), (hFW.tr (FW_fk hL t_X t_pr hi72 hFK9)), (TPN_fk hL t_X t_pr hi72 hFK9 (by rw [hkd9, h39]; exact eK8) (fun z => absurd (hkd9.symm.trans z) (by decide)) hTPi), hI1_73, hu⟩
                  · skip
                    replace b66 := mt (nI_eq (a := 0) (b := 0) (by omega) (by omega)).mpr b66
                    exfalso; omega
              · skip
                replace b64 := (nI_eq (a := 3) (b := 1) (by omega) (by omega)).mp b64
                exfalso; omega
            · skip
              obtain ⟨r9, hst9⟩ := hz2 (by decide) (by decide)
              subst hst9
              obtain ⟨y9, V8, Y9, S8, hV8, hS8, hk89, hLy9, hiy9, hKy9, hR8⟩ := hVS
              obtain ⟨x9, V9, X9, S9, hV9, hS9, hj9, hL9, hi9, hK9, hR9⟩ := hR8
              subst hV9
              subst hV8
              subst hS9
              subst hS8
              rw [hkd9, h39] at eN9
              have eN8 := eN9
              obtain ⟨hsl9, hsr9⟩ := hs2 (by decide) h39
              skip
              obtain ⟨kl9, l19, l29, mx9, eL9, hv19, -, ht19⟩ := (by rw [hsl9] at hL9; exact hL9 : VL g f2 pr 1 (T 1 i) x9)
              obtain ⟨hvx9, h6x9⟩ := hv19 rfl
              obtain ⟨kr9, r19, r29, my9, eR9, hv29, -, ht29⟩ := (by rw [hsr9] at hLy9; exact hLy9 : VL g f2 pr 1 (T 2 i) y9)
              obtain ⟨hvy9, h6y9⟩ := hv29 rfl
              have hot9 := otr_3 2 x9 y9
              refine lv_aload_n hx hb d_NRunner_workOut_13 rfl (lv_at hl 1 rfl) ?_
              refine pf_get (v := .ref pr) (C := "BigRunner$Runner") (T := FT8) (N := 13) hx hb (hw8 hB _) (fun _ h9 => h9) hown hK hP (lo_in hL t_X (by decide)) e6 rfl 0 (by decide) (wd_330 hB _) rfl d_NRunner_workOut_14 ?_
              obtain ⟨sc_79, nc_80, e78, c81, c82⟩ := oc_7.of t_pr (hI7.1 pr)
              refine pf_get (v := .ref (g.lk pr 2)) (C := "BigRunner$Program") (T := FT6) (N := 6) hx hb (hw6 hB _) (fun _ h9 => h9) hown hK hP (lo_in hL t_pr (by decide)) e78 rfl 2 (by decide) (wd_249 hB _) rfl d_NRunner_workOut_17 ?_
              refine lv_iload_n hx hb d_NRunner_workOut_20 rfl (lv_at hl 0 rfl) ?_
              have e83 := oc_25.of (lo_k7_2 hL _ t_pr) (hI7.1 (g.lk pr 2))
              refine pf_aald (i := i) hx hb hK hP (lo_in hL (lo_k7_2 hL _ t_pr) (by decide)) e83 (lo_t25 hL _ (lo_k7_2 hL _ t_pr)) (by omega) (by decide) d_NRunner_workOut_21 ?_
              have t84 := lo_e25 hL _ (lo_k7_2 hL _ t_pr) i (by omega)
              refine lv_astore_n (lv' := [(3, .ref (g.lk (g.lk pr 2) i)), (2, .int (nI i)), (0, .ref X), (1, .ref (g.lk (g.lk pr 0) s9))]) hx hb d_NRunner_workOut_22 rfl hl (by decide) rfl (fun ls hl => ?_)
              refine lv_iconst (v := nI 0) hx hb d_NRunner_workOut_23 (by decide) ?_
              refine lv_istore (lv' := [(4, .int (nI 0)), (3, .ref (g.lk (g.lk pr 2) i)), (2, .int (nI i)), (0, .ref X), (1, .ref (g.lk (g.lk pr 0) s9))]) hx hb d_NRunner_workOut_24 hl (by decide) rfl (fun ls hl => ?_)
              refine lv_aload_n hx hb d_NRunner_workOut_26 rfl (lv_at hl 1 rfl) ?_
              refine pf_get (v := .int (nI 3)) (C := "BigRunner$Node") (T := FT5) (N := 7) hx hb (hw5 hB _) (fun _ h9 => h9) hown hK hP (lo_in hL t84 (by decide)) eN8 rfl 0 (by decide) (wd_204 hB _) rfl d_NRunner_workOut_27 ?_
              refine lv_iconst (v := nI 1) hx hb d_NRunner_workOut_30 (by decide) ?_
              refine lv_icmp_ne (tgt := 42) hx hb d_NRunner_workOut_31 (by decide) (fun b85 => ?_) (fun b85 => ?_)
              · skip
                replace b85 := mt (nI_eq (a := 3) (b := 1) (by omega) (by omega)).mpr b85
                refine lv_aload_n hx hb d_NRunner_workOut_42 rfl (lv_at hl 1 rfl) ?_
                refine pf_get (v := .int (nI 3)) (C := "BigRunner$Node") (T := FT5) (N := 7) hx hb (hw5 hB _) (fun _ h9 => h9) hown hK hP (lo_in hL t84 (by decide)) eN8 rfl 0 (by decide) (wd_204 hB _) rfl d_NRunner_workOut_43 ?_
                refine lv_if_eq (tgt := 71) hx hb d_NRunner_workOut_46 (by decide) (fun b86 => ?_) (fun b86 => ?_)
                · skip
                  replace b86 := (nI_eq (a := 3) (b := 0) (by omega) (by omega)).mp b86
                  exfalso; omega
                · skip
                  replace b86 := mt (nI_eq (a := 3) (b := 0) (by omega) (by omega)).mpr b86
                  refine lv_aload_n hx hb d_NRunner_workOut_49 rfl (lv_at hl 1 rfl) ?_
                  refine pf_get (v := .int (nI 1)) (C := "BigRunner$Node") (T := FT5) (N := 7) hx hb (hw5 hB _) (fun _ h9 => h9) hown hK hP (lo_in hL t84 (by decide)) eN8 rfl 4 (by decide) (wd_218 hB _) rfl d_NRunner_workOut_50 ?_
                  refine lv_if_eq (tgt := 64) hx hb d_NRunner_workOut_53 (by decide) (fun b87 => ?_) (fun b87 => ?_)
                  · skip
                    replace b87 := (nI_eq (a := 1) (b := 0) (by omega) (by omega)).mp b87
                    exfalso; omega
                  · skip
                    replace b87 := mt (nI_eq (a := 1) (b := 0) (by omega) (by omega)).mpr b87
                    refine lv_aload_n hx hb d_NRunner_workOut_56 rfl (lv_at hl 3 rfl) ?_
                    refine lv_aload_n hx hb d_NRunner_workOut_57 rfl (lv_at hl 1 rfl) ?_
                    have eK8 : f2 (g.lk (g.lk pr 2) i) = .inr (5, [.int (nI (km 2)), .int (nI (T 1 i)), .int (nI (T 2 i)), .ref (g.lk (g.lk (g.lk pr 2) i) 3), .int (nI 1), .long mv9, .ref (g.lk (g.lk (g.lk pr 2) i) 6)]) := eN8
                    refine pcc_i (va_runV (C := "BigRunner$Runner") (As := [.ref (g.lk (g.lk pr 2) i)]) (rest := []) ⟨hx, hb, hml, hown, tb_nil⟩ (v_operate l g H.size f2 X pr ix os st mo2 lo2 tr i 2 ((T 1 i)) ((T 2 i)) mv9 kl9 l19 l29 mx9 kr9 r19 r29 my9 x9 y9 hL t_X t_pr hI7 e6 (by omega) (by omega) (by omega) (by omega) eK8 eL9 eR9 (by omega) (by omega) (by omega) (by omega) (by omega) hvx9 hvy9 h6x9 h6y9 (fun z9 => ivin_60 (ovl_in (w := 2) (a := a9) (by decide) (by decide) hi9 (fun _ => hiy9) z9) (hsb h39) (iK_ivn hK9 hKy9 (fun q => absurd q (by decide))))) ⟨(callB_of 1 (tb_one (wd_753 hB _)) tb_good1 rfl rfl rfl (wd_79 hB _) (wd_750 hB _) (by decide +kernel) ⟨Nat.le_of_ble_eq_true rfl, Nat.le_of_ble_eq_true rfl⟩), (wd_752 hB _), (wd_28 hB _)⟩ ⟨pe_bl, pg_recv (ci := 8) hK hP (lo_in hL t_X (by decide)) e6 rfl, pe_pre hB hK hP hD⟩ rfl rfl hl.1 rfl (lv_room (Nat.le_of_ble_eq_true rfl)) d_NRunner_workOut_58 ⟨Nat.le_of_ble_eq_true rfl, Nat.le_of_ble_eq_true rfl⟩) hS (fun r88 f89 H locs hq90 hP hD hS => ?_)
                    obtain ⟨x1_91, q9_92, nv_93, hI1_94, hk1_95⟩ := hq90
                    subst q9_92
                    have hu := hu.st2 hk1_95 t_X t84 (by decide) (by decide)
                    have hv8 := hv8.st2 hk1_95 t_X t84 (by decide) (by decide)
                    have eS := (hk1_95 (g.lk (g.lk pr 0) s9) (tg_ne (lo_e24 hL _ (lo_k7_0 hL _ t_pr) s9 hs36) t_X (by decide)) (tg_ne (lo_e24 hL _ (lo_k7_0 hL _ t_pr) s9 hs36) t84 (by decide))).trans eS
                    have eL9 := (hk1_95 (g.lk (g.lk pr 2) (T 1 i)) (tg_ne (lo_e25 hL _ (lo_k7_2 hL _ t_pr) _ (by omega)) t_X (by decide)) (tn_ne (lo_n25 hL _ (lo_k7_2 hL _ t_pr) _ (by omega)) (lo_n25 hL _ (lo_k7_2 hL _ t_pr) _ (by omega)) (by omega))).trans eL9
                    have eR9 := (hk1_95 (g.lk (g.lk pr 2) (T 2 i)) (tg_ne (lo_e25 hL _ (lo_k7_2 hL _ t_pr) _ (by omega)) t_X (by decide)) (tn_ne (lo_n25 hL _ (lo_k7_2 hL _ t_pr) _ (by omega)) (lo_n25 hL _ (lo_k7_2 hL _ t_pr) _ (by omega)) (by omega))).trans eR9
                    have e78 := (hk1_95 pr (tg_ne t_pr t_X (by decide)) (tg_ne t_pr t84 (by decide))).trans e78
                    have e83 := (hk1_95 (g.lk pr 2) (tg_ne (lo_k7_2 hL _ t_pr) t_X (by decide)) (tg_ne (lo_k7_2 hL _ t_pr) t84 (by decide))).trans e83
                    obtain ⟨mo_96, e97⟩ := x1_91
                    obtain ⟨mv_98, e99, hnv100⟩ := nv_93
                    refine lv_goto (tgt := 69) hx hb d_NRunner_workOut_61 (by decide) ?_
                    refine lv_istore (lv' := [(4, .int (nI (otr 2 x9 y9))), (3, .ref (g.lk (g.lk pr 2) i)), (2, .int (nI i)), (0, .ref X), (1, .ref (g.lk (g.lk pr 0) s9))]) hx hb d_NRunner_workOut_69 hl (by decide) rfl (fun ls hl => ?_)
                    refine lv_iload hx hb d_NRunner_workOut_71 (lv_at hl 0 rfl) ?_
                    refine lv_if_eq (tgt := 79) hx hb d_NRunner_workOut_73 (by decide) (fun b101 => ?_) (fun b101 => ?_)
                    · skip
                      replace b101 := (nI_eq (a := otr 2 x9 y9) (b := 0) (by omega) (by omega)).mp b101
                      refine lv_iinc (k := 2) (v := nI (i + 1)) (lv' := [(2, .int (nI (i + 1))), (4, .int (nI (otr 2 x9 y9))), (3, .ref (g.lk (g.lk pr 2) i)), (0, .ref X), (1, .ref (g.lk (g.lk pr 0) s9))]) hx hb d_NRunner_workOut_79 hl rfl (by rw [nI_succ]; rfl) (by decide) rfl (fun ls hl => ?_)
                      refine lv_goto (tgt := 5) hx hb d_NRunner_workOut_82 (by decide) ?_
                      have hFK9 : FK g f2 f89 X pr T (T 1 i) i := (fun b q1 q2 q3 q4 q5 q6 q7 q8 => hk1_95 b q1 q2)
                      have hFW9 := FW_fk hL t_X t_pr hi72 hFK9
                      have hot0 : otr 2 x9 y9 = 0 := by omega
                      have hl : lv_has ls 5 [(2, .int (nI (i + 1))), (0, .ref X), (1, .ref (g.lk (g.lk pr 0) s9))] := lv_sub hl [0, 3, 4] rfl
                      exact ih4 (i + 1) ((i :: r9)) ((ovl 2 x9 y9 :: V9)) ((xst en (Y9 :: X9 :: S9) 2 a9)) E9 mo_96 lo2 f89 H locs ls (by omega) (by omega) (by have z9 := hlen9; omega) hNR9 ⟨_, _, _, _, rfl, rfl, Nat.lt_succ_self i, (by rw [h39]; exact ⟨_, _, _, _, e99, fun _ => ⟨hnv100 hot0, ivin_60 (ovl_in (w := 2) (a := a9) (by decide) (by decide) hi9 (fun _ => hiy9) hot0) (hsb h39) (iK_ivn hK9 hKy9 (fun q => absurd q (by decide)))⟩, fun z => absurd z (by decide), (ovl_lt (by obtain ⟨_, _, _, _, _, _, _, z⟩ := hL9; exact z) hot0)⟩), (ovl_in (w := 2) (a := a9) (by decide) (by decide) hi9 (fun _ => hiy9) hot0), (iK_ivn hK9 hKy9 (fun q => absurd q (by decide))), VS_mono (by omega) (VS_fk hL t_X t_pr hi72 hFK9 (by omega) _ _ _ _ (Nat.le_refl _) hR9)⟩ (hev.trans (evs_ok (ev1_z vr (by decide) (by decide) hot0))) hxs hps (TPN_fk hL t_X t_pr hi72 hFK9 (by rw [hkd9, h39]; exact e99) (fun z => absurd (hkd9.symm.trans z) (by decide)) hTPi) (hFW.tr hFW9) (VARS_fw hL t_X hVi hFW9 (hFK9 _ (tg_ne (lo_k9_3 hL _ t_X) t_X (by decide)) (tg_ne (lo_k9_3 hL _ t_X) (lo_e25 hL _ (lo_k7_2 hL _ t_pr) i hi72) (by decide)) (tg_ne (lo_k9_3 hL _ t_X) (nw_5 hL t_pr hi72) (by decide)) (tg_ne (lo_k9_3 hL _ t_X) (nw_23 hL t_pr hi72) (by decide)) (tg_ne (lo_k9_3 hL _ t_X) (lo_k9_6 hL _ t_X) (by decide)) (tg_ne (lo_k9_3 hL _ t_X) (lo_k4_0 hL _ (lo_k9_6 hL _ t_X)) (by decide)) (tg_ne (lo_k9_3 hL _ t_X) (lo_k4_1 hL _ (lo_k9_6 hL _ t_X)) (by decide)) (fun j9 hj9 _ => ⟨tg_ne (lo_k9_3 hL _ t_X) (nw_5 hL t_pr (by omega)) (by decide), tg_ne (lo_k9_3 hL _ t_X) (nw_23 hL t_pr (by omega)) (by decide)⟩))) e97 hI1_94 hv8 hl hP hD hS
                    · skip
                      replace b101 := mt (nI_eq (a := otr 2 x9 y9) (b := 0) (by omega) (by omega)).mpr b101
                      refine lv_iload hx hb d_NRunner_workOut_76 (lv_at hl 0 rfl) ?_
                      have hFK9 : FK g f2 f89 X pr T (T 1 i) i := (fun b q1 q2 q3 q4 q5 q6 q7 q8 => hk1_95 b q1 q2)
                      exact pe_iret hx hb hr hlocks hK hP hD hS d_NRunner_workOut_78 ⟨⟨mo_96, lo2, e97⟩, (by rw [hev]; exact congrArg (fun z : Nat × List Int => nI z.1) (evs_no (ev1_t vr (by decide) (by decide) b101) b101).symm), (fun z => absurd ((congrArg (fun z : Nat × List Int => z.1) (hev.trans (evs_no (ev1_t vr (by decide) (by decide) b101) b101))).symm.trans z) b101), (hFW.tr (FW_fk hL t_X t_pr hi72 hFK9)), (TPN_fk hL t_X t_pr hi72 hFK9 (by rw [hkd9, h39]; exact e99) (fun z => absurd (hkd9.symm.trans z) (by decide)) hTPi), hI1_94, hu⟩
              · skip
                replace b85 := (nI_eq (a := 3) (b := 1) (by omega) (by omega)).mp b85
                exfalso; omega
          · skip
            have hkd9 : T 0 i = 4 := hk9
            rcases hb4 with h39 | h39
            · skip
              obtain ⟨r9, hst9⟩ := hz2 (by decide) (by decide)
              subst hst9
              obtain ⟨y9, V8, Y9, S8, hV8, hS8, hk89, hLy9, hiy9, hKy9, hR8⟩ := hVS
              obtain ⟨x9, V9, X9, S9, hV9, hS9, hj9, hL9, hi9, hK9, hR9⟩ := hR8
              subst hV9
              subst hV8
              subst hS9
              subst hS8
              rw [hkd9, h39] at eN9
              have eN8 := eN9
              have hot9 := otr_3 3 x9 y9
              refine lv_aload_n hx hb d_NRunner_workOut_13 rfl (lv_at hl 1 rfl) ?_
              refine pf_get (v := .ref pr) (C := "BigRunner$Runner") (T := FT8) (N := 13) hx hb (hw8 hB _) (fun _ h9 => h9) hown hK hP (lo_in hL t_X (by decide)) e6 rfl 0 (by decide) (wd_330 hB _) rfl d_NRunner_workOut_14 ?_
              obtain ⟨sc_103, nc_104, e102, c105, c106⟩ := oc_7.of t_pr (hI7.1 pr)
              refine pf_get (v := .ref (g.lk pr 2)) (C := "BigRunner$Program") (T := FT6) (N := 6) hx hb (hw6 hB _) (fun _ h9 => h9) hown hK hP (lo_in hL t_pr (by decide)) e102 rfl 2 (by decide) (wd_249 hB _) rfl d_NRunner_workOut_17 ?_
              refine lv_iload_n hx hb d_NRunner_workOut_20 rfl (lv_at hl 0 rfl) ?_
              have e107 := oc_25.of (lo_k7_2 hL _ t_pr) (hI7.1 (g.lk pr 2))
              refine pf_aald (i := i) hx hb hK hP (lo_in hL (lo_k7_2 hL _ t_pr) (by decide)) e107 (lo_t25 hL _ (lo_k7_2 hL _ t_pr)) (by omega) (by decide) d_NRunner_workOut_21 ?_
              have t108 := lo_e25 hL _ (lo_k7_2 hL _ t_pr) i (by omega)
              refine lv_astore_n (lv' := [(3, .ref (g.lk (g.lk pr 2) i)), (2, .int (nI i)), (0, .ref X), (1, .ref (g.lk (g.lk pr 0) s9))]) hx hb d_NRunner_workOut_22 rfl hl (by decide) rfl (fun ls hl => ?_)
              refine lv_iconst (v := nI 0) hx hb d_NRunner_workOut_23 (by decide) ?_
              refine lv_istore (lv' := [(4, .int (nI 0)), (3, .ref (g.lk (g.lk pr 2) i)), (2, .int (nI i)), (0, .ref X), (1, .ref (g.lk (g.lk pr 0) s9))]) hx hb d_NRunner_workOut_24 hl (by decide) rfl (fun ls hl => ?_)
              refine lv_aload_n hx hb d_NRunner_workOut_26 rfl (lv_at hl 1 rfl) ?_
              refine pf_get (v := .int (nI 4)) (C := "BigRunner$Node") (T := FT5) (N := 7) hx hb (hw5 hB _) (fun _ h9 => h9) hown hK hP (lo_in hL t108 (by decide)) eN8 rfl 0 (by decide) (wd_204 hB _) rfl d_NRunner_workOut_27 ?_
              refine lv_iconst (v := nI 1) hx hb d_NRunner_workOut_30 (by decide) ?_
              refine lv_icmp_ne (tgt := 42) hx hb d_NRunner_workOut_31 (by decide) (fun b109 => ?_) (fun b109 => ?_)
              · skip
                replace b109 := mt (nI_eq (a := 4) (b := 1) (by omega) (by omega)).mpr b109
                refine lv_aload_n hx hb d_NRunner_workOut_42 rfl (lv_at hl 1 rfl) ?_
                refine pf_get (v := .int (nI 4)) (C := "BigRunner$Node") (T := FT5) (N := 7) hx hb (hw5 hB _) (fun _ h9 => h9) hown hK hP (lo_in hL t108 (by decide)) eN8 rfl 0 (by decide) (wd_204 hB _) rfl d_NRunner_workOut_43 ?_
                refine lv_if_eq (tgt := 71) hx hb d_NRunner_workOut_46 (by decide) (fun b110 => ?_) (fun b110 => ?_)
                · skip
                  replace b110 := (nI_eq (a := 4) (b := 0) (by omega) (by omega)).mp b110
                  exfalso; omega
                · skip
                  replace b110 := mt (nI_eq (a := 4) (b := 0) (by omega) (by omega)).mpr b110
                  refine lv_aload_n hx hb d_NRunner_workOut_49 rfl (lv_at hl 1 rfl) ?_
                  refine pf_get (v := .int (nI 0)) (C := "BigRunner$Node") (T := FT5) (N := 7) hx hb (hw5 hB _) (fun _ h9 => h9) hown hK hP (lo_in hL t108 (by decide)) eN8 rfl 4 (by decide) (wd_218 hB _) rfl d_NRunner_workOut_50 ?_
                  refine lv_if_eq (tgt := 64) hx hb d_NRunner_workOut_53 (by decide) (fun b111 => ?_) (fun b111 => ?_)
                  · skip
                    replace b111 := (nI_eq (a := 0) (b := 0) (by omega) (by omega)).mp b111
                    refine lv_aload_n hx hb d_NRunner_workOut_64 rfl (lv_at hl 3 rfl) ?_
                    refine lv_aload_n hx hb d_NRunner_workOut_65 rfl (lv_at hl 1 rfl) ?_
                    have eK8 : f2 (g.lk (g.lk pr 2) i) = .inr (5, [.int (nI (km 3)), .int (nI (T 1 i)), .int (nI (T 2 i)), .ref (g.lk (g.lk (g.lk pr 2) i) 3), .int (nI 0), .long mv9, .ref (g.lk (g.lk (g.lk pr 2) i) 6)]) := eN8
                    refine pcc_i (va_runV (C := "BigRunner$Runner") (As := [.ref (g.lk (g.lk pr 2) i)]) (rest := []) ⟨hx, hb, hml, hown, tb_nil⟩ (v_opLong l g H.size f2 X pr ix os st mo2 lo2 tr i 3 ((T 1 i)) ((T 2 i)) mv9 ((T 3 (T 1 i))) x9 ((T 3 (T 2 i))) y9 hL t_X t_pr hI7 e6 (by omega) (by omega) (by omega) (by omega) eK8 hL9 hLy9 (by omega) (by omega) (by omega) (by omega) (by omega) (by omega) ((hTB.1 (T 1 i) (by omega)).2.2.2.2) ((hTB.1 (T 2 i) (by omega)).2.2.2.2)) ⟨(callB_of 1 (tb_one (wd_757 hB _)) tb_good1 rfl rfl rfl (wd_79 hB _) (wd_754 hB _) (by decide +kernel) ⟨Nat.le_of_ble_eq_true rfl, Nat.le_of_ble_eq_true rfl⟩), (wd_756 hB _), (wd_29 hB _)⟩ ⟨pe_bl, pg_recv (ci := 8) hK hP (lo_in hL t_X (by decide)) e6 rfl, pe_pre hB hK hP hD⟩ rfl rfl hl.1 rfl (lv_room (Nat.le_of_ble_eq_true rfl)) d_NRunner_workOut_66 ⟨Nat.le_of_ble_eq_true rfl, Nat.le_of_ble_eq_true rfl⟩) hS (fun r112 f113 H locs hq114 hP hD hS => ?_)
                    obtain ⟨x1_115, q9_116, lv9_117, hI1_118, hk1_119⟩ := hq114
                    subst q9_116
                    have hu : un [4, 5, 6, 9, 22, 23] g f f113 := fun a9 ha9 => (hk1_119 a9 (fun q9 => ha9 (by rw [q9, t_X]; decide)) (fun q9 => ha9 (by rw [q9, (lo_k6_6 hL _ t108)]; decide)) (fun q9 => ha9 (by rw [q9, (lo_k5_2 hL _ (lo_k6_6 hL _ t108))]; decide)) (fun q9 => ha9 (by rw [q9, (lo_k6_6 hL _ (lo_e25 hL _ (lo_k7_2 hL _ t_pr) _ (by omega)))]; decide)) (fun q9 => ha9 (by rw [q9, (lo_k5_2 hL _ (lo_k6_6 hL _ (lo_e25 hL _ (lo_k7_2 hL _ t_pr) _ (by omega))))]; decide)) (fun q9 => ha9 (by rw [q9, (lo_k6_6 hL _ (lo_e25 hL _ (lo_k7_2 hL _ t_pr) _ (by omega)))]; decide)) (fun q9 => ha9 (by rw [q9, (lo_k5_2 hL _ (lo_k6_6 hL _ (lo_e25 hL _ (lo_k7_2 hL _ t_pr) _ (by omega))))]; decide)) (fun q9 => ha9 (by rw [q9, (lo_k9_6 hL _ t_X)]; decide)) (fun q9 => ha9 (by rw [q9, (lo_k4_0 hL _ (lo_k9_6 hL _ t_X))]; decide)) (fun q9 => ha9 (by rw [q9, (lo_k4_1 hL _ (lo_k9_6 hL _ t_X))]; decide))).trans (hu a9 ha9)
                    have hv8 : un [4, 5, 6, 9, 22, 23] g f f113 := fun a9 ha9 => (hk1_119 a9 (fun q9 => ha9 (by rw [q9, t_X]; decide)) (fun q9 => ha9 (by rw [q9, (lo_k6_6 hL _ t108)]; decide)) (fun q9 => ha9 (by rw [q9, (lo_k5_2 hL _ (lo_k6_6 hL _ t108))]; decide)) (fun q9 => ha9 (by rw [q9, (lo_k6_6 hL _ (lo_e25 hL _ (lo_k7_2 hL _ t_pr) _ (by omega)))]; decide)) (fun q9 => ha9 (by rw [q9, (lo_k5_2 hL _ (lo_k6_6 hL _ (lo_e25 hL _ (lo_k7_2 hL _ t_pr) _ (by omega))))]; decide)) (fun q9 => ha9 (by rw [q9, (lo_k6_6 hL _ (lo_e25 hL _ (lo_k7_2 hL _ t_pr) _ (by omega)))]; decide)) (fun q9 => ha9 (by rw [q9, (lo_k5_2 hL _ (lo_k6_6 hL _ (lo_e25 hL _ (lo_k7_2 hL _ t_pr) _ (by omega))))]; decide)) (fun q9 => ha9 (by rw [q9, (lo_k9_6 hL _ t_X)]; decide)) (fun q9 => ha9 (by rw [q9, (lo_k4_0 hL _ (lo_k9_6 hL _ t_X))]; decide)) (fun q9 => ha9 (by rw [q9, (lo_k4_1 hL _ (lo_k9_6 hL _ t_X))]; decide))).trans (hv8 a9 ha9)
                    have eS := (hk1_119 (g.lk (g.lk pr 0) s9) (tg_ne (lo_e24 hL _ (lo_k7_0 hL _ t_pr) s9 hs36) t_X (by decide)) (tg_ne (lo_e24 hL _ (lo_k7_0 hL _ t_pr) s9 hs36) (lo_k6_6 hL _ t108) (by decide)) (tg_ne (lo_e24 hL _ (lo_k7_0 hL _ t_pr) s9 hs36) (lo_k5_2 hL _ (lo_k6_6 hL _ t108)) (by decide)) (tg_ne (lo_e24 hL _ (lo_k7_0 hL _ t_pr) s9 hs36) (lo_k6_6 hL _ (lo_e25 hL _ (lo_k7_2 hL _ t_pr) _ (by omega))) (by decide)) (tg_ne (lo_e24 hL _ (lo_k7_0 hL _ t_pr) s9 hs36) (lo_k5_2 hL _ (lo_k6_6 hL _ (lo_e25 hL _ (lo_k7_2 hL _ t_pr) _ (by omega)))) (by decide)) (tg_ne (lo_e24 hL _ (lo_k7_0 hL _ t_pr) s9 hs36) (lo_k6_6 hL _ (lo_e25 hL _ (lo_k7_2 hL _ t_pr) _ (by omega))) (by decide)) (tg_ne (lo_e24 hL _ (lo_k7_0 hL _ t_pr) s9 hs36) (lo_k5_2 hL _ (lo_k6_6 hL _ (lo_e25 hL _ (lo_k7_2 hL _ t_pr) _ (by omega)))) (by decide)) (tg_ne (lo_e24 hL _ (lo_k7_0 hL _ t_pr) s9 hs36) (lo_k9_6 hL _ t_X) (by decide)) (tg_ne (lo_e24 hL _ (lo_k7_0 hL _ t_pr) s9 hs36) (lo_k4_0 hL _ (lo_k9_6 hL _ t_X)) (by decide)) (tg_ne (lo_e24 hL _ (lo_k7_0 hL _ t_pr) s9 hs36) (lo_k4_1 hL _ (lo_k9_6 hL _ t_X)) (by decide))).trans eS
                    have eK8 := (hk1_119 (g.lk (g.lk pr 2) i) (tg_ne t108 t_X (by decide)) (tg_ne t108 (lo_k6_6 hL _ t108) (by decide)) (tg_ne t108 (lo_k5_2 hL _ (lo_k6_6 hL _ t108)) (by decide)) (tg_ne t108 (lo_k6_6 hL _ (lo_e25 hL _ (lo_k7_2 hL _ t_pr) _ (by omega))) (by decide)) (tg_ne t108 (lo_k5_2 hL _ (lo_k6_6 hL _ (lo_e25 hL _ (lo_k7_2 hL _ t_pr) _ (by omega)))) (by decide)) (tg_ne t108 (lo_k6_6 hL _ (lo_e25 hL _ (lo_k7_2 hL _ t_pr) _ (by omega))) (by decide)) (tg_ne t108 (lo_k5_2 hL _ (lo_k6_6 hL _ (lo_e25 hL _ (lo_k7_2 hL _ t_pr) _ (by omega)))) (by decide)) (tg_ne t108 (lo_k9_6 hL _ t_X) (by decide)) (tg_ne t108 (lo_k4_0 hL _ (lo_k9_6 hL _ t_X)) (by decide)) (tg_ne t108 (lo_k4_1 hL _ (lo_k9_6 hL _ t_X)) (by decide))).trans eK8
                    have e102 := (hk1_119 pr (tg_ne t_pr t_X (by decide)) (tg_ne t_pr (lo_k6_6 hL _ t108) (by decide)) (tg_ne t_pr (lo_k5_2 hL _ (lo_k6_6 hL _ t108)) (by decide)) (tg_ne t_pr (lo_k6_6 hL _ (lo_e25 hL _ (lo_k7_2 hL _ t_pr) _ (by omega))) (by decide)) (tg_ne t_pr (lo_k5_2 hL _ (lo_k6_6 hL _ (lo_e25 hL _ (lo_k7_2 hL _ t_pr) _ (by omega)))) (by decide)) (tg_ne t_pr (lo_k6_6 hL _ (lo_e25 hL _ (lo_k7_2 hL _ t_pr) _ (by omega))) (by decide)) (tg_ne t_pr (lo_k5_2 hL _ (lo_k6_6 hL _ (lo_e25 hL _ (lo_k7_2 hL _ t_pr) _ (by omega)))) (by decide)) (tg_ne t_pr (lo_k9_6 hL _ t_X) (by decide)) (tg_ne t_pr (lo_k4_0 hL _ (lo_k9_6 hL _ t_X)) (by decide)) (tg_ne t_pr (lo_k4_1 hL _ (lo_k9_6 hL _ t_X)) (by decide))).trans e102
                    have e107 := (hk1_119 (g.lk pr 2) (tg_ne (lo_k7_2 hL _ t_pr) t_X (by decide)) (tg_ne (lo_k7_2 hL _ t_pr) (lo_k6_6 hL _ t108) (by decide)) (tg_ne (lo_k7_2 hL _ t_pr) (lo_k5_2 hL _ (lo_k6_6 hL _ t108)) (by decide)) (tg_ne (lo_k7_2 hL _ t_pr) (lo_k6_6 hL _ (lo_e25 hL _ (lo_k7_2 hL _ t_pr) _ (by omega))) (by decide)) (tg_ne (lo_k7_2 hL _ t_pr) (lo_k5_2 hL _ (lo_k6_6 hL _ (lo_e25 hL _ (lo_k7_2 hL _ t_pr) _ (by omega)))) (by decide)) (tg_ne (lo_k7_2 hL _ t_pr) (lo_k6_6 hL _ (lo_e25 hL _ (lo_k7_2 hL _ t_pr) _ (by omega))) (by decide)) (tg_ne (lo_k7_2 hL _ t_pr) (lo_k5_2 hL _ (lo_k6_6 hL _ (lo_e25 hL _ (lo_k7_2 hL _ t_pr) _ (by omega)))) (by decide)) (tg_ne (lo_k7_2 hL _ t_pr) (lo_k9_6 hL _ t_X) (by decide)) (tg_ne (lo_k7_2 hL _ t_pr) (lo_k4_0 hL _ (lo_k9_6 hL _ t_X)) (by decide)) (tg_ne (lo_k7_2 hL _ t_pr) (lo_k4_1 hL _ (lo_k9_6 hL _ t_X)) (by decide))).trans e107
                    obtain ⟨lo_120, e121⟩ := x1_115
                    refine lv_istore (lv' := [(4, .int (nI (otr 3 x9 y9))), (3, .ref (g.lk (g.lk pr 2) i)), (2, .int (nI i)), (0, .ref X), (1, .ref (g.lk (g.lk pr 0) s9))]) hx hb d_NRunner_workOut_69 hl (by decide) rfl (fun ls hl => ?_)
                    refine lv_iload hx hb d_NRunner_workOut_71 (lv_at hl 0 rfl) ?_
                    refine lv_if_eq (tgt := 79) hx hb d_NRunner_workOut_73 (by decide) (fun b122 => ?_) (fun b122 => ?_)
                    · skip
                      replace b122 := (nI_eq (a := otr 3 x9 y9) (b := 0) (by omega) (by omega)).mp b122
                      refine lv_iinc (k := 2) (v := nI (i + 1)) (lv' := [(2, .int (nI (i + 1))), (4, .int (nI (otr 3 x9 y9))), (3, .ref (g.lk (g.lk pr 2) i)), (0, .ref X), (1, .ref (g.lk (g.lk pr 0) s9))]) hx hb d_NRunner_workOut_79 hl rfl (by rw [nI_succ]; rfl) (by decide) rfl (fun ls hl => ?_)
                      refine lv_goto (tgt := 5) hx hb d_NRunner_workOut_82 (by decide) ?_
                      have hFK9 : FK g f2 f113 X pr T (T 1 i) i := (fun b q1 q2 q3 q4 q5 q6 q7 q8 => hk1_119 b q1 q3 q4 (q8 (T 1 i) (by omega) (Or.inr (Nat.le_refl _))).1 (q8 (T 1 i) (by omega) (Or.inr (Nat.le_refl _))).2 (q8 (T 2 i) (by omega) (Or.inr (Nat.le_of_lt hj9))).1 (q8 (T 2 i) (by omega) (Or.inr (Nat.le_of_lt hj9))).2 q5 q6 q7)
                      have hFW9 := FW_fk hL t_X t_pr hi72 hFK9
                      have hot0 : otr 3 x9 y9 = 0 := by omega
                      have hl : lv_has ls 5 [(2, .int (nI (i + 1))), (0, .ref X), (1, .ref (g.lk (g.lk pr 0) s9))] := lv_sub hl [0, 3, 4] rfl
                      exact ih4 (i + 1) ((i :: r9)) ((ovl 3 x9 y9 :: V9)) ((xst en (Y9 :: X9 :: S9) 3 a9)) E9 mo2 lo_120 f113 H locs ls (by omega) (by omega) (by have z9 := hlen9; omega) hNR9 ⟨_, _, _, _, rfl, rfl, Nat.lt_succ_self i, (by rw [h39]; exact ⟨_, _, _, _, eK8, fun z => absurd z (by decide), fun _ => lv9_117 hot0, (ovl_lt (by obtain ⟨_, _, _, _, _, _, _, z⟩ := hL9; exact z) hot0)⟩), (ovl_in (w := 3) (a := a9) (by decide) (by decide) hi9 (fun _ => hiy9) hot0), (iK_ivn hK9 hKy9 (fun q => absurd q (by decide))), VS_mono (by omega) (VS_fk hL t_X t_pr hi72 hFK9 (by omega) _ _ _ _ (Nat.le_refl _) hR9)⟩ (hev.trans (evs_ok (ev1_z vr (by decide) (by decide) hot0))) hxs hps (TPN_fk hL t_X t_pr hi72 hFK9 (by rw [hkd9, h39]; exact eK8) (fun z => absurd (hkd9.symm.trans z) (by decide)) hTPi) (hFW.tr hFW9) (VARS_fw hL t_X hVi hFW9 (hFK9 _ (tg_ne (lo_k9_3 hL _ t_X) t_X (by decide)) (tg_ne (lo_k9_3 hL _ t_X) (lo_e25 hL _ (lo_k7_2 hL _ t_pr) i hi72) (by decide)) (tg_ne (lo_k9_3 hL _ t_X) (nw_5 hL t_pr hi72) (by decide)) (tg_ne (lo_k9_3 hL _ t_X) (nw_23 hL t_pr hi72) (by decide)) (tg_ne (lo_k9_3 hL _ t_X) (lo_k9_6 hL _ t_X) (by decide)) (tg_ne (lo_k9_3 hL _ t_X) (lo_k4_0 hL _ (lo_k9_6 hL _ t_X)) (by decide)) (tg_ne (lo_k9_3 hL _ t_X) (lo_k4_1 hL _ (lo_k9_6 hL _ t_X)) (by decide)) (fun j9 hj9 _ => ⟨tg_ne (lo_k9_3 hL _ t_X) (nw_5 hL t_pr (by omega)) (by decide), tg_ne (lo_k9_3 hL _ t_X) (nw_23 hL t_pr (by omega)) (by decide)⟩))) e121 hI1_118 hv8 hl hP hD hS
                    · skip
                      replace b122 := mt (nI_eq (a := otr 3 x9 y9) (b := 0) (by omega) (by omega)).mpr b122
                      refine lv_iload hx hb d_NRunner_workOut_76 (lv_at hl 0 rfl) ?_
                      have hFK9 : FK g f2 f113 X pr T (T 1 i) i := (fun b q1 q2 q3 q4 q5 q6 q7 q8 => hk1_119 b q1 q3 q4 (q8 (T 1 i) (by omega) (Or.inr (Nat.le_refl _))).1 (q8 (T 1 i) (by omega) (Or.inr (Nat.le_refl _))).2 (q8 (T 2 i) (by omega) (Or.inr (Nat.le_of_lt hj9))).1 (q8 (T 2 i) (by omega) (Or.inr (Nat.le_of_lt hj9))).2 q5 q6 q7)
                      exact pe_iret hx hb hr hlocks hK hP hD hS d_NRunner_workOut_78 ⟨⟨mo2, lo_120, e121⟩, (by rw [hev]; exact congrArg (fun z : Nat × List Int => nI z.1) (evs_no (ev1_t vr (by decide) (by decide) b122) b122).symm), (fun z => absurd ((congrArg (fun z : Nat × List Int => z.1) (hev.trans (evs_no (ev1_t vr (by decide) (by decide) b122) b122))).symm.trans z) b122), (hFW.tr (FW_fk hL t_X t_pr hi72 hFK9)), (TPN_fk hL t_X t_pr hi72 hFK9 (by rw [hkd9, h39]; exact eK8) (fun z => absurd (hkd9.symm.trans z) (by decide)) hTPi), hI1_118, hu⟩
                  · skip
                    replace b111 := mt (nI_eq (a := 0) (b := 0) (by omega) (by omega)).mpr b111
                    exfalso; omega
              · skip
                replace b109 := (nI_eq (a := 4) (b := 1) (by omega) (by omega)).mp b109
                exfalso; omega
            · skip
              obtain ⟨r9, hst9⟩ := hz2 (by decide) (by decide)
              subst hst9
              obtain ⟨y9, V8, Y9, S8, hV8, hS8, hk89, hLy9, hiy9, hKy9, hR8⟩ := hVS
              obtain ⟨x9, V9, X9, S9, hV9, hS9, hj9, hL9, hi9, hK9, hR9⟩ := hR8
              subst hV9
              subst hV8
              subst hS9
              subst hS8
              rw [hkd9, h39] at eN9
              have eN8 := eN9
              obtain ⟨hsl9, hsr9⟩ := hs2 (by decide) h39
              skip
              obtain ⟨kl9, l19, l29, mx9, eL9, hv19, -, ht19⟩ := (by rw [hsl9] at hL9; exact hL9 : VL g f2 pr 1 (T 1 i) x9)
              obtain ⟨hvx9, h6x9⟩ := hv19 rfl
              obtain ⟨kr9, r19, r29, my9, eR9, hv29, -, ht29⟩ := (by rw [hsr9] at hLy9; exact hLy9 : VL g f2 pr 1 (T 2 i) y9)
              obtain ⟨hvy9, h6y9⟩ := hv29 rfl
              have hot9 := otr_3 3 x9 y9
              refine lv_aload_n hx hb d_NRunner_workOut_13 rfl (lv_at hl 1 rfl) ?_
              refine pf_get (v := .ref pr) (C := "BigRunner$Runner") (T := FT8) (N := 13) hx hb (hw8 hB _) (fun _ h9 => h9) hown hK hP (lo_in hL t_X (by decide)) e6 rfl 0 (by decide) (wd_330 hB _) rfl d_NRunner_workOut_14 ?_
              obtain ⟨sc_124, nc_125, e123, c126, c127⟩ := oc_7.of t_pr (hI7.1 pr)
              refine pf_get (v := .ref (g.lk pr 2)) (C := "BigRunner$Program") (T := FT6) (N := 6) hx hb (hw6 hB _) (fun _ h9 => h9) hown hK hP (lo_in hL t_pr (by decide)) e123 rfl 2 (by decide) (wd_249 hB _) rfl d_NRunner_workOut_17 ?_
              refine lv_iload_n hx hb d_NRunner_workOut_20 rfl (lv_at hl 0 rfl) ?_
              have e128 := oc_25.of (lo_k7_2 hL _ t_pr) (hI7.1 (g.lk pr 2))
              refine pf_aald (i := i) hx hb hK hP (lo_in hL (lo_k7_2 hL _ t_pr) (by decide)) e128 (lo_t25 hL _ (lo_k7_2 hL _ t_pr)) (by omega) (by decide) d_NRunner_workOut_21 ?_
              have t129 := lo_e25 hL _ (lo_k7_2 hL _ t_pr) i (by omega)
              refine lv_astore_n (lv' := [(3, .ref (g.lk (g.lk pr 2) i)), (2, .int (nI i)), (0, .ref X), (1, .ref (g.lk (g.lk pr 0) s9))]) hx hb d_NRunner_workOut_22 rfl hl (by decide) rfl (fun ls hl => ?_)
              refine lv_iconst (v := nI 0) hx hb d_NRunner_workOut_23 (by decide) ?_
              refine lv_istore (lv' := [(4, .int (nI 0)), (3, .ref (g.lk (g.lk pr 2) i)), (2, .int (nI i)), (0, .ref X), (1, .ref (g.lk (g.lk pr 0) s9))]) hx hb d_NRunner_workOut_24 hl (by decide) rfl (fun ls hl => ?_)
              refine lv_aload_n hx hb d_NRunner_workOut_26 rfl (lv_at hl 1 rfl) ?_
              refine pf_get (v := .int (nI 4)) (C := "BigRunner$Node") (T := FT5) (N := 7) hx hb (hw5 hB _) (fun _ h9 => h9) hown hK hP (lo_in hL t129 (by decide)) eN8 rfl 0 (by decide) (wd_204 hB _) rfl d_NRunner_workOut_27 ?_
              refine lv_iconst (v := nI 1) hx hb d_NRunner_workOut_30 (by decide) ?_
              refine lv_icmp_ne (tgt := 42) hx hb d_NRunner_workOut_31 (by decide) (fun b130 => ?_) (fun b130 => ?_)
              · skip
                replace b130 := mt (nI_eq (a := 4) (b := 1) (by omega) (by omega)).mpr b130
                refine lv_aload_n hx hb d_NRunner_workOut_42 rfl (lv_at hl 1 rfl) ?_
                refine pf_get (v := .int (nI 4)) (C := "BigRunner$Node") (T := FT5) (N := 7) hx hb (hw5 hB _) (fun _ h9 => h9) hown hK hP (lo_in hL t129 (by decide)) eN8 rfl 0 (by decide) (wd_204 hB _) rfl d_NRunner_workOut_43 ?_
                refine lv_if_eq (tgt := 71) hx hb d_NRunner_workOut_46 (by decide) (fun b131 => ?_) (fun b131 => ?_)
                · skip
                  replace b131 := (nI_eq (a := 4) (b := 0) (by omega) (by omega)).mp b131
                  exfalso; omega
                · skip
                  replace b131 := mt (nI_eq (a := 4) (b := 0) (by omega) (by omega)).mpr b131
                  refine lv_aload_n hx hb d_NRunner_workOut_49 rfl (lv_at hl 1 rfl) ?_
                  refine pf_get (v := .int (nI 1)) (C := "BigRunner$Node") (T := FT5) (N := 7) hx hb (hw5 hB _) (fun _ h9 => h9) hown hK hP (lo_in hL t129 (by decide)) eN8 rfl 4 (by decide) (wd_218 hB _) rfl d_NRunner_workOut_50 ?_
                  refine lv_if_eq (tgt := 64) hx hb d_NRunner_workOut_53 (by decide) (fun b132 => ?_) (fun b132 => ?_)
                  · skip
                    replace b132 := (nI_eq (a := 1) (b := 0) (by omega) (by omega)).mp b132
                    exfalso; omega
                  · skip
                    replace b132 := mt (nI_eq (a := 1) (b := 0) (by omega) (by omega)).mpr b132
                    refine lv_aload_n hx hb d_NRunner_workOut_56 rfl (lv_at hl 3 rfl) ?_
                    refine lv_aload_n hx hb d_NRunner_workOut_57 rfl (lv_at hl 1 rfl) ?_
                    have eK8 : f2 (g.lk (g.lk pr 2) i) = .inr (5, [.int (nI (km 3)), .int (nI (T 1 i)), .int (nI (T 2 i)), .ref (g.lk (g.lk (g.lk pr 2) i) 3), .int (nI 1), .long mv9, .ref (g.lk (g.lk (g.lk pr 2) i) 6)]) := eN8
                    refine pcc_i (va_runV (C := "BigRunner$Runner") (As := [.ref (g.lk (g.lk pr 2) i)]) (rest := []) ⟨hx, hb, hml, hown, tb_nil⟩ (v_operate l g H.size f2 X pr ix os st mo2 lo2 tr i 3 ((T 1 i)) ((T 2 i)) mv9 kl9 l19 l29 mx9 kr9 r19 r29 my9 x9 y9 hL t_X t_pr hI7 e6 (by omega) (by omega) (by omega) (by omega) eK8 eL9 eR9 (by omega) (by omega) (by omega) (by omega) (by omega) hvx9 hvy9 h6x9 h6y9 (fun z9 => ivin_60 (ovl_in (w := 3) (a := a9) (by decide) (by decide) hi9 (fun _ => hiy9) z9) (hsb h39) (iK_ivn hK9 hKy9 (fun q => absurd q (by decide))))) ⟨(callB_of 1 (tb_one (wd_753 hB _)) tb_good1 rfl rfl rfl (wd_79 hB _) (wd_750 hB _) (by decide +kernel) ⟨Nat.le_of_ble_eq_true rfl, Nat.le_of_ble_eq_true rfl⟩), (wd_752 hB _), (wd_28 hB _)⟩ ⟨pe_bl, pg_recv (ci := 8) hK hP (lo_in hL t_X (by decide)) e6 rfl, pe_pre hB hK hP hD⟩ rfl rfl hl.1 rfl (lv_room (Nat.le_of_ble_eq_true rfl)) d_NRunner_workOut_58 ⟨Nat.le_of_ble_eq_true rfl, Nat.le_of_ble_eq_true rfl⟩) hS (fun r133 f134 H locs hq135 hP hD hS => ?_)
                    obtain ⟨x1_136, q9_137, nv_138, hI1_139, hk1_140⟩ := hq135
                    subst q9_137
                    have hu := hu.st2 hk1_140 t_X t129 (by decide) (by decide)
                    have hv8 := hv8.st2 hk1_140 t_X t129 (by decide) (by decide)
                    have eS := (hk1_140 (g.lk (g.lk pr 0) s9) (tg_ne (lo_e24 hL _ (lo_k7_0 hL _ t_pr) s9 hs36) t_X (by decide)) (tg_ne (lo_e24 hL _ (lo_k7_0 hL _ t_pr) s9 hs36) t129 (by decide))).trans eS
                    have eL9 := (hk1_140 (g.lk (g.lk pr 2) (T 1 i)) (tg_ne (lo_e25 hL _ (lo_k7_2 hL _ t_pr) _ (by omega)) t_X (by decide)) (tn_ne (lo_n25 hL _ (lo_k7_2 hL _ t_pr) _ (by omega)) (lo_n25 hL _ (lo_k7_2 hL _ t_pr) _ (by omega)) (by omega))).trans eL9
                    have eR9 := (hk1_140 (g.lk (g.lk pr 2) (T 2 i)) (tg_ne (lo_e25 hL _ (lo_k7_2 hL _ t_pr) _ (by omega)) t_X (by decide)) (tn_ne (lo_n25 hL _ (lo_k7_2 hL _ t_pr) _ (by omega)) (lo_n25 hL _ (lo_k7_2 hL _ t_pr) _ (by omega)) (by omega))).trans eR9
                    have e123 := (hk1_140 pr (tg_ne t_pr t_X (by decide)) (tg_ne t_pr t129 (by decide))).trans e123
                    have e128 := (hk1_140 (g.lk pr 2) (tg_ne (lo_k7_2 hL _ t_pr) t_X (by decide)) (tg_ne (lo_k7_2 hL _ t_pr) t129 (by decide))).trans e128
                    obtain ⟨mo_141, e142⟩ := x1_136
                    obtain ⟨mv_143, e144, hnv145⟩ := nv_138
                    refine lv_goto (tgt := 69) hx hb d_NRunner_workOut_61 (by decide) ?_
                    refine lv_istore (lv' := [(4, .int (nI (otr 3 x9 y9))), (3, .ref (g.lk (g.lk pr 2) i)), (2, .int (nI i)), (0, .ref X), (1, .ref (g.lk (g.lk pr 0) s9))]) hx hb d_NRunner_workOut_69 hl (by decide) rfl (fun ls hl => ?_)
                    refine lv_iload hx hb d_NRunner_workOut_71 (lv_at hl 0 rfl) ?_
                    refine lv_if_eq (tgt := 79) hx hb d_NRunner_workOut_73 (by decide) (fun b146 => ?_) (fun b146 => ?_)
                    · skip
                      replace b146 := (nI_eq (a := otr 3 x9 y9) (b := 0) (by omega) (by omega)).mp b146
                      refine lv_iinc (k := 2) (v := nI (i + 1)) (lv' := [(2, .int (nI (i + 1))), (4, .int (nI (otr 3 x9 y9))), (3, .ref (g.lk (g.lk pr 2) i)), (0, .ref X), (1, .ref (g.lk (g.lk pr 0) s9))]) hx hb d_NRunner_workOut_79 hl rfl (by rw [nI_succ]; rfl) (by decide) rfl (fun ls hl => ?_)
                      refine lv_goto (tgt := 5) hx hb d_NRunner_workOut_82 (by decide) ?_
                      have hFK9 : FK g f2 f134 X pr T (T 1 i) i := (fun b q1 q2 q3 q4 q5 q6 q7 q8 => hk1_140 b q1 q2)
                      have hFW9 := FW_fk hL t_X t_pr hi72 hFK9
                      have hot0 : otr 3 x9 y9 = 0 := by omega
                      have hl : lv_has ls 5 [(2, .int (nI (i + 1))), (0, .ref X), (1, .ref (g.lk (g.lk pr 0) s9))] := lv_sub hl [0, 3, 4] rfl
                      exact ih4 (i + 1) ((i :: r9)) ((ovl 3 x9 y9 :: V9)) ((xst en (Y9 :: X9 :: S9) 3 a9)) E9 mo_141 lo2 f134 H locs ls (by omega) (by omega) (by have z9 := hlen9; omega) hNR9 ⟨_, _, _, _, rfl, rfl, Nat.lt_succ_self i, (by rw [h39]; exact ⟨_, _, _, _, e144, fun _ => ⟨hnv145 hot0, ivin_60 (ovl_in (w := 3) (a := a9) (by decide) (by decide) hi9 (fun _ => hiy9) hot0) (hsb h39) (iK_ivn hK9 hKy9 (fun q => absurd q (by decide)))⟩, fun z => absurd z (by decide), (ovl_lt (by obtain ⟨_, _, _, _, _, _, _, z⟩ := hL9; exact z) hot0)⟩), (ovl_in (w := 3) (a := a9) (by decide) (by decide) hi9 (fun _ => hiy9) hot0), (iK_ivn hK9 hKy9 (fun q => absurd q (by decide))), VS_mono (by omega) (VS_fk hL t_X t_pr hi72 hFK9 (by omega) _ _ _ _ (Nat.le_refl _) hR9)⟩ (hev.trans (evs_ok (ev1_z vr (by decide) (by decide) hot0))) hxs hps (TPN_fk hL t_X t_pr hi72 hFK9 (by rw [hkd9, h39]; exact e144) (fun z => absurd (hkd9.symm.trans z) (by decide)) hTPi) (hFW.tr hFW9) (VARS_fw hL t_X hVi hFW9 (hFK9 _ (tg_ne (lo_k9_3 hL _ t_X) t_X (by decide)) (tg_ne (lo_k9_3 hL _ t_X) (lo_e25 hL _ (lo_k7_2 hL _ t_pr) i hi72) (by decide)) (tg_ne (lo_k9_3 hL _ t_X) (nw_5 hL t_pr hi72) (by decide)) (tg_ne (lo_k9_3 hL _ t_X) (nw_23 hL t_pr hi72) (by decide)) (tg_ne (lo_k9_3 hL _ t_X) (lo_k9_6 hL _ t_X) (by decide)) (tg_ne (lo_k9_3 hL _ t_X) (lo_k4_0 hL _ (lo_k9_6 hL _ t_X)) (by decide)) (tg_ne (lo_k9_3 hL _ t_X) (lo_k4_1 hL _ (lo_k9_6 hL _ t_X)) (by decide)) (fun j9 hj9 _ => ⟨tg_ne (lo_k9_3 hL _ t_X) (nw_5 hL t_pr (by omega)) (by decide), tg_ne (lo_k9_3 hL _ t_X) (nw_23 hL t_pr (by omega)) (by decide)⟩))) e142 hI1_139 hv8 hl hP hD hS
                    · skip
                      replace b146 := mt (nI_eq (a := otr 3 x9 y9) (b := 0) (by omega) (by omega)).mpr b146
                      refine lv_iload hx hb d_NRunner_workOut_76 (lv_at hl 0 rfl) ?_
                      have hFK9 : FK g f2 f134 X pr T (T 1 i) i := (fun b q1 q2 q3 q4 q5 q6 q7 q8 => hk1_140 b q1 q2)
                      exact pe_iret hx hb hr hlocks hK hP hD hS d_NRunner_workOut_78 ⟨⟨mo_141, lo2, e142⟩, (by rw [hev]; exact congrArg (fun z : Nat × List Int => nI z.1) (evs_no (ev1_t vr (by decide) (by decide) b146) b146).symm), (fun z => absurd ((congrArg (fun z : Nat × List Int => z.1) (hev.trans (evs_no (ev1_t vr (by decide) (by decide) b146) b146))).symm.trans z) b146), (hFW.tr (FW_fk hL t_X t_pr hi72 hFK9)), (TPN_fk hL t_X t_pr hi72 hFK9 (by rw [hkd9, h39]; exact e144) (fun z => absurd (hkd9.symm.trans z) (by decide)) hTPi), hI1_139, hu⟩
              · skip
                replace b130 := (nI_eq (a := 4) (b := 1) (by omega) (by omega)).mp b130
                exfalso; omega
          · skip
            have hkd9 : T 0 i = 5 := hk9
            rcases hb4 with h39 | h39
            · skip
              obtain ⟨r9, hst9⟩ := hz2 (by decide) (by decide)
              subst hst9
              obtain ⟨y9, V8, Y9, S8, hV8, hS8, hk89, hLy9, hiy9, hKy9, hR8⟩ := hVS
              obtain ⟨x9, V9, X9, S9, hV9, hS9, hj9, hL9, hi9, hK9, hR9⟩ := hR8
              subst hV9
              subst hV8
              subst hS9
              subst hS8
              rw [hkd9, h39] at eN9
              have eN8 := eN9
              have hot9 := otr_3 4 x9 y9
              refine lv_aload_n hx hb d_NRunner_workOut_13 rfl (lv_at hl 1 rfl) ?_
              refine pf_get (v := .ref pr) (C := "BigRunner$Runner") (T := FT8) (N := 13) hx hb (hw8 hB _) (fun _ h9 => h9) hown hK hP (lo_in hL t_X (by decide)) e6 rfl 0 (by decide) (wd_330 hB _) rfl d_NRunner_workOut_14 ?_
              obtain ⟨sc_148, nc_149, e147, c150, c151⟩ := oc_7.of t_pr (hI7.1 pr)
              refine pf_get (v := .ref (g.lk pr 2)) (C := "BigRunner$Program") (T := FT6) (N := 6) hx hb (hw6 hB _) (fun _ h9 => h9) hown hK hP (lo_in hL t_pr (by decide)) e147 rfl 2 (by decide) (wd_249 hB _) rfl d_NRunner_workOut_17 ?_
              refine lv_iload_n hx hb d_NRunner_workOut_20 rfl (lv_at hl 0 rfl) ?_
              have e152 := oc_25.of (lo_k7_2 hL _ t_pr) (hI7.1 (g.lk pr 2))
              refine pf_aald (i := i) hx hb hK hP (lo_in hL (lo_k7_2 hL _ t_pr) (by decide)) e152 (lo_t25 hL _ (lo_k7_2 hL _ t_pr)) (by omega) (by decide) d_NRunner_workOut_21 ?_
              have t153 := lo_e25 hL _ (lo_k7_2 hL _ t_pr) i (by omega)
              refine lv_astore_n (lv' := [(3, .ref (g.lk (g.lk pr 2) i)), (2, .int (nI i)), (0, .ref X), (1, .ref (g.lk (g.lk pr 0) s9))]) hx hb d_NRunner_workOut_22 rfl hl (by decide) rfl (fun ls hl => ?_)
              refine lv_iconst (v := nI 0) hx hb d_NRunner_workOut_23 (by decide) ?_
              refine lv_istore (lv' := [(4, .int (nI 0)), (3, .ref (g.lk (g.lk pr 2) i)), (2, .int (nI i)), (0, .ref X), (1, .ref (g.lk (g.lk pr 0) s9))]) hx hb d_NRunner_workOut_24 hl (by decide) rfl (fun ls hl => ?_)
              refine lv_aload_n hx hb d_NRunner_workOut_26 rfl (lv_at hl 1 rfl) ?_
              refine pf_get (v := .int (nI 5)) (C := "BigRunner$Node") (T := FT5) (N := 7) hx hb (hw5 hB _) (fun _ h9 => h9) hown hK hP (lo_in hL t153 (by decide)) eN8 rfl 0 (by decide) (wd_204 hB _) rfl d_NRunner_workOut_27 ?_
              refine lv_iconst (v := nI 1) hx hb d_NRunner_workOut_30 (by decide) ?_
              refine lv_icmp_ne (tgt := 42) hx hb d_NRunner_workOut_31 (by decide) (fun b154 => ?_) (fun b154 => ?_)
              · skip
                replace b154 := mt (nI_eq (a := 5) (b := 1) (by omega) (by omega)).mpr b154
                refine lv_aload_n hx hb d_NRunner_workOut_42 rfl (lv_at hl 1 rfl) ?_
                refine pf_get (v := .int (nI 5)) (C := "BigRunner$Node") (T := FT5) (N := 7) hx hb (hw5 hB _) (fun _ h9 => h9) hown hK hP (lo_in hL t153 (by decide)) eN8 rfl 0 (by decide) (wd_204 hB _) rfl d_NRunner_workOut_43 ?_
                refine lv_if_eq (tgt := 71) hx hb d_NRunner_workOut_46 (by decide) (fun b155 => ?_) (fun b155 => ?_)
                · skip
                  replace b155 := (nI_eq (a := 5) (b := 0) (by omega) (by omega)).mp b155
                  exfalso; omega
                · skip
                  replace b155 := mt (nI_eq (a := 5) (b := 0) (by omega) (by omega)).mpr b155
                  refine lv_aload_n hx hb d_NRunner_workOut_49 rfl (lv_at hl 1 rfl) ?_
                  refine pf_get (v := .int (nI 0)) (C := "BigRunner$Node") (T := FT5) (N := 7) hx hb (hw5 hB _) (fun _ h9 => h9) hown hK hP (lo_in hL t153 (by decide)) eN8 rfl 4 (by decide) (wd_218 hB _) rfl d_NRunner_workOut_50 ?_
                  refine lv_if_eq (tgt := 64) hx hb d_NRunner_workOut_53 (by decide) (fun b156 => ?_) (fun b156 => ?_)
                  · skip
                    replace b156 := (nI_eq (a := 0) (b := 0) (by omega) (by omega)).mp b156
                    refine lv_aload_n hx hb d_NRunner_workOut_64 rfl (lv_at hl 3 rfl) ?_
                    refine lv_aload_n hx hb d_NRunner_workOut_65 rfl (lv_at hl 1 rfl) ?_
                    have eK8 : f2 (g.lk (g.lk pr 2) i) = .inr (5, [.int (nI (km 4)), .int (nI (T 1 i)), .int (nI (T 2 i)), .ref (g.lk (g.lk (g.lk pr 2) i) 3), .int (nI 0), .long mv9, .ref (g.lk (g.lk (g.lk pr 2) i) 6)]) := eN8
                    refine pcc_i (va_runV (C := "BigRunner$Runner") (As := [.ref (g.lk (g.lk pr 2) i)]) (rest := []) ⟨hx, hb, hml, hown, tb_nil⟩ (v_opLong l g H.size f2 X pr ix os st mo2 lo2 tr i 4 ((T 1 i)) ((T 2 i)) mv9 ((T 3 (T 1 i))) x9 ((T 3 (T 2 i))) y9 hL t_X t_pr hI7 e6 (by omega) (by omega) (by omega) (by omega) eK8 hL9 hLy9 (by omega) (by omega) (by omega) (by omega) (by omega) (by omega) ((hTB.1 (T 1 i) (by omega)).2.2.2.2) ((hTB.1 (T 2 i) (by omega)).2.2.2.2)) ⟨(callB_of 1 (tb_one (wd_757 hB _)) tb_good1 rfl rfl rfl (wd_79 hB _) (wd_754 hB _) (by decide +kernel) ⟨Nat.le_of_ble_eq_true rfl, Nat.le_of_ble_eq_true rfl⟩), (wd_756 hB _), (wd_29 hB _)⟩ ⟨pe_bl, pg_recv (ci := 8) hK hP (lo_in hL t_X (by decide)) e6 rfl, pe_pre hB hK hP hD⟩ rfl rfl hl.1 rfl (lv_room (Nat.le_of_ble_eq_true rfl)) d_NRunner_workOut_66 ⟨Nat.le_of_ble_eq_true rfl, Nat.le_of_ble_eq_true rfl⟩) hS (fun r157 f158 H locs hq159 hP hD hS => ?_)
                    obtain ⟨x1_160, q9_161, lv9_162, hI1_163, hk1_164⟩ := hq159
                    subst q9_161
                    have hu : un [4, 5, 6, 9, 22, 23] g f f158 := fun a9 ha9 => (hk1_164 a9 (fun q9 => ha9 (by rw [q9, t_X]; decide)) (fun q9 => ha9 (by rw [q9, (lo_k6_6 hL _ t153)]; decide)) (fun q9 => ha9 (by rw [q9, (lo_k5_2 hL _ (lo_k6_6 hL _ t153))]; decide)) (fun q9 => ha9 (by rw [q9, (lo_k6_6 hL _ (lo_e25 hL _ (lo_k7_2 hL _ t_pr) _ (by omega)))]; decide)) (fun q9 => ha9 (by rw [q9, (lo_k5_2 hL _ (lo_k6_6 hL _ (lo_e25 hL _ (lo_k7_2 hL _ t_pr) _ (by omega))))]; decide)) (fun q9 => ha9 (by rw [q9, (lo_k6_6 hL _ (lo_e25 hL _ (lo_k7_2 hL _ t_pr) _ (by omega)))]; decide)) (fun q9 => ha9 (by rw [q9, (lo_k5_2 hL _ (lo_k6_6 hL _ (lo_e25 hL _ (lo_k7_2 hL _ t_pr) _ (by omega))))]; decide)) (fun q9 => ha9 (by rw [q9, (lo_k9_6 hL _ t_X)]; decide)) (fun q9 => ha9 (by rw [q9, (lo_k4_0 hL _ (lo_k9_6 hL _ t_X))]; decide)) (fun q9 => ha9 (by rw [q9, (lo_k4_1 hL _ (lo_k9_6 hL _ t_X))]; decide))).trans (hu a9 ha9)
                    have hv8 : un [4, 5, 6, 9, 22, 23] g f f158 := fun a9 ha9 => (hk1_164 a9 (fun q9 => ha9 (by rw [q9, t_X]; decide)) (fun q9 => ha9 (by rw [q9, (lo_k6_6 hL _ t153)]; decide)) (fun q9 => ha9 (by rw [q9, (lo_k5_2 hL _ (lo_k6_6 hL _ t153))]; decide)) (fun q9 => ha9 (by rw [q9, (lo_k6_6 hL _ (lo_e25 hL _ (lo_k7_2 hL _ t_pr) _ (by omega)))]; decide)) (fun q9 => ha9 (by rw [q9, (lo_k5_2 hL _ (lo_k6_6 hL _ (lo_e25 hL _ (lo_k7_2 hL _ t_pr) _ (by omega))))]; decide)) (fun q9 => ha9 (by rw [q9, (lo_k6_6 hL _ (lo_e25 hL _ (lo_k7_2 hL _ t_pr) _ (by omega)))]; decide)) (fun q9 => ha9 (by rw [q9, (lo_k5_2 hL _ (lo_k6_6 hL _ (lo_e25 hL _ (lo_k7_2 hL _ t_pr) _ (by omega))))]; decide)) (fun q9 => ha9 (by rw [q9, (lo_k9_6 hL _ t_X)]; decide)) (fun q9 => ha9 (by rw [q9, (lo_k4_0 hL _ (lo_k9_6 hL _ t_X))]; decide)) (fun q9 => ha9 (by rw [q9, (lo_k4_1 hL _ (lo_k9_6 hL _ t_X))]; decide))).trans (hv8 a9 ha9)
                    have eS := (hk1_164 (g.lk (g.lk pr 0) s9) (tg_ne (lo_e24 hL _ (lo_k7_0 hL _ t_pr) s9 hs36) t_X (by decide)) (tg_ne (lo_e24 hL _ (lo_k7_0 hL _ t_pr) s9 hs36) (lo_k6_6 hL _ t153) (by decide)) (tg_ne (lo_e24 hL _ (lo_k7_0 hL _ t_pr) s9 hs36) (lo_k5_2 hL _ (lo_k6_6 hL _ t153)) (by decide)) (tg_ne (lo_e24 hL _ (lo_k7_0 hL _ t_pr) s9 hs36) (lo_k6_6 hL _ (lo_e25 hL _ (lo_k7_2 hL _ t_pr) _ (by omega))) (by decide)) (tg_ne (lo_e24 hL _ (lo_k7_0 hL _ t_pr) s9 hs36) (lo_k5_2 hL _ (lo_k6_6 hL _ (lo_e25 hL _ (lo_k7_2 hL _ t_pr) _ (by omega)))) (by decide)) (tg_ne (lo_e24 hL _ (lo_k7_0 hL _ t_pr) s9 hs36) (lo_k6_6 hL _ (lo_e25 hL _ (lo_k7_2 hL _ t_pr) _ (by omega))) (by decide)) (tg_ne (lo_e24 hL _ (lo_k7_0 hL _ t_pr) s9 hs36) (lo_k5_2 hL _ (lo_k6_6 hL _ (lo_e25 hL _ (lo_k7_2 hL _ t_pr) _ (by omega)))) (by decide)) (tg_ne (lo_e24 hL _ (lo_k7_0 hL _ t_pr) s9 hs36) (lo_k9_6 hL _ t_X) (by decide)) (tg_ne (lo_e24 hL _ (lo_k7_0 hL _ t_pr) s9 hs36) (lo_k4_0 hL _ (lo_k9_6 hL _ t_X)) (by decide)) (tg_ne (lo_e24 hL _ (lo_k7_0 hL _ t_pr) s9 hs36) (lo_k4_1 hL _ (lo_k9_6 hL _ t_X)) (by decide))).trans eS
                    have eK8 := (hk1_164 (g.lk (g.lk pr 2) i) (tg_ne t153 t_X (by decide)) (tg_ne t153 (lo_k6_6 hL _ t153) (by decide)) (tg_ne t153 (lo_k5_2 hL _ (lo_k6_6 hL _ t153)) (by decide)) (tg_ne t153 (lo_k6_6 hL _ (lo_e25 hL _ (lo_k7_2 hL _ t_pr) _ (by omega))) (by decide)) (tg_ne t153 (lo_k5_2 hL _ (lo_k6_6 hL _ (lo_e25 hL _ (lo_k7_2 hL _ t_pr) _ (by omega)))) (by decide)) (tg_ne t153 (lo_k6_6 hL _ (lo_e25 hL _ (lo_k7_2 hL _ t_pr) _ (by omega))) (by decide)) (tg_ne t153 (lo_k5_2 hL _ (lo_k6_6 hL _ (lo_e25 hL _ (lo_k7_2 hL _ t_pr) _ (by omega)))) (by decide)) (tg_ne t153 (lo_k9_6 hL _ t_X) (by decide)) (tg_ne t153 (lo_k4_0 hL _ (lo_k9_6 hL _ t_X)) (by decide)) (tg_ne t153 (lo_k4_1 hL _ (lo_k9_6 hL _ t_X)) (by decide))).trans eK8
                    have e147 := (hk1_164 pr (tg_ne t_pr t_X (by decide)) (tg_ne t_pr (lo_k6_6 hL _ t153) (by decide)) (tg_ne t_pr (lo_k5_2 hL _ (lo_k6_6 hL _ t153)) (by decide)) (tg_ne t_pr (lo_k6_6 hL _ (lo_e25 hL _ (lo_k7_2 hL _ t_pr) _ (by omega))) (by decide)) (tg_ne t_pr (lo_k5_2 hL _ (lo_k6_6 hL _ (lo_e25 hL _ (lo_k7_2 hL _ t_pr) _ (by omega)))) (by decide)) (tg_ne t_pr (lo_k6_6 hL _ (lo_e25 hL _ (lo_k7_2 hL _ t_pr) _ (by omega))) (by decide)) (tg_ne t_pr (lo_k5_2 hL _ (lo_k6_6 hL _ (lo_e25 hL _ (lo_k7_2 hL _ t_pr) _ (by omega)))) (by decide)) (tg_ne t_pr (lo_k9_6 hL _ t_X) (by decide)) (tg_ne t_pr (lo_k4_0 hL _ (lo_k9_6 hL _ t_X)) (by decide)) (tg_ne t_pr (lo_k4_1 hL _ (lo_k9_6 hL _ t_X)) (by decide))).trans e147
                    have e152 := (hk1_164 (g.lk pr 2) (tg_ne (lo_k7_2 hL _ t_pr) t_X (by decide)) (tg_ne (lo_k7_2 hL _ t_pr) (lo_k6_6 hL _ t153) (by decide)) (tg_ne (lo_k7_2 hL _ t_pr) (lo_k5_2 hL _ (lo_k6_6 hL _ t153)) (by decide)) (tg_ne (lo_k7_2 hL _ t_pr) (lo_k6_6 hL _ (lo_e25 hL _ (lo_k7_2 hL _ t_pr) _ (by omega))) (by decide)) (tg_ne (lo_k7_2 hL _ t_pr) (lo_k5_2 hL _ (lo_k6_6 hL _ (lo_e25 hL _ (lo_k7_2 hL _ t_pr) _ (by omega)))) (by decide)) (tg_ne (lo_k7_2 hL _ t_pr) (lo_k6_6 hL _ (lo_e25 hL _ (lo_k7_2 hL _ t_pr) _ (by omega))) (by decide)) (tg_ne (lo_k7_2 hL _ t_pr) (lo_k5_2 hL _ (lo_k6_6 hL _ (lo_e25 hL _ (lo_k7_2 hL _ t_pr) _ (by omega)))) (by decide)) (tg_ne (lo_k7_2 hL _ t_pr) (lo_k9_6 hL _ t_X) (by decide)) (tg_ne (lo_k7_2 hL _ t_pr) (lo_k4_0 hL _ (lo_k9_6 hL _ t_X)) (by decide)) (tg_ne (lo_k7_2 hL _ t_pr) (lo_k4_1 hL _ (lo_k9_6 hL _ t_X)) (by decide))).trans e152
                    obtain ⟨lo_165, e166⟩ := x1_160
                    refine lv_istore (lv' := [(4, .int (nI (otr 4 x9 y9))), (3, .ref (g.lk (g.lk pr 2) i)), (2, .int (nI i)), (0, .ref X), (1, .ref (g.lk (g.lk pr 0) s9))]) hx hb d_NRunner_workOut_69 hl (by decide) rfl (fun ls hl => ?_)
                    refine lv_iload hx hb d_NRunner_workOut_71 (lv_at hl 0 rfl) ?_
                    refine lv_if_eq (tgt := 79) hx hb d_NRunner_workOut_73 (by decide) (fun b167 => ?_) (fun b167 => ?_)
                    · skip
                      replace b167 := (nI_eq (a := otr 4 x9 y9) (b := 0) (by omega) (by omega)).mp b167
                      refine lv_iinc (k := 2) (v := nI (i + 1)) (lv' := [(2, .int (nI (i + 1))), (4, .int (nI (otr 4 x9 y9))), (3, .ref (g.lk (g.lk pr 2) i)), (0, .ref X), (1, .ref (g.lk (g.lk pr 0) s9))]) hx hb d_NRunner_workOut_79 hl rfl (by rw [nI_succ]; rfl) (by decide) rfl (fun ls hl => ?_)
                      refine lv_goto (tgt := 5) hx hb d_NRunner_workOut_82 (by decide) ?_
                      have hFK9 : FK g f2 f158 X pr T (T 1 i) i := (fun b q1 q2 q3 q4 q5 q6 q7 q8 => hk1_164 b q1 q3 q4 (q8 (T 1 i) (by omega) (Or.inr (Nat.le_refl _))).1 (q8 (T 1 i) (by omega) (Or.inr (Nat.le_refl _))).2 (q8 (T 2 i) (by omega) (Or.inr (Nat.le_of_lt hj9))).1 (q8 (T 2 i) (by omega) (Or.inr (Nat.le_of_lt hj9))).2 q5 q6 q7)
                      have hFW9 := FW_fk hL t_X t_pr hi72 hFK9
                      have hot0 : otr 4 x9 y9 = 0 := by omega
                      have hl : lv_has ls 5 [(2, .int (nI (i + 1))), (0, .ref X), (1, .ref (g.lk (g.lk pr 0) s9))] := lv_sub hl [0, 3, 4] rfl
                      exact ih4 (i + 1) ((i :: r9)) ((ovl 4 x9 y9 :: V9)) ((xst en (Y9 :: X9 :: S9) 4 a9)) E9 mo2 lo_165 f158 H locs ls (by omega) (by omega) (by have z9 := hlen9; omega) hNR9 ⟨_, _, _, _, rfl, rfl, Nat.lt_succ_self i, (by rw [h39]; exact ⟨_, _, _, _, eK8, fun z => absurd z (by decide), fun _ => lv9_162 hot0, (ovl_lt (by obtain ⟨_, _, _, _, _, _, _, z⟩ := hL9; exact z) hot0)⟩), (ovl_in (w := 4) (a := a9) (by decide) (by decide) hi9 (fun _ => hiy9) hot0), (iK_ivn hK9 hKy9 (fun q => absurd q (by decide))), VS_mono (by omega) (VS_fk hL t_X t_pr hi72 hFK9 (by omega) _ _ _ _ (Nat.le_refl _) hR9)⟩ (hev.trans (evs_ok (ev1_z vr (by decide) (by decide) hot0))) hxs hps (TPN_fk hL t_X t_pr hi72 hFK9 (by rw [hkd9, h39]; exact eK8) (fun z => absurd (hkd9.symm.trans z) (by decide)) hTPi) (hFW.tr hFW9) (VARS_fw hL t_X hVi hFW9 (hFK9 _ (tg_ne (lo_k9_3 hL _ t_X) t_X (by decide)) (tg_ne (lo_k9_3 hL _ t_X) (lo_e25 hL _ (lo_k7_2 hL _ t_pr) i hi72) (by decide)) (tg_ne (lo_k9_3 hL _ t_X) (nw_5 hL t_pr hi72) (by decide)) (tg_ne (lo_k9_3 hL _ t_X) (nw_23 hL t_pr hi72) (by decide)) (tg_ne (lo_k9_3 hL _ t_X) (lo_k9_6 hL _ t_X) (by decide)) (tg_ne (lo_k9_3 hL _ t_X) (lo_k4_0 hL _ (lo_k9_6 hL _ t_X)) (by decide)) (tg_ne (lo_k9_3 hL _ t_X) (lo_k4_1 hL _ (lo_k9_6 hL _ t_X)) (by decide)) (fun j9 hj9 _ => ⟨tg_ne (lo_k9_3 hL _ t_X) (nw_5 hL t_pr (by omega)) (by decide), tg_ne (lo_k9_3 hL _ t_X) (nw_23 hL t_pr (by omega)) (by decide)⟩))) e166 hI1_163 hv8 hl hP hD hS
                    · skip
                      replace b167 := mt (nI_eq (a := otr 4 x9 y9) (b := 0) (by omega) (by omega)).mpr b167
                      refine lv_iload hx hb d_NRunner_workOut_76 (lv_at hl 0 rfl) ?_
                      have hFK9 : FK g f2 f158 X pr T (T 1 i) i := (fun b q1 q2 q3 q4 q5 q6 q7 q8 => hk1_164 b q1 q3 q4 (q8 (T 1 i) (by omega) (Or.inr (Nat.le_refl _))).1 (q8 (T 1 i) (by omega) (Or.inr (Nat.le_refl _))).2 (q8 (T 2 i) (by omega) (Or.inr (Nat.le_of_lt hj9))).1 (q8 (T 2 i) (by omega) (Or.inr (Nat.le_of_lt hj9))).2 q5 q6 q7)
                      exact pe_iret hx hb hr hlocks hK hP hD hS d_NRunner_workOut_78 ⟨⟨mo2, lo_165, e166⟩, (by rw [hev]; exact congrArg (fun z : Nat × List Int => nI z.1) (evs_no (ev1_t vr (by decide) (by decide) b167) b167).symm), (fun z => absurd ((congrArg (fun z : Nat × List Int => z.1) (hev.trans (evs_no (ev1_t vr (by decide) (by decide) b167) b167))).symm.trans z) b167), (hFW.tr (FW_fk hL t_X t_pr hi72 hFK9)), (TPN_fk hL t_X t_pr hi72 hFK9 (by rw [hkd9, h39]; exact eK8) (fun z => absurd (hkd9.symm.trans z) (by decide)) hTPi), hI1_163, hu⟩
                  · skip
                    replace b156 := mt (nI_eq (a := 0) (b := 0) (by omega) (by omega)).mpr b156
                    exfalso; omega
              · skip
                replace b154 := (nI_eq (a := 5) (b := 1) (by omega) (by omega)).mp b154
                exfalso; omega
            · skip
              obtain ⟨r9, hst9⟩ := hz2 (by decide) (by decide)
              subst hst9
              obtain ⟨y9, V8, Y9, S8, hV8, hS8, hk89, hLy9, hiy9, hKy9, hR8⟩ := hVS
              obtain ⟨x9, V9, X9, S9, hV9, hS9, hj9, hL9, hi9, hK9, hR9⟩ := hR8
              subst hV9
              subst hV8
              subst hS9
              subst hS8
              rw [hkd9, h39] at eN9
              have eN8 := eN9
              obtain ⟨hsl9, hsr9⟩ := hs2 (by decide) h39
              skip
              obtain ⟨kl9, l19, l29, mx9, eL9, hv19, -, ht19⟩ := (by rw [hsl9] at hL9; exact hL9 : VL g f2 pr 1 (T 1 i) x9)
              obtain ⟨hvx9, h6x9⟩ := hv19 rfl
              obtain ⟨kr9, r19, r29, my9, eR9, hv29, -, ht29⟩ := (by rw [hsr9] at hLy9; exact hLy9 : VL g f2 pr 1 (T 2 i) y9)
              obtain ⟨hvy9, h6y9⟩ := hv29 rfl
              have hot9 := otr_3 4 x9 y9
              refine lv_aload_n hx hb d_NRunner_workOut_13 rfl (lv_at hl 1 rfl) ?_
              refine pf_get (v := .ref pr) (C := "BigRunner$Runner") (T := FT8) (N := 13) hx hb (hw8 hB _) (fun _ h9 => h9) hown hK hP (lo_in hL t_X (by decide)) e6 rfl 0 (by decide) (wd_330 hB _) rfl d_NRunner_workOut_14 ?_
              obtain ⟨sc_169, nc_170, e168, c171, c172⟩ := oc_7.of t_pr (hI7.1 pr)
              refine pf_get (v := .ref (g.lk pr 2)) (C := "BigRunner$Program") (T := FT6) (N := 6) hx hb (hw6 hB _) (fun _ h9 => h9) hown hK hP (lo_in hL t_pr (by decide)) e168 rfl 2 (by decide) (wd_249 hB _) rfl d_NRunner_workOut_17 ?_
              refine lv_iload_n hx hb d_NRunner_workOut_20 rfl (lv_at hl 0 rfl) ?_
              have e173 := oc_25.of (lo_k7_2 hL _ t_pr) (hI7.1 (g.lk pr 2))
              refine pf_aald (i := i) hx hb hK hP (lo_in hL (lo_k7_2 hL _ t_pr) (by decide)) e173 (lo_t25 hL _ (lo_k7_2 hL _ t_pr)) (by omega) (by decide) d_NRunner_workOut_21 ?_
              have t174 := lo_e25 hL _ (lo_k7_2 hL _ t_pr) i (by omega)
              refine lv_astore_n (lv' := [(3, .ref (g.lk (g.lk pr 2) i)), (2, .int (nI i)), (0, .ref X), (1, .ref (g.lk (g.lk pr 0) s9))]) hx hb d_NRunner_workOut_22 rfl hl (by decide) rfl (fun ls hl => ?_)
              refine lv_iconst (v := nI 0) hx hb d_NRunner_workOut_23 (by decide) ?_
              refine lv_istore (lv' := [(4, .int (nI 0)), (3, .ref (g.lk (g.lk pr 2) i)), (2, .int (nI i)), (0, .ref X), (1, .ref (g.lk (g.lk pr 0) s9))]) hx hb d_NRunner_workOut_24 hl (by decide) rfl (fun ls hl => ?_)
              refine lv_aload_n hx hb d_NRunner_workOut_26 rfl (lv_at hl 1 rfl) ?_
              refine pf_get (v := .int (nI 5)) (C := "BigRunner$Node") (T := FT5) (N := 7) hx hb (hw5 hB _) (fun _ h9 => h9) hown hK hP (lo_in hL t174 (by decide)) eN8 rfl 0 (by decide) (wd_204 hB _) rfl d_NRunner_workOut_27 ?_
              refine lv_iconst (v := nI 1) hx hb d_NRunner_workOut_30 (by decide) ?_
              refine lv_icmp_ne (tgt := 42) hx hb d_NRunner_workOut_31 (by decide) (fun b175 => ?_) (fun b175 => ?_)
              · skip
                replace b175 := mt (nI_eq (a := 5) (b := 1) (by omega) (by omega)).mpr b175
                refine lv_aload_n hx hb d_NRunner_workOut_42 rfl (lv_at hl 1 rfl) ?_
                refine pf_get (v := .int (nI 5)) (C := "BigRunner$Node") (T := FT5) (N := 7) hx hb (hw5 hB _) (fun _ h9 => h9) hown hK hP (lo_in hL t174 (by decide)) eN8 rfl 0 (by decide) (wd_204 hB _) rfl d_NRunner_workOut_43 ?_
                refine lv_if_eq (tgt := 71) hx hb d_NRunner_workOut_46 (by decide) (fun b176 => ?_) (fun b176 => ?_)
                · skip
                  replace b176 := (nI_eq (a := 5) (b := 0) (by omega) (by omega)).mp b176
                  exfalso; omega
                · skip
                  replace b176 := mt (nI_eq (a := 5) (b := 0) (by omega) (by omega)).mpr b176
                  refine lv_aload_n hx hb d_NRunner_workOut_49 rfl (lv_at hl 1 rfl) ?_
                  refine pf_get (v := .int (nI 1)) (C := "BigRunner$Node") (T := FT5) (N := 7) hx hb (hw5 hB _) (fun _ h9 => h9) hown hK hP (lo_in hL t174 (by decide)) eN8 rfl 4 (by decide) (wd_218 hB _) rfl d_NRunner_workOut_50 ?_
                  refine lv_if_eq (tgt := 64) hx hb d_NRunner_workOut_53 (by decide) (fun b177 => ?_) (fun b177 => ?_)
                  · skip
                    replace b177 := (nI_eq (a := 1) (b := 0) (by omega) (by omega)).mp b177
                    exfalso; omega
                  · skip
                    replace b177 := mt (nI_eq (a := 1) (b := 0) (by omega) (by omega)).mpr b177
                    refine lv_aload_n hx hb d_NRunner_workOut_56 rfl (lv_at hl 3 rfl) ?_
                    refine lv_aload_n hx hb d_NRunner_workOut_57 rfl (lv_at hl 1 rfl) ?_
                    have eK8 : f2 (g.lk (g.lk pr 2) i) = .inr (5, [.int (nI (km 4)), .int (nI (T 1 i)), .int (nI (T 2 i)), .ref (g.lk (g.lk (g.lk pr 2) i) 3), .int (nI 1), .long mv9, .ref (g.lk (g.lk (g.lk pr 2) i) 6)]) := eN8
                    refine pcc_i (va_runV (C := "BigRunner$Runner") (As := [.ref (g.lk (g.lk pr 2) i)]) (rest := []) ⟨hx, hb, hml, hown, tb_nil⟩ (v_operate l g H.size f2 X pr ix os st mo2 lo2 tr i 4 ((T 1 i)) ((T 2 i)) mv9 kl9 l19 l29 mx9 kr9 r19 r29 my9 x9 y9 hL t_X t_pr hI7 e6 (by omega) (by omega) (by omega) (by omega) eK8 eL9 eR9 (by omega) (by omega) (by omega) (by omega) (by omega) hvx9 hvy9 h6x9 h6y9 (fun z9 => ivin_60 (ovl_in (w := 4) (a := a9) (by decide) (by decide) hi9 (fun _ => hiy9) z9) (hsb h39) (iK_ivn hK9 hKy9 (fun q => absurd q (by decide))))) ⟨(callB_of 1 (tb_one (wd_753 hB _)) tb_good1 rfl rfl rfl (wd_79 hB _) (wd_750 hB _) (by decide +kernel) ⟨Nat.le_of_ble_eq_true rfl, Nat.le_of_ble_eq_true rfl⟩), (wd_752 hB _), (wd_28 hB _)⟩ ⟨pe_bl, pg_recv (ci := 8) hK hP (lo_in hL t_X (by decide)) e6 rfl, pe_pre hB hK hP hD⟩ rfl rfl hl.1 rfl (lv_room (Nat.le_of_ble_eq_true rfl)) d_NRunner_workOut_58 ⟨Nat.le_of_ble_eq_true rfl, Nat.le_of_ble_eq_true rfl⟩) hS (fun r178 f179 H locs hq180 hP hD hS => ?_)
                    obtain ⟨x1_181, q9_182, nv_183, hI1_184, hk1_185⟩ := hq180
                    subst q9_182
                    have hu := hu.st2 hk1_185 t_X t174 (by decide) (by decide)
                    have hv8 := hv8.st2 hk1_185 t_X t174 (by decide) (by decide)
                    have eS := (hk1_185 (g.lk (g.lk pr 0) s9) (tg_ne (lo_e24 hL _ (lo_k7_0 hL _ t_pr) s9 hs36) t_X (by decide)) (tg_ne (lo_e24 hL _ (lo_k7_0 hL _ t_pr) s9 hs36) t174 (by decide))).trans eS
                    have eL9 := (hk1_185 (g.lk (g.lk pr 2) (T 1 i)) (tg_ne (lo_e25 hL _ (lo_k7_2 hL _ t_pr) _ (by omega)) t_X (by decide)) (tn_ne (lo_n25 hL _ (lo_k7_2 hL _ t_pr) _ (by omega)) (lo_n25 hL _ (lo_k7_2 hL _ t_pr) _ (by omega)) (by omega))).trans eL9
                    have eR9 := (hk1_185 (g.lk (g.lk pr 2) (T 2 i)) (tg_ne (lo_e25 hL _ (lo_k7_2 hL _ t_pr) _ (by omega)) t_X (by decide)) (tn_ne (lo_n25 hL _ (lo_k7_2 hL _ t_pr) _ (by omega)) (lo_n25 hL _ (lo_k7_2 hL _ t_pr) _ (by omega)) (by omega))).trans eR9
                    have e168 := (hk1_185 pr (tg_ne t_pr t_X (by decide)) (tg_ne t_pr t174 (by decide))).trans e168
                    have e173 := (hk1_185 (g.lk pr 2) (tg_ne (lo_k7_2 hL _ t_pr) t_X (by decide)) (tg_ne (lo_k7_2 hL _ t_pr) t174 (by decide))).trans e173
                    obtain ⟨mo_186, e187⟩ := x1_181
                    obtain ⟨mv_188, e189, hnv190⟩ := nv_183
                    refine lv_goto (tgt := 69) hx hb d_NRunner_workOut_61 (by decide) ?_
                    refine lv_istore (lv' := [(4, .int (nI (otr 4 x9 y9))), (3, .ref (g.lk (g.lk pr 2) i)), (2, .int (nI i)), (0, .ref X), (1, .ref (g.lk (g.lk pr 0) s9))]) hx hb d_NRunner_workOut_69 hl (by decide) rfl (fun ls hl => ?_)
                    refine lv_iload hx hb d_NRunner_workOut_71 (lv_at hl 0 rfl) ?_
                    refine lv_if_eq (tgt := 79) hx hb d_NRunner_workOut_73 (by decide) (fun b191 => ?_) (fun b191 => ?_)
                    · skip
                      replace b191 := (nI_eq (a := otr 4 x9 y9) (b := 0) (by omega) (by omega)).mp b191
                      refine lv_iinc (k := 2) (v := nI (i + 1)) (lv' := [(2, .int (nI (i + 1))), (4, .int (nI (otr 4 x9 y9))), (3, .ref (g.lk (g.lk pr 2) i)), (0, .ref X), (1, .ref (g.lk (g.lk pr 0) s9))]) hx hb d_NRunner_workOut_79 hl rfl (by rw [nI_succ]; rfl) (by decide) rfl (fun ls hl => ?_)
                      refine lv_goto (tgt := 5) hx hb d_NRunner_workOut_82 (by decide) ?_
                      have hFK9 : FK g f2 f179 X pr T (T 1 i) i := (fun b q1 q2 q3 q4 q5 q6 q7 q8 => hk1_185 b q1 q2)
                      have hFW9 := FW_fk hL t_X t_pr hi72 hFK9
                      have hot0 : otr 4 x9 y9 = 0 := by omega
                      have hl : lv_has ls 5 [(2, .int (nI (i + 1))), (0, .ref X), (1, .ref (g.lk (g.lk pr 0) s9))] := lv_sub hl [0, 3, 4] rfl
                      exact ih4 (i + 1) ((i :: r9)) ((ovl 4 x9 y9 :: V9)) ((xst en (Y9 :: X9 :: S9) 4 a9)) E9 mo_186 lo2 f179 H locs ls (by omega) (by omega) (by have z9 := hlen9; omega) hNR9 ⟨_, _, _, _, rfl, rfl, Nat.lt_succ_self i, (by rw [h39]; exact ⟨_, _, _, _, e189, fun _ => ⟨hnv190 hot0, ivin_60 (ovl_in (w := 4) (a := a9) (by decide) (by decide) hi9 (fun _ => hiy9) hot0) (hsb h39) (iK_ivn hK9 hKy9 (fun q => absurd q (by decide)))⟩, fun z => absurd z (by decide), (ovl_lt (by obtain ⟨_, _, _, _, _, _, _, z⟩ := hL9; exact z) hot0)⟩), (ovl_in (w := 4) (a := a9) (by decide) (by decide) hi9 (fun _ => hiy9) hot0), (iK_ivn hK9 hKy9 (fun q => absurd q (by decide))), VS_mono (by omega) (VS_fk hL t_X t_pr hi72 hFK9 (by omega) _ _ _ _ (Nat.le_refl _) hR9)⟩ (hev.trans (evs_ok (ev1_z vr (by decide) (by decide) hot0))) hxs hps (TPN_fk hL t_X t_pr hi72 hFK9 (by rw [hkd9, h39]; exact e189) (fun z => absurd (hkd9.symm.trans z) (by decide)) hTPi) (hFW.tr hFW9) (VARS_fw hL t_X hVi hFW9 (hFK9 _ (tg_ne (lo_k9_3 hL _ t_X) t_X (by decide)) (tg_ne (lo_k9_3 hL _ t_X) (lo_e25 hL _ (lo_k7_2 hL _ t_pr) i hi72) (by decide)) (tg_ne (lo_k9_3 hL _ t_X) (nw_5 hL t_pr hi72) (by decide)) (tg_ne (lo_k9_3 hL _ t_X) (nw_23 hL t_pr hi72) (by decide)) (tg_ne (lo_k9_3 hL _ t_X) (lo_k9_6 hL _ t_X) (by decide)) (tg_ne (lo_k9_3 hL _ t_X) (lo_k4_0 hL _ (lo_k9_6 hL _ t_X)) (by decide)) (tg_ne (lo_k9_3 hL _ t_X) (lo_k4_1 hL _ (lo_k9_6 hL _ t_X)) (by decide)) (fun j9 hj9 _ => ⟨tg_ne (lo_k9_3 hL _ t_X) (nw_5 hL t_pr (by omega)) (by decide), tg_ne (lo_k9_3 hL _ t_X) (nw_23 hL t_pr (by omega)) (by decide)⟩))) e187 hI1_184 hv8 hl hP hD hS
                    · skip
                      replace b191 := mt (nI_eq (a := otr 4 x9 y9) (b := 0) (by omega) (by omega)).mpr b191
                      refine lv_iload hx hb d_NRunner_workOut_76 (lv_at hl 0 rfl) ?_
                      have hFK9 : FK g f2 f179 X pr T (T 1 i) i := (fun b q1 q2 q3 q4 q5 q6 q7 q8 => hk1_185 b q1 q2)
                      exact pe_iret hx hb hr hlocks hK hP hD hS d_NRunner_workOut_78 ⟨⟨mo_186, lo2, e187⟩, (by rw [hev]; exact congrArg (fun z : Nat × List Int => nI z.1) (evs_no (ev1_t vr (by decide) (by decide) b191) b191).symm), (fun z => absurd ((congrArg (fun z : Nat × List Int => z.1) (hev.trans (evs_no (ev1_t vr (by decide) (by decide) b191) b191))).symm.trans z) b191), (hFW.tr (FW_fk hL t_X t_pr hi72 hFK9)), (TPN_fk hL t_X t_pr hi72 hFK9 (by rw [hkd9, h39]; exact e189) (fun z => absurd (hkd9.symm.trans z) (by decide)) hTPi), hI1_184, hu⟩
              · skip
                replace b175 := (nI_eq (a := 5) (b := 1) (by omega) (by omega)).mp b175
                exfalso; omega
          · skip
            have hkd9 : T 0 i = 6 := hk9
            rcases hb4 with h39 | h39
            · skip
              obtain ⟨r9, hst9⟩ := hz2 (by decide) (by decide)
              subst hst9
              obtain ⟨y9, V8, Y9, S8, hV8, hS8, hk89, hLy9, hiy9, hKy9, hR8⟩ := hVS
              obtain ⟨x9, V9, X9, S9, hV9, hS9, hj9, hL9, hi9, hK9, hR9⟩ := hR8
              subst hV9
              subst hV8
              subst hS9
              subst hS8
              rw [hkd9, h39] at eN9
              have eN8 := eN9
              have hot9 := otr_3 5 x9 y9
              refine lv_aload_n hx hb d_NRunner_workOut_13 rfl (lv_at hl 1 rfl) ?_
              refine pf_get (v := .ref pr) (C := "BigRunner$Runner") (T := FT8) (N := 13) hx hb (hw8 hB _) (fun _ h9 => h9) hown hK hP (lo_in hL t_X (by decide)) e6 rfl 0 (by decide) (wd_330 hB _) rfl d_NRunner_workOut_14 ?_
              obtain ⟨sc_193, nc_194, e192, c195, c196⟩ := oc_7.of t_pr (hI7.1 pr)
              refine pf_get (v := .ref (g.lk pr 2)) (C := "BigRunner$Program") (T := FT6) (N := 6) hx hb (hw6 hB _) (fun _ h9 => h9) hown hK hP (lo_in hL t_pr (by decide)) e192 rfl 2 (by decide) (wd_249 hB _) rfl d_NRunner_workOut_17 ?_
              refine lv_iload_n hx hb d_NRunner_workOut_20 rfl (lv_at hl 0 rfl) ?_
              have e197 := oc_25.of (lo_k7_2 hL _ t_pr) (hI7.1 (g.lk pr 2))
              refine pf_aald (i := i) hx hb hK hP (lo_in hL (lo_k7_2 hL _ t_pr) (by decide)) e197 (lo_t25 hL _ (lo_k7_2 hL _ t_pr)) (by omega) (by decide) d_NRunner_workOut_21 ?_
              have t198 := lo_e25 hL _ (lo_k7_2 hL _ t_pr) i (by omega)
              refine lv_astore_n (lv' := [(3, .ref (g.lk (g.lk pr 2) i)), (2, .int (nI i)), (0, .ref X), (1, .ref (g.lk (g.lk pr 0) s9))]) hx hb d_NRunner_workOut_22 rfl hl (by decide) rfl (fun ls hl => ?_)
              refine lv_iconst (v := nI 0) hx hb d_NRunner_workOut_23 (by decide) ?_
              refine lv_istore (lv' := [(4, .int (nI 0)), (3, .ref (g.lk (g.lk pr 2) i)), (2, .int (nI i)), (0, .ref X), (1, .ref (g.lk (g.lk pr 0) s9))]) hx hb d_NRunner_workOut_24 hl (by decide) rfl (fun ls hl => ?_)
              refine lv_aload_n hx hb d_NRunner_workOut_26 rfl (lv_at hl 1 rfl) ?_
              refine pf_get (v := .int (nI 6)) (C := "BigRunner$Node") (T := FT5) (N := 7) hx hb (hw5 hB _) (fun _ h9 => h9) hown hK hP (lo_in hL t198 (by decide)) eN8 rfl 0 (by decide) (wd_204 hB _) rfl d_NRunner_workOut_27 ?_
              refine lv_iconst (v := nI 1) hx hb d_NRunner_workOut_30 (by decide) ?_
              refine lv_icmp_ne (tgt := 42) hx hb d_NRunner_workOut_31 (by decide) (fun b199 => ?_) (fun b199 => ?_)
              · skip
                replace b199 := mt (nI_eq (a := 6) (b := 1) (by omega) (by omega)).mpr b199
                refine lv_aload_n hx hb d_NRunner_workOut_42 rfl (lv_at hl 1 rfl) ?_
                refine pf_get (v := .int (nI 6)) (C := "BigRunner$Node") (T := FT5) (N := 7) hx hb (hw5 hB _) (fun _ h9 => h9) hown hK hP (lo_in hL t198 (by decide)) eN8 rfl 0 (by decide) (wd_204 hB _) rfl d_NRunner_workOut_43 ?_
                refine lv_if_eq (tgt := 71) hx hb d_NRunner_workOut_46 (by decide) (fun b200 => ?_) (fun b200 => ?_)
                · skip
                  replace b200 := (nI_eq (a := 6) (b := 0) (by omega) (by omega)).mp b200
                  exfalso; omega
                · skip
                  replace b200 := mt (nI_eq (a := 6) (b := 0) (by omega) (by omega)).mpr b200
                  refine lv_aload_n hx hb d_NRunner_workOut_49 rfl (lv_at hl 1 rfl) ?_
                  refine pf_get (v := .int (nI 0)) (C := "BigRunner$Node") (T := FT5) (N := 7) hx hb (hw5 hB _) (fun _ h9 => h9) hown hK hP (lo_in hL t198 (by decide)) eN8 rfl 4 (by decide) (wd_218 hB _) rfl d_NRunner_workOut_50 ?_
                  refine lv_if_eq (tgt := 64) hx hb d_NRunner_workOut_53 (by decide) (fun b201 => ?_) (fun b201 => ?_)
                  · skip
                    replace b201 := (nI_eq (a := 0) (b := 0) (by omega) (by omega)).mp b201
                    refine lv_aload_n hx hb d_NRunner_workOut_64 rfl (lv_at hl 3 rfl) ?_
                    refine lv_aload_n hx hb d_NRunner_workOut_65 rfl (lv_at hl 1 rfl) ?_
                    have eK8 : f2 (g.lk (g.lk pr 2) i) = .inr (5, [.int (nI (km 5)), .int (nI (T 1 i)), .int (nI (T 2 i)), .ref (g.lk (g.lk (g.lk pr 2) i) 3), .int (nI 0), .long mv9, .ref (g.lk (g.lk (g.lk pr 2) i) 6)]) := eN8
                    refine pcc_i (va_runV (C := "BigRunner$Runner") (As := [.ref (g.lk (g.lk pr 2) i)]) (rest := []) ⟨hx, hb, hml, hown, tb_nil⟩ (v_opLong l g H.size f2 X pr ix os st mo2 lo2 tr i 5 ((T 1 i)) ((T 2 i)) mv9 ((T 3 (T 1 i))) x9 ((T 3 (T 2 i))) y9 hL t_X t_pr hI7 e6 (by omega) (by omega) (by omega) (by omega) eK8 hL9 hLy9 (by omega) (by omega) (by omega) (by omega) (by omega) (by omega) ((hTB.1 (T 1 i) (by omega)).2.2.2.2) ((hTB.1 (T 2 i) (by omega)).2.2.2.2)) ⟨(callB_of 1 (tb_one (wd_757 hB _)) tb_good1 rfl rfl rfl (wd_79 hB _) (wd_754 hB _) (by decide +kernel) ⟨Nat.le_of_ble_eq_true rfl, Nat.le_of_ble_eq_true rfl⟩), (wd_756 hB _), (wd_29 hB _)⟩ ⟨pe_bl, pg_recv (ci := 8) hK hP (lo_in hL t_X (by decide)) e6 rfl, pe_pre hB hK hP hD⟩ rfl rfl hl.1 rfl (lv_room (Nat.le_of_ble_eq_true rfl)) d_NRunner_workOut_66 ⟨Nat.le_of_ble_eq_true rfl, Nat.le_of_ble_eq_true rfl⟩) hS (fun r202 f203 H locs hq204 hP hD hS => ?_)
                    obtain ⟨x1_205, q9_206, lv9_207, hI1_208, hk1_209⟩ := hq204
                    subst q9_206
                    have hu : un [4, 5, 6, 9, 22, 23] g f f203 := fun a9 ha9 => (hk1_209 a9 (fun q9 => ha9 (by rw [q9, t_X]; decide)) (fun q9 => ha9 (by rw [q9, (lo_k6_6 hL _ t198)]; decide)) (fun q9 => ha9 (by rw [q9, (lo_k5_2 hL _ (lo_k6_6 hL _ t198))]; decide)) (fun q9 => ha9 (by rw [q9, (lo_k6_6 hL _ (lo_e25 hL _ (lo_k7_2 hL _ t_pr) _ (by omega)))]; decide)) (fun q9 => ha9 (by rw [q9, (lo_k5_2 hL _ (lo_k6_6 hL _ (lo_e25 hL _ (lo_k7_2 hL _ t_pr) _ (by omega))))]; decide)) (fun q9 => ha9 (by rw [q9, (lo_k6_6 hL _ (lo_e25 hL _ (lo_k7_2 hL _ t_pr) _ (by omega)))]; decide)) (fun q9 => ha9 (by rw [q9, (lo_k5_2 hL _ (lo_k6_6 hL _ (lo_e25 hL _ (lo_k7_2 hL _ t_pr) _ (by omega))))]; decide)) (fun q9 => ha9 (by rw [q9, (lo_k9_6 hL _ t_X)]; decide)) (fun q9 => ha9 (by rw [q9, (lo_k4_0 hL _ (lo_k9_6 hL _ t_X))]; decide)) (fun q9 => ha9 (by rw [q9, (lo_k4_1 hL _ (lo_k9_6 hL _ t_X))]; decide))).trans (hu a9 ha9)
                    have hv8 : un [4, 5, 6, 9, 22, 23] g f f203 := fun a9 ha9 => (hk1_209 a9 (fun q9 => ha9 (by rw [q9, t_X]; decide)) (fun q9 => ha9 (by rw [q9, (lo_k6_6 hL _ t198)]; decide)) (fun q9 => ha9 (by rw [q9, (lo_k5_2 hL _ (lo_k6_6 hL _ t198))]; decide)) (fun q9 => ha9 (by rw [q9, (lo_k6_6 hL _ (lo_e25 hL _ (lo_k7_2 hL _ t_pr) _ (by omega)))]; decide)) (fun q9 => ha9 (by rw [q9, (lo_k5_2 hL _ (lo_k6_6 hL _ (lo_e25 hL _ (lo_k7_2 hL _ t_pr) _ (by omega))))]; decide)) (fun q9 => ha9 (by rw [q9, (lo_k6_6 hL _ (lo_e25 hL _ (lo_k7_2 hL _ t_pr) _ (by omega)))]; decide)) (fun q9 => ha9 (by rw [q9, (lo_k5_2 hL _ (lo_k6_6 hL _ (lo_e25 hL _ (lo_k7_2 hL _ t_pr) _ (by omega))))]; decide)) (fun q9 => ha9 (by rw [q9, (lo_k9_6 hL _ t_X)]; decide)) (fun q9 => ha9 (by rw [q9, (lo_k4_0 hL _ (lo_k9_6 hL _ t_X))]; decide)) (fun q9 => ha9 (by rw [q9, (lo_k4_1 hL _ (lo_k9_6 hL _ t_X))]; decide))).trans (hv8 a9 ha9)
                    have eS := (hk1_209 (g.lk (g.lk pr 0) s9) (tg_ne (lo_e24 hL _ (lo_k7_0 hL _ t_pr) s9 hs36) t_X (by decide)) (tg_ne (lo_e24 hL _ (lo_k7_0 hL _ t_pr) s9 hs36) (lo_k6_6 hL _ t198) (by decide)) (tg_ne (lo_e24 hL _ (lo_k7_0 hL _ t_pr) s9 hs36) (lo_k5_2 hL _ (lo_k6_6 hL _ t198)) (by decide)) (tg_ne (lo_e24 hL _ (lo_k7_0 hL _ t_pr) s9 hs36) (lo_k6_6 hL _ (lo_e25 hL _ (lo_k7_2 hL _ t_pr) _ (by omega))) (by decide)) (tg_ne (lo_e24 hL _ (lo_k7_0 hL _ t_pr) s9 hs36) (lo_k5_2 hL _ (lo_k6_6 hL _ (lo_e25 hL _ (lo_k7_2 hL _ t_pr) _ (by omega)))) (by decide)) (tg_ne (lo_e24 hL _ (lo_k7_0 hL _ t_pr) s9 hs36) (lo_k6_6 hL _ (lo_e25 hL _ (lo_k7_2 hL _ t_pr) _ (by omega))) (by decide)) (tg_ne (lo_e24 hL _ (lo_k7_0 hL _ t_pr) s9 hs36) (lo_k5_2 hL _ (lo_k6_6 hL _ (lo_e25 hL _ (lo_k7_2 hL _ t_pr) _ (by omega)))) (by decide)) (tg_ne (lo_e24 hL _ (lo_k7_0 hL _ t_pr) s9 hs36) (lo_k9_6 hL _ t_X) (by decide)) (tg_ne (lo_e24 hL _ (lo_k7_0 hL _ t_pr) s9 hs36) (lo_k4_0 hL _ (lo_k9_6 hL _ t_X)) (by decide)) (tg_ne (lo_e24 hL _ (lo_k7_0 hL _ t_pr) s9 hs36) (lo_k4_1 hL _ (lo_k9_6 hL _ t_X)) (by decide))).trans eS
                    have eK8 := (hk1_209 (g.lk (g.lk pr 2) i) (tg_ne t198 t_X (by decide)) (tg_ne t198 (lo_k6_6 hL _ t198) (by decide)) (tg_ne t198 (lo_k5_2 hL _ (lo_k6_6 hL _ t198)) (by decide)) (tg_ne t198 (lo_k6_6 hL _ (lo_e25 hL _ (lo_k7_2 hL _ t_pr) _ (by omega))) (by decide)) (tg_ne t198 (lo_k5_2 hL _ (lo_k6_6 hL _ (lo_e25 hL _ (lo_k7_2 hL _ t_pr) _ (by omega)))) (by decide)) (tg_ne t198 (lo_k6_6 hL _ (lo_e25 hL _ (lo_k7_2 hL _ t_pr) _ (by omega))) (by decide)) (tg_ne t198 (lo_k5_2 hL _ (lo_k6_6 hL _ (lo_e25 hL _ (lo_k7_2 hL _ t_pr) _ (by omega)))) (by decide)) (tg_ne t198 (lo_k9_6 hL _ t_X) (by decide)) (tg_ne t198 (lo_k4_0 hL _ (lo_k9_6 hL _ t_X)) (by decide)) (tg_ne t198 (lo_k4_1 hL _ (lo_k9_6 hL _ t_X)) (by decide))).trans eK8
                    have e192 := (hk1_209 pr (tg_ne t_pr t_X (by decide)) (tg_ne t_pr (lo_k6_6 hL _ t198) (by decide)) (tg_ne t_pr (lo_k5_2 hL _ (lo_k6_6 hL _ t198)) (by decide)) (tg_ne t_pr (lo_k6_6 hL _ (lo_e25 hL _ (lo_k7_2 hL _ t_pr) _ (by omega))) (by decide)) (tg_ne t_pr (lo_k5_2 hL _ (lo_k6_6 hL _ (lo_e25 hL _ (lo_k7_2 hL _ t_pr) _ (by omega)))) (by decide)) (tg_ne t_pr (lo_k6_6 hL _ (lo_e25 hL _ (lo_k7_2 hL _ t_pr) _ (by omega))) (by decide)) (tg_ne t_pr (lo_k5_2 hL _ (lo_k6_6 hL _ (lo_e25 hL _ (lo_k7_2 hL _ t_pr) _ (by omega)))) (by decide)) (tg_ne t_pr (lo_k9_6 hL _ t_X) (by decide)) (tg_ne t_pr (lo_k4_0 hL _ (lo_k9_6 hL _ t_X)) (by decide)) (tg_ne t_pr (lo_k4_1 hL _ (lo_k9_6 hL _ t_X)) (by decide))).trans e192
                    have e197 := (hk1_209 (g.lk pr 2) (tg_ne (lo_k7_2 hL _ t_pr) t_X (by decide)) (tg_ne (lo_k7_2 hL _ t_pr) (lo_k6_6 hL _ t198) (by decide)) (tg_ne (lo_k7_2 hL _ t_pr) (lo_k5_2 hL _ (lo_k6_6 hL _ t198)) (by decide)) (tg_ne (lo_k7_2 hL _ t_pr) (lo_k6_6 hL _ (lo_e25 hL _ (lo_k7_2 hL _ t_pr) _ (by omega))) (by decide)) (tg_ne (lo_k7_2 hL _ t_pr) (lo_k5_2 hL _ (lo_k6_6 hL _ (lo_e25 hL _ (lo_k7_2 hL _ t_pr) _ (by omega)))) (by decide)) (tg_ne (lo_k7_2 hL _ t_pr) (lo_k6_6 hL _ (lo_e25 hL _ (lo_k7_2 hL _ t_pr) _ (by omega))) (by decide)) (tg_ne (lo_k7_2 hL _ t_pr) (lo_k5_2 hL _ (lo_k6_6 hL _ (lo_e25 hL _ (lo_k7_2 hL _ t_pr) _ (by omega)))) (by decide)) (tg_ne (lo_k7_2 hL _ t_pr) (lo_k9_6 hL _ t_X) (by decide)) (tg_ne (lo_k7_2 hL _ t_pr) (lo_k4_0 hL _ (lo_k9_6 hL _ t_X)) (by decide)) (tg_ne (lo_k7_2 hL _ t_pr) (lo_k4_1 hL _ (lo_k9_6 hL _ t_X)) (by decide))).trans e197
                    obtain ⟨lo_210, e211⟩ := x1_205
                    refine lv_istore (lv' := [(4, .int (nI (otr 5 x9 y9))), (3, .ref (g.lk (g.lk pr 2) i)), (2, .int (nI i)), (0, .ref X), (1, .ref (g.lk (g.lk pr 0) s9))]) hx hb d_NRunner_workOut_69 hl (by decide) rfl (fun ls hl => ?_)
                    refine lv_iload hx hb d_NRunner_workOut_71 (lv_at hl 0 rfl) ?_
                    refine lv_if_eq (tgt := 79) hx hb d_NRunner_workOut_73 (by decide) (fun b212 => ?_) (fun b212 => ?_)
                    · skip
                      replace b212 := (nI_eq (a := otr 5 x9 y9) (b := 0) (by omega) (by omega)).mp b212
                      refine lv_iinc (k := 2) (v := nI (i + 1)) (lv' := [(2, .int (nI (i + 1))), (4, .int (nI (otr 5 x9 y9))), (3, .ref (g.lk (g.lk pr 2) i)), (0, .ref X), (1, .ref (g.lk (g.lk pr 0) s9))]) hx hb d_NRunner_workOut_79 hl rfl (by rw [nI_succ]; rfl) (by decide) rfl (fun ls hl => ?_)
                      refine lv_goto (tgt := 5) hx hb d_NRunner_workOut_82 (by decide) ?_
                      have hFK9 : FK g f2 f203 X pr T (T 1 i) i := (fun b q1 q2 q3 q4 q5 q6 q7 q8 => hk1_209 b q1 q3 q4 (q8 (T 1 i) (by omega) (Or.inr (Nat.le_refl _))).1 (q8 (T 1 i) (by omega) (Or.inr (Nat.le_refl _))).2 (q8 (T 2 i) (by omega) (Or.inr (Nat.le_of_lt hj9))).1 (q8 (T 2 i) (by omega) (Or.inr (Nat.le_of_lt hj9))).2 q5 q6 q7)
                      have hFW9 := FW_fk hL t_X t_pr hi72 hFK9
                      have hot0 : otr 5 x9 y9 = 0 := by omega
                      have hl : lv_has ls 5 [(2, .int (nI (i + 1))), (0, .ref X), (1, .ref (g.lk (g.lk pr 0) s9))] := lv_sub hl [0, 3, 4] rfl
                      exact ih4 (i + 1) ((i :: r9)) ((ovl 5 x9 y9 :: V9)) ((xst en (Y9 :: X9 :: S9) 5 a9)) E9 mo2 lo_210 f203 H locs ls (by omega) (by omega) (by have z9 := hlen9; omega) hNR9 ⟨_, _, _, _, rfl, rfl, Nat.lt_succ_self i, (by rw [h39]; exact ⟨_, _, _, _, eK8, fun z => absurd z (by decide), fun _ => lv9_207 hot0, (ovl_lt (by obtain ⟨_, _, _, _, _, _, _, z⟩ := hL9; exact z) hot0)⟩), (ovl_in (w := 5) (a := a9) (by decide) (by decide) hi9 (fun _ => hiy9) hot0), (iK_ivn hK9 hKy9 (fun q => absurd q (by decide))), VS_mono (by omega) (VS_fk hL t_X t_pr hi72 hFK9 (by omega) _ _ _ _ (Nat.le_refl _) hR9)⟩ (hev.trans (evs_ok (ev1_z vr (by decide) (by decide) hot0))) hxs hps (TPN_fk hL t_X t_pr hi72 hFK9 (by rw [hkd9, h39]; exact eK8) (fun z => absurd (hkd9.symm.trans z) (by decide)) hTPi) (hFW.tr hFW9) (VARS_fw hL t_X hVi hFW9 (hFK9 _ (tg_ne (lo_k9_3 hL _ t_X) t_X (by decide)) (tg_ne (lo_k9_3 hL _ t_X) (lo_e25 hL _ (lo_k7_2 hL _ t_pr) i hi72) (by decide)) (tg_ne (lo_k9_3 hL _ t_X) (nw_5 hL t_pr hi72) (by decide)) (tg_ne (lo_k9_3 hL _ t_X) (nw_23 hL t_pr hi72) (by decide)) (tg_ne (lo_k9_3 hL _ t_X) (lo_k9_6 hL _ t_X) (by decide)) (tg_ne (lo_k9_3 hL _ t_X) (lo_k4_0 hL _ (lo_k9_6 hL _ t_X)) (by decide)) (tg_ne (lo_k9_3 hL _ t_X) (lo_k4_1 hL _ (lo_k9_6 hL _ t_X)) (by decide)) (fun j9 hj9 _ => ⟨tg_ne (lo_k9_3 hL _ t_X) (nw_5 hL t_pr (by omega)) (by decide), tg_ne (lo_k9_3 hL _ t_X) (nw_23 hL t_pr (by omega)) (by decide)⟩))) e211 hI1_208 hv8 hl hP hD hS
                    · skip
                      replace b212 := mt (nI_eq (a := otr 5 x9 y9) (b := 0) (by omega) (by omega)).mpr b212
                      refine lv_iload hx hb d_NRunner_workOut_76 (lv_at hl 0 rfl) ?_
                      have hFK9 : FK g f2 f203 X pr T (T 1 i) i := (fun b q1 q2 q3 q4 q5 q6 q7 q8 => hk1_209 b q1 q3 q4 (q8 (T 1 i) (by omega) (Or.inr (Nat.le_refl _))).1 (q8 (T 1 i) (by omega) (Or.inr (Nat.le_refl _))).2 (q8 (T 2 i) (by omega) (Or.inr (Nat.le_of_lt hj9))).1 (q8 (T 2 i) (by omega) (Or.inr (Nat.le_of_lt hj9))).2 q5 q6 q7)
                      exact pe_iret hx hb hr hlocks hK hP hD hS d_NRunner_workOut_78 ⟨⟨mo2, lo_210, e211⟩, (by rw [hev]; exact congrArg (fun z : Nat × List Int => nI z.1) (evs_no (ev1_t vr (by decide) (by decide) b212) b212).symm), (fun z => absurd ((congrArg (fun z : Nat × List Int => z.1) (hev.trans (evs_no (ev1_t vr (by decide) (by decide) b212) b212))).symm.trans z) b212), (hFW.tr (FW_fk hL t_X t_pr hi72 hFK9)), (TPN_fk hL t_X t_pr hi72 hFK9 (by rw [hkd9, h39]; exact eK8) (fun z => absurd (hkd9.symm.trans z) (by decide)) hTPi), hI1_208, hu⟩
                  · skip
                    replace b201 := mt (nI_eq (a := 0) (b := 0) (by omega) (by omega)).mpr b201
                    exfalso; omega
              · skip
                replace b199 := (nI_eq (a := 6) (b := 1) (by omega) (by omega)).mp b199
                exfalso; omega
            · skip
              obtain ⟨r9, hst9⟩ := hz2 (by decide) (by decide)
              subst hst9
              obtain ⟨y9, V8, Y9, S8, hV8, hS8, hk89, hLy9, hiy9, hKy9, hR8⟩ := hVS
              obtain ⟨x9, V9, X9, S9, hV9, hS9, hj9, hL9, hi9, hK9, hR9⟩ := hR8
              subst hV9
              subst hV8
              subst hS9
              subst hS8
              rw [hkd9, h39] at eN9
              have eN8 := eN9
              obtain ⟨hsl9, hsr9⟩ := hs2 (by decide) h39
              skip
              obtain ⟨kl9, l19, l29, mx9, eL9, hv19, -, ht19⟩ := (by rw [hsl9] at hL9; exact hL9 : VL g f2 pr 1 (T 1 i) x9)
              obtain ⟨hvx9, h6x9⟩ := hv19 rfl
              obtain ⟨kr9, r19, r29, my9, eR9, hv29, -, ht29⟩ := (by rw [hsr9] at hLy9; exact hLy9 : VL g f2 pr 1 (T 2 i) y9)
              obtain ⟨hvy9, h6y9⟩ := hv29 rfl
              have hot9 := otr_3 5 x9 y9
              refine lv_aload_n hx hb d_NRunner_workOut_13 rfl (lv_at hl 1 rfl) ?_
              refine pf_get (v := .ref pr) (C := "BigRunner$Runner") (T := FT8) (N := 13) hx hb (hw8 hB _) (fun _ h9 => h9) hown hK hP (lo_in hL t_X (by decide)) e6 rfl 0 (by decide) (wd_330 hB _) rfl d_NRunner_workOut_14 ?_
              obtain ⟨sc_214, nc_215, e213, c216, c217⟩ := oc_7.of t_pr (hI7.1 pr)
              refine pf_get (v := .ref (g.lk pr 2)) (C := "BigRunner$Program") (T := FT6) (N := 6) hx hb (hw6 hB _) (fun _ h9 => h9) hown hK hP (lo_in hL t_pr (by decide)) e213 rfl 2 (by decide) (wd_249 hB _) rfl d_NRunner_workOut_17 ?_
              refine lv_iload_n hx hb d_NRunner_workOut_20 rfl (lv_at hl 0 rfl) ?_
              have e218 := oc_25.of (lo_k7_2 hL _ t_pr) (hI7.1 (g.lk pr 2))
              refine pf_aald (i := i) hx hb hK hP (lo_in hL (lo_k7_2 hL _ t_pr) (by decide)) e218 (lo_t25 hL _ (lo_k7_2 hL _ t_pr)) (by omega) (by decide) d_NRunner_workOut_21 ?_
              have t219 := lo_e25 hL _ (lo_k7_2 hL _ t_pr) i (by omega)
              refine lv_astore_n (lv' := [(3, .ref (g.lk (g.lk pr 2) i)), (2, .int (nI i)), (0, .ref X), (1, .ref (g.lk (g.lk pr 0) s9))]) hx hb d_NRunner_workOut_22 rfl hl (by decide) rfl (fun ls hl => ?_)
              refine lv_iconst (v := nI 0) hx hb d_NRunner_workOut_23 (by decide) ?_
              refine lv_istore (lv' := [(4, .int (nI 0)), (3, .ref (g.lk (g.lk pr 2) i)), (2, .int (nI i)), (0, .ref X), (1, .ref (g.lk (g.lk pr 0) s9))]) hx hb d_NRunner_workOut_24 hl (by decide) rfl (fun ls hl => ?_)
              refine lv_aload_n hx hb d_NRunner_workOut_26 rfl (lv_at hl 1 rfl) ?_
              refine pf_get (v := .int (nI 6)) (C := "BigRunner$Node") (T := FT5) (N := 7) hx hb (hw5 hB _) (fun _ h9 => h9) hown hK hP (lo_in hL t219 (by decide)) eN8 rfl 0 (by decide) (wd_204 hB _) rfl d_NRunner_workOut_27 ?_
              refine lv_iconst (v := nI 1) hx hb d_NRunner_workOut_30 (by decide) ?_
              refine lv_icmp_ne (tgt := 42) hx hb d_NRunner_workOut_31 (by decide) (fun b220 => ?_) (fun b220 => ?_)
              · skip
                replace b220 := mt (nI_eq (a := 6) (b := 1) (by omega) (by omega)).mpr b220
                refine lv_aload_n hx hb d_NRunner_workOut_42 rfl (lv_at hl 1 rfl) ?_
                refine pf_get (v := .int (nI 6)) (C := "BigRunner$Node") (T := FT5) (N := 7) hx hb (hw5 hB _) (fun _ h9 => h9) hown hK hP (lo_in hL t219 (by decide)) eN8 rfl 0 (by decide) (wd_204 hB _) rfl d_NRunner_workOut_43 ?_
                refine lv_if_eq (tgt := 71) hx hb d_NRunner_workOut_46 (by decide) (fun b221 => ?_) (fun b221 => ?_)
                · skip
                  replace b221 := (nI_eq (a := 6) (b := 0) (by omega) (by omega)).mp b221
                  exfalso; omega
                · skip
                  replace b221 := mt (nI_eq (a := 6) (b := 0) (by omega) (by omega)).mpr b221
                  refine lv_aload_n hx hb d_NRunner_workOut_49 rfl (lv_at hl 1 rfl) ?_
                  refine pf_get (v := .int (nI 1)) (C := "BigRunner$Node") (T := FT5) (N := 7) hx hb (hw5 hB _) (fun _ h9 => h9) hown hK hP (lo_in hL t219 (by decide)) eN8 rfl 4 (by decide) (wd_218 hB _) rfl d_NRunner_workOut_50 ?_
                  refine lv_if_eq (tgt := 64) hx hb d_NRunner_workOut_53 (by decide) (fun b222 => ?_) (fun b222 => ?_)
                  · skip
                    replace b222 := (nI_eq (a := 1) (b := 0) (by omega) (by omega)).mp b222
                    exfalso; omega
                  · skip
                    replace b222 := mt (nI_eq (a := 1) (b := 0) (by omega) (by omega)).mpr b222
                    refine lv_aload_n hx hb d_NRunner_workOut_56 rfl (lv_at hl 3 rfl) ?_
                    refine lv_aload_n hx hb d_NRunner_workOut_57 rfl (lv_at hl 1 rfl) ?_
                    have eK8 : f2 (g.lk (g.lk pr 2) i) = .inr (5, [.int (nI (km 5)), .int (nI (T 1 i)), .int (nI (T 2 i)), .ref (g.lk (g.lk (g.lk pr 2) i) 3), .int (nI 1), .long mv9, .ref (g.lk (g.lk (g.lk pr 2) i) 6)]) := eN8
                    refine pcc_i (va_runV (C := "BigRunner$Runner") (As := [.ref (g.lk (g.lk pr 2) i)]) (rest := []) ⟨hx, hb, hml, hown, tb_nil⟩ (v_operate l g H.size f2 X pr ix os st mo2 lo2 tr i 5 ((T 1 i)) ((T 2 i)) mv9 kl9 l19 l29 mx9 kr9 r19 r29 my9 x9 y9 hL t_X t_pr hI7 e6 (by omega) (by omega) (by omega) (by omega) eK8 eL9 eR9 (by omega) (by omega) (by omega) (by omega) (by omega) hvx9 hvy9 h6x9 h6y9 (fun z9 => ivin_60 (ovl_in (w := 5) (a := a9) (by decide) (by decide) hi9 (fun _ => hiy9) z9) (hsb h39) (iK_ivn hK9 hKy9 (fun q => absurd q (by decide))))) ⟨(callB_of 1 (tb_one (wd_753 hB _)) tb_good1 rfl rfl rfl (wd_79 hB _) (wd_750 hB _) (by decide +kernel) ⟨Nat.le_of_ble_eq_true rfl, Nat.le_of_ble_eq_true rfl⟩), (wd_752 hB _), (wd_28 hB _)⟩ ⟨pe_bl, pg_recv (ci := 8) hK hP (lo_in hL t_X (by decide)) e6 rfl, pe_pre hB hK hP hD⟩ rfl rfl hl.1 rfl (lv_room (Nat.le_of_ble_eq_true rfl)) d_NRunner_workOut_58 ⟨Nat.le_of_ble_eq_true rfl, Nat.le_of_ble_eq_true rfl⟩) hS (fun r223 f224 H locs hq225 hP hD hS => ?_)
                    obtain ⟨x1_226, q9_227, nv_228, hI1_229, hk1_230⟩ := hq225
                    subst q9_227
                    have hu := hu.st2 hk1_230 t_X t219 (by decide) (by decide)
                    have hv8 := hv8.st2 hk1_230 t_X t219 (by decide) (by decide)
                    have eS := (hk1_230 (g.lk (g.lk pr 0) s9) (tg_ne (lo_e24 hL _ (lo_k7_0 hL _ t_pr) s9 hs36) t_X (by decide)) (tg_ne (lo_e24 hL _ (lo_k7_0 hL _ t_pr) s9 hs36) t219 (by decide))).trans eS
                    have eL9 := (hk1_230 (g.lk (g.lk pr 2) (T 1 i)) (tg_ne (lo_e25 hL _ (lo_k7_2 hL _ t_pr) _ (by omega)) t_X (by decide)) (tn_ne (lo_n25 hL _ (lo_k7_2 hL _ t_pr) _ (by omega)) (lo_n25 hL _ (lo_k7_2 hL _ t_pr) _ (by omega)) (by omega))).trans eL9
                    have eR9 := (hk1_230 (g.lk (g.lk pr 2) (T 2 i)) (tg_ne (lo_e25 hL _ (lo_k7_2 hL _ t_pr) _ (by omega)) t_X (by decide)) (tn_ne (lo_n25 hL _ (lo_k7_2 hL _ t_pr) _ (by omega)) (lo_n25 hL _ (lo_k7_2 hL _ t_pr) _ (by omega)) (by omega))).trans eR9
                    have e213 := (hk1_230 pr (tg_ne t_pr t_X (by decide)) (tg_ne t_pr t219 (by decide))).trans e213
                    have e218 := (hk1_230 (g.lk pr 2) (tg_ne (lo_k7_2 hL _ t_pr) t_X (by decide)) (tg_ne (lo_k7_2 hL _ t_pr) t219 (by decide))).trans e218
                    obtain ⟨mo_231, e232⟩ := x1_226
                    obtain ⟨mv_233, e234, hnv235⟩ := nv_228
                    refine lv_goto (tgt := 69) hx hb d_NRunner_workOut_61 (by decide) ?_
                    refine lv_istore (lv' := [(4, .int (nI (otr 5 x9 y9))), (3, .ref (g.lk (g.lk pr 2) i)), (2, .int (nI i)), (0, .ref X), (1, .ref (g.lk (g.lk pr 0) s9))]) hx hb d_NRunner_workOut_69 hl (by decide) rfl (fun ls hl => ?_)
                    refine lv_iload hx hb d_NRunner_workOut_71 (lv_at hl 0 rfl) ?_
                    refine lv_if_eq (tgt := 79) hx hb d_NRunner_workOut_73 (by decide) (fun b236 => ?_) (fun b236 => ?_)
                    · skip
                      replace b236 := (nI_eq (a := otr 5 x9 y9) (b := 0) (by omega) (by omega)).mp b236
                      refine lv_iinc (k := 2) (v := nI (i + 1)) (lv' := [(2, .int (nI (i + 1))), (4, .int (nI (otr 5 x9 y9))), (3, .ref (g.lk (g.lk pr 2) i)), (0, .ref X), (1, .ref (g.lk (g.lk pr 0) s9))]) hx hb d_NRunner_workOut_79 hl rfl (by rw [nI_succ]; rfl) (by decide) rfl (fun ls hl => ?_)
                      refine lv_goto (tgt := 5) hx hb d_NRunner_workOut_82 (by decide) ?_
                      have hFK9 : FK g f2 f224 X pr T (T 1 i) i := (fun b q1 q2 q3 q4 q5 q6 q7 q8 => hk1_230 b q1 q2)
                      have hFW9 := FW_fk hL t_X t_pr hi72 hFK9
                      have hot0 : otr 5 x9 y9 = 0 := by omega
                      have hl : lv_has ls 5 [(2, .int (nI (i + 1))), (0, .ref X), (1, .ref (g.lk (g.lk pr 0) s9))] := lv_sub hl [0, 3, 4] rfl
                      exact ih4 (i + 1) ((i :: r9)) ((ovl 5 x9 y9 :: V9)) ((xst en (Y9 :: X9 :: S9) 5 a9)) E9 mo_231 lo2 f224 H locs ls (by omega) (by omega) (by have z9 := hlen9; omega) hNR9 ⟨_, _, _, _, rfl, rfl, Nat.lt_succ_self i, (by rw [h39]; exact ⟨_, _, _, _, e234, fun _ => ⟨hnv235 hot0, ivin_60 (ovl_in (w := 5) (a := a9) (by decide) (by decide) hi9 (fun _ => hiy9) hot0) (hsb h39) (iK_ivn hK9 hKy9 (fun q => absurd q (by decide)))⟩, fun z => absurd z (by decide), (ovl_lt (by obtain ⟨_, _, _, _, _, _, _, z⟩ := hL9; exact z) hot0)⟩), (ovl_in (w := 5) (a := a9) (by decide) (by decide) hi9 (fun _ => hiy9) hot0), (iK_ivn hK9 hKy9 (fun q => absurd q (by decide))), VS_mono (by omega) (VS_fk hL t_X t_pr hi72 hFK9 (by omega) _ _ _ _ (Nat.le_refl _) hR9)⟩ (hev.trans (evs_ok (ev1_z vr (by decide) (by decide) hot0))) hxs hps (TPN_fk hL t_X t_pr hi72 hFK9 (by rw [hkd9, h39]; exact e234) (fun z => absurd (hkd9.symm.trans z) (by decide)) hTPi) (hFW.tr hFW9) (VARS_fw hL t_X hVi hFW9 (hFK9 _ (tg_ne (lo_k9_3 hL _ t_X) t_X (by decide)) (tg_ne (lo_k9_3 hL _ t_X) (lo_e25 hL _ (lo_k7_2 hL _ t_pr) i hi72) (by decide)) (tg_ne (lo_k9_3 hL _ t_X) (nw_5 hL t_pr hi72) (by decide)) (tg_ne (lo_k9_3 hL _ t_X) (nw_23 hL t_pr hi72) (by decide)) (tg_ne (lo_k9_3 hL _ t_X) (lo_k9_6 hL _ t_X) (by decide)) (tg_ne (lo_k9_3 hL _ t_X) (lo_k4_0 hL _ (lo_k9_6 hL _ t_X)) (by decide)) (tg_ne (lo_k9_3 hL _ t_X) (lo_k4_1 hL _ (lo_k9_6 hL _ t_X)) (by decide)) (fun j9 hj9 _ => ⟨tg_ne (lo_k9_3 hL _ t_X) (nw_5 hL t_pr (by omega)) (by decide), tg_ne (lo_k9_3 hL _ t_X) (nw_23 hL t_pr (by omega)) (by decide)⟩))) e232 hI1_229 hv8 hl hP hD hS
                    · skip
                      replace b236 := mt (nI_eq (a := otr 5 x9 y9) (b := 0) (by omega) (by omega)).mpr b236
                      refine lv_iload hx hb d_NRunner_workOut_76 (lv_at hl 0 rfl) ?_
                      have hFK9 : FK g f2 f224 X pr T (T 1 i) i := (fun b q1 q2 q3 q4 q5 q6 q7 q8 => hk1_230 b q1 q2)
                      exact pe_iret hx hb hr hlocks hK hP hD hS d_NRunner_workOut_78 ⟨⟨mo_231, lo2, e232⟩, (by rw [hev]; exact congrArg (fun z : Nat × List Int => nI z.1) (evs_no (ev1_t vr (by decide) (by decide) b236) b236).symm), (fun z => absurd ((congrArg (fun z : Nat × List Int => z.1) (hev.trans (evs_no (ev1_t vr (by decide) (by decide) b236) b236))).symm.trans z) b236), (hFW.tr (FW_fk hL t_X t_pr hi72 hFK9)), (TPN_fk hL t_X t_pr hi72 hFK9 (by rw [hkd9, h39]; exact e234) (fun z => absurd (hkd9.symm.trans z) (by decide)) hTPi), hI1_229, hu⟩
              · skip
                replace b220 := (nI_eq (a := 6) (b := 1) (by omega) (by omega)).mp b220
                exfalso; omega
          · skip
            have hkd9 : T 0 i = 7 := hk9
            rcases hb4 with h39 | h39
            · skip
              obtain ⟨r9, hst9⟩ := hz2 (by decide) (by decide)
              subst hst9
              obtain ⟨y9, V8, Y9, S8, hV8, hS8, hk89, hLy9, hiy9, hKy9, hR8⟩ := hVS
              obtain ⟨x9, V9, X9, S9, hV9, hS9, hj9, hL9, hi9, hK9, hR9⟩ := hR8
              subst hV9
              subst hV8
              subst hS9
              subst hS8
              rw [hkd9, h39] at eN9
              have eN8 := eN9
              have hot9 := otr_3 6 x9 y9
              refine lv_aload_n hx hb d_NRunner_workOut_13 rfl (lv_at hl 1 rfl) ?_
              refine pf_get (v := .ref pr) (C := "BigRunner$Runner") (T := FT8) (N := 13) hx hb (hw8 hB _) (fun _ h9 => h9) hown hK hP (lo_in hL t_X (by decide)) e6 rfl 0 (by decide) (wd_330 hB _) rfl d_NRunner_workOut_14 ?_
              obtain ⟨sc_238, nc_239, e237, c240, c241⟩ := oc_7.of t_pr (hI7.1 pr)
              refine pf_get (v := .ref (g.lk pr 2)) (C := "BigRunner$Program") (T := FT6) (N := 6) hx hb (hw6 hB _) (fun _ h9 => h9) hown hK hP (lo_in hL t_pr (by decide)) e237 rfl 2 (by decide) (wd_249 hB _) rfl d_NRunner_workOut_17 ?_
              refine lv_iload_n hx hb d_NRunner_workOut_20 rfl (lv_at hl 0 rfl) ?_
              have e242 := oc_25.of (lo_k7_2 hL _ t_pr) (hI7.1 (g.lk pr 2))
              refine pf_aald (i := i) hx hb hK hP (lo_in hL (lo_k7_2 hL _ t_pr) (by decide)) e242 (lo_t25 hL _ (lo_k7_2 hL _ t_pr)) (by omega) (by decide) d_NRunner_workOut_21 ?_
              have t243 := lo_e25 hL _ (lo_k7_2 hL _ t_pr) i (by omega)
              refine lv_astore_n (lv' := [(3, .ref (g.lk (g.lk pr 2) i)), (2, .int (nI i)), (0, .ref X), (1, .ref (g.lk (g.lk pr 0) s9))]) hx hb d_NRunner_workOut_22 rfl hl (by decide) rfl (fun ls hl => ?_)
              refine lv_iconst (v := nI 0) hx hb d_NRunner_workOut_23 (by decide) ?_
              refine lv_istore (lv' := [(4, .int (nI 0)), (3, .ref (g.lk (g.lk pr 2) i)), (2, .int (nI i)), (0, .ref X), (1, .ref (g.lk (g.lk pr 0) s9))]) hx hb d_NRunner_workOut_24 hl (by decide) rfl (fun ls hl => ?_)
              refine lv_aload_n hx hb d_NRunner_workOut_26 rfl (lv_at hl 1 rfl) ?_
              refine pf_get (v := .int (nI 7)) (C := "BigRunner$Node") (T := FT5) (N := 7) hx hb (hw5 hB _) (fun _ h9 => h9) hown hK hP (lo_in hL t243 (by decide)) eN8 rfl 0 (by decide) (wd_204 hB _) rfl d_NRunner_workOut_27 ?_
              refine lv_iconst (v := nI 1) hx hb d_NRunner_workOut_30 (by decide) ?_
              refine lv_icmp_ne (tgt := 42) hx hb d_NRunner_workOut_31 (by decide) (fun b244 => ?_) (fun b244 => ?_)
              · skip
                replace b244 := mt (nI_eq (a := 7) (b := 1) (by omega) (by omega)).mpr b244
                refine lv_aload_n hx hb d_NRunner_workOut_42 rfl (lv_at hl 1 rfl) ?_
                refine pf_get (v := .int (nI 7)) (C := "BigRunner$Node") (T := FT5) (N := 7) hx hb (hw5 hB _) (fun _ h9 => h9) hown hK hP (lo_in hL t243 (by decide)) eN8 rfl 0 (by decide) (wd_204 hB _) rfl d_NRunner_workOut_43 ?_
                refine lv_if_eq (tgt := 71) hx hb d_NRunner_workOut_46 (by decide) (fun b245 => ?_) (fun b245 => ?_)
                · skip
                  replace b245 := (nI_eq (a := 7) (b := 0) (by omega) (by omega)).mp b245
                  exfalso; omega
                · skip
                  replace b245 := mt (nI_eq (a := 7) (b := 0) (by omega) (by omega)).mpr b245
                  refine lv_aload_n hx hb d_NRunner_workOut_49 rfl (lv_at hl 1 rfl) ?_
                  refine pf_get (v := .int (nI 0)) (C := "BigRunner$Node") (T := FT5) (N := 7) hx hb (hw5 hB _) (fun _ h9 => h9) hown hK hP (lo_in hL t243 (by decide)) eN8 rfl 4 (by decide) (wd_218 hB _) rfl d_NRunner_workOut_50 ?_
                  refine lv_if_eq (tgt := 64) hx hb d_NRunner_workOut_53 (by decide) (fun b246 => ?_) (fun b246 => ?_)
                  · skip
                    replace b246 := (nI_eq (a := 0) (b := 0) (by omega) (by omega)).mp b246
                    refine lv_aload_n hx hb d_NRunner_workOut_64 rfl (lv_at hl 3 rfl) ?_
                    refine lv_aload_n hx hb d_NRunner_workOut_65 rfl (lv_at hl 1 rfl) ?_
                    have eK8 : f2 (g.lk (g.lk pr 2) i) = .inr (5, [.int (nI (km 6)), .int (nI (T 1 i)), .int (nI (T 2 i)), .ref (g.lk (g.lk (g.lk pr 2) i) 3), .int (nI 0), .long mv9, .ref (g.lk (g.lk (g.lk pr 2) i) 6)]) := eN8
                    refine pcc_i (va_runV (C := "BigRunner$Runner") (As := [.ref (g.lk (g.lk pr 2) i)]) (rest := []) ⟨hx, hb, hml, hown, tb_nil⟩ (v_opLong l g H.size f2 X pr ix os st mo2 lo2 tr i 6 ((T 1 i)) ((T 2 i)) mv9 ((T 3 (T 1 i))) x9 ((T 3 (T 2 i))) y9 hL t_X t_pr hI7 e6 (by omega) (by omega) (by omega) (by omega) eK8 hL9 hLy9 (by omega) (by omega) (by omega) (by omega) (by omega) (by omega) ((hTB.1 (T 1 i) (by omega)).2.2.2.2) ((hTB.1 (T 2 i) (by omega)).2.2.2.2)) ⟨(callB_of 1 (tb_one (wd_757 hB _)) tb_good1 rfl rfl rfl (wd_79 hB _) (wd_754 hB _) (by decide +kernel) ⟨Nat.le_of_ble_eq_true rfl, Nat.le_of_ble_eq_true rfl⟩), (wd_756 hB _), (wd_29 hB _)⟩ ⟨pe_bl, pg_recv (ci := 8) hK hP (lo_in hL t_X (by decide)) e6 rfl, pe_pre hB hK hP hD⟩ rfl rfl hl.1 rfl (lv_room (Nat.le_of_ble_eq_true rfl)) d_NRunner_workOut_66 ⟨Nat.le_of_ble_eq_true rfl, Nat.le_of_ble_eq_true rfl⟩) hS (fun r247 f248 H locs hq249 hP hD hS => ?_)
                    obtain ⟨x1_250, q9_251, lv9_252, hI1_253, hk1_254⟩ := hq249
                    subst q9_251
                    have hu : un [4, 5, 6, 9, 22, 23] g f f248 := fun a9 ha9 => (hk1_254 a9 (fun q9 => ha9 (by rw [q9, t_X]; decide)) (fun q9 => ha9 (by rw [q9, (lo_k6_6 hL _ t243)]; decide)) (fun q9 => ha9 (by rw [q9, (lo_k5_2 hL _ (lo_k6_6 hL _ t243))]; decide)) (fun q9 => ha9 (by rw [q9, (lo_k6_6 hL _ (lo_e25 hL _ (lo_k7_2 hL _ t_pr) _ (by omega)))]; decide)) (fun q9 => ha9 (by rw [q9, (lo_k5_2 hL _ (lo_k6_6 hL _ (lo_e25 hL _ (lo_k7_2 hL _ t_pr) _ (by omega))))]; decide)) (fun q9 => ha9 (by rw [q9, (lo_k6_6 hL _ (lo_e25 hL _ (lo_k7_2 hL _ t_pr) _ (by omega)))]; decide)) (fun q9 => ha9 (by rw [q9, (lo_k5_2 hL _ (lo_k6_6 hL _ (lo_e25 hL _ (lo_k7_2 hL _ t_pr) _ (by omega))))]; decide)) (fun q9 => ha9 (by rw [q9, (lo_k9_6 hL _ t_X)]; decide)) (fun q9 => ha9 (by rw [q9, (lo_k4_0 hL _ (lo_k9_6 hL _ t_X))]; decide)) (fun q9 => ha9 (by rw [q9, (lo_k4_1 hL _ (lo_k9_6 hL _ t_X))]; decide))).trans (hu a9 ha9)
                    have hv8 : un [4, 5, 6, 9, 22, 23] g f f248 := fun a9 ha9 => (hk1_254 a9 (fun q9 => ha9 (by rw [q9, t_X]; decide)) (fun q9 => ha9 (by rw [q9, (lo_k6_6 hL _ t243)]; decide)) (fun q9 => ha9 (by rw [q9, (lo_k5_2 hL _ (lo_k6_6 hL _ t243))]; decide)) (fun q9 => ha9 (by rw [q9, (lo_k6_6 hL _ (lo_e25 hL _ (lo_k7_2 hL _ t_pr) _ (by omega)))]; decide)) (fun q9 => ha9 (by rw [q9, (lo_k5_2 hL _ (lo_k6_6 hL _ (lo_e25 hL _ (lo_k7_2 hL _ t_pr) _ (by omega))))]; decide)) (fun q9 => ha9 (by rw [q9, (lo_k6_6 hL _ (lo_e25 hL _ (lo_k7_2 hL _ t_pr) _ (by omega)))]; decide)) (fun q9 => ha9 (by rw [q9, (lo_k5_2 hL _ (lo_k6_6 hL _ (lo_e25 hL _ (lo_k7_2 hL _ t_pr) _ (by omega))))]; decide)) (fun q9 => ha9 (by rw [q9, (lo_k9_6 hL _ t_X)]; decide)) (fun q9 => ha9 (by rw [q9, (lo_k4_0 hL _ (lo_k9_6 hL _ t_X))]; decide)) (fun q9 => ha9 (by rw [q9, (lo_k4_1 hL _ (lo_k9_6 hL _ t_X))]; decide))).trans (hv8 a9 ha9)
                    have eS := (hk1_254 (g.lk (g.lk pr 0) s9) (tg_ne (lo_e24 hL _ (lo_k7_0 hL _ t_pr) s9 hs36) t_X (by decide)) (tg_ne (lo_e24 hL _ (lo_k7_0 hL _ t_pr) s9 hs36) (lo_k6_6 hL _ t243) (by decide)) (tg_ne (lo_e24 hL _ (lo_k7_0 hL _ t_pr) s9 hs36) (lo_k5_2 hL _ (lo_k6_6 hL _ t243)) (by decide)) (tg_ne (lo_e24 hL _ (lo_k7_0 hL _ t_pr) s9 hs36) (lo_k6_6 hL _ (lo_e25 hL _ (lo_k7_2 hL _ t_pr) _ (by omega))) (by decide)) (tg_ne (lo_e24 hL _ (lo_k7_0 hL _ t_pr) s9 hs36) (lo_k5_2 hL _ (lo_k6_6 hL _ (lo_e25 hL _ (lo_k7_2 hL _ t_pr) _ (by omega)))) (by decide)) (tg_ne (lo_e24 hL _ (lo_k7_0 hL _ t_pr) s9 hs36) (lo_k6_6 hL _ (lo_e25 hL _ (lo_k7_2 hL _ t_pr) _ (by omega))) (by decide)) (tg_ne (lo_e24 hL _ (lo_k7_0 hL _ t_pr) s9 hs36) (lo_k5_2 hL _ (lo_k6_6 hL _ (lo_e25 hL _ (lo_k7_2 hL _ t_pr) _ (by omega)))) (by decide)) (tg_ne (lo_e24 hL _ (lo_k7_0 hL _ t_pr) s9 hs36) (lo_k9_6 hL _ t_X) (by decide)) (tg_ne (lo_e24 hL _ (lo_k7_0 hL _ t_pr) s9 hs36) (lo_k4_0 hL _ (lo_k9_6 hL _ t_X)) (by decide)) (tg_ne (lo_e24 hL _ (lo_k7_0 hL _ t_pr) s9 hs36) (lo_k4_1 hL _ (lo_k9_6 hL _ t_X)) (by decide))).trans eS
                    have eK8 := (hk1_254 (g.lk (g.lk pr 2) i) (tg_ne t243 t_X (by decide)) (tg_ne t243 (lo_k6_6 hL _ t243) (by decide)) (tg_ne t243 (lo_k5_2 hL _ (lo_k6_6 hL _ t243)) (by decide)) (tg_ne t243 (lo_k6_6 hL _ (lo_e25 hL _ (lo_k7_2 hL _ t_pr) _ (by omega))) (by decide)) (tg_ne t243 (lo_k5_2 hL _ (lo_k6_6 hL _ (lo_e25 hL _ (lo_k7_2 hL _ t_pr) _ (by omega)))) (by decide)) (tg_ne t243 (lo_k6_6 hL _ (lo_e25 hL _ (lo_k7_2 hL _ t_pr) _ (by omega))) (by decide)) (tg_ne t243 (lo_k5_2 hL _ (lo_k6_6 hL _ (lo_e25 hL _ (lo_k7_2 hL _ t_pr) _ (by omega)))) (by decide)) (tg_ne t243 (lo_k9_6 hL _ t_X) (by decide)) (tg_ne t243 (lo_k4_0 hL _ (lo_k9_6 hL _ t_X)) (by decide)) (tg_ne t243 (lo_k4_1 hL _ (lo_k9_6 hL _ t_X)) (by decide))).trans eK8
                    have e237 := (hk1_254 pr (tg_ne t_pr t_X (by decide)) (tg_ne t_pr (lo_k6_6 hL _ t243) (by decide)) (tg_ne t_pr (lo_k5_2 hL _ (lo_k6_6 hL _ t243)) (by decide)) (tg_ne t_pr (lo_k6_6 hL _ (lo_e25 hL _ (lo_k7_2 hL _ t_pr) _ (by omega))) (by decide)) (tg_ne t_pr (lo_k5_2 hL _ (lo_k6_6 hL _ (lo_e25 hL _ (lo_k7_2 hL _ t_pr) _ (by omega)))) (by decide)) (tg_ne t_pr (lo_k6_6 hL _ (lo_e25 hL _ (lo_k7_2 hL _ t_pr) _ (by omega))) (by decide)) (tg_ne t_pr (lo_k5_2 hL _ (lo_k6_6 hL _ (lo_e25 hL _ (lo_k7_2 hL _ t_pr) _ (by omega)))) (by decide)) (tg_ne t_pr (lo_k9_6 hL _ t_X) (by decide)) (tg_ne t_pr (lo_k4_0 hL _ (lo_k9_6 hL _ t_X)) (by decide)) (tg_ne t_pr (lo_k4_1 hL _ (lo_k9_6 hL _ t_X)) (by decide))).trans e237
                    have e242 := (hk1_254 (g.lk pr 2) (tg_ne (lo_k7_2 hL _ t_pr) t_X (by decide)) (tg_ne (lo_k7_2 hL _ t_pr) (lo_k6_6 hL _ t243) (by decide)) (tg_ne (lo_k7_2 hL _ t_pr) (lo_k5_2 hL _ (lo_k6_6 hL _ t243)) (by decide)) (tg_ne (lo_k7_2 hL _ t_pr) (lo_k6_6 hL _ (lo_e25 hL _ (lo_k7_2 hL _ t_pr) _ (by omega))) (by decide)) (tg_ne (lo_k7_2 hL _ t_pr) (lo_k5_2 hL _ (lo_k6_6 hL _ (lo_e25 hL _ (lo_k7_2 hL _ t_pr) _ (by omega)))) (by decide)) (tg_ne (lo_k7_2 hL _ t_pr) (lo_k6_6 hL _ (lo_e25 hL _ (lo_k7_2 hL _ t_pr) _ (by omega))) (by decide)) (tg_ne (lo_k7_2 hL _ t_pr) (lo_k5_2 hL _ (lo_k6_6 hL _ (lo_e25 hL _ (lo_k7_2 hL _ t_pr) _ (by omega)))) (by decide)) (tg_ne (lo_k7_2 hL _ t_pr) (lo_k9_6 hL _ t_X) (by decide)) (tg_ne (lo_k7_2 hL _ t_pr) (lo_k4_0 hL _ (lo_k9_6 hL _ t_X)) (by decide)) (tg_ne (lo_k7_2 hL _ t_pr) (lo_k4_1 hL _ (lo_k9_6 hL _ t_X)) (by decide))).trans e242
                    obtain ⟨lo_255, e256⟩ := x1_250
                    refine lv_istore (lv' := [(4, .int (nI (otr 6 x9 y9))), (3, .ref (g.lk (g.lk pr 2) i)), (2, .int (nI i)), (0, .ref X), (1, .ref (g.lk (g.lk pr 0) s9))]) hx hb d_NRunner_workOut_69 hl (by decide) rfl (fun ls hl => ?_)
                    refine lv_iload hx hb d_NRunner_workOut_71 (lv_at hl 0 rfl) ?_
                    refine lv_if_eq (tgt := 79) hx hb d_NRunner_workOut_73 (by decide) (fun b257 => ?_) (fun b257 => ?_)
                    · skip
                      replace b257 := (nI_eq (a := otr 6 x9 y9) (b := 0) (by omega) (by omega)).mp b257
                      refine lv_iinc (k := 2) (v := nI (i + 1)) (lv' := [(2, .int (nI (i + 1))), (4, .int (nI (otr 6 x9 y9))), (3, .ref (g.lk (g.lk pr 2) i)), (0, .ref X), (1, .ref (g.lk (g.lk pr 0) s9))]) hx hb d_NRunner_workOut_79 hl rfl (by rw [nI_succ]; rfl) (by decide) rfl (fun ls hl => ?_)
                      refine lv_goto (tgt := 5) hx hb d_NRunner_workOut_82 (by decide) ?_
                      have hFK9 : FK g f2 f248 X pr T (T 1 i) i := (fun b q1 q2 q3 q4 q5 q6 q7 q8 => hk1_254 b q1 q3 q4 (q8 (T 1 i) (by omega) (Or.inr (Nat.le_refl _))).1 (q8 (T 1 i) (by omega) (Or.inr (Nat.le_refl _))).2 (q8 (T 2 i) (by omega) (Or.inr (Nat.le_of_lt hj9))).1 (q8 (T 2 i) (by omega) (Or.inr (Nat.le_of_lt hj9))).2 q5 q6 q7)
                      have hFW9 := FW_fk hL t_X t_pr hi72 hFK9
                      have hot0 : otr 6 x9 y9 = 0 := by omega
                      have hl : lv_has ls 5 [(2, .int (nI (i + 1))), (0, .ref X), (1, .ref (g.lk (g.lk pr 0) s9))] := lv_sub hl [0, 3, 4] rfl
                      exact ih4 (i + 1) ((i :: r9)) ((ovl 6 x9 y9 :: V9)) ((xst en (Y9 :: X9 :: S9) 6 a9)) E9 mo2 lo_255 f248 H locs ls (by omega) (by omega) (by have z9 := hlen9; omega) hNR9 ⟨_, _, _, _, rfl, rfl, Nat.lt_succ_self i, (by rw [h39]; exact ⟨_, _, _, _, eK8, fun z => absurd z (by decide), fun _ => lv9_252 hot0, (ovl_lt (by obtain ⟨_, _, _, _, _, _, _, z⟩ := hL9; exact z) hot0)⟩), (ovl_in (w := 6) (a := a9) (by decide) (by decide) hi9 (fun _ => hiy9) hot0), (iK_ivn hK9 hKy9 (fun q => absurd q (by decide))), VS_mono (by omega) (VS_fk hL t_X t_pr hi72 hFK9 (by omega) _ _ _ _ (Nat.le_refl _) hR9)⟩ (hev.trans (evs_ok (ev1_z vr (by decide) (by decide) hot0))) hxs hps (TPN_fk hL t_X t_pr hi72 hFK9 (by rw [hkd9, h39]; exact eK8) (fun z => absurd (hkd9.symm.trans z) (by decide)) hTPi) (hFW.tr hFW9) (VARS_fw hL t_X hVi hFW9 (hFK9 _ (tg_ne (lo_k9_3 hL _ t_X) t_X (by decide)) (tg_ne (lo_k9_3 hL _ t_X) (lo_e25 hL _ (lo_k7_2 hL _ t_pr) i hi72) (by decide)) (tg_ne (lo_k9_3 hL _ t_X) (nw_5 hL t_pr hi72) (by decide)) (tg_ne (lo_k9_3 hL _ t_X) (nw_23 hL t_pr hi72) (by decide)) (tg_ne (lo_k9_3 hL _ t_X) (lo_k9_6 hL _ t_X) (by decide)) (tg_ne (lo_k9_3 hL _ t_X) (lo_k4_0 hL _ (lo_k9_6 hL _ t_X)) (by decide)) (tg_ne (lo_k9_3 hL _ t_X) (lo_k4_1 hL _ (lo_k9_6 hL _ t_X)) (by decide)) (fun j9 hj9 _ => ⟨tg_ne (lo_k9_3 hL _ t_X) (nw_5 hL t_pr (by omega)) (by decide), tg_ne (lo_k9_3 hL _ t_X) (nw_23 hL t_pr (by omega)) (by decide)⟩))) e256 hI1_253 hv8 hl hP hD hS
                    · skip
                      replace b257 := mt (nI_eq (a := otr 6 x9 y9) (b := 0) (by omega) (by omega)).mpr b257
                      refine lv_iload hx hb d_NRunner_workOut_76 (lv_at hl 0 rfl) ?_
                      have hFK9 : FK g f2 f248 X pr T (T 1 i) i := (fun b q1 q2 q3 q4 q5 q6 q7 q8 => hk1_254 b q1 q3 q4 (q8 (T 1 i) (by omega) (Or.inr (Nat.le_refl _))).1 (q8 (T 1 i) (by omega) (Or.inr (Nat.le_refl _))).2 (q8 (T 2 i) (by omega) (Or.inr (Nat.le_of_lt hj9))).1 (q8 (T 2 i) (by omega) (Or.inr (Nat.le_of_lt hj9))).2 q5 q6 q7)
                      exact pe_iret hx hb hr hlocks hK hP hD hS d_NRunner_workOut_78 ⟨⟨mo2, lo_255, e256⟩, (by rw [hev]; exact congrArg (fun z : Nat × List Int => nI z.1) (evs_no (ev1_t vr (by decide) (by decide) b257) b257).symm), (fun z => absurd ((congrArg (fun z : Nat × List Int => z.1) (hev.trans (evs_no (ev1_t vr (by decide) (by decide) b257) b257))).symm.trans z) b257), (hFW.tr (FW_fk hL t_X t_pr hi72 hFK9)), (TPN_fk hL t_X t_pr hi72 hFK9 (by rw [hkd9, h39]; exact eK8) (fun z => absurd (hkd9.symm.trans z) (by decide)) hTPi), hI1_253, hu⟩
                  · skip
                    replace b246 := mt (nI_eq (a := 0) (b := 0) (by omega) (by omega)).mpr b246
                    exfalso; omega
              · skip
                replace b244 := (nI_eq (a := 7) (b := 1) (by omega) (by omega)).mp b244
                exfalso; omega
            · skip
              obtain ⟨r9, hst9⟩ := hz2 (by decide) (by decide)
              subst hst9
              obtain ⟨y9, V8, Y9, S8, hV8, hS8, hk89, hLy9, hiy9, hKy9, hR8⟩ := hVS
              obtain ⟨x9, V9, X9, S9, hV9, hS9, hj9, hL9, hi9, hK9, hR9⟩ := hR8
              subst hV9
              subst hV8
              subst hS9
              subst hS8
              rw [hkd9, h39] at eN9
              have eN8 := eN9
              obtain ⟨hsl9, hsr9⟩ := hs2 (by decide) h39
              skip
              obtain ⟨kl9, l19, l29, mx9, eL9, hv19, -, ht19⟩ := (by rw [hsl9] at hL9; exact hL9 : VL g f2 pr 1 (T 1 i) x9)
              obtain ⟨hvx9, h6x9⟩ := hv19 rfl
              obtain ⟨kr9, r19, r29, my9, eR9, hv29, -, ht29⟩ := (by rw [hsr9] at hLy9; exact hLy9 : VL g f2 pr 1 (T 2 i) y9)
              obtain ⟨hvy9, h6y9⟩ := hv29 rfl
              have hot9 := otr_3 6 x9 y9
              refine lv_aload_n hx hb d_NRunner_workOut_13 rfl (lv_at hl 1 rfl) ?_
              refine pf_get (v := .ref pr) (C := "BigRunner$Runner") (T := FT8) (N := 13) hx hb (hw8 hB _) (fun _ h9 => h9) hown hK hP (lo_in hL t_X (by decide)) e6 rfl 0 (by decide) (wd_330 hB _) rfl d_NRunner_workOut_14 ?_
              obtain ⟨sc_259, nc_260, e258, c261, c262⟩ := oc_7.of t_pr (hI7.1 pr)
              refine pf_get (v := .ref (g.lk pr 2)) (C := "BigRunner$Program") (T := FT6) (N := 6) hx hb (hw6 hB _) (fun _ h9 => h9) hown hK hP (lo_in hL t_pr (by decide)) e258 rfl 2 (by decide) (wd_249 hB _) rfl d_NRunner_workOut_17 ?_
              refine lv_iload_n hx hb d_NRunner_workOut_20 rfl (lv_at hl 0 rfl) ?_
              have e263 := oc_25.of (lo_k7_2 hL _ t_pr) (hI7.1 (g.lk pr 2))
              refine pf_aald (i := i) hx hb hK hP (lo_in hL (lo_k7_2 hL _ t_pr) (by decide)) e263 (lo_t25 hL _ (lo_k7_2 hL _ t_pr)) (by omega) (by decide) d_NRunner_workOut_21 ?_
              have t264 := lo_e25 hL _ (lo_k7_2 hL _ t_pr) i (by omega)
              refine lv_astore_n (lv' := [(3, .ref (g.lk (g.lk pr 2) i)), (2, .int (nI i)), (0, .ref X), (1, .ref (g.lk (g.lk pr 0) s9))]) hx hb d_NRunner_workOut_22 rfl hl (by decide) rfl (fun ls hl => ?_)
              refine lv_iconst (v := nI 0) hx hb d_NRunner_workOut_23 (by decide) ?_
              refine lv_istore (lv' := [(4, .int (nI 0)), (3, .ref (g.lk (g.lk pr 2) i)), (2, .int (nI i)), (0, .ref X), (1, .ref (g.lk (g.lk pr 0) s9))]) hx hb d_NRunner_workOut_24 hl (by decide) rfl (fun ls hl => ?_)
              refine lv_aload_n hx hb d_NRunner_workOut_26 rfl (lv_at hl 1 rfl) ?_
              refine pf_get (v := .int (nI 7)) (C := "BigRunner$Node") (T := FT5) (N := 7) hx hb (hw5 hB _) (fun _ h9 => h9) hown hK hP (lo_in hL t264 (by decide)) eN8 rfl 0 (by decide) (wd_204 hB _) rfl d_NRunner_workOut_27 ?_
              refine lv_iconst (v := nI 1) hx hb d_NRunner_workOut_30 (by decide) ?_
              refine lv_icmp_ne (tgt := 42) hx hb d_NRunner_workOut_31 (by decide) (fun b265 => ?_) (fun b265 => ?_)
              · skip
                replace b265 := mt (nI_eq (a := 7) (b := 1) (by omega) (by omega)).mpr b265
                refine lv_aload_n hx hb d_NRunner_workOut_42 rfl (lv_at hl 1 rfl) ?_
                refine pf_get (v := .int (nI 7)) (C := "BigRunner$Node") (T := FT5) (N := 7) hx hb (hw5 hB _) (fun _ h9 => h9) hown hK hP (lo_in hL t264 (by decide)) eN8 rfl 0 (by decide) (wd_204 hB _) rfl d_NRunner_workOut_43 ?_
                refine lv_if_eq (tgt := 71) hx hb d_NRunner_workOut_46 (by decide) (fun b266 => ?_) (fun b266 => ?_)
                · skip
                  replace b266 := (nI_eq (a := 7) (b := 0) (by omega) (by omega)).mp b266
                  exfalso; omega
                · skip
                  replace b266 := mt (nI_eq (a := 7) (b := 0) (by omega) (by omega)).mpr b266
                  refine lv_aload_n hx hb d_NRunner_workOut_49 rfl (lv_at hl 1 rfl) ?_
                  refine pf_get (v := .int (nI 1)) (C := "BigRunner$Node") (T := FT5) (N := 7) hx hb (hw5 hB _) (fun _ h9 => h9) hown hK hP (lo_in hL t264 (by decide)) eN8 rfl 4 (by decide) (wd_218 hB _) rfl d_NRunner_workOut_50 ?_
                  refine lv_if_eq (tgt := 64) hx hb d_NRunner_workOut_53 (by decide) (fun b267 => ?_) (fun b267 => ?_)
                  · skip
                    replace b267 := (nI_eq (a := 1) (b := 0) (by omega) (by omega)).mp b267
                    exfalso; omega
                  · skip
                    replace b267 := mt (nI_eq (a := 1) (b := 0) (by omega) (by omega)).mpr b267
                    refine lv_aload_n hx hb d_NRunner_workOut_56 rfl (lv_at hl 3 rfl) ?_
                    refine lv_aload_n hx hb d_NRunner_workOut_57 rfl (lv_at hl 1 rfl) ?_
                    have eK8 : f2 (g.lk (g.lk pr 2) i) = .inr (5, [.int (nI (km 6)), .int (nI (T 1 i)), .int (nI (T 2 i)), .ref (g.lk (g.lk (g.lk pr 2) i) 3), .int (nI 1), .long mv9, .ref (g.lk (g.lk (g.lk pr 2) i) 6)]) := eN8
                    refine pcc_i (va_runV (C := "BigRunner$Runner") (As := [.ref (g.lk (g.lk pr 2) i)]) (rest := []) ⟨hx, hb, hml, hown, tb_nil⟩ (v_operate l g H.size f2 X pr ix os st mo2 lo2 tr i 6 ((T 1 i)) ((T 2 i)) mv9 kl9 l19 l29 mx9 kr9 r19 r29 my9 x9 y9 hL t_X t_pr hI7 e6 (by omega) (by omega) (by omega) (by omega) eK8 eL9 eR9 (by omega) (by omega) (by omega) (by omega) (by omega) hvx9 hvy9 h6x9 h6y9 (fun z9 => ivin_60 (ovl_in (w := 6) (a := a9) (by decide) (by decide) hi9 (fun _ => hiy9) z9) (hsb h39) (iK_ivn hK9 hKy9 (fun q => absurd q (by decide))))) ⟨(callB_of 1 (tb_one (wd_753 hB _)) tb_good1 rfl rfl rfl (wd_79 hB _) (wd_750 hB _) (by decide +kernel) ⟨Nat.le_of_ble_eq_true rfl, Nat.le_of_ble_eq_true rfl⟩), (wd_752 hB _), (wd_28 hB _)⟩ ⟨pe_bl, pg_recv (ci := 8) hK hP (lo_in hL t_X (by decide)) e6 rfl, pe_pre hB hK hP hD⟩ rfl rfl hl.1 rfl (lv_room (Nat.le_of_ble_eq_true rfl)) d_NRunner_workOut_58 ⟨Nat.le_of_ble_eq_true rfl, Nat.le_of_ble_eq_true rfl⟩) hS (fun r268 f269 H locs hq270 hP hD hS => ?_)
                    obtain ⟨x1_271, q9_272, nv_273, hI1_274, hk1_275⟩ := hq270
                    subst q9_272
                    have hu := hu.st2 hk1_275 t_X t264 (by decide) (by decide)
                    have hv8 := hv8.st2 hk1_275 t_X t264 (by decide) (by decide)
                    have eS := (hk1_275 (g.lk (g.lk pr 0) s9) (tg_ne (lo_e24 hL _ (lo_k7_0 hL _ t_pr) s9 hs36) t_X (by decide)) (tg_ne (lo_e24 hL _ (lo_k7_0 hL _ t_pr) s9 hs36) t264 (by decide))).trans eS
                    have eL9 := (hk1_275 (g.lk (g.lk pr 2) (T 1 i)) (tg_ne (lo_e25 hL _ (lo_k7_2 hL _ t_pr) _ (by omega)) t_X (by decide)) (tn_ne (lo_n25 hL _ (lo_k7_2 hL _ t_pr) _ (by omega)) (lo_n25 hL _ (lo_k7_2 hL _ t_pr) _ (by omega)) (by omega))).trans eL9
                    have eR9 := (hk1_275 (g.lk (g.lk pr 2) (T 2 i)) (tg_ne (lo_e25 hL _ (lo_k7_2 hL _ t_pr) _ (by omega)) t_X (by decide)) (tn_ne (lo_n25 hL _ (lo_k7_2 hL _ t_pr) _ (by omega)) (lo_n25 hL _ (lo_k7_2 hL _ t_pr) _ (by omega)) (by omega))).trans eR9
                    have e258 := (hk1_275 pr (tg_ne t_pr t_X (by decide)) (tg_ne t_pr t264 (by decide))).trans e258
                    have e263 := (hk1_275 (g.lk pr 2) (tg_ne (lo_k7_2 hL _ t_pr) t_X (by decide)) (tg_ne (lo_k7_2 hL _ t_pr) t264 (by decide))).trans e263
                    obtain ⟨mo_276, e277⟩ := x1_271
                    obtain ⟨mv_278, e279, hnv280⟩ := nv_273
                    refine lv_goto (tgt := 69) hx hb d_NRunner_workOut_61 (by decide) ?_
                    refine lv_istore (lv' := [(4, .int (nI (otr 6 x9 y9))), (3, .ref (g.lk (g.lk pr 2) i)), (2, .int (nI i)), (0, .ref X), (1, .ref (g.lk (g.lk pr 0) s9))]) hx hb d_NRunner_workOut_69 hl (by decide) rfl (fun ls hl => ?_)
                    refine lv_iload hx hb d_NRunner_workOut_71 (lv_at hl 0 rfl) ?_
                    refine lv_if_eq (tgt := 79) hx hb d_NRunner_workOut_73 (by decide) (fun b281 => ?_) (fun b281 => ?_)
                    · skip
                      replace b281 := (nI_eq (a := otr 6 x9 y9) (b := 0) (by omega) (by omega)).mp b281
                      refine lv_iinc (k := 2) (v := nI (i + 1)) (lv' := [(2, .int (nI (i + 1))), (4, .int (nI (otr 6 x9 y9))), (3, .ref (g.lk (g.lk pr 2) i)), (0, .ref X), (1, .ref (g.lk (g.lk pr 0) s9))]) hx hb d_NRunner_workOut_79 hl rfl (by rw [nI_succ]; rfl) (by decide) rfl (fun ls hl => ?_)
                      refine lv_goto (tgt := 5) hx hb d_NRunner_workOut_82 (by decide) ?_
                      have hFK9 : FK g f2 f269 X pr T (T 1 i) i := (fun b q1 q2 q3 q4 q5 q6 q7 q8 => hk1_275 b q1 q2)
                      have hFW9 := FW_fk hL t_X t_pr hi72 hFK9
                      have hot0 : otr 6 x9 y9 = 0 := by omega
                      have hl : lv_has ls 5 [(2, .int (nI (i + 1))), (0, .ref X), (1, .ref (g.lk (g.lk pr 0) s9))] := lv_sub hl [0, 3, 4] rfl
                      exact ih4 (i + 1) ((i :: r9)) ((ovl 6 x9 y9 :: V9)) ((xst en (Y9 :: X9 :: S9) 6 a9)) E9 mo_276 lo2 f269 H locs ls (by omega) (by omega) (by have z9 := hlen9; omega) hNR9 ⟨_, _, _, _, rfl, rfl, Nat.lt_succ_self i, (by rw [h39]; exact ⟨_, _, _, _, e279, fun _ => ⟨hnv280 hot0, ivin_60 (ovl_in (w := 6) (a := a9) (by decide) (by decide) hi9 (fun _ => hiy9) hot0) (hsb h39) (iK_ivn hK9 hKy9 (fun q => absurd q (by decide)))⟩, fun z => absurd z (by decide), (ovl_lt (by obtain ⟨_, _, _, _, _, _, _, z⟩ := hL9; exact z) hot0)⟩), (ovl_in (w := 6) (a := a9) (by decide) (by decide) hi9 (fun _ => hiy9) hot0), (iK_ivn hK9 hKy9 (fun q => absurd q (by decide))), VS_mono (by omega) (VS_fk hL t_X t_pr hi72 hFK9 (by omega) _ _ _ _ (Nat.le_refl _) hR9)⟩ (hev.trans (evs_ok (ev1_z vr (by decide) (by decide) hot0))) hxs hps (TPN_fk hL t_X t_pr hi72 hFK9 (by rw [hkd9, h39]; exact e279) (fun z => absurd (hkd9.symm.trans z) (by decide)) hTPi) (hFW.tr hFW9) (VARS_fw hL t_X hVi hFW9 (hFK9 _ (tg_ne (lo_k9_3 hL _ t_X) t_X (by decide)) (tg_ne (lo_k9_3 hL _ t_X) (lo_e25 hL _ (lo_k7_2 hL _ t_pr) i hi72) (by decide)) (tg_ne (lo_k9_3 hL _ t_X) (nw_5 hL t_pr hi72) (by decide)) (tg_ne (lo_k9_3 hL _ t_X) (nw_23 hL t_pr hi72) (by decide)) (tg_ne (lo_k9_3 hL _ t_X) (lo_k9_6 hL _ t_X) (by decide)) (tg_ne (lo_k9_3 hL _ t_X) (lo_k4_0 hL _ (lo_k9_6 hL _ t_X)) (by decide)) (tg_ne (lo_k9_3 hL _ t_X) (lo_k4_1 hL _ (lo_k9_6 hL _ t_X)) (by decide)) (fun j9 hj9 _ => ⟨tg_ne (lo_k9_3 hL _ t_X) (nw_5 hL t_pr (by omega)) (by decide), tg_ne (lo_k9_3 hL _ t_X) (nw_23 hL t_pr (by omega)) (by decide)⟩))) e277 hI1_274 hv8 hl hP hD hS
                    · skip
                      replace b281 := mt (nI_eq (a := otr 6 x9 y9) (b := 0) (by omega) (by omega)).mpr b281
                      refine lv_iload hx hb d_NRunner_workOut_76 (lv_at hl 0 rfl) ?_
                      have hFK9 : FK g f2 f269 X pr T (T 1 i) i := (fun b q1 q2 q3 q4 q5 q6 q7 q8 => hk1_275 b q1 q2)
                      exact pe_iret hx hb hr hlocks hK hP hD hS d_NRunner_workOut_78 ⟨⟨mo_276, lo2, e277⟩, (by rw [hev]; exact congrArg (fun z : Nat × List Int => nI z.1) (evs_no (ev1_t vr (by decide) (by decide) b281) b281).symm), (fun z => absurd ((congrArg (fun z : Nat × List Int => z.1) (hev.trans (evs_no (ev1_t vr (by decide) (by decide) b281) b281))).symm.trans z) b281), (hFW.tr (FW_fk hL t_X t_pr hi72 hFK9)), (TPN_fk hL t_X t_pr hi72 hFK9 (by rw [hkd9, h39]; exact e279) (fun z => absurd (hkd9.symm.trans z) (by decide)) hTPi), hI1_274, hu⟩
              · skip
                replace b265 := (nI_eq (a := 7) (b := 1) (by omega) (by omega)).mp b265
                exfalso; omega
          · skip
            have hkd9 : T 0 i = 2 := hk9
            rcases hb4 with h39 | h39
            · skip
              obtain ⟨r9, hst9, hT29⟩ := hz7 rfl
              subst hst9
              obtain ⟨v9, V9, X9, S9, hV9, hS9, hj9, hL9, hi9, hK9, hR9⟩ := hVS
              subst hV9
              subst hS9
              rw [hkd9, h39, hT29] at eN9
              have eN8 := eN9
              refine lv_aload_n hx hb d_NRunner_workOut_13 rfl (lv_at hl 1 rfl) ?_
              refine pf_get (v := .ref pr) (C := "BigRunner$Runner") (T := FT8) (N := 13) hx hb (hw8 hB _) (fun _ h9 => h9) hown hK hP (lo_in hL t_X (by decide)) e6 rfl 0 (by decide) (wd_330 hB _) rfl d_NRunner_workOut_14 ?_
              obtain ⟨sc_283, nc_284, e282, c285, c286⟩ := oc_7.of t_pr (hI7.1 pr)
              refine pf_get (v := .ref (g.lk pr 2)) (C := "BigRunner$Program") (T := FT6) (N := 6) hx hb (hw6 hB _) (fun _ h9 => h9) hown hK hP (lo_in hL t_pr (by decide)) e282 rfl 2 (by decide) (wd_249 hB _) rfl d_NRunner_workOut_17 ?_
              refine lv_iload_n hx hb d_NRunner_workOut_20 rfl (lv_at hl 0 rfl) ?_
              have e287 := oc_25.of (lo_k7_2 hL _ t_pr) (hI7.1 (g.lk pr 2))
              refine pf_aald (i := i) hx hb hK hP (lo_in hL (lo_k7_2 hL _ t_pr) (by decide)) e287 (lo_t25 hL _ (lo_k7_2 hL _ t_pr)) (by omega) (by decide) d_NRunner_workOut_21 ?_
              have t288 := lo_e25 hL _ (lo_k7_2 hL _ t_pr) i (by omega)
              refine lv_astore_n (lv' := [(3, .ref (g.lk (g.lk pr 2) i)), (2, .int (nI i)), (0, .ref X), (1, .ref (g.lk (g.lk pr 0) s9))]) hx hb d_NRunner_workOut_22 rfl hl (by decide) rfl (fun ls hl => ?_)
              refine lv_iconst (v := nI 0) hx hb d_NRunner_workOut_23 (by decide) ?_
              refine lv_istore (lv' := [(4, .int (nI 0)), (3, .ref (g.lk (g.lk pr 2) i)), (2, .int (nI i)), (0, .ref X), (1, .ref (g.lk (g.lk pr 0) s9))]) hx hb d_NRunner_workOut_24 hl (by decide) rfl (fun ls hl => ?_)
              refine lv_aload_n hx hb d_NRunner_workOut_26 rfl (lv_at hl 1 rfl) ?_
              refine pf_get (v := .int (nI 2)) (C := "BigRunner$Node") (T := FT5) (N := 7) hx hb (hw5 hB _) (fun _ h9 => h9) hown hK hP (lo_in hL t288 (by decide)) eN8 rfl 0 (by decide) (wd_204 hB _) rfl d_NRunner_workOut_27 ?_
              refine lv_iconst (v := nI 1) hx hb d_NRunner_workOut_30 (by decide) ?_
              refine lv_icmp_ne (tgt := 42) hx hb d_NRunner_workOut_31 (by decide) (fun b289 => ?_) (fun b289 => ?_)
              · skip
                replace b289 := mt (nI_eq (a := 2) (b := 1) (by omega) (by omega)).mpr b289
                refine lv_aload_n hx hb d_NRunner_workOut_42 rfl (lv_at hl 1 rfl) ?_
                refine pf_get (v := .int (nI 2)) (C := "BigRunner$Node") (T := FT5) (N := 7) hx hb (hw5 hB _) (fun _ h9 => h9) hown hK hP (lo_in hL t288 (by decide)) eN8 rfl 0 (by decide) (wd_204 hB _) rfl d_NRunner_workOut_43 ?_
                refine lv_if_eq (tgt := 71) hx hb d_NRunner_workOut_46 (by decide) (fun b290 => ?_) (fun b290 => ?_)
                · skip
                  replace b290 := (nI_eq (a := 2) (b := 0) (by omega) (by omega)).mp b290
                  exfalso; omega
                · skip
                  replace b290 := mt (nI_eq (a := 2) (b := 0) (by omega) (by omega)).mpr b290
                  refine lv_aload_n hx hb d_NRunner_workOut_49 rfl (lv_at hl 1 rfl) ?_
                  refine pf_get (v := .int (nI 0)) (C := "BigRunner$Node") (T := FT5) (N := 7) hx hb (hw5 hB _) (fun _ h9 => h9) hown hK hP (lo_in hL t288 (by decide)) eN8 rfl 4 (by decide) (wd_218 hB _) rfl d_NRunner_workOut_50 ?_
                  refine lv_if_eq (tgt := 64) hx hb d_NRunner_workOut_53 (by decide) (fun b291 => ?_) (fun b291 => ?_)
                  · skip
                    replace b291 := (nI_eq (a := 0) (b := 0) (by omega) (by omega)).mp b291
                    refine lv_aload_n hx hb d_NRunner_workOut_64 rfl (lv_at hl 3 rfl) ?_
                    refine lv_aload_n hx hb d_NRunner_workOut_65 rfl (lv_at hl 1 rfl) ?_
                    refine pcc_i (va_runV (C := "BigRunner$Runner") (As := [.ref (g.lk (g.lk pr 2) i)]) (rest := []) ⟨hx, hb, hml, hown, tb_nil⟩ (v_opLneg l g H.size f2 X pr ix os st mo2 lo2 tr i ((T 1 i)) mv9 ((T 3 (T 1 i))) v9 hL t_X t_pr hI7 e6 (by omega) (by omega) (by omega) (by omega) eN8 hL9 (by omega) (by omega) ((hTB.1 (T 1 i) (by omega)).2.2.2.2)) ⟨(callB_of 1 (tb_one (wd_757 hB _)) tb_good1 rfl rfl rfl (wd_79 hB _) (wd_754 hB _) (by decide +kernel) ⟨Nat.le_of_ble_eq_true rfl, Nat.le_of_ble_eq_true rfl⟩), (wd_756 hB _), (wd_29 hB _)⟩ ⟨pe_bl, pg_recv (ci := 8) hK hP (lo_in hL t_X (by decide)) e6 rfl, pe_pre hB hK hP hD⟩ rfl rfl hl.1 rfl (lv_room (Nat.le_of_ble_eq_true rfl)) d_NRunner_workOut_66 ⟨Nat.le_of_ble_eq_true rfl, Nat.le_of_ble_eq_true rfl⟩) hS (fun r292 f293 H locs hq294 hP hD hS => ?_)
                    obtain ⟨x1_295, q9_296, lv9_297, hI1_298, hk1_299⟩ := hq294
                    subst q9_296
                    have hu : un [4, 5, 6, 9, 22, 23] g f f293 := fun a9 ha9 => (hk1_299 a9 (fun q9 => ha9 (by rw [q9, t_X]; decide)) (fun q9 => ha9 (by rw [q9, (lo_k6_6 hL _ t288)]; decide)) (fun q9 => ha9 (by rw [q9, (lo_k5_2 hL _ (lo_k6_6 hL _ t288))]; decide)) (fun q9 => ha9 (by rw [q9, (lo_k6_6 hL _ (lo_e25 hL _ (lo_k7_2 hL _ t_pr) _ (by omega)))]; decide)) (fun q9 => ha9 (by rw [q9, (lo_k5_2 hL _ (lo_k6_6 hL _ (lo_e25 hL _ (lo_k7_2 hL _ t_pr) _ (by omega))))]; decide))).trans (hu a9 ha9)
                    have hv8 : un [4, 5, 6, 9, 22, 23] g f f293 := fun a9 ha9 => (hk1_299 a9 (fun q9 => ha9 (by rw [q9, t_X]; decide)) (fun q9 => ha9 (by rw [q9, (lo_k6_6 hL _ t288)]; decide)) (fun q9 => ha9 (by rw [q9, (lo_k5_2 hL _ (lo_k6_6 hL _ t288))]; decide)) (fun q9 => ha9 (by rw [q9, (lo_k6_6 hL _ (lo_e25 hL _ (lo_k7_2 hL _ t_pr) _ (by omega)))]; decide)) (fun q9 => ha9 (by rw [q9, (lo_k5_2 hL _ (lo_k6_6 hL _ (lo_e25 hL _ (lo_k7_2 hL _ t_pr) _ (by omega))))]; decide))).trans (hv8 a9 ha9)
                    have eS := (hk1_299 (g.lk (g.lk pr 0) s9) (tg_ne (lo_e24 hL _ (lo_k7_0 hL _ t_pr) s9 hs36) t_X (by decide)) (tg_ne (lo_e24 hL _ (lo_k7_0 hL _ t_pr) s9 hs36) (lo_k6_6 hL _ t288) (by decide)) (tg_ne (lo_e24 hL _ (lo_k7_0 hL _ t_pr) s9 hs36) (lo_k5_2 hL _ (lo_k6_6 hL _ t288)) (by decide)) (tg_ne (lo_e24 hL _ (lo_k7_0 hL _ t_pr) s9 hs36) (lo_k6_6 hL _ (lo_e25 hL _ (lo_k7_2 hL _ t_pr) _ (by omega))) (by decide)) (tg_ne (lo_e24 hL _ (lo_k7_0 hL _ t_pr) s9 hs36) (lo_k5_2 hL _ (lo_k6_6 hL _ (lo_e25 hL _ (lo_k7_2 hL _ t_pr) _ (by omega)))) (by decide))).trans eS
                    have eN8 := (hk1_299 (g.lk (g.lk pr 2) i) (tg_ne t288 t_X (by decide)) (tg_ne t288 (lo_k6_6 hL _ t288) (by decide)) (tg_ne t288 (lo_k5_2 hL _ (lo_k6_6 hL _ t288)) (by decide)) (tg_ne t288 (lo_k6_6 hL _ (lo_e25 hL _ (lo_k7_2 hL _ t_pr) _ (by omega))) (by decide)) (tg_ne t288 (lo_k5_2 hL _ (lo_k6_6 hL _ (lo_e25 hL _ (lo_k7_2 hL _ t_pr) _ (by omega)))) (by decide))).trans eN8
                    have e282 := (hk1_299 pr (tg_ne t_pr t_X (by decide)) (tg_ne t_pr (lo_k6_6 hL _ t288) (by decide)) (tg_ne t_pr (lo_k5_2 hL _ (lo_k6_6 hL _ t288)) (by decide)) (tg_ne t_pr (lo_k6_6 hL _ (lo_e25 hL _ (lo_k7_2 hL _ t_pr) _ (by omega))) (by decide)) (tg_ne t_pr (lo_k5_2 hL _ (lo_k6_6 hL _ (lo_e25 hL _ (lo_k7_2 hL _ t_pr) _ (by omega)))) (by decide))).trans e282
                    have e287 := (hk1_299 (g.lk pr 2) (tg_ne (lo_k7_2 hL _ t_pr) t_X (by decide)) (tg_ne (lo_k7_2 hL _ t_pr) (lo_k6_6 hL _ t288) (by decide)) (tg_ne (lo_k7_2 hL _ t_pr) (lo_k5_2 hL _ (lo_k6_6 hL _ t288)) (by decide)) (tg_ne (lo_k7_2 hL _ t_pr) (lo_k6_6 hL _ (lo_e25 hL _ (lo_k7_2 hL _ t_pr) _ (by omega))) (by decide)) (tg_ne (lo_k7_2 hL _ t_pr) (lo_k5_2 hL _ (lo_k6_6 hL _ (lo_e25 hL _ (lo_k7_2 hL _ t_pr) _ (by omega)))) (by decide))).trans e287
                    obtain ⟨lo_300, e301⟩ := x1_295
                    refine lv_istore (lv' := [(4, .int (nI (otr 7 v9 v9))), (3, .ref (g.lk (g.lk pr 2) i)), (2, .int (nI i)), (0, .ref X), (1, .ref (g.lk (g.lk pr 0) s9))]) hx hb d_NRunner_workOut_69 hl (by decide) rfl (fun ls hl => ?_)
                    refine lv_iload hx hb d_NRunner_workOut_71 (lv_at hl 0 rfl) ?_
                    refine lv_topi (fun z_ hz_ => ?_)
                    obtain rfl : z_ = nI 0 := hz_
                    refine lv_if_eq (tgt := 79) hx hb d_NRunner_workOut_73 (by decide) (fun b302 => ?_) (fun b302 => ?_)
                    · skip
                      replace b302 := (nI_eq (a := 0) (b := 0) (by omega) (by omega)).mp b302
                      refine lv_iinc (k := 2) (v := nI (i + 1)) (lv' := [(2, .int (nI (i + 1))), (4, .int (nI (otr 7 v9 v9))), (3, .ref (g.lk (g.lk pr 2) i)), (0, .ref X), (1, .ref (g.lk (g.lk pr 0) s9))]) hx hb d_NRunner_workOut_79 hl rfl (by rw [nI_succ]; rfl) (by decide) rfl (fun ls hl => ?_)
                      refine lv_goto (tgt := 5) hx hb d_NRunner_workOut_82 (by decide) ?_
                      have hFK9 : FK g f2 f293 X pr T (T 1 i) i := (fun b q1 q2 q3 q4 q5 q6 q7 q8 => hk1_299 b q1 q3 q4 (q8 (T 1 i) hj9 (Or.inr (Nat.le_refl _))).1 (q8 (T 1 i) hj9 (Or.inr (Nat.le_refl _))).2)
                      have hFW9 := FW_fk hL t_X t_pr hi72 hFK9
                      have hl : lv_has ls 5 [(2, .int (nI (i + 1))), (0, .ref X), (1, .ref (g.lk (g.lk pr 0) s9))] := lv_sub hl [0, 3, 4] rfl
                      exact ih4 (i + 1) ((i :: r9)) ((ovl 7 v9 v9 :: V9)) ((xst en (X9 :: S9) 7 a9)) E9 mo2 lo_300 f293 H locs ls (by omega) (by omega) (by have z9 := hlen9; omega) hNR9 ⟨_, _, _, _, rfl, rfl, Nat.lt_succ_self i, (by rw [h39]; exact ⟨_, _, _, _, eN8, fun z => absurd z (by decide), fun _ => lv9_297 (rfl : otr 7 v9 v9 = 0), (ovl_lt (by obtain ⟨_, _, _, _, _, _, _, z⟩ := hL9; exact z) (rfl : otr 7 v9 v9 = 0))⟩), (ovl_in (w := 7) (a := a9) (Y := zI) (by decide) (by decide) hi9 (fun q => absurd rfl q) (rfl : otr 7 v9 v9 = 0)), (iK_ivn hK9 iK_z (fun q => absurd q (by decide))), VS_mono (by omega) (VS_fk hL t_X t_pr hi72 hFK9 (by omega) _ _ _ _ (Nat.le_refl _) hR9)⟩ (hev.trans (evs_ok (ev1_7 vr a9 v9 V9))) hxs hps (TPN_fk hL t_X t_pr hi72 hFK9 (by rw [hkd9, h39, hT29]; exact eN8) (fun z => absurd (hkd9.symm.trans z) (by decide)) hTPi) (hFW.tr hFW9) (VARS_fw hL t_X hVi hFW9 (hFK9 _ (tg_ne (lo_k9_3 hL _ t_X) t_X (by decide)) (tg_ne (lo_k9_3 hL _ t_X) (lo_e25 hL _ (lo_k7_2 hL _ t_pr) i hi72) (by decide)) (tg_ne (lo_k9_3 hL _ t_X) (nw_5 hL t_pr hi72) (by decide)) (tg_ne (lo_k9_3 hL _ t_X) (nw_23 hL t_pr hi72) (by decide)) (tg_ne (lo_k9_3 hL _ t_X) (lo_k9_6 hL _ t_X) (by decide)) (tg_ne (lo_k9_3 hL _ t_X) (lo_k4_0 hL _ (lo_k9_6 hL _ t_X)) (by decide)) (tg_ne (lo_k9_3 hL _ t_X) (lo_k4_1 hL _ (lo_k9_6 hL _ t_X)) (by decide)) (fun j9 hj9 _ => ⟨tg_ne (lo_k9_3 hL _ t_X) (nw_5 hL t_pr (by omega)) (by decide), tg_ne (lo_k9_3 hL _ t_X) (nw_23 hL t_pr (by omega)) (by decide)⟩))) e301 hI1_298 hv8 hl hP hD hS
                    · skip
                      replace b302 := mt (nI_eq (a := 0) (b := 0) (by omega) (by omega)).mpr b302
                      exfalso; omega
                  · skip
                    replace b291 := mt (nI_eq (a := 0) (b := 0) (by omega) (by omega)).mpr b291
                    exfalso; omega
              · skip
                replace b289 := (nI_eq (a := 2) (b := 1) (by omega) (by omega)).mp b289
                exfalso; omega
            · skip
              obtain ⟨r9, hst9, hT29⟩ := hz7 rfl
              subst hst9
              obtain ⟨v9, V9, X9, S9, hV9, hS9, hj9, hL9, hi9, hK9, hR9⟩ := hVS
              subst hV9
              subst hS9
              rw [hkd9, h39, hT29] at eN9
              have eN8 := eN9
              obtain ⟨hsl9, hsr9⟩ := hs2 (by decide) h39
              skip
              obtain ⟨kl9, l19, l29, mx9, eL9, hv19, -, ht19⟩ := (by rw [hsl9] at hL9; exact hL9 : VL g f2 pr 1 (T 1 i) v9)
              obtain ⟨hvx9, h6x9⟩ := hv19 rfl
              refine lv_aload_n hx hb d_NRunner_workOut_13 rfl (lv_at hl 1 rfl) ?_
              refine pf_get (v := .ref pr) (C := "BigRunner$Runner") (T := FT8) (N := 13) hx hb (hw8 hB _) (fun _ h9 => h9) hown hK hP (lo_in hL t_X (by decide)) e6 rfl 0 (by decide) (wd_330 hB _) rfl d_NRunner_workOut_14 ?_
              obtain ⟨sc_304, nc_305, e303, c306, c307⟩ := oc_7.of t_pr (hI7.1 pr)
              refine pf_get (v := .ref (g.lk pr 2)) (C := "BigRunner$Program") (T := FT6) (N := 6) hx hb (hw6 hB _) (fun _ h9 => h9) hown hK hP (lo_in hL t_pr (by decide)) e303 rfl 2 (by decide) (wd_249 hB _) rfl d_NRunner_workOut_17 ?_
              refine lv_iload_n hx hb d_NRunner_workOut_20 rfl (lv_at hl 0 rfl) ?_
              have e308 := oc_25.of (lo_k7_2 hL _ t_pr) (hI7.1 (g.lk pr 2))
              refine pf_aald (i := i) hx hb hK hP (lo_in hL (lo_k7_2 hL _ t_pr) (by decide)) e308 (lo_t25 hL _ (lo_k7_2 hL _ t_pr)) (by omega) (by decide) d_NRunner_workOut_21 ?_
              have t309 := lo_e25 hL _ (lo_k7_2 hL _ t_pr) i (by omega)
              refine lv_astore_n (lv' := [(3, .ref (g.lk (g.lk pr 2) i)), (2, .int (nI i)), (0, .ref X), (1, .ref (g.lk (g.lk pr 0) s9))]) hx hb d_NRunner_workOut_22 rfl hl (by decide) rfl (fun ls hl => ?_)
              refine lv_iconst (v := nI 0) hx hb d_NRunner_workOut_23 (by decide) ?_
              refine lv_istore (lv' := [(4, .int (nI 0)), (3, .ref (g.lk (g.lk pr 2) i)), (2, .int (nI i)), (0, .ref X), (1, .ref (g.lk (g.lk pr 0) s9))]) hx hb d_NRunner_workOut_24 hl (by decide) rfl (fun ls hl => ?_)
              refine lv_aload_n hx hb d_NRunner_workOut_26 rfl (lv_at hl 1 rfl) ?_
              refine pf_get (v := .int (nI 2)) (C := "BigRunner$Node") (T := FT5) (N := 7) hx hb (hw5 hB _) (fun _ h9 => h9) hown hK hP (lo_in hL t309 (by decide)) eN8 rfl 0 (by decide) (wd_204 hB _) rfl d_NRunner_workOut_27 ?_
              refine lv_iconst (v := nI 1) hx hb d_NRunner_workOut_30 (by decide) ?_
              refine lv_icmp_ne (tgt := 42) hx hb d_NRunner_workOut_31 (by decide) (fun b310 => ?_) (fun b310 => ?_)
              · skip
                replace b310 := mt (nI_eq (a := 2) (b := 1) (by omega) (by omega)).mpr b310
                refine lv_aload_n hx hb d_NRunner_workOut_42 rfl (lv_at hl 1 rfl) ?_
                refine pf_get (v := .int (nI 2)) (C := "BigRunner$Node") (T := FT5) (N := 7) hx hb (hw5 hB _) (fun _ h9 => h9) hown hK hP (lo_in hL t309 (by decide)) eN8 rfl 0 (by decide) (wd_204 hB _) rfl d_NRunner_workOut_43 ?_
                refine lv_if_eq (tgt := 71) hx hb d_NRunner_workOut_46 (by decide) (fun b311 => ?_) (fun b311 => ?_)
                · skip
                  replace b311 := (nI_eq (a := 2) (b := 0) (by omega) (by omega)).mp b311
                  exfalso; omega
                · skip
                  replace b311 := mt (nI_eq (a := 2) (b := 0) (by omega) (by omega)).mpr b311
                  refine lv_aload_n hx hb d_NRunner_workOut_49 rfl (lv_at hl 1 rfl) ?_
                  refine pf_get (v := .int (nI 1)) (C := "BigRunner$Node") (T := FT5) (N := 7) hx hb (hw5 hB _) (fun _ h9 => h9) hown hK hP (lo_in hL t309 (by decide)) eN8 rfl 4 (by decide) (wd_218 hB _) rfl d_NRunner_workOut_50 ?_
                  refine lv_if_eq (tgt := 64) hx hb d_NRunner_workOut_53 (by decide) (fun b312 => ?_) (fun b312 => ?_)
                  · skip
                    replace b312 := (nI_eq (a := 1) (b := 0) (by omega) (by omega)).mp b312
                    exfalso; omega
                  · skip
                    replace b312 := mt (nI_eq (a := 1) (b := 0) (by omega) (by omega)).mpr b312
                    refine lv_aload_n hx hb d_NRunner_workOut_56 rfl (lv_at hl 3 rfl) ?_
                    refine lv_aload_n hx hb d_NRunner_workOut_57 rfl (lv_at hl 1 rfl) ?_
                    have eK8 : f2 (g.lk (g.lk pr 2) i) = .inr (5, [.int (nI (km 7)), .int (nI (T 1 i)), .int (nI (T 1 i)), .ref (g.lk (g.lk (g.lk pr 2) i) 3), .int (nI 1), .long mv9, .ref (g.lk (g.lk (g.lk pr 2) i) 6)]) := eN8
                    refine pcc_i (va_runV (C := "BigRunner$Runner") (As := [.ref (g.lk (g.lk pr 2) i)]) (rest := []) ⟨hx, hb, hml, hown, tb_nil⟩ (v_operate l g H.size f2 X pr ix os st mo2 lo2 tr i 7 ((T 1 i)) ((T 1 i)) mv9 kl9 l19 l29 mx9 kl9 l19 l29 mx9 v9 v9 hL t_X t_pr hI7 e6 (by omega) (by omega) (by omega) (by omega) eK8 eL9 eL9 (by omega) (by omega) (by omega) (by omega) (by omega) hvx9 hvx9 h6x9 h6x9 (fun z9 => ivin_60 (ovl_in (w := 7) (a := a9) (Y := zI) (by decide) (by decide) hi9 (fun q => absurd rfl q) z9) (hsb h39) (iK_ivn hK9 iK_z (fun q => absurd q (by decide))))) ⟨(callB_of 1 (tb_one (wd_753 hB _)) tb_good1 rfl rfl rfl (wd_79 hB _) (wd_750 hB _) (by decide +kernel) ⟨Nat.le_of_ble_eq_true rfl, Nat.le_of_ble_eq_true rfl⟩), (wd_752 hB _), (wd_28 hB _)⟩ ⟨pe_bl, pg_recv (ci := 8) hK hP (lo_in hL t_X (by decide)) e6 rfl, pe_pre hB hK hP hD⟩ rfl rfl hl.1 rfl (lv_room (Nat.le_of_ble_eq_true rfl)) d_NRunner_workOut_58 ⟨Nat.le_of_ble_eq_true rfl, Nat.le_of_ble_eq_true rfl⟩) hS (fun r313 f314 H locs hq315 hP hD hS => ?_)
                    obtain ⟨x1_316, q9_317, nv_318, hI1_319, hk1_320⟩ := hq315
                    subst q9_317
                    have hu := hu.st2 hk1_320 t_X t309 (by decide) (by decide)
                    have hv8 := hv8.st2 hk1_320 t_X t309 (by decide) (by decide)
                    have eS := (hk1_320 (g.lk (g.lk pr 0) s9) (tg_ne (lo_e24 hL _ (lo_k7_0 hL _ t_pr) s9 hs36) t_X (by decide)) (tg_ne (lo_e24 hL _ (lo_k7_0 hL _ t_pr) s9 hs36) t309 (by decide))).trans eS
                    have eL9 := (hk1_320 (g.lk (g.lk pr 2) (T 1 i)) (tg_ne (lo_e25 hL _ (lo_k7_2 hL _ t_pr) _ (by omega)) t_X (by decide)) (tn_ne (lo_n25 hL _ (lo_k7_2 hL _ t_pr) _ (by omega)) (lo_n25 hL _ (lo_k7_2 hL _ t_pr) _ (by omega)) (by omega))).trans eL9
                    have e303 := (hk1_320 pr (tg_ne t_pr t_X (by decide)) (tg_ne t_pr t309 (by decide))).trans e303
                    have e308 := (hk1_320 (g.lk pr 2) (tg_ne (lo_k7_2 hL _ t_pr) t_X (by decide)) (tg_ne (lo_k7_2 hL _ t_pr) t309 (by decide))).trans e308
                    obtain ⟨mo_321, e322⟩ := x1_316
                    obtain ⟨mv_323, e324, hnv325⟩ := nv_318
                    refine lv_goto (tgt := 69) hx hb d_NRunner_workOut_61 (by decide) ?_
                    refine lv_istore (lv' := [(4, .int (nI (otr 7 v9 v9))), (3, .ref (g.lk (g.lk pr 2) i)), (2, .int (nI i)), (0, .ref X), (1, .ref (g.lk (g.lk pr 0) s9))]) hx hb d_NRunner_workOut_69 hl (by decide) rfl (fun ls hl => ?_)
                    refine lv_iload hx hb d_NRunner_workOut_71 (lv_at hl 0 rfl) ?_
                    refine lv_topi (fun z_ hz_ => ?_)
                    obtain rfl : z_ = nI 0 := hz_
                    refine lv_if_eq (tgt := 79) hx hb d_NRunner_workOut_73 (by decide) (fun b326 => ?_) (fun b326 => ?_)
                    · skip
                      replace b326 := (nI_eq (a := 0) (b := 0) (by omega) (by omega)).mp b326
                      refine lv_iinc (k := 2) (v := nI (i + 1)) (lv' := [(2, .int (nI (i + 1))), (4, .int (nI (otr 7 v9 v9))), (3, .ref (g.lk (g.lk pr 2) i)), (0, .ref X), (1, .ref (g.lk (g.lk pr 0) s9))]) hx hb d_NRunner_workOut_79 hl rfl (by rw [nI_succ]; rfl) (by decide) rfl (fun ls hl => ?_)
                      refine lv_goto (tgt := 5) hx hb d_NRunner_workOut_82 (by decide) ?_
                      have hFK9 : FK g f2 f314 X pr T (T 1 i) i := (fun b q1 q2 q3 q4 q5 q6 q7 q8 => hk1_320 b q1 q2)
                      have hFW9 := FW_fk hL t_X t_pr hi72 hFK9
                      have hl : lv_has ls 5 [(2, .int (nI (i + 1))), (0, .ref X), (1, .ref (g.lk (g.lk pr 0) s9))] := lv_sub hl [0, 3, 4] rfl
                      exact ih4 (i + 1) ((i :: r9)) ((ovl 7 v9 v9 :: V9)) ((xst en (X9 :: S9) 7 a9)) E9 mo_321 lo2 f314 H locs ls (by omega) (by omega) (by have z9 := hlen9; omega) hNR9 ⟨_, _, _, _, rfl, rfl, Nat.lt_succ_self i, (by rw [h39]; exact ⟨_, _, _, _, e324, fun _ => ⟨hnv325 (rfl : otr 7 v9 v9 = 0), ivin_60 (ovl_in (w := 7) (a := a9) (Y := zI) (by decide) (by decide) hi9 (fun q => absurd rfl q) (rfl : otr 7 v9 v9 = 0)) (hsb h39) (iK_ivn hK9 iK_z (fun q => absurd q (by decide)))⟩, fun z => absurd z (by decide), (ovl_lt (by obtain ⟨_, _, _, _, _, _, _, z⟩ := hL9; exact z) (rfl : otr 7 v9 v9 = 0))⟩), (ovl_in (w := 7) (a := a9) (Y := zI) (by decide) (by decide) hi9 (fun q => absurd rfl q) (rfl : otr 7 v9 v9 = 0)), (iK_ivn hK9 iK_z (fun q => absurd q (by decide))), VS_mono (by omega) (VS_fk hL t_X t_pr hi72 hFK9 (by omega) _ _ _ _ (Nat.le_refl _) hR9)⟩ (hev.trans (evs_ok (ev1_7 vr a9 v9 V9))) hxs hps (TPN_fk hL t_X t_pr hi72 hFK9 (by rw [hkd9, h39, hT29]; exact e324) (fun z => absurd (hkd9.symm.trans z) (by decide)) hTPi) (hFW.tr hFW9) (VARS_fw hL t_X hVi hFW9 (hFK9 _ (tg_ne (lo_k9_3 hL _ t_X) t_X (by decide)) (tg_ne (lo_k9_3 hL _ t_X) (lo_e25 hL _ (lo_k7_2 hL _ t_pr) i hi72) (by decide)) (tg_ne (lo_k9_3 hL _ t_X) (nw_5 hL t_pr hi72) (by decide)) (tg_ne (lo_k9_3 hL _ t_X) (nw_23 hL t_pr hi72) (by decide)) (tg_ne (lo_k9_3 hL _ t_X) (lo_k9_6 hL _ t_X) (by decide)) (tg_ne (lo_k9_3 hL _ t_X) (lo_k4_0 hL _ (lo_k9_6 hL _ t_X)) (by decide)) (tg_ne (lo_k9_3 hL _ t_X) (lo_k4_1 hL _ (lo_k9_6 hL _ t_X)) (by decide)) (fun j9 hj9 _ => ⟨tg_ne (lo_k9_3 hL _ t_X) (nw_5 hL t_pr (by omega)) (by decide), tg_ne (lo_k9_3 hL _ t_X) (nw_23 hL t_pr (by omega)) (by decide)⟩))) e322 hI1_319 hv8 hl hP hD hS
                    · skip
                      replace b326 := mt (nI_eq (a := 0) (b := 0) (by omega) (by omega)).mpr b326
                      exfalso; omega
              · skip
                replace b310 := (nI_eq (a := 2) (b := 1) (by omega) (by omega)).mp b310
                exfalso; omega
  exact lp1 (la + 2) fn ([]) ([]) ([]) E mo lo f s.heap [] ls (by omega) ⟨Nat.le_refl _, by omega⟩ (by omega) hNR ⟨rfl, rfl⟩ rfl rfl rfl hTP FW.rf hV eX hI un.rf hl hP hD hS

