set_option maxHeartbeats 4000000 in
set_option maxRecDepth 100000 in
theorem c2_makeRound (l : Launch) (g : Lay) (sz : Nat) (f : Nat → va_E) (P : Nat) (wd : Bool) (sn : Nat) (nn : Nat) (L : List (Nat × Nat)) (nb : Nat → Nat) (en : Nat → IVL) (hL : LO g) (t_P : g.tg P = 7) (hI : IV g f) (eP : f P = .inr (6, [.ref (g.lk P 0), .int (nI sn), .ref (g.lk P 2), .int (nI nn), .ref (g.lk P 4), .ref (g.lk P 5)])) (hsn : sn ≤ 36) (hnn : nn ≤ 72) (hPRS : PRS g f P nb 0 0 0 [] L) (hren : ren 0 0 0 [] L = (sn, nn, nn, [])) (hW12 : ∀ x, x ∈ L → x.1 ≤ 12) (hL10 : ∀ x, x ∈ L → x.1 = 8 ∨ x.1 = 9 → x.2 < 10) (hEV : EV g f P en) (hIN : f (g.lk P 5) = .inr (2, [.long (cL inI.1), .long (cH inI.2)])) : Met l ⟨"BigRunner$Program", "makeRound", "(Z)Z"⟩ [Cond.code ⟨"BigRunner$Program", "makeRound", "(Z)Z"⟩ prog_7_method_3_code 5 (some .boolean)] ({ frames := 6, cells := 0, slots := 0, locals := 137 }) (va_Pc [.ref P, .int (bI wd)] (pc_in g sz f)) (va_Qi (fun r f1 => (r = bI (rnd wd en [] false L).2) ∧ (EV g f1 P (rnd wd en [] false L).1) ∧ (∀ b, (∀ j, j < 72 → b ≠ g.lk (g.lk (g.lk P 2) j) 3) → (∀ v, v < 10 → b ≠ g.lk (g.lk P 4) v) → f1 b = f b) ∧ (IV g f1) ∧ (un [3] g f f1)) (pc_out g sz) (pc_A g sz)) 0 0 (pc_A g sz) := by
  refine pe_ofW (cc := prog_7_method_3_code) (maxL := 5) (ret := (some .boolean)) (lv := [(0, .ref P), (1, .int (bI wd))]) (by decide) (Nat.le_of_ble_eq_true rfl) rfl ?_
  intro p e s m args below meth c ls hx hb hr hml hlocks hown hB hP hK hD hsz hS hl
  subst hsz
  have hu : un [3] g f f := un.rf
  refine lv_iconst (v := nI 0) hx hb d_NProgram_makeRound_0 (by decide) ?_
  refine lv_istore_n (lv' := [(2, .int (nI 0)), (0, .ref P), (1, .int (bI wd))]) hx hb d_NProgram_makeRound_1 rfl hl (by decide) rfl (fun ls hl => ?_)
  refine lv_iconst (v := nI 0) hx hb d_NProgram_makeRound_2 (by decide) ?_
  refine lv_istore_n (lv' := [(3, .int (nI 0)), (2, .int (nI 0)), (0, .ref P), (1, .int (bI wd))]) hx hb d_NProgram_makeRound_3 rfl hl (by decide) rfl (fun ls hl => ?_)
  have lp1 : ∀ (k3 : Nat) (mvb : Bool) (i : Nat) (n8 : Nat) (Lr : List (Nat × Nat)) (en2 : Nat → IVL) (f2 : Nat → va_E) (H : Heap) (locs : List Loc) (ls : Array Slot), (sn < i + k3) → (i ≤ sn) → (PRS g f2 P nb i n8 n8 [] Lr) → (ren i n8 n8 [] Lr = (sn, nn, nn, [])) → (EV g f2 P en2) → (rnd wd en [] false L = rnd wd en2 [] mvb Lr) → (∀ x, x ∈ Lr → x.1 ≤ 12) → (∀ x, x ∈ Lr → x.1 = 8 ∨ x.1 = 9 → x.2 < 10) → (∀ b, (∀ j, j < 72 → b ≠ g.lk (g.lk (g.lk P 2) j) 3) → (∀ v, v < 10 → b ≠ g.lk (g.lk P 4) v) → f2 b = f b) → IV g f2 → un [3] g f f2 → lv_has ls 5 [(3, .int (nI i)), (2, .int (bI mvb)), (0, .ref P), (1, .int (bI wd))] → va_P g.D vcl (va_pl g.LP f2) H → va_D (pc_A g s.heap.size) (va_pl g.LP f2) → va_S (pc_A g s.heap.size) s.heap H locs → W p l e ({ frames := 6, cells := 0, slots := 0, locals := 137 }) s m args below meth c H locs 0 0 (MQ below (va_Qi (fun r f1 => (r = bI (rnd wd en [] false L).2) ∧ (EV g f1 P (rnd wd en [] false L).1) ∧ (∀ b, (∀ j, j < 72 → b ≠ g.lk (g.lk (g.lk P 2) j) 3) → (∀ v, v < 10 → b ≠ g.lk (g.lk P 4) v) → f1 b = f b) ∧ (IV g f1) ∧ (un [3] g f f1)) (pc_out g s.heap.size) (pc_A g s.heap.size)) args s 0 0 (pc_A g s.heap.size)) (F0 m 4 ls []) := by
    intro k3
    induction k3 with
    | zero => intros; exfalso; omega
    | succ k3 ih4 =>
      intro mvb i n8 Lr en2 f2 H locs ls hfu5 hi hPR hre hEV2 hrnd hWr hLr hfr hI6 hv7 hl hP hD hS
      have eP := hv7.at t_P (by decide) eP
      have hu := hu.tr hv7 (by decide)
      have hub9 : un [3] g f2 f2 := un.rf
      refine lv_iload_n hx hb d_NProgram_makeRound_4 rfl (lv_at hl 0 rfl) ?_
      refine lv_aload_n hx hb d_NProgram_makeRound_5 rfl (lv_at hl 2 rfl) ?_
      refine pf_get (v := .int (nI sn)) (C := "BigRunner$Program") (T := FT6) (N := 6) hx hb (hw6 hB _) (fun _ h9 => h9) hown hK hP (lo_in hL t_P (by decide)) eP rfl 1 (by decide) (wd_245 hB _) rfl d_NProgram_makeRound_6 ?_
      refine lv_icmp_ge (tgt := 90) hx hb d_NProgram_makeRound_9 (by decide) (fun b8 => ?_) (fun b8 => ?_)
      · skip
        replace b8 := (nI_leI (a := sn) (b := i) (by omega) (by omega)).mp b8
        have hLn : Lr = [] := ren_end (by rw [show i = sn by omega] at hre; exact hre)
        subst hLn
        refine lv_iload_n hx hb d_NProgram_makeRound_90 rfl (lv_at hl 1 rfl) ?_
        exact pe_zret hx hb hr hlocks hK hP hD hS d_NProgram_makeRound_91 (by rcases (bI_bo mvb) with h9 | h9 <;> rw [h9] <;> rfl) ⟨(by rw [hrnd]; rfl), (by rw [hrnd]; exact hEV2), hfr, hI6, hu⟩
      · skip
        replace b8 := mt (nI_leI (a := sn) (b := i) (by omega) (by omega)).mpr b8
        refine lv_aload_n hx hb d_NProgram_makeRound_12 rfl (lv_at hl 2 rfl) ?_
        refine pf_get (v := .ref (g.lk P 0)) (C := "BigRunner$Program") (T := FT6) (N := 6) hx hb (hw6 hB _) (fun _ h9 => h9) hown hK hP (lo_in hL t_P (by decide)) eP rfl 0 (by decide) (wd_242 hB _) rfl d_NProgram_makeRound_13 ?_
        refine lv_iload_n hx hb d_NProgram_makeRound_16 rfl (lv_at hl 0 rfl) ?_
        have e9 := oc_24.of (lo_k7_0 hL _ t_P) (hI6.1 (g.lk P 0))
        refine pf_aald (i := i) hx hb hK hP (lo_in hL (lo_k7_0 hL _ t_P) (by decide)) e9 (lo_t24 hL _ (lo_k7_0 hL _ t_P)) (by omega) (by decide) d_NProgram_makeRound_17 ?_
        have t10 := lo_e24 hL _ (lo_k7_0 hL _ t_P) i (by omega)
        obtain ⟨E9, w9, a9, L9, rfl, hNR9, h89, hST9, hPR9, hre9⟩ := PRS_step Lr _ _ _ _ _ _ _ _ hre hPR (show i < sn by omega)
        have hw12 : w9 ≤ 12 := hWr (w9, a9) (List.mem_append.mpr (Or.inr (List.mem_cons_self)))
        have hEm : ∀ x, x ∈ E9 → x.1 < 8 := NR_8 E9 _ _ hNR9
        have hrw := rnd_e wd en2 mvb ((w9, a9) :: L9) E9 [] hEm
        rw [hrw] at hrnd
        have hle9 := ren_le L9 _ _ _ _ _ _ _ _ hre9
        obtain ⟨kd9, nm9, fn9, la9, ta9, es9, z8, z9, z10, z11, z12, zE, zT⟩ := hST9
        rcases (show w9 = 8 ∨ w9 = 9 ∨ w9 = 10 ∨ w9 = 11 ∨ w9 = 12 by omega) with rfl | rfl | rfl | rfl | rfl
        · skip
          obtain ⟨rfl, hnm9⟩ := z8 rfl
          rw [hnm9] at es9
          have ha9 : a9 < 10 := hLr (8, a9) (List.mem_append.mpr (Or.inr (List.mem_cons_self))) (Or.inl rfl)
          have eva := hEV2.2 a9 ha9
          obtain ⟨hfn9, hlt9, hla9⟩ := zE (by decide) (by decide)
          rw [hfn9, hla9] at es9
          refine lv_astore (lv' := [(4, .ref (g.lk (g.lk P 0) i)), (3, .int (nI i)), (2, .int (bI mvb)), (0, .ref P), (1, .int (bI wd))]) hx hb d_NProgram_makeRound_18 hl (by decide) rfl (fun ls hl => ?_)
          refine lv_aload hx hb d_NProgram_makeRound_20 (lv_at hl 0 rfl) ?_
          refine pf_get (v := .int (nI 0)) (C := "BigRunner$Statement") (T := FT9) (N := 5) hx hb (hw9 hB _) (fun _ h9 => h9) hown hK hP (lo_in hL t10 (by decide)) es9 rfl 0 (by decide) (wd_144 hB _) rfl d_NProgram_makeRound_22 ?_
          refine lv_iconst (v := nI 1) hx hb d_NProgram_makeRound_25 (by decide) ?_
          refine lv_icmp_ne (tgt := 53) hx hb d_NProgram_makeRound_26 (by decide) (fun b11 => ?_) (fun b11 => ?_)
          · skip
            replace b11 := mt (nI_eq (a := 0) (b := 1) (by omega) (by omega)).mpr b11
            refine lv_aload hx hb d_NProgram_makeRound_53 (lv_at hl 0 rfl) ?_
            refine pf_get (v := .int (nI 0)) (C := "BigRunner$Statement") (T := FT9) (N := 5) hx hb (hw9 hB _) (fun _ h9 => h9) hown hK hP (lo_in hL t10 (by decide)) es9 rfl 0 (by decide) (wd_144 hB _) rfl d_NProgram_makeRound_55 ?_
            refine lv_if_ne (tgt := 84) hx hb d_NProgram_makeRound_58 (by decide) (fun b12 => ?_) (fun b12 => ?_)
            · skip
              replace b12 := mt (nI_eq (a := 0) (b := 0) (by omega) (by omega)).mpr b12
              exfalso; omega
            · skip
              replace b12 := (nI_eq (a := 0) (b := 0) (by omega) (by omega)).mp b12
              refine lv_iload_n hx hb d_NProgram_makeRound_61 rfl (lv_at hl 2 rfl) ?_
              refine lv_aload_n hx hb d_NProgram_makeRound_62 rfl (lv_at hl 3 rfl) ?_
              refine pf_get (v := .ref (g.lk P 4)) (C := "BigRunner$Program") (T := FT6) (N := 6) hx hb (hw6 hB _) (fun _ h9 => h9) hown hK hP (lo_in hL t_P (by decide)) eP rfl 4 (by decide) (wd_253 hB _) rfl d_NProgram_makeRound_63 ?_
              refine lv_aload hx hb d_NProgram_makeRound_66 (lv_at hl 0 rfl) ?_
              refine pf_get (v := .int (nI a9)) (C := "BigRunner$Statement") (T := FT9) (N := 5) hx hb (hw9 hB _) (fun _ h9 => h9) hown hK hP (lo_in hL t10 (by decide)) es9 rfl 1 (by decide) (wd_148 hB _) rfl d_NProgram_makeRound_68 ?_
              have e13 := oc_26.of (lo_k7_4 hL _ t_P) (hI6.1 (g.lk P 4))
              refine pf_aald (i := a9) hx hb hK hP (lo_in hL (lo_k7_4 hL _ t_P) (by decide)) e13 (lo_t26 hL _ (lo_k7_4 hL _ t_P)) (by omega) (by decide) d_NProgram_makeRound_71 ?_
              have t14 := lo_e26 hL _ (lo_k7_4 hL _ t_P) a9 (by omega)
              refine lv_aload_n hx hb d_NProgram_makeRound_72 rfl (lv_at hl 3 rfl) ?_
              refine lv_aload hx hb d_NProgram_makeRound_73 (lv_at hl 0 rfl) ?_
              refine pcc_r (va_runV (C := "BigRunner$Program") (As := [.ref (g.lk (g.lk P 0) i)]) (rest := [.ref (g.lk (g.lk P 4) a9), .int (bI mvb)]) ⟨hx, hb, hml, hown, tb_nil⟩ (c2_intervalOf l g H.size f2 P ((g.lk (g.lk P 0) i)) 0 a9 n8 ((n8 + E9.length - 1)) ta9 E9 en2 hL t_P t10 hI6 es9 (by omega) (by omega) (by omega) hNR9 hEV2) ⟨(callB_of 1 (tb_one (wd_612 hB _)) tb_good1 rfl rfl rfl (wd_74 hB _) (wd_609 hB _) (by decide +kernel) ⟨Nat.le_of_ble_eq_true rfl, Nat.le_of_ble_eq_true rfl⟩), (wd_611 hB _), (wd_19 hB _)⟩ ⟨pe_bl, pg_recv (ci := 6) hK hP (lo_in hL t_P (by decide)) eP rfl, pe_pre hB hK hP hD⟩ rfl rfl hl.1 rfl (lv_room (Nat.le_of_ble_eq_true rfl)) d_NProgram_makeRound_75 ⟨Nat.le_of_ble_eq_true rfl, Nat.le_of_ble_eq_true rfl⟩) hS (fun r15 f16 H locs hq17 hP hD hS => ?_)
              obtain ⟨ra_18, v_19, ik_20, fr_21, hI1_22, hu1_23⟩ := hq17
              subst ra_18
              have hu := hu.tr hu1_23 (by decide)
              have hv7 := hv7.tr hu1_23 (by decide)
              have hub9 := hub9.tr hu1_23 (by decide)
              have eP := hu1_23.at t_P (by decide) eP
              have e9 := hu1_23.at (lo_k7_0 hL _ t_P) (by decide) e9
              have es9 := hu1_23.at t10 (by decide) es9
              have e13 := hu1_23.at (lo_k7_4 hL _ t_P) (by decide) e13
              have eva := (fr_21 _ (fun j hj => ni_vn hL t_P t_P ha9 hj)).trans eva
              refine lv_iload_n hx hb d_NProgram_makeRound_78 rfl (lv_at hl 4 rfl) ?_
              refine pcc_i (va_runV (C := "BigRunner$Interval") (As := [.ref (g.lk (g.lk (g.lk P 2) (n8 + E9.length - 1)) 3), .int (bI wd)]) (rest := [.int (bI mvb)]) ⟨hx, hb, hml, hown, tb_nil⟩ (c2_join l g H.size f16 ((g.lk (g.lk P 4) a9)) ((g.lk (g.lk (g.lk P 2) (n8 + E9.length - 1)) 3)) ((bI wd)) ((cL ((en2 a9)).1)) ((cH ((en2 a9)).2)) ((cL (((xsts en2 [] E9).headD zI)).1)) ((cH (((xsts en2 [] E9).headD zI)).2)) hL t14 (lo_k6_3 hL _ (lo_e25 hL _ (lo_k7_2 hL _ t_P) _ (by omega))) hI1_22 eva v_19 (tn_ne ((lo_n6i hL _ (lo_e25 hL _ (lo_k7_2 hL _ t_P) _ (by omega))).trans (lo_n25 hL _ (lo_k7_2 hL _ t_P) _ (by omega))) (lo_n26 hL _ (lo_k7_4 hL _ t_P) _ (by omega)) (by omega))) ⟨(callB_of 2 (tb_one (wd_608 hB _)) tb_good1 rfl rfl rfl (wd_75 hB _) (wd_605 hB _) (by decide +kernel) ⟨Nat.le_of_ble_eq_true rfl, Nat.le_of_ble_eq_true rfl⟩), (wd_606 hB _), (wd_607 hB _)⟩ ⟨pe_bl, pg_recv (ci := 2) hK hP (lo_in hL t14 (by decide)) eva rfl, pe_pre hB hK hP hD⟩ rfl rfl hl.1 rfl (lv_room (Nat.le_of_ble_eq_true rfl)) d_NProgram_makeRound_79 ⟨Nat.le_of_ble_eq_true rfl, Nat.le_of_ble_eq_true rfl⟩) hS (fun r24 f25 H locs hq26 hP hD hS => ?_)
              obtain ⟨qv_27, v_28, hI1_29, hk1_30⟩ := hq26
              subst qv_27
              have hu := hu.st hk1_30 t14 (by decide)
              have hv7 := hv7.st hk1_30 t14 (by decide)
              have hub9 := hub9.st hk1_30 t14 (by decide)
              have eP := (hk1_30 P (tg_ne t_P t14 (by decide))).trans eP
              have e9 := (hk1_30 (g.lk P 0) (tg_ne (lo_k7_0 hL _ t_P) t14 (by decide))).trans e9
              have es9 := (hk1_30 (g.lk (g.lk P 0) i) (tg_ne t10 t14 (by decide))).trans es9
              have e13 := (hk1_30 (g.lk P 4) (tg_ne (lo_k7_4 hL _ t_P) t14 (by decide))).trans e13
              have v_19 := (hk1_30 (g.lk (g.lk (g.lk P 2) (n8 + E9.length - 1)) 3) (tn_ne ((lo_n6i hL _ (lo_e25 hL _ (lo_k7_2 hL _ t_P) _ (by omega))).trans (lo_n25 hL _ (lo_k7_2 hL _ t_P) _ (by omega))) (lo_n26 hL _ (lo_k7_4 hL _ t_P) _ (by omega)) (by omega))).trans v_19
              refine lv_ior hx hb d_NProgram_makeRound_82 ?_
              refine lv_topi (fun z_ hz_ => ?_)
              obtain rfl : z_ = bI (mvb || ((decide ((cL (((xsts en2 [] E9).headD zI)).1) < (cL ((en2 a9)).1)) || decide ((cH ((en2 a9)).2) < (cH (((xsts en2 [] E9).headD zI)).2))))) := hz_.trans (bI_or _ _)
              refine lv_istore_n (lv' := [(2, .int (bI (mvb || ((decide ((cL (((xsts en2 [] E9).headD zI)).1) < (cL ((en2 a9)).1)) || decide ((cH ((en2 a9)).2) < (cH (((xsts en2 [] E9).headD zI)).2))))))), (4, .ref (g.lk (g.lk P 0) i)), (3, .int (nI i)), (0, .ref P), (1, .int (bI wd))]) hx hb d_NProgram_makeRound_83 rfl hl (by decide) rfl (fun ls hl => ?_)
              refine lv_iinc (k := 2) (v := nI (i + 1)) (lv' := [(3, .int (nI (i + 1))), (2, .int (bI (mvb || ((decide ((cL (((xsts en2 [] E9).headD zI)).1) < (cL ((en2 a9)).1)) || decide ((cH ((en2 a9)).2) < (cH (((xsts en2 [] E9).headD zI)).2))))))), (4, .ref (g.lk (g.lk P 0) i)), (0, .ref P), (1, .int (bI wd))]) hx hb d_NProgram_makeRound_84 hl rfl (by rw [nI_succ]; rfl) (by decide) rfl (fun ls hl => ?_)
              refine lv_goto (tgt := 4) hx hb d_NProgram_makeRound_87 (by decide) ?_
              have hmv9 : (mvb || ((decide ((cL (((xsts en2 [] E9).headD zI)).1) < (cL ((en2 a9)).1)) || decide ((cH ((en2 a9)).2) < (cH (((xsts en2 [] E9).headD zI)).2))))) = (mvI (en2 a9) ((xsts en2 [] E9).headD zI) || mvb) := by rw [Bool.or_comm]; congr 1; rw [Bool.eq_iff_iff, Bool.or_eq_true, decide_eq_true_iff, decide_eq_true_iff]; exact c_mv ik_20 (hEV2.1 a9)
              have hl : lv_has ls 5 [(3, .int (nI (i + 1))), (2, .int (bI (mvI (en2 a9) ((xsts en2 [] E9).headD zI) || mvb))), (4, .ref (g.lk (g.lk P 0) i)), (0, .ref P), (1, .int (bI wd))] := by rw [← hmv9]; exact hl
              have hl : lv_has ls 5 [(3, .int (nI (i + 1))), (2, .int (bI (mvI (en2 a9) ((xsts en2 [] E9).headD zI) || mvb))), (0, .ref P), (1, .int (bI wd))] := lv_sub hl [0, 1, 3, 4] rfl
              exact ih4 ((mvI (en2 a9) ((xsts en2 [] E9).headD zI) || mvb)) (i + 1) ((n8 + E9.length)) L9 ((enu en2 a9 (jnI wd (en2 a9) ((xsts en2 [] E9).headD zI)))) f25 H locs ls (by omega) (by omega) (PRS_eq L9 _ _ _ _ _ _ _ _ hre9 hPR9 (fun j h1 h2 => hub9 _ (by rw [lo_e24 hL _ (lo_k7_0 hL P t_P) j (by omega)]; decide)) (fun j h1 h2 => hub9 _ (by rw [lo_e25 hL _ (lo_k7_2 hL P t_P) j (by omega)]; decide))) hre9 (EV_u hL t_P ha9 (EV_fr hL t_P hEV2 (fun v9 hv9 => fr_21 _ (fun j hj => ni_vn hL t_P t_P hv9 hj))) (iK_jn ik_20 (hEV2.1 a9)) hk1_30 (v_28.trans (by rw [c_jL ik_20 (hEV2.1 a9), c_jH ik_20 (hEV2.1 a9)]))) (hrnd.trans (rnd_8 wd en2 _ mvb a9 L9)) (fun x q => hWr x (List.mem_append.mpr (Or.inr (List.mem_cons_of_mem _ q)))) (fun x q => hLr x (List.mem_append.mpr (Or.inr (List.mem_cons_of_mem _ q)))) (fun b q1 q2 => (hk1_30 b (q2 a9 ha9)).trans ((fr_21 b q1).trans (hfr b q1 q2))) hI1_29 hv7 hl hP hD hS
          · skip
            replace b11 := (nI_eq (a := 0) (b := 1) (by omega) (by omega)).mp b11
            exfalso; omega
        · skip
          obtain ⟨rfl, hnm9⟩ := z9 rfl
          rw [hnm9] at es9
          have ha9 : a9 < 10 := hLr (9, a9) (List.mem_append.mpr (Or.inr (List.mem_cons_self))) (Or.inr rfl)
          have eva := hEV2.2 a9 ha9
          have hIN9 := (hfr (g.lk P 5) (fun j hj => ni_in hL t_P t_P hj) (fun v hv => vn_in hL t_P t_P hv)).trans hIN
          refine lv_astore (lv' := [(4, .ref (g.lk (g.lk P 0) i)), (3, .int (nI i)), (2, .int (bI mvb)), (0, .ref P), (1, .int (bI wd))]) hx hb d_NProgram_makeRound_18 hl (by decide) rfl (fun ls hl => ?_)
          refine lv_aload hx hb d_NProgram_makeRound_20 (lv_at hl 0 rfl) ?_
          refine pf_get (v := .int (nI 1)) (C := "BigRunner$Statement") (T := FT9) (N := 5) hx hb (hw9 hB _) (fun _ h9 => h9) hown hK hP (lo_in hL t10 (by decide)) es9 rfl 0 (by decide) (wd_144 hB _) rfl d_NProgram_makeRound_22 ?_
          refine lv_iconst (v := nI 1) hx hb d_NProgram_makeRound_25 (by decide) ?_
          refine lv_icmp_ne (tgt := 53) hx hb d_NProgram_makeRound_26 (by decide) (fun b31 => ?_) (fun b31 => ?_)
          · skip
            replace b31 := mt (nI_eq (a := 1) (b := 1) (by omega) (by omega)).mpr b31
            exfalso; omega
          · skip
            replace b31 := (nI_eq (a := 1) (b := 1) (by omega) (by omega)).mp b31
            refine lv_iload_n hx hb d_NProgram_makeRound_29 rfl (lv_at hl 2 rfl) ?_
            refine lv_aload_n hx hb d_NProgram_makeRound_30 rfl (lv_at hl 3 rfl) ?_
            refine pf_get (v := .ref (g.lk P 4)) (C := "BigRunner$Program") (T := FT6) (N := 6) hx hb (hw6 hB _) (fun _ h9 => h9) hown hK hP (lo_in hL t_P (by decide)) eP rfl 4 (by decide) (wd_253 hB _) rfl d_NProgram_makeRound_31 ?_
            refine lv_aload hx hb d_NProgram_makeRound_34 (lv_at hl 0 rfl) ?_
            refine pf_get (v := .int (nI a9)) (C := "BigRunner$Statement") (T := FT9) (N := 5) hx hb (hw9 hB _) (fun _ h9 => h9) hown hK hP (lo_in hL t10 (by decide)) es9 rfl 1 (by decide) (wd_148 hB _) rfl d_NProgram_makeRound_36 ?_
            have e32 := oc_26.of (lo_k7_4 hL _ t_P) (hI6.1 (g.lk P 4))
            refine pf_aald (i := a9) hx hb hK hP (lo_in hL (lo_k7_4 hL _ t_P) (by decide)) e32 (lo_t26 hL _ (lo_k7_4 hL _ t_P)) (by omega) (by decide) d_NProgram_makeRound_39 ?_
            have t33 := lo_e26 hL _ (lo_k7_4 hL _ t_P) a9 (by omega)
            refine lv_aload_n hx hb d_NProgram_makeRound_40 rfl (lv_at hl 3 rfl) ?_
            refine pf_get (v := .ref (g.lk P 5)) (C := "BigRunner$Program") (T := FT6) (N := 6) hx hb (hw6 hB _) (fun _ h9 => h9) hown hK hP (lo_in hL t_P (by decide)) eP rfl 5 (by decide) (wd_256 hB _) rfl d_NProgram_makeRound_41 ?_
            refine lv_iload_n hx hb d_NProgram_makeRound_44 rfl (lv_at hl 4 rfl) ?_
            refine pcc_i (va_runV (C := "BigRunner$Interval") (As := [.ref (g.lk P 5), .int (bI wd)]) (rest := [.int (bI mvb)]) ⟨hx, hb, hml, hown, tb_nil⟩ (c2_join l g H.size f2 ((g.lk (g.lk P 4) a9)) ((g.lk P 5)) ((bI wd)) ((cL ((en2 a9)).1)) ((cH ((en2 a9)).2)) ((cL inI.1)) ((cH inI.2)) hL t33 (lo_k7_5 hL _ t_P) hI6 eva hIN9 (tn_ne (lo_n7i hL _ t_P) (lo_n26 hL _ (lo_k7_4 hL _ t_P) _ (by omega)) (by omega))) ⟨(callB_of 2 (tb_one (wd_608 hB _)) tb_good1 rfl rfl rfl (wd_75 hB _) (wd_605 hB _) (by decide +kernel) ⟨Nat.le_of_ble_eq_true rfl, Nat.le_of_ble_eq_true rfl⟩), (wd_606 hB _), (wd_607 hB _)⟩ ⟨pe_bl, pg_recv (ci := 2) hK hP (lo_in hL t33 (by decide)) eva rfl, pe_pre hB hK hP hD⟩ rfl rfl hl.1 rfl (lv_room (Nat.le_of_ble_eq_true rfl)) d_NProgram_makeRound_45 ⟨Nat.le_of_ble_eq_true rfl, Nat.le_of_ble_eq_true rfl⟩) hS (fun r34 f35 H locs hq36 hP hD hS => ?_)
            obtain ⟨qv_37, v_38, hI1_39, hk1_40⟩ := hq36
            subst qv_37
            have hu := hu.st hk1_40 t33 (by decide)
            have hv7 := hv7.st hk1_40 t33 (by decide)
            have hub9 := hub9.st hk1_40 t33 (by decide)
            have eP := (hk1_40 P (tg_ne t_P t33 (by decide))).trans eP
            have e9 := (hk1_40 (g.lk P 0) (tg_ne (lo_k7_0 hL _ t_P) t33 (by decide))).trans e9
            have hIN9 := (hk1_40 (g.lk P 5) (tn_ne (lo_n7i hL _ t_P) (lo_n26 hL _ (lo_k7_4 hL _ t_P) _ (by omega)) (by omega))).trans hIN9
            have es9 := (hk1_40 (g.lk (g.lk P 0) i) (tg_ne t10 t33 (by decide))).trans es9
            have e32 := (hk1_40 (g.lk P 4) (tg_ne (lo_k7_4 hL _ t_P) t33 (by decide))).trans e32
            refine lv_ior hx hb d_NProgram_makeRound_48 ?_
            refine lv_topi (fun z_ hz_ => ?_)
            obtain rfl : z_ = bI (mvb || ((decide ((cL inI.1) < (cL ((en2 a9)).1)) || decide ((cH ((en2 a9)).2) < (cH inI.2))))) := hz_.trans (bI_or _ _)
            refine lv_istore_n (lv' := [(2, .int (bI (mvb || ((decide ((cL inI.1) < (cL ((en2 a9)).1)) || decide ((cH ((en2 a9)).2) < (cH inI.2))))))), (4, .ref (g.lk (g.lk P 0) i)), (3, .int (nI i)), (0, .ref P), (1, .int (bI wd))]) hx hb d_NProgram_makeRound_49 rfl hl (by decide) rfl (fun ls hl => ?_)
            refine lv_goto (tgt := 84) hx hb d_NProgram_makeRound_50 (by decide) ?_
            refine lv_iinc (k := 2) (v := nI (i + 1)) (lv' := [(3, .int (nI (i + 1))), (2, .int (bI (mvb || ((decide ((cL inI.1) < (cL ((en2 a9)).1)) || decide ((cH ((en2 a9)).2) < (cH inI.2))))))), (4, .ref (g.lk (g.lk P 0) i)), (0, .ref P), (1, .int (bI wd))]) hx hb d_NProgram_makeRound_84 hl rfl (by rw [nI_succ]; rfl) (by decide) rfl (fun ls hl => ?_)
            refine lv_goto (tgt := 4) hx hb d_NProgram_makeRound_87 (by decide) ?_
            have hmv9 : (mvb || ((decide ((cL inI.1) < (cL ((en2 a9)).1)) || decide ((cH ((en2 a9)).2) < (cH inI.2))))) = (mvI (en2 a9) inI || mvb) := by rw [Bool.or_comm]; congr 1; rw [Bool.eq_iff_iff, Bool.or_eq_true, decide_eq_true_iff, decide_eq_true_iff]; exact c_mv iK_in (hEV2.1 a9)
            have hl : lv_has ls 5 [(3, .int (nI (i + 1))), (2, .int (bI (mvI (en2 a9) inI || mvb))), (4, .ref (g.lk (g.lk P 0) i)), (0, .ref P), (1, .int (bI wd))] := by rw [← hmv9]; exact hl
            have hl : lv_has ls 5 [(3, .int (nI (i + 1))), (2, .int (bI (mvI (en2 a9) inI || mvb))), (0, .ref P), (1, .int (bI wd))] := lv_sub hl [0, 1, 3, 4] rfl
            exact ih4 ((mvI (en2 a9) inI || mvb)) (i + 1) ((n8 + E9.length)) L9 ((enu en2 a9 (jnI wd (en2 a9) inI))) f35 H locs ls (by omega) (by omega) (PRS_eq L9 _ _ _ _ _ _ _ _ hre9 hPR9 (fun j h1 h2 => hub9 _ (by rw [lo_e24 hL _ (lo_k7_0 hL P t_P) j (by omega)]; decide)) (fun j h1 h2 => hub9 _ (by rw [lo_e25 hL _ (lo_k7_2 hL P t_P) j (by omega)]; decide))) hre9 (EV_u hL t_P ha9 hEV2 (iK_jn iK_in (hEV2.1 a9)) hk1_40 (v_38.trans (by rw [c_jL iK_in (hEV2.1 a9), c_jH iK_in (hEV2.1 a9)]))) (hrnd.trans (rnd_9 wd en2 _ mvb a9 L9)) (fun x q => hWr x (List.mem_append.mpr (Or.inr (List.mem_cons_of_mem _ q)))) (fun x q => hLr x (List.mem_append.mpr (Or.inr (List.mem_cons_of_mem _ q)))) (fun b q1 q2 => (hk1_40 b (q2 a9 ha9)).trans (hfr b q1 q2)) hI1_39 hv7 hl hP hD hS
        · skip
          obtain rfl := z10 rfl
          refine lv_astore (lv' := [(4, .ref (g.lk (g.lk P 0) i)), (3, .int (nI i)), (2, .int (bI mvb)), (0, .ref P), (1, .int (bI wd))]) hx hb d_NProgram_makeRound_18 hl (by decide) rfl (fun ls hl => ?_)
          refine lv_aload hx hb d_NProgram_makeRound_20 (lv_at hl 0 rfl) ?_
          refine pf_get (v := .int (nI 2)) (C := "BigRunner$Statement") (T := FT9) (N := 5) hx hb (hw9 hB _) (fun _ h9 => h9) hown hK hP (lo_in hL t10 (by decide)) es9 rfl 0 (by decide) (wd_144 hB _) rfl d_NProgram_makeRound_22 ?_
          refine lv_iconst (v := nI 1) hx hb d_NProgram_makeRound_25 (by decide) ?_
          refine lv_icmp_ne (tgt := 53) hx hb d_NProgram_makeRound_26 (by decide) (fun b41 => ?_) (fun b41 => ?_)
          · skip
            replace b41 := mt (nI_eq (a := 2) (b := 1) (by omega) (by omega)).mpr b41
            refine lv_aload hx hb d_NProgram_makeRound_53 (lv_at hl 0 rfl) ?_
            refine pf_get (v := .int (nI 2)) (C := "BigRunner$Statement") (T := FT9) (N := 5) hx hb (hw9 hB _) (fun _ h9 => h9) hown hK hP (lo_in hL t10 (by decide)) es9 rfl 0 (by decide) (wd_144 hB _) rfl d_NProgram_makeRound_55 ?_
            refine lv_if_ne (tgt := 84) hx hb d_NProgram_makeRound_58 (by decide) (fun b42 => ?_) (fun b42 => ?_)
            · skip
              replace b42 := mt (nI_eq (a := 2) (b := 0) (by omega) (by omega)).mpr b42
              refine lv_iinc (k := 1) (v := nI (i + 1)) (lv' := [(3, .int (nI (i + 1))), (4, .ref (g.lk (g.lk P 0) i)), (2, .int (bI mvb)), (0, .ref P), (1, .int (bI wd))]) hx hb d_NProgram_makeRound_84 hl rfl (by rw [nI_succ]; rfl) (by decide) rfl (fun ls hl => ?_)
              refine lv_goto (tgt := 4) hx hb d_NProgram_makeRound_87 (by decide) ?_
              have hl : lv_has ls 5 [(3, .int (nI (i + 1))), (2, .int (bI mvb)), (0, .ref P), (1, .int (bI wd))] := lv_sub hl [0, 2, 3, 4] rfl
              exact ih4 mvb (i + 1) ((n8 + E9.length)) L9 en2 f2 H locs ls (by omega) (by omega) hPR9 hre9 hEV2 (hrnd.trans (rnd_o wd en2 _ mvb 10 a9 L9 (by decide))) (fun x q => hWr x (List.mem_append.mpr (Or.inr (List.mem_cons_of_mem _ q)))) (fun x q => hLr x (List.mem_append.mpr (Or.inr (List.mem_cons_of_mem _ q)))) hfr hI6 hv7 hl hP hD hS
            · skip
              replace b42 := (nI_eq (a := 2) (b := 0) (by omega) (by omega)).mp b42
              exfalso; omega
          · skip
            replace b41 := (nI_eq (a := 2) (b := 1) (by omega) (by omega)).mp b41
            exfalso; omega
        · skip
          rcases z11 rfl with rfl | rfl
          · skip
            refine lv_astore (lv' := [(4, .ref (g.lk (g.lk P 0) i)), (3, .int (nI i)), (2, .int (bI mvb)), (0, .ref P), (1, .int (bI wd))]) hx hb d_NProgram_makeRound_18 hl (by decide) rfl (fun ls hl => ?_)
            refine lv_aload hx hb d_NProgram_makeRound_20 (lv_at hl 0 rfl) ?_
            refine pf_get (v := .int (nI 3)) (C := "BigRunner$Statement") (T := FT9) (N := 5) hx hb (hw9 hB _) (fun _ h9 => h9) hown hK hP (lo_in hL t10 (by decide)) es9 rfl 0 (by decide) (wd_144 hB _) rfl d_NProgram_makeRound_22 ?_
            refine lv_iconst (v := nI 1) hx hb d_NProgram_makeRound_25 (by decide) ?_
            refine lv_icmp_ne (tgt := 53) hx hb d_NProgram_makeRound_26 (by decide) (fun b43 => ?_) (fun b43 => ?_)
            · skip
              replace b43 := mt (nI_eq (a := 3) (b := 1) (by omega) (by omega)).mpr b43
              refine lv_aload hx hb d_NProgram_makeRound_53 (lv_at hl 0 rfl) ?_
              refine pf_get (v := .int (nI 3)) (C := "BigRunner$Statement") (T := FT9) (N := 5) hx hb (hw9 hB _) (fun _ h9 => h9) hown hK hP (lo_in hL t10 (by decide)) es9 rfl 0 (by decide) (wd_144 hB _) rfl d_NProgram_makeRound_55 ?_
              refine lv_if_ne (tgt := 84) hx hb d_NProgram_makeRound_58 (by decide) (fun b44 => ?_) (fun b44 => ?_)
              · skip
                replace b44 := mt (nI_eq (a := 3) (b := 0) (by omega) (by omega)).mpr b44
                refine lv_iinc (k := 1) (v := nI (i + 1)) (lv' := [(3, .int (nI (i + 1))), (4, .ref (g.lk (g.lk P 0) i)), (2, .int (bI mvb)), (0, .ref P), (1, .int (bI wd))]) hx hb d_NProgram_makeRound_84 hl rfl (by rw [nI_succ]; rfl) (by decide) rfl (fun ls hl => ?_)
                refine lv_goto (tgt := 4) hx hb d_NProgram_makeRound_87 (by decide) ?_
                have hl : lv_has ls 5 [(3, .int (nI (i + 1))), (2, .int (bI mvb)), (0, .ref P), (1, .int (bI wd))] := lv_sub hl [0, 2, 3, 4] rfl
                exact ih4 mvb (i + 1) ((n8 + E9.length)) L9 en2 f2 H locs ls (by omega) (by omega) hPR9 hre9 hEV2 (hrnd.trans (rnd_o wd en2 _ mvb 11 a9 L9 (by decide))) (fun x q => hWr x (List.mem_append.mpr (Or.inr (List.mem_cons_of_mem _ q)))) (fun x q => hLr x (List.mem_append.mpr (Or.inr (List.mem_cons_of_mem _ q)))) hfr hI6 hv7 hl hP hD hS
              · skip
                replace b44 := (nI_eq (a := 3) (b := 0) (by omega) (by omega)).mp b44
                exfalso; omega
            · skip
              replace b43 := (nI_eq (a := 3) (b := 1) (by omega) (by omega)).mp b43
              exfalso; omega
          · skip
            refine lv_astore (lv' := [(4, .ref (g.lk (g.lk P 0) i)), (3, .int (nI i)), (2, .int (bI mvb)), (0, .ref P), (1, .int (bI wd))]) hx hb d_NProgram_makeRound_18 hl (by decide) rfl (fun ls hl => ?_)
            refine lv_aload hx hb d_NProgram_makeRound_20 (lv_at hl 0 rfl) ?_
            refine pf_get (v := .int (nI 4)) (C := "BigRunner$Statement") (T := FT9) (N := 5) hx hb (hw9 hB _) (fun _ h9 => h9) hown hK hP (lo_in hL t10 (by decide)) es9 rfl 0 (by decide) (wd_144 hB _) rfl d_NProgram_makeRound_22 ?_
            refine lv_iconst (v := nI 1) hx hb d_NProgram_makeRound_25 (by decide) ?_
            refine lv_icmp_ne (tgt := 53) hx hb d_NProgram_makeRound_26 (by decide) (fun b45 => ?_) (fun b45 => ?_)
            · skip
              replace b45 := mt (nI_eq (a := 4) (b := 1) (by omega) (by omega)).mpr b45
              refine lv_aload hx hb d_NProgram_makeRound_53 (lv_at hl 0 rfl) ?_
              refine pf_get (v := .int (nI 4)) (C := "BigRunner$Statement") (T := FT9) (N := 5) hx hb (hw9 hB _) (fun _ h9 => h9) hown hK hP (lo_in hL t10 (by decide)) es9 rfl 0 (by decide) (wd_144 hB _) rfl d_NProgram_makeRound_55 ?_
              refine lv_if_ne (tgt := 84) hx hb d_NProgram_makeRound_58 (by decide) (fun b46 => ?_) (fun b46 => ?_)
              · skip
                replace b46 := mt (nI_eq (a := 4) (b := 0) (by omega) (by omega)).mpr b46
                refine lv_iinc (k := 1) (v := nI (i + 1)) (lv' := [(3, .int (nI (i + 1))), (4, .ref (g.lk (g.lk P 0) i)), (2, .int (bI mvb)), (0, .ref P), (1, .int (bI wd))]) hx hb d_NProgram_makeRound_84 hl rfl (by rw [nI_succ]; rfl) (by decide) rfl (fun ls hl => ?_)
                refine lv_goto (tgt := 4) hx hb d_NProgram_makeRound_87 (by decide) ?_
                have hl : lv_has ls 5 [(3, .int (nI (i + 1))), (2, .int (bI mvb)), (0, .ref P), (1, .int (bI wd))] := lv_sub hl [0, 2, 3, 4] rfl
                exact ih4 mvb (i + 1) ((n8 + E9.length)) L9 en2 f2 H locs ls (by omega) (by omega) hPR9 hre9 hEV2 (hrnd.trans (rnd_o wd en2 _ mvb 11 a9 L9 (by decide))) (fun x q => hWr x (List.mem_append.mpr (Or.inr (List.mem_cons_of_mem _ q)))) (fun x q => hLr x (List.mem_append.mpr (Or.inr (List.mem_cons_of_mem _ q)))) hfr hI6 hv7 hl hP hD hS
              · skip
                replace b46 := (nI_eq (a := 4) (b := 0) (by omega) (by omega)).mp b46
                exfalso; omega
            · skip
              replace b45 := (nI_eq (a := 4) (b := 1) (by omega) (by omega)).mp b45
              exfalso; omega
        · skip
          obtain rfl := z12 rfl
          refine lv_astore (lv' := [(4, .ref (g.lk (g.lk P 0) i)), (3, .int (nI i)), (2, .int (bI mvb)), (0, .ref P), (1, .int (bI wd))]) hx hb d_NProgram_makeRound_18 hl (by decide) rfl (fun ls hl => ?_)
          refine lv_aload hx hb d_NProgram_makeRound_20 (lv_at hl 0 rfl) ?_
          refine pf_get (v := .int (nI 5)) (C := "BigRunner$Statement") (T := FT9) (N := 5) hx hb (hw9 hB _) (fun _ h9 => h9) hown hK hP (lo_in hL t10 (by decide)) es9 rfl 0 (by decide) (wd_144 hB _) rfl d_NProgram_makeRound_22 ?_
          refine lv_iconst (v := nI 1) hx hb d_NProgram_makeRound_25 (by decide) ?_
          refine lv_icmp_ne (tgt := 53) hx hb d_NProgram_makeRound_26 (by decide) (fun b47 => ?_) (fun b47 => ?_)
          · skip
            replace b47 := mt (nI_eq (a := 5) (b := 1) (by omega) (by omega)).mpr b47
            refine lv_aload hx hb d_NProgram_makeRound_53 (lv_at hl 0 rfl) ?_
            refine pf_get (v := .int (nI 5)) (C := "BigRunner$Statement") (T := FT9) (N := 5) hx hb (hw9 hB _) (fun _ h9 => h9) hown hK hP (lo_in hL t10 (by decide)) es9 rfl 0 (by decide) (wd_144 hB _) rfl d_NProgram_makeRound_55 ?_
            refine lv_if_ne (tgt := 84) hx hb d_NProgram_makeRound_58 (by decide) (fun b48 => ?_) (fun b48 => ?_)
            · skip
              replace b48 := mt (nI_eq (a := 5) (b := 0) (by omega) (by omega)).mpr b48
              refine lv_iinc (k := 1) (v := nI (i + 1)) (lv' := [(3, .int (nI (i + 1))), (4, .ref (g.lk (g.lk P 0) i)), (2, .int (bI mvb)), (0, .ref P), (1, .int (bI wd))]) hx hb d_NProgram_makeRound_84 hl rfl (by rw [nI_succ]; rfl) (by decide) rfl (fun ls hl => ?_)
              refine lv_goto (tgt := 4) hx hb d_NProgram_makeRound_87 (by decide) ?_
              have hl : lv_has ls 5 [(3, .int (nI (i + 1))), (2, .int (bI mvb)), (0, .ref P), (1, .int (bI wd))] := lv_sub hl [0, 2, 3, 4] rfl
              exact ih4 mvb (i + 1) ((n8 + E9.length)) L9 en2 f2 H locs ls (by omega) (by omega) hPR9 hre9 hEV2 (hrnd.trans (rnd_o wd en2 _ mvb 12 a9 L9 (by decide))) (fun x q => hWr x (List.mem_append.mpr (Or.inr (List.mem_cons_of_mem _ q)))) (fun x q => hLr x (List.mem_append.mpr (Or.inr (List.mem_cons_of_mem _ q)))) hfr hI6 hv7 hl hP hD hS
            · skip
              replace b48 := (nI_eq (a := 5) (b := 0) (by omega) (by omega)).mp b48
              exfalso; omega
          · skip
            replace b47 := (nI_eq (a := 5) (b := 1) (by omega) (by omega)).mp b47
            exfalso; omega
  exact lp1 (sn + 1) false 0 0 L en f s.heap [] ls (by omega) (Nat.zero_le _) hPRS hren hEV rfl hW12 hL10 (fun _ _ _ => rfl) hI un.rf hl hP hD hS
