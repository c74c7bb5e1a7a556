set_option maxHeartbeats 4000000 in
set_option maxRecDepth 100000 in
theorem w_told58 (l : Launch) (g : Lay) (sz : Nat) (f : Nat → va_E) (A : Nat) (fr9 : Nat) (sg : Int32) (kk : Int32) (hA : Nat → Int32) (u9 : Nat) (vv : Int) (hL : LO g) (t_A : g.tg A = 58) (hI : OC g f) (eA : f A = .inl (g.ac A, 200, .inl hA)) (c6A : C6 200 hA) (hfr : fr9 = 20 * u9) (hu9 : 20 * u9 + 20 ≤ 200) (hsv : sg = sgI vv ∧ sl hA u9 = vv.natAbs) (hk3 : -2 ≤ kk) : Met l ⟨"BigRunnerModel", "told", "([IIII)I"⟩ [Cond.code ⟨"BigRunnerModel", "told", "([IIII)I"⟩ prog_12_method_49_code 6 (some .int)] ({ frames := 1, cells := 0, slots := 0, locals := 26 }) (va_Pc [.ref A, .int (nI fr9), .int sg, .int kk] (pc_in g sz f)) (va_Qi (fun r f1 => (TQ vv kk r) ∧ (f = f1)) (pc_out g sz) (pc_A g sz)) 0 0 (pc_A g sz) := by
  refine pe_ofW (cc := prog_12_method_49_code) (maxL := 6) (ret := (some .int)) (lv := [(0, .ref A), (1, .int (nI fr9)), (2, .int sg), (3, .int kk)]) (by decide) (Nat.le_of_ble_eq_true rfl) rfl ?_
  intro p e s m args below meth c ls hx hb hr hml hlocks hown hB hP hK hD hsz hS hl
  subst hsz
  refine lv_iload_n hx hb d_M_told_0 rfl (lv_at hl 3 rfl) ?_
  refine lv_if_ge (tgt := 21) hx hb d_M_told_1 (by decide) (fun b1 => ?_) (fun b1 => ?_)
  · skip
    obtain ⟨q, hq, rfl⟩ := nI_of (Int32.not_lt.mpr b1)
    refine lv_iload_n hx hb d_M_told_21 rfl (lv_at hl 3 rfl) ?_
    refine lv_bipush (v := nI 120) hx hb d_M_told_22 (by decide) ?_
    refine lv_icmp_ge (tgt := 38) hx hb d_M_told_24 (by decide) (fun b2 => ?_) (fun b2 => ?_)
    · skip
      replace b2 := (nI_leI (a := 120) (b := q) (by omega) (by omega)).mp b2
      refine lv_iconst (v := nI 0) hx hb d_M_told_38 (by decide) ?_
      refine lv_istore (lv' := [(4, .int (nI 0)), (0, .ref A), (1, .int (nI fr9)), (2, .int sg), (3, .int (nI q))]) hx hb d_M_told_39 hl (by decide) rfl (fun ls hl => ?_)
      refine lv_iconst (v := nI 0) hx hb d_M_told_41 (by decide) ?_
      refine lv_istore (lv' := [(5, .int (nI 0)), (4, .int (nI 0)), (0, .ref A), (1, .int (nI fr9)), (2, .int sg), (3, .int (nI q))]) hx hb d_M_told_42 hl (by decide) rfl (fun ls hl => ?_)
      obtain ⟨X9, hX9⟩ : ∃ z : Nat, z = 0 := ⟨_, rfl⟩
      have hX6 : X9 < 1000000 := by omega
      have hXq : ∀ i, X9 / 10 ^ i % 10 = 0 := fun i => by rw [hX9, Nat.zero_div]
      have hXd : X9 / 10 ^ (q % 6) % 10 = vv.natAbs / 10 ^ q % 10 := by rw [hXq, ← hsv.2]; exact td_0 c6A hu9 (by omega)
      have lp3 : ∀ (k5 : Nat) (y : Nat) (i : Nat) (H : Heap) (locs : List Loc) (ls : Array Slot), (6 < i + k5) → (i ≤ q % 6) → (y = X9 / 10 ^ i) → (y < 1000000) → lv_has ls 6 [(5, .int (nI i)), (4, .int (nI y)), (0, .ref A), (1, .int (nI fr9)), (2, .int sg), (3, .int (nI q))] → va_P g.D vcl (va_pl g.LP f) H → va_D (pc_A g s.heap.size) (va_pl g.LP f) → va_S (pc_A g s.heap.size) s.heap H locs → W p l e ({ frames := 1, cells := 0, slots := 0, locals := 26 }) s m args below meth c H locs 0 0 (MQ below (va_Qi (fun r f1 => (TQ vv (nI q) r) ∧ (f = f1)) (pc_out g s.heap.size) (pc_A g s.heap.size)) args s 0 0 (pc_A g s.heap.size)) (F0 m 44 ls []) := by
        intro k5
        induction k5 with
        | zero => intros; exfalso; omega
        | succ k5 ih6 =>
          intro y i H locs ls hfu7 hi hy hyb hl hP hD hS
          refine lv_iload hx hb d_M_told_44 (lv_at hl 0 rfl) ?_
          refine lv_iload_n hx hb d_M_told_46 rfl (lv_at hl 5 rfl) ?_
          refine lv_bipush (v := nI 6) hx hb d_M_told_47 (by decide) ?_
          refine pf_iremN (x := q) (y := 6) hx hb (by omega) (by omega) (by omega) d_M_told_49 ?_
          refine lv_icmp_ge (tgt := 66) hx hb d_M_told_50 (by decide) (fun b10 => ?_) (fun b10 => ?_)
          · skip
            replace b10 := (nI_leI (a := q % 6) (b := i) (by omega) (by omega)).mp b10
            refine lv_iload hx hb d_M_told_66 (lv_at hl 1 rfl) ?_
            refine lv_bipush (v := nI 10) hx hb d_M_told_68 (by decide) ?_
            refine pf_iremN (x := y) (y := 10) hx hb (by omega) (by omega) (by omega) d_M_told_70 ?_
            exact pe_iret hx hb hr hlocks hK hP hD hS d_M_told_71 ⟨(Or.inr (Or.inr ⟨q, by omega, rfl, congrArg nI (by rw [hy, show i = q % 6 by omega]; exact hXd)⟩)), rfl⟩
          · skip
            replace b10 := mt (nI_leI (a := q % 6) (b := i) (by omega) (by omega)).mpr b10
            refine lv_iload hx hb d_M_told_53 (lv_at hl 1 rfl) ?_
            refine lv_bipush (v := nI 10) hx hb d_M_told_55 (by decide) ?_
            refine pf_idivN (x := y) (y := 10) hx hb (by omega) (by omega) (by omega) d_M_told_57 ?_
            refine lv_istore (lv' := [(4, .int (nI (y / 10))), (5, .int (nI i)), (0, .ref A), (1, .int (nI fr9)), (2, .int sg), (3, .int (nI q))]) hx hb d_M_told_58 hl (by decide) rfl (fun ls hl => ?_)
            refine lv_iinc (k := 1) (v := nI (i + 1)) (lv' := [(5, .int (nI (i + 1))), (4, .int (nI (y / 10))), (0, .ref A), (1, .int (nI fr9)), (2, .int sg), (3, .int (nI q))]) hx hb d_M_told_60 hl rfl (by rw [nI_succ]; rfl) (by decide) rfl (fun ls hl => ?_)
            refine lv_goto (tgt := 44) hx hb d_M_told_63 (by decide) ?_
            exact ih6 (y / 10) (i + 1) H locs ls (by omega) (by omega) (by rw [hy, Nat.div_div_eq_div_mul, ← Nat.pow_succ]) (by omega) hl hP hD hS
      exact lp3 7 0 0 s.heap [] ls (by omega) (by omega) (by rw [Nat.pow_zero, Nat.div_one]; exact hX9.symm) (by omega) hl hP hD hS
    · skip
      replace b2 := mt (nI_leI (a := 120) (b := q) (by omega) (by omega)).mpr b2
      refine lv_aload_n hx hb d_M_told_27 rfl (lv_at hl 0 rfl) ?_
      refine lv_iload_n hx hb d_M_told_28 rfl (lv_at hl 1 rfl) ?_
      refine lv_iload_n hx hb d_M_told_29 rfl (lv_at hl 3 rfl) ?_
      refine lv_bipush (v := nI 6) hx hb d_M_told_30 (by decide) ?_
      refine pf_idivN (x := q) (y := 6) hx hb (by omega) (by omega) (by omega) d_M_told_32 ?_
      refine pf_iaddN (x := fr9) (y := q / 6) hx hb d_M_told_33 ?_
      refine pf_iald (i := fr9 + (q / 6)) hx hb hK hP (lo_in hL t_A (by decide)) eA (lo_t58 hL _ t_A) (by omega) (by decide) d_M_told_34 ?_
      have hd11 := dg6_lt c6A (j := fr9 + (q / 6)) (by omega)
      refine lv_topi (fun z_ hz_ => ?_)
      obtain rfl : z_ = nI (dg hA (fr9 + (q / 6))) := hz_.trans (dg6_eq c6A (by omega))
      refine lv_goto (tgt := 39) hx hb d_M_told_35 (by decide) ?_
      refine lv_istore (lv' := [(4, .int (nI (dg hA (fr9 + (q / 6))))), (0, .ref A), (1, .int (nI fr9)), (2, .int sg), (3, .int (nI q))]) hx hb d_M_told_39 hl (by decide) rfl (fun ls hl => ?_)
      refine lv_iconst (v := nI 0) hx hb d_M_told_41 (by decide) ?_
      refine lv_istore (lv' := [(5, .int (nI 0)), (4, .int (nI (dg hA (fr9 + (q / 6))))), (0, .ref A), (1, .int (nI fr9)), (2, .int sg), (3, .int (nI q))]) hx hb d_M_told_42 hl (by decide) rfl (fun ls hl => ?_)
      obtain ⟨X9, hX9⟩ : ∃ z : Nat, z = dg hA (fr9 + (q / 6)) := ⟨_, rfl⟩
      have hX6 : X9 < 1000000 := by omega
      have hXd : X9 / 10 ^ (q % 6) % 10 = vv.natAbs / 10 ^ q % 10 := by rw [hX9, hfr, ← hsv.2]; exact td_k c6A hu9 (by omega)
      have lp12 : ∀ (k14 : Nat) (y : Nat) (i : Nat) (H : Heap) (locs : List Loc) (ls : Array Slot), (6 < i + k14) → (i ≤ q % 6) → (y = X9 / 10 ^ i) → (y < 1000000) → lv_has ls 6 [(5, .int (nI i)), (4, .int (nI y)), (0, .ref A), (1, .int (nI fr9)), (2, .int sg), (3, .int (nI q))] → va_P g.D vcl (va_pl g.LP f) H → va_D (pc_A g s.heap.size) (va_pl g.LP f) → va_S (pc_A g s.heap.size) s.heap H locs → W p l e ({ frames := 1, cells := 0, slots := 0, locals := 26 }) s m args below meth c H locs 0 0 (MQ below (va_Qi (fun r f1 => (TQ vv (nI q) r) ∧ (f = f1)) (pc_out g s.heap.size) (pc_A g s.heap.size)) args s 0 0 (pc_A g s.heap.size)) (F0 m 44 ls []) := by
        intro k14
        induction k14 with
        | zero => intros; exfalso; omega
        | succ k14 ih15 =>
          intro y i H locs ls hfu16 hi hy hyb hl hP hD hS
          refine lv_iload hx hb d_M_told_44 (lv_at hl 0 rfl) ?_
          refine lv_iload_n hx hb d_M_told_46 rfl (lv_at hl 5 rfl) ?_
          refine lv_bipush (v := nI 6) hx hb d_M_told_47 (by decide) ?_
          refine pf_iremN (x := q) (y := 6) hx hb (by omega) (by omega) (by omega) d_M_told_49 ?_
          refine lv_icmp_ge (tgt := 66) hx hb d_M_told_50 (by decide) (fun b19 => ?_) (fun b19 => ?_)
          · skip
            replace b19 := (nI_leI (a := q % 6) (b := i) (by omega) (by omega)).mp b19
            refine lv_iload hx hb d_M_told_66 (lv_at hl 1 rfl) ?_
            refine lv_bipush (v := nI 10) hx hb d_M_told_68 (by decide) ?_
            refine pf_iremN (x := y) (y := 10) hx hb (by omega) (by omega) (by omega) d_M_told_70 ?_
            exact pe_iret hx hb hr hlocks hK hP hD hS d_M_told_71 ⟨(Or.inr (Or.inr ⟨q, by omega, rfl, congrArg nI (by rw [hy, show i = q % 6 by omega]; exact hXd)⟩)), rfl⟩
          · skip
            replace b19 := mt (nI_leI (a := q % 6) (b := i) (by omega) (by omega)).mpr b19
            refine lv_iload hx hb d_M_told_53 (lv_at hl 1 rfl) ?_
            refine lv_bipush (v := nI 10) hx hb d_M_told_55 (by decide) ?_
            refine pf_idivN (x := y) (y := 10) hx hb (by omega) (by omega) (by omega) d_M_told_57 ?_
            refine lv_istore (lv' := [(4, .int (nI (y / 10))), (5, .int (nI i)), (0, .ref A), (1, .int (nI fr9)), (2, .int sg), (3, .int (nI q))]) hx hb d_M_told_58 hl (by decide) rfl (fun ls hl => ?_)
            refine lv_iinc (k := 1) (v := nI (i + 1)) (lv' := [(5, .int (nI (i + 1))), (4, .int (nI (y / 10))), (0, .ref A), (1, .int (nI fr9)), (2, .int sg), (3, .int (nI q))]) hx hb d_M_told_60 hl rfl (by rw [nI_succ]; rfl) (by decide) rfl (fun ls hl => ?_)
            refine lv_goto (tgt := 44) hx hb d_M_told_63 (by decide) ?_
            exact ih15 (y / 10) (i + 1) H locs ls (by omega) (by omega) (by rw [hy, Nat.div_div_eq_div_mul, ← Nat.pow_succ]) (by omega) hl hP hD hS
      exact lp12 7 (dg hA (fr9 + (q / 6))) 0 s.heap [] ls (by omega) (by omega) (by rw [Nat.pow_zero, Nat.div_one]; exact hX9.symm) (by omega) hl hP hD hS
  · skip
    have hkn := b1
    refine lv_iload_n hx hb d_M_told_4 rfl (lv_at hl 3 rfl) ?_
    refine lv_iconst (v := (-1)) hx hb d_M_told_5 (by decide) ?_
    refine lv_icmp_ne (tgt := 13) hx hb d_M_told_6 (by decide) (fun b20 => ?_) (fun b20 => ?_)
    · skip
      have hk2 := k_m2 hkn b20 hk3
      refine lv_aload_n hx hb d_M_told_13 rfl (lv_at hl 0 rfl) ?_
      refine lv_iload_n hx hb d_M_told_14 rfl (lv_at hl 1 rfl) ?_
      refine lv_bipush (v := nI 20) hx hb d_M_told_15 (by decide) ?_
      refine pcc_i (va_runS (As := [.ref A, .int (nI fr9), .int (nI 20)]) (rest := []) ⟨hx, hb, hml, hown, tb_nil⟩ (w_digitsOf58 l g s.heap.size f A fr9 20 hA hL t_A hI eA c6A (by omega)) ⟨(callB_of 3 (tb_one (wd_1257 hB _)) tb_good1 rfl rfl rfl (wd_82 hB _) (wd_1255 hB _) (by decide +kernel) ⟨Nat.le_of_ble_eq_true rfl, Nat.le_of_ble_eq_true rfl⟩), (wd_1256 hB _)⟩ ⟨pe_bl, pe_pre hB hK hP hD⟩ rfl rfl hl.1 rfl (lv_room (Nat.le_of_ble_eq_true rfl)) d_M_told_17 ⟨Nat.le_of_ble_eq_true rfl, Nat.le_of_ble_eq_true rfl⟩) hS (fun r21 f22 H locs hq23 hP hD hS => ?_)
      obtain ⟨dt_24, rfl⟩ := hq23
      obtain ⟨kr25, hkr25_0, hkr25_1, rfl⟩ := dt_24
      exact pe_iret hx hb hr hlocks hK hP hD hS d_M_told_20 ⟨(Or.inr (Or.inl ⟨hk2, kr25, hkr25_0, by rw [← hsv.2, ← td_sl hfr]; exact hkr25_1, rfl⟩)), rfl⟩
    · skip
      have hk1 : kk = -1 := (by first | exact b20 | exact Classical.not_not.mp b20)
      refine lv_iload_n hx hb d_M_told_9 rfl (lv_at hl 2 rfl) ?_
      refine lv_goto (tgt := 20) hx hb d_M_told_10 (by decide) ?_
      exact pe_iret hx hb hr hlocks hK hP hD hS d_M_told_20 ⟨(Or.inl ⟨hk1, hsv.1⟩), rfl⟩
set_option maxHeartbeats 4000000 in
set_option maxRecDepth 100000 in
theorem w_told60 (l : Launch) (g : Lay) (sz : Nat) (f : Nat → va_E) (A : Nat) (fr9 : Nat) (sg : Int32) (kk : Int32) (hA : Nat → Int32) (u9 : Nat) (vv : Int) (hL : LO g) (t_A : g.tg A = 60) (hI : OC g f) (eA : f A = .inl (g.ac A, 240, .inl hA)) (c6A : C6 240 hA) (hfr : fr9 = 20 * u9) (hu9 : 20 * u9 + 20 ≤ 240) (hsv : sg = sgI vv ∧ sl hA u9 = vv.natAbs) (hk3 : -2 ≤ kk) : Met l ⟨"BigRunnerModel", "told", "([IIII)I"⟩ [Cond.code ⟨"BigRunnerModel", "told", "([IIII)I"⟩ prog_12_method_49_code 6 (some .int)] ({ frames := 1, cells := 0, slots := 0, locals := 26 }) (va_Pc [.ref A, .int (nI fr9), .int sg, .int kk] (pc_in g sz f)) (va_Qi (fun r f1 => (TQ vv kk r) ∧ (f = f1)) (pc_out g sz) (pc_A g sz)) 0 0 (pc_A g sz) := by
  refine pe_ofW (cc := prog_12_method_49_code) (maxL := 6) (ret := (some .int)) (lv := [(0, .ref A), (1, .int (nI fr9)), (2, .int sg), (3, .int kk)]) (by decide) (Nat.le_of_ble_eq_true rfl) rfl ?_
  intro p e s m args below meth c ls hx hb hr hml hlocks hown hB hP hK hD hsz hS hl
  subst hsz
  refine lv_iload_n hx hb d_M_told_0 rfl (lv_at hl 3 rfl) ?_
  refine lv_if_ge (tgt := 21) hx hb d_M_told_1 (by decide) (fun b1 => ?_) (fun b1 => ?_)
  · skip
    obtain ⟨q, hq, rfl⟩ := nI_of (Int32.not_lt.mpr b1)
    refine lv_iload_n hx hb d_M_told_21 rfl (lv_at hl 3 rfl) ?_
    refine lv_bipush (v := nI 120) hx hb d_M_told_22 (by decide) ?_
    refine lv_icmp_ge (tgt := 38) hx hb d_M_told_24 (by decide) (fun b2 => ?_) (fun b2 => ?_)
    · skip
      replace b2 := (nI_leI (a := 120) (b := q) (by omega) (by omega)).mp b2
      refine lv_iconst (v := nI 0) hx hb d_M_told_38 (by decide) ?_
      refine lv_istore (lv' := [(4, .int (nI 0)), (0, .ref A), (1, .int (nI fr9)), (2, .int sg), (3, .int (nI q))]) hx hb d_M_told_39 hl (by decide) rfl (fun ls hl => ?_)
      refine lv_iconst (v := nI 0) hx hb d_M_told_41 (by decide) ?_
      refine lv_istore (lv' := [(5, .int (nI 0)), (4, .int (nI 0)), (0, .ref A), (1, .int (nI fr9)), (2, .int sg), (3, .int (nI q))]) hx hb d_M_told_42 hl (by decide) rfl (fun ls hl => ?_)
      obtain ⟨X9, hX9⟩ : ∃ z : Nat, z = 0 := ⟨_, rfl⟩
      have hX6 : X9 < 1000000 := by omega
      have hXq : ∀ i, X9 / 10 ^ i % 10 = 0 := fun i => by rw [hX9, Nat.zero_div]
      have hXd : X9 / 10 ^ (q % 6) % 10 = vv.natAbs / 10 ^ q % 10 := by rw [hXq, ← hsv.2]; exact td_0 c6A hu9 (by omega)
      have lp3 : ∀ (k5 : Nat) (y : Nat) (i : Nat) (H : Heap) (locs : List Loc) (ls : Array Slot), (6 < i + k5) → (i ≤ q % 6) → (y = X9 / 10 ^ i) → (y < 1000000) → lv_has ls 6 [(5, .int (nI i)), (4, .int (nI y)), (0, .ref A), (1, .int (nI fr9)), (2, .int sg), (3, .int (nI q))] → va_P g.D vcl (va_pl g.LP f) H → va_D (pc_A g s.heap.size) (va_pl g.LP f) → va_S (pc_A g s.heap.size) s.heap H locs → W p l e ({ frames := 1, cells := 0, slots := 0, locals := 26 }) s m args below meth c H locs 0 0 (MQ below (va_Qi (fun r f1 => (TQ vv (nI q) r) ∧ (f = f1)) (pc_out g s.heap.size) (pc_A g s.heap.size)) args s 0 0 (pc_A g s.heap.size)) (F0 m 44 ls []) := by
        intro k5
        induction k5 with
        | zero => intros; exfalso; omega
        | succ k5 ih6 =>
          intro y i H locs ls hfu7 hi hy hyb hl hP hD hS
          refine lv_iload hx hb d_M_told_44 (lv_at hl 0 rfl) ?_
          refine lv_iload_n hx hb d_M_told_46 rfl (lv_at hl 5 rfl) ?_
          refine lv_bipush (v := nI 6) hx hb d_M_told_47 (by decide) ?_
          refine pf_iremN (x := q) (y := 6) hx hb (by omega) (by omega) (by omega) d_M_told_49 ?_
          refine lv_icmp_ge (tgt := 66) hx hb d_M_told_50 (by decide) (fun b10 => ?_) (fun b10 => ?_)
          · skip
            replace b10 := (nI_leI (a := q % 6) (b := i) (by omega) (by omega)).mp b10
            refine lv_iload hx hb d_M_told_66 (lv_at hl 1 rfl) ?_
            refine lv_bipush (v := nI 10) hx hb d_M_told_68 (by decide) ?_
            refine pf_iremN (x := y) (y := 10) hx hb (by omega) (by omega) (by omega) d_M_told_70 ?_
            exact pe_iret hx hb hr hlocks hK hP hD hS d_M_told_71 ⟨(Or.inr (Or.inr ⟨q, by omega, rfl, congrArg nI (by rw [hy, show i = q % 6 by omega]; exact hXd)⟩)), rfl⟩
          · skip
            replace b10 := mt (nI_leI (a := q % 6) (b := i) (by omega) (by omega)).mpr b10
            refine lv_iload hx hb d_M_told_53 (lv_at hl 1 rfl) ?_
            refine lv_bipush (v := nI 10) hx hb d_M_told_55 (by decide) ?_
            refine pf_idivN (x := y) (y := 10) hx hb (by omega) (by omega) (by omega) d_M_told_57 ?_
            refine lv_istore (lv' := [(4, .int (nI (y / 10))), (5, .int (nI i)), (0, .ref A), (1, .int (nI fr9)), (2, .int sg), (3, .int (nI q))]) hx hb d_M_told_58 hl (by decide) rfl (fun ls hl => ?_)
            refine lv_iinc (k := 1) (v := nI (i + 1)) (lv' := [(5, .int (nI (i + 1))), (4, .int (nI (y / 10))), (0, .ref A), (1, .int (nI fr9)), (2, .int sg), (3, .int (nI q))]) hx hb d_M_told_60 hl rfl (by rw [nI_succ]; rfl) (by decide) rfl (fun ls hl => ?_)
            refine lv_goto (tgt := 44) hx hb d_M_told_63 (by decide) ?_
            exact ih6 (y / 10) (i + 1) H locs ls (by omega) (by omega) (by rw [hy, Nat.div_div_eq_div_mul, ← Nat.pow_succ]) (by omega) hl hP hD hS
      exact lp3 7 0 0 s.heap [] ls (by omega) (by omega) (by rw [Nat.pow_zero, Nat.div_one]; exact hX9.symm) (by omega) hl hP hD hS
    · skip
      replace b2 := mt (nI_leI (a := 120) (b := q) (by omega) (by omega)).mpr b2
      refine lv_aload_n hx hb d_M_told_27 rfl (lv_at hl 0 rfl) ?_
      refine lv_iload_n hx hb d_M_told_28 rfl (lv_at hl 1 rfl) ?_
      refine lv_iload_n hx hb d_M_told_29 rfl (lv_at hl 3 rfl) ?_
      refine lv_bipush (v := nI 6) hx hb d_M_told_30 (by decide) ?_
      refine pf_idivN (x := q) (y := 6) hx hb (by omega) (by omega) (by omega) d_M_told_32 ?_
      refine pf_iaddN (x := fr9) (y := q / 6) hx hb d_M_told_33 ?_
      refine pf_iald (i := fr9 + (q / 6)) hx hb hK hP (lo_in hL t_A (by decide)) eA (lo_t60 hL _ t_A) (by omega) (by decide) d_M_told_34 ?_
      have hd11 := dg6_lt c6A (j := fr9 + (q / 6)) (by omega)
      refine lv_topi (fun z_ hz_ => ?_)
      obtain rfl : z_ = nI (dg hA (fr9 + (q / 6))) := hz_.trans (dg6_eq c6A (by omega))
      refine lv_goto (tgt := 39) hx hb d_M_told_35 (by decide) ?_
      refine lv_istore (lv' := [(4, .int (nI (dg hA (fr9 + (q / 6))))), (0, .ref A), (1, .int (nI fr9)), (2, .int sg), (3, .int (nI q))]) hx hb d_M_told_39 hl (by decide) rfl (fun ls hl => ?_)
      refine lv_iconst (v := nI 0) hx hb d_M_told_41 (by decide) ?_
      refine lv_istore (lv' := [(5, .int (nI 0)), (4, .int (nI (dg hA (fr9 + (q / 6))))), (0, .ref A), (1, .int (nI fr9)), (2, .int sg), (3, .int (nI q))]) hx hb d_M_told_42 hl (by decide) rfl (fun ls hl => ?_)
      obtain ⟨X9, hX9⟩ : ∃ z : Nat, z = dg hA (fr9 + (q / 6)) := ⟨_, rfl⟩
      have hX6 : X9 < 1000000 := by omega
      have hXd : X9 / 10 ^ (q % 6) % 10 = vv.natAbs / 10 ^ q % 10 := by rw [hX9, hfr, ← hsv.2]; exact td_k c6A hu9 (by omega)
      have lp12 : ∀ (k14 : Nat) (y : Nat) (i : Nat) (H : Heap) (locs : List Loc) (ls : Array Slot), (6 < i + k14) → (i ≤ q % 6) → (y = X9 / 10 ^ i) → (y < 1000000) → lv_has ls 6 [(5, .int (nI i)), (4, .int (nI y)), (0, .ref A), (1, .int (nI fr9)), (2, .int sg), (3, .int (nI q))] → va_P g.D vcl (va_pl g.LP f) H → va_D (pc_A g s.heap.size) (va_pl g.LP f) → va_S (pc_A g s.heap.size) s.heap H locs → W p l e ({ frames := 1, cells := 0, slots := 0, locals := 26 }) s m args below meth c H locs 0 0 (MQ below (va_Qi (fun r f1 => (TQ vv (nI q) r) ∧ (f = f1)) (pc_out g s.heap.size) (pc_A g s.heap.size)) args s 0 0 (pc_A g s.heap.size)) (F0 m 44 ls []) := by
        intro k14
        induction k14 with
        | zero => intros; exfalso; omega
        | succ k14 ih15 =>
          intro y i H locs ls hfu16 hi hy hyb hl hP hD hS
          refine lv_iload hx hb d_M_told_44 (lv_at hl 0 rfl) ?_
          refine lv_iload_n hx hb d_M_told_46 rfl (lv_at hl 5 rfl) ?_
          refine lv_bipush (v := nI 6) hx hb d_M_told_47 (by decide) ?_
          refine pf_iremN (x := q) (y := 6) hx hb (by omega) (by omega) (by omega) d_M_told_49 ?_
          refine lv_icmp_ge (tgt := 66) hx hb d_M_told_50 (by decide) (fun b19 => ?_) (fun b19 => ?_)
          · skip
            replace b19 := (nI_leI (a := q % 6) (b := i) (by omega) (by omega)).mp b19
            refine lv_iload hx hb d_M_told_66 (lv_at hl 1 rfl) ?_
            refine lv_bipush (v := nI 10) hx hb d_M_told_68 (by decide) ?_
            refine pf_iremN (x := y) (y := 10) hx hb (by omega) (by omega) (by omega) d_M_told_70 ?_
            exact pe_iret hx hb hr hlocks hK hP hD hS d_M_told_71 ⟨(Or.inr (Or.inr ⟨q, by omega, rfl, congrArg nI (by rw [hy, show i = q % 6 by omega]; exact hXd)⟩)), rfl⟩
          · skip
            replace b19 := mt (nI_leI (a := q % 6) (b := i) (by omega) (by omega)).mpr b19
            refine lv_iload hx hb d_M_told_53 (lv_at hl 1 rfl) ?_
            refine lv_bipush (v := nI 10) hx hb d_M_told_55 (by decide) ?_
            refine pf_idivN (x := y) (y := 10) hx hb (by omega) (by omega) (by omega) d_M_told_57 ?_
            refine lv_istore (lv' := [(4, .int (nI (y / 10))), (5, .int (nI i)), (0, .ref A), (1, .int (nI fr9)), (2, .int sg), (3, .int (nI q))]) hx hb d_M_told_58 hl (by decide) rfl (fun ls hl => ?_)
            refine lv_iinc (k := 1) (v := nI (i + 1)) (lv' := [(5, .int (nI (i + 1))), (4, .int (nI (y / 10))), (0, .ref A), (1, .int (nI fr9)), (2, .int sg), (3, .int (nI q))]) hx hb d_M_told_60 hl rfl (by rw [nI_succ]; rfl) (by decide) rfl (fun ls hl => ?_)
            refine lv_goto (tgt := 44) hx hb d_M_told_63 (by decide) ?_
            exact ih15 (y / 10) (i + 1) H locs ls (by omega) (by omega) (by rw [hy, Nat.div_div_eq_div_mul, ← Nat.pow_succ]) (by omega) hl hP hD hS
      exact lp12 7 (dg hA (fr9 + (q / 6))) 0 s.heap [] ls (by omega) (by omega) (by rw [Nat.pow_zero, Nat.div_one]; exact hX9.symm) (by omega) hl hP hD hS
  · skip
    have hkn := b1
    refine lv_iload_n hx hb d_M_told_4 rfl (lv_at hl 3 rfl) ?_
    refine lv_iconst (v := (-1)) hx hb d_M_told_5 (by decide) ?_
    refine lv_icmp_ne (tgt := 13) hx hb d_M_told_6 (by decide) (fun b20 => ?_) (fun b20 => ?_)
    · skip
      have hk2 := k_m2 hkn b20 hk3
      refine lv_aload_n hx hb d_M_told_13 rfl (lv_at hl 0 rfl) ?_
      refine lv_iload_n hx hb d_M_told_14 rfl (lv_at hl 1 rfl) ?_
      refine lv_bipush (v := nI 20) hx hb d_M_told_15 (by decide) ?_
      refine pcc_i (va_runS (As := [.ref A, .int (nI fr9), .int (nI 20)]) (rest := []) ⟨hx, hb, hml, hown, tb_nil⟩ (w_digitsOf60 l g s.heap.size f A fr9 20 hA hL t_A hI eA c6A (by omega)) ⟨(callB_of 3 (tb_one (wd_1257 hB _)) tb_good1 rfl rfl rfl (wd_82 hB _) (wd_1255 hB _) (by decide +kernel) ⟨Nat.le_of_ble_eq_true rfl, Nat.le_of_ble_eq_true rfl⟩), (wd_1256 hB _)⟩ ⟨pe_bl, pe_pre hB hK hP hD⟩ rfl rfl hl.1 rfl (lv_room (Nat.le_of_ble_eq_true rfl)) d_M_told_17 ⟨Nat.le_of_ble_eq_true rfl, Nat.le_of_ble_eq_true rfl⟩) hS (fun r21 f22 H locs hq23 hP hD hS => ?_)
      obtain ⟨dt_24, rfl⟩ := hq23
      obtain ⟨kr25, hkr25_0, hkr25_1, rfl⟩ := dt_24
      exact pe_iret hx hb hr hlocks hK hP hD hS d_M_told_20 ⟨(Or.inr (Or.inl ⟨hk2, kr25, hkr25_0, by rw [← hsv.2, ← td_sl hfr]; exact hkr25_1, rfl⟩)), rfl⟩
    · skip
      have hk1 : kk = -1 := (by first | exact b20 | exact Classical.not_not.mp b20)
      refine lv_iload_n hx hb d_M_told_9 rfl (lv_at hl 2 rfl) ?_
      refine lv_goto (tgt := 20) hx hb d_M_told_10 (by decide) ?_
      exact pe_iret hx hb hr hlocks hK hP hD hS d_M_told_20 ⟨(Or.inl ⟨hk1, hsv.1⟩), rfl⟩
set_option maxHeartbeats 4000000 in
set_option maxRecDepth 100000 in
theorem w_variable (l : Launch) (g : Lay) (sz : Nat) (f : Nat → va_E) (M : Nat) (mth : Int32) (mn : Nat) (mdr : Nat) (msz : Nat) (mix : Nat) (mdp : Nat) (mwt : Nat) (mop : Nat) (mtp : Nat) (mwa : Nat) (mgi : Nat) (mpc : Nat) (mst : Nat) (mtr : Nat) (msp : Nat) (mma : Int32) (mlg : Int32) (mdu : Int32) (hVL : Nat → Int32) (hVS : Nat → Int32) (vr : Nat → Int) (v : Int32) (kk : Int32) (hL : LO g) (t_M : g.tg M = 11) (hI : IV g f) (eM : f M = .inr (10, [.int mth, .ref (g.lk M 1), .int (nI mn), .ref (g.lk M 3), .ref (g.lk M 4), .int (nI mdr), .ref (g.lk M 6), .ref (g.lk M 7), .ref (g.lk M 8), .int (nI msz), .int (nI mix), .int (nI mdp), .ref (g.lk M 12), .int (nI mwt), .ref (g.lk M 14), .ref (g.lk M 15), .int (nI mop), .ref (g.lk M 17), .ref (g.lk M 18), .ref (g.lk M 19), .ref (g.lk M 20), .ref (g.lk M 21), .ref (g.lk M 22), .ref (g.lk M 23), .ref (g.lk M 24), .ref (g.lk M 25), .ref (g.lk M 26), .ref (g.lk M 27), .ref (g.lk M 28), .ref (g.lk M 29), .ref (g.lk M 30), .ref (g.lk M 31), .int (nI mtp), .ref (g.lk M 33), .ref (g.lk M 34), .ref (g.lk M 35), .int (nI mwa), .int (nI mgi), .int (nI mpc), .int (nI mst), .int (nI mtr), .int (nI msp), .int mma, .int mlg, .int mdu])) (hMB : mn ≤ 72 ∧ mdr ≤ 100 ∧ msz ≤ 100 ∧ mix ≤ 100 ∧ mdp ≤ 20 ∧ mwt ≤ 72 ∧ mop ≤ 40 ∧ mtp ≤ 80 ∧ mwa ≤ 20 ∧ mgi ≤ msp ∧ mpc ≤ 100 ∧ mst ≤ 4 ∧ mtr ≤ 3 ∧ msp ≤ 3000 ∧ (mdu = 0 ∨ mdu = 1)) (eVL : f (g.lk M 26) = .inl (g.ac (g.lk M 26), 200, .inl hVL)) (eVS : f (g.lk M 27) = .inl (g.ac (g.lk M 27), 10, .inl hVS)) (c6VL : C6 200 hVL) (hVR : 0 < mst → VRS hVL hVS vr) : Met l ⟨"BigRunnerModel", "variable", "(II)I"⟩ [Cond.code ⟨"BigRunnerModel", "variable", "(II)I"⟩ prog_12_method_50_code 4 (some .int)] ({ frames := 2, cells := 0, slots := 0, locals := 51 }) (va_Pc [.ref M, .int v, .int kk] (pc_in g sz f)) (va_Qi (fun r f1 => (((0 < mst ∧ vok v = true ∧ -2 ≤ kk) ∧ TQ (vr v.toNatClampNeg) kk r ∧ f1 M = .inr (10, [.int (nI 0), .ref (g.lk M 1), .int (nI mn), .ref (g.lk M 3), .ref (g.lk M 4), .int (nI mdr), .ref (g.lk M 6), .ref (g.lk M 7), .ref (g.lk M 8), .int (nI msz), .int (nI mix), .int (nI mdp), .ref (g.lk M 12), .int (nI mwt), .ref (g.lk M 14), .ref (g.lk M 15), .int (nI mop), .ref (g.lk M 17), .ref (g.lk M 18), .ref (g.lk M 19), .ref (g.lk M 20), .ref (g.lk M 21), .ref (g.lk M 22), .ref (g.lk M 23), .ref (g.lk M 24), .ref (g.lk M 25), .ref (g.lk M 26), .ref (g.lk M 27), .ref (g.lk M 28), .ref (g.lk M 29), .ref (g.lk M 30), .ref (g.lk M 31), .int (nI mtp), .ref (g.lk M 33), .ref (g.lk M 34), .ref (g.lk M 35), .int (nI mwa), .int (nI mgi), .int (nI mpc), .int (nI mst), .int (nI mtr), .int (nI msp), .int mma, .int mlg, .int mdu])) ∨ (¬ (0 < mst ∧ vok v = true ∧ -2 ≤ kk) ∧ f1 M = .inr (10, [.int (nI 1), .ref (g.lk M 1), .int (nI mn), .ref (g.lk M 3), .ref (g.lk M 4), .int (nI mdr), .ref (g.lk M 6), .ref (g.lk M 7), .ref (g.lk M 8), .int (nI msz), .int (nI mix), .int (nI mdp), .ref (g.lk M 12), .int (nI mwt), .ref (g.lk M 14), .ref (g.lk M 15), .int (nI mop), .ref (g.lk M 17), .ref (g.lk M 18), .ref (g.lk M 19), .ref (g.lk M 20), .ref (g.lk M 21), .ref (g.lk M 22), .ref (g.lk M 23), .ref (g.lk M 24), .ref (g.lk M 25), .ref (g.lk M 26), .ref (g.lk M 27), .ref (g.lk M 28), .ref (g.lk M 29), .ref (g.lk M 30), .ref (g.lk M 31), .int (nI mtp), .ref (g.lk M 33), .ref (g.lk M 34), .ref (g.lk M 35), .int (nI mwa), .int (nI mgi), .int (nI mpc), .int (nI mst), .int (nI mtr), .int (nI msp), .int mma, .int mlg, .int mdu]))) ∧ (IV g f1) ∧ (un [11] g f f1)) (pc_out g sz) (pc_A g sz)) 0 0 (pc_A g sz) := by
  refine pe_ofW (cc := prog_12_method_50_code) (maxL := 4) (ret := (some .int)) (lv := [(0, .ref M), (1, .int v), (2, .int kk)]) (by decide) (Nat.le_of_ble_eq_true rfl) rfl ?_
  intro p e s m args below meth c ls hx hb hr hml hlocks hown hB hP hK hD hsz hS hl
  subst hsz
  have hu : un [11] g f f := un.rf
  obtain ⟨hmb0, hmb1, hmb2, hmb3, hmb4, hmb5, hmb6, hmb7, hmb8, hmb9, hmb10, hmb11, hmb12, hmb13, hmb14⟩ := hMB
  refine lv_iload_n hx hb d_M_variable_0 rfl (lv_at hl 1 rfl) ?_
  refine lv_if_lt (tgt := 27) hx hb d_M_variable_1 (by decide) (fun b1 => ?_) (fun b1 => ?_)
  · skip
    refine lv_iconst (v := nI 0) hx hb d_M_variable_27 (by decide) ?_
    refine lv_istore_n (lv' := [(3, .int (nI 0)), (0, .ref M), (1, .int v), (2, .int kk)]) hx hb d_M_variable_28 rfl hl (by decide) rfl (fun ls hl => ?_)
    refine lv_aload_n hx hb d_M_variable_29 rfl (lv_at hl 1 rfl) ?_
    refine lv_iload_n hx hb d_M_variable_30 rfl (lv_at hl 0 rfl) ?_
    refine lv_if_eq (tgt := 38) hx hb d_M_variable_31 (by decide) (fun b2 => ?_) (fun b2 => ?_)
    · skip
      replace b2 := (nI_eq (a := 0) (b := 0) (by omega) (by omega)).mp b2
      refine lv_iconst (v := nI 1) hx hb d_M_variable_38 (by decide) ?_
      refine pf_put (v := .int (nI 1)) (ty := .int) (fs' := [.int (nI 1), .ref (g.lk M 1), .int (nI mn), .ref (g.lk M 3), .ref (g.lk M 4), .int (nI mdr), .ref (g.lk M 6), .ref (g.lk M 7), .ref (g.lk M 8), .int (nI msz), .int (nI mix), .int (nI mdp), .ref (g.lk M 12), .int (nI mwt), .ref (g.lk M 14), .ref (g.lk M 15), .int (nI mop), .ref (g.lk M 17), .ref (g.lk M 18), .ref (g.lk M 19), .ref (g.lk M 20), .ref (g.lk M 21), .ref (g.lk M 22), .ref (g.lk M 23), .ref (g.lk M 24), .ref (g.lk M 25), .ref (g.lk M 26), .ref (g.lk M 27), .ref (g.lk M 28), .ref (g.lk M 29), .ref (g.lk M 30), .ref (g.lk M 31), .int (nI mtp), .ref (g.lk M 33), .ref (g.lk M 34), .ref (g.lk M 35), .int (nI mwa), .int (nI mgi), .int (nI mpc), .int (nI mst), .int (nI mtr), .int (nI msp), .int mma, .int mlg, .int mdu]) (C := "BigRunnerModel") (T := FT10) (N := 45) hx hb (hw10 hB _) (fun _ h9 => h9) TY10 ok10 nm10 hown hK hP hD hS (lo_in hL t_M (by decide)) eM rfl 0 (by decide) (wd_947 hB _) rfl (by decide +kernel) rfl rfl (Nat.le_of_ble_eq_true rfl) rfl d_M_variable_39 (fun f3 H locs e4 k5 hP hD hS => ?_)
      have eVL := (k5 (g.lk M 26) (tg_ne (lo_k11_26 hL _ t_M) t_M (by decide))).trans eVL
      have eVS := (k5 (g.lk M 27) (tg_ne (lo_k11_27 hL _ t_M) t_M (by decide))).trans eVS
      have hu := hu.st k5 t_M (by decide)
      have hk6 : ∀ b, b ≠ M → f3 b = f b := k5
      refine lv_iload_n hx hb d_M_variable_42 rfl (lv_at hl 0 rfl) ?_
      refine lv_if_eq (tgt := 67) hx hb d_M_variable_43 (by decide) (fun b7 => ?_) (fun b7 => ?_)
      · skip
        replace b7 := (nI_eq (a := 0) (b := 0) (by omega) (by omega)).mp b7
        refine lv_iconst (v := nI 0) hx hb d_M_variable_67 (by decide) ?_
        have hI8 := iv_1 hI hL t_M (by decide) hk6 (oc_11.mk t_M (⟨((nI 1)), mn, mdr, msz, mix, mdp, mwt, mop, mtp, mwa, mgi, mpc, mst, mtr, msp, mma, mlg, mdu, e4, (by omega), (by omega), (by omega), (by omega), (by omega), (by omega), (by omega), (by omega), (by omega), (by omega), (by omega), (by omega), (by omega), (by omega), hmb14⟩))
        exact pe_iret hx hb hr hlocks hK hP hD hS d_M_variable_68 ⟨(Or.inr ⟨(fun z9 => vok_0 b1 z9.2.1), e4⟩), hI8, hu⟩
      · skip
        replace b7 := mt (nI_eq (a := 0) (b := 0) (by omega) (by omega)).mpr b7
        exfalso; omega
    · skip
      replace b2 := mt (nI_eq (a := 0) (b := 0) (by omega) (by omega)).mpr b2
      exfalso; omega
  · skip
    refine lv_iload_n hx hb d_M_variable_4 rfl (lv_at hl 1 rfl) ?_
    refine lv_bipush (v := nI 10) hx hb d_M_variable_5 (by decide) ?_
    refine lv_icmp_ge (tgt := 27) hx hb d_M_variable_7 (by decide) (fun b9 => ?_) (fun b9 => ?_)
    · skip
      refine lv_iconst (v := nI 0) hx hb d_M_variable_27 (by decide) ?_
      refine lv_istore_n (lv' := [(3, .int (nI 0)), (0, .ref M), (1, .int v), (2, .int kk)]) hx hb d_M_variable_28 rfl hl (by decide) rfl (fun ls hl => ?_)
      refine lv_aload_n hx hb d_M_variable_29 rfl (lv_at hl 1 rfl) ?_
      refine lv_iload_n hx hb d_M_variable_30 rfl (lv_at hl 0 rfl) ?_
      refine lv_if_eq (tgt := 38) hx hb d_M_variable_31 (by decide) (fun b10 => ?_) (fun b10 => ?_)
      · skip
        replace b10 := (nI_eq (a := 0) (b := 0) (by omega) (by omega)).mp b10
        refine lv_iconst (v := nI 1) hx hb d_M_variable_38 (by decide) ?_
        refine pf_put (v := .int (nI 1)) (ty := .int) (fs' := [.int (nI 1), .ref (g.lk M 1), .int (nI mn), .ref (g.lk M 3), .ref (g.lk M 4), .int (nI mdr), .ref (g.lk M 6), .ref (g.lk M 7), .ref (g.lk M 8), .int (nI msz), .int (nI mix), .int (nI mdp), .ref (g.lk M 12), .int (nI mwt), .ref (g.lk M 14), .ref (g.lk M 15), .int (nI mop), .ref (g.lk M 17), .ref (g.lk M 18), .ref (g.lk M 19), .ref (g.lk M 20), .ref (g.lk M 21), .ref (g.lk M 22), .ref (g.lk M 23), .ref (g.lk M 24), .ref (g.lk M 25), .ref (g.lk M 26), .ref (g.lk M 27), .ref (g.lk M 28), .ref (g.lk M 29), .ref (g.lk M 30), .ref (g.lk M 31), .int (nI mtp), .ref (g.lk M 33), .ref (g.lk M 34), .ref (g.lk M 35), .int (nI mwa), .int (nI mgi), .int (nI mpc), .int (nI mst), .int (nI mtr), .int (nI msp), .int mma, .int mlg, .int mdu]) (C := "BigRunnerModel") (T := FT10) (N := 45) hx hb (hw10 hB _) (fun _ h9 => h9) TY10 ok10 nm10 hown hK hP hD hS (lo_in hL t_M (by decide)) eM rfl 0 (by decide) (wd_947 hB _) rfl (by decide +kernel) rfl rfl (Nat.le_of_ble_eq_true rfl) rfl d_M_variable_39 (fun f11 H locs e12 k13 hP hD hS => ?_)
        have eVL := (k13 (g.lk M 26) (tg_ne (lo_k11_26 hL _ t_M) t_M (by decide))).trans eVL
        have eVS := (k13 (g.lk M 27) (tg_ne (lo_k11_27 hL _ t_M) t_M (by decide))).trans eVS
        have hu := hu.st k13 t_M (by decide)
        have hk14 : ∀ b, b ≠ M → f11 b = f b := k13
        refine lv_iload_n hx hb d_M_variable_42 rfl (lv_at hl 0 rfl) ?_
        refine lv_if_eq (tgt := 67) hx hb d_M_variable_43 (by decide) (fun b15 => ?_) (fun b15 => ?_)
        · skip
          replace b15 := (nI_eq (a := 0) (b := 0) (by omega) (by omega)).mp b15
          refine lv_iconst (v := nI 0) hx hb d_M_variable_67 (by decide) ?_
          have hI16 := iv_1 hI hL t_M (by decide) hk14 (oc_11.mk t_M (⟨((nI 1)), mn, mdr, msz, mix, mdp, mwt, mop, mtp, mwa, mgi, mpc, mst, mtr, msp, mma, mlg, mdu, e12, (by omega), (by omega), (by omega), (by omega), (by omega), (by omega), (by omega), (by omega), (by omega), (by omega), (by omega), (by omega), (by omega), (by omega), hmb14⟩))
          exact pe_iret hx hb hr hlocks hK hP hD hS d_M_variable_68 ⟨(Or.inr ⟨(fun z9 => vok_10 b9 z9.2.1), e12⟩), hI16, hu⟩
        · skip
          replace b15 := mt (nI_eq (a := 0) (b := 0) (by omega) (by omega)).mpr b15
          exfalso; omega
      · skip
        replace b10 := mt (nI_eq (a := 0) (b := 0) (by omega) (by omega)).mpr b10
        exfalso; omega
    · skip
      obtain ⟨vk17, hvk17, rfl⟩ := ix_on (n := 10) (by decide) b1 (Int32.not_le.mp b9)
      refine lv_aload_n hx hb d_M_variable_10 rfl (lv_at hl 0 rfl) ?_
      refine pf_get (v := .int (nI mst)) (C := "BigRunnerModel") (T := FT10) (N := 45) hx hb (hw10 hB _) (fun _ h9 => h9) hown hK hP (lo_in hL t_M (by decide)) eM rfl 39 (by decide) (wd_986 hB _) rfl d_M_variable_11 ?_
      refine lv_if_le (tgt := 27) hx hb d_M_variable_14 (by decide) (fun b18 => ?_) (fun b18 => ?_)
      · skip
        replace b18 := (nI_leI (a := mst) (b := 0) (by omega) (by omega)).mp b18
        refine lv_iconst (v := nI 0) hx hb d_M_variable_27 (by decide) ?_
        refine lv_istore_n (lv' := [(3, .int (nI 0)), (0, .ref M), (1, .int (nI vk17)), (2, .int kk)]) hx hb d_M_variable_28 rfl hl (by decide) rfl (fun ls hl => ?_)
        refine lv_aload_n hx hb d_M_variable_29 rfl (lv_at hl 1 rfl) ?_
        refine lv_iload_n hx hb d_M_variable_30 rfl (lv_at hl 0 rfl) ?_
        refine lv_if_eq (tgt := 38) hx hb d_M_variable_31 (by decide) (fun b19 => ?_) (fun b19 => ?_)
        · skip
          replace b19 := (nI_eq (a := 0) (b := 0) (by omega) (by omega)).mp b19
          refine lv_iconst (v := nI 1) hx hb d_M_variable_38 (by decide) ?_
          refine pf_put (v := .int (nI 1)) (ty := .int) (fs' := [.int (nI 1), .ref (g.lk M 1), .int (nI mn), .ref (g.lk M 3), .ref (g.lk M 4), .int (nI mdr), .ref (g.lk M 6), .ref (g.lk M 7), .ref (g.lk M 8), .int (nI msz), .int (nI mix), .int (nI mdp), .ref (g.lk M 12), .int (nI mwt), .ref (g.lk M 14), .ref (g.lk M 15), .int (nI mop), .ref (g.lk M 17), .ref (g.lk M 18), .ref (g.lk M 19), .ref (g.lk M 20), .ref (g.lk M 21), .ref (g.lk M 22), .ref (g.lk M 23), .ref (g.lk M 24), .ref (g.lk M 25), .ref (g.lk M 26), .ref (g.lk M 27), .ref (g.lk M 28), .ref (g.lk M 29), .ref (g.lk M 30), .ref (g.lk M 31), .int (nI mtp), .ref (g.lk M 33), .ref (g.lk M 34), .ref (g.lk M 35), .int (nI mwa), .int (nI mgi), .int (nI mpc), .int (nI mst), .int (nI mtr), .int (nI msp), .int mma, .int mlg, .int mdu]) (C := "BigRunnerModel") (T := FT10) (N := 45) hx hb (hw10 hB _) (fun _ h9 => h9) TY10 ok10 nm10 hown hK hP hD hS (lo_in hL t_M (by decide)) eM rfl 0 (by decide) (wd_947 hB _) rfl (by decide +kernel) rfl rfl (Nat.le_of_ble_eq_true rfl) rfl d_M_variable_39 (fun f20 H locs e21 k22 hP hD hS => ?_)
          have eVL := (k22 (g.lk M 26) (tg_ne (lo_k11_26 hL _ t_M) t_M (by decide))).trans eVL
          have eVS := (k22 (g.lk M 27) (tg_ne (lo_k11_27 hL _ t_M) t_M (by decide))).trans eVS
          have hu := hu.st k22 t_M (by decide)
          have hk23 : ∀ b, b ≠ M → f20 b = f b := k22
          refine lv_iload_n hx hb d_M_variable_42 rfl (lv_at hl 0 rfl) ?_
          refine lv_if_eq (tgt := 67) hx hb d_M_variable_43 (by decide) (fun b24 => ?_) (fun b24 => ?_)
          · skip
            replace b24 := (nI_eq (a := 0) (b := 0) (by omega) (by omega)).mp b24
            refine lv_iconst (v := nI 0) hx hb d_M_variable_67 (by decide) ?_
            have hI25 := iv_1 hI hL t_M (by decide) hk23 (oc_11.mk t_M (⟨((nI 1)), mn, mdr, msz, mix, mdp, mwt, mop, mtp, mwa, mgi, mpc, mst, mtr, msp, mma, mlg, mdu, e21, (by omega), (by omega), (by omega), (by omega), (by omega), (by omega), (by omega), (by omega), (by omega), (by omega), (by omega), (by omega), (by omega), (by omega), hmb14⟩))
            exact pe_iret hx hb hr hlocks hK hP hD hS d_M_variable_68 ⟨(Or.inr ⟨(fun z9 => by have := z9.1; omega), e21⟩), hI25, hu⟩
          · skip
            replace b24 := mt (nI_eq (a := 0) (b := 0) (by omega) (by omega)).mpr b24
            exfalso; omega
        · skip
          replace b19 := mt (nI_eq (a := 0) (b := 0) (by omega) (by omega)).mpr b19
          exfalso; omega
      · skip
        replace b18 := mt (nI_leI (a := mst) (b := 0) (by omega) (by omega)).mpr b18
        refine lv_iload_n hx hb d_M_variable_17 rfl (lv_at hl 2 rfl) ?_
        refine lv_bipush (v := (-2)) hx hb d_M_variable_18 (by decide) ?_
        refine lv_icmp_lt (tgt := 27) hx hb d_M_variable_20 (by decide) (fun b26 => ?_) (fun b26 => ?_)
        · skip
          refine lv_iconst (v := nI 0) hx hb d_M_variable_27 (by decide) ?_
          refine lv_istore_n (lv' := [(3, .int (nI 0)), (0, .ref M), (1, .int (nI vk17)), (2, .int kk)]) hx hb d_M_variable_28 rfl hl (by decide) rfl (fun ls hl => ?_)
          refine lv_aload_n hx hb d_M_variable_29 rfl (lv_at hl 1 rfl) ?_
          refine lv_iload_n hx hb d_M_variable_30 rfl (lv_at hl 0 rfl) ?_
          refine lv_if_eq (tgt := 38) hx hb d_M_variable_31 (by decide) (fun b27 => ?_) (fun b27 => ?_)
          · skip
            replace b27 := (nI_eq (a := 0) (b := 0) (by omega) (by omega)).mp b27
            refine lv_iconst (v := nI 1) hx hb d_M_variable_38 (by decide) ?_
            refine pf_put (v := .int (nI 1)) (ty := .int) (fs' := [.int (nI 1), .ref (g.lk M 1), .int (nI mn), .ref (g.lk M 3), .ref (g.lk M 4), .int (nI mdr), .ref (g.lk M 6), .ref (g.lk M 7), .ref (g.lk M 8), .int (nI msz), .int (nI mix), .int (nI mdp), .ref (g.lk M 12), .int (nI mwt), .ref (g.lk M 14), .ref (g.lk M 15), .int (nI mop), .ref (g.lk M 17), .ref (g.lk M 18), .ref (g.lk M 19), .ref (g.lk M 20), .ref (g.lk M 21), .ref (g.lk M 22), .ref (g.lk M 23), .ref (g.lk M 24), .ref (g.lk M 25), .ref (g.lk M 26), .ref (g.lk M 27), .ref (g.lk M 28), .ref (g.lk M 29), .ref (g.lk M 30), .ref (g.lk M 31), .int (nI mtp), .ref (g.lk M 33), .ref (g.lk M 34), .ref (g.lk M 35), .int (nI mwa), .int (nI mgi), .int (nI mpc), .int (nI mst), .int (nI mtr), .int (nI msp), .int mma, .int mlg, .int mdu]) (C := "BigRunnerModel") (T := FT10) (N := 45) hx hb (hw10 hB _) (fun _ h9 => h9) TY10 ok10 nm10 hown hK hP hD hS (lo_in hL t_M (by decide)) eM rfl 0 (by decide) (wd_947 hB _) rfl (by decide +kernel) rfl rfl (Nat.le_of_ble_eq_true rfl) rfl d_M_variable_39 (fun f28 H locs e29 k30 hP hD hS => ?_)
            have eVL := (k30 (g.lk M 26) (tg_ne (lo_k11_26 hL _ t_M) t_M (by decide))).trans eVL
            have eVS := (k30 (g.lk M 27) (tg_ne (lo_k11_27 hL _ t_M) t_M (by decide))).trans eVS
            have hu := hu.st k30 t_M (by decide)
            have hk31 : ∀ b, b ≠ M → f28 b = f b := k30
            refine lv_iload_n hx hb d_M_variable_42 rfl (lv_at hl 0 rfl) ?_
            refine lv_if_eq (tgt := 67) hx hb d_M_variable_43 (by decide) (fun b32 => ?_) (fun b32 => ?_)
            · skip
              replace b32 := (nI_eq (a := 0) (b := 0) (by omega) (by omega)).mp b32
              refine lv_iconst (v := nI 0) hx hb d_M_variable_67 (by decide) ?_
              have hI33 := iv_1 hI hL t_M (by decide) hk31 (oc_11.mk t_M (⟨((nI 1)), mn, mdr, msz, mix, mdp, mwt, mop, mtp, mwa, mgi, mpc, mst, mtr, msp, mma, mlg, mdu, e29, (by omega), (by omega), (by omega), (by omega), (by omega), (by omega), (by omega), (by omega), (by omega), (by omega), (by omega), (by omega), (by omega), (by omega), hmb14⟩))
              exact pe_iret hx hb hr hlocks hK hP hD hS d_M_variable_68 ⟨(Or.inr ⟨(fun z9 => absurd z9.2.2 (Int32.not_le.mpr b26)), e29⟩), hI33, hu⟩
            · skip
              replace b32 := mt (nI_eq (a := 0) (b := 0) (by omega) (by omega)).mpr b32
              exfalso; omega
          · skip
            replace b27 := mt (nI_eq (a := 0) (b := 0) (by omega) (by omega)).mpr b27
            exfalso; omega
        · skip
          have hk29 := Int32.not_lt.mp b26
          refine lv_iconst (v := nI 1) hx hb d_M_variable_23 (by decide) ?_
          refine lv_goto (tgt := 28) hx hb d_M_variable_24 (by decide) ?_
          refine lv_istore_n (lv' := [(3, .int (nI 1)), (0, .ref M), (1, .int (nI vk17)), (2, .int kk)]) hx hb d_M_variable_28 rfl hl (by decide) rfl (fun ls hl => ?_)
          refine lv_aload_n hx hb d_M_variable_29 rfl (lv_at hl 1 rfl) ?_
          refine lv_iload_n hx hb d_M_variable_30 rfl (lv_at hl 0 rfl) ?_
          refine lv_if_eq (tgt := 38) hx hb d_M_variable_31 (by decide) (fun b34 => ?_) (fun b34 => ?_)
          · skip
            replace b34 := (nI_eq (a := 1) (b := 0) (by omega) (by omega)).mp b34
            exfalso; omega
          · skip
            replace b34 := mt (nI_eq (a := 1) (b := 0) (by omega) (by omega)).mpr b34
            refine lv_iconst (v := nI 0) hx hb d_M_variable_34 (by decide) ?_
            refine lv_goto (tgt := 39) hx hb d_M_variable_35 (by decide) ?_
            refine pf_put (v := .int (nI 0)) (ty := .int) (fs' := [.int (nI 0), .ref (g.lk M 1), .int (nI mn), .ref (g.lk M 3), .ref (g.lk M 4), .int (nI mdr), .ref (g.lk M 6), .ref (g.lk M 7), .ref (g.lk M 8), .int (nI msz), .int (nI mix), .int (nI mdp), .ref (g.lk M 12), .int (nI mwt), .ref (g.lk M 14), .ref (g.lk M 15), .int (nI mop), .ref (g.lk M 17), .ref (g.lk M 18), .ref (g.lk M 19), .ref (g.lk M 20), .ref (g.lk M 21), .ref (g.lk M 22), .ref (g.lk M 23), .ref (g.lk M 24), .ref (g.lk M 25), .ref (g.lk M 26), .ref (g.lk M 27), .ref (g.lk M 28), .ref (g.lk M 29), .ref (g.lk M 30), .ref (g.lk M 31), .int (nI mtp), .ref (g.lk M 33), .ref (g.lk M 34), .ref (g.lk M 35), .int (nI mwa), .int (nI mgi), .int (nI mpc), .int (nI mst), .int (nI mtr), .int (nI msp), .int mma, .int mlg, .int mdu]) (C := "BigRunnerModel") (T := FT10) (N := 45) hx hb (hw10 hB _) (fun _ h9 => h9) TY10 ok10 nm10 hown hK hP hD hS (lo_in hL t_M (by decide)) eM rfl 0 (by decide) (wd_947 hB _) rfl (by decide +kernel) rfl rfl (Nat.le_of_ble_eq_true rfl) rfl d_M_variable_39 (fun f35 H locs e36 k37 hP hD hS => ?_)
            have eVL := (k37 (g.lk M 26) (tg_ne (lo_k11_26 hL _ t_M) t_M (by decide))).trans eVL
            have eVS := (k37 (g.lk M 27) (tg_ne (lo_k11_27 hL _ t_M) t_M (by decide))).trans eVS
            have hu := hu.st k37 t_M (by decide)
            have hk38 : ∀ b, b ≠ M → f35 b = f b := k37
            refine lv_iload_n hx hb d_M_variable_42 rfl (lv_at hl 0 rfl) ?_
            refine lv_if_eq (tgt := 67) hx hb d_M_variable_43 (by decide) (fun b39 => ?_) (fun b39 => ?_)
            · skip
              replace b39 := (nI_eq (a := 1) (b := 0) (by omega) (by omega)).mp b39
              exfalso; omega
            · skip
              replace b39 := mt (nI_eq (a := 1) (b := 0) (by omega) (by omega)).mpr b39
              refine lv_aload_n hx hb d_M_variable_46 rfl (lv_at hl 1 rfl) ?_
              refine pf_get (v := .ref (g.lk M 26)) (C := "BigRunnerModel") (T := FT10) (N := 45) hx hb (hw10 hB _) (fun _ h9 => h9) hown hK hP (lo_in hL t_M (by decide)) e36 rfl 26 (by decide) (wd_973 hB _) rfl d_M_variable_47 ?_
              refine lv_bipush (v := nI 20) hx hb d_M_variable_50 (by decide) ?_
              refine lv_iload_n hx hb d_M_variable_52 rfl (lv_at hl 2 rfl) ?_
              refine pf_imulN (x := 20) (y := vk17) hx hb d_M_variable_53 ?_
              refine lv_aload_n hx hb d_M_variable_54 rfl (lv_at hl 1 rfl) ?_
              refine pf_get (v := .ref (g.lk M 27)) (C := "BigRunnerModel") (T := FT10) (N := 45) hx hb (hw10 hB _) (fun _ h9 => h9) hown hK hP (lo_in hL t_M (by decide)) e36 rfl 27 (by decide) (wd_974 hB _) rfl d_M_variable_55 ?_
              refine lv_iload_n hx hb d_M_variable_58 rfl (lv_at hl 2 rfl) ?_
              refine pf_iald (i := vk17) hx hb hK hP (lo_in hL (lo_k11_27 hL _ t_M) (by decide)) eVS (lo_t59 hL _ (lo_k11_27 hL _ t_M)) (by omega) (by decide) d_M_variable_59 ?_
              refine lv_iload_n hx hb d_M_variable_60 rfl (lv_at hl 3 rfl) ?_
              have hI40 := iv_1 hI hL t_M (by decide) hk38 (oc_11.mk t_M (⟨((nI 0)), mn, mdr, msz, mix, mdp, mwt, mop, mtp, mwa, mgi, mpc, mst, mtr, msp, mma, mlg, mdu, e36, (by omega), (by omega), (by omega), (by omega), (by omega), (by omega), (by omega), (by omega), (by omega), (by omega), (by omega), (by omega), (by omega), (by omega), hmb14⟩))
              refine pcc_i (va_runS (As := [.ref (g.lk M 26), .int (nI (20 * vk17)), .int (hVS vk17), .int kk]) (rest := []) ⟨hx, hb, hml, hown, tb_nil⟩ (w_told58 l g H.size f35 ((g.lk M 26)) ((20 * vk17)) ((hVS vk17)) kk hVL vk17 (((vr vk17))) hL (lo_k11_26 hL _ t_M) hI40.1 eVL c6VL rfl (by omega) (hVR (by omega) vk17 (by omega)) hk29) ⟨(callB_of 4 (tb_one (wd_1280 hB _)) tb_good1 rfl rfl rfl (wd_82 hB _) (wd_1278 hB _) (by decide +kernel) ⟨Nat.le_of_ble_eq_true rfl, Nat.le_of_ble_eq_true rfl⟩), (wd_1279 hB _)⟩ ⟨pe_bl, pe_pre hB hK hP hD⟩ rfl rfl hl.1 rfl (lv_room (Nat.le_of_ble_eq_true rfl)) d_M_variable_61 ⟨Nat.le_of_ble_eq_true rfl, Nat.le_of_ble_eq_true rfl⟩) hS (fun r41 f42 H locs hq43 hP hD hS => ?_)
              obtain ⟨tq_44, rfl⟩ := hq43
              refine lv_goto (tgt := 68) hx hb d_M_variable_64 (by decide) ?_
              exact pe_iret hx hb hr hlocks hK hP hD hS d_M_variable_68 ⟨(Or.inl ⟨⟨by omega, vok_n (by omega), hk29⟩, (by rw [nI_clamp (by omega)]; exact tq_44), e36⟩), hI40, hu⟩
set_option maxHeartbeats 4000000 in
set_option maxRecDepth 100000 in
theorem w_output (l : Launch) (g : Lay) (sz : Nat) (f : Nat → va_E) (M : Nat) (mth : Int32) (mn : Nat) (mdr : Nat) (msz : Nat) (mix : Nat) (mdp : Nat) (mwt : Nat) (mop : Nat) (mtp : Nat) (mwa : Nat) (mgi : Nat) (mpc : Nat) (mst : Nat) (mtr : Nat) (msp : Nat) (mma : Int32) (mlg : Int32) (mdu : Int32) (hOL : Nat → Int32) (hOS : Nat → Int32) (outs : List Int) (v : Int32) (kk : Int32) (hL : LO g) (t_M : g.tg M = 11) (hI : IV g f) (eM : f M = .inr (10, [.int mth, .ref (g.lk M 1), .int (nI mn), .ref (g.lk M 3), .ref (g.lk M 4), .int (nI mdr), .ref (g.lk M 6), .ref (g.lk M 7), .ref (g.lk M 8), .int (nI msz), .int (nI mix), .int (nI mdp), .ref (g.lk M 12), .int (nI mwt), .ref (g.lk M 14), .ref (g.lk M 15), .int (nI mop), .ref (g.lk M 17), .ref (g.lk M 18), .ref (g.lk M 19), .ref (g.lk M 20), .ref (g.lk M 21), .ref (g.lk M 22), .ref (g.lk M 23), .ref (g.lk M 24), .ref (g.lk M 25), .ref (g.lk M 26), .ref (g.lk M 27), .ref (g.lk M 28), .ref (g.lk M 29), .ref (g.lk M 30), .ref (g.lk M 31), .int (nI mtp), .ref (g.lk M 33), .ref (g.lk M 34), .ref (g.lk M 35), .int (nI mwa), .int (nI mgi), .int (nI mpc), .int (nI mst), .int (nI mtr), .int (nI msp), .int mma, .int mlg, .int mdu])) (hMB : mn ≤ 72 ∧ mdr ≤ 100 ∧ msz ≤ 100 ∧ mix ≤ 100 ∧ mdp ≤ 20 ∧ mwt ≤ 72 ∧ mop ≤ 40 ∧ mtp ≤ 80 ∧ mwa ≤ 20 ∧ mgi ≤ msp ∧ mpc ≤ 100 ∧ mst ≤ 4 ∧ mtr ≤ 3 ∧ msp ≤ 3000 ∧ (mdu = 0 ∨ mdu = 1)) (eOL : f (g.lk M 28) = .inl (g.ac (g.lk M 28), 240, .inl hOL)) (eOS : f (g.lk M 29) = .inl (g.ac (g.lk M 29), 12, .inl hOS)) (c6OL : C6 240 hOL) (hOM : OUM hOL hOS outs) (hgi9 : mgi = outs.length) : Met l ⟨"BigRunnerModel", "output", "(II)I"⟩ [Cond.code ⟨"BigRunnerModel", "output", "(II)I"⟩ prog_12_method_51_code 4 (some .int)] ({ frames := 2, cells := 0, slots := 0, locals := 51 }) (va_Pc [.ref M, .int v, .int kk] (pc_in g sz f)) (va_Qi (fun r f1 => (((ook outs v kk) ∧ TQ (outs.getD v.toNatClampNeg 0) kk r ∧ f1 M = .inr (10, [.int (nI 0), .ref (g.lk M 1), .int (nI mn), .ref (g.lk M 3), .ref (g.lk M 4), .int (nI mdr), .ref (g.lk M 6), .ref (g.lk M 7), .ref (g.lk M 8), .int (nI msz), .int (nI mix), .int (nI mdp), .ref (g.lk M 12), .int (nI mwt), .ref (g.lk M 14), .ref (g.lk M 15), .int (nI mop), .ref (g.lk M 17), .ref (g.lk M 18), .ref (g.lk M 19), .ref (g.lk M 20), .ref (g.lk M 21), .ref (g.lk M 22), .ref (g.lk M 23), .ref (g.lk M 24), .ref (g.lk M 25), .ref (g.lk M 26), .ref (g.lk M 27), .ref (g.lk M 28), .ref (g.lk M 29), .ref (g.lk M 30), .ref (g.lk M 31), .int (nI mtp), .ref (g.lk M 33), .ref (g.lk M 34), .ref (g.lk M 35), .int (nI mwa), .int (nI mgi), .int (nI mpc), .int (nI mst), .int (nI mtr), .int (nI msp), .int mma, .int mlg, .int mdu])) ∨ (¬ (ook outs v kk) ∧ f1 M = .inr (10, [.int (nI 1), .ref (g.lk M 1), .int (nI mn), .ref (g.lk M 3), .ref (g.lk M 4), .int (nI mdr), .ref (g.lk M 6), .ref (g.lk M 7), .ref (g.lk M 8), .int (nI msz), .int (nI mix), .int (nI mdp), .ref (g.lk M 12), .int (nI mwt), .ref (g.lk M 14), .ref (g.lk M 15), .int (nI mop), .ref (g.lk M 17), .ref (g.lk M 18), .ref (g.lk M 19), .ref (g.lk M 20), .ref (g.lk M 21), .ref (g.lk M 22), .ref (g.lk M 23), .ref (g.lk M 24), .ref (g.lk M 25), .ref (g.lk M 26), .ref (g.lk M 27), .ref (g.lk M 28), .ref (g.lk M 29), .ref (g.lk M 30), .ref (g.lk M 31), .int (nI mtp), .ref (g.lk M 33), .ref (g.lk M 34), .ref (g.lk M 35), .int (nI mwa), .int (nI mgi), .int (nI mpc), .int (nI mst), .int (nI mtr), .int (nI msp), .int mma, .int mlg, .int mdu]))) ∧ (IV g f1) ∧ (un [11] g f f1)) (pc_out g sz) (pc_A g sz)) 0 0 (pc_A g sz) := by
  refine pe_ofW (cc := prog_12_method_51_code) (maxL := 4) (ret := (some .int)) (lv := [(0, .ref M), (1, .int v), (2, .int kk)]) (by decide) (Nat.le_of_ble_eq_true rfl) rfl ?_
  intro p e s m args below meth c ls hx hb hr hml hlocks hown hB hP hK hD hsz hS hl
  subst hsz
  have hu : un [11] g f f := un.rf
  obtain ⟨hmb0, hmb1, hmb2, hmb3, hmb4, hmb5, hmb6, hmb7, hmb8, hmb9, hmb10, hmb11, hmb12, hmb13, hmb14⟩ := hMB
  refine lv_iload_n hx hb d_M_output_0 rfl (lv_at hl 1 rfl) ?_
  refine lv_if_lt (tgt := 28) hx hb d_M_output_1 (by decide) (fun b1 => ?_) (fun b1 => ?_)
  · skip
    refine lv_iconst (v := nI 0) hx hb d_M_output_28 (by decide) ?_
    refine lv_istore_n (lv' := [(3, .int (nI 0)), (0, .ref M), (1, .int v), (2, .int kk)]) hx hb d_M_output_29 rfl hl (by decide) rfl (fun ls hl => ?_)
    refine lv_aload_n hx hb d_M_output_30 rfl (lv_at hl 1 rfl) ?_
    refine lv_iload_n hx hb d_M_output_31 rfl (lv_at hl 0 rfl) ?_
    refine lv_if_eq (tgt := 39) hx hb d_M_output_32 (by decide) (fun b2 => ?_) (fun b2 => ?_)
    · skip
      replace b2 := (nI_eq (a := 0) (b := 0) (by omega) (by omega)).mp b2
      refine lv_iconst (v := nI 1) hx hb d_M_output_39 (by decide) ?_
      refine pf_put (v := .int (nI 1)) (ty := .int) (fs' := [.int (nI 1), .ref (g.lk M 1), .int (nI mn), .ref (g.lk M 3), .ref (g.lk M 4), .int (nI mdr), .ref (g.lk M 6), .ref (g.lk M 7), .ref (g.lk M 8), .int (nI msz), .int (nI mix), .int (nI mdp), .ref (g.lk M 12), .int (nI mwt), .ref (g.lk M 14), .ref (g.lk M 15), .int (nI mop), .ref (g.lk M 17), .ref (g.lk M 18), .ref (g.lk M 19), .ref (g.lk M 20), .ref (g.lk M 21), .ref (g.lk M 22), .ref (g.lk M 23), .ref (g.lk M 24), .ref (g.lk M 25), .ref (g.lk M 26), .ref (g.lk M 27), .ref (g.lk M 28), .ref (g.lk M 29), .ref (g.lk M 30), .ref (g.lk M 31), .int (nI mtp), .ref (g.lk M 33), .ref (g.lk M 34), .ref (g.lk M 35), .int (nI mwa), .int (nI mgi), .int (nI mpc), .int (nI mst), .int (nI mtr), .int (nI msp), .int mma, .int mlg, .int mdu]) (C := "BigRunnerModel") (T := FT10) (N := 45) hx hb (hw10 hB _) (fun _ h9 => h9) TY10 ok10 nm10 hown hK hP hD hS (lo_in hL t_M (by decide)) eM rfl 0 (by decide) (wd_947 hB _) rfl (by decide +kernel) rfl rfl (Nat.le_of_ble_eq_true rfl) rfl d_M_output_40 (fun f3 H locs e4 k5 hP hD hS => ?_)
      have eOL := (k5 (g.lk M 28) (tg_ne (lo_k11_28 hL _ t_M) t_M (by decide))).trans eOL
      have eOS := (k5 (g.lk M 29) (tg_ne (lo_k11_29 hL _ t_M) t_M (by decide))).trans eOS
      have hu := hu.st k5 t_M (by decide)
      have hk6 : ∀ b, b ≠ M → f3 b = f b := k5
      refine lv_iload_n hx hb d_M_output_43 rfl (lv_at hl 0 rfl) ?_
      refine lv_if_eq (tgt := 68) hx hb d_M_output_44 (by decide) (fun b7 => ?_) (fun b7 => ?_)
      · skip
        replace b7 := (nI_eq (a := 0) (b := 0) (by omega) (by omega)).mp b7
        refine lv_iconst (v := nI 0) hx hb d_M_output_68 (by decide) ?_
        have hI8 := iv_1 hI hL t_M (by decide) hk6 (oc_11.mk t_M (⟨((nI 1)), mn, mdr, msz, mix, mdp, mwt, mop, mtp, mwa, mgi, mpc, mst, mtr, msp, mma, mlg, mdu, e4, (by omega), (by omega), (by omega), (by omega), (by omega), (by omega), (by omega), (by omega), (by omega), (by omega), (by omega), (by omega), (by omega), (by omega), hmb14⟩))
        exact pe_iret hx hb hr hlocks hK hP hD hS d_M_output_69 ⟨(Or.inr ⟨(ook_n b1), e4⟩), hI8, hu⟩
      · skip
        replace b7 := mt (nI_eq (a := 0) (b := 0) (by omega) (by omega)).mpr b7
        exfalso; omega
    · skip
      replace b2 := mt (nI_eq (a := 0) (b := 0) (by omega) (by omega)).mpr b2
      exfalso; omega
  · skip
    obtain ⟨j9, hj9, rfl⟩ := nI_of b1
    refine lv_iload_n hx hb d_M_output_4 rfl (lv_at hl 1 rfl) ?_
    refine lv_aload_n hx hb d_M_output_5 rfl (lv_at hl 0 rfl) ?_
    refine pf_get (v := .int (nI mgi)) (C := "BigRunnerModel") (T := FT10) (N := 45) hx hb (hw10 hB _) (fun _ h9 => h9) hown hK hP (lo_in hL t_M (by decide)) eM rfl 37 (by decide) (wd_984 hB _) rfl d_M_output_6 ?_
    refine lv_icmp_ge (tgt := 28) hx hb d_M_output_9 (by decide) (fun b9 => ?_) (fun b9 => ?_)
    · skip
      replace b9 := (nI_leI (a := mgi) (b := j9) (by omega) (by omega)).mp b9
      refine lv_iconst (v := nI 0) hx hb d_M_output_28 (by decide) ?_
      refine lv_istore_n (lv' := [(3, .int (nI 0)), (0, .ref M), (1, .int (nI j9)), (2, .int kk)]) hx hb d_M_output_29 rfl hl (by decide) rfl (fun ls hl => ?_)
      refine lv_aload_n hx hb d_M_output_30 rfl (lv_at hl 1 rfl) ?_
      refine lv_iload_n hx hb d_M_output_31 rfl (lv_at hl 0 rfl) ?_
      refine lv_if_eq (tgt := 39) hx hb d_M_output_32 (by decide) (fun b10 => ?_) (fun b10 => ?_)
      · skip
        replace b10 := (nI_eq (a := 0) (b := 0) (by omega) (by omega)).mp b10
        refine lv_iconst (v := nI 1) hx hb d_M_output_39 (by decide) ?_
        refine pf_put (v := .int (nI 1)) (ty := .int) (fs' := [.int (nI 1), .ref (g.lk M 1), .int (nI mn), .ref (g.lk M 3), .ref (g.lk M 4), .int (nI mdr), .ref (g.lk M 6), .ref (g.lk M 7), .ref (g.lk M 8), .int (nI msz), .int (nI mix), .int (nI mdp), .ref (g.lk M 12), .int (nI mwt), .ref (g.lk M 14), .ref (g.lk M 15), .int (nI mop), .ref (g.lk M 17), .ref (g.lk M 18), .ref (g.lk M 19), .ref (g.lk M 20), .ref (g.lk M 21), .ref (g.lk M 22), .ref (g.lk M 23), .ref (g.lk M 24), .ref (g.lk M 25), .ref (g.lk M 26), .ref (g.lk M 27), .ref (g.lk M 28), .ref (g.lk M 29), .ref (g.lk M 30), .ref (g.lk M 31), .int (nI mtp), .ref (g.lk M 33), .ref (g.lk M 34), .ref (g.lk M 35), .int (nI mwa), .int (nI mgi), .int (nI mpc), .int (nI mst), .int (nI mtr), .int (nI msp), .int mma, .int mlg, .int mdu]) (C := "BigRunnerModel") (T := FT10) (N := 45) hx hb (hw10 hB _) (fun _ h9 => h9) TY10 ok10 nm10 hown hK hP hD hS (lo_in hL t_M (by decide)) eM rfl 0 (by decide) (wd_947 hB _) rfl (by decide +kernel) rfl rfl (Nat.le_of_ble_eq_true rfl) rfl d_M_output_40 (fun f11 H locs e12 k13 hP hD hS => ?_)
        have eOL := (k13 (g.lk M 28) (tg_ne (lo_k11_28 hL _ t_M) t_M (by decide))).trans eOL
        have eOS := (k13 (g.lk M 29) (tg_ne (lo_k11_29 hL _ t_M) t_M (by decide))).trans eOS
        have hu := hu.st k13 t_M (by decide)
        have hk14 : ∀ b, b ≠ M → f11 b = f b := k13
        refine lv_iload_n hx hb d_M_output_43 rfl (lv_at hl 0 rfl) ?_
        refine lv_if_eq (tgt := 68) hx hb d_M_output_44 (by decide) (fun b15 => ?_) (fun b15 => ?_)
        · skip
          replace b15 := (nI_eq (a := 0) (b := 0) (by omega) (by omega)).mp b15
          refine lv_iconst (v := nI 0) hx hb d_M_output_68 (by decide) ?_
          have hI16 := iv_1 hI hL t_M (by decide) hk14 (oc_11.mk t_M (⟨((nI 1)), mn, mdr, msz, mix, mdp, mwt, mop, mtp, mwa, mgi, mpc, mst, mtr, msp, mma, mlg, mdu, e12, (by omega), (by omega), (by omega), (by omega), (by omega), (by omega), (by omega), (by omega), (by omega), (by omega), (by omega), (by omega), (by omega), (by omega), hmb14⟩))
          exact pe_iret hx hb hr hlocks hK hP hD hS d_M_output_69 ⟨(Or.inr ⟨(ook_l (by omega) (by omega)), e12⟩), hI16, hu⟩
        · skip
          replace b15 := mt (nI_eq (a := 0) (b := 0) (by omega) (by omega)).mpr b15
          exfalso; omega
      · skip
        replace b10 := mt (nI_eq (a := 0) (b := 0) (by omega) (by omega)).mpr b10
        exfalso; omega
    · skip
      replace b9 := mt (nI_leI (a := mgi) (b := j9) (by omega) (by omega)).mpr b9
      refine lv_iload_n hx hb d_M_output_12 rfl (lv_at hl 1 rfl) ?_
      refine lv_bipush (v := nI 12) hx hb d_M_output_13 (by decide) ?_
      refine lv_icmp_ge (tgt := 28) hx hb d_M_output_15 (by decide) (fun b17 => ?_) (fun b17 => ?_)
      · skip
        replace b17 := (nI_leI (a := 12) (b := j9) (by omega) (by omega)).mp b17
        refine lv_iconst (v := nI 0) hx hb d_M_output_28 (by decide) ?_
        refine lv_istore_n (lv' := [(3, .int (nI 0)), (0, .ref M), (1, .int (nI j9)), (2, .int kk)]) hx hb d_M_output_29 rfl hl (by decide) rfl (fun ls hl => ?_)
        refine lv_aload_n hx hb d_M_output_30 rfl (lv_at hl 1 rfl) ?_
        refine lv_iload_n hx hb d_M_output_31 rfl (lv_at hl 0 rfl) ?_
        refine lv_if_eq (tgt := 39) hx hb d_M_output_32 (by decide) (fun b18 => ?_) (fun b18 => ?_)
        · skip
          replace b18 := (nI_eq (a := 0) (b := 0) (by omega) (by omega)).mp b18
          refine lv_iconst (v := nI 1) hx hb d_M_output_39 (by decide) ?_
          refine pf_put (v := .int (nI 1)) (ty := .int) (fs' := [.int (nI 1), .ref (g.lk M 1), .int (nI mn), .ref (g.lk M 3), .ref (g.lk M 4), .int (nI mdr), .ref (g.lk M 6), .ref (g.lk M 7), .ref (g.lk M 8), .int (nI msz), .int (nI mix), .int (nI mdp), .ref (g.lk M 12), .int (nI mwt), .ref (g.lk M 14), .ref (g.lk M 15), .int (nI mop), .ref (g.lk M 17), .ref (g.lk M 18), .ref (g.lk M 19), .ref (g.lk M 20), .ref (g.lk M 21), .ref (g.lk M 22), .ref (g.lk M 23), .ref (g.lk M 24), .ref (g.lk M 25), .ref (g.lk M 26), .ref (g.lk M 27), .ref (g.lk M 28), .ref (g.lk M 29), .ref (g.lk M 30), .ref (g.lk M 31), .int (nI mtp), .ref (g.lk M 33), .ref (g.lk M 34), .ref (g.lk M 35), .int (nI mwa), .int (nI mgi), .int (nI mpc), .int (nI mst), .int (nI mtr), .int (nI msp), .int mma, .int mlg, .int mdu]) (C := "BigRunnerModel") (T := FT10) (N := 45) hx hb (hw10 hB _) (fun _ h9 => h9) TY10 ok10 nm10 hown hK hP hD hS (lo_in hL t_M (by decide)) eM rfl 0 (by decide) (wd_947 hB _) rfl (by decide +kernel) rfl rfl (Nat.le_of_ble_eq_true rfl) rfl d_M_output_40 (fun f19 H locs e20 k21 hP hD hS => ?_)
          have eOL := (k21 (g.lk M 28) (tg_ne (lo_k11_28 hL _ t_M) t_M (by decide))).trans eOL
          have eOS := (k21 (g.lk M 29) (tg_ne (lo_k11_29 hL _ t_M) t_M (by decide))).trans eOS
          have hu := hu.st k21 t_M (by decide)
          have hk22 : ∀ b, b ≠ M → f19 b = f b := k21
          refine lv_iload_n hx hb d_M_output_43 rfl (lv_at hl 0 rfl) ?_
          refine lv_if_eq (tgt := 68) hx hb d_M_output_44 (by decide) (fun b23 => ?_) (fun b23 => ?_)
          · skip
            replace b23 := (nI_eq (a := 0) (b := 0) (by omega) (by omega)).mp b23
            refine lv_iconst (v := nI 0) hx hb d_M_output_68 (by decide) ?_
            have hI24 := iv_1 hI hL t_M (by decide) hk22 (oc_11.mk t_M (⟨((nI 1)), mn, mdr, msz, mix, mdp, mwt, mop, mtp, mwa, mgi, mpc, mst, mtr, msp, mma, mlg, mdu, e20, (by omega), (by omega), (by omega), (by omega), (by omega), (by omega), (by omega), (by omega), (by omega), (by omega), (by omega), (by omega), (by omega), (by omega), hmb14⟩))
            exact pe_iret hx hb hr hlocks hK hP hD hS d_M_output_69 ⟨(Or.inr ⟨(ook_l (by omega) (by omega)), e20⟩), hI24, hu⟩
          · skip
            replace b23 := mt (nI_eq (a := 0) (b := 0) (by omega) (by omega)).mpr b23
            exfalso; omega
        · skip
          replace b18 := mt (nI_eq (a := 0) (b := 0) (by omega) (by omega)).mpr b18
          exfalso; omega
      · skip
        replace b17 := mt (nI_leI (a := 12) (b := j9) (by omega) (by omega)).mpr b17
        refine lv_iload_n hx hb d_M_output_18 rfl (lv_at hl 2 rfl) ?_
        refine lv_bipush (v := (-2)) hx hb d_M_output_19 (by decide) ?_
        refine lv_icmp_lt (tgt := 28) hx hb d_M_output_21 (by decide) (fun b25 => ?_) (fun b25 => ?_)
        · skip
          refine lv_iconst (v := nI 0) hx hb d_M_output_28 (by decide) ?_
          refine lv_istore_n (lv' := [(3, .int (nI 0)), (0, .ref M), (1, .int (nI j9)), (2, .int kk)]) hx hb d_M_output_29 rfl hl (by decide) rfl (fun ls hl => ?_)
          refine lv_aload_n hx hb d_M_output_30 rfl (lv_at hl 1 rfl) ?_
          refine lv_iload_n hx hb d_M_output_31 rfl (lv_at hl 0 rfl) ?_
          refine lv_if_eq (tgt := 39) hx hb d_M_output_32 (by decide) (fun b26 => ?_) (fun b26 => ?_)
          · skip
            replace b26 := (nI_eq (a := 0) (b := 0) (by omega) (by omega)).mp b26
            refine lv_iconst (v := nI 1) hx hb d_M_output_39 (by decide) ?_
            refine pf_put (v := .int (nI 1)) (ty := .int) (fs' := [.int (nI 1), .ref (g.lk M 1), .int (nI mn), .ref (g.lk M 3), .ref (g.lk M 4), .int (nI mdr), .ref (g.lk M 6), .ref (g.lk M 7), .ref (g.lk M 8), .int (nI msz), .int (nI mix), .int (nI mdp), .ref (g.lk M 12), .int (nI mwt), .ref (g.lk M 14), .ref (g.lk M 15), .int (nI mop), .ref (g.lk M 17), .ref (g.lk M 18), .ref (g.lk M 19), .ref (g.lk M 20), .ref (g.lk M 21), .ref (g.lk M 22), .ref (g.lk M 23), .ref (g.lk M 24), .ref (g.lk M 25), .ref (g.lk M 26), .ref (g.lk M 27), .ref (g.lk M 28), .ref (g.lk M 29), .ref (g.lk M 30), .ref (g.lk M 31), .int (nI mtp), .ref (g.lk M 33), .ref (g.lk M 34), .ref (g.lk M 35), .int (nI mwa), .int (nI mgi), .int (nI mpc), .int (nI mst), .int (nI mtr), .int (nI msp), .int mma, .int mlg, .int mdu]) (C := "BigRunnerModel") (T := FT10) (N := 45) hx hb (hw10 hB _) (fun _ h9 => h9) TY10 ok10 nm10 hown hK hP hD hS (lo_in hL t_M (by decide)) eM rfl 0 (by decide) (wd_947 hB _) rfl (by decide +kernel) rfl rfl (Nat.le_of_ble_eq_true rfl) rfl d_M_output_40 (fun f27 H locs e28 k29 hP hD hS => ?_)
            have eOL := (k29 (g.lk M 28) (tg_ne (lo_k11_28 hL _ t_M) t_M (by decide))).trans eOL
            have eOS := (k29 (g.lk M 29) (tg_ne (lo_k11_29 hL _ t_M) t_M (by decide))).trans eOS
            have hu := hu.st k29 t_M (by decide)
            have hk30 : ∀ b, b ≠ M → f27 b = f b := k29
            refine lv_iload_n hx hb d_M_output_43 rfl (lv_at hl 0 rfl) ?_
            refine lv_if_eq (tgt := 68) hx hb d_M_output_44 (by decide) (fun b31 => ?_) (fun b31 => ?_)
            · skip
              replace b31 := (nI_eq (a := 0) (b := 0) (by omega) (by omega)).mp b31
              refine lv_iconst (v := nI 0) hx hb d_M_output_68 (by decide) ?_
              have hI32 := iv_1 hI hL t_M (by decide) hk30 (oc_11.mk t_M (⟨((nI 1)), mn, mdr, msz, mix, mdp, mwt, mop, mtp, mwa, mgi, mpc, mst, mtr, msp, mma, mlg, mdu, e28, (by omega), (by omega), (by omega), (by omega), (by omega), (by omega), (by omega), (by omega), (by omega), (by omega), (by omega), (by omega), (by omega), (by omega), hmb14⟩))
              exact pe_iret hx hb hr hlocks hK hP hD hS d_M_output_69 ⟨(Or.inr ⟨(ook_k (Int32.not_le.mpr b25)), e28⟩), hI32, hu⟩
            · skip
              replace b31 := mt (nI_eq (a := 0) (b := 0) (by omega) (by omega)).mpr b31
              exfalso; omega
          · skip
            replace b26 := mt (nI_eq (a := 0) (b := 0) (by omega) (by omega)).mpr b26
            exfalso; omega
        · skip
          have hk29 := Int32.not_lt.mp b25
          refine lv_iconst (v := nI 1) hx hb d_M_output_24 (by decide) ?_
          refine lv_goto (tgt := 29) hx hb d_M_output_25 (by decide) ?_
          refine lv_istore_n (lv' := [(3, .int (nI 1)), (0, .ref M), (1, .int (nI j9)), (2, .int kk)]) hx hb d_M_output_29 rfl hl (by decide) rfl (fun ls hl => ?_)
          refine lv_aload_n hx hb d_M_output_30 rfl (lv_at hl 1 rfl) ?_
          refine lv_iload_n hx hb d_M_output_31 rfl (lv_at hl 0 rfl) ?_
          refine lv_if_eq (tgt := 39) hx hb d_M_output_32 (by decide) (fun b33 => ?_) (fun b33 => ?_)
          · skip
            replace b33 := (nI_eq (a := 1) (b := 0) (by omega) (by omega)).mp b33
            exfalso; omega
          · skip
            replace b33 := mt (nI_eq (a := 1) (b := 0) (by omega) (by omega)).mpr b33
            refine lv_iconst (v := nI 0) hx hb d_M_output_35 (by decide) ?_
            refine lv_goto (tgt := 40) hx hb d_M_output_36 (by decide) ?_
            refine pf_put (v := .int (nI 0)) (ty := .int) (fs' := [.int (nI 0), .ref (g.lk M 1), .int (nI mn), .ref (g.lk M 3), .ref (g.lk M 4), .int (nI mdr), .ref (g.lk M 6), .ref (g.lk M 7), .ref (g.lk M 8), .int (nI msz), .int (nI mix), .int (nI mdp), .ref (g.lk M 12), .int (nI mwt), .ref (g.lk M 14), .ref (g.lk M 15), .int (nI mop), .ref (g.lk M 17), .ref (g.lk M 18), .ref (g.lk M 19), .ref (g.lk M 20), .ref (g.lk M 21), .ref (g.lk M 22), .ref (g.lk M 23), .ref (g.lk M 24), .ref (g.lk M 25), .ref (g.lk M 26), .ref (g.lk M 27), .ref (g.lk M 28), .ref (g.lk M 29), .ref (g.lk M 30), .ref (g.lk M 31), .int (nI mtp), .ref (g.lk M 33), .ref (g.lk M 34), .ref (g.lk M 35), .int (nI mwa), .int (nI mgi), .int (nI mpc), .int (nI mst), .int (nI mtr), .int (nI msp), .int mma, .int mlg, .int mdu]) (C := "BigRunnerModel") (T := FT10) (N := 45) hx hb (hw10 hB _) (fun _ h9 => h9) TY10 ok10 nm10 hown hK hP hD hS (lo_in hL t_M (by decide)) eM rfl 0 (by decide) (wd_947 hB _) rfl (by decide +kernel) rfl rfl (Nat.le_of_ble_eq_true rfl) rfl d_M_output_40 (fun f34 H locs e35 k36 hP hD hS => ?_)
            have eOL := (k36 (g.lk M 28) (tg_ne (lo_k11_28 hL _ t_M) t_M (by decide))).trans eOL
            have eOS := (k36 (g.lk M 29) (tg_ne (lo_k11_29 hL _ t_M) t_M (by decide))).trans eOS
            have hu := hu.st k36 t_M (by decide)
            have hk37 : ∀ b, b ≠ M → f34 b = f b := k36
            refine lv_iload_n hx hb d_M_output_43 rfl (lv_at hl 0 rfl) ?_
            refine lv_if_eq (tgt := 68) hx hb d_M_output_44 (by decide) (fun b38 => ?_) (fun b38 => ?_)
            · skip
              replace b38 := (nI_eq (a := 1) (b := 0) (by omega) (by omega)).mp b38
              exfalso; omega
            · skip
              replace b38 := mt (nI_eq (a := 1) (b := 0) (by omega) (by omega)).mpr b38
              refine lv_aload_n hx hb d_M_output_47 rfl (lv_at hl 1 rfl) ?_
              refine pf_get (v := .ref (g.lk M 28)) (C := "BigRunnerModel") (T := FT10) (N := 45) hx hb (hw10 hB _) (fun _ h9 => h9) hown hK hP (lo_in hL t_M (by decide)) e35 rfl 28 (by decide) (wd_975 hB _) rfl d_M_output_48 ?_
              refine lv_bipush (v := nI 20) hx hb d_M_output_51 (by decide) ?_
              refine lv_iload_n hx hb d_M_output_53 rfl (lv_at hl 2 rfl) ?_
              refine pf_imulN (x := 20) (y := j9) hx hb d_M_output_54 ?_
              refine lv_aload_n hx hb d_M_output_55 rfl (lv_at hl 1 rfl) ?_
              refine pf_get (v := .ref (g.lk M 29)) (C := "BigRunnerModel") (T := FT10) (N := 45) hx hb (hw10 hB _) (fun _ h9 => h9) hown hK hP (lo_in hL t_M (by decide)) e35 rfl 29 (by decide) (wd_976 hB _) rfl d_M_output_56 ?_
              refine lv_iload_n hx hb d_M_output_59 rfl (lv_at hl 2 rfl) ?_
              refine pf_iald (i := j9) hx hb hK hP (lo_in hL (lo_k11_29 hL _ t_M) (by decide)) eOS (lo_t61 hL _ (lo_k11_29 hL _ t_M)) (by omega) (by decide) d_M_output_60 ?_
              refine lv_iload_n hx hb d_M_output_61 rfl (lv_at hl 3 rfl) ?_
              have hI39 := iv_1 hI hL t_M (by decide) hk37 (oc_11.mk t_M (⟨((nI 0)), mn, mdr, msz, mix, mdp, mwt, mop, mtp, mwa, mgi, mpc, mst, mtr, msp, mma, mlg, mdu, e35, (by omega), (by omega), (by omega), (by omega), (by omega), (by omega), (by omega), (by omega), (by omega), (by omega), (by omega), (by omega), (by omega), (by omega), hmb14⟩))
              refine pcc_i (va_runS (As := [.ref (g.lk M 28), .int (nI (20 * j9)), .int (hOS j9), .int kk]) (rest := []) ⟨hx, hb, hml, hown, tb_nil⟩ (w_told60 l g H.size f34 ((g.lk M 28)) ((20 * j9)) ((hOS j9)) kk hOL j9 (((outs.getD j9 0))) hL (lo_k11_28 hL _ t_M) hI39.1 eOL c6OL rfl (by omega) (hOM j9 (by omega) (by omega)) hk29) ⟨(callB_of 4 (tb_one (wd_1280 hB _)) tb_good1 rfl rfl rfl (wd_82 hB _) (wd_1278 hB _) (by decide +kernel) ⟨Nat.le_of_ble_eq_true rfl, Nat.le_of_ble_eq_true rfl⟩), (wd_1279 hB _)⟩ ⟨pe_bl, pe_pre hB hK hP hD⟩ rfl rfl hl.1 rfl (lv_room (Nat.le_of_ble_eq_true rfl)) d_M_output_62 ⟨Nat.le_of_ble_eq_true rfl, Nat.le_of_ble_eq_true rfl⟩) hS (fun r40 f41 H locs hq42 hP hD hS => ?_)
              obtain ⟨tq_43, rfl⟩ := hq42
              refine lv_goto (tgt := 69) hx hb d_M_output_65 (by decide) ?_
              exact pe_iret hx hb hr hlocks hK hP hD hS d_M_output_69 ⟨(Or.inl ⟨⟨j9, by omega, by omega, rfl, hk29⟩, (by rw [nI_clamp (by omega)]; exact tq_43), e35⟩), hI39, hu⟩

