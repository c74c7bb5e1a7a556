set_option maxHeartbeats 4000000 in
set_option maxRecDepth 100000 in
theorem m_digitsOf58 (l : Launch) (g : Lay) (sz : Nat) (f : Nat → va_E) (A : Nat) (fr9 : Nat) (n9 : Nat) (hL : LO g) (t_A : g.tg A = 58) (hI : OC g f) (hfn : fr9 + n9 ≤ 200) : Met l ⟨"BigRunnerModel", "digitsOf", "([III)I"⟩ [Cond.code ⟨"BigRunnerModel", "digitsOf", "([III)I"⟩ prog_12_method_35_code 7 (some .int)] ({ frames := 0, cells := 0, slots := 0, locals := 0 }) (va_Pc [.ref A, .int (nI fr9), .int (nI n9)] (pc_in g sz f)) (va_Qi (fun r f1 => (f = f1)) (pc_out g sz) (pc_A g sz)) 0 0 (pc_A g sz) := by
  refine pe_ofW (cc := prog_12_method_35_code) (maxL := 7) (ret := (some .int)) (lv := [(0, .ref A), (1, .int (nI fr9)), (2, .int (nI n9))]) (by decide) (Nat.le_of_ble_eq_true rfl) rfl ?_
  intro p e s m args below meth c ls hx hb hr hml hlocks hown hB hP hK hD hsz hS hl
  subst hsz
  refine lv_iconst (v := nI 1) hx hb d_M_digitsOf_0 (by decide) ?_
  refine lv_istore_n (lv' := [(3, .int (nI 1)), (0, .ref A), (1, .int (nI fr9)), (2, .int (nI n9))]) hx hb d_M_digitsOf_1 rfl hl (by decide) rfl (fun ls hl => ?_)
  refine lv_iconst (v := nI 0) hx hb d_M_digitsOf_2 (by decide) ?_
  refine lv_istore (lv' := [(4, .int (nI 0)), (3, .int (nI 1)), (0, .ref A), (1, .int (nI fr9)), (2, .int (nI n9))]) hx hb d_M_digitsOf_3 hl (by decide) rfl (fun ls hl => ?_)
  have lp1 : ∀ (k3 : Nat) (dg9 : Int32) (i : Nat) (H : Heap) (locs : List Loc) (ls : Array Slot), (n9 < i + k3) → (i ≤ n9) → lv_has ls 7 [(4, .int (nI i)), (3, .int dg9), (0, .ref A), (1, .int (nI fr9)), (2, .int (nI n9))] → va_P g.D vcl (va_pl g.LP f) H → va_D (pc_A g s.heap.size) (va_pl g.LP f) → va_S (pc_A g s.heap.size) s.heap H locs → W p l e ({ frames := 0, cells := 0, slots := 0, locals := 0 }) s m args below meth c H locs 0 0 (MQ below (va_Qi (fun r f1 => (f = f1)) (pc_out g s.heap.size) (pc_A g s.heap.size)) args s 0 0 (pc_A g s.heap.size)) (F0 m 5 ls []) := by
    intro k3
    induction k3 with
    | zero => intros; exfalso; omega
    | succ k3 ih4 =>
      intro dg9 i H locs ls hfu5 hi hl hP hD hS
      refine lv_iload hx hb d_M_digitsOf_5 (lv_at hl 0 rfl) ?_
      refine lv_iload_n hx hb d_M_digitsOf_7 rfl (lv_at hl 4 rfl) ?_
      refine lv_icmp_ge (tgt := 55) hx hb d_M_digitsOf_8 (by decide) (fun b8 => ?_) (fun b8 => ?_)
      · skip
        replace b8 := (nI_leI (a := n9) (b := i) (by omega) (by omega)).mp b8
        refine lv_iload_n hx hb d_M_digitsOf_55 rfl (lv_at hl 1 rfl) ?_
        exact pe_iret hx hb hr hlocks hK hP hD hS d_M_digitsOf_56 rfl
      · skip
        replace b8 := mt (nI_leI (a := n9) (b := i) (by omega) (by omega)).mpr b8
        refine lv_aload_n hx hb d_M_digitsOf_11 rfl (lv_at hl 2 rfl) ?_
        refine lv_iload_n hx hb d_M_digitsOf_12 rfl (lv_at hl 3 rfl) ?_
        refine lv_iload hx hb d_M_digitsOf_13 (lv_at hl 0 rfl) ?_
        refine pf_iaddN (x := fr9) (y := i) hx hb d_M_digitsOf_15 ?_
        obtain ⟨h_10, e9⟩ := oc_58.of t_A (hI A)
        refine pf_iald (i := fr9 + i) hx hb hK hP (lo_in hL t_A (by decide)) e9 (lo_t58 hL _ t_A) (by omega) (by decide) d_M_digitsOf_16 ?_
        refine lv_topi (fun iv12 _ => ?_)
        refine lv_istore (lv' := [(5, .int iv12), (4, .int (nI i)), (3, .int dg9), (0, .ref A), (1, .int (nI fr9)), (2, .int (nI n9))]) hx hb d_M_digitsOf_17 hl (by decide) rfl (fun ls hl => ?_)
        refine lv_iconst (v := nI 1) hx hb d_M_digitsOf_19 (by decide) ?_
        refine lv_istore (lv' := [(6, .int (nI 1)), (5, .int iv12), (4, .int (nI i)), (3, .int dg9), (0, .ref A), (1, .int (nI fr9)), (2, .int (nI n9))]) hx hb d_M_digitsOf_20 hl (by decide) rfl (fun ls hl => ?_)
        by_cases hz : iv12 < 0
        · skip
          refine lv_iload hx hb d_M_digitsOf_22 (lv_at hl 1 rfl) ?_
          refine lv_if_le (tgt := 49) hx hb d_M_digitsOf_24 (by decide) (fun b13 => ?_) (fun b13 => ?_)
          · skip
            refine lv_iinc (k := 2) (v := nI (i + 1)) (lv' := [(4, .int (nI (i + 1))), (6, .int (nI 1)), (5, .int iv12), (3, .int dg9), (0, .ref A), (1, .int (nI fr9)), (2, .int (nI n9))]) hx hb d_M_digitsOf_49 hl rfl (by rw [nI_succ]; rfl) (by decide) rfl (fun ls hl => ?_)
            refine lv_goto (tgt := 5) hx hb d_M_digitsOf_52 (by decide) ?_
            have hl : lv_has ls 7 [(4, .int (nI (i + 1))), (3, .int dg9), (0, .ref A), (1, .int (nI fr9)), (2, .int (nI n9))] := lv_sub hl [0, 3, 4, 5, 6] rfl
            exact ih4 dg9 (i + 1) H locs ls (by omega) (by omega) hl hP hD hS
          · skip
            exact absurd (Int32.le_of_lt hz) b13
        · skip
          obtain ⟨q, hq, rfl⟩ := nI_of hz
          have lp14 : ∀ (k16 : Nat) (dg8 : Int32) (q : Nat) (kk : Int32) (H : Heap) (locs : List Loc) (ls : Array Slot), (q < k16) → (q < 2 ^ 31) → lv_has ls 7 [(6, .int kk), (5, .int (nI q)), (4, .int (nI i)), (3, .int dg8), (0, .ref A), (1, .int (nI fr9)), (2, .int (nI n9))] → va_P g.D vcl (va_pl g.LP f) H → va_D (pc_A g s.heap.size) (va_pl g.LP f) → va_S (pc_A g s.heap.size) s.heap H locs → W p l e ({ frames := 0, cells := 0, slots := 0, locals := 0 }) s m args below meth c H locs 0 0 (MQ below (va_Qi (fun r f1 => (f = f1)) (pc_out g s.heap.size) (pc_A g s.heap.size)) args s 0 0 (pc_A g s.heap.size)) (F0 m 22 ls []) := by
            intro k16
            induction k16 with
            | zero => intros; exfalso; omega
            | succ k16 ih17 =>
              intro dg8 q kk H locs ls hfu18 hq hl hP hD hS
              refine lv_iload hx hb d_M_digitsOf_22 (lv_at hl 1 rfl) ?_
              refine lv_if_le (tgt := 49) hx hb d_M_digitsOf_24 (by decide) (fun b21 => ?_) (fun b21 => ?_)
              · skip
                replace b21 := (nI_leI (a := q) (b := 0) (by omega) (by omega)).mp b21
                refine lv_iinc (k := 2) (v := nI (i + 1)) (lv' := [(4, .int (nI (i + 1))), (6, .int kk), (5, .int (nI q)), (3, .int dg8), (0, .ref A), (1, .int (nI fr9)), (2, .int (nI n9))]) hx hb d_M_digitsOf_49 hl rfl (by rw [nI_succ]; rfl) (by decide) rfl (fun ls hl => ?_)
                refine lv_goto (tgt := 5) hx hb d_M_digitsOf_52 (by decide) ?_
                have hl : lv_has ls 7 [(4, .int (nI (i + 1))), (3, .int dg8), (0, .ref A), (1, .int (nI fr9)), (2, .int (nI n9))] := lv_sub hl [0, 3, 4, 5, 6] rfl
                exact ih4 dg8 (i + 1) H locs ls (by omega) (by omega) hl hP hD hS
              · skip
                replace b21 := mt (nI_leI (a := q) (b := 0) (by omega) (by omega)).mpr b21
                refine lv_bipush (v := nI 6) hx hb d_M_digitsOf_27 (by decide) ?_
                refine lv_iload hx hb d_M_digitsOf_29 (lv_at hl 2 rfl) ?_
                refine pf_imulN (x := 6) (y := i) hx hb d_M_digitsOf_31 ?_
                refine lv_iload hx hb d_M_digitsOf_32 (lv_at hl 0 rfl) ?_
                refine lv_iadd hx hb d_M_digitsOf_34 ?_
                refine lv_topi (fun iv22 _ => ?_)
                refine lv_istore_n (lv' := [(3, .int iv22), (6, .int kk), (5, .int (nI q)), (4, .int (nI i)), (0, .ref A), (1, .int (nI fr9)), (2, .int (nI n9))]) hx hb d_M_digitsOf_35 rfl hl (by decide) rfl (fun ls hl => ?_)
                refine lv_iload hx hb d_M_digitsOf_36 (lv_at hl 2 rfl) ?_
                refine lv_bipush (v := nI 10) hx hb d_M_digitsOf_38 (by decide) ?_
                refine pf_idivN (x := q) (y := 10) hx hb (by omega) (by omega) (by omega) d_M_digitsOf_40 ?_
                refine lv_istore (lv' := [(5, .int (nI (q / 10))), (3, .int iv22), (6, .int kk), (4, .int (nI i)), (0, .ref A), (1, .int (nI fr9)), (2, .int (nI n9))]) hx hb d_M_digitsOf_41 hl (by decide) rfl (fun ls hl => ?_)
                refine lv_iinc (k := 2) (v := kk + 1) (lv' := [(6, .int (kk + 1)), (5, .int (nI (q / 10))), (3, .int iv22), (4, .int (nI i)), (0, .ref A), (1, .int (nI fr9)), (2, .int (nI n9))]) hx hb d_M_digitsOf_43 hl rfl rfl (by decide) rfl (fun ls hl => ?_)
                refine lv_goto (tgt := 22) hx hb d_M_digitsOf_46 (by decide) ?_
                have hl : lv_has ls 7 [(6, .int (kk + 1)), (5, .int (nI (q / 10))), (4, .int (nI i)), (3, .int iv22), (0, .ref A), (1, .int (nI fr9)), (2, .int (nI n9))] := lv_sub hl [0, 1, 3, 2, 4, 5, 6] rfl
                exact ih17 iv22 (q / 10) (kk + 1) H locs ls (by omega) (by omega) hl hP hD hS
          exact lp14 (q + 1) dg9 q (nI 1) H locs ls (by omega) (by omega) hl hP hD hS
  exact lp1 (n9 + 1) (nI 1) 0 s.heap [] ls (by omega) (by omega) hl hP hD hS
set_option maxHeartbeats 4000000 in
set_option maxRecDepth 100000 in
theorem m_digitsOf60 (l : Launch) (g : Lay) (sz : Nat) (f : Nat → va_E) (A : Nat) (fr9 : Nat) (n9 : Nat) (hL : LO g) (t_A : g.tg A = 60) (hI : OC g f) (hfn : fr9 + n9 ≤ 240) : Met l ⟨"BigRunnerModel", "digitsOf", "([III)I"⟩ [Cond.code ⟨"BigRunnerModel", "digitsOf", "([III)I"⟩ prog_12_method_35_code 7 (some .int)] ({ frames := 0, cells := 0, slots := 0, locals := 0 }) (va_Pc [.ref A, .int (nI fr9), .int (nI n9)] (pc_in g sz f)) (va_Qi (fun r f1 => (f = f1)) (pc_out g sz) (pc_A g sz)) 0 0 (pc_A g sz) := by
  refine pe_ofW (cc := prog_12_method_35_code) (maxL := 7) (ret := (some .int)) (lv := [(0, .ref A), (1, .int (nI fr9)), (2, .int (nI n9))]) (by decide) (Nat.le_of_ble_eq_true rfl) rfl ?_
  intro p e s m args below meth c ls hx hb hr hml hlocks hown hB hP hK hD hsz hS hl
  subst hsz
  refine lv_iconst (v := nI 1) hx hb d_M_digitsOf_0 (by decide) ?_
  refine lv_istore_n (lv' := [(3, .int (nI 1)), (0, .ref A), (1, .int (nI fr9)), (2, .int (nI n9))]) hx hb d_M_digitsOf_1 rfl hl (by decide) rfl (fun ls hl => ?_)
  refine lv_iconst (v := nI 0) hx hb d_M_digitsOf_2 (by decide) ?_
  refine lv_istore (lv' := [(4, .int (nI 0)), (3, .int (nI 1)), (0, .ref A), (1, .int (nI fr9)), (2, .int (nI n9))]) hx hb d_M_digitsOf_3 hl (by decide) rfl (fun ls hl => ?_)
  have lp1 : ∀ (k3 : Nat) (dg9 : Int32) (i : Nat) (H : Heap) (locs : List Loc) (ls : Array Slot), (n9 < i + k3) → (i ≤ n9) → lv_has ls 7 [(4, .int (nI i)), (3, .int dg9), (0, .ref A), (1, .int (nI fr9)), (2, .int (nI n9))] → va_P g.D vcl (va_pl g.LP f) H → va_D (pc_A g s.heap.size) (va_pl g.LP f) → va_S (pc_A g s.heap.size) s.heap H locs → W p l e ({ frames := 0, cells := 0, slots := 0, locals := 0 }) s m args below meth c H locs 0 0 (MQ below (va_Qi (fun r f1 => (f = f1)) (pc_out g s.heap.size) (pc_A g s.heap.size)) args s 0 0 (pc_A g s.heap.size)) (F0 m 5 ls []) := by
    intro k3
    induction k3 with
    | zero => intros; exfalso; omega
    | succ k3 ih4 =>
      intro dg9 i H locs ls hfu5 hi hl hP hD hS
      refine lv_iload hx hb d_M_digitsOf_5 (lv_at hl 0 rfl) ?_
      refine lv_iload_n hx hb d_M_digitsOf_7 rfl (lv_at hl 4 rfl) ?_
      refine lv_icmp_ge (tgt := 55) hx hb d_M_digitsOf_8 (by decide) (fun b8 => ?_) (fun b8 => ?_)
      · skip
        replace b8 := (nI_leI (a := n9) (b := i) (by omega) (by omega)).mp b8
        refine lv_iload_n hx hb d_M_digitsOf_55 rfl (lv_at hl 1 rfl) ?_
        exact pe_iret hx hb hr hlocks hK hP hD hS d_M_digitsOf_56 rfl
      · skip
        replace b8 := mt (nI_leI (a := n9) (b := i) (by omega) (by omega)).mpr b8
        refine lv_aload_n hx hb d_M_digitsOf_11 rfl (lv_at hl 2 rfl) ?_
        refine lv_iload_n hx hb d_M_digitsOf_12 rfl (lv_at hl 3 rfl) ?_
        refine lv_iload hx hb d_M_digitsOf_13 (lv_at hl 0 rfl) ?_
        refine pf_iaddN (x := fr9) (y := i) hx hb d_M_digitsOf_15 ?_
        obtain ⟨h_10, e9⟩ := oc_60.of t_A (hI A)
        refine pf_iald (i := fr9 + i) hx hb hK hP (lo_in hL t_A (by decide)) e9 (lo_t60 hL _ t_A) (by omega) (by decide) d_M_digitsOf_16 ?_
        refine lv_topi (fun iv12 _ => ?_)
        refine lv_istore (lv' := [(5, .int iv12), (4, .int (nI i)), (3, .int dg9), (0, .ref A), (1, .int (nI fr9)), (2, .int (nI n9))]) hx hb d_M_digitsOf_17 hl (by decide) rfl (fun ls hl => ?_)
        refine lv_iconst (v := nI 1) hx hb d_M_digitsOf_19 (by decide) ?_
        refine lv_istore (lv' := [(6, .int (nI 1)), (5, .int iv12), (4, .int (nI i)), (3, .int dg9), (0, .ref A), (1, .int (nI fr9)), (2, .int (nI n9))]) hx hb d_M_digitsOf_20 hl (by decide) rfl (fun ls hl => ?_)
        by_cases hz : iv12 < 0
        · skip
          refine lv_iload hx hb d_M_digitsOf_22 (lv_at hl 1 rfl) ?_
          refine lv_if_le (tgt := 49) hx hb d_M_digitsOf_24 (by decide) (fun b13 => ?_) (fun b13 => ?_)
          · skip
            refine lv_iinc (k := 2) (v := nI (i + 1)) (lv' := [(4, .int (nI (i + 1))), (6, .int (nI 1)), (5, .int iv12), (3, .int dg9), (0, .ref A), (1, .int (nI fr9)), (2, .int (nI n9))]) hx hb d_M_digitsOf_49 hl rfl (by rw [nI_succ]; rfl) (by decide) rfl (fun ls hl => ?_)
            refine lv_goto (tgt := 5) hx hb d_M_digitsOf_52 (by decide) ?_
            have hl : lv_has ls 7 [(4, .int (nI (i + 1))), (3, .int dg9), (0, .ref A), (1, .int (nI fr9)), (2, .int (nI n9))] := lv_sub hl [0, 3, 4, 5, 6] rfl
            exact ih4 dg9 (i + 1) H locs ls (by omega) (by omega) hl hP hD hS
          · skip
            exact absurd (Int32.le_of_lt hz) b13
        · skip
          obtain ⟨q, hq, rfl⟩ := nI_of hz
          have lp14 : ∀ (k16 : Nat) (dg8 : Int32) (q : Nat) (kk : Int32) (H : Heap) (locs : List Loc) (ls : Array Slot), (q < k16) → (q < 2 ^ 31) → lv_has ls 7 [(6, .int kk), (5, .int (nI q)), (4, .int (nI i)), (3, .int dg8), (0, .ref A), (1, .int (nI fr9)), (2, .int (nI n9))] → va_P g.D vcl (va_pl g.LP f) H → va_D (pc_A g s.heap.size) (va_pl g.LP f) → va_S (pc_A g s.heap.size) s.heap H locs → W p l e ({ frames := 0, cells := 0, slots := 0, locals := 0 }) s m args below meth c H locs 0 0 (MQ below (va_Qi (fun r f1 => (f = f1)) (pc_out g s.heap.size) (pc_A g s.heap.size)) args s 0 0 (pc_A g s.heap.size)) (F0 m 22 ls []) := by
            intro k16
            induction k16 with
            | zero => intros; exfalso; omega
            | succ k16 ih17 =>
              intro dg8 q kk H locs ls hfu18 hq hl hP hD hS
              refine lv_iload hx hb d_M_digitsOf_22 (lv_at hl 1 rfl) ?_
              refine lv_if_le (tgt := 49) hx hb d_M_digitsOf_24 (by decide) (fun b21 => ?_) (fun b21 => ?_)
              · skip
                replace b21 := (nI_leI (a := q) (b := 0) (by omega) (by omega)).mp b21
                refine lv_iinc (k := 2) (v := nI (i + 1)) (lv' := [(4, .int (nI (i + 1))), (6, .int kk), (5, .int (nI q)), (3, .int dg8), (0, .ref A), (1, .int (nI fr9)), (2, .int (nI n9))]) hx hb d_M_digitsOf_49 hl rfl (by rw [nI_succ]; rfl) (by decide) rfl (fun ls hl => ?_)
                refine lv_goto (tgt := 5) hx hb d_M_digitsOf_52 (by decide) ?_
                have hl : lv_has ls 7 [(4, .int (nI (i + 1))), (3, .int dg8), (0, .ref A), (1, .int (nI fr9)), (2, .int (nI n9))] := lv_sub hl [0, 3, 4, 5, 6] rfl
                exact ih4 dg8 (i + 1) H locs ls (by omega) (by omega) hl hP hD hS
              · skip
                replace b21 := mt (nI_leI (a := q) (b := 0) (by omega) (by omega)).mpr b21
                refine lv_bipush (v := nI 6) hx hb d_M_digitsOf_27 (by decide) ?_
                refine lv_iload hx hb d_M_digitsOf_29 (lv_at hl 2 rfl) ?_
                refine pf_imulN (x := 6) (y := i) hx hb d_M_digitsOf_31 ?_
                refine lv_iload hx hb d_M_digitsOf_32 (lv_at hl 0 rfl) ?_
                refine lv_iadd hx hb d_M_digitsOf_34 ?_
                refine lv_topi (fun iv22 _ => ?_)
                refine lv_istore_n (lv' := [(3, .int iv22), (6, .int kk), (5, .int (nI q)), (4, .int (nI i)), (0, .ref A), (1, .int (nI fr9)), (2, .int (nI n9))]) hx hb d_M_digitsOf_35 rfl hl (by decide) rfl (fun ls hl => ?_)
                refine lv_iload hx hb d_M_digitsOf_36 (lv_at hl 2 rfl) ?_
                refine lv_bipush (v := nI 10) hx hb d_M_digitsOf_38 (by decide) ?_
                refine pf_idivN (x := q) (y := 10) hx hb (by omega) (by omega) (by omega) d_M_digitsOf_40 ?_
                refine lv_istore (lv' := [(5, .int (nI (q / 10))), (3, .int iv22), (6, .int kk), (4, .int (nI i)), (0, .ref A), (1, .int (nI fr9)), (2, .int (nI n9))]) hx hb d_M_digitsOf_41 hl (by decide) rfl (fun ls hl => ?_)
                refine lv_iinc (k := 2) (v := kk + 1) (lv' := [(6, .int (kk + 1)), (5, .int (nI (q / 10))), (3, .int iv22), (4, .int (nI i)), (0, .ref A), (1, .int (nI fr9)), (2, .int (nI n9))]) hx hb d_M_digitsOf_43 hl rfl rfl (by decide) rfl (fun ls hl => ?_)
                refine lv_goto (tgt := 22) hx hb d_M_digitsOf_46 (by decide) ?_
                have hl : lv_has ls 7 [(6, .int (kk + 1)), (5, .int (nI (q / 10))), (4, .int (nI i)), (3, .int iv22), (0, .ref A), (1, .int (nI fr9)), (2, .int (nI n9))] := lv_sub hl [0, 1, 3, 2, 4, 5, 6] rfl
                exact ih17 iv22 (q / 10) (kk + 1) H locs ls (by omega) (by omega) hl hP hD hS
          exact lp14 (q + 1) dg9 q (nI 1) H locs ls (by omega) (by omega) hl hP hD hS
  exact lp1 (n9 + 1) (nI 1) 0 s.heap [] ls (by omega) (by omega) hl hP hD hS
