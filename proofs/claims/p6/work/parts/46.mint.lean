theorem ng_ne {v : Int64} (h : ¬ v = nL 0) : ¬ -v = 0 := fun q => h (by
  have e : v = -(-v) := (Int64.neg_neg).symm
  rw [e, q]
  rfl)
set_option maxHeartbeats 4000000 in
set_option maxRecDepth 100000 in
theorem m_less (l : Launch) (g : Lay) (sz : Nat) (f : Nat → va_E) (u : Int64) (v : Int64) (hL : LO g) (hI : OC g f) : Met l ⟨"BigRunnerModel", "less", "(JJ)J"⟩ [Cond.code ⟨"BigRunnerModel", "less", "(JJ)J"⟩ prog_12_method_16_code 4 (some .long)] ({ frames := 0, cells := 0, slots := 0, locals := 0 }) (va_Pc [.long u, .long v] (pc_in g sz f)) (va_Ql (fun r f1 => (f = f1)) (pc_out g sz) (pc_A g sz)) 0 0 (pc_A g sz) := by
  refine pe_ofW (cc := prog_12_method_16_code) (maxL := 4) (ret := (some .long)) (lv := [(0, .long u), (2, .long v)]) (by decide) (Nat.le_of_ble_eq_true rfl) rfl ?_
  intro p e s m args below meth c ls hx hb hr hml hlocks hown hB hP hK hD hsz hS hl
  subst hsz
  refine lv_lload_n hx hb d_M_less_0 rfl (lv_at hl 0 rfl) ?_
  refine lv_lload_n hx hb d_M_less_1 rfl (lv_at hl 1 rfl) ?_
  refine W.lcmp hx hb d_M_less_2 ?_
  refine lv_if_ge (tgt := 10) hx hb d_M_less_3 (by decide) (fun b1 => ?_) (fun b1 => ?_)
  · skip
    replace b1 := pl_ge.mp b1
    refine lv_lload_n hx hb d_M_less_10 rfl (lv_at hl 1 rfl) ?_
    exact pe_lret hx hb hr hlocks hK hP hD hS d_M_less_11 rfl
  · skip
    replace b1 := mt pl_ge.mpr b1
    refine lv_lload_n hx hb d_M_less_6 rfl (lv_at hl 0 rfl) ?_
    refine lv_goto (tgt := 11) hx hb d_M_less_7 (by decide) ?_
    exact pe_lret hx hb hr hlocks hK hP hD hS d_M_less_11 rfl
set_option maxHeartbeats 4000000 in
set_option maxRecDepth 100000 in
theorem m_more (l : Launch) (g : Lay) (sz : Nat) (f : Nat → va_E) (u : Int64) (v : Int64) (hL : LO g) (hI : OC g f) : Met l ⟨"BigRunnerModel", "more", "(JJ)J"⟩ [Cond.code ⟨"BigRunnerModel", "more", "(JJ)J"⟩ prog_12_method_17_code 4 (some .long)] ({ frames := 0, cells := 0, slots := 0, locals := 0 }) (va_Pc [.long u, .long v] (pc_in g sz f)) (va_Ql (fun r f1 => (f = f1)) (pc_out g sz) (pc_A g sz)) 0 0 (pc_A g sz) := by
  refine pe_ofW (cc := prog_12_method_17_code) (maxL := 4) (ret := (some .long)) (lv := [(0, .long u), (2, .long v)]) (by decide) (Nat.le_of_ble_eq_true rfl) rfl ?_
  intro p e s m args below meth c ls hx hb hr hml hlocks hown hB hP hK hD hsz hS hl
  subst hsz
  refine lv_lload_n hx hb d_M_more_0 rfl (lv_at hl 0 rfl) ?_
  refine lv_lload_n hx hb d_M_more_1 rfl (lv_at hl 1 rfl) ?_
  refine W.lcmp hx hb d_M_more_2 ?_
  refine lv_if_le (tgt := 10) hx hb d_M_more_3 (by decide) (fun b1 => ?_) (fun b1 => ?_)
  · skip
    replace b1 := pl_le.mp b1
    refine lv_lload_n hx hb d_M_more_10 rfl (lv_at hl 1 rfl) ?_
    exact pe_lret hx hb hr hlocks hK hP hD hS d_M_more_11 rfl
  · skip
    replace b1 := mt pl_le.mpr b1
    refine lv_lload_n hx hb d_M_more_6 rfl (lv_at hl 0 rfl) ?_
    refine lv_goto (tgt := 11) hx hb d_M_more_7 (by decide) ?_
    exact pe_lret hx hb hr hlocks hK hP hD hS d_M_more_11 rfl
set_option maxHeartbeats 4000000 in
set_option maxRecDepth 100000 in
theorem m_size (l : Launch) (g : Lay) (sz : Nat) (f : Nat → va_E) (v : Int64) (hL : LO g) (hI : OC g f) : Met l ⟨"BigRunnerModel", "size", "(J)J"⟩ [Cond.code ⟨"BigRunnerModel", "size", "(J)J"⟩ prog_12_method_18_code 2 (some .long)] ({ frames := 0, cells := 0, slots := 0, locals := 0 }) (va_Pc [.long v] (pc_in g sz f)) (va_Ql (fun r f1 => (¬ v = nL 0 → ¬ r = 0) ∧ (f = f1)) (pc_out g sz) (pc_A g sz)) 0 0 (pc_A g sz) := by
  refine pe_ofW (cc := prog_12_method_18_code) (maxL := 2) (ret := (some .long)) (lv := [(0, .long v)]) (by decide) (Nat.le_of_ble_eq_true rfl) rfl ?_
  intro p e s m args below meth c ls hx hb hr hml hlocks hown hB hP hK hD hsz hS hl
  subst hsz
  refine lv_lload_n hx hb d_M_size_0 rfl (lv_at hl 0 rfl) ?_
  refine lv_lconst (v := nL 0) hx hb d_M_size_1 (by decide) ?_
  refine W.lcmp hx hb d_M_size_2 ?_
  refine lv_if_ge (tgt := 11) hx hb d_M_size_3 (by decide) (fun b1 => ?_) (fun b1 => ?_)
  · skip
    replace b1 := pl_ge.mp b1
    refine lv_lload_n hx hb d_M_size_11 rfl (lv_at hl 0 rfl) ?_
    exact pe_lret hx hb hr hlocks hK hP hD hS d_M_size_12 ⟨(fun z9 => z9), rfl⟩
  · skip
    replace b1 := mt pl_ge.mpr b1
    refine lv_lload_n hx hb d_M_size_6 rfl (lv_at hl 0 rfl) ?_
    refine lv_lneg hx hb d_M_size_7 ?_
    refine lv_goto (tgt := 12) hx hb d_M_size_8 (by decide) ?_
    exact pe_lret hx hb hr hlocks hK hP hD hS d_M_size_12 ⟨(fun z9 => ng_ne z9), rfl⟩
set_option maxHeartbeats 4000000 in
set_option maxRecDepth 100000 in
theorem m_times (l : Launch) (g : Lay) (sz : Nat) (f : Nat → va_E) (u : Int64) (v : Int64) (hL : LO g) (hI : OC g f) : Met l ⟨"BigRunnerModel", "times", "(JJ)J"⟩ [Cond.code ⟨"BigRunnerModel", "times", "(JJ)J"⟩ prog_12_method_19_code 6 (some .long)] ({ frames := 1, cells := 0, slots := 0, locals := 21 }) (va_Pc [.long u, .long v] (pc_in g sz f)) (va_Ql (fun r f1 => (f = f1)) (pc_out g sz) (pc_A g sz)) 0 0 (pc_A g sz) := by
  refine pe_ofW (cc := prog_12_method_19_code) (maxL := 6) (ret := (some .long)) (lv := [(0, .long u), (2, .long v)]) (by decide) (Nat.le_of_ble_eq_true rfl) rfl ?_
  intro p e s m args below meth c ls hx hb hr hml hlocks hown hB hP hK hD hsz hS hl
  subst hsz
  refine lv_lload_n hx hb d_M_times_0 rfl (lv_at hl 0 rfl) ?_
  refine lv_lconst (v := nL 0) hx hb d_M_times_1 (by decide) ?_
  refine W.lcmp hx hb d_M_times_2 ?_
  refine lv_if_eq (tgt := 12) hx hb d_M_times_3 (by decide) (fun b1 => ?_) (fun b1 => ?_)
  · skip
    replace b1 := pl_eq.mp b1
    refine lv_lconst (v := nL 0) hx hb d_M_times_12 (by decide) ?_
    exact pe_lret hx hb hr hlocks hK hP hD hS d_M_times_13 rfl
  · skip
    replace b1 := mt pl_eq.mpr b1
    refine lv_lload_n hx hb d_M_times_6 rfl (lv_at hl 1 rfl) ?_
    refine lv_lconst (v := nL 0) hx hb d_M_times_7 (by decide) ?_
    refine W.lcmp hx hb d_M_times_8 ?_
    refine lv_if_ne (tgt := 14) hx hb d_M_times_9 (by decide) (fun b2 => ?_) (fun b2 => ?_)
    · skip
      replace b2 := mt pl_eq.mpr b2
      refine lv_lload_n hx hb d_M_times_14 rfl (lv_at hl 0 rfl) ?_
      refine pcc_l (va_runS (As := [.long u]) (rest := []) ⟨hx, hb, hml, hown, tb_nil⟩ (m_size l g s.heap.size f u hL hI) ⟨(callB_of 1 (tb_one (wd_1172 hB _)) tb_good1 rfl rfl rfl (wd_82 hB _) (wd_1170 hB _) (by decide +kernel) ⟨Nat.le_of_ble_eq_true rfl, Nat.le_of_ble_eq_true rfl⟩), (wd_1171 hB _)⟩ ⟨pe_bl, pe_pre hB hK hP hD⟩ rfl rfl hl.1 rfl (lv_room (Nat.le_of_ble_eq_true rfl)) d_M_times_15 ⟨Nat.le_of_ble_eq_true rfl, Nat.le_of_ble_eq_true rfl⟩) hS (fun r3 f4 H locs hq5 hP hD hS => ?_)
      obtain ⟨z_6, rfl⟩ := hq5
      refine lv_ldc2 (v := 1152921504606846976) hx hb hown (wd_1162 hB _) d_M_times_18 ?_
      refine lv_topl (fun z_ hz_ => ?_)
      obtain rfl : z_ = nL 1152921504606846976 := hz_
      refine lv_lload_n hx hb d_M_times_21 rfl (lv_at hl 1 rfl) ?_
      refine pcc_l (va_runS (As := [.long v]) (rest := [.long (nL 1152921504606846976), .long r3]) ⟨hx, hb, hml, hown, tb_nil⟩ (m_size l g H.size f v hL hI) ⟨(callB_of 1 (tb_one (wd_1172 hB _)) tb_good1 rfl rfl rfl (wd_82 hB _) (wd_1170 hB _) (by decide +kernel) ⟨Nat.le_of_ble_eq_true rfl, Nat.le_of_ble_eq_true rfl⟩), (wd_1171 hB _)⟩ ⟨pe_bl, pe_pre hB hK hP hD⟩ rfl rfl hl.1 rfl (lv_room (Nat.le_of_ble_eq_true rfl)) d_M_times_22 ⟨Nat.le_of_ble_eq_true rfl, Nat.le_of_ble_eq_true rfl⟩) hS (fun r7 f8 H locs hq9 hP hD hS => ?_)
      obtain ⟨z_10, rfl⟩ := hq9
      refine lv_ldiv hx hb d_M_times_25 (z_10 b2) ?_
      refine lv_topl (fun lv11 _ => ?_)
      refine W.lcmp hx hb d_M_times_26 ?_
      refine lv_if_le (tgt := 36) hx hb d_M_times_27 (by decide) (fun b12 => ?_) (fun b12 => ?_)
      · skip
        replace b12 := pl_le.mp b12
        refine lv_lload_n hx hb d_M_times_36 rfl (lv_at hl 0 rfl) ?_
        refine pcc_l (va_runS (As := [.long u]) (rest := []) ⟨hx, hb, hml, hown, tb_nil⟩ (m_size l g H.size f u hL hI) ⟨(callB_of 1 (tb_one (wd_1172 hB _)) tb_good1 rfl rfl rfl (wd_82 hB _) (wd_1170 hB _) (by decide +kernel) ⟨Nat.le_of_ble_eq_true rfl, Nat.le_of_ble_eq_true rfl⟩), (wd_1171 hB _)⟩ ⟨pe_bl, pe_pre hB hK hP hD⟩ rfl rfl hl.1 rfl (lv_room (Nat.le_of_ble_eq_true rfl)) d_M_times_37 ⟨Nat.le_of_ble_eq_true rfl, Nat.le_of_ble_eq_true rfl⟩) hS (fun r13 f14 H locs hq15 hP hD hS => ?_)
        obtain ⟨z_16, rfl⟩ := hq15
        refine lv_lload_n hx hb d_M_times_40 rfl (lv_at hl 1 rfl) ?_
        refine pcc_l (va_runS (As := [.long v]) (rest := [.long r13]) ⟨hx, hb, hml, hown, tb_nil⟩ (m_size l g H.size f v hL hI) ⟨(callB_of 1 (tb_one (wd_1172 hB _)) tb_good1 rfl rfl rfl (wd_82 hB _) (wd_1170 hB _) (by decide +kernel) ⟨Nat.le_of_ble_eq_true rfl, Nat.le_of_ble_eq_true rfl⟩), (wd_1171 hB _)⟩ ⟨pe_bl, pe_pre hB hK hP hD⟩ rfl rfl hl.1 rfl (lv_room (Nat.le_of_ble_eq_true rfl)) d_M_times_41 ⟨Nat.le_of_ble_eq_true rfl, Nat.le_of_ble_eq_true rfl⟩) hS (fun r17 f18 H locs hq19 hP hD hS => ?_)
        obtain ⟨z_20, rfl⟩ := hq19
        refine lv_lmul hx hb d_M_times_44 ?_
        refine lv_topl (fun lv21 _ => ?_)
        refine lv_lstore (lv' := [(4, .long lv21), (0, .long u), (2, .long v)]) hx hb d_M_times_45 hl (by decide) rfl (fun ls hl => ?_)
        refine lv_lload_n hx hb d_M_times_47 rfl (lv_at hl 1 rfl) ?_
        refine lv_lconst (v := nL 0) hx hb d_M_times_48 (by decide) ?_
        refine W.lcmp hx hb d_M_times_49 ?_
        refine lv_if_ge (tgt := 57) hx hb d_M_times_50 (by decide) (fun b22 => ?_) (fun b22 => ?_)
        · skip
          replace b22 := pl_ge.mp b22
          refine lv_iconst (v := nI 0) hx hb d_M_times_57 (by decide) ?_
          refine lv_lload_n hx hb d_M_times_58 rfl (lv_at hl 2 rfl) ?_
          refine lv_lconst (v := nL 0) hx hb d_M_times_59 (by decide) ?_
          refine W.lcmp hx hb d_M_times_60 ?_
          refine lv_if_ge (tgt := 68) hx hb d_M_times_61 (by decide) (fun b23 => ?_) (fun b23 => ?_)
          · skip
            replace b23 := pl_ge.mp b23
            refine lv_iconst (v := nI 0) hx hb d_M_times_68 (by decide) ?_
            refine lv_icmp_ne (tgt := 77) hx hb d_M_times_69 (by decide) (fun b24 => ?_) (fun b24 => ?_)
            · skip
              replace b24 := mt (nI_eq (a := 0) (b := 0) (by omega) (by omega)).mpr b24
              exfalso; omega
            · skip
              replace b24 := (nI_eq (a := 0) (b := 0) (by omega) (by omega)).mp b24
              refine lv_lload hx hb d_M_times_72 (lv_at hl 0 rfl) ?_
              refine lv_goto (tgt := 80) hx hb d_M_times_74 (by decide) ?_
              exact pe_lret hx hb hr hlocks hK hP hD hS d_M_times_80 rfl
          · skip
            replace b23 := mt pl_ge.mpr b23
            refine lv_iconst (v := nI 1) hx hb d_M_times_64 (by decide) ?_
            refine lv_goto (tgt := 69) hx hb d_M_times_65 (by decide) ?_
            refine lv_icmp_ne (tgt := 77) hx hb d_M_times_69 (by decide) (fun b25 => ?_) (fun b25 => ?_)
            · skip
              replace b25 := mt (nI_eq (a := 0) (b := 1) (by omega) (by omega)).mpr b25
              refine lv_lload hx hb d_M_times_77 (lv_at hl 0 rfl) ?_
              refine lv_lneg hx hb d_M_times_79 ?_
              refine lv_topl (fun lv26 _ => ?_)
              exact pe_lret hx hb hr hlocks hK hP hD hS d_M_times_80 rfl
            · skip
              replace b25 := (nI_eq (a := 0) (b := 1) (by omega) (by omega)).mp b25
              exfalso; omega
        · skip
          replace b22 := mt pl_ge.mpr b22
          refine lv_iconst (v := nI 1) hx hb d_M_times_53 (by decide) ?_
          refine lv_goto (tgt := 58) hx hb d_M_times_54 (by decide) ?_
          refine lv_lload_n hx hb d_M_times_58 rfl (lv_at hl 2 rfl) ?_
          refine lv_lconst (v := nL 0) hx hb d_M_times_59 (by decide) ?_
          refine W.lcmp hx hb d_M_times_60 ?_
          refine lv_if_ge (tgt := 68) hx hb d_M_times_61 (by decide) (fun b27 => ?_) (fun b27 => ?_)
          · skip
            replace b27 := pl_ge.mp b27
            refine lv_iconst (v := nI 0) hx hb d_M_times_68 (by decide) ?_
            refine lv_icmp_ne (tgt := 77) hx hb d_M_times_69 (by decide) (fun b28 => ?_) (fun b28 => ?_)
            · skip
              replace b28 := mt (nI_eq (a := 1) (b := 0) (by omega) (by omega)).mpr b28
              refine lv_lload hx hb d_M_times_77 (lv_at hl 0 rfl) ?_
              refine lv_lneg hx hb d_M_times_79 ?_
              refine lv_topl (fun lv29 _ => ?_)
              exact pe_lret hx hb hr hlocks hK hP hD hS d_M_times_80 rfl
            · skip
              replace b28 := (nI_eq (a := 1) (b := 0) (by omega) (by omega)).mp b28
              exfalso; omega
          · skip
            replace b27 := mt pl_ge.mpr b27
            refine lv_iconst (v := nI 1) hx hb d_M_times_64 (by decide) ?_
            refine lv_goto (tgt := 69) hx hb d_M_times_65 (by decide) ?_
            refine lv_icmp_ne (tgt := 77) hx hb d_M_times_69 (by decide) (fun b30 => ?_) (fun b30 => ?_)
            · skip
              replace b30 := mt (nI_eq (a := 1) (b := 1) (by omega) (by omega)).mpr b30
              exfalso; omega
            · skip
              replace b30 := (nI_eq (a := 1) (b := 1) (by omega) (by omega)).mp b30
              refine lv_lload hx hb d_M_times_72 (lv_at hl 0 rfl) ?_
              refine lv_goto (tgt := 80) hx hb d_M_times_74 (by decide) ?_
              exact pe_lret hx hb hr hlocks hK hP hD hS d_M_times_80 rfl
      · skip
        replace b12 := mt pl_le.mpr b12
        refine lv_ldc2 (v := 1152921504606846977) hx hb hown (wd_1173 hB _) d_M_times_30 ?_
        refine lv_topl (fun z_ hz_ => ?_)
        obtain rfl : z_ = nL 1152921504606846977 := hz_
        refine lv_goto (tgt := 45) hx hb d_M_times_33 (by decide) ?_
        refine lv_lstore (lv' := [(4, .long (nL 1152921504606846977)), (0, .long u), (2, .long v)]) hx hb d_M_times_45 hl (by decide) rfl (fun ls hl => ?_)
        refine lv_lload_n hx hb d_M_times_47 rfl (lv_at hl 1 rfl) ?_
        refine lv_lconst (v := nL 0) hx hb d_M_times_48 (by decide) ?_
        refine W.lcmp hx hb d_M_times_49 ?_
        refine lv_if_ge (tgt := 57) hx hb d_M_times_50 (by decide) (fun b31 => ?_) (fun b31 => ?_)
        · skip
          replace b31 := pl_ge.mp b31
          refine lv_iconst (v := nI 0) hx hb d_M_times_57 (by decide) ?_
          refine lv_lload_n hx hb d_M_times_58 rfl (lv_at hl 2 rfl) ?_
          refine lv_lconst (v := nL 0) hx hb d_M_times_59 (by decide) ?_
          refine W.lcmp hx hb d_M_times_60 ?_
          refine lv_if_ge (tgt := 68) hx hb d_M_times_61 (by decide) (fun b32 => ?_) (fun b32 => ?_)
          · skip
            replace b32 := pl_ge.mp b32
            refine lv_iconst (v := nI 0) hx hb d_M_times_68 (by decide) ?_
            refine lv_icmp_ne (tgt := 77) hx hb d_M_times_69 (by decide) (fun b33 => ?_) (fun b33 => ?_)
            · skip
              replace b33 := mt (nI_eq (a := 0) (b := 0) (by omega) (by omega)).mpr b33
              exfalso; omega
            · skip
              replace b33 := (nI_eq (a := 0) (b := 0) (by omega) (by omega)).mp b33
              refine lv_lload hx hb d_M_times_72 (lv_at hl 0 rfl) ?_
              refine lv_goto (tgt := 80) hx hb d_M_times_74 (by decide) ?_
              exact pe_lret hx hb hr hlocks hK hP hD hS d_M_times_80 rfl
          · skip
            replace b32 := mt pl_ge.mpr b32
            refine lv_iconst (v := nI 1) hx hb d_M_times_64 (by decide) ?_
            refine lv_goto (tgt := 69) hx hb d_M_times_65 (by decide) ?_
            refine lv_icmp_ne (tgt := 77) hx hb d_M_times_69 (by decide) (fun b34 => ?_) (fun b34 => ?_)
            · skip
              replace b34 := mt (nI_eq (a := 0) (b := 1) (by omega) (by omega)).mpr b34
              refine lv_lload hx hb d_M_times_77 (lv_at hl 0 rfl) ?_
              refine lv_lneg hx hb d_M_times_79 ?_
              refine lv_topl (fun lv35 _ => ?_)
              exact pe_lret hx hb hr hlocks hK hP hD hS d_M_times_80 rfl
            · skip
              replace b34 := (nI_eq (a := 0) (b := 1) (by omega) (by omega)).mp b34
              exfalso; omega
        · skip
          replace b31 := mt pl_ge.mpr b31
          refine lv_iconst (v := nI 1) hx hb d_M_times_53 (by decide) ?_
          refine lv_goto (tgt := 58) hx hb d_M_times_54 (by decide) ?_
          refine lv_lload_n hx hb d_M_times_58 rfl (lv_at hl 2 rfl) ?_
          refine lv_lconst (v := nL 0) hx hb d_M_times_59 (by decide) ?_
          refine W.lcmp hx hb d_M_times_60 ?_
          refine lv_if_ge (tgt := 68) hx hb d_M_times_61 (by decide) (fun b36 => ?_) (fun b36 => ?_)
          · skip
            replace b36 := pl_ge.mp b36
            refine lv_iconst (v := nI 0) hx hb d_M_times_68 (by decide) ?_
            refine lv_icmp_ne (tgt := 77) hx hb d_M_times_69 (by decide) (fun b37 => ?_) (fun b37 => ?_)
            · skip
              replace b37 := mt (nI_eq (a := 1) (b := 0) (by omega) (by omega)).mpr b37
              refine lv_lload hx hb d_M_times_77 (lv_at hl 0 rfl) ?_
              refine lv_lneg hx hb d_M_times_79 ?_
              refine lv_topl (fun lv38 _ => ?_)
              exact pe_lret hx hb hr hlocks hK hP hD hS d_M_times_80 rfl
            · skip
              replace b37 := (nI_eq (a := 1) (b := 0) (by omega) (by omega)).mp b37
              exfalso; omega
          · skip
            replace b36 := mt pl_ge.mpr b36
            refine lv_iconst (v := nI 1) hx hb d_M_times_64 (by decide) ?_
            refine lv_goto (tgt := 69) hx hb d_M_times_65 (by decide) ?_
            refine lv_icmp_ne (tgt := 77) hx hb d_M_times_69 (by decide) (fun b39 => ?_) (fun b39 => ?_)
            · skip
              replace b39 := mt (nI_eq (a := 1) (b := 1) (by omega) (by omega)).mpr b39
              exfalso; omega
            · skip
              replace b39 := (nI_eq (a := 1) (b := 1) (by omega) (by omega)).mp b39
              refine lv_lload hx hb d_M_times_72 (lv_at hl 0 rfl) ?_
              refine lv_goto (tgt := 80) hx hb d_M_times_74 (by decide) ?_
              exact pe_lret hx hb hr hlocks hK hP hD hS d_M_times_80 rfl
    · skip
      replace b2 := pl_eq.mp b2
      refine lv_lconst (v := nL 0) hx hb d_M_times_12 (by decide) ?_
      exact pe_lret hx hb hr hlocks hK hP hD hS d_M_times_13 rfl
set_option maxHeartbeats 4000000 in
set_option maxRecDepth 100000 in
theorem m_interval (l : Launch) (g : Lay) (sz : Nat) (f : Nat → va_E) (M : Nat) (k9 : Nat) (u : Int64) (v : Int64) (nf : Int32) (nt : Int32) (hL : LO g) (t_M : g.tg M = 11) (hI : IV g f) (hk : k9 < 80) : Met l ⟨"BigRunnerModel", "interval", "(IJJZZ)V"⟩ [Cond.code ⟨"BigRunnerModel", "interval", "(IJJZZ)V"⟩ prog_12_method_15_code 8 none] ({ frames := 0, cells := 0, slots := 0, locals := 0 }) (va_Pc [.ref M, .int (nI k9), .long u, .long v, .int nf, .int nt] (pc_in g sz f)) (va_Qv (fun f1 => (IV g f1) ∧ (un [53, 54, 55, 56] g f f1)) (pc_out g sz) (pc_A g sz)) 0 0 (pc_A g sz) := by
  refine pe_ofW (cc := prog_12_method_15_code) (maxL := 8) (ret := none) (lv := [(0, .ref M), (1, .int (nI k9)), (2, .long u), (4, .long v), (6, .int nf), (7, .int nt)]) (by decide) (Nat.le_of_ble_eq_true rfl) rfl ?_
  intro p e s m args below meth c ls hx hb hr hml hlocks hown hB hP hK hD hsz hS hl
  subst hsz
  have hu : un [53, 54, 55, 56] g f f := un.rf
  refine lv_aload_n hx hb d_M_interval_0 rfl (lv_at hl 0 rfl) ?_
  obtain ⟨th_2, n_3, dr_4, sz_5, ix_6, dp_7, wt_8, op_9, tp_10, wa_11, gi_12, pc_13, st_14, tr_15, sp_16, ma_17, lg_18, du_19, e1, c20, c21, c22, c23, c24, c25, c26, c27, c28, c29, c30, c31, c32, c33, c34⟩ := oc_11.of t_M (hI.1 M)
  refine pf_get (v := .ref (g.lk M 23)) (C := "BigRunnerModel") (T := FT10) (N := 45) hx hb (hw10 hB _) (fun _ h9 => h9) hown hK hP (lo_in hL t_M (by decide)) e1 rfl 23 (by decide) (wd_970 hB _) rfl d_M_interval_1 ?_
  refine lv_iload_n hx hb d_M_interval_4 rfl (lv_at hl 1 rfl) ?_
  have jn35 : ∀ (bj36 : Int32) (H : Heap) (locs : List Loc), va_P g.D vcl (va_pl g.LP f) H → va_D (pc_A g s.heap.size) (va_pl g.LP f) → va_S (pc_A g s.heap.size) s.heap H locs → W p l e ({ frames := 0, cells := 0, slots := 0, locals := 0 }) s m args below meth c H locs 0 0 (MQ below (va_Qv (fun f1 => (IV g f1) ∧ (un [53, 54, 55, 56] g f f1)) (pc_out g s.heap.size) (pc_A g s.heap.size)) args s 0 0 (pc_A g s.heap.size)) (F0 m 31 ls [.int bj36, .int (nI k9), .ref (g.lk M 23)]) := by
    intro bj36 H locs hP hD hS
    obtain ⟨h_38, e37⟩ := oc_55.of (lo_k11_23 hL _ t_M) (hI.1 (g.lk M 23))
    refine pf_zast (i := k9) hx hb hK hP hD hS (lo_in hL (lo_k11_23 hL _ t_M) (by decide)) e37 (lo_t55 hL _ (lo_k11_23 hL _ t_M)) (by omega) (by decide) d_M_interval_31 (fun f40 H locs e41 k42 hP hD hS => ?_)
    have e1 := (k42 M (tg_ne t_M (lo_k11_23 hL _ t_M) (by decide))).trans e1
    have hu := hu.st k42 (lo_k11_23 hL _ t_M) (by decide)
    have hk43 : ∀ b, b ≠ (g.lk M 23) → f40 b = f b := k42
    refine lv_aload_n hx hb d_M_interval_32 rfl (lv_at hl 0 rfl) ?_
    refine pf_get (v := .ref (g.lk M 24)) (C := "BigRunnerModel") (T := FT10) (N := 45) hx hb (hw10 hB _) (fun _ h9 => h9) hown hK hP (lo_in hL t_M (by decide)) e1 rfl 24 (by decide) (wd_971 hB _) rfl d_M_interval_33 ?_
    refine lv_iload_n hx hb d_M_interval_36 rfl (lv_at hl 1 rfl) ?_
    have jn44 : ∀ (bj45 : Int32) (H : Heap) (locs : List Loc), va_P g.D vcl (va_pl g.LP f40) H → va_D (pc_A g s.heap.size) (va_pl g.LP f40) → va_S (pc_A g s.heap.size) s.heap H locs → W p l e ({ frames := 0, cells := 0, slots := 0, locals := 0 }) s m args below meth c H locs 0 0 (MQ below (va_Qv (fun f1 => (IV g f1) ∧ (un [53, 54, 55, 56] g f f1)) (pc_out g s.heap.size) (pc_A g s.heap.size)) args s 0 0 (pc_A g s.heap.size)) (F0 m 65 ls [.int bj45, .int (nI k9), .ref (g.lk M 24)]) := by
      intro bj45 H locs hP hD hS
      have hI46 := iv_1 hI hL (lo_k11_23 hL _ t_M) (by decide) hk43 (oc_55.mk (lo_k11_23 hL _ t_M) (⟨_, e41⟩))
      obtain ⟨h_48, e47⟩ := oc_56.of (lo_k11_24 hL _ t_M) (hI46.1 (g.lk M 24))
      refine pf_zast (i := k9) hx hb hK hP hD hS (lo_in hL (lo_k11_24 hL _ t_M) (by decide)) e47 (lo_t56 hL _ (lo_k11_24 hL _ t_M)) (by omega) (by decide) d_M_interval_65 (fun f50 H locs e51 k52 hP hD hS => ?_)
      have e1 := (k52 M (tg_ne t_M (lo_k11_24 hL _ t_M) (by decide))).trans e1
      have e41 := (k52 (g.lk M 23) (tg_ne (lo_k11_23 hL _ t_M) (lo_k11_24 hL _ t_M) (by decide))).trans e41
      have hu := hu.st k52 (lo_k11_24 hL _ t_M) (by decide)
      have hk53 : ∀ b, b ≠ (g.lk M 24) → f50 b = f40 b := k52
      refine lv_aload_n hx hb d_M_interval_66 rfl (lv_at hl 0 rfl) ?_
      refine pf_get (v := .ref (g.lk M 21)) (C := "BigRunnerModel") (T := FT10) (N := 45) hx hb (hw10 hB _) (fun _ h9 => h9) hown hK hP (lo_in hL t_M (by decide)) e1 rfl 21 (by decide) (wd_968 hB _) rfl d_M_interval_67 ?_
      refine lv_iload_n hx hb d_M_interval_70 rfl (lv_at hl 1 rfl) ?_
      have jn54 : ∀ (bj55 : Int64) (H : Heap) (locs : List Loc), va_P g.D vcl (va_pl g.LP f50) H → va_D (pc_A g s.heap.size) (va_pl g.LP f50) → va_S (pc_A g s.heap.size) s.heap H locs → W p l e ({ frames := 0, cells := 0, slots := 0, locals := 0 }) s m args below meth c H locs 0 0 (MQ below (va_Qv (fun f1 => (IV g f1) ∧ (un [53, 54, 55, 56] g f f1)) (pc_out g s.heap.size) (pc_A g s.heap.size)) args s 0 0 (pc_A g s.heap.size)) (F0 m 85 ls [.long bj55, .int (nI k9), .ref (g.lk M 21)]) := by
        intro bj55 H locs hP hD hS
        have hI56 := iv_1 hI46 hL (lo_k11_24 hL _ t_M) (by decide) hk53 (oc_56.mk (lo_k11_24 hL _ t_M) (⟨_, e51⟩))
        obtain ⟨h_58, e57⟩ := oc_53.of (lo_k11_21 hL _ t_M) (hI56.1 (g.lk M 21))
        refine pf_last (i := k9) hx hb hK hP hD hS (lo_in hL (lo_k11_21 hL _ t_M) (by decide)) e57 (lo_t53 hL _ (lo_k11_21 hL _ t_M)) (by omega) (by decide) d_M_interval_85 (fun f60 H locs e61 k62 hP hD hS => ?_)
        have e1 := (k62 M (tg_ne t_M (lo_k11_21 hL _ t_M) (by decide))).trans e1
        have e41 := (k62 (g.lk M 23) (tg_ne (lo_k11_23 hL _ t_M) (lo_k11_21 hL _ t_M) (by decide))).trans e41
        have e51 := (k62 (g.lk M 24) (tg_ne (lo_k11_24 hL _ t_M) (lo_k11_21 hL _ t_M) (by decide))).trans e51
        have hu := hu.st k62 (lo_k11_21 hL _ t_M) (by decide)
        have hk63 : ∀ b, b ≠ (g.lk M 21) → f60 b = f50 b := k62
        refine lv_aload_n hx hb d_M_interval_86 rfl (lv_at hl 0 rfl) ?_
        refine pf_get (v := .ref (g.lk M 22)) (C := "BigRunnerModel") (T := FT10) (N := 45) hx hb (hw10 hB _) (fun _ h9 => h9) hown hK hP (lo_in hL t_M (by decide)) e1 rfl 22 (by decide) (wd_969 hB _) rfl d_M_interval_87 ?_
        refine lv_iload_n hx hb d_M_interval_90 rfl (lv_at hl 1 rfl) ?_
        have jn64 : ∀ (bj65 : Int64) (H : Heap) (locs : List Loc), va_P g.D vcl (va_pl g.LP f60) H → va_D (pc_A g s.heap.size) (va_pl g.LP f60) → va_S (pc_A g s.heap.size) s.heap H locs → W p l e ({ frames := 0, cells := 0, slots := 0, locals := 0 }) s m args below meth c H locs 0 0 (MQ below (va_Qv (fun f1 => (IV g f1) ∧ (un [53, 54, 55, 56] g f f1)) (pc_out g s.heap.size) (pc_A g s.heap.size)) args s 0 0 (pc_A g s.heap.size)) (F0 m 106 ls [.long bj65, .int (nI k9), .ref (g.lk M 22)]) := by
          intro bj65 H locs hP hD hS
          have hI66 := iv_1 hI56 hL (lo_k11_21 hL _ t_M) (by decide) hk63 (oc_53.mk (lo_k11_21 hL _ t_M) (⟨_, e61⟩))
          obtain ⟨h_68, e67⟩ := oc_54.of (lo_k11_22 hL _ t_M) (hI66.1 (g.lk M 22))
          refine pf_last (i := k9) hx hb hK hP hD hS (lo_in hL (lo_k11_22 hL _ t_M) (by decide)) e67 (lo_t54 hL _ (lo_k11_22 hL _ t_M)) (by omega) (by decide) d_M_interval_106 (fun f70 H locs e71 k72 hP hD hS => ?_)
          have e1 := (k72 M (tg_ne t_M (lo_k11_22 hL _ t_M) (by decide))).trans e1
          have e41 := (k72 (g.lk M 23) (tg_ne (lo_k11_23 hL _ t_M) (lo_k11_22 hL _ t_M) (by decide))).trans e41
          have e51 := (k72 (g.lk M 24) (tg_ne (lo_k11_24 hL _ t_M) (lo_k11_22 hL _ t_M) (by decide))).trans e51
          have e61 := (k72 (g.lk M 21) (tg_ne (lo_k11_21 hL _ t_M) (lo_k11_22 hL _ t_M) (by decide))).trans e61
          have hu := hu.st k72 (lo_k11_22 hL _ t_M) (by decide)
          have hk73 : ∀ b, b ≠ (g.lk M 22) → f70 b = f60 b := k72
          have hI74 := iv_1 hI66 hL (lo_k11_22 hL _ t_M) (by decide) hk73 (oc_54.mk (lo_k11_22 hL _ t_M) (⟨_, e71⟩))
          exact pe_vret hx hb hr hlocks hK hP hD hS d_M_interval_107 ⟨hI74, hu⟩
        refine lv_aload_n hx hb d_M_interval_91 rfl (lv_at hl 0 rfl) ?_
        refine pf_get (v := .ref (g.lk M 24)) (C := "BigRunnerModel") (T := FT10) (N := 45) hx hb (hw10 hB _) (fun _ h9 => h9) hown hK hP (lo_in hL t_M (by decide)) e1 rfl 24 (by decide) (wd_971 hB _) rfl d_M_interval_92 ?_
        refine lv_iload_n hx hb d_M_interval_95 rfl (lv_at hl 1 rfl) ?_
        refine pf_zald (i := k9) hx hb hK hP (lo_in hL (lo_k11_24 hL _ t_M) (by decide)) e51 (lo_t56 hL _ (lo_k11_24 hL _ t_M)) (by omega) (by decide) d_M_interval_96 ?_
        refine lv_topi (fun iv75 _ => ?_)
        refine lv_if_eq (tgt := 104) hx hb d_M_interval_97 (by decide) (fun b76 => ?_) (fun b76 => ?_)
        · skip
          refine lv_lload hx hb d_M_interval_104 (lv_at hl 3 rfl) ?_
          exact jn64 v _ _ hP hD hS
        · skip
          refine lv_lconst (v := nL 0) hx hb d_M_interval_100 (by decide) ?_
          refine lv_goto (tgt := 106) hx hb d_M_interval_101 (by decide) ?_
          exact jn64 ((nL 0)) _ _ hP hD hS
      refine lv_aload_n hx hb d_M_interval_71 rfl (lv_at hl 0 rfl) ?_
      refine pf_get (v := .ref (g.lk M 23)) (C := "BigRunnerModel") (T := FT10) (N := 45) hx hb (hw10 hB _) (fun _ h9 => h9) hown hK hP (lo_in hL t_M (by decide)) e1 rfl 23 (by decide) (wd_970 hB _) rfl d_M_interval_72 ?_
      refine lv_iload_n hx hb d_M_interval_75 rfl (lv_at hl 1 rfl) ?_
      refine pf_zald (i := k9) hx hb hK hP (lo_in hL (lo_k11_23 hL _ t_M) (by decide)) e41 (lo_t55 hL _ (lo_k11_23 hL _ t_M)) (by omega) (by decide) d_M_interval_76 ?_
      refine lv_topi (fun iv77 _ => ?_)
      refine lv_if_eq (tgt := 84) hx hb d_M_interval_77 (by decide) (fun b78 => ?_) (fun b78 => ?_)
      · skip
        refine lv_lload_n hx hb d_M_interval_84 rfl (lv_at hl 2 rfl) ?_
        exact jn54 u _ _ hP hD hS
      · skip
        refine lv_lconst (v := nL 0) hx hb d_M_interval_80 (by decide) ?_
        refine lv_goto (tgt := 85) hx hb d_M_interval_81 (by decide) ?_
        exact jn54 ((nL 0)) _ _ hP hD hS
    refine lv_iload hx hb d_M_interval_37 (lv_at hl 5 rfl) ?_
    refine lv_if_ne (tgt := 60) hx hb d_M_interval_39 (by decide) (fun b79 => ?_) (fun b79 => ?_)
    · skip
      refine lv_iconst (v := nI 1) hx hb d_M_interval_60 (by decide) ?_
      refine lv_goto (tgt := 65) hx hb d_M_interval_61 (by decide) ?_
      exact jn44 ((nI 1)) _ _ hP hD hS
    · skip
      refine lv_lload hx hb d_M_interval_42 (lv_at hl 3 rfl) ?_
      refine lv_ldc2 (v := (-1152921504606846976)) hx hb hown (wd_1161 hB _) d_M_interval_44 ?_
      refine W.lcmp hx hb d_M_interval_47 ?_
      refine lv_if_lt (tgt := 60) hx hb d_M_interval_48 (by decide) (fun b80 => ?_) (fun b80 => ?_)
      · skip
        replace b80 := pl_lt.mp b80
        refine lv_iconst (v := nI 1) hx hb d_M_interval_60 (by decide) ?_
        refine lv_goto (tgt := 65) hx hb d_M_interval_61 (by decide) ?_
        exact jn44 ((nI 1)) _ _ hP hD hS
      · skip
        replace b80 := mt pl_lt.mpr b80
        refine lv_lload hx hb d_M_interval_51 (lv_at hl 3 rfl) ?_
        refine lv_ldc2 (v := 1152921504606846976) hx hb hown (wd_1162 hB _) d_M_interval_53 ?_
        refine lv_topl (fun z_ hz_ => ?_)
        obtain rfl : z_ = nL 1152921504606846976 := hz_
        refine W.lcmp hx hb d_M_interval_56 ?_
        refine lv_if_le (tgt := 64) hx hb d_M_interval_57 (by decide) (fun b81 => ?_) (fun b81 => ?_)
        · skip
          replace b81 := pl_le.mp b81
          refine lv_iconst (v := nI 0) hx hb d_M_interval_64 (by decide) ?_
          exact jn44 ((nI 0)) _ _ hP hD hS
        · skip
          replace b81 := mt pl_le.mpr b81
          refine lv_iconst (v := nI 1) hx hb d_M_interval_60 (by decide) ?_
          refine lv_goto (tgt := 65) hx hb d_M_interval_61 (by decide) ?_
          exact jn44 ((nI 1)) _ _ hP hD hS
  refine lv_iload hx hb d_M_interval_5 (lv_at hl 4 rfl) ?_
  refine lv_if_ne (tgt := 26) hx hb d_M_interval_7 (by decide) (fun b82 => ?_) (fun b82 => ?_)
  · skip
    refine lv_iconst (v := nI 1) hx hb d_M_interval_26 (by decide) ?_
    refine lv_goto (tgt := 31) hx hb d_M_interval_27 (by decide) ?_
    exact jn35 ((nI 1)) _ _ hP hD hS
  · skip
    refine lv_lload_n hx hb d_M_interval_10 rfl (lv_at hl 2 rfl) ?_
    refine lv_ldc2 (v := (-1152921504606846976)) hx hb hown (wd_1161 hB _) d_M_interval_11 ?_
    refine W.lcmp hx hb d_M_interval_14 ?_
    refine lv_if_lt (tgt := 26) hx hb d_M_interval_15 (by decide) (fun b83 => ?_) (fun b83 => ?_)
    · skip
      replace b83 := pl_lt.mp b83
      refine lv_iconst (v := nI 1) hx hb d_M_interval_26 (by decide) ?_
      refine lv_goto (tgt := 31) hx hb d_M_interval_27 (by decide) ?_
      exact jn35 ((nI 1)) _ _ hP hD hS
    · skip
      replace b83 := mt pl_lt.mpr b83
      refine lv_lload_n hx hb d_M_interval_18 rfl (lv_at hl 2 rfl) ?_
      refine lv_ldc2 (v := 1152921504606846976) hx hb hown (wd_1162 hB _) d_M_interval_19 ?_
      refine lv_topl (fun z_ hz_ => ?_)
      obtain rfl : z_ = nL 1152921504606846976 := hz_
      refine W.lcmp hx hb d_M_interval_22 ?_
      refine lv_if_le (tgt := 30) hx hb d_M_interval_23 (by decide) (fun b84 => ?_) (fun b84 => ?_)
      · skip
        replace b84 := pl_le.mp b84
        refine lv_iconst (v := nI 0) hx hb d_M_interval_30 (by decide) ?_
        exact jn35 ((nI 0)) _ _ hP hD hS
      · skip
        replace b84 := mt pl_le.mpr b84
        refine lv_iconst (v := nI 1) hx hb d_M_interval_26 (by decide) ?_
        refine lv_goto (tgt := 31) hx hb d_M_interval_27 (by decide) ?_
        exact jn35 ((nI 1)) _ _ hP hD hS
set_option maxHeartbeats 4000000 in
set_option maxRecDepth 100000 in
theorem m_spanProduct (l : Launch) (g : Lay) (sz : Nat) (f : Nat → va_E) (M : Nat) (k9 : Nat) (hL : LO g) (t_M : g.tg M = 11) (hI : IV g f) (hk : k9 < 79) : Met l ⟨"BigRunnerModel", "spanProduct", "(I)V"⟩ [Cond.code ⟨"BigRunnerModel", "spanProduct", "(I)V"⟩ prog_12_method_20_code 12 none] ({ frames := 2, cells := 0, slots := 0, locals := 46 }) (va_Pc [.ref M, .int (nI k9)] (pc_in g sz f)) (va_Qv (fun f1 => (IV g f1) ∧ (un [53, 54, 55, 56] g f f1)) (pc_out g sz) (pc_A g sz)) 0 0 (pc_A g sz) := by
  refine pe_ofW (cc := prog_12_method_20_code) (maxL := 12) (ret := none) (lv := [(0, .ref M), (1, .int (nI k9))]) (by decide) (Nat.le_of_ble_eq_true rfl) rfl ?_
  intro p e s m args below meth c ls hx hb hr hml hlocks hown hB hP hK hD hsz hS hl
  subst hsz
  have hu : un [53, 54, 55, 56] g f f := un.rf
  have jn1 : ∀ (bj2 : Int32) (H : Heap) (locs : List Loc), va_P g.D vcl (va_pl g.LP f) H → va_D (pc_A g s.heap.size) (va_pl g.LP f) → va_S (pc_A g s.heap.size) s.heap H locs → W p l e ({ frames := 2, cells := 0, slots := 0, locals := 46 }) s m args below meth c H locs 0 0 (MQ below (va_Qv (fun f1 => (IV g f1) ∧ (un [53, 54, 55, 56] g f f1)) (pc_out g s.heap.size) (pc_A g s.heap.size)) args s 0 0 (pc_A g s.heap.size)) (F0 m 93 ls [.int bj2]) := by
    intro bj2 H locs hP hD hS
    refine lv_istore_n (lv' := [(2, .int bj2), (0, .ref M), (1, .int (nI k9))]) hx hb d_M_spanProduct_93 rfl hl (by decide) rfl (fun ls hl => ?_)
    have jn3 : ∀ (bj4 : Int32) (H : Heap) (locs : List Loc), va_P g.D vcl (va_pl g.LP f) H → va_D (pc_A g s.heap.size) (va_pl g.LP f) → va_S (pc_A g s.heap.size) s.heap H locs → W p l e ({ frames := 2, cells := 0, slots := 0, locals := 46 }) s m args below meth c H locs 0 0 (MQ below (va_Qv (fun f1 => (IV g f1) ∧ (un [53, 54, 55, 56] g f f1)) (pc_out g s.heap.size) (pc_A g s.heap.size)) args s 0 0 (pc_A g s.heap.size)) (F0 m 139 ls [.int bj4]) := by
      intro bj4 H locs hP hD hS
      refine lv_istore_n (lv' := [(3, .int bj4), (2, .int bj2), (0, .ref M), (1, .int (nI k9))]) hx hb d_M_spanProduct_139 rfl hl (by decide) rfl (fun ls hl => ?_)
      refine lv_iload_n hx hb d_M_spanProduct_140 rfl (lv_at hl 1 rfl) ?_
      refine lv_if_ne (tgt := 148) hx hb d_M_spanProduct_141 (by decide) (fun b5 => ?_) (fun b5 => ?_)
      · skip
        refine lv_aload_n hx hb d_M_spanProduct_148 rfl (lv_at hl 2 rfl) ?_
        refine lv_iload_n hx hb d_M_spanProduct_149 rfl (lv_at hl 3 rfl) ?_
        refine lv_lconst (v := nL 0) hx hb d_M_spanProduct_150 (by decide) ?_
        refine lv_lconst (v := nL 0) hx hb d_M_spanProduct_151 (by decide) ?_
        have jn6 : ∀ (bj7 : Int32) (H : Heap) (locs : List Loc), va_P g.D vcl (va_pl g.LP f) H → va_D (pc_A g s.heap.size) (va_pl g.LP f) → va_S (pc_A g s.heap.size) s.heap H locs → W p l e ({ frames := 2, cells := 0, slots := 0, locals := 46 }) s m args below meth c H locs 0 0 (MQ below (va_Qv (fun f1 => (IV g f1) ∧ (un [53, 54, 55, 56] g f f1)) (pc_out g s.heap.size) (pc_A g s.heap.size)) args s 0 0 (pc_A g s.heap.size)) (F0 m 161 ls [.int bj7, .long (nL 0), .long (nL 0), .int (nI k9), .ref M]) := by
          intro bj7 H locs hP hD hS
          have jn8 : ∀ (bj9 : Int32) (H : Heap) (locs : List Loc), va_P g.D vcl (va_pl g.LP f) H → va_D (pc_A g s.heap.size) (va_pl g.LP f) → va_S (pc_A g s.heap.size) s.heap H locs → W p l e ({ frames := 2, cells := 0, slots := 0, locals := 46 }) s m args below meth c H locs 0 0 (MQ below (va_Qv (fun f1 => (IV g f1) ∧ (un [53, 54, 55, 56] g f f1)) (pc_out g s.heap.size) (pc_A g s.heap.size)) args s 0 0 (pc_A g s.heap.size)) (F0 m 170 ls [.int bj9, .int bj7, .long (nL 0), .long (nL 0), .int (nI k9), .ref M]) := by
            intro bj9 H locs hP hD hS
            obtain ⟨th_11, n_12, dr_13, sz_14, ix_15, dp_16, wt_17, op_18, tp_19, wa_20, gi_21, pc_22, st_23, tr_24, sp_25, ma_26, lg_27, du_28, e10, c29, c30, c31, c32, c33, c34, c35, c36, c37, c38, c39, c40, c41, c42, c43⟩ := oc_11.of t_M (hI.1 M)
            refine pcc_v (va_runV (C := "BigRunnerModel") (As := [.int (nI k9), .long (nL 0), .long (nL 0), .int bj7, .int bj9]) (rest := []) ⟨hx, hb, hml, hown, tb_nil⟩ (m_interval l g H.size f M k9 ((nL 0)) ((nL 0)) bj7 bj9 hL t_M hI (by omega)) ⟨(callB_of 5 (tb_one (wd_1160 hB _)) tb_good1 rfl rfl rfl (wd_82 hB _) (wd_1157 hB _) (by decide +kernel) ⟨Nat.le_of_ble_eq_true rfl, Nat.le_of_ble_eq_true rfl⟩), (wd_1159 hB _), (wd_53 hB _)⟩ ⟨pe_bl, pg_recv (ci := 10) hK hP (lo_in hL t_M (by decide)) e10 rfl, pe_pre hB hK hP hD⟩ rfl rfl hl.1 rfl (lv_room (Nat.le_of_ble_eq_true rfl)) d_M_spanProduct_170 ⟨Nat.le_of_ble_eq_true rfl, Nat.le_of_ble_eq_true rfl⟩) hS (fun f45 H locs hq46 hP hD hS => ?_)
            obtain ⟨hI1_47, hu1_48⟩ := hq46
            have hu := hu.tr hu1_48 (by decide)
            have e10 := hu1_48.at t_M (by decide) e10
            exact pe_vret hx hb hr hlocks hK hP hD hS d_M_spanProduct_173 ⟨hI1_47, hu⟩
          refine lv_iload_n hx hb d_M_spanProduct_161 rfl (lv_at hl 1 rfl) ?_
          refine lv_if_ne (tgt := 169) hx hb d_M_spanProduct_162 (by decide) (fun b49 => ?_) (fun b49 => ?_)
          · skip
            refine lv_iconst (v := nI 0) hx hb d_M_spanProduct_169 (by decide) ?_
            exact jn8 ((nI 0)) _ _ hP hD hS
          · skip
            refine lv_iconst (v := nI 1) hx hb d_M_spanProduct_165 (by decide) ?_
            refine lv_goto (tgt := 170) hx hb d_M_spanProduct_166 (by decide) ?_
            exact jn8 ((nI 1)) _ _ hP hD hS
        refine lv_iload_n hx hb d_M_spanProduct_152 rfl (lv_at hl 1 rfl) ?_
        refine lv_if_ne (tgt := 160) hx hb d_M_spanProduct_153 (by decide) (fun b50 => ?_) (fun b50 => ?_)
        · skip
          refine lv_iconst (v := nI 0) hx hb d_M_spanProduct_160 (by decide) ?_
          exact jn6 ((nI 0)) _ _ hP hD hS
        · skip
          refine lv_iconst (v := nI 1) hx hb d_M_spanProduct_156 (by decide) ?_
          refine lv_goto (tgt := 161) hx hb d_M_spanProduct_157 (by decide) ?_
          exact jn6 ((nI 1)) _ _ hP hD hS
      · skip
        refine lv_iload_n hx hb d_M_spanProduct_144 rfl (lv_at hl 0 rfl) ?_
        refine lv_if_eq (tgt := 174) hx hb d_M_spanProduct_145 (by decide) (fun b51 => ?_) (fun b51 => ?_)
        · skip
          refine lv_aload_n hx hb d_M_spanProduct_174 rfl (lv_at hl 2 rfl) ?_
          obtain ⟨th_53, n_54, dr_55, sz_56, ix_57, dp_58, wt_59, op_60, tp_61, wa_62, gi_63, pc_64, st_65, tr_66, sp_67, ma_68, lg_69, du_70, e52, c71, c72, c73, c74, c75, c76, c77, c78, c79, c80, c81, c82, c83, c84, c85⟩ := oc_11.of t_M (hI.1 M)
          refine pf_get (v := .ref (g.lk M 21)) (C := "BigRunnerModel") (T := FT10) (N := 45) hx hb (hw10 hB _) (fun _ h9 => h9) hown hK hP (lo_in hL t_M (by decide)) e52 rfl 21 (by decide) (wd_968 hB _) rfl d_M_spanProduct_175 ?_
          refine lv_iload_n hx hb d_M_spanProduct_178 rfl (lv_at hl 3 rfl) ?_
          obtain ⟨h_87, e86⟩ := oc_53.of (lo_k11_21 hL _ t_M) (hI.1 (g.lk M 21))
          refine pf_lald (i := k9) hx hb hK hP (lo_in hL (lo_k11_21 hL _ t_M) (by decide)) e86 (lo_t53 hL _ (lo_k11_21 hL _ t_M)) (by omega) (by decide) d_M_spanProduct_179 ?_
          refine lv_topl (fun lv89 _ => ?_)
          refine lv_aload_n hx hb d_M_spanProduct_180 rfl (lv_at hl 2 rfl) ?_
          refine pf_get (v := .ref (g.lk M 21)) (C := "BigRunnerModel") (T := FT10) (N := 45) hx hb (hw10 hB _) (fun _ h9 => h9) hown hK hP (lo_in hL t_M (by decide)) e52 rfl 21 (by decide) (wd_968 hB _) rfl d_M_spanProduct_181 ?_
          refine lv_iload_n hx hb d_M_spanProduct_184 rfl (lv_at hl 3 rfl) ?_
          refine lv_iconst (v := nI 1) hx hb d_M_spanProduct_185 (by decide) ?_
          refine pf_iaddN (x := k9) (y := 1) hx hb d_M_spanProduct_186 ?_
          refine pf_lald (i := k9 + 1) hx hb hK hP (lo_in hL (lo_k11_21 hL _ t_M) (by decide)) e86 (lo_t53 hL _ (lo_k11_21 hL _ t_M)) (by omega) (by decide) d_M_spanProduct_187 ?_
          refine lv_topl (fun lv90 _ => ?_)
          refine pcc_l (va_runS (As := [.long lv89, .long lv90]) (rest := []) ⟨hx, hb, hml, hown, tb_nil⟩ (m_times l g H.size f lv89 lv90 hL hI.1) ⟨(callB_of 2 (tb_one (wd_1169 hB _)) tb_good1 rfl rfl rfl (wd_82 hB _) (wd_1167 hB _) (by decide +kernel) ⟨Nat.le_of_ble_eq_true rfl, Nat.le_of_ble_eq_true rfl⟩), (wd_1168 hB _)⟩ ⟨pe_bl, pe_pre hB hK hP hD⟩ rfl rfl hl.1 rfl (lv_room (Nat.le_of_ble_eq_true rfl)) d_M_spanProduct_188 ⟨Nat.le_of_ble_eq_true rfl, Nat.le_of_ble_eq_true rfl⟩) hS (fun r91 f92 H locs hq93 hP hD hS => ?_)
          subst hq93
          refine lv_lstore (lv' := [(4, .long r91), (3, .int bj4), (2, .int bj2), (0, .ref M), (1, .int (nI k9))]) hx hb d_M_spanProduct_191 hl (by decide) rfl (fun ls hl => ?_)
          refine lv_aload_n hx hb d_M_spanProduct_193 rfl (lv_at hl 3 rfl) ?_
          refine pf_get (v := .ref (g.lk M 21)) (C := "BigRunnerModel") (T := FT10) (N := 45) hx hb (hw10 hB _) (fun _ h9 => h9) hown hK hP (lo_in hL t_M (by decide)) e52 rfl 21 (by decide) (wd_968 hB _) rfl d_M_spanProduct_194 ?_
          refine lv_iload_n hx hb d_M_spanProduct_197 rfl (lv_at hl 4 rfl) ?_
          refine pf_lald (i := k9) hx hb hK hP (lo_in hL (lo_k11_21 hL _ t_M) (by decide)) e86 (lo_t53 hL _ (lo_k11_21 hL _ t_M)) (by omega) (by decide) d_M_spanProduct_198 ?_
          refine lv_topl (fun lv94 _ => ?_)
          refine lv_aload_n hx hb d_M_spanProduct_199 rfl (lv_at hl 3 rfl) ?_
          refine pf_get (v := .ref (g.lk M 22)) (C := "BigRunnerModel") (T := FT10) (N := 45) hx hb (hw10 hB _) (fun _ h9 => h9) hown hK hP (lo_in hL t_M (by decide)) e52 rfl 22 (by decide) (wd_969 hB _) rfl d_M_spanProduct_200 ?_
          refine lv_iload_n hx hb d_M_spanProduct_203 rfl (lv_at hl 4 rfl) ?_
          refine lv_iconst (v := nI 1) hx hb d_M_spanProduct_204 (by decide) ?_
          refine pf_iaddN (x := k9) (y := 1) hx hb d_M_spanProduct_205 ?_
          obtain ⟨h_96, e95⟩ := oc_54.of (lo_k11_22 hL _ t_M) (hI.1 (g.lk M 22))
          refine pf_lald (i := k9 + 1) hx hb hK hP (lo_in hL (lo_k11_22 hL _ t_M) (by decide)) e95 (lo_t54 hL _ (lo_k11_22 hL _ t_M)) (by omega) (by decide) d_M_spanProduct_206 ?_
          refine lv_topl (fun lv98 _ => ?_)
          refine pcc_l (va_runS (As := [.long lv94, .long lv98]) (rest := []) ⟨hx, hb, hml, hown, tb_nil⟩ (m_times l g H.size f lv94 lv98 hL hI.1) ⟨(callB_of 2 (tb_one (wd_1169 hB _)) tb_good1 rfl rfl rfl (wd_82 hB _) (wd_1167 hB _) (by decide +kernel) ⟨Nat.le_of_ble_eq_true rfl, Nat.le_of_ble_eq_true rfl⟩), (wd_1168 hB _)⟩ ⟨pe_bl, pe_pre hB hK hP hD⟩ rfl rfl hl.1 rfl (lv_room (Nat.le_of_ble_eq_true rfl)) d_M_spanProduct_207 ⟨Nat.le_of_ble_eq_true rfl, Nat.le_of_ble_eq_true rfl⟩) hS (fun r99 f100 H locs hq101 hP hD hS => ?_)
          subst hq101
          refine lv_lstore (lv' := [(6, .long r99), (4, .long r91), (3, .int bj4), (2, .int bj2), (0, .ref M), (1, .int (nI k9))]) hx hb d_M_spanProduct_210 hl (by decide) rfl (fun ls hl => ?_)
          refine lv_aload_n hx hb d_M_spanProduct_212 rfl (lv_at hl 4 rfl) ?_
          refine pf_get (v := .ref (g.lk M 22)) (C := "BigRunnerModel") (T := FT10) (N := 45) hx hb (hw10 hB _) (fun _ h9 => h9) hown hK hP (lo_in hL t_M (by decide)) e52 rfl 22 (by decide) (wd_969 hB _) rfl d_M_spanProduct_213 ?_
          refine lv_iload_n hx hb d_M_spanProduct_216 rfl (lv_at hl 5 rfl) ?_
          refine pf_lald (i := k9) hx hb hK hP (lo_in hL (lo_k11_22 hL _ t_M) (by decide)) e95 (lo_t54 hL _ (lo_k11_22 hL _ t_M)) (by omega) (by decide) d_M_spanProduct_217 ?_
          refine lv_topl (fun lv102 _ => ?_)
          refine lv_aload_n hx hb d_M_spanProduct_218 rfl (lv_at hl 4 rfl) ?_
          refine pf_get (v := .ref (g.lk M 21)) (C := "BigRunnerModel") (T := FT10) (N := 45) hx hb (hw10 hB _) (fun _ h9 => h9) hown hK hP (lo_in hL t_M (by decide)) e52 rfl 21 (by decide) (wd_968 hB _) rfl d_M_spanProduct_219 ?_
          refine lv_iload_n hx hb d_M_spanProduct_222 rfl (lv_at hl 5 rfl) ?_
          refine lv_iconst (v := nI 1) hx hb d_M_spanProduct_223 (by decide) ?_
          refine pf_iaddN (x := k9) (y := 1) hx hb d_M_spanProduct_224 ?_
          refine pf_lald (i := k9 + 1) hx hb hK hP (lo_in hL (lo_k11_21 hL _ t_M) (by decide)) e86 (lo_t53 hL _ (lo_k11_21 hL _ t_M)) (by omega) (by decide) d_M_spanProduct_225 ?_
          refine lv_topl (fun lv103 _ => ?_)
          refine pcc_l (va_runS (As := [.long lv102, .long lv103]) (rest := []) ⟨hx, hb, hml, hown, tb_nil⟩ (m_times l g H.size f lv102 lv103 hL hI.1) ⟨(callB_of 2 (tb_one (wd_1169 hB _)) tb_good1 rfl rfl rfl (wd_82 hB _) (wd_1167 hB _) (by decide +kernel) ⟨Nat.le_of_ble_eq_true rfl, Nat.le_of_ble_eq_true rfl⟩), (wd_1168 hB _)⟩ ⟨pe_bl, pe_pre hB hK hP hD⟩ rfl rfl hl.1 rfl (lv_room (Nat.le_of_ble_eq_true rfl)) d_M_spanProduct_226 ⟨Nat.le_of_ble_eq_true rfl, Nat.le_of_ble_eq_true rfl⟩) hS (fun r104 f105 H locs hq106 hP hD hS => ?_)
          subst hq106
          refine lv_lstore (lv' := [(8, .long r104), (6, .long r99), (4, .long r91), (3, .int bj4), (2, .int bj2), (0, .ref M), (1, .int (nI k9))]) hx hb d_M_spanProduct_229 hl (by decide) rfl (fun ls hl => ?_)
          refine lv_aload_n hx hb d_M_spanProduct_231 rfl (lv_at hl 5 rfl) ?_
          refine pf_get (v := .ref (g.lk M 22)) (C := "BigRunnerModel") (T := FT10) (N := 45) hx hb (hw10 hB _) (fun _ h9 => h9) hown hK hP (lo_in hL t_M (by decide)) e52 rfl 22 (by decide) (wd_969 hB _) rfl d_M_spanProduct_232 ?_
          refine lv_iload_n hx hb d_M_spanProduct_235 rfl (lv_at hl 6 rfl) ?_
          refine pf_lald (i := k9) hx hb hK hP (lo_in hL (lo_k11_22 hL _ t_M) (by decide)) e95 (lo_t54 hL _ (lo_k11_22 hL _ t_M)) (by omega) (by decide) d_M_spanProduct_236 ?_
          refine lv_topl (fun lv107 _ => ?_)
          refine lv_aload_n hx hb d_M_spanProduct_237 rfl (lv_at hl 5 rfl) ?_
          refine pf_get (v := .ref (g.lk M 22)) (C := "BigRunnerModel") (T := FT10) (N := 45) hx hb (hw10 hB _) (fun _ h9 => h9) hown hK hP (lo_in hL t_M (by decide)) e52 rfl 22 (by decide) (wd_969 hB _) rfl d_M_spanProduct_238 ?_
          refine lv_iload_n hx hb d_M_spanProduct_241 rfl (lv_at hl 6 rfl) ?_
          refine lv_iconst (v := nI 1) hx hb d_M_spanProduct_242 (by decide) ?_
          refine pf_iaddN (x := k9) (y := 1) hx hb d_M_spanProduct_243 ?_
          refine pf_lald (i := k9 + 1) hx hb hK hP (lo_in hL (lo_k11_22 hL _ t_M) (by decide)) e95 (lo_t54 hL _ (lo_k11_22 hL _ t_M)) (by omega) (by decide) d_M_spanProduct_244 ?_
          refine lv_topl (fun lv108 _ => ?_)
          refine pcc_l (va_runS (As := [.long lv107, .long lv108]) (rest := []) ⟨hx, hb, hml, hown, tb_nil⟩ (m_times l g H.size f lv107 lv108 hL hI.1) ⟨(callB_of 2 (tb_one (wd_1169 hB _)) tb_good1 rfl rfl rfl (wd_82 hB _) (wd_1167 hB _) (by decide +kernel) ⟨Nat.le_of_ble_eq_true rfl, Nat.le_of_ble_eq_true rfl⟩), (wd_1168 hB _)⟩ ⟨pe_bl, pe_pre hB hK hP hD⟩ rfl rfl hl.1 rfl (lv_room (Nat.le_of_ble_eq_true rfl)) d_M_spanProduct_245 ⟨Nat.le_of_ble_eq_true rfl, Nat.le_of_ble_eq_true rfl⟩) hS (fun r109 f110 H locs hq111 hP hD hS => ?_)
          subst hq111
          refine lv_lstore (lv' := [(10, .long r109), (8, .long r104), (6, .long r99), (4, .long r91), (3, .int bj4), (2, .int bj2), (0, .ref M), (1, .int (nI k9))]) hx hb d_M_spanProduct_248 hl (by decide) rfl (fun ls hl => ?_)
          refine lv_aload_n hx hb d_M_spanProduct_250 rfl (lv_at hl 6 rfl) ?_
          refine lv_iload_n hx hb d_M_spanProduct_251 rfl (lv_at hl 7 rfl) ?_
          refine lv_lload hx hb d_M_spanProduct_252 (lv_at hl 3 rfl) ?_
          refine lv_lload hx hb d_M_spanProduct_254 (lv_at hl 2 rfl) ?_
          refine pcc_l (va_runS (As := [.long r91, .long r99]) (rest := [.int (nI k9), .ref M]) ⟨hx, hb, hml, hown, tb_nil⟩ (m_less l g H.size f r91 r99 hL hI.1) ⟨(callB_of 2 (tb_one (wd_1176 hB _)) tb_good1 rfl rfl rfl (wd_82 hB _) (wd_1174 hB _) (by decide +kernel) ⟨Nat.le_of_ble_eq_true rfl, Nat.le_of_ble_eq_true rfl⟩), (wd_1175 hB _)⟩ ⟨pe_bl, pe_pre hB hK hP hD⟩ rfl rfl hl.1 rfl (lv_room (Nat.le_of_ble_eq_true rfl)) d_M_spanProduct_256 ⟨Nat.le_of_ble_eq_true rfl, Nat.le_of_ble_eq_true rfl⟩) hS (fun r112 f113 H locs hq114 hP hD hS => ?_)
          subst hq114
          refine lv_lload hx hb d_M_spanProduct_259 (lv_at hl 1 rfl) ?_
          refine lv_lload hx hb d_M_spanProduct_261 (lv_at hl 0 rfl) ?_
          refine pcc_l (va_runS (As := [.long r104, .long r109]) (rest := [.long r112, .int (nI k9), .ref M]) ⟨hx, hb, hml, hown, tb_nil⟩ (m_less l g H.size f r104 r109 hL hI.1) ⟨(callB_of 2 (tb_one (wd_1176 hB _)) tb_good1 rfl rfl rfl (wd_82 hB _) (wd_1174 hB _) (by decide +kernel) ⟨Nat.le_of_ble_eq_true rfl, Nat.le_of_ble_eq_true rfl⟩), (wd_1175 hB _)⟩ ⟨pe_bl, pe_pre hB hK hP hD⟩ rfl rfl hl.1 rfl (lv_room (Nat.le_of_ble_eq_true rfl)) d_M_spanProduct_263 ⟨Nat.le_of_ble_eq_true rfl, Nat.le_of_ble_eq_true rfl⟩) hS (fun r115 f116 H locs hq117 hP hD hS => ?_)
          subst hq117
          refine pcc_l (va_runS (As := [.long r112, .long r115]) (rest := [.int (nI k9), .ref M]) ⟨hx, hb, hml, hown, tb_nil⟩ (m_less l g H.size f r112 r115 hL hI.1) ⟨(callB_of 2 (tb_one (wd_1176 hB _)) tb_good1 rfl rfl rfl (wd_82 hB _) (wd_1174 hB _) (by decide +kernel) ⟨Nat.le_of_ble_eq_true rfl, Nat.le_of_ble_eq_true rfl⟩), (wd_1175 hB _)⟩ ⟨pe_bl, pe_pre hB hK hP hD⟩ rfl rfl hl.1 rfl (lv_room (Nat.le_of_ble_eq_true rfl)) d_M_spanProduct_266 ⟨Nat.le_of_ble_eq_true rfl, Nat.le_of_ble_eq_true rfl⟩) hS (fun r118 f119 H locs hq120 hP hD hS => ?_)
          subst hq120
          refine lv_lload hx hb d_M_spanProduct_269 (lv_at hl 3 rfl) ?_
          refine lv_lload hx hb d_M_spanProduct_271 (lv_at hl 2 rfl) ?_
          refine pcc_l (va_runS (As := [.long r91, .long r99]) (rest := [.long r118, .int (nI k9), .ref M]) ⟨hx, hb, hml, hown, tb_nil⟩ (m_more l g H.size f r91 r99 hL hI.1) ⟨(callB_of 2 (tb_one (wd_1179 hB _)) tb_good1 rfl rfl rfl (wd_82 hB _) (wd_1177 hB _) (by decide +kernel) ⟨Nat.le_of_ble_eq_true rfl, Nat.le_of_ble_eq_true rfl⟩), (wd_1178 hB _)⟩ ⟨pe_bl, pe_pre hB hK hP hD⟩ rfl rfl hl.1 rfl (lv_room (Nat.le_of_ble_eq_true rfl)) d_M_spanProduct_273 ⟨Nat.le_of_ble_eq_true rfl, Nat.le_of_ble_eq_true rfl⟩) hS (fun r121 f122 H locs hq123 hP hD hS => ?_)
          subst hq123
          refine lv_lload hx hb d_M_spanProduct_276 (lv_at hl 1 rfl) ?_
          refine lv_lload hx hb d_M_spanProduct_278 (lv_at hl 0 rfl) ?_
          refine pcc_l (va_runS (As := [.long r104, .long r109]) (rest := [.long r121, .long r118, .int (nI k9), .ref M]) ⟨hx, hb, hml, hown, tb_nil⟩ (m_more l g H.size f r104 r109 hL hI.1) ⟨(callB_of 2 (tb_one (wd_1179 hB _)) tb_good1 rfl rfl rfl (wd_82 hB _) (wd_1177 hB _) (by decide +kernel) ⟨Nat.le_of_ble_eq_true rfl, Nat.le_of_ble_eq_true rfl⟩), (wd_1178 hB _)⟩ ⟨pe_bl, pe_pre hB hK hP hD⟩ rfl rfl hl.1 rfl (lv_room (Nat.le_of_ble_eq_true rfl)) d_M_spanProduct_280 ⟨Nat.le_of_ble_eq_true rfl, Nat.le_of_ble_eq_true rfl⟩) hS (fun r124 f125 H locs hq126 hP hD hS => ?_)
          subst hq126
          refine pcc_l (va_runS (As := [.long r121, .long r124]) (rest := [.long r118, .int (nI k9), .ref M]) ⟨hx, hb, hml, hown, tb_nil⟩ (m_more l g H.size f r121 r124 hL hI.1) ⟨(callB_of 2 (tb_one (wd_1179 hB _)) tb_good1 rfl rfl rfl (wd_82 hB _) (wd_1177 hB _) (by decide +kernel) ⟨Nat.le_of_ble_eq_true rfl, Nat.le_of_ble_eq_true rfl⟩), (wd_1178 hB _)⟩ ⟨pe_bl, pe_pre hB hK hP hD⟩ rfl rfl hl.1 rfl (lv_room (Nat.le_of_ble_eq_true rfl)) d_M_spanProduct_283 ⟨Nat.le_of_ble_eq_true rfl, Nat.le_of_ble_eq_true rfl⟩) hS (fun r127 f128 H locs hq129 hP hD hS => ?_)
          subst hq129
          refine lv_iconst (v := nI 0) hx hb d_M_spanProduct_286 (by decide) ?_
          refine lv_iconst (v := nI 0) hx hb d_M_spanProduct_287 (by decide) ?_
          refine pcc_v (va_runV (C := "BigRunnerModel") (As := [.int (nI k9), .long r118, .long r127, .int (nI 0), .int (nI 0)]) (rest := []) ⟨hx, hb, hml, hown, tb_nil⟩ (m_interval l g H.size f M k9 r118 r127 ((nI 0)) ((nI 0)) hL t_M hI (by omega)) ⟨(callB_of 5 (tb_one (wd_1160 hB _)) tb_good1 rfl rfl rfl (wd_82 hB _) (wd_1157 hB _) (by decide +kernel) ⟨Nat.le_of_ble_eq_true rfl, Nat.le_of_ble_eq_true rfl⟩), (wd_1159 hB _), (wd_53 hB _)⟩ ⟨pe_bl, pg_recv (ci := 10) hK hP (lo_in hL t_M (by decide)) e52 rfl, pe_pre hB hK hP hD⟩ rfl rfl hl.1 rfl (lv_room (Nat.le_of_ble_eq_true rfl)) d_M_spanProduct_288 ⟨Nat.le_of_ble_eq_true rfl, Nat.le_of_ble_eq_true rfl⟩) hS (fun f131 H locs hq132 hP hD hS => ?_)
          obtain ⟨hI1_133, hu1_134⟩ := hq132
          have hu := hu.tr hu1_134 (by decide)
          have e52 := hu1_134.at t_M (by decide) e52
          exact pe_vret hx hb hr hlocks hK hP hD hS d_M_spanProduct_291 ⟨hI1_133, hu⟩
        · skip
          refine lv_aload_n hx hb d_M_spanProduct_148 rfl (lv_at hl 2 rfl) ?_
          refine lv_iload_n hx hb d_M_spanProduct_149 rfl (lv_at hl 3 rfl) ?_
          refine lv_lconst (v := nL 0) hx hb d_M_spanProduct_150 (by decide) ?_
          refine lv_lconst (v := nL 0) hx hb d_M_spanProduct_151 (by decide) ?_
          have jn135 : ∀ (bj136 : Int32) (H : Heap) (locs : List Loc), va_P g.D vcl (va_pl g.LP f) H → va_D (pc_A g s.heap.size) (va_pl g.LP f) → va_S (pc_A g s.heap.size) s.heap H locs → W p l e ({ frames := 2, cells := 0, slots := 0, locals := 46 }) s m args below meth c H locs 0 0 (MQ below (va_Qv (fun f1 => (IV g f1) ∧ (un [53, 54, 55, 56] g f f1)) (pc_out g s.heap.size) (pc_A g s.heap.size)) args s 0 0 (pc_A g s.heap.size)) (F0 m 161 ls [.int bj136, .long (nL 0), .long (nL 0), .int (nI k9), .ref M]) := by
            intro bj136 H locs hP hD hS
            have jn137 : ∀ (bj138 : Int32) (H : Heap) (locs : List Loc), va_P g.D vcl (va_pl g.LP f) H → va_D (pc_A g s.heap.size) (va_pl g.LP f) → va_S (pc_A g s.heap.size) s.heap H locs → W p l e ({ frames := 2, cells := 0, slots := 0, locals := 46 }) s m args below meth c H locs 0 0 (MQ below (va_Qv (fun f1 => (IV g f1) ∧ (un [53, 54, 55, 56] g f f1)) (pc_out g s.heap.size) (pc_A g s.heap.size)) args s 0 0 (pc_A g s.heap.size)) (F0 m 170 ls [.int bj138, .int bj136, .long (nL 0), .long (nL 0), .int (nI k9), .ref M]) := by
              intro bj138 H locs hP hD hS
              obtain ⟨th_140, n_141, dr_142, sz_143, ix_144, dp_145, wt_146, op_147, tp_148, wa_149, gi_150, pc_151, st_152, tr_153, sp_154, ma_155, lg_156, du_157, e139, c158, c159, c160, c161, c162, c163, c164, c165, c166, c167, c168, c169, c170, c171, c172⟩ := oc_11.of t_M (hI.1 M)
              refine pcc_v (va_runV (C := "BigRunnerModel") (As := [.int (nI k9), .long (nL 0), .long (nL 0), .int bj136, .int bj138]) (rest := []) ⟨hx, hb, hml, hown, tb_nil⟩ (m_interval l g H.size f M k9 ((nL 0)) ((nL 0)) bj136 bj138 hL t_M hI (by omega)) ⟨(callB_of 5 (tb_one (wd_1160 hB _)) tb_good1 rfl rfl rfl (wd_82 hB _) (wd_1157 hB _) (by decide +kernel) ⟨Nat.le_of_ble_eq_true rfl, Nat.le_of_ble_eq_true rfl⟩), (wd_1159 hB _), (wd_53 hB _)⟩ ⟨pe_bl, pg_recv (ci := 10) hK hP (lo_in hL t_M (by decide)) e139 rfl, pe_pre hB hK hP hD⟩ rfl rfl hl.1 rfl (lv_room (Nat.le_of_ble_eq_true rfl)) d_M_spanProduct_170 ⟨Nat.le_of_ble_eq_true rfl, Nat.le_of_ble_eq_true rfl⟩) hS (fun f174 H locs hq175 hP hD hS => ?_)
              obtain ⟨hI1_176, hu1_177⟩ := hq175
              have hu := hu.tr hu1_177 (by decide)
              have e139 := hu1_177.at t_M (by decide) e139
              exact pe_vret hx hb hr hlocks hK hP hD hS d_M_spanProduct_173 ⟨hI1_176, hu⟩
            refine lv_iload_n hx hb d_M_spanProduct_161 rfl (lv_at hl 1 rfl) ?_
            refine lv_if_ne (tgt := 169) hx hb d_M_spanProduct_162 (by decide) (fun b178 => ?_) (fun b178 => ?_)
            · skip
              refine lv_iconst (v := nI 0) hx hb d_M_spanProduct_169 (by decide) ?_
              exact jn137 ((nI 0)) _ _ hP hD hS
            · skip
              refine lv_iconst (v := nI 1) hx hb d_M_spanProduct_165 (by decide) ?_
              refine lv_goto (tgt := 170) hx hb d_M_spanProduct_166 (by decide) ?_
              exact jn137 ((nI 1)) _ _ hP hD hS
          refine lv_iload_n hx hb d_M_spanProduct_152 rfl (lv_at hl 1 rfl) ?_
          refine lv_if_ne (tgt := 160) hx hb d_M_spanProduct_153 (by decide) (fun b179 => ?_) (fun b179 => ?_)
          · skip
            refine lv_iconst (v := nI 0) hx hb d_M_spanProduct_160 (by decide) ?_
            exact jn135 ((nI 0)) _ _ hP hD hS
          · skip
            refine lv_iconst (v := nI 1) hx hb d_M_spanProduct_156 (by decide) ?_
            refine lv_goto (tgt := 161) hx hb d_M_spanProduct_157 (by decide) ?_
            exact jn135 ((nI 1)) _ _ hP hD hS
    refine lv_aload_n hx hb d_M_spanProduct_94 rfl (lv_at hl 1 rfl) ?_
    obtain ⟨th_181, n_182, dr_183, sz_184, ix_185, dp_186, wt_187, op_188, tp_189, wa_190, gi_191, pc_192, st_193, tr_194, sp_195, ma_196, lg_197, du_198, e180, c199, c200, c201, c202, c203, c204, c205, c206, c207, c208, c209, c210, c211, c212, c213⟩ := oc_11.of t_M (hI.1 M)
    refine pf_get (v := .ref (g.lk M 23)) (C := "BigRunnerModel") (T := FT10) (N := 45) hx hb (hw10 hB _) (fun _ h9 => h9) hown hK hP (lo_in hL t_M (by decide)) e180 rfl 23 (by decide) (wd_970 hB _) rfl d_M_spanProduct_95 ?_
    refine lv_iload_n hx hb d_M_spanProduct_98 rfl (lv_at hl 2 rfl) ?_
    obtain ⟨h_215, e214⟩ := oc_55.of (lo_k11_23 hL _ t_M) (hI.1 (g.lk M 23))
    refine pf_zald (i := k9) hx hb hK hP (lo_in hL (lo_k11_23 hL _ t_M) (by decide)) e214 (lo_t55 hL _ (lo_k11_23 hL _ t_M)) (by omega) (by decide) d_M_spanProduct_99 ?_
    refine lv_topi (fun iv217 _ => ?_)
    refine lv_if_ne (tgt := 134) hx hb d_M_spanProduct_100 (by decide) (fun b218 => ?_) (fun b218 => ?_)
    · skip
      refine lv_iconst (v := nI 1) hx hb d_M_spanProduct_134 (by decide) ?_
      refine lv_goto (tgt := 139) hx hb d_M_spanProduct_135 (by decide) ?_
      exact jn3 ((nI 1)) _ _ hP hD hS
    · skip
      refine lv_aload_n hx hb d_M_spanProduct_103 rfl (lv_at hl 1 rfl) ?_
      refine pf_get (v := .ref (g.lk M 24)) (C := "BigRunnerModel") (T := FT10) (N := 45) hx hb (hw10 hB _) (fun _ h9 => h9) hown hK hP (lo_in hL t_M (by decide)) e180 rfl 24 (by decide) (wd_971 hB _) rfl d_M_spanProduct_104 ?_
      refine lv_iload_n hx hb d_M_spanProduct_107 rfl (lv_at hl 2 rfl) ?_
      obtain ⟨h_220, e219⟩ := oc_56.of (lo_k11_24 hL _ t_M) (hI.1 (g.lk M 24))
      refine pf_zald (i := k9) hx hb hK hP (lo_in hL (lo_k11_24 hL _ t_M) (by decide)) e219 (lo_t56 hL _ (lo_k11_24 hL _ t_M)) (by omega) (by decide) d_M_spanProduct_108 ?_
      refine lv_topi (fun iv222 _ => ?_)
      refine lv_if_ne (tgt := 134) hx hb d_M_spanProduct_109 (by decide) (fun b223 => ?_) (fun b223 => ?_)
      · skip
        refine lv_iconst (v := nI 1) hx hb d_M_spanProduct_134 (by decide) ?_
        refine lv_goto (tgt := 139) hx hb d_M_spanProduct_135 (by decide) ?_
        exact jn3 ((nI 1)) _ _ hP hD hS
      · skip
        refine lv_aload_n hx hb d_M_spanProduct_112 rfl (lv_at hl 1 rfl) ?_
        refine pf_get (v := .ref (g.lk M 23)) (C := "BigRunnerModel") (T := FT10) (N := 45) hx hb (hw10 hB _) (fun _ h9 => h9) hown hK hP (lo_in hL t_M (by decide)) e180 rfl 23 (by decide) (wd_970 hB _) rfl d_M_spanProduct_113 ?_
        refine lv_iload_n hx hb d_M_spanProduct_116 rfl (lv_at hl 2 rfl) ?_
        refine lv_iconst (v := nI 1) hx hb d_M_spanProduct_117 (by decide) ?_
        refine pf_iaddN (x := k9) (y := 1) hx hb d_M_spanProduct_118 ?_
        refine pf_zald (i := k9 + 1) hx hb hK hP (lo_in hL (lo_k11_23 hL _ t_M) (by decide)) e214 (lo_t55 hL _ (lo_k11_23 hL _ t_M)) (by omega) (by decide) d_M_spanProduct_119 ?_
        refine lv_topi (fun iv224 _ => ?_)
        refine lv_if_ne (tgt := 134) hx hb d_M_spanProduct_120 (by decide) (fun b225 => ?_) (fun b225 => ?_)
        · skip
          refine lv_iconst (v := nI 1) hx hb d_M_spanProduct_134 (by decide) ?_
          refine lv_goto (tgt := 139) hx hb d_M_spanProduct_135 (by decide) ?_
          exact jn3 ((nI 1)) _ _ hP hD hS
        · skip
          refine lv_aload_n hx hb d_M_spanProduct_123 rfl (lv_at hl 1 rfl) ?_
          refine pf_get (v := .ref (g.lk M 24)) (C := "BigRunnerModel") (T := FT10) (N := 45) hx hb (hw10 hB _) (fun _ h9 => h9) hown hK hP (lo_in hL t_M (by decide)) e180 rfl 24 (by decide) (wd_971 hB _) rfl d_M_spanProduct_124 ?_
          refine lv_iload_n hx hb d_M_spanProduct_127 rfl (lv_at hl 2 rfl) ?_
          refine lv_iconst (v := nI 1) hx hb d_M_spanProduct_128 (by decide) ?_
          refine pf_iaddN (x := k9) (y := 1) hx hb d_M_spanProduct_129 ?_
          refine pf_zald (i := k9 + 1) hx hb hK hP (lo_in hL (lo_k11_24 hL _ t_M) (by decide)) e219 (lo_t56 hL _ (lo_k11_24 hL _ t_M)) (by omega) (by decide) d_M_spanProduct_130 ?_
          refine lv_topi (fun iv226 _ => ?_)
          refine lv_if_eq (tgt := 138) hx hb d_M_spanProduct_131 (by decide) (fun b227 => ?_) (fun b227 => ?_)
          · skip
            refine lv_iconst (v := nI 0) hx hb d_M_spanProduct_138 (by decide) ?_
            exact jn3 ((nI 0)) _ _ hP hD hS
          · skip
            refine lv_iconst (v := nI 1) hx hb d_M_spanProduct_134 (by decide) ?_
            refine lv_goto (tgt := 139) hx hb d_M_spanProduct_135 (by decide) ?_
            exact jn3 ((nI 1)) _ _ hP hD hS
  refine lv_aload_n hx hb d_M_spanProduct_0 rfl (lv_at hl 0 rfl) ?_
  obtain ⟨th_229, n_230, dr_231, sz_232, ix_233, dp_234, wt_235, op_236, tp_237, wa_238, gi_239, pc_240, st_241, tr_242, sp_243, ma_244, lg_245, du_246, e228, c247, c248, c249, c250, c251, c252, c253, c254, c255, c256, c257, c258, c259, c260, c261⟩ := oc_11.of t_M (hI.1 M)
  refine pf_get (v := .ref (g.lk M 23)) (C := "BigRunnerModel") (T := FT10) (N := 45) hx hb (hw10 hB _) (fun _ h9 => h9) hown hK hP (lo_in hL t_M (by decide)) e228 rfl 23 (by decide) (wd_970 hB _) rfl d_M_spanProduct_1 ?_
  refine lv_iload_n hx hb d_M_spanProduct_4 rfl (lv_at hl 1 rfl) ?_
  obtain ⟨h_263, e262⟩ := oc_55.of (lo_k11_23 hL _ t_M) (hI.1 (g.lk M 23))
  refine pf_zald (i := k9) hx hb hK hP (lo_in hL (lo_k11_23 hL _ t_M) (by decide)) e262 (lo_t55 hL _ (lo_k11_23 hL _ t_M)) (by omega) (by decide) d_M_spanProduct_5 ?_
  refine lv_topi (fun iv265 _ => ?_)
  refine lv_if_ne (tgt := 40) hx hb d_M_spanProduct_6 (by decide) (fun b266 => ?_) (fun b266 => ?_)
  · skip
    refine lv_aload_n hx hb d_M_spanProduct_40 rfl (lv_at hl 0 rfl) ?_
    refine pf_get (v := .ref (g.lk M 23)) (C := "BigRunnerModel") (T := FT10) (N := 45) hx hb (hw10 hB _) (fun _ h9 => h9) hown hK hP (lo_in hL t_M (by decide)) e228 rfl 23 (by decide) (wd_970 hB _) rfl d_M_spanProduct_41 ?_
    refine lv_iload_n hx hb d_M_spanProduct_44 rfl (lv_at hl 1 rfl) ?_
    refine lv_iconst (v := nI 1) hx hb d_M_spanProduct_45 (by decide) ?_
    refine pf_iaddN (x := k9) (y := 1) hx hb d_M_spanProduct_46 ?_
    refine pf_zald (i := k9 + 1) hx hb hK hP (lo_in hL (lo_k11_23 hL _ t_M) (by decide)) e262 (lo_t55 hL _ (lo_k11_23 hL _ t_M)) (by omega) (by decide) d_M_spanProduct_47 ?_
    refine lv_topi (fun iv267 _ => ?_)
    refine lv_if_ne (tgt := 92) hx hb d_M_spanProduct_48 (by decide) (fun b268 => ?_) (fun b268 => ?_)
    · skip
      refine lv_iconst (v := nI 0) hx hb d_M_spanProduct_92 (by decide) ?_
      exact jn1 ((nI 0)) _ _ hP hD hS
    · skip
      refine lv_aload_n hx hb d_M_spanProduct_51 rfl (lv_at hl 0 rfl) ?_
      refine pf_get (v := .ref (g.lk M 24)) (C := "BigRunnerModel") (T := FT10) (N := 45) hx hb (hw10 hB _) (fun _ h9 => h9) hown hK hP (lo_in hL t_M (by decide)) e228 rfl 24 (by decide) (wd_971 hB _) rfl d_M_spanProduct_52 ?_
      refine lv_iload_n hx hb d_M_spanProduct_55 rfl (lv_at hl 1 rfl) ?_
      refine lv_iconst (v := nI 1) hx hb d_M_spanProduct_56 (by decide) ?_
      refine pf_iaddN (x := k9) (y := 1) hx hb d_M_spanProduct_57 ?_
      obtain ⟨h_270, e269⟩ := oc_56.of (lo_k11_24 hL _ t_M) (hI.1 (g.lk M 24))
      refine pf_zald (i := k9 + 1) hx hb hK hP (lo_in hL (lo_k11_24 hL _ t_M) (by decide)) e269 (lo_t56 hL _ (lo_k11_24 hL _ t_M)) (by omega) (by decide) d_M_spanProduct_58 ?_
      refine lv_topi (fun iv272 _ => ?_)
      refine lv_if_ne (tgt := 92) hx hb d_M_spanProduct_59 (by decide) (fun b273 => ?_) (fun b273 => ?_)
      · skip
        refine lv_iconst (v := nI 0) hx hb d_M_spanProduct_92 (by decide) ?_
        exact jn1 ((nI 0)) _ _ hP hD hS
      · skip
        refine lv_aload_n hx hb d_M_spanProduct_62 rfl (lv_at hl 0 rfl) ?_
        refine pf_get (v := .ref (g.lk M 21)) (C := "BigRunnerModel") (T := FT10) (N := 45) hx hb (hw10 hB _) (fun _ h9 => h9) hown hK hP (lo_in hL t_M (by decide)) e228 rfl 21 (by decide) (wd_968 hB _) rfl d_M_spanProduct_63 ?_
        refine lv_iload_n hx hb d_M_spanProduct_66 rfl (lv_at hl 1 rfl) ?_
        refine lv_iconst (v := nI 1) hx hb d_M_spanProduct_67 (by decide) ?_
        refine pf_iaddN (x := k9) (y := 1) hx hb d_M_spanProduct_68 ?_
        obtain ⟨h_275, e274⟩ := oc_53.of (lo_k11_21 hL _ t_M) (hI.1 (g.lk M 21))
        refine pf_lald (i := k9 + 1) hx hb hK hP (lo_in hL (lo_k11_21 hL _ t_M) (by decide)) e274 (lo_t53 hL _ (lo_k11_21 hL _ t_M)) (by omega) (by decide) d_M_spanProduct_69 ?_
        refine lv_topl (fun lv277 _ => ?_)
        refine lv_lconst (v := nL 0) hx hb d_M_spanProduct_70 (by decide) ?_
        refine W.lcmp hx hb d_M_spanProduct_71 ?_
        refine lv_if_ne (tgt := 92) hx hb d_M_spanProduct_72 (by decide) (fun b278 => ?_) (fun b278 => ?_)
        · skip
          replace b278 := mt pl_eq.mpr b278
          refine lv_iconst (v := nI 0) hx hb d_M_spanProduct_92 (by decide) ?_
          exact jn1 ((nI 0)) _ _ hP hD hS
        · skip
          replace b278 := pl_eq.mp b278
          refine lv_aload_n hx hb d_M_spanProduct_75 rfl (lv_at hl 0 rfl) ?_
          refine pf_get (v := .ref (g.lk M 22)) (C := "BigRunnerModel") (T := FT10) (N := 45) hx hb (hw10 hB _) (fun _ h9 => h9) hown hK hP (lo_in hL t_M (by decide)) e228 rfl 22 (by decide) (wd_969 hB _) rfl d_M_spanProduct_76 ?_
          refine lv_iload_n hx hb d_M_spanProduct_79 rfl (lv_at hl 1 rfl) ?_
          refine lv_iconst (v := nI 1) hx hb d_M_spanProduct_80 (by decide) ?_
          refine pf_iaddN (x := k9) (y := 1) hx hb d_M_spanProduct_81 ?_
          obtain ⟨h_280, e279⟩ := oc_54.of (lo_k11_22 hL _ t_M) (hI.1 (g.lk M 22))
          refine pf_lald (i := k9 + 1) hx hb hK hP (lo_in hL (lo_k11_22 hL _ t_M) (by decide)) e279 (lo_t54 hL _ (lo_k11_22 hL _ t_M)) (by omega) (by decide) d_M_spanProduct_82 ?_
          refine lv_topl (fun lv282 _ => ?_)
          refine lv_lconst (v := nL 0) hx hb d_M_spanProduct_83 (by decide) ?_
          refine W.lcmp hx hb d_M_spanProduct_84 ?_
          refine lv_if_ne (tgt := 92) hx hb d_M_spanProduct_85 (by decide) (fun b283 => ?_) (fun b283 => ?_)
          · skip
            replace b283 := mt pl_eq.mpr b283
            refine lv_iconst (v := nI 0) hx hb d_M_spanProduct_92 (by decide) ?_
            exact jn1 ((nI 0)) _ _ hP hD hS
          · skip
            replace b283 := pl_eq.mp b283
            refine lv_iconst (v := nI 1) hx hb d_M_spanProduct_88 (by decide) ?_
            refine lv_goto (tgt := 93) hx hb d_M_spanProduct_89 (by decide) ?_
            exact jn1 ((nI 1)) _ _ hP hD hS
  · skip
    refine lv_aload_n hx hb d_M_spanProduct_9 rfl (lv_at hl 0 rfl) ?_
    refine pf_get (v := .ref (g.lk M 24)) (C := "BigRunnerModel") (T := FT10) (N := 45) hx hb (hw10 hB _) (fun _ h9 => h9) hown hK hP (lo_in hL t_M (by decide)) e228 rfl 24 (by decide) (wd_971 hB _) rfl d_M_spanProduct_10 ?_
    refine lv_iload_n hx hb d_M_spanProduct_13 rfl (lv_at hl 1 rfl) ?_
    obtain ⟨h_285, e284⟩ := oc_56.of (lo_k11_24 hL _ t_M) (hI.1 (g.lk M 24))
    refine pf_zald (i := k9) hx hb hK hP (lo_in hL (lo_k11_24 hL _ t_M) (by decide)) e284 (lo_t56 hL _ (lo_k11_24 hL _ t_M)) (by omega) (by decide) d_M_spanProduct_14 ?_
    refine lv_topi (fun iv287 _ => ?_)
    refine lv_if_ne (tgt := 40) hx hb d_M_spanProduct_15 (by decide) (fun b288 => ?_) (fun b288 => ?_)
    · skip
      refine lv_aload_n hx hb d_M_spanProduct_40 rfl (lv_at hl 0 rfl) ?_
      refine pf_get (v := .ref (g.lk M 23)) (C := "BigRunnerModel") (T := FT10) (N := 45) hx hb (hw10 hB _) (fun _ h9 => h9) hown hK hP (lo_in hL t_M (by decide)) e228 rfl 23 (by decide) (wd_970 hB _) rfl d_M_spanProduct_41 ?_
      refine lv_iload_n hx hb d_M_spanProduct_44 rfl (lv_at hl 1 rfl) ?_
      refine lv_iconst (v := nI 1) hx hb d_M_spanProduct_45 (by decide) ?_
      refine pf_iaddN (x := k9) (y := 1) hx hb d_M_spanProduct_46 ?_
      refine pf_zald (i := k9 + 1) hx hb hK hP (lo_in hL (lo_k11_23 hL _ t_M) (by decide)) e262 (lo_t55 hL _ (lo_k11_23 hL _ t_M)) (by omega) (by decide) d_M_spanProduct_47 ?_
      refine lv_topi (fun iv289 _ => ?_)
      refine lv_if_ne (tgt := 92) hx hb d_M_spanProduct_48 (by decide) (fun b290 => ?_) (fun b290 => ?_)
      · skip
        refine lv_iconst (v := nI 0) hx hb d_M_spanProduct_92 (by decide) ?_
        exact jn1 ((nI 0)) _ _ hP hD hS
      · skip
        refine lv_aload_n hx hb d_M_spanProduct_51 rfl (lv_at hl 0 rfl) ?_
        refine pf_get (v := .ref (g.lk M 24)) (C := "BigRunnerModel") (T := FT10) (N := 45) hx hb (hw10 hB _) (fun _ h9 => h9) hown hK hP (lo_in hL t_M (by decide)) e228 rfl 24 (by decide) (wd_971 hB _) rfl d_M_spanProduct_52 ?_
        refine lv_iload_n hx hb d_M_spanProduct_55 rfl (lv_at hl 1 rfl) ?_
        refine lv_iconst (v := nI 1) hx hb d_M_spanProduct_56 (by decide) ?_
        refine pf_iaddN (x := k9) (y := 1) hx hb d_M_spanProduct_57 ?_
        refine pf_zald (i := k9 + 1) hx hb hK hP (lo_in hL (lo_k11_24 hL _ t_M) (by decide)) e284 (lo_t56 hL _ (lo_k11_24 hL _ t_M)) (by omega) (by decide) d_M_spanProduct_58 ?_
        refine lv_topi (fun iv291 _ => ?_)
        refine lv_if_ne (tgt := 92) hx hb d_M_spanProduct_59 (by decide) (fun b292 => ?_) (fun b292 => ?_)
        · skip
          refine lv_iconst (v := nI 0) hx hb d_M_spanProduct_92 (by decide) ?_
          exact jn1 ((nI 0)) _ _ hP hD hS
        · skip
          refine lv_aload_n hx hb d_M_spanProduct_62 rfl (lv_at hl 0 rfl) ?_
          refine pf_get (v := .ref (g.lk M 21)) (C := "BigRunnerModel") (T := FT10) (N := 45) hx hb (hw10 hB _) (fun _ h9 => h9) hown hK hP (lo_in hL t_M (by decide)) e228 rfl 21 (by decide) (wd_968 hB _) rfl d_M_spanProduct_63 ?_
          refine lv_iload_n hx hb d_M_spanProduct_66 rfl (lv_at hl 1 rfl) ?_
          refine lv_iconst (v := nI 1) hx hb d_M_spanProduct_67 (by decide) ?_
          refine pf_iaddN (x := k9) (y := 1) hx hb d_M_spanProduct_68 ?_
          obtain ⟨h_294, e293⟩ := oc_53.of (lo_k11_21 hL _ t_M) (hI.1 (g.lk M 21))
          refine pf_lald (i := k9 + 1) hx hb hK hP (lo_in hL (lo_k11_21 hL _ t_M) (by decide)) e293 (lo_t53 hL _ (lo_k11_21 hL _ t_M)) (by omega) (by decide) d_M_spanProduct_69 ?_
          refine lv_topl (fun lv296 _ => ?_)
          refine lv_lconst (v := nL 0) hx hb d_M_spanProduct_70 (by decide) ?_
          refine W.lcmp hx hb d_M_spanProduct_71 ?_
          refine lv_if_ne (tgt := 92) hx hb d_M_spanProduct_72 (by decide) (fun b297 => ?_) (fun b297 => ?_)
          · skip
            replace b297 := mt pl_eq.mpr b297
            refine lv_iconst (v := nI 0) hx hb d_M_spanProduct_92 (by decide) ?_
            exact jn1 ((nI 0)) _ _ hP hD hS
          · skip
            replace b297 := pl_eq.mp b297
            refine lv_aload_n hx hb d_M_spanProduct_75 rfl (lv_at hl 0 rfl) ?_
            refine pf_get (v := .ref (g.lk M 22)) (C := "BigRunnerModel") (T := FT10) (N := 45) hx hb (hw10 hB _) (fun _ h9 => h9) hown hK hP (lo_in hL t_M (by decide)) e228 rfl 22 (by decide) (wd_969 hB _) rfl d_M_spanProduct_76 ?_
            refine lv_iload_n hx hb d_M_spanProduct_79 rfl (lv_at hl 1 rfl) ?_
            refine lv_iconst (v := nI 1) hx hb d_M_spanProduct_80 (by decide) ?_
            refine pf_iaddN (x := k9) (y := 1) hx hb d_M_spanProduct_81 ?_
            obtain ⟨h_299, e298⟩ := oc_54.of (lo_k11_22 hL _ t_M) (hI.1 (g.lk M 22))
            refine pf_lald (i := k9 + 1) hx hb hK hP (lo_in hL (lo_k11_22 hL _ t_M) (by decide)) e298 (lo_t54 hL _ (lo_k11_22 hL _ t_M)) (by omega) (by decide) d_M_spanProduct_82 ?_
            refine lv_topl (fun lv301 _ => ?_)
            refine lv_lconst (v := nL 0) hx hb d_M_spanProduct_83 (by decide) ?_
            refine W.lcmp hx hb d_M_spanProduct_84 ?_
            refine lv_if_ne (tgt := 92) hx hb d_M_spanProduct_85 (by decide) (fun b302 => ?_) (fun b302 => ?_)
            · skip
              replace b302 := mt pl_eq.mpr b302
              refine lv_iconst (v := nI 0) hx hb d_M_spanProduct_92 (by decide) ?_
              exact jn1 ((nI 0)) _ _ hP hD hS
            · skip
              replace b302 := pl_eq.mp b302
              refine lv_iconst (v := nI 1) hx hb d_M_spanProduct_88 (by decide) ?_
              refine lv_goto (tgt := 93) hx hb d_M_spanProduct_89 (by decide) ?_
              exact jn1 ((nI 1)) _ _ hP hD hS
    · skip
      refine lv_aload_n hx hb d_M_spanProduct_18 rfl (lv_at hl 0 rfl) ?_
      refine pf_get (v := .ref (g.lk M 21)) (C := "BigRunnerModel") (T := FT10) (N := 45) hx hb (hw10 hB _) (fun _ h9 => h9) hown hK hP (lo_in hL t_M (by decide)) e228 rfl 21 (by decide) (wd_968 hB _) rfl d_M_spanProduct_19 ?_
      refine lv_iload_n hx hb d_M_spanProduct_22 rfl (lv_at hl 1 rfl) ?_
      obtain ⟨h_304, e303⟩ := oc_53.of (lo_k11_21 hL _ t_M) (hI.1 (g.lk M 21))
      refine pf_lald (i := k9) hx hb hK hP (lo_in hL (lo_k11_21 hL _ t_M) (by decide)) e303 (lo_t53 hL _ (lo_k11_21 hL _ t_M)) (by omega) (by decide) d_M_spanProduct_23 ?_
      refine lv_topl (fun lv306 _ => ?_)
      refine lv_lconst (v := nL 0) hx hb d_M_spanProduct_24 (by decide) ?_
      refine W.lcmp hx hb d_M_spanProduct_25 ?_
      refine lv_if_ne (tgt := 40) hx hb d_M_spanProduct_26 (by decide) (fun b307 => ?_) (fun b307 => ?_)
      · skip
        replace b307 := mt pl_eq.mpr b307
        refine lv_aload_n hx hb d_M_spanProduct_40 rfl (lv_at hl 0 rfl) ?_
        refine pf_get (v := .ref (g.lk M 23)) (C := "BigRunnerModel") (T := FT10) (N := 45) hx hb (hw10 hB _) (fun _ h9 => h9) hown hK hP (lo_in hL t_M (by decide)) e228 rfl 23 (by decide) (wd_970 hB _) rfl d_M_spanProduct_41 ?_
        refine lv_iload_n hx hb d_M_spanProduct_44 rfl (lv_at hl 1 rfl) ?_
        refine lv_iconst (v := nI 1) hx hb d_M_spanProduct_45 (by decide) ?_
        refine pf_iaddN (x := k9) (y := 1) hx hb d_M_spanProduct_46 ?_
        refine pf_zald (i := k9 + 1) hx hb hK hP (lo_in hL (lo_k11_23 hL _ t_M) (by decide)) e262 (lo_t55 hL _ (lo_k11_23 hL _ t_M)) (by omega) (by decide) d_M_spanProduct_47 ?_
        refine lv_topi (fun iv308 _ => ?_)
        refine lv_if_ne (tgt := 92) hx hb d_M_spanProduct_48 (by decide) (fun b309 => ?_) (fun b309 => ?_)
        · skip
          refine lv_iconst (v := nI 0) hx hb d_M_spanProduct_92 (by decide) ?_
          exact jn1 ((nI 0)) _ _ hP hD hS
        · skip
          refine lv_aload_n hx hb d_M_spanProduct_51 rfl (lv_at hl 0 rfl) ?_
          refine pf_get (v := .ref (g.lk M 24)) (C := "BigRunnerModel") (T := FT10) (N := 45) hx hb (hw10 hB _) (fun _ h9 => h9) hown hK hP (lo_in hL t_M (by decide)) e228 rfl 24 (by decide) (wd_971 hB _) rfl d_M_spanProduct_52 ?_
          refine lv_iload_n hx hb d_M_spanProduct_55 rfl (lv_at hl 1 rfl) ?_
          refine lv_iconst (v := nI 1) hx hb d_M_spanProduct_56 (by decide) ?_
          refine pf_iaddN (x := k9) (y := 1) hx hb d_M_spanProduct_57 ?_
          refine pf_zald (i := k9 + 1) hx hb hK hP (lo_in hL (lo_k11_24 hL _ t_M) (by decide)) e284 (lo_t56 hL _ (lo_k11_24 hL _ t_M)) (by omega) (by decide) d_M_spanProduct_58 ?_
          refine lv_topi (fun iv310 _ => ?_)
          refine lv_if_ne (tgt := 92) hx hb d_M_spanProduct_59 (by decide) (fun b311 => ?_) (fun b311 => ?_)
          · skip
            refine lv_iconst (v := nI 0) hx hb d_M_spanProduct_92 (by decide) ?_
            exact jn1 ((nI 0)) _ _ hP hD hS
          · skip
            refine lv_aload_n hx hb d_M_spanProduct_62 rfl (lv_at hl 0 rfl) ?_
            refine pf_get (v := .ref (g.lk M 21)) (C := "BigRunnerModel") (T := FT10) (N := 45) hx hb (hw10 hB _) (fun _ h9 => h9) hown hK hP (lo_in hL t_M (by decide)) e228 rfl 21 (by decide) (wd_968 hB _) rfl d_M_spanProduct_63 ?_
            refine lv_iload_n hx hb d_M_spanProduct_66 rfl (lv_at hl 1 rfl) ?_
            refine lv_iconst (v := nI 1) hx hb d_M_spanProduct_67 (by decide) ?_
            refine pf_iaddN (x := k9) (y := 1) hx hb d_M_spanProduct_68 ?_
            refine pf_lald (i := k9 + 1) hx hb hK hP (lo_in hL (lo_k11_21 hL _ t_M) (by decide)) e303 (lo_t53 hL _ (lo_k11_21 hL _ t_M)) (by omega) (by decide) d_M_spanProduct_69 ?_
            refine lv_topl (fun lv312 _ => ?_)
            refine lv_lconst (v := nL 0) hx hb d_M_spanProduct_70 (by decide) ?_
            refine W.lcmp hx hb d_M_spanProduct_71 ?_
            refine lv_if_ne (tgt := 92) hx hb d_M_spanProduct_72 (by decide) (fun b313 => ?_) (fun b313 => ?_)
            · skip
              replace b313 := mt pl_eq.mpr b313
              refine lv_iconst (v := nI 0) hx hb d_M_spanProduct_92 (by decide) ?_
              exact jn1 ((nI 0)) _ _ hP hD hS
            · skip
              replace b313 := pl_eq.mp b313
              refine lv_aload_n hx hb d_M_spanProduct_75 rfl (lv_at hl 0 rfl) ?_
              refine pf_get (v := .ref (g.lk M 22)) (C := "BigRunnerModel") (T := FT10) (N := 45) hx hb (hw10 hB _) (fun _ h9 => h9) hown hK hP (lo_in hL t_M (by decide)) e228 rfl 22 (by decide) (wd_969 hB _) rfl d_M_spanProduct_76 ?_
              refine lv_iload_n hx hb d_M_spanProduct_79 rfl (lv_at hl 1 rfl) ?_
              refine lv_iconst (v := nI 1) hx hb d_M_spanProduct_80 (by decide) ?_
              refine pf_iaddN (x := k9) (y := 1) hx hb d_M_spanProduct_81 ?_
              obtain ⟨h_315, e314⟩ := oc_54.of (lo_k11_22 hL _ t_M) (hI.1 (g.lk M 22))
              refine pf_lald (i := k9 + 1) hx hb hK hP (lo_in hL (lo_k11_22 hL _ t_M) (by decide)) e314 (lo_t54 hL _ (lo_k11_22 hL _ t_M)) (by omega) (by decide) d_M_spanProduct_82 ?_
              refine lv_topl (fun lv317 _ => ?_)
              refine lv_lconst (v := nL 0) hx hb d_M_spanProduct_83 (by decide) ?_
              refine W.lcmp hx hb d_M_spanProduct_84 ?_
              refine lv_if_ne (tgt := 92) hx hb d_M_spanProduct_85 (by decide) (fun b318 => ?_) (fun b318 => ?_)
              · skip
                replace b318 := mt pl_eq.mpr b318
                refine lv_iconst (v := nI 0) hx hb d_M_spanProduct_92 (by decide) ?_
                exact jn1 ((nI 0)) _ _ hP hD hS
              · skip
                replace b318 := pl_eq.mp b318
                refine lv_iconst (v := nI 1) hx hb d_M_spanProduct_88 (by decide) ?_
                refine lv_goto (tgt := 93) hx hb d_M_spanProduct_89 (by decide) ?_
                exact jn1 ((nI 1)) _ _ hP hD hS
      · skip
        replace b307 := pl_eq.mp b307
        refine lv_aload_n hx hb d_M_spanProduct_29 rfl (lv_at hl 0 rfl) ?_
        refine pf_get (v := .ref (g.lk M 22)) (C := "BigRunnerModel") (T := FT10) (N := 45) hx hb (hw10 hB _) (fun _ h9 => h9) hown hK hP (lo_in hL t_M (by decide)) e228 rfl 22 (by decide) (wd_969 hB _) rfl d_M_spanProduct_30 ?_
        refine lv_iload_n hx hb d_M_spanProduct_33 rfl (lv_at hl 1 rfl) ?_
        obtain ⟨h_320, e319⟩ := oc_54.of (lo_k11_22 hL _ t_M) (hI.1 (g.lk M 22))
        refine pf_lald (i := k9) hx hb hK hP (lo_in hL (lo_k11_22 hL _ t_M) (by decide)) e319 (lo_t54 hL _ (lo_k11_22 hL _ t_M)) (by omega) (by decide) d_M_spanProduct_34 ?_
        refine lv_topl (fun lv322 _ => ?_)
        refine lv_lconst (v := nL 0) hx hb d_M_spanProduct_35 (by decide) ?_
        refine W.lcmp hx hb d_M_spanProduct_36 ?_
        refine lv_if_eq (tgt := 88) hx hb d_M_spanProduct_37 (by decide) (fun b323 => ?_) (fun b323 => ?_)
        · skip
          replace b323 := pl_eq.mp b323
          refine lv_iconst (v := nI 1) hx hb d_M_spanProduct_88 (by decide) ?_
          refine lv_goto (tgt := 93) hx hb d_M_spanProduct_89 (by decide) ?_
          exact jn1 ((nI 1)) _ _ hP hD hS
        · skip
          replace b323 := mt pl_eq.mpr b323
          refine lv_aload_n hx hb d_M_spanProduct_40 rfl (lv_at hl 0 rfl) ?_
          refine pf_get (v := .ref (g.lk M 23)) (C := "BigRunnerModel") (T := FT10) (N := 45) hx hb (hw10 hB _) (fun _ h9 => h9) hown hK hP (lo_in hL t_M (by decide)) e228 rfl 23 (by decide) (wd_970 hB _) rfl d_M_spanProduct_41 ?_
          refine lv_iload_n hx hb d_M_spanProduct_44 rfl (lv_at hl 1 rfl) ?_
          refine lv_iconst (v := nI 1) hx hb d_M_spanProduct_45 (by decide) ?_
          refine pf_iaddN (x := k9) (y := 1) hx hb d_M_spanProduct_46 ?_
          refine pf_zald (i := k9 + 1) hx hb hK hP (lo_in hL (lo_k11_23 hL _ t_M) (by decide)) e262 (lo_t55 hL _ (lo_k11_23 hL _ t_M)) (by omega) (by decide) d_M_spanProduct_47 ?_
          refine lv_topi (fun iv324 _ => ?_)
          refine lv_if_ne (tgt := 92) hx hb d_M_spanProduct_48 (by decide) (fun b325 => ?_) (fun b325 => ?_)
          · skip
            refine lv_iconst (v := nI 0) hx hb d_M_spanProduct_92 (by decide) ?_
            exact jn1 ((nI 0)) _ _ hP hD hS
          · skip
            refine lv_aload_n hx hb d_M_spanProduct_51 rfl (lv_at hl 0 rfl) ?_
            refine pf_get (v := .ref (g.lk M 24)) (C := "BigRunnerModel") (T := FT10) (N := 45) hx hb (hw10 hB _) (fun _ h9 => h9) hown hK hP (lo_in hL t_M (by decide)) e228 rfl 24 (by decide) (wd_971 hB _) rfl d_M_spanProduct_52 ?_
            refine lv_iload_n hx hb d_M_spanProduct_55 rfl (lv_at hl 1 rfl) ?_
            refine lv_iconst (v := nI 1) hx hb d_M_spanProduct_56 (by decide) ?_
            refine pf_iaddN (x := k9) (y := 1) hx hb d_M_spanProduct_57 ?_
            refine pf_zald (i := k9 + 1) hx hb hK hP (lo_in hL (lo_k11_24 hL _ t_M) (by decide)) e284 (lo_t56 hL _ (lo_k11_24 hL _ t_M)) (by omega) (by decide) d_M_spanProduct_58 ?_
            refine lv_topi (fun iv326 _ => ?_)
            refine lv_if_ne (tgt := 92) hx hb d_M_spanProduct_59 (by decide) (fun b327 => ?_) (fun b327 => ?_)
            · skip
              refine lv_iconst (v := nI 0) hx hb d_M_spanProduct_92 (by decide) ?_
              exact jn1 ((nI 0)) _ _ hP hD hS
            · skip
              refine lv_aload_n hx hb d_M_spanProduct_62 rfl (lv_at hl 0 rfl) ?_
              refine pf_get (v := .ref (g.lk M 21)) (C := "BigRunnerModel") (T := FT10) (N := 45) hx hb (hw10 hB _) (fun _ h9 => h9) hown hK hP (lo_in hL t_M (by decide)) e228 rfl 21 (by decide) (wd_968 hB _) rfl d_M_spanProduct_63 ?_
              refine lv_iload_n hx hb d_M_spanProduct_66 rfl (lv_at hl 1 rfl) ?_
              refine lv_iconst (v := nI 1) hx hb d_M_spanProduct_67 (by decide) ?_
              refine pf_iaddN (x := k9) (y := 1) hx hb d_M_spanProduct_68 ?_
              refine pf_lald (i := k9 + 1) hx hb hK hP (lo_in hL (lo_k11_21 hL _ t_M) (by decide)) e303 (lo_t53 hL _ (lo_k11_21 hL _ t_M)) (by omega) (by decide) d_M_spanProduct_69 ?_
              refine lv_topl (fun lv328 _ => ?_)
              refine lv_lconst (v := nL 0) hx hb d_M_spanProduct_70 (by decide) ?_
              refine W.lcmp hx hb d_M_spanProduct_71 ?_
              refine lv_if_ne (tgt := 92) hx hb d_M_spanProduct_72 (by decide) (fun b329 => ?_) (fun b329 => ?_)
              · skip
                replace b329 := mt pl_eq.mpr b329
                refine lv_iconst (v := nI 0) hx hb d_M_spanProduct_92 (by decide) ?_
                exact jn1 ((nI 0)) _ _ hP hD hS
              · skip
                replace b329 := pl_eq.mp b329
                refine lv_aload_n hx hb d_M_spanProduct_75 rfl (lv_at hl 0 rfl) ?_
                refine pf_get (v := .ref (g.lk M 22)) (C := "BigRunnerModel") (T := FT10) (N := 45) hx hb (hw10 hB _) (fun _ h9 => h9) hown hK hP (lo_in hL t_M (by decide)) e228 rfl 22 (by decide) (wd_969 hB _) rfl d_M_spanProduct_76 ?_
                refine lv_iload_n hx hb d_M_spanProduct_79 rfl (lv_at hl 1 rfl) ?_
                refine lv_iconst (v := nI 1) hx hb d_M_spanProduct_80 (by decide) ?_
                refine pf_iaddN (x := k9) (y := 1) hx hb d_M_spanProduct_81 ?_
                refine pf_lald (i := k9 + 1) hx hb hK hP (lo_in hL (lo_k11_22 hL _ t_M) (by decide)) e319 (lo_t54 hL _ (lo_k11_22 hL _ t_M)) (by omega) (by decide) d_M_spanProduct_82 ?_
                refine lv_topl (fun lv330 _ => ?_)
                refine lv_lconst (v := nL 0) hx hb d_M_spanProduct_83 (by decide) ?_
                refine W.lcmp hx hb d_M_spanProduct_84 ?_
                refine lv_if_ne (tgt := 92) hx hb d_M_spanProduct_85 (by decide) (fun b331 => ?_) (fun b331 => ?_)
                · skip
                  replace b331 := mt pl_eq.mpr b331
                  refine lv_iconst (v := nI 0) hx hb d_M_spanProduct_92 (by decide) ?_
                  exact jn1 ((nI 0)) _ _ hP hD hS
                · skip
                  replace b331 := pl_eq.mp b331
                  refine lv_iconst (v := nI 1) hx hb d_M_spanProduct_88 (by decide) ?_
                  refine lv_goto (tgt := 93) hx hb d_M_spanProduct_89 (by decide) ?_
                  exact jn1 ((nI 1)) _ _ hP hD hS
set_option maxHeartbeats 4000000 in
set_option maxRecDepth 100000 in
theorem m_spanQuotient (l : Launch) (g : Lay) (sz : Nat) (f : Nat → va_E) (M : Nat) (k9 : Nat) (rs : Int32) (hL : LO g) (t_M : g.tg M = 11) (hI : IV g f) (hk : k9 < 79) : Met l ⟨"BigRunnerModel", "spanQuotient", "(IZ)V"⟩ [Cond.code ⟨"BigRunnerModel", "spanQuotient", "(IZ)V"⟩ prog_12_method_21_code 9 none] ({ frames := 1, cells := 0, slots := 0, locals := 27 }) (va_Pc [.ref M, .int (nI k9), .int rs] (pc_in g sz f)) (va_Qv (fun f1 => (IV g f1) ∧ (un [53, 54, 55, 56] g f f1)) (pc_out g sz) (pc_A g sz)) 0 0 (pc_A g sz) := by
  refine pe_ofW (cc := prog_12_method_21_code) (maxL := 9) (ret := none) (lv := [(0, .ref M), (1, .int (nI k9)), (2, .int rs)]) (by decide) (Nat.le_of_ble_eq_true rfl) rfl ?_
  intro p e s m args below meth c ls hx hb hr hml hlocks hown hB hP hK hD hsz hS hl
  subst hsz
  have hu : un [53, 54, 55, 56] g f f := un.rf
  have jn1 : ∀ (bj2 : Int32) (H : Heap) (locs : List Loc), va_P g.D vcl (va_pl g.LP f) H → va_D (pc_A g s.heap.size) (va_pl g.LP f) → va_S (pc_A g s.heap.size) s.heap H locs → W p l e ({ frames := 1, cells := 0, slots := 0, locals := 27 }) s m args below meth c H locs 0 0 (MQ below (va_Qv (fun f1 => (IV g f1) ∧ (un [53, 54, 55, 56] g f f1)) (pc_out g s.heap.size) (pc_A g s.heap.size)) args s 0 0 (pc_A g s.heap.size)) (F0 m 23 ls [.int bj2]) := by
    intro bj2 H locs hP hD hS
    refine lv_istore_n (lv' := [(3, .int bj2), (0, .ref M), (1, .int (nI k9)), (2, .int rs)]) hx hb d_M_spanQuotient_23 rfl hl (by decide) rfl (fun ls hl => ?_)
    have jn3 : ∀ (bj4 : Int32) (H : Heap) (locs : List Loc), va_P g.D vcl (va_pl g.LP f) H → va_D (pc_A g s.heap.size) (va_pl g.LP f) → va_S (pc_A g s.heap.size) s.heap H locs → W p l e ({ frames := 1, cells := 0, slots := 0, locals := 27 }) s m args below meth c H locs 0 0 (MQ below (va_Qv (fun f1 => (IV g f1) ∧ (un [53, 54, 55, 56] g f f1)) (pc_out g s.heap.size) (pc_A g s.heap.size)) args s 0 0 (pc_A g s.heap.size)) (F0 m 49 ls [.int bj4]) := by
      intro bj4 H locs hP hD hS
      refine lv_istore (lv' := [(4, .int bj4), (3, .int bj2), (0, .ref M), (1, .int (nI k9)), (2, .int rs)]) hx hb d_M_spanQuotient_49 hl (by decide) rfl (fun ls hl => ?_)
      have jn5 : ∀ (bj6 : Int64) (H : Heap) (locs : List Loc), va_P g.D vcl (va_pl g.LP f) H → va_D (pc_A g s.heap.size) (va_pl g.LP f) → va_S (pc_A g s.heap.size) s.heap H locs → W p l e ({ frames := 1, cells := 0, slots := 0, locals := 27 }) s m args below meth c H locs 0 0 (MQ below (va_Qv (fun f1 => (IV g f1) ∧ (un [53, 54, 55, 56] g f f1)) (pc_out g s.heap.size) (pc_A g s.heap.size)) args s 0 0 (pc_A g s.heap.size)) (F0 m 82 ls [.long bj6]) := by
        intro bj6 H locs hP hD hS
        refine lv_lstore (lv' := [(5, .long bj6), (4, .int bj4), (3, .int bj2), (0, .ref M), (1, .int (nI k9)), (2, .int rs)]) hx hb d_M_spanQuotient_82 hl (by decide) rfl (fun ls hl => ?_)
        refine lv_iload_n hx hb d_M_spanQuotient_84 rfl (lv_at hl 5 rfl) ?_
        refine lv_if_eq (tgt := 154) hx hb d_M_spanQuotient_85 (by decide) (fun b7 => ?_) (fun b7 => ?_)
        · skip
          have jn8 : ∀ (bj9 : Int32) (H : Heap) (locs : List Loc), va_P g.D vcl (va_pl g.LP f) H → va_D (pc_A g s.heap.size) (va_pl g.LP f) → va_S (pc_A g s.heap.size) s.heap H locs → W p l e ({ frames := 1, cells := 0, slots := 0, locals := 27 }) s m args below meth c H locs 0 0 (MQ below (va_Qv (fun f1 => (IV g f1) ∧ (un [53, 54, 55, 56] g f f1)) (pc_out g s.heap.size) (pc_A g s.heap.size)) args s 0 0 (pc_A g s.heap.size)) (F0 m 168 ls [.int bj9]) := by
            intro bj9 H locs hP hD hS
            refine lv_istore (lv' := [(7, .int bj9), (5, .long bj6), (4, .int bj4), (3, .int bj2), (0, .ref M), (1, .int (nI k9)), (2, .int rs)]) hx hb d_M_spanQuotient_168 hl (by decide) rfl (fun ls hl => ?_)
            refine lv_aload_n hx hb d_M_spanQuotient_170 rfl (lv_at hl 4 rfl) ?_
            refine lv_iload_n hx hb d_M_spanQuotient_171 rfl (lv_at hl 5 rfl) ?_
            have jn10 : ∀ (bj11 : Int64) (H : Heap) (locs : List Loc), va_P g.D vcl (va_pl g.LP f) H → va_D (pc_A g s.heap.size) (va_pl g.LP f) → va_S (pc_A g s.heap.size) s.heap H locs → W p l e ({ frames := 1, cells := 0, slots := 0, locals := 27 }) s m args below meth c H locs 0 0 (MQ below (va_Qv (fun f1 => (IV g f1) ∧ (un [53, 54, 55, 56] g f f1)) (pc_out g s.heap.size) (pc_A g s.heap.size)) args s 0 0 (pc_A g s.heap.size)) (F0 m 184 ls [.long bj11, .int (nI k9), .ref M]) := by
              intro bj11 H locs hP hD hS
              refine lv_lload hx hb d_M_spanQuotient_184 (lv_at hl 1 rfl) ?_
              have jn12 : ∀ (bj13 : Int32) (H : Heap) (locs : List Loc), va_P g.D vcl (va_pl g.LP f) H → va_D (pc_A g s.heap.size) (va_pl g.LP f) → va_S (pc_A g s.heap.size) s.heap H locs → W p l e ({ frames := 1, cells := 0, slots := 0, locals := 27 }) s m args below meth c H locs 0 0 (MQ below (va_Qv (fun f1 => (IV g f1) ∧ (un [53, 54, 55, 56] g f f1)) (pc_out g s.heap.size) (pc_A g s.heap.size)) args s 0 0 (pc_A g s.heap.size)) (F0 m 200 ls [.int bj13, .long bj6, .long bj11, .int (nI k9), .ref M]) := by
                intro bj13 H locs hP hD hS
                refine lv_iload_n hx hb d_M_spanQuotient_200 rfl (lv_at hl 3 rfl) ?_
                obtain ⟨th_15, n_16, dr_17, sz_18, ix_19, dp_20, wt_21, op_22, tp_23, wa_24, gi_25, pc_26, st_27, tr_28, sp_29, ma_30, lg_31, du_32, e14, c33, c34, c35, c36, c37, c38, c39, c40, c41, c42, c43, c44, c45, c46, c47⟩ := oc_11.of t_M (hI.1 M)
                refine pcc_v (va_runV (C := "BigRunnerModel") (As := [.int (nI k9), .long bj11, .long bj6, .int bj13, .int bj2]) (rest := []) ⟨hx, hb, hml, hown, tb_nil⟩ (m_interval l g H.size f M k9 bj11 bj6 bj13 bj2 hL t_M hI (by omega)) ⟨(callB_of 5 (tb_one (wd_1160 hB _)) tb_good1 rfl rfl rfl (wd_82 hB _) (wd_1157 hB _) (by decide +kernel) ⟨Nat.le_of_ble_eq_true rfl, Nat.le_of_ble_eq_true rfl⟩), (wd_1159 hB _), (wd_53 hB _)⟩ ⟨pe_bl, pg_recv (ci := 10) hK hP (lo_in hL t_M (by decide)) e14 rfl, pe_pre hB hK hP hD⟩ rfl rfl hl.1 rfl (lv_room (Nat.le_of_ble_eq_true rfl)) d_M_spanQuotient_201 ⟨Nat.le_of_ble_eq_true rfl, Nat.le_of_ble_eq_true rfl⟩) hS (fun f49 H locs hq50 hP hD hS => ?_)
                obtain ⟨hI1_51, hu1_52⟩ := hq50
                have hu := hu.tr hu1_52 (by decide)
                have e14 := hu1_52.at t_M (by decide) e14
                exact pe_vret hx hb hr hlocks hK hP hD hS d_M_spanQuotient_204 ⟨hI1_51, hu⟩
              refine lv_iload_n hx hb d_M_spanQuotient_186 rfl (lv_at hl 3 rfl) ?_
              refine lv_if_eq (tgt := 199) hx hb d_M_spanQuotient_187 (by decide) (fun b53 => ?_) (fun b53 => ?_)
              · skip
                refine lv_iconst (v := nI 0) hx hb d_M_spanQuotient_199 (by decide) ?_
                exact jn12 ((nI 0)) _ _ hP hD hS
              · skip
                refine lv_iload hx hb d_M_spanQuotient_190 (lv_at hl 0 rfl) ?_
                refine lv_if_ne (tgt := 199) hx hb d_M_spanQuotient_192 (by decide) (fun b54 => ?_) (fun b54 => ?_)
                · skip
                  refine lv_iconst (v := nI 0) hx hb d_M_spanQuotient_199 (by decide) ?_
                  exact jn12 ((nI 0)) _ _ hP hD hS
                · skip
                  refine lv_iconst (v := nI 1) hx hb d_M_spanQuotient_195 (by decide) ?_
                  refine lv_goto (tgt := 200) hx hb d_M_spanQuotient_196 (by decide) ?_
                  exact jn12 ((nI 1)) _ _ hP hD hS
            refine lv_iload hx hb d_M_spanQuotient_172 (lv_at hl 0 rfl) ?_
            refine lv_if_eq (tgt := 181) hx hb d_M_spanQuotient_174 (by decide) (fun b55 => ?_) (fun b55 => ?_)
            · skip
              refine lv_lload hx hb d_M_spanQuotient_181 (lv_at hl 1 rfl) ?_
              refine lv_lneg hx hb d_M_spanQuotient_183 ?_
              refine lv_topl (fun lv56 _ => ?_)
              exact jn10 lv56 _ _ hP hD hS
            · skip
              refine lv_lconst (v := nL 0) hx hb d_M_spanQuotient_177 (by decide) ?_
              refine lv_goto (tgt := 184) hx hb d_M_spanQuotient_178 (by decide) ?_
              exact jn10 ((nL 0)) _ _ hP hD hS
          refine lv_iload_n hx hb d_M_spanQuotient_154 rfl (lv_at hl 5 rfl) ?_
          refine lv_if_eq (tgt := 167) hx hb d_M_spanQuotient_155 (by decide) (fun b57 => ?_) (fun b57 => ?_)
          · skip
            refine lv_iconst (v := nI 0) hx hb d_M_spanQuotient_167 (by decide) ?_
            exact jn8 ((nI 0)) _ _ hP hD hS
          · skip
            refine lv_iload hx hb d_M_spanQuotient_158 (lv_at hl 1 rfl) ?_
            refine lv_if_ne (tgt := 167) hx hb d_M_spanQuotient_160 (by decide) (fun b58 => ?_) (fun b58 => ?_)
            · skip
              refine lv_iconst (v := nI 0) hx hb d_M_spanQuotient_167 (by decide) ?_
              exact jn8 ((nI 0)) _ _ hP hD hS
            · skip
              refine lv_iconst (v := nI 1) hx hb d_M_spanQuotient_163 (by decide) ?_
              refine lv_goto (tgt := 168) hx hb d_M_spanQuotient_164 (by decide) ?_
              exact jn8 ((nI 1)) _ _ hP hD hS
        · skip
          refine lv_aload_n hx hb d_M_spanQuotient_88 rfl (lv_at hl 3 rfl) ?_
          obtain ⟨th_60, n_61, dr_62, sz_63, ix_64, dp_65, wt_66, op_67, tp_68, wa_69, gi_70, pc_71, st_72, tr_73, sp_74, ma_75, lg_76, du_77, e59, c78, c79, c80, c81, c82, c83, c84, c85, c86, c87, c88, c89, c90, c91, c92⟩ := oc_11.of t_M (hI.1 M)
          refine pf_get (v := .ref (g.lk M 23)) (C := "BigRunnerModel") (T := FT10) (N := 45) hx hb (hw10 hB _) (fun _ h9 => h9) hown hK hP (lo_in hL t_M (by decide)) e59 rfl 23 (by decide) (wd_970 hB _) rfl d_M_spanQuotient_89 ?_
          refine lv_iload_n hx hb d_M_spanQuotient_92 rfl (lv_at hl 4 rfl) ?_
          refine lv_iconst (v := nI 1) hx hb d_M_spanQuotient_93 (by decide) ?_
          refine pf_iaddN (x := k9) (y := 1) hx hb d_M_spanQuotient_94 ?_
          obtain ⟨h_94, e93⟩ := oc_55.of (lo_k11_23 hL _ t_M) (hI.1 (g.lk M 23))
          refine pf_zald (i := k9 + 1) hx hb hK hP (lo_in hL (lo_k11_23 hL _ t_M) (by decide)) e93 (lo_t55 hL _ (lo_k11_23 hL _ t_M)) (by omega) (by decide) d_M_spanQuotient_95 ?_
          refine lv_topi (fun iv96 _ => ?_)
          refine lv_if_ne (tgt := 154) hx hb d_M_spanQuotient_96 (by decide) (fun b97 => ?_) (fun b97 => ?_)
          · skip
            have jn98 : ∀ (bj99 : Int32) (H : Heap) (locs : List Loc), va_P g.D vcl (va_pl g.LP f) H → va_D (pc_A g s.heap.size) (va_pl g.LP f) → va_S (pc_A g s.heap.size) s.heap H locs → W p l e ({ frames := 1, cells := 0, slots := 0, locals := 27 }) s m args below meth c H locs 0 0 (MQ below (va_Qv (fun f1 => (IV g f1) ∧ (un [53, 54, 55, 56] g f f1)) (pc_out g s.heap.size) (pc_A g s.heap.size)) args s 0 0 (pc_A g s.heap.size)) (F0 m 168 ls [.int bj99]) := by
              intro bj99 H locs hP hD hS
              refine lv_istore (lv' := [(7, .int bj99), (5, .long bj6), (4, .int bj4), (3, .int bj2), (0, .ref M), (1, .int (nI k9)), (2, .int rs)]) hx hb d_M_spanQuotient_168 hl (by decide) rfl (fun ls hl => ?_)
              refine lv_aload_n hx hb d_M_spanQuotient_170 rfl (lv_at hl 4 rfl) ?_
              refine lv_iload_n hx hb d_M_spanQuotient_171 rfl (lv_at hl 5 rfl) ?_
              have jn100 : ∀ (bj101 : Int64) (H : Heap) (locs : List Loc), va_P g.D vcl (va_pl g.LP f) H → va_D (pc_A g s.heap.size) (va_pl g.LP f) → va_S (pc_A g s.heap.size) s.heap H locs → W p l e ({ frames := 1, cells := 0, slots := 0, locals := 27 }) s m args below meth c H locs 0 0 (MQ below (va_Qv (fun f1 => (IV g f1) ∧ (un [53, 54, 55, 56] g f f1)) (pc_out g s.heap.size) (pc_A g s.heap.size)) args s 0 0 (pc_A g s.heap.size)) (F0 m 184 ls [.long bj101, .int (nI k9), .ref M]) := by
                intro bj101 H locs hP hD hS
                refine lv_lload hx hb d_M_spanQuotient_184 (lv_at hl 1 rfl) ?_
                have jn102 : ∀ (bj103 : Int32) (H : Heap) (locs : List Loc), va_P g.D vcl (va_pl g.LP f) H → va_D (pc_A g s.heap.size) (va_pl g.LP f) → va_S (pc_A g s.heap.size) s.heap H locs → W p l e ({ frames := 1, cells := 0, slots := 0, locals := 27 }) s m args below meth c H locs 0 0 (MQ below (va_Qv (fun f1 => (IV g f1) ∧ (un [53, 54, 55, 56] g f f1)) (pc_out g s.heap.size) (pc_A g s.heap.size)) args s 0 0 (pc_A g s.heap.size)) (F0 m 200 ls [.int bj103, .long bj6, .long bj101, .int (nI k9), .ref M]) := by
                  intro bj103 H locs hP hD hS
                  refine lv_iload_n hx hb d_M_spanQuotient_200 rfl (lv_at hl 3 rfl) ?_
                  refine pcc_v (va_runV (C := "BigRunnerModel") (As := [.int (nI k9), .long bj101, .long bj6, .int bj103, .int bj2]) (rest := []) ⟨hx, hb, hml, hown, tb_nil⟩ (m_interval l g H.size f M k9 bj101 bj6 bj103 bj2 hL t_M hI (by omega)) ⟨(callB_of 5 (tb_one (wd_1160 hB _)) tb_good1 rfl rfl rfl (wd_82 hB _) (wd_1157 hB _) (by decide +kernel) ⟨Nat.le_of_ble_eq_true rfl, Nat.le_of_ble_eq_true rfl⟩), (wd_1159 hB _), (wd_53 hB _)⟩ ⟨pe_bl, pg_recv (ci := 10) hK hP (lo_in hL t_M (by decide)) e59 rfl, pe_pre hB hK hP hD⟩ rfl rfl hl.1 rfl (lv_room (Nat.le_of_ble_eq_true rfl)) d_M_spanQuotient_201 ⟨Nat.le_of_ble_eq_true rfl, Nat.le_of_ble_eq_true rfl⟩) hS (fun f105 H locs hq106 hP hD hS => ?_)
                  obtain ⟨hI1_107, hu1_108⟩ := hq106
                  have hu := hu.tr hu1_108 (by decide)
                  have e59 := hu1_108.at t_M (by decide) e59
                  exact pe_vret hx hb hr hlocks hK hP hD hS d_M_spanQuotient_204 ⟨hI1_107, hu⟩
                refine lv_iload_n hx hb d_M_spanQuotient_186 rfl (lv_at hl 3 rfl) ?_
                refine lv_if_eq (tgt := 199) hx hb d_M_spanQuotient_187 (by decide) (fun b109 => ?_) (fun b109 => ?_)
                · skip
                  refine lv_iconst (v := nI 0) hx hb d_M_spanQuotient_199 (by decide) ?_
                  exact jn102 ((nI 0)) _ _ hP hD hS
                · skip
                  refine lv_iload hx hb d_M_spanQuotient_190 (lv_at hl 0 rfl) ?_
                  refine lv_if_ne (tgt := 199) hx hb d_M_spanQuotient_192 (by decide) (fun b110 => ?_) (fun b110 => ?_)
                  · skip
                    refine lv_iconst (v := nI 0) hx hb d_M_spanQuotient_199 (by decide) ?_
                    exact jn102 ((nI 0)) _ _ hP hD hS
                  · skip
                    refine lv_iconst (v := nI 1) hx hb d_M_spanQuotient_195 (by decide) ?_
                    refine lv_goto (tgt := 200) hx hb d_M_spanQuotient_196 (by decide) ?_
                    exact jn102 ((nI 1)) _ _ hP hD hS
              refine lv_iload hx hb d_M_spanQuotient_172 (lv_at hl 0 rfl) ?_
              refine lv_if_eq (tgt := 181) hx hb d_M_spanQuotient_174 (by decide) (fun b111 => ?_) (fun b111 => ?_)
              · skip
                refine lv_lload hx hb d_M_spanQuotient_181 (lv_at hl 1 rfl) ?_
                refine lv_lneg hx hb d_M_spanQuotient_183 ?_
                refine lv_topl (fun lv112 _ => ?_)
                exact jn100 lv112 _ _ hP hD hS
              · skip
                refine lv_lconst (v := nL 0) hx hb d_M_spanQuotient_177 (by decide) ?_
                refine lv_goto (tgt := 184) hx hb d_M_spanQuotient_178 (by decide) ?_
                exact jn100 ((nL 0)) _ _ hP hD hS
            refine lv_iload_n hx hb d_M_spanQuotient_154 rfl (lv_at hl 5 rfl) ?_
            refine lv_if_eq (tgt := 167) hx hb d_M_spanQuotient_155 (by decide) (fun b113 => ?_) (fun b113 => ?_)
            · skip
              refine lv_iconst (v := nI 0) hx hb d_M_spanQuotient_167 (by decide) ?_
              exact jn98 ((nI 0)) _ _ hP hD hS
            · skip
              refine lv_iload hx hb d_M_spanQuotient_158 (lv_at hl 1 rfl) ?_
              refine lv_if_ne (tgt := 167) hx hb d_M_spanQuotient_160 (by decide) (fun b114 => ?_) (fun b114 => ?_)
              · skip
                refine lv_iconst (v := nI 0) hx hb d_M_spanQuotient_167 (by decide) ?_
                exact jn98 ((nI 0)) _ _ hP hD hS
              · skip
                refine lv_iconst (v := nI 1) hx hb d_M_spanQuotient_163 (by decide) ?_
                refine lv_goto (tgt := 168) hx hb d_M_spanQuotient_164 (by decide) ?_
                exact jn98 ((nI 1)) _ _ hP hD hS
          · skip
            refine lv_aload_n hx hb d_M_spanQuotient_99 rfl (lv_at hl 3 rfl) ?_
            refine pf_get (v := .ref (g.lk M 24)) (C := "BigRunnerModel") (T := FT10) (N := 45) hx hb (hw10 hB _) (fun _ h9 => h9) hown hK hP (lo_in hL t_M (by decide)) e59 rfl 24 (by decide) (wd_971 hB _) rfl d_M_spanQuotient_100 ?_
            refine lv_iload_n hx hb d_M_spanQuotient_103 rfl (lv_at hl 4 rfl) ?_
            refine lv_iconst (v := nI 1) hx hb d_M_spanQuotient_104 (by decide) ?_
            refine pf_iaddN (x := k9) (y := 1) hx hb d_M_spanQuotient_105 ?_
            obtain ⟨h_116, e115⟩ := oc_56.of (lo_k11_24 hL _ t_M) (hI.1 (g.lk M 24))
            refine pf_zald (i := k9 + 1) hx hb hK hP (lo_in hL (lo_k11_24 hL _ t_M) (by decide)) e115 (lo_t56 hL _ (lo_k11_24 hL _ t_M)) (by omega) (by decide) d_M_spanQuotient_106 ?_
            refine lv_topi (fun iv118 _ => ?_)
            refine lv_if_ne (tgt := 154) hx hb d_M_spanQuotient_107 (by decide) (fun b119 => ?_) (fun b119 => ?_)
            · skip
              have jn120 : ∀ (bj121 : Int32) (H : Heap) (locs : List Loc), va_P g.D vcl (va_pl g.LP f) H → va_D (pc_A g s.heap.size) (va_pl g.LP f) → va_S (pc_A g s.heap.size) s.heap H locs → W p l e ({ frames := 1, cells := 0, slots := 0, locals := 27 }) s m args below meth c H locs 0 0 (MQ below (va_Qv (fun f1 => (IV g f1) ∧ (un [53, 54, 55, 56] g f f1)) (pc_out g s.heap.size) (pc_A g s.heap.size)) args s 0 0 (pc_A g s.heap.size)) (F0 m 168 ls [.int bj121]) := by
                intro bj121 H locs hP hD hS
                refine lv_istore (lv' := [(7, .int bj121), (5, .long bj6), (4, .int bj4), (3, .int bj2), (0, .ref M), (1, .int (nI k9)), (2, .int rs)]) hx hb d_M_spanQuotient_168 hl (by decide) rfl (fun ls hl => ?_)
                refine lv_aload_n hx hb d_M_spanQuotient_170 rfl (lv_at hl 4 rfl) ?_
                refine lv_iload_n hx hb d_M_spanQuotient_171 rfl (lv_at hl 5 rfl) ?_
                have jn122 : ∀ (bj123 : Int64) (H : Heap) (locs : List Loc), va_P g.D vcl (va_pl g.LP f) H → va_D (pc_A g s.heap.size) (va_pl g.LP f) → va_S (pc_A g s.heap.size) s.heap H locs → W p l e ({ frames := 1, cells := 0, slots := 0, locals := 27 }) s m args below meth c H locs 0 0 (MQ below (va_Qv (fun f1 => (IV g f1) ∧ (un [53, 54, 55, 56] g f f1)) (pc_out g s.heap.size) (pc_A g s.heap.size)) args s 0 0 (pc_A g s.heap.size)) (F0 m 184 ls [.long bj123, .int (nI k9), .ref M]) := by
                  intro bj123 H locs hP hD hS
                  refine lv_lload hx hb d_M_spanQuotient_184 (lv_at hl 1 rfl) ?_
                  have jn124 : ∀ (bj125 : Int32) (H : Heap) (locs : List Loc), va_P g.D vcl (va_pl g.LP f) H → va_D (pc_A g s.heap.size) (va_pl g.LP f) → va_S (pc_A g s.heap.size) s.heap H locs → W p l e ({ frames := 1, cells := 0, slots := 0, locals := 27 }) s m args below meth c H locs 0 0 (MQ below (va_Qv (fun f1 => (IV g f1) ∧ (un [53, 54, 55, 56] g f f1)) (pc_out g s.heap.size) (pc_A g s.heap.size)) args s 0 0 (pc_A g s.heap.size)) (F0 m 200 ls [.int bj125, .long bj6, .long bj123, .int (nI k9), .ref M]) := by
                    intro bj125 H locs hP hD hS
                    refine lv_iload_n hx hb d_M_spanQuotient_200 rfl (lv_at hl 3 rfl) ?_
                    refine pcc_v (va_runV (C := "BigRunnerModel") (As := [.int (nI k9), .long bj123, .long bj6, .int bj125, .int bj2]) (rest := []) ⟨hx, hb, hml, hown, tb_nil⟩ (m_interval l g H.size f M k9 bj123 bj6 bj125 bj2 hL t_M hI (by omega)) ⟨(callB_of 5 (tb_one (wd_1160 hB _)) tb_good1 rfl rfl rfl (wd_82 hB _) (wd_1157 hB _) (by decide +kernel) ⟨Nat.le_of_ble_eq_true rfl, Nat.le_of_ble_eq_true rfl⟩), (wd_1159 hB _), (wd_53 hB _)⟩ ⟨pe_bl, pg_recv (ci := 10) hK hP (lo_in hL t_M (by decide)) e59 rfl, pe_pre hB hK hP hD⟩ rfl rfl hl.1 rfl (lv_room (Nat.le_of_ble_eq_true rfl)) d_M_spanQuotient_201 ⟨Nat.le_of_ble_eq_true rfl, Nat.le_of_ble_eq_true rfl⟩) hS (fun f127 H locs hq128 hP hD hS => ?_)
                    obtain ⟨hI1_129, hu1_130⟩ := hq128
                    have hu := hu.tr hu1_130 (by decide)
                    have e59 := hu1_130.at t_M (by decide) e59
                    exact pe_vret hx hb hr hlocks hK hP hD hS d_M_spanQuotient_204 ⟨hI1_129, hu⟩
                  refine lv_iload_n hx hb d_M_spanQuotient_186 rfl (lv_at hl 3 rfl) ?_
                  refine lv_if_eq (tgt := 199) hx hb d_M_spanQuotient_187 (by decide) (fun b131 => ?_) (fun b131 => ?_)
                  · skip
                    refine lv_iconst (v := nI 0) hx hb d_M_spanQuotient_199 (by decide) ?_
                    exact jn124 ((nI 0)) _ _ hP hD hS
                  · skip
                    refine lv_iload hx hb d_M_spanQuotient_190 (lv_at hl 0 rfl) ?_
                    refine lv_if_ne (tgt := 199) hx hb d_M_spanQuotient_192 (by decide) (fun b132 => ?_) (fun b132 => ?_)
                    · skip
                      refine lv_iconst (v := nI 0) hx hb d_M_spanQuotient_199 (by decide) ?_
                      exact jn124 ((nI 0)) _ _ hP hD hS
                    · skip
                      refine lv_iconst (v := nI 1) hx hb d_M_spanQuotient_195 (by decide) ?_
                      refine lv_goto (tgt := 200) hx hb d_M_spanQuotient_196 (by decide) ?_
                      exact jn124 ((nI 1)) _ _ hP hD hS
                refine lv_iload hx hb d_M_spanQuotient_172 (lv_at hl 0 rfl) ?_
                refine lv_if_eq (tgt := 181) hx hb d_M_spanQuotient_174 (by decide) (fun b133 => ?_) (fun b133 => ?_)
                · skip
                  refine lv_lload hx hb d_M_spanQuotient_181 (lv_at hl 1 rfl) ?_
                  refine lv_lneg hx hb d_M_spanQuotient_183 ?_
                  refine lv_topl (fun lv134 _ => ?_)
                  exact jn122 lv134 _ _ hP hD hS
                · skip
                  refine lv_lconst (v := nL 0) hx hb d_M_spanQuotient_177 (by decide) ?_
                  refine lv_goto (tgt := 184) hx hb d_M_spanQuotient_178 (by decide) ?_
                  exact jn122 ((nL 0)) _ _ hP hD hS
              refine lv_iload_n hx hb d_M_spanQuotient_154 rfl (lv_at hl 5 rfl) ?_
              refine lv_if_eq (tgt := 167) hx hb d_M_spanQuotient_155 (by decide) (fun b135 => ?_) (fun b135 => ?_)
              · skip
                refine lv_iconst (v := nI 0) hx hb d_M_spanQuotient_167 (by decide) ?_
                exact jn120 ((nI 0)) _ _ hP hD hS
              · skip
                refine lv_iload hx hb d_M_spanQuotient_158 (lv_at hl 1 rfl) ?_
                refine lv_if_ne (tgt := 167) hx hb d_M_spanQuotient_160 (by decide) (fun b136 => ?_) (fun b136 => ?_)
                · skip
                  refine lv_iconst (v := nI 0) hx hb d_M_spanQuotient_167 (by decide) ?_
                  exact jn120 ((nI 0)) _ _ hP hD hS
                · skip
                  refine lv_iconst (v := nI 1) hx hb d_M_spanQuotient_163 (by decide) ?_
                  refine lv_goto (tgt := 168) hx hb d_M_spanQuotient_164 (by decide) ?_
                  exact jn120 ((nI 1)) _ _ hP hD hS
            · skip
              refine lv_aload_n hx hb d_M_spanQuotient_110 rfl (lv_at hl 3 rfl) ?_
              refine pf_get (v := .ref (g.lk M 21)) (C := "BigRunnerModel") (T := FT10) (N := 45) hx hb (hw10 hB _) (fun _ h9 => h9) hown hK hP (lo_in hL t_M (by decide)) e59 rfl 21 (by decide) (wd_968 hB _) rfl d_M_spanQuotient_111 ?_
              refine lv_iload_n hx hb d_M_spanQuotient_114 rfl (lv_at hl 4 rfl) ?_
              refine lv_iconst (v := nI 1) hx hb d_M_spanQuotient_115 (by decide) ?_
              refine pf_iaddN (x := k9) (y := 1) hx hb d_M_spanQuotient_116 ?_
              obtain ⟨h_138, e137⟩ := oc_53.of (lo_k11_21 hL _ t_M) (hI.1 (g.lk M 21))
              refine pf_lald (i := k9 + 1) hx hb hK hP (lo_in hL (lo_k11_21 hL _ t_M) (by decide)) e137 (lo_t53 hL _ (lo_k11_21 hL _ t_M)) (by omega) (by decide) d_M_spanQuotient_117 ?_
              refine lv_topl (fun lv140 _ => ?_)
              refine pcc_l (va_runS (As := [.long lv140]) (rest := []) ⟨hx, hb, hml, hown, tb_nil⟩ (m_size l g H.size f lv140 hL hI.1) ⟨(callB_of 1 (tb_one (wd_1172 hB _)) tb_good1 rfl rfl rfl (wd_82 hB _) (wd_1170 hB _) (by decide +kernel) ⟨Nat.le_of_ble_eq_true rfl, Nat.le_of_ble_eq_true rfl⟩), (wd_1171 hB _)⟩ ⟨pe_bl, pe_pre hB hK hP hD⟩ rfl rfl hl.1 rfl (lv_room (Nat.le_of_ble_eq_true rfl)) d_M_spanQuotient_118 ⟨Nat.le_of_ble_eq_true rfl, Nat.le_of_ble_eq_true rfl⟩) hS (fun r141 f142 H locs hq143 hP hD hS => ?_)
              obtain ⟨z_144, rfl⟩ := hq143
              refine lv_aload_n hx hb d_M_spanQuotient_121 rfl (lv_at hl 3 rfl) ?_
              refine pf_get (v := .ref (g.lk M 22)) (C := "BigRunnerModel") (T := FT10) (N := 45) hx hb (hw10 hB _) (fun _ h9 => h9) hown hK hP (lo_in hL t_M (by decide)) e59 rfl 22 (by decide) (wd_969 hB _) rfl d_M_spanQuotient_122 ?_
              refine lv_iload_n hx hb d_M_spanQuotient_125 rfl (lv_at hl 4 rfl) ?_
              refine lv_iconst (v := nI 1) hx hb d_M_spanQuotient_126 (by decide) ?_
              refine pf_iaddN (x := k9) (y := 1) hx hb d_M_spanQuotient_127 ?_
              obtain ⟨h_146, e145⟩ := oc_54.of (lo_k11_22 hL _ t_M) (hI.1 (g.lk M 22))
              refine pf_lald (i := k9 + 1) hx hb hK hP (lo_in hL (lo_k11_22 hL _ t_M) (by decide)) e145 (lo_t54 hL _ (lo_k11_22 hL _ t_M)) (by omega) (by decide) d_M_spanQuotient_128 ?_
              refine lv_topl (fun lv148 _ => ?_)
              refine pcc_l (va_runS (As := [.long lv148]) (rest := [.long r141]) ⟨hx, hb, hml, hown, tb_nil⟩ (m_size l g H.size f lv148 hL hI.1) ⟨(callB_of 1 (tb_one (wd_1172 hB _)) tb_good1 rfl rfl rfl (wd_82 hB _) (wd_1170 hB _) (by decide +kernel) ⟨Nat.le_of_ble_eq_true rfl, Nat.le_of_ble_eq_true rfl⟩), (wd_1171 hB _)⟩ ⟨pe_bl, pe_pre hB hK hP hD⟩ rfl rfl hl.1 rfl (lv_room (Nat.le_of_ble_eq_true rfl)) d_M_spanQuotient_129 ⟨Nat.le_of_ble_eq_true rfl, Nat.le_of_ble_eq_true rfl⟩) hS (fun r149 f150 H locs hq151 hP hD hS => ?_)
              obtain ⟨z_152, rfl⟩ := hq151
              refine pcc_l (va_runS (As := [.long r141, .long r149]) (rest := []) ⟨hx, hb, hml, hown, tb_nil⟩ (m_more l g H.size f r141 r149 hL hI.1) ⟨(callB_of 2 (tb_one (wd_1179 hB _)) tb_good1 rfl rfl rfl (wd_82 hB _) (wd_1177 hB _) (by decide +kernel) ⟨Nat.le_of_ble_eq_true rfl, Nat.le_of_ble_eq_true rfl⟩), (wd_1178 hB _)⟩ ⟨pe_bl, pe_pre hB hK hP hD⟩ rfl rfl hl.1 rfl (lv_room (Nat.le_of_ble_eq_true rfl)) d_M_spanQuotient_132 ⟨Nat.le_of_ble_eq_true rfl, Nat.le_of_ble_eq_true rfl⟩) hS (fun r153 f154 H locs hq155 hP hD hS => ?_)
              subst hq155
              refine lv_lconst (v := nL 1) hx hb d_M_spanQuotient_135 (by decide) ?_
              refine lv_lsub hx hb d_M_spanQuotient_136 ?_
              refine lv_topl (fun lv156 _ => ?_)
              refine lv_lstore (lv' := [(7, .long lv156), (5, .long bj6), (4, .int bj4), (3, .int bj2), (0, .ref M), (1, .int (nI k9)), (2, .int rs)]) hx hb d_M_spanQuotient_137 hl (by decide) rfl (fun ls hl => ?_)
              refine lv_lload hx hb d_M_spanQuotient_139 (lv_at hl 1 rfl) ?_
              refine lv_lconst (v := nL 0) hx hb d_M_spanQuotient_141 (by decide) ?_
              refine lv_lload hx hb d_M_spanQuotient_142 (lv_at hl 0 rfl) ?_
              refine pcc_l (va_runS (As := [.long (nL 0), .long lv156]) (rest := [.long bj6]) ⟨hx, hb, hml, hown, tb_nil⟩ (m_more l g H.size f ((nL 0)) lv156 hL hI.1) ⟨(callB_of 2 (tb_one (wd_1179 hB _)) tb_good1 rfl rfl rfl (wd_82 hB _) (wd_1177 hB _) (by decide +kernel) ⟨Nat.le_of_ble_eq_true rfl, Nat.le_of_ble_eq_true rfl⟩), (wd_1178 hB _)⟩ ⟨pe_bl, pe_pre hB hK hP hD⟩ rfl rfl hl.1 rfl (lv_room (Nat.le_of_ble_eq_true rfl)) d_M_spanQuotient_144 ⟨Nat.le_of_ble_eq_true rfl, Nat.le_of_ble_eq_true rfl⟩) hS (fun r157 f158 H locs hq159 hP hD hS => ?_)
              subst hq159
              refine pcc_l (va_runS (As := [.long bj6, .long r157]) (rest := []) ⟨hx, hb, hml, hown, tb_nil⟩ (m_less l g H.size f bj6 r157 hL hI.1) ⟨(callB_of 2 (tb_one (wd_1176 hB _)) tb_good1 rfl rfl rfl (wd_82 hB _) (wd_1174 hB _) (by decide +kernel) ⟨Nat.le_of_ble_eq_true rfl, Nat.le_of_ble_eq_true rfl⟩), (wd_1175 hB _)⟩ ⟨pe_bl, pe_pre hB hK hP hD⟩ rfl rfl hl.1 rfl (lv_room (Nat.le_of_ble_eq_true rfl)) d_M_spanQuotient_147 ⟨Nat.le_of_ble_eq_true rfl, Nat.le_of_ble_eq_true rfl⟩) hS (fun r160 f161 H locs hq162 hP hD hS => ?_)
              subst hq162
              refine lv_lstore (lv' := [(5, .long r160), (7, .long lv156), (4, .int bj4), (3, .int bj2), (0, .ref M), (1, .int (nI k9)), (2, .int rs)]) hx hb d_M_spanQuotient_150 hl (by decide) rfl (fun ls hl => ?_)
              refine lv_iconst (v := nI 0) hx hb d_M_spanQuotient_152 (by decide) ?_
              refine lv_istore_n (lv' := [(3, .int (nI 0)), (5, .long r160), (7, .long lv156), (4, .int bj4), (0, .ref M), (1, .int (nI k9)), (2, .int rs)]) hx hb d_M_spanQuotient_153 rfl hl (by decide) rfl (fun ls hl => ?_)
              have jn163 : ∀ (bj164 : Int32) (H : Heap) (locs : List Loc), va_P g.D vcl (va_pl g.LP f) H → va_D (pc_A g s.heap.size) (va_pl g.LP f) → va_S (pc_A g s.heap.size) s.heap H locs → W p l e ({ frames := 1, cells := 0, slots := 0, locals := 27 }) s m args below meth c H locs 0 0 (MQ below (va_Qv (fun f1 => (IV g f1) ∧ (un [53, 54, 55, 56] g f f1)) (pc_out g s.heap.size) (pc_A g s.heap.size)) args s 0 0 (pc_A g s.heap.size)) (F0 m 168 ls [.int bj164]) := by
                intro bj164 H locs hP hD hS
                refine lv_istore (lv' := [(7, .int bj164), (3, .int (nI 0)), (5, .long r160), (4, .int bj4), (0, .ref M), (1, .int (nI k9)), (2, .int rs)]) hx hb d_M_spanQuotient_168 hl (by decide) rfl (fun ls hl => ?_)
                refine lv_aload_n hx hb d_M_spanQuotient_170 rfl (lv_at hl 4 rfl) ?_
                refine lv_iload_n hx hb d_M_spanQuotient_171 rfl (lv_at hl 5 rfl) ?_
                have jn165 : ∀ (bj166 : Int64) (H : Heap) (locs : List Loc), va_P g.D vcl (va_pl g.LP f) H → va_D (pc_A g s.heap.size) (va_pl g.LP f) → va_S (pc_A g s.heap.size) s.heap H locs → W p l e ({ frames := 1, cells := 0, slots := 0, locals := 27 }) s m args below meth c H locs 0 0 (MQ below (va_Qv (fun f1 => (IV g f1) ∧ (un [53, 54, 55, 56] g f f1)) (pc_out g s.heap.size) (pc_A g s.heap.size)) args s 0 0 (pc_A g s.heap.size)) (F0 m 184 ls [.long bj166, .int (nI k9), .ref M]) := by
                  intro bj166 H locs hP hD hS
                  refine lv_lload hx hb d_M_spanQuotient_184 (lv_at hl 2 rfl) ?_
                  have jn167 : ∀ (bj168 : Int32) (H : Heap) (locs : List Loc), va_P g.D vcl (va_pl g.LP f) H → va_D (pc_A g s.heap.size) (va_pl g.LP f) → va_S (pc_A g s.heap.size) s.heap H locs → W p l e ({ frames := 1, cells := 0, slots := 0, locals := 27 }) s m args below meth c H locs 0 0 (MQ below (va_Qv (fun f1 => (IV g f1) ∧ (un [53, 54, 55, 56] g f f1)) (pc_out g s.heap.size) (pc_A g s.heap.size)) args s 0 0 (pc_A g s.heap.size)) (F0 m 200 ls [.int bj168, .long r160, .long bj166, .int (nI k9), .ref M]) := by
                    intro bj168 H locs hP hD hS
                    refine lv_iload_n hx hb d_M_spanQuotient_200 rfl (lv_at hl 1 rfl) ?_
                    refine pcc_v (va_runV (C := "BigRunnerModel") (As := [.int (nI k9), .long bj166, .long r160, .int bj168, .int (nI 0)]) (rest := []) ⟨hx, hb, hml, hown, tb_nil⟩ (m_interval l g H.size f M k9 bj166 r160 bj168 ((nI 0)) hL t_M hI (by omega)) ⟨(callB_of 5 (tb_one (wd_1160 hB _)) tb_good1 rfl rfl rfl (wd_82 hB _) (wd_1157 hB _) (by decide +kernel) ⟨Nat.le_of_ble_eq_true rfl, Nat.le_of_ble_eq_true rfl⟩), (wd_1159 hB _), (wd_53 hB _)⟩ ⟨pe_bl, pg_recv (ci := 10) hK hP (lo_in hL t_M (by decide)) e59 rfl, pe_pre hB hK hP hD⟩ rfl rfl hl.1 rfl (lv_room (Nat.le_of_ble_eq_true rfl)) d_M_spanQuotient_201 ⟨Nat.le_of_ble_eq_true rfl, Nat.le_of_ble_eq_true rfl⟩) hS (fun f170 H locs hq171 hP hD hS => ?_)
                    obtain ⟨hI1_172, hu1_173⟩ := hq171
                    have hu := hu.tr hu1_173 (by decide)
                    have e59 := hu1_173.at t_M (by decide) e59
                    exact pe_vret hx hb hr hlocks hK hP hD hS d_M_spanQuotient_204 ⟨hI1_172, hu⟩
                  refine lv_iload_n hx hb d_M_spanQuotient_186 rfl (lv_at hl 1 rfl) ?_
                  refine lv_if_eq (tgt := 199) hx hb d_M_spanQuotient_187 (by decide) (fun b174 => ?_) (fun b174 => ?_)
                  · skip
                    replace b174 := (nI_eq (a := 0) (b := 0) (by omega) (by omega)).mp b174
                    refine lv_iconst (v := nI 0) hx hb d_M_spanQuotient_199 (by decide) ?_
                    exact jn167 ((nI 0)) _ _ hP hD hS
                  · skip
                    replace b174 := mt (nI_eq (a := 0) (b := 0) (by omega) (by omega)).mpr b174
                    exfalso; omega
                refine lv_iload hx hb d_M_spanQuotient_172 (lv_at hl 0 rfl) ?_
                refine lv_if_eq (tgt := 181) hx hb d_M_spanQuotient_174 (by decide) (fun b175 => ?_) (fun b175 => ?_)
                · skip
                  refine lv_lload hx hb d_M_spanQuotient_181 (lv_at hl 2 rfl) ?_
                  refine lv_lneg hx hb d_M_spanQuotient_183 ?_
                  refine lv_topl (fun lv176 _ => ?_)
                  exact jn165 lv176 _ _ hP hD hS
                · skip
                  refine lv_lconst (v := nL 0) hx hb d_M_spanQuotient_177 (by decide) ?_
                  refine lv_goto (tgt := 184) hx hb d_M_spanQuotient_178 (by decide) ?_
                  exact jn165 ((nL 0)) _ _ hP hD hS
              refine lv_iload_n hx hb d_M_spanQuotient_154 rfl (lv_at hl 6 rfl) ?_
              refine lv_if_eq (tgt := 167) hx hb d_M_spanQuotient_155 (by decide) (fun b177 => ?_) (fun b177 => ?_)
              · skip
                refine lv_iconst (v := nI 0) hx hb d_M_spanQuotient_167 (by decide) ?_
                exact jn163 ((nI 0)) _ _ hP hD hS
              · skip
                refine lv_iload hx hb d_M_spanQuotient_158 (lv_at hl 3 rfl) ?_
                refine lv_if_ne (tgt := 167) hx hb d_M_spanQuotient_160 (by decide) (fun b178 => ?_) (fun b178 => ?_)
                · skip
                  refine lv_iconst (v := nI 0) hx hb d_M_spanQuotient_167 (by decide) ?_
                  exact jn163 ((nI 0)) _ _ hP hD hS
                · skip
                  refine lv_iconst (v := nI 1) hx hb d_M_spanQuotient_163 (by decide) ?_
                  refine lv_goto (tgt := 168) hx hb d_M_spanQuotient_164 (by decide) ?_
                  exact jn163 ((nI 1)) _ _ hP hD hS
      refine lv_iload_n hx hb d_M_spanQuotient_51 rfl (lv_at hl 1 rfl) ?_
      refine lv_if_eq (tgt := 61) hx hb d_M_spanQuotient_52 (by decide) (fun b179 => ?_) (fun b179 => ?_)
      · skip
        refine lv_aload_n hx hb d_M_spanQuotient_61 rfl (lv_at hl 2 rfl) ?_
        obtain ⟨th_181, n_182, dr_183, sz_184, ix_185, dp_186, wt_187, op_188, tp_189, wa_190, gi_191, pc_192, st_193, tr_194, sp_195, ma_196, lg_197, du_198, e180, c199, c200, c201, c202, c203, c204, c205, c206, c207, c208, c209, c210, c211, c212, c213⟩ := oc_11.of t_M (hI.1 M)
        refine pf_get (v := .ref (g.lk M 21)) (C := "BigRunnerModel") (T := FT10) (N := 45) hx hb (hw10 hB _) (fun _ h9 => h9) hown hK hP (lo_in hL t_M (by decide)) e180 rfl 21 (by decide) (wd_968 hB _) rfl d_M_spanQuotient_62 ?_
        refine lv_iload_n hx hb d_M_spanQuotient_65 rfl (lv_at hl 3 rfl) ?_
        obtain ⟨h_215, e214⟩ := oc_53.of (lo_k11_21 hL _ t_M) (hI.1 (g.lk M 21))
        refine pf_lald (i := k9) hx hb hK hP (lo_in hL (lo_k11_21 hL _ t_M) (by decide)) e214 (lo_t53 hL _ (lo_k11_21 hL _ t_M)) (by omega) (by decide) d_M_spanQuotient_66 ?_
        refine lv_topl (fun lv217 _ => ?_)
        refine pcc_l (va_runS (As := [.long lv217]) (rest := []) ⟨hx, hb, hml, hown, tb_nil⟩ (m_size l g H.size f lv217 hL hI.1) ⟨(callB_of 1 (tb_one (wd_1172 hB _)) tb_good1 rfl rfl rfl (wd_82 hB _) (wd_1170 hB _) (by decide +kernel) ⟨Nat.le_of_ble_eq_true rfl, Nat.le_of_ble_eq_true rfl⟩), (wd_1171 hB _)⟩ ⟨pe_bl, pe_pre hB hK hP hD⟩ rfl rfl hl.1 rfl (lv_room (Nat.le_of_ble_eq_true rfl)) d_M_spanQuotient_67 ⟨Nat.le_of_ble_eq_true rfl, Nat.le_of_ble_eq_true rfl⟩) hS (fun r218 f219 H locs hq220 hP hD hS => ?_)
        obtain ⟨z_221, rfl⟩ := hq220
        refine lv_aload_n hx hb d_M_spanQuotient_70 rfl (lv_at hl 2 rfl) ?_
        refine pf_get (v := .ref (g.lk M 22)) (C := "BigRunnerModel") (T := FT10) (N := 45) hx hb (hw10 hB _) (fun _ h9 => h9) hown hK hP (lo_in hL t_M (by decide)) e180 rfl 22 (by decide) (wd_969 hB _) rfl d_M_spanQuotient_71 ?_
        refine lv_iload_n hx hb d_M_spanQuotient_74 rfl (lv_at hl 3 rfl) ?_
        obtain ⟨h_223, e222⟩ := oc_54.of (lo_k11_22 hL _ t_M) (hI.1 (g.lk M 22))
        refine pf_lald (i := k9) hx hb hK hP (lo_in hL (lo_k11_22 hL _ t_M) (by decide)) e222 (lo_t54 hL _ (lo_k11_22 hL _ t_M)) (by omega) (by decide) d_M_spanQuotient_75 ?_
        refine lv_topl (fun lv225 _ => ?_)
        refine pcc_l (va_runS (As := [.long lv225]) (rest := [.long r218]) ⟨hx, hb, hml, hown, tb_nil⟩ (m_size l g H.size f lv225 hL hI.1) ⟨(callB_of 1 (tb_one (wd_1172 hB _)) tb_good1 rfl rfl rfl (wd_82 hB _) (wd_1170 hB _) (by decide +kernel) ⟨Nat.le_of_ble_eq_true rfl, Nat.le_of_ble_eq_true rfl⟩), (wd_1171 hB _)⟩ ⟨pe_bl, pe_pre hB hK hP hD⟩ rfl rfl hl.1 rfl (lv_room (Nat.le_of_ble_eq_true rfl)) d_M_spanQuotient_76 ⟨Nat.le_of_ble_eq_true rfl, Nat.le_of_ble_eq_true rfl⟩) hS (fun r226 f227 H locs hq228 hP hD hS => ?_)
        obtain ⟨z_229, rfl⟩ := hq228
        refine pcc_l (va_runS (As := [.long r218, .long r226]) (rest := []) ⟨hx, hb, hml, hown, tb_nil⟩ (m_more l g H.size f r218 r226 hL hI.1) ⟨(callB_of 2 (tb_one (wd_1179 hB _)) tb_good1 rfl rfl rfl (wd_82 hB _) (wd_1177 hB _) (by decide +kernel) ⟨Nat.le_of_ble_eq_true rfl, Nat.le_of_ble_eq_true rfl⟩), (wd_1178 hB _)⟩ ⟨pe_bl, pe_pre hB hK hP hD⟩ rfl rfl hl.1 rfl (lv_room (Nat.le_of_ble_eq_true rfl)) d_M_spanQuotient_79 ⟨Nat.le_of_ble_eq_true rfl, Nat.le_of_ble_eq_true rfl⟩) hS (fun r230 f231 H locs hq232 hP hD hS => ?_)
        subst hq232
        exact jn5 r230 _ _ hP hD hS
      · skip
        refine lv_ldc2 (v := 1152921504606846976) hx hb hown (wd_1162 hB _) d_M_spanQuotient_55 ?_
        refine lv_topl (fun z_ hz_ => ?_)
        obtain rfl : z_ = nL 1152921504606846976 := hz_
        refine lv_goto (tgt := 82) hx hb d_M_spanQuotient_58 (by decide) ?_
        exact jn5 ((nL 1152921504606846976)) _ _ hP hD hS
    refine lv_aload_n hx hb d_M_spanQuotient_24 rfl (lv_at hl 1 rfl) ?_
    obtain ⟨th_234, n_235, dr_236, sz_237, ix_238, dp_239, wt_240, op_241, tp_242, wa_243, gi_244, pc_245, st_246, tr_247, sp_248, ma_249, lg_250, du_251, e233, c252, c253, c254, c255, c256, c257, c258, c259, c260, c261, c262, c263, c264, c265, c266⟩ := oc_11.of t_M (hI.1 M)
    refine pf_get (v := .ref (g.lk M 23)) (C := "BigRunnerModel") (T := FT10) (N := 45) hx hb (hw10 hB _) (fun _ h9 => h9) hown hK hP (lo_in hL t_M (by decide)) e233 rfl 23 (by decide) (wd_970 hB _) rfl d_M_spanQuotient_25 ?_
    refine lv_iload_n hx hb d_M_spanQuotient_28 rfl (lv_at hl 2 rfl) ?_
    obtain ⟨h_268, e267⟩ := oc_55.of (lo_k11_23 hL _ t_M) (hI.1 (g.lk M 23))
    refine pf_zald (i := k9) hx hb hK hP (lo_in hL (lo_k11_23 hL _ t_M) (by decide)) e267 (lo_t55 hL _ (lo_k11_23 hL _ t_M)) (by omega) (by decide) d_M_spanQuotient_29 ?_
    refine lv_topi (fun iv270 _ => ?_)
    refine lv_if_ne (tgt := 44) hx hb d_M_spanQuotient_30 (by decide) (fun b271 => ?_) (fun b271 => ?_)
    · skip
      refine lv_iconst (v := nI 1) hx hb d_M_spanQuotient_44 (by decide) ?_
      refine lv_goto (tgt := 49) hx hb d_M_spanQuotient_45 (by decide) ?_
      exact jn3 ((nI 1)) _ _ hP hD hS
    · skip
      refine lv_aload_n hx hb d_M_spanQuotient_33 rfl (lv_at hl 1 rfl) ?_
      refine pf_get (v := .ref (g.lk M 21)) (C := "BigRunnerModel") (T := FT10) (N := 45) hx hb (hw10 hB _) (fun _ h9 => h9) hown hK hP (lo_in hL t_M (by decide)) e233 rfl 21 (by decide) (wd_968 hB _) rfl d_M_spanQuotient_34 ?_
      refine lv_iload_n hx hb d_M_spanQuotient_37 rfl (lv_at hl 2 rfl) ?_
      obtain ⟨h_273, e272⟩ := oc_53.of (lo_k11_21 hL _ t_M) (hI.1 (g.lk M 21))
      refine pf_lald (i := k9) hx hb hK hP (lo_in hL (lo_k11_21 hL _ t_M) (by decide)) e272 (lo_t53 hL _ (lo_k11_21 hL _ t_M)) (by omega) (by decide) d_M_spanQuotient_38 ?_
      refine lv_topl (fun lv275 _ => ?_)
      refine lv_lconst (v := nL 0) hx hb d_M_spanQuotient_39 (by decide) ?_
      refine W.lcmp hx hb d_M_spanQuotient_40 ?_
      refine lv_if_ge (tgt := 48) hx hb d_M_spanQuotient_41 (by decide) (fun b276 => ?_) (fun b276 => ?_)
      · skip
        replace b276 := pl_ge.mp b276
        refine lv_iconst (v := nI 0) hx hb d_M_spanQuotient_48 (by decide) ?_
        exact jn3 ((nI 0)) _ _ hP hD hS
      · skip
        replace b276 := mt pl_ge.mpr b276
        refine lv_iconst (v := nI 1) hx hb d_M_spanQuotient_44 (by decide) ?_
        refine lv_goto (tgt := 49) hx hb d_M_spanQuotient_45 (by decide) ?_
        exact jn3 ((nI 1)) _ _ hP hD hS
  refine lv_aload_n hx hb d_M_spanQuotient_0 rfl (lv_at hl 0 rfl) ?_
  obtain ⟨th_278, n_279, dr_280, sz_281, ix_282, dp_283, wt_284, op_285, tp_286, wa_287, gi_288, pc_289, st_290, tr_291, sp_292, ma_293, lg_294, du_295, e277, c296, c297, c298, c299, c300, c301, c302, c303, c304, c305, c306, c307, c308, c309, c310⟩ := oc_11.of t_M (hI.1 M)
  refine pf_get (v := .ref (g.lk M 23)) (C := "BigRunnerModel") (T := FT10) (N := 45) hx hb (hw10 hB _) (fun _ h9 => h9) hown hK hP (lo_in hL t_M (by decide)) e277 rfl 23 (by decide) (wd_970 hB _) rfl d_M_spanQuotient_1 ?_
  refine lv_iload_n hx hb d_M_spanQuotient_4 rfl (lv_at hl 1 rfl) ?_
  obtain ⟨h_312, e311⟩ := oc_55.of (lo_k11_23 hL _ t_M) (hI.1 (g.lk M 23))
  refine pf_zald (i := k9) hx hb hK hP (lo_in hL (lo_k11_23 hL _ t_M) (by decide)) e311 (lo_t55 hL _ (lo_k11_23 hL _ t_M)) (by omega) (by decide) d_M_spanQuotient_5 ?_
  refine lv_topi (fun iv314 _ => ?_)
  refine lv_if_ne (tgt := 18) hx hb d_M_spanQuotient_6 (by decide) (fun b315 => ?_) (fun b315 => ?_)
  · skip
    refine lv_iconst (v := nI 1) hx hb d_M_spanQuotient_18 (by decide) ?_
    refine lv_goto (tgt := 23) hx hb d_M_spanQuotient_19 (by decide) ?_
    exact jn1 ((nI 1)) _ _ hP hD hS
  · skip
    refine lv_aload_n hx hb d_M_spanQuotient_9 rfl (lv_at hl 0 rfl) ?_
    refine pf_get (v := .ref (g.lk M 24)) (C := "BigRunnerModel") (T := FT10) (N := 45) hx hb (hw10 hB _) (fun _ h9 => h9) hown hK hP (lo_in hL t_M (by decide)) e277 rfl 24 (by decide) (wd_971 hB _) rfl d_M_spanQuotient_10 ?_
    refine lv_iload_n hx hb d_M_spanQuotient_13 rfl (lv_at hl 1 rfl) ?_
    obtain ⟨h_317, e316⟩ := oc_56.of (lo_k11_24 hL _ t_M) (hI.1 (g.lk M 24))
    refine pf_zald (i := k9) hx hb hK hP (lo_in hL (lo_k11_24 hL _ t_M) (by decide)) e316 (lo_t56 hL _ (lo_k11_24 hL _ t_M)) (by omega) (by decide) d_M_spanQuotient_14 ?_
    refine lv_topi (fun iv319 _ => ?_)
    refine lv_if_eq (tgt := 22) hx hb d_M_spanQuotient_15 (by decide) (fun b320 => ?_) (fun b320 => ?_)
    · skip
      refine lv_iconst (v := nI 0) hx hb d_M_spanQuotient_22 (by decide) ?_
      exact jn1 ((nI 0)) _ _ hP hD hS
    · skip
      refine lv_iconst (v := nI 1) hx hb d_M_spanQuotient_18 (by decide) ?_
      refine lv_goto (tgt := 23) hx hb d_M_spanQuotient_19 (by decide) ?_
      exact jn1 ((nI 1)) _ _ hP hD hS
set_option maxHeartbeats 4000000 in
set_option maxRecDepth 100000 in
theorem m_joined (l : Launch) (g : Lay) (sz : Nat) (f : Nat → va_E) (M : Nat) (v9 : Nat) (wd : Int32) (hU : Nat → Int32) (hO : Nat → Int32) (hL : LO g) (t_M : g.tg M = 11) (hI : IV g f) (hv9 : v9 < 10) (eU : f (g.lk M 19) = .inl (g.ac (g.lk M 19), 10, .inl hU)) (eO : f (g.lk M 20) = .inl (g.ac (g.lk M 20), 10, .inl hO)) : Met l ⟨"BigRunnerModel", "joined", "(IZ)Z"⟩ [Cond.code ⟨"BigRunnerModel", "joined", "(IZ)Z"⟩ prog_12_method_23_code 5 (some .boolean)] ({ frames := 0, cells := 0, slots := 0, locals := 0 }) (va_Pc [.ref M, .int (nI v9), .int wd] (pc_in g sz f)) (va_Qi (fun r f1 => (r = nI 0 ∨ r = nI 1) ∧ (∃ (u1 o1 : Nat → Int32), f1 (g.lk M 19) = .inl (g.ac (g.lk M 19), 10, .inl u1) ∧ f1 (g.lk M 20) = .inl (g.ac (g.lk M 20), 10, .inl o1) ∧ cz u1 10 + cz o1 10 ≤ cz hU 10 + cz hO 10 ∧ (r = nI 1 → ¬ wd = 0 → cz u1 10 + cz o1 10 < cz hU 10 + cz hO 10)) ∧ (IV g f1) ∧ (un [49, 50, 51, 52] g f f1)) (pc_out g sz) (pc_A g sz)) 0 0 (pc_A g sz) := by
  refine pe_ofW (cc := prog_12_method_23_code) (maxL := 5) (ret := (some .boolean)) (lv := [(0, .ref M), (1, .int (nI v9)), (2, .int wd)]) (by decide) (Nat.le_of_ble_eq_true rfl) rfl ?_
  intro p e s m args below meth c ls hx hb hr hml hlocks hown hB hP hK hD hsz hS hl
  subst hsz
  have hu : un [49, 50, 51, 52] g f f := un.rf
  refine lv_aload_n hx hb d_M_joined_0 rfl (lv_at hl 0 rfl) ?_
  obtain ⟨th_2, n_3, dr_4, sz_5, ix_6, dp_7, wt_8, op_9, tp_10, wa_11, gi_12, pc_13, st_14, tr_15, sp_16, ma_17, lg_18, du_19, e1, c20, c21, c22, c23, c24, c25, c26, c27, c28, c29, c30, c31, c32, c33, c34⟩ := oc_11.of t_M (hI.1 M)
  refine pf_get (v := .ref (g.lk M 19)) (C := "BigRunnerModel") (T := FT10) (N := 45) hx hb (hw10 hB _) (fun _ h9 => h9) hown hK hP (lo_in hL t_M (by decide)) e1 rfl 19 (by decide) (wd_966 hB _) rfl d_M_joined_1 ?_
  refine lv_iload_n hx hb d_M_joined_4 rfl (lv_at hl 1 rfl) ?_
  refine pf_zald (i := v9) hx hb hK hP (lo_in hL (lo_k11_19 hL _ t_M) (by decide)) eU (lo_t51 hL _ (lo_k11_19 hL _ t_M)) (by omega) (by decide) d_M_joined_5 ?_
  refine lv_if_ne (tgt := 38) hx hb d_M_joined_6 (by decide) (fun b35 => ?_) (fun b35 => ?_)
  · skip
    refine lv_iconst (v := nI 0) hx hb d_M_joined_38 (by decide) ?_
    refine lv_istore_n (lv' := [(3, .int (nI 0)), (0, .ref M), (1, .int (nI v9)), (2, .int wd)]) hx hb d_M_joined_39 rfl hl (by decide) rfl (fun ls hl => ?_)
    refine lv_aload_n hx hb d_M_joined_40 rfl (lv_at hl 1 rfl) ?_
    refine pf_get (v := .ref (g.lk M 20)) (C := "BigRunnerModel") (T := FT10) (N := 45) hx hb (hw10 hB _) (fun _ h9 => h9) hown hK hP (lo_in hL t_M (by decide)) e1 rfl 20 (by decide) (wd_967 hB _) rfl d_M_joined_41 ?_
    refine lv_iload_n hx hb d_M_joined_44 rfl (lv_at hl 2 rfl) ?_
    refine pf_zald (i := v9) hx hb hK hP (lo_in hL (lo_k11_20 hL _ t_M) (by decide)) eO (lo_t52 hL _ (lo_k11_20 hL _ t_M)) (by omega) (by decide) d_M_joined_45 ?_
    refine lv_if_ne (tgt := 78) hx hb d_M_joined_46 (by decide) (fun b36 => ?_) (fun b36 => ?_)
    · skip
      refine lv_iconst (v := nI 0) hx hb d_M_joined_78 (by decide) ?_
      refine lv_istore (lv' := [(4, .int (nI 0)), (3, .int (nI 0)), (0, .ref M), (1, .int (nI v9)), (2, .int wd)]) hx hb d_M_joined_79 hl (by decide) rfl (fun ls hl => ?_)
      refine lv_iload_n hx hb d_M_joined_81 rfl (lv_at hl 1 rfl) ?_
      refine lv_if_eq (tgt := 121) hx hb d_M_joined_82 (by decide) (fun b37 => ?_) (fun b37 => ?_)
      · skip
        replace b37 := (nI_eq (a := 0) (b := 0) (by omega) (by omega)).mp b37
        refine lv_iload hx hb d_M_joined_121 (lv_at hl 0 rfl) ?_
        refine lv_if_eq (tgt := 162) hx hb d_M_joined_123 (by decide) (fun b38 => ?_) (fun b38 => ?_)
        · skip
          replace b38 := (nI_eq (a := 0) (b := 0) (by omega) (by omega)).mp b38
          refine lv_iload_n hx hb d_M_joined_162 rfl (lv_at hl 1 rfl) ?_
          refine lv_if_ne (tgt := 171) hx hb d_M_joined_163 (by decide) (fun b39 => ?_) (fun b39 => ?_)
          · skip
            replace b39 := mt (nI_eq (a := 0) (b := 0) (by omega) (by omega)).mpr b39
            exfalso; omega
          · skip
            replace b39 := (nI_eq (a := 0) (b := 0) (by omega) (by omega)).mp b39
            refine lv_iload hx hb d_M_joined_166 (lv_at hl 0 rfl) ?_
            refine lv_if_eq (tgt := 175) hx hb d_M_joined_168 (by decide) (fun b40 => ?_) (fun b40 => ?_)
            · skip
              replace b40 := (nI_eq (a := 0) (b := 0) (by omega) (by omega)).mp b40
              refine lv_iconst (v := nI 0) hx hb d_M_joined_175 (by decide) ?_
              exact pe_zret hx hb hr hlocks hK hP hD hS d_M_joined_176 rfl ⟨(Or.inl rfl), ⟨_, _, eU, eO, (by first | omega | exact Nat.le_refl _), (fun z9 => absurd z9 (by decide))⟩, hI, hu⟩
            · skip
              replace b40 := mt (nI_eq (a := 0) (b := 0) (by omega) (by omega)).mpr b40
              exfalso; omega
        · skip
          replace b38 := mt (nI_eq (a := 0) (b := 0) (by omega) (by omega)).mpr b38
          exfalso; omega
      · skip
        replace b37 := mt (nI_eq (a := 0) (b := 0) (by omega) (by omega)).mpr b37
        exfalso; omega
    · skip
      refine lv_aload_n hx hb d_M_joined_49 rfl (lv_at hl 1 rfl) ?_
      refine pf_get (v := .ref (g.lk M 24)) (C := "BigRunnerModel") (T := FT10) (N := 45) hx hb (hw10 hB _) (fun _ h9 => h9) hown hK hP (lo_in hL t_M (by decide)) e1 rfl 24 (by decide) (wd_971 hB _) rfl d_M_joined_50 ?_
      refine lv_iconst (v := nI 0) hx hb d_M_joined_53 (by decide) ?_
      obtain ⟨h_42, e41⟩ := oc_56.of (lo_k11_24 hL _ t_M) (hI.1 (g.lk M 24))
      refine pf_zald (i := 0) hx hb hK hP (lo_in hL (lo_k11_24 hL _ t_M) (by decide)) e41 (lo_t56 hL _ (lo_k11_24 hL _ t_M)) (by omega) (by decide) d_M_joined_54 ?_
      refine lv_topi (fun iv44 _ => ?_)
      refine lv_if_ne (tgt := 74) hx hb d_M_joined_55 (by decide) (fun b45 => ?_) (fun b45 => ?_)
      · skip
        refine lv_iconst (v := nI 1) hx hb d_M_joined_74 (by decide) ?_
        refine lv_goto (tgt := 79) hx hb d_M_joined_75 (by decide) ?_
        refine lv_istore (lv' := [(4, .int (nI 1)), (3, .int (nI 0)), (0, .ref M), (1, .int (nI v9)), (2, .int wd)]) hx hb d_M_joined_79 hl (by decide) rfl (fun ls hl => ?_)
        refine lv_iload_n hx hb d_M_joined_81 rfl (lv_at hl 1 rfl) ?_
        refine lv_if_eq (tgt := 121) hx hb d_M_joined_82 (by decide) (fun b46 => ?_) (fun b46 => ?_)
        · skip
          replace b46 := (nI_eq (a := 0) (b := 0) (by omega) (by omega)).mp b46
          refine lv_iload hx hb d_M_joined_121 (lv_at hl 0 rfl) ?_
          refine lv_if_eq (tgt := 162) hx hb d_M_joined_123 (by decide) (fun b47 => ?_) (fun b47 => ?_)
          · skip
            replace b47 := (nI_eq (a := 1) (b := 0) (by omega) (by omega)).mp b47
            exfalso; omega
          · skip
            replace b47 := mt (nI_eq (a := 1) (b := 0) (by omega) (by omega)).mpr b47
            refine lv_aload_n hx hb d_M_joined_126 rfl (lv_at hl 2 rfl) ?_
            refine pf_get (v := .ref (g.lk M 18)) (C := "BigRunnerModel") (T := FT10) (N := 45) hx hb (hw10 hB _) (fun _ h9 => h9) hown hK hP (lo_in hL t_M (by decide)) e1 rfl 18 (by decide) (wd_965 hB _) rfl d_M_joined_127 ?_
            refine lv_iload_n hx hb d_M_joined_130 rfl (lv_at hl 3 rfl) ?_
            refine lv_aload_n hx hb d_M_joined_131 rfl (lv_at hl 2 rfl) ?_
            refine pf_get (v := .ref (g.lk M 22)) (C := "BigRunnerModel") (T := FT10) (N := 45) hx hb (hw10 hB _) (fun _ h9 => h9) hown hK hP (lo_in hL t_M (by decide)) e1 rfl 22 (by decide) (wd_969 hB _) rfl d_M_joined_132 ?_
            refine lv_iconst (v := nI 0) hx hb d_M_joined_135 (by decide) ?_
            obtain ⟨h_49, e48⟩ := oc_54.of (lo_k11_22 hL _ t_M) (hI.1 (g.lk M 22))
            refine pf_lald (i := 0) hx hb hK hP (lo_in hL (lo_k11_22 hL _ t_M) (by decide)) e48 (lo_t54 hL _ (lo_k11_22 hL _ t_M)) (by omega) (by decide) d_M_joined_136 ?_
            refine lv_topl (fun lv51 _ => ?_)
            obtain ⟨h_53, e52⟩ := oc_50.of (lo_k11_18 hL _ t_M) (hI.1 (g.lk M 18))
            refine pf_last (i := v9) hx hb hK hP hD hS (lo_in hL (lo_k11_18 hL _ t_M) (by decide)) e52 (lo_t50 hL _ (lo_k11_18 hL _ t_M)) (by omega) (by decide) d_M_joined_137 (fun f55 H locs e56 k57 hP hD hS => ?_)
            have eU := (k57 (g.lk M 19) (tg_ne (lo_k11_19 hL _ t_M) (lo_k11_18 hL _ t_M) (by decide))).trans eU
            have eO := (k57 (g.lk M 20) (tg_ne (lo_k11_20 hL _ t_M) (lo_k11_18 hL _ t_M) (by decide))).trans eO
            have e1 := (k57 M (tg_ne t_M (lo_k11_18 hL _ t_M) (by decide))).trans e1
            have e41 := (k57 (g.lk M 24) (tg_ne (lo_k11_24 hL _ t_M) (lo_k11_18 hL _ t_M) (by decide))).trans e41
            have e48 := (k57 (g.lk M 22) (tg_ne (lo_k11_22 hL _ t_M) (lo_k11_18 hL _ t_M) (by decide))).trans e48
            have hu := hu.st k57 (lo_k11_18 hL _ t_M) (by decide)
            have hk58 : ∀ b, b ≠ (g.lk M 18) → f55 b = f b := k57
            refine lv_aload_n hx hb d_M_joined_138 rfl (lv_at hl 2 rfl) ?_
            refine pf_get (v := .ref (g.lk M 20)) (C := "BigRunnerModel") (T := FT10) (N := 45) hx hb (hw10 hB _) (fun _ h9 => h9) hown hK hP (lo_in hL t_M (by decide)) e1 rfl 20 (by decide) (wd_967 hB _) rfl d_M_joined_139 ?_
            refine lv_iload_n hx hb d_M_joined_142 rfl (lv_at hl 3 rfl) ?_
            refine lv_aload_n hx hb d_M_joined_143 rfl (lv_at hl 2 rfl) ?_
            refine pf_get (v := .ref (g.lk M 24)) (C := "BigRunnerModel") (T := FT10) (N := 45) hx hb (hw10 hB _) (fun _ h9 => h9) hown hK hP (lo_in hL t_M (by decide)) e1 rfl 24 (by decide) (wd_971 hB _) rfl d_M_joined_144 ?_
            refine lv_iconst (v := nI 0) hx hb d_M_joined_147 (by decide) ?_
            refine pf_zald (i := 0) hx hb hK hP (lo_in hL (lo_k11_24 hL _ t_M) (by decide)) e41 (lo_t56 hL _ (lo_k11_24 hL _ t_M)) (by omega) (by decide) d_M_joined_148 ?_
            refine lv_topi (fun iv59 _ => ?_)
            refine lv_if_ne (tgt := 156) hx hb d_M_joined_149 (by decide) (fun b60 => ?_) (fun b60 => ?_)
            · skip
              refine lv_iconst (v := nI 1) hx hb d_M_joined_156 (by decide) ?_
              refine lv_goto (tgt := 161) hx hb d_M_joined_157 (by decide) ?_
              have hI61 := iv_1 hI hL (lo_k11_18 hL _ t_M) (by decide) hk58 (oc_50.mk (lo_k11_18 hL _ t_M) (⟨_, e56⟩))
              refine pf_zast (i := v9) hx hb hK hP hD hS (lo_in hL (lo_k11_20 hL _ t_M) (by decide)) eO (lo_t52 hL _ (lo_k11_20 hL _ t_M)) (by omega) (by decide) d_M_joined_161 (fun f62 H locs e63 k64 hP hD hS => ?_)
              have eU := (k64 (g.lk M 19) (tg_ne (lo_k11_19 hL _ t_M) (lo_k11_20 hL _ t_M) (by decide))).trans eU
              have e1 := (k64 M (tg_ne t_M (lo_k11_20 hL _ t_M) (by decide))).trans e1
              have e41 := (k64 (g.lk M 24) (tg_ne (lo_k11_24 hL _ t_M) (lo_k11_20 hL _ t_M) (by decide))).trans e41
              have e48 := (k64 (g.lk M 22) (tg_ne (lo_k11_22 hL _ t_M) (lo_k11_20 hL _ t_M) (by decide))).trans e48
              have e56 := (k64 (g.lk M 18) (tg_ne (lo_k11_18 hL _ t_M) (lo_k11_20 hL _ t_M) (by decide))).trans e56
              have hu := hu.st k64 (lo_k11_20 hL _ t_M) (by decide)
              have hk65 : ∀ b, b ≠ (g.lk M 20) → f62 b = f55 b := k64
              refine lv_iload_n hx hb d_M_joined_162 rfl (lv_at hl 1 rfl) ?_
              refine lv_if_ne (tgt := 171) hx hb d_M_joined_163 (by decide) (fun b66 => ?_) (fun b66 => ?_)
              · skip
                replace b66 := mt (nI_eq (a := 0) (b := 0) (by omega) (by omega)).mpr b66
                exfalso; omega
              · skip
                replace b66 := (nI_eq (a := 0) (b := 0) (by omega) (by omega)).mp b66
                refine lv_iload hx hb d_M_joined_166 (lv_at hl 0 rfl) ?_
                refine lv_if_eq (tgt := 175) hx hb d_M_joined_168 (by decide) (fun b67 => ?_) (fun b67 => ?_)
                · skip
                  replace b67 := (nI_eq (a := 1) (b := 0) (by omega) (by omega)).mp b67
                  exfalso; omega
                · skip
                  replace b67 := mt (nI_eq (a := 1) (b := 0) (by omega) (by omega)).mpr b67
                  refine lv_iconst (v := nI 1) hx hb d_M_joined_171 (by decide) ?_
                  refine lv_goto (tgt := 176) hx hb d_M_joined_172 (by decide) ?_
                  have hI68 := iv_1 hI61 hL (lo_k11_20 hL _ t_M) (by decide) hk65 (oc_52.mk (lo_k11_20 hL _ t_M) (⟨_, e63⟩))
                  exact pe_zret hx hb hr hlocks hK hP hD hS d_M_joined_176 rfl ⟨(Or.inr rfl), ⟨_, _, eU, e63, (by have z_hO := cz_1 (x := (vp_nar .boolean ((nI 1)))) b36 (by decide) 10 hv9; first | omega | exact Nat.le_refl _), (fun _ w9 => by have z_hO := cz_1 (x := (vp_nar .boolean ((nI 1)))) b36 (by decide) 10 hv9; first | omega | exact absurd (by assumption) w9)⟩, hI68, hu⟩
            · skip
              refine lv_iload_n hx hb d_M_joined_152 rfl (lv_at hl 4 rfl) ?_
              refine lv_if_eq (tgt := 160) hx hb d_M_joined_153 (by decide) (fun b69 => ?_) (fun b69 => ?_)
              · skip
                refine lv_iconst (v := nI 0) hx hb d_M_joined_160 (by decide) ?_
                have hI70 := iv_1 hI hL (lo_k11_18 hL _ t_M) (by decide) hk58 (oc_50.mk (lo_k11_18 hL _ t_M) (⟨_, e56⟩))
                refine pf_zast (i := v9) hx hb hK hP hD hS (lo_in hL (lo_k11_20 hL _ t_M) (by decide)) eO (lo_t52 hL _ (lo_k11_20 hL _ t_M)) (by omega) (by decide) d_M_joined_161 (fun f71 H locs e72 k73 hP hD hS => ?_)
                have eU := (k73 (g.lk M 19) (tg_ne (lo_k11_19 hL _ t_M) (lo_k11_20 hL _ t_M) (by decide))).trans eU
                have e1 := (k73 M (tg_ne t_M (lo_k11_20 hL _ t_M) (by decide))).trans e1
                have e41 := (k73 (g.lk M 24) (tg_ne (lo_k11_24 hL _ t_M) (lo_k11_20 hL _ t_M) (by decide))).trans e41
                have e48 := (k73 (g.lk M 22) (tg_ne (lo_k11_22 hL _ t_M) (lo_k11_20 hL _ t_M) (by decide))).trans e48
                have e56 := (k73 (g.lk M 18) (tg_ne (lo_k11_18 hL _ t_M) (lo_k11_20 hL _ t_M) (by decide))).trans e56
                have hu := hu.st k73 (lo_k11_20 hL _ t_M) (by decide)
                have hk74 : ∀ b, b ≠ (g.lk M 20) → f71 b = f55 b := k73
                refine lv_iload_n hx hb d_M_joined_162 rfl (lv_at hl 1 rfl) ?_
                refine lv_if_ne (tgt := 171) hx hb d_M_joined_163 (by decide) (fun b75 => ?_) (fun b75 => ?_)
                · skip
                  replace b75 := mt (nI_eq (a := 0) (b := 0) (by omega) (by omega)).mpr b75
                  exfalso; omega
                · skip
                  replace b75 := (nI_eq (a := 0) (b := 0) (by omega) (by omega)).mp b75
                  refine lv_iload hx hb d_M_joined_166 (lv_at hl 0 rfl) ?_
                  refine lv_if_eq (tgt := 175) hx hb d_M_joined_168 (by decide) (fun b76 => ?_) (fun b76 => ?_)
                  · skip
                    replace b76 := (nI_eq (a := 1) (b := 0) (by omega) (by omega)).mp b76
                    exfalso; omega
                  · skip
                    replace b76 := mt (nI_eq (a := 1) (b := 0) (by omega) (by omega)).mpr b76
                    refine lv_iconst (v := nI 1) hx hb d_M_joined_171 (by decide) ?_
                    refine lv_goto (tgt := 176) hx hb d_M_joined_172 (by decide) ?_
                    have hI77 := iv_1 hI70 hL (lo_k11_20 hL _ t_M) (by decide) hk74 (oc_52.mk (lo_k11_20 hL _ t_M) (⟨_, e72⟩))
                    exact pe_zret hx hb hr hlocks hK hP hD hS d_M_joined_176 rfl ⟨(Or.inr rfl), ⟨_, _, eU, e72, (by have z_hO := cz_0 (x := (vp_nar .boolean ((nI 0)))) b36 (by decide) 10; first | omega | exact Nat.le_refl _), (fun _ w9 => by have z_hO := cz_0 (x := (vp_nar .boolean ((nI 0)))) b36 (by decide) 10; first | omega | exact absurd (by assumption) w9)⟩, hI77, hu⟩
              · skip
                refine lv_iconst (v := nI 1) hx hb d_M_joined_156 (by decide) ?_
                refine lv_goto (tgt := 161) hx hb d_M_joined_157 (by decide) ?_
                have hI78 := iv_1 hI hL (lo_k11_18 hL _ t_M) (by decide) hk58 (oc_50.mk (lo_k11_18 hL _ t_M) (⟨_, e56⟩))
                refine pf_zast (i := v9) hx hb hK hP hD hS (lo_in hL (lo_k11_20 hL _ t_M) (by decide)) eO (lo_t52 hL _ (lo_k11_20 hL _ t_M)) (by omega) (by decide) d_M_joined_161 (fun f79 H locs e80 k81 hP hD hS => ?_)
                have eU := (k81 (g.lk M 19) (tg_ne (lo_k11_19 hL _ t_M) (lo_k11_20 hL _ t_M) (by decide))).trans eU
                have e1 := (k81 M (tg_ne t_M (lo_k11_20 hL _ t_M) (by decide))).trans e1
                have e41 := (k81 (g.lk M 24) (tg_ne (lo_k11_24 hL _ t_M) (lo_k11_20 hL _ t_M) (by decide))).trans e41
                have e48 := (k81 (g.lk M 22) (tg_ne (lo_k11_22 hL _ t_M) (lo_k11_20 hL _ t_M) (by decide))).trans e48
                have e56 := (k81 (g.lk M 18) (tg_ne (lo_k11_18 hL _ t_M) (lo_k11_20 hL _ t_M) (by decide))).trans e56
                have hu := hu.st k81 (lo_k11_20 hL _ t_M) (by decide)
                have hk82 : ∀ b, b ≠ (g.lk M 20) → f79 b = f55 b := k81
                refine lv_iload_n hx hb d_M_joined_162 rfl (lv_at hl 1 rfl) ?_
                refine lv_if_ne (tgt := 171) hx hb d_M_joined_163 (by decide) (fun b83 => ?_) (fun b83 => ?_)
                · skip
                  replace b83 := mt (nI_eq (a := 0) (b := 0) (by omega) (by omega)).mpr b83
                  exfalso; omega
                · skip
                  replace b83 := (nI_eq (a := 0) (b := 0) (by omega) (by omega)).mp b83
                  refine lv_iload hx hb d_M_joined_166 (lv_at hl 0 rfl) ?_
                  refine lv_if_eq (tgt := 175) hx hb d_M_joined_168 (by decide) (fun b84 => ?_) (fun b84 => ?_)
                  · skip
                    replace b84 := (nI_eq (a := 1) (b := 0) (by omega) (by omega)).mp b84
                    exfalso; omega
                  · skip
                    replace b84 := mt (nI_eq (a := 1) (b := 0) (by omega) (by omega)).mpr b84
                    refine lv_iconst (v := nI 1) hx hb d_M_joined_171 (by decide) ?_
                    refine lv_goto (tgt := 176) hx hb d_M_joined_172 (by decide) ?_
                    have hI85 := iv_1 hI78 hL (lo_k11_20 hL _ t_M) (by decide) hk82 (oc_52.mk (lo_k11_20 hL _ t_M) (⟨_, e80⟩))
                    exact pe_zret hx hb hr hlocks hK hP hD hS d_M_joined_176 rfl ⟨(Or.inr rfl), ⟨_, _, eU, e80, (by have z_hO := cz_1 (x := (vp_nar .boolean ((nI 1)))) b36 (by decide) 10 hv9; first | omega | exact Nat.le_refl _), (fun _ w9 => by have z_hO := cz_1 (x := (vp_nar .boolean ((nI 1)))) b36 (by decide) 10 hv9; first | omega | exact absurd (by assumption) w9)⟩, hI85, hu⟩
        · skip
          replace b46 := mt (nI_eq (a := 0) (b := 0) (by omega) (by omega)).mpr b46
          exfalso; omega
      · skip
        refine lv_aload_n hx hb d_M_joined_58 rfl (lv_at hl 1 rfl) ?_
        refine pf_get (v := .ref (g.lk M 22)) (C := "BigRunnerModel") (T := FT10) (N := 45) hx hb (hw10 hB _) (fun _ h9 => h9) hown hK hP (lo_in hL t_M (by decide)) e1 rfl 22 (by decide) (wd_969 hB _) rfl d_M_joined_59 ?_
        refine lv_iconst (v := nI 0) hx hb d_M_joined_62 (by decide) ?_
        obtain ⟨h_87, e86⟩ := oc_54.of (lo_k11_22 hL _ t_M) (hI.1 (g.lk M 22))
        refine pf_lald (i := 0) hx hb hK hP (lo_in hL (lo_k11_22 hL _ t_M) (by decide)) e86 (lo_t54 hL _ (lo_k11_22 hL _ t_M)) (by omega) (by decide) d_M_joined_63 ?_
        refine lv_topl (fun lv89 _ => ?_)
        refine lv_aload_n hx hb d_M_joined_64 rfl (lv_at hl 1 rfl) ?_
        refine pf_get (v := .ref (g.lk M 18)) (C := "BigRunnerModel") (T := FT10) (N := 45) hx hb (hw10 hB _) (fun _ h9 => h9) hown hK hP (lo_in hL t_M (by decide)) e1 rfl 18 (by decide) (wd_965 hB _) rfl d_M_joined_65 ?_
        refine lv_iload_n hx hb d_M_joined_68 rfl (lv_at hl 2 rfl) ?_
        obtain ⟨h_91, e90⟩ := oc_50.of (lo_k11_18 hL _ t_M) (hI.1 (g.lk M 18))
        refine pf_lald (i := v9) hx hb hK hP (lo_in hL (lo_k11_18 hL _ t_M) (by decide)) e90 (lo_t50 hL _ (lo_k11_18 hL _ t_M)) (by omega) (by decide) d_M_joined_69 ?_
        refine lv_topl (fun lv93 _ => ?_)
        refine W.lcmp hx hb d_M_joined_70 ?_
        refine lv_if_le (tgt := 78) hx hb d_M_joined_71 (by decide) (fun b94 => ?_) (fun b94 => ?_)
        · skip
          replace b94 := pl_le.mp b94
          refine lv_iconst (v := nI 0) hx hb d_M_joined_78 (by decide) ?_
          refine lv_istore (lv' := [(4, .int (nI 0)), (3, .int (nI 0)), (0, .ref M), (1, .int (nI v9)), (2, .int wd)]) hx hb d_M_joined_79 hl (by decide) rfl (fun ls hl => ?_)
          refine lv_iload_n hx hb d_M_joined_81 rfl (lv_at hl 1 rfl) ?_
          refine lv_if_eq (tgt := 121) hx hb d_M_joined_82 (by decide) (fun b95 => ?_) (fun b95 => ?_)
          · skip
            replace b95 := (nI_eq (a := 0) (b := 0) (by omega) (by omega)).mp b95
            refine lv_iload hx hb d_M_joined_121 (lv_at hl 0 rfl) ?_
            refine lv_if_eq (tgt := 162) hx hb d_M_joined_123 (by decide) (fun b96 => ?_) (fun b96 => ?_)
            · skip
              replace b96 := (nI_eq (a := 0) (b := 0) (by omega) (by omega)).mp b96
              refine lv_iload_n hx hb d_M_joined_162 rfl (lv_at hl 1 rfl) ?_
              refine lv_if_ne (tgt := 171) hx hb d_M_joined_163 (by decide) (fun b97 => ?_) (fun b97 => ?_)
              · skip
                replace b97 := mt (nI_eq (a := 0) (b := 0) (by omega) (by omega)).mpr b97
                exfalso; omega
              · skip
                replace b97 := (nI_eq (a := 0) (b := 0) (by omega) (by omega)).mp b97
                refine lv_iload hx hb d_M_joined_166 (lv_at hl 0 rfl) ?_
                refine lv_if_eq (tgt := 175) hx hb d_M_joined_168 (by decide) (fun b98 => ?_) (fun b98 => ?_)
                · skip
                  replace b98 := (nI_eq (a := 0) (b := 0) (by omega) (by omega)).mp b98
                  refine lv_iconst (v := nI 0) hx hb d_M_joined_175 (by decide) ?_
                  exact pe_zret hx hb hr hlocks hK hP hD hS d_M_joined_176 rfl ⟨(Or.inl rfl), ⟨_, _, eU, eO, (by first | omega | exact Nat.le_refl _), (fun z9 => absurd z9 (by decide))⟩, hI, hu⟩
                · skip
                  replace b98 := mt (nI_eq (a := 0) (b := 0) (by omega) (by omega)).mpr b98
                  exfalso; omega
            · skip
              replace b96 := mt (nI_eq (a := 0) (b := 0) (by omega) (by omega)).mpr b96
              exfalso; omega
          · skip
            replace b95 := mt (nI_eq (a := 0) (b := 0) (by omega) (by omega)).mpr b95
            exfalso; omega
        · skip
          replace b94 := mt pl_le.mpr b94
          refine lv_iconst (v := nI 1) hx hb d_M_joined_74 (by decide) ?_
          refine lv_goto (tgt := 79) hx hb d_M_joined_75 (by decide) ?_
          refine lv_istore (lv' := [(4, .int (nI 1)), (3, .int (nI 0)), (0, .ref M), (1, .int (nI v9)), (2, .int wd)]) hx hb d_M_joined_79 hl (by decide) rfl (fun ls hl => ?_)
          refine lv_iload_n hx hb d_M_joined_81 rfl (lv_at hl 1 rfl) ?_
          refine lv_if_eq (tgt := 121) hx hb d_M_joined_82 (by decide) (fun b99 => ?_) (fun b99 => ?_)
          · skip
            replace b99 := (nI_eq (a := 0) (b := 0) (by omega) (by omega)).mp b99
            refine lv_iload hx hb d_M_joined_121 (lv_at hl 0 rfl) ?_
            refine lv_if_eq (tgt := 162) hx hb d_M_joined_123 (by decide) (fun b100 => ?_) (fun b100 => ?_)
            · skip
              replace b100 := (nI_eq (a := 1) (b := 0) (by omega) (by omega)).mp b100
              exfalso; omega
            · skip
              replace b100 := mt (nI_eq (a := 1) (b := 0) (by omega) (by omega)).mpr b100
              refine lv_aload_n hx hb d_M_joined_126 rfl (lv_at hl 2 rfl) ?_
              refine pf_get (v := .ref (g.lk M 18)) (C := "BigRunnerModel") (T := FT10) (N := 45) hx hb (hw10 hB _) (fun _ h9 => h9) hown hK hP (lo_in hL t_M (by decide)) e1 rfl 18 (by decide) (wd_965 hB _) rfl d_M_joined_127 ?_
              refine lv_iload_n hx hb d_M_joined_130 rfl (lv_at hl 3 rfl) ?_
              refine lv_aload_n hx hb d_M_joined_131 rfl (lv_at hl 2 rfl) ?_
              refine pf_get (v := .ref (g.lk M 22)) (C := "BigRunnerModel") (T := FT10) (N := 45) hx hb (hw10 hB _) (fun _ h9 => h9) hown hK hP (lo_in hL t_M (by decide)) e1 rfl 22 (by decide) (wd_969 hB _) rfl d_M_joined_132 ?_
              refine lv_iconst (v := nI 0) hx hb d_M_joined_135 (by decide) ?_
              refine pf_lald (i := 0) hx hb hK hP (lo_in hL (lo_k11_22 hL _ t_M) (by decide)) e86 (lo_t54 hL _ (lo_k11_22 hL _ t_M)) (by omega) (by decide) d_M_joined_136 ?_
              refine lv_topl (fun lv101 _ => ?_)
              refine pf_last (i := v9) hx hb hK hP hD hS (lo_in hL (lo_k11_18 hL _ t_M) (by decide)) e90 (lo_t50 hL _ (lo_k11_18 hL _ t_M)) (by omega) (by decide) d_M_joined_137 (fun f102 H locs e103 k104 hP hD hS => ?_)
              have eU := (k104 (g.lk M 19) (tg_ne (lo_k11_19 hL _ t_M) (lo_k11_18 hL _ t_M) (by decide))).trans eU
              have eO := (k104 (g.lk M 20) (tg_ne (lo_k11_20 hL _ t_M) (lo_k11_18 hL _ t_M) (by decide))).trans eO
              have e1 := (k104 M (tg_ne t_M (lo_k11_18 hL _ t_M) (by decide))).trans e1
              have e41 := (k104 (g.lk M 24) (tg_ne (lo_k11_24 hL _ t_M) (lo_k11_18 hL _ t_M) (by decide))).trans e41
              have e86 := (k104 (g.lk M 22) (tg_ne (lo_k11_22 hL _ t_M) (lo_k11_18 hL _ t_M) (by decide))).trans e86
              have hu := hu.st k104 (lo_k11_18 hL _ t_M) (by decide)
              have hk105 : ∀ b, b ≠ (g.lk M 18) → f102 b = f b := k104
              refine lv_aload_n hx hb d_M_joined_138 rfl (lv_at hl 2 rfl) ?_
              refine pf_get (v := .ref (g.lk M 20)) (C := "BigRunnerModel") (T := FT10) (N := 45) hx hb (hw10 hB _) (fun _ h9 => h9) hown hK hP (lo_in hL t_M (by decide)) e1 rfl 20 (by decide) (wd_967 hB _) rfl d_M_joined_139 ?_
              refine lv_iload_n hx hb d_M_joined_142 rfl (lv_at hl 3 rfl) ?_
              refine lv_aload_n hx hb d_M_joined_143 rfl (lv_at hl 2 rfl) ?_
              refine pf_get (v := .ref (g.lk M 24)) (C := "BigRunnerModel") (T := FT10) (N := 45) hx hb (hw10 hB _) (fun _ h9 => h9) hown hK hP (lo_in hL t_M (by decide)) e1 rfl 24 (by decide) (wd_971 hB _) rfl d_M_joined_144 ?_
              refine lv_iconst (v := nI 0) hx hb d_M_joined_147 (by decide) ?_
              refine pf_zald (i := 0) hx hb hK hP (lo_in hL (lo_k11_24 hL _ t_M) (by decide)) e41 (lo_t56 hL _ (lo_k11_24 hL _ t_M)) (by omega) (by decide) d_M_joined_148 ?_
              refine lv_topi (fun iv106 _ => ?_)
              refine lv_if_ne (tgt := 156) hx hb d_M_joined_149 (by decide) (fun b107 => ?_) (fun b107 => ?_)
              · skip
                refine lv_iconst (v := nI 1) hx hb d_M_joined_156 (by decide) ?_
                refine lv_goto (tgt := 161) hx hb d_M_joined_157 (by decide) ?_
                have hI108 := iv_1 hI hL (lo_k11_18 hL _ t_M) (by decide) hk105 (oc_50.mk (lo_k11_18 hL _ t_M) (⟨_, e103⟩))
                refine pf_zast (i := v9) hx hb hK hP hD hS (lo_in hL (lo_k11_20 hL _ t_M) (by decide)) eO (lo_t52 hL _ (lo_k11_20 hL _ t_M)) (by omega) (by decide) d_M_joined_161 (fun f109 H locs e110 k111 hP hD hS => ?_)
                have eU := (k111 (g.lk M 19) (tg_ne (lo_k11_19 hL _ t_M) (lo_k11_20 hL _ t_M) (by decide))).trans eU
                have e1 := (k111 M (tg_ne t_M (lo_k11_20 hL _ t_M) (by decide))).trans e1
                have e41 := (k111 (g.lk M 24) (tg_ne (lo_k11_24 hL _ t_M) (lo_k11_20 hL _ t_M) (by decide))).trans e41
                have e86 := (k111 (g.lk M 22) (tg_ne (lo_k11_22 hL _ t_M) (lo_k11_20 hL _ t_M) (by decide))).trans e86
                have e103 := (k111 (g.lk M 18) (tg_ne (lo_k11_18 hL _ t_M) (lo_k11_20 hL _ t_M) (by decide))).trans e103
                have hu := hu.st k111 (lo_k11_20 hL _ t_M) (by decide)
                have hk112 : ∀ b, b ≠ (g.lk M 20) → f109 b = f102 b := k111
                refine lv_iload_n hx hb d_M_joined_162 rfl (lv_at hl 1 rfl) ?_
                refine lv_if_ne (tgt := 171) hx hb d_M_joined_163 (by decide) (fun b113 => ?_) (fun b113 => ?_)
                · skip
                  replace b113 := mt (nI_eq (a := 0) (b := 0) (by omega) (by omega)).mpr b113
                  exfalso; omega
                · skip
                  replace b113 := (nI_eq (a := 0) (b := 0) (by omega) (by omega)).mp b113
                  refine lv_iload hx hb d_M_joined_166 (lv_at hl 0 rfl) ?_
                  refine lv_if_eq (tgt := 175) hx hb d_M_joined_168 (by decide) (fun b114 => ?_) (fun b114 => ?_)
                  · skip
                    replace b114 := (nI_eq (a := 1) (b := 0) (by omega) (by omega)).mp b114
                    exfalso; omega
                  · skip
                    replace b114 := mt (nI_eq (a := 1) (b := 0) (by omega) (by omega)).mpr b114
                    refine lv_iconst (v := nI 1) hx hb d_M_joined_171 (by decide) ?_
                    refine lv_goto (tgt := 176) hx hb d_M_joined_172 (by decide) ?_
                    have hI115 := iv_1 hI108 hL (lo_k11_20 hL _ t_M) (by decide) hk112 (oc_52.mk (lo_k11_20 hL _ t_M) (⟨_, e110⟩))
                    exact pe_zret hx hb hr hlocks hK hP hD hS d_M_joined_176 rfl ⟨(Or.inr rfl), ⟨_, _, eU, e110, (by have z_hO := cz_1 (x := (vp_nar .boolean ((nI 1)))) b36 (by decide) 10 hv9; first | omega | exact Nat.le_refl _), (fun _ w9 => by have z_hO := cz_1 (x := (vp_nar .boolean ((nI 1)))) b36 (by decide) 10 hv9; first | omega | exact absurd (by assumption) w9)⟩, hI115, hu⟩
              · skip
                refine lv_iload_n hx hb d_M_joined_152 rfl (lv_at hl 4 rfl) ?_
                refine lv_if_eq (tgt := 160) hx hb d_M_joined_153 (by decide) (fun b116 => ?_) (fun b116 => ?_)
                · skip
                  refine lv_iconst (v := nI 0) hx hb d_M_joined_160 (by decide) ?_
                  have hI117 := iv_1 hI hL (lo_k11_18 hL _ t_M) (by decide) hk105 (oc_50.mk (lo_k11_18 hL _ t_M) (⟨_, e103⟩))
                  refine pf_zast (i := v9) hx hb hK hP hD hS (lo_in hL (lo_k11_20 hL _ t_M) (by decide)) eO (lo_t52 hL _ (lo_k11_20 hL _ t_M)) (by omega) (by decide) d_M_joined_161 (fun f118 H locs e119 k120 hP hD hS => ?_)
                  have eU := (k120 (g.lk M 19) (tg_ne (lo_k11_19 hL _ t_M) (lo_k11_20 hL _ t_M) (by decide))).trans eU
                  have e1 := (k120 M (tg_ne t_M (lo_k11_20 hL _ t_M) (by decide))).trans e1
                  have e41 := (k120 (g.lk M 24) (tg_ne (lo_k11_24 hL _ t_M) (lo_k11_20 hL _ t_M) (by decide))).trans e41
                  have e86 := (k120 (g.lk M 22) (tg_ne (lo_k11_22 hL _ t_M) (lo_k11_20 hL _ t_M) (by decide))).trans e86
                  have e103 := (k120 (g.lk M 18) (tg_ne (lo_k11_18 hL _ t_M) (lo_k11_20 hL _ t_M) (by decide))).trans e103
                  have hu := hu.st k120 (lo_k11_20 hL _ t_M) (by decide)
                  have hk121 : ∀ b, b ≠ (g.lk M 20) → f118 b = f102 b := k120
                  refine lv_iload_n hx hb d_M_joined_162 rfl (lv_at hl 1 rfl) ?_
                  refine lv_if_ne (tgt := 171) hx hb d_M_joined_163 (by decide) (fun b122 => ?_) (fun b122 => ?_)
                  · skip
                    replace b122 := mt (nI_eq (a := 0) (b := 0) (by omega) (by omega)).mpr b122
                    exfalso; omega
                  · skip
                    replace b122 := (nI_eq (a := 0) (b := 0) (by omega) (by omega)).mp b122
                    refine lv_iload hx hb d_M_joined_166 (lv_at hl 0 rfl) ?_
                    refine lv_if_eq (tgt := 175) hx hb d_M_joined_168 (by decide) (fun b123 => ?_) (fun b123 => ?_)
                    · skip
                      replace b123 := (nI_eq (a := 1) (b := 0) (by omega) (by omega)).mp b123
                      exfalso; omega
                    · skip
                      replace b123 := mt (nI_eq (a := 1) (b := 0) (by omega) (by omega)).mpr b123
                      refine lv_iconst (v := nI 1) hx hb d_M_joined_171 (by decide) ?_
                      refine lv_goto (tgt := 176) hx hb d_M_joined_172 (by decide) ?_
                      have hI124 := iv_1 hI117 hL (lo_k11_20 hL _ t_M) (by decide) hk121 (oc_52.mk (lo_k11_20 hL _ t_M) (⟨_, e119⟩))
                      exact pe_zret hx hb hr hlocks hK hP hD hS d_M_joined_176 rfl ⟨(Or.inr rfl), ⟨_, _, eU, e119, (by have z_hO := cz_0 (x := (vp_nar .boolean ((nI 0)))) b36 (by decide) 10; first | omega | exact Nat.le_refl _), (fun _ w9 => by have z_hO := cz_0 (x := (vp_nar .boolean ((nI 0)))) b36 (by decide) 10; first | omega | exact absurd (by assumption) w9)⟩, hI124, hu⟩
                · skip
                  refine lv_iconst (v := nI 1) hx hb d_M_joined_156 (by decide) ?_
                  refine lv_goto (tgt := 161) hx hb d_M_joined_157 (by decide) ?_
                  have hI125 := iv_1 hI hL (lo_k11_18 hL _ t_M) (by decide) hk105 (oc_50.mk (lo_k11_18 hL _ t_M) (⟨_, e103⟩))
                  refine pf_zast (i := v9) hx hb hK hP hD hS (lo_in hL (lo_k11_20 hL _ t_M) (by decide)) eO (lo_t52 hL _ (lo_k11_20 hL _ t_M)) (by omega) (by decide) d_M_joined_161 (fun f126 H locs e127 k128 hP hD hS => ?_)
                  have eU := (k128 (g.lk M 19) (tg_ne (lo_k11_19 hL _ t_M) (lo_k11_20 hL _ t_M) (by decide))).trans eU
                  have e1 := (k128 M (tg_ne t_M (lo_k11_20 hL _ t_M) (by decide))).trans e1
                  have e41 := (k128 (g.lk M 24) (tg_ne (lo_k11_24 hL _ t_M) (lo_k11_20 hL _ t_M) (by decide))).trans e41
                  have e86 := (k128 (g.lk M 22) (tg_ne (lo_k11_22 hL _ t_M) (lo_k11_20 hL _ t_M) (by decide))).trans e86
                  have e103 := (k128 (g.lk M 18) (tg_ne (lo_k11_18 hL _ t_M) (lo_k11_20 hL _ t_M) (by decide))).trans e103
                  have hu := hu.st k128 (lo_k11_20 hL _ t_M) (by decide)
                  have hk129 : ∀ b, b ≠ (g.lk M 20) → f126 b = f102 b := k128
                  refine lv_iload_n hx hb d_M_joined_162 rfl (lv_at hl 1 rfl) ?_
                  refine lv_if_ne (tgt := 171) hx hb d_M_joined_163 (by decide) (fun b130 => ?_) (fun b130 => ?_)
                  · skip
                    replace b130 := mt (nI_eq (a := 0) (b := 0) (by omega) (by omega)).mpr b130
                    exfalso; omega
                  · skip
                    replace b130 := (nI_eq (a := 0) (b := 0) (by omega) (by omega)).mp b130
                    refine lv_iload hx hb d_M_joined_166 (lv_at hl 0 rfl) ?_
                    refine lv_if_eq (tgt := 175) hx hb d_M_joined_168 (by decide) (fun b131 => ?_) (fun b131 => ?_)
                    · skip
                      replace b131 := (nI_eq (a := 1) (b := 0) (by omega) (by omega)).mp b131
                      exfalso; omega
                    · skip
                      replace b131 := mt (nI_eq (a := 1) (b := 0) (by omega) (by omega)).mpr b131
                      refine lv_iconst (v := nI 1) hx hb d_M_joined_171 (by decide) ?_
                      refine lv_goto (tgt := 176) hx hb d_M_joined_172 (by decide) ?_
                      have hI132 := iv_1 hI125 hL (lo_k11_20 hL _ t_M) (by decide) hk129 (oc_52.mk (lo_k11_20 hL _ t_M) (⟨_, e127⟩))
                      exact pe_zret hx hb hr hlocks hK hP hD hS d_M_joined_176 rfl ⟨(Or.inr rfl), ⟨_, _, eU, e127, (by have z_hO := cz_1 (x := (vp_nar .boolean ((nI 1)))) b36 (by decide) 10 hv9; first | omega | exact Nat.le_refl _), (fun _ w9 => by have z_hO := cz_1 (x := (vp_nar .boolean ((nI 1)))) b36 (by decide) 10 hv9; first | omega | exact absurd (by assumption) w9)⟩, hI132, hu⟩
          · skip
            replace b99 := mt (nI_eq (a := 0) (b := 0) (by omega) (by omega)).mpr b99
            exfalso; omega
  · skip
    refine lv_aload_n hx hb d_M_joined_9 rfl (lv_at hl 0 rfl) ?_
    refine pf_get (v := .ref (g.lk M 23)) (C := "BigRunnerModel") (T := FT10) (N := 45) hx hb (hw10 hB _) (fun _ h9 => h9) hown hK hP (lo_in hL t_M (by decide)) e1 rfl 23 (by decide) (wd_970 hB _) rfl d_M_joined_10 ?_
    refine lv_iconst (v := nI 0) hx hb d_M_joined_13 (by decide) ?_
    obtain ⟨h_134, e133⟩ := oc_55.of (lo_k11_23 hL _ t_M) (hI.1 (g.lk M 23))
    refine pf_zald (i := 0) hx hb hK hP (lo_in hL (lo_k11_23 hL _ t_M) (by decide)) e133 (lo_t55 hL _ (lo_k11_23 hL _ t_M)) (by omega) (by decide) d_M_joined_14 ?_
    refine lv_topi (fun iv136 _ => ?_)
    refine lv_if_ne (tgt := 34) hx hb d_M_joined_15 (by decide) (fun b137 => ?_) (fun b137 => ?_)
    · skip
      refine lv_iconst (v := nI 1) hx hb d_M_joined_34 (by decide) ?_
      refine lv_goto (tgt := 39) hx hb d_M_joined_35 (by decide) ?_
      refine lv_istore_n (lv' := [(3, .int (nI 1)), (0, .ref M), (1, .int (nI v9)), (2, .int wd)]) hx hb d_M_joined_39 rfl hl (by decide) rfl (fun ls hl => ?_)
      refine lv_aload_n hx hb d_M_joined_40 rfl (lv_at hl 1 rfl) ?_
      refine pf_get (v := .ref (g.lk M 20)) (C := "BigRunnerModel") (T := FT10) (N := 45) hx hb (hw10 hB _) (fun _ h9 => h9) hown hK hP (lo_in hL t_M (by decide)) e1 rfl 20 (by decide) (wd_967 hB _) rfl d_M_joined_41 ?_
      refine lv_iload_n hx hb d_M_joined_44 rfl (lv_at hl 2 rfl) ?_
      refine pf_zald (i := v9) hx hb hK hP (lo_in hL (lo_k11_20 hL _ t_M) (by decide)) eO (lo_t52 hL _ (lo_k11_20 hL _ t_M)) (by omega) (by decide) d_M_joined_45 ?_
      refine lv_if_ne (tgt := 78) hx hb d_M_joined_46 (by decide) (fun b138 => ?_) (fun b138 => ?_)
      · skip
        refine lv_iconst (v := nI 0) hx hb d_M_joined_78 (by decide) ?_
        refine lv_istore (lv' := [(4, .int (nI 0)), (3, .int (nI 1)), (0, .ref M), (1, .int (nI v9)), (2, .int wd)]) hx hb d_M_joined_79 hl (by decide) rfl (fun ls hl => ?_)
        refine lv_iload_n hx hb d_M_joined_81 rfl (lv_at hl 1 rfl) ?_
        refine lv_if_eq (tgt := 121) hx hb d_M_joined_82 (by decide) (fun b139 => ?_) (fun b139 => ?_)
        · skip
          replace b139 := (nI_eq (a := 1) (b := 0) (by omega) (by omega)).mp b139
          exfalso; omega
        · skip
          replace b139 := mt (nI_eq (a := 1) (b := 0) (by omega) (by omega)).mpr b139
          refine lv_aload_n hx hb d_M_joined_85 rfl (lv_at hl 2 rfl) ?_
          refine pf_get (v := .ref (g.lk M 17)) (C := "BigRunnerModel") (T := FT10) (N := 45) hx hb (hw10 hB _) (fun _ h9 => h9) hown hK hP (lo_in hL t_M (by decide)) e1 rfl 17 (by decide) (wd_964 hB _) rfl d_M_joined_86 ?_
          refine lv_iload_n hx hb d_M_joined_89 rfl (lv_at hl 3 rfl) ?_
          refine lv_aload_n hx hb d_M_joined_90 rfl (lv_at hl 2 rfl) ?_
          refine pf_get (v := .ref (g.lk M 21)) (C := "BigRunnerModel") (T := FT10) (N := 45) hx hb (hw10 hB _) (fun _ h9 => h9) hown hK hP (lo_in hL t_M (by decide)) e1 rfl 21 (by decide) (wd_968 hB _) rfl d_M_joined_91 ?_
          refine lv_iconst (v := nI 0) hx hb d_M_joined_94 (by decide) ?_
          obtain ⟨h_141, e140⟩ := oc_53.of (lo_k11_21 hL _ t_M) (hI.1 (g.lk M 21))
          refine pf_lald (i := 0) hx hb hK hP (lo_in hL (lo_k11_21 hL _ t_M) (by decide)) e140 (lo_t53 hL _ (lo_k11_21 hL _ t_M)) (by omega) (by decide) d_M_joined_95 ?_
          refine lv_topl (fun lv143 _ => ?_)
          obtain ⟨h_145, e144⟩ := oc_49.of (lo_k11_17 hL _ t_M) (hI.1 (g.lk M 17))
          refine pf_last (i := v9) hx hb hK hP hD hS (lo_in hL (lo_k11_17 hL _ t_M) (by decide)) e144 (lo_t49 hL _ (lo_k11_17 hL _ t_M)) (by omega) (by decide) d_M_joined_96 (fun f147 H locs e148 k149 hP hD hS => ?_)
          have eU := (k149 (g.lk M 19) (tg_ne (lo_k11_19 hL _ t_M) (lo_k11_17 hL _ t_M) (by decide))).trans eU
          have eO := (k149 (g.lk M 20) (tg_ne (lo_k11_20 hL _ t_M) (lo_k11_17 hL _ t_M) (by decide))).trans eO
          have e1 := (k149 M (tg_ne t_M (lo_k11_17 hL _ t_M) (by decide))).trans e1
          have e133 := (k149 (g.lk M 23) (tg_ne (lo_k11_23 hL _ t_M) (lo_k11_17 hL _ t_M) (by decide))).trans e133
          have e140 := (k149 (g.lk M 21) (tg_ne (lo_k11_21 hL _ t_M) (lo_k11_17 hL _ t_M) (by decide))).trans e140
          have hu := hu.st k149 (lo_k11_17 hL _ t_M) (by decide)
          have hk150 : ∀ b, b ≠ (g.lk M 17) → f147 b = f b := k149
          refine lv_aload_n hx hb d_M_joined_97 rfl (lv_at hl 2 rfl) ?_
          refine pf_get (v := .ref (g.lk M 19)) (C := "BigRunnerModel") (T := FT10) (N := 45) hx hb (hw10 hB _) (fun _ h9 => h9) hown hK hP (lo_in hL t_M (by decide)) e1 rfl 19 (by decide) (wd_966 hB _) rfl d_M_joined_98 ?_
          refine lv_iload_n hx hb d_M_joined_101 rfl (lv_at hl 3 rfl) ?_
          refine lv_aload_n hx hb d_M_joined_102 rfl (lv_at hl 2 rfl) ?_
          refine pf_get (v := .ref (g.lk M 23)) (C := "BigRunnerModel") (T := FT10) (N := 45) hx hb (hw10 hB _) (fun _ h9 => h9) hown hK hP (lo_in hL t_M (by decide)) e1 rfl 23 (by decide) (wd_970 hB _) rfl d_M_joined_103 ?_
          refine lv_iconst (v := nI 0) hx hb d_M_joined_106 (by decide) ?_
          refine pf_zald (i := 0) hx hb hK hP (lo_in hL (lo_k11_23 hL _ t_M) (by decide)) e133 (lo_t55 hL _ (lo_k11_23 hL _ t_M)) (by omega) (by decide) d_M_joined_107 ?_
          refine lv_topi (fun iv151 _ => ?_)
          refine lv_if_ne (tgt := 115) hx hb d_M_joined_108 (by decide) (fun b152 => ?_) (fun b152 => ?_)
          · skip
            refine lv_iconst (v := nI 1) hx hb d_M_joined_115 (by decide) ?_
            refine lv_goto (tgt := 120) hx hb d_M_joined_116 (by decide) ?_
            have hI153 := iv_1 hI hL (lo_k11_17 hL _ t_M) (by decide) hk150 (oc_49.mk (lo_k11_17 hL _ t_M) (⟨_, e148⟩))
            refine pf_zast (i := v9) hx hb hK hP hD hS (lo_in hL (lo_k11_19 hL _ t_M) (by decide)) eU (lo_t51 hL _ (lo_k11_19 hL _ t_M)) (by omega) (by decide) d_M_joined_120 (fun f154 H locs e155 k156 hP hD hS => ?_)
            have eO := (k156 (g.lk M 20) (tg_ne (lo_k11_20 hL _ t_M) (lo_k11_19 hL _ t_M) (by decide))).trans eO
            have e1 := (k156 M (tg_ne t_M (lo_k11_19 hL _ t_M) (by decide))).trans e1
            have e133 := (k156 (g.lk M 23) (tg_ne (lo_k11_23 hL _ t_M) (lo_k11_19 hL _ t_M) (by decide))).trans e133
            have e140 := (k156 (g.lk M 21) (tg_ne (lo_k11_21 hL _ t_M) (lo_k11_19 hL _ t_M) (by decide))).trans e140
            have e148 := (k156 (g.lk M 17) (tg_ne (lo_k11_17 hL _ t_M) (lo_k11_19 hL _ t_M) (by decide))).trans e148
            have hu := hu.st k156 (lo_k11_19 hL _ t_M) (by decide)
            have hk157 : ∀ b, b ≠ (g.lk M 19) → f154 b = f147 b := k156
            refine lv_iload hx hb d_M_joined_121 (lv_at hl 0 rfl) ?_
            refine lv_if_eq (tgt := 162) hx hb d_M_joined_123 (by decide) (fun b158 => ?_) (fun b158 => ?_)
            · skip
              replace b158 := (nI_eq (a := 0) (b := 0) (by omega) (by omega)).mp b158
              refine lv_iload_n hx hb d_M_joined_162 rfl (lv_at hl 1 rfl) ?_
              refine lv_if_ne (tgt := 171) hx hb d_M_joined_163 (by decide) (fun b159 => ?_) (fun b159 => ?_)
              · skip
                replace b159 := mt (nI_eq (a := 1) (b := 0) (by omega) (by omega)).mpr b159
                refine lv_iconst (v := nI 1) hx hb d_M_joined_171 (by decide) ?_
                refine lv_goto (tgt := 176) hx hb d_M_joined_172 (by decide) ?_
                have hI160 := iv_1 hI153 hL (lo_k11_19 hL _ t_M) (by decide) hk157 (oc_51.mk (lo_k11_19 hL _ t_M) (⟨_, e155⟩))
                exact pe_zret hx hb hr hlocks hK hP hD hS d_M_joined_176 rfl ⟨(Or.inr rfl), ⟨_, _, e155, eO, (by have z_hU := cz_1 (x := (vp_nar .boolean ((nI 1)))) b35 (by decide) 10 hv9; first | omega | exact Nat.le_refl _), (fun _ w9 => by have z_hU := cz_1 (x := (vp_nar .boolean ((nI 1)))) b35 (by decide) 10 hv9; first | omega | exact absurd (by assumption) w9)⟩, hI160, hu⟩
              · skip
                replace b159 := (nI_eq (a := 1) (b := 0) (by omega) (by omega)).mp b159
                exfalso; omega
            · skip
              replace b158 := mt (nI_eq (a := 0) (b := 0) (by omega) (by omega)).mpr b158
              exfalso; omega
          · skip
            refine lv_iload_n hx hb d_M_joined_111 rfl (lv_at hl 4 rfl) ?_
            refine lv_if_eq (tgt := 119) hx hb d_M_joined_112 (by decide) (fun b161 => ?_) (fun b161 => ?_)
            · skip
              refine lv_iconst (v := nI 0) hx hb d_M_joined_119 (by decide) ?_
              have hI162 := iv_1 hI hL (lo_k11_17 hL _ t_M) (by decide) hk150 (oc_49.mk (lo_k11_17 hL _ t_M) (⟨_, e148⟩))
              refine pf_zast (i := v9) hx hb hK hP hD hS (lo_in hL (lo_k11_19 hL _ t_M) (by decide)) eU (lo_t51 hL _ (lo_k11_19 hL _ t_M)) (by omega) (by decide) d_M_joined_120 (fun f163 H locs e164 k165 hP hD hS => ?_)
              have eO := (k165 (g.lk M 20) (tg_ne (lo_k11_20 hL _ t_M) (lo_k11_19 hL _ t_M) (by decide))).trans eO
              have e1 := (k165 M (tg_ne t_M (lo_k11_19 hL _ t_M) (by decide))).trans e1
              have e133 := (k165 (g.lk M 23) (tg_ne (lo_k11_23 hL _ t_M) (lo_k11_19 hL _ t_M) (by decide))).trans e133
              have e140 := (k165 (g.lk M 21) (tg_ne (lo_k11_21 hL _ t_M) (lo_k11_19 hL _ t_M) (by decide))).trans e140
              have e148 := (k165 (g.lk M 17) (tg_ne (lo_k11_17 hL _ t_M) (lo_k11_19 hL _ t_M) (by decide))).trans e148
              have hu := hu.st k165 (lo_k11_19 hL _ t_M) (by decide)
              have hk166 : ∀ b, b ≠ (g.lk M 19) → f163 b = f147 b := k165
              refine lv_iload hx hb d_M_joined_121 (lv_at hl 0 rfl) ?_
              refine lv_if_eq (tgt := 162) hx hb d_M_joined_123 (by decide) (fun b167 => ?_) (fun b167 => ?_)
              · skip
                replace b167 := (nI_eq (a := 0) (b := 0) (by omega) (by omega)).mp b167
                refine lv_iload_n hx hb d_M_joined_162 rfl (lv_at hl 1 rfl) ?_
                refine lv_if_ne (tgt := 171) hx hb d_M_joined_163 (by decide) (fun b168 => ?_) (fun b168 => ?_)
                · skip
                  replace b168 := mt (nI_eq (a := 1) (b := 0) (by omega) (by omega)).mpr b168
                  refine lv_iconst (v := nI 1) hx hb d_M_joined_171 (by decide) ?_
                  refine lv_goto (tgt := 176) hx hb d_M_joined_172 (by decide) ?_
                  have hI169 := iv_1 hI162 hL (lo_k11_19 hL _ t_M) (by decide) hk166 (oc_51.mk (lo_k11_19 hL _ t_M) (⟨_, e164⟩))
                  exact pe_zret hx hb hr hlocks hK hP hD hS d_M_joined_176 rfl ⟨(Or.inr rfl), ⟨_, _, e164, eO, (by have z_hU := cz_0 (x := (vp_nar .boolean ((nI 0)))) b35 (by decide) 10; first | omega | exact Nat.le_refl _), (fun _ w9 => by have z_hU := cz_0 (x := (vp_nar .boolean ((nI 0)))) b35 (by decide) 10; first | omega | exact absurd (by assumption) w9)⟩, hI169, hu⟩
                · skip
                  replace b168 := (nI_eq (a := 1) (b := 0) (by omega) (by omega)).mp b168
                  exfalso; omega
              · skip
                replace b167 := mt (nI_eq (a := 0) (b := 0) (by omega) (by omega)).mpr b167
                exfalso; omega
            · skip
              refine lv_iconst (v := nI 1) hx hb d_M_joined_115 (by decide) ?_
              refine lv_goto (tgt := 120) hx hb d_M_joined_116 (by decide) ?_
              have hI170 := iv_1 hI hL (lo_k11_17 hL _ t_M) (by decide) hk150 (oc_49.mk (lo_k11_17 hL _ t_M) (⟨_, e148⟩))
              refine pf_zast (i := v9) hx hb hK hP hD hS (lo_in hL (lo_k11_19 hL _ t_M) (by decide)) eU (lo_t51 hL _ (lo_k11_19 hL _ t_M)) (by omega) (by decide) d_M_joined_120 (fun f171 H locs e172 k173 hP hD hS => ?_)
              have eO := (k173 (g.lk M 20) (tg_ne (lo_k11_20 hL _ t_M) (lo_k11_19 hL _ t_M) (by decide))).trans eO
              have e1 := (k173 M (tg_ne t_M (lo_k11_19 hL _ t_M) (by decide))).trans e1
              have e133 := (k173 (g.lk M 23) (tg_ne (lo_k11_23 hL _ t_M) (lo_k11_19 hL _ t_M) (by decide))).trans e133
              have e140 := (k173 (g.lk M 21) (tg_ne (lo_k11_21 hL _ t_M) (lo_k11_19 hL _ t_M) (by decide))).trans e140
              have e148 := (k173 (g.lk M 17) (tg_ne (lo_k11_17 hL _ t_M) (lo_k11_19 hL _ t_M) (by decide))).trans e148
              have hu := hu.st k173 (lo_k11_19 hL _ t_M) (by decide)
              have hk174 : ∀ b, b ≠ (g.lk M 19) → f171 b = f147 b := k173
              refine lv_iload hx hb d_M_joined_121 (lv_at hl 0 rfl) ?_
              refine lv_if_eq (tgt := 162) hx hb d_M_joined_123 (by decide) (fun b175 => ?_) (fun b175 => ?_)
              · skip
                replace b175 := (nI_eq (a := 0) (b := 0) (by omega) (by omega)).mp b175
                refine lv_iload_n hx hb d_M_joined_162 rfl (lv_at hl 1 rfl) ?_
                refine lv_if_ne (tgt := 171) hx hb d_M_joined_163 (by decide) (fun b176 => ?_) (fun b176 => ?_)
                · skip
                  replace b176 := mt (nI_eq (a := 1) (b := 0) (by omega) (by omega)).mpr b176
                  refine lv_iconst (v := nI 1) hx hb d_M_joined_171 (by decide) ?_
                  refine lv_goto (tgt := 176) hx hb d_M_joined_172 (by decide) ?_
                  have hI177 := iv_1 hI170 hL (lo_k11_19 hL _ t_M) (by decide) hk174 (oc_51.mk (lo_k11_19 hL _ t_M) (⟨_, e172⟩))
                  exact pe_zret hx hb hr hlocks hK hP hD hS d_M_joined_176 rfl ⟨(Or.inr rfl), ⟨_, _, e172, eO, (by have z_hU := cz_1 (x := (vp_nar .boolean ((nI 1)))) b35 (by decide) 10 hv9; first | omega | exact Nat.le_refl _), (fun _ w9 => by have z_hU := cz_1 (x := (vp_nar .boolean ((nI 1)))) b35 (by decide) 10 hv9; first | omega | exact absurd (by assumption) w9)⟩, hI177, hu⟩
                · skip
                  replace b176 := (nI_eq (a := 1) (b := 0) (by omega) (by omega)).mp b176
                  exfalso; omega
              · skip
                replace b175 := mt (nI_eq (a := 0) (b := 0) (by omega) (by omega)).mpr b175
                exfalso; omega
      · skip
        refine lv_aload_n hx hb d_M_joined_49 rfl (lv_at hl 1 rfl) ?_
        refine pf_get (v := .ref (g.lk M 24)) (C := "BigRunnerModel") (T := FT10) (N := 45) hx hb (hw10 hB _) (fun _ h9 => h9) hown hK hP (lo_in hL t_M (by decide)) e1 rfl 24 (by decide) (wd_971 hB _) rfl d_M_joined_50 ?_
        refine lv_iconst (v := nI 0) hx hb d_M_joined_53 (by decide) ?_
        obtain ⟨h_179, e178⟩ := oc_56.of (lo_k11_24 hL _ t_M) (hI.1 (g.lk M 24))
        refine pf_zald (i := 0) hx hb hK hP (lo_in hL (lo_k11_24 hL _ t_M) (by decide)) e178 (lo_t56 hL _ (lo_k11_24 hL _ t_M)) (by omega) (by decide) d_M_joined_54 ?_
        refine lv_topi (fun iv181 _ => ?_)
        refine lv_if_ne (tgt := 74) hx hb d_M_joined_55 (by decide) (fun b182 => ?_) (fun b182 => ?_)
        · skip
          refine lv_iconst (v := nI 1) hx hb d_M_joined_74 (by decide) ?_
          refine lv_goto (tgt := 79) hx hb d_M_joined_75 (by decide) ?_
          refine lv_istore (lv' := [(4, .int (nI 1)), (3, .int (nI 1)), (0, .ref M), (1, .int (nI v9)), (2, .int wd)]) hx hb d_M_joined_79 hl (by decide) rfl (fun ls hl => ?_)
          refine lv_iload_n hx hb d_M_joined_81 rfl (lv_at hl 1 rfl) ?_
          refine lv_if_eq (tgt := 121) hx hb d_M_joined_82 (by decide) (fun b183 => ?_) (fun b183 => ?_)
          · skip
            replace b183 := (nI_eq (a := 1) (b := 0) (by omega) (by omega)).mp b183
            exfalso; omega
          · skip
            replace b183 := mt (nI_eq (a := 1) (b := 0) (by omega) (by omega)).mpr b183
            refine lv_aload_n hx hb d_M_joined_85 rfl (lv_at hl 2 rfl) ?_
            refine pf_get (v := .ref (g.lk M 17)) (C := "BigRunnerModel") (T := FT10) (N := 45) hx hb (hw10 hB _) (fun _ h9 => h9) hown hK hP (lo_in hL t_M (by decide)) e1 rfl 17 (by decide) (wd_964 hB _) rfl d_M_joined_86 ?_
            refine lv_iload_n hx hb d_M_joined_89 rfl (lv_at hl 3 rfl) ?_
            refine lv_aload_n hx hb d_M_joined_90 rfl (lv_at hl 2 rfl) ?_
            refine pf_get (v := .ref (g.lk M 21)) (C := "BigRunnerModel") (T := FT10) (N := 45) hx hb (hw10 hB _) (fun _ h9 => h9) hown hK hP (lo_in hL t_M (by decide)) e1 rfl 21 (by decide) (wd_968 hB _) rfl d_M_joined_91 ?_
            refine lv_iconst (v := nI 0) hx hb d_M_joined_94 (by decide) ?_
            obtain ⟨h_185, e184⟩ := oc_53.of (lo_k11_21 hL _ t_M) (hI.1 (g.lk M 21))
            refine pf_lald (i := 0) hx hb hK hP (lo_in hL (lo_k11_21 hL _ t_M) (by decide)) e184 (lo_t53 hL _ (lo_k11_21 hL _ t_M)) (by omega) (by decide) d_M_joined_95 ?_
            refine lv_topl (fun lv187 _ => ?_)
            obtain ⟨h_189, e188⟩ := oc_49.of (lo_k11_17 hL _ t_M) (hI.1 (g.lk M 17))
            refine pf_last (i := v9) hx hb hK hP hD hS (lo_in hL (lo_k11_17 hL _ t_M) (by decide)) e188 (lo_t49 hL _ (lo_k11_17 hL _ t_M)) (by omega) (by decide) d_M_joined_96 (fun f191 H locs e192 k193 hP hD hS => ?_)
            have eU := (k193 (g.lk M 19) (tg_ne (lo_k11_19 hL _ t_M) (lo_k11_17 hL _ t_M) (by decide))).trans eU
            have eO := (k193 (g.lk M 20) (tg_ne (lo_k11_20 hL _ t_M) (lo_k11_17 hL _ t_M) (by decide))).trans eO
            have e1 := (k193 M (tg_ne t_M (lo_k11_17 hL _ t_M) (by decide))).trans e1
            have e133 := (k193 (g.lk M 23) (tg_ne (lo_k11_23 hL _ t_M) (lo_k11_17 hL _ t_M) (by decide))).trans e133
            have e178 := (k193 (g.lk M 24) (tg_ne (lo_k11_24 hL _ t_M) (lo_k11_17 hL _ t_M) (by decide))).trans e178
            have e184 := (k193 (g.lk M 21) (tg_ne (lo_k11_21 hL _ t_M) (lo_k11_17 hL _ t_M) (by decide))).trans e184
            have hu := hu.st k193 (lo_k11_17 hL _ t_M) (by decide)
            have hk194 : ∀ b, b ≠ (g.lk M 17) → f191 b = f b := k193
            refine lv_aload_n hx hb d_M_joined_97 rfl (lv_at hl 2 rfl) ?_
            refine pf_get (v := .ref (g.lk M 19)) (C := "BigRunnerModel") (T := FT10) (N := 45) hx hb (hw10 hB _) (fun _ h9 => h9) hown hK hP (lo_in hL t_M (by decide)) e1 rfl 19 (by decide) (wd_966 hB _) rfl d_M_joined_98 ?_
            refine lv_iload_n hx hb d_M_joined_101 rfl (lv_at hl 3 rfl) ?_
            refine lv_aload_n hx hb d_M_joined_102 rfl (lv_at hl 2 rfl) ?_
            refine pf_get (v := .ref (g.lk M 23)) (C := "BigRunnerModel") (T := FT10) (N := 45) hx hb (hw10 hB _) (fun _ h9 => h9) hown hK hP (lo_in hL t_M (by decide)) e1 rfl 23 (by decide) (wd_970 hB _) rfl d_M_joined_103 ?_
            refine lv_iconst (v := nI 0) hx hb d_M_joined_106 (by decide) ?_
            refine pf_zald (i := 0) hx hb hK hP (lo_in hL (lo_k11_23 hL _ t_M) (by decide)) e133 (lo_t55 hL _ (lo_k11_23 hL _ t_M)) (by omega) (by decide) d_M_joined_107 ?_
            refine lv_topi (fun iv195 _ => ?_)
            refine lv_if_ne (tgt := 115) hx hb d_M_joined_108 (by decide) (fun b196 => ?_) (fun b196 => ?_)
            · skip
              refine lv_iconst (v := nI 1) hx hb d_M_joined_115 (by decide) ?_
              refine lv_goto (tgt := 120) hx hb d_M_joined_116 (by decide) ?_
              have hI197 := iv_1 hI hL (lo_k11_17 hL _ t_M) (by decide) hk194 (oc_49.mk (lo_k11_17 hL _ t_M) (⟨_, e192⟩))
              refine pf_zast (i := v9) hx hb hK hP hD hS (lo_in hL (lo_k11_19 hL _ t_M) (by decide)) eU (lo_t51 hL _ (lo_k11_19 hL _ t_M)) (by omega) (by decide) d_M_joined_120 (fun f198 H locs e199 k200 hP hD hS => ?_)
              have eO := (k200 (g.lk M 20) (tg_ne (lo_k11_20 hL _ t_M) (lo_k11_19 hL _ t_M) (by decide))).trans eO
              have e1 := (k200 M (tg_ne t_M (lo_k11_19 hL _ t_M) (by decide))).trans e1
              have e133 := (k200 (g.lk M 23) (tg_ne (lo_k11_23 hL _ t_M) (lo_k11_19 hL _ t_M) (by decide))).trans e133
              have e178 := (k200 (g.lk M 24) (tg_ne (lo_k11_24 hL _ t_M) (lo_k11_19 hL _ t_M) (by decide))).trans e178
              have e184 := (k200 (g.lk M 21) (tg_ne (lo_k11_21 hL _ t_M) (lo_k11_19 hL _ t_M) (by decide))).trans e184
              have e192 := (k200 (g.lk M 17) (tg_ne (lo_k11_17 hL _ t_M) (lo_k11_19 hL _ t_M) (by decide))).trans e192
              have hu := hu.st k200 (lo_k11_19 hL _ t_M) (by decide)
              have hk201 : ∀ b, b ≠ (g.lk M 19) → f198 b = f191 b := k200
              refine lv_iload hx hb d_M_joined_121 (lv_at hl 0 rfl) ?_
              refine lv_if_eq (tgt := 162) hx hb d_M_joined_123 (by decide) (fun b202 => ?_) (fun b202 => ?_)
              · skip
                replace b202 := (nI_eq (a := 1) (b := 0) (by omega) (by omega)).mp b202
                exfalso; omega
              · skip
                replace b202 := mt (nI_eq (a := 1) (b := 0) (by omega) (by omega)).mpr b202
                refine lv_aload_n hx hb d_M_joined_126 rfl (lv_at hl 2 rfl) ?_
                refine pf_get (v := .ref (g.lk M 18)) (C := "BigRunnerModel") (T := FT10) (N := 45) hx hb (hw10 hB _) (fun _ h9 => h9) hown hK hP (lo_in hL t_M (by decide)) e1 rfl 18 (by decide) (wd_965 hB _) rfl d_M_joined_127 ?_
                refine lv_iload_n hx hb d_M_joined_130 rfl (lv_at hl 3 rfl) ?_
                refine lv_aload_n hx hb d_M_joined_131 rfl (lv_at hl 2 rfl) ?_
                refine pf_get (v := .ref (g.lk M 22)) (C := "BigRunnerModel") (T := FT10) (N := 45) hx hb (hw10 hB _) (fun _ h9 => h9) hown hK hP (lo_in hL t_M (by decide)) e1 rfl 22 (by decide) (wd_969 hB _) rfl d_M_joined_132 ?_
                refine lv_iconst (v := nI 0) hx hb d_M_joined_135 (by decide) ?_
                obtain ⟨h_204, e203⟩ := oc_54.of (lo_k11_22 hL _ t_M) (hI197.1 (g.lk M 22))
                replace e203 := (hk201 (g.lk M 22) (tg_ne (lo_k11_22 hL _ t_M) (lo_k11_19 hL _ t_M) (by decide))).trans e203
                refine pf_lald (i := 0) hx hb hK hP (lo_in hL (lo_k11_22 hL _ t_M) (by decide)) e203 (lo_t54 hL _ (lo_k11_22 hL _ t_M)) (by omega) (by decide) d_M_joined_136 ?_
                refine lv_topl (fun lv206 _ => ?_)
                have hI207 := iv_1 hI197 hL (lo_k11_19 hL _ t_M) (by decide) hk201 (oc_51.mk (lo_k11_19 hL _ t_M) (⟨_, e199⟩))
                obtain ⟨h_209, e208⟩ := oc_50.of (lo_k11_18 hL _ t_M) (hI207.1 (g.lk M 18))
                refine pf_last (i := v9) hx hb hK hP hD hS (lo_in hL (lo_k11_18 hL _ t_M) (by decide)) e208 (lo_t50 hL _ (lo_k11_18 hL _ t_M)) (by omega) (by decide) d_M_joined_137 (fun f211 H locs e212 k213 hP hD hS => ?_)
                have eO := (k213 (g.lk M 20) (tg_ne (lo_k11_20 hL _ t_M) (lo_k11_18 hL _ t_M) (by decide))).trans eO
                have e1 := (k213 M (tg_ne t_M (lo_k11_18 hL _ t_M) (by decide))).trans e1
                have e133 := (k213 (g.lk M 23) (tg_ne (lo_k11_23 hL _ t_M) (lo_k11_18 hL _ t_M) (by decide))).trans e133
                have e178 := (k213 (g.lk M 24) (tg_ne (lo_k11_24 hL _ t_M) (lo_k11_18 hL _ t_M) (by decide))).trans e178
                have e184 := (k213 (g.lk M 21) (tg_ne (lo_k11_21 hL _ t_M) (lo_k11_18 hL _ t_M) (by decide))).trans e184
                have e192 := (k213 (g.lk M 17) (tg_ne (lo_k11_17 hL _ t_M) (lo_k11_18 hL _ t_M) (by decide))).trans e192
                have e199 := (k213 (g.lk M 19) (tg_ne (lo_k11_19 hL _ t_M) (lo_k11_18 hL _ t_M) (by decide))).trans e199
                have e203 := (k213 (g.lk M 22) (tg_ne (lo_k11_22 hL _ t_M) (lo_k11_18 hL _ t_M) (by decide))).trans e203
                have hu := hu.st k213 (lo_k11_18 hL _ t_M) (by decide)
                have hk214 : ∀ b, b ≠ (g.lk M 18) → f211 b = f198 b := k213
                refine lv_aload_n hx hb d_M_joined_138 rfl (lv_at hl 2 rfl) ?_
                refine pf_get (v := .ref (g.lk M 20)) (C := "BigRunnerModel") (T := FT10) (N := 45) hx hb (hw10 hB _) (fun _ h9 => h9) hown hK hP (lo_in hL t_M (by decide)) e1 rfl 20 (by decide) (wd_967 hB _) rfl d_M_joined_139 ?_
                refine lv_iload_n hx hb d_M_joined_142 rfl (lv_at hl 3 rfl) ?_
                refine lv_aload_n hx hb d_M_joined_143 rfl (lv_at hl 2 rfl) ?_
                refine pf_get (v := .ref (g.lk M 24)) (C := "BigRunnerModel") (T := FT10) (N := 45) hx hb (hw10 hB _) (fun _ h9 => h9) hown hK hP (lo_in hL t_M (by decide)) e1 rfl 24 (by decide) (wd_971 hB _) rfl d_M_joined_144 ?_
                refine lv_iconst (v := nI 0) hx hb d_M_joined_147 (by decide) ?_
                refine pf_zald (i := 0) hx hb hK hP (lo_in hL (lo_k11_24 hL _ t_M) (by decide)) e178 (lo_t56 hL _ (lo_k11_24 hL _ t_M)) (by omega) (by decide) d_M_joined_148 ?_
                refine lv_topi (fun iv215 _ => ?_)
                refine lv_if_ne (tgt := 156) hx hb d_M_joined_149 (by decide) (fun b216 => ?_) (fun b216 => ?_)
                · skip
                  refine lv_iconst (v := nI 1) hx hb d_M_joined_156 (by decide) ?_
                  refine lv_goto (tgt := 161) hx hb d_M_joined_157 (by decide) ?_
                  have hI217 := iv_1 hI207 hL (lo_k11_18 hL _ t_M) (by decide) hk214 (oc_50.mk (lo_k11_18 hL _ t_M) (⟨_, e212⟩))
                  refine pf_zast (i := v9) hx hb hK hP hD hS (lo_in hL (lo_k11_20 hL _ t_M) (by decide)) eO (lo_t52 hL _ (lo_k11_20 hL _ t_M)) (by omega) (by decide) d_M_joined_161 (fun f218 H locs e219 k220 hP hD hS => ?_)
                  have e1 := (k220 M (tg_ne t_M (lo_k11_20 hL _ t_M) (by decide))).trans e1
                  have e133 := (k220 (g.lk M 23) (tg_ne (lo_k11_23 hL _ t_M) (lo_k11_20 hL _ t_M) (by decide))).trans e133
                  have e178 := (k220 (g.lk M 24) (tg_ne (lo_k11_24 hL _ t_M) (lo_k11_20 hL _ t_M) (by decide))).trans e178
                  have e184 := (k220 (g.lk M 21) (tg_ne (lo_k11_21 hL _ t_M) (lo_k11_20 hL _ t_M) (by decide))).trans e184
                  have e192 := (k220 (g.lk M 17) (tg_ne (lo_k11_17 hL _ t_M) (lo_k11_20 hL _ t_M) (by decide))).trans e192
                  have e199 := (k220 (g.lk M 19) (tg_ne (lo_k11_19 hL _ t_M) (lo_k11_20 hL _ t_M) (by decide))).trans e199
                  have e203 := (k220 (g.lk M 22) (tg_ne (lo_k11_22 hL _ t_M) (lo_k11_20 hL _ t_M) (by decide))).trans e203
                  have e212 := (k220 (g.lk M 18) (tg_ne (lo_k11_18 hL _ t_M) (lo_k11_20 hL _ t_M) (by decide))).trans e212
                  have hu := hu.st k220 (lo_k11_20 hL _ t_M) (by decide)
                  have hk221 : ∀ b, b ≠ (g.lk M 20) → f218 b = f211 b := k220
                  refine lv_iload_n hx hb d_M_joined_162 rfl (lv_at hl 1 rfl) ?_
                  refine lv_if_ne (tgt := 171) hx hb d_M_joined_163 (by decide) (fun b222 => ?_) (fun b222 => ?_)
                  · skip
                    replace b222 := mt (nI_eq (a := 1) (b := 0) (by omega) (by omega)).mpr b222
                    refine lv_iconst (v := nI 1) hx hb d_M_joined_171 (by decide) ?_
                    refine lv_goto (tgt := 176) hx hb d_M_joined_172 (by decide) ?_
                    have hI223 := iv_1 hI217 hL (lo_k11_20 hL _ t_M) (by decide) hk221 (oc_52.mk (lo_k11_20 hL _ t_M) (⟨_, e219⟩))
                    exact pe_zret hx hb hr hlocks hK hP hD hS d_M_joined_176 rfl ⟨(Or.inr rfl), ⟨_, _, e199, e219, (by have z_hU := cz_1 (x := (vp_nar .boolean ((nI 1)))) b35 (by decide) 10 hv9; have z_hO := cz_1 (x := (vp_nar .boolean ((nI 1)))) b138 (by decide) 10 hv9; first | omega | exact Nat.le_refl _), (fun _ w9 => by have z_hU := cz_1 (x := (vp_nar .boolean ((nI 1)))) b35 (by decide) 10 hv9; have z_hO := cz_1 (x := (vp_nar .boolean ((nI 1)))) b138 (by decide) 10 hv9; first | omega | exact absurd (by assumption) w9)⟩, hI223, hu⟩
                  · skip
                    replace b222 := (nI_eq (a := 1) (b := 0) (by omega) (by omega)).mp b222
                    exfalso; omega
                · skip
                  refine lv_iload_n hx hb d_M_joined_152 rfl (lv_at hl 4 rfl) ?_
                  refine lv_if_eq (tgt := 160) hx hb d_M_joined_153 (by decide) (fun b224 => ?_) (fun b224 => ?_)
                  · skip
                    refine lv_iconst (v := nI 0) hx hb d_M_joined_160 (by decide) ?_
                    have hI225 := iv_1 hI207 hL (lo_k11_18 hL _ t_M) (by decide) hk214 (oc_50.mk (lo_k11_18 hL _ t_M) (⟨_, e212⟩))
                    refine pf_zast (i := v9) hx hb hK hP hD hS (lo_in hL (lo_k11_20 hL _ t_M) (by decide)) eO (lo_t52 hL _ (lo_k11_20 hL _ t_M)) (by omega) (by decide) d_M_joined_161 (fun f226 H locs e227 k228 hP hD hS => ?_)
                    have e1 := (k228 M (tg_ne t_M (lo_k11_20 hL _ t_M) (by decide))).trans e1
                    have e133 := (k228 (g.lk M 23) (tg_ne (lo_k11_23 hL _ t_M) (lo_k11_20 hL _ t_M) (by decide))).trans e133
                    have e178 := (k228 (g.lk M 24) (tg_ne (lo_k11_24 hL _ t_M) (lo_k11_20 hL _ t_M) (by decide))).trans e178
                    have e184 := (k228 (g.lk M 21) (tg_ne (lo_k11_21 hL _ t_M) (lo_k11_20 hL _ t_M) (by decide))).trans e184
                    have e192 := (k228 (g.lk M 17) (tg_ne (lo_k11_17 hL _ t_M) (lo_k11_20 hL _ t_M) (by decide))).trans e192
                    have e199 := (k228 (g.lk M 19) (tg_ne (lo_k11_19 hL _ t_M) (lo_k11_20 hL _ t_M) (by decide))).trans e199
                    have e203 := (k228 (g.lk M 22) (tg_ne (lo_k11_22 hL _ t_M) (lo_k11_20 hL _ t_M) (by decide))).trans e203
                    have e212 := (k228 (g.lk M 18) (tg_ne (lo_k11_18 hL _ t_M) (lo_k11_20 hL _ t_M) (by decide))).trans e212
                    have hu := hu.st k228 (lo_k11_20 hL _ t_M) (by decide)
                    have hk229 : ∀ b, b ≠ (g.lk M 20) → f226 b = f211 b := k228
                    refine lv_iload_n hx hb d_M_joined_162 rfl (lv_at hl 1 rfl) ?_
                    refine lv_if_ne (tgt := 171) hx hb d_M_joined_163 (by decide) (fun b230 => ?_) (fun b230 => ?_)
                    · skip
                      replace b230 := mt (nI_eq (a := 1) (b := 0) (by omega) (by omega)).mpr b230
                      refine lv_iconst (v := nI 1) hx hb d_M_joined_171 (by decide) ?_
                      refine lv_goto (tgt := 176) hx hb d_M_joined_172 (by decide) ?_
                      have hI231 := iv_1 hI225 hL (lo_k11_20 hL _ t_M) (by decide) hk229 (oc_52.mk (lo_k11_20 hL _ t_M) (⟨_, e227⟩))
                      exact pe_zret hx hb hr hlocks hK hP hD hS d_M_joined_176 rfl ⟨(Or.inr rfl), ⟨_, _, e199, e227, (by have z_hU := cz_1 (x := (vp_nar .boolean ((nI 1)))) b35 (by decide) 10 hv9; have z_hO := cz_0 (x := (vp_nar .boolean ((nI 0)))) b138 (by decide) 10; first | omega | exact Nat.le_refl _), (fun _ w9 => by have z_hU := cz_1 (x := (vp_nar .boolean ((nI 1)))) b35 (by decide) 10 hv9; have z_hO := cz_0 (x := (vp_nar .boolean ((nI 0)))) b138 (by decide) 10; first | omega | exact absurd (by assumption) w9)⟩, hI231, hu⟩
                    · skip
                      replace b230 := (nI_eq (a := 1) (b := 0) (by omega) (by omega)).mp b230
                      exfalso; omega
                  · skip
                    refine lv_iconst (v := nI 1) hx hb d_M_joined_156 (by decide) ?_
                    refine lv_goto (tgt := 161) hx hb d_M_joined_157 (by decide) ?_
                    have hI232 := iv_1 hI207 hL (lo_k11_18 hL _ t_M) (by decide) hk214 (oc_50.mk (lo_k11_18 hL _ t_M) (⟨_, e212⟩))
                    refine pf_zast (i := v9) hx hb hK hP hD hS (lo_in hL (lo_k11_20 hL _ t_M) (by decide)) eO (lo_t52 hL _ (lo_k11_20 hL _ t_M)) (by omega) (by decide) d_M_joined_161 (fun f233 H locs e234 k235 hP hD hS => ?_)
                    have e1 := (k235 M (tg_ne t_M (lo_k11_20 hL _ t_M) (by decide))).trans e1
                    have e133 := (k235 (g.lk M 23) (tg_ne (lo_k11_23 hL _ t_M) (lo_k11_20 hL _ t_M) (by decide))).trans e133
                    have e178 := (k235 (g.lk M 24) (tg_ne (lo_k11_24 hL _ t_M) (lo_k11_20 hL _ t_M) (by decide))).trans e178
                    have e184 := (k235 (g.lk M 21) (tg_ne (lo_k11_21 hL _ t_M) (lo_k11_20 hL _ t_M) (by decide))).trans e184
                    have e192 := (k235 (g.lk M 17) (tg_ne (lo_k11_17 hL _ t_M) (lo_k11_20 hL _ t_M) (by decide))).trans e192
                    have e199 := (k235 (g.lk M 19) (tg_ne (lo_k11_19 hL _ t_M) (lo_k11_20 hL _ t_M) (by decide))).trans e199
                    have e203 := (k235 (g.lk M 22) (tg_ne (lo_k11_22 hL _ t_M) (lo_k11_20 hL _ t_M) (by decide))).trans e203
                    have e212 := (k235 (g.lk M 18) (tg_ne (lo_k11_18 hL _ t_M) (lo_k11_20 hL _ t_M) (by decide))).trans e212
                    have hu := hu.st k235 (lo_k11_20 hL _ t_M) (by decide)
                    have hk236 : ∀ b, b ≠ (g.lk M 20) → f233 b = f211 b := k235
                    refine lv_iload_n hx hb d_M_joined_162 rfl (lv_at hl 1 rfl) ?_
                    refine lv_if_ne (tgt := 171) hx hb d_M_joined_163 (by decide) (fun b237 => ?_) (fun b237 => ?_)
                    · skip
                      replace b237 := mt (nI_eq (a := 1) (b := 0) (by omega) (by omega)).mpr b237
                      refine lv_iconst (v := nI 1) hx hb d_M_joined_171 (by decide) ?_
                      refine lv_goto (tgt := 176) hx hb d_M_joined_172 (by decide) ?_
                      have hI238 := iv_1 hI232 hL (lo_k11_20 hL _ t_M) (by decide) hk236 (oc_52.mk (lo_k11_20 hL _ t_M) (⟨_, e234⟩))
                      exact pe_zret hx hb hr hlocks hK hP hD hS d_M_joined_176 rfl ⟨(Or.inr rfl), ⟨_, _, e199, e234, (by have z_hU := cz_1 (x := (vp_nar .boolean ((nI 1)))) b35 (by decide) 10 hv9; have z_hO := cz_1 (x := (vp_nar .boolean ((nI 1)))) b138 (by decide) 10 hv9; first | omega | exact Nat.le_refl _), (fun _ w9 => by have z_hU := cz_1 (x := (vp_nar .boolean ((nI 1)))) b35 (by decide) 10 hv9; have z_hO := cz_1 (x := (vp_nar .boolean ((nI 1)))) b138 (by decide) 10 hv9; first | omega | exact absurd (by assumption) w9)⟩, hI238, hu⟩
                    · skip
                      replace b237 := (nI_eq (a := 1) (b := 0) (by omega) (by omega)).mp b237
                      exfalso; omega
            · skip
              refine lv_iload_n hx hb d_M_joined_111 rfl (lv_at hl 4 rfl) ?_
              refine lv_if_eq (tgt := 119) hx hb d_M_joined_112 (by decide) (fun b239 => ?_) (fun b239 => ?_)
              · skip
                refine lv_iconst (v := nI 0) hx hb d_M_joined_119 (by decide) ?_
                have hI240 := iv_1 hI hL (lo_k11_17 hL _ t_M) (by decide) hk194 (oc_49.mk (lo_k11_17 hL _ t_M) (⟨_, e192⟩))
                refine pf_zast (i := v9) hx hb hK hP hD hS (lo_in hL (lo_k11_19 hL _ t_M) (by decide)) eU (lo_t51 hL _ (lo_k11_19 hL _ t_M)) (by omega) (by decide) d_M_joined_120 (fun f241 H locs e242 k243 hP hD hS => ?_)
                have eO := (k243 (g.lk M 20) (tg_ne (lo_k11_20 hL _ t_M) (lo_k11_19 hL _ t_M) (by decide))).trans eO
                have e1 := (k243 M (tg_ne t_M (lo_k11_19 hL _ t_M) (by decide))).trans e1
                have e133 := (k243 (g.lk M 23) (tg_ne (lo_k11_23 hL _ t_M) (lo_k11_19 hL _ t_M) (by decide))).trans e133
                have e178 := (k243 (g.lk M 24) (tg_ne (lo_k11_24 hL _ t_M) (lo_k11_19 hL _ t_M) (by decide))).trans e178
                have e184 := (k243 (g.lk M 21) (tg_ne (lo_k11_21 hL _ t_M) (lo_k11_19 hL _ t_M) (by decide))).trans e184
                have e192 := (k243 (g.lk M 17) (tg_ne (lo_k11_17 hL _ t_M) (lo_k11_19 hL _ t_M) (by decide))).trans e192
                have hu := hu.st k243 (lo_k11_19 hL _ t_M) (by decide)
                have hk244 : ∀ b, b ≠ (g.lk M 19) → f241 b = f191 b := k243
                refine lv_iload hx hb d_M_joined_121 (lv_at hl 0 rfl) ?_
                refine lv_if_eq (tgt := 162) hx hb d_M_joined_123 (by decide) (fun b245 => ?_) (fun b245 => ?_)
                · skip
                  replace b245 := (nI_eq (a := 1) (b := 0) (by omega) (by omega)).mp b245
                  exfalso; omega
                · skip
                  replace b245 := mt (nI_eq (a := 1) (b := 0) (by omega) (by omega)).mpr b245
                  refine lv_aload_n hx hb d_M_joined_126 rfl (lv_at hl 2 rfl) ?_
                  refine pf_get (v := .ref (g.lk M 18)) (C := "BigRunnerModel") (T := FT10) (N := 45) hx hb (hw10 hB _) (fun _ h9 => h9) hown hK hP (lo_in hL t_M (by decide)) e1 rfl 18 (by decide) (wd_965 hB _) rfl d_M_joined_127 ?_
                  refine lv_iload_n hx hb d_M_joined_130 rfl (lv_at hl 3 rfl) ?_
                  refine lv_aload_n hx hb d_M_joined_131 rfl (lv_at hl 2 rfl) ?_
                  refine pf_get (v := .ref (g.lk M 22)) (C := "BigRunnerModel") (T := FT10) (N := 45) hx hb (hw10 hB _) (fun _ h9 => h9) hown hK hP (lo_in hL t_M (by decide)) e1 rfl 22 (by decide) (wd_969 hB _) rfl d_M_joined_132 ?_
                  refine lv_iconst (v := nI 0) hx hb d_M_joined_135 (by decide) ?_
                  obtain ⟨h_247, e246⟩ := oc_54.of (lo_k11_22 hL _ t_M) (hI240.1 (g.lk M 22))
                  replace e246 := (hk244 (g.lk M 22) (tg_ne (lo_k11_22 hL _ t_M) (lo_k11_19 hL _ t_M) (by decide))).trans e246
                  refine pf_lald (i := 0) hx hb hK hP (lo_in hL (lo_k11_22 hL _ t_M) (by decide)) e246 (lo_t54 hL _ (lo_k11_22 hL _ t_M)) (by omega) (by decide) d_M_joined_136 ?_
                  refine lv_topl (fun lv249 _ => ?_)
                  have hI250 := iv_1 hI240 hL (lo_k11_19 hL _ t_M) (by decide) hk244 (oc_51.mk (lo_k11_19 hL _ t_M) (⟨_, e242⟩))
                  obtain ⟨h_252, e251⟩ := oc_50.of (lo_k11_18 hL _ t_M) (hI250.1 (g.lk M 18))
                  refine pf_last (i := v9) hx hb hK hP hD hS (lo_in hL (lo_k11_18 hL _ t_M) (by decide)) e251 (lo_t50 hL _ (lo_k11_18 hL _ t_M)) (by omega) (by decide) d_M_joined_137 (fun f254 H locs e255 k256 hP hD hS => ?_)
                  have eO := (k256 (g.lk M 20) (tg_ne (lo_k11_20 hL _ t_M) (lo_k11_18 hL _ t_M) (by decide))).trans eO
                  have e1 := (k256 M (tg_ne t_M (lo_k11_18 hL _ t_M) (by decide))).trans e1
                  have e133 := (k256 (g.lk M 23) (tg_ne (lo_k11_23 hL _ t_M) (lo_k11_18 hL _ t_M) (by decide))).trans e133
                  have e178 := (k256 (g.lk M 24) (tg_ne (lo_k11_24 hL _ t_M) (lo_k11_18 hL _ t_M) (by decide))).trans e178
                  have e184 := (k256 (g.lk M 21) (tg_ne (lo_k11_21 hL _ t_M) (lo_k11_18 hL _ t_M) (by decide))).trans e184
                  have e192 := (k256 (g.lk M 17) (tg_ne (lo_k11_17 hL _ t_M) (lo_k11_18 hL _ t_M) (by decide))).trans e192
                  have e242 := (k256 (g.lk M 19) (tg_ne (lo_k11_19 hL _ t_M) (lo_k11_18 hL _ t_M) (by decide))).trans e242
                  have e246 := (k256 (g.lk M 22) (tg_ne (lo_k11_22 hL _ t_M) (lo_k11_18 hL _ t_M) (by decide))).trans e246
                  have hu := hu.st k256 (lo_k11_18 hL _ t_M) (by decide)
                  have hk257 : ∀ b, b ≠ (g.lk M 18) → f254 b = f241 b := k256
                  refine lv_aload_n hx hb d_M_joined_138 rfl (lv_at hl 2 rfl) ?_
                  refine pf_get (v := .ref (g.lk M 20)) (C := "BigRunnerModel") (T := FT10) (N := 45) hx hb (hw10 hB _) (fun _ h9 => h9) hown hK hP (lo_in hL t_M (by decide)) e1 rfl 20 (by decide) (wd_967 hB _) rfl d_M_joined_139 ?_
                  refine lv_iload_n hx hb d_M_joined_142 rfl (lv_at hl 3 rfl) ?_
                  refine lv_aload_n hx hb d_M_joined_143 rfl (lv_at hl 2 rfl) ?_
                  refine pf_get (v := .ref (g.lk M 24)) (C := "BigRunnerModel") (T := FT10) (N := 45) hx hb (hw10 hB _) (fun _ h9 => h9) hown hK hP (lo_in hL t_M (by decide)) e1 rfl 24 (by decide) (wd_971 hB _) rfl d_M_joined_144 ?_
                  refine lv_iconst (v := nI 0) hx hb d_M_joined_147 (by decide) ?_
                  refine pf_zald (i := 0) hx hb hK hP (lo_in hL (lo_k11_24 hL _ t_M) (by decide)) e178 (lo_t56 hL _ (lo_k11_24 hL _ t_M)) (by omega) (by decide) d_M_joined_148 ?_
                  refine lv_topi (fun iv258 _ => ?_)
                  refine lv_if_ne (tgt := 156) hx hb d_M_joined_149 (by decide) (fun b259 => ?_) (fun b259 => ?_)
                  · skip
                    refine lv_iconst (v := nI 1) hx hb d_M_joined_156 (by decide) ?_
                    refine lv_goto (tgt := 161) hx hb d_M_joined_157 (by decide) ?_
                    have hI260 := iv_1 hI250 hL (lo_k11_18 hL _ t_M) (by decide) hk257 (oc_50.mk (lo_k11_18 hL _ t_M) (⟨_, e255⟩))
                    refine pf_zast (i := v9) hx hb hK hP hD hS (lo_in hL (lo_k11_20 hL _ t_M) (by decide)) eO (lo_t52 hL _ (lo_k11_20 hL _ t_M)) (by omega) (by decide) d_M_joined_161 (fun f261 H locs e262 k263 hP hD hS => ?_)
                    have e1 := (k263 M (tg_ne t_M (lo_k11_20 hL _ t_M) (by decide))).trans e1
                    have e133 := (k263 (g.lk M 23) (tg_ne (lo_k11_23 hL _ t_M) (lo_k11_20 hL _ t_M) (by decide))).trans e133
                    have e178 := (k263 (g.lk M 24) (tg_ne (lo_k11_24 hL _ t_M) (lo_k11_20 hL _ t_M) (by decide))).trans e178
                    have e184 := (k263 (g.lk M 21) (tg_ne (lo_k11_21 hL _ t_M) (lo_k11_20 hL _ t_M) (by decide))).trans e184
                    have e192 := (k263 (g.lk M 17) (tg_ne (lo_k11_17 hL _ t_M) (lo_k11_20 hL _ t_M) (by decide))).trans e192
                    have e242 := (k263 (g.lk M 19) (tg_ne (lo_k11_19 hL _ t_M) (lo_k11_20 hL _ t_M) (by decide))).trans e242
                    have e246 := (k263 (g.lk M 22) (tg_ne (lo_k11_22 hL _ t_M) (lo_k11_20 hL _ t_M) (by decide))).trans e246
                    have e255 := (k263 (g.lk M 18) (tg_ne (lo_k11_18 hL _ t_M) (lo_k11_20 hL _ t_M) (by decide))).trans e255
                    have hu := hu.st k263 (lo_k11_20 hL _ t_M) (by decide)
                    have hk264 : ∀ b, b ≠ (g.lk M 20) → f261 b = f254 b := k263
                    refine lv_iload_n hx hb d_M_joined_162 rfl (lv_at hl 1 rfl) ?_
                    refine lv_if_ne (tgt := 171) hx hb d_M_joined_163 (by decide) (fun b265 => ?_) (fun b265 => ?_)
                    · skip
                      replace b265 := mt (nI_eq (a := 1) (b := 0) (by omega) (by omega)).mpr b265
                      refine lv_iconst (v := nI 1) hx hb d_M_joined_171 (by decide) ?_
                      refine lv_goto (tgt := 176) hx hb d_M_joined_172 (by decide) ?_
                      have hI266 := iv_1 hI260 hL (lo_k11_20 hL _ t_M) (by decide) hk264 (oc_52.mk (lo_k11_20 hL _ t_M) (⟨_, e262⟩))
                      exact pe_zret hx hb hr hlocks hK hP hD hS d_M_joined_176 rfl ⟨(Or.inr rfl), ⟨_, _, e242, e262, (by have z_hU := cz_0 (x := (vp_nar .boolean ((nI 0)))) b35 (by decide) 10; have z_hO := cz_1 (x := (vp_nar .boolean ((nI 1)))) b138 (by decide) 10 hv9; first | omega | exact Nat.le_refl _), (fun _ w9 => by have z_hU := cz_0 (x := (vp_nar .boolean ((nI 0)))) b35 (by decide) 10; have z_hO := cz_1 (x := (vp_nar .boolean ((nI 1)))) b138 (by decide) 10 hv9; first | omega | exact absurd (by assumption) w9)⟩, hI266, hu⟩
                    · skip
                      replace b265 := (nI_eq (a := 1) (b := 0) (by omega) (by omega)).mp b265
                      exfalso; omega
                  · skip
                    refine lv_iload_n hx hb d_M_joined_152 rfl (lv_at hl 4 rfl) ?_
                    refine lv_if_eq (tgt := 160) hx hb d_M_joined_153 (by decide) (fun b267 => ?_) (fun b267 => ?_)
                    · skip
                      refine lv_iconst (v := nI 0) hx hb d_M_joined_160 (by decide) ?_
                      have hI268 := iv_1 hI250 hL (lo_k11_18 hL _ t_M) (by decide) hk257 (oc_50.mk (lo_k11_18 hL _ t_M) (⟨_, e255⟩))
                      refine pf_zast (i := v9) hx hb hK hP hD hS (lo_in hL (lo_k11_20 hL _ t_M) (by decide)) eO (lo_t52 hL _ (lo_k11_20 hL _ t_M)) (by omega) (by decide) d_M_joined_161 (fun f269 H locs e270 k271 hP hD hS => ?_)
                      have e1 := (k271 M (tg_ne t_M (lo_k11_20 hL _ t_M) (by decide))).trans e1
                      have e133 := (k271 (g.lk M 23) (tg_ne (lo_k11_23 hL _ t_M) (lo_k11_20 hL _ t_M) (by decide))).trans e133
                      have e178 := (k271 (g.lk M 24) (tg_ne (lo_k11_24 hL _ t_M) (lo_k11_20 hL _ t_M) (by decide))).trans e178
                      have e184 := (k271 (g.lk M 21) (tg_ne (lo_k11_21 hL _ t_M) (lo_k11_20 hL _ t_M) (by decide))).trans e184
                      have e192 := (k271 (g.lk M 17) (tg_ne (lo_k11_17 hL _ t_M) (lo_k11_20 hL _ t_M) (by decide))).trans e192
                      have e242 := (k271 (g.lk M 19) (tg_ne (lo_k11_19 hL _ t_M) (lo_k11_20 hL _ t_M) (by decide))).trans e242
                      have e246 := (k271 (g.lk M 22) (tg_ne (lo_k11_22 hL _ t_M) (lo_k11_20 hL _ t_M) (by decide))).trans e246
                      have e255 := (k271 (g.lk M 18) (tg_ne (lo_k11_18 hL _ t_M) (lo_k11_20 hL _ t_M) (by decide))).trans e255
                      have hu := hu.st k271 (lo_k11_20 hL _ t_M) (by decide)
                      have hk272 : ∀ b, b ≠ (g.lk M 20) → f269 b = f254 b := k271
                      refine lv_iload_n hx hb d_M_joined_162 rfl (lv_at hl 1 rfl) ?_
                      refine lv_if_ne (tgt := 171) hx hb d_M_joined_163 (by decide) (fun b273 => ?_) (fun b273 => ?_)
                      · skip
                        replace b273 := mt (nI_eq (a := 1) (b := 0) (by omega) (by omega)).mpr b273
                        refine lv_iconst (v := nI 1) hx hb d_M_joined_171 (by decide) ?_
                        refine lv_goto (tgt := 176) hx hb d_M_joined_172 (by decide) ?_
                        have hI274 := iv_1 hI268 hL (lo_k11_20 hL _ t_M) (by decide) hk272 (oc_52.mk (lo_k11_20 hL _ t_M) (⟨_, e270⟩))
                        exact pe_zret hx hb hr hlocks hK hP hD hS d_M_joined_176 rfl ⟨(Or.inr rfl), ⟨_, _, e242, e270, (by have z_hU := cz_0 (x := (vp_nar .boolean ((nI 0)))) b35 (by decide) 10; have z_hO := cz_0 (x := (vp_nar .boolean ((nI 0)))) b138 (by decide) 10; first | omega | exact Nat.le_refl _), (fun _ w9 => by have z_hU := cz_0 (x := (vp_nar .boolean ((nI 0)))) b35 (by decide) 10; have z_hO := cz_0 (x := (vp_nar .boolean ((nI 0)))) b138 (by decide) 10; first | omega | exact absurd (by assumption) w9)⟩, hI274, hu⟩
                      · skip
                        replace b273 := (nI_eq (a := 1) (b := 0) (by omega) (by omega)).mp b273
                        exfalso; omega
                    · skip
                      refine lv_iconst (v := nI 1) hx hb d_M_joined_156 (by decide) ?_
                      refine lv_goto (tgt := 161) hx hb d_M_joined_157 (by decide) ?_
                      have hI275 := iv_1 hI250 hL (lo_k11_18 hL _ t_M) (by decide) hk257 (oc_50.mk (lo_k11_18 hL _ t_M) (⟨_, e255⟩))
                      refine pf_zast (i := v9) hx hb hK hP hD hS (lo_in hL (lo_k11_20 hL _ t_M) (by decide)) eO (lo_t52 hL _ (lo_k11_20 hL _ t_M)) (by omega) (by decide) d_M_joined_161 (fun f276 H locs e277 k278 hP hD hS => ?_)
                      have e1 := (k278 M (tg_ne t_M (lo_k11_20 hL _ t_M) (by decide))).trans e1
                      have e133 := (k278 (g.lk M 23) (tg_ne (lo_k11_23 hL _ t_M) (lo_k11_20 hL _ t_M) (by decide))).trans e133
                      have e178 := (k278 (g.lk M 24) (tg_ne (lo_k11_24 hL _ t_M) (lo_k11_20 hL _ t_M) (by decide))).trans e178
                      have e184 := (k278 (g.lk M 21) (tg_ne (lo_k11_21 hL _ t_M) (lo_k11_20 hL _ t_M) (by decide))).trans e184
                      have e192 := (k278 (g.lk M 17) (tg_ne (lo_k11_17 hL _ t_M) (lo_k11_20 hL _ t_M) (by decide))).trans e192
                      have e242 := (k278 (g.lk M 19) (tg_ne (lo_k11_19 hL _ t_M) (lo_k11_20 hL _ t_M) (by decide))).trans e242
                      have e246 := (k278 (g.lk M 22) (tg_ne (lo_k11_22 hL _ t_M) (lo_k11_20 hL _ t_M) (by decide))).trans e246
                      have e255 := (k278 (g.lk M 18) (tg_ne (lo_k11_18 hL _ t_M) (lo_k11_20 hL _ t_M) (by decide))).trans e255
                      have hu := hu.st k278 (lo_k11_20 hL _ t_M) (by decide)
                      have hk279 : ∀ b, b ≠ (g.lk M 20) → f276 b = f254 b := k278
                      refine lv_iload_n hx hb d_M_joined_162 rfl (lv_at hl 1 rfl) ?_
                      refine lv_if_ne (tgt := 171) hx hb d_M_joined_163 (by decide) (fun b280 => ?_) (fun b280 => ?_)
                      · skip
                        replace b280 := mt (nI_eq (a := 1) (b := 0) (by omega) (by omega)).mpr b280
                        refine lv_iconst (v := nI 1) hx hb d_M_joined_171 (by decide) ?_
                        refine lv_goto (tgt := 176) hx hb d_M_joined_172 (by decide) ?_
                        have hI281 := iv_1 hI275 hL (lo_k11_20 hL _ t_M) (by decide) hk279 (oc_52.mk (lo_k11_20 hL _ t_M) (⟨_, e277⟩))
                        exact pe_zret hx hb hr hlocks hK hP hD hS d_M_joined_176 rfl ⟨(Or.inr rfl), ⟨_, _, e242, e277, (by have z_hU := cz_0 (x := (vp_nar .boolean ((nI 0)))) b35 (by decide) 10; have z_hO := cz_1 (x := (vp_nar .boolean ((nI 1)))) b138 (by decide) 10 hv9; first | omega | exact Nat.le_refl _), (fun _ w9 => by have z_hU := cz_0 (x := (vp_nar .boolean ((nI 0)))) b35 (by decide) 10; have z_hO := cz_1 (x := (vp_nar .boolean ((nI 1)))) b138 (by decide) 10 hv9; first | omega | exact absurd (by assumption) w9)⟩, hI281, hu⟩
                      · skip
                        replace b280 := (nI_eq (a := 1) (b := 0) (by omega) (by omega)).mp b280
                        exfalso; omega
              · skip
                refine lv_iconst (v := nI 1) hx hb d_M_joined_115 (by decide) ?_
                refine lv_goto (tgt := 120) hx hb d_M_joined_116 (by decide) ?_
                have hI282 := iv_1 hI hL (lo_k11_17 hL _ t_M) (by decide) hk194 (oc_49.mk (lo_k11_17 hL _ t_M) (⟨_, e192⟩))
                refine pf_zast (i := v9) hx hb hK hP hD hS (lo_in hL (lo_k11_19 hL _ t_M) (by decide)) eU (lo_t51 hL _ (lo_k11_19 hL _ t_M)) (by omega) (by decide) d_M_joined_120 (fun f283 H locs e284 k285 hP hD hS => ?_)
                have eO := (k285 (g.lk M 20) (tg_ne (lo_k11_20 hL _ t_M) (lo_k11_19 hL _ t_M) (by decide))).trans eO
                have e1 := (k285 M (tg_ne t_M (lo_k11_19 hL _ t_M) (by decide))).trans e1
                have e133 := (k285 (g.lk M 23) (tg_ne (lo_k11_23 hL _ t_M) (lo_k11_19 hL _ t_M) (by decide))).trans e133
                have e178 := (k285 (g.lk M 24) (tg_ne (lo_k11_24 hL _ t_M) (lo_k11_19 hL _ t_M) (by decide))).trans e178
                have e184 := (k285 (g.lk M 21) (tg_ne (lo_k11_21 hL _ t_M) (lo_k11_19 hL _ t_M) (by decide))).trans e184
                have e192 := (k285 (g.lk M 17) (tg_ne (lo_k11_17 hL _ t_M) (lo_k11_19 hL _ t_M) (by decide))).trans e192
                have hu := hu.st k285 (lo_k11_19 hL _ t_M) (by decide)
                have hk286 : ∀ b, b ≠ (g.lk M 19) → f283 b = f191 b := k285
                refine lv_iload hx hb d_M_joined_121 (lv_at hl 0 rfl) ?_
                refine lv_if_eq (tgt := 162) hx hb d_M_joined_123 (by decide) (fun b287 => ?_) (fun b287 => ?_)
                · skip
                  replace b287 := (nI_eq (a := 1) (b := 0) (by omega) (by omega)).mp b287
                  exfalso; omega
                · skip
                  replace b287 := mt (nI_eq (a := 1) (b := 0) (by omega) (by omega)).mpr b287
                  refine lv_aload_n hx hb d_M_joined_126 rfl (lv_at hl 2 rfl) ?_
                  refine pf_get (v := .ref (g.lk M 18)) (C := "BigRunnerModel") (T := FT10) (N := 45) hx hb (hw10 hB _) (fun _ h9 => h9) hown hK hP (lo_in hL t_M (by decide)) e1 rfl 18 (by decide) (wd_965 hB _) rfl d_M_joined_127 ?_
                  refine lv_iload_n hx hb d_M_joined_130 rfl (lv_at hl 3 rfl) ?_
                  refine lv_aload_n hx hb d_M_joined_131 rfl (lv_at hl 2 rfl) ?_
                  refine pf_get (v := .ref (g.lk M 22)) (C := "BigRunnerModel") (T := FT10) (N := 45) hx hb (hw10 hB _) (fun _ h9 => h9) hown hK hP (lo_in hL t_M (by decide)) e1 rfl 22 (by decide) (wd_969 hB _) rfl d_M_joined_132 ?_
                  refine lv_iconst (v := nI 0) hx hb d_M_joined_135 (by decide) ?_
                  obtain ⟨h_289, e288⟩ := oc_54.of (lo_k11_22 hL _ t_M) (hI282.1 (g.lk M 22))
                  replace e288 := (hk286 (g.lk M 22) (tg_ne (lo_k11_22 hL _ t_M) (lo_k11_19 hL _ t_M) (by decide))).trans e288
                  refine pf_lald (i := 0) hx hb hK hP (lo_in hL (lo_k11_22 hL _ t_M) (by decide)) e288 (lo_t54 hL _ (lo_k11_22 hL _ t_M)) (by omega) (by decide) d_M_joined_136 ?_
                  refine lv_topl (fun lv291 _ => ?_)
                  have hI292 := iv_1 hI282 hL (lo_k11_19 hL _ t_M) (by decide) hk286 (oc_51.mk (lo_k11_19 hL _ t_M) (⟨_, e284⟩))
                  obtain ⟨h_294, e293⟩ := oc_50.of (lo_k11_18 hL _ t_M) (hI292.1 (g.lk M 18))
                  refine pf_last (i := v9) hx hb hK hP hD hS (lo_in hL (lo_k11_18 hL _ t_M) (by decide)) e293 (lo_t50 hL _ (lo_k11_18 hL _ t_M)) (by omega) (by decide) d_M_joined_137 (fun f296 H locs e297 k298 hP hD hS => ?_)
                  have eO := (k298 (g.lk M 20) (tg_ne (lo_k11_20 hL _ t_M) (lo_k11_18 hL _ t_M) (by decide))).trans eO
                  have e1 := (k298 M (tg_ne t_M (lo_k11_18 hL _ t_M) (by decide))).trans e1
                  have e133 := (k298 (g.lk M 23) (tg_ne (lo_k11_23 hL _ t_M) (lo_k11_18 hL _ t_M) (by decide))).trans e133
                  have e178 := (k298 (g.lk M 24) (tg_ne (lo_k11_24 hL _ t_M) (lo_k11_18 hL _ t_M) (by decide))).trans e178
                  have e184 := (k298 (g.lk M 21) (tg_ne (lo_k11_21 hL _ t_M) (lo_k11_18 hL _ t_M) (by decide))).trans e184
                  have e192 := (k298 (g.lk M 17) (tg_ne (lo_k11_17 hL _ t_M) (lo_k11_18 hL _ t_M) (by decide))).trans e192
                  have e284 := (k298 (g.lk M 19) (tg_ne (lo_k11_19 hL _ t_M) (lo_k11_18 hL _ t_M) (by decide))).trans e284
                  have e288 := (k298 (g.lk M 22) (tg_ne (lo_k11_22 hL _ t_M) (lo_k11_18 hL _ t_M) (by decide))).trans e288
                  have hu := hu.st k298 (lo_k11_18 hL _ t_M) (by decide)
                  have hk299 : ∀ b, b ≠ (g.lk M 18) → f296 b = f283 b := k298
                  refine lv_aload_n hx hb d_M_joined_138 rfl (lv_at hl 2 rfl) ?_
                  refine pf_get (v := .ref (g.lk M 20)) (C := "BigRunnerModel") (T := FT10) (N := 45) hx hb (hw10 hB _) (fun _ h9 => h9) hown hK hP (lo_in hL t_M (by decide)) e1 rfl 20 (by decide) (wd_967 hB _) rfl d_M_joined_139 ?_
                  refine lv_iload_n hx hb d_M_joined_142 rfl (lv_at hl 3 rfl) ?_
                  refine lv_aload_n hx hb d_M_joined_143 rfl (lv_at hl 2 rfl) ?_
                  refine pf_get (v := .ref (g.lk M 24)) (C := "BigRunnerModel") (T := FT10) (N := 45) hx hb (hw10 hB _) (fun _ h9 => h9) hown hK hP (lo_in hL t_M (by decide)) e1 rfl 24 (by decide) (wd_971 hB _) rfl d_M_joined_144 ?_
                  refine lv_iconst (v := nI 0) hx hb d_M_joined_147 (by decide) ?_
                  refine pf_zald (i := 0) hx hb hK hP (lo_in hL (lo_k11_24 hL _ t_M) (by decide)) e178 (lo_t56 hL _ (lo_k11_24 hL _ t_M)) (by omega) (by decide) d_M_joined_148 ?_
                  refine lv_topi (fun iv300 _ => ?_)
                  refine lv_if_ne (tgt := 156) hx hb d_M_joined_149 (by decide) (fun b301 => ?_) (fun b301 => ?_)
                  · skip
                    refine lv_iconst (v := nI 1) hx hb d_M_joined_156 (by decide) ?_
                    refine lv_goto (tgt := 161) hx hb d_M_joined_157 (by decide) ?_
                    have hI302 := iv_1 hI292 hL (lo_k11_18 hL _ t_M) (by decide) hk299 (oc_50.mk (lo_k11_18 hL _ t_M) (⟨_, e297⟩))
                    refine pf_zast (i := v9) hx hb hK hP hD hS (lo_in hL (lo_k11_20 hL _ t_M) (by decide)) eO (lo_t52 hL _ (lo_k11_20 hL _ t_M)) (by omega) (by decide) d_M_joined_161 (fun f303 H locs e304 k305 hP hD hS => ?_)
                    have e1 := (k305 M (tg_ne t_M (lo_k11_20 hL _ t_M) (by decide))).trans e1
                    have e133 := (k305 (g.lk M 23) (tg_ne (lo_k11_23 hL _ t_M) (lo_k11_20 hL _ t_M) (by decide))).trans e133
                    have e178 := (k305 (g.lk M 24) (tg_ne (lo_k11_24 hL _ t_M) (lo_k11_20 hL _ t_M) (by decide))).trans e178
                    have e184 := (k305 (g.lk M 21) (tg_ne (lo_k11_21 hL _ t_M) (lo_k11_20 hL _ t_M) (by decide))).trans e184
                    have e192 := (k305 (g.lk M 17) (tg_ne (lo_k11_17 hL _ t_M) (lo_k11_20 hL _ t_M) (by decide))).trans e192
                    have e284 := (k305 (g.lk M 19) (tg_ne (lo_k11_19 hL _ t_M) (lo_k11_20 hL _ t_M) (by decide))).trans e284
                    have e288 := (k305 (g.lk M 22) (tg_ne (lo_k11_22 hL _ t_M) (lo_k11_20 hL _ t_M) (by decide))).trans e288
                    have e297 := (k305 (g.lk M 18) (tg_ne (lo_k11_18 hL _ t_M) (lo_k11_20 hL _ t_M) (by decide))).trans e297
                    have hu := hu.st k305 (lo_k11_20 hL _ t_M) (by decide)
                    have hk306 : ∀ b, b ≠ (g.lk M 20) → f303 b = f296 b := k305
                    refine lv_iload_n hx hb d_M_joined_162 rfl (lv_at hl 1 rfl) ?_
                    refine lv_if_ne (tgt := 171) hx hb d_M_joined_163 (by decide) (fun b307 => ?_) (fun b307 => ?_)
                    · skip
                      replace b307 := mt (nI_eq (a := 1) (b := 0) (by omega) (by omega)).mpr b307
                      refine lv_iconst (v := nI 1) hx hb d_M_joined_171 (by decide) ?_
                      refine lv_goto (tgt := 176) hx hb d_M_joined_172 (by decide) ?_
                      have hI308 := iv_1 hI302 hL (lo_k11_20 hL _ t_M) (by decide) hk306 (oc_52.mk (lo_k11_20 hL _ t_M) (⟨_, e304⟩))
                      exact pe_zret hx hb hr hlocks hK hP hD hS d_M_joined_176 rfl ⟨(Or.inr rfl), ⟨_, _, e284, e304, (by have z_hU := cz_1 (x := (vp_nar .boolean ((nI 1)))) b35 (by decide) 10 hv9; have z_hO := cz_1 (x := (vp_nar .boolean ((nI 1)))) b138 (by decide) 10 hv9; first | omega | exact Nat.le_refl _), (fun _ w9 => by have z_hU := cz_1 (x := (vp_nar .boolean ((nI 1)))) b35 (by decide) 10 hv9; have z_hO := cz_1 (x := (vp_nar .boolean ((nI 1)))) b138 (by decide) 10 hv9; first | omega | exact absurd (by assumption) w9)⟩, hI308, hu⟩
                    · skip
                      replace b307 := (nI_eq (a := 1) (b := 0) (by omega) (by omega)).mp b307
                      exfalso; omega
                  · skip
                    refine lv_iload_n hx hb d_M_joined_152 rfl (lv_at hl 4 rfl) ?_
                    refine lv_if_eq (tgt := 160) hx hb d_M_joined_153 (by decide) (fun b309 => ?_) (fun b309 => ?_)
                    · skip
                      refine lv_iconst (v := nI 0) hx hb d_M_joined_160 (by decide) ?_
                      have hI310 := iv_1 hI292 hL (lo_k11_18 hL _ t_M) (by decide) hk299 (oc_50.mk (lo_k11_18 hL _ t_M) (⟨_, e297⟩))
                      refine pf_zast (i := v9) hx hb hK hP hD hS (lo_in hL (lo_k11_20 hL _ t_M) (by decide)) eO (lo_t52 hL _ (lo_k11_20 hL _ t_M)) (by omega) (by decide) d_M_joined_161 (fun f311 H locs e312 k313 hP hD hS => ?_)
                      have e1 := (k313 M (tg_ne t_M (lo_k11_20 hL _ t_M) (by decide))).trans e1
                      have e133 := (k313 (g.lk M 23) (tg_ne (lo_k11_23 hL _ t_M) (lo_k11_20 hL _ t_M) (by decide))).trans e133
                      have e178 := (k313 (g.lk M 24) (tg_ne (lo_k11_24 hL _ t_M) (lo_k11_20 hL _ t_M) (by decide))).trans e178
                      have e184 := (k313 (g.lk M 21) (tg_ne (lo_k11_21 hL _ t_M) (lo_k11_20 hL _ t_M) (by decide))).trans e184
                      have e192 := (k313 (g.lk M 17) (tg_ne (lo_k11_17 hL _ t_M) (lo_k11_20 hL _ t_M) (by decide))).trans e192
                      have e284 := (k313 (g.lk M 19) (tg_ne (lo_k11_19 hL _ t_M) (lo_k11_20 hL _ t_M) (by decide))).trans e284
                      have e288 := (k313 (g.lk M 22) (tg_ne (lo_k11_22 hL _ t_M) (lo_k11_20 hL _ t_M) (by decide))).trans e288
                      have e297 := (k313 (g.lk M 18) (tg_ne (lo_k11_18 hL _ t_M) (lo_k11_20 hL _ t_M) (by decide))).trans e297
                      have hu := hu.st k313 (lo_k11_20 hL _ t_M) (by decide)
                      have hk314 : ∀ b, b ≠ (g.lk M 20) → f311 b = f296 b := k313
                      refine lv_iload_n hx hb d_M_joined_162 rfl (lv_at hl 1 rfl) ?_
                      refine lv_if_ne (tgt := 171) hx hb d_M_joined_163 (by decide) (fun b315 => ?_) (fun b315 => ?_)
                      · skip
                        replace b315 := mt (nI_eq (a := 1) (b := 0) (by omega) (by omega)).mpr b315
                        refine lv_iconst (v := nI 1) hx hb d_M_joined_171 (by decide) ?_
                        refine lv_goto (tgt := 176) hx hb d_M_joined_172 (by decide) ?_
                        have hI316 := iv_1 hI310 hL (lo_k11_20 hL _ t_M) (by decide) hk314 (oc_52.mk (lo_k11_20 hL _ t_M) (⟨_, e312⟩))
                        exact pe_zret hx hb hr hlocks hK hP hD hS d_M_joined_176 rfl ⟨(Or.inr rfl), ⟨_, _, e284, e312, (by have z_hU := cz_1 (x := (vp_nar .boolean ((nI 1)))) b35 (by decide) 10 hv9; have z_hO := cz_0 (x := (vp_nar .boolean ((nI 0)))) b138 (by decide) 10; first | omega | exact Nat.le_refl _), (fun _ w9 => by have z_hU := cz_1 (x := (vp_nar .boolean ((nI 1)))) b35 (by decide) 10 hv9; have z_hO := cz_0 (x := (vp_nar .boolean ((nI 0)))) b138 (by decide) 10; first | omega | exact absurd (by assumption) w9)⟩, hI316, hu⟩
                      · skip
                        replace b315 := (nI_eq (a := 1) (b := 0) (by omega) (by omega)).mp b315
                        exfalso; omega
                    · skip
                      refine lv_iconst (v := nI 1) hx hb d_M_joined_156 (by decide) ?_
                      refine lv_goto (tgt := 161) hx hb d_M_joined_157 (by decide) ?_
                      have hI317 := iv_1 hI292 hL (lo_k11_18 hL _ t_M) (by decide) hk299 (oc_50.mk (lo_k11_18 hL _ t_M) (⟨_, e297⟩))
                      refine pf_zast (i := v9) hx hb hK hP hD hS (lo_in hL (lo_k11_20 hL _ t_M) (by decide)) eO (lo_t52 hL _ (lo_k11_20 hL _ t_M)) (by omega) (by decide) d_M_joined_161 (fun f318 H locs e319 k320 hP hD hS => ?_)
                      have e1 := (k320 M (tg_ne t_M (lo_k11_20 hL _ t_M) (by decide))).trans e1
                      have e133 := (k320 (g.lk M 23) (tg_ne (lo_k11_23 hL _ t_M) (lo_k11_20 hL _ t_M) (by decide))).trans e133
                      have e178 := (k320 (g.lk M 24) (tg_ne (lo_k11_24 hL _ t_M) (lo_k11_20 hL _ t_M) (by decide))).trans e178
                      have e184 := (k320 (g.lk M 21) (tg_ne (lo_k11_21 hL _ t_M) (lo_k11_20 hL _ t_M) (by decide))).trans e184
                      have e192 := (k320 (g.lk M 17) (tg_ne (lo_k11_17 hL _ t_M) (lo_k11_20 hL _ t_M) (by decide))).trans e192
                      have e284 := (k320 (g.lk M 19) (tg_ne (lo_k11_19 hL _ t_M) (lo_k11_20 hL _ t_M) (by decide))).trans e284
                      have e288 := (k320 (g.lk M 22) (tg_ne (lo_k11_22 hL _ t_M) (lo_k11_20 hL _ t_M) (by decide))).trans e288
                      have e297 := (k320 (g.lk M 18) (tg_ne (lo_k11_18 hL _ t_M) (lo_k11_20 hL _ t_M) (by decide))).trans e297
                      have hu := hu.st k320 (lo_k11_20 hL _ t_M) (by decide)
                      have hk321 : ∀ b, b ≠ (g.lk M 20) → f318 b = f296 b := k320
                      refine lv_iload_n hx hb d_M_joined_162 rfl (lv_at hl 1 rfl) ?_
                      refine lv_if_ne (tgt := 171) hx hb d_M_joined_163 (by decide) (fun b322 => ?_) (fun b322 => ?_)
                      · skip
                        replace b322 := mt (nI_eq (a := 1) (b := 0) (by omega) (by omega)).mpr b322
                        refine lv_iconst (v := nI 1) hx hb d_M_joined_171 (by decide) ?_
                        refine lv_goto (tgt := 176) hx hb d_M_joined_172 (by decide) ?_
                        have hI323 := iv_1 hI317 hL (lo_k11_20 hL _ t_M) (by decide) hk321 (oc_52.mk (lo_k11_20 hL _ t_M) (⟨_, e319⟩))
                        exact pe_zret hx hb hr hlocks hK hP hD hS d_M_joined_176 rfl ⟨(Or.inr rfl), ⟨_, _, e284, e319, (by have z_hU := cz_1 (x := (vp_nar .boolean ((nI 1)))) b35 (by decide) 10 hv9; have z_hO := cz_1 (x := (vp_nar .boolean ((nI 1)))) b138 (by decide) 10 hv9; first | omega | exact Nat.le_refl _), (fun _ w9 => by have z_hU := cz_1 (x := (vp_nar .boolean ((nI 1)))) b35 (by decide) 10 hv9; have z_hO := cz_1 (x := (vp_nar .boolean ((nI 1)))) b138 (by decide) 10 hv9; first | omega | exact absurd (by assumption) w9)⟩, hI323, hu⟩
                      · skip
                        replace b322 := (nI_eq (a := 1) (b := 0) (by omega) (by omega)).mp b322
                        exfalso; omega
        · skip
          refine lv_aload_n hx hb d_M_joined_58 rfl (lv_at hl 1 rfl) ?_
          refine pf_get (v := .ref (g.lk M 22)) (C := "BigRunnerModel") (T := FT10) (N := 45) hx hb (hw10 hB _) (fun _ h9 => h9) hown hK hP (lo_in hL t_M (by decide)) e1 rfl 22 (by decide) (wd_969 hB _) rfl d_M_joined_59 ?_
          refine lv_iconst (v := nI 0) hx hb d_M_joined_62 (by decide) ?_
          obtain ⟨h_325, e324⟩ := oc_54.of (lo_k11_22 hL _ t_M) (hI.1 (g.lk M 22))
          refine pf_lald (i := 0) hx hb hK hP (lo_in hL (lo_k11_22 hL _ t_M) (by decide)) e324 (lo_t54 hL _ (lo_k11_22 hL _ t_M)) (by omega) (by decide) d_M_joined_63 ?_
          refine lv_topl (fun lv327 _ => ?_)
          refine lv_aload_n hx hb d_M_joined_64 rfl (lv_at hl 1 rfl) ?_
          refine pf_get (v := .ref (g.lk M 18)) (C := "BigRunnerModel") (T := FT10) (N := 45) hx hb (hw10 hB _) (fun _ h9 => h9) hown hK hP (lo_in hL t_M (by decide)) e1 rfl 18 (by decide) (wd_965 hB _) rfl d_M_joined_65 ?_
          refine lv_iload_n hx hb d_M_joined_68 rfl (lv_at hl 2 rfl) ?_
          obtain ⟨h_329, e328⟩ := oc_50.of (lo_k11_18 hL _ t_M) (hI.1 (g.lk M 18))
          refine pf_lald (i := v9) hx hb hK hP (lo_in hL (lo_k11_18 hL _ t_M) (by decide)) e328 (lo_t50 hL _ (lo_k11_18 hL _ t_M)) (by omega) (by decide) d_M_joined_69 ?_
          refine lv_topl (fun lv331 _ => ?_)
          refine W.lcmp hx hb d_M_joined_70 ?_
          refine lv_if_le (tgt := 78) hx hb d_M_joined_71 (by decide) (fun b332 => ?_) (fun b332 => ?_)
          · skip
            replace b332 := pl_le.mp b332
            refine lv_iconst (v := nI 0) hx hb d_M_joined_78 (by decide) ?_
            refine lv_istore (lv' := [(4, .int (nI 0)), (3, .int (nI 1)), (0, .ref M), (1, .int (nI v9)), (2, .int wd)]) hx hb d_M_joined_79 hl (by decide) rfl (fun ls hl => ?_)
            refine lv_iload_n hx hb d_M_joined_81 rfl (lv_at hl 1 rfl) ?_
            refine lv_if_eq (tgt := 121) hx hb d_M_joined_82 (by decide) (fun b333 => ?_) (fun b333 => ?_)
            · skip
              replace b333 := (nI_eq (a := 1) (b := 0) (by omega) (by omega)).mp b333
              exfalso; omega
            · skip
              replace b333 := mt (nI_eq (a := 1) (b := 0) (by omega) (by omega)).mpr b333
              refine lv_aload_n hx hb d_M_joined_85 rfl (lv_at hl 2 rfl) ?_
              refine pf_get (v := .ref (g.lk M 17)) (C := "BigRunnerModel") (T := FT10) (N := 45) hx hb (hw10 hB _) (fun _ h9 => h9) hown hK hP (lo_in hL t_M (by decide)) e1 rfl 17 (by decide) (wd_964 hB _) rfl d_M_joined_86 ?_
              refine lv_iload_n hx hb d_M_joined_89 rfl (lv_at hl 3 rfl) ?_
              refine lv_aload_n hx hb d_M_joined_90 rfl (lv_at hl 2 rfl) ?_
              refine pf_get (v := .ref (g.lk M 21)) (C := "BigRunnerModel") (T := FT10) (N := 45) hx hb (hw10 hB _) (fun _ h9 => h9) hown hK hP (lo_in hL t_M (by decide)) e1 rfl 21 (by decide) (wd_968 hB _) rfl d_M_joined_91 ?_
              refine lv_iconst (v := nI 0) hx hb d_M_joined_94 (by decide) ?_
              obtain ⟨h_335, e334⟩ := oc_53.of (lo_k11_21 hL _ t_M) (hI.1 (g.lk M 21))
              refine pf_lald (i := 0) hx hb hK hP (lo_in hL (lo_k11_21 hL _ t_M) (by decide)) e334 (lo_t53 hL _ (lo_k11_21 hL _ t_M)) (by omega) (by decide) d_M_joined_95 ?_
              refine lv_topl (fun lv337 _ => ?_)
              obtain ⟨h_339, e338⟩ := oc_49.of (lo_k11_17 hL _ t_M) (hI.1 (g.lk M 17))
              refine pf_last (i := v9) hx hb hK hP hD hS (lo_in hL (lo_k11_17 hL _ t_M) (by decide)) e338 (lo_t49 hL _ (lo_k11_17 hL _ t_M)) (by omega) (by decide) d_M_joined_96 (fun f341 H locs e342 k343 hP hD hS => ?_)
              have eU := (k343 (g.lk M 19) (tg_ne (lo_k11_19 hL _ t_M) (lo_k11_17 hL _ t_M) (by decide))).trans eU
              have eO := (k343 (g.lk M 20) (tg_ne (lo_k11_20 hL _ t_M) (lo_k11_17 hL _ t_M) (by decide))).trans eO
              have e1 := (k343 M (tg_ne t_M (lo_k11_17 hL _ t_M) (by decide))).trans e1
              have e133 := (k343 (g.lk M 23) (tg_ne (lo_k11_23 hL _ t_M) (lo_k11_17 hL _ t_M) (by decide))).trans e133
              have e178 := (k343 (g.lk M 24) (tg_ne (lo_k11_24 hL _ t_M) (lo_k11_17 hL _ t_M) (by decide))).trans e178
              have e324 := (k343 (g.lk M 22) (tg_ne (lo_k11_22 hL _ t_M) (lo_k11_17 hL _ t_M) (by decide))).trans e324
              have e328 := (k343 (g.lk M 18) (tg_ne (lo_k11_18 hL _ t_M) (lo_k11_17 hL _ t_M) (by decide))).trans e328
              have e334 := (k343 (g.lk M 21) (tg_ne (lo_k11_21 hL _ t_M) (lo_k11_17 hL _ t_M) (by decide))).trans e334
              have hu := hu.st k343 (lo_k11_17 hL _ t_M) (by decide)
              have hk344 : ∀ b, b ≠ (g.lk M 17) → f341 b = f b := k343
              refine lv_aload_n hx hb d_M_joined_97 rfl (lv_at hl 2 rfl) ?_
              refine pf_get (v := .ref (g.lk M 19)) (C := "BigRunnerModel") (T := FT10) (N := 45) hx hb (hw10 hB _) (fun _ h9 => h9) hown hK hP (lo_in hL t_M (by decide)) e1 rfl 19 (by decide) (wd_966 hB _) rfl d_M_joined_98 ?_
              refine lv_iload_n hx hb d_M_joined_101 rfl (lv_at hl 3 rfl) ?_
              refine lv_aload_n hx hb d_M_joined_102 rfl (lv_at hl 2 rfl) ?_
              refine pf_get (v := .ref (g.lk M 23)) (C := "BigRunnerModel") (T := FT10) (N := 45) hx hb (hw10 hB _) (fun _ h9 => h9) hown hK hP (lo_in hL t_M (by decide)) e1 rfl 23 (by decide) (wd_970 hB _) rfl d_M_joined_103 ?_
              refine lv_iconst (v := nI 0) hx hb d_M_joined_106 (by decide) ?_
              refine pf_zald (i := 0) hx hb hK hP (lo_in hL (lo_k11_23 hL _ t_M) (by decide)) e133 (lo_t55 hL _ (lo_k11_23 hL _ t_M)) (by omega) (by decide) d_M_joined_107 ?_
              refine lv_topi (fun iv345 _ => ?_)
              refine lv_if_ne (tgt := 115) hx hb d_M_joined_108 (by decide) (fun b346 => ?_) (fun b346 => ?_)
              · skip
                refine lv_iconst (v := nI 1) hx hb d_M_joined_115 (by decide) ?_
                refine lv_goto (tgt := 120) hx hb d_M_joined_116 (by decide) ?_
                have hI347 := iv_1 hI hL (lo_k11_17 hL _ t_M) (by decide) hk344 (oc_49.mk (lo_k11_17 hL _ t_M) (⟨_, e342⟩))
                refine pf_zast (i := v9) hx hb hK hP hD hS (lo_in hL (lo_k11_19 hL _ t_M) (by decide)) eU (lo_t51 hL _ (lo_k11_19 hL _ t_M)) (by omega) (by decide) d_M_joined_120 (fun f348 H locs e349 k350 hP hD hS => ?_)
                have eO := (k350 (g.lk M 20) (tg_ne (lo_k11_20 hL _ t_M) (lo_k11_19 hL _ t_M) (by decide))).trans eO
                have e1 := (k350 M (tg_ne t_M (lo_k11_19 hL _ t_M) (by decide))).trans e1
                have e133 := (k350 (g.lk M 23) (tg_ne (lo_k11_23 hL _ t_M) (lo_k11_19 hL _ t_M) (by decide))).trans e133
                have e178 := (k350 (g.lk M 24) (tg_ne (lo_k11_24 hL _ t_M) (lo_k11_19 hL _ t_M) (by decide))).trans e178
                have e324 := (k350 (g.lk M 22) (tg_ne (lo_k11_22 hL _ t_M) (lo_k11_19 hL _ t_M) (by decide))).trans e324
                have e328 := (k350 (g.lk M 18) (tg_ne (lo_k11_18 hL _ t_M) (lo_k11_19 hL _ t_M) (by decide))).trans e328
                have e334 := (k350 (g.lk M 21) (tg_ne (lo_k11_21 hL _ t_M) (lo_k11_19 hL _ t_M) (by decide))).trans e334
                have e342 := (k350 (g.lk M 17) (tg_ne (lo_k11_17 hL _ t_M) (lo_k11_19 hL _ t_M) (by decide))).trans e342
                have hu := hu.st k350 (lo_k11_19 hL _ t_M) (by decide)
                have hk351 : ∀ b, b ≠ (g.lk M 19) → f348 b = f341 b := k350
                refine lv_iload hx hb d_M_joined_121 (lv_at hl 0 rfl) ?_
                refine lv_if_eq (tgt := 162) hx hb d_M_joined_123 (by decide) (fun b352 => ?_) (fun b352 => ?_)
                · skip
                  replace b352 := (nI_eq (a := 0) (b := 0) (by omega) (by omega)).mp b352
                  refine lv_iload_n hx hb d_M_joined_162 rfl (lv_at hl 1 rfl) ?_
                  refine lv_if_ne (tgt := 171) hx hb d_M_joined_163 (by decide) (fun b353 => ?_) (fun b353 => ?_)
                  · skip
                    replace b353 := mt (nI_eq (a := 1) (b := 0) (by omega) (by omega)).mpr b353
                    refine lv_iconst (v := nI 1) hx hb d_M_joined_171 (by decide) ?_
                    refine lv_goto (tgt := 176) hx hb d_M_joined_172 (by decide) ?_
                    have hI354 := iv_1 hI347 hL (lo_k11_19 hL _ t_M) (by decide) hk351 (oc_51.mk (lo_k11_19 hL _ t_M) (⟨_, e349⟩))
                    exact pe_zret hx hb hr hlocks hK hP hD hS d_M_joined_176 rfl ⟨(Or.inr rfl), ⟨_, _, e349, eO, (by have z_hU := cz_1 (x := (vp_nar .boolean ((nI 1)))) b35 (by decide) 10 hv9; first | omega | exact Nat.le_refl _), (fun _ w9 => by have z_hU := cz_1 (x := (vp_nar .boolean ((nI 1)))) b35 (by decide) 10 hv9; first | omega | exact absurd (by assumption) w9)⟩, hI354, hu⟩
                  · skip
                    replace b353 := (nI_eq (a := 1) (b := 0) (by omega) (by omega)).mp b353
                    exfalso; omega
                · skip
                  replace b352 := mt (nI_eq (a := 0) (b := 0) (by omega) (by omega)).mpr b352
                  exfalso; omega
              · skip
                refine lv_iload_n hx hb d_M_joined_111 rfl (lv_at hl 4 rfl) ?_
                refine lv_if_eq (tgt := 119) hx hb d_M_joined_112 (by decide) (fun b355 => ?_) (fun b355 => ?_)
                · skip
                  refine lv_iconst (v := nI 0) hx hb d_M_joined_119 (by decide) ?_
                  have hI356 := iv_1 hI hL (lo_k11_17 hL _ t_M) (by decide) hk344 (oc_49.mk (lo_k11_17 hL _ t_M) (⟨_, e342⟩))
                  refine pf_zast (i := v9) hx hb hK hP hD hS (lo_in hL (lo_k11_19 hL _ t_M) (by decide)) eU (lo_t51 hL _ (lo_k11_19 hL _ t_M)) (by omega) (by decide) d_M_joined_120 (fun f357 H locs e358 k359 hP hD hS => ?_)
                  have eO := (k359 (g.lk M 20) (tg_ne (lo_k11_20 hL _ t_M) (lo_k11_19 hL _ t_M) (by decide))).trans eO
                  have e1 := (k359 M (tg_ne t_M (lo_k11_19 hL _ t_M) (by decide))).trans e1
                  have e133 := (k359 (g.lk M 23) (tg_ne (lo_k11_23 hL _ t_M) (lo_k11_19 hL _ t_M) (by decide))).trans e133
                  have e178 := (k359 (g.lk M 24) (tg_ne (lo_k11_24 hL _ t_M) (lo_k11_19 hL _ t_M) (by decide))).trans e178
                  have e324 := (k359 (g.lk M 22) (tg_ne (lo_k11_22 hL _ t_M) (lo_k11_19 hL _ t_M) (by decide))).trans e324
                  have e328 := (k359 (g.lk M 18) (tg_ne (lo_k11_18 hL _ t_M) (lo_k11_19 hL _ t_M) (by decide))).trans e328
                  have e334 := (k359 (g.lk M 21) (tg_ne (lo_k11_21 hL _ t_M) (lo_k11_19 hL _ t_M) (by decide))).trans e334
                  have e342 := (k359 (g.lk M 17) (tg_ne (lo_k11_17 hL _ t_M) (lo_k11_19 hL _ t_M) (by decide))).trans e342
                  have hu := hu.st k359 (lo_k11_19 hL _ t_M) (by decide)
                  have hk360 : ∀ b, b ≠ (g.lk M 19) → f357 b = f341 b := k359
                  refine lv_iload hx hb d_M_joined_121 (lv_at hl 0 rfl) ?_
                  refine lv_if_eq (tgt := 162) hx hb d_M_joined_123 (by decide) (fun b361 => ?_) (fun b361 => ?_)
                  · skip
                    replace b361 := (nI_eq (a := 0) (b := 0) (by omega) (by omega)).mp b361
                    refine lv_iload_n hx hb d_M_joined_162 rfl (lv_at hl 1 rfl) ?_
                    refine lv_if_ne (tgt := 171) hx hb d_M_joined_163 (by decide) (fun b362 => ?_) (fun b362 => ?_)
                    · skip
                      replace b362 := mt (nI_eq (a := 1) (b := 0) (by omega) (by omega)).mpr b362
                      refine lv_iconst (v := nI 1) hx hb d_M_joined_171 (by decide) ?_
                      refine lv_goto (tgt := 176) hx hb d_M_joined_172 (by decide) ?_
                      have hI363 := iv_1 hI356 hL (lo_k11_19 hL _ t_M) (by decide) hk360 (oc_51.mk (lo_k11_19 hL _ t_M) (⟨_, e358⟩))
                      exact pe_zret hx hb hr hlocks hK hP hD hS d_M_joined_176 rfl ⟨(Or.inr rfl), ⟨_, _, e358, eO, (by have z_hU := cz_0 (x := (vp_nar .boolean ((nI 0)))) b35 (by decide) 10; first | omega | exact Nat.le_refl _), (fun _ w9 => by have z_hU := cz_0 (x := (vp_nar .boolean ((nI 0)))) b35 (by decide) 10; first | omega | exact absurd (by assumption) w9)⟩, hI363, hu⟩
                    · skip
                      replace b362 := (nI_eq (a := 1) (b := 0) (by omega) (by omega)).mp b362
                      exfalso; omega
                  · skip
                    replace b361 := mt (nI_eq (a := 0) (b := 0) (by omega) (by omega)).mpr b361
                    exfalso; omega
                · skip
                  refine lv_iconst (v := nI 1) hx hb d_M_joined_115 (by decide) ?_
                  refine lv_goto (tgt := 120) hx hb d_M_joined_116 (by decide) ?_
                  have hI364 := iv_1 hI hL (lo_k11_17 hL _ t_M) (by decide) hk344 (oc_49.mk (lo_k11_17 hL _ t_M) (⟨_, e342⟩))
                  refine pf_zast (i := v9) hx hb hK hP hD hS (lo_in hL (lo_k11_19 hL _ t_M) (by decide)) eU (lo_t51 hL _ (lo_k11_19 hL _ t_M)) (by omega) (by decide) d_M_joined_120 (fun f365 H locs e366 k367 hP hD hS => ?_)
                  have eO := (k367 (g.lk M 20) (tg_ne (lo_k11_20 hL _ t_M) (lo_k11_19 hL _ t_M) (by decide))).trans eO
                  have e1 := (k367 M (tg_ne t_M (lo_k11_19 hL _ t_M) (by decide))).trans e1
                  have e133 := (k367 (g.lk M 23) (tg_ne (lo_k11_23 hL _ t_M) (lo_k11_19 hL _ t_M) (by decide))).trans e133
                  have e178 := (k367 (g.lk M 24) (tg_ne (lo_k11_24 hL _ t_M) (lo_k11_19 hL _ t_M) (by decide))).trans e178
                  have e324 := (k367 (g.lk M 22) (tg_ne (lo_k11_22 hL _ t_M) (lo_k11_19 hL _ t_M) (by decide))).trans e324
                  have e328 := (k367 (g.lk M 18) (tg_ne (lo_k11_18 hL _ t_M) (lo_k11_19 hL _ t_M) (by decide))).trans e328
                  have e334 := (k367 (g.lk M 21) (tg_ne (lo_k11_21 hL _ t_M) (lo_k11_19 hL _ t_M) (by decide))).trans e334
                  have e342 := (k367 (g.lk M 17) (tg_ne (lo_k11_17 hL _ t_M) (lo_k11_19 hL _ t_M) (by decide))).trans e342
                  have hu := hu.st k367 (lo_k11_19 hL _ t_M) (by decide)
                  have hk368 : ∀ b, b ≠ (g.lk M 19) → f365 b = f341 b := k367
                  refine lv_iload hx hb d_M_joined_121 (lv_at hl 0 rfl) ?_
                  refine lv_if_eq (tgt := 162) hx hb d_M_joined_123 (by decide) (fun b369 => ?_) (fun b369 => ?_)
                  · skip
                    replace b369 := (nI_eq (a := 0) (b := 0) (by omega) (by omega)).mp b369
                    refine lv_iload_n hx hb d_M_joined_162 rfl (lv_at hl 1 rfl) ?_
                    refine lv_if_ne (tgt := 171) hx hb d_M_joined_163 (by decide) (fun b370 => ?_) (fun b370 => ?_)
                    · skip
                      replace b370 := mt (nI_eq (a := 1) (b := 0) (by omega) (by omega)).mpr b370
                      refine lv_iconst (v := nI 1) hx hb d_M_joined_171 (by decide) ?_
                      refine lv_goto (tgt := 176) hx hb d_M_joined_172 (by decide) ?_
                      have hI371 := iv_1 hI364 hL (lo_k11_19 hL _ t_M) (by decide) hk368 (oc_51.mk (lo_k11_19 hL _ t_M) (⟨_, e366⟩))
                      exact pe_zret hx hb hr hlocks hK hP hD hS d_M_joined_176 rfl ⟨(Or.inr rfl), ⟨_, _, e366, eO, (by have z_hU := cz_1 (x := (vp_nar .boolean ((nI 1)))) b35 (by decide) 10 hv9; first | omega | exact Nat.le_refl _), (fun _ w9 => by have z_hU := cz_1 (x := (vp_nar .boolean ((nI 1)))) b35 (by decide) 10 hv9; first | omega | exact absurd (by assumption) w9)⟩, hI371, hu⟩
                    · skip
                      replace b370 := (nI_eq (a := 1) (b := 0) (by omega) (by omega)).mp b370
                      exfalso; omega
                  · skip
                    replace b369 := mt (nI_eq (a := 0) (b := 0) (by omega) (by omega)).mpr b369
                    exfalso; omega
          · skip
            replace b332 := mt pl_le.mpr b332
            refine lv_iconst (v := nI 1) hx hb d_M_joined_74 (by decide) ?_
            refine lv_goto (tgt := 79) hx hb d_M_joined_75 (by decide) ?_
            refine lv_istore (lv' := [(4, .int (nI 1)), (3, .int (nI 1)), (0, .ref M), (1, .int (nI v9)), (2, .int wd)]) hx hb d_M_joined_79 hl (by decide) rfl (fun ls hl => ?_)
            refine lv_iload_n hx hb d_M_joined_81 rfl (lv_at hl 1 rfl) ?_
            refine lv_if_eq (tgt := 121) hx hb d_M_joined_82 (by decide) (fun b372 => ?_) (fun b372 => ?_)
            · skip
              replace b372 := (nI_eq (a := 1) (b := 0) (by omega) (by omega)).mp b372
              exfalso; omega
            · skip
              replace b372 := mt (nI_eq (a := 1) (b := 0) (by omega) (by omega)).mpr b372
              refine lv_aload_n hx hb d_M_joined_85 rfl (lv_at hl 2 rfl) ?_
              refine pf_get (v := .ref (g.lk M 17)) (C := "BigRunnerModel") (T := FT10) (N := 45) hx hb (hw10 hB _) (fun _ h9 => h9) hown hK hP (lo_in hL t_M (by decide)) e1 rfl 17 (by decide) (wd_964 hB _) rfl d_M_joined_86 ?_
              refine lv_iload_n hx hb d_M_joined_89 rfl (lv_at hl 3 rfl) ?_
              refine lv_aload_n hx hb d_M_joined_90 rfl (lv_at hl 2 rfl) ?_
              refine pf_get (v := .ref (g.lk M 21)) (C := "BigRunnerModel") (T := FT10) (N := 45) hx hb (hw10 hB _) (fun _ h9 => h9) hown hK hP (lo_in hL t_M (by decide)) e1 rfl 21 (by decide) (wd_968 hB _) rfl d_M_joined_91 ?_
              refine lv_iconst (v := nI 0) hx hb d_M_joined_94 (by decide) ?_
              obtain ⟨h_374, e373⟩ := oc_53.of (lo_k11_21 hL _ t_M) (hI.1 (g.lk M 21))
              refine pf_lald (i := 0) hx hb hK hP (lo_in hL (lo_k11_21 hL _ t_M) (by decide)) e373 (lo_t53 hL _ (lo_k11_21 hL _ t_M)) (by omega) (by decide) d_M_joined_95 ?_
              refine lv_topl (fun lv376 _ => ?_)
              obtain ⟨h_378, e377⟩ := oc_49.of (lo_k11_17 hL _ t_M) (hI.1 (g.lk M 17))
              refine pf_last (i := v9) hx hb hK hP hD hS (lo_in hL (lo_k11_17 hL _ t_M) (by decide)) e377 (lo_t49 hL _ (lo_k11_17 hL _ t_M)) (by omega) (by decide) d_M_joined_96 (fun f380 H locs e381 k382 hP hD hS => ?_)
              have eU := (k382 (g.lk M 19) (tg_ne (lo_k11_19 hL _ t_M) (lo_k11_17 hL _ t_M) (by decide))).trans eU
              have eO := (k382 (g.lk M 20) (tg_ne (lo_k11_20 hL _ t_M) (lo_k11_17 hL _ t_M) (by decide))).trans eO
              have e1 := (k382 M (tg_ne t_M (lo_k11_17 hL _ t_M) (by decide))).trans e1
              have e133 := (k382 (g.lk M 23) (tg_ne (lo_k11_23 hL _ t_M) (lo_k11_17 hL _ t_M) (by decide))).trans e133
              have e178 := (k382 (g.lk M 24) (tg_ne (lo_k11_24 hL _ t_M) (lo_k11_17 hL _ t_M) (by decide))).trans e178
              have e324 := (k382 (g.lk M 22) (tg_ne (lo_k11_22 hL _ t_M) (lo_k11_17 hL _ t_M) (by decide))).trans e324
              have e328 := (k382 (g.lk M 18) (tg_ne (lo_k11_18 hL _ t_M) (lo_k11_17 hL _ t_M) (by decide))).trans e328
              have e373 := (k382 (g.lk M 21) (tg_ne (lo_k11_21 hL _ t_M) (lo_k11_17 hL _ t_M) (by decide))).trans e373
              have hu := hu.st k382 (lo_k11_17 hL _ t_M) (by decide)
              have hk383 : ∀ b, b ≠ (g.lk M 17) → f380 b = f b := k382
              refine lv_aload_n hx hb d_M_joined_97 rfl (lv_at hl 2 rfl) ?_
              refine pf_get (v := .ref (g.lk M 19)) (C := "BigRunnerModel") (T := FT10) (N := 45) hx hb (hw10 hB _) (fun _ h9 => h9) hown hK hP (lo_in hL t_M (by decide)) e1 rfl 19 (by decide) (wd_966 hB _) rfl d_M_joined_98 ?_
              refine lv_iload_n hx hb d_M_joined_101 rfl (lv_at hl 3 rfl) ?_
              refine lv_aload_n hx hb d_M_joined_102 rfl (lv_at hl 2 rfl) ?_
              refine pf_get (v := .ref (g.lk M 23)) (C := "BigRunnerModel") (T := FT10) (N := 45) hx hb (hw10 hB _) (fun _ h9 => h9) hown hK hP (lo_in hL t_M (by decide)) e1 rfl 23 (by decide) (wd_970 hB _) rfl d_M_joined_103 ?_
              refine lv_iconst (v := nI 0) hx hb d_M_joined_106 (by decide) ?_
              refine pf_zald (i := 0) hx hb hK hP (lo_in hL (lo_k11_23 hL _ t_M) (by decide)) e133 (lo_t55 hL _ (lo_k11_23 hL _ t_M)) (by omega) (by decide) d_M_joined_107 ?_
              refine lv_topi (fun iv384 _ => ?_)
              refine lv_if_ne (tgt := 115) hx hb d_M_joined_108 (by decide) (fun b385 => ?_) (fun b385 => ?_)
              · skip
                refine lv_iconst (v := nI 1) hx hb d_M_joined_115 (by decide) ?_
                refine lv_goto (tgt := 120) hx hb d_M_joined_116 (by decide) ?_
                have hI386 := iv_1 hI hL (lo_k11_17 hL _ t_M) (by decide) hk383 (oc_49.mk (lo_k11_17 hL _ t_M) (⟨_, e381⟩))
                refine pf_zast (i := v9) hx hb hK hP hD hS (lo_in hL (lo_k11_19 hL _ t_M) (by decide)) eU (lo_t51 hL _ (lo_k11_19 hL _ t_M)) (by omega) (by decide) d_M_joined_120 (fun f387 H locs e388 k389 hP hD hS => ?_)
                have eO := (k389 (g.lk M 20) (tg_ne (lo_k11_20 hL _ t_M) (lo_k11_19 hL _ t_M) (by decide))).trans eO
                have e1 := (k389 M (tg_ne t_M (lo_k11_19 hL _ t_M) (by decide))).trans e1
                have e133 := (k389 (g.lk M 23) (tg_ne (lo_k11_23 hL _ t_M) (lo_k11_19 hL _ t_M) (by decide))).trans e133
                have e178 := (k389 (g.lk M 24) (tg_ne (lo_k11_24 hL _ t_M) (lo_k11_19 hL _ t_M) (by decide))).trans e178
                have e324 := (k389 (g.lk M 22) (tg_ne (lo_k11_22 hL _ t_M) (lo_k11_19 hL _ t_M) (by decide))).trans e324
                have e328 := (k389 (g.lk M 18) (tg_ne (lo_k11_18 hL _ t_M) (lo_k11_19 hL _ t_M) (by decide))).trans e328
                have e373 := (k389 (g.lk M 21) (tg_ne (lo_k11_21 hL _ t_M) (lo_k11_19 hL _ t_M) (by decide))).trans e373
                have e381 := (k389 (g.lk M 17) (tg_ne (lo_k11_17 hL _ t_M) (lo_k11_19 hL _ t_M) (by decide))).trans e381
                have hu := hu.st k389 (lo_k11_19 hL _ t_M) (by decide)
                have hk390 : ∀ b, b ≠ (g.lk M 19) → f387 b = f380 b := k389
                refine lv_iload hx hb d_M_joined_121 (lv_at hl 0 rfl) ?_
                refine lv_if_eq (tgt := 162) hx hb d_M_joined_123 (by decide) (fun b391 => ?_) (fun b391 => ?_)
                · skip
                  replace b391 := (nI_eq (a := 1) (b := 0) (by omega) (by omega)).mp b391
                  exfalso; omega
                · skip
                  replace b391 := mt (nI_eq (a := 1) (b := 0) (by omega) (by omega)).mpr b391
                  refine lv_aload_n hx hb d_M_joined_126 rfl (lv_at hl 2 rfl) ?_
                  refine pf_get (v := .ref (g.lk M 18)) (C := "BigRunnerModel") (T := FT10) (N := 45) hx hb (hw10 hB _) (fun _ h9 => h9) hown hK hP (lo_in hL t_M (by decide)) e1 rfl 18 (by decide) (wd_965 hB _) rfl d_M_joined_127 ?_
                  refine lv_iload_n hx hb d_M_joined_130 rfl (lv_at hl 3 rfl) ?_
                  refine lv_aload_n hx hb d_M_joined_131 rfl (lv_at hl 2 rfl) ?_
                  refine pf_get (v := .ref (g.lk M 22)) (C := "BigRunnerModel") (T := FT10) (N := 45) hx hb (hw10 hB _) (fun _ h9 => h9) hown hK hP (lo_in hL t_M (by decide)) e1 rfl 22 (by decide) (wd_969 hB _) rfl d_M_joined_132 ?_
                  refine lv_iconst (v := nI 0) hx hb d_M_joined_135 (by decide) ?_
                  refine pf_lald (i := 0) hx hb hK hP (lo_in hL (lo_k11_22 hL _ t_M) (by decide)) e324 (lo_t54 hL _ (lo_k11_22 hL _ t_M)) (by omega) (by decide) d_M_joined_136 ?_
                  refine lv_topl (fun lv392 _ => ?_)
                  have hI393 := iv_1 hI386 hL (lo_k11_19 hL _ t_M) (by decide) hk390 (oc_51.mk (lo_k11_19 hL _ t_M) (⟨_, e388⟩))
                  refine pf_last (i := v9) hx hb hK hP hD hS (lo_in hL (lo_k11_18 hL _ t_M) (by decide)) e328 (lo_t50 hL _ (lo_k11_18 hL _ t_M)) (by omega) (by decide) d_M_joined_137 (fun f394 H locs e395 k396 hP hD hS => ?_)
                  have eO := (k396 (g.lk M 20) (tg_ne (lo_k11_20 hL _ t_M) (lo_k11_18 hL _ t_M) (by decide))).trans eO
                  have e1 := (k396 M (tg_ne t_M (lo_k11_18 hL _ t_M) (by decide))).trans e1
                  have e133 := (k396 (g.lk M 23) (tg_ne (lo_k11_23 hL _ t_M) (lo_k11_18 hL _ t_M) (by decide))).trans e133
                  have e178 := (k396 (g.lk M 24) (tg_ne (lo_k11_24 hL _ t_M) (lo_k11_18 hL _ t_M) (by decide))).trans e178
                  have e324 := (k396 (g.lk M 22) (tg_ne (lo_k11_22 hL _ t_M) (lo_k11_18 hL _ t_M) (by decide))).trans e324
                  have e373 := (k396 (g.lk M 21) (tg_ne (lo_k11_21 hL _ t_M) (lo_k11_18 hL _ t_M) (by decide))).trans e373
                  have e381 := (k396 (g.lk M 17) (tg_ne (lo_k11_17 hL _ t_M) (lo_k11_18 hL _ t_M) (by decide))).trans e381
                  have e388 := (k396 (g.lk M 19) (tg_ne (lo_k11_19 hL _ t_M) (lo_k11_18 hL _ t_M) (by decide))).trans e388
                  have hu := hu.st k396 (lo_k11_18 hL _ t_M) (by decide)
                  have hk397 : ∀ b, b ≠ (g.lk M 18) → f394 b = f387 b := k396
                  refine lv_aload_n hx hb d_M_joined_138 rfl (lv_at hl 2 rfl) ?_
                  refine pf_get (v := .ref (g.lk M 20)) (C := "BigRunnerModel") (T := FT10) (N := 45) hx hb (hw10 hB _) (fun _ h9 => h9) hown hK hP (lo_in hL t_M (by decide)) e1 rfl 20 (by decide) (wd_967 hB _) rfl d_M_joined_139 ?_
                  refine lv_iload_n hx hb d_M_joined_142 rfl (lv_at hl 3 rfl) ?_
                  refine lv_aload_n hx hb d_M_joined_143 rfl (lv_at hl 2 rfl) ?_
                  refine pf_get (v := .ref (g.lk M 24)) (C := "BigRunnerModel") (T := FT10) (N := 45) hx hb (hw10 hB _) (fun _ h9 => h9) hown hK hP (lo_in hL t_M (by decide)) e1 rfl 24 (by decide) (wd_971 hB _) rfl d_M_joined_144 ?_
                  refine lv_iconst (v := nI 0) hx hb d_M_joined_147 (by decide) ?_
                  refine pf_zald (i := 0) hx hb hK hP (lo_in hL (lo_k11_24 hL _ t_M) (by decide)) e178 (lo_t56 hL _ (lo_k11_24 hL _ t_M)) (by omega) (by decide) d_M_joined_148 ?_
                  refine lv_topi (fun iv398 _ => ?_)
                  refine lv_if_ne (tgt := 156) hx hb d_M_joined_149 (by decide) (fun b399 => ?_) (fun b399 => ?_)
                  · skip
                    refine lv_iconst (v := nI 1) hx hb d_M_joined_156 (by decide) ?_
                    refine lv_goto (tgt := 161) hx hb d_M_joined_157 (by decide) ?_
                    have hI400 := iv_1 hI393 hL (lo_k11_18 hL _ t_M) (by decide) hk397 (oc_50.mk (lo_k11_18 hL _ t_M) (⟨_, e395⟩))
                    refine pf_zast (i := v9) hx hb hK hP hD hS (lo_in hL (lo_k11_20 hL _ t_M) (by decide)) eO (lo_t52 hL _ (lo_k11_20 hL _ t_M)) (by omega) (by decide) d_M_joined_161 (fun f401 H locs e402 k403 hP hD hS => ?_)
                    have e1 := (k403 M (tg_ne t_M (lo_k11_20 hL _ t_M) (by decide))).trans e1
                    have e133 := (k403 (g.lk M 23) (tg_ne (lo_k11_23 hL _ t_M) (lo_k11_20 hL _ t_M) (by decide))).trans e133
                    have e178 := (k403 (g.lk M 24) (tg_ne (lo_k11_24 hL _ t_M) (lo_k11_20 hL _ t_M) (by decide))).trans e178
                    have e324 := (k403 (g.lk M 22) (tg_ne (lo_k11_22 hL _ t_M) (lo_k11_20 hL _ t_M) (by decide))).trans e324
                    have e373 := (k403 (g.lk M 21) (tg_ne (lo_k11_21 hL _ t_M) (lo_k11_20 hL _ t_M) (by decide))).trans e373
                    have e381 := (k403 (g.lk M 17) (tg_ne (lo_k11_17 hL _ t_M) (lo_k11_20 hL _ t_M) (by decide))).trans e381
                    have e388 := (k403 (g.lk M 19) (tg_ne (lo_k11_19 hL _ t_M) (lo_k11_20 hL _ t_M) (by decide))).trans e388
                    have e395 := (k403 (g.lk M 18) (tg_ne (lo_k11_18 hL _ t_M) (lo_k11_20 hL _ t_M) (by decide))).trans e395
                    have hu := hu.st k403 (lo_k11_20 hL _ t_M) (by decide)
                    have hk404 : ∀ b, b ≠ (g.lk M 20) → f401 b = f394 b := k403
                    refine lv_iload_n hx hb d_M_joined_162 rfl (lv_at hl 1 rfl) ?_
                    refine lv_if_ne (tgt := 171) hx hb d_M_joined_163 (by decide) (fun b405 => ?_) (fun b405 => ?_)
                    · skip
                      replace b405 := mt (nI_eq (a := 1) (b := 0) (by omega) (by omega)).mpr b405
                      refine lv_iconst (v := nI 1) hx hb d_M_joined_171 (by decide) ?_
                      refine lv_goto (tgt := 176) hx hb d_M_joined_172 (by decide) ?_
                      have hI406 := iv_1 hI400 hL (lo_k11_20 hL _ t_M) (by decide) hk404 (oc_52.mk (lo_k11_20 hL _ t_M) (⟨_, e402⟩))
                      exact pe_zret hx hb hr hlocks hK hP hD hS d_M_joined_176 rfl ⟨(Or.inr rfl), ⟨_, _, e388, e402, (by have z_hU := cz_1 (x := (vp_nar .boolean ((nI 1)))) b35 (by decide) 10 hv9; have z_hO := cz_1 (x := (vp_nar .boolean ((nI 1)))) b138 (by decide) 10 hv9; first | omega | exact Nat.le_refl _), (fun _ w9 => by have z_hU := cz_1 (x := (vp_nar .boolean ((nI 1)))) b35 (by decide) 10 hv9; have z_hO := cz_1 (x := (vp_nar .boolean ((nI 1)))) b138 (by decide) 10 hv9; first | omega | exact absurd (by assumption) w9)⟩, hI406, hu⟩
                    · skip
                      replace b405 := (nI_eq (a := 1) (b := 0) (by omega) (by omega)).mp b405
                      exfalso; omega
                  · skip
                    refine lv_iload_n hx hb d_M_joined_152 rfl (lv_at hl 4 rfl) ?_
                    refine lv_if_eq (tgt := 160) hx hb d_M_joined_153 (by decide) (fun b407 => ?_) (fun b407 => ?_)
                    · skip
                      refine lv_iconst (v := nI 0) hx hb d_M_joined_160 (by decide) ?_
                      have hI408 := iv_1 hI393 hL (lo_k11_18 hL _ t_M) (by decide) hk397 (oc_50.mk (lo_k11_18 hL _ t_M) (⟨_, e395⟩))
                      refine pf_zast (i := v9) hx hb hK hP hD hS (lo_in hL (lo_k11_20 hL _ t_M) (by decide)) eO (lo_t52 hL _ (lo_k11_20 hL _ t_M)) (by omega) (by decide) d_M_joined_161 (fun f409 H locs e410 k411 hP hD hS => ?_)
                      have e1 := (k411 M (tg_ne t_M (lo_k11_20 hL _ t_M) (by decide))).trans e1
                      have e133 := (k411 (g.lk M 23) (tg_ne (lo_k11_23 hL _ t_M) (lo_k11_20 hL _ t_M) (by decide))).trans e133
                      have e178 := (k411 (g.lk M 24) (tg_ne (lo_k11_24 hL _ t_M) (lo_k11_20 hL _ t_M) (by decide))).trans e178
                      have e324 := (k411 (g.lk M 22) (tg_ne (lo_k11_22 hL _ t_M) (lo_k11_20 hL _ t_M) (by decide))).trans e324
                      have e373 := (k411 (g.lk M 21) (tg_ne (lo_k11_21 hL _ t_M) (lo_k11_20 hL _ t_M) (by decide))).trans e373
                      have e381 := (k411 (g.lk M 17) (tg_ne (lo_k11_17 hL _ t_M) (lo_k11_20 hL _ t_M) (by decide))).trans e381
                      have e388 := (k411 (g.lk M 19) (tg_ne (lo_k11_19 hL _ t_M) (lo_k11_20 hL _ t_M) (by decide))).trans e388
                      have e395 := (k411 (g.lk M 18) (tg_ne (lo_k11_18 hL _ t_M) (lo_k11_20 hL _ t_M) (by decide))).trans e395
                      have hu := hu.st k411 (lo_k11_20 hL _ t_M) (by decide)
                      have hk412 : ∀ b, b ≠ (g.lk M 20) → f409 b = f394 b := k411
                      refine lv_iload_n hx hb d_M_joined_162 rfl (lv_at hl 1 rfl) ?_
                      refine lv_if_ne (tgt := 171) hx hb d_M_joined_163 (by decide) (fun b413 => ?_) (fun b413 => ?_)
                      · skip
                        replace b413 := mt (nI_eq (a := 1) (b := 0) (by omega) (by omega)).mpr b413
                        refine lv_iconst (v := nI 1) hx hb d_M_joined_171 (by decide) ?_
                        refine lv_goto (tgt := 176) hx hb d_M_joined_172 (by decide) ?_
                        have hI414 := iv_1 hI408 hL (lo_k11_20 hL _ t_M) (by decide) hk412 (oc_52.mk (lo_k11_20 hL _ t_M) (⟨_, e410⟩))
                        exact pe_zret hx hb hr hlocks hK hP hD hS d_M_joined_176 rfl ⟨(Or.inr rfl), ⟨_, _, e388, e410, (by have z_hU := cz_1 (x := (vp_nar .boolean ((nI 1)))) b35 (by decide) 10 hv9; have z_hO := cz_0 (x := (vp_nar .boolean ((nI 0)))) b138 (by decide) 10; first | omega | exact Nat.le_refl _), (fun _ w9 => by have z_hU := cz_1 (x := (vp_nar .boolean ((nI 1)))) b35 (by decide) 10 hv9; have z_hO := cz_0 (x := (vp_nar .boolean ((nI 0)))) b138 (by decide) 10; first | omega | exact absurd (by assumption) w9)⟩, hI414, hu⟩
                      · skip
                        replace b413 := (nI_eq (a := 1) (b := 0) (by omega) (by omega)).mp b413
                        exfalso; omega
                    · skip
                      refine lv_iconst (v := nI 1) hx hb d_M_joined_156 (by decide) ?_
                      refine lv_goto (tgt := 161) hx hb d_M_joined_157 (by decide) ?_
                      have hI415 := iv_1 hI393 hL (lo_k11_18 hL _ t_M) (by decide) hk397 (oc_50.mk (lo_k11_18 hL _ t_M) (⟨_, e395⟩))
                      refine pf_zast (i := v9) hx hb hK hP hD hS (lo_in hL (lo_k11_20 hL _ t_M) (by decide)) eO (lo_t52 hL _ (lo_k11_20 hL _ t_M)) (by omega) (by decide) d_M_joined_161 (fun f416 H locs e417 k418 hP hD hS => ?_)
                      have e1 := (k418 M (tg_ne t_M (lo_k11_20 hL _ t_M) (by decide))).trans e1
                      have e133 := (k418 (g.lk M 23) (tg_ne (lo_k11_23 hL _ t_M) (lo_k11_20 hL _ t_M) (by decide))).trans e133
                      have e178 := (k418 (g.lk M 24) (tg_ne (lo_k11_24 hL _ t_M) (lo_k11_20 hL _ t_M) (by decide))).trans e178
                      have e324 := (k418 (g.lk M 22) (tg_ne (lo_k11_22 hL _ t_M) (lo_k11_20 hL _ t_M) (by decide))).trans e324
                      have e373 := (k418 (g.lk M 21) (tg_ne (lo_k11_21 hL _ t_M) (lo_k11_20 hL _ t_M) (by decide))).trans e373
                      have e381 := (k418 (g.lk M 17) (tg_ne (lo_k11_17 hL _ t_M) (lo_k11_20 hL _ t_M) (by decide))).trans e381
                      have e388 := (k418 (g.lk M 19) (tg_ne (lo_k11_19 hL _ t_M) (lo_k11_20 hL _ t_M) (by decide))).trans e388
                      have e395 := (k418 (g.lk M 18) (tg_ne (lo_k11_18 hL _ t_M) (lo_k11_20 hL _ t_M) (by decide))).trans e395
                      have hu := hu.st k418 (lo_k11_20 hL _ t_M) (by decide)
                      have hk419 : ∀ b, b ≠ (g.lk M 20) → f416 b = f394 b := k418
                      refine lv_iload_n hx hb d_M_joined_162 rfl (lv_at hl 1 rfl) ?_
                      refine lv_if_ne (tgt := 171) hx hb d_M_joined_163 (by decide) (fun b420 => ?_) (fun b420 => ?_)
                      · skip
                        replace b420 := mt (nI_eq (a := 1) (b := 0) (by omega) (by omega)).mpr b420
                        refine lv_iconst (v := nI 1) hx hb d_M_joined_171 (by decide) ?_
                        refine lv_goto (tgt := 176) hx hb d_M_joined_172 (by decide) ?_
                        have hI421 := iv_1 hI415 hL (lo_k11_20 hL _ t_M) (by decide) hk419 (oc_52.mk (lo_k11_20 hL _ t_M) (⟨_, e417⟩))
                        exact pe_zret hx hb hr hlocks hK hP hD hS d_M_joined_176 rfl ⟨(Or.inr rfl), ⟨_, _, e388, e417, (by have z_hU := cz_1 (x := (vp_nar .boolean ((nI 1)))) b35 (by decide) 10 hv9; have z_hO := cz_1 (x := (vp_nar .boolean ((nI 1)))) b138 (by decide) 10 hv9; first | omega | exact Nat.le_refl _), (fun _ w9 => by have z_hU := cz_1 (x := (vp_nar .boolean ((nI 1)))) b35 (by decide) 10 hv9; have z_hO := cz_1 (x := (vp_nar .boolean ((nI 1)))) b138 (by decide) 10 hv9; first | omega | exact absurd (by assumption) w9)⟩, hI421, hu⟩
                      · skip
                        replace b420 := (nI_eq (a := 1) (b := 0) (by omega) (by omega)).mp b420
                        exfalso; omega
              · skip
                refine lv_iload_n hx hb d_M_joined_111 rfl (lv_at hl 4 rfl) ?_
                refine lv_if_eq (tgt := 119) hx hb d_M_joined_112 (by decide) (fun b422 => ?_) (fun b422 => ?_)
                · skip
                  refine lv_iconst (v := nI 0) hx hb d_M_joined_119 (by decide) ?_
                  have hI423 := iv_1 hI hL (lo_k11_17 hL _ t_M) (by decide) hk383 (oc_49.mk (lo_k11_17 hL _ t_M) (⟨_, e381⟩))
                  refine pf_zast (i := v9) hx hb hK hP hD hS (lo_in hL (lo_k11_19 hL _ t_M) (by decide)) eU (lo_t51 hL _ (lo_k11_19 hL _ t_M)) (by omega) (by decide) d_M_joined_120 (fun f424 H locs e425 k426 hP hD hS => ?_)
                  have eO := (k426 (g.lk M 20) (tg_ne (lo_k11_20 hL _ t_M) (lo_k11_19 hL _ t_M) (by decide))).trans eO
                  have e1 := (k426 M (tg_ne t_M (lo_k11_19 hL _ t_M) (by decide))).trans e1
                  have e133 := (k426 (g.lk M 23) (tg_ne (lo_k11_23 hL _ t_M) (lo_k11_19 hL _ t_M) (by decide))).trans e133
                  have e178 := (k426 (g.lk M 24) (tg_ne (lo_k11_24 hL _ t_M) (lo_k11_19 hL _ t_M) (by decide))).trans e178
                  have e324 := (k426 (g.lk M 22) (tg_ne (lo_k11_22 hL _ t_M) (lo_k11_19 hL _ t_M) (by decide))).trans e324
                  have e328 := (k426 (g.lk M 18) (tg_ne (lo_k11_18 hL _ t_M) (lo_k11_19 hL _ t_M) (by decide))).trans e328
                  have e373 := (k426 (g.lk M 21) (tg_ne (lo_k11_21 hL _ t_M) (lo_k11_19 hL _ t_M) (by decide))).trans e373
                  have e381 := (k426 (g.lk M 17) (tg_ne (lo_k11_17 hL _ t_M) (lo_k11_19 hL _ t_M) (by decide))).trans e381
                  have hu := hu.st k426 (lo_k11_19 hL _ t_M) (by decide)
                  have hk427 : ∀ b, b ≠ (g.lk M 19) → f424 b = f380 b := k426
                  refine lv_iload hx hb d_M_joined_121 (lv_at hl 0 rfl) ?_
                  refine lv_if_eq (tgt := 162) hx hb d_M_joined_123 (by decide) (fun b428 => ?_) (fun b428 => ?_)
                  · skip
                    replace b428 := (nI_eq (a := 1) (b := 0) (by omega) (by omega)).mp b428
                    exfalso; omega
                  · skip
                    replace b428 := mt (nI_eq (a := 1) (b := 0) (by omega) (by omega)).mpr b428
                    refine lv_aload_n hx hb d_M_joined_126 rfl (lv_at hl 2 rfl) ?_
                    refine pf_get (v := .ref (g.lk M 18)) (C := "BigRunnerModel") (T := FT10) (N := 45) hx hb (hw10 hB _) (fun _ h9 => h9) hown hK hP (lo_in hL t_M (by decide)) e1 rfl 18 (by decide) (wd_965 hB _) rfl d_M_joined_127 ?_
                    refine lv_iload_n hx hb d_M_joined_130 rfl (lv_at hl 3 rfl) ?_
                    refine lv_aload_n hx hb d_M_joined_131 rfl (lv_at hl 2 rfl) ?_
                    refine pf_get (v := .ref (g.lk M 22)) (C := "BigRunnerModel") (T := FT10) (N := 45) hx hb (hw10 hB _) (fun _ h9 => h9) hown hK hP (lo_in hL t_M (by decide)) e1 rfl 22 (by decide) (wd_969 hB _) rfl d_M_joined_132 ?_
                    refine lv_iconst (v := nI 0) hx hb d_M_joined_135 (by decide) ?_
                    refine pf_lald (i := 0) hx hb hK hP (lo_in hL (lo_k11_22 hL _ t_M) (by decide)) e324 (lo_t54 hL _ (lo_k11_22 hL _ t_M)) (by omega) (by decide) d_M_joined_136 ?_
                    refine lv_topl (fun lv429 _ => ?_)
                    have hI430 := iv_1 hI423 hL (lo_k11_19 hL _ t_M) (by decide) hk427 (oc_51.mk (lo_k11_19 hL _ t_M) (⟨_, e425⟩))
                    refine pf_last (i := v9) hx hb hK hP hD hS (lo_in hL (lo_k11_18 hL _ t_M) (by decide)) e328 (lo_t50 hL _ (lo_k11_18 hL _ t_M)) (by omega) (by decide) d_M_joined_137 (fun f431 H locs e432 k433 hP hD hS => ?_)
                    have eO := (k433 (g.lk M 20) (tg_ne (lo_k11_20 hL _ t_M) (lo_k11_18 hL _ t_M) (by decide))).trans eO
                    have e1 := (k433 M (tg_ne t_M (lo_k11_18 hL _ t_M) (by decide))).trans e1
                    have e133 := (k433 (g.lk M 23) (tg_ne (lo_k11_23 hL _ t_M) (lo_k11_18 hL _ t_M) (by decide))).trans e133
                    have e178 := (k433 (g.lk M 24) (tg_ne (lo_k11_24 hL _ t_M) (lo_k11_18 hL _ t_M) (by decide))).trans e178
                    have e324 := (k433 (g.lk M 22) (tg_ne (lo_k11_22 hL _ t_M) (lo_k11_18 hL _ t_M) (by decide))).trans e324
                    have e373 := (k433 (g.lk M 21) (tg_ne (lo_k11_21 hL _ t_M) (lo_k11_18 hL _ t_M) (by decide))).trans e373
                    have e381 := (k433 (g.lk M 17) (tg_ne (lo_k11_17 hL _ t_M) (lo_k11_18 hL _ t_M) (by decide))).trans e381
                    have e425 := (k433 (g.lk M 19) (tg_ne (lo_k11_19 hL _ t_M) (lo_k11_18 hL _ t_M) (by decide))).trans e425
                    have hu := hu.st k433 (lo_k11_18 hL _ t_M) (by decide)
                    have hk434 : ∀ b, b ≠ (g.lk M 18) → f431 b = f424 b := k433
                    refine lv_aload_n hx hb d_M_joined_138 rfl (lv_at hl 2 rfl) ?_
                    refine pf_get (v := .ref (g.lk M 20)) (C := "BigRunnerModel") (T := FT10) (N := 45) hx hb (hw10 hB _) (fun _ h9 => h9) hown hK hP (lo_in hL t_M (by decide)) e1 rfl 20 (by decide) (wd_967 hB _) rfl d_M_joined_139 ?_
                    refine lv_iload_n hx hb d_M_joined_142 rfl (lv_at hl 3 rfl) ?_
                    refine lv_aload_n hx hb d_M_joined_143 rfl (lv_at hl 2 rfl) ?_
                    refine pf_get (v := .ref (g.lk M 24)) (C := "BigRunnerModel") (T := FT10) (N := 45) hx hb (hw10 hB _) (fun _ h9 => h9) hown hK hP (lo_in hL t_M (by decide)) e1 rfl 24 (by decide) (wd_971 hB _) rfl d_M_joined_144 ?_
                    refine lv_iconst (v := nI 0) hx hb d_M_joined_147 (by decide) ?_
                    refine pf_zald (i := 0) hx hb hK hP (lo_in hL (lo_k11_24 hL _ t_M) (by decide)) e178 (lo_t56 hL _ (lo_k11_24 hL _ t_M)) (by omega) (by decide) d_M_joined_148 ?_
                    refine lv_topi (fun iv435 _ => ?_)
                    refine lv_if_ne (tgt := 156) hx hb d_M_joined_149 (by decide) (fun b436 => ?_) (fun b436 => ?_)
                    · skip
                      refine lv_iconst (v := nI 1) hx hb d_M_joined_156 (by decide) ?_
                      refine lv_goto (tgt := 161) hx hb d_M_joined_157 (by decide) ?_
                      have hI437 := iv_1 hI430 hL (lo_k11_18 hL _ t_M) (by decide) hk434 (oc_50.mk (lo_k11_18 hL _ t_M) (⟨_, e432⟩))
                      refine pf_zast (i := v9) hx hb hK hP hD hS (lo_in hL (lo_k11_20 hL _ t_M) (by decide)) eO (lo_t52 hL _ (lo_k11_20 hL _ t_M)) (by omega) (by decide) d_M_joined_161 (fun f438 H locs e439 k440 hP hD hS => ?_)
                      have e1 := (k440 M (tg_ne t_M (lo_k11_20 hL _ t_M) (by decide))).trans e1
                      have e133 := (k440 (g.lk M 23) (tg_ne (lo_k11_23 hL _ t_M) (lo_k11_20 hL _ t_M) (by decide))).trans e133
                      have e178 := (k440 (g.lk M 24) (tg_ne (lo_k11_24 hL _ t_M) (lo_k11_20 hL _ t_M) (by decide))).trans e178
                      have e324 := (k440 (g.lk M 22) (tg_ne (lo_k11_22 hL _ t_M) (lo_k11_20 hL _ t_M) (by decide))).trans e324
                      have e373 := (k440 (g.lk M 21) (tg_ne (lo_k11_21 hL _ t_M) (lo_k11_20 hL _ t_M) (by decide))).trans e373
                      have e381 := (k440 (g.lk M 17) (tg_ne (lo_k11_17 hL _ t_M) (lo_k11_20 hL _ t_M) (by decide))).trans e381
                      have e425 := (k440 (g.lk M 19) (tg_ne (lo_k11_19 hL _ t_M) (lo_k11_20 hL _ t_M) (by decide))).trans e425
                      have e432 := (k440 (g.lk M 18) (tg_ne (lo_k11_18 hL _ t_M) (lo_k11_20 hL _ t_M) (by decide))).trans e432
                      have hu := hu.st k440 (lo_k11_20 hL _ t_M) (by decide)
                      have hk441 : ∀ b, b ≠ (g.lk M 20) → f438 b = f431 b := k440
                      refine lv_iload_n hx hb d_M_joined_162 rfl (lv_at hl 1 rfl) ?_
                      refine lv_if_ne (tgt := 171) hx hb d_M_joined_163 (by decide) (fun b442 => ?_) (fun b442 => ?_)
                      · skip
                        replace b442 := mt (nI_eq (a := 1) (b := 0) (by omega) (by omega)).mpr b442
                        refine lv_iconst (v := nI 1) hx hb d_M_joined_171 (by decide) ?_
                        refine lv_goto (tgt := 176) hx hb d_M_joined_172 (by decide) ?_
                        have hI443 := iv_1 hI437 hL (lo_k11_20 hL _ t_M) (by decide) hk441 (oc_52.mk (lo_k11_20 hL _ t_M) (⟨_, e439⟩))
                        exact pe_zret hx hb hr hlocks hK hP hD hS d_M_joined_176 rfl ⟨(Or.inr rfl), ⟨_, _, e425, e439, (by have z_hU := cz_0 (x := (vp_nar .boolean ((nI 0)))) b35 (by decide) 10; have z_hO := cz_1 (x := (vp_nar .boolean ((nI 1)))) b138 (by decide) 10 hv9; first | omega | exact Nat.le_refl _), (fun _ w9 => by have z_hU := cz_0 (x := (vp_nar .boolean ((nI 0)))) b35 (by decide) 10; have z_hO := cz_1 (x := (vp_nar .boolean ((nI 1)))) b138 (by decide) 10 hv9; first | omega | exact absurd (by assumption) w9)⟩, hI443, hu⟩
                      · skip
                        replace b442 := (nI_eq (a := 1) (b := 0) (by omega) (by omega)).mp b442
                        exfalso; omega
                    · skip
                      refine lv_iload_n hx hb d_M_joined_152 rfl (lv_at hl 4 rfl) ?_
                      refine lv_if_eq (tgt := 160) hx hb d_M_joined_153 (by decide) (fun b444 => ?_) (fun b444 => ?_)
                      · skip
                        refine lv_iconst (v := nI 0) hx hb d_M_joined_160 (by decide) ?_
                        have hI445 := iv_1 hI430 hL (lo_k11_18 hL _ t_M) (by decide) hk434 (oc_50.mk (lo_k11_18 hL _ t_M) (⟨_, e432⟩))
                        refine pf_zast (i := v9) hx hb hK hP hD hS (lo_in hL (lo_k11_20 hL _ t_M) (by decide)) eO (lo_t52 hL _ (lo_k11_20 hL _ t_M)) (by omega) (by decide) d_M_joined_161 (fun f446 H locs e447 k448 hP hD hS => ?_)
                        have e1 := (k448 M (tg_ne t_M (lo_k11_20 hL _ t_M) (by decide))).trans e1
                        have e133 := (k448 (g.lk M 23) (tg_ne (lo_k11_23 hL _ t_M) (lo_k11_20 hL _ t_M) (by decide))).trans e133
                        have e178 := (k448 (g.lk M 24) (tg_ne (lo_k11_24 hL _ t_M) (lo_k11_20 hL _ t_M) (by decide))).trans e178
                        have e324 := (k448 (g.lk M 22) (tg_ne (lo_k11_22 hL _ t_M) (lo_k11_20 hL _ t_M) (by decide))).trans e324
                        have e373 := (k448 (g.lk M 21) (tg_ne (lo_k11_21 hL _ t_M) (lo_k11_20 hL _ t_M) (by decide))).trans e373
                        have e381 := (k448 (g.lk M 17) (tg_ne (lo_k11_17 hL _ t_M) (lo_k11_20 hL _ t_M) (by decide))).trans e381
                        have e425 := (k448 (g.lk M 19) (tg_ne (lo_k11_19 hL _ t_M) (lo_k11_20 hL _ t_M) (by decide))).trans e425
                        have e432 := (k448 (g.lk M 18) (tg_ne (lo_k11_18 hL _ t_M) (lo_k11_20 hL _ t_M) (by decide))).trans e432
                        have hu := hu.st k448 (lo_k11_20 hL _ t_M) (by decide)
                        have hk449 : ∀ b, b ≠ (g.lk M 20) → f446 b = f431 b := k448
                        refine lv_iload_n hx hb d_M_joined_162 rfl (lv_at hl 1 rfl) ?_
                        refine lv_if_ne (tgt := 171) hx hb d_M_joined_163 (by decide) (fun b450 => ?_) (fun b450 => ?_)
                        · skip
                          replace b450 := mt (nI_eq (a := 1) (b := 0) (by omega) (by omega)).mpr b450
                          refine lv_iconst (v := nI 1) hx hb d_M_joined_171 (by decide) ?_
                          refine lv_goto (tgt := 176) hx hb d_M_joined_172 (by decide) ?_
                          have hI451 := iv_1 hI445 hL (lo_k11_20 hL _ t_M) (by decide) hk449 (oc_52.mk (lo_k11_20 hL _ t_M) (⟨_, e447⟩))
                          exact pe_zret hx hb hr hlocks hK hP hD hS d_M_joined_176 rfl ⟨(Or.inr rfl), ⟨_, _, e425, e447, (by have z_hU := cz_0 (x := (vp_nar .boolean ((nI 0)))) b35 (by decide) 10; have z_hO := cz_0 (x := (vp_nar .boolean ((nI 0)))) b138 (by decide) 10; first | omega | exact Nat.le_refl _), (fun _ w9 => by have z_hU := cz_0 (x := (vp_nar .boolean ((nI 0)))) b35 (by decide) 10; have z_hO := cz_0 (x := (vp_nar .boolean ((nI 0)))) b138 (by decide) 10; first | omega | exact absurd (by assumption) w9)⟩, hI451, hu⟩
                        · skip
                          replace b450 := (nI_eq (a := 1) (b := 0) (by omega) (by omega)).mp b450
                          exfalso; omega
                      · skip
                        refine lv_iconst (v := nI 1) hx hb d_M_joined_156 (by decide) ?_
                        refine lv_goto (tgt := 161) hx hb d_M_joined_157 (by decide) ?_
                        have hI452 := iv_1 hI430 hL (lo_k11_18 hL _ t_M) (by decide) hk434 (oc_50.mk (lo_k11_18 hL _ t_M) (⟨_, e432⟩))
                        refine pf_zast (i := v9) hx hb hK hP hD hS (lo_in hL (lo_k11_20 hL _ t_M) (by decide)) eO (lo_t52 hL _ (lo_k11_20 hL _ t_M)) (by omega) (by decide) d_M_joined_161 (fun f453 H locs e454 k455 hP hD hS => ?_)
                        have e1 := (k455 M (tg_ne t_M (lo_k11_20 hL _ t_M) (by decide))).trans e1
                        have e133 := (k455 (g.lk M 23) (tg_ne (lo_k11_23 hL _ t_M) (lo_k11_20 hL _ t_M) (by decide))).trans e133
                        have e178 := (k455 (g.lk M 24) (tg_ne (lo_k11_24 hL _ t_M) (lo_k11_20 hL _ t_M) (by decide))).trans e178
                        have e324 := (k455 (g.lk M 22) (tg_ne (lo_k11_22 hL _ t_M) (lo_k11_20 hL _ t_M) (by decide))).trans e324
                        have e373 := (k455 (g.lk M 21) (tg_ne (lo_k11_21 hL _ t_M) (lo_k11_20 hL _ t_M) (by decide))).trans e373
                        have e381 := (k455 (g.lk M 17) (tg_ne (lo_k11_17 hL _ t_M) (lo_k11_20 hL _ t_M) (by decide))).trans e381
                        have e425 := (k455 (g.lk M 19) (tg_ne (lo_k11_19 hL _ t_M) (lo_k11_20 hL _ t_M) (by decide))).trans e425
                        have e432 := (k455 (g.lk M 18) (tg_ne (lo_k11_18 hL _ t_M) (lo_k11_20 hL _ t_M) (by decide))).trans e432
                        have hu := hu.st k455 (lo_k11_20 hL _ t_M) (by decide)
                        have hk456 : ∀ b, b ≠ (g.lk M 20) → f453 b = f431 b := k455
                        refine lv_iload_n hx hb d_M_joined_162 rfl (lv_at hl 1 rfl) ?_
                        refine lv_if_ne (tgt := 171) hx hb d_M_joined_163 (by decide) (fun b457 => ?_) (fun b457 => ?_)
                        · skip
                          replace b457 := mt (nI_eq (a := 1) (b := 0) (by omega) (by omega)).mpr b457
                          refine lv_iconst (v := nI 1) hx hb d_M_joined_171 (by decide) ?_
                          refine lv_goto (tgt := 176) hx hb d_M_joined_172 (by decide) ?_
                          have hI458 := iv_1 hI452 hL (lo_k11_20 hL _ t_M) (by decide) hk456 (oc_52.mk (lo_k11_20 hL _ t_M) (⟨_, e454⟩))
                          exact pe_zret hx hb hr hlocks hK hP hD hS d_M_joined_176 rfl ⟨(Or.inr rfl), ⟨_, _, e425, e454, (by have z_hU := cz_0 (x := (vp_nar .boolean ((nI 0)))) b35 (by decide) 10; have z_hO := cz_1 (x := (vp_nar .boolean ((nI 1)))) b138 (by decide) 10 hv9; first | omega | exact Nat.le_refl _), (fun _ w9 => by have z_hU := cz_0 (x := (vp_nar .boolean ((nI 0)))) b35 (by decide) 10; have z_hO := cz_1 (x := (vp_nar .boolean ((nI 1)))) b138 (by decide) 10 hv9; first | omega | exact absurd (by assumption) w9)⟩, hI458, hu⟩
                        · skip
                          replace b457 := (nI_eq (a := 1) (b := 0) (by omega) (by omega)).mp b457
                          exfalso; omega
                · skip
                  refine lv_iconst (v := nI 1) hx hb d_M_joined_115 (by decide) ?_
                  refine lv_goto (tgt := 120) hx hb d_M_joined_116 (by decide) ?_
                  have hI459 := iv_1 hI hL (lo_k11_17 hL _ t_M) (by decide) hk383 (oc_49.mk (lo_k11_17 hL _ t_M) (⟨_, e381⟩))
                  refine pf_zast (i := v9) hx hb hK hP hD hS (lo_in hL (lo_k11_19 hL _ t_M) (by decide)) eU (lo_t51 hL _ (lo_k11_19 hL _ t_M)) (by omega) (by decide) d_M_joined_120 (fun f460 H locs e461 k462 hP hD hS => ?_)
                  have eO := (k462 (g.lk M 20) (tg_ne (lo_k11_20 hL _ t_M) (lo_k11_19 hL _ t_M) (by decide))).trans eO
                  have e1 := (k462 M (tg_ne t_M (lo_k11_19 hL _ t_M) (by decide))).trans e1
                  have e133 := (k462 (g.lk M 23) (tg_ne (lo_k11_23 hL _ t_M) (lo_k11_19 hL _ t_M) (by decide))).trans e133
                  have e178 := (k462 (g.lk M 24) (tg_ne (lo_k11_24 hL _ t_M) (lo_k11_19 hL _ t_M) (by decide))).trans e178
                  have e324 := (k462 (g.lk M 22) (tg_ne (lo_k11_22 hL _ t_M) (lo_k11_19 hL _ t_M) (by decide))).trans e324
                  have e328 := (k462 (g.lk M 18) (tg_ne (lo_k11_18 hL _ t_M) (lo_k11_19 hL _ t_M) (by decide))).trans e328
                  have e373 := (k462 (g.lk M 21) (tg_ne (lo_k11_21 hL _ t_M) (lo_k11_19 hL _ t_M) (by decide))).trans e373
                  have e381 := (k462 (g.lk M 17) (tg_ne (lo_k11_17 hL _ t_M) (lo_k11_19 hL _ t_M) (by decide))).trans e381
                  have hu := hu.st k462 (lo_k11_19 hL _ t_M) (by decide)
                  have hk463 : ∀ b, b ≠ (g.lk M 19) → f460 b = f380 b := k462
                  refine lv_iload hx hb d_M_joined_121 (lv_at hl 0 rfl) ?_
                  refine lv_if_eq (tgt := 162) hx hb d_M_joined_123 (by decide) (fun b464 => ?_) (fun b464 => ?_)
                  · skip
                    replace b464 := (nI_eq (a := 1) (b := 0) (by omega) (by omega)).mp b464
                    exfalso; omega
                  · skip
                    replace b464 := mt (nI_eq (a := 1) (b := 0) (by omega) (by omega)).mpr b464
                    refine lv_aload_n hx hb d_M_joined_126 rfl (lv_at hl 2 rfl) ?_
                    refine pf_get (v := .ref (g.lk M 18)) (C := "BigRunnerModel") (T := FT10) (N := 45) hx hb (hw10 hB _) (fun _ h9 => h9) hown hK hP (lo_in hL t_M (by decide)) e1 rfl 18 (by decide) (wd_965 hB _) rfl d_M_joined_127 ?_
                    refine lv_iload_n hx hb d_M_joined_130 rfl (lv_at hl 3 rfl) ?_
                    refine lv_aload_n hx hb d_M_joined_131 rfl (lv_at hl 2 rfl) ?_
                    refine pf_get (v := .ref (g.lk M 22)) (C := "BigRunnerModel") (T := FT10) (N := 45) hx hb (hw10 hB _) (fun _ h9 => h9) hown hK hP (lo_in hL t_M (by decide)) e1 rfl 22 (by decide) (wd_969 hB _) rfl d_M_joined_132 ?_
                    refine lv_iconst (v := nI 0) hx hb d_M_joined_135 (by decide) ?_
                    refine pf_lald (i := 0) hx hb hK hP (lo_in hL (lo_k11_22 hL _ t_M) (by decide)) e324 (lo_t54 hL _ (lo_k11_22 hL _ t_M)) (by omega) (by decide) d_M_joined_136 ?_
                    refine lv_topl (fun lv465 _ => ?_)
                    have hI466 := iv_1 hI459 hL (lo_k11_19 hL _ t_M) (by decide) hk463 (oc_51.mk (lo_k11_19 hL _ t_M) (⟨_, e461⟩))
                    refine pf_last (i := v9) hx hb hK hP hD hS (lo_in hL (lo_k11_18 hL _ t_M) (by decide)) e328 (lo_t50 hL _ (lo_k11_18 hL _ t_M)) (by omega) (by decide) d_M_joined_137 (fun f467 H locs e468 k469 hP hD hS => ?_)
                    have eO := (k469 (g.lk M 20) (tg_ne (lo_k11_20 hL _ t_M) (lo_k11_18 hL _ t_M) (by decide))).trans eO
                    have e1 := (k469 M (tg_ne t_M (lo_k11_18 hL _ t_M) (by decide))).trans e1
                    have e133 := (k469 (g.lk M 23) (tg_ne (lo_k11_23 hL _ t_M) (lo_k11_18 hL _ t_M) (by decide))).trans e133
                    have e178 := (k469 (g.lk M 24) (tg_ne (lo_k11_24 hL _ t_M) (lo_k11_18 hL _ t_M) (by decide))).trans e178
                    have e324 := (k469 (g.lk M 22) (tg_ne (lo_k11_22 hL _ t_M) (lo_k11_18 hL _ t_M) (by decide))).trans e324
                    have e373 := (k469 (g.lk M 21) (tg_ne (lo_k11_21 hL _ t_M) (lo_k11_18 hL _ t_M) (by decide))).trans e373
                    have e381 := (k469 (g.lk M 17) (tg_ne (lo_k11_17 hL _ t_M) (lo_k11_18 hL _ t_M) (by decide))).trans e381
                    have e461 := (k469 (g.lk M 19) (tg_ne (lo_k11_19 hL _ t_M) (lo_k11_18 hL _ t_M) (by decide))).trans e461
                    have hu := hu.st k469 (lo_k11_18 hL _ t_M) (by decide)
                    have hk470 : ∀ b, b ≠ (g.lk M 18) → f467 b = f460 b := k469
                    refine lv_aload_n hx hb d_M_joined_138 rfl (lv_at hl 2 rfl) ?_
                    refine pf_get (v := .ref (g.lk M 20)) (C := "BigRunnerModel") (T := FT10) (N := 45) hx hb (hw10 hB _) (fun _ h9 => h9) hown hK hP (lo_in hL t_M (by decide)) e1 rfl 20 (by decide) (wd_967 hB _) rfl d_M_joined_139 ?_
                    refine lv_iload_n hx hb d_M_joined_142 rfl (lv_at hl 3 rfl) ?_
                    refine lv_aload_n hx hb d_M_joined_143 rfl (lv_at hl 2 rfl) ?_
                    refine pf_get (v := .ref (g.lk M 24)) (C := "BigRunnerModel") (T := FT10) (N := 45) hx hb (hw10 hB _) (fun _ h9 => h9) hown hK hP (lo_in hL t_M (by decide)) e1 rfl 24 (by decide) (wd_971 hB _) rfl d_M_joined_144 ?_
                    refine lv_iconst (v := nI 0) hx hb d_M_joined_147 (by decide) ?_
                    refine pf_zald (i := 0) hx hb hK hP (lo_in hL (lo_k11_24 hL _ t_M) (by decide)) e178 (lo_t56 hL _ (lo_k11_24 hL _ t_M)) (by omega) (by decide) d_M_joined_148 ?_
                    refine lv_topi (fun iv471 _ => ?_)
                    refine lv_if_ne (tgt := 156) hx hb d_M_joined_149 (by decide) (fun b472 => ?_) (fun b472 => ?_)
                    · skip
                      refine lv_iconst (v := nI 1) hx hb d_M_joined_156 (by decide) ?_
                      refine lv_goto (tgt := 161) hx hb d_M_joined_157 (by decide) ?_
                      have hI473 := iv_1 hI466 hL (lo_k11_18 hL _ t_M) (by decide) hk470 (oc_50.mk (lo_k11_18 hL _ t_M) (⟨_, e468⟩))
                      refine pf_zast (i := v9) hx hb hK hP hD hS (lo_in hL (lo_k11_20 hL _ t_M) (by decide)) eO (lo_t52 hL _ (lo_k11_20 hL _ t_M)) (by omega) (by decide) d_M_joined_161 (fun f474 H locs e475 k476 hP hD hS => ?_)
                      have e1 := (k476 M (tg_ne t_M (lo_k11_20 hL _ t_M) (by decide))).trans e1
                      have e133 := (k476 (g.lk M 23) (tg_ne (lo_k11_23 hL _ t_M) (lo_k11_20 hL _ t_M) (by decide))).trans e133
                      have e178 := (k476 (g.lk M 24) (tg_ne (lo_k11_24 hL _ t_M) (lo_k11_20 hL _ t_M) (by decide))).trans e178
                      have e324 := (k476 (g.lk M 22) (tg_ne (lo_k11_22 hL _ t_M) (lo_k11_20 hL _ t_M) (by decide))).trans e324
                      have e373 := (k476 (g.lk M 21) (tg_ne (lo_k11_21 hL _ t_M) (lo_k11_20 hL _ t_M) (by decide))).trans e373
                      have e381 := (k476 (g.lk M 17) (tg_ne (lo_k11_17 hL _ t_M) (lo_k11_20 hL _ t_M) (by decide))).trans e381
                      have e461 := (k476 (g.lk M 19) (tg_ne (lo_k11_19 hL _ t_M) (lo_k11_20 hL _ t_M) (by decide))).trans e461
                      have e468 := (k476 (g.lk M 18) (tg_ne (lo_k11_18 hL _ t_M) (lo_k11_20 hL _ t_M) (by decide))).trans e468
                      have hu := hu.st k476 (lo_k11_20 hL _ t_M) (by decide)
                      have hk477 : ∀ b, b ≠ (g.lk M 20) → f474 b = f467 b := k476
                      refine lv_iload_n hx hb d_M_joined_162 rfl (lv_at hl 1 rfl) ?_
                      refine lv_if_ne (tgt := 171) hx hb d_M_joined_163 (by decide) (fun b478 => ?_) (fun b478 => ?_)
                      · skip
                        replace b478 := mt (nI_eq (a := 1) (b := 0) (by omega) (by omega)).mpr b478
                        refine lv_iconst (v := nI 1) hx hb d_M_joined_171 (by decide) ?_
                        refine lv_goto (tgt := 176) hx hb d_M_joined_172 (by decide) ?_
                        have hI479 := iv_1 hI473 hL (lo_k11_20 hL _ t_M) (by decide) hk477 (oc_52.mk (lo_k11_20 hL _ t_M) (⟨_, e475⟩))
                        exact pe_zret hx hb hr hlocks hK hP hD hS d_M_joined_176 rfl ⟨(Or.inr rfl), ⟨_, _, e461, e475, (by have z_hU := cz_1 (x := (vp_nar .boolean ((nI 1)))) b35 (by decide) 10 hv9; have z_hO := cz_1 (x := (vp_nar .boolean ((nI 1)))) b138 (by decide) 10 hv9; first | omega | exact Nat.le_refl _), (fun _ w9 => by have z_hU := cz_1 (x := (vp_nar .boolean ((nI 1)))) b35 (by decide) 10 hv9; have z_hO := cz_1 (x := (vp_nar .boolean ((nI 1)))) b138 (by decide) 10 hv9; first | omega | exact absurd (by assumption) w9)⟩, hI479, hu⟩
                      · skip
                        replace b478 := (nI_eq (a := 1) (b := 0) (by omega) (by omega)).mp b478
                        exfalso; omega
                    · skip
                      refine lv_iload_n hx hb d_M_joined_152 rfl (lv_at hl 4 rfl) ?_
                      refine lv_if_eq (tgt := 160) hx hb d_M_joined_153 (by decide) (fun b480 => ?_) (fun b480 => ?_)
                      · skip
                        refine lv_iconst (v := nI 0) hx hb d_M_joined_160 (by decide) ?_
                        have hI481 := iv_1 hI466 hL (lo_k11_18 hL _ t_M) (by decide) hk470 (oc_50.mk (lo_k11_18 hL _ t_M) (⟨_, e468⟩))
                        refine pf_zast (i := v9) hx hb hK hP hD hS (lo_in hL (lo_k11_20 hL _ t_M) (by decide)) eO (lo_t52 hL _ (lo_k11_20 hL _ t_M)) (by omega) (by decide) d_M_joined_161 (fun f482 H locs e483 k484 hP hD hS => ?_)
                        have e1 := (k484 M (tg_ne t_M (lo_k11_20 hL _ t_M) (by decide))).trans e1
                        have e133 := (k484 (g.lk M 23) (tg_ne (lo_k11_23 hL _ t_M) (lo_k11_20 hL _ t_M) (by decide))).trans e133
                        have e178 := (k484 (g.lk M 24) (tg_ne (lo_k11_24 hL _ t_M) (lo_k11_20 hL _ t_M) (by decide))).trans e178
                        have e324 := (k484 (g.lk M 22) (tg_ne (lo_k11_22 hL _ t_M) (lo_k11_20 hL _ t_M) (by decide))).trans e324
                        have e373 := (k484 (g.lk M 21) (tg_ne (lo_k11_21 hL _ t_M) (lo_k11_20 hL _ t_M) (by decide))).trans e373
                        have e381 := (k484 (g.lk M 17) (tg_ne (lo_k11_17 hL _ t_M) (lo_k11_20 hL _ t_M) (by decide))).trans e381
                        have e461 := (k484 (g.lk M 19) (tg_ne (lo_k11_19 hL _ t_M) (lo_k11_20 hL _ t_M) (by decide))).trans e461
                        have e468 := (k484 (g.lk M 18) (tg_ne (lo_k11_18 hL _ t_M) (lo_k11_20 hL _ t_M) (by decide))).trans e468
                        have hu := hu.st k484 (lo_k11_20 hL _ t_M) (by decide)
                        have hk485 : ∀ b, b ≠ (g.lk M 20) → f482 b = f467 b := k484
                        refine lv_iload_n hx hb d_M_joined_162 rfl (lv_at hl 1 rfl) ?_
                        refine lv_if_ne (tgt := 171) hx hb d_M_joined_163 (by decide) (fun b486 => ?_) (fun b486 => ?_)
                        · skip
                          replace b486 := mt (nI_eq (a := 1) (b := 0) (by omega) (by omega)).mpr b486
                          refine lv_iconst (v := nI 1) hx hb d_M_joined_171 (by decide) ?_
                          refine lv_goto (tgt := 176) hx hb d_M_joined_172 (by decide) ?_
                          have hI487 := iv_1 hI481 hL (lo_k11_20 hL _ t_M) (by decide) hk485 (oc_52.mk (lo_k11_20 hL _ t_M) (⟨_, e483⟩))
                          exact pe_zret hx hb hr hlocks hK hP hD hS d_M_joined_176 rfl ⟨(Or.inr rfl), ⟨_, _, e461, e483, (by have z_hU := cz_1 (x := (vp_nar .boolean ((nI 1)))) b35 (by decide) 10 hv9; have z_hO := cz_0 (x := (vp_nar .boolean ((nI 0)))) b138 (by decide) 10; first | omega | exact Nat.le_refl _), (fun _ w9 => by have z_hU := cz_1 (x := (vp_nar .boolean ((nI 1)))) b35 (by decide) 10 hv9; have z_hO := cz_0 (x := (vp_nar .boolean ((nI 0)))) b138 (by decide) 10; first | omega | exact absurd (by assumption) w9)⟩, hI487, hu⟩
                        · skip
                          replace b486 := (nI_eq (a := 1) (b := 0) (by omega) (by omega)).mp b486
                          exfalso; omega
                      · skip
                        refine lv_iconst (v := nI 1) hx hb d_M_joined_156 (by decide) ?_
                        refine lv_goto (tgt := 161) hx hb d_M_joined_157 (by decide) ?_
                        have hI488 := iv_1 hI466 hL (lo_k11_18 hL _ t_M) (by decide) hk470 (oc_50.mk (lo_k11_18 hL _ t_M) (⟨_, e468⟩))
                        refine pf_zast (i := v9) hx hb hK hP hD hS (lo_in hL (lo_k11_20 hL _ t_M) (by decide)) eO (lo_t52 hL _ (lo_k11_20 hL _ t_M)) (by omega) (by decide) d_M_joined_161 (fun f489 H locs e490 k491 hP hD hS => ?_)
                        have e1 := (k491 M (tg_ne t_M (lo_k11_20 hL _ t_M) (by decide))).trans e1
                        have e133 := (k491 (g.lk M 23) (tg_ne (lo_k11_23 hL _ t_M) (lo_k11_20 hL _ t_M) (by decide))).trans e133
                        have e178 := (k491 (g.lk M 24) (tg_ne (lo_k11_24 hL _ t_M) (lo_k11_20 hL _ t_M) (by decide))).trans e178
                        have e324 := (k491 (g.lk M 22) (tg_ne (lo_k11_22 hL _ t_M) (lo_k11_20 hL _ t_M) (by decide))).trans e324
                        have e373 := (k491 (g.lk M 21) (tg_ne (lo_k11_21 hL _ t_M) (lo_k11_20 hL _ t_M) (by decide))).trans e373
                        have e381 := (k491 (g.lk M 17) (tg_ne (lo_k11_17 hL _ t_M) (lo_k11_20 hL _ t_M) (by decide))).trans e381
                        have e461 := (k491 (g.lk M 19) (tg_ne (lo_k11_19 hL _ t_M) (lo_k11_20 hL _ t_M) (by decide))).trans e461
                        have e468 := (k491 (g.lk M 18) (tg_ne (lo_k11_18 hL _ t_M) (lo_k11_20 hL _ t_M) (by decide))).trans e468
                        have hu := hu.st k491 (lo_k11_20 hL _ t_M) (by decide)
                        have hk492 : ∀ b, b ≠ (g.lk M 20) → f489 b = f467 b := k491
                        refine lv_iload_n hx hb d_M_joined_162 rfl (lv_at hl 1 rfl) ?_
                        refine lv_if_ne (tgt := 171) hx hb d_M_joined_163 (by decide) (fun b493 => ?_) (fun b493 => ?_)
                        · skip
                          replace b493 := mt (nI_eq (a := 1) (b := 0) (by omega) (by omega)).mpr b493
                          refine lv_iconst (v := nI 1) hx hb d_M_joined_171 (by decide) ?_
                          refine lv_goto (tgt := 176) hx hb d_M_joined_172 (by decide) ?_
                          have hI494 := iv_1 hI488 hL (lo_k11_20 hL _ t_M) (by decide) hk492 (oc_52.mk (lo_k11_20 hL _ t_M) (⟨_, e490⟩))
                          exact pe_zret hx hb hr hlocks hK hP hD hS d_M_joined_176 rfl ⟨(Or.inr rfl), ⟨_, _, e461, e490, (by have z_hU := cz_1 (x := (vp_nar .boolean ((nI 1)))) b35 (by decide) 10 hv9; have z_hO := cz_1 (x := (vp_nar .boolean ((nI 1)))) b138 (by decide) 10 hv9; first | omega | exact Nat.le_refl _), (fun _ w9 => by have z_hU := cz_1 (x := (vp_nar .boolean ((nI 1)))) b35 (by decide) 10 hv9; have z_hO := cz_1 (x := (vp_nar .boolean ((nI 1)))) b138 (by decide) 10 hv9; first | omega | exact absurd (by assumption) w9)⟩, hI494, hu⟩
                        · skip
                          replace b493 := (nI_eq (a := 1) (b := 0) (by omega) (by omega)).mp b493
                          exfalso; omega
    · skip
      refine lv_aload_n hx hb d_M_joined_18 rfl (lv_at hl 0 rfl) ?_
      refine pf_get (v := .ref (g.lk M 21)) (C := "BigRunnerModel") (T := FT10) (N := 45) hx hb (hw10 hB _) (fun _ h9 => h9) hown hK hP (lo_in hL t_M (by decide)) e1 rfl 21 (by decide) (wd_968 hB _) rfl d_M_joined_19 ?_
      refine lv_iconst (v := nI 0) hx hb d_M_joined_22 (by decide) ?_
      obtain ⟨h_496, e495⟩ := oc_53.of (lo_k11_21 hL _ t_M) (hI.1 (g.lk M 21))
      refine pf_lald (i := 0) hx hb hK hP (lo_in hL (lo_k11_21 hL _ t_M) (by decide)) e495 (lo_t53 hL _ (lo_k11_21 hL _ t_M)) (by omega) (by decide) d_M_joined_23 ?_
      refine lv_topl (fun lv498 _ => ?_)
      refine lv_aload_n hx hb d_M_joined_24 rfl (lv_at hl 0 rfl) ?_
      refine pf_get (v := .ref (g.lk M 17)) (C := "BigRunnerModel") (T := FT10) (N := 45) hx hb (hw10 hB _) (fun _ h9 => h9) hown hK hP (lo_in hL t_M (by decide)) e1 rfl 17 (by decide) (wd_964 hB _) rfl d_M_joined_25 ?_
      refine lv_iload_n hx hb d_M_joined_28 rfl (lv_at hl 1 rfl) ?_
      obtain ⟨h_500, e499⟩ := oc_49.of (lo_k11_17 hL _ t_M) (hI.1 (g.lk M 17))
      refine pf_lald (i := v9) hx hb hK hP (lo_in hL (lo_k11_17 hL _ t_M) (by decide)) e499 (lo_t49 hL _ (lo_k11_17 hL _ t_M)) (by omega) (by decide) d_M_joined_29 ?_
      refine lv_topl (fun lv502 _ => ?_)
      refine W.lcmp hx hb d_M_joined_30 ?_
      refine lv_if_ge (tgt := 38) hx hb d_M_joined_31 (by decide) (fun b503 => ?_) (fun b503 => ?_)
      · skip
        replace b503 := pl_ge.mp b503
        refine lv_iconst (v := nI 0) hx hb d_M_joined_38 (by decide) ?_
        refine lv_istore_n (lv' := [(3, .int (nI 0)), (0, .ref M), (1, .int (nI v9)), (2, .int wd)]) hx hb d_M_joined_39 rfl hl (by decide) rfl (fun ls hl => ?_)
        refine lv_aload_n hx hb d_M_joined_40 rfl (lv_at hl 1 rfl) ?_
        refine pf_get (v := .ref (g.lk M 20)) (C := "BigRunnerModel") (T := FT10) (N := 45) hx hb (hw10 hB _) (fun _ h9 => h9) hown hK hP (lo_in hL t_M (by decide)) e1 rfl 20 (by decide) (wd_967 hB _) rfl d_M_joined_41 ?_
        refine lv_iload_n hx hb d_M_joined_44 rfl (lv_at hl 2 rfl) ?_
        refine pf_zald (i := v9) hx hb hK hP (lo_in hL (lo_k11_20 hL _ t_M) (by decide)) eO (lo_t52 hL _ (lo_k11_20 hL _ t_M)) (by omega) (by decide) d_M_joined_45 ?_
        refine lv_if_ne (tgt := 78) hx hb d_M_joined_46 (by decide) (fun b504 => ?_) (fun b504 => ?_)
        · skip
          refine lv_iconst (v := nI 0) hx hb d_M_joined_78 (by decide) ?_
          refine lv_istore (lv' := [(4, .int (nI 0)), (3, .int (nI 0)), (0, .ref M), (1, .int (nI v9)), (2, .int wd)]) hx hb d_M_joined_79 hl (by decide) rfl (fun ls hl => ?_)
          refine lv_iload_n hx hb d_M_joined_81 rfl (lv_at hl 1 rfl) ?_
          refine lv_if_eq (tgt := 121) hx hb d_M_joined_82 (by decide) (fun b505 => ?_) (fun b505 => ?_)
          · skip
            replace b505 := (nI_eq (a := 0) (b := 0) (by omega) (by omega)).mp b505
            refine lv_iload hx hb d_M_joined_121 (lv_at hl 0 rfl) ?_
            refine lv_if_eq (tgt := 162) hx hb d_M_joined_123 (by decide) (fun b506 => ?_) (fun b506 => ?_)
            · skip
              replace b506 := (nI_eq (a := 0) (b := 0) (by omega) (by omega)).mp b506
              refine lv_iload_n hx hb d_M_joined_162 rfl (lv_at hl 1 rfl) ?_
              refine lv_if_ne (tgt := 171) hx hb d_M_joined_163 (by decide) (fun b507 => ?_) (fun b507 => ?_)
              · skip
                replace b507 := mt (nI_eq (a := 0) (b := 0) (by omega) (by omega)).mpr b507
                exfalso; omega
              · skip
                replace b507 := (nI_eq (a := 0) (b := 0) (by omega) (by omega)).mp b507
                refine lv_iload hx hb d_M_joined_166 (lv_at hl 0 rfl) ?_
                refine lv_if_eq (tgt := 175) hx hb d_M_joined_168 (by decide) (fun b508 => ?_) (fun b508 => ?_)
                · skip
                  replace b508 := (nI_eq (a := 0) (b := 0) (by omega) (by omega)).mp b508
                  refine lv_iconst (v := nI 0) hx hb d_M_joined_175 (by decide) ?_
                  exact pe_zret hx hb hr hlocks hK hP hD hS d_M_joined_176 rfl ⟨(Or.inl rfl), ⟨_, _, eU, eO, (by first | omega | exact Nat.le_refl _), (fun z9 => absurd z9 (by decide))⟩, hI, hu⟩
                · skip
                  replace b508 := mt (nI_eq (a := 0) (b := 0) (by omega) (by omega)).mpr b508
                  exfalso; omega
            · skip
              replace b506 := mt (nI_eq (a := 0) (b := 0) (by omega) (by omega)).mpr b506
              exfalso; omega
          · skip
            replace b505 := mt (nI_eq (a := 0) (b := 0) (by omega) (by omega)).mpr b505
            exfalso; omega
        · skip
          refine lv_aload_n hx hb d_M_joined_49 rfl (lv_at hl 1 rfl) ?_
          refine pf_get (v := .ref (g.lk M 24)) (C := "BigRunnerModel") (T := FT10) (N := 45) hx hb (hw10 hB _) (fun _ h9 => h9) hown hK hP (lo_in hL t_M (by decide)) e1 rfl 24 (by decide) (wd_971 hB _) rfl d_M_joined_50 ?_
          refine lv_iconst (v := nI 0) hx hb d_M_joined_53 (by decide) ?_
          obtain ⟨h_510, e509⟩ := oc_56.of (lo_k11_24 hL _ t_M) (hI.1 (g.lk M 24))
          refine pf_zald (i := 0) hx hb hK hP (lo_in hL (lo_k11_24 hL _ t_M) (by decide)) e509 (lo_t56 hL _ (lo_k11_24 hL _ t_M)) (by omega) (by decide) d_M_joined_54 ?_
          refine lv_topi (fun iv512 _ => ?_)
          refine lv_if_ne (tgt := 74) hx hb d_M_joined_55 (by decide) (fun b513 => ?_) (fun b513 => ?_)
          · skip
            refine lv_iconst (v := nI 1) hx hb d_M_joined_74 (by decide) ?_
            refine lv_goto (tgt := 79) hx hb d_M_joined_75 (by decide) ?_
            refine lv_istore (lv' := [(4, .int (nI 1)), (3, .int (nI 0)), (0, .ref M), (1, .int (nI v9)), (2, .int wd)]) hx hb d_M_joined_79 hl (by decide) rfl (fun ls hl => ?_)
            refine lv_iload_n hx hb d_M_joined_81 rfl (lv_at hl 1 rfl) ?_
            refine lv_if_eq (tgt := 121) hx hb d_M_joined_82 (by decide) (fun b514 => ?_) (fun b514 => ?_)
            · skip
              replace b514 := (nI_eq (a := 0) (b := 0) (by omega) (by omega)).mp b514
              refine lv_iload hx hb d_M_joined_121 (lv_at hl 0 rfl) ?_
              refine lv_if_eq (tgt := 162) hx hb d_M_joined_123 (by decide) (fun b515 => ?_) (fun b515 => ?_)
              · skip
                replace b515 := (nI_eq (a := 1) (b := 0) (by omega) (by omega)).mp b515
                exfalso; omega
              · skip
                replace b515 := mt (nI_eq (a := 1) (b := 0) (by omega) (by omega)).mpr b515
                refine lv_aload_n hx hb d_M_joined_126 rfl (lv_at hl 2 rfl) ?_
                refine pf_get (v := .ref (g.lk M 18)) (C := "BigRunnerModel") (T := FT10) (N := 45) hx hb (hw10 hB _) (fun _ h9 => h9) hown hK hP (lo_in hL t_M (by decide)) e1 rfl 18 (by decide) (wd_965 hB _) rfl d_M_joined_127 ?_
                refine lv_iload_n hx hb d_M_joined_130 rfl (lv_at hl 3 rfl) ?_
                refine lv_aload_n hx hb d_M_joined_131 rfl (lv_at hl 2 rfl) ?_
                refine pf_get (v := .ref (g.lk M 22)) (C := "BigRunnerModel") (T := FT10) (N := 45) hx hb (hw10 hB _) (fun _ h9 => h9) hown hK hP (lo_in hL t_M (by decide)) e1 rfl 22 (by decide) (wd_969 hB _) rfl d_M_joined_132 ?_
                refine lv_iconst (v := nI 0) hx hb d_M_joined_135 (by decide) ?_
                obtain ⟨h_517, e516⟩ := oc_54.of (lo_k11_22 hL _ t_M) (hI.1 (g.lk M 22))
                refine pf_lald (i := 0) hx hb hK hP (lo_in hL (lo_k11_22 hL _ t_M) (by decide)) e516 (lo_t54 hL _ (lo_k11_22 hL _ t_M)) (by omega) (by decide) d_M_joined_136 ?_
                refine lv_topl (fun lv519 _ => ?_)
                obtain ⟨h_521, e520⟩ := oc_50.of (lo_k11_18 hL _ t_M) (hI.1 (g.lk M 18))
                refine pf_last (i := v9) hx hb hK hP hD hS (lo_in hL (lo_k11_18 hL _ t_M) (by decide)) e520 (lo_t50 hL _ (lo_k11_18 hL _ t_M)) (by omega) (by decide) d_M_joined_137 (fun f523 H locs e524 k525 hP hD hS => ?_)
                have eU := (k525 (g.lk M 19) (tg_ne (lo_k11_19 hL _ t_M) (lo_k11_18 hL _ t_M) (by decide))).trans eU
                have eO := (k525 (g.lk M 20) (tg_ne (lo_k11_20 hL _ t_M) (lo_k11_18 hL _ t_M) (by decide))).trans eO
                have e1 := (k525 M (tg_ne t_M (lo_k11_18 hL _ t_M) (by decide))).trans e1
                have e133 := (k525 (g.lk M 23) (tg_ne (lo_k11_23 hL _ t_M) (lo_k11_18 hL _ t_M) (by decide))).trans e133
                have e495 := (k525 (g.lk M 21) (tg_ne (lo_k11_21 hL _ t_M) (lo_k11_18 hL _ t_M) (by decide))).trans e495
                have e499 := (k525 (g.lk M 17) (tg_ne (lo_k11_17 hL _ t_M) (lo_k11_18 hL _ t_M) (by decide))).trans e499
                have e509 := (k525 (g.lk M 24) (tg_ne (lo_k11_24 hL _ t_M) (lo_k11_18 hL _ t_M) (by decide))).trans e509
                have e516 := (k525 (g.lk M 22) (tg_ne (lo_k11_22 hL _ t_M) (lo_k11_18 hL _ t_M) (by decide))).trans e516
                have hu := hu.st k525 (lo_k11_18 hL _ t_M) (by decide)
                have hk526 : ∀ b, b ≠ (g.lk M 18) → f523 b = f b := k525
                refine lv_aload_n hx hb d_M_joined_138 rfl (lv_at hl 2 rfl) ?_
                refine pf_get (v := .ref (g.lk M 20)) (C := "BigRunnerModel") (T := FT10) (N := 45) hx hb (hw10 hB _) (fun _ h9 => h9) hown hK hP (lo_in hL t_M (by decide)) e1 rfl 20 (by decide) (wd_967 hB _) rfl d_M_joined_139 ?_
                refine lv_iload_n hx hb d_M_joined_142 rfl (lv_at hl 3 rfl) ?_
                refine lv_aload_n hx hb d_M_joined_143 rfl (lv_at hl 2 rfl) ?_
                refine pf_get (v := .ref (g.lk M 24)) (C := "BigRunnerModel") (T := FT10) (N := 45) hx hb (hw10 hB _) (fun _ h9 => h9) hown hK hP (lo_in hL t_M (by decide)) e1 rfl 24 (by decide) (wd_971 hB _) rfl d_M_joined_144 ?_
                refine lv_iconst (v := nI 0) hx hb d_M_joined_147 (by decide) ?_
                refine pf_zald (i := 0) hx hb hK hP (lo_in hL (lo_k11_24 hL _ t_M) (by decide)) e509 (lo_t56 hL _ (lo_k11_24 hL _ t_M)) (by omega) (by decide) d_M_joined_148 ?_
                refine lv_topi (fun iv527 _ => ?_)
                refine lv_if_ne (tgt := 156) hx hb d_M_joined_149 (by decide) (fun b528 => ?_) (fun b528 => ?_)
                · skip
                  refine lv_iconst (v := nI 1) hx hb d_M_joined_156 (by decide) ?_
                  refine lv_goto (tgt := 161) hx hb d_M_joined_157 (by decide) ?_
                  have hI529 := iv_1 hI hL (lo_k11_18 hL _ t_M) (by decide) hk526 (oc_50.mk (lo_k11_18 hL _ t_M) (⟨_, e524⟩))
                  refine pf_zast (i := v9) hx hb hK hP hD hS (lo_in hL (lo_k11_20 hL _ t_M) (by decide)) eO (lo_t52 hL _ (lo_k11_20 hL _ t_M)) (by omega) (by decide) d_M_joined_161 (fun f530 H locs e531 k532 hP hD hS => ?_)
                  have eU := (k532 (g.lk M 19) (tg_ne (lo_k11_19 hL _ t_M) (lo_k11_20 hL _ t_M) (by decide))).trans eU
                  have e1 := (k532 M (tg_ne t_M (lo_k11_20 hL _ t_M) (by decide))).trans e1
                  have e133 := (k532 (g.lk M 23) (tg_ne (lo_k11_23 hL _ t_M) (lo_k11_20 hL _ t_M) (by decide))).trans e133
                  have e495 := (k532 (g.lk M 21) (tg_ne (lo_k11_21 hL _ t_M) (lo_k11_20 hL _ t_M) (by decide))).trans e495
                  have e499 := (k532 (g.lk M 17) (tg_ne (lo_k11_17 hL _ t_M) (lo_k11_20 hL _ t_M) (by decide))).trans e499
                  have e509 := (k532 (g.lk M 24) (tg_ne (lo_k11_24 hL _ t_M) (lo_k11_20 hL _ t_M) (by decide))).trans e509
                  have e516 := (k532 (g.lk M 22) (tg_ne (lo_k11_22 hL _ t_M) (lo_k11_20 hL _ t_M) (by decide))).trans e516
                  have e524 := (k532 (g.lk M 18) (tg_ne (lo_k11_18 hL _ t_M) (lo_k11_20 hL _ t_M) (by decide))).trans e524
                  have hu := hu.st k532 (lo_k11_20 hL _ t_M) (by decide)
                  have hk533 : ∀ b, b ≠ (g.lk M 20) → f530 b = f523 b := k532
                  refine lv_iload_n hx hb d_M_joined_162 rfl (lv_at hl 1 rfl) ?_
                  refine lv_if_ne (tgt := 171) hx hb d_M_joined_163 (by decide) (fun b534 => ?_) (fun b534 => ?_)
                  · skip
                    replace b534 := mt (nI_eq (a := 0) (b := 0) (by omega) (by omega)).mpr b534
                    exfalso; omega
                  · skip
                    replace b534 := (nI_eq (a := 0) (b := 0) (by omega) (by omega)).mp b534
                    refine lv_iload hx hb d_M_joined_166 (lv_at hl 0 rfl) ?_
                    refine lv_if_eq (tgt := 175) hx hb d_M_joined_168 (by decide) (fun b535 => ?_) (fun b535 => ?_)
                    · skip
                      replace b535 := (nI_eq (a := 1) (b := 0) (by omega) (by omega)).mp b535
                      exfalso; omega
                    · skip
                      replace b535 := mt (nI_eq (a := 1) (b := 0) (by omega) (by omega)).mpr b535
                      refine lv_iconst (v := nI 1) hx hb d_M_joined_171 (by decide) ?_
                      refine lv_goto (tgt := 176) hx hb d_M_joined_172 (by decide) ?_
                      have hI536 := iv_1 hI529 hL (lo_k11_20 hL _ t_M) (by decide) hk533 (oc_52.mk (lo_k11_20 hL _ t_M) (⟨_, e531⟩))
                      exact pe_zret hx hb hr hlocks hK hP hD hS d_M_joined_176 rfl ⟨(Or.inr rfl), ⟨_, _, eU, e531, (by have z_hO := cz_1 (x := (vp_nar .boolean ((nI 1)))) b504 (by decide) 10 hv9; first | omega | exact Nat.le_refl _), (fun _ w9 => by have z_hO := cz_1 (x := (vp_nar .boolean ((nI 1)))) b504 (by decide) 10 hv9; first | omega | exact absurd (by assumption) w9)⟩, hI536, hu⟩
                · skip
                  refine lv_iload_n hx hb d_M_joined_152 rfl (lv_at hl 4 rfl) ?_
                  refine lv_if_eq (tgt := 160) hx hb d_M_joined_153 (by decide) (fun b537 => ?_) (fun b537 => ?_)
                  · skip
                    refine lv_iconst (v := nI 0) hx hb d_M_joined_160 (by decide) ?_
                    have hI538 := iv_1 hI hL (lo_k11_18 hL _ t_M) (by decide) hk526 (oc_50.mk (lo_k11_18 hL _ t_M) (⟨_, e524⟩))
                    refine pf_zast (i := v9) hx hb hK hP hD hS (lo_in hL (lo_k11_20 hL _ t_M) (by decide)) eO (lo_t52 hL _ (lo_k11_20 hL _ t_M)) (by omega) (by decide) d_M_joined_161 (fun f539 H locs e540 k541 hP hD hS => ?_)
                    have eU := (k541 (g.lk M 19) (tg_ne (lo_k11_19 hL _ t_M) (lo_k11_20 hL _ t_M) (by decide))).trans eU
                    have e1 := (k541 M (tg_ne t_M (lo_k11_20 hL _ t_M) (by decide))).trans e1
                    have e133 := (k541 (g.lk M 23) (tg_ne (lo_k11_23 hL _ t_M) (lo_k11_20 hL _ t_M) (by decide))).trans e133
                    have e495 := (k541 (g.lk M 21) (tg_ne (lo_k11_21 hL _ t_M) (lo_k11_20 hL _ t_M) (by decide))).trans e495
                    have e499 := (k541 (g.lk M 17) (tg_ne (lo_k11_17 hL _ t_M) (lo_k11_20 hL _ t_M) (by decide))).trans e499
                    have e509 := (k541 (g.lk M 24) (tg_ne (lo_k11_24 hL _ t_M) (lo_k11_20 hL _ t_M) (by decide))).trans e509
                    have e516 := (k541 (g.lk M 22) (tg_ne (lo_k11_22 hL _ t_M) (lo_k11_20 hL _ t_M) (by decide))).trans e516
                    have e524 := (k541 (g.lk M 18) (tg_ne (lo_k11_18 hL _ t_M) (lo_k11_20 hL _ t_M) (by decide))).trans e524
                    have hu := hu.st k541 (lo_k11_20 hL _ t_M) (by decide)
                    have hk542 : ∀ b, b ≠ (g.lk M 20) → f539 b = f523 b := k541
                    refine lv_iload_n hx hb d_M_joined_162 rfl (lv_at hl 1 rfl) ?_
                    refine lv_if_ne (tgt := 171) hx hb d_M_joined_163 (by decide) (fun b543 => ?_) (fun b543 => ?_)
                    · skip
                      replace b543 := mt (nI_eq (a := 0) (b := 0) (by omega) (by omega)).mpr b543
                      exfalso; omega
                    · skip
                      replace b543 := (nI_eq (a := 0) (b := 0) (by omega) (by omega)).mp b543
                      refine lv_iload hx hb d_M_joined_166 (lv_at hl 0 rfl) ?_
                      refine lv_if_eq (tgt := 175) hx hb d_M_joined_168 (by decide) (fun b544 => ?_) (fun b544 => ?_)
                      · skip
                        replace b544 := (nI_eq (a := 1) (b := 0) (by omega) (by omega)).mp b544
                        exfalso; omega
                      · skip
                        replace b544 := mt (nI_eq (a := 1) (b := 0) (by omega) (by omega)).mpr b544
                        refine lv_iconst (v := nI 1) hx hb d_M_joined_171 (by decide) ?_
                        refine lv_goto (tgt := 176) hx hb d_M_joined_172 (by decide) ?_
                        have hI545 := iv_1 hI538 hL (lo_k11_20 hL _ t_M) (by decide) hk542 (oc_52.mk (lo_k11_20 hL _ t_M) (⟨_, e540⟩))
                        exact pe_zret hx hb hr hlocks hK hP hD hS d_M_joined_176 rfl ⟨(Or.inr rfl), ⟨_, _, eU, e540, (by have z_hO := cz_0 (x := (vp_nar .boolean ((nI 0)))) b504 (by decide) 10; first | omega | exact Nat.le_refl _), (fun _ w9 => by have z_hO := cz_0 (x := (vp_nar .boolean ((nI 0)))) b504 (by decide) 10; first | omega | exact absurd (by assumption) w9)⟩, hI545, hu⟩
                  · skip
                    refine lv_iconst (v := nI 1) hx hb d_M_joined_156 (by decide) ?_
                    refine lv_goto (tgt := 161) hx hb d_M_joined_157 (by decide) ?_
                    have hI546 := iv_1 hI hL (lo_k11_18 hL _ t_M) (by decide) hk526 (oc_50.mk (lo_k11_18 hL _ t_M) (⟨_, e524⟩))
                    refine pf_zast (i := v9) hx hb hK hP hD hS (lo_in hL (lo_k11_20 hL _ t_M) (by decide)) eO (lo_t52 hL _ (lo_k11_20 hL _ t_M)) (by omega) (by decide) d_M_joined_161 (fun f547 H locs e548 k549 hP hD hS => ?_)
                    have eU := (k549 (g.lk M 19) (tg_ne (lo_k11_19 hL _ t_M) (lo_k11_20 hL _ t_M) (by decide))).trans eU
                    have e1 := (k549 M (tg_ne t_M (lo_k11_20 hL _ t_M) (by decide))).trans e1
                    have e133 := (k549 (g.lk M 23) (tg_ne (lo_k11_23 hL _ t_M) (lo_k11_20 hL _ t_M) (by decide))).trans e133
                    have e495 := (k549 (g.lk M 21) (tg_ne (lo_k11_21 hL _ t_M) (lo_k11_20 hL _ t_M) (by decide))).trans e495
                    have e499 := (k549 (g.lk M 17) (tg_ne (lo_k11_17 hL _ t_M) (lo_k11_20 hL _ t_M) (by decide))).trans e499
                    have e509 := (k549 (g.lk M 24) (tg_ne (lo_k11_24 hL _ t_M) (lo_k11_20 hL _ t_M) (by decide))).trans e509
                    have e516 := (k549 (g.lk M 22) (tg_ne (lo_k11_22 hL _ t_M) (lo_k11_20 hL _ t_M) (by decide))).trans e516
                    have e524 := (k549 (g.lk M 18) (tg_ne (lo_k11_18 hL _ t_M) (lo_k11_20 hL _ t_M) (by decide))).trans e524
                    have hu := hu.st k549 (lo_k11_20 hL _ t_M) (by decide)
                    have hk550 : ∀ b, b ≠ (g.lk M 20) → f547 b = f523 b := k549
                    refine lv_iload_n hx hb d_M_joined_162 rfl (lv_at hl 1 rfl) ?_
                    refine lv_if_ne (tgt := 171) hx hb d_M_joined_163 (by decide) (fun b551 => ?_) (fun b551 => ?_)
                    · skip
                      replace b551 := mt (nI_eq (a := 0) (b := 0) (by omega) (by omega)).mpr b551
                      exfalso; omega
                    · skip
                      replace b551 := (nI_eq (a := 0) (b := 0) (by omega) (by omega)).mp b551
                      refine lv_iload hx hb d_M_joined_166 (lv_at hl 0 rfl) ?_
                      refine lv_if_eq (tgt := 175) hx hb d_M_joined_168 (by decide) (fun b552 => ?_) (fun b552 => ?_)
                      · skip
                        replace b552 := (nI_eq (a := 1) (b := 0) (by omega) (by omega)).mp b552
                        exfalso; omega
                      · skip
                        replace b552 := mt (nI_eq (a := 1) (b := 0) (by omega) (by omega)).mpr b552
                        refine lv_iconst (v := nI 1) hx hb d_M_joined_171 (by decide) ?_
                        refine lv_goto (tgt := 176) hx hb d_M_joined_172 (by decide) ?_
                        have hI553 := iv_1 hI546 hL (lo_k11_20 hL _ t_M) (by decide) hk550 (oc_52.mk (lo_k11_20 hL _ t_M) (⟨_, e548⟩))
                        exact pe_zret hx hb hr hlocks hK hP hD hS d_M_joined_176 rfl ⟨(Or.inr rfl), ⟨_, _, eU, e548, (by have z_hO := cz_1 (x := (vp_nar .boolean ((nI 1)))) b504 (by decide) 10 hv9; first | omega | exact Nat.le_refl _), (fun _ w9 => by have z_hO := cz_1 (x := (vp_nar .boolean ((nI 1)))) b504 (by decide) 10 hv9; first | omega | exact absurd (by assumption) w9)⟩, hI553, hu⟩
            · skip
              replace b514 := mt (nI_eq (a := 0) (b := 0) (by omega) (by omega)).mpr b514
              exfalso; omega
          · skip
            refine lv_aload_n hx hb d_M_joined_58 rfl (lv_at hl 1 rfl) ?_
            refine pf_get (v := .ref (g.lk M 22)) (C := "BigRunnerModel") (T := FT10) (N := 45) hx hb (hw10 hB _) (fun _ h9 => h9) hown hK hP (lo_in hL t_M (by decide)) e1 rfl 22 (by decide) (wd_969 hB _) rfl d_M_joined_59 ?_
            refine lv_iconst (v := nI 0) hx hb d_M_joined_62 (by decide) ?_
            obtain ⟨h_555, e554⟩ := oc_54.of (lo_k11_22 hL _ t_M) (hI.1 (g.lk M 22))
            refine pf_lald (i := 0) hx hb hK hP (lo_in hL (lo_k11_22 hL _ t_M) (by decide)) e554 (lo_t54 hL _ (lo_k11_22 hL _ t_M)) (by omega) (by decide) d_M_joined_63 ?_
            refine lv_topl (fun lv557 _ => ?_)
            refine lv_aload_n hx hb d_M_joined_64 rfl (lv_at hl 1 rfl) ?_
            refine pf_get (v := .ref (g.lk M 18)) (C := "BigRunnerModel") (T := FT10) (N := 45) hx hb (hw10 hB _) (fun _ h9 => h9) hown hK hP (lo_in hL t_M (by decide)) e1 rfl 18 (by decide) (wd_965 hB _) rfl d_M_joined_65 ?_
            refine lv_iload_n hx hb d_M_joined_68 rfl (lv_at hl 2 rfl) ?_
            obtain ⟨h_559, e558⟩ := oc_50.of (lo_k11_18 hL _ t_M) (hI.1 (g.lk M 18))
            refine pf_lald (i := v9) hx hb hK hP (lo_in hL (lo_k11_18 hL _ t_M) (by decide)) e558 (lo_t50 hL _ (lo_k11_18 hL _ t_M)) (by omega) (by decide) d_M_joined_69 ?_
            refine lv_topl (fun lv561 _ => ?_)
            refine W.lcmp hx hb d_M_joined_70 ?_
            refine lv_if_le (tgt := 78) hx hb d_M_joined_71 (by decide) (fun b562 => ?_) (fun b562 => ?_)
            · skip
              replace b562 := pl_le.mp b562
              refine lv_iconst (v := nI 0) hx hb d_M_joined_78 (by decide) ?_
              refine lv_istore (lv' := [(4, .int (nI 0)), (3, .int (nI 0)), (0, .ref M), (1, .int (nI v9)), (2, .int wd)]) hx hb d_M_joined_79 hl (by decide) rfl (fun ls hl => ?_)
              refine lv_iload_n hx hb d_M_joined_81 rfl (lv_at hl 1 rfl) ?_
              refine lv_if_eq (tgt := 121) hx hb d_M_joined_82 (by decide) (fun b563 => ?_) (fun b563 => ?_)
              · skip
                replace b563 := (nI_eq (a := 0) (b := 0) (by omega) (by omega)).mp b563
                refine lv_iload hx hb d_M_joined_121 (lv_at hl 0 rfl) ?_
                refine lv_if_eq (tgt := 162) hx hb d_M_joined_123 (by decide) (fun b564 => ?_) (fun b564 => ?_)
                · skip
                  replace b564 := (nI_eq (a := 0) (b := 0) (by omega) (by omega)).mp b564
                  refine lv_iload_n hx hb d_M_joined_162 rfl (lv_at hl 1 rfl) ?_
                  refine lv_if_ne (tgt := 171) hx hb d_M_joined_163 (by decide) (fun b565 => ?_) (fun b565 => ?_)
                  · skip
                    replace b565 := mt (nI_eq (a := 0) (b := 0) (by omega) (by omega)).mpr b565
                    exfalso; omega
                  · skip
                    replace b565 := (nI_eq (a := 0) (b := 0) (by omega) (by omega)).mp b565
                    refine lv_iload hx hb d_M_joined_166 (lv_at hl 0 rfl) ?_
                    refine lv_if_eq (tgt := 175) hx hb d_M_joined_168 (by decide) (fun b566 => ?_) (fun b566 => ?_)
                    · skip
                      replace b566 := (nI_eq (a := 0) (b := 0) (by omega) (by omega)).mp b566
                      refine lv_iconst (v := nI 0) hx hb d_M_joined_175 (by decide) ?_
                      exact pe_zret hx hb hr hlocks hK hP hD hS d_M_joined_176 rfl ⟨(Or.inl rfl), ⟨_, _, eU, eO, (by first | omega | exact Nat.le_refl _), (fun z9 => absurd z9 (by decide))⟩, hI, hu⟩
                    · skip
                      replace b566 := mt (nI_eq (a := 0) (b := 0) (by omega) (by omega)).mpr b566
                      exfalso; omega
                · skip
                  replace b564 := mt (nI_eq (a := 0) (b := 0) (by omega) (by omega)).mpr b564
                  exfalso; omega
              · skip
                replace b563 := mt (nI_eq (a := 0) (b := 0) (by omega) (by omega)).mpr b563
                exfalso; omega
            · skip
              replace b562 := mt pl_le.mpr b562
              refine lv_iconst (v := nI 1) hx hb d_M_joined_74 (by decide) ?_
              refine lv_goto (tgt := 79) hx hb d_M_joined_75 (by decide) ?_
              refine lv_istore (lv' := [(4, .int (nI 1)), (3, .int (nI 0)), (0, .ref M), (1, .int (nI v9)), (2, .int wd)]) hx hb d_M_joined_79 hl (by decide) rfl (fun ls hl => ?_)
              refine lv_iload_n hx hb d_M_joined_81 rfl (lv_at hl 1 rfl) ?_
              refine lv_if_eq (tgt := 121) hx hb d_M_joined_82 (by decide) (fun b567 => ?_) (fun b567 => ?_)
              · skip
                replace b567 := (nI_eq (a := 0) (b := 0) (by omega) (by omega)).mp b567
                refine lv_iload hx hb d_M_joined_121 (lv_at hl 0 rfl) ?_
                refine lv_if_eq (tgt := 162) hx hb d_M_joined_123 (by decide) (fun b568 => ?_) (fun b568 => ?_)
                · skip
                  replace b568 := (nI_eq (a := 1) (b := 0) (by omega) (by omega)).mp b568
                  exfalso; omega
                · skip
                  replace b568 := mt (nI_eq (a := 1) (b := 0) (by omega) (by omega)).mpr b568
                  refine lv_aload_n hx hb d_M_joined_126 rfl (lv_at hl 2 rfl) ?_
                  refine pf_get (v := .ref (g.lk M 18)) (C := "BigRunnerModel") (T := FT10) (N := 45) hx hb (hw10 hB _) (fun _ h9 => h9) hown hK hP (lo_in hL t_M (by decide)) e1 rfl 18 (by decide) (wd_965 hB _) rfl d_M_joined_127 ?_
                  refine lv_iload_n hx hb d_M_joined_130 rfl (lv_at hl 3 rfl) ?_
                  refine lv_aload_n hx hb d_M_joined_131 rfl (lv_at hl 2 rfl) ?_
                  refine pf_get (v := .ref (g.lk M 22)) (C := "BigRunnerModel") (T := FT10) (N := 45) hx hb (hw10 hB _) (fun _ h9 => h9) hown hK hP (lo_in hL t_M (by decide)) e1 rfl 22 (by decide) (wd_969 hB _) rfl d_M_joined_132 ?_
                  refine lv_iconst (v := nI 0) hx hb d_M_joined_135 (by decide) ?_
                  refine pf_lald (i := 0) hx hb hK hP (lo_in hL (lo_k11_22 hL _ t_M) (by decide)) e554 (lo_t54 hL _ (lo_k11_22 hL _ t_M)) (by omega) (by decide) d_M_joined_136 ?_
                  refine lv_topl (fun lv569 _ => ?_)
                  refine pf_last (i := v9) hx hb hK hP hD hS (lo_in hL (lo_k11_18 hL _ t_M) (by decide)) e558 (lo_t50 hL _ (lo_k11_18 hL _ t_M)) (by omega) (by decide) d_M_joined_137 (fun f570 H locs e571 k572 hP hD hS => ?_)
                  have eU := (k572 (g.lk M 19) (tg_ne (lo_k11_19 hL _ t_M) (lo_k11_18 hL _ t_M) (by decide))).trans eU
                  have eO := (k572 (g.lk M 20) (tg_ne (lo_k11_20 hL _ t_M) (lo_k11_18 hL _ t_M) (by decide))).trans eO
                  have e1 := (k572 M (tg_ne t_M (lo_k11_18 hL _ t_M) (by decide))).trans e1
                  have e133 := (k572 (g.lk M 23) (tg_ne (lo_k11_23 hL _ t_M) (lo_k11_18 hL _ t_M) (by decide))).trans e133
                  have e495 := (k572 (g.lk M 21) (tg_ne (lo_k11_21 hL _ t_M) (lo_k11_18 hL _ t_M) (by decide))).trans e495
                  have e499 := (k572 (g.lk M 17) (tg_ne (lo_k11_17 hL _ t_M) (lo_k11_18 hL _ t_M) (by decide))).trans e499
                  have e509 := (k572 (g.lk M 24) (tg_ne (lo_k11_24 hL _ t_M) (lo_k11_18 hL _ t_M) (by decide))).trans e509
                  have e554 := (k572 (g.lk M 22) (tg_ne (lo_k11_22 hL _ t_M) (lo_k11_18 hL _ t_M) (by decide))).trans e554
                  have hu := hu.st k572 (lo_k11_18 hL _ t_M) (by decide)
                  have hk573 : ∀ b, b ≠ (g.lk M 18) → f570 b = f b := k572
                  refine lv_aload_n hx hb d_M_joined_138 rfl (lv_at hl 2 rfl) ?_
                  refine pf_get (v := .ref (g.lk M 20)) (C := "BigRunnerModel") (T := FT10) (N := 45) hx hb (hw10 hB _) (fun _ h9 => h9) hown hK hP (lo_in hL t_M (by decide)) e1 rfl 20 (by decide) (wd_967 hB _) rfl d_M_joined_139 ?_
                  refine lv_iload_n hx hb d_M_joined_142 rfl (lv_at hl 3 rfl) ?_
                  refine lv_aload_n hx hb d_M_joined_143 rfl (lv_at hl 2 rfl) ?_
                  refine pf_get (v := .ref (g.lk M 24)) (C := "BigRunnerModel") (T := FT10) (N := 45) hx hb (hw10 hB _) (fun _ h9 => h9) hown hK hP (lo_in hL t_M (by decide)) e1 rfl 24 (by decide) (wd_971 hB _) rfl d_M_joined_144 ?_
                  refine lv_iconst (v := nI 0) hx hb d_M_joined_147 (by decide) ?_
                  refine pf_zald (i := 0) hx hb hK hP (lo_in hL (lo_k11_24 hL _ t_M) (by decide)) e509 (lo_t56 hL _ (lo_k11_24 hL _ t_M)) (by omega) (by decide) d_M_joined_148 ?_
                  refine lv_topi (fun iv574 _ => ?_)
                  refine lv_if_ne (tgt := 156) hx hb d_M_joined_149 (by decide) (fun b575 => ?_) (fun b575 => ?_)
                  · skip
                    refine lv_iconst (v := nI 1) hx hb d_M_joined_156 (by decide) ?_
                    refine lv_goto (tgt := 161) hx hb d_M_joined_157 (by decide) ?_
                    have hI576 := iv_1 hI hL (lo_k11_18 hL _ t_M) (by decide) hk573 (oc_50.mk (lo_k11_18 hL _ t_M) (⟨_, e571⟩))
                    refine pf_zast (i := v9) hx hb hK hP hD hS (lo_in hL (lo_k11_20 hL _ t_M) (by decide)) eO (lo_t52 hL _ (lo_k11_20 hL _ t_M)) (by omega) (by decide) d_M_joined_161 (fun f577 H locs e578 k579 hP hD hS => ?_)
                    have eU := (k579 (g.lk M 19) (tg_ne (lo_k11_19 hL _ t_M) (lo_k11_20 hL _ t_M) (by decide))).trans eU
                    have e1 := (k579 M (tg_ne t_M (lo_k11_20 hL _ t_M) (by decide))).trans e1
                    have e133 := (k579 (g.lk M 23) (tg_ne (lo_k11_23 hL _ t_M) (lo_k11_20 hL _ t_M) (by decide))).trans e133
                    have e495 := (k579 (g.lk M 21) (tg_ne (lo_k11_21 hL _ t_M) (lo_k11_20 hL _ t_M) (by decide))).trans e495
                    have e499 := (k579 (g.lk M 17) (tg_ne (lo_k11_17 hL _ t_M) (lo_k11_20 hL _ t_M) (by decide))).trans e499
                    have e509 := (k579 (g.lk M 24) (tg_ne (lo_k11_24 hL _ t_M) (lo_k11_20 hL _ t_M) (by decide))).trans e509
                    have e554 := (k579 (g.lk M 22) (tg_ne (lo_k11_22 hL _ t_M) (lo_k11_20 hL _ t_M) (by decide))).trans e554
                    have e571 := (k579 (g.lk M 18) (tg_ne (lo_k11_18 hL _ t_M) (lo_k11_20 hL _ t_M) (by decide))).trans e571
                    have hu := hu.st k579 (lo_k11_20 hL _ t_M) (by decide)
                    have hk580 : ∀ b, b ≠ (g.lk M 20) → f577 b = f570 b := k579
                    refine lv_iload_n hx hb d_M_joined_162 rfl (lv_at hl 1 rfl) ?_
                    refine lv_if_ne (tgt := 171) hx hb d_M_joined_163 (by decide) (fun b581 => ?_) (fun b581 => ?_)
                    · skip
                      replace b581 := mt (nI_eq (a := 0) (b := 0) (by omega) (by omega)).mpr b581
                      exfalso; omega
                    · skip
                      replace b581 := (nI_eq (a := 0) (b := 0) (by omega) (by omega)).mp b581
                      refine lv_iload hx hb d_M_joined_166 (lv_at hl 0 rfl) ?_
                      refine lv_if_eq (tgt := 175) hx hb d_M_joined_168 (by decide) (fun b582 => ?_) (fun b582 => ?_)
                      · skip
                        replace b582 := (nI_eq (a := 1) (b := 0) (by omega) (by omega)).mp b582
                        exfalso; omega
                      · skip
                        replace b582 := mt (nI_eq (a := 1) (b := 0) (by omega) (by omega)).mpr b582
                        refine lv_iconst (v := nI 1) hx hb d_M_joined_171 (by decide) ?_
                        refine lv_goto (tgt := 176) hx hb d_M_joined_172 (by decide) ?_
                        have hI583 := iv_1 hI576 hL (lo_k11_20 hL _ t_M) (by decide) hk580 (oc_52.mk (lo_k11_20 hL _ t_M) (⟨_, e578⟩))
                        exact pe_zret hx hb hr hlocks hK hP hD hS d_M_joined_176 rfl ⟨(Or.inr rfl), ⟨_, _, eU, e578, (by have z_hO := cz_1 (x := (vp_nar .boolean ((nI 1)))) b504 (by decide) 10 hv9; first | omega | exact Nat.le_refl _), (fun _ w9 => by have z_hO := cz_1 (x := (vp_nar .boolean ((nI 1)))) b504 (by decide) 10 hv9; first | omega | exact absurd (by assumption) w9)⟩, hI583, hu⟩
                  · skip
                    refine lv_iload_n hx hb d_M_joined_152 rfl (lv_at hl 4 rfl) ?_
                    refine lv_if_eq (tgt := 160) hx hb d_M_joined_153 (by decide) (fun b584 => ?_) (fun b584 => ?_)
                    · skip
                      refine lv_iconst (v := nI 0) hx hb d_M_joined_160 (by decide) ?_
                      have hI585 := iv_1 hI hL (lo_k11_18 hL _ t_M) (by decide) hk573 (oc_50.mk (lo_k11_18 hL _ t_M) (⟨_, e571⟩))
                      refine pf_zast (i := v9) hx hb hK hP hD hS (lo_in hL (lo_k11_20 hL _ t_M) (by decide)) eO (lo_t52 hL _ (lo_k11_20 hL _ t_M)) (by omega) (by decide) d_M_joined_161 (fun f586 H locs e587 k588 hP hD hS => ?_)
                      have eU := (k588 (g.lk M 19) (tg_ne (lo_k11_19 hL _ t_M) (lo_k11_20 hL _ t_M) (by decide))).trans eU
                      have e1 := (k588 M (tg_ne t_M (lo_k11_20 hL _ t_M) (by decide))).trans e1
                      have e133 := (k588 (g.lk M 23) (tg_ne (lo_k11_23 hL _ t_M) (lo_k11_20 hL _ t_M) (by decide))).trans e133
                      have e495 := (k588 (g.lk M 21) (tg_ne (lo_k11_21 hL _ t_M) (lo_k11_20 hL _ t_M) (by decide))).trans e495
                      have e499 := (k588 (g.lk M 17) (tg_ne (lo_k11_17 hL _ t_M) (lo_k11_20 hL _ t_M) (by decide))).trans e499
                      have e509 := (k588 (g.lk M 24) (tg_ne (lo_k11_24 hL _ t_M) (lo_k11_20 hL _ t_M) (by decide))).trans e509
                      have e554 := (k588 (g.lk M 22) (tg_ne (lo_k11_22 hL _ t_M) (lo_k11_20 hL _ t_M) (by decide))).trans e554
                      have e571 := (k588 (g.lk M 18) (tg_ne (lo_k11_18 hL _ t_M) (lo_k11_20 hL _ t_M) (by decide))).trans e571
                      have hu := hu.st k588 (lo_k11_20 hL _ t_M) (by decide)
                      have hk589 : ∀ b, b ≠ (g.lk M 20) → f586 b = f570 b := k588
                      refine lv_iload_n hx hb d_M_joined_162 rfl (lv_at hl 1 rfl) ?_
                      refine lv_if_ne (tgt := 171) hx hb d_M_joined_163 (by decide) (fun b590 => ?_) (fun b590 => ?_)
                      · skip
                        replace b590 := mt (nI_eq (a := 0) (b := 0) (by omega) (by omega)).mpr b590
                        exfalso; omega
                      · skip
                        replace b590 := (nI_eq (a := 0) (b := 0) (by omega) (by omega)).mp b590
                        refine lv_iload hx hb d_M_joined_166 (lv_at hl 0 rfl) ?_
                        refine lv_if_eq (tgt := 175) hx hb d_M_joined_168 (by decide) (fun b591 => ?_) (fun b591 => ?_)
                        · skip
                          replace b591 := (nI_eq (a := 1) (b := 0) (by omega) (by omega)).mp b591
                          exfalso; omega
                        · skip
                          replace b591 := mt (nI_eq (a := 1) (b := 0) (by omega) (by omega)).mpr b591
                          refine lv_iconst (v := nI 1) hx hb d_M_joined_171 (by decide) ?_
                          refine lv_goto (tgt := 176) hx hb d_M_joined_172 (by decide) ?_
                          have hI592 := iv_1 hI585 hL (lo_k11_20 hL _ t_M) (by decide) hk589 (oc_52.mk (lo_k11_20 hL _ t_M) (⟨_, e587⟩))
                          exact pe_zret hx hb hr hlocks hK hP hD hS d_M_joined_176 rfl ⟨(Or.inr rfl), ⟨_, _, eU, e587, (by have z_hO := cz_0 (x := (vp_nar .boolean ((nI 0)))) b504 (by decide) 10; first | omega | exact Nat.le_refl _), (fun _ w9 => by have z_hO := cz_0 (x := (vp_nar .boolean ((nI 0)))) b504 (by decide) 10; first | omega | exact absurd (by assumption) w9)⟩, hI592, hu⟩
                    · skip
                      refine lv_iconst (v := nI 1) hx hb d_M_joined_156 (by decide) ?_
                      refine lv_goto (tgt := 161) hx hb d_M_joined_157 (by decide) ?_
                      have hI593 := iv_1 hI hL (lo_k11_18 hL _ t_M) (by decide) hk573 (oc_50.mk (lo_k11_18 hL _ t_M) (⟨_, e571⟩))
                      refine pf_zast (i := v9) hx hb hK hP hD hS (lo_in hL (lo_k11_20 hL _ t_M) (by decide)) eO (lo_t52 hL _ (lo_k11_20 hL _ t_M)) (by omega) (by decide) d_M_joined_161 (fun f594 H locs e595 k596 hP hD hS => ?_)
                      have eU := (k596 (g.lk M 19) (tg_ne (lo_k11_19 hL _ t_M) (lo_k11_20 hL _ t_M) (by decide))).trans eU
                      have e1 := (k596 M (tg_ne t_M (lo_k11_20 hL _ t_M) (by decide))).trans e1
                      have e133 := (k596 (g.lk M 23) (tg_ne (lo_k11_23 hL _ t_M) (lo_k11_20 hL _ t_M) (by decide))).trans e133
                      have e495 := (k596 (g.lk M 21) (tg_ne (lo_k11_21 hL _ t_M) (lo_k11_20 hL _ t_M) (by decide))).trans e495
                      have e499 := (k596 (g.lk M 17) (tg_ne (lo_k11_17 hL _ t_M) (lo_k11_20 hL _ t_M) (by decide))).trans e499
                      have e509 := (k596 (g.lk M 24) (tg_ne (lo_k11_24 hL _ t_M) (lo_k11_20 hL _ t_M) (by decide))).trans e509
                      have e554 := (k596 (g.lk M 22) (tg_ne (lo_k11_22 hL _ t_M) (lo_k11_20 hL _ t_M) (by decide))).trans e554
                      have e571 := (k596 (g.lk M 18) (tg_ne (lo_k11_18 hL _ t_M) (lo_k11_20 hL _ t_M) (by decide))).trans e571
                      have hu := hu.st k596 (lo_k11_20 hL _ t_M) (by decide)
                      have hk597 : ∀ b, b ≠ (g.lk M 20) → f594 b = f570 b := k596
                      refine lv_iload_n hx hb d_M_joined_162 rfl (lv_at hl 1 rfl) ?_
                      refine lv_if_ne (tgt := 171) hx hb d_M_joined_163 (by decide) (fun b598 => ?_) (fun b598 => ?_)
                      · skip
                        replace b598 := mt (nI_eq (a := 0) (b := 0) (by omega) (by omega)).mpr b598
                        exfalso; omega
                      · skip
                        replace b598 := (nI_eq (a := 0) (b := 0) (by omega) (by omega)).mp b598
                        refine lv_iload hx hb d_M_joined_166 (lv_at hl 0 rfl) ?_
                        refine lv_if_eq (tgt := 175) hx hb d_M_joined_168 (by decide) (fun b599 => ?_) (fun b599 => ?_)
                        · skip
                          replace b599 := (nI_eq (a := 1) (b := 0) (by omega) (by omega)).mp b599
                          exfalso; omega
                        · skip
                          replace b599 := mt (nI_eq (a := 1) (b := 0) (by omega) (by omega)).mpr b599
                          refine lv_iconst (v := nI 1) hx hb d_M_joined_171 (by decide) ?_
                          refine lv_goto (tgt := 176) hx hb d_M_joined_172 (by decide) ?_
                          have hI600 := iv_1 hI593 hL (lo_k11_20 hL _ t_M) (by decide) hk597 (oc_52.mk (lo_k11_20 hL _ t_M) (⟨_, e595⟩))
                          exact pe_zret hx hb hr hlocks hK hP hD hS d_M_joined_176 rfl ⟨(Or.inr rfl), ⟨_, _, eU, e595, (by have z_hO := cz_1 (x := (vp_nar .boolean ((nI 1)))) b504 (by decide) 10 hv9; first | omega | exact Nat.le_refl _), (fun _ w9 => by have z_hO := cz_1 (x := (vp_nar .boolean ((nI 1)))) b504 (by decide) 10 hv9; first | omega | exact absurd (by assumption) w9)⟩, hI600, hu⟩
              · skip
                replace b567 := mt (nI_eq (a := 0) (b := 0) (by omega) (by omega)).mpr b567
                exfalso; omega
      · skip
        replace b503 := mt pl_ge.mpr b503
        refine lv_iconst (v := nI 1) hx hb d_M_joined_34 (by decide) ?_
        refine lv_goto (tgt := 39) hx hb d_M_joined_35 (by decide) ?_
        refine lv_istore_n (lv' := [(3, .int (nI 1)), (0, .ref M), (1, .int (nI v9)), (2, .int wd)]) hx hb d_M_joined_39 rfl hl (by decide) rfl (fun ls hl => ?_)
        refine lv_aload_n hx hb d_M_joined_40 rfl (lv_at hl 1 rfl) ?_
        refine pf_get (v := .ref (g.lk M 20)) (C := "BigRunnerModel") (T := FT10) (N := 45) hx hb (hw10 hB _) (fun _ h9 => h9) hown hK hP (lo_in hL t_M (by decide)) e1 rfl 20 (by decide) (wd_967 hB _) rfl d_M_joined_41 ?_
        refine lv_iload_n hx hb d_M_joined_44 rfl (lv_at hl 2 rfl) ?_
        refine pf_zald (i := v9) hx hb hK hP (lo_in hL (lo_k11_20 hL _ t_M) (by decide)) eO (lo_t52 hL _ (lo_k11_20 hL _ t_M)) (by omega) (by decide) d_M_joined_45 ?_
        refine lv_if_ne (tgt := 78) hx hb d_M_joined_46 (by decide) (fun b601 => ?_) (fun b601 => ?_)
        · skip
          refine lv_iconst (v := nI 0) hx hb d_M_joined_78 (by decide) ?_
          refine lv_istore (lv' := [(4, .int (nI 0)), (3, .int (nI 1)), (0, .ref M), (1, .int (nI v9)), (2, .int wd)]) hx hb d_M_joined_79 hl (by decide) rfl (fun ls hl => ?_)
          refine lv_iload_n hx hb d_M_joined_81 rfl (lv_at hl 1 rfl) ?_
          refine lv_if_eq (tgt := 121) hx hb d_M_joined_82 (by decide) (fun b602 => ?_) (fun b602 => ?_)
          · skip
            replace b602 := (nI_eq (a := 1) (b := 0) (by omega) (by omega)).mp b602
            exfalso; omega
          · skip
            replace b602 := mt (nI_eq (a := 1) (b := 0) (by omega) (by omega)).mpr b602
            refine lv_aload_n hx hb d_M_joined_85 rfl (lv_at hl 2 rfl) ?_
            refine pf_get (v := .ref (g.lk M 17)) (C := "BigRunnerModel") (T := FT10) (N := 45) hx hb (hw10 hB _) (fun _ h9 => h9) hown hK hP (lo_in hL t_M (by decide)) e1 rfl 17 (by decide) (wd_964 hB _) rfl d_M_joined_86 ?_
            refine lv_iload_n hx hb d_M_joined_89 rfl (lv_at hl 3 rfl) ?_
            refine lv_aload_n hx hb d_M_joined_90 rfl (lv_at hl 2 rfl) ?_
            refine pf_get (v := .ref (g.lk M 21)) (C := "BigRunnerModel") (T := FT10) (N := 45) hx hb (hw10 hB _) (fun _ h9 => h9) hown hK hP (lo_in hL t_M (by decide)) e1 rfl 21 (by decide) (wd_968 hB _) rfl d_M_joined_91 ?_
            refine lv_iconst (v := nI 0) hx hb d_M_joined_94 (by decide) ?_
            refine pf_lald (i := 0) hx hb hK hP (lo_in hL (lo_k11_21 hL _ t_M) (by decide)) e495 (lo_t53 hL _ (lo_k11_21 hL _ t_M)) (by omega) (by decide) d_M_joined_95 ?_
            refine lv_topl (fun lv603 _ => ?_)
            refine pf_last (i := v9) hx hb hK hP hD hS (lo_in hL (lo_k11_17 hL _ t_M) (by decide)) e499 (lo_t49 hL _ (lo_k11_17 hL _ t_M)) (by omega) (by decide) d_M_joined_96 (fun f604 H locs e605 k606 hP hD hS => ?_)
            have eU := (k606 (g.lk M 19) (tg_ne (lo_k11_19 hL _ t_M) (lo_k11_17 hL _ t_M) (by decide))).trans eU
            have eO := (k606 (g.lk M 20) (tg_ne (lo_k11_20 hL _ t_M) (lo_k11_17 hL _ t_M) (by decide))).trans eO
            have e1 := (k606 M (tg_ne t_M (lo_k11_17 hL _ t_M) (by decide))).trans e1
            have e133 := (k606 (g.lk M 23) (tg_ne (lo_k11_23 hL _ t_M) (lo_k11_17 hL _ t_M) (by decide))).trans e133
            have e495 := (k606 (g.lk M 21) (tg_ne (lo_k11_21 hL _ t_M) (lo_k11_17 hL _ t_M) (by decide))).trans e495
            have hu := hu.st k606 (lo_k11_17 hL _ t_M) (by decide)
            have hk607 : ∀ b, b ≠ (g.lk M 17) → f604 b = f b := k606
            refine lv_aload_n hx hb d_M_joined_97 rfl (lv_at hl 2 rfl) ?_
            refine pf_get (v := .ref (g.lk M 19)) (C := "BigRunnerModel") (T := FT10) (N := 45) hx hb (hw10 hB _) (fun _ h9 => h9) hown hK hP (lo_in hL t_M (by decide)) e1 rfl 19 (by decide) (wd_966 hB _) rfl d_M_joined_98 ?_
            refine lv_iload_n hx hb d_M_joined_101 rfl (lv_at hl 3 rfl) ?_
            refine lv_aload_n hx hb d_M_joined_102 rfl (lv_at hl 2 rfl) ?_
            refine pf_get (v := .ref (g.lk M 23)) (C := "BigRunnerModel") (T := FT10) (N := 45) hx hb (hw10 hB _) (fun _ h9 => h9) hown hK hP (lo_in hL t_M (by decide)) e1 rfl 23 (by decide) (wd_970 hB _) rfl d_M_joined_103 ?_
            refine lv_iconst (v := nI 0) hx hb d_M_joined_106 (by decide) ?_
            refine pf_zald (i := 0) hx hb hK hP (lo_in hL (lo_k11_23 hL _ t_M) (by decide)) e133 (lo_t55 hL _ (lo_k11_23 hL _ t_M)) (by omega) (by decide) d_M_joined_107 ?_
            refine lv_topi (fun iv608 _ => ?_)
            refine lv_if_ne (tgt := 115) hx hb d_M_joined_108 (by decide) (fun b609 => ?_) (fun b609 => ?_)
            · skip
              refine lv_iconst (v := nI 1) hx hb d_M_joined_115 (by decide) ?_
              refine lv_goto (tgt := 120) hx hb d_M_joined_116 (by decide) ?_
              have hI610 := iv_1 hI hL (lo_k11_17 hL _ t_M) (by decide) hk607 (oc_49.mk (lo_k11_17 hL _ t_M) (⟨_, e605⟩))
              refine pf_zast (i := v9) hx hb hK hP hD hS (lo_in hL (lo_k11_19 hL _ t_M) (by decide)) eU (lo_t51 hL _ (lo_k11_19 hL _ t_M)) (by omega) (by decide) d_M_joined_120 (fun f611 H locs e612 k613 hP hD hS => ?_)
              have eO := (k613 (g.lk M 20) (tg_ne (lo_k11_20 hL _ t_M) (lo_k11_19 hL _ t_M) (by decide))).trans eO
              have e1 := (k613 M (tg_ne t_M (lo_k11_19 hL _ t_M) (by decide))).trans e1
              have e133 := (k613 (g.lk M 23) (tg_ne (lo_k11_23 hL _ t_M) (lo_k11_19 hL _ t_M) (by decide))).trans e133
              have e495 := (k613 (g.lk M 21) (tg_ne (lo_k11_21 hL _ t_M) (lo_k11_19 hL _ t_M) (by decide))).trans e495
              have e605 := (k613 (g.lk M 17) (tg_ne (lo_k11_17 hL _ t_M) (lo_k11_19 hL _ t_M) (by decide))).trans e605
              have hu := hu.st k613 (lo_k11_19 hL _ t_M) (by decide)
              have hk614 : ∀ b, b ≠ (g.lk M 19) → f611 b = f604 b := k613
              refine lv_iload hx hb d_M_joined_121 (lv_at hl 0 rfl) ?_
              refine lv_if_eq (tgt := 162) hx hb d_M_joined_123 (by decide) (fun b615 => ?_) (fun b615 => ?_)
              · skip
                replace b615 := (nI_eq (a := 0) (b := 0) (by omega) (by omega)).mp b615
                refine lv_iload_n hx hb d_M_joined_162 rfl (lv_at hl 1 rfl) ?_
                refine lv_if_ne (tgt := 171) hx hb d_M_joined_163 (by decide) (fun b616 => ?_) (fun b616 => ?_)
                · skip
                  replace b616 := mt (nI_eq (a := 1) (b := 0) (by omega) (by omega)).mpr b616
                  refine lv_iconst (v := nI 1) hx hb d_M_joined_171 (by decide) ?_
                  refine lv_goto (tgt := 176) hx hb d_M_joined_172 (by decide) ?_
                  have hI617 := iv_1 hI610 hL (lo_k11_19 hL _ t_M) (by decide) hk614 (oc_51.mk (lo_k11_19 hL _ t_M) (⟨_, e612⟩))
                  exact pe_zret hx hb hr hlocks hK hP hD hS d_M_joined_176 rfl ⟨(Or.inr rfl), ⟨_, _, e612, eO, (by have z_hU := cz_1 (x := (vp_nar .boolean ((nI 1)))) b35 (by decide) 10 hv9; first | omega | exact Nat.le_refl _), (fun _ w9 => by have z_hU := cz_1 (x := (vp_nar .boolean ((nI 1)))) b35 (by decide) 10 hv9; first | omega | exact absurd (by assumption) w9)⟩, hI617, hu⟩
                · skip
                  replace b616 := (nI_eq (a := 1) (b := 0) (by omega) (by omega)).mp b616
                  exfalso; omega
              · skip
                replace b615 := mt (nI_eq (a := 0) (b := 0) (by omega) (by omega)).mpr b615
                exfalso; omega
            · skip
              refine lv_iload_n hx hb d_M_joined_111 rfl (lv_at hl 4 rfl) ?_
              refine lv_if_eq (tgt := 119) hx hb d_M_joined_112 (by decide) (fun b618 => ?_) (fun b618 => ?_)
              · skip
                refine lv_iconst (v := nI 0) hx hb d_M_joined_119 (by decide) ?_
                have hI619 := iv_1 hI hL (lo_k11_17 hL _ t_M) (by decide) hk607 (oc_49.mk (lo_k11_17 hL _ t_M) (⟨_, e605⟩))
                refine pf_zast (i := v9) hx hb hK hP hD hS (lo_in hL (lo_k11_19 hL _ t_M) (by decide)) eU (lo_t51 hL _ (lo_k11_19 hL _ t_M)) (by omega) (by decide) d_M_joined_120 (fun f620 H locs e621 k622 hP hD hS => ?_)
                have eO := (k622 (g.lk M 20) (tg_ne (lo_k11_20 hL _ t_M) (lo_k11_19 hL _ t_M) (by decide))).trans eO
                have e1 := (k622 M (tg_ne t_M (lo_k11_19 hL _ t_M) (by decide))).trans e1
                have e133 := (k622 (g.lk M 23) (tg_ne (lo_k11_23 hL _ t_M) (lo_k11_19 hL _ t_M) (by decide))).trans e133
                have e495 := (k622 (g.lk M 21) (tg_ne (lo_k11_21 hL _ t_M) (lo_k11_19 hL _ t_M) (by decide))).trans e495
                have e605 := (k622 (g.lk M 17) (tg_ne (lo_k11_17 hL _ t_M) (lo_k11_19 hL _ t_M) (by decide))).trans e605
                have hu := hu.st k622 (lo_k11_19 hL _ t_M) (by decide)
                have hk623 : ∀ b, b ≠ (g.lk M 19) → f620 b = f604 b := k622
                refine lv_iload hx hb d_M_joined_121 (lv_at hl 0 rfl) ?_
                refine lv_if_eq (tgt := 162) hx hb d_M_joined_123 (by decide) (fun b624 => ?_) (fun b624 => ?_)
                · skip
                  replace b624 := (nI_eq (a := 0) (b := 0) (by omega) (by omega)).mp b624
                  refine lv_iload_n hx hb d_M_joined_162 rfl (lv_at hl 1 rfl) ?_
                  refine lv_if_ne (tgt := 171) hx hb d_M_joined_163 (by decide) (fun b625 => ?_) (fun b625 => ?_)
                  · skip
                    replace b625 := mt (nI_eq (a := 1) (b := 0) (by omega) (by omega)).mpr b625
                    refine lv_iconst (v := nI 1) hx hb d_M_joined_171 (by decide) ?_
                    refine lv_goto (tgt := 176) hx hb d_M_joined_172 (by decide) ?_
                    have hI626 := iv_1 hI619 hL (lo_k11_19 hL _ t_M) (by decide) hk623 (oc_51.mk (lo_k11_19 hL _ t_M) (⟨_, e621⟩))
                    exact pe_zret hx hb hr hlocks hK hP hD hS d_M_joined_176 rfl ⟨(Or.inr rfl), ⟨_, _, e621, eO, (by have z_hU := cz_0 (x := (vp_nar .boolean ((nI 0)))) b35 (by decide) 10; first | omega | exact Nat.le_refl _), (fun _ w9 => by have z_hU := cz_0 (x := (vp_nar .boolean ((nI 0)))) b35 (by decide) 10; first | omega | exact absurd (by assumption) w9)⟩, hI626, hu⟩
                  · skip
                    replace b625 := (nI_eq (a := 1) (b := 0) (by omega) (by omega)).mp b625
                    exfalso; omega
                · skip
                  replace b624 := mt (nI_eq (a := 0) (b := 0) (by omega) (by omega)).mpr b624
                  exfalso; omega
              · skip
                refine lv_iconst (v := nI 1) hx hb d_M_joined_115 (by decide) ?_
                refine lv_goto (tgt := 120) hx hb d_M_joined_116 (by decide) ?_
                have hI627 := iv_1 hI hL (lo_k11_17 hL _ t_M) (by decide) hk607 (oc_49.mk (lo_k11_17 hL _ t_M) (⟨_, e605⟩))
                refine pf_zast (i := v9) hx hb hK hP hD hS (lo_in hL (lo_k11_19 hL _ t_M) (by decide)) eU (lo_t51 hL _ (lo_k11_19 hL _ t_M)) (by omega) (by decide) d_M_joined_120 (fun f628 H locs e629 k630 hP hD hS => ?_)
                have eO := (k630 (g.lk M 20) (tg_ne (lo_k11_20 hL _ t_M) (lo_k11_19 hL _ t_M) (by decide))).trans eO
                have e1 := (k630 M (tg_ne t_M (lo_k11_19 hL _ t_M) (by decide))).trans e1
                have e133 := (k630 (g.lk M 23) (tg_ne (lo_k11_23 hL _ t_M) (lo_k11_19 hL _ t_M) (by decide))).trans e133
                have e495 := (k630 (g.lk M 21) (tg_ne (lo_k11_21 hL _ t_M) (lo_k11_19 hL _ t_M) (by decide))).trans e495
                have e605 := (k630 (g.lk M 17) (tg_ne (lo_k11_17 hL _ t_M) (lo_k11_19 hL _ t_M) (by decide))).trans e605
                have hu := hu.st k630 (lo_k11_19 hL _ t_M) (by decide)
                have hk631 : ∀ b, b ≠ (g.lk M 19) → f628 b = f604 b := k630
                refine lv_iload hx hb d_M_joined_121 (lv_at hl 0 rfl) ?_
                refine lv_if_eq (tgt := 162) hx hb d_M_joined_123 (by decide) (fun b632 => ?_) (fun b632 => ?_)
                · skip
                  replace b632 := (nI_eq (a := 0) (b := 0) (by omega) (by omega)).mp b632
                  refine lv_iload_n hx hb d_M_joined_162 rfl (lv_at hl 1 rfl) ?_
                  refine lv_if_ne (tgt := 171) hx hb d_M_joined_163 (by decide) (fun b633 => ?_) (fun b633 => ?_)
                  · skip
                    replace b633 := mt (nI_eq (a := 1) (b := 0) (by omega) (by omega)).mpr b633
                    refine lv_iconst (v := nI 1) hx hb d_M_joined_171 (by decide) ?_
                    refine lv_goto (tgt := 176) hx hb d_M_joined_172 (by decide) ?_
                    have hI634 := iv_1 hI627 hL (lo_k11_19 hL _ t_M) (by decide) hk631 (oc_51.mk (lo_k11_19 hL _ t_M) (⟨_, e629⟩))
                    exact pe_zret hx hb hr hlocks hK hP hD hS d_M_joined_176 rfl ⟨(Or.inr rfl), ⟨_, _, e629, eO, (by have z_hU := cz_1 (x := (vp_nar .boolean ((nI 1)))) b35 (by decide) 10 hv9; first | omega | exact Nat.le_refl _), (fun _ w9 => by have z_hU := cz_1 (x := (vp_nar .boolean ((nI 1)))) b35 (by decide) 10 hv9; first | omega | exact absurd (by assumption) w9)⟩, hI634, hu⟩
                  · skip
                    replace b633 := (nI_eq (a := 1) (b := 0) (by omega) (by omega)).mp b633
                    exfalso; omega
                · skip
                  replace b632 := mt (nI_eq (a := 0) (b := 0) (by omega) (by omega)).mpr b632
                  exfalso; omega
        · skip
          refine lv_aload_n hx hb d_M_joined_49 rfl (lv_at hl 1 rfl) ?_
          refine pf_get (v := .ref (g.lk M 24)) (C := "BigRunnerModel") (T := FT10) (N := 45) hx hb (hw10 hB _) (fun _ h9 => h9) hown hK hP (lo_in hL t_M (by decide)) e1 rfl 24 (by decide) (wd_971 hB _) rfl d_M_joined_50 ?_
          refine lv_iconst (v := nI 0) hx hb d_M_joined_53 (by decide) ?_
          obtain ⟨h_636, e635⟩ := oc_56.of (lo_k11_24 hL _ t_M) (hI.1 (g.lk M 24))
          refine pf_zald (i := 0) hx hb hK hP (lo_in hL (lo_k11_24 hL _ t_M) (by decide)) e635 (lo_t56 hL _ (lo_k11_24 hL _ t_M)) (by omega) (by decide) d_M_joined_54 ?_
          refine lv_topi (fun iv638 _ => ?_)
          refine lv_if_ne (tgt := 74) hx hb d_M_joined_55 (by decide) (fun b639 => ?_) (fun b639 => ?_)
          · skip
            refine lv_iconst (v := nI 1) hx hb d_M_joined_74 (by decide) ?_
            refine lv_goto (tgt := 79) hx hb d_M_joined_75 (by decide) ?_
            refine lv_istore (lv' := [(4, .int (nI 1)), (3, .int (nI 1)), (0, .ref M), (1, .int (nI v9)), (2, .int wd)]) hx hb d_M_joined_79 hl (by decide) rfl (fun ls hl => ?_)
            refine lv_iload_n hx hb d_M_joined_81 rfl (lv_at hl 1 rfl) ?_
            refine lv_if_eq (tgt := 121) hx hb d_M_joined_82 (by decide) (fun b640 => ?_) (fun b640 => ?_)
            · skip
              replace b640 := (nI_eq (a := 1) (b := 0) (by omega) (by omega)).mp b640
              exfalso; omega
            · skip
              replace b640 := mt (nI_eq (a := 1) (b := 0) (by omega) (by omega)).mpr b640
              refine lv_aload_n hx hb d_M_joined_85 rfl (lv_at hl 2 rfl) ?_
              refine pf_get (v := .ref (g.lk M 17)) (C := "BigRunnerModel") (T := FT10) (N := 45) hx hb (hw10 hB _) (fun _ h9 => h9) hown hK hP (lo_in hL t_M (by decide)) e1 rfl 17 (by decide) (wd_964 hB _) rfl d_M_joined_86 ?_
              refine lv_iload_n hx hb d_M_joined_89 rfl (lv_at hl 3 rfl) ?_
              refine lv_aload_n hx hb d_M_joined_90 rfl (lv_at hl 2 rfl) ?_
              refine pf_get (v := .ref (g.lk M 21)) (C := "BigRunnerModel") (T := FT10) (N := 45) hx hb (hw10 hB _) (fun _ h9 => h9) hown hK hP (lo_in hL t_M (by decide)) e1 rfl 21 (by decide) (wd_968 hB _) rfl d_M_joined_91 ?_
              refine lv_iconst (v := nI 0) hx hb d_M_joined_94 (by decide) ?_
              refine pf_lald (i := 0) hx hb hK hP (lo_in hL (lo_k11_21 hL _ t_M) (by decide)) e495 (lo_t53 hL _ (lo_k11_21 hL _ t_M)) (by omega) (by decide) d_M_joined_95 ?_
              refine lv_topl (fun lv641 _ => ?_)
              refine pf_last (i := v9) hx hb hK hP hD hS (lo_in hL (lo_k11_17 hL _ t_M) (by decide)) e499 (lo_t49 hL _ (lo_k11_17 hL _ t_M)) (by omega) (by decide) d_M_joined_96 (fun f642 H locs e643 k644 hP hD hS => ?_)
              have eU := (k644 (g.lk M 19) (tg_ne (lo_k11_19 hL _ t_M) (lo_k11_17 hL _ t_M) (by decide))).trans eU
              have eO := (k644 (g.lk M 20) (tg_ne (lo_k11_20 hL _ t_M) (lo_k11_17 hL _ t_M) (by decide))).trans eO
              have e1 := (k644 M (tg_ne t_M (lo_k11_17 hL _ t_M) (by decide))).trans e1
              have e133 := (k644 (g.lk M 23) (tg_ne (lo_k11_23 hL _ t_M) (lo_k11_17 hL _ t_M) (by decide))).trans e133
              have e495 := (k644 (g.lk M 21) (tg_ne (lo_k11_21 hL _ t_M) (lo_k11_17 hL _ t_M) (by decide))).trans e495
              have e635 := (k644 (g.lk M 24) (tg_ne (lo_k11_24 hL _ t_M) (lo_k11_17 hL _ t_M) (by decide))).trans e635
              have hu := hu.st k644 (lo_k11_17 hL _ t_M) (by decide)
              have hk645 : ∀ b, b ≠ (g.lk M 17) → f642 b = f b := k644
              refine lv_aload_n hx hb d_M_joined_97 rfl (lv_at hl 2 rfl) ?_
              refine pf_get (v := .ref (g.lk M 19)) (C := "BigRunnerModel") (T := FT10) (N := 45) hx hb (hw10 hB _) (fun _ h9 => h9) hown hK hP (lo_in hL t_M (by decide)) e1 rfl 19 (by decide) (wd_966 hB _) rfl d_M_joined_98 ?_
              refine lv_iload_n hx hb d_M_joined_101 rfl (lv_at hl 3 rfl) ?_
              refine lv_aload_n hx hb d_M_joined_102 rfl (lv_at hl 2 rfl) ?_
              refine pf_get (v := .ref (g.lk M 23)) (C := "BigRunnerModel") (T := FT10) (N := 45) hx hb (hw10 hB _) (fun _ h9 => h9) hown hK hP (lo_in hL t_M (by decide)) e1 rfl 23 (by decide) (wd_970 hB _) rfl d_M_joined_103 ?_
              refine lv_iconst (v := nI 0) hx hb d_M_joined_106 (by decide) ?_
              refine pf_zald (i := 0) hx hb hK hP (lo_in hL (lo_k11_23 hL _ t_M) (by decide)) e133 (lo_t55 hL _ (lo_k11_23 hL _ t_M)) (by omega) (by decide) d_M_joined_107 ?_
              refine lv_topi (fun iv646 _ => ?_)
              refine lv_if_ne (tgt := 115) hx hb d_M_joined_108 (by decide) (fun b647 => ?_) (fun b647 => ?_)
              · skip
                refine lv_iconst (v := nI 1) hx hb d_M_joined_115 (by decide) ?_
                refine lv_goto (tgt := 120) hx hb d_M_joined_116 (by decide) ?_
                have hI648 := iv_1 hI hL (lo_k11_17 hL _ t_M) (by decide) hk645 (oc_49.mk (lo_k11_17 hL _ t_M) (⟨_, e643⟩))
                refine pf_zast (i := v9) hx hb hK hP hD hS (lo_in hL (lo_k11_19 hL _ t_M) (by decide)) eU (lo_t51 hL _ (lo_k11_19 hL _ t_M)) (by omega) (by decide) d_M_joined_120 (fun f649 H locs e650 k651 hP hD hS => ?_)
                have eO := (k651 (g.lk M 20) (tg_ne (lo_k11_20 hL _ t_M) (lo_k11_19 hL _ t_M) (by decide))).trans eO
                have e1 := (k651 M (tg_ne t_M (lo_k11_19 hL _ t_M) (by decide))).trans e1
                have e133 := (k651 (g.lk M 23) (tg_ne (lo_k11_23 hL _ t_M) (lo_k11_19 hL _ t_M) (by decide))).trans e133
                have e495 := (k651 (g.lk M 21) (tg_ne (lo_k11_21 hL _ t_M) (lo_k11_19 hL _ t_M) (by decide))).trans e495
                have e635 := (k651 (g.lk M 24) (tg_ne (lo_k11_24 hL _ t_M) (lo_k11_19 hL _ t_M) (by decide))).trans e635
                have e643 := (k651 (g.lk M 17) (tg_ne (lo_k11_17 hL _ t_M) (lo_k11_19 hL _ t_M) (by decide))).trans e643
                have hu := hu.st k651 (lo_k11_19 hL _ t_M) (by decide)
                have hk652 : ∀ b, b ≠ (g.lk M 19) → f649 b = f642 b := k651
                refine lv_iload hx hb d_M_joined_121 (lv_at hl 0 rfl) ?_
                refine lv_if_eq (tgt := 162) hx hb d_M_joined_123 (by decide) (fun b653 => ?_) (fun b653 => ?_)
                · skip
                  replace b653 := (nI_eq (a := 1) (b := 0) (by omega) (by omega)).mp b653
                  exfalso; omega
                · skip
                  replace b653 := mt (nI_eq (a := 1) (b := 0) (by omega) (by omega)).mpr b653
                  refine lv_aload_n hx hb d_M_joined_126 rfl (lv_at hl 2 rfl) ?_
                  refine pf_get (v := .ref (g.lk M 18)) (C := "BigRunnerModel") (T := FT10) (N := 45) hx hb (hw10 hB _) (fun _ h9 => h9) hown hK hP (lo_in hL t_M (by decide)) e1 rfl 18 (by decide) (wd_965 hB _) rfl d_M_joined_127 ?_
                  refine lv_iload_n hx hb d_M_joined_130 rfl (lv_at hl 3 rfl) ?_
                  refine lv_aload_n hx hb d_M_joined_131 rfl (lv_at hl 2 rfl) ?_
                  refine pf_get (v := .ref (g.lk M 22)) (C := "BigRunnerModel") (T := FT10) (N := 45) hx hb (hw10 hB _) (fun _ h9 => h9) hown hK hP (lo_in hL t_M (by decide)) e1 rfl 22 (by decide) (wd_969 hB _) rfl d_M_joined_132 ?_
                  refine lv_iconst (v := nI 0) hx hb d_M_joined_135 (by decide) ?_
                  obtain ⟨h_655, e654⟩ := oc_54.of (lo_k11_22 hL _ t_M) (hI648.1 (g.lk M 22))
                  replace e654 := (hk652 (g.lk M 22) (tg_ne (lo_k11_22 hL _ t_M) (lo_k11_19 hL _ t_M) (by decide))).trans e654
                  refine pf_lald (i := 0) hx hb hK hP (lo_in hL (lo_k11_22 hL _ t_M) (by decide)) e654 (lo_t54 hL _ (lo_k11_22 hL _ t_M)) (by omega) (by decide) d_M_joined_136 ?_
                  refine lv_topl (fun lv657 _ => ?_)
                  have hI658 := iv_1 hI648 hL (lo_k11_19 hL _ t_M) (by decide) hk652 (oc_51.mk (lo_k11_19 hL _ t_M) (⟨_, e650⟩))
                  obtain ⟨h_660, e659⟩ := oc_50.of (lo_k11_18 hL _ t_M) (hI658.1 (g.lk M 18))
                  refine pf_last (i := v9) hx hb hK hP hD hS (lo_in hL (lo_k11_18 hL _ t_M) (by decide)) e659 (lo_t50 hL _ (lo_k11_18 hL _ t_M)) (by omega) (by decide) d_M_joined_137 (fun f662 H locs e663 k664 hP hD hS => ?_)
                  have eO := (k664 (g.lk M 20) (tg_ne (lo_k11_20 hL _ t_M) (lo_k11_18 hL _ t_M) (by decide))).trans eO
                  have e1 := (k664 M (tg_ne t_M (lo_k11_18 hL _ t_M) (by decide))).trans e1
                  have e133 := (k664 (g.lk M 23) (tg_ne (lo_k11_23 hL _ t_M) (lo_k11_18 hL _ t_M) (by decide))).trans e133
                  have e495 := (k664 (g.lk M 21) (tg_ne (lo_k11_21 hL _ t_M) (lo_k11_18 hL _ t_M) (by decide))).trans e495
                  have e635 := (k664 (g.lk M 24) (tg_ne (lo_k11_24 hL _ t_M) (lo_k11_18 hL _ t_M) (by decide))).trans e635
                  have e643 := (k664 (g.lk M 17) (tg_ne (lo_k11_17 hL _ t_M) (lo_k11_18 hL _ t_M) (by decide))).trans e643
                  have e650 := (k664 (g.lk M 19) (tg_ne (lo_k11_19 hL _ t_M) (lo_k11_18 hL _ t_M) (by decide))).trans e650
                  have e654 := (k664 (g.lk M 22) (tg_ne (lo_k11_22 hL _ t_M) (lo_k11_18 hL _ t_M) (by decide))).trans e654
                  have hu := hu.st k664 (lo_k11_18 hL _ t_M) (by decide)
                  have hk665 : ∀ b, b ≠ (g.lk M 18) → f662 b = f649 b := k664
                  refine lv_aload_n hx hb d_M_joined_138 rfl (lv_at hl 2 rfl) ?_
                  refine pf_get (v := .ref (g.lk M 20)) (C := "BigRunnerModel") (T := FT10) (N := 45) hx hb (hw10 hB _) (fun _ h9 => h9) hown hK hP (lo_in hL t_M (by decide)) e1 rfl 20 (by decide) (wd_967 hB _) rfl d_M_joined_139 ?_
                  refine lv_iload_n hx hb d_M_joined_142 rfl (lv_at hl 3 rfl) ?_
                  refine lv_aload_n hx hb d_M_joined_143 rfl (lv_at hl 2 rfl) ?_
                  refine pf_get (v := .ref (g.lk M 24)) (C := "BigRunnerModel") (T := FT10) (N := 45) hx hb (hw10 hB _) (fun _ h9 => h9) hown hK hP (lo_in hL t_M (by decide)) e1 rfl 24 (by decide) (wd_971 hB _) rfl d_M_joined_144 ?_
                  refine lv_iconst (v := nI 0) hx hb d_M_joined_147 (by decide) ?_
                  refine pf_zald (i := 0) hx hb hK hP (lo_in hL (lo_k11_24 hL _ t_M) (by decide)) e635 (lo_t56 hL _ (lo_k11_24 hL _ t_M)) (by omega) (by decide) d_M_joined_148 ?_
                  refine lv_topi (fun iv666 _ => ?_)
                  refine lv_if_ne (tgt := 156) hx hb d_M_joined_149 (by decide) (fun b667 => ?_) (fun b667 => ?_)
                  · skip
                    refine lv_iconst (v := nI 1) hx hb d_M_joined_156 (by decide) ?_
                    refine lv_goto (tgt := 161) hx hb d_M_joined_157 (by decide) ?_
                    have hI668 := iv_1 hI658 hL (lo_k11_18 hL _ t_M) (by decide) hk665 (oc_50.mk (lo_k11_18 hL _ t_M) (⟨_, e663⟩))
                    refine pf_zast (i := v9) hx hb hK hP hD hS (lo_in hL (lo_k11_20 hL _ t_M) (by decide)) eO (lo_t52 hL _ (lo_k11_20 hL _ t_M)) (by omega) (by decide) d_M_joined_161 (fun f669 H locs e670 k671 hP hD hS => ?_)
                    have e1 := (k671 M (tg_ne t_M (lo_k11_20 hL _ t_M) (by decide))).trans e1
                    have e133 := (k671 (g.lk M 23) (tg_ne (lo_k11_23 hL _ t_M) (lo_k11_20 hL _ t_M) (by decide))).trans e133
                    have e495 := (k671 (g.lk M 21) (tg_ne (lo_k11_21 hL _ t_M) (lo_k11_20 hL _ t_M) (by decide))).trans e495
                    have e635 := (k671 (g.lk M 24) (tg_ne (lo_k11_24 hL _ t_M) (lo_k11_20 hL _ t_M) (by decide))).trans e635
                    have e643 := (k671 (g.lk M 17) (tg_ne (lo_k11_17 hL _ t_M) (lo_k11_20 hL _ t_M) (by decide))).trans e643
                    have e650 := (k671 (g.lk M 19) (tg_ne (lo_k11_19 hL _ t_M) (lo_k11_20 hL _ t_M) (by decide))).trans e650
                    have e654 := (k671 (g.lk M 22) (tg_ne (lo_k11_22 hL _ t_M) (lo_k11_20 hL _ t_M) (by decide))).trans e654
                    have e663 := (k671 (g.lk M 18) (tg_ne (lo_k11_18 hL _ t_M) (lo_k11_20 hL _ t_M) (by decide))).trans e663
                    have hu := hu.st k671 (lo_k11_20 hL _ t_M) (by decide)
                    have hk672 : ∀ b, b ≠ (g.lk M 20) → f669 b = f662 b := k671
                    refine lv_iload_n hx hb d_M_joined_162 rfl (lv_at hl 1 rfl) ?_
                    refine lv_if_ne (tgt := 171) hx hb d_M_joined_163 (by decide) (fun b673 => ?_) (fun b673 => ?_)
                    · skip
                      replace b673 := mt (nI_eq (a := 1) (b := 0) (by omega) (by omega)).mpr b673
                      refine lv_iconst (v := nI 1) hx hb d_M_joined_171 (by decide) ?_
                      refine lv_goto (tgt := 176) hx hb d_M_joined_172 (by decide) ?_
                      have hI674 := iv_1 hI668 hL (lo_k11_20 hL _ t_M) (by decide) hk672 (oc_52.mk (lo_k11_20 hL _ t_M) (⟨_, e670⟩))
                      exact pe_zret hx hb hr hlocks hK hP hD hS d_M_joined_176 rfl ⟨(Or.inr rfl), ⟨_, _, e650, e670, (by have z_hU := cz_1 (x := (vp_nar .boolean ((nI 1)))) b35 (by decide) 10 hv9; have z_hO := cz_1 (x := (vp_nar .boolean ((nI 1)))) b601 (by decide) 10 hv9; first | omega | exact Nat.le_refl _), (fun _ w9 => by have z_hU := cz_1 (x := (vp_nar .boolean ((nI 1)))) b35 (by decide) 10 hv9; have z_hO := cz_1 (x := (vp_nar .boolean ((nI 1)))) b601 (by decide) 10 hv9; first | omega | exact absurd (by assumption) w9)⟩, hI674, hu⟩
                    · skip
                      replace b673 := (nI_eq (a := 1) (b := 0) (by omega) (by omega)).mp b673
                      exfalso; omega
                  · skip
                    refine lv_iload_n hx hb d_M_joined_152 rfl (lv_at hl 4 rfl) ?_
                    refine lv_if_eq (tgt := 160) hx hb d_M_joined_153 (by decide) (fun b675 => ?_) (fun b675 => ?_)
                    · skip
                      refine lv_iconst (v := nI 0) hx hb d_M_joined_160 (by decide) ?_
                      have hI676 := iv_1 hI658 hL (lo_k11_18 hL _ t_M) (by decide) hk665 (oc_50.mk (lo_k11_18 hL _ t_M) (⟨_, e663⟩))
                      refine pf_zast (i := v9) hx hb hK hP hD hS (lo_in hL (lo_k11_20 hL _ t_M) (by decide)) eO (lo_t52 hL _ (lo_k11_20 hL _ t_M)) (by omega) (by decide) d_M_joined_161 (fun f677 H locs e678 k679 hP hD hS => ?_)
                      have e1 := (k679 M (tg_ne t_M (lo_k11_20 hL _ t_M) (by decide))).trans e1
                      have e133 := (k679 (g.lk M 23) (tg_ne (lo_k11_23 hL _ t_M) (lo_k11_20 hL _ t_M) (by decide))).trans e133
                      have e495 := (k679 (g.lk M 21) (tg_ne (lo_k11_21 hL _ t_M) (lo_k11_20 hL _ t_M) (by decide))).trans e495
                      have e635 := (k679 (g.lk M 24) (tg_ne (lo_k11_24 hL _ t_M) (lo_k11_20 hL _ t_M) (by decide))).trans e635
                      have e643 := (k679 (g.lk M 17) (tg_ne (lo_k11_17 hL _ t_M) (lo_k11_20 hL _ t_M) (by decide))).trans e643
                      have e650 := (k679 (g.lk M 19) (tg_ne (lo_k11_19 hL _ t_M) (lo_k11_20 hL _ t_M) (by decide))).trans e650
                      have e654 := (k679 (g.lk M 22) (tg_ne (lo_k11_22 hL _ t_M) (lo_k11_20 hL _ t_M) (by decide))).trans e654
                      have e663 := (k679 (g.lk M 18) (tg_ne (lo_k11_18 hL _ t_M) (lo_k11_20 hL _ t_M) (by decide))).trans e663
                      have hu := hu.st k679 (lo_k11_20 hL _ t_M) (by decide)
                      have hk680 : ∀ b, b ≠ (g.lk M 20) → f677 b = f662 b := k679
                      refine lv_iload_n hx hb d_M_joined_162 rfl (lv_at hl 1 rfl) ?_
                      refine lv_if_ne (tgt := 171) hx hb d_M_joined_163 (by decide) (fun b681 => ?_) (fun b681 => ?_)
                      · skip
                        replace b681 := mt (nI_eq (a := 1) (b := 0) (by omega) (by omega)).mpr b681
                        refine lv_iconst (v := nI 1) hx hb d_M_joined_171 (by decide) ?_
                        refine lv_goto (tgt := 176) hx hb d_M_joined_172 (by decide) ?_
                        have hI682 := iv_1 hI676 hL (lo_k11_20 hL _ t_M) (by decide) hk680 (oc_52.mk (lo_k11_20 hL _ t_M) (⟨_, e678⟩))
                        exact pe_zret hx hb hr hlocks hK hP hD hS d_M_joined_176 rfl ⟨(Or.inr rfl), ⟨_, _, e650, e678, (by have z_hU := cz_1 (x := (vp_nar .boolean ((nI 1)))) b35 (by decide) 10 hv9; have z_hO := cz_0 (x := (vp_nar .boolean ((nI 0)))) b601 (by decide) 10; first | omega | exact Nat.le_refl _), (fun _ w9 => by have z_hU := cz_1 (x := (vp_nar .boolean ((nI 1)))) b35 (by decide) 10 hv9; have z_hO := cz_0 (x := (vp_nar .boolean ((nI 0)))) b601 (by decide) 10; first | omega | exact absurd (by assumption) w9)⟩, hI682, hu⟩
                      · skip
                        replace b681 := (nI_eq (a := 1) (b := 0) (by omega) (by omega)).mp b681
                        exfalso; omega
                    · skip
                      refine lv_iconst (v := nI 1) hx hb d_M_joined_156 (by decide) ?_
                      refine lv_goto (tgt := 161) hx hb d_M_joined_157 (by decide) ?_
                      have hI683 := iv_1 hI658 hL (lo_k11_18 hL _ t_M) (by decide) hk665 (oc_50.mk (lo_k11_18 hL _ t_M) (⟨_, e663⟩))
                      refine pf_zast (i := v9) hx hb hK hP hD hS (lo_in hL (lo_k11_20 hL _ t_M) (by decide)) eO (lo_t52 hL _ (lo_k11_20 hL _ t_M)) (by omega) (by decide) d_M_joined_161 (fun f684 H locs e685 k686 hP hD hS => ?_)
                      have e1 := (k686 M (tg_ne t_M (lo_k11_20 hL _ t_M) (by decide))).trans e1
                      have e133 := (k686 (g.lk M 23) (tg_ne (lo_k11_23 hL _ t_M) (lo_k11_20 hL _ t_M) (by decide))).trans e133
                      have e495 := (k686 (g.lk M 21) (tg_ne (lo_k11_21 hL _ t_M) (lo_k11_20 hL _ t_M) (by decide))).trans e495
                      have e635 := (k686 (g.lk M 24) (tg_ne (lo_k11_24 hL _ t_M) (lo_k11_20 hL _ t_M) (by decide))).trans e635
                      have e643 := (k686 (g.lk M 17) (tg_ne (lo_k11_17 hL _ t_M) (lo_k11_20 hL _ t_M) (by decide))).trans e643
                      have e650 := (k686 (g.lk M 19) (tg_ne (lo_k11_19 hL _ t_M) (lo_k11_20 hL _ t_M) (by decide))).trans e650
                      have e654 := (k686 (g.lk M 22) (tg_ne (lo_k11_22 hL _ t_M) (lo_k11_20 hL _ t_M) (by decide))).trans e654
                      have e663 := (k686 (g.lk M 18) (tg_ne (lo_k11_18 hL _ t_M) (lo_k11_20 hL _ t_M) (by decide))).trans e663
                      have hu := hu.st k686 (lo_k11_20 hL _ t_M) (by decide)
                      have hk687 : ∀ b, b ≠ (g.lk M 20) → f684 b = f662 b := k686
                      refine lv_iload_n hx hb d_M_joined_162 rfl (lv_at hl 1 rfl) ?_
                      refine lv_if_ne (tgt := 171) hx hb d_M_joined_163 (by decide) (fun b688 => ?_) (fun b688 => ?_)
                      · skip
                        replace b688 := mt (nI_eq (a := 1) (b := 0) (by omega) (by omega)).mpr b688
                        refine lv_iconst (v := nI 1) hx hb d_M_joined_171 (by decide) ?_
                        refine lv_goto (tgt := 176) hx hb d_M_joined_172 (by decide) ?_
                        have hI689 := iv_1 hI683 hL (lo_k11_20 hL _ t_M) (by decide) hk687 (oc_52.mk (lo_k11_20 hL _ t_M) (⟨_, e685⟩))
                        exact pe_zret hx hb hr hlocks hK hP hD hS d_M_joined_176 rfl ⟨(Or.inr rfl), ⟨_, _, e650, e685, (by have z_hU := cz_1 (x := (vp_nar .boolean ((nI 1)))) b35 (by decide) 10 hv9; have z_hO := cz_1 (x := (vp_nar .boolean ((nI 1)))) b601 (by decide) 10 hv9; first | omega | exact Nat.le_refl _), (fun _ w9 => by have z_hU := cz_1 (x := (vp_nar .boolean ((nI 1)))) b35 (by decide) 10 hv9; have z_hO := cz_1 (x := (vp_nar .boolean ((nI 1)))) b601 (by decide) 10 hv9; first | omega | exact absurd (by assumption) w9)⟩, hI689, hu⟩
                      · skip
                        replace b688 := (nI_eq (a := 1) (b := 0) (by omega) (by omega)).mp b688
                        exfalso; omega
              · skip
                refine lv_iload_n hx hb d_M_joined_111 rfl (lv_at hl 4 rfl) ?_
                refine lv_if_eq (tgt := 119) hx hb d_M_joined_112 (by decide) (fun b690 => ?_) (fun b690 => ?_)
                · skip
                  refine lv_iconst (v := nI 0) hx hb d_M_joined_119 (by decide) ?_
                  have hI691 := iv_1 hI hL (lo_k11_17 hL _ t_M) (by decide) hk645 (oc_49.mk (lo_k11_17 hL _ t_M) (⟨_, e643⟩))
                  refine pf_zast (i := v9) hx hb hK hP hD hS (lo_in hL (lo_k11_19 hL _ t_M) (by decide)) eU (lo_t51 hL _ (lo_k11_19 hL _ t_M)) (by omega) (by decide) d_M_joined_120 (fun f692 H locs e693 k694 hP hD hS => ?_)
                  have eO := (k694 (g.lk M 20) (tg_ne (lo_k11_20 hL _ t_M) (lo_k11_19 hL _ t_M) (by decide))).trans eO
                  have e1 := (k694 M (tg_ne t_M (lo_k11_19 hL _ t_M) (by decide))).trans e1
                  have e133 := (k694 (g.lk M 23) (tg_ne (lo_k11_23 hL _ t_M) (lo_k11_19 hL _ t_M) (by decide))).trans e133
                  have e495 := (k694 (g.lk M 21) (tg_ne (lo_k11_21 hL _ t_M) (lo_k11_19 hL _ t_M) (by decide))).trans e495
                  have e635 := (k694 (g.lk M 24) (tg_ne (lo_k11_24 hL _ t_M) (lo_k11_19 hL _ t_M) (by decide))).trans e635
                  have e643 := (k694 (g.lk M 17) (tg_ne (lo_k11_17 hL _ t_M) (lo_k11_19 hL _ t_M) (by decide))).trans e643
                  have hu := hu.st k694 (lo_k11_19 hL _ t_M) (by decide)
                  have hk695 : ∀ b, b ≠ (g.lk M 19) → f692 b = f642 b := k694
                  refine lv_iload hx hb d_M_joined_121 (lv_at hl 0 rfl) ?_
                  refine lv_if_eq (tgt := 162) hx hb d_M_joined_123 (by decide) (fun b696 => ?_) (fun b696 => ?_)
                  · skip
                    replace b696 := (nI_eq (a := 1) (b := 0) (by omega) (by omega)).mp b696
                    exfalso; omega
                  · skip
                    replace b696 := mt (nI_eq (a := 1) (b := 0) (by omega) (by omega)).mpr b696
                    refine lv_aload_n hx hb d_M_joined_126 rfl (lv_at hl 2 rfl) ?_
                    refine pf_get (v := .ref (g.lk M 18)) (C := "BigRunnerModel") (T := FT10) (N := 45) hx hb (hw10 hB _) (fun _ h9 => h9) hown hK hP (lo_in hL t_M (by decide)) e1 rfl 18 (by decide) (wd_965 hB _) rfl d_M_joined_127 ?_
                    refine lv_iload_n hx hb d_M_joined_130 rfl (lv_at hl 3 rfl) ?_
                    refine lv_aload_n hx hb d_M_joined_131 rfl (lv_at hl 2 rfl) ?_
                    refine pf_get (v := .ref (g.lk M 22)) (C := "BigRunnerModel") (T := FT10) (N := 45) hx hb (hw10 hB _) (fun _ h9 => h9) hown hK hP (lo_in hL t_M (by decide)) e1 rfl 22 (by decide) (wd_969 hB _) rfl d_M_joined_132 ?_
                    refine lv_iconst (v := nI 0) hx hb d_M_joined_135 (by decide) ?_
                    obtain ⟨h_698, e697⟩ := oc_54.of (lo_k11_22 hL _ t_M) (hI691.1 (g.lk M 22))
                    replace e697 := (hk695 (g.lk M 22) (tg_ne (lo_k11_22 hL _ t_M) (lo_k11_19 hL _ t_M) (by decide))).trans e697
                    refine pf_lald (i := 0) hx hb hK hP (lo_in hL (lo_k11_22 hL _ t_M) (by decide)) e697 (lo_t54 hL _ (lo_k11_22 hL _ t_M)) (by omega) (by decide) d_M_joined_136 ?_
                    refine lv_topl (fun lv700 _ => ?_)
                    have hI701 := iv_1 hI691 hL (lo_k11_19 hL _ t_M) (by decide) hk695 (oc_51.mk (lo_k11_19 hL _ t_M) (⟨_, e693⟩))
                    obtain ⟨h_703, e702⟩ := oc_50.of (lo_k11_18 hL _ t_M) (hI701.1 (g.lk M 18))
                    refine pf_last (i := v9) hx hb hK hP hD hS (lo_in hL (lo_k11_18 hL _ t_M) (by decide)) e702 (lo_t50 hL _ (lo_k11_18 hL _ t_M)) (by omega) (by decide) d_M_joined_137 (fun f705 H locs e706 k707 hP hD hS => ?_)
                    have eO := (k707 (g.lk M 20) (tg_ne (lo_k11_20 hL _ t_M) (lo_k11_18 hL _ t_M) (by decide))).trans eO
                    have e1 := (k707 M (tg_ne t_M (lo_k11_18 hL _ t_M) (by decide))).trans e1
                    have e133 := (k707 (g.lk M 23) (tg_ne (lo_k11_23 hL _ t_M) (lo_k11_18 hL _ t_M) (by decide))).trans e133
                    have e495 := (k707 (g.lk M 21) (tg_ne (lo_k11_21 hL _ t_M) (lo_k11_18 hL _ t_M) (by decide))).trans e495
                    have e635 := (k707 (g.lk M 24) (tg_ne (lo_k11_24 hL _ t_M) (lo_k11_18 hL _ t_M) (by decide))).trans e635
                    have e643 := (k707 (g.lk M 17) (tg_ne (lo_k11_17 hL _ t_M) (lo_k11_18 hL _ t_M) (by decide))).trans e643
                    have e693 := (k707 (g.lk M 19) (tg_ne (lo_k11_19 hL _ t_M) (lo_k11_18 hL _ t_M) (by decide))).trans e693
                    have e697 := (k707 (g.lk M 22) (tg_ne (lo_k11_22 hL _ t_M) (lo_k11_18 hL _ t_M) (by decide))).trans e697
                    have hu := hu.st k707 (lo_k11_18 hL _ t_M) (by decide)
                    have hk708 : ∀ b, b ≠ (g.lk M 18) → f705 b = f692 b := k707
                    refine lv_aload_n hx hb d_M_joined_138 rfl (lv_at hl 2 rfl) ?_
                    refine pf_get (v := .ref (g.lk M 20)) (C := "BigRunnerModel") (T := FT10) (N := 45) hx hb (hw10 hB _) (fun _ h9 => h9) hown hK hP (lo_in hL t_M (by decide)) e1 rfl 20 (by decide) (wd_967 hB _) rfl d_M_joined_139 ?_
                    refine lv_iload_n hx hb d_M_joined_142 rfl (lv_at hl 3 rfl) ?_
                    refine lv_aload_n hx hb d_M_joined_143 rfl (lv_at hl 2 rfl) ?_
                    refine pf_get (v := .ref (g.lk M 24)) (C := "BigRunnerModel") (T := FT10) (N := 45) hx hb (hw10 hB _) (fun _ h9 => h9) hown hK hP (lo_in hL t_M (by decide)) e1 rfl 24 (by decide) (wd_971 hB _) rfl d_M_joined_144 ?_
                    refine lv_iconst (v := nI 0) hx hb d_M_joined_147 (by decide) ?_
                    refine pf_zald (i := 0) hx hb hK hP (lo_in hL (lo_k11_24 hL _ t_M) (by decide)) e635 (lo_t56 hL _ (lo_k11_24 hL _ t_M)) (by omega) (by decide) d_M_joined_148 ?_
                    refine lv_topi (fun iv709 _ => ?_)
                    refine lv_if_ne (tgt := 156) hx hb d_M_joined_149 (by decide) (fun b710 => ?_) (fun b710 => ?_)
                    · skip
                      refine lv_iconst (v := nI 1) hx hb d_M_joined_156 (by decide) ?_
                      refine lv_goto (tgt := 161) hx hb d_M_joined_157 (by decide) ?_
                      have hI711 := iv_1 hI701 hL (lo_k11_18 hL _ t_M) (by decide) hk708 (oc_50.mk (lo_k11_18 hL _ t_M) (⟨_, e706⟩))
                      refine pf_zast (i := v9) hx hb hK hP hD hS (lo_in hL (lo_k11_20 hL _ t_M) (by decide)) eO (lo_t52 hL _ (lo_k11_20 hL _ t_M)) (by omega) (by decide) d_M_joined_161 (fun f712 H locs e713 k714 hP hD hS => ?_)
                      have e1 := (k714 M (tg_ne t_M (lo_k11_20 hL _ t_M) (by decide))).trans e1
                      have e133 := (k714 (g.lk M 23) (tg_ne (lo_k11_23 hL _ t_M) (lo_k11_20 hL _ t_M) (by decide))).trans e133
                      have e495 := (k714 (g.lk M 21) (tg_ne (lo_k11_21 hL _ t_M) (lo_k11_20 hL _ t_M) (by decide))).trans e495
                      have e635 := (k714 (g.lk M 24) (tg_ne (lo_k11_24 hL _ t_M) (lo_k11_20 hL _ t_M) (by decide))).trans e635
                      have e643 := (k714 (g.lk M 17) (tg_ne (lo_k11_17 hL _ t_M) (lo_k11_20 hL _ t_M) (by decide))).trans e643
                      have e693 := (k714 (g.lk M 19) (tg_ne (lo_k11_19 hL _ t_M) (lo_k11_20 hL _ t_M) (by decide))).trans e693
                      have e697 := (k714 (g.lk M 22) (tg_ne (lo_k11_22 hL _ t_M) (lo_k11_20 hL _ t_M) (by decide))).trans e697
                      have e706 := (k714 (g.lk M 18) (tg_ne (lo_k11_18 hL _ t_M) (lo_k11_20 hL _ t_M) (by decide))).trans e706
                      have hu := hu.st k714 (lo_k11_20 hL _ t_M) (by decide)
                      have hk715 : ∀ b, b ≠ (g.lk M 20) → f712 b = f705 b := k714
                      refine lv_iload_n hx hb d_M_joined_162 rfl (lv_at hl 1 rfl) ?_
                      refine lv_if_ne (tgt := 171) hx hb d_M_joined_163 (by decide) (fun b716 => ?_) (fun b716 => ?_)
                      · skip
                        replace b716 := mt (nI_eq (a := 1) (b := 0) (by omega) (by omega)).mpr b716
                        refine lv_iconst (v := nI 1) hx hb d_M_joined_171 (by decide) ?_
                        refine lv_goto (tgt := 176) hx hb d_M_joined_172 (by decide) ?_
                        have hI717 := iv_1 hI711 hL (lo_k11_20 hL _ t_M) (by decide) hk715 (oc_52.mk (lo_k11_20 hL _ t_M) (⟨_, e713⟩))
                        exact pe_zret hx hb hr hlocks hK hP hD hS d_M_joined_176 rfl ⟨(Or.inr rfl), ⟨_, _, e693, e713, (by have z_hU := cz_0 (x := (vp_nar .boolean ((nI 0)))) b35 (by decide) 10; have z_hO := cz_1 (x := (vp_nar .boolean ((nI 1)))) b601 (by decide) 10 hv9; first | omega | exact Nat.le_refl _), (fun _ w9 => by have z_hU := cz_0 (x := (vp_nar .boolean ((nI 0)))) b35 (by decide) 10; have z_hO := cz_1 (x := (vp_nar .boolean ((nI 1)))) b601 (by decide) 10 hv9; first | omega | exact absurd (by assumption) w9)⟩, hI717, hu⟩
                      · skip
                        replace b716 := (nI_eq (a := 1) (b := 0) (by omega) (by omega)).mp b716
                        exfalso; omega
                    · skip
                      refine lv_iload_n hx hb d_M_joined_152 rfl (lv_at hl 4 rfl) ?_
                      refine lv_if_eq (tgt := 160) hx hb d_M_joined_153 (by decide) (fun b718 => ?_) (fun b718 => ?_)
                      · skip
                        refine lv_iconst (v := nI 0) hx hb d_M_joined_160 (by decide) ?_
                        have hI719 := iv_1 hI701 hL (lo_k11_18 hL _ t_M) (by decide) hk708 (oc_50.mk (lo_k11_18 hL _ t_M) (⟨_, e706⟩))
                        refine pf_zast (i := v9) hx hb hK hP hD hS (lo_in hL (lo_k11_20 hL _ t_M) (by decide)) eO (lo_t52 hL _ (lo_k11_20 hL _ t_M)) (by omega) (by decide) d_M_joined_161 (fun f720 H locs e721 k722 hP hD hS => ?_)
                        have e1 := (k722 M (tg_ne t_M (lo_k11_20 hL _ t_M) (by decide))).trans e1
                        have e133 := (k722 (g.lk M 23) (tg_ne (lo_k11_23 hL _ t_M) (lo_k11_20 hL _ t_M) (by decide))).trans e133
                        have e495 := (k722 (g.lk M 21) (tg_ne (lo_k11_21 hL _ t_M) (lo_k11_20 hL _ t_M) (by decide))).trans e495
                        have e635 := (k722 (g.lk M 24) (tg_ne (lo_k11_24 hL _ t_M) (lo_k11_20 hL _ t_M) (by decide))).trans e635
                        have e643 := (k722 (g.lk M 17) (tg_ne (lo_k11_17 hL _ t_M) (lo_k11_20 hL _ t_M) (by decide))).trans e643
                        have e693 := (k722 (g.lk M 19) (tg_ne (lo_k11_19 hL _ t_M) (lo_k11_20 hL _ t_M) (by decide))).trans e693
                        have e697 := (k722 (g.lk M 22) (tg_ne (lo_k11_22 hL _ t_M) (lo_k11_20 hL _ t_M) (by decide))).trans e697
                        have e706 := (k722 (g.lk M 18) (tg_ne (lo_k11_18 hL _ t_M) (lo_k11_20 hL _ t_M) (by decide))).trans e706
                        have hu := hu.st k722 (lo_k11_20 hL _ t_M) (by decide)
                        have hk723 : ∀ b, b ≠ (g.lk M 20) → f720 b = f705 b := k722
                        refine lv_iload_n hx hb d_M_joined_162 rfl (lv_at hl 1 rfl) ?_
                        refine lv_if_ne (tgt := 171) hx hb d_M_joined_163 (by decide) (fun b724 => ?_) (fun b724 => ?_)
                        · skip
                          replace b724 := mt (nI_eq (a := 1) (b := 0) (by omega) (by omega)).mpr b724
                          refine lv_iconst (v := nI 1) hx hb d_M_joined_171 (by decide) ?_
                          refine lv_goto (tgt := 176) hx hb d_M_joined_172 (by decide) ?_
                          have hI725 := iv_1 hI719 hL (lo_k11_20 hL _ t_M) (by decide) hk723 (oc_52.mk (lo_k11_20 hL _ t_M) (⟨_, e721⟩))
                          exact pe_zret hx hb hr hlocks hK hP hD hS d_M_joined_176 rfl ⟨(Or.inr rfl), ⟨_, _, e693, e721, (by have z_hU := cz_0 (x := (vp_nar .boolean ((nI 0)))) b35 (by decide) 10; have z_hO := cz_0 (x := (vp_nar .boolean ((nI 0)))) b601 (by decide) 10; first | omega | exact Nat.le_refl _), (fun _ w9 => by have z_hU := cz_0 (x := (vp_nar .boolean ((nI 0)))) b35 (by decide) 10; have z_hO := cz_0 (x := (vp_nar .boolean ((nI 0)))) b601 (by decide) 10; first | omega | exact absurd (by assumption) w9)⟩, hI725, hu⟩
                        · skip
                          replace b724 := (nI_eq (a := 1) (b := 0) (by omega) (by omega)).mp b724
                          exfalso; omega
                      · skip
                        refine lv_iconst (v := nI 1) hx hb d_M_joined_156 (by decide) ?_
                        refine lv_goto (tgt := 161) hx hb d_M_joined_157 (by decide) ?_
                        have hI726 := iv_1 hI701 hL (lo_k11_18 hL _ t_M) (by decide) hk708 (oc_50.mk (lo_k11_18 hL _ t_M) (⟨_, e706⟩))
                        refine pf_zast (i := v9) hx hb hK hP hD hS (lo_in hL (lo_k11_20 hL _ t_M) (by decide)) eO (lo_t52 hL _ (lo_k11_20 hL _ t_M)) (by omega) (by decide) d_M_joined_161 (fun f727 H locs e728 k729 hP hD hS => ?_)
                        have e1 := (k729 M (tg_ne t_M (lo_k11_20 hL _ t_M) (by decide))).trans e1
                        have e133 := (k729 (g.lk M 23) (tg_ne (lo_k11_23 hL _ t_M) (lo_k11_20 hL _ t_M) (by decide))).trans e133
                        have e495 := (k729 (g.lk M 21) (tg_ne (lo_k11_21 hL _ t_M) (lo_k11_20 hL _ t_M) (by decide))).trans e495
                        have e635 := (k729 (g.lk M 24) (tg_ne (lo_k11_24 hL _ t_M) (lo_k11_20 hL _ t_M) (by decide))).trans e635
                        have e643 := (k729 (g.lk M 17) (tg_ne (lo_k11_17 hL _ t_M) (lo_k11_20 hL _ t_M) (by decide))).trans e643
                        have e693 := (k729 (g.lk M 19) (tg_ne (lo_k11_19 hL _ t_M) (lo_k11_20 hL _ t_M) (by decide))).trans e693
                        have e697 := (k729 (g.lk M 22) (tg_ne (lo_k11_22 hL _ t_M) (lo_k11_20 hL _ t_M) (by decide))).trans e697
                        have e706 := (k729 (g.lk M 18) (tg_ne (lo_k11_18 hL _ t_M) (lo_k11_20 hL _ t_M) (by decide))).trans e706
                        have hu := hu.st k729 (lo_k11_20 hL _ t_M) (by decide)
                        have hk730 : ∀ b, b ≠ (g.lk M 20) → f727 b = f705 b := k729
                        refine lv_iload_n hx hb d_M_joined_162 rfl (lv_at hl 1 rfl) ?_
                        refine lv_if_ne (tgt := 171) hx hb d_M_joined_163 (by decide) (fun b731 => ?_) (fun b731 => ?_)
                        · skip
                          replace b731 := mt (nI_eq (a := 1) (b := 0) (by omega) (by omega)).mpr b731
                          refine lv_iconst (v := nI 1) hx hb d_M_joined_171 (by decide) ?_
                          refine lv_goto (tgt := 176) hx hb d_M_joined_172 (by decide) ?_
                          have hI732 := iv_1 hI726 hL (lo_k11_20 hL _ t_M) (by decide) hk730 (oc_52.mk (lo_k11_20 hL _ t_M) (⟨_, e728⟩))
                          exact pe_zret hx hb hr hlocks hK hP hD hS d_M_joined_176 rfl ⟨(Or.inr rfl), ⟨_, _, e693, e728, (by have z_hU := cz_0 (x := (vp_nar .boolean ((nI 0)))) b35 (by decide) 10; have z_hO := cz_1 (x := (vp_nar .boolean ((nI 1)))) b601 (by decide) 10 hv9; first | omega | exact Nat.le_refl _), (fun _ w9 => by have z_hU := cz_0 (x := (vp_nar .boolean ((nI 0)))) b35 (by decide) 10; have z_hO := cz_1 (x := (vp_nar .boolean ((nI 1)))) b601 (by decide) 10 hv9; first | omega | exact absurd (by assumption) w9)⟩, hI732, hu⟩
                        · skip
                          replace b731 := (nI_eq (a := 1) (b := 0) (by omega) (by omega)).mp b731
                          exfalso; omega
                · skip
                  refine lv_iconst (v := nI 1) hx hb d_M_joined_115 (by decide) ?_
                  refine lv_goto (tgt := 120) hx hb d_M_joined_116 (by decide) ?_
                  have hI733 := iv_1 hI hL (lo_k11_17 hL _ t_M) (by decide) hk645 (oc_49.mk (lo_k11_17 hL _ t_M) (⟨_, e643⟩))
                  refine pf_zast (i := v9) hx hb hK hP hD hS (lo_in hL (lo_k11_19 hL _ t_M) (by decide)) eU (lo_t51 hL _ (lo_k11_19 hL _ t_M)) (by omega) (by decide) d_M_joined_120 (fun f734 H locs e735 k736 hP hD hS => ?_)
                  have eO := (k736 (g.lk M 20) (tg_ne (lo_k11_20 hL _ t_M) (lo_k11_19 hL _ t_M) (by decide))).trans eO
                  have e1 := (k736 M (tg_ne t_M (lo_k11_19 hL _ t_M) (by decide))).trans e1
                  have e133 := (k736 (g.lk M 23) (tg_ne (lo_k11_23 hL _ t_M) (lo_k11_19 hL _ t_M) (by decide))).trans e133
                  have e495 := (k736 (g.lk M 21) (tg_ne (lo_k11_21 hL _ t_M) (lo_k11_19 hL _ t_M) (by decide))).trans e495
                  have e635 := (k736 (g.lk M 24) (tg_ne (lo_k11_24 hL _ t_M) (lo_k11_19 hL _ t_M) (by decide))).trans e635
                  have e643 := (k736 (g.lk M 17) (tg_ne (lo_k11_17 hL _ t_M) (lo_k11_19 hL _ t_M) (by decide))).trans e643
                  have hu := hu.st k736 (lo_k11_19 hL _ t_M) (by decide)
                  have hk737 : ∀ b, b ≠ (g.lk M 19) → f734 b = f642 b := k736
                  refine lv_iload hx hb d_M_joined_121 (lv_at hl 0 rfl) ?_
                  refine lv_if_eq (tgt := 162) hx hb d_M_joined_123 (by decide) (fun b738 => ?_) (fun b738 => ?_)
                  · skip
                    replace b738 := (nI_eq (a := 1) (b := 0) (by omega) (by omega)).mp b738
                    exfalso; omega
                  · skip
                    replace b738 := mt (nI_eq (a := 1) (b := 0) (by omega) (by omega)).mpr b738
                    refine lv_aload_n hx hb d_M_joined_126 rfl (lv_at hl 2 rfl) ?_
                    refine pf_get (v := .ref (g.lk M 18)) (C := "BigRunnerModel") (T := FT10) (N := 45) hx hb (hw10 hB _) (fun _ h9 => h9) hown hK hP (lo_in hL t_M (by decide)) e1 rfl 18 (by decide) (wd_965 hB _) rfl d_M_joined_127 ?_
                    refine lv_iload_n hx hb d_M_joined_130 rfl (lv_at hl 3 rfl) ?_
                    refine lv_aload_n hx hb d_M_joined_131 rfl (lv_at hl 2 rfl) ?_
                    refine pf_get (v := .ref (g.lk M 22)) (C := "BigRunnerModel") (T := FT10) (N := 45) hx hb (hw10 hB _) (fun _ h9 => h9) hown hK hP (lo_in hL t_M (by decide)) e1 rfl 22 (by decide) (wd_969 hB _) rfl d_M_joined_132 ?_
                    refine lv_iconst (v := nI 0) hx hb d_M_joined_135 (by decide) ?_
                    obtain ⟨h_740, e739⟩ := oc_54.of (lo_k11_22 hL _ t_M) (hI733.1 (g.lk M 22))
                    replace e739 := (hk737 (g.lk M 22) (tg_ne (lo_k11_22 hL _ t_M) (lo_k11_19 hL _ t_M) (by decide))).trans e739
                    refine pf_lald (i := 0) hx hb hK hP (lo_in hL (lo_k11_22 hL _ t_M) (by decide)) e739 (lo_t54 hL _ (lo_k11_22 hL _ t_M)) (by omega) (by decide) d_M_joined_136 ?_
                    refine lv_topl (fun lv742 _ => ?_)
                    have hI743 := iv_1 hI733 hL (lo_k11_19 hL _ t_M) (by decide) hk737 (oc_51.mk (lo_k11_19 hL _ t_M) (⟨_, e735⟩))
                    obtain ⟨h_745, e744⟩ := oc_50.of (lo_k11_18 hL _ t_M) (hI743.1 (g.lk M 18))
                    refine pf_last (i := v9) hx hb hK hP hD hS (lo_in hL (lo_k11_18 hL _ t_M) (by decide)) e744 (lo_t50 hL _ (lo_k11_18 hL _ t_M)) (by omega) (by decide) d_M_joined_137 (fun f747 H locs e748 k749 hP hD hS => ?_)
                    have eO := (k749 (g.lk M 20) (tg_ne (lo_k11_20 hL _ t_M) (lo_k11_18 hL _ t_M) (by decide))).trans eO
                    have e1 := (k749 M (tg_ne t_M (lo_k11_18 hL _ t_M) (by decide))).trans e1
                    have e133 := (k749 (g.lk M 23) (tg_ne (lo_k11_23 hL _ t_M) (lo_k11_18 hL _ t_M) (by decide))).trans e133
                    have e495 := (k749 (g.lk M 21) (tg_ne (lo_k11_21 hL _ t_M) (lo_k11_18 hL _ t_M) (by decide))).trans e495
                    have e635 := (k749 (g.lk M 24) (tg_ne (lo_k11_24 hL _ t_M) (lo_k11_18 hL _ t_M) (by decide))).trans e635
                    have e643 := (k749 (g.lk M 17) (tg_ne (lo_k11_17 hL _ t_M) (lo_k11_18 hL _ t_M) (by decide))).trans e643
                    have e735 := (k749 (g.lk M 19) (tg_ne (lo_k11_19 hL _ t_M) (lo_k11_18 hL _ t_M) (by decide))).trans e735
                    have e739 := (k749 (g.lk M 22) (tg_ne (lo_k11_22 hL _ t_M) (lo_k11_18 hL _ t_M) (by decide))).trans e739
                    have hu := hu.st k749 (lo_k11_18 hL _ t_M) (by decide)
                    have hk750 : ∀ b, b ≠ (g.lk M 18) → f747 b = f734 b := k749
                    refine lv_aload_n hx hb d_M_joined_138 rfl (lv_at hl 2 rfl) ?_
                    refine pf_get (v := .ref (g.lk M 20)) (C := "BigRunnerModel") (T := FT10) (N := 45) hx hb (hw10 hB _) (fun _ h9 => h9) hown hK hP (lo_in hL t_M (by decide)) e1 rfl 20 (by decide) (wd_967 hB _) rfl d_M_joined_139 ?_
                    refine lv_iload_n hx hb d_M_joined_142 rfl (lv_at hl 3 rfl) ?_
                    refine lv_aload_n hx hb d_M_joined_143 rfl (lv_at hl 2 rfl) ?_
                    refine pf_get (v := .ref (g.lk M 24)) (C := "BigRunnerModel") (T := FT10) (N := 45) hx hb (hw10 hB _) (fun _ h9 => h9) hown hK hP (lo_in hL t_M (by decide)) e1 rfl 24 (by decide) (wd_971 hB _) rfl d_M_joined_144 ?_
                    refine lv_iconst (v := nI 0) hx hb d_M_joined_147 (by decide) ?_
                    refine pf_zald (i := 0) hx hb hK hP (lo_in hL (lo_k11_24 hL _ t_M) (by decide)) e635 (lo_t56 hL _ (lo_k11_24 hL _ t_M)) (by omega) (by decide) d_M_joined_148 ?_
                    refine lv_topi (fun iv751 _ => ?_)
                    refine lv_if_ne (tgt := 156) hx hb d_M_joined_149 (by decide) (fun b752 => ?_) (fun b752 => ?_)
                    · skip
                      refine lv_iconst (v := nI 1) hx hb d_M_joined_156 (by decide) ?_
                      refine lv_goto (tgt := 161) hx hb d_M_joined_157 (by decide) ?_
                      have hI753 := iv_1 hI743 hL (lo_k11_18 hL _ t_M) (by decide) hk750 (oc_50.mk (lo_k11_18 hL _ t_M) (⟨_, e748⟩))
                      refine pf_zast (i := v9) hx hb hK hP hD hS (lo_in hL (lo_k11_20 hL _ t_M) (by decide)) eO (lo_t52 hL _ (lo_k11_20 hL _ t_M)) (by omega) (by decide) d_M_joined_161 (fun f754 H locs e755 k756 hP hD hS => ?_)
                      have e1 := (k756 M (tg_ne t_M (lo_k11_20 hL _ t_M) (by decide))).trans e1
                      have e133 := (k756 (g.lk M 23) (tg_ne (lo_k11_23 hL _ t_M) (lo_k11_20 hL _ t_M) (by decide))).trans e133
                      have e495 := (k756 (g.lk M 21) (tg_ne (lo_k11_21 hL _ t_M) (lo_k11_20 hL _ t_M) (by decide))).trans e495
                      have e635 := (k756 (g.lk M 24) (tg_ne (lo_k11_24 hL _ t_M) (lo_k11_20 hL _ t_M) (by decide))).trans e635
                      have e643 := (k756 (g.lk M 17) (tg_ne (lo_k11_17 hL _ t_M) (lo_k11_20 hL _ t_M) (by decide))).trans e643
                      have e735 := (k756 (g.lk M 19) (tg_ne (lo_k11_19 hL _ t_M) (lo_k11_20 hL _ t_M) (by decide))).trans e735
                      have e739 := (k756 (g.lk M 22) (tg_ne (lo_k11_22 hL _ t_M) (lo_k11_20 hL _ t_M) (by decide))).trans e739
                      have e748 := (k756 (g.lk M 18) (tg_ne (lo_k11_18 hL _ t_M) (lo_k11_20 hL _ t_M) (by decide))).trans e748
                      have hu := hu.st k756 (lo_k11_20 hL _ t_M) (by decide)
                      have hk757 : ∀ b, b ≠ (g.lk M 20) → f754 b = f747 b := k756
                      refine lv_iload_n hx hb d_M_joined_162 rfl (lv_at hl 1 rfl) ?_
                      refine lv_if_ne (tgt := 171) hx hb d_M_joined_163 (by decide) (fun b758 => ?_) (fun b758 => ?_)
                      · skip
                        replace b758 := mt (nI_eq (a := 1) (b := 0) (by omega) (by omega)).mpr b758
                        refine lv_iconst (v := nI 1) hx hb d_M_joined_171 (by decide) ?_
                        refine lv_goto (tgt := 176) hx hb d_M_joined_172 (by decide) ?_
                        have hI759 := iv_1 hI753 hL (lo_k11_20 hL _ t_M) (by decide) hk757 (oc_52.mk (lo_k11_20 hL _ t_M) (⟨_, e755⟩))
                        exact pe_zret hx hb hr hlocks hK hP hD hS d_M_joined_176 rfl ⟨(Or.inr rfl), ⟨_, _, e735, e755, (by have z_hU := cz_1 (x := (vp_nar .boolean ((nI 1)))) b35 (by decide) 10 hv9; have z_hO := cz_1 (x := (vp_nar .boolean ((nI 1)))) b601 (by decide) 10 hv9; first | omega | exact Nat.le_refl _), (fun _ w9 => by have z_hU := cz_1 (x := (vp_nar .boolean ((nI 1)))) b35 (by decide) 10 hv9; have z_hO := cz_1 (x := (vp_nar .boolean ((nI 1)))) b601 (by decide) 10 hv9; first | omega | exact absurd (by assumption) w9)⟩, hI759, hu⟩
                      · skip
                        replace b758 := (nI_eq (a := 1) (b := 0) (by omega) (by omega)).mp b758
                        exfalso; omega
                    · skip
                      refine lv_iload_n hx hb d_M_joined_152 rfl (lv_at hl 4 rfl) ?_
                      refine lv_if_eq (tgt := 160) hx hb d_M_joined_153 (by decide) (fun b760 => ?_) (fun b760 => ?_)
                      · skip
                        refine lv_iconst (v := nI 0) hx hb d_M_joined_160 (by decide) ?_
                        have hI761 := iv_1 hI743 hL (lo_k11_18 hL _ t_M) (by decide) hk750 (oc_50.mk (lo_k11_18 hL _ t_M) (⟨_, e748⟩))
                        refine pf_zast (i := v9) hx hb hK hP hD hS (lo_in hL (lo_k11_20 hL _ t_M) (by decide)) eO (lo_t52 hL _ (lo_k11_20 hL _ t_M)) (by omega) (by decide) d_M_joined_161 (fun f762 H locs e763 k764 hP hD hS => ?_)
                        have e1 := (k764 M (tg_ne t_M (lo_k11_20 hL _ t_M) (by decide))).trans e1
                        have e133 := (k764 (g.lk M 23) (tg_ne (lo_k11_23 hL _ t_M) (lo_k11_20 hL _ t_M) (by decide))).trans e133
                        have e495 := (k764 (g.lk M 21) (tg_ne (lo_k11_21 hL _ t_M) (lo_k11_20 hL _ t_M) (by decide))).trans e495
                        have e635 := (k764 (g.lk M 24) (tg_ne (lo_k11_24 hL _ t_M) (lo_k11_20 hL _ t_M) (by decide))).trans e635
                        have e643 := (k764 (g.lk M 17) (tg_ne (lo_k11_17 hL _ t_M) (lo_k11_20 hL _ t_M) (by decide))).trans e643
                        have e735 := (k764 (g.lk M 19) (tg_ne (lo_k11_19 hL _ t_M) (lo_k11_20 hL _ t_M) (by decide))).trans e735
                        have e739 := (k764 (g.lk M 22) (tg_ne (lo_k11_22 hL _ t_M) (lo_k11_20 hL _ t_M) (by decide))).trans e739
                        have e748 := (k764 (g.lk M 18) (tg_ne (lo_k11_18 hL _ t_M) (lo_k11_20 hL _ t_M) (by decide))).trans e748
                        have hu := hu.st k764 (lo_k11_20 hL _ t_M) (by decide)
                        have hk765 : ∀ b, b ≠ (g.lk M 20) → f762 b = f747 b := k764
                        refine lv_iload_n hx hb d_M_joined_162 rfl (lv_at hl 1 rfl) ?_
                        refine lv_if_ne (tgt := 171) hx hb d_M_joined_163 (by decide) (fun b766 => ?_) (fun b766 => ?_)
                        · skip
                          replace b766 := mt (nI_eq (a := 1) (b := 0) (by omega) (by omega)).mpr b766
                          refine lv_iconst (v := nI 1) hx hb d_M_joined_171 (by decide) ?_
                          refine lv_goto (tgt := 176) hx hb d_M_joined_172 (by decide) ?_
                          have hI767 := iv_1 hI761 hL (lo_k11_20 hL _ t_M) (by decide) hk765 (oc_52.mk (lo_k11_20 hL _ t_M) (⟨_, e763⟩))
                          exact pe_zret hx hb hr hlocks hK hP hD hS d_M_joined_176 rfl ⟨(Or.inr rfl), ⟨_, _, e735, e763, (by have z_hU := cz_1 (x := (vp_nar .boolean ((nI 1)))) b35 (by decide) 10 hv9; have z_hO := cz_0 (x := (vp_nar .boolean ((nI 0)))) b601 (by decide) 10; first | omega | exact Nat.le_refl _), (fun _ w9 => by have z_hU := cz_1 (x := (vp_nar .boolean ((nI 1)))) b35 (by decide) 10 hv9; have z_hO := cz_0 (x := (vp_nar .boolean ((nI 0)))) b601 (by decide) 10; first | omega | exact absurd (by assumption) w9)⟩, hI767, hu⟩
                        · skip
                          replace b766 := (nI_eq (a := 1) (b := 0) (by omega) (by omega)).mp b766
                          exfalso; omega
                      · skip
                        refine lv_iconst (v := nI 1) hx hb d_M_joined_156 (by decide) ?_
                        refine lv_goto (tgt := 161) hx hb d_M_joined_157 (by decide) ?_
                        have hI768 := iv_1 hI743 hL (lo_k11_18 hL _ t_M) (by decide) hk750 (oc_50.mk (lo_k11_18 hL _ t_M) (⟨_, e748⟩))
                        refine pf_zast (i := v9) hx hb hK hP hD hS (lo_in hL (lo_k11_20 hL _ t_M) (by decide)) eO (lo_t52 hL _ (lo_k11_20 hL _ t_M)) (by omega) (by decide) d_M_joined_161 (fun f769 H locs e770 k771 hP hD hS => ?_)
                        have e1 := (k771 M (tg_ne t_M (lo_k11_20 hL _ t_M) (by decide))).trans e1
                        have e133 := (k771 (g.lk M 23) (tg_ne (lo_k11_23 hL _ t_M) (lo_k11_20 hL _ t_M) (by decide))).trans e133
                        have e495 := (k771 (g.lk M 21) (tg_ne (lo_k11_21 hL _ t_M) (lo_k11_20 hL _ t_M) (by decide))).trans e495
                        have e635 := (k771 (g.lk M 24) (tg_ne (lo_k11_24 hL _ t_M) (lo_k11_20 hL _ t_M) (by decide))).trans e635
                        have e643 := (k771 (g.lk M 17) (tg_ne (lo_k11_17 hL _ t_M) (lo_k11_20 hL _ t_M) (by decide))).trans e643
                        have e735 := (k771 (g.lk M 19) (tg_ne (lo_k11_19 hL _ t_M) (lo_k11_20 hL _ t_M) (by decide))).trans e735
                        have e739 := (k771 (g.lk M 22) (tg_ne (lo_k11_22 hL _ t_M) (lo_k11_20 hL _ t_M) (by decide))).trans e739
                        have e748 := (k771 (g.lk M 18) (tg_ne (lo_k11_18 hL _ t_M) (lo_k11_20 hL _ t_M) (by decide))).trans e748
                        have hu := hu.st k771 (lo_k11_20 hL _ t_M) (by decide)
                        have hk772 : ∀ b, b ≠ (g.lk M 20) → f769 b = f747 b := k771
                        refine lv_iload_n hx hb d_M_joined_162 rfl (lv_at hl 1 rfl) ?_
                        refine lv_if_ne (tgt := 171) hx hb d_M_joined_163 (by decide) (fun b773 => ?_) (fun b773 => ?_)
                        · skip
                          replace b773 := mt (nI_eq (a := 1) (b := 0) (by omega) (by omega)).mpr b773
                          refine lv_iconst (v := nI 1) hx hb d_M_joined_171 (by decide) ?_
                          refine lv_goto (tgt := 176) hx hb d_M_joined_172 (by decide) ?_
                          have hI774 := iv_1 hI768 hL (lo_k11_20 hL _ t_M) (by decide) hk772 (oc_52.mk (lo_k11_20 hL _ t_M) (⟨_, e770⟩))
                          exact pe_zret hx hb hr hlocks hK hP hD hS d_M_joined_176 rfl ⟨(Or.inr rfl), ⟨_, _, e735, e770, (by have z_hU := cz_1 (x := (vp_nar .boolean ((nI 1)))) b35 (by decide) 10 hv9; have z_hO := cz_1 (x := (vp_nar .boolean ((nI 1)))) b601 (by decide) 10 hv9; first | omega | exact Nat.le_refl _), (fun _ w9 => by have z_hU := cz_1 (x := (vp_nar .boolean ((nI 1)))) b35 (by decide) 10 hv9; have z_hO := cz_1 (x := (vp_nar .boolean ((nI 1)))) b601 (by decide) 10 hv9; first | omega | exact absurd (by assumption) w9)⟩, hI774, hu⟩
                        · skip
                          replace b773 := (nI_eq (a := 1) (b := 0) (by omega) (by omega)).mp b773
                          exfalso; omega
          · skip
            refine lv_aload_n hx hb d_M_joined_58 rfl (lv_at hl 1 rfl) ?_
            refine pf_get (v := .ref (g.lk M 22)) (C := "BigRunnerModel") (T := FT10) (N := 45) hx hb (hw10 hB _) (fun _ h9 => h9) hown hK hP (lo_in hL t_M (by decide)) e1 rfl 22 (by decide) (wd_969 hB _) rfl d_M_joined_59 ?_
            refine lv_iconst (v := nI 0) hx hb d_M_joined_62 (by decide) ?_
            obtain ⟨h_776, e775⟩ := oc_54.of (lo_k11_22 hL _ t_M) (hI.1 (g.lk M 22))
            refine pf_lald (i := 0) hx hb hK hP (lo_in hL (lo_k11_22 hL _ t_M) (by decide)) e775 (lo_t54 hL _ (lo_k11_22 hL _ t_M)) (by omega) (by decide) d_M_joined_63 ?_
            refine lv_topl (fun lv778 _ => ?_)
            refine lv_aload_n hx hb d_M_joined_64 rfl (lv_at hl 1 rfl) ?_
            refine pf_get (v := .ref (g.lk M 18)) (C := "BigRunnerModel") (T := FT10) (N := 45) hx hb (hw10 hB _) (fun _ h9 => h9) hown hK hP (lo_in hL t_M (by decide)) e1 rfl 18 (by decide) (wd_965 hB _) rfl d_M_joined_65 ?_
            refine lv_iload_n hx hb d_M_joined_68 rfl (lv_at hl 2 rfl) ?_
            obtain ⟨h_780, e779⟩ := oc_50.of (lo_k11_18 hL _ t_M) (hI.1 (g.lk M 18))
            refine pf_lald (i := v9) hx hb hK hP (lo_in hL (lo_k11_18 hL _ t_M) (by decide)) e779 (lo_t50 hL _ (lo_k11_18 hL _ t_M)) (by omega) (by decide) d_M_joined_69 ?_
            refine lv_topl (fun lv782 _ => ?_)
            refine W.lcmp hx hb d_M_joined_70 ?_
            refine lv_if_le (tgt := 78) hx hb d_M_joined_71 (by decide) (fun b783 => ?_) (fun b783 => ?_)
            · skip
              replace b783 := pl_le.mp b783
              refine lv_iconst (v := nI 0) hx hb d_M_joined_78 (by decide) ?_
              refine lv_istore (lv' := [(4, .int (nI 0)), (3, .int (nI 1)), (0, .ref M), (1, .int (nI v9)), (2, .int wd)]) hx hb d_M_joined_79 hl (by decide) rfl (fun ls hl => ?_)
              refine lv_iload_n hx hb d_M_joined_81 rfl (lv_at hl 1 rfl) ?_
              refine lv_if_eq (tgt := 121) hx hb d_M_joined_82 (by decide) (fun b784 => ?_) (fun b784 => ?_)
              · skip
                replace b784 := (nI_eq (a := 1) (b := 0) (by omega) (by omega)).mp b784
                exfalso; omega
              · skip
                replace b784 := mt (nI_eq (a := 1) (b := 0) (by omega) (by omega)).mpr b784
                refine lv_aload_n hx hb d_M_joined_85 rfl (lv_at hl 2 rfl) ?_
                refine pf_get (v := .ref (g.lk M 17)) (C := "BigRunnerModel") (T := FT10) (N := 45) hx hb (hw10 hB _) (fun _ h9 => h9) hown hK hP (lo_in hL t_M (by decide)) e1 rfl 17 (by decide) (wd_964 hB _) rfl d_M_joined_86 ?_
                refine lv_iload_n hx hb d_M_joined_89 rfl (lv_at hl 3 rfl) ?_
                refine lv_aload_n hx hb d_M_joined_90 rfl (lv_at hl 2 rfl) ?_
                refine pf_get (v := .ref (g.lk M 21)) (C := "BigRunnerModel") (T := FT10) (N := 45) hx hb (hw10 hB _) (fun _ h9 => h9) hown hK hP (lo_in hL t_M (by decide)) e1 rfl 21 (by decide) (wd_968 hB _) rfl d_M_joined_91 ?_
                refine lv_iconst (v := nI 0) hx hb d_M_joined_94 (by decide) ?_
                refine pf_lald (i := 0) hx hb hK hP (lo_in hL (lo_k11_21 hL _ t_M) (by decide)) e495 (lo_t53 hL _ (lo_k11_21 hL _ t_M)) (by omega) (by decide) d_M_joined_95 ?_
                refine lv_topl (fun lv785 _ => ?_)
                refine pf_last (i := v9) hx hb hK hP hD hS (lo_in hL (lo_k11_17 hL _ t_M) (by decide)) e499 (lo_t49 hL _ (lo_k11_17 hL _ t_M)) (by omega) (by decide) d_M_joined_96 (fun f786 H locs e787 k788 hP hD hS => ?_)
                have eU := (k788 (g.lk M 19) (tg_ne (lo_k11_19 hL _ t_M) (lo_k11_17 hL _ t_M) (by decide))).trans eU
                have eO := (k788 (g.lk M 20) (tg_ne (lo_k11_20 hL _ t_M) (lo_k11_17 hL _ t_M) (by decide))).trans eO
                have e1 := (k788 M (tg_ne t_M (lo_k11_17 hL _ t_M) (by decide))).trans e1
                have e133 := (k788 (g.lk M 23) (tg_ne (lo_k11_23 hL _ t_M) (lo_k11_17 hL _ t_M) (by decide))).trans e133
                have e495 := (k788 (g.lk M 21) (tg_ne (lo_k11_21 hL _ t_M) (lo_k11_17 hL _ t_M) (by decide))).trans e495
                have e635 := (k788 (g.lk M 24) (tg_ne (lo_k11_24 hL _ t_M) (lo_k11_17 hL _ t_M) (by decide))).trans e635
                have e775 := (k788 (g.lk M 22) (tg_ne (lo_k11_22 hL _ t_M) (lo_k11_17 hL _ t_M) (by decide))).trans e775
                have e779 := (k788 (g.lk M 18) (tg_ne (lo_k11_18 hL _ t_M) (lo_k11_17 hL _ t_M) (by decide))).trans e779
                have hu := hu.st k788 (lo_k11_17 hL _ t_M) (by decide)
                have hk789 : ∀ b, b ≠ (g.lk M 17) → f786 b = f b := k788
                refine lv_aload_n hx hb d_M_joined_97 rfl (lv_at hl 2 rfl) ?_
                refine pf_get (v := .ref (g.lk M 19)) (C := "BigRunnerModel") (T := FT10) (N := 45) hx hb (hw10 hB _) (fun _ h9 => h9) hown hK hP (lo_in hL t_M (by decide)) e1 rfl 19 (by decide) (wd_966 hB _) rfl d_M_joined_98 ?_
                refine lv_iload_n hx hb d_M_joined_101 rfl (lv_at hl 3 rfl) ?_
                refine lv_aload_n hx hb d_M_joined_102 rfl (lv_at hl 2 rfl) ?_
                refine pf_get (v := .ref (g.lk M 23)) (C := "BigRunnerModel") (T := FT10) (N := 45) hx hb (hw10 hB _) (fun _ h9 => h9) hown hK hP (lo_in hL t_M (by decide)) e1 rfl 23 (by decide) (wd_970 hB _) rfl d_M_joined_103 ?_
                refine lv_iconst (v := nI 0) hx hb d_M_joined_106 (by decide) ?_
                refine pf_zald (i := 0) hx hb hK hP (lo_in hL (lo_k11_23 hL _ t_M) (by decide)) e133 (lo_t55 hL _ (lo_k11_23 hL _ t_M)) (by omega) (by decide) d_M_joined_107 ?_
                refine lv_topi (fun iv790 _ => ?_)
                refine lv_if_ne (tgt := 115) hx hb d_M_joined_108 (by decide) (fun b791 => ?_) (fun b791 => ?_)
                · skip
                  refine lv_iconst (v := nI 1) hx hb d_M_joined_115 (by decide) ?_
                  refine lv_goto (tgt := 120) hx hb d_M_joined_116 (by decide) ?_
                  have hI792 := iv_1 hI hL (lo_k11_17 hL _ t_M) (by decide) hk789 (oc_49.mk (lo_k11_17 hL _ t_M) (⟨_, e787⟩))
                  refine pf_zast (i := v9) hx hb hK hP hD hS (lo_in hL (lo_k11_19 hL _ t_M) (by decide)) eU (lo_t51 hL _ (lo_k11_19 hL _ t_M)) (by omega) (by decide) d_M_joined_120 (fun f793 H locs e794 k795 hP hD hS => ?_)
                  have eO := (k795 (g.lk M 20) (tg_ne (lo_k11_20 hL _ t_M) (lo_k11_19 hL _ t_M) (by decide))).trans eO
                  have e1 := (k795 M (tg_ne t_M (lo_k11_19 hL _ t_M) (by decide))).trans e1
                  have e133 := (k795 (g.lk M 23) (tg_ne (lo_k11_23 hL _ t_M) (lo_k11_19 hL _ t_M) (by decide))).trans e133
                  have e495 := (k795 (g.lk M 21) (tg_ne (lo_k11_21 hL _ t_M) (lo_k11_19 hL _ t_M) (by decide))).trans e495
                  have e635 := (k795 (g.lk M 24) (tg_ne (lo_k11_24 hL _ t_M) (lo_k11_19 hL _ t_M) (by decide))).trans e635
                  have e775 := (k795 (g.lk M 22) (tg_ne (lo_k11_22 hL _ t_M) (lo_k11_19 hL _ t_M) (by decide))).trans e775
                  have e779 := (k795 (g.lk M 18) (tg_ne (lo_k11_18 hL _ t_M) (lo_k11_19 hL _ t_M) (by decide))).trans e779
                  have e787 := (k795 (g.lk M 17) (tg_ne (lo_k11_17 hL _ t_M) (lo_k11_19 hL _ t_M) (by decide))).trans e787
                  have hu := hu.st k795 (lo_k11_19 hL _ t_M) (by decide)
                  have hk796 : ∀ b, b ≠ (g.lk M 19) → f793 b = f786 b := k795
                  refine lv_iload hx hb d_M_joined_121 (lv_at hl 0 rfl) ?_
                  refine lv_if_eq (tgt := 162) hx hb d_M_joined_123 (by decide) (fun b797 => ?_) (fun b797 => ?_)
                  · skip
                    replace b797 := (nI_eq (a := 0) (b := 0) (by omega) (by omega)).mp b797
                    refine lv_iload_n hx hb d_M_joined_162 rfl (lv_at hl 1 rfl) ?_
                    refine lv_if_ne (tgt := 171) hx hb d_M_joined_163 (by decide) (fun b798 => ?_) (fun b798 => ?_)
                    · skip
                      replace b798 := mt (nI_eq (a := 1) (b := 0) (by omega) (by omega)).mpr b798
                      refine lv_iconst (v := nI 1) hx hb d_M_joined_171 (by decide) ?_
                      refine lv_goto (tgt := 176) hx hb d_M_joined_172 (by decide) ?_
                      have hI799 := iv_1 hI792 hL (lo_k11_19 hL _ t_M) (by decide) hk796 (oc_51.mk (lo_k11_19 hL _ t_M) (⟨_, e794⟩))
                      exact pe_zret hx hb hr hlocks hK hP hD hS d_M_joined_176 rfl ⟨(Or.inr rfl), ⟨_, _, e794, eO, (by have z_hU := cz_1 (x := (vp_nar .boolean ((nI 1)))) b35 (by decide) 10 hv9; first | omega | exact Nat.le_refl _), (fun _ w9 => by have z_hU := cz_1 (x := (vp_nar .boolean ((nI 1)))) b35 (by decide) 10 hv9; first | omega | exact absurd (by assumption) w9)⟩, hI799, hu⟩
                    · skip
                      replace b798 := (nI_eq (a := 1) (b := 0) (by omega) (by omega)).mp b798
                      exfalso; omega
                  · skip
                    replace b797 := mt (nI_eq (a := 0) (b := 0) (by omega) (by omega)).mpr b797
                    exfalso; omega
                · skip
                  refine lv_iload_n hx hb d_M_joined_111 rfl (lv_at hl 4 rfl) ?_
                  refine lv_if_eq (tgt := 119) hx hb d_M_joined_112 (by decide) (fun b800 => ?_) (fun b800 => ?_)
                  · skip
                    refine lv_iconst (v := nI 0) hx hb d_M_joined_119 (by decide) ?_
                    have hI801 := iv_1 hI hL (lo_k11_17 hL _ t_M) (by decide) hk789 (oc_49.mk (lo_k11_17 hL _ t_M) (⟨_, e787⟩))
                    refine pf_zast (i := v9) hx hb hK hP hD hS (lo_in hL (lo_k11_19 hL _ t_M) (by decide)) eU (lo_t51 hL _ (lo_k11_19 hL _ t_M)) (by omega) (by decide) d_M_joined_120 (fun f802 H locs e803 k804 hP hD hS => ?_)
                    have eO := (k804 (g.lk M 20) (tg_ne (lo_k11_20 hL _ t_M) (lo_k11_19 hL _ t_M) (by decide))).trans eO
                    have e1 := (k804 M (tg_ne t_M (lo_k11_19 hL _ t_M) (by decide))).trans e1
                    have e133 := (k804 (g.lk M 23) (tg_ne (lo_k11_23 hL _ t_M) (lo_k11_19 hL _ t_M) (by decide))).trans e133
                    have e495 := (k804 (g.lk M 21) (tg_ne (lo_k11_21 hL _ t_M) (lo_k11_19 hL _ t_M) (by decide))).trans e495
                    have e635 := (k804 (g.lk M 24) (tg_ne (lo_k11_24 hL _ t_M) (lo_k11_19 hL _ t_M) (by decide))).trans e635
                    have e775 := (k804 (g.lk M 22) (tg_ne (lo_k11_22 hL _ t_M) (lo_k11_19 hL _ t_M) (by decide))).trans e775
                    have e779 := (k804 (g.lk M 18) (tg_ne (lo_k11_18 hL _ t_M) (lo_k11_19 hL _ t_M) (by decide))).trans e779
                    have e787 := (k804 (g.lk M 17) (tg_ne (lo_k11_17 hL _ t_M) (lo_k11_19 hL _ t_M) (by decide))).trans e787
                    have hu := hu.st k804 (lo_k11_19 hL _ t_M) (by decide)
                    have hk805 : ∀ b, b ≠ (g.lk M 19) → f802 b = f786 b := k804
                    refine lv_iload hx hb d_M_joined_121 (lv_at hl 0 rfl) ?_
                    refine lv_if_eq (tgt := 162) hx hb d_M_joined_123 (by decide) (fun b806 => ?_) (fun b806 => ?_)
                    · skip
                      replace b806 := (nI_eq (a := 0) (b := 0) (by omega) (by omega)).mp b806
                      refine lv_iload_n hx hb d_M_joined_162 rfl (lv_at hl 1 rfl) ?_
                      refine lv_if_ne (tgt := 171) hx hb d_M_joined_163 (by decide) (fun b807 => ?_) (fun b807 => ?_)
                      · skip
                        replace b807 := mt (nI_eq (a := 1) (b := 0) (by omega) (by omega)).mpr b807
                        refine lv_iconst (v := nI 1) hx hb d_M_joined_171 (by decide) ?_
                        refine lv_goto (tgt := 176) hx hb d_M_joined_172 (by decide) ?_
                        have hI808 := iv_1 hI801 hL (lo_k11_19 hL _ t_M) (by decide) hk805 (oc_51.mk (lo_k11_19 hL _ t_M) (⟨_, e803⟩))
                        exact pe_zret hx hb hr hlocks hK hP hD hS d_M_joined_176 rfl ⟨(Or.inr rfl), ⟨_, _, e803, eO, (by have z_hU := cz_0 (x := (vp_nar .boolean ((nI 0)))) b35 (by decide) 10; first | omega | exact Nat.le_refl _), (fun _ w9 => by have z_hU := cz_0 (x := (vp_nar .boolean ((nI 0)))) b35 (by decide) 10; first | omega | exact absurd (by assumption) w9)⟩, hI808, hu⟩
                      · skip
                        replace b807 := (nI_eq (a := 1) (b := 0) (by omega) (by omega)).mp b807
                        exfalso; omega
                    · skip
                      replace b806 := mt (nI_eq (a := 0) (b := 0) (by omega) (by omega)).mpr b806
                      exfalso; omega
                  · skip
                    refine lv_iconst (v := nI 1) hx hb d_M_joined_115 (by decide) ?_
                    refine lv_goto (tgt := 120) hx hb d_M_joined_116 (by decide) ?_
                    have hI809 := iv_1 hI hL (lo_k11_17 hL _ t_M) (by decide) hk789 (oc_49.mk (lo_k11_17 hL _ t_M) (⟨_, e787⟩))
                    refine pf_zast (i := v9) hx hb hK hP hD hS (lo_in hL (lo_k11_19 hL _ t_M) (by decide)) eU (lo_t51 hL _ (lo_k11_19 hL _ t_M)) (by omega) (by decide) d_M_joined_120 (fun f810 H locs e811 k812 hP hD hS => ?_)
                    have eO := (k812 (g.lk M 20) (tg_ne (lo_k11_20 hL _ t_M) (lo_k11_19 hL _ t_M) (by decide))).trans eO
                    have e1 := (k812 M (tg_ne t_M (lo_k11_19 hL _ t_M) (by decide))).trans e1
                    have e133 := (k812 (g.lk M 23) (tg_ne (lo_k11_23 hL _ t_M) (lo_k11_19 hL _ t_M) (by decide))).trans e133
                    have e495 := (k812 (g.lk M 21) (tg_ne (lo_k11_21 hL _ t_M) (lo_k11_19 hL _ t_M) (by decide))).trans e495
                    have e635 := (k812 (g.lk M 24) (tg_ne (lo_k11_24 hL _ t_M) (lo_k11_19 hL _ t_M) (by decide))).trans e635
                    have e775 := (k812 (g.lk M 22) (tg_ne (lo_k11_22 hL _ t_M) (lo_k11_19 hL _ t_M) (by decide))).trans e775
                    have e779 := (k812 (g.lk M 18) (tg_ne (lo_k11_18 hL _ t_M) (lo_k11_19 hL _ t_M) (by decide))).trans e779
                    have e787 := (k812 (g.lk M 17) (tg_ne (lo_k11_17 hL _ t_M) (lo_k11_19 hL _ t_M) (by decide))).trans e787
                    have hu := hu.st k812 (lo_k11_19 hL _ t_M) (by decide)
                    have hk813 : ∀ b, b ≠ (g.lk M 19) → f810 b = f786 b := k812
                    refine lv_iload hx hb d_M_joined_121 (lv_at hl 0 rfl) ?_
                    refine lv_if_eq (tgt := 162) hx hb d_M_joined_123 (by decide) (fun b814 => ?_) (fun b814 => ?_)
                    · skip
                      replace b814 := (nI_eq (a := 0) (b := 0) (by omega) (by omega)).mp b814
                      refine lv_iload_n hx hb d_M_joined_162 rfl (lv_at hl 1 rfl) ?_
                      refine lv_if_ne (tgt := 171) hx hb d_M_joined_163 (by decide) (fun b815 => ?_) (fun b815 => ?_)
                      · skip
                        replace b815 := mt (nI_eq (a := 1) (b := 0) (by omega) (by omega)).mpr b815
                        refine lv_iconst (v := nI 1) hx hb d_M_joined_171 (by decide) ?_
                        refine lv_goto (tgt := 176) hx hb d_M_joined_172 (by decide) ?_
                        have hI816 := iv_1 hI809 hL (lo_k11_19 hL _ t_M) (by decide) hk813 (oc_51.mk (lo_k11_19 hL _ t_M) (⟨_, e811⟩))
                        exact pe_zret hx hb hr hlocks hK hP hD hS d_M_joined_176 rfl ⟨(Or.inr rfl), ⟨_, _, e811, eO, (by have z_hU := cz_1 (x := (vp_nar .boolean ((nI 1)))) b35 (by decide) 10 hv9; first | omega | exact Nat.le_refl _), (fun _ w9 => by have z_hU := cz_1 (x := (vp_nar .boolean ((nI 1)))) b35 (by decide) 10 hv9; first | omega | exact absurd (by assumption) w9)⟩, hI816, hu⟩
                      · skip
                        replace b815 := (nI_eq (a := 1) (b := 0) (by omega) (by omega)).mp b815
                        exfalso; omega
                    · skip
                      replace b814 := mt (nI_eq (a := 0) (b := 0) (by omega) (by omega)).mpr b814
                      exfalso; omega
            · skip
              replace b783 := mt pl_le.mpr b783
              refine lv_iconst (v := nI 1) hx hb d_M_joined_74 (by decide) ?_
              refine lv_goto (tgt := 79) hx hb d_M_joined_75 (by decide) ?_
              refine lv_istore (lv' := [(4, .int (nI 1)), (3, .int (nI 1)), (0, .ref M), (1, .int (nI v9)), (2, .int wd)]) hx hb d_M_joined_79 hl (by decide) rfl (fun ls hl => ?_)
              refine lv_iload_n hx hb d_M_joined_81 rfl (lv_at hl 1 rfl) ?_
              refine lv_if_eq (tgt := 121) hx hb d_M_joined_82 (by decide) (fun b817 => ?_) (fun b817 => ?_)
              · skip
                replace b817 := (nI_eq (a := 1) (b := 0) (by omega) (by omega)).mp b817
                exfalso; omega
              · skip
                replace b817 := mt (nI_eq (a := 1) (b := 0) (by omega) (by omega)).mpr b817
                refine lv_aload_n hx hb d_M_joined_85 rfl (lv_at hl 2 rfl) ?_
                refine pf_get (v := .ref (g.lk M 17)) (C := "BigRunnerModel") (T := FT10) (N := 45) hx hb (hw10 hB _) (fun _ h9 => h9) hown hK hP (lo_in hL t_M (by decide)) e1 rfl 17 (by decide) (wd_964 hB _) rfl d_M_joined_86 ?_
                refine lv_iload_n hx hb d_M_joined_89 rfl (lv_at hl 3 rfl) ?_
                refine lv_aload_n hx hb d_M_joined_90 rfl (lv_at hl 2 rfl) ?_
                refine pf_get (v := .ref (g.lk M 21)) (C := "BigRunnerModel") (T := FT10) (N := 45) hx hb (hw10 hB _) (fun _ h9 => h9) hown hK hP (lo_in hL t_M (by decide)) e1 rfl 21 (by decide) (wd_968 hB _) rfl d_M_joined_91 ?_
                refine lv_iconst (v := nI 0) hx hb d_M_joined_94 (by decide) ?_
                refine pf_lald (i := 0) hx hb hK hP (lo_in hL (lo_k11_21 hL _ t_M) (by decide)) e495 (lo_t53 hL _ (lo_k11_21 hL _ t_M)) (by omega) (by decide) d_M_joined_95 ?_
                refine lv_topl (fun lv818 _ => ?_)
                refine pf_last (i := v9) hx hb hK hP hD hS (lo_in hL (lo_k11_17 hL _ t_M) (by decide)) e499 (lo_t49 hL _ (lo_k11_17 hL _ t_M)) (by omega) (by decide) d_M_joined_96 (fun f819 H locs e820 k821 hP hD hS => ?_)
                have eU := (k821 (g.lk M 19) (tg_ne (lo_k11_19 hL _ t_M) (lo_k11_17 hL _ t_M) (by decide))).trans eU
                have eO := (k821 (g.lk M 20) (tg_ne (lo_k11_20 hL _ t_M) (lo_k11_17 hL _ t_M) (by decide))).trans eO
                have e1 := (k821 M (tg_ne t_M (lo_k11_17 hL _ t_M) (by decide))).trans e1
                have e133 := (k821 (g.lk M 23) (tg_ne (lo_k11_23 hL _ t_M) (lo_k11_17 hL _ t_M) (by decide))).trans e133
                have e495 := (k821 (g.lk M 21) (tg_ne (lo_k11_21 hL _ t_M) (lo_k11_17 hL _ t_M) (by decide))).trans e495
                have e635 := (k821 (g.lk M 24) (tg_ne (lo_k11_24 hL _ t_M) (lo_k11_17 hL _ t_M) (by decide))).trans e635
                have e775 := (k821 (g.lk M 22) (tg_ne (lo_k11_22 hL _ t_M) (lo_k11_17 hL _ t_M) (by decide))).trans e775
                have e779 := (k821 (g.lk M 18) (tg_ne (lo_k11_18 hL _ t_M) (lo_k11_17 hL _ t_M) (by decide))).trans e779
                have hu := hu.st k821 (lo_k11_17 hL _ t_M) (by decide)
                have hk822 : ∀ b, b ≠ (g.lk M 17) → f819 b = f b := k821
                refine lv_aload_n hx hb d_M_joined_97 rfl (lv_at hl 2 rfl) ?_
                refine pf_get (v := .ref (g.lk M 19)) (C := "BigRunnerModel") (T := FT10) (N := 45) hx hb (hw10 hB _) (fun _ h9 => h9) hown hK hP (lo_in hL t_M (by decide)) e1 rfl 19 (by decide) (wd_966 hB _) rfl d_M_joined_98 ?_
                refine lv_iload_n hx hb d_M_joined_101 rfl (lv_at hl 3 rfl) ?_
                refine lv_aload_n hx hb d_M_joined_102 rfl (lv_at hl 2 rfl) ?_
                refine pf_get (v := .ref (g.lk M 23)) (C := "BigRunnerModel") (T := FT10) (N := 45) hx hb (hw10 hB _) (fun _ h9 => h9) hown hK hP (lo_in hL t_M (by decide)) e1 rfl 23 (by decide) (wd_970 hB _) rfl d_M_joined_103 ?_
                refine lv_iconst (v := nI 0) hx hb d_M_joined_106 (by decide) ?_
                refine pf_zald (i := 0) hx hb hK hP (lo_in hL (lo_k11_23 hL _ t_M) (by decide)) e133 (lo_t55 hL _ (lo_k11_23 hL _ t_M)) (by omega) (by decide) d_M_joined_107 ?_
                refine lv_topi (fun iv823 _ => ?_)
                refine lv_if_ne (tgt := 115) hx hb d_M_joined_108 (by decide) (fun b824 => ?_) (fun b824 => ?_)
                · skip
                  refine lv_iconst (v := nI 1) hx hb d_M_joined_115 (by decide) ?_
                  refine lv_goto (tgt := 120) hx hb d_M_joined_116 (by decide) ?_
                  have hI825 := iv_1 hI hL (lo_k11_17 hL _ t_M) (by decide) hk822 (oc_49.mk (lo_k11_17 hL _ t_M) (⟨_, e820⟩))
                  refine pf_zast (i := v9) hx hb hK hP hD hS (lo_in hL (lo_k11_19 hL _ t_M) (by decide)) eU (lo_t51 hL _ (lo_k11_19 hL _ t_M)) (by omega) (by decide) d_M_joined_120 (fun f826 H locs e827 k828 hP hD hS => ?_)
                  have eO := (k828 (g.lk M 20) (tg_ne (lo_k11_20 hL _ t_M) (lo_k11_19 hL _ t_M) (by decide))).trans eO
                  have e1 := (k828 M (tg_ne t_M (lo_k11_19 hL _ t_M) (by decide))).trans e1
                  have e133 := (k828 (g.lk M 23) (tg_ne (lo_k11_23 hL _ t_M) (lo_k11_19 hL _ t_M) (by decide))).trans e133
                  have e495 := (k828 (g.lk M 21) (tg_ne (lo_k11_21 hL _ t_M) (lo_k11_19 hL _ t_M) (by decide))).trans e495
                  have e635 := (k828 (g.lk M 24) (tg_ne (lo_k11_24 hL _ t_M) (lo_k11_19 hL _ t_M) (by decide))).trans e635
                  have e775 := (k828 (g.lk M 22) (tg_ne (lo_k11_22 hL _ t_M) (lo_k11_19 hL _ t_M) (by decide))).trans e775
                  have e779 := (k828 (g.lk M 18) (tg_ne (lo_k11_18 hL _ t_M) (lo_k11_19 hL _ t_M) (by decide))).trans e779
                  have e820 := (k828 (g.lk M 17) (tg_ne (lo_k11_17 hL _ t_M) (lo_k11_19 hL _ t_M) (by decide))).trans e820
                  have hu := hu.st k828 (lo_k11_19 hL _ t_M) (by decide)
                  have hk829 : ∀ b, b ≠ (g.lk M 19) → f826 b = f819 b := k828
                  refine lv_iload hx hb d_M_joined_121 (lv_at hl 0 rfl) ?_
                  refine lv_if_eq (tgt := 162) hx hb d_M_joined_123 (by decide) (fun b830 => ?_) (fun b830 => ?_)
                  · skip
                    replace b830 := (nI_eq (a := 1) (b := 0) (by omega) (by omega)).mp b830
                    exfalso; omega
                  · skip
                    replace b830 := mt (nI_eq (a := 1) (b := 0) (by omega) (by omega)).mpr b830
                    refine lv_aload_n hx hb d_M_joined_126 rfl (lv_at hl 2 rfl) ?_
                    refine pf_get (v := .ref (g.lk M 18)) (C := "BigRunnerModel") (T := FT10) (N := 45) hx hb (hw10 hB _) (fun _ h9 => h9) hown hK hP (lo_in hL t_M (by decide)) e1 rfl 18 (by decide) (wd_965 hB _) rfl d_M_joined_127 ?_
                    refine lv_iload_n hx hb d_M_joined_130 rfl (lv_at hl 3 rfl) ?_
                    refine lv_aload_n hx hb d_M_joined_131 rfl (lv_at hl 2 rfl) ?_
                    refine pf_get (v := .ref (g.lk M 22)) (C := "BigRunnerModel") (T := FT10) (N := 45) hx hb (hw10 hB _) (fun _ h9 => h9) hown hK hP (lo_in hL t_M (by decide)) e1 rfl 22 (by decide) (wd_969 hB _) rfl d_M_joined_132 ?_
                    refine lv_iconst (v := nI 0) hx hb d_M_joined_135 (by decide) ?_
                    refine pf_lald (i := 0) hx hb hK hP (lo_in hL (lo_k11_22 hL _ t_M) (by decide)) e775 (lo_t54 hL _ (lo_k11_22 hL _ t_M)) (by omega) (by decide) d_M_joined_136 ?_
                    refine lv_topl (fun lv831 _ => ?_)
                    have hI832 := iv_1 hI825 hL (lo_k11_19 hL _ t_M) (by decide) hk829 (oc_51.mk (lo_k11_19 hL _ t_M) (⟨_, e827⟩))
                    refine pf_last (i := v9) hx hb hK hP hD hS (lo_in hL (lo_k11_18 hL _ t_M) (by decide)) e779 (lo_t50 hL _ (lo_k11_18 hL _ t_M)) (by omega) (by decide) d_M_joined_137 (fun f833 H locs e834 k835 hP hD hS => ?_)
                    have eO := (k835 (g.lk M 20) (tg_ne (lo_k11_20 hL _ t_M) (lo_k11_18 hL _ t_M) (by decide))).trans eO
                    have e1 := (k835 M (tg_ne t_M (lo_k11_18 hL _ t_M) (by decide))).trans e1
                    have e133 := (k835 (g.lk M 23) (tg_ne (lo_k11_23 hL _ t_M) (lo_k11_18 hL _ t_M) (by decide))).trans e133
                    have e495 := (k835 (g.lk M 21) (tg_ne (lo_k11_21 hL _ t_M) (lo_k11_18 hL _ t_M) (by decide))).trans e495
                    have e635 := (k835 (g.lk M 24) (tg_ne (lo_k11_24 hL _ t_M) (lo_k11_18 hL _ t_M) (by decide))).trans e635
                    have e775 := (k835 (g.lk M 22) (tg_ne (lo_k11_22 hL _ t_M) (lo_k11_18 hL _ t_M) (by decide))).trans e775
                    have e820 := (k835 (g.lk M 17) (tg_ne (lo_k11_17 hL _ t_M) (lo_k11_18 hL _ t_M) (by decide))).trans e820
                    have e827 := (k835 (g.lk M 19) (tg_ne (lo_k11_19 hL _ t_M) (lo_k11_18 hL _ t_M) (by decide))).trans e827
                    have hu := hu.st k835 (lo_k11_18 hL _ t_M) (by decide)
                    have hk836 : ∀ b, b ≠ (g.lk M 18) → f833 b = f826 b := k835
                    refine lv_aload_n hx hb d_M_joined_138 rfl (lv_at hl 2 rfl) ?_
                    refine pf_get (v := .ref (g.lk M 20)) (C := "BigRunnerModel") (T := FT10) (N := 45) hx hb (hw10 hB _) (fun _ h9 => h9) hown hK hP (lo_in hL t_M (by decide)) e1 rfl 20 (by decide) (wd_967 hB _) rfl d_M_joined_139 ?_
                    refine lv_iload_n hx hb d_M_joined_142 rfl (lv_at hl 3 rfl) ?_
                    refine lv_aload_n hx hb d_M_joined_143 rfl (lv_at hl 2 rfl) ?_
                    refine pf_get (v := .ref (g.lk M 24)) (C := "BigRunnerModel") (T := FT10) (N := 45) hx hb (hw10 hB _) (fun _ h9 => h9) hown hK hP (lo_in hL t_M (by decide)) e1 rfl 24 (by decide) (wd_971 hB _) rfl d_M_joined_144 ?_
                    refine lv_iconst (v := nI 0) hx hb d_M_joined_147 (by decide) ?_
                    refine pf_zald (i := 0) hx hb hK hP (lo_in hL (lo_k11_24 hL _ t_M) (by decide)) e635 (lo_t56 hL _ (lo_k11_24 hL _ t_M)) (by omega) (by decide) d_M_joined_148 ?_
                    refine lv_topi (fun iv837 _ => ?_)
                    refine lv_if_ne (tgt := 156) hx hb d_M_joined_149 (by decide) (fun b838 => ?_) (fun b838 => ?_)
                    · skip
                      refine lv_iconst (v := nI 1) hx hb d_M_joined_156 (by decide) ?_
                      refine lv_goto (tgt := 161) hx hb d_M_joined_157 (by decide) ?_
                      have hI839 := iv_1 hI832 hL (lo_k11_18 hL _ t_M) (by decide) hk836 (oc_50.mk (lo_k11_18 hL _ t_M) (⟨_, e834⟩))
                      refine pf_zast (i := v9) hx hb hK hP hD hS (lo_in hL (lo_k11_20 hL _ t_M) (by decide)) eO (lo_t52 hL _ (lo_k11_20 hL _ t_M)) (by omega) (by decide) d_M_joined_161 (fun f840 H locs e841 k842 hP hD hS => ?_)
                      have e1 := (k842 M (tg_ne t_M (lo_k11_20 hL _ t_M) (by decide))).trans e1
                      have e133 := (k842 (g.lk M 23) (tg_ne (lo_k11_23 hL _ t_M) (lo_k11_20 hL _ t_M) (by decide))).trans e133
                      have e495 := (k842 (g.lk M 21) (tg_ne (lo_k11_21 hL _ t_M) (lo_k11_20 hL _ t_M) (by decide))).trans e495
                      have e635 := (k842 (g.lk M 24) (tg_ne (lo_k11_24 hL _ t_M) (lo_k11_20 hL _ t_M) (by decide))).trans e635
                      have e775 := (k842 (g.lk M 22) (tg_ne (lo_k11_22 hL _ t_M) (lo_k11_20 hL _ t_M) (by decide))).trans e775
                      have e820 := (k842 (g.lk M 17) (tg_ne (lo_k11_17 hL _ t_M) (lo_k11_20 hL _ t_M) (by decide))).trans e820
                      have e827 := (k842 (g.lk M 19) (tg_ne (lo_k11_19 hL _ t_M) (lo_k11_20 hL _ t_M) (by decide))).trans e827
                      have e834 := (k842 (g.lk M 18) (tg_ne (lo_k11_18 hL _ t_M) (lo_k11_20 hL _ t_M) (by decide))).trans e834
                      have hu := hu.st k842 (lo_k11_20 hL _ t_M) (by decide)
                      have hk843 : ∀ b, b ≠ (g.lk M 20) → f840 b = f833 b := k842
                      refine lv_iload_n hx hb d_M_joined_162 rfl (lv_at hl 1 rfl) ?_
                      refine lv_if_ne (tgt := 171) hx hb d_M_joined_163 (by decide) (fun b844 => ?_) (fun b844 => ?_)
                      · skip
                        replace b844 := mt (nI_eq (a := 1) (b := 0) (by omega) (by omega)).mpr b844
                        refine lv_iconst (v := nI 1) hx hb d_M_joined_171 (by decide) ?_
                        refine lv_goto (tgt := 176) hx hb d_M_joined_172 (by decide) ?_
                        have hI845 := iv_1 hI839 hL (lo_k11_20 hL _ t_M) (by decide) hk843 (oc_52.mk (lo_k11_20 hL _ t_M) (⟨_, e841⟩))
                        exact pe_zret hx hb hr hlocks hK hP hD hS d_M_joined_176 rfl ⟨(Or.inr rfl), ⟨_, _, e827, e841, (by have z_hU := cz_1 (x := (vp_nar .boolean ((nI 1)))) b35 (by decide) 10 hv9; have z_hO := cz_1 (x := (vp_nar .boolean ((nI 1)))) b601 (by decide) 10 hv9; first | omega | exact Nat.le_refl _), (fun _ w9 => by have z_hU := cz_1 (x := (vp_nar .boolean ((nI 1)))) b35 (by decide) 10 hv9; have z_hO := cz_1 (x := (vp_nar .boolean ((nI 1)))) b601 (by decide) 10 hv9; first | omega | exact absurd (by assumption) w9)⟩, hI845, hu⟩
                      · skip
                        replace b844 := (nI_eq (a := 1) (b := 0) (by omega) (by omega)).mp b844
                        exfalso; omega
                    · skip
                      refine lv_iload_n hx hb d_M_joined_152 rfl (lv_at hl 4 rfl) ?_
                      refine lv_if_eq (tgt := 160) hx hb d_M_joined_153 (by decide) (fun b846 => ?_) (fun b846 => ?_)
                      · skip
                        refine lv_iconst (v := nI 0) hx hb d_M_joined_160 (by decide) ?_
                        have hI847 := iv_1 hI832 hL (lo_k11_18 hL _ t_M) (by decide) hk836 (oc_50.mk (lo_k11_18 hL _ t_M) (⟨_, e834⟩))
                        refine pf_zast (i := v9) hx hb hK hP hD hS (lo_in hL (lo_k11_20 hL _ t_M) (by decide)) eO (lo_t52 hL _ (lo_k11_20 hL _ t_M)) (by omega) (by decide) d_M_joined_161 (fun f848 H locs e849 k850 hP hD hS => ?_)
                        have e1 := (k850 M (tg_ne t_M (lo_k11_20 hL _ t_M) (by decide))).trans e1
                        have e133 := (k850 (g.lk M 23) (tg_ne (lo_k11_23 hL _ t_M) (lo_k11_20 hL _ t_M) (by decide))).trans e133
                        have e495 := (k850 (g.lk M 21) (tg_ne (lo_k11_21 hL _ t_M) (lo_k11_20 hL _ t_M) (by decide))).trans e495
                        have e635 := (k850 (g.lk M 24) (tg_ne (lo_k11_24 hL _ t_M) (lo_k11_20 hL _ t_M) (by decide))).trans e635
                        have e775 := (k850 (g.lk M 22) (tg_ne (lo_k11_22 hL _ t_M) (lo_k11_20 hL _ t_M) (by decide))).trans e775
                        have e820 := (k850 (g.lk M 17) (tg_ne (lo_k11_17 hL _ t_M) (lo_k11_20 hL _ t_M) (by decide))).trans e820
                        have e827 := (k850 (g.lk M 19) (tg_ne (lo_k11_19 hL _ t_M) (lo_k11_20 hL _ t_M) (by decide))).trans e827
                        have e834 := (k850 (g.lk M 18) (tg_ne (lo_k11_18 hL _ t_M) (lo_k11_20 hL _ t_M) (by decide))).trans e834
                        have hu := hu.st k850 (lo_k11_20 hL _ t_M) (by decide)
                        have hk851 : ∀ b, b ≠ (g.lk M 20) → f848 b = f833 b := k850
                        refine lv_iload_n hx hb d_M_joined_162 rfl (lv_at hl 1 rfl) ?_
                        refine lv_if_ne (tgt := 171) hx hb d_M_joined_163 (by decide) (fun b852 => ?_) (fun b852 => ?_)
                        · skip
                          replace b852 := mt (nI_eq (a := 1) (b := 0) (by omega) (by omega)).mpr b852
                          refine lv_iconst (v := nI 1) hx hb d_M_joined_171 (by decide) ?_
                          refine lv_goto (tgt := 176) hx hb d_M_joined_172 (by decide) ?_
                          have hI853 := iv_1 hI847 hL (lo_k11_20 hL _ t_M) (by decide) hk851 (oc_52.mk (lo_k11_20 hL _ t_M) (⟨_, e849⟩))
                          exact pe_zret hx hb hr hlocks hK hP hD hS d_M_joined_176 rfl ⟨(Or.inr rfl), ⟨_, _, e827, e849, (by have z_hU := cz_1 (x := (vp_nar .boolean ((nI 1)))) b35 (by decide) 10 hv9; have z_hO := cz_0 (x := (vp_nar .boolean ((nI 0)))) b601 (by decide) 10; first | omega | exact Nat.le_refl _), (fun _ w9 => by have z_hU := cz_1 (x := (vp_nar .boolean ((nI 1)))) b35 (by decide) 10 hv9; have z_hO := cz_0 (x := (vp_nar .boolean ((nI 0)))) b601 (by decide) 10; first | omega | exact absurd (by assumption) w9)⟩, hI853, hu⟩
                        · skip
                          replace b852 := (nI_eq (a := 1) (b := 0) (by omega) (by omega)).mp b852
                          exfalso; omega
                      · skip
                        refine lv_iconst (v := nI 1) hx hb d_M_joined_156 (by decide) ?_
                        refine lv_goto (tgt := 161) hx hb d_M_joined_157 (by decide) ?_
                        have hI854 := iv_1 hI832 hL (lo_k11_18 hL _ t_M) (by decide) hk836 (oc_50.mk (lo_k11_18 hL _ t_M) (⟨_, e834⟩))
                        refine pf_zast (i := v9) hx hb hK hP hD hS (lo_in hL (lo_k11_20 hL _ t_M) (by decide)) eO (lo_t52 hL _ (lo_k11_20 hL _ t_M)) (by omega) (by decide) d_M_joined_161 (fun f855 H locs e856 k857 hP hD hS => ?_)
                        have e1 := (k857 M (tg_ne t_M (lo_k11_20 hL _ t_M) (by decide))).trans e1
                        have e133 := (k857 (g.lk M 23) (tg_ne (lo_k11_23 hL _ t_M) (lo_k11_20 hL _ t_M) (by decide))).trans e133
                        have e495 := (k857 (g.lk M 21) (tg_ne (lo_k11_21 hL _ t_M) (lo_k11_20 hL _ t_M) (by decide))).trans e495
                        have e635 := (k857 (g.lk M 24) (tg_ne (lo_k11_24 hL _ t_M) (lo_k11_20 hL _ t_M) (by decide))).trans e635
                        have e775 := (k857 (g.lk M 22) (tg_ne (lo_k11_22 hL _ t_M) (lo_k11_20 hL _ t_M) (by decide))).trans e775
                        have e820 := (k857 (g.lk M 17) (tg_ne (lo_k11_17 hL _ t_M) (lo_k11_20 hL _ t_M) (by decide))).trans e820
                        have e827 := (k857 (g.lk M 19) (tg_ne (lo_k11_19 hL _ t_M) (lo_k11_20 hL _ t_M) (by decide))).trans e827
                        have e834 := (k857 (g.lk M 18) (tg_ne (lo_k11_18 hL _ t_M) (lo_k11_20 hL _ t_M) (by decide))).trans e834
                        have hu := hu.st k857 (lo_k11_20 hL _ t_M) (by decide)
                        have hk858 : ∀ b, b ≠ (g.lk M 20) → f855 b = f833 b := k857
                        refine lv_iload_n hx hb d_M_joined_162 rfl (lv_at hl 1 rfl) ?_
                        refine lv_if_ne (tgt := 171) hx hb d_M_joined_163 (by decide) (fun b859 => ?_) (fun b859 => ?_)
                        · skip
                          replace b859 := mt (nI_eq (a := 1) (b := 0) (by omega) (by omega)).mpr b859
                          refine lv_iconst (v := nI 1) hx hb d_M_joined_171 (by decide) ?_
                          refine lv_goto (tgt := 176) hx hb d_M_joined_172 (by decide) ?_
                          have hI860 := iv_1 hI854 hL (lo_k11_20 hL _ t_M) (by decide) hk858 (oc_52.mk (lo_k11_20 hL _ t_M) (⟨_, e856⟩))
                          exact pe_zret hx hb hr hlocks hK hP hD hS d_M_joined_176 rfl ⟨(Or.inr rfl), ⟨_, _, e827, e856, (by have z_hU := cz_1 (x := (vp_nar .boolean ((nI 1)))) b35 (by decide) 10 hv9; have z_hO := cz_1 (x := (vp_nar .boolean ((nI 1)))) b601 (by decide) 10 hv9; first | omega | exact Nat.le_refl _), (fun _ w9 => by have z_hU := cz_1 (x := (vp_nar .boolean ((nI 1)))) b35 (by decide) 10 hv9; have z_hO := cz_1 (x := (vp_nar .boolean ((nI 1)))) b601 (by decide) 10 hv9; first | omega | exact absurd (by assumption) w9)⟩, hI860, hu⟩
                        · skip
                          replace b859 := (nI_eq (a := 1) (b := 0) (by omega) (by omega)).mp b859
                          exfalso; omega
                · skip
                  refine lv_iload_n hx hb d_M_joined_111 rfl (lv_at hl 4 rfl) ?_
                  refine lv_if_eq (tgt := 119) hx hb d_M_joined_112 (by decide) (fun b861 => ?_) (fun b861 => ?_)
                  · skip
                    refine lv_iconst (v := nI 0) hx hb d_M_joined_119 (by decide) ?_
                    have hI862 := iv_1 hI hL (lo_k11_17 hL _ t_M) (by decide) hk822 (oc_49.mk (lo_k11_17 hL _ t_M) (⟨_, e820⟩))
                    refine pf_zast (i := v9) hx hb hK hP hD hS (lo_in hL (lo_k11_19 hL _ t_M) (by decide)) eU (lo_t51 hL _ (lo_k11_19 hL _ t_M)) (by omega) (by decide) d_M_joined_120 (fun f863 H locs e864 k865 hP hD hS => ?_)
                    have eO := (k865 (g.lk M 20) (tg_ne (lo_k11_20 hL _ t_M) (lo_k11_19 hL _ t_M) (by decide))).trans eO
                    have e1 := (k865 M (tg_ne t_M (lo_k11_19 hL _ t_M) (by decide))).trans e1
                    have e133 := (k865 (g.lk M 23) (tg_ne (lo_k11_23 hL _ t_M) (lo_k11_19 hL _ t_M) (by decide))).trans e133
                    have e495 := (k865 (g.lk M 21) (tg_ne (lo_k11_21 hL _ t_M) (lo_k11_19 hL _ t_M) (by decide))).trans e495
                    have e635 := (k865 (g.lk M 24) (tg_ne (lo_k11_24 hL _ t_M) (lo_k11_19 hL _ t_M) (by decide))).trans e635
                    have e775 := (k865 (g.lk M 22) (tg_ne (lo_k11_22 hL _ t_M) (lo_k11_19 hL _ t_M) (by decide))).trans e775
                    have e779 := (k865 (g.lk M 18) (tg_ne (lo_k11_18 hL _ t_M) (lo_k11_19 hL _ t_M) (by decide))).trans e779
                    have e820 := (k865 (g.lk M 17) (tg_ne (lo_k11_17 hL _ t_M) (lo_k11_19 hL _ t_M) (by decide))).trans e820
                    have hu := hu.st k865 (lo_k11_19 hL _ t_M) (by decide)
                    have hk866 : ∀ b, b ≠ (g.lk M 19) → f863 b = f819 b := k865
                    refine lv_iload hx hb d_M_joined_121 (lv_at hl 0 rfl) ?_
                    refine lv_if_eq (tgt := 162) hx hb d_M_joined_123 (by decide) (fun b867 => ?_) (fun b867 => ?_)
                    · skip
                      replace b867 := (nI_eq (a := 1) (b := 0) (by omega) (by omega)).mp b867
                      exfalso; omega
                    · skip
                      replace b867 := mt (nI_eq (a := 1) (b := 0) (by omega) (by omega)).mpr b867
                      refine lv_aload_n hx hb d_M_joined_126 rfl (lv_at hl 2 rfl) ?_
                      refine pf_get (v := .ref (g.lk M 18)) (C := "BigRunnerModel") (T := FT10) (N := 45) hx hb (hw10 hB _) (fun _ h9 => h9) hown hK hP (lo_in hL t_M (by decide)) e1 rfl 18 (by decide) (wd_965 hB _) rfl d_M_joined_127 ?_
                      refine lv_iload_n hx hb d_M_joined_130 rfl (lv_at hl 3 rfl) ?_
                      refine lv_aload_n hx hb d_M_joined_131 rfl (lv_at hl 2 rfl) ?_
                      refine pf_get (v := .ref (g.lk M 22)) (C := "BigRunnerModel") (T := FT10) (N := 45) hx hb (hw10 hB _) (fun _ h9 => h9) hown hK hP (lo_in hL t_M (by decide)) e1 rfl 22 (by decide) (wd_969 hB _) rfl d_M_joined_132 ?_
                      refine lv_iconst (v := nI 0) hx hb d_M_joined_135 (by decide) ?_
                      refine pf_lald (i := 0) hx hb hK hP (lo_in hL (lo_k11_22 hL _ t_M) (by decide)) e775 (lo_t54 hL _ (lo_k11_22 hL _ t_M)) (by omega) (by decide) d_M_joined_136 ?_
                      refine lv_topl (fun lv868 _ => ?_)
                      have hI869 := iv_1 hI862 hL (lo_k11_19 hL _ t_M) (by decide) hk866 (oc_51.mk (lo_k11_19 hL _ t_M) (⟨_, e864⟩))
                      refine pf_last (i := v9) hx hb hK hP hD hS (lo_in hL (lo_k11_18 hL _ t_M) (by decide)) e779 (lo_t50 hL _ (lo_k11_18 hL _ t_M)) (by omega) (by decide) d_M_joined_137 (fun f870 H locs e871 k872 hP hD hS => ?_)
                      have eO := (k872 (g.lk M 20) (tg_ne (lo_k11_20 hL _ t_M) (lo_k11_18 hL _ t_M) (by decide))).trans eO
                      have e1 := (k872 M (tg_ne t_M (lo_k11_18 hL _ t_M) (by decide))).trans e1
                      have e133 := (k872 (g.lk M 23) (tg_ne (lo_k11_23 hL _ t_M) (lo_k11_18 hL _ t_M) (by decide))).trans e133
                      have e495 := (k872 (g.lk M 21) (tg_ne (lo_k11_21 hL _ t_M) (lo_k11_18 hL _ t_M) (by decide))).trans e495
                      have e635 := (k872 (g.lk M 24) (tg_ne (lo_k11_24 hL _ t_M) (lo_k11_18 hL _ t_M) (by decide))).trans e635
                      have e775 := (k872 (g.lk M 22) (tg_ne (lo_k11_22 hL _ t_M) (lo_k11_18 hL _ t_M) (by decide))).trans e775
                      have e820 := (k872 (g.lk M 17) (tg_ne (lo_k11_17 hL _ t_M) (lo_k11_18 hL _ t_M) (by decide))).trans e820
                      have e864 := (k872 (g.lk M 19) (tg_ne (lo_k11_19 hL _ t_M) (lo_k11_18 hL _ t_M) (by decide))).trans e864
                      have hu := hu.st k872 (lo_k11_18 hL _ t_M) (by decide)
                      have hk873 : ∀ b, b ≠ (g.lk M 18) → f870 b = f863 b := k872
                      refine lv_aload_n hx hb d_M_joined_138 rfl (lv_at hl 2 rfl) ?_
                      refine pf_get (v := .ref (g.lk M 20)) (C := "BigRunnerModel") (T := FT10) (N := 45) hx hb (hw10 hB _) (fun _ h9 => h9) hown hK hP (lo_in hL t_M (by decide)) e1 rfl 20 (by decide) (wd_967 hB _) rfl d_M_joined_139 ?_
                      refine lv_iload_n hx hb d_M_joined_142 rfl (lv_at hl 3 rfl) ?_
                      refine lv_aload_n hx hb d_M_joined_143 rfl (lv_at hl 2 rfl) ?_
                      refine pf_get (v := .ref (g.lk M 24)) (C := "BigRunnerModel") (T := FT10) (N := 45) hx hb (hw10 hB _) (fun _ h9 => h9) hown hK hP (lo_in hL t_M (by decide)) e1 rfl 24 (by decide) (wd_971 hB _) rfl d_M_joined_144 ?_
                      refine lv_iconst (v := nI 0) hx hb d_M_joined_147 (by decide) ?_
                      refine pf_zald (i := 0) hx hb hK hP (lo_in hL (lo_k11_24 hL _ t_M) (by decide)) e635 (lo_t56 hL _ (lo_k11_24 hL _ t_M)) (by omega) (by decide) d_M_joined_148 ?_
                      refine lv_topi (fun iv874 _ => ?_)
                      refine lv_if_ne (tgt := 156) hx hb d_M_joined_149 (by decide) (fun b875 => ?_) (fun b875 => ?_)
                      · skip
                        refine lv_iconst (v := nI 1) hx hb d_M_joined_156 (by decide) ?_
                        refine lv_goto (tgt := 161) hx hb d_M_joined_157 (by decide) ?_
                        have hI876 := iv_1 hI869 hL (lo_k11_18 hL _ t_M) (by decide) hk873 (oc_50.mk (lo_k11_18 hL _ t_M) (⟨_, e871⟩))
                        refine pf_zast (i := v9) hx hb hK hP hD hS (lo_in hL (lo_k11_20 hL _ t_M) (by decide)) eO (lo_t52 hL _ (lo_k11_20 hL _ t_M)) (by omega) (by decide) d_M_joined_161 (fun f877 H locs e878 k879 hP hD hS => ?_)
                        have e1 := (k879 M (tg_ne t_M (lo_k11_20 hL _ t_M) (by decide))).trans e1
                        have e133 := (k879 (g.lk M 23) (tg_ne (lo_k11_23 hL _ t_M) (lo_k11_20 hL _ t_M) (by decide))).trans e133
                        have e495 := (k879 (g.lk M 21) (tg_ne (lo_k11_21 hL _ t_M) (lo_k11_20 hL _ t_M) (by decide))).trans e495
                        have e635 := (k879 (g.lk M 24) (tg_ne (lo_k11_24 hL _ t_M) (lo_k11_20 hL _ t_M) (by decide))).trans e635
                        have e775 := (k879 (g.lk M 22) (tg_ne (lo_k11_22 hL _ t_M) (lo_k11_20 hL _ t_M) (by decide))).trans e775
                        have e820 := (k879 (g.lk M 17) (tg_ne (lo_k11_17 hL _ t_M) (lo_k11_20 hL _ t_M) (by decide))).trans e820
                        have e864 := (k879 (g.lk M 19) (tg_ne (lo_k11_19 hL _ t_M) (lo_k11_20 hL _ t_M) (by decide))).trans e864
                        have e871 := (k879 (g.lk M 18) (tg_ne (lo_k11_18 hL _ t_M) (lo_k11_20 hL _ t_M) (by decide))).trans e871
                        have hu := hu.st k879 (lo_k11_20 hL _ t_M) (by decide)
                        have hk880 : ∀ b, b ≠ (g.lk M 20) → f877 b = f870 b := k879
                        refine lv_iload_n hx hb d_M_joined_162 rfl (lv_at hl 1 rfl) ?_
                        refine lv_if_ne (tgt := 171) hx hb d_M_joined_163 (by decide) (fun b881 => ?_) (fun b881 => ?_)
                        · skip
                          replace b881 := mt (nI_eq (a := 1) (b := 0) (by omega) (by omega)).mpr b881
                          refine lv_iconst (v := nI 1) hx hb d_M_joined_171 (by decide) ?_
                          refine lv_goto (tgt := 176) hx hb d_M_joined_172 (by decide) ?_
                          have hI882 := iv_1 hI876 hL (lo_k11_20 hL _ t_M) (by decide) hk880 (oc_52.mk (lo_k11_20 hL _ t_M) (⟨_, e878⟩))
                          exact pe_zret hx hb hr hlocks hK hP hD hS d_M_joined_176 rfl ⟨(Or.inr rfl), ⟨_, _, e864, e878, (by have z_hU := cz_0 (x := (vp_nar .boolean ((nI 0)))) b35 (by decide) 10; have z_hO := cz_1 (x := (vp_nar .boolean ((nI 1)))) b601 (by decide) 10 hv9; first | omega | exact Nat.le_refl _), (fun _ w9 => by have z_hU := cz_0 (x := (vp_nar .boolean ((nI 0)))) b35 (by decide) 10; have z_hO := cz_1 (x := (vp_nar .boolean ((nI 1)))) b601 (by decide) 10 hv9; first | omega | exact absurd (by assumption) w9)⟩, hI882, hu⟩
                        · skip
                          replace b881 := (nI_eq (a := 1) (b := 0) (by omega) (by omega)).mp b881
                          exfalso; omega
                      · skip
                        refine lv_iload_n hx hb d_M_joined_152 rfl (lv_at hl 4 rfl) ?_
                        refine lv_if_eq (tgt := 160) hx hb d_M_joined_153 (by decide) (fun b883 => ?_) (fun b883 => ?_)
                        · skip
                          refine lv_iconst (v := nI 0) hx hb d_M_joined_160 (by decide) ?_
                          have hI884 := iv_1 hI869 hL (lo_k11_18 hL _ t_M) (by decide) hk873 (oc_50.mk (lo_k11_18 hL _ t_M) (⟨_, e871⟩))
                          refine pf_zast (i := v9) hx hb hK hP hD hS (lo_in hL (lo_k11_20 hL _ t_M) (by decide)) eO (lo_t52 hL _ (lo_k11_20 hL _ t_M)) (by omega) (by decide) d_M_joined_161 (fun f885 H locs e886 k887 hP hD hS => ?_)
                          have e1 := (k887 M (tg_ne t_M (lo_k11_20 hL _ t_M) (by decide))).trans e1
                          have e133 := (k887 (g.lk M 23) (tg_ne (lo_k11_23 hL _ t_M) (lo_k11_20 hL _ t_M) (by decide))).trans e133
                          have e495 := (k887 (g.lk M 21) (tg_ne (lo_k11_21 hL _ t_M) (lo_k11_20 hL _ t_M) (by decide))).trans e495
                          have e635 := (k887 (g.lk M 24) (tg_ne (lo_k11_24 hL _ t_M) (lo_k11_20 hL _ t_M) (by decide))).trans e635
                          have e775 := (k887 (g.lk M 22) (tg_ne (lo_k11_22 hL _ t_M) (lo_k11_20 hL _ t_M) (by decide))).trans e775
                          have e820 := (k887 (g.lk M 17) (tg_ne (lo_k11_17 hL _ t_M) (lo_k11_20 hL _ t_M) (by decide))).trans e820
                          have e864 := (k887 (g.lk M 19) (tg_ne (lo_k11_19 hL _ t_M) (lo_k11_20 hL _ t_M) (by decide))).trans e864
                          have e871 := (k887 (g.lk M 18) (tg_ne (lo_k11_18 hL _ t_M) (lo_k11_20 hL _ t_M) (by decide))).trans e871
                          have hu := hu.st k887 (lo_k11_20 hL _ t_M) (by decide)
                          have hk888 : ∀ b, b ≠ (g.lk M 20) → f885 b = f870 b := k887
                          refine lv_iload_n hx hb d_M_joined_162 rfl (lv_at hl 1 rfl) ?_
                          refine lv_if_ne (tgt := 171) hx hb d_M_joined_163 (by decide) (fun b889 => ?_) (fun b889 => ?_)
                          · skip
                            replace b889 := mt (nI_eq (a := 1) (b := 0) (by omega) (by omega)).mpr b889
                            refine lv_iconst (v := nI 1) hx hb d_M_joined_171 (by decide) ?_
                            refine lv_goto (tgt := 176) hx hb d_M_joined_172 (by decide) ?_
                            have hI890 := iv_1 hI884 hL (lo_k11_20 hL _ t_M) (by decide) hk888 (oc_52.mk (lo_k11_20 hL _ t_M) (⟨_, e886⟩))
                            exact pe_zret hx hb hr hlocks hK hP hD hS d_M_joined_176 rfl ⟨(Or.inr rfl), ⟨_, _, e864, e886, (by have z_hU := cz_0 (x := (vp_nar .boolean ((nI 0)))) b35 (by decide) 10; have z_hO := cz_0 (x := (vp_nar .boolean ((nI 0)))) b601 (by decide) 10; first | omega | exact Nat.le_refl _), (fun _ w9 => by have z_hU := cz_0 (x := (vp_nar .boolean ((nI 0)))) b35 (by decide) 10; have z_hO := cz_0 (x := (vp_nar .boolean ((nI 0)))) b601 (by decide) 10; first | omega | exact absurd (by assumption) w9)⟩, hI890, hu⟩
                          · skip
                            replace b889 := (nI_eq (a := 1) (b := 0) (by omega) (by omega)).mp b889
                            exfalso; omega
                        · skip
                          refine lv_iconst (v := nI 1) hx hb d_M_joined_156 (by decide) ?_
                          refine lv_goto (tgt := 161) hx hb d_M_joined_157 (by decide) ?_
                          have hI891 := iv_1 hI869 hL (lo_k11_18 hL _ t_M) (by decide) hk873 (oc_50.mk (lo_k11_18 hL _ t_M) (⟨_, e871⟩))
                          refine pf_zast (i := v9) hx hb hK hP hD hS (lo_in hL (lo_k11_20 hL _ t_M) (by decide)) eO (lo_t52 hL _ (lo_k11_20 hL _ t_M)) (by omega) (by decide) d_M_joined_161 (fun f892 H locs e893 k894 hP hD hS => ?_)
                          have e1 := (k894 M (tg_ne t_M (lo_k11_20 hL _ t_M) (by decide))).trans e1
                          have e133 := (k894 (g.lk M 23) (tg_ne (lo_k11_23 hL _ t_M) (lo_k11_20 hL _ t_M) (by decide))).trans e133
                          have e495 := (k894 (g.lk M 21) (tg_ne (lo_k11_21 hL _ t_M) (lo_k11_20 hL _ t_M) (by decide))).trans e495
                          have e635 := (k894 (g.lk M 24) (tg_ne (lo_k11_24 hL _ t_M) (lo_k11_20 hL _ t_M) (by decide))).trans e635
                          have e775 := (k894 (g.lk M 22) (tg_ne (lo_k11_22 hL _ t_M) (lo_k11_20 hL _ t_M) (by decide))).trans e775
                          have e820 := (k894 (g.lk M 17) (tg_ne (lo_k11_17 hL _ t_M) (lo_k11_20 hL _ t_M) (by decide))).trans e820
                          have e864 := (k894 (g.lk M 19) (tg_ne (lo_k11_19 hL _ t_M) (lo_k11_20 hL _ t_M) (by decide))).trans e864
                          have e871 := (k894 (g.lk M 18) (tg_ne (lo_k11_18 hL _ t_M) (lo_k11_20 hL _ t_M) (by decide))).trans e871
                          have hu := hu.st k894 (lo_k11_20 hL _ t_M) (by decide)
                          have hk895 : ∀ b, b ≠ (g.lk M 20) → f892 b = f870 b := k894
                          refine lv_iload_n hx hb d_M_joined_162 rfl (lv_at hl 1 rfl) ?_
                          refine lv_if_ne (tgt := 171) hx hb d_M_joined_163 (by decide) (fun b896 => ?_) (fun b896 => ?_)
                          · skip
                            replace b896 := mt (nI_eq (a := 1) (b := 0) (by omega) (by omega)).mpr b896
                            refine lv_iconst (v := nI 1) hx hb d_M_joined_171 (by decide) ?_
                            refine lv_goto (tgt := 176) hx hb d_M_joined_172 (by decide) ?_
                            have hI897 := iv_1 hI891 hL (lo_k11_20 hL _ t_M) (by decide) hk895 (oc_52.mk (lo_k11_20 hL _ t_M) (⟨_, e893⟩))
                            exact pe_zret hx hb hr hlocks hK hP hD hS d_M_joined_176 rfl ⟨(Or.inr rfl), ⟨_, _, e864, e893, (by have z_hU := cz_0 (x := (vp_nar .boolean ((nI 0)))) b35 (by decide) 10; have z_hO := cz_1 (x := (vp_nar .boolean ((nI 1)))) b601 (by decide) 10 hv9; first | omega | exact Nat.le_refl _), (fun _ w9 => by have z_hU := cz_0 (x := (vp_nar .boolean ((nI 0)))) b35 (by decide) 10; have z_hO := cz_1 (x := (vp_nar .boolean ((nI 1)))) b601 (by decide) 10 hv9; first | omega | exact absurd (by assumption) w9)⟩, hI897, hu⟩
                          · skip
                            replace b896 := (nI_eq (a := 1) (b := 0) (by omega) (by omega)).mp b896
                            exfalso; omega
                  · skip
                    refine lv_iconst (v := nI 1) hx hb d_M_joined_115 (by decide) ?_
                    refine lv_goto (tgt := 120) hx hb d_M_joined_116 (by decide) ?_
                    have hI898 := iv_1 hI hL (lo_k11_17 hL _ t_M) (by decide) hk822 (oc_49.mk (lo_k11_17 hL _ t_M) (⟨_, e820⟩))
                    refine pf_zast (i := v9) hx hb hK hP hD hS (lo_in hL (lo_k11_19 hL _ t_M) (by decide)) eU (lo_t51 hL _ (lo_k11_19 hL _ t_M)) (by omega) (by decide) d_M_joined_120 (fun f899 H locs e900 k901 hP hD hS => ?_)
                    have eO := (k901 (g.lk M 20) (tg_ne (lo_k11_20 hL _ t_M) (lo_k11_19 hL _ t_M) (by decide))).trans eO
                    have e1 := (k901 M (tg_ne t_M (lo_k11_19 hL _ t_M) (by decide))).trans e1
                    have e133 := (k901 (g.lk M 23) (tg_ne (lo_k11_23 hL _ t_M) (lo_k11_19 hL _ t_M) (by decide))).trans e133
                    have e495 := (k901 (g.lk M 21) (tg_ne (lo_k11_21 hL _ t_M) (lo_k11_19 hL _ t_M) (by decide))).trans e495
                    have e635 := (k901 (g.lk M 24) (tg_ne (lo_k11_24 hL _ t_M) (lo_k11_19 hL _ t_M) (by decide))).trans e635
                    have e775 := (k901 (g.lk M 22) (tg_ne (lo_k11_22 hL _ t_M) (lo_k11_19 hL _ t_M) (by decide))).trans e775
                    have e779 := (k901 (g.lk M 18) (tg_ne (lo_k11_18 hL _ t_M) (lo_k11_19 hL _ t_M) (by decide))).trans e779
                    have e820 := (k901 (g.lk M 17) (tg_ne (lo_k11_17 hL _ t_M) (lo_k11_19 hL _ t_M) (by decide))).trans e820
                    have hu := hu.st k901 (lo_k11_19 hL _ t_M) (by decide)
                    have hk902 : ∀ b, b ≠ (g.lk M 19) → f899 b = f819 b := k901
                    refine lv_iload hx hb d_M_joined_121 (lv_at hl 0 rfl) ?_
                    refine lv_if_eq (tgt := 162) hx hb d_M_joined_123 (by decide) (fun b903 => ?_) (fun b903 => ?_)
                    · skip
                      replace b903 := (nI_eq (a := 1) (b := 0) (by omega) (by omega)).mp b903
                      exfalso; omega
                    · skip
                      replace b903 := mt (nI_eq (a := 1) (b := 0) (by omega) (by omega)).mpr b903
                      refine lv_aload_n hx hb d_M_joined_126 rfl (lv_at hl 2 rfl) ?_
                      refine pf_get (v := .ref (g.lk M 18)) (C := "BigRunnerModel") (T := FT10) (N := 45) hx hb (hw10 hB _) (fun _ h9 => h9) hown hK hP (lo_in hL t_M (by decide)) e1 rfl 18 (by decide) (wd_965 hB _) rfl d_M_joined_127 ?_
                      refine lv_iload_n hx hb d_M_joined_130 rfl (lv_at hl 3 rfl) ?_
                      refine lv_aload_n hx hb d_M_joined_131 rfl (lv_at hl 2 rfl) ?_
                      refine pf_get (v := .ref (g.lk M 22)) (C := "BigRunnerModel") (T := FT10) (N := 45) hx hb (hw10 hB _) (fun _ h9 => h9) hown hK hP (lo_in hL t_M (by decide)) e1 rfl 22 (by decide) (wd_969 hB _) rfl d_M_joined_132 ?_
                      refine lv_iconst (v := nI 0) hx hb d_M_joined_135 (by decide) ?_
                      refine pf_lald (i := 0) hx hb hK hP (lo_in hL (lo_k11_22 hL _ t_M) (by decide)) e775 (lo_t54 hL _ (lo_k11_22 hL _ t_M)) (by omega) (by decide) d_M_joined_136 ?_
                      refine lv_topl (fun lv904 _ => ?_)
                      have hI905 := iv_1 hI898 hL (lo_k11_19 hL _ t_M) (by decide) hk902 (oc_51.mk (lo_k11_19 hL _ t_M) (⟨_, e900⟩))
                      refine pf_last (i := v9) hx hb hK hP hD hS (lo_in hL (lo_k11_18 hL _ t_M) (by decide)) e779 (lo_t50 hL _ (lo_k11_18 hL _ t_M)) (by omega) (by decide) d_M_joined_137 (fun f906 H locs e907 k908 hP hD hS => ?_)
                      have eO := (k908 (g.lk M 20) (tg_ne (lo_k11_20 hL _ t_M) (lo_k11_18 hL _ t_M) (by decide))).trans eO
                      have e1 := (k908 M (tg_ne t_M (lo_k11_18 hL _ t_M) (by decide))).trans e1
                      have e133 := (k908 (g.lk M 23) (tg_ne (lo_k11_23 hL _ t_M) (lo_k11_18 hL _ t_M) (by decide))).trans e133
                      have e495 := (k908 (g.lk M 21) (tg_ne (lo_k11_21 hL _ t_M) (lo_k11_18 hL _ t_M) (by decide))).trans e495
                      have e635 := (k908 (g.lk M 24) (tg_ne (lo_k11_24 hL _ t_M) (lo_k11_18 hL _ t_M) (by decide))).trans e635
                      have e775 := (k908 (g.lk M 22) (tg_ne (lo_k11_22 hL _ t_M) (lo_k11_18 hL _ t_M) (by decide))).trans e775
                      have e820 := (k908 (g.lk M 17) (tg_ne (lo_k11_17 hL _ t_M) (lo_k11_18 hL _ t_M) (by decide))).trans e820
                      have e900 := (k908 (g.lk M 19) (tg_ne (lo_k11_19 hL _ t_M) (lo_k11_18 hL _ t_M) (by decide))).trans e900
                      have hu := hu.st k908 (lo_k11_18 hL _ t_M) (by decide)
                      have hk909 : ∀ b, b ≠ (g.lk M 18) → f906 b = f899 b := k908
                      refine lv_aload_n hx hb d_M_joined_138 rfl (lv_at hl 2 rfl) ?_
                      refine pf_get (v := .ref (g.lk M 20)) (C := "BigRunnerModel") (T := FT10) (N := 45) hx hb (hw10 hB _) (fun _ h9 => h9) hown hK hP (lo_in hL t_M (by decide)) e1 rfl 20 (by decide) (wd_967 hB _) rfl d_M_joined_139 ?_
                      refine lv_iload_n hx hb d_M_joined_142 rfl (lv_at hl 3 rfl) ?_
                      refine lv_aload_n hx hb d_M_joined_143 rfl (lv_at hl 2 rfl) ?_
                      refine pf_get (v := .ref (g.lk M 24)) (C := "BigRunnerModel") (T := FT10) (N := 45) hx hb (hw10 hB _) (fun _ h9 => h9) hown hK hP (lo_in hL t_M (by decide)) e1 rfl 24 (by decide) (wd_971 hB _) rfl d_M_joined_144 ?_
                      refine lv_iconst (v := nI 0) hx hb d_M_joined_147 (by decide) ?_
                      refine pf_zald (i := 0) hx hb hK hP (lo_in hL (lo_k11_24 hL _ t_M) (by decide)) e635 (lo_t56 hL _ (lo_k11_24 hL _ t_M)) (by omega) (by decide) d_M_joined_148 ?_
                      refine lv_topi (fun iv910 _ => ?_)
                      refine lv_if_ne (tgt := 156) hx hb d_M_joined_149 (by decide) (fun b911 => ?_) (fun b911 => ?_)
                      · skip
                        refine lv_iconst (v := nI 1) hx hb d_M_joined_156 (by decide) ?_
                        refine lv_goto (tgt := 161) hx hb d_M_joined_157 (by decide) ?_
                        have hI912 := iv_1 hI905 hL (lo_k11_18 hL _ t_M) (by decide) hk909 (oc_50.mk (lo_k11_18 hL _ t_M) (⟨_, e907⟩))
                        refine pf_zast (i := v9) hx hb hK hP hD hS (lo_in hL (lo_k11_20 hL _ t_M) (by decide)) eO (lo_t52 hL _ (lo_k11_20 hL _ t_M)) (by omega) (by decide) d_M_joined_161 (fun f913 H locs e914 k915 hP hD hS => ?_)
                        have e1 := (k915 M (tg_ne t_M (lo_k11_20 hL _ t_M) (by decide))).trans e1
                        have e133 := (k915 (g.lk M 23) (tg_ne (lo_k11_23 hL _ t_M) (lo_k11_20 hL _ t_M) (by decide))).trans e133
                        have e495 := (k915 (g.lk M 21) (tg_ne (lo_k11_21 hL _ t_M) (lo_k11_20 hL _ t_M) (by decide))).trans e495
                        have e635 := (k915 (g.lk M 24) (tg_ne (lo_k11_24 hL _ t_M) (lo_k11_20 hL _ t_M) (by decide))).trans e635
                        have e775 := (k915 (g.lk M 22) (tg_ne (lo_k11_22 hL _ t_M) (lo_k11_20 hL _ t_M) (by decide))).trans e775
                        have e820 := (k915 (g.lk M 17) (tg_ne (lo_k11_17 hL _ t_M) (lo_k11_20 hL _ t_M) (by decide))).trans e820
                        have e900 := (k915 (g.lk M 19) (tg_ne (lo_k11_19 hL _ t_M) (lo_k11_20 hL _ t_M) (by decide))).trans e900
                        have e907 := (k915 (g.lk M 18) (tg_ne (lo_k11_18 hL _ t_M) (lo_k11_20 hL _ t_M) (by decide))).trans e907
                        have hu := hu.st k915 (lo_k11_20 hL _ t_M) (by decide)
                        have hk916 : ∀ b, b ≠ (g.lk M 20) → f913 b = f906 b := k915
                        refine lv_iload_n hx hb d_M_joined_162 rfl (lv_at hl 1 rfl) ?_
                        refine lv_if_ne (tgt := 171) hx hb d_M_joined_163 (by decide) (fun b917 => ?_) (fun b917 => ?_)
                        · skip
                          replace b917 := mt (nI_eq (a := 1) (b := 0) (by omega) (by omega)).mpr b917
                          refine lv_iconst (v := nI 1) hx hb d_M_joined_171 (by decide) ?_
                          refine lv_goto (tgt := 176) hx hb d_M_joined_172 (by decide) ?_
                          have hI918 := iv_1 hI912 hL (lo_k11_20 hL _ t_M) (by decide) hk916 (oc_52.mk (lo_k11_20 hL _ t_M) (⟨_, e914⟩))
                          exact pe_zret hx hb hr hlocks hK hP hD hS d_M_joined_176 rfl ⟨(Or.inr rfl), ⟨_, _, e900, e914, (by have z_hU := cz_1 (x := (vp_nar .boolean ((nI 1)))) b35 (by decide) 10 hv9; have z_hO := cz_1 (x := (vp_nar .boolean ((nI 1)))) b601 (by decide) 10 hv9; first | omega | exact Nat.le_refl _), (fun _ w9 => by have z_hU := cz_1 (x := (vp_nar .boolean ((nI 1)))) b35 (by decide) 10 hv9; have z_hO := cz_1 (x := (vp_nar .boolean ((nI 1)))) b601 (by decide) 10 hv9; first | omega | exact absurd (by assumption) w9)⟩, hI918, hu⟩
                        · skip
                          replace b917 := (nI_eq (a := 1) (b := 0) (by omega) (by omega)).mp b917
                          exfalso; omega
                      · skip
                        refine lv_iload_n hx hb d_M_joined_152 rfl (lv_at hl 4 rfl) ?_
                        refine lv_if_eq (tgt := 160) hx hb d_M_joined_153 (by decide) (fun b919 => ?_) (fun b919 => ?_)
                        · skip
                          refine lv_iconst (v := nI 0) hx hb d_M_joined_160 (by decide) ?_
                          have hI920 := iv_1 hI905 hL (lo_k11_18 hL _ t_M) (by decide) hk909 (oc_50.mk (lo_k11_18 hL _ t_M) (⟨_, e907⟩))
                          refine pf_zast (i := v9) hx hb hK hP hD hS (lo_in hL (lo_k11_20 hL _ t_M) (by decide)) eO (lo_t52 hL _ (lo_k11_20 hL _ t_M)) (by omega) (by decide) d_M_joined_161 (fun f921 H locs e922 k923 hP hD hS => ?_)
                          have e1 := (k923 M (tg_ne t_M (lo_k11_20 hL _ t_M) (by decide))).trans e1
                          have e133 := (k923 (g.lk M 23) (tg_ne (lo_k11_23 hL _ t_M) (lo_k11_20 hL _ t_M) (by decide))).trans e133
                          have e495 := (k923 (g.lk M 21) (tg_ne (lo_k11_21 hL _ t_M) (lo_k11_20 hL _ t_M) (by decide))).trans e495
                          have e635 := (k923 (g.lk M 24) (tg_ne (lo_k11_24 hL _ t_M) (lo_k11_20 hL _ t_M) (by decide))).trans e635
                          have e775 := (k923 (g.lk M 22) (tg_ne (lo_k11_22 hL _ t_M) (lo_k11_20 hL _ t_M) (by decide))).trans e775
                          have e820 := (k923 (g.lk M 17) (tg_ne (lo_k11_17 hL _ t_M) (lo_k11_20 hL _ t_M) (by decide))).trans e820
                          have e900 := (k923 (g.lk M 19) (tg_ne (lo_k11_19 hL _ t_M) (lo_k11_20 hL _ t_M) (by decide))).trans e900
                          have e907 := (k923 (g.lk M 18) (tg_ne (lo_k11_18 hL _ t_M) (lo_k11_20 hL _ t_M) (by decide))).trans e907
                          have hu := hu.st k923 (lo_k11_20 hL _ t_M) (by decide)
                          have hk924 : ∀ b, b ≠ (g.lk M 20) → f921 b = f906 b := k923
                          refine lv_iload_n hx hb d_M_joined_162 rfl (lv_at hl 1 rfl) ?_
                          refine lv_if_ne (tgt := 171) hx hb d_M_joined_163 (by decide) (fun b925 => ?_) (fun b925 => ?_)
                          · skip
                            replace b925 := mt (nI_eq (a := 1) (b := 0) (by omega) (by omega)).mpr b925
                            refine lv_iconst (v := nI 1) hx hb d_M_joined_171 (by decide) ?_
                            refine lv_goto (tgt := 176) hx hb d_M_joined_172 (by decide) ?_
                            have hI926 := iv_1 hI920 hL (lo_k11_20 hL _ t_M) (by decide) hk924 (oc_52.mk (lo_k11_20 hL _ t_M) (⟨_, e922⟩))
                            exact pe_zret hx hb hr hlocks hK hP hD hS d_M_joined_176 rfl ⟨(Or.inr rfl), ⟨_, _, e900, e922, (by have z_hU := cz_1 (x := (vp_nar .boolean ((nI 1)))) b35 (by decide) 10 hv9; have z_hO := cz_0 (x := (vp_nar .boolean ((nI 0)))) b601 (by decide) 10; first | omega | exact Nat.le_refl _), (fun _ w9 => by have z_hU := cz_1 (x := (vp_nar .boolean ((nI 1)))) b35 (by decide) 10 hv9; have z_hO := cz_0 (x := (vp_nar .boolean ((nI 0)))) b601 (by decide) 10; first | omega | exact absurd (by assumption) w9)⟩, hI926, hu⟩
                          · skip
                            replace b925 := (nI_eq (a := 1) (b := 0) (by omega) (by omega)).mp b925
                            exfalso; omega
                        · skip
                          refine lv_iconst (v := nI 1) hx hb d_M_joined_156 (by decide) ?_
                          refine lv_goto (tgt := 161) hx hb d_M_joined_157 (by decide) ?_
                          have hI927 := iv_1 hI905 hL (lo_k11_18 hL _ t_M) (by decide) hk909 (oc_50.mk (lo_k11_18 hL _ t_M) (⟨_, e907⟩))
                          refine pf_zast (i := v9) hx hb hK hP hD hS (lo_in hL (lo_k11_20 hL _ t_M) (by decide)) eO (lo_t52 hL _ (lo_k11_20 hL _ t_M)) (by omega) (by decide) d_M_joined_161 (fun f928 H locs e929 k930 hP hD hS => ?_)
                          have e1 := (k930 M (tg_ne t_M (lo_k11_20 hL _ t_M) (by decide))).trans e1
                          have e133 := (k930 (g.lk M 23) (tg_ne (lo_k11_23 hL _ t_M) (lo_k11_20 hL _ t_M) (by decide))).trans e133
                          have e495 := (k930 (g.lk M 21) (tg_ne (lo_k11_21 hL _ t_M) (lo_k11_20 hL _ t_M) (by decide))).trans e495
                          have e635 := (k930 (g.lk M 24) (tg_ne (lo_k11_24 hL _ t_M) (lo_k11_20 hL _ t_M) (by decide))).trans e635
                          have e775 := (k930 (g.lk M 22) (tg_ne (lo_k11_22 hL _ t_M) (lo_k11_20 hL _ t_M) (by decide))).trans e775
                          have e820 := (k930 (g.lk M 17) (tg_ne (lo_k11_17 hL _ t_M) (lo_k11_20 hL _ t_M) (by decide))).trans e820
                          have e900 := (k930 (g.lk M 19) (tg_ne (lo_k11_19 hL _ t_M) (lo_k11_20 hL _ t_M) (by decide))).trans e900
                          have e907 := (k930 (g.lk M 18) (tg_ne (lo_k11_18 hL _ t_M) (lo_k11_20 hL _ t_M) (by decide))).trans e907
                          have hu := hu.st k930 (lo_k11_20 hL _ t_M) (by decide)
                          have hk931 : ∀ b, b ≠ (g.lk M 20) → f928 b = f906 b := k930
                          refine lv_iload_n hx hb d_M_joined_162 rfl (lv_at hl 1 rfl) ?_
                          refine lv_if_ne (tgt := 171) hx hb d_M_joined_163 (by decide) (fun b932 => ?_) (fun b932 => ?_)
                          · skip
                            replace b932 := mt (nI_eq (a := 1) (b := 0) (by omega) (by omega)).mpr b932
                            refine lv_iconst (v := nI 1) hx hb d_M_joined_171 (by decide) ?_
                            refine lv_goto (tgt := 176) hx hb d_M_joined_172 (by decide) ?_
                            have hI933 := iv_1 hI927 hL (lo_k11_20 hL _ t_M) (by decide) hk931 (oc_52.mk (lo_k11_20 hL _ t_M) (⟨_, e929⟩))
                            exact pe_zret hx hb hr hlocks hK hP hD hS d_M_joined_176 rfl ⟨(Or.inr rfl), ⟨_, _, e900, e929, (by have z_hU := cz_1 (x := (vp_nar .boolean ((nI 1)))) b35 (by decide) 10 hv9; have z_hO := cz_1 (x := (vp_nar .boolean ((nI 1)))) b601 (by decide) 10 hv9; first | omega | exact Nat.le_refl _), (fun _ w9 => by have z_hU := cz_1 (x := (vp_nar .boolean ((nI 1)))) b35 (by decide) 10 hv9; have z_hO := cz_1 (x := (vp_nar .boolean ((nI 1)))) b601 (by decide) 10 hv9; first | omega | exact absurd (by assumption) w9)⟩, hI933, hu⟩
                          · skip
                            replace b932 := (nI_eq (a := 1) (b := 0) (by omega) (by omega)).mp b932
                            exfalso; omega
