theorem ms_ne {v : Int64} (h : ¬ v = nL 0) : ¬ mS v = 0 := fun q => by
  unfold mS at q
  by_cases z : v < nL 0
  · rw [if_pos z] at q; exact ng_ne h q
  · rw [if_neg z] at q; exact h q
set_option maxHeartbeats 4000000 in
set_option maxRecDepth 100000 in
theorem m2_less (l : Launch) (g : Lay) (sz : Nat) (f : Nat → va_E) (u : Int64) (v : Int64) (hL : LO g) (hI : OC g f) : Met l ⟨"BigRunnerModel", "less", "(JJ)J"⟩ [Cond.code ⟨"BigRunnerModel", "less", "(JJ)J"⟩ prog_12_method_16_code 4 (some .long)] ({ frames := 0, cells := 0, slots := 0, locals := 0 }) (va_Pc [.long u, .long v] (pc_in g sz f)) (va_Ql (fun r f1 => (r = mless u v) ∧ (f = f1)) (pc_out g sz) (pc_A g sz)) 0 0 (pc_A g sz) := by
  refine pe_ofW (cc := prog_12_method_16_code) (maxL := 4) (ret := (some .long)) (lv := [(0, .long u), (2, .long v)]) (by decide) (Nat.le_of_ble_eq_true rfl) rfl ?_
  intro p e s m args below meth c ls hx hb hr hml hlocks hown hB hP hK hD hsz hS hl
  subst hsz
  refine lv_lload_n hx hb d_M_less_0 rfl (lv_at hl 0 rfl) ?_
  refine lv_lload_n hx hb d_M_less_1 rfl (lv_at hl 1 rfl) ?_
  refine W.lcmp hx hb d_M_less_2 ?_
  refine lv_if_ge (tgt := 10) hx hb d_M_less_3 (by decide) (fun b1 => ?_) (fun b1 => ?_)
  · skip
    replace b1 := pl_ge.mp b1
    replace b1 := Int64.not_lt.mpr b1
    refine lv_lload_n hx hb d_M_less_10 rfl (lv_at hl 1 rfl) ?_
    exact pe_lret hx hb hr hlocks hK hP hD hS d_M_less_11 ⟨(by first | (simp [mless, b1]; done) | contradiction), rfl⟩
  · skip
    replace b1 := mt pl_ge.mpr b1
    replace b1 := Int64.not_le.mp b1
    refine lv_lload_n hx hb d_M_less_6 rfl (lv_at hl 0 rfl) ?_
    refine lv_goto (tgt := 11) hx hb d_M_less_7 (by decide) ?_
    exact pe_lret hx hb hr hlocks hK hP hD hS d_M_less_11 ⟨(by first | (simp [mless, b1]; done) | contradiction), rfl⟩
set_option maxHeartbeats 4000000 in
set_option maxRecDepth 100000 in
theorem m2_more (l : Launch) (g : Lay) (sz : Nat) (f : Nat → va_E) (u : Int64) (v : Int64) (hL : LO g) (hI : OC g f) : Met l ⟨"BigRunnerModel", "more", "(JJ)J"⟩ [Cond.code ⟨"BigRunnerModel", "more", "(JJ)J"⟩ prog_12_method_17_code 4 (some .long)] ({ frames := 0, cells := 0, slots := 0, locals := 0 }) (va_Pc [.long u, .long v] (pc_in g sz f)) (va_Ql (fun r f1 => (r = mmore u v) ∧ (f = f1)) (pc_out g sz) (pc_A g sz)) 0 0 (pc_A g sz) := by
  refine pe_ofW (cc := prog_12_method_17_code) (maxL := 4) (ret := (some .long)) (lv := [(0, .long u), (2, .long v)]) (by decide) (Nat.le_of_ble_eq_true rfl) rfl ?_
  intro p e s m args below meth c ls hx hb hr hml hlocks hown hB hP hK hD hsz hS hl
  subst hsz
  refine lv_lload_n hx hb d_M_more_0 rfl (lv_at hl 0 rfl) ?_
  refine lv_lload_n hx hb d_M_more_1 rfl (lv_at hl 1 rfl) ?_
  refine W.lcmp hx hb d_M_more_2 ?_
  refine lv_if_le (tgt := 10) hx hb d_M_more_3 (by decide) (fun b1 => ?_) (fun b1 => ?_)
  · skip
    replace b1 := pl_le.mp b1
    replace b1 := Int64.not_lt.mpr b1
    refine lv_lload_n hx hb d_M_more_10 rfl (lv_at hl 1 rfl) ?_
    exact pe_lret hx hb hr hlocks hK hP hD hS d_M_more_11 ⟨(by first | (simp [mmore, b1]; done) | contradiction), rfl⟩
  · skip
    replace b1 := mt pl_le.mpr b1
    replace b1 := Int64.not_le.mp b1
    refine lv_lload_n hx hb d_M_more_6 rfl (lv_at hl 0 rfl) ?_
    refine lv_goto (tgt := 11) hx hb d_M_more_7 (by decide) ?_
    exact pe_lret hx hb hr hlocks hK hP hD hS d_M_more_11 ⟨(by first | (simp [mmore, b1]; done) | contradiction), rfl⟩
set_option maxHeartbeats 4000000 in
set_option maxRecDepth 100000 in
theorem m2_size (l : Launch) (g : Lay) (sz : Nat) (f : Nat → va_E) (u : Int64) (hL : LO g) (hI : OC g f) : Met l ⟨"BigRunnerModel", "size", "(J)J"⟩ [Cond.code ⟨"BigRunnerModel", "size", "(J)J"⟩ prog_12_method_18_code 2 (some .long)] ({ frames := 0, cells := 0, slots := 0, locals := 0 }) (va_Pc [.long u] (pc_in g sz f)) (va_Ql (fun r f1 => (r = mS u) ∧ (f = f1)) (pc_out g sz) (pc_A g sz)) 0 0 (pc_A g sz) := by
  refine pe_ofW (cc := prog_12_method_18_code) (maxL := 2) (ret := (some .long)) (lv := [(0, .long u)]) (by decide) (Nat.le_of_ble_eq_true rfl) rfl ?_
  intro p e s m args below meth c ls hx hb hr hml hlocks hown hB hP hK hD hsz hS hl
  subst hsz
  refine lv_lload_n hx hb d_M_size_0 rfl (lv_at hl 0 rfl) ?_
  refine lv_lconst (v := nL 0) hx hb d_M_size_1 (by decide) ?_
  refine W.lcmp hx hb d_M_size_2 ?_
  refine lv_if_ge (tgt := 11) hx hb d_M_size_3 (by decide) (fun b1 => ?_) (fun b1 => ?_)
  · skip
    replace b1 := pl_ge.mp b1
    replace b1 := Int64.not_lt.mpr b1
    refine lv_lload_n hx hb d_M_size_11 rfl (lv_at hl 0 rfl) ?_
    exact pe_lret hx hb hr hlocks hK hP hD hS d_M_size_12 ⟨(by first | (simp [mS, b1]; done) | contradiction), rfl⟩
  · skip
    replace b1 := mt pl_ge.mpr b1
    replace b1 := Int64.not_le.mp b1
    refine lv_lload_n hx hb d_M_size_6 rfl (lv_at hl 0 rfl) ?_
    refine lv_lneg hx hb d_M_size_7 ?_
    refine lv_goto (tgt := 12) hx hb d_M_size_8 (by decide) ?_
    exact pe_lret hx hb hr hlocks hK hP hD hS d_M_size_12 ⟨(by first | (simp [mS, b1]; done) | contradiction), rfl⟩
set_option maxHeartbeats 4000000 in
set_option maxRecDepth 100000 in
theorem m2_times (l : Launch) (g : Lay) (sz : Nat) (f : Nat → va_E) (u : Int64) (v : Int64) (hL : LO g) (hI : OC g f) : Met l ⟨"BigRunnerModel", "times", "(JJ)J"⟩ [Cond.code ⟨"BigRunnerModel", "times", "(JJ)J"⟩ prog_12_method_19_code 6 (some .long)] ({ frames := 1, cells := 0, slots := 0, locals := 21 }) (va_Pc [.long u, .long v] (pc_in g sz f)) (va_Ql (fun r f1 => (r = mT u v) ∧ (f = f1)) (pc_out g sz) (pc_A g sz)) 0 0 (pc_A g sz) := by
  refine pe_ofW (cc := prog_12_method_19_code) (maxL := 6) (ret := (some .long)) (lv := [(0, .long u), (2, .long v)]) (by decide) (Nat.le_of_ble_eq_true rfl) rfl ?_
  intro p e s m args below meth c ls hx hb hr hml hlocks hown hB hP hK hD hsz hS hl
  subst hsz
  refine lv_lload_n hx hb d_M_times_0 rfl (lv_at hl 0 rfl) ?_
  refine lv_lconst (v := nL 0) hx hb d_M_times_1 (by decide) ?_
  refine W.lcmp hx hb d_M_times_2 ?_
  refine lv_if_eq (tgt := 12) hx hb d_M_times_3 (by decide) (fun b1 => ?_) (fun b1 => ?_)
  · skip
    replace b1 := pl_eq.mp b1
    refine lv_lconst (v := nL 0) hx hb d_M_times_12 (by decide) ?_
    exact pe_lret hx hb hr hlocks hK hP hD hS d_M_times_13 ⟨(by first | (simp [mT, mTp, b1]; done) | contradiction), rfl⟩
  · skip
    replace b1 := mt pl_eq.mpr b1
    refine lv_lload_n hx hb d_M_times_6 rfl (lv_at hl 1 rfl) ?_
    refine lv_lconst (v := nL 0) hx hb d_M_times_7 (by decide) ?_
    refine W.lcmp hx hb d_M_times_8 ?_
    refine lv_if_ne (tgt := 14) hx hb d_M_times_9 (by decide) (fun b2 => ?_) (fun b2 => ?_)
    · skip
      replace b2 := mt pl_eq.mpr b2
      refine lv_lload_n hx hb d_M_times_14 rfl (lv_at hl 0 rfl) ?_
      refine pcc_l (va_runS (As := [.long u]) (rest := []) ⟨hx, hb, hml, hown, tb_nil⟩ (m2_size l g s.heap.size f u hL hI) ⟨(callB_of 1 (tb_one (wd_1172 hB _)) tb_good1 rfl rfl rfl (wd_82 hB _) (wd_1170 hB _) (by decide +kernel) ⟨Nat.le_of_ble_eq_true rfl, Nat.le_of_ble_eq_true rfl⟩), (wd_1171 hB _)⟩ ⟨pe_bl, pe_pre hB hK hP hD⟩ rfl rfl hl.1 rfl (lv_room (Nat.le_of_ble_eq_true rfl)) d_M_times_15 ⟨Nat.le_of_ble_eq_true rfl, Nat.le_of_ble_eq_true rfl⟩) hS (fun r3 f4 H locs hq5 hP hD hS => ?_)
      obtain ⟨qv_6, rfl⟩ := hq5
      subst qv_6
      refine lv_ldc2 (v := 1152921504606846976) hx hb hown (wd_1162 hB _) d_M_times_18 ?_
      refine lv_topl (fun z_ hz_ => ?_)
      obtain rfl : z_ = nL 1152921504606846976 := hz_
      refine lv_lload_n hx hb d_M_times_21 rfl (lv_at hl 1 rfl) ?_
      refine pcc_l (va_runS (As := [.long v]) (rest := [.long (nL 1152921504606846976), .long (mS u)]) ⟨hx, hb, hml, hown, tb_nil⟩ (m2_size l g H.size f v hL hI) ⟨(callB_of 1 (tb_one (wd_1172 hB _)) tb_good1 rfl rfl rfl (wd_82 hB _) (wd_1170 hB _) (by decide +kernel) ⟨Nat.le_of_ble_eq_true rfl, Nat.le_of_ble_eq_true rfl⟩), (wd_1171 hB _)⟩ ⟨pe_bl, pe_pre hB hK hP hD⟩ rfl rfl hl.1 rfl (lv_room (Nat.le_of_ble_eq_true rfl)) d_M_times_22 ⟨Nat.le_of_ble_eq_true rfl, Nat.le_of_ble_eq_true rfl⟩) hS (fun r7 f8 H locs hq9 hP hD hS => ?_)
      obtain ⟨qv_10, rfl⟩ := hq9
      subst qv_10
      refine lv_ldiv hx hb d_M_times_25 (ms_ne (by assumption)) ?_
      refine W.lcmp hx hb d_M_times_26 ?_
      refine lv_if_le (tgt := 36) hx hb d_M_times_27 (by decide) (fun b11 => ?_) (fun b11 => ?_)
      · skip
        replace b11 := pl_le.mp b11
        replace b11 := Int64.not_lt.mpr b11
        refine lv_lload_n hx hb d_M_times_36 rfl (lv_at hl 0 rfl) ?_
        refine pcc_l (va_runS (As := [.long u]) (rest := []) ⟨hx, hb, hml, hown, tb_nil⟩ (m2_size l g H.size f u hL hI) ⟨(callB_of 1 (tb_one (wd_1172 hB _)) tb_good1 rfl rfl rfl (wd_82 hB _) (wd_1170 hB _) (by decide +kernel) ⟨Nat.le_of_ble_eq_true rfl, Nat.le_of_ble_eq_true rfl⟩), (wd_1171 hB _)⟩ ⟨pe_bl, pe_pre hB hK hP hD⟩ rfl rfl hl.1 rfl (lv_room (Nat.le_of_ble_eq_true rfl)) d_M_times_37 ⟨Nat.le_of_ble_eq_true rfl, Nat.le_of_ble_eq_true rfl⟩) hS (fun r12 f13 H locs hq14 hP hD hS => ?_)
        obtain ⟨qv_15, rfl⟩ := hq14
        subst qv_15
        refine lv_lload_n hx hb d_M_times_40 rfl (lv_at hl 1 rfl) ?_
        refine pcc_l (va_runS (As := [.long v]) (rest := [.long (mS u)]) ⟨hx, hb, hml, hown, tb_nil⟩ (m2_size l g H.size f v hL hI) ⟨(callB_of 1 (tb_one (wd_1172 hB _)) tb_good1 rfl rfl rfl (wd_82 hB _) (wd_1170 hB _) (by decide +kernel) ⟨Nat.le_of_ble_eq_true rfl, Nat.le_of_ble_eq_true rfl⟩), (wd_1171 hB _)⟩ ⟨pe_bl, pe_pre hB hK hP hD⟩ rfl rfl hl.1 rfl (lv_room (Nat.le_of_ble_eq_true rfl)) d_M_times_41 ⟨Nat.le_of_ble_eq_true rfl, Nat.le_of_ble_eq_true rfl⟩) hS (fun r16 f17 H locs hq18 hP hD hS => ?_)
        obtain ⟨qv_19, rfl⟩ := hq18
        subst qv_19
        refine lv_lmul hx hb d_M_times_44 ?_
        refine lv_lstore (lv' := [(4, .long (((mS u)) * ((mS v)))), (0, .long u), (2, .long v)]) hx hb d_M_times_45 hl (by decide) rfl (fun ls hl => ?_)
        refine lv_lload_n hx hb d_M_times_47 rfl (lv_at hl 1 rfl) ?_
        refine lv_lconst (v := nL 0) hx hb d_M_times_48 (by decide) ?_
        refine W.lcmp hx hb d_M_times_49 ?_
        refine lv_if_ge (tgt := 57) hx hb d_M_times_50 (by decide) (fun b20 => ?_) (fun b20 => ?_)
        · skip
          replace b20 := pl_ge.mp b20
          replace b20 := Int64.not_lt.mpr b20
          refine lv_iconst (v := nI 0) hx hb d_M_times_57 (by decide) ?_
          refine lv_lload_n hx hb d_M_times_58 rfl (lv_at hl 2 rfl) ?_
          refine lv_lconst (v := nL 0) hx hb d_M_times_59 (by decide) ?_
          refine W.lcmp hx hb d_M_times_60 ?_
          refine lv_if_ge (tgt := 68) hx hb d_M_times_61 (by decide) (fun b21 => ?_) (fun b21 => ?_)
          · skip
            replace b21 := pl_ge.mp b21
            replace b21 := Int64.not_lt.mpr b21
            refine lv_iconst (v := nI 0) hx hb d_M_times_68 (by decide) ?_
            refine lv_icmp_ne (tgt := 77) hx hb d_M_times_69 (by decide) (fun b22 => ?_) (fun b22 => ?_)
            · skip
              replace b22 := mt (nI_eq (a := 0) (b := 0) (by omega) (by omega)).mpr b22
              exfalso; omega
            · skip
              replace b22 := (nI_eq (a := 0) (b := 0) (by omega) (by omega)).mp b22
              refine lv_lload hx hb d_M_times_72 (lv_at hl 0 rfl) ?_
              refine lv_goto (tgt := 80) hx hb d_M_times_74 (by decide) ?_
              exact pe_lret hx hb hr hlocks hK hP hD hS d_M_times_80 ⟨(by first | (simp [mT, mTp, b1, b2, b11, b20, b21, b22]; done) | contradiction), rfl⟩
          · skip
            replace b21 := mt pl_ge.mpr b21
            replace b21 := Int64.not_le.mp b21
            refine lv_iconst (v := nI 1) hx hb d_M_times_64 (by decide) ?_
            refine lv_goto (tgt := 69) hx hb d_M_times_65 (by decide) ?_
            refine lv_icmp_ne (tgt := 77) hx hb d_M_times_69 (by decide) (fun b23 => ?_) (fun b23 => ?_)
            · skip
              replace b23 := mt (nI_eq (a := 0) (b := 1) (by omega) (by omega)).mpr b23
              refine lv_lload hx hb d_M_times_77 (lv_at hl 0 rfl) ?_
              refine lv_lneg hx hb d_M_times_79 ?_
              exact pe_lret hx hb hr hlocks hK hP hD hS d_M_times_80 ⟨(by first | (simp [mT, mTp, b1, b2, b11, b20, b21, b23]; done) | contradiction), rfl⟩
            · skip
              replace b23 := (nI_eq (a := 0) (b := 1) (by omega) (by omega)).mp b23
              exfalso; omega
        · skip
          replace b20 := mt pl_ge.mpr b20
          replace b20 := Int64.not_le.mp b20
          refine lv_iconst (v := nI 1) hx hb d_M_times_53 (by decide) ?_
          refine lv_goto (tgt := 58) hx hb d_M_times_54 (by decide) ?_
          refine lv_lload_n hx hb d_M_times_58 rfl (lv_at hl 2 rfl) ?_
          refine lv_lconst (v := nL 0) hx hb d_M_times_59 (by decide) ?_
          refine W.lcmp hx hb d_M_times_60 ?_
          refine lv_if_ge (tgt := 68) hx hb d_M_times_61 (by decide) (fun b24 => ?_) (fun b24 => ?_)
          · skip
            replace b24 := pl_ge.mp b24
            replace b24 := Int64.not_lt.mpr b24
            refine lv_iconst (v := nI 0) hx hb d_M_times_68 (by decide) ?_
            refine lv_icmp_ne (tgt := 77) hx hb d_M_times_69 (by decide) (fun b25 => ?_) (fun b25 => ?_)
            · skip
              replace b25 := mt (nI_eq (a := 1) (b := 0) (by omega) (by omega)).mpr b25
              refine lv_lload hx hb d_M_times_77 (lv_at hl 0 rfl) ?_
              refine lv_lneg hx hb d_M_times_79 ?_
              exact pe_lret hx hb hr hlocks hK hP hD hS d_M_times_80 ⟨(by first | (simp [mT, mTp, b1, b2, b11, b20, b24, b25]; done) | contradiction), rfl⟩
            · skip
              replace b25 := (nI_eq (a := 1) (b := 0) (by omega) (by omega)).mp b25
              exfalso; omega
          · skip
            replace b24 := mt pl_ge.mpr b24
            replace b24 := Int64.not_le.mp b24
            refine lv_iconst (v := nI 1) hx hb d_M_times_64 (by decide) ?_
            refine lv_goto (tgt := 69) hx hb d_M_times_65 (by decide) ?_
            refine lv_icmp_ne (tgt := 77) hx hb d_M_times_69 (by decide) (fun b26 => ?_) (fun b26 => ?_)
            · skip
              replace b26 := mt (nI_eq (a := 1) (b := 1) (by omega) (by omega)).mpr b26
              exfalso; omega
            · skip
              replace b26 := (nI_eq (a := 1) (b := 1) (by omega) (by omega)).mp b26
              refine lv_lload hx hb d_M_times_72 (lv_at hl 0 rfl) ?_
              refine lv_goto (tgt := 80) hx hb d_M_times_74 (by decide) ?_
              exact pe_lret hx hb hr hlocks hK hP hD hS d_M_times_80 ⟨(by first | (simp [mT, mTp, b1, b2, b11, b20, b24, b26]; done) | contradiction), rfl⟩
      · skip
        replace b11 := mt pl_le.mpr b11
        replace b11 := Int64.not_le.mp b11
        refine lv_ldc2 (v := 1152921504606846977) hx hb hown (wd_1173 hB _) d_M_times_30 ?_
        refine lv_topl (fun z_ hz_ => ?_)
        obtain rfl : z_ = nL 1152921504606846977 := hz_
        refine lv_goto (tgt := 45) hx hb d_M_times_33 (by decide) ?_
        refine lv_lstore (lv' := [(4, .long (nL 1152921504606846977)), (0, .long u), (2, .long v)]) hx hb d_M_times_45 hl (by decide) rfl (fun ls hl => ?_)
        refine lv_lload_n hx hb d_M_times_47 rfl (lv_at hl 1 rfl) ?_
        refine lv_lconst (v := nL 0) hx hb d_M_times_48 (by decide) ?_
        refine W.lcmp hx hb d_M_times_49 ?_
        refine lv_if_ge (tgt := 57) hx hb d_M_times_50 (by decide) (fun b27 => ?_) (fun b27 => ?_)
        · skip
          replace b27 := pl_ge.mp b27
          replace b27 := Int64.not_lt.mpr b27
          refine lv_iconst (v := nI 0) hx hb d_M_times_57 (by decide) ?_
          refine lv_lload_n hx hb d_M_times_58 rfl (lv_at hl 2 rfl) ?_
          refine lv_lconst (v := nL 0) hx hb d_M_times_59 (by decide) ?_
          refine W.lcmp hx hb d_M_times_60 ?_
          refine lv_if_ge (tgt := 68) hx hb d_M_times_61 (by decide) (fun b28 => ?_) (fun b28 => ?_)
          · skip
            replace b28 := pl_ge.mp b28
            replace b28 := Int64.not_lt.mpr b28
            refine lv_iconst (v := nI 0) hx hb d_M_times_68 (by decide) ?_
            refine lv_icmp_ne (tgt := 77) hx hb d_M_times_69 (by decide) (fun b29 => ?_) (fun b29 => ?_)
            · skip
              replace b29 := mt (nI_eq (a := 0) (b := 0) (by omega) (by omega)).mpr b29
              exfalso; omega
            · skip
              replace b29 := (nI_eq (a := 0) (b := 0) (by omega) (by omega)).mp b29
              refine lv_lload hx hb d_M_times_72 (lv_at hl 0 rfl) ?_
              refine lv_goto (tgt := 80) hx hb d_M_times_74 (by decide) ?_
              exact pe_lret hx hb hr hlocks hK hP hD hS d_M_times_80 ⟨(by first | (simp [mT, mTp, b1, b2, b11, b27, b28, b29]; done) | contradiction), rfl⟩
          · skip
            replace b28 := mt pl_ge.mpr b28
            replace b28 := Int64.not_le.mp b28
            refine lv_iconst (v := nI 1) hx hb d_M_times_64 (by decide) ?_
            refine lv_goto (tgt := 69) hx hb d_M_times_65 (by decide) ?_
            refine lv_icmp_ne (tgt := 77) hx hb d_M_times_69 (by decide) (fun b30 => ?_) (fun b30 => ?_)
            · skip
              replace b30 := mt (nI_eq (a := 0) (b := 1) (by omega) (by omega)).mpr b30
              refine lv_lload hx hb d_M_times_77 (lv_at hl 0 rfl) ?_
              refine lv_lneg hx hb d_M_times_79 ?_
              exact pe_lret hx hb hr hlocks hK hP hD hS d_M_times_80 ⟨(by first | (simp [mT, mTp, b1, b2, b11, b27, b28, b30]; done) | contradiction), rfl⟩
            · skip
              replace b30 := (nI_eq (a := 0) (b := 1) (by omega) (by omega)).mp b30
              exfalso; omega
        · skip
          replace b27 := mt pl_ge.mpr b27
          replace b27 := Int64.not_le.mp b27
          refine lv_iconst (v := nI 1) hx hb d_M_times_53 (by decide) ?_
          refine lv_goto (tgt := 58) hx hb d_M_times_54 (by decide) ?_
          refine lv_lload_n hx hb d_M_times_58 rfl (lv_at hl 2 rfl) ?_
          refine lv_lconst (v := nL 0) hx hb d_M_times_59 (by decide) ?_
          refine W.lcmp hx hb d_M_times_60 ?_
          refine lv_if_ge (tgt := 68) hx hb d_M_times_61 (by decide) (fun b31 => ?_) (fun b31 => ?_)
          · skip
            replace b31 := pl_ge.mp b31
            replace b31 := Int64.not_lt.mpr b31
            refine lv_iconst (v := nI 0) hx hb d_M_times_68 (by decide) ?_
            refine lv_icmp_ne (tgt := 77) hx hb d_M_times_69 (by decide) (fun b32 => ?_) (fun b32 => ?_)
            · skip
              replace b32 := mt (nI_eq (a := 1) (b := 0) (by omega) (by omega)).mpr b32
              refine lv_lload hx hb d_M_times_77 (lv_at hl 0 rfl) ?_
              refine lv_lneg hx hb d_M_times_79 ?_
              exact pe_lret hx hb hr hlocks hK hP hD hS d_M_times_80 ⟨(by first | (simp [mT, mTp, b1, b2, b11, b27, b31, b32]; done) | contradiction), rfl⟩
            · skip
              replace b32 := (nI_eq (a := 1) (b := 0) (by omega) (by omega)).mp b32
              exfalso; omega
          · skip
            replace b31 := mt pl_ge.mpr b31
            replace b31 := Int64.not_le.mp b31
            refine lv_iconst (v := nI 1) hx hb d_M_times_64 (by decide) ?_
            refine lv_goto (tgt := 69) hx hb d_M_times_65 (by decide) ?_
            refine lv_icmp_ne (tgt := 77) hx hb d_M_times_69 (by decide) (fun b33 => ?_) (fun b33 => ?_)
            · skip
              replace b33 := mt (nI_eq (a := 1) (b := 1) (by omega) (by omega)).mpr b33
              exfalso; omega
            · skip
              replace b33 := (nI_eq (a := 1) (b := 1) (by omega) (by omega)).mp b33
              refine lv_lload hx hb d_M_times_72 (lv_at hl 0 rfl) ?_
              refine lv_goto (tgt := 80) hx hb d_M_times_74 (by decide) ?_
              exact pe_lret hx hb hr hlocks hK hP hD hS d_M_times_80 ⟨(by first | (simp [mT, mTp, b1, b2, b11, b27, b31, b33]; done) | contradiction), rfl⟩
    · skip
      replace b2 := pl_eq.mp b2
      refine lv_lconst (v := nL 0) hx hb d_M_times_12 (by decide) ?_
      exact pe_lret hx hb hr hlocks hK hP hD hS d_M_times_13 ⟨(by first | (simp [mT, mTp, b1, b2]; done) | contradiction), rfl⟩
set_option maxHeartbeats 4000000 in
set_option maxRecDepth 100000 in
theorem m2_interval (l : Launch) (g : Lay) (sz : Nat) (f : Nat → va_E) (M : Nat) (k9 : Nat) (u : Int64) (v : Int64) (nf : Bool) (nt : Bool) (hUA : Nat → Int32) (hUB : Nat → Int32) (hAA : Nat → Int64) (hBB : Nat → Int64) (hL : LO g) (t_M : g.tg M = 11) (hI : IV g f) (hk : k9 < 80) (eUA : f (g.lk M 23) = .inl (g.ac (g.lk M 23), 80, .inl hUA)) (eUB : f (g.lk M 24) = .inl (g.ac (g.lk M 24), 80, .inl hUB)) (eAA : f (g.lk M 21) = .inl (g.ac (g.lk M 21), 80, .inr (.inl hAA))) (eBB : f (g.lk M 22) = .inl (g.ac (g.lk M 22), 80, .inr (.inl hBB))) : Met l ⟨"BigRunnerModel", "interval", "(IJJZZ)V"⟩ [Cond.code ⟨"BigRunnerModel", "interval", "(IJJZZ)V"⟩ prog_12_method_15_code 8 none] ({ frames := 0, cells := 0, slots := 0, locals := 0 }) (va_Pc [.ref M, .int (nI k9), .long u, .long v, .int (bI nf), .int (bI nt)] (pc_in g sz f)) (va_Qv (fun f1 => (f1 (g.lk M 23) = .inl (g.ac (g.lk M 23), 80, .inl (upd hUA k9 (bI (mU nf u))))) ∧ (f1 (g.lk M 24) = .inl (g.ac (g.lk M 24), 80, .inl (upd hUB k9 (bI (mU nt v))))) ∧ (f1 (g.lk M 21) = .inl (g.ac (g.lk M 21), 80, .inr (.inl (vp_updL hAA k9 (mV nf u))))) ∧ (f1 (g.lk M 22) = .inl (g.ac (g.lk M 22), 80, .inr (.inl (vp_updL hBB k9 (mV nt v))))) ∧ (IV g f1) ∧ (un [53, 54, 55, 56] g f f1)) (pc_out g sz) (pc_A g sz)) 0 0 (pc_A g sz) := by
  refine pe_ofW (cc := prog_12_method_15_code) (maxL := 8) (ret := none) (lv := [(0, .ref M), (1, .int (nI k9)), (2, .long u), (4, .long v), (6, .int (bI nf)), (7, .int (bI nt))]) (by decide) (Nat.le_of_ble_eq_true rfl) rfl ?_
  intro p e s m args below meth c ls hx hb hr hml hlocks hown hB hP hK hD hsz hS hl
  subst hsz
  have hu : un [53, 54, 55, 56] g f f := un.rf
  refine lv_aload_n hx hb d_M_interval_0 rfl (lv_at hl 0 rfl) ?_
  obtain ⟨th_2, n_3, dr_4, sz_5, ix_6, dp_7, wt_8, op_9, tp_10, wa_11, gi_12, pc_13, st_14, tr_15, sp_16, ma_17, lg_18, du_19, e1, c20, c21, c22, c23, c24, c25, c26, c27, c28, c29, c30, c31, c32, c33, c34⟩ := oc_11.of t_M (hI.1 M)
  refine pf_get (v := .ref (g.lk M 23)) (C := "BigRunnerModel") (T := FT10) (N := 45) hx hb (hw10 hB _) (fun _ h9 => h9) hown hK hP (lo_in hL t_M (by decide)) e1 rfl 23 (by decide) (wd_970 hB _) rfl d_M_interval_1 ?_
  refine lv_iload_n hx hb d_M_interval_4 rfl (lv_at hl 1 rfl) ?_
  have jn35 : ∀ (bj36 : Int32), bj36 = (bI (mU nf u)) → ∀ (H : Heap) (locs : List Loc), va_P g.D vcl (va_pl g.LP f) H → va_D (pc_A g s.heap.size) (va_pl g.LP f) → va_S (pc_A g s.heap.size) s.heap H locs → W p l e ({ frames := 0, cells := 0, slots := 0, locals := 0 }) s m args below meth c H locs 0 0 (MQ below (va_Qv (fun f1 => (f1 (g.lk M 23) = .inl (g.ac (g.lk M 23), 80, .inl (upd hUA k9 (bI (mU nf u))))) ∧ (f1 (g.lk M 24) = .inl (g.ac (g.lk M 24), 80, .inl (upd hUB k9 (bI (mU nt v))))) ∧ (f1 (g.lk M 21) = .inl (g.ac (g.lk M 21), 80, .inr (.inl (vp_updL hAA k9 (mV nf u))))) ∧ (f1 (g.lk M 22) = .inl (g.ac (g.lk M 22), 80, .inr (.inl (vp_updL hBB k9 (mV nt v))))) ∧ (IV g f1) ∧ (un [53, 54, 55, 56] g f f1)) (pc_out g s.heap.size) (pc_A g s.heap.size)) args s 0 0 (pc_A g s.heap.size)) (F0 m 31 ls [.int bj36, .int (nI k9), .ref (g.lk M 23)]) := by
    intro bj36 hbj37 H locs hP hD hS
    subst hbj37
    refine pf_zast (i := k9) hx hb hK hP hD hS (lo_in hL (lo_k11_23 hL _ t_M) (by decide)) eUA (lo_t55 hL _ (lo_k11_23 hL _ t_M)) (by omega) (by decide) d_M_interval_31 (fun f38 H locs e39 k40 hP hD hS => ?_)
    have eUB := (k40 (g.lk M 24) (tg_ne (lo_k11_24 hL _ t_M) (lo_k11_23 hL _ t_M) (by decide))).trans eUB
    have eAA := (k40 (g.lk M 21) (tg_ne (lo_k11_21 hL _ t_M) (lo_k11_23 hL _ t_M) (by decide))).trans eAA
    have eBB := (k40 (g.lk M 22) (tg_ne (lo_k11_22 hL _ t_M) (lo_k11_23 hL _ t_M) (by decide))).trans eBB
    have e1 := (k40 M (tg_ne t_M (lo_k11_23 hL _ t_M) (by decide))).trans e1
    have hu := hu.st k40 (lo_k11_23 hL _ t_M) (by decide)
    have hk41 : ∀ b, b ≠ (g.lk M 23) → f38 b = f b := k40
    refine lv_aload_n hx hb d_M_interval_32 rfl (lv_at hl 0 rfl) ?_
    refine pf_get (v := .ref (g.lk M 24)) (C := "BigRunnerModel") (T := FT10) (N := 45) hx hb (hw10 hB _) (fun _ h9 => h9) hown hK hP (lo_in hL t_M (by decide)) e1 rfl 24 (by decide) (wd_971 hB _) rfl d_M_interval_33 ?_
    refine lv_iload_n hx hb d_M_interval_36 rfl (lv_at hl 1 rfl) ?_
    have jn42 : ∀ (bj43 : Int32), bj43 = (bI (mU nt v)) → ∀ (H : Heap) (locs : List Loc), va_P g.D vcl (va_pl g.LP f38) H → va_D (pc_A g s.heap.size) (va_pl g.LP f38) → va_S (pc_A g s.heap.size) s.heap H locs → W p l e ({ frames := 0, cells := 0, slots := 0, locals := 0 }) s m args below meth c H locs 0 0 (MQ below (va_Qv (fun f1 => (f1 (g.lk M 23) = .inl (g.ac (g.lk M 23), 80, .inl (upd hUA k9 (bI (mU nf u))))) ∧ (f1 (g.lk M 24) = .inl (g.ac (g.lk M 24), 80, .inl (upd hUB k9 (bI (mU nt v))))) ∧ (f1 (g.lk M 21) = .inl (g.ac (g.lk M 21), 80, .inr (.inl (vp_updL hAA k9 (mV nf u))))) ∧ (f1 (g.lk M 22) = .inl (g.ac (g.lk M 22), 80, .inr (.inl (vp_updL hBB k9 (mV nt v))))) ∧ (IV g f1) ∧ (un [53, 54, 55, 56] g f f1)) (pc_out g s.heap.size) (pc_A g s.heap.size)) args s 0 0 (pc_A g s.heap.size)) (F0 m 65 ls [.int bj43, .int (nI k9), .ref (g.lk M 24)]) := by
      intro bj43 hbj44 H locs hP hD hS
      subst hbj44
      have hI45 := iv_1 hI hL (lo_k11_23 hL _ t_M) (by decide) hk41 (oc_55.mk (lo_k11_23 hL _ t_M) (⟨_, e39⟩))
      refine pf_zast (i := k9) hx hb hK hP hD hS (lo_in hL (lo_k11_24 hL _ t_M) (by decide)) eUB (lo_t56 hL _ (lo_k11_24 hL _ t_M)) (by omega) (by decide) d_M_interval_65 (fun f46 H locs e47 k48 hP hD hS => ?_)
      have eAA := (k48 (g.lk M 21) (tg_ne (lo_k11_21 hL _ t_M) (lo_k11_24 hL _ t_M) (by decide))).trans eAA
      have eBB := (k48 (g.lk M 22) (tg_ne (lo_k11_22 hL _ t_M) (lo_k11_24 hL _ t_M) (by decide))).trans eBB
      have e1 := (k48 M (tg_ne t_M (lo_k11_24 hL _ t_M) (by decide))).trans e1
      have e39 := (k48 (g.lk M 23) (tg_ne (lo_k11_23 hL _ t_M) (lo_k11_24 hL _ t_M) (by decide))).trans e39
      have hu := hu.st k48 (lo_k11_24 hL _ t_M) (by decide)
      have hk49 : ∀ b, b ≠ (g.lk M 24) → f46 b = f38 b := k48
      refine lv_aload_n hx hb d_M_interval_66 rfl (lv_at hl 0 rfl) ?_
      refine pf_get (v := .ref (g.lk M 21)) (C := "BigRunnerModel") (T := FT10) (N := 45) hx hb (hw10 hB _) (fun _ h9 => h9) hown hK hP (lo_in hL t_M (by decide)) e1 rfl 21 (by decide) (wd_968 hB _) rfl d_M_interval_67 ?_
      refine lv_iload_n hx hb d_M_interval_70 rfl (lv_at hl 1 rfl) ?_
      have jn50 : ∀ (bj51 : Int64), bj51 = (mV nf u) → ∀ (H : Heap) (locs : List Loc), va_P g.D vcl (va_pl g.LP f46) H → va_D (pc_A g s.heap.size) (va_pl g.LP f46) → va_S (pc_A g s.heap.size) s.heap H locs → W p l e ({ frames := 0, cells := 0, slots := 0, locals := 0 }) s m args below meth c H locs 0 0 (MQ below (va_Qv (fun f1 => (f1 (g.lk M 23) = .inl (g.ac (g.lk M 23), 80, .inl (upd hUA k9 (bI (mU nf u))))) ∧ (f1 (g.lk M 24) = .inl (g.ac (g.lk M 24), 80, .inl (upd hUB k9 (bI (mU nt v))))) ∧ (f1 (g.lk M 21) = .inl (g.ac (g.lk M 21), 80, .inr (.inl (vp_updL hAA k9 (mV nf u))))) ∧ (f1 (g.lk M 22) = .inl (g.ac (g.lk M 22), 80, .inr (.inl (vp_updL hBB k9 (mV nt v))))) ∧ (IV g f1) ∧ (un [53, 54, 55, 56] g f f1)) (pc_out g s.heap.size) (pc_A g s.heap.size)) args s 0 0 (pc_A g s.heap.size)) (F0 m 85 ls [.long bj51, .int (nI k9), .ref (g.lk M 21)]) := by
        intro bj51 hbj52 H locs hP hD hS
        subst hbj52
        have hI53 := iv_1 hI45 hL (lo_k11_24 hL _ t_M) (by decide) hk49 (oc_56.mk (lo_k11_24 hL _ t_M) (⟨_, e47⟩))
        refine pf_last (i := k9) hx hb hK hP hD hS (lo_in hL (lo_k11_21 hL _ t_M) (by decide)) eAA (lo_t53 hL _ (lo_k11_21 hL _ t_M)) (by omega) (by decide) d_M_interval_85 (fun f54 H locs e55 k56 hP hD hS => ?_)
        have eBB := (k56 (g.lk M 22) (tg_ne (lo_k11_22 hL _ t_M) (lo_k11_21 hL _ t_M) (by decide))).trans eBB
        have e1 := (k56 M (tg_ne t_M (lo_k11_21 hL _ t_M) (by decide))).trans e1
        have e39 := (k56 (g.lk M 23) (tg_ne (lo_k11_23 hL _ t_M) (lo_k11_21 hL _ t_M) (by decide))).trans e39
        have e47 := (k56 (g.lk M 24) (tg_ne (lo_k11_24 hL _ t_M) (lo_k11_21 hL _ t_M) (by decide))).trans e47
        have hu := hu.st k56 (lo_k11_21 hL _ t_M) (by decide)
        have hk57 : ∀ b, b ≠ (g.lk M 21) → f54 b = f46 b := k56
        refine lv_aload_n hx hb d_M_interval_86 rfl (lv_at hl 0 rfl) ?_
        refine pf_get (v := .ref (g.lk M 22)) (C := "BigRunnerModel") (T := FT10) (N := 45) hx hb (hw10 hB _) (fun _ h9 => h9) hown hK hP (lo_in hL t_M (by decide)) e1 rfl 22 (by decide) (wd_969 hB _) rfl d_M_interval_87 ?_
        refine lv_iload_n hx hb d_M_interval_90 rfl (lv_at hl 1 rfl) ?_
        have jn58 : ∀ (bj59 : Int64), bj59 = (mV nt v) → ∀ (H : Heap) (locs : List Loc), va_P g.D vcl (va_pl g.LP f54) H → va_D (pc_A g s.heap.size) (va_pl g.LP f54) → va_S (pc_A g s.heap.size) s.heap H locs → W p l e ({ frames := 0, cells := 0, slots := 0, locals := 0 }) s m args below meth c H locs 0 0 (MQ below (va_Qv (fun f1 => (f1 (g.lk M 23) = .inl (g.ac (g.lk M 23), 80, .inl (upd hUA k9 (bI (mU nf u))))) ∧ (f1 (g.lk M 24) = .inl (g.ac (g.lk M 24), 80, .inl (upd hUB k9 (bI (mU nt v))))) ∧ (f1 (g.lk M 21) = .inl (g.ac (g.lk M 21), 80, .inr (.inl (vp_updL hAA k9 (mV nf u))))) ∧ (f1 (g.lk M 22) = .inl (g.ac (g.lk M 22), 80, .inr (.inl (vp_updL hBB k9 (mV nt v))))) ∧ (IV g f1) ∧ (un [53, 54, 55, 56] g f f1)) (pc_out g s.heap.size) (pc_A g s.heap.size)) args s 0 0 (pc_A g s.heap.size)) (F0 m 106 ls [.long bj59, .int (nI k9), .ref (g.lk M 22)]) := by
          intro bj59 hbj60 H locs hP hD hS
          subst hbj60
          have hI61 := iv_1 hI53 hL (lo_k11_21 hL _ t_M) (by decide) hk57 (oc_53.mk (lo_k11_21 hL _ t_M) (⟨_, e55⟩))
          refine pf_last (i := k9) hx hb hK hP hD hS (lo_in hL (lo_k11_22 hL _ t_M) (by decide)) eBB (lo_t54 hL _ (lo_k11_22 hL _ t_M)) (by omega) (by decide) d_M_interval_106 (fun f62 H locs e63 k64 hP hD hS => ?_)
          have e1 := (k64 M (tg_ne t_M (lo_k11_22 hL _ t_M) (by decide))).trans e1
          have e39 := (k64 (g.lk M 23) (tg_ne (lo_k11_23 hL _ t_M) (lo_k11_22 hL _ t_M) (by decide))).trans e39
          have e47 := (k64 (g.lk M 24) (tg_ne (lo_k11_24 hL _ t_M) (lo_k11_22 hL _ t_M) (by decide))).trans e47
          have e55 := (k64 (g.lk M 21) (tg_ne (lo_k11_21 hL _ t_M) (lo_k11_22 hL _ t_M) (by decide))).trans e55
          have hu := hu.st k64 (lo_k11_22 hL _ t_M) (by decide)
          have hk65 : ∀ b, b ≠ (g.lk M 22) → f62 b = f54 b := k64
          have hI66 := iv_1 hI61 hL (lo_k11_22 hL _ t_M) (by decide) hk65 (oc_54.mk (lo_k11_22 hL _ t_M) (⟨_, e63⟩))
          exact pe_vret hx hb hr hlocks hK hP hD hS d_M_interval_107 ⟨(e39.trans (by rw [nar_b])), (e47.trans (by rw [nar_b])), e55, e63, hI66, hu⟩
        refine lv_aload_n hx hb d_M_interval_91 rfl (lv_at hl 0 rfl) ?_
        refine pf_get (v := .ref (g.lk M 24)) (C := "BigRunnerModel") (T := FT10) (N := 45) hx hb (hw10 hB _) (fun _ h9 => h9) hown hK hP (lo_in hL t_M (by decide)) e1 rfl 24 (by decide) (wd_971 hB _) rfl d_M_interval_92 ?_
        refine lv_iload_n hx hb d_M_interval_95 rfl (lv_at hl 1 rfl) ?_
        refine pf_zald (i := k9) hx hb hK hP (lo_in hL (lo_k11_24 hL _ t_M) (by decide)) e47 (lo_t56 hL _ (lo_k11_24 hL _ t_M)) (by omega) (by decide) d_M_interval_96 ?_
        refine lv_topi (fun z_ hz_ => ?_)
        obtain rfl : z_ = bI (mU nt v) := hz_.trans (by rw [upd_at, nar_b])
        refine lv_if_eq (tgt := 104) hx hb d_M_interval_97 (by decide) (fun b67 => ?_) (fun b67 => ?_)
        · skip
          replace b67 : (bI (mU nt v)) = nI 0 := b67
          replace b67 := bI_0 b67
          refine lv_lload hx hb d_M_interval_104 (lv_at hl 3 rfl) ?_
          exact jn58 v (by first | (simp [mV, b67]; done) | contradiction) _ _ hP hD hS
        · skip
          replace b67 : ¬ (bI (mU nt v)) = nI 0 := b67
          replace b67 := bI_1 b67
          refine lv_lconst (v := nL 0) hx hb d_M_interval_100 (by decide) ?_
          refine lv_goto (tgt := 106) hx hb d_M_interval_101 (by decide) ?_
          exact jn58 ((nL 0)) (by first | (simp [mV, b67]; done) | contradiction) _ _ hP hD hS
      refine lv_aload_n hx hb d_M_interval_71 rfl (lv_at hl 0 rfl) ?_
      refine pf_get (v := .ref (g.lk M 23)) (C := "BigRunnerModel") (T := FT10) (N := 45) hx hb (hw10 hB _) (fun _ h9 => h9) hown hK hP (lo_in hL t_M (by decide)) e1 rfl 23 (by decide) (wd_970 hB _) rfl d_M_interval_72 ?_
      refine lv_iload_n hx hb d_M_interval_75 rfl (lv_at hl 1 rfl) ?_
      refine pf_zald (i := k9) hx hb hK hP (lo_in hL (lo_k11_23 hL _ t_M) (by decide)) e39 (lo_t55 hL _ (lo_k11_23 hL _ t_M)) (by omega) (by decide) d_M_interval_76 ?_
      refine lv_topi (fun z_ hz_ => ?_)
      obtain rfl : z_ = bI (mU nf u) := hz_.trans (by rw [upd_at, nar_b])
      refine lv_if_eq (tgt := 84) hx hb d_M_interval_77 (by decide) (fun b68 => ?_) (fun b68 => ?_)
      · skip
        replace b68 : (bI (mU nf u)) = nI 0 := b68
        replace b68 := bI_0 b68
        refine lv_lload_n hx hb d_M_interval_84 rfl (lv_at hl 2 rfl) ?_
        exact jn50 u (by first | (simp [mV, b68]; done) | contradiction) _ _ hP hD hS
      · skip
        replace b68 : ¬ (bI (mU nf u)) = nI 0 := b68
        replace b68 := bI_1 b68
        refine lv_lconst (v := nL 0) hx hb d_M_interval_80 (by decide) ?_
        refine lv_goto (tgt := 85) hx hb d_M_interval_81 (by decide) ?_
        exact jn50 ((nL 0)) (by first | (simp [mV, b68]; done) | contradiction) _ _ hP hD hS
    refine lv_iload hx hb d_M_interval_37 (lv_at hl 5 rfl) ?_
    refine lv_if_ne (tgt := 60) hx hb d_M_interval_39 (by decide) (fun b69 => ?_) (fun b69 => ?_)
    · skip
      replace b69 : ¬ (bI nt) = nI 0 := b69
      replace b69 := bI_1 b69
      refine lv_iconst (v := nI 1) hx hb d_M_interval_60 (by decide) ?_
      refine lv_goto (tgt := 65) hx hb d_M_interval_61 (by decide) ?_
      exact jn42 ((nI 1)) (by first | (simp [mU, KU, bI, b69]; done) | (simp [mU, KU, bI]; done) | contradiction) _ _ hP hD hS
    · skip
      replace b69 : (bI nt) = nI 0 := b69
      replace b69 := bI_0 b69
      refine lv_lload hx hb d_M_interval_42 (lv_at hl 3 rfl) ?_
      refine lv_ldc2 (v := (-1152921504606846976)) hx hb hown (wd_1161 hB _) d_M_interval_44 ?_
      refine W.lcmp hx hb d_M_interval_47 ?_
      refine lv_if_lt (tgt := 60) hx hb d_M_interval_48 (by decide) (fun b70 => ?_) (fun b70 => ?_)
      · skip
        replace b70 := pl_lt.mp b70
        refine lv_iconst (v := nI 1) hx hb d_M_interval_60 (by decide) ?_
        refine lv_goto (tgt := 65) hx hb d_M_interval_61 (by decide) ?_
        exact jn42 ((nI 1)) (by first | (simp [mU, KU, bI, b69, b70]; done) | (simp [mU, KU, bI, b70]; done) | contradiction) _ _ hP hD hS
      · skip
        replace b70 := mt pl_lt.mpr b70
        refine lv_lload hx hb d_M_interval_51 (lv_at hl 3 rfl) ?_
        refine lv_ldc2 (v := 1152921504606846976) hx hb hown (wd_1162 hB _) d_M_interval_53 ?_
        refine lv_topl (fun z_ hz_ => ?_)
        obtain rfl : z_ = nL 1152921504606846976 := hz_
        refine W.lcmp hx hb d_M_interval_56 ?_
        refine lv_if_le (tgt := 64) hx hb d_M_interval_57 (by decide) (fun b71 => ?_) (fun b71 => ?_)
        · skip
          replace b71 := pl_le.mp b71
          replace b71 := Int64.not_lt.mpr b71
          refine lv_iconst (v := nI 0) hx hb d_M_interval_64 (by decide) ?_
          exact jn42 ((nI 0)) (by first | (simp [mU, KU, bI, b69, b70, b71]; done) | (simp [mU, KU, bI, b70, b71]; done) | contradiction) _ _ hP hD hS
        · skip
          replace b71 := mt pl_le.mpr b71
          replace b71 := Int64.not_le.mp b71
          refine lv_iconst (v := nI 1) hx hb d_M_interval_60 (by decide) ?_
          refine lv_goto (tgt := 65) hx hb d_M_interval_61 (by decide) ?_
          exact jn42 ((nI 1)) (by first | (simp [mU, KU, bI, b69, b70, b71]; done) | (simp [mU, KU, bI, b70, b71]; done) | contradiction) _ _ hP hD hS
  refine lv_iload hx hb d_M_interval_5 (lv_at hl 4 rfl) ?_
  refine lv_if_ne (tgt := 26) hx hb d_M_interval_7 (by decide) (fun b72 => ?_) (fun b72 => ?_)
  · skip
    replace b72 : ¬ (bI nf) = nI 0 := b72
    replace b72 := bI_1 b72
    refine lv_iconst (v := nI 1) hx hb d_M_interval_26 (by decide) ?_
    refine lv_goto (tgt := 31) hx hb d_M_interval_27 (by decide) ?_
    exact jn35 ((nI 1)) (by first | (simp [mU, KU, bI, b72]; done) | (simp [mU, KU, bI]; done) | contradiction) _ _ hP hD hS
  · skip
    replace b72 : (bI nf) = nI 0 := b72
    replace b72 := bI_0 b72
    refine lv_lload_n hx hb d_M_interval_10 rfl (lv_at hl 2 rfl) ?_
    refine lv_ldc2 (v := (-1152921504606846976)) hx hb hown (wd_1161 hB _) d_M_interval_11 ?_
    refine W.lcmp hx hb d_M_interval_14 ?_
    refine lv_if_lt (tgt := 26) hx hb d_M_interval_15 (by decide) (fun b73 => ?_) (fun b73 => ?_)
    · skip
      replace b73 := pl_lt.mp b73
      refine lv_iconst (v := nI 1) hx hb d_M_interval_26 (by decide) ?_
      refine lv_goto (tgt := 31) hx hb d_M_interval_27 (by decide) ?_
      exact jn35 ((nI 1)) (by first | (simp [mU, KU, bI, b72, b73]; done) | (simp [mU, KU, bI, b73]; done) | contradiction) _ _ hP hD hS
    · skip
      replace b73 := mt pl_lt.mpr b73
      refine lv_lload_n hx hb d_M_interval_18 rfl (lv_at hl 2 rfl) ?_
      refine lv_ldc2 (v := 1152921504606846976) hx hb hown (wd_1162 hB _) d_M_interval_19 ?_
      refine lv_topl (fun z_ hz_ => ?_)
      obtain rfl : z_ = nL 1152921504606846976 := hz_
      refine W.lcmp hx hb d_M_interval_22 ?_
      refine lv_if_le (tgt := 30) hx hb d_M_interval_23 (by decide) (fun b74 => ?_) (fun b74 => ?_)
      · skip
        replace b74 := pl_le.mp b74
        replace b74 := Int64.not_lt.mpr b74
        refine lv_iconst (v := nI 0) hx hb d_M_interval_30 (by decide) ?_
        exact jn35 ((nI 0)) (by first | (simp [mU, KU, bI, b72, b73, b74]; done) | (simp [mU, KU, bI, b73, b74]; done) | contradiction) _ _ hP hD hS
      · skip
        replace b74 := mt pl_le.mpr b74
        replace b74 := Int64.not_le.mp b74
        refine lv_iconst (v := nI 1) hx hb d_M_interval_26 (by decide) ?_
        refine lv_goto (tgt := 31) hx hb d_M_interval_27 (by decide) ?_
        exact jn35 ((nI 1)) (by first | (simp [mU, KU, bI, b72, b73, b74]; done) | (simp [mU, KU, bI, b73, b74]; done) | contradiction) _ _ hP hD hS
set_option maxHeartbeats 4000000 in
set_option maxRecDepth 100000 in
theorem m2_spanProduct (l : Launch) (g : Lay) (sz : Nat) (f : Nat → va_E) (M : Nat) (k9 : Nat) (hUA : Nat → Int32) (hUB : Nat → Int32) (hAA : Nat → Int64) (hBB : Nat → Int64) (hL : LO g) (t_M : g.tg M = 11) (hI : IV g f) (hk : k9 < 79) (eUA : f (g.lk M 23) = .inl (g.ac (g.lk M 23), 80, .inl hUA)) (eUB : f (g.lk M 24) = .inl (g.ac (g.lk M 24), 80, .inl hUB)) (eAA : f (g.lk M 21) = .inl (g.ac (g.lk M 21), 80, .inr (.inl hAA))) (eBB : f (g.lk M 22) = .inl (g.ac (g.lk M 22), 80, .inr (.inl hBB))) : Met l ⟨"BigRunnerModel", "spanProduct", "(I)V"⟩ [Cond.code ⟨"BigRunnerModel", "spanProduct", "(I)V"⟩ prog_12_method_20_code 12 none] ({ frames := 2, cells := 0, slots := 0, locals := 46 }) (va_Pc [.ref M, .int (nI k9)] (pc_in g sz f)) (va_Qv (fun f1 => (f1 (g.lk M 23) = .inl (g.ac (g.lk M 23), 80, .inl (upd hUA k9 (bI (mU (spf (hUA k9) (hUB k9) (hAA k9) (hBB k9) (hUA (k9 + 1)) (hUB (k9 + 1)) (hAA (k9 + 1)) (hBB (k9 + 1))) (spu (hUA k9) (hUB k9) (hAA k9) (hBB k9) (hUA (k9 + 1)) (hUB (k9 + 1)) (hAA (k9 + 1)) (hBB (k9 + 1)))))))) ∧ (f1 (g.lk M 24) = .inl (g.ac (g.lk M 24), 80, .inl (upd hUB k9 (bI (mU (spf (hUA k9) (hUB k9) (hAA k9) (hBB k9) (hUA (k9 + 1)) (hUB (k9 + 1)) (hAA (k9 + 1)) (hBB (k9 + 1))) (spv (hUA k9) (hUB k9) (hAA k9) (hBB k9) (hUA (k9 + 1)) (hUB (k9 + 1)) (hAA (k9 + 1)) (hBB (k9 + 1)))))))) ∧ (f1 (g.lk M 21) = .inl (g.ac (g.lk M 21), 80, .inr (.inl (vp_updL hAA k9 (mV (spf (hUA k9) (hUB k9) (hAA k9) (hBB k9) (hUA (k9 + 1)) (hUB (k9 + 1)) (hAA (k9 + 1)) (hBB (k9 + 1))) (spu (hUA k9) (hUB k9) (hAA k9) (hBB k9) (hUA (k9 + 1)) (hUB (k9 + 1)) (hAA (k9 + 1)) (hBB (k9 + 1)))))))) ∧ (f1 (g.lk M 22) = .inl (g.ac (g.lk M 22), 80, .inr (.inl (vp_updL hBB k9 (mV (spf (hUA k9) (hUB k9) (hAA k9) (hBB k9) (hUA (k9 + 1)) (hUB (k9 + 1)) (hAA (k9 + 1)) (hBB (k9 + 1))) (spv (hUA k9) (hUB k9) (hAA k9) (hBB k9) (hUA (k9 + 1)) (hUB (k9 + 1)) (hAA (k9 + 1)) (hBB (k9 + 1)))))))) ∧ (IV g f1) ∧ (un [53, 54, 55, 56] g f f1)) (pc_out g sz) (pc_A g sz)) 0 0 (pc_A g sz) := by
  refine pe_ofW (cc := prog_12_method_20_code) (maxL := 12) (ret := none) (lv := [(0, .ref M), (1, .int (nI k9))]) (by decide) (Nat.le_of_ble_eq_true rfl) rfl ?_
  intro p e s m args below meth c ls hx hb hr hml hlocks hown hB hP hK hD hsz hS hl
  subst hsz
  have hu : un [53, 54, 55, 56] g f f := un.rf
  have jn1 : ∀ (bj2 : Int32), bj2 = (bI (spN (hUA k9) (hUB k9) (hAA k9) (hBB k9) (hUA (k9 + 1)) (hUB (k9 + 1)) (hAA (k9 + 1)) (hBB (k9 + 1)))) → ∀ (H : Heap) (locs : List Loc), va_P g.D vcl (va_pl g.LP f) H → va_D (pc_A g s.heap.size) (va_pl g.LP f) → va_S (pc_A g s.heap.size) s.heap H locs → W p l e ({ frames := 2, cells := 0, slots := 0, locals := 46 }) s m args below meth c H locs 0 0 (MQ below (va_Qv (fun f1 => (f1 (g.lk M 23) = .inl (g.ac (g.lk M 23), 80, .inl (upd hUA k9 (bI (mU (spf (hUA k9) (hUB k9) (hAA k9) (hBB k9) (hUA (k9 + 1)) (hUB (k9 + 1)) (hAA (k9 + 1)) (hBB (k9 + 1))) (spu (hUA k9) (hUB k9) (hAA k9) (hBB k9) (hUA (k9 + 1)) (hUB (k9 + 1)) (hAA (k9 + 1)) (hBB (k9 + 1)))))))) ∧ (f1 (g.lk M 24) = .inl (g.ac (g.lk M 24), 80, .inl (upd hUB k9 (bI (mU (spf (hUA k9) (hUB k9) (hAA k9) (hBB k9) (hUA (k9 + 1)) (hUB (k9 + 1)) (hAA (k9 + 1)) (hBB (k9 + 1))) (spv (hUA k9) (hUB k9) (hAA k9) (hBB k9) (hUA (k9 + 1)) (hUB (k9 + 1)) (hAA (k9 + 1)) (hBB (k9 + 1)))))))) ∧ (f1 (g.lk M 21) = .inl (g.ac (g.lk M 21), 80, .inr (.inl (vp_updL hAA k9 (mV (spf (hUA k9) (hUB k9) (hAA k9) (hBB k9) (hUA (k9 + 1)) (hUB (k9 + 1)) (hAA (k9 + 1)) (hBB (k9 + 1))) (spu (hUA k9) (hUB k9) (hAA k9) (hBB k9) (hUA (k9 + 1)) (hUB (k9 + 1)) (hAA (k9 + 1)) (hBB (k9 + 1)))))))) ∧ (f1 (g.lk M 22) = .inl (g.ac (g.lk M 22), 80, .inr (.inl (vp_updL hBB k9 (mV (spf (hUA k9) (hUB k9) (hAA k9) (hBB k9) (hUA (k9 + 1)) (hUB (k9 + 1)) (hAA (k9 + 1)) (hBB (k9 + 1))) (spv (hUA k9) (hUB k9) (hAA k9) (hBB k9) (hUA (k9 + 1)) (hUB (k9 + 1)) (hAA (k9 + 1)) (hBB (k9 + 1)))))))) ∧ (IV g f1) ∧ (un [53, 54, 55, 56] g f f1)) (pc_out g s.heap.size) (pc_A g s.heap.size)) args s 0 0 (pc_A g s.heap.size)) (F0 m 93 ls [.int bj2]) := by
    intro bj2 hbj3 H locs hP hD hS
    subst hbj3
    refine lv_istore_n (lv' := [(2, .int (bI (spN (hUA k9) (hUB k9) (hAA k9) (hBB k9) (hUA (k9 + 1)) (hUB (k9 + 1)) (hAA (k9 + 1)) (hBB (k9 + 1))))), (0, .ref M), (1, .int (nI k9))]) hx hb d_M_spanProduct_93 rfl hl (by decide) rfl (fun ls hl => ?_)
    have jn4 : ∀ (bj5 : Int32), bj5 = (bI (spF (hUA k9) (hUB k9) (hUA (k9 + 1)) (hUB (k9 + 1)))) → ∀ (H : Heap) (locs : List Loc), va_P g.D vcl (va_pl g.LP f) H → va_D (pc_A g s.heap.size) (va_pl g.LP f) → va_S (pc_A g s.heap.size) s.heap H locs → W p l e ({ frames := 2, cells := 0, slots := 0, locals := 46 }) s m args below meth c H locs 0 0 (MQ below (va_Qv (fun f1 => (f1 (g.lk M 23) = .inl (g.ac (g.lk M 23), 80, .inl (upd hUA k9 (bI (mU (spf (hUA k9) (hUB k9) (hAA k9) (hBB k9) (hUA (k9 + 1)) (hUB (k9 + 1)) (hAA (k9 + 1)) (hBB (k9 + 1))) (spu (hUA k9) (hUB k9) (hAA k9) (hBB k9) (hUA (k9 + 1)) (hUB (k9 + 1)) (hAA (k9 + 1)) (hBB (k9 + 1)))))))) ∧ (f1 (g.lk M 24) = .inl (g.ac (g.lk M 24), 80, .inl (upd hUB k9 (bI (mU (spf (hUA k9) (hUB k9) (hAA k9) (hBB k9) (hUA (k9 + 1)) (hUB (k9 + 1)) (hAA (k9 + 1)) (hBB (k9 + 1))) (spv (hUA k9) (hUB k9) (hAA k9) (hBB k9) (hUA (k9 + 1)) (hUB (k9 + 1)) (hAA (k9 + 1)) (hBB (k9 + 1)))))))) ∧ (f1 (g.lk M 21) = .inl (g.ac (g.lk M 21), 80, .inr (.inl (vp_updL hAA k9 (mV (spf (hUA k9) (hUB k9) (hAA k9) (hBB k9) (hUA (k9 + 1)) (hUB (k9 + 1)) (hAA (k9 + 1)) (hBB (k9 + 1))) (spu (hUA k9) (hUB k9) (hAA k9) (hBB k9) (hUA (k9 + 1)) (hUB (k9 + 1)) (hAA (k9 + 1)) (hBB (k9 + 1)))))))) ∧ (f1 (g.lk M 22) = .inl (g.ac (g.lk M 22), 80, .inr (.inl (vp_updL hBB k9 (mV (spf (hUA k9) (hUB k9) (hAA k9) (hBB k9) (hUA (k9 + 1)) (hUB (k9 + 1)) (hAA (k9 + 1)) (hBB (k9 + 1))) (spv (hUA k9) (hUB k9) (hAA k9) (hBB k9) (hUA (k9 + 1)) (hUB (k9 + 1)) (hAA (k9 + 1)) (hBB (k9 + 1)))))))) ∧ (IV g f1) ∧ (un [53, 54, 55, 56] g f f1)) (pc_out g s.heap.size) (pc_A g s.heap.size)) args s 0 0 (pc_A g s.heap.size)) (F0 m 139 ls [.int bj5]) := by
      intro bj5 hbj6 H locs hP hD hS
      subst hbj6
      refine lv_istore_n (lv' := [(3, .int (bI (spF (hUA k9) (hUB k9) (hUA (k9 + 1)) (hUB (k9 + 1))))), (2, .int (bI (spN (hUA k9) (hUB k9) (hAA k9) (hBB k9) (hUA (k9 + 1)) (hUB (k9 + 1)) (hAA (k9 + 1)) (hBB (k9 + 1))))), (0, .ref M), (1, .int (nI k9))]) hx hb d_M_spanProduct_139 rfl hl (by decide) rfl (fun ls hl => ?_)
      refine lv_iload_n hx hb d_M_spanProduct_140 rfl (lv_at hl 1 rfl) ?_
      refine lv_if_ne (tgt := 148) hx hb d_M_spanProduct_141 (by decide) (fun b7 => ?_) (fun b7 => ?_)
      · skip
        replace b7 : ¬ (bI (spN (hUA k9) (hUB k9) (hAA k9) (hBB k9) (hUA (k9 + 1)) (hUB (k9 + 1)) (hAA (k9 + 1)) (hBB (k9 + 1)))) = nI 0 := b7
        replace b7 := bI_1 b7
        refine lv_aload_n hx hb d_M_spanProduct_148 rfl (lv_at hl 2 rfl) ?_
        refine lv_iload_n hx hb d_M_spanProduct_149 rfl (lv_at hl 3 rfl) ?_
        refine lv_lconst (v := nL 0) hx hb d_M_spanProduct_150 (by decide) ?_
        refine lv_lconst (v := nL 0) hx hb d_M_spanProduct_151 (by decide) ?_
        have jn8 : ∀ (bj9 : Int32), bj9 = (bI (!(spN (hUA k9) (hUB k9) (hAA k9) (hBB k9) (hUA (k9 + 1)) (hUB (k9 + 1)) (hAA (k9 + 1)) (hBB (k9 + 1))))) → ∀ (H : Heap) (locs : List Loc), va_P g.D vcl (va_pl g.LP f) H → va_D (pc_A g s.heap.size) (va_pl g.LP f) → va_S (pc_A g s.heap.size) s.heap H locs → W p l e ({ frames := 2, cells := 0, slots := 0, locals := 46 }) s m args below meth c H locs 0 0 (MQ below (va_Qv (fun f1 => (f1 (g.lk M 23) = .inl (g.ac (g.lk M 23), 80, .inl (upd hUA k9 (bI (mU (spf (hUA k9) (hUB k9) (hAA k9) (hBB k9) (hUA (k9 + 1)) (hUB (k9 + 1)) (hAA (k9 + 1)) (hBB (k9 + 1))) (spu (hUA k9) (hUB k9) (hAA k9) (hBB k9) (hUA (k9 + 1)) (hUB (k9 + 1)) (hAA (k9 + 1)) (hBB (k9 + 1)))))))) ∧ (f1 (g.lk M 24) = .inl (g.ac (g.lk M 24), 80, .inl (upd hUB k9 (bI (mU (spf (hUA k9) (hUB k9) (hAA k9) (hBB k9) (hUA (k9 + 1)) (hUB (k9 + 1)) (hAA (k9 + 1)) (hBB (k9 + 1))) (spv (hUA k9) (hUB k9) (hAA k9) (hBB k9) (hUA (k9 + 1)) (hUB (k9 + 1)) (hAA (k9 + 1)) (hBB (k9 + 1)))))))) ∧ (f1 (g.lk M 21) = .inl (g.ac (g.lk M 21), 80, .inr (.inl (vp_updL hAA k9 (mV (spf (hUA k9) (hUB k9) (hAA k9) (hBB k9) (hUA (k9 + 1)) (hUB (k9 + 1)) (hAA (k9 + 1)) (hBB (k9 + 1))) (spu (hUA k9) (hUB k9) (hAA k9) (hBB k9) (hUA (k9 + 1)) (hUB (k9 + 1)) (hAA (k9 + 1)) (hBB (k9 + 1)))))))) ∧ (f1 (g.lk M 22) = .inl (g.ac (g.lk M 22), 80, .inr (.inl (vp_updL hBB k9 (mV (spf (hUA k9) (hUB k9) (hAA k9) (hBB k9) (hUA (k9 + 1)) (hUB (k9 + 1)) (hAA (k9 + 1)) (hBB (k9 + 1))) (spv (hUA k9) (hUB k9) (hAA k9) (hBB k9) (hUA (k9 + 1)) (hUB (k9 + 1)) (hAA (k9 + 1)) (hBB (k9 + 1)))))))) ∧ (IV g f1) ∧ (un [53, 54, 55, 56] g f f1)) (pc_out g s.heap.size) (pc_A g s.heap.size)) args s 0 0 (pc_A g s.heap.size)) (F0 m 161 ls [.int bj9, .long (nL 0), .long (nL 0), .int (nI k9), .ref M]) := by
          intro bj9 hbj10 H locs hP hD hS
          subst hbj10
          have jn11 : ∀ (bj12 : Int32), bj12 = (bI (!(spN (hUA k9) (hUB k9) (hAA k9) (hBB k9) (hUA (k9 + 1)) (hUB (k9 + 1)) (hAA (k9 + 1)) (hBB (k9 + 1))))) → ∀ (H : Heap) (locs : List Loc), va_P g.D vcl (va_pl g.LP f) H → va_D (pc_A g s.heap.size) (va_pl g.LP f) → va_S (pc_A g s.heap.size) s.heap H locs → W p l e ({ frames := 2, cells := 0, slots := 0, locals := 46 }) s m args below meth c H locs 0 0 (MQ below (va_Qv (fun f1 => (f1 (g.lk M 23) = .inl (g.ac (g.lk M 23), 80, .inl (upd hUA k9 (bI (mU (spf (hUA k9) (hUB k9) (hAA k9) (hBB k9) (hUA (k9 + 1)) (hUB (k9 + 1)) (hAA (k9 + 1)) (hBB (k9 + 1))) (spu (hUA k9) (hUB k9) (hAA k9) (hBB k9) (hUA (k9 + 1)) (hUB (k9 + 1)) (hAA (k9 + 1)) (hBB (k9 + 1)))))))) ∧ (f1 (g.lk M 24) = .inl (g.ac (g.lk M 24), 80, .inl (upd hUB k9 (bI (mU (spf (hUA k9) (hUB k9) (hAA k9) (hBB k9) (hUA (k9 + 1)) (hUB (k9 + 1)) (hAA (k9 + 1)) (hBB (k9 + 1))) (spv (hUA k9) (hUB k9) (hAA k9) (hBB k9) (hUA (k9 + 1)) (hUB (k9 + 1)) (hAA (k9 + 1)) (hBB (k9 + 1)))))))) ∧ (f1 (g.lk M 21) = .inl (g.ac (g.lk M 21), 80, .inr (.inl (vp_updL hAA k9 (mV (spf (hUA k9) (hUB k9) (hAA k9) (hBB k9) (hUA (k9 + 1)) (hUB (k9 + 1)) (hAA (k9 + 1)) (hBB (k9 + 1))) (spu (hUA k9) (hUB k9) (hAA k9) (hBB k9) (hUA (k9 + 1)) (hUB (k9 + 1)) (hAA (k9 + 1)) (hBB (k9 + 1)))))))) ∧ (f1 (g.lk M 22) = .inl (g.ac (g.lk M 22), 80, .inr (.inl (vp_updL hBB k9 (mV (spf (hUA k9) (hUB k9) (hAA k9) (hBB k9) (hUA (k9 + 1)) (hUB (k9 + 1)) (hAA (k9 + 1)) (hBB (k9 + 1))) (spv (hUA k9) (hUB k9) (hAA k9) (hBB k9) (hUA (k9 + 1)) (hUB (k9 + 1)) (hAA (k9 + 1)) (hBB (k9 + 1)))))))) ∧ (IV g f1) ∧ (un [53, 54, 55, 56] g f f1)) (pc_out g s.heap.size) (pc_A g s.heap.size)) args s 0 0 (pc_A g s.heap.size)) (F0 m 170 ls [.int bj12, .int (bI (!(spN (hUA k9) (hUB k9) (hAA k9) (hBB k9) (hUA (k9 + 1)) (hUB (k9 + 1)) (hAA (k9 + 1)) (hBB (k9 + 1))))), .long (nL 0), .long (nL 0), .int (nI k9), .ref M]) := by
            intro bj12 hbj13 H locs hP hD hS
            subst hbj13
            obtain ⟨th_15, n_16, dr_17, sz_18, ix_19, dp_20, wt_21, op_22, tp_23, wa_24, gi_25, pc_26, st_27, tr_28, sp_29, ma_30, lg_31, du_32, e14, c33, c34, c35, c36, c37, c38, c39, c40, c41, c42, c43, c44, c45, c46, c47⟩ := oc_11.of t_M (hI.1 M)
            refine pcc_v (va_runV (C := "BigRunnerModel") (As := [.int (nI k9), .long (nL 0), .long (nL 0), .int (bI (!(spN (hUA k9) (hUB k9) (hAA k9) (hBB k9) (hUA (k9 + 1)) (hUB (k9 + 1)) (hAA (k9 + 1)) (hBB (k9 + 1))))), .int (bI (!(spN (hUA k9) (hUB k9) (hAA k9) (hBB k9) (hUA (k9 + 1)) (hUB (k9 + 1)) (hAA (k9 + 1)) (hBB (k9 + 1)))))]) (rest := []) ⟨hx, hb, hml, hown, tb_nil⟩ (m2_interval l g H.size f M k9 ((nL 0)) ((nL 0)) ((!(spN (hUA k9) (hUB k9) (hAA k9) (hBB k9) (hUA (k9 + 1)) (hUB (k9 + 1)) (hAA (k9 + 1)) (hBB (k9 + 1))))) ((!(spN (hUA k9) (hUB k9) (hAA k9) (hBB k9) (hUA (k9 + 1)) (hUB (k9 + 1)) (hAA (k9 + 1)) (hBB (k9 + 1))))) hUA hUB hAA hBB hL t_M hI (by omega) eUA eUB eAA eBB) ⟨(callB_of 5 (tb_one (wd_1160 hB _)) tb_good1 rfl rfl rfl (wd_82 hB _) (wd_1157 hB _) (by decide +kernel) ⟨Nat.le_of_ble_eq_true rfl, Nat.le_of_ble_eq_true rfl⟩), (wd_1159 hB _), (wd_53 hB _)⟩ ⟨pe_bl, pg_recv (ci := 10) hK hP (lo_in hL t_M (by decide)) e14 rfl, pe_pre hB hK hP hD⟩ rfl rfl hl.1 rfl (lv_room (Nat.le_of_ble_eq_true rfl)) d_M_spanProduct_170 ⟨Nat.le_of_ble_eq_true rfl, Nat.le_of_ble_eq_true rfl⟩) hS (fun f49 H locs hq50 hP hD hS => ?_)
            obtain ⟨aUA_51, aUB_52, aAA_53, aBB_54, hI1_55, hu1_56⟩ := hq50
            have hu := hu.tr hu1_56 (by decide)
            have e14 := hu1_56.at t_M (by decide) e14
            exact pe_vret hx hb hr hlocks hK hP hD hS d_M_spanProduct_173 ⟨(aUA_51.trans (by first | (simp [spf, spu, spv, b7]; done) | contradiction)), (aUB_52.trans (by first | (simp [spf, spu, spv, b7]; done) | contradiction)), (aAA_53.trans (by first | (simp [spf, spu, spv, b7]; done) | contradiction)), (aBB_54.trans (by first | (simp [spf, spu, spv, b7]; done) | contradiction)), hI1_55, hu⟩
          refine lv_iload_n hx hb d_M_spanProduct_161 rfl (lv_at hl 1 rfl) ?_
          refine lv_if_ne (tgt := 169) hx hb d_M_spanProduct_162 (by decide) (fun b57 => ?_) (fun b57 => ?_)
          · skip
            replace b57 : ¬ (bI (spN (hUA k9) (hUB k9) (hAA k9) (hBB k9) (hUA (k9 + 1)) (hUB (k9 + 1)) (hAA (k9 + 1)) (hBB (k9 + 1)))) = nI 0 := b57
            replace b57 := bI_1 b57
            refine lv_iconst (v := nI 0) hx hb d_M_spanProduct_169 (by decide) ?_
            exact jn11 ((nI 0)) (by first | (simp [bI, b7, b57]; done) | contradiction) _ _ hP hD hS
          · skip
            replace b57 : (bI (spN (hUA k9) (hUB k9) (hAA k9) (hBB k9) (hUA (k9 + 1)) (hUB (k9 + 1)) (hAA (k9 + 1)) (hBB (k9 + 1)))) = nI 0 := b57
            exact absurd (b7.symm.trans (show _ = false from bI_0 b57)) (by decide)
        refine lv_iload_n hx hb d_M_spanProduct_152 rfl (lv_at hl 1 rfl) ?_
        refine lv_if_ne (tgt := 160) hx hb d_M_spanProduct_153 (by decide) (fun b58 => ?_) (fun b58 => ?_)
        · skip
          replace b58 : ¬ (bI (spN (hUA k9) (hUB k9) (hAA k9) (hBB k9) (hUA (k9 + 1)) (hUB (k9 + 1)) (hAA (k9 + 1)) (hBB (k9 + 1)))) = nI 0 := b58
          replace b58 := bI_1 b58
          refine lv_iconst (v := nI 0) hx hb d_M_spanProduct_160 (by decide) ?_
          exact jn8 ((nI 0)) (by first | (simp [bI, b7, b58]; done) | contradiction) _ _ hP hD hS
        · skip
          replace b58 : (bI (spN (hUA k9) (hUB k9) (hAA k9) (hBB k9) (hUA (k9 + 1)) (hUB (k9 + 1)) (hAA (k9 + 1)) (hBB (k9 + 1)))) = nI 0 := b58
          exact absurd (b7.symm.trans (show _ = false from bI_0 b58)) (by decide)
      · skip
        replace b7 : (bI (spN (hUA k9) (hUB k9) (hAA k9) (hBB k9) (hUA (k9 + 1)) (hUB (k9 + 1)) (hAA (k9 + 1)) (hBB (k9 + 1)))) = nI 0 := b7
        replace b7 := bI_0 b7
        refine lv_iload_n hx hb d_M_spanProduct_144 rfl (lv_at hl 0 rfl) ?_
        refine lv_if_eq (tgt := 174) hx hb d_M_spanProduct_145 (by decide) (fun b59 => ?_) (fun b59 => ?_)
        · skip
          replace b59 : (bI (spF (hUA k9) (hUB k9) (hUA (k9 + 1)) (hUB (k9 + 1)))) = nI 0 := b59
          replace b59 := bI_0 b59
          refine lv_aload_n hx hb d_M_spanProduct_174 rfl (lv_at hl 2 rfl) ?_
          obtain ⟨th_61, n_62, dr_63, sz_64, ix_65, dp_66, wt_67, op_68, tp_69, wa_70, gi_71, pc_72, st_73, tr_74, sp_75, ma_76, lg_77, du_78, e60, c79, c80, c81, c82, c83, c84, c85, c86, c87, c88, c89, c90, c91, c92, c93⟩ := oc_11.of t_M (hI.1 M)
          refine pf_get (v := .ref (g.lk M 21)) (C := "BigRunnerModel") (T := FT10) (N := 45) hx hb (hw10 hB _) (fun _ h9 => h9) hown hK hP (lo_in hL t_M (by decide)) e60 rfl 21 (by decide) (wd_968 hB _) rfl d_M_spanProduct_175 ?_
          refine lv_iload_n hx hb d_M_spanProduct_178 rfl (lv_at hl 3 rfl) ?_
          refine pf_lald (i := k9) hx hb hK hP (lo_in hL (lo_k11_21 hL _ t_M) (by decide)) eAA (lo_t53 hL _ (lo_k11_21 hL _ t_M)) (by omega) (by decide) d_M_spanProduct_179 ?_
          refine lv_aload_n hx hb d_M_spanProduct_180 rfl (lv_at hl 2 rfl) ?_
          refine pf_get (v := .ref (g.lk M 21)) (C := "BigRunnerModel") (T := FT10) (N := 45) hx hb (hw10 hB _) (fun _ h9 => h9) hown hK hP (lo_in hL t_M (by decide)) e60 rfl 21 (by decide) (wd_968 hB _) rfl d_M_spanProduct_181 ?_
          refine lv_iload_n hx hb d_M_spanProduct_184 rfl (lv_at hl 3 rfl) ?_
          refine lv_iconst (v := nI 1) hx hb d_M_spanProduct_185 (by decide) ?_
          refine pf_iaddN (x := k9) (y := 1) hx hb d_M_spanProduct_186 ?_
          refine pf_lald (i := k9 + 1) hx hb hK hP (lo_in hL (lo_k11_21 hL _ t_M) (by decide)) eAA (lo_t53 hL _ (lo_k11_21 hL _ t_M)) (by omega) (by decide) d_M_spanProduct_187 ?_
          refine pcc_l (va_runS (As := [.long (hAA k9), .long (hAA (k9 + 1))]) (rest := []) ⟨hx, hb, hml, hown, tb_nil⟩ (m2_times l g H.size f ((hAA k9)) ((hAA (k9 + 1))) hL hI.1) ⟨(callB_of 2 (tb_one (wd_1169 hB _)) tb_good1 rfl rfl rfl (wd_82 hB _) (wd_1167 hB _) (by decide +kernel) ⟨Nat.le_of_ble_eq_true rfl, Nat.le_of_ble_eq_true rfl⟩), (wd_1168 hB _)⟩ ⟨pe_bl, pe_pre hB hK hP hD⟩ rfl rfl hl.1 rfl (lv_room (Nat.le_of_ble_eq_true rfl)) d_M_spanProduct_188 ⟨Nat.le_of_ble_eq_true rfl, Nat.le_of_ble_eq_true rfl⟩) hS (fun r94 f95 H locs hq96 hP hD hS => ?_)
          obtain ⟨qv_97, rfl⟩ := hq96
          subst qv_97
          refine lv_lstore (lv' := [(4, .long (mT (hAA k9) (hAA (k9 + 1)))), (3, .int (bI (spF (hUA k9) (hUB k9) (hUA (k9 + 1)) (hUB (k9 + 1))))), (2, .int (bI (spN (hUA k9) (hUB k9) (hAA k9) (hBB k9) (hUA (k9 + 1)) (hUB (k9 + 1)) (hAA (k9 + 1)) (hBB (k9 + 1))))), (0, .ref M), (1, .int (nI k9))]) hx hb d_M_spanProduct_191 hl (by decide) rfl (fun ls hl => ?_)
          refine lv_aload_n hx hb d_M_spanProduct_193 rfl (lv_at hl 3 rfl) ?_
          refine pf_get (v := .ref (g.lk M 21)) (C := "BigRunnerModel") (T := FT10) (N := 45) hx hb (hw10 hB _) (fun _ h9 => h9) hown hK hP (lo_in hL t_M (by decide)) e60 rfl 21 (by decide) (wd_968 hB _) rfl d_M_spanProduct_194 ?_
          refine lv_iload_n hx hb d_M_spanProduct_197 rfl (lv_at hl 4 rfl) ?_
          refine pf_lald (i := k9) hx hb hK hP (lo_in hL (lo_k11_21 hL _ t_M) (by decide)) eAA (lo_t53 hL _ (lo_k11_21 hL _ t_M)) (by omega) (by decide) d_M_spanProduct_198 ?_
          refine lv_aload_n hx hb d_M_spanProduct_199 rfl (lv_at hl 3 rfl) ?_
          refine pf_get (v := .ref (g.lk M 22)) (C := "BigRunnerModel") (T := FT10) (N := 45) hx hb (hw10 hB _) (fun _ h9 => h9) hown hK hP (lo_in hL t_M (by decide)) e60 rfl 22 (by decide) (wd_969 hB _) rfl d_M_spanProduct_200 ?_
          refine lv_iload_n hx hb d_M_spanProduct_203 rfl (lv_at hl 4 rfl) ?_
          refine lv_iconst (v := nI 1) hx hb d_M_spanProduct_204 (by decide) ?_
          refine pf_iaddN (x := k9) (y := 1) hx hb d_M_spanProduct_205 ?_
          refine pf_lald (i := k9 + 1) hx hb hK hP (lo_in hL (lo_k11_22 hL _ t_M) (by decide)) eBB (lo_t54 hL _ (lo_k11_22 hL _ t_M)) (by omega) (by decide) d_M_spanProduct_206 ?_
          refine pcc_l (va_runS (As := [.long (hAA k9), .long (hBB (k9 + 1))]) (rest := []) ⟨hx, hb, hml, hown, tb_nil⟩ (m2_times l g H.size f ((hAA k9)) ((hBB (k9 + 1))) hL hI.1) ⟨(callB_of 2 (tb_one (wd_1169 hB _)) tb_good1 rfl rfl rfl (wd_82 hB _) (wd_1167 hB _) (by decide +kernel) ⟨Nat.le_of_ble_eq_true rfl, Nat.le_of_ble_eq_true rfl⟩), (wd_1168 hB _)⟩ ⟨pe_bl, pe_pre hB hK hP hD⟩ rfl rfl hl.1 rfl (lv_room (Nat.le_of_ble_eq_true rfl)) d_M_spanProduct_207 ⟨Nat.le_of_ble_eq_true rfl, Nat.le_of_ble_eq_true rfl⟩) hS (fun r98 f99 H locs hq100 hP hD hS => ?_)
          obtain ⟨qv_101, rfl⟩ := hq100
          subst qv_101
          refine lv_lstore (lv' := [(6, .long (mT (hAA k9) (hBB (k9 + 1)))), (4, .long (mT (hAA k9) (hAA (k9 + 1)))), (3, .int (bI (spF (hUA k9) (hUB k9) (hUA (k9 + 1)) (hUB (k9 + 1))))), (2, .int (bI (spN (hUA k9) (hUB k9) (hAA k9) (hBB k9) (hUA (k9 + 1)) (hUB (k9 + 1)) (hAA (k9 + 1)) (hBB (k9 + 1))))), (0, .ref M), (1, .int (nI k9))]) hx hb d_M_spanProduct_210 hl (by decide) rfl (fun ls hl => ?_)
          refine lv_aload_n hx hb d_M_spanProduct_212 rfl (lv_at hl 4 rfl) ?_
          refine pf_get (v := .ref (g.lk M 22)) (C := "BigRunnerModel") (T := FT10) (N := 45) hx hb (hw10 hB _) (fun _ h9 => h9) hown hK hP (lo_in hL t_M (by decide)) e60 rfl 22 (by decide) (wd_969 hB _) rfl d_M_spanProduct_213 ?_
          refine lv_iload_n hx hb d_M_spanProduct_216 rfl (lv_at hl 5 rfl) ?_
          refine pf_lald (i := k9) hx hb hK hP (lo_in hL (lo_k11_22 hL _ t_M) (by decide)) eBB (lo_t54 hL _ (lo_k11_22 hL _ t_M)) (by omega) (by decide) d_M_spanProduct_217 ?_
          refine lv_aload_n hx hb d_M_spanProduct_218 rfl (lv_at hl 4 rfl) ?_
          refine pf_get (v := .ref (g.lk M 21)) (C := "BigRunnerModel") (T := FT10) (N := 45) hx hb (hw10 hB _) (fun _ h9 => h9) hown hK hP (lo_in hL t_M (by decide)) e60 rfl 21 (by decide) (wd_968 hB _) rfl d_M_spanProduct_219 ?_
          refine lv_iload_n hx hb d_M_spanProduct_222 rfl (lv_at hl 5 rfl) ?_
          refine lv_iconst (v := nI 1) hx hb d_M_spanProduct_223 (by decide) ?_
          refine pf_iaddN (x := k9) (y := 1) hx hb d_M_spanProduct_224 ?_
          refine pf_lald (i := k9 + 1) hx hb hK hP (lo_in hL (lo_k11_21 hL _ t_M) (by decide)) eAA (lo_t53 hL _ (lo_k11_21 hL _ t_M)) (by omega) (by decide) d_M_spanProduct_225 ?_
          refine pcc_l (va_runS (As := [.long (hBB k9), .long (hAA (k9 + 1))]) (rest := []) ⟨hx, hb, hml, hown, tb_nil⟩ (m2_times l g H.size f ((hBB k9)) ((hAA (k9 + 1))) hL hI.1) ⟨(callB_of 2 (tb_one (wd_1169 hB _)) tb_good1 rfl rfl rfl (wd_82 hB _) (wd_1167 hB _) (by decide +kernel) ⟨Nat.le_of_ble_eq_true rfl, Nat.le_of_ble_eq_true rfl⟩), (wd_1168 hB _)⟩ ⟨pe_bl, pe_pre hB hK hP hD⟩ rfl rfl hl.1 rfl (lv_room (Nat.le_of_ble_eq_true rfl)) d_M_spanProduct_226 ⟨Nat.le_of_ble_eq_true rfl, Nat.le_of_ble_eq_true rfl⟩) hS (fun r102 f103 H locs hq104 hP hD hS => ?_)
          obtain ⟨qv_105, rfl⟩ := hq104
          subst qv_105
          refine lv_lstore (lv' := [(8, .long (mT (hBB k9) (hAA (k9 + 1)))), (6, .long (mT (hAA k9) (hBB (k9 + 1)))), (4, .long (mT (hAA k9) (hAA (k9 + 1)))), (3, .int (bI (spF (hUA k9) (hUB k9) (hUA (k9 + 1)) (hUB (k9 + 1))))), (2, .int (bI (spN (hUA k9) (hUB k9) (hAA k9) (hBB k9) (hUA (k9 + 1)) (hUB (k9 + 1)) (hAA (k9 + 1)) (hBB (k9 + 1))))), (0, .ref M), (1, .int (nI k9))]) hx hb d_M_spanProduct_229 hl (by decide) rfl (fun ls hl => ?_)
          refine lv_aload_n hx hb d_M_spanProduct_231 rfl (lv_at hl 5 rfl) ?_
          refine pf_get (v := .ref (g.lk M 22)) (C := "BigRunnerModel") (T := FT10) (N := 45) hx hb (hw10 hB _) (fun _ h9 => h9) hown hK hP (lo_in hL t_M (by decide)) e60 rfl 22 (by decide) (wd_969 hB _) rfl d_M_spanProduct_232 ?_
          refine lv_iload_n hx hb d_M_spanProduct_235 rfl (lv_at hl 6 rfl) ?_
          refine pf_lald (i := k9) hx hb hK hP (lo_in hL (lo_k11_22 hL _ t_M) (by decide)) eBB (lo_t54 hL _ (lo_k11_22 hL _ t_M)) (by omega) (by decide) d_M_spanProduct_236 ?_
          refine lv_aload_n hx hb d_M_spanProduct_237 rfl (lv_at hl 5 rfl) ?_
          refine pf_get (v := .ref (g.lk M 22)) (C := "BigRunnerModel") (T := FT10) (N := 45) hx hb (hw10 hB _) (fun _ h9 => h9) hown hK hP (lo_in hL t_M (by decide)) e60 rfl 22 (by decide) (wd_969 hB _) rfl d_M_spanProduct_238 ?_
          refine lv_iload_n hx hb d_M_spanProduct_241 rfl (lv_at hl 6 rfl) ?_
          refine lv_iconst (v := nI 1) hx hb d_M_spanProduct_242 (by decide) ?_
          refine pf_iaddN (x := k9) (y := 1) hx hb d_M_spanProduct_243 ?_
          refine pf_lald (i := k9 + 1) hx hb hK hP (lo_in hL (lo_k11_22 hL _ t_M) (by decide)) eBB (lo_t54 hL _ (lo_k11_22 hL _ t_M)) (by omega) (by decide) d_M_spanProduct_244 ?_
          refine pcc_l (va_runS (As := [.long (hBB k9), .long (hBB (k9 + 1))]) (rest := []) ⟨hx, hb, hml, hown, tb_nil⟩ (m2_times l g H.size f ((hBB k9)) ((hBB (k9 + 1))) hL hI.1) ⟨(callB_of 2 (tb_one (wd_1169 hB _)) tb_good1 rfl rfl rfl (wd_82 hB _) (wd_1167 hB _) (by decide +kernel) ⟨Nat.le_of_ble_eq_true rfl, Nat.le_of_ble_eq_true rfl⟩), (wd_1168 hB _)⟩ ⟨pe_bl, pe_pre hB hK hP hD⟩ rfl rfl hl.1 rfl (lv_room (Nat.le_of_ble_eq_true rfl)) d_M_spanProduct_245 ⟨Nat.le_of_ble_eq_true rfl, Nat.le_of_ble_eq_true rfl⟩) hS (fun r106 f107 H locs hq108 hP hD hS => ?_)
          obtain ⟨qv_109, rfl⟩ := hq108
          subst qv_109
          refine lv_lstore (lv' := [(10, .long (mT (hBB k9) (hBB (k9 + 1)))), (8, .long (mT (hBB k9) (hAA (k9 + 1)))), (6, .long (mT (hAA k9) (hBB (k9 + 1)))), (4, .long (mT (hAA k9) (hAA (k9 + 1)))), (3, .int (bI (spF (hUA k9) (hUB k9) (hUA (k9 + 1)) (hUB (k9 + 1))))), (2, .int (bI (spN (hUA k9) (hUB k9) (hAA k9) (hBB k9) (hUA (k9 + 1)) (hUB (k9 + 1)) (hAA (k9 + 1)) (hBB (k9 + 1))))), (0, .ref M), (1, .int (nI k9))]) hx hb d_M_spanProduct_248 hl (by decide) rfl (fun ls hl => ?_)
          refine lv_aload_n hx hb d_M_spanProduct_250 rfl (lv_at hl 6 rfl) ?_
          refine lv_iload_n hx hb d_M_spanProduct_251 rfl (lv_at hl 7 rfl) ?_
          refine lv_lload hx hb d_M_spanProduct_252 (lv_at hl 3 rfl) ?_
          refine lv_lload hx hb d_M_spanProduct_254 (lv_at hl 2 rfl) ?_
          refine pcc_l (va_runS (As := [.long (mT (hAA k9) (hAA (k9 + 1))), .long (mT (hAA k9) (hBB (k9 + 1)))]) (rest := [.int (nI k9), .ref M]) ⟨hx, hb, hml, hown, tb_nil⟩ (m2_less l g H.size f ((mT (hAA k9) (hAA (k9 + 1)))) ((mT (hAA k9) (hBB (k9 + 1)))) hL hI.1) ⟨(callB_of 2 (tb_one (wd_1176 hB _)) tb_good1 rfl rfl rfl (wd_82 hB _) (wd_1174 hB _) (by decide +kernel) ⟨Nat.le_of_ble_eq_true rfl, Nat.le_of_ble_eq_true rfl⟩), (wd_1175 hB _)⟩ ⟨pe_bl, pe_pre hB hK hP hD⟩ rfl rfl hl.1 rfl (lv_room (Nat.le_of_ble_eq_true rfl)) d_M_spanProduct_256 ⟨Nat.le_of_ble_eq_true rfl, Nat.le_of_ble_eq_true rfl⟩) hS (fun r110 f111 H locs hq112 hP hD hS => ?_)
          obtain ⟨qv_113, rfl⟩ := hq112
          subst qv_113
          refine lv_lload hx hb d_M_spanProduct_259 (lv_at hl 1 rfl) ?_
          refine lv_lload hx hb d_M_spanProduct_261 (lv_at hl 0 rfl) ?_
          refine pcc_l (va_runS (As := [.long (mT (hBB k9) (hAA (k9 + 1))), .long (mT (hBB k9) (hBB (k9 + 1)))]) (rest := [.long (mless (mT (hAA k9) (hAA (k9 + 1))) (mT (hAA k9) (hBB (k9 + 1)))), .int (nI k9), .ref M]) ⟨hx, hb, hml, hown, tb_nil⟩ (m2_less l g H.size f ((mT (hBB k9) (hAA (k9 + 1)))) ((mT (hBB k9) (hBB (k9 + 1)))) hL hI.1) ⟨(callB_of 2 (tb_one (wd_1176 hB _)) tb_good1 rfl rfl rfl (wd_82 hB _) (wd_1174 hB _) (by decide +kernel) ⟨Nat.le_of_ble_eq_true rfl, Nat.le_of_ble_eq_true rfl⟩), (wd_1175 hB _)⟩ ⟨pe_bl, pe_pre hB hK hP hD⟩ rfl rfl hl.1 rfl (lv_room (Nat.le_of_ble_eq_true rfl)) d_M_spanProduct_263 ⟨Nat.le_of_ble_eq_true rfl, Nat.le_of_ble_eq_true rfl⟩) hS (fun r114 f115 H locs hq116 hP hD hS => ?_)
          obtain ⟨qv_117, rfl⟩ := hq116
          subst qv_117
          refine pcc_l (va_runS (As := [.long (mless (mT (hAA k9) (hAA (k9 + 1))) (mT (hAA k9) (hBB (k9 + 1)))), .long (mless (mT (hBB k9) (hAA (k9 + 1))) (mT (hBB k9) (hBB (k9 + 1))))]) (rest := [.int (nI k9), .ref M]) ⟨hx, hb, hml, hown, tb_nil⟩ (m2_less l g H.size f ((mless (mT (hAA k9) (hAA (k9 + 1))) (mT (hAA k9) (hBB (k9 + 1))))) ((mless (mT (hBB k9) (hAA (k9 + 1))) (mT (hBB k9) (hBB (k9 + 1))))) hL hI.1) ⟨(callB_of 2 (tb_one (wd_1176 hB _)) tb_good1 rfl rfl rfl (wd_82 hB _) (wd_1174 hB _) (by decide +kernel) ⟨Nat.le_of_ble_eq_true rfl, Nat.le_of_ble_eq_true rfl⟩), (wd_1175 hB _)⟩ ⟨pe_bl, pe_pre hB hK hP hD⟩ rfl rfl hl.1 rfl (lv_room (Nat.le_of_ble_eq_true rfl)) d_M_spanProduct_266 ⟨Nat.le_of_ble_eq_true rfl, Nat.le_of_ble_eq_true rfl⟩) hS (fun r118 f119 H locs hq120 hP hD hS => ?_)
          obtain ⟨qv_121, rfl⟩ := hq120
          subst qv_121
          refine lv_lload hx hb d_M_spanProduct_269 (lv_at hl 3 rfl) ?_
          refine lv_lload hx hb d_M_spanProduct_271 (lv_at hl 2 rfl) ?_
          refine pcc_l (va_runS (As := [.long (mT (hAA k9) (hAA (k9 + 1))), .long (mT (hAA k9) (hBB (k9 + 1)))]) (rest := [.long (mless (mless (mT (hAA k9) (hAA (k9 + 1))) (mT (hAA k9) (hBB (k9 + 1)))) (mless (mT (hBB k9) (hAA (k9 + 1))) (mT (hBB k9) (hBB (k9 + 1))))), .int (nI k9), .ref M]) ⟨hx, hb, hml, hown, tb_nil⟩ (m2_more l g H.size f ((mT (hAA k9) (hAA (k9 + 1)))) ((mT (hAA k9) (hBB (k9 + 1)))) hL hI.1) ⟨(callB_of 2 (tb_one (wd_1179 hB _)) tb_good1 rfl rfl rfl (wd_82 hB _) (wd_1177 hB _) (by decide +kernel) ⟨Nat.le_of_ble_eq_true rfl, Nat.le_of_ble_eq_true rfl⟩), (wd_1178 hB _)⟩ ⟨pe_bl, pe_pre hB hK hP hD⟩ rfl rfl hl.1 rfl (lv_room (Nat.le_of_ble_eq_true rfl)) d_M_spanProduct_273 ⟨Nat.le_of_ble_eq_true rfl, Nat.le_of_ble_eq_true rfl⟩) hS (fun r122 f123 H locs hq124 hP hD hS => ?_)
          obtain ⟨qv_125, rfl⟩ := hq124
          subst qv_125
          refine lv_lload hx hb d_M_spanProduct_276 (lv_at hl 1 rfl) ?_
          refine lv_lload hx hb d_M_spanProduct_278 (lv_at hl 0 rfl) ?_
          refine pcc_l (va_runS (As := [.long (mT (hBB k9) (hAA (k9 + 1))), .long (mT (hBB k9) (hBB (k9 + 1)))]) (rest := [.long (mmore (mT (hAA k9) (hAA (k9 + 1))) (mT (hAA k9) (hBB (k9 + 1)))), .long (mless (mless (mT (hAA k9) (hAA (k9 + 1))) (mT (hAA k9) (hBB (k9 + 1)))) (mless (mT (hBB k9) (hAA (k9 + 1))) (mT (hBB k9) (hBB (k9 + 1))))), .int (nI k9), .ref M]) ⟨hx, hb, hml, hown, tb_nil⟩ (m2_more l g H.size f ((mT (hBB k9) (hAA (k9 + 1)))) ((mT (hBB k9) (hBB (k9 + 1)))) hL hI.1) ⟨(callB_of 2 (tb_one (wd_1179 hB _)) tb_good1 rfl rfl rfl (wd_82 hB _) (wd_1177 hB _) (by decide +kernel) ⟨Nat.le_of_ble_eq_true rfl, Nat.le_of_ble_eq_true rfl⟩), (wd_1178 hB _)⟩ ⟨pe_bl, pe_pre hB hK hP hD⟩ rfl rfl hl.1 rfl (lv_room (Nat.le_of_ble_eq_true rfl)) d_M_spanProduct_280 ⟨Nat.le_of_ble_eq_true rfl, Nat.le_of_ble_eq_true rfl⟩) hS (fun r126 f127 H locs hq128 hP hD hS => ?_)
          obtain ⟨qv_129, rfl⟩ := hq128
          subst qv_129
          refine pcc_l (va_runS (As := [.long (mmore (mT (hAA k9) (hAA (k9 + 1))) (mT (hAA k9) (hBB (k9 + 1)))), .long (mmore (mT (hBB k9) (hAA (k9 + 1))) (mT (hBB k9) (hBB (k9 + 1))))]) (rest := [.long (mless (mless (mT (hAA k9) (hAA (k9 + 1))) (mT (hAA k9) (hBB (k9 + 1)))) (mless (mT (hBB k9) (hAA (k9 + 1))) (mT (hBB k9) (hBB (k9 + 1))))), .int (nI k9), .ref M]) ⟨hx, hb, hml, hown, tb_nil⟩ (m2_more l g H.size f ((mmore (mT (hAA k9) (hAA (k9 + 1))) (mT (hAA k9) (hBB (k9 + 1))))) ((mmore (mT (hBB k9) (hAA (k9 + 1))) (mT (hBB k9) (hBB (k9 + 1))))) hL hI.1) ⟨(callB_of 2 (tb_one (wd_1179 hB _)) tb_good1 rfl rfl rfl (wd_82 hB _) (wd_1177 hB _) (by decide +kernel) ⟨Nat.le_of_ble_eq_true rfl, Nat.le_of_ble_eq_true rfl⟩), (wd_1178 hB _)⟩ ⟨pe_bl, pe_pre hB hK hP hD⟩ rfl rfl hl.1 rfl (lv_room (Nat.le_of_ble_eq_true rfl)) d_M_spanProduct_283 ⟨Nat.le_of_ble_eq_true rfl, Nat.le_of_ble_eq_true rfl⟩) hS (fun r130 f131 H locs hq132 hP hD hS => ?_)
          obtain ⟨qv_133, rfl⟩ := hq132
          subst qv_133
          refine lv_iconst (v := nI 0) hx hb d_M_spanProduct_286 (by decide) ?_
          refine lv_iconst (v := nI 0) hx hb d_M_spanProduct_287 (by decide) ?_
          refine pcc_v (va_runV (C := "BigRunnerModel") (As := [.int (nI k9), .long (mless (mless (mT (hAA k9) (hAA (k9 + 1))) (mT (hAA k9) (hBB (k9 + 1)))) (mless (mT (hBB k9) (hAA (k9 + 1))) (mT (hBB k9) (hBB (k9 + 1))))), .long (mmore (mmore (mT (hAA k9) (hAA (k9 + 1))) (mT (hAA k9) (hBB (k9 + 1)))) (mmore (mT (hBB k9) (hAA (k9 + 1))) (mT (hBB k9) (hBB (k9 + 1))))), .int (nI 0), .int (nI 0)]) (rest := []) ⟨hx, hb, hml, hown, tb_nil⟩ (m2_interval l g H.size f M k9 ((mless (mless (mT (hAA k9) (hAA (k9 + 1))) (mT (hAA k9) (hBB (k9 + 1)))) (mless (mT (hBB k9) (hAA (k9 + 1))) (mT (hBB k9) (hBB (k9 + 1)))))) ((mmore (mmore (mT (hAA k9) (hAA (k9 + 1))) (mT (hAA k9) (hBB (k9 + 1)))) (mmore (mT (hBB k9) (hAA (k9 + 1))) (mT (hBB k9) (hBB (k9 + 1)))))) false false hUA hUB hAA hBB hL t_M hI (by omega) eUA eUB eAA eBB) ⟨(callB_of 5 (tb_one (wd_1160 hB _)) tb_good1 rfl rfl rfl (wd_82 hB _) (wd_1157 hB _) (by decide +kernel) ⟨Nat.le_of_ble_eq_true rfl, Nat.le_of_ble_eq_true rfl⟩), (wd_1159 hB _), (wd_53 hB _)⟩ ⟨pe_bl, pg_recv (ci := 10) hK hP (lo_in hL t_M (by decide)) e60 rfl, pe_pre hB hK hP hD⟩ rfl rfl hl.1 rfl (lv_room (Nat.le_of_ble_eq_true rfl)) d_M_spanProduct_288 ⟨Nat.le_of_ble_eq_true rfl, Nat.le_of_ble_eq_true rfl⟩) hS (fun f135 H locs hq136 hP hD hS => ?_)
          obtain ⟨aUA_137, aUB_138, aAA_139, aBB_140, hI1_141, hu1_142⟩ := hq136
          have hu := hu.tr hu1_142 (by decide)
          have e60 := hu1_142.at t_M (by decide) e60
          exact pe_vret hx hb hr hlocks hK hP hD hS d_M_spanProduct_291 ⟨(aUA_137.trans (by first | (simp [spf, spu, spv, b7, b59]; done) | contradiction)), (aUB_138.trans (by first | (simp [spf, spu, spv, b7, b59]; done) | contradiction)), (aAA_139.trans (by first | (simp [spf, spu, spv, b7, b59]; done) | contradiction)), (aBB_140.trans (by first | (simp [spf, spu, spv, b7, b59]; done) | contradiction)), hI1_141, hu⟩
        · skip
          replace b59 : ¬ (bI (spF (hUA k9) (hUB k9) (hUA (k9 + 1)) (hUB (k9 + 1)))) = nI 0 := b59
          replace b59 := bI_1 b59
          refine lv_aload_n hx hb d_M_spanProduct_148 rfl (lv_at hl 2 rfl) ?_
          refine lv_iload_n hx hb d_M_spanProduct_149 rfl (lv_at hl 3 rfl) ?_
          refine lv_lconst (v := nL 0) hx hb d_M_spanProduct_150 (by decide) ?_
          refine lv_lconst (v := nL 0) hx hb d_M_spanProduct_151 (by decide) ?_
          have jn143 : ∀ (bj144 : Int32), bj144 = (bI (!(spN (hUA k9) (hUB k9) (hAA k9) (hBB k9) (hUA (k9 + 1)) (hUB (k9 + 1)) (hAA (k9 + 1)) (hBB (k9 + 1))))) → ∀ (H : Heap) (locs : List Loc), va_P g.D vcl (va_pl g.LP f) H → va_D (pc_A g s.heap.size) (va_pl g.LP f) → va_S (pc_A g s.heap.size) s.heap H locs → W p l e ({ frames := 2, cells := 0, slots := 0, locals := 46 }) s m args below meth c H locs 0 0 (MQ below (va_Qv (fun f1 => (f1 (g.lk M 23) = .inl (g.ac (g.lk M 23), 80, .inl (upd hUA k9 (bI (mU (spf (hUA k9) (hUB k9) (hAA k9) (hBB k9) (hUA (k9 + 1)) (hUB (k9 + 1)) (hAA (k9 + 1)) (hBB (k9 + 1))) (spu (hUA k9) (hUB k9) (hAA k9) (hBB k9) (hUA (k9 + 1)) (hUB (k9 + 1)) (hAA (k9 + 1)) (hBB (k9 + 1)))))))) ∧ (f1 (g.lk M 24) = .inl (g.ac (g.lk M 24), 80, .inl (upd hUB k9 (bI (mU (spf (hUA k9) (hUB k9) (hAA k9) (hBB k9) (hUA (k9 + 1)) (hUB (k9 + 1)) (hAA (k9 + 1)) (hBB (k9 + 1))) (spv (hUA k9) (hUB k9) (hAA k9) (hBB k9) (hUA (k9 + 1)) (hUB (k9 + 1)) (hAA (k9 + 1)) (hBB (k9 + 1)))))))) ∧ (f1 (g.lk M 21) = .inl (g.ac (g.lk M 21), 80, .inr (.inl (vp_updL hAA k9 (mV (spf (hUA k9) (hUB k9) (hAA k9) (hBB k9) (hUA (k9 + 1)) (hUB (k9 + 1)) (hAA (k9 + 1)) (hBB (k9 + 1))) (spu (hUA k9) (hUB k9) (hAA k9) (hBB k9) (hUA (k9 + 1)) (hUB (k9 + 1)) (hAA (k9 + 1)) (hBB (k9 + 1)))))))) ∧ (f1 (g.lk M 22) = .inl (g.ac (g.lk M 22), 80, .inr (.inl (vp_updL hBB k9 (mV (spf (hUA k9) (hUB k9) (hAA k9) (hBB k9) (hUA (k9 + 1)) (hUB (k9 + 1)) (hAA (k9 + 1)) (hBB (k9 + 1))) (spv (hUA k9) (hUB k9) (hAA k9) (hBB k9) (hUA (k9 + 1)) (hUB (k9 + 1)) (hAA (k9 + 1)) (hBB (k9 + 1)))))))) ∧ (IV g f1) ∧ (un [53, 54, 55, 56] g f f1)) (pc_out g s.heap.size) (pc_A g s.heap.size)) args s 0 0 (pc_A g s.heap.size)) (F0 m 161 ls [.int bj144, .long (nL 0), .long (nL 0), .int (nI k9), .ref M]) := by
            intro bj144 hbj145 H locs hP hD hS
            subst hbj145
            have jn146 : ∀ (bj147 : Int32), bj147 = (bI (!(spN (hUA k9) (hUB k9) (hAA k9) (hBB k9) (hUA (k9 + 1)) (hUB (k9 + 1)) (hAA (k9 + 1)) (hBB (k9 + 1))))) → ∀ (H : Heap) (locs : List Loc), va_P g.D vcl (va_pl g.LP f) H → va_D (pc_A g s.heap.size) (va_pl g.LP f) → va_S (pc_A g s.heap.size) s.heap H locs → W p l e ({ frames := 2, cells := 0, slots := 0, locals := 46 }) s m args below meth c H locs 0 0 (MQ below (va_Qv (fun f1 => (f1 (g.lk M 23) = .inl (g.ac (g.lk M 23), 80, .inl (upd hUA k9 (bI (mU (spf (hUA k9) (hUB k9) (hAA k9) (hBB k9) (hUA (k9 + 1)) (hUB (k9 + 1)) (hAA (k9 + 1)) (hBB (k9 + 1))) (spu (hUA k9) (hUB k9) (hAA k9) (hBB k9) (hUA (k9 + 1)) (hUB (k9 + 1)) (hAA (k9 + 1)) (hBB (k9 + 1)))))))) ∧ (f1 (g.lk M 24) = .inl (g.ac (g.lk M 24), 80, .inl (upd hUB k9 (bI (mU (spf (hUA k9) (hUB k9) (hAA k9) (hBB k9) (hUA (k9 + 1)) (hUB (k9 + 1)) (hAA (k9 + 1)) (hBB (k9 + 1))) (spv (hUA k9) (hUB k9) (hAA k9) (hBB k9) (hUA (k9 + 1)) (hUB (k9 + 1)) (hAA (k9 + 1)) (hBB (k9 + 1)))))))) ∧ (f1 (g.lk M 21) = .inl (g.ac (g.lk M 21), 80, .inr (.inl (vp_updL hAA k9 (mV (spf (hUA k9) (hUB k9) (hAA k9) (hBB k9) (hUA (k9 + 1)) (hUB (k9 + 1)) (hAA (k9 + 1)) (hBB (k9 + 1))) (spu (hUA k9) (hUB k9) (hAA k9) (hBB k9) (hUA (k9 + 1)) (hUB (k9 + 1)) (hAA (k9 + 1)) (hBB (k9 + 1)))))))) ∧ (f1 (g.lk M 22) = .inl (g.ac (g.lk M 22), 80, .inr (.inl (vp_updL hBB k9 (mV (spf (hUA k9) (hUB k9) (hAA k9) (hBB k9) (hUA (k9 + 1)) (hUB (k9 + 1)) (hAA (k9 + 1)) (hBB (k9 + 1))) (spv (hUA k9) (hUB k9) (hAA k9) (hBB k9) (hUA (k9 + 1)) (hUB (k9 + 1)) (hAA (k9 + 1)) (hBB (k9 + 1)))))))) ∧ (IV g f1) ∧ (un [53, 54, 55, 56] g f f1)) (pc_out g s.heap.size) (pc_A g s.heap.size)) args s 0 0 (pc_A g s.heap.size)) (F0 m 170 ls [.int bj147, .int (bI (!(spN (hUA k9) (hUB k9) (hAA k9) (hBB k9) (hUA (k9 + 1)) (hUB (k9 + 1)) (hAA (k9 + 1)) (hBB (k9 + 1))))), .long (nL 0), .long (nL 0), .int (nI k9), .ref M]) := by
              intro bj147 hbj148 H locs hP hD hS
              subst hbj148
              obtain ⟨th_150, n_151, dr_152, sz_153, ix_154, dp_155, wt_156, op_157, tp_158, wa_159, gi_160, pc_161, st_162, tr_163, sp_164, ma_165, lg_166, du_167, e149, c168, c169, c170, c171, c172, c173, c174, c175, c176, c177, c178, c179, c180, c181, c182⟩ := oc_11.of t_M (hI.1 M)
              refine pcc_v (va_runV (C := "BigRunnerModel") (As := [.int (nI k9), .long (nL 0), .long (nL 0), .int (bI (!(spN (hUA k9) (hUB k9) (hAA k9) (hBB k9) (hUA (k9 + 1)) (hUB (k9 + 1)) (hAA (k9 + 1)) (hBB (k9 + 1))))), .int (bI (!(spN (hUA k9) (hUB k9) (hAA k9) (hBB k9) (hUA (k9 + 1)) (hUB (k9 + 1)) (hAA (k9 + 1)) (hBB (k9 + 1)))))]) (rest := []) ⟨hx, hb, hml, hown, tb_nil⟩ (m2_interval l g H.size f M k9 ((nL 0)) ((nL 0)) ((!(spN (hUA k9) (hUB k9) (hAA k9) (hBB k9) (hUA (k9 + 1)) (hUB (k9 + 1)) (hAA (k9 + 1)) (hBB (k9 + 1))))) ((!(spN (hUA k9) (hUB k9) (hAA k9) (hBB k9) (hUA (k9 + 1)) (hUB (k9 + 1)) (hAA (k9 + 1)) (hBB (k9 + 1))))) hUA hUB hAA hBB hL t_M hI (by omega) eUA eUB eAA eBB) ⟨(callB_of 5 (tb_one (wd_1160 hB _)) tb_good1 rfl rfl rfl (wd_82 hB _) (wd_1157 hB _) (by decide +kernel) ⟨Nat.le_of_ble_eq_true rfl, Nat.le_of_ble_eq_true rfl⟩), (wd_1159 hB _), (wd_53 hB _)⟩ ⟨pe_bl, pg_recv (ci := 10) hK hP (lo_in hL t_M (by decide)) e149 rfl, pe_pre hB hK hP hD⟩ rfl rfl hl.1 rfl (lv_room (Nat.le_of_ble_eq_true rfl)) d_M_spanProduct_170 ⟨Nat.le_of_ble_eq_true rfl, Nat.le_of_ble_eq_true rfl⟩) hS (fun f184 H locs hq185 hP hD hS => ?_)
              obtain ⟨aUA_186, aUB_187, aAA_188, aBB_189, hI1_190, hu1_191⟩ := hq185
              have hu := hu.tr hu1_191 (by decide)
              have e149 := hu1_191.at t_M (by decide) e149
              exact pe_vret hx hb hr hlocks hK hP hD hS d_M_spanProduct_173 ⟨(aUA_186.trans (by first | (simp [spf, spu, spv, b7, b59]; done) | contradiction)), (aUB_187.trans (by first | (simp [spf, spu, spv, b7, b59]; done) | contradiction)), (aAA_188.trans (by first | (simp [spf, spu, spv, b7, b59]; done) | contradiction)), (aBB_189.trans (by first | (simp [spf, spu, spv, b7, b59]; done) | contradiction)), hI1_190, hu⟩
            refine lv_iload_n hx hb d_M_spanProduct_161 rfl (lv_at hl 1 rfl) ?_
            refine lv_if_ne (tgt := 169) hx hb d_M_spanProduct_162 (by decide) (fun b192 => ?_) (fun b192 => ?_)
            · skip
              replace b192 : ¬ (bI (spN (hUA k9) (hUB k9) (hAA k9) (hBB k9) (hUA (k9 + 1)) (hUB (k9 + 1)) (hAA (k9 + 1)) (hBB (k9 + 1)))) = nI 0 := b192
              exact absurd (b7.symm.trans (show _ = true from bI_1 b192)) (by decide)
            · skip
              replace b192 : (bI (spN (hUA k9) (hUB k9) (hAA k9) (hBB k9) (hUA (k9 + 1)) (hUB (k9 + 1)) (hAA (k9 + 1)) (hBB (k9 + 1)))) = nI 0 := b192
              replace b192 := bI_0 b192
              refine lv_iconst (v := nI 1) hx hb d_M_spanProduct_165 (by decide) ?_
              refine lv_goto (tgt := 170) hx hb d_M_spanProduct_166 (by decide) ?_
              exact jn146 ((nI 1)) (by first | (simp [bI, b7, b59, b192]; done) | contradiction) _ _ hP hD hS
          refine lv_iload_n hx hb d_M_spanProduct_152 rfl (lv_at hl 1 rfl) ?_
          refine lv_if_ne (tgt := 160) hx hb d_M_spanProduct_153 (by decide) (fun b193 => ?_) (fun b193 => ?_)
          · skip
            replace b193 : ¬ (bI (spN (hUA k9) (hUB k9) (hAA k9) (hBB k9) (hUA (k9 + 1)) (hUB (k9 + 1)) (hAA (k9 + 1)) (hBB (k9 + 1)))) = nI 0 := b193
            exact absurd (b7.symm.trans (show _ = true from bI_1 b193)) (by decide)
          · skip
            replace b193 : (bI (spN (hUA k9) (hUB k9) (hAA k9) (hBB k9) (hUA (k9 + 1)) (hUB (k9 + 1)) (hAA (k9 + 1)) (hBB (k9 + 1)))) = nI 0 := b193
            replace b193 := bI_0 b193
            refine lv_iconst (v := nI 1) hx hb d_M_spanProduct_156 (by decide) ?_
            refine lv_goto (tgt := 161) hx hb d_M_spanProduct_157 (by decide) ?_
            exact jn143 ((nI 1)) (by first | (simp [bI, b7, b59, b193]; done) | contradiction) _ _ hP hD hS
    refine lv_aload_n hx hb d_M_spanProduct_94 rfl (lv_at hl 1 rfl) ?_
    obtain ⟨th_195, n_196, dr_197, sz_198, ix_199, dp_200, wt_201, op_202, tp_203, wa_204, gi_205, pc_206, st_207, tr_208, sp_209, ma_210, lg_211, du_212, e194, c213, c214, c215, c216, c217, c218, c219, c220, c221, c222, c223, c224, c225, c226, c227⟩ := oc_11.of t_M (hI.1 M)
    refine pf_get (v := .ref (g.lk M 23)) (C := "BigRunnerModel") (T := FT10) (N := 45) hx hb (hw10 hB _) (fun _ h9 => h9) hown hK hP (lo_in hL t_M (by decide)) e194 rfl 23 (by decide) (wd_970 hB _) rfl d_M_spanProduct_95 ?_
    refine lv_iload_n hx hb d_M_spanProduct_98 rfl (lv_at hl 2 rfl) ?_
    refine pf_zald (i := k9) hx hb hK hP (lo_in hL (lo_k11_23 hL _ t_M) (by decide)) eUA (lo_t55 hL _ (lo_k11_23 hL _ t_M)) (by omega) (by decide) d_M_spanProduct_99 ?_
    refine lv_if_ne (tgt := 134) hx hb d_M_spanProduct_100 (by decide) (fun b228 => ?_) (fun b228 => ?_)
    · skip
      replace b228 : ¬ (hUA k9) = nI 0 := b228
      refine lv_iconst (v := nI 1) hx hb d_M_spanProduct_134 (by decide) ?_
      refine lv_goto (tgt := 139) hx hb d_M_spanProduct_135 (by decide) ?_
      exact jn4 ((nI 1)) (by first | (simp [spF, mf, nzf, bI, b228]; done) | contradiction) _ _ hP hD hS
    · skip
      replace b228 : (hUA k9) = nI 0 := b228
      refine lv_aload_n hx hb d_M_spanProduct_103 rfl (lv_at hl 1 rfl) ?_
      refine pf_get (v := .ref (g.lk M 24)) (C := "BigRunnerModel") (T := FT10) (N := 45) hx hb (hw10 hB _) (fun _ h9 => h9) hown hK hP (lo_in hL t_M (by decide)) e194 rfl 24 (by decide) (wd_971 hB _) rfl d_M_spanProduct_104 ?_
      refine lv_iload_n hx hb d_M_spanProduct_107 rfl (lv_at hl 2 rfl) ?_
      refine pf_zald (i := k9) hx hb hK hP (lo_in hL (lo_k11_24 hL _ t_M) (by decide)) eUB (lo_t56 hL _ (lo_k11_24 hL _ t_M)) (by omega) (by decide) d_M_spanProduct_108 ?_
      refine lv_if_ne (tgt := 134) hx hb d_M_spanProduct_109 (by decide) (fun b229 => ?_) (fun b229 => ?_)
      · skip
        replace b229 : ¬ (hUB k9) = nI 0 := b229
        refine lv_iconst (v := nI 1) hx hb d_M_spanProduct_134 (by decide) ?_
        refine lv_goto (tgt := 139) hx hb d_M_spanProduct_135 (by decide) ?_
        exact jn4 ((nI 1)) (by first | (simp [spF, mf, nzf, bI, b228, b229]; done) | contradiction) _ _ hP hD hS
      · skip
        replace b229 : (hUB k9) = nI 0 := b229
        refine lv_aload_n hx hb d_M_spanProduct_112 rfl (lv_at hl 1 rfl) ?_
        refine pf_get (v := .ref (g.lk M 23)) (C := "BigRunnerModel") (T := FT10) (N := 45) hx hb (hw10 hB _) (fun _ h9 => h9) hown hK hP (lo_in hL t_M (by decide)) e194 rfl 23 (by decide) (wd_970 hB _) rfl d_M_spanProduct_113 ?_
        refine lv_iload_n hx hb d_M_spanProduct_116 rfl (lv_at hl 2 rfl) ?_
        refine lv_iconst (v := nI 1) hx hb d_M_spanProduct_117 (by decide) ?_
        refine pf_iaddN (x := k9) (y := 1) hx hb d_M_spanProduct_118 ?_
        refine pf_zald (i := k9 + 1) hx hb hK hP (lo_in hL (lo_k11_23 hL _ t_M) (by decide)) eUA (lo_t55 hL _ (lo_k11_23 hL _ t_M)) (by omega) (by decide) d_M_spanProduct_119 ?_
        refine lv_if_ne (tgt := 134) hx hb d_M_spanProduct_120 (by decide) (fun b230 => ?_) (fun b230 => ?_)
        · skip
          replace b230 : ¬ (hUA (k9 + 1)) = nI 0 := b230
          refine lv_iconst (v := nI 1) hx hb d_M_spanProduct_134 (by decide) ?_
          refine lv_goto (tgt := 139) hx hb d_M_spanProduct_135 (by decide) ?_
          exact jn4 ((nI 1)) (by first | (simp [spF, mf, nzf, bI, b228, b229, b230]; done) | contradiction) _ _ hP hD hS
        · skip
          replace b230 : (hUA (k9 + 1)) = nI 0 := b230
          refine lv_aload_n hx hb d_M_spanProduct_123 rfl (lv_at hl 1 rfl) ?_
          refine pf_get (v := .ref (g.lk M 24)) (C := "BigRunnerModel") (T := FT10) (N := 45) hx hb (hw10 hB _) (fun _ h9 => h9) hown hK hP (lo_in hL t_M (by decide)) e194 rfl 24 (by decide) (wd_971 hB _) rfl d_M_spanProduct_124 ?_
          refine lv_iload_n hx hb d_M_spanProduct_127 rfl (lv_at hl 2 rfl) ?_
          refine lv_iconst (v := nI 1) hx hb d_M_spanProduct_128 (by decide) ?_
          refine pf_iaddN (x := k9) (y := 1) hx hb d_M_spanProduct_129 ?_
          refine pf_zald (i := k9 + 1) hx hb hK hP (lo_in hL (lo_k11_24 hL _ t_M) (by decide)) eUB (lo_t56 hL _ (lo_k11_24 hL _ t_M)) (by omega) (by decide) d_M_spanProduct_130 ?_
          refine lv_if_eq (tgt := 138) hx hb d_M_spanProduct_131 (by decide) (fun b231 => ?_) (fun b231 => ?_)
          · skip
            replace b231 : (hUB (k9 + 1)) = nI 0 := b231
            refine lv_iconst (v := nI 0) hx hb d_M_spanProduct_138 (by decide) ?_
            exact jn4 ((nI 0)) (by first | (simp [spF, mf, nzf, bI, b228, b229, b230, b231]; done) | contradiction) _ _ hP hD hS
          · skip
            replace b231 : ¬ (hUB (k9 + 1)) = nI 0 := b231
            refine lv_iconst (v := nI 1) hx hb d_M_spanProduct_134 (by decide) ?_
            refine lv_goto (tgt := 139) hx hb d_M_spanProduct_135 (by decide) ?_
            exact jn4 ((nI 1)) (by first | (simp [spF, mf, nzf, bI, b228, b229, b230, b231]; done) | contradiction) _ _ hP hD hS
  refine lv_aload_n hx hb d_M_spanProduct_0 rfl (lv_at hl 0 rfl) ?_
  obtain ⟨th_233, n_234, dr_235, sz_236, ix_237, dp_238, wt_239, op_240, tp_241, wa_242, gi_243, pc_244, st_245, tr_246, sp_247, ma_248, lg_249, du_250, e232, c251, c252, c253, c254, c255, c256, c257, c258, c259, c260, c261, c262, c263, c264, c265⟩ := oc_11.of t_M (hI.1 M)
  refine pf_get (v := .ref (g.lk M 23)) (C := "BigRunnerModel") (T := FT10) (N := 45) hx hb (hw10 hB _) (fun _ h9 => h9) hown hK hP (lo_in hL t_M (by decide)) e232 rfl 23 (by decide) (wd_970 hB _) rfl d_M_spanProduct_1 ?_
  refine lv_iload_n hx hb d_M_spanProduct_4 rfl (lv_at hl 1 rfl) ?_
  refine pf_zald (i := k9) hx hb hK hP (lo_in hL (lo_k11_23 hL _ t_M) (by decide)) eUA (lo_t55 hL _ (lo_k11_23 hL _ t_M)) (by omega) (by decide) d_M_spanProduct_5 ?_
  refine lv_if_ne (tgt := 40) hx hb d_M_spanProduct_6 (by decide) (fun b266 => ?_) (fun b266 => ?_)
  · skip
    replace b266 : ¬ (hUA k9) = nI 0 := b266
    refine lv_aload_n hx hb d_M_spanProduct_40 rfl (lv_at hl 0 rfl) ?_
    refine pf_get (v := .ref (g.lk M 23)) (C := "BigRunnerModel") (T := FT10) (N := 45) hx hb (hw10 hB _) (fun _ h9 => h9) hown hK hP (lo_in hL t_M (by decide)) e232 rfl 23 (by decide) (wd_970 hB _) rfl d_M_spanProduct_41 ?_
    refine lv_iload_n hx hb d_M_spanProduct_44 rfl (lv_at hl 1 rfl) ?_
    refine lv_iconst (v := nI 1) hx hb d_M_spanProduct_45 (by decide) ?_
    refine pf_iaddN (x := k9) (y := 1) hx hb d_M_spanProduct_46 ?_
    refine pf_zald (i := k9 + 1) hx hb hK hP (lo_in hL (lo_k11_23 hL _ t_M) (by decide)) eUA (lo_t55 hL _ (lo_k11_23 hL _ t_M)) (by omega) (by decide) d_M_spanProduct_47 ?_
    refine lv_if_ne (tgt := 92) hx hb d_M_spanProduct_48 (by decide) (fun b267 => ?_) (fun b267 => ?_)
    · skip
      replace b267 : ¬ (hUA (k9 + 1)) = nI 0 := b267
      refine lv_iconst (v := nI 0) hx hb d_M_spanProduct_92 (by decide) ?_
      exact jn1 ((nI 0)) (by first | (simp [spN, mz, bI, b266, b267]; done) | contradiction) _ _ hP hD hS
    · skip
      replace b267 : (hUA (k9 + 1)) = nI 0 := b267
      refine lv_aload_n hx hb d_M_spanProduct_51 rfl (lv_at hl 0 rfl) ?_
      refine pf_get (v := .ref (g.lk M 24)) (C := "BigRunnerModel") (T := FT10) (N := 45) hx hb (hw10 hB _) (fun _ h9 => h9) hown hK hP (lo_in hL t_M (by decide)) e232 rfl 24 (by decide) (wd_971 hB _) rfl d_M_spanProduct_52 ?_
      refine lv_iload_n hx hb d_M_spanProduct_55 rfl (lv_at hl 1 rfl) ?_
      refine lv_iconst (v := nI 1) hx hb d_M_spanProduct_56 (by decide) ?_
      refine pf_iaddN (x := k9) (y := 1) hx hb d_M_spanProduct_57 ?_
      refine pf_zald (i := k9 + 1) hx hb hK hP (lo_in hL (lo_k11_24 hL _ t_M) (by decide)) eUB (lo_t56 hL _ (lo_k11_24 hL _ t_M)) (by omega) (by decide) d_M_spanProduct_58 ?_
      refine lv_if_ne (tgt := 92) hx hb d_M_spanProduct_59 (by decide) (fun b268 => ?_) (fun b268 => ?_)
      · skip
        replace b268 : ¬ (hUB (k9 + 1)) = nI 0 := b268
        refine lv_iconst (v := nI 0) hx hb d_M_spanProduct_92 (by decide) ?_
        exact jn1 ((nI 0)) (by first | (simp [spN, mz, bI, b266, b267, b268]; done) | contradiction) _ _ hP hD hS
      · skip
        replace b268 : (hUB (k9 + 1)) = nI 0 := b268
        refine lv_aload_n hx hb d_M_spanProduct_62 rfl (lv_at hl 0 rfl) ?_
        refine pf_get (v := .ref (g.lk M 21)) (C := "BigRunnerModel") (T := FT10) (N := 45) hx hb (hw10 hB _) (fun _ h9 => h9) hown hK hP (lo_in hL t_M (by decide)) e232 rfl 21 (by decide) (wd_968 hB _) rfl d_M_spanProduct_63 ?_
        refine lv_iload_n hx hb d_M_spanProduct_66 rfl (lv_at hl 1 rfl) ?_
        refine lv_iconst (v := nI 1) hx hb d_M_spanProduct_67 (by decide) ?_
        refine pf_iaddN (x := k9) (y := 1) hx hb d_M_spanProduct_68 ?_
        refine pf_lald (i := k9 + 1) hx hb hK hP (lo_in hL (lo_k11_21 hL _ t_M) (by decide)) eAA (lo_t53 hL _ (lo_k11_21 hL _ t_M)) (by omega) (by decide) d_M_spanProduct_69 ?_
        refine lv_lconst (v := nL 0) hx hb d_M_spanProduct_70 (by decide) ?_
        refine W.lcmp hx hb d_M_spanProduct_71 ?_
        refine lv_if_ne (tgt := 92) hx hb d_M_spanProduct_72 (by decide) (fun b269 => ?_) (fun b269 => ?_)
        · skip
          replace b269 := mt pl_eq.mpr b269
          refine lv_iconst (v := nI 0) hx hb d_M_spanProduct_92 (by decide) ?_
          exact jn1 ((nI 0)) (by first | (simp [spN, mz, bI, b266, b267, b268, b269]; done) | contradiction) _ _ hP hD hS
        · skip
          replace b269 := pl_eq.mp b269
          refine lv_aload_n hx hb d_M_spanProduct_75 rfl (lv_at hl 0 rfl) ?_
          refine pf_get (v := .ref (g.lk M 22)) (C := "BigRunnerModel") (T := FT10) (N := 45) hx hb (hw10 hB _) (fun _ h9 => h9) hown hK hP (lo_in hL t_M (by decide)) e232 rfl 22 (by decide) (wd_969 hB _) rfl d_M_spanProduct_76 ?_
          refine lv_iload_n hx hb d_M_spanProduct_79 rfl (lv_at hl 1 rfl) ?_
          refine lv_iconst (v := nI 1) hx hb d_M_spanProduct_80 (by decide) ?_
          refine pf_iaddN (x := k9) (y := 1) hx hb d_M_spanProduct_81 ?_
          refine pf_lald (i := k9 + 1) hx hb hK hP (lo_in hL (lo_k11_22 hL _ t_M) (by decide)) eBB (lo_t54 hL _ (lo_k11_22 hL _ t_M)) (by omega) (by decide) d_M_spanProduct_82 ?_
          refine lv_lconst (v := nL 0) hx hb d_M_spanProduct_83 (by decide) ?_
          refine W.lcmp hx hb d_M_spanProduct_84 ?_
          refine lv_if_ne (tgt := 92) hx hb d_M_spanProduct_85 (by decide) (fun b270 => ?_) (fun b270 => ?_)
          · skip
            replace b270 := mt pl_eq.mpr b270
            refine lv_iconst (v := nI 0) hx hb d_M_spanProduct_92 (by decide) ?_
            exact jn1 ((nI 0)) (by first | (simp [spN, mz, bI, b266, b267, b268, b269, b270]; done) | contradiction) _ _ hP hD hS
          · skip
            replace b270 := pl_eq.mp b270
            refine lv_iconst (v := nI 1) hx hb d_M_spanProduct_88 (by decide) ?_
            refine lv_goto (tgt := 93) hx hb d_M_spanProduct_89 (by decide) ?_
            exact jn1 ((nI 1)) (by first | (simp [spN, mz, bI, b266, b267, b268, b269, b270]; done) | contradiction) _ _ hP hD hS
  · skip
    replace b266 : (hUA k9) = nI 0 := b266
    refine lv_aload_n hx hb d_M_spanProduct_9 rfl (lv_at hl 0 rfl) ?_
    refine pf_get (v := .ref (g.lk M 24)) (C := "BigRunnerModel") (T := FT10) (N := 45) hx hb (hw10 hB _) (fun _ h9 => h9) hown hK hP (lo_in hL t_M (by decide)) e232 rfl 24 (by decide) (wd_971 hB _) rfl d_M_spanProduct_10 ?_
    refine lv_iload_n hx hb d_M_spanProduct_13 rfl (lv_at hl 1 rfl) ?_
    refine pf_zald (i := k9) hx hb hK hP (lo_in hL (lo_k11_24 hL _ t_M) (by decide)) eUB (lo_t56 hL _ (lo_k11_24 hL _ t_M)) (by omega) (by decide) d_M_spanProduct_14 ?_
    refine lv_if_ne (tgt := 40) hx hb d_M_spanProduct_15 (by decide) (fun b271 => ?_) (fun b271 => ?_)
    · skip
      replace b271 : ¬ (hUB k9) = nI 0 := b271
      refine lv_aload_n hx hb d_M_spanProduct_40 rfl (lv_at hl 0 rfl) ?_
      refine pf_get (v := .ref (g.lk M 23)) (C := "BigRunnerModel") (T := FT10) (N := 45) hx hb (hw10 hB _) (fun _ h9 => h9) hown hK hP (lo_in hL t_M (by decide)) e232 rfl 23 (by decide) (wd_970 hB _) rfl d_M_spanProduct_41 ?_
      refine lv_iload_n hx hb d_M_spanProduct_44 rfl (lv_at hl 1 rfl) ?_
      refine lv_iconst (v := nI 1) hx hb d_M_spanProduct_45 (by decide) ?_
      refine pf_iaddN (x := k9) (y := 1) hx hb d_M_spanProduct_46 ?_
      refine pf_zald (i := k9 + 1) hx hb hK hP (lo_in hL (lo_k11_23 hL _ t_M) (by decide)) eUA (lo_t55 hL _ (lo_k11_23 hL _ t_M)) (by omega) (by decide) d_M_spanProduct_47 ?_
      refine lv_if_ne (tgt := 92) hx hb d_M_spanProduct_48 (by decide) (fun b272 => ?_) (fun b272 => ?_)
      · skip
        replace b272 : ¬ (hUA (k9 + 1)) = nI 0 := b272
        refine lv_iconst (v := nI 0) hx hb d_M_spanProduct_92 (by decide) ?_
        exact jn1 ((nI 0)) (by first | (simp [spN, mz, bI, b266, b271, b272]; done) | contradiction) _ _ hP hD hS
      · skip
        replace b272 : (hUA (k9 + 1)) = nI 0 := b272
        refine lv_aload_n hx hb d_M_spanProduct_51 rfl (lv_at hl 0 rfl) ?_
        refine pf_get (v := .ref (g.lk M 24)) (C := "BigRunnerModel") (T := FT10) (N := 45) hx hb (hw10 hB _) (fun _ h9 => h9) hown hK hP (lo_in hL t_M (by decide)) e232 rfl 24 (by decide) (wd_971 hB _) rfl d_M_spanProduct_52 ?_
        refine lv_iload_n hx hb d_M_spanProduct_55 rfl (lv_at hl 1 rfl) ?_
        refine lv_iconst (v := nI 1) hx hb d_M_spanProduct_56 (by decide) ?_
        refine pf_iaddN (x := k9) (y := 1) hx hb d_M_spanProduct_57 ?_
        refine pf_zald (i := k9 + 1) hx hb hK hP (lo_in hL (lo_k11_24 hL _ t_M) (by decide)) eUB (lo_t56 hL _ (lo_k11_24 hL _ t_M)) (by omega) (by decide) d_M_spanProduct_58 ?_
        refine lv_if_ne (tgt := 92) hx hb d_M_spanProduct_59 (by decide) (fun b273 => ?_) (fun b273 => ?_)
        · skip
          replace b273 : ¬ (hUB (k9 + 1)) = nI 0 := b273
          refine lv_iconst (v := nI 0) hx hb d_M_spanProduct_92 (by decide) ?_
          exact jn1 ((nI 0)) (by first | (simp [spN, mz, bI, b266, b271, b272, b273]; done) | contradiction) _ _ hP hD hS
        · skip
          replace b273 : (hUB (k9 + 1)) = nI 0 := b273
          refine lv_aload_n hx hb d_M_spanProduct_62 rfl (lv_at hl 0 rfl) ?_
          refine pf_get (v := .ref (g.lk M 21)) (C := "BigRunnerModel") (T := FT10) (N := 45) hx hb (hw10 hB _) (fun _ h9 => h9) hown hK hP (lo_in hL t_M (by decide)) e232 rfl 21 (by decide) (wd_968 hB _) rfl d_M_spanProduct_63 ?_
          refine lv_iload_n hx hb d_M_spanProduct_66 rfl (lv_at hl 1 rfl) ?_
          refine lv_iconst (v := nI 1) hx hb d_M_spanProduct_67 (by decide) ?_
          refine pf_iaddN (x := k9) (y := 1) hx hb d_M_spanProduct_68 ?_
          refine pf_lald (i := k9 + 1) hx hb hK hP (lo_in hL (lo_k11_21 hL _ t_M) (by decide)) eAA (lo_t53 hL _ (lo_k11_21 hL _ t_M)) (by omega) (by decide) d_M_spanProduct_69 ?_
          refine lv_lconst (v := nL 0) hx hb d_M_spanProduct_70 (by decide) ?_
          refine W.lcmp hx hb d_M_spanProduct_71 ?_
          refine lv_if_ne (tgt := 92) hx hb d_M_spanProduct_72 (by decide) (fun b274 => ?_) (fun b274 => ?_)
          · skip
            replace b274 := mt pl_eq.mpr b274
            refine lv_iconst (v := nI 0) hx hb d_M_spanProduct_92 (by decide) ?_
            exact jn1 ((nI 0)) (by first | (simp [spN, mz, bI, b266, b271, b272, b273, b274]; done) | contradiction) _ _ hP hD hS
          · skip
            replace b274 := pl_eq.mp b274
            refine lv_aload_n hx hb d_M_spanProduct_75 rfl (lv_at hl 0 rfl) ?_
            refine pf_get (v := .ref (g.lk M 22)) (C := "BigRunnerModel") (T := FT10) (N := 45) hx hb (hw10 hB _) (fun _ h9 => h9) hown hK hP (lo_in hL t_M (by decide)) e232 rfl 22 (by decide) (wd_969 hB _) rfl d_M_spanProduct_76 ?_
            refine lv_iload_n hx hb d_M_spanProduct_79 rfl (lv_at hl 1 rfl) ?_
            refine lv_iconst (v := nI 1) hx hb d_M_spanProduct_80 (by decide) ?_
            refine pf_iaddN (x := k9) (y := 1) hx hb d_M_spanProduct_81 ?_
            refine pf_lald (i := k9 + 1) hx hb hK hP (lo_in hL (lo_k11_22 hL _ t_M) (by decide)) eBB (lo_t54 hL _ (lo_k11_22 hL _ t_M)) (by omega) (by decide) d_M_spanProduct_82 ?_
            refine lv_lconst (v := nL 0) hx hb d_M_spanProduct_83 (by decide) ?_
            refine W.lcmp hx hb d_M_spanProduct_84 ?_
            refine lv_if_ne (tgt := 92) hx hb d_M_spanProduct_85 (by decide) (fun b275 => ?_) (fun b275 => ?_)
            · skip
              replace b275 := mt pl_eq.mpr b275
              refine lv_iconst (v := nI 0) hx hb d_M_spanProduct_92 (by decide) ?_
              exact jn1 ((nI 0)) (by first | (simp [spN, mz, bI, b266, b271, b272, b273, b274, b275]; done) | contradiction) _ _ hP hD hS
            · skip
              replace b275 := pl_eq.mp b275
              refine lv_iconst (v := nI 1) hx hb d_M_spanProduct_88 (by decide) ?_
              refine lv_goto (tgt := 93) hx hb d_M_spanProduct_89 (by decide) ?_
              exact jn1 ((nI 1)) (by first | (simp [spN, mz, bI, b266, b271, b272, b273, b274, b275]; done) | contradiction) _ _ hP hD hS
    · skip
      replace b271 : (hUB k9) = nI 0 := b271
      refine lv_aload_n hx hb d_M_spanProduct_18 rfl (lv_at hl 0 rfl) ?_
      refine pf_get (v := .ref (g.lk M 21)) (C := "BigRunnerModel") (T := FT10) (N := 45) hx hb (hw10 hB _) (fun _ h9 => h9) hown hK hP (lo_in hL t_M (by decide)) e232 rfl 21 (by decide) (wd_968 hB _) rfl d_M_spanProduct_19 ?_
      refine lv_iload_n hx hb d_M_spanProduct_22 rfl (lv_at hl 1 rfl) ?_
      refine pf_lald (i := k9) hx hb hK hP (lo_in hL (lo_k11_21 hL _ t_M) (by decide)) eAA (lo_t53 hL _ (lo_k11_21 hL _ t_M)) (by omega) (by decide) d_M_spanProduct_23 ?_
      refine lv_lconst (v := nL 0) hx hb d_M_spanProduct_24 (by decide) ?_
      refine W.lcmp hx hb d_M_spanProduct_25 ?_
      refine lv_if_ne (tgt := 40) hx hb d_M_spanProduct_26 (by decide) (fun b276 => ?_) (fun b276 => ?_)
      · skip
        replace b276 := mt pl_eq.mpr b276
        refine lv_aload_n hx hb d_M_spanProduct_40 rfl (lv_at hl 0 rfl) ?_
        refine pf_get (v := .ref (g.lk M 23)) (C := "BigRunnerModel") (T := FT10) (N := 45) hx hb (hw10 hB _) (fun _ h9 => h9) hown hK hP (lo_in hL t_M (by decide)) e232 rfl 23 (by decide) (wd_970 hB _) rfl d_M_spanProduct_41 ?_
        refine lv_iload_n hx hb d_M_spanProduct_44 rfl (lv_at hl 1 rfl) ?_
        refine lv_iconst (v := nI 1) hx hb d_M_spanProduct_45 (by decide) ?_
        refine pf_iaddN (x := k9) (y := 1) hx hb d_M_spanProduct_46 ?_
        refine pf_zald (i := k9 + 1) hx hb hK hP (lo_in hL (lo_k11_23 hL _ t_M) (by decide)) eUA (lo_t55 hL _ (lo_k11_23 hL _ t_M)) (by omega) (by decide) d_M_spanProduct_47 ?_
        refine lv_if_ne (tgt := 92) hx hb d_M_spanProduct_48 (by decide) (fun b277 => ?_) (fun b277 => ?_)
        · skip
          replace b277 : ¬ (hUA (k9 + 1)) = nI 0 := b277
          refine lv_iconst (v := nI 0) hx hb d_M_spanProduct_92 (by decide) ?_
          exact jn1 ((nI 0)) (by first | (simp [spN, mz, bI, b266, b271, b276, b277]; done) | contradiction) _ _ hP hD hS
        · skip
          replace b277 : (hUA (k9 + 1)) = nI 0 := b277
          refine lv_aload_n hx hb d_M_spanProduct_51 rfl (lv_at hl 0 rfl) ?_
          refine pf_get (v := .ref (g.lk M 24)) (C := "BigRunnerModel") (T := FT10) (N := 45) hx hb (hw10 hB _) (fun _ h9 => h9) hown hK hP (lo_in hL t_M (by decide)) e232 rfl 24 (by decide) (wd_971 hB _) rfl d_M_spanProduct_52 ?_
          refine lv_iload_n hx hb d_M_spanProduct_55 rfl (lv_at hl 1 rfl) ?_
          refine lv_iconst (v := nI 1) hx hb d_M_spanProduct_56 (by decide) ?_
          refine pf_iaddN (x := k9) (y := 1) hx hb d_M_spanProduct_57 ?_
          refine pf_zald (i := k9 + 1) hx hb hK hP (lo_in hL (lo_k11_24 hL _ t_M) (by decide)) eUB (lo_t56 hL _ (lo_k11_24 hL _ t_M)) (by omega) (by decide) d_M_spanProduct_58 ?_
          refine lv_if_ne (tgt := 92) hx hb d_M_spanProduct_59 (by decide) (fun b278 => ?_) (fun b278 => ?_)
          · skip
            replace b278 : ¬ (hUB (k9 + 1)) = nI 0 := b278
            refine lv_iconst (v := nI 0) hx hb d_M_spanProduct_92 (by decide) ?_
            exact jn1 ((nI 0)) (by first | (simp [spN, mz, bI, b266, b271, b276, b277, b278]; done) | contradiction) _ _ hP hD hS
          · skip
            replace b278 : (hUB (k9 + 1)) = nI 0 := b278
            refine lv_aload_n hx hb d_M_spanProduct_62 rfl (lv_at hl 0 rfl) ?_
            refine pf_get (v := .ref (g.lk M 21)) (C := "BigRunnerModel") (T := FT10) (N := 45) hx hb (hw10 hB _) (fun _ h9 => h9) hown hK hP (lo_in hL t_M (by decide)) e232 rfl 21 (by decide) (wd_968 hB _) rfl d_M_spanProduct_63 ?_
            refine lv_iload_n hx hb d_M_spanProduct_66 rfl (lv_at hl 1 rfl) ?_
            refine lv_iconst (v := nI 1) hx hb d_M_spanProduct_67 (by decide) ?_
            refine pf_iaddN (x := k9) (y := 1) hx hb d_M_spanProduct_68 ?_
            refine pf_lald (i := k9 + 1) hx hb hK hP (lo_in hL (lo_k11_21 hL _ t_M) (by decide)) eAA (lo_t53 hL _ (lo_k11_21 hL _ t_M)) (by omega) (by decide) d_M_spanProduct_69 ?_
            refine lv_lconst (v := nL 0) hx hb d_M_spanProduct_70 (by decide) ?_
            refine W.lcmp hx hb d_M_spanProduct_71 ?_
            refine lv_if_ne (tgt := 92) hx hb d_M_spanProduct_72 (by decide) (fun b279 => ?_) (fun b279 => ?_)
            · skip
              replace b279 := mt pl_eq.mpr b279
              refine lv_iconst (v := nI 0) hx hb d_M_spanProduct_92 (by decide) ?_
              exact jn1 ((nI 0)) (by first | (simp [spN, mz, bI, b266, b271, b276, b277, b278, b279]; done) | contradiction) _ _ hP hD hS
            · skip
              replace b279 := pl_eq.mp b279
              refine lv_aload_n hx hb d_M_spanProduct_75 rfl (lv_at hl 0 rfl) ?_
              refine pf_get (v := .ref (g.lk M 22)) (C := "BigRunnerModel") (T := FT10) (N := 45) hx hb (hw10 hB _) (fun _ h9 => h9) hown hK hP (lo_in hL t_M (by decide)) e232 rfl 22 (by decide) (wd_969 hB _) rfl d_M_spanProduct_76 ?_
              refine lv_iload_n hx hb d_M_spanProduct_79 rfl (lv_at hl 1 rfl) ?_
              refine lv_iconst (v := nI 1) hx hb d_M_spanProduct_80 (by decide) ?_
              refine pf_iaddN (x := k9) (y := 1) hx hb d_M_spanProduct_81 ?_
              refine pf_lald (i := k9 + 1) hx hb hK hP (lo_in hL (lo_k11_22 hL _ t_M) (by decide)) eBB (lo_t54 hL _ (lo_k11_22 hL _ t_M)) (by omega) (by decide) d_M_spanProduct_82 ?_
              refine lv_lconst (v := nL 0) hx hb d_M_spanProduct_83 (by decide) ?_
              refine W.lcmp hx hb d_M_spanProduct_84 ?_
              refine lv_if_ne (tgt := 92) hx hb d_M_spanProduct_85 (by decide) (fun b280 => ?_) (fun b280 => ?_)
              · skip
                replace b280 := mt pl_eq.mpr b280
                refine lv_iconst (v := nI 0) hx hb d_M_spanProduct_92 (by decide) ?_
                exact jn1 ((nI 0)) (by first | (simp [spN, mz, bI, b266, b271, b276, b277, b278, b279, b280]; done) | contradiction) _ _ hP hD hS
              · skip
                replace b280 := pl_eq.mp b280
                refine lv_iconst (v := nI 1) hx hb d_M_spanProduct_88 (by decide) ?_
                refine lv_goto (tgt := 93) hx hb d_M_spanProduct_89 (by decide) ?_
                exact jn1 ((nI 1)) (by first | (simp [spN, mz, bI, b266, b271, b276, b277, b278, b279, b280]; done) | contradiction) _ _ hP hD hS
      · skip
        replace b276 := pl_eq.mp b276
        refine lv_aload_n hx hb d_M_spanProduct_29 rfl (lv_at hl 0 rfl) ?_
        refine pf_get (v := .ref (g.lk M 22)) (C := "BigRunnerModel") (T := FT10) (N := 45) hx hb (hw10 hB _) (fun _ h9 => h9) hown hK hP (lo_in hL t_M (by decide)) e232 rfl 22 (by decide) (wd_969 hB _) rfl d_M_spanProduct_30 ?_
        refine lv_iload_n hx hb d_M_spanProduct_33 rfl (lv_at hl 1 rfl) ?_
        refine pf_lald (i := k9) hx hb hK hP (lo_in hL (lo_k11_22 hL _ t_M) (by decide)) eBB (lo_t54 hL _ (lo_k11_22 hL _ t_M)) (by omega) (by decide) d_M_spanProduct_34 ?_
        refine lv_lconst (v := nL 0) hx hb d_M_spanProduct_35 (by decide) ?_
        refine W.lcmp hx hb d_M_spanProduct_36 ?_
        refine lv_if_eq (tgt := 88) hx hb d_M_spanProduct_37 (by decide) (fun b281 => ?_) (fun b281 => ?_)
        · skip
          replace b281 := pl_eq.mp b281
          refine lv_iconst (v := nI 1) hx hb d_M_spanProduct_88 (by decide) ?_
          refine lv_goto (tgt := 93) hx hb d_M_spanProduct_89 (by decide) ?_
          exact jn1 ((nI 1)) (by first | (simp [spN, mz, bI, b266, b271, b276, b281]; done) | contradiction) _ _ hP hD hS
        · skip
          replace b281 := mt pl_eq.mpr b281
          refine lv_aload_n hx hb d_M_spanProduct_40 rfl (lv_at hl 0 rfl) ?_
          refine pf_get (v := .ref (g.lk M 23)) (C := "BigRunnerModel") (T := FT10) (N := 45) hx hb (hw10 hB _) (fun _ h9 => h9) hown hK hP (lo_in hL t_M (by decide)) e232 rfl 23 (by decide) (wd_970 hB _) rfl d_M_spanProduct_41 ?_
          refine lv_iload_n hx hb d_M_spanProduct_44 rfl (lv_at hl 1 rfl) ?_
          refine lv_iconst (v := nI 1) hx hb d_M_spanProduct_45 (by decide) ?_
          refine pf_iaddN (x := k9) (y := 1) hx hb d_M_spanProduct_46 ?_
          refine pf_zald (i := k9 + 1) hx hb hK hP (lo_in hL (lo_k11_23 hL _ t_M) (by decide)) eUA (lo_t55 hL _ (lo_k11_23 hL _ t_M)) (by omega) (by decide) d_M_spanProduct_47 ?_
          refine lv_if_ne (tgt := 92) hx hb d_M_spanProduct_48 (by decide) (fun b282 => ?_) (fun b282 => ?_)
          · skip
            replace b282 : ¬ (hUA (k9 + 1)) = nI 0 := b282
            refine lv_iconst (v := nI 0) hx hb d_M_spanProduct_92 (by decide) ?_
            exact jn1 ((nI 0)) (by first | (simp [spN, mz, bI, b266, b271, b276, b281, b282]; done) | contradiction) _ _ hP hD hS
          · skip
            replace b282 : (hUA (k9 + 1)) = nI 0 := b282
            refine lv_aload_n hx hb d_M_spanProduct_51 rfl (lv_at hl 0 rfl) ?_
            refine pf_get (v := .ref (g.lk M 24)) (C := "BigRunnerModel") (T := FT10) (N := 45) hx hb (hw10 hB _) (fun _ h9 => h9) hown hK hP (lo_in hL t_M (by decide)) e232 rfl 24 (by decide) (wd_971 hB _) rfl d_M_spanProduct_52 ?_
            refine lv_iload_n hx hb d_M_spanProduct_55 rfl (lv_at hl 1 rfl) ?_
            refine lv_iconst (v := nI 1) hx hb d_M_spanProduct_56 (by decide) ?_
            refine pf_iaddN (x := k9) (y := 1) hx hb d_M_spanProduct_57 ?_
            refine pf_zald (i := k9 + 1) hx hb hK hP (lo_in hL (lo_k11_24 hL _ t_M) (by decide)) eUB (lo_t56 hL _ (lo_k11_24 hL _ t_M)) (by omega) (by decide) d_M_spanProduct_58 ?_
            refine lv_if_ne (tgt := 92) hx hb d_M_spanProduct_59 (by decide) (fun b283 => ?_) (fun b283 => ?_)
            · skip
              replace b283 : ¬ (hUB (k9 + 1)) = nI 0 := b283
              refine lv_iconst (v := nI 0) hx hb d_M_spanProduct_92 (by decide) ?_
              exact jn1 ((nI 0)) (by first | (simp [spN, mz, bI, b266, b271, b276, b281, b282, b283]; done) | contradiction) _ _ hP hD hS
            · skip
              replace b283 : (hUB (k9 + 1)) = nI 0 := b283
              refine lv_aload_n hx hb d_M_spanProduct_62 rfl (lv_at hl 0 rfl) ?_
              refine pf_get (v := .ref (g.lk M 21)) (C := "BigRunnerModel") (T := FT10) (N := 45) hx hb (hw10 hB _) (fun _ h9 => h9) hown hK hP (lo_in hL t_M (by decide)) e232 rfl 21 (by decide) (wd_968 hB _) rfl d_M_spanProduct_63 ?_
              refine lv_iload_n hx hb d_M_spanProduct_66 rfl (lv_at hl 1 rfl) ?_
              refine lv_iconst (v := nI 1) hx hb d_M_spanProduct_67 (by decide) ?_
              refine pf_iaddN (x := k9) (y := 1) hx hb d_M_spanProduct_68 ?_
              refine pf_lald (i := k9 + 1) hx hb hK hP (lo_in hL (lo_k11_21 hL _ t_M) (by decide)) eAA (lo_t53 hL _ (lo_k11_21 hL _ t_M)) (by omega) (by decide) d_M_spanProduct_69 ?_
              refine lv_lconst (v := nL 0) hx hb d_M_spanProduct_70 (by decide) ?_
              refine W.lcmp hx hb d_M_spanProduct_71 ?_
              refine lv_if_ne (tgt := 92) hx hb d_M_spanProduct_72 (by decide) (fun b284 => ?_) (fun b284 => ?_)
              · skip
                replace b284 := mt pl_eq.mpr b284
                refine lv_iconst (v := nI 0) hx hb d_M_spanProduct_92 (by decide) ?_
                exact jn1 ((nI 0)) (by first | (simp [spN, mz, bI, b266, b271, b276, b281, b282, b283, b284]; done) | contradiction) _ _ hP hD hS
              · skip
                replace b284 := pl_eq.mp b284
                refine lv_aload_n hx hb d_M_spanProduct_75 rfl (lv_at hl 0 rfl) ?_
                refine pf_get (v := .ref (g.lk M 22)) (C := "BigRunnerModel") (T := FT10) (N := 45) hx hb (hw10 hB _) (fun _ h9 => h9) hown hK hP (lo_in hL t_M (by decide)) e232 rfl 22 (by decide) (wd_969 hB _) rfl d_M_spanProduct_76 ?_
                refine lv_iload_n hx hb d_M_spanProduct_79 rfl (lv_at hl 1 rfl) ?_
                refine lv_iconst (v := nI 1) hx hb d_M_spanProduct_80 (by decide) ?_
                refine pf_iaddN (x := k9) (y := 1) hx hb d_M_spanProduct_81 ?_
                refine pf_lald (i := k9 + 1) hx hb hK hP (lo_in hL (lo_k11_22 hL _ t_M) (by decide)) eBB (lo_t54 hL _ (lo_k11_22 hL _ t_M)) (by omega) (by decide) d_M_spanProduct_82 ?_
                refine lv_lconst (v := nL 0) hx hb d_M_spanProduct_83 (by decide) ?_
                refine W.lcmp hx hb d_M_spanProduct_84 ?_
                refine lv_if_ne (tgt := 92) hx hb d_M_spanProduct_85 (by decide) (fun b285 => ?_) (fun b285 => ?_)
                · skip
                  replace b285 := mt pl_eq.mpr b285
                  refine lv_iconst (v := nI 0) hx hb d_M_spanProduct_92 (by decide) ?_
                  exact jn1 ((nI 0)) (by first | (simp [spN, mz, bI, b266, b271, b276, b281, b282, b283, b284, b285]; done) | contradiction) _ _ hP hD hS
                · skip
                  replace b285 := pl_eq.mp b285
                  refine lv_iconst (v := nI 1) hx hb d_M_spanProduct_88 (by decide) ?_
                  refine lv_goto (tgt := 93) hx hb d_M_spanProduct_89 (by decide) ?_
                  exact jn1 ((nI 1)) (by first | (simp [spN, mz, bI, b266, b271, b276, b281, b282, b283, b284, b285]; done) | contradiction) _ _ hP hD hS
set_option maxHeartbeats 4000000 in
set_option maxRecDepth 100000 in
theorem m2_spanQuotient (l : Launch) (g : Lay) (sz : Nat) (f : Nat → va_E) (M : Nat) (k9 : Nat) (rs : Bool) (hUA : Nat → Int32) (hUB : Nat → Int32) (hAA : Nat → Int64) (hBB : Nat → Int64) (hL : LO g) (t_M : g.tg M = 11) (hI : IV g f) (hk : k9 < 79) (eUA : f (g.lk M 23) = .inl (g.ac (g.lk M 23), 80, .inl hUA)) (eUB : f (g.lk M 24) = .inl (g.ac (g.lk M 24), 80, .inl hUB)) (eAA : f (g.lk M 21) = .inl (g.ac (g.lk M 21), 80, .inr (.inl hAA))) (eBB : f (g.lk M 22) = .inl (g.ac (g.lk M 22), 80, .inr (.inl hBB))) : Met l ⟨"BigRunnerModel", "spanQuotient", "(IZ)V"⟩ [Cond.code ⟨"BigRunnerModel", "spanQuotient", "(IZ)V"⟩ prog_12_method_21_code 9 none] ({ frames := 1, cells := 0, slots := 0, locals := 27 }) (va_Pc [.ref M, .int (nI k9), .int (bI rs)] (pc_in g sz f)) (va_Qv (fun f1 => (f1 (g.lk M 23) = .inl (g.ac (g.lk M 23), 80, .inl (upd hUA k9 (bI (mU (sqf rs (hUA k9) (hUB k9) (hAA k9) (hUA (k9 + 1)) (hUB (k9 + 1))) (squ rs (hUA k9) (hUB k9) (hAA k9) (hBB k9) (hUA (k9 + 1)) (hUB (k9 + 1)) (hAA (k9 + 1)) (hBB (k9 + 1)))))))) ∧ (f1 (g.lk M 24) = .inl (g.ac (g.lk M 24), 80, .inl (upd hUB k9 (bI (mU (sqr rs (hUA k9) (hUB k9) (hUA (k9 + 1)) (hUB (k9 + 1))) (sqm rs (hUA k9) (hUB k9) (hAA k9) (hBB k9) (hUA (k9 + 1)) (hUB (k9 + 1)) (hAA (k9 + 1)) (hBB (k9 + 1)))))))) ∧ (f1 (g.lk M 21) = .inl (g.ac (g.lk M 21), 80, .inr (.inl (vp_updL hAA k9 (mV (sqf rs (hUA k9) (hUB k9) (hAA k9) (hUA (k9 + 1)) (hUB (k9 + 1))) (squ rs (hUA k9) (hUB k9) (hAA k9) (hBB k9) (hUA (k9 + 1)) (hUB (k9 + 1)) (hAA (k9 + 1)) (hBB (k9 + 1)))))))) ∧ (f1 (g.lk M 22) = .inl (g.ac (g.lk M 22), 80, .inr (.inl (vp_updL hBB k9 (mV (sqr rs (hUA k9) (hUB k9) (hUA (k9 + 1)) (hUB (k9 + 1))) (sqm rs (hUA k9) (hUB k9) (hAA k9) (hBB k9) (hUA (k9 + 1)) (hUB (k9 + 1)) (hAA (k9 + 1)) (hBB (k9 + 1)))))))) ∧ (IV g f1) ∧ (un [53, 54, 55, 56] g f f1)) (pc_out g sz) (pc_A g sz)) 0 0 (pc_A g sz) := by
  refine pe_ofW (cc := prog_12_method_21_code) (maxL := 9) (ret := none) (lv := [(0, .ref M), (1, .int (nI k9)), (2, .int (bI rs))]) (by decide) (Nat.le_of_ble_eq_true rfl) rfl ?_
  intro p e s m args below meth c ls hx hb hr hml hlocks hown hB hP hK hD hsz hS hl
  subst hsz
  have hu : un [53, 54, 55, 56] g f f := un.rf
  have jn1 : ∀ (bj2 : Int32), bj2 = (bI (mf (hUA k9) (hUB k9))) → ∀ (H : Heap) (locs : List Loc), va_P g.D vcl (va_pl g.LP f) H → va_D (pc_A g s.heap.size) (va_pl g.LP f) → va_S (pc_A g s.heap.size) s.heap H locs → W p l e ({ frames := 1, cells := 0, slots := 0, locals := 27 }) s m args below meth c H locs 0 0 (MQ below (va_Qv (fun f1 => (f1 (g.lk M 23) = .inl (g.ac (g.lk M 23), 80, .inl (upd hUA k9 (bI (mU (sqf rs (hUA k9) (hUB k9) (hAA k9) (hUA (k9 + 1)) (hUB (k9 + 1))) (squ rs (hUA k9) (hUB k9) (hAA k9) (hBB k9) (hUA (k9 + 1)) (hUB (k9 + 1)) (hAA (k9 + 1)) (hBB (k9 + 1)))))))) ∧ (f1 (g.lk M 24) = .inl (g.ac (g.lk M 24), 80, .inl (upd hUB k9 (bI (mU (sqr rs (hUA k9) (hUB k9) (hUA (k9 + 1)) (hUB (k9 + 1))) (sqm rs (hUA k9) (hUB k9) (hAA k9) (hBB k9) (hUA (k9 + 1)) (hUB (k9 + 1)) (hAA (k9 + 1)) (hBB (k9 + 1)))))))) ∧ (f1 (g.lk M 21) = .inl (g.ac (g.lk M 21), 80, .inr (.inl (vp_updL hAA k9 (mV (sqf rs (hUA k9) (hUB k9) (hAA k9) (hUA (k9 + 1)) (hUB (k9 + 1))) (squ rs (hUA k9) (hUB k9) (hAA k9) (hBB k9) (hUA (k9 + 1)) (hUB (k9 + 1)) (hAA (k9 + 1)) (hBB (k9 + 1)))))))) ∧ (f1 (g.lk M 22) = .inl (g.ac (g.lk M 22), 80, .inr (.inl (vp_updL hBB k9 (mV (sqr rs (hUA k9) (hUB k9) (hUA (k9 + 1)) (hUB (k9 + 1))) (sqm rs (hUA k9) (hUB k9) (hAA k9) (hBB k9) (hUA (k9 + 1)) (hUB (k9 + 1)) (hAA (k9 + 1)) (hBB (k9 + 1)))))))) ∧ (IV g f1) ∧ (un [53, 54, 55, 56] g f f1)) (pc_out g s.heap.size) (pc_A g s.heap.size)) args s 0 0 (pc_A g s.heap.size)) (F0 m 23 ls [.int bj2]) := by
    intro bj2 hbj3 H locs hP hD hS
    subst hbj3
    refine lv_istore_n (lv' := [(3, .int (bI (mf (hUA k9) (hUB k9)))), (0, .ref M), (1, .int (nI k9)), (2, .int (bI rs))]) hx hb d_M_spanQuotient_23 rfl hl (by decide) rfl (fun ls hl => ?_)
    have jn4 : ∀ (bj5 : Int32), bj5 = (bI (sqw (hUA k9) (hAA k9))) → ∀ (H : Heap) (locs : List Loc), va_P g.D vcl (va_pl g.LP f) H → va_D (pc_A g s.heap.size) (va_pl g.LP f) → va_S (pc_A g s.heap.size) s.heap H locs → W p l e ({ frames := 1, cells := 0, slots := 0, locals := 27 }) s m args below meth c H locs 0 0 (MQ below (va_Qv (fun f1 => (f1 (g.lk M 23) = .inl (g.ac (g.lk M 23), 80, .inl (upd hUA k9 (bI (mU (sqf rs (hUA k9) (hUB k9) (hAA k9) (hUA (k9 + 1)) (hUB (k9 + 1))) (squ rs (hUA k9) (hUB k9) (hAA k9) (hBB k9) (hUA (k9 + 1)) (hUB (k9 + 1)) (hAA (k9 + 1)) (hBB (k9 + 1)))))))) ∧ (f1 (g.lk M 24) = .inl (g.ac (g.lk M 24), 80, .inl (upd hUB k9 (bI (mU (sqr rs (hUA k9) (hUB k9) (hUA (k9 + 1)) (hUB (k9 + 1))) (sqm rs (hUA k9) (hUB k9) (hAA k9) (hBB k9) (hUA (k9 + 1)) (hUB (k9 + 1)) (hAA (k9 + 1)) (hBB (k9 + 1)))))))) ∧ (f1 (g.lk M 21) = .inl (g.ac (g.lk M 21), 80, .inr (.inl (vp_updL hAA k9 (mV (sqf rs (hUA k9) (hUB k9) (hAA k9) (hUA (k9 + 1)) (hUB (k9 + 1))) (squ rs (hUA k9) (hUB k9) (hAA k9) (hBB k9) (hUA (k9 + 1)) (hUB (k9 + 1)) (hAA (k9 + 1)) (hBB (k9 + 1)))))))) ∧ (f1 (g.lk M 22) = .inl (g.ac (g.lk M 22), 80, .inr (.inl (vp_updL hBB k9 (mV (sqr rs (hUA k9) (hUB k9) (hUA (k9 + 1)) (hUB (k9 + 1))) (sqm rs (hUA k9) (hUB k9) (hAA k9) (hBB k9) (hUA (k9 + 1)) (hUB (k9 + 1)) (hAA (k9 + 1)) (hBB (k9 + 1)))))))) ∧ (IV g f1) ∧ (un [53, 54, 55, 56] g f f1)) (pc_out g s.heap.size) (pc_A g s.heap.size)) args s 0 0 (pc_A g s.heap.size)) (F0 m 49 ls [.int bj5]) := by
      intro bj5 hbj6 H locs hP hD hS
      subst hbj6
      refine lv_istore (lv' := [(4, .int (bI (sqw (hUA k9) (hAA k9)))), (3, .int (bI (mf (hUA k9) (hUB k9)))), (0, .ref M), (1, .int (nI k9)), (2, .int (bI rs))]) hx hb d_M_spanQuotient_49 hl (by decide) rfl (fun ls hl => ?_)
      have jn7 : ∀ (bj8 : Int64), bj8 = (sq0 (hUA k9) (hUB k9) (hAA k9) (hBB k9)) → ∀ (H : Heap) (locs : List Loc), va_P g.D vcl (va_pl g.LP f) H → va_D (pc_A g s.heap.size) (va_pl g.LP f) → va_S (pc_A g s.heap.size) s.heap H locs → W p l e ({ frames := 1, cells := 0, slots := 0, locals := 27 }) s m args below meth c H locs 0 0 (MQ below (va_Qv (fun f1 => (f1 (g.lk M 23) = .inl (g.ac (g.lk M 23), 80, .inl (upd hUA k9 (bI (mU (sqf rs (hUA k9) (hUB k9) (hAA k9) (hUA (k9 + 1)) (hUB (k9 + 1))) (squ rs (hUA k9) (hUB k9) (hAA k9) (hBB k9) (hUA (k9 + 1)) (hUB (k9 + 1)) (hAA (k9 + 1)) (hBB (k9 + 1)))))))) ∧ (f1 (g.lk M 24) = .inl (g.ac (g.lk M 24), 80, .inl (upd hUB k9 (bI (mU (sqr rs (hUA k9) (hUB k9) (hUA (k9 + 1)) (hUB (k9 + 1))) (sqm rs (hUA k9) (hUB k9) (hAA k9) (hBB k9) (hUA (k9 + 1)) (hUB (k9 + 1)) (hAA (k9 + 1)) (hBB (k9 + 1)))))))) ∧ (f1 (g.lk M 21) = .inl (g.ac (g.lk M 21), 80, .inr (.inl (vp_updL hAA k9 (mV (sqf rs (hUA k9) (hUB k9) (hAA k9) (hUA (k9 + 1)) (hUB (k9 + 1))) (squ rs (hUA k9) (hUB k9) (hAA k9) (hBB k9) (hUA (k9 + 1)) (hUB (k9 + 1)) (hAA (k9 + 1)) (hBB (k9 + 1)))))))) ∧ (f1 (g.lk M 22) = .inl (g.ac (g.lk M 22), 80, .inr (.inl (vp_updL hBB k9 (mV (sqr rs (hUA k9) (hUB k9) (hUA (k9 + 1)) (hUB (k9 + 1))) (sqm rs (hUA k9) (hUB k9) (hAA k9) (hBB k9) (hUA (k9 + 1)) (hUB (k9 + 1)) (hAA (k9 + 1)) (hBB (k9 + 1)))))))) ∧ (IV g f1) ∧ (un [53, 54, 55, 56] g f f1)) (pc_out g s.heap.size) (pc_A g s.heap.size)) args s 0 0 (pc_A g s.heap.size)) (F0 m 82 ls [.long bj8]) := by
        intro bj8 hbj9 H locs hP hD hS
        subst hbj9
        refine lv_lstore (lv' := [(5, .long (sq0 (hUA k9) (hUB k9) (hAA k9) (hBB k9))), (4, .int (bI (sqw (hUA k9) (hAA k9)))), (3, .int (bI (mf (hUA k9) (hUB k9)))), (0, .ref M), (1, .int (nI k9)), (2, .int (bI rs))]) hx hb d_M_spanQuotient_82 hl (by decide) rfl (fun ls hl => ?_)
        refine lv_iload_n hx hb d_M_spanQuotient_84 rfl (lv_at hl 5 rfl) ?_
        refine lv_if_eq (tgt := 154) hx hb d_M_spanQuotient_85 (by decide) (fun b10 => ?_) (fun b10 => ?_)
        · skip
          replace b10 : (bI rs) = nI 0 := b10
          replace b10 := bI_0 b10
          have jn11 : ∀ (bj12 : Int32), bj12 = (bI (sqb rs (hUA k9) (hAA k9))) → ∀ (H : Heap) (locs : List Loc), va_P g.D vcl (va_pl g.LP f) H → va_D (pc_A g s.heap.size) (va_pl g.LP f) → va_S (pc_A g s.heap.size) s.heap H locs → W p l e ({ frames := 1, cells := 0, slots := 0, locals := 27 }) s m args below meth c H locs 0 0 (MQ below (va_Qv (fun f1 => (f1 (g.lk M 23) = .inl (g.ac (g.lk M 23), 80, .inl (upd hUA k9 (bI (mU (sqf rs (hUA k9) (hUB k9) (hAA k9) (hUA (k9 + 1)) (hUB (k9 + 1))) (squ rs (hUA k9) (hUB k9) (hAA k9) (hBB k9) (hUA (k9 + 1)) (hUB (k9 + 1)) (hAA (k9 + 1)) (hBB (k9 + 1)))))))) ∧ (f1 (g.lk M 24) = .inl (g.ac (g.lk M 24), 80, .inl (upd hUB k9 (bI (mU (sqr rs (hUA k9) (hUB k9) (hUA (k9 + 1)) (hUB (k9 + 1))) (sqm rs (hUA k9) (hUB k9) (hAA k9) (hBB k9) (hUA (k9 + 1)) (hUB (k9 + 1)) (hAA (k9 + 1)) (hBB (k9 + 1)))))))) ∧ (f1 (g.lk M 21) = .inl (g.ac (g.lk M 21), 80, .inr (.inl (vp_updL hAA k9 (mV (sqf rs (hUA k9) (hUB k9) (hAA k9) (hUA (k9 + 1)) (hUB (k9 + 1))) (squ rs (hUA k9) (hUB k9) (hAA k9) (hBB k9) (hUA (k9 + 1)) (hUB (k9 + 1)) (hAA (k9 + 1)) (hBB (k9 + 1)))))))) ∧ (f1 (g.lk M 22) = .inl (g.ac (g.lk M 22), 80, .inr (.inl (vp_updL hBB k9 (mV (sqr rs (hUA k9) (hUB k9) (hUA (k9 + 1)) (hUB (k9 + 1))) (sqm rs (hUA k9) (hUB k9) (hAA k9) (hBB k9) (hUA (k9 + 1)) (hUB (k9 + 1)) (hAA (k9 + 1)) (hBB (k9 + 1)))))))) ∧ (IV g f1) ∧ (un [53, 54, 55, 56] g f f1)) (pc_out g s.heap.size) (pc_A g s.heap.size)) args s 0 0 (pc_A g s.heap.size)) (F0 m 168 ls [.int bj12]) := by
            intro bj12 hbj13 H locs hP hD hS
            subst hbj13
            refine lv_istore (lv' := [(7, .int (bI (sqb rs (hUA k9) (hAA k9)))), (5, .long (sq0 (hUA k9) (hUB k9) (hAA k9) (hBB k9))), (4, .int (bI (sqw (hUA k9) (hAA k9)))), (3, .int (bI (mf (hUA k9) (hUB k9)))), (0, .ref M), (1, .int (nI k9)), (2, .int (bI rs))]) hx hb d_M_spanQuotient_168 hl (by decide) rfl (fun ls hl => ?_)
            refine lv_aload_n hx hb d_M_spanQuotient_170 rfl (lv_at hl 4 rfl) ?_
            refine lv_iload_n hx hb d_M_spanQuotient_171 rfl (lv_at hl 5 rfl) ?_
            have jn14 : ∀ (bj15 : Int64), bj15 = (if sqb rs (hUA k9) (hAA k9) = true then nL 0 else -(sq0 (hUA k9) (hUB k9) (hAA k9) (hBB k9))) → ∀ (H : Heap) (locs : List Loc), va_P g.D vcl (va_pl g.LP f) H → va_D (pc_A g s.heap.size) (va_pl g.LP f) → va_S (pc_A g s.heap.size) s.heap H locs → W p l e ({ frames := 1, cells := 0, slots := 0, locals := 27 }) s m args below meth c H locs 0 0 (MQ below (va_Qv (fun f1 => (f1 (g.lk M 23) = .inl (g.ac (g.lk M 23), 80, .inl (upd hUA k9 (bI (mU (sqf rs (hUA k9) (hUB k9) (hAA k9) (hUA (k9 + 1)) (hUB (k9 + 1))) (squ rs (hUA k9) (hUB k9) (hAA k9) (hBB k9) (hUA (k9 + 1)) (hUB (k9 + 1)) (hAA (k9 + 1)) (hBB (k9 + 1)))))))) ∧ (f1 (g.lk M 24) = .inl (g.ac (g.lk M 24), 80, .inl (upd hUB k9 (bI (mU (sqr rs (hUA k9) (hUB k9) (hUA (k9 + 1)) (hUB (k9 + 1))) (sqm rs (hUA k9) (hUB k9) (hAA k9) (hBB k9) (hUA (k9 + 1)) (hUB (k9 + 1)) (hAA (k9 + 1)) (hBB (k9 + 1)))))))) ∧ (f1 (g.lk M 21) = .inl (g.ac (g.lk M 21), 80, .inr (.inl (vp_updL hAA k9 (mV (sqf rs (hUA k9) (hUB k9) (hAA k9) (hUA (k9 + 1)) (hUB (k9 + 1))) (squ rs (hUA k9) (hUB k9) (hAA k9) (hBB k9) (hUA (k9 + 1)) (hUB (k9 + 1)) (hAA (k9 + 1)) (hBB (k9 + 1)))))))) ∧ (f1 (g.lk M 22) = .inl (g.ac (g.lk M 22), 80, .inr (.inl (vp_updL hBB k9 (mV (sqr rs (hUA k9) (hUB k9) (hUA (k9 + 1)) (hUB (k9 + 1))) (sqm rs (hUA k9) (hUB k9) (hAA k9) (hBB k9) (hUA (k9 + 1)) (hUB (k9 + 1)) (hAA (k9 + 1)) (hBB (k9 + 1)))))))) ∧ (IV g f1) ∧ (un [53, 54, 55, 56] g f f1)) (pc_out g s.heap.size) (pc_A g s.heap.size)) args s 0 0 (pc_A g s.heap.size)) (F0 m 184 ls [.long bj15, .int (nI k9), .ref M]) := by
              intro bj15 hbj16 H locs hP hD hS
              subst hbj16
              refine lv_lload hx hb d_M_spanQuotient_184 (lv_at hl 1 rfl) ?_
              have jn17 : ∀ (bj18 : Int32), bj18 = (bI (((mf (hUA k9) (hUB k9))) && !(sqb rs (hUA k9) (hAA k9)))) → ∀ (H : Heap) (locs : List Loc), va_P g.D vcl (va_pl g.LP f) H → va_D (pc_A g s.heap.size) (va_pl g.LP f) → va_S (pc_A g s.heap.size) s.heap H locs → W p l e ({ frames := 1, cells := 0, slots := 0, locals := 27 }) s m args below meth c H locs 0 0 (MQ below (va_Qv (fun f1 => (f1 (g.lk M 23) = .inl (g.ac (g.lk M 23), 80, .inl (upd hUA k9 (bI (mU (sqf rs (hUA k9) (hUB k9) (hAA k9) (hUA (k9 + 1)) (hUB (k9 + 1))) (squ rs (hUA k9) (hUB k9) (hAA k9) (hBB k9) (hUA (k9 + 1)) (hUB (k9 + 1)) (hAA (k9 + 1)) (hBB (k9 + 1)))))))) ∧ (f1 (g.lk M 24) = .inl (g.ac (g.lk M 24), 80, .inl (upd hUB k9 (bI (mU (sqr rs (hUA k9) (hUB k9) (hUA (k9 + 1)) (hUB (k9 + 1))) (sqm rs (hUA k9) (hUB k9) (hAA k9) (hBB k9) (hUA (k9 + 1)) (hUB (k9 + 1)) (hAA (k9 + 1)) (hBB (k9 + 1)))))))) ∧ (f1 (g.lk M 21) = .inl (g.ac (g.lk M 21), 80, .inr (.inl (vp_updL hAA k9 (mV (sqf rs (hUA k9) (hUB k9) (hAA k9) (hUA (k9 + 1)) (hUB (k9 + 1))) (squ rs (hUA k9) (hUB k9) (hAA k9) (hBB k9) (hUA (k9 + 1)) (hUB (k9 + 1)) (hAA (k9 + 1)) (hBB (k9 + 1)))))))) ∧ (f1 (g.lk M 22) = .inl (g.ac (g.lk M 22), 80, .inr (.inl (vp_updL hBB k9 (mV (sqr rs (hUA k9) (hUB k9) (hUA (k9 + 1)) (hUB (k9 + 1))) (sqm rs (hUA k9) (hUB k9) (hAA k9) (hBB k9) (hUA (k9 + 1)) (hUB (k9 + 1)) (hAA (k9 + 1)) (hBB (k9 + 1)))))))) ∧ (IV g f1) ∧ (un [53, 54, 55, 56] g f f1)) (pc_out g s.heap.size) (pc_A g s.heap.size)) args s 0 0 (pc_A g s.heap.size)) (F0 m 200 ls [.int bj18, .long (sq0 (hUA k9) (hUB k9) (hAA k9) (hBB k9)), .long (if sqb rs (hUA k9) (hAA k9) = true then nL 0 else -(sq0 (hUA k9) (hUB k9) (hAA k9) (hBB k9))), .int (nI k9), .ref M]) := by
                intro bj18 hbj19 H locs hP hD hS
                subst hbj19
                refine lv_iload_n hx hb d_M_spanQuotient_200 rfl (lv_at hl 3 rfl) ?_
                obtain ⟨th_21, n_22, dr_23, sz_24, ix_25, dp_26, wt_27, op_28, tp_29, wa_30, gi_31, pc_32, st_33, tr_34, sp_35, ma_36, lg_37, du_38, e20, c39, c40, c41, c42, c43, c44, c45, c46, c47, c48, c49, c50, c51, c52, c53⟩ := oc_11.of t_M (hI.1 M)
                refine pcc_v (va_runV (C := "BigRunnerModel") (As := [.int (nI k9), .long (if sqb rs (hUA k9) (hAA k9) = true then nL 0 else -(sq0 (hUA k9) (hUB k9) (hAA k9) (hBB k9))), .long (sq0 (hUA k9) (hUB k9) (hAA k9) (hBB k9)), .int (bI (((mf (hUA k9) (hUB k9))) && !(sqb rs (hUA k9) (hAA k9)))), .int (bI (mf (hUA k9) (hUB k9)))]) (rest := []) ⟨hx, hb, hml, hown, tb_nil⟩ (m2_interval l g H.size f M k9 ((if sqb rs (hUA k9) (hAA k9) = true then nL 0 else -(sq0 (hUA k9) (hUB k9) (hAA k9) (hBB k9)))) ((sq0 (hUA k9) (hUB k9) (hAA k9) (hBB k9))) ((((mf (hUA k9) (hUB k9))) && !(sqb rs (hUA k9) (hAA k9)))) ((mf (hUA k9) (hUB k9))) hUA hUB hAA hBB hL t_M hI (by omega) eUA eUB eAA eBB) ⟨(callB_of 5 (tb_one (wd_1160 hB _)) tb_good1 rfl rfl rfl (wd_82 hB _) (wd_1157 hB _) (by decide +kernel) ⟨Nat.le_of_ble_eq_true rfl, Nat.le_of_ble_eq_true rfl⟩), (wd_1159 hB _), (wd_53 hB _)⟩ ⟨pe_bl, pg_recv (ci := 10) hK hP (lo_in hL t_M (by decide)) e20 rfl, pe_pre hB hK hP hD⟩ rfl rfl hl.1 rfl (lv_room (Nat.le_of_ble_eq_true rfl)) d_M_spanQuotient_201 ⟨Nat.le_of_ble_eq_true rfl, Nat.le_of_ble_eq_true rfl⟩) hS (fun f55 H locs hq56 hP hD hS => ?_)
                obtain ⟨aUA_57, aUB_58, aAA_59, aBB_60, hI1_61, hu1_62⟩ := hq56
                have hu := hu.tr hu1_62 (by decide)
                have e20 := hu1_62.at t_M (by decide) e20
                exact pe_vret hx hb hr hlocks hK hP hD hS d_M_spanQuotient_204 ⟨(aUA_57.trans (by first | (simp [sqf, squ, sqr, sqm, sqc, b10]; done) | (simp [sqf, squ, sqr, sqm, sqc]; done) | contradiction)), (aUB_58.trans (by first | (simp [sqf, squ, sqr, sqm, sqc, b10]; done) | (simp [sqf, squ, sqr, sqm, sqc]; done) | contradiction)), (aAA_59.trans (by first | (simp [sqf, squ, sqr, sqm, sqc, b10]; done) | (simp [sqf, squ, sqr, sqm, sqc]; done) | contradiction)), (aBB_60.trans (by first | (simp [sqf, squ, sqr, sqm, sqc, b10]; done) | (simp [sqf, squ, sqr, sqm, sqc]; done) | contradiction)), hI1_61, hu⟩
              refine lv_iload_n hx hb d_M_spanQuotient_186 rfl (lv_at hl 3 rfl) ?_
              refine lv_if_eq (tgt := 199) hx hb d_M_spanQuotient_187 (by decide) (fun b63 => ?_) (fun b63 => ?_)
              · skip
                replace b63 : (bI (mf (hUA k9) (hUB k9))) = nI 0 := b63
                replace b63 := bI_0 b63
                refine lv_iconst (v := nI 0) hx hb d_M_spanQuotient_199 (by decide) ?_
                exact jn17 ((nI 0)) (by first | (simp [bI, b10, b63]; done) | (simp [bI, b63]; done) | contradiction) _ _ hP hD hS
              · skip
                replace b63 : ¬ (bI (mf (hUA k9) (hUB k9))) = nI 0 := b63
                replace b63 := bI_1 b63
                refine lv_iload hx hb d_M_spanQuotient_190 (lv_at hl 0 rfl) ?_
                refine lv_if_ne (tgt := 199) hx hb d_M_spanQuotient_192 (by decide) (fun b64 => ?_) (fun b64 => ?_)
                · skip
                  replace b64 : ¬ (bI (sqb rs (hUA k9) (hAA k9))) = nI 0 := b64
                  replace b64 := bI_1 b64
                  refine lv_iconst (v := nI 0) hx hb d_M_spanQuotient_199 (by decide) ?_
                  exact jn17 ((nI 0)) (by first | (simp [bI, b10, b63, b64]; done) | (simp [bI, b63, b64]; done) | contradiction) _ _ hP hD hS
                · skip
                  replace b64 : (bI (sqb rs (hUA k9) (hAA k9))) = nI 0 := b64
                  replace b64 := bI_0 b64
                  refine lv_iconst (v := nI 1) hx hb d_M_spanQuotient_195 (by decide) ?_
                  refine lv_goto (tgt := 200) hx hb d_M_spanQuotient_196 (by decide) ?_
                  exact jn17 ((nI 1)) (by first | (simp [bI, b10, b63, b64]; done) | (simp [bI, b63, b64]; done) | contradiction) _ _ hP hD hS
            refine lv_iload hx hb d_M_spanQuotient_172 (lv_at hl 0 rfl) ?_
            refine lv_if_eq (tgt := 181) hx hb d_M_spanQuotient_174 (by decide) (fun b65 => ?_) (fun b65 => ?_)
            · skip
              replace b65 : (bI (sqb rs (hUA k9) (hAA k9))) = nI 0 := b65
              replace b65 := bI_0 b65
              refine lv_lload hx hb d_M_spanQuotient_181 (lv_at hl 1 rfl) ?_
              refine lv_lneg hx hb d_M_spanQuotient_183 ?_
              exact jn14 ((-((sq0 (hUA k9) (hUB k9) (hAA k9) (hBB k9))))) (by first | (simp [b10, b65]; done) | (simp [b65]; done) | contradiction) _ _ hP hD hS
            · skip
              replace b65 : ¬ (bI (sqb rs (hUA k9) (hAA k9))) = nI 0 := b65
              replace b65 := bI_1 b65
              refine lv_lconst (v := nL 0) hx hb d_M_spanQuotient_177 (by decide) ?_
              refine lv_goto (tgt := 184) hx hb d_M_spanQuotient_178 (by decide) ?_
              exact jn14 ((nL 0)) (by first | (simp [b10, b65]; done) | (simp [b65]; done) | contradiction) _ _ hP hD hS
          refine lv_iload_n hx hb d_M_spanQuotient_154 rfl (lv_at hl 5 rfl) ?_
          refine lv_if_eq (tgt := 167) hx hb d_M_spanQuotient_155 (by decide) (fun b66 => ?_) (fun b66 => ?_)
          · skip
            replace b66 : (bI rs) = nI 0 := b66
            replace b66 := bI_0 b66
            refine lv_iconst (v := nI 0) hx hb d_M_spanQuotient_167 (by decide) ?_
            exact jn11 ((nI 0)) (by first | (simp [sqb, bI, b10, b66]; done) | (simp [sqb, bI]; done) | contradiction) _ _ hP hD hS
          · skip
            replace b66 : ¬ (bI rs) = nI 0 := b66
            exact absurd (b10.symm.trans (show _ = true from bI_1 b66)) (by decide)
        · skip
          replace b10 : ¬ (bI rs) = nI 0 := b10
          replace b10 := bI_1 b10
          refine lv_aload_n hx hb d_M_spanQuotient_88 rfl (lv_at hl 3 rfl) ?_
          obtain ⟨th_68, n_69, dr_70, sz_71, ix_72, dp_73, wt_74, op_75, tp_76, wa_77, gi_78, pc_79, st_80, tr_81, sp_82, ma_83, lg_84, du_85, e67, c86, c87, c88, c89, c90, c91, c92, c93, c94, c95, c96, c97, c98, c99, c100⟩ := oc_11.of t_M (hI.1 M)
          refine pf_get (v := .ref (g.lk M 23)) (C := "BigRunnerModel") (T := FT10) (N := 45) hx hb (hw10 hB _) (fun _ h9 => h9) hown hK hP (lo_in hL t_M (by decide)) e67 rfl 23 (by decide) (wd_970 hB _) rfl d_M_spanQuotient_89 ?_
          refine lv_iload_n hx hb d_M_spanQuotient_92 rfl (lv_at hl 4 rfl) ?_
          refine lv_iconst (v := nI 1) hx hb d_M_spanQuotient_93 (by decide) ?_
          refine pf_iaddN (x := k9) (y := 1) hx hb d_M_spanQuotient_94 ?_
          refine pf_zald (i := k9 + 1) hx hb hK hP (lo_in hL (lo_k11_23 hL _ t_M) (by decide)) eUA (lo_t55 hL _ (lo_k11_23 hL _ t_M)) (by omega) (by decide) d_M_spanQuotient_95 ?_
          refine lv_if_ne (tgt := 154) hx hb d_M_spanQuotient_96 (by decide) (fun b101 => ?_) (fun b101 => ?_)
          · skip
            replace b101 : ¬ (hUA (k9 + 1)) = nI 0 := b101
            have jn102 : ∀ (bj103 : Int32), bj103 = (bI (sqb rs (hUA k9) (hAA k9))) → ∀ (H : Heap) (locs : List Loc), va_P g.D vcl (va_pl g.LP f) H → va_D (pc_A g s.heap.size) (va_pl g.LP f) → va_S (pc_A g s.heap.size) s.heap H locs → W p l e ({ frames := 1, cells := 0, slots := 0, locals := 27 }) s m args below meth c H locs 0 0 (MQ below (va_Qv (fun f1 => (f1 (g.lk M 23) = .inl (g.ac (g.lk M 23), 80, .inl (upd hUA k9 (bI (mU (sqf rs (hUA k9) (hUB k9) (hAA k9) (hUA (k9 + 1)) (hUB (k9 + 1))) (squ rs (hUA k9) (hUB k9) (hAA k9) (hBB k9) (hUA (k9 + 1)) (hUB (k9 + 1)) (hAA (k9 + 1)) (hBB (k9 + 1)))))))) ∧ (f1 (g.lk M 24) = .inl (g.ac (g.lk M 24), 80, .inl (upd hUB k9 (bI (mU (sqr rs (hUA k9) (hUB k9) (hUA (k9 + 1)) (hUB (k9 + 1))) (sqm rs (hUA k9) (hUB k9) (hAA k9) (hBB k9) (hUA (k9 + 1)) (hUB (k9 + 1)) (hAA (k9 + 1)) (hBB (k9 + 1)))))))) ∧ (f1 (g.lk M 21) = .inl (g.ac (g.lk M 21), 80, .inr (.inl (vp_updL hAA k9 (mV (sqf rs (hUA k9) (hUB k9) (hAA k9) (hUA (k9 + 1)) (hUB (k9 + 1))) (squ rs (hUA k9) (hUB k9) (hAA k9) (hBB k9) (hUA (k9 + 1)) (hUB (k9 + 1)) (hAA (k9 + 1)) (hBB (k9 + 1)))))))) ∧ (f1 (g.lk M 22) = .inl (g.ac (g.lk M 22), 80, .inr (.inl (vp_updL hBB k9 (mV (sqr rs (hUA k9) (hUB k9) (hUA (k9 + 1)) (hUB (k9 + 1))) (sqm rs (hUA k9) (hUB k9) (hAA k9) (hBB k9) (hUA (k9 + 1)) (hUB (k9 + 1)) (hAA (k9 + 1)) (hBB (k9 + 1)))))))) ∧ (IV g f1) ∧ (un [53, 54, 55, 56] g f f1)) (pc_out g s.heap.size) (pc_A g s.heap.size)) args s 0 0 (pc_A g s.heap.size)) (F0 m 168 ls [.int bj103]) := by
              intro bj103 hbj104 H locs hP hD hS
              subst hbj104
              refine lv_istore (lv' := [(7, .int (bI (sqb rs (hUA k9) (hAA k9)))), (5, .long (sq0 (hUA k9) (hUB k9) (hAA k9) (hBB k9))), (4, .int (bI (sqw (hUA k9) (hAA k9)))), (3, .int (bI (mf (hUA k9) (hUB k9)))), (0, .ref M), (1, .int (nI k9)), (2, .int (bI rs))]) hx hb d_M_spanQuotient_168 hl (by decide) rfl (fun ls hl => ?_)
              refine lv_aload_n hx hb d_M_spanQuotient_170 rfl (lv_at hl 4 rfl) ?_
              refine lv_iload_n hx hb d_M_spanQuotient_171 rfl (lv_at hl 5 rfl) ?_
              have jn105 : ∀ (bj106 : Int64), bj106 = (if sqb rs (hUA k9) (hAA k9) = true then nL 0 else -(sq0 (hUA k9) (hUB k9) (hAA k9) (hBB k9))) → ∀ (H : Heap) (locs : List Loc), va_P g.D vcl (va_pl g.LP f) H → va_D (pc_A g s.heap.size) (va_pl g.LP f) → va_S (pc_A g s.heap.size) s.heap H locs → W p l e ({ frames := 1, cells := 0, slots := 0, locals := 27 }) s m args below meth c H locs 0 0 (MQ below (va_Qv (fun f1 => (f1 (g.lk M 23) = .inl (g.ac (g.lk M 23), 80, .inl (upd hUA k9 (bI (mU (sqf rs (hUA k9) (hUB k9) (hAA k9) (hUA (k9 + 1)) (hUB (k9 + 1))) (squ rs (hUA k9) (hUB k9) (hAA k9) (hBB k9) (hUA (k9 + 1)) (hUB (k9 + 1)) (hAA (k9 + 1)) (hBB (k9 + 1)))))))) ∧ (f1 (g.lk M 24) = .inl (g.ac (g.lk M 24), 80, .inl (upd hUB k9 (bI (mU (sqr rs (hUA k9) (hUB k9) (hUA (k9 + 1)) (hUB (k9 + 1))) (sqm rs (hUA k9) (hUB k9) (hAA k9) (hBB k9) (hUA (k9 + 1)) (hUB (k9 + 1)) (hAA (k9 + 1)) (hBB (k9 + 1)))))))) ∧ (f1 (g.lk M 21) = .inl (g.ac (g.lk M 21), 80, .inr (.inl (vp_updL hAA k9 (mV (sqf rs (hUA k9) (hUB k9) (hAA k9) (hUA (k9 + 1)) (hUB (k9 + 1))) (squ rs (hUA k9) (hUB k9) (hAA k9) (hBB k9) (hUA (k9 + 1)) (hUB (k9 + 1)) (hAA (k9 + 1)) (hBB (k9 + 1)))))))) ∧ (f1 (g.lk M 22) = .inl (g.ac (g.lk M 22), 80, .inr (.inl (vp_updL hBB k9 (mV (sqr rs (hUA k9) (hUB k9) (hUA (k9 + 1)) (hUB (k9 + 1))) (sqm rs (hUA k9) (hUB k9) (hAA k9) (hBB k9) (hUA (k9 + 1)) (hUB (k9 + 1)) (hAA (k9 + 1)) (hBB (k9 + 1)))))))) ∧ (IV g f1) ∧ (un [53, 54, 55, 56] g f f1)) (pc_out g s.heap.size) (pc_A g s.heap.size)) args s 0 0 (pc_A g s.heap.size)) (F0 m 184 ls [.long bj106, .int (nI k9), .ref M]) := by
                intro bj106 hbj107 H locs hP hD hS
                subst hbj107
                refine lv_lload hx hb d_M_spanQuotient_184 (lv_at hl 1 rfl) ?_
                have jn108 : ∀ (bj109 : Int32), bj109 = (bI (((mf (hUA k9) (hUB k9))) && !(sqb rs (hUA k9) (hAA k9)))) → ∀ (H : Heap) (locs : List Loc), va_P g.D vcl (va_pl g.LP f) H → va_D (pc_A g s.heap.size) (va_pl g.LP f) → va_S (pc_A g s.heap.size) s.heap H locs → W p l e ({ frames := 1, cells := 0, slots := 0, locals := 27 }) s m args below meth c H locs 0 0 (MQ below (va_Qv (fun f1 => (f1 (g.lk M 23) = .inl (g.ac (g.lk M 23), 80, .inl (upd hUA k9 (bI (mU (sqf rs (hUA k9) (hUB k9) (hAA k9) (hUA (k9 + 1)) (hUB (k9 + 1))) (squ rs (hUA k9) (hUB k9) (hAA k9) (hBB k9) (hUA (k9 + 1)) (hUB (k9 + 1)) (hAA (k9 + 1)) (hBB (k9 + 1)))))))) ∧ (f1 (g.lk M 24) = .inl (g.ac (g.lk M 24), 80, .inl (upd hUB k9 (bI (mU (sqr rs (hUA k9) (hUB k9) (hUA (k9 + 1)) (hUB (k9 + 1))) (sqm rs (hUA k9) (hUB k9) (hAA k9) (hBB k9) (hUA (k9 + 1)) (hUB (k9 + 1)) (hAA (k9 + 1)) (hBB (k9 + 1)))))))) ∧ (f1 (g.lk M 21) = .inl (g.ac (g.lk M 21), 80, .inr (.inl (vp_updL hAA k9 (mV (sqf rs (hUA k9) (hUB k9) (hAA k9) (hUA (k9 + 1)) (hUB (k9 + 1))) (squ rs (hUA k9) (hUB k9) (hAA k9) (hBB k9) (hUA (k9 + 1)) (hUB (k9 + 1)) (hAA (k9 + 1)) (hBB (k9 + 1)))))))) ∧ (f1 (g.lk M 22) = .inl (g.ac (g.lk M 22), 80, .inr (.inl (vp_updL hBB k9 (mV (sqr rs (hUA k9) (hUB k9) (hUA (k9 + 1)) (hUB (k9 + 1))) (sqm rs (hUA k9) (hUB k9) (hAA k9) (hBB k9) (hUA (k9 + 1)) (hUB (k9 + 1)) (hAA (k9 + 1)) (hBB (k9 + 1)))))))) ∧ (IV g f1) ∧ (un [53, 54, 55, 56] g f f1)) (pc_out g s.heap.size) (pc_A g s.heap.size)) args s 0 0 (pc_A g s.heap.size)) (F0 m 200 ls [.int bj109, .long (sq0 (hUA k9) (hUB k9) (hAA k9) (hBB k9)), .long (if sqb rs (hUA k9) (hAA k9) = true then nL 0 else -(sq0 (hUA k9) (hUB k9) (hAA k9) (hBB k9))), .int (nI k9), .ref M]) := by
                  intro bj109 hbj110 H locs hP hD hS
                  subst hbj110
                  refine lv_iload_n hx hb d_M_spanQuotient_200 rfl (lv_at hl 3 rfl) ?_
                  refine pcc_v (va_runV (C := "BigRunnerModel") (As := [.int (nI k9), .long (if sqb rs (hUA k9) (hAA k9) = true then nL 0 else -(sq0 (hUA k9) (hUB k9) (hAA k9) (hBB k9))), .long (sq0 (hUA k9) (hUB k9) (hAA k9) (hBB k9)), .int (bI (((mf (hUA k9) (hUB k9))) && !(sqb rs (hUA k9) (hAA k9)))), .int (bI (mf (hUA k9) (hUB k9)))]) (rest := []) ⟨hx, hb, hml, hown, tb_nil⟩ (m2_interval l g H.size f M k9 ((if sqb rs (hUA k9) (hAA k9) = true then nL 0 else -(sq0 (hUA k9) (hUB k9) (hAA k9) (hBB k9)))) ((sq0 (hUA k9) (hUB k9) (hAA k9) (hBB k9))) ((((mf (hUA k9) (hUB k9))) && !(sqb rs (hUA k9) (hAA k9)))) ((mf (hUA k9) (hUB k9))) hUA hUB hAA hBB hL t_M hI (by omega) eUA eUB eAA eBB) ⟨(callB_of 5 (tb_one (wd_1160 hB _)) tb_good1 rfl rfl rfl (wd_82 hB _) (wd_1157 hB _) (by decide +kernel) ⟨Nat.le_of_ble_eq_true rfl, Nat.le_of_ble_eq_true rfl⟩), (wd_1159 hB _), (wd_53 hB _)⟩ ⟨pe_bl, pg_recv (ci := 10) hK hP (lo_in hL t_M (by decide)) e67 rfl, pe_pre hB hK hP hD⟩ rfl rfl hl.1 rfl (lv_room (Nat.le_of_ble_eq_true rfl)) d_M_spanQuotient_201 ⟨Nat.le_of_ble_eq_true rfl, Nat.le_of_ble_eq_true rfl⟩) hS (fun f112 H locs hq113 hP hD hS => ?_)
                  obtain ⟨aUA_114, aUB_115, aAA_116, aBB_117, hI1_118, hu1_119⟩ := hq113
                  have hu := hu.tr hu1_119 (by decide)
                  have e67 := hu1_119.at t_M (by decide) e67
                  exact pe_vret hx hb hr hlocks hK hP hD hS d_M_spanQuotient_204 ⟨(aUA_114.trans (by first | (simp [sqf, squ, sqr, sqm, sqc, b10, b101]; done) | (simp [sqf, squ, sqr, sqm, sqc, b101]; done) | contradiction)), (aUB_115.trans (by first | (simp [sqf, squ, sqr, sqm, sqc, b10, b101]; done) | (simp [sqf, squ, sqr, sqm, sqc, b101]; done) | contradiction)), (aAA_116.trans (by first | (simp [sqf, squ, sqr, sqm, sqc, b10, b101]; done) | (simp [sqf, squ, sqr, sqm, sqc, b101]; done) | contradiction)), (aBB_117.trans (by first | (simp [sqf, squ, sqr, sqm, sqc, b10, b101]; done) | (simp [sqf, squ, sqr, sqm, sqc, b101]; done) | contradiction)), hI1_118, hu⟩
                refine lv_iload_n hx hb d_M_spanQuotient_186 rfl (lv_at hl 3 rfl) ?_
                refine lv_if_eq (tgt := 199) hx hb d_M_spanQuotient_187 (by decide) (fun b120 => ?_) (fun b120 => ?_)
                · skip
                  replace b120 : (bI (mf (hUA k9) (hUB k9))) = nI 0 := b120
                  replace b120 := bI_0 b120
                  refine lv_iconst (v := nI 0) hx hb d_M_spanQuotient_199 (by decide) ?_
                  exact jn108 ((nI 0)) (by first | (simp [bI, b10, b101, b120]; done) | (simp [bI, b101, b120]; done) | contradiction) _ _ hP hD hS
                · skip
                  replace b120 : ¬ (bI (mf (hUA k9) (hUB k9))) = nI 0 := b120
                  replace b120 := bI_1 b120
                  refine lv_iload hx hb d_M_spanQuotient_190 (lv_at hl 0 rfl) ?_
                  refine lv_if_ne (tgt := 199) hx hb d_M_spanQuotient_192 (by decide) (fun b121 => ?_) (fun b121 => ?_)
                  · skip
                    replace b121 : ¬ (bI (sqb rs (hUA k9) (hAA k9))) = nI 0 := b121
                    replace b121 := bI_1 b121
                    refine lv_iconst (v := nI 0) hx hb d_M_spanQuotient_199 (by decide) ?_
                    exact jn108 ((nI 0)) (by first | (simp [bI, b10, b101, b120, b121]; done) | (simp [bI, b101, b120, b121]; done) | contradiction) _ _ hP hD hS
                  · skip
                    replace b121 : (bI (sqb rs (hUA k9) (hAA k9))) = nI 0 := b121
                    replace b121 := bI_0 b121
                    refine lv_iconst (v := nI 1) hx hb d_M_spanQuotient_195 (by decide) ?_
                    refine lv_goto (tgt := 200) hx hb d_M_spanQuotient_196 (by decide) ?_
                    exact jn108 ((nI 1)) (by first | (simp [bI, b10, b101, b120, b121]; done) | (simp [bI, b101, b120, b121]; done) | contradiction) _ _ hP hD hS
              refine lv_iload hx hb d_M_spanQuotient_172 (lv_at hl 0 rfl) ?_
              refine lv_if_eq (tgt := 181) hx hb d_M_spanQuotient_174 (by decide) (fun b122 => ?_) (fun b122 => ?_)
              · skip
                replace b122 : (bI (sqb rs (hUA k9) (hAA k9))) = nI 0 := b122
                replace b122 := bI_0 b122
                refine lv_lload hx hb d_M_spanQuotient_181 (lv_at hl 1 rfl) ?_
                refine lv_lneg hx hb d_M_spanQuotient_183 ?_
                exact jn105 ((-((sq0 (hUA k9) (hUB k9) (hAA k9) (hBB k9))))) (by first | (simp [b10, b101, b122]; done) | (simp [b101, b122]; done) | contradiction) _ _ hP hD hS
              · skip
                replace b122 : ¬ (bI (sqb rs (hUA k9) (hAA k9))) = nI 0 := b122
                replace b122 := bI_1 b122
                refine lv_lconst (v := nL 0) hx hb d_M_spanQuotient_177 (by decide) ?_
                refine lv_goto (tgt := 184) hx hb d_M_spanQuotient_178 (by decide) ?_
                exact jn105 ((nL 0)) (by first | (simp [b10, b101, b122]; done) | (simp [b101, b122]; done) | contradiction) _ _ hP hD hS
            refine lv_iload_n hx hb d_M_spanQuotient_154 rfl (lv_at hl 5 rfl) ?_
            refine lv_if_eq (tgt := 167) hx hb d_M_spanQuotient_155 (by decide) (fun b123 => ?_) (fun b123 => ?_)
            · skip
              replace b123 : (bI rs) = nI 0 := b123
              exact absurd (b10.symm.trans (show _ = false from bI_0 b123)) (by decide)
            · skip
              replace b123 : ¬ (bI rs) = nI 0 := b123
              replace b123 := bI_1 b123
              refine lv_iload hx hb d_M_spanQuotient_158 (lv_at hl 1 rfl) ?_
              refine lv_if_ne (tgt := 167) hx hb d_M_spanQuotient_160 (by decide) (fun b124 => ?_) (fun b124 => ?_)
              · skip
                replace b124 : ¬ (bI (sqw (hUA k9) (hAA k9))) = nI 0 := b124
                replace b124 := bI_1 b124
                refine lv_iconst (v := nI 0) hx hb d_M_spanQuotient_167 (by decide) ?_
                exact jn102 ((nI 0)) (by first | (simp [sqb, bI, b10, b101, b123, b124]; done) | (simp [sqb, bI, b101, b124]; done) | contradiction) _ _ hP hD hS
              · skip
                replace b124 : (bI (sqw (hUA k9) (hAA k9))) = nI 0 := b124
                replace b124 := bI_0 b124
                refine lv_iconst (v := nI 1) hx hb d_M_spanQuotient_163 (by decide) ?_
                refine lv_goto (tgt := 168) hx hb d_M_spanQuotient_164 (by decide) ?_
                exact jn102 ((nI 1)) (by first | (simp [sqb, bI, b10, b101, b123, b124]; done) | (simp [sqb, bI, b101, b124]; done) | contradiction) _ _ hP hD hS
          · skip
            replace b101 : (hUA (k9 + 1)) = nI 0 := b101
            refine lv_aload_n hx hb d_M_spanQuotient_99 rfl (lv_at hl 3 rfl) ?_
            refine pf_get (v := .ref (g.lk M 24)) (C := "BigRunnerModel") (T := FT10) (N := 45) hx hb (hw10 hB _) (fun _ h9 => h9) hown hK hP (lo_in hL t_M (by decide)) e67 rfl 24 (by decide) (wd_971 hB _) rfl d_M_spanQuotient_100 ?_
            refine lv_iload_n hx hb d_M_spanQuotient_103 rfl (lv_at hl 4 rfl) ?_
            refine lv_iconst (v := nI 1) hx hb d_M_spanQuotient_104 (by decide) ?_
            refine pf_iaddN (x := k9) (y := 1) hx hb d_M_spanQuotient_105 ?_
            refine pf_zald (i := k9 + 1) hx hb hK hP (lo_in hL (lo_k11_24 hL _ t_M) (by decide)) eUB (lo_t56 hL _ (lo_k11_24 hL _ t_M)) (by omega) (by decide) d_M_spanQuotient_106 ?_
            refine lv_if_ne (tgt := 154) hx hb d_M_spanQuotient_107 (by decide) (fun b125 => ?_) (fun b125 => ?_)
            · skip
              replace b125 : ¬ (hUB (k9 + 1)) = nI 0 := b125
              have jn126 : ∀ (bj127 : Int32), bj127 = (bI (sqb rs (hUA k9) (hAA k9))) → ∀ (H : Heap) (locs : List Loc), va_P g.D vcl (va_pl g.LP f) H → va_D (pc_A g s.heap.size) (va_pl g.LP f) → va_S (pc_A g s.heap.size) s.heap H locs → W p l e ({ frames := 1, cells := 0, slots := 0, locals := 27 }) s m args below meth c H locs 0 0 (MQ below (va_Qv (fun f1 => (f1 (g.lk M 23) = .inl (g.ac (g.lk M 23), 80, .inl (upd hUA k9 (bI (mU (sqf rs (hUA k9) (hUB k9) (hAA k9) (hUA (k9 + 1)) (hUB (k9 + 1))) (squ rs (hUA k9) (hUB k9) (hAA k9) (hBB k9) (hUA (k9 + 1)) (hUB (k9 + 1)) (hAA (k9 + 1)) (hBB (k9 + 1)))))))) ∧ (f1 (g.lk M 24) = .inl (g.ac (g.lk M 24), 80, .inl (upd hUB k9 (bI (mU (sqr rs (hUA k9) (hUB k9) (hUA (k9 + 1)) (hUB (k9 + 1))) (sqm rs (hUA k9) (hUB k9) (hAA k9) (hBB k9) (hUA (k9 + 1)) (hUB (k9 + 1)) (hAA (k9 + 1)) (hBB (k9 + 1)))))))) ∧ (f1 (g.lk M 21) = .inl (g.ac (g.lk M 21), 80, .inr (.inl (vp_updL hAA k9 (mV (sqf rs (hUA k9) (hUB k9) (hAA k9) (hUA (k9 + 1)) (hUB (k9 + 1))) (squ rs (hUA k9) (hUB k9) (hAA k9) (hBB k9) (hUA (k9 + 1)) (hUB (k9 + 1)) (hAA (k9 + 1)) (hBB (k9 + 1)))))))) ∧ (f1 (g.lk M 22) = .inl (g.ac (g.lk M 22), 80, .inr (.inl (vp_updL hBB k9 (mV (sqr rs (hUA k9) (hUB k9) (hUA (k9 + 1)) (hUB (k9 + 1))) (sqm rs (hUA k9) (hUB k9) (hAA k9) (hBB k9) (hUA (k9 + 1)) (hUB (k9 + 1)) (hAA (k9 + 1)) (hBB (k9 + 1)))))))) ∧ (IV g f1) ∧ (un [53, 54, 55, 56] g f f1)) (pc_out g s.heap.size) (pc_A g s.heap.size)) args s 0 0 (pc_A g s.heap.size)) (F0 m 168 ls [.int bj127]) := by
                intro bj127 hbj128 H locs hP hD hS
                subst hbj128
                refine lv_istore (lv' := [(7, .int (bI (sqb rs (hUA k9) (hAA k9)))), (5, .long (sq0 (hUA k9) (hUB k9) (hAA k9) (hBB k9))), (4, .int (bI (sqw (hUA k9) (hAA k9)))), (3, .int (bI (mf (hUA k9) (hUB k9)))), (0, .ref M), (1, .int (nI k9)), (2, .int (bI rs))]) hx hb d_M_spanQuotient_168 hl (by decide) rfl (fun ls hl => ?_)
                refine lv_aload_n hx hb d_M_spanQuotient_170 rfl (lv_at hl 4 rfl) ?_
                refine lv_iload_n hx hb d_M_spanQuotient_171 rfl (lv_at hl 5 rfl) ?_
                have jn129 : ∀ (bj130 : Int64), bj130 = (if sqb rs (hUA k9) (hAA k9) = true then nL 0 else -(sq0 (hUA k9) (hUB k9) (hAA k9) (hBB k9))) → ∀ (H : Heap) (locs : List Loc), va_P g.D vcl (va_pl g.LP f) H → va_D (pc_A g s.heap.size) (va_pl g.LP f) → va_S (pc_A g s.heap.size) s.heap H locs → W p l e ({ frames := 1, cells := 0, slots := 0, locals := 27 }) s m args below meth c H locs 0 0 (MQ below (va_Qv (fun f1 => (f1 (g.lk M 23) = .inl (g.ac (g.lk M 23), 80, .inl (upd hUA k9 (bI (mU (sqf rs (hUA k9) (hUB k9) (hAA k9) (hUA (k9 + 1)) (hUB (k9 + 1))) (squ rs (hUA k9) (hUB k9) (hAA k9) (hBB k9) (hUA (k9 + 1)) (hUB (k9 + 1)) (hAA (k9 + 1)) (hBB (k9 + 1)))))))) ∧ (f1 (g.lk M 24) = .inl (g.ac (g.lk M 24), 80, .inl (upd hUB k9 (bI (mU (sqr rs (hUA k9) (hUB k9) (hUA (k9 + 1)) (hUB (k9 + 1))) (sqm rs (hUA k9) (hUB k9) (hAA k9) (hBB k9) (hUA (k9 + 1)) (hUB (k9 + 1)) (hAA (k9 + 1)) (hBB (k9 + 1)))))))) ∧ (f1 (g.lk M 21) = .inl (g.ac (g.lk M 21), 80, .inr (.inl (vp_updL hAA k9 (mV (sqf rs (hUA k9) (hUB k9) (hAA k9) (hUA (k9 + 1)) (hUB (k9 + 1))) (squ rs (hUA k9) (hUB k9) (hAA k9) (hBB k9) (hUA (k9 + 1)) (hUB (k9 + 1)) (hAA (k9 + 1)) (hBB (k9 + 1)))))))) ∧ (f1 (g.lk M 22) = .inl (g.ac (g.lk M 22), 80, .inr (.inl (vp_updL hBB k9 (mV (sqr rs (hUA k9) (hUB k9) (hUA (k9 + 1)) (hUB (k9 + 1))) (sqm rs (hUA k9) (hUB k9) (hAA k9) (hBB k9) (hUA (k9 + 1)) (hUB (k9 + 1)) (hAA (k9 + 1)) (hBB (k9 + 1)))))))) ∧ (IV g f1) ∧ (un [53, 54, 55, 56] g f f1)) (pc_out g s.heap.size) (pc_A g s.heap.size)) args s 0 0 (pc_A g s.heap.size)) (F0 m 184 ls [.long bj130, .int (nI k9), .ref M]) := by
                  intro bj130 hbj131 H locs hP hD hS
                  subst hbj131
                  refine lv_lload hx hb d_M_spanQuotient_184 (lv_at hl 1 rfl) ?_
                  have jn132 : ∀ (bj133 : Int32), bj133 = (bI (((mf (hUA k9) (hUB k9))) && !(sqb rs (hUA k9) (hAA k9)))) → ∀ (H : Heap) (locs : List Loc), va_P g.D vcl (va_pl g.LP f) H → va_D (pc_A g s.heap.size) (va_pl g.LP f) → va_S (pc_A g s.heap.size) s.heap H locs → W p l e ({ frames := 1, cells := 0, slots := 0, locals := 27 }) s m args below meth c H locs 0 0 (MQ below (va_Qv (fun f1 => (f1 (g.lk M 23) = .inl (g.ac (g.lk M 23), 80, .inl (upd hUA k9 (bI (mU (sqf rs (hUA k9) (hUB k9) (hAA k9) (hUA (k9 + 1)) (hUB (k9 + 1))) (squ rs (hUA k9) (hUB k9) (hAA k9) (hBB k9) (hUA (k9 + 1)) (hUB (k9 + 1)) (hAA (k9 + 1)) (hBB (k9 + 1)))))))) ∧ (f1 (g.lk M 24) = .inl (g.ac (g.lk M 24), 80, .inl (upd hUB k9 (bI (mU (sqr rs (hUA k9) (hUB k9) (hUA (k9 + 1)) (hUB (k9 + 1))) (sqm rs (hUA k9) (hUB k9) (hAA k9) (hBB k9) (hUA (k9 + 1)) (hUB (k9 + 1)) (hAA (k9 + 1)) (hBB (k9 + 1)))))))) ∧ (f1 (g.lk M 21) = .inl (g.ac (g.lk M 21), 80, .inr (.inl (vp_updL hAA k9 (mV (sqf rs (hUA k9) (hUB k9) (hAA k9) (hUA (k9 + 1)) (hUB (k9 + 1))) (squ rs (hUA k9) (hUB k9) (hAA k9) (hBB k9) (hUA (k9 + 1)) (hUB (k9 + 1)) (hAA (k9 + 1)) (hBB (k9 + 1)))))))) ∧ (f1 (g.lk M 22) = .inl (g.ac (g.lk M 22), 80, .inr (.inl (vp_updL hBB k9 (mV (sqr rs (hUA k9) (hUB k9) (hUA (k9 + 1)) (hUB (k9 + 1))) (sqm rs (hUA k9) (hUB k9) (hAA k9) (hBB k9) (hUA (k9 + 1)) (hUB (k9 + 1)) (hAA (k9 + 1)) (hBB (k9 + 1)))))))) ∧ (IV g f1) ∧ (un [53, 54, 55, 56] g f f1)) (pc_out g s.heap.size) (pc_A g s.heap.size)) args s 0 0 (pc_A g s.heap.size)) (F0 m 200 ls [.int bj133, .long (sq0 (hUA k9) (hUB k9) (hAA k9) (hBB k9)), .long (if sqb rs (hUA k9) (hAA k9) = true then nL 0 else -(sq0 (hUA k9) (hUB k9) (hAA k9) (hBB k9))), .int (nI k9), .ref M]) := by
                    intro bj133 hbj134 H locs hP hD hS
                    subst hbj134
                    refine lv_iload_n hx hb d_M_spanQuotient_200 rfl (lv_at hl 3 rfl) ?_
                    refine pcc_v (va_runV (C := "BigRunnerModel") (As := [.int (nI k9), .long (if sqb rs (hUA k9) (hAA k9) = true then nL 0 else -(sq0 (hUA k9) (hUB k9) (hAA k9) (hBB k9))), .long (sq0 (hUA k9) (hUB k9) (hAA k9) (hBB k9)), .int (bI (((mf (hUA k9) (hUB k9))) && !(sqb rs (hUA k9) (hAA k9)))), .int (bI (mf (hUA k9) (hUB k9)))]) (rest := []) ⟨hx, hb, hml, hown, tb_nil⟩ (m2_interval l g H.size f M k9 ((if sqb rs (hUA k9) (hAA k9) = true then nL 0 else -(sq0 (hUA k9) (hUB k9) (hAA k9) (hBB k9)))) ((sq0 (hUA k9) (hUB k9) (hAA k9) (hBB k9))) ((((mf (hUA k9) (hUB k9))) && !(sqb rs (hUA k9) (hAA k9)))) ((mf (hUA k9) (hUB k9))) hUA hUB hAA hBB hL t_M hI (by omega) eUA eUB eAA eBB) ⟨(callB_of 5 (tb_one (wd_1160 hB _)) tb_good1 rfl rfl rfl (wd_82 hB _) (wd_1157 hB _) (by decide +kernel) ⟨Nat.le_of_ble_eq_true rfl, Nat.le_of_ble_eq_true rfl⟩), (wd_1159 hB _), (wd_53 hB _)⟩ ⟨pe_bl, pg_recv (ci := 10) hK hP (lo_in hL t_M (by decide)) e67 rfl, pe_pre hB hK hP hD⟩ rfl rfl hl.1 rfl (lv_room (Nat.le_of_ble_eq_true rfl)) d_M_spanQuotient_201 ⟨Nat.le_of_ble_eq_true rfl, Nat.le_of_ble_eq_true rfl⟩) hS (fun f136 H locs hq137 hP hD hS => ?_)
                    obtain ⟨aUA_138, aUB_139, aAA_140, aBB_141, hI1_142, hu1_143⟩ := hq137
                    have hu := hu.tr hu1_143 (by decide)
                    have e67 := hu1_143.at t_M (by decide) e67
                    exact pe_vret hx hb hr hlocks hK hP hD hS d_M_spanQuotient_204 ⟨(aUA_138.trans (by first | (simp [sqf, squ, sqr, sqm, sqc, b10, b101, b125]; done) | (simp [sqf, squ, sqr, sqm, sqc, b101, b125]; done) | contradiction)), (aUB_139.trans (by first | (simp [sqf, squ, sqr, sqm, sqc, b10, b101, b125]; done) | (simp [sqf, squ, sqr, sqm, sqc, b101, b125]; done) | contradiction)), (aAA_140.trans (by first | (simp [sqf, squ, sqr, sqm, sqc, b10, b101, b125]; done) | (simp [sqf, squ, sqr, sqm, sqc, b101, b125]; done) | contradiction)), (aBB_141.trans (by first | (simp [sqf, squ, sqr, sqm, sqc, b10, b101, b125]; done) | (simp [sqf, squ, sqr, sqm, sqc, b101, b125]; done) | contradiction)), hI1_142, hu⟩
                  refine lv_iload_n hx hb d_M_spanQuotient_186 rfl (lv_at hl 3 rfl) ?_
                  refine lv_if_eq (tgt := 199) hx hb d_M_spanQuotient_187 (by decide) (fun b144 => ?_) (fun b144 => ?_)
                  · skip
                    replace b144 : (bI (mf (hUA k9) (hUB k9))) = nI 0 := b144
                    replace b144 := bI_0 b144
                    refine lv_iconst (v := nI 0) hx hb d_M_spanQuotient_199 (by decide) ?_
                    exact jn132 ((nI 0)) (by first | (simp [bI, b10, b101, b125, b144]; done) | (simp [bI, b101, b125, b144]; done) | contradiction) _ _ hP hD hS
                  · skip
                    replace b144 : ¬ (bI (mf (hUA k9) (hUB k9))) = nI 0 := b144
                    replace b144 := bI_1 b144
                    refine lv_iload hx hb d_M_spanQuotient_190 (lv_at hl 0 rfl) ?_
                    refine lv_if_ne (tgt := 199) hx hb d_M_spanQuotient_192 (by decide) (fun b145 => ?_) (fun b145 => ?_)
                    · skip
                      replace b145 : ¬ (bI (sqb rs (hUA k9) (hAA k9))) = nI 0 := b145
                      replace b145 := bI_1 b145
                      refine lv_iconst (v := nI 0) hx hb d_M_spanQuotient_199 (by decide) ?_
                      exact jn132 ((nI 0)) (by first | (simp [bI, b10, b101, b125, b144, b145]; done) | (simp [bI, b101, b125, b144, b145]; done) | contradiction) _ _ hP hD hS
                    · skip
                      replace b145 : (bI (sqb rs (hUA k9) (hAA k9))) = nI 0 := b145
                      replace b145 := bI_0 b145
                      refine lv_iconst (v := nI 1) hx hb d_M_spanQuotient_195 (by decide) ?_
                      refine lv_goto (tgt := 200) hx hb d_M_spanQuotient_196 (by decide) ?_
                      exact jn132 ((nI 1)) (by first | (simp [bI, b10, b101, b125, b144, b145]; done) | (simp [bI, b101, b125, b144, b145]; done) | contradiction) _ _ hP hD hS
                refine lv_iload hx hb d_M_spanQuotient_172 (lv_at hl 0 rfl) ?_
                refine lv_if_eq (tgt := 181) hx hb d_M_spanQuotient_174 (by decide) (fun b146 => ?_) (fun b146 => ?_)
                · skip
                  replace b146 : (bI (sqb rs (hUA k9) (hAA k9))) = nI 0 := b146
                  replace b146 := bI_0 b146
                  refine lv_lload hx hb d_M_spanQuotient_181 (lv_at hl 1 rfl) ?_
                  refine lv_lneg hx hb d_M_spanQuotient_183 ?_
                  exact jn129 ((-((sq0 (hUA k9) (hUB k9) (hAA k9) (hBB k9))))) (by first | (simp [b10, b101, b125, b146]; done) | (simp [b101, b125, b146]; done) | contradiction) _ _ hP hD hS
                · skip
                  replace b146 : ¬ (bI (sqb rs (hUA k9) (hAA k9))) = nI 0 := b146
                  replace b146 := bI_1 b146
                  refine lv_lconst (v := nL 0) hx hb d_M_spanQuotient_177 (by decide) ?_
                  refine lv_goto (tgt := 184) hx hb d_M_spanQuotient_178 (by decide) ?_
                  exact jn129 ((nL 0)) (by first | (simp [b10, b101, b125, b146]; done) | (simp [b101, b125, b146]; done) | contradiction) _ _ hP hD hS
              refine lv_iload_n hx hb d_M_spanQuotient_154 rfl (lv_at hl 5 rfl) ?_
              refine lv_if_eq (tgt := 167) hx hb d_M_spanQuotient_155 (by decide) (fun b147 => ?_) (fun b147 => ?_)
              · skip
                replace b147 : (bI rs) = nI 0 := b147
                exact absurd (b10.symm.trans (show _ = false from bI_0 b147)) (by decide)
              · skip
                replace b147 : ¬ (bI rs) = nI 0 := b147
                replace b147 := bI_1 b147
                refine lv_iload hx hb d_M_spanQuotient_158 (lv_at hl 1 rfl) ?_
                refine lv_if_ne (tgt := 167) hx hb d_M_spanQuotient_160 (by decide) (fun b148 => ?_) (fun b148 => ?_)
                · skip
                  replace b148 : ¬ (bI (sqw (hUA k9) (hAA k9))) = nI 0 := b148
                  replace b148 := bI_1 b148
                  refine lv_iconst (v := nI 0) hx hb d_M_spanQuotient_167 (by decide) ?_
                  exact jn126 ((nI 0)) (by first | (simp [sqb, bI, b10, b101, b125, b147, b148]; done) | (simp [sqb, bI, b101, b125, b148]; done) | contradiction) _ _ hP hD hS
                · skip
                  replace b148 : (bI (sqw (hUA k9) (hAA k9))) = nI 0 := b148
                  replace b148 := bI_0 b148
                  refine lv_iconst (v := nI 1) hx hb d_M_spanQuotient_163 (by decide) ?_
                  refine lv_goto (tgt := 168) hx hb d_M_spanQuotient_164 (by decide) ?_
                  exact jn126 ((nI 1)) (by first | (simp [sqb, bI, b10, b101, b125, b147, b148]; done) | (simp [sqb, bI, b101, b125, b148]; done) | contradiction) _ _ hP hD hS
            · skip
              replace b125 : (hUB (k9 + 1)) = nI 0 := b125
              refine lv_aload_n hx hb d_M_spanQuotient_110 rfl (lv_at hl 3 rfl) ?_
              refine pf_get (v := .ref (g.lk M 21)) (C := "BigRunnerModel") (T := FT10) (N := 45) hx hb (hw10 hB _) (fun _ h9 => h9) hown hK hP (lo_in hL t_M (by decide)) e67 rfl 21 (by decide) (wd_968 hB _) rfl d_M_spanQuotient_111 ?_
              refine lv_iload_n hx hb d_M_spanQuotient_114 rfl (lv_at hl 4 rfl) ?_
              refine lv_iconst (v := nI 1) hx hb d_M_spanQuotient_115 (by decide) ?_
              refine pf_iaddN (x := k9) (y := 1) hx hb d_M_spanQuotient_116 ?_
              refine pf_lald (i := k9 + 1) hx hb hK hP (lo_in hL (lo_k11_21 hL _ t_M) (by decide)) eAA (lo_t53 hL _ (lo_k11_21 hL _ t_M)) (by omega) (by decide) d_M_spanQuotient_117 ?_
              refine pcc_l (va_runS (As := [.long (hAA (k9 + 1))]) (rest := []) ⟨hx, hb, hml, hown, tb_nil⟩ (m2_size l g H.size f ((hAA (k9 + 1))) hL hI.1) ⟨(callB_of 1 (tb_one (wd_1172 hB _)) tb_good1 rfl rfl rfl (wd_82 hB _) (wd_1170 hB _) (by decide +kernel) ⟨Nat.le_of_ble_eq_true rfl, Nat.le_of_ble_eq_true rfl⟩), (wd_1171 hB _)⟩ ⟨pe_bl, pe_pre hB hK hP hD⟩ rfl rfl hl.1 rfl (lv_room (Nat.le_of_ble_eq_true rfl)) d_M_spanQuotient_118 ⟨Nat.le_of_ble_eq_true rfl, Nat.le_of_ble_eq_true rfl⟩) hS (fun r149 f150 H locs hq151 hP hD hS => ?_)
              obtain ⟨qv_152, rfl⟩ := hq151
              subst qv_152
              refine lv_aload_n hx hb d_M_spanQuotient_121 rfl (lv_at hl 3 rfl) ?_
              refine pf_get (v := .ref (g.lk M 22)) (C := "BigRunnerModel") (T := FT10) (N := 45) hx hb (hw10 hB _) (fun _ h9 => h9) hown hK hP (lo_in hL t_M (by decide)) e67 rfl 22 (by decide) (wd_969 hB _) rfl d_M_spanQuotient_122 ?_
              refine lv_iload_n hx hb d_M_spanQuotient_125 rfl (lv_at hl 4 rfl) ?_
              refine lv_iconst (v := nI 1) hx hb d_M_spanQuotient_126 (by decide) ?_
              refine pf_iaddN (x := k9) (y := 1) hx hb d_M_spanQuotient_127 ?_
              refine pf_lald (i := k9 + 1) hx hb hK hP (lo_in hL (lo_k11_22 hL _ t_M) (by decide)) eBB (lo_t54 hL _ (lo_k11_22 hL _ t_M)) (by omega) (by decide) d_M_spanQuotient_128 ?_
              refine pcc_l (va_runS (As := [.long (hBB (k9 + 1))]) (rest := [.long (mS (hAA (k9 + 1)))]) ⟨hx, hb, hml, hown, tb_nil⟩ (m2_size l g H.size f ((hBB (k9 + 1))) hL hI.1) ⟨(callB_of 1 (tb_one (wd_1172 hB _)) tb_good1 rfl rfl rfl (wd_82 hB _) (wd_1170 hB _) (by decide +kernel) ⟨Nat.le_of_ble_eq_true rfl, Nat.le_of_ble_eq_true rfl⟩), (wd_1171 hB _)⟩ ⟨pe_bl, pe_pre hB hK hP hD⟩ rfl rfl hl.1 rfl (lv_room (Nat.le_of_ble_eq_true rfl)) d_M_spanQuotient_129 ⟨Nat.le_of_ble_eq_true rfl, Nat.le_of_ble_eq_true rfl⟩) hS (fun r153 f154 H locs hq155 hP hD hS => ?_)
              obtain ⟨qv_156, rfl⟩ := hq155
              subst qv_156
              refine pcc_l (va_runS (As := [.long (mS (hAA (k9 + 1))), .long (mS (hBB (k9 + 1)))]) (rest := []) ⟨hx, hb, hml, hown, tb_nil⟩ (m2_more l g H.size f ((mS (hAA (k9 + 1)))) ((mS (hBB (k9 + 1)))) hL hI.1) ⟨(callB_of 2 (tb_one (wd_1179 hB _)) tb_good1 rfl rfl rfl (wd_82 hB _) (wd_1177 hB _) (by decide +kernel) ⟨Nat.le_of_ble_eq_true rfl, Nat.le_of_ble_eq_true rfl⟩), (wd_1178 hB _)⟩ ⟨pe_bl, pe_pre hB hK hP hD⟩ rfl rfl hl.1 rfl (lv_room (Nat.le_of_ble_eq_true rfl)) d_M_spanQuotient_132 ⟨Nat.le_of_ble_eq_true rfl, Nat.le_of_ble_eq_true rfl⟩) hS (fun r157 f158 H locs hq159 hP hD hS => ?_)
              obtain ⟨qv_160, rfl⟩ := hq159
              subst qv_160
              refine lv_lconst (v := nL 1) hx hb d_M_spanQuotient_135 (by decide) ?_
              refine lv_lsub hx hb d_M_spanQuotient_136 ?_
              refine lv_lstore (lv' := [(7, .long (((mmore (mS (hAA (k9 + 1))) (mS (hBB (k9 + 1))))) - ((nL 1)))), (5, .long (sq0 (hUA k9) (hUB k9) (hAA k9) (hBB k9))), (4, .int (bI (sqw (hUA k9) (hAA k9)))), (3, .int (bI (mf (hUA k9) (hUB k9)))), (0, .ref M), (1, .int (nI k9)), (2, .int (bI rs))]) hx hb d_M_spanQuotient_137 hl (by decide) rfl (fun ls hl => ?_)
              refine lv_lload hx hb d_M_spanQuotient_139 (lv_at hl 1 rfl) ?_
              refine lv_lconst (v := nL 0) hx hb d_M_spanQuotient_141 (by decide) ?_
              refine lv_lload hx hb d_M_spanQuotient_142 (lv_at hl 0 rfl) ?_
              refine pcc_l (va_runS (As := [.long (nL 0), .long (((mmore (mS (hAA (k9 + 1))) (mS (hBB (k9 + 1))))) - ((nL 1)))]) (rest := [.long (sq0 (hUA k9) (hUB k9) (hAA k9) (hBB k9))]) ⟨hx, hb, hml, hown, tb_nil⟩ (m2_more l g H.size f ((nL 0)) ((((mmore (mS (hAA (k9 + 1))) (mS (hBB (k9 + 1))))) - ((nL 1)))) hL hI.1) ⟨(callB_of 2 (tb_one (wd_1179 hB _)) tb_good1 rfl rfl rfl (wd_82 hB _) (wd_1177 hB _) (by decide +kernel) ⟨Nat.le_of_ble_eq_true rfl, Nat.le_of_ble_eq_true rfl⟩), (wd_1178 hB _)⟩ ⟨pe_bl, pe_pre hB hK hP hD⟩ rfl rfl hl.1 rfl (lv_room (Nat.le_of_ble_eq_true rfl)) d_M_spanQuotient_144 ⟨Nat.le_of_ble_eq_true rfl, Nat.le_of_ble_eq_true rfl⟩) hS (fun r161 f162 H locs hq163 hP hD hS => ?_)
              obtain ⟨qv_164, rfl⟩ := hq163
              subst qv_164
              refine pcc_l (va_runS (As := [.long (sq0 (hUA k9) (hUB k9) (hAA k9) (hBB k9)), .long (mmore (nL 0) (((mmore (mS (hAA (k9 + 1))) (mS (hBB (k9 + 1))))) - ((nL 1))))]) (rest := []) ⟨hx, hb, hml, hown, tb_nil⟩ (m2_less l g H.size f ((sq0 (hUA k9) (hUB k9) (hAA k9) (hBB k9))) ((mmore (nL 0) (((mmore (mS (hAA (k9 + 1))) (mS (hBB (k9 + 1))))) - ((nL 1))))) hL hI.1) ⟨(callB_of 2 (tb_one (wd_1176 hB _)) tb_good1 rfl rfl rfl (wd_82 hB _) (wd_1174 hB _) (by decide +kernel) ⟨Nat.le_of_ble_eq_true rfl, Nat.le_of_ble_eq_true rfl⟩), (wd_1175 hB _)⟩ ⟨pe_bl, pe_pre hB hK hP hD⟩ rfl rfl hl.1 rfl (lv_room (Nat.le_of_ble_eq_true rfl)) d_M_spanQuotient_147 ⟨Nat.le_of_ble_eq_true rfl, Nat.le_of_ble_eq_true rfl⟩) hS (fun r165 f166 H locs hq167 hP hD hS => ?_)
              obtain ⟨qv_168, rfl⟩ := hq167
              subst qv_168
              refine lv_lstore (lv' := [(5, .long (mless (sq0 (hUA k9) (hUB k9) (hAA k9) (hBB k9)) (mmore (nL 0) (((mmore (mS (hAA (k9 + 1))) (mS (hBB (k9 + 1))))) - ((nL 1)))))), (7, .long (((mmore (mS (hAA (k9 + 1))) (mS (hBB (k9 + 1))))) - ((nL 1)))), (4, .int (bI (sqw (hUA k9) (hAA k9)))), (3, .int (bI (mf (hUA k9) (hUB k9)))), (0, .ref M), (1, .int (nI k9)), (2, .int (bI rs))]) hx hb d_M_spanQuotient_150 hl (by decide) rfl (fun ls hl => ?_)
              refine lv_iconst (v := nI 0) hx hb d_M_spanQuotient_152 (by decide) ?_
              refine lv_istore_n (lv' := [(3, .int (nI 0)), (5, .long (mless (sq0 (hUA k9) (hUB k9) (hAA k9) (hBB k9)) (mmore (nL 0) (((mmore (mS (hAA (k9 + 1))) (mS (hBB (k9 + 1))))) - ((nL 1)))))), (7, .long (((mmore (mS (hAA (k9 + 1))) (mS (hBB (k9 + 1))))) - ((nL 1)))), (4, .int (bI (sqw (hUA k9) (hAA k9)))), (0, .ref M), (1, .int (nI k9)), (2, .int (bI rs))]) hx hb d_M_spanQuotient_153 rfl hl (by decide) rfl (fun ls hl => ?_)
              have jn169 : ∀ (bj170 : Int32), bj170 = (bI (sqb rs (hUA k9) (hAA k9))) → ∀ (H : Heap) (locs : List Loc), va_P g.D vcl (va_pl g.LP f) H → va_D (pc_A g s.heap.size) (va_pl g.LP f) → va_S (pc_A g s.heap.size) s.heap H locs → W p l e ({ frames := 1, cells := 0, slots := 0, locals := 27 }) s m args below meth c H locs 0 0 (MQ below (va_Qv (fun f1 => (f1 (g.lk M 23) = .inl (g.ac (g.lk M 23), 80, .inl (upd hUA k9 (bI (mU (sqf rs (hUA k9) (hUB k9) (hAA k9) (hUA (k9 + 1)) (hUB (k9 + 1))) (squ rs (hUA k9) (hUB k9) (hAA k9) (hBB k9) (hUA (k9 + 1)) (hUB (k9 + 1)) (hAA (k9 + 1)) (hBB (k9 + 1)))))))) ∧ (f1 (g.lk M 24) = .inl (g.ac (g.lk M 24), 80, .inl (upd hUB k9 (bI (mU (sqr rs (hUA k9) (hUB k9) (hUA (k9 + 1)) (hUB (k9 + 1))) (sqm rs (hUA k9) (hUB k9) (hAA k9) (hBB k9) (hUA (k9 + 1)) (hUB (k9 + 1)) (hAA (k9 + 1)) (hBB (k9 + 1)))))))) ∧ (f1 (g.lk M 21) = .inl (g.ac (g.lk M 21), 80, .inr (.inl (vp_updL hAA k9 (mV (sqf rs (hUA k9) (hUB k9) (hAA k9) (hUA (k9 + 1)) (hUB (k9 + 1))) (squ rs (hUA k9) (hUB k9) (hAA k9) (hBB k9) (hUA (k9 + 1)) (hUB (k9 + 1)) (hAA (k9 + 1)) (hBB (k9 + 1)))))))) ∧ (f1 (g.lk M 22) = .inl (g.ac (g.lk M 22), 80, .inr (.inl (vp_updL hBB k9 (mV (sqr rs (hUA k9) (hUB k9) (hUA (k9 + 1)) (hUB (k9 + 1))) (sqm rs (hUA k9) (hUB k9) (hAA k9) (hBB k9) (hUA (k9 + 1)) (hUB (k9 + 1)) (hAA (k9 + 1)) (hBB (k9 + 1)))))))) ∧ (IV g f1) ∧ (un [53, 54, 55, 56] g f f1)) (pc_out g s.heap.size) (pc_A g s.heap.size)) args s 0 0 (pc_A g s.heap.size)) (F0 m 168 ls [.int bj170]) := by
                intro bj170 hbj171 H locs hP hD hS
                subst hbj171
                refine lv_istore (lv' := [(7, .int (bI (sqb rs (hUA k9) (hAA k9)))), (3, .int (nI 0)), (5, .long (mless (sq0 (hUA k9) (hUB k9) (hAA k9) (hBB k9)) (mmore (nL 0) (((mmore (mS (hAA (k9 + 1))) (mS (hBB (k9 + 1))))) - ((nL 1)))))), (4, .int (bI (sqw (hUA k9) (hAA k9)))), (0, .ref M), (1, .int (nI k9)), (2, .int (bI rs))]) hx hb d_M_spanQuotient_168 hl (by decide) rfl (fun ls hl => ?_)
                refine lv_aload_n hx hb d_M_spanQuotient_170 rfl (lv_at hl 4 rfl) ?_
                refine lv_iload_n hx hb d_M_spanQuotient_171 rfl (lv_at hl 5 rfl) ?_
                have jn172 : ∀ (bj173 : Int64), bj173 = (if sqb rs (hUA k9) (hAA k9) = true then nL 0 else -(mless (sq0 (hUA k9) (hUB k9) (hAA k9) (hBB k9)) (mmore (nL 0) (((mmore (mS (hAA (k9 + 1))) (mS (hBB (k9 + 1))))) - ((nL 1)))))) → ∀ (H : Heap) (locs : List Loc), va_P g.D vcl (va_pl g.LP f) H → va_D (pc_A g s.heap.size) (va_pl g.LP f) → va_S (pc_A g s.heap.size) s.heap H locs → W p l e ({ frames := 1, cells := 0, slots := 0, locals := 27 }) s m args below meth c H locs 0 0 (MQ below (va_Qv (fun f1 => (f1 (g.lk M 23) = .inl (g.ac (g.lk M 23), 80, .inl (upd hUA k9 (bI (mU (sqf rs (hUA k9) (hUB k9) (hAA k9) (hUA (k9 + 1)) (hUB (k9 + 1))) (squ rs (hUA k9) (hUB k9) (hAA k9) (hBB k9) (hUA (k9 + 1)) (hUB (k9 + 1)) (hAA (k9 + 1)) (hBB (k9 + 1)))))))) ∧ (f1 (g.lk M 24) = .inl (g.ac (g.lk M 24), 80, .inl (upd hUB k9 (bI (mU (sqr rs (hUA k9) (hUB k9) (hUA (k9 + 1)) (hUB (k9 + 1))) (sqm rs (hUA k9) (hUB k9) (hAA k9) (hBB k9) (hUA (k9 + 1)) (hUB (k9 + 1)) (hAA (k9 + 1)) (hBB (k9 + 1)))))))) ∧ (f1 (g.lk M 21) = .inl (g.ac (g.lk M 21), 80, .inr (.inl (vp_updL hAA k9 (mV (sqf rs (hUA k9) (hUB k9) (hAA k9) (hUA (k9 + 1)) (hUB (k9 + 1))) (squ rs (hUA k9) (hUB k9) (hAA k9) (hBB k9) (hUA (k9 + 1)) (hUB (k9 + 1)) (hAA (k9 + 1)) (hBB (k9 + 1)))))))) ∧ (f1 (g.lk M 22) = .inl (g.ac (g.lk M 22), 80, .inr (.inl (vp_updL hBB k9 (mV (sqr rs (hUA k9) (hUB k9) (hUA (k9 + 1)) (hUB (k9 + 1))) (sqm rs (hUA k9) (hUB k9) (hAA k9) (hBB k9) (hUA (k9 + 1)) (hUB (k9 + 1)) (hAA (k9 + 1)) (hBB (k9 + 1)))))))) ∧ (IV g f1) ∧ (un [53, 54, 55, 56] g f f1)) (pc_out g s.heap.size) (pc_A g s.heap.size)) args s 0 0 (pc_A g s.heap.size)) (F0 m 184 ls [.long bj173, .int (nI k9), .ref M]) := by
                  intro bj173 hbj174 H locs hP hD hS
                  subst hbj174
                  refine lv_lload hx hb d_M_spanQuotient_184 (lv_at hl 2 rfl) ?_
                  have jn175 : ∀ (bj176 : Int32), bj176 = (bI (false && !(sqb rs (hUA k9) (hAA k9)))) → ∀ (H : Heap) (locs : List Loc), va_P g.D vcl (va_pl g.LP f) H → va_D (pc_A g s.heap.size) (va_pl g.LP f) → va_S (pc_A g s.heap.size) s.heap H locs → W p l e ({ frames := 1, cells := 0, slots := 0, locals := 27 }) s m args below meth c H locs 0 0 (MQ below (va_Qv (fun f1 => (f1 (g.lk M 23) = .inl (g.ac (g.lk M 23), 80, .inl (upd hUA k9 (bI (mU (sqf rs (hUA k9) (hUB k9) (hAA k9) (hUA (k9 + 1)) (hUB (k9 + 1))) (squ rs (hUA k9) (hUB k9) (hAA k9) (hBB k9) (hUA (k9 + 1)) (hUB (k9 + 1)) (hAA (k9 + 1)) (hBB (k9 + 1)))))))) ∧ (f1 (g.lk M 24) = .inl (g.ac (g.lk M 24), 80, .inl (upd hUB k9 (bI (mU (sqr rs (hUA k9) (hUB k9) (hUA (k9 + 1)) (hUB (k9 + 1))) (sqm rs (hUA k9) (hUB k9) (hAA k9) (hBB k9) (hUA (k9 + 1)) (hUB (k9 + 1)) (hAA (k9 + 1)) (hBB (k9 + 1)))))))) ∧ (f1 (g.lk M 21) = .inl (g.ac (g.lk M 21), 80, .inr (.inl (vp_updL hAA k9 (mV (sqf rs (hUA k9) (hUB k9) (hAA k9) (hUA (k9 + 1)) (hUB (k9 + 1))) (squ rs (hUA k9) (hUB k9) (hAA k9) (hBB k9) (hUA (k9 + 1)) (hUB (k9 + 1)) (hAA (k9 + 1)) (hBB (k9 + 1)))))))) ∧ (f1 (g.lk M 22) = .inl (g.ac (g.lk M 22), 80, .inr (.inl (vp_updL hBB k9 (mV (sqr rs (hUA k9) (hUB k9) (hUA (k9 + 1)) (hUB (k9 + 1))) (sqm rs (hUA k9) (hUB k9) (hAA k9) (hBB k9) (hUA (k9 + 1)) (hUB (k9 + 1)) (hAA (k9 + 1)) (hBB (k9 + 1)))))))) ∧ (IV g f1) ∧ (un [53, 54, 55, 56] g f f1)) (pc_out g s.heap.size) (pc_A g s.heap.size)) args s 0 0 (pc_A g s.heap.size)) (F0 m 200 ls [.int bj176, .long (mless (sq0 (hUA k9) (hUB k9) (hAA k9) (hBB k9)) (mmore (nL 0) (((mmore (mS (hAA (k9 + 1))) (mS (hBB (k9 + 1))))) - ((nL 1))))), .long (if sqb rs (hUA k9) (hAA k9) = true then nL 0 else -(mless (sq0 (hUA k9) (hUB k9) (hAA k9) (hBB k9)) (mmore (nL 0) (((mmore (mS (hAA (k9 + 1))) (mS (hBB (k9 + 1))))) - ((nL 1)))))), .int (nI k9), .ref M]) := by
                    intro bj176 hbj177 H locs hP hD hS
                    subst hbj177
                    refine lv_iload_n hx hb d_M_spanQuotient_200 rfl (lv_at hl 1 rfl) ?_
                    refine pcc_v (va_runV (C := "BigRunnerModel") (As := [.int (nI k9), .long (if sqb rs (hUA k9) (hAA k9) = true then nL 0 else -(mless (sq0 (hUA k9) (hUB k9) (hAA k9) (hBB k9)) (mmore (nL 0) (((mmore (mS (hAA (k9 + 1))) (mS (hBB (k9 + 1))))) - ((nL 1)))))), .long (mless (sq0 (hUA k9) (hUB k9) (hAA k9) (hBB k9)) (mmore (nL 0) (((mmore (mS (hAA (k9 + 1))) (mS (hBB (k9 + 1))))) - ((nL 1))))), .int (bI (false && !(sqb rs (hUA k9) (hAA k9)))), .int (nI 0)]) (rest := []) ⟨hx, hb, hml, hown, tb_nil⟩ (m2_interval l g H.size f M k9 ((if sqb rs (hUA k9) (hAA k9) = true then nL 0 else -(mless (sq0 (hUA k9) (hUB k9) (hAA k9) (hBB k9)) (mmore (nL 0) (((mmore (mS (hAA (k9 + 1))) (mS (hBB (k9 + 1))))) - ((nL 1))))))) ((mless (sq0 (hUA k9) (hUB k9) (hAA k9) (hBB k9)) (mmore (nL 0) (((mmore (mS (hAA (k9 + 1))) (mS (hBB (k9 + 1))))) - ((nL 1)))))) ((false && !(sqb rs (hUA k9) (hAA k9)))) false hUA hUB hAA hBB hL t_M hI (by omega) eUA eUB eAA eBB) ⟨(callB_of 5 (tb_one (wd_1160 hB _)) tb_good1 rfl rfl rfl (wd_82 hB _) (wd_1157 hB _) (by decide +kernel) ⟨Nat.le_of_ble_eq_true rfl, Nat.le_of_ble_eq_true rfl⟩), (wd_1159 hB _), (wd_53 hB _)⟩ ⟨pe_bl, pg_recv (ci := 10) hK hP (lo_in hL t_M (by decide)) e67 rfl, pe_pre hB hK hP hD⟩ rfl rfl hl.1 rfl (lv_room (Nat.le_of_ble_eq_true rfl)) d_M_spanQuotient_201 ⟨Nat.le_of_ble_eq_true rfl, Nat.le_of_ble_eq_true rfl⟩) hS (fun f179 H locs hq180 hP hD hS => ?_)
                    obtain ⟨aUA_181, aUB_182, aAA_183, aBB_184, hI1_185, hu1_186⟩ := hq180
                    have hu := hu.tr hu1_186 (by decide)
                    have e67 := hu1_186.at t_M (by decide) e67
                    exact pe_vret hx hb hr hlocks hK hP hD hS d_M_spanQuotient_204 ⟨(aUA_181.trans (by first | (simp [sqf, squ, sqr, sqm, sqc, b10, b101, b125]; done) | (simp [sqf, squ, sqr, sqm, sqc, b101, b125]; done) | contradiction)), (aUB_182.trans (by first | (simp [sqf, squ, sqr, sqm, sqc, b10, b101, b125]; done) | (simp [sqf, squ, sqr, sqm, sqc, b101, b125]; done) | contradiction)), (aAA_183.trans (by first | (simp [sqf, squ, sqr, sqm, sqc, b10, b101, b125]; done) | (simp [sqf, squ, sqr, sqm, sqc, b101, b125]; done) | contradiction)), (aBB_184.trans (by first | (simp [sqf, squ, sqr, sqm, sqc, b10, b101, b125]; done) | (simp [sqf, squ, sqr, sqm, sqc, b101, b125]; done) | contradiction)), hI1_185, hu⟩
                  refine lv_iload_n hx hb d_M_spanQuotient_186 rfl (lv_at hl 1 rfl) ?_
                  refine lv_if_eq (tgt := 199) hx hb d_M_spanQuotient_187 (by decide) (fun b187 => ?_) (fun b187 => ?_)
                  · skip
                    replace b187 := (nI_eq (a := 0) (b := 0) (by omega) (by omega)).mp b187
                    refine lv_iconst (v := nI 0) hx hb d_M_spanQuotient_199 (by decide) ?_
                    exact jn175 ((nI 0)) (by first | (simp [bI, b10, b101, b125, b187]; done) | (simp [bI, b101, b125, b187]; done) | contradiction) _ _ hP hD hS
                  · skip
                    replace b187 := mt (nI_eq (a := 0) (b := 0) (by omega) (by omega)).mpr b187
                    exfalso; omega
                refine lv_iload hx hb d_M_spanQuotient_172 (lv_at hl 0 rfl) ?_
                refine lv_if_eq (tgt := 181) hx hb d_M_spanQuotient_174 (by decide) (fun b188 => ?_) (fun b188 => ?_)
                · skip
                  replace b188 : (bI (sqb rs (hUA k9) (hAA k9))) = nI 0 := b188
                  replace b188 := bI_0 b188
                  refine lv_lload hx hb d_M_spanQuotient_181 (lv_at hl 2 rfl) ?_
                  refine lv_lneg hx hb d_M_spanQuotient_183 ?_
                  exact jn172 ((-((mless (sq0 (hUA k9) (hUB k9) (hAA k9) (hBB k9)) (mmore (nL 0) (((mmore (mS (hAA (k9 + 1))) (mS (hBB (k9 + 1))))) - ((nL 1)))))))) (by first | (simp [b10, b101, b125, b188]; done) | (simp [b101, b125, b188]; done) | contradiction) _ _ hP hD hS
                · skip
                  replace b188 : ¬ (bI (sqb rs (hUA k9) (hAA k9))) = nI 0 := b188
                  replace b188 := bI_1 b188
                  refine lv_lconst (v := nL 0) hx hb d_M_spanQuotient_177 (by decide) ?_
                  refine lv_goto (tgt := 184) hx hb d_M_spanQuotient_178 (by decide) ?_
                  exact jn172 ((nL 0)) (by first | (simp [b10, b101, b125, b188]; done) | (simp [b101, b125, b188]; done) | contradiction) _ _ hP hD hS
              refine lv_iload_n hx hb d_M_spanQuotient_154 rfl (lv_at hl 6 rfl) ?_
              refine lv_if_eq (tgt := 167) hx hb d_M_spanQuotient_155 (by decide) (fun b189 => ?_) (fun b189 => ?_)
              · skip
                replace b189 : (bI rs) = nI 0 := b189
                exact absurd (b10.symm.trans (show _ = false from bI_0 b189)) (by decide)
              · skip
                replace b189 : ¬ (bI rs) = nI 0 := b189
                replace b189 := bI_1 b189
                refine lv_iload hx hb d_M_spanQuotient_158 (lv_at hl 3 rfl) ?_
                refine lv_if_ne (tgt := 167) hx hb d_M_spanQuotient_160 (by decide) (fun b190 => ?_) (fun b190 => ?_)
                · skip
                  replace b190 : ¬ (bI (sqw (hUA k9) (hAA k9))) = nI 0 := b190
                  replace b190 := bI_1 b190
                  refine lv_iconst (v := nI 0) hx hb d_M_spanQuotient_167 (by decide) ?_
                  exact jn169 ((nI 0)) (by first | (simp [sqb, bI, b10, b101, b125, b189, b190]; done) | (simp [sqb, bI, b101, b125, b190]; done) | contradiction) _ _ hP hD hS
                · skip
                  replace b190 : (bI (sqw (hUA k9) (hAA k9))) = nI 0 := b190
                  replace b190 := bI_0 b190
                  refine lv_iconst (v := nI 1) hx hb d_M_spanQuotient_163 (by decide) ?_
                  refine lv_goto (tgt := 168) hx hb d_M_spanQuotient_164 (by decide) ?_
                  exact jn169 ((nI 1)) (by first | (simp [sqb, bI, b10, b101, b125, b189, b190]; done) | (simp [sqb, bI, b101, b125, b190]; done) | contradiction) _ _ hP hD hS
      refine lv_iload_n hx hb d_M_spanQuotient_51 rfl (lv_at hl 1 rfl) ?_
      refine lv_if_eq (tgt := 61) hx hb d_M_spanQuotient_52 (by decide) (fun b191 => ?_) (fun b191 => ?_)
      · skip
        replace b191 : (bI (mf (hUA k9) (hUB k9))) = nI 0 := b191
        replace b191 := bI_0 b191
        refine lv_aload_n hx hb d_M_spanQuotient_61 rfl (lv_at hl 2 rfl) ?_
        obtain ⟨th_193, n_194, dr_195, sz_196, ix_197, dp_198, wt_199, op_200, tp_201, wa_202, gi_203, pc_204, st_205, tr_206, sp_207, ma_208, lg_209, du_210, e192, c211, c212, c213, c214, c215, c216, c217, c218, c219, c220, c221, c222, c223, c224, c225⟩ := oc_11.of t_M (hI.1 M)
        refine pf_get (v := .ref (g.lk M 21)) (C := "BigRunnerModel") (T := FT10) (N := 45) hx hb (hw10 hB _) (fun _ h9 => h9) hown hK hP (lo_in hL t_M (by decide)) e192 rfl 21 (by decide) (wd_968 hB _) rfl d_M_spanQuotient_62 ?_
        refine lv_iload_n hx hb d_M_spanQuotient_65 rfl (lv_at hl 3 rfl) ?_
        refine pf_lald (i := k9) hx hb hK hP (lo_in hL (lo_k11_21 hL _ t_M) (by decide)) eAA (lo_t53 hL _ (lo_k11_21 hL _ t_M)) (by omega) (by decide) d_M_spanQuotient_66 ?_
        refine pcc_l (va_runS (As := [.long (hAA k9)]) (rest := []) ⟨hx, hb, hml, hown, tb_nil⟩ (m2_size l g H.size f ((hAA k9)) hL hI.1) ⟨(callB_of 1 (tb_one (wd_1172 hB _)) tb_good1 rfl rfl rfl (wd_82 hB _) (wd_1170 hB _) (by decide +kernel) ⟨Nat.le_of_ble_eq_true rfl, Nat.le_of_ble_eq_true rfl⟩), (wd_1171 hB _)⟩ ⟨pe_bl, pe_pre hB hK hP hD⟩ rfl rfl hl.1 rfl (lv_room (Nat.le_of_ble_eq_true rfl)) d_M_spanQuotient_67 ⟨Nat.le_of_ble_eq_true rfl, Nat.le_of_ble_eq_true rfl⟩) hS (fun r226 f227 H locs hq228 hP hD hS => ?_)
        obtain ⟨qv_229, rfl⟩ := hq228
        subst qv_229
        refine lv_aload_n hx hb d_M_spanQuotient_70 rfl (lv_at hl 2 rfl) ?_
        refine pf_get (v := .ref (g.lk M 22)) (C := "BigRunnerModel") (T := FT10) (N := 45) hx hb (hw10 hB _) (fun _ h9 => h9) hown hK hP (lo_in hL t_M (by decide)) e192 rfl 22 (by decide) (wd_969 hB _) rfl d_M_spanQuotient_71 ?_
        refine lv_iload_n hx hb d_M_spanQuotient_74 rfl (lv_at hl 3 rfl) ?_
        refine pf_lald (i := k9) hx hb hK hP (lo_in hL (lo_k11_22 hL _ t_M) (by decide)) eBB (lo_t54 hL _ (lo_k11_22 hL _ t_M)) (by omega) (by decide) d_M_spanQuotient_75 ?_
        refine pcc_l (va_runS (As := [.long (hBB k9)]) (rest := [.long (mS (hAA k9))]) ⟨hx, hb, hml, hown, tb_nil⟩ (m2_size l g H.size f ((hBB k9)) hL hI.1) ⟨(callB_of 1 (tb_one (wd_1172 hB _)) tb_good1 rfl rfl rfl (wd_82 hB _) (wd_1170 hB _) (by decide +kernel) ⟨Nat.le_of_ble_eq_true rfl, Nat.le_of_ble_eq_true rfl⟩), (wd_1171 hB _)⟩ ⟨pe_bl, pe_pre hB hK hP hD⟩ rfl rfl hl.1 rfl (lv_room (Nat.le_of_ble_eq_true rfl)) d_M_spanQuotient_76 ⟨Nat.le_of_ble_eq_true rfl, Nat.le_of_ble_eq_true rfl⟩) hS (fun r230 f231 H locs hq232 hP hD hS => ?_)
        obtain ⟨qv_233, rfl⟩ := hq232
        subst qv_233
        refine pcc_l (va_runS (As := [.long (mS (hAA k9)), .long (mS (hBB k9))]) (rest := []) ⟨hx, hb, hml, hown, tb_nil⟩ (m2_more l g H.size f ((mS (hAA k9))) ((mS (hBB k9))) hL hI.1) ⟨(callB_of 2 (tb_one (wd_1179 hB _)) tb_good1 rfl rfl rfl (wd_82 hB _) (wd_1177 hB _) (by decide +kernel) ⟨Nat.le_of_ble_eq_true rfl, Nat.le_of_ble_eq_true rfl⟩), (wd_1178 hB _)⟩ ⟨pe_bl, pe_pre hB hK hP hD⟩ rfl rfl hl.1 rfl (lv_room (Nat.le_of_ble_eq_true rfl)) d_M_spanQuotient_79 ⟨Nat.le_of_ble_eq_true rfl, Nat.le_of_ble_eq_true rfl⟩) hS (fun r234 f235 H locs hq236 hP hD hS => ?_)
        obtain ⟨qv_237, rfl⟩ := hq236
        subst qv_237
        exact jn7 ((mmore (mS (hAA k9)) (mS (hBB k9)))) (by first | (simp [sq0, b191]; done) | contradiction) _ _ hP hD hS
      · skip
        replace b191 : ¬ (bI (mf (hUA k9) (hUB k9))) = nI 0 := b191
        replace b191 := bI_1 b191
        refine lv_ldc2 (v := 1152921504606846976) hx hb hown (wd_1162 hB _) d_M_spanQuotient_55 ?_
        refine lv_topl (fun z_ hz_ => ?_)
        obtain rfl : z_ = nL 1152921504606846976 := hz_
        refine lv_goto (tgt := 82) hx hb d_M_spanQuotient_58 (by decide) ?_
        exact jn7 ((nL 1152921504606846976)) (by first | (simp [sq0, b191]; done) | contradiction) _ _ hP hD hS
    refine lv_aload_n hx hb d_M_spanQuotient_24 rfl (lv_at hl 1 rfl) ?_
    obtain ⟨th_239, n_240, dr_241, sz_242, ix_243, dp_244, wt_245, op_246, tp_247, wa_248, gi_249, pc_250, st_251, tr_252, sp_253, ma_254, lg_255, du_256, e238, c257, c258, c259, c260, c261, c262, c263, c264, c265, c266, c267, c268, c269, c270, c271⟩ := oc_11.of t_M (hI.1 M)
    refine pf_get (v := .ref (g.lk M 23)) (C := "BigRunnerModel") (T := FT10) (N := 45) hx hb (hw10 hB _) (fun _ h9 => h9) hown hK hP (lo_in hL t_M (by decide)) e238 rfl 23 (by decide) (wd_970 hB _) rfl d_M_spanQuotient_25 ?_
    refine lv_iload_n hx hb d_M_spanQuotient_28 rfl (lv_at hl 2 rfl) ?_
    refine pf_zald (i := k9) hx hb hK hP (lo_in hL (lo_k11_23 hL _ t_M) (by decide)) eUA (lo_t55 hL _ (lo_k11_23 hL _ t_M)) (by omega) (by decide) d_M_spanQuotient_29 ?_
    refine lv_if_ne (tgt := 44) hx hb d_M_spanQuotient_30 (by decide) (fun b272 => ?_) (fun b272 => ?_)
    · skip
      replace b272 : ¬ (hUA k9) = nI 0 := b272
      refine lv_iconst (v := nI 1) hx hb d_M_spanQuotient_44 (by decide) ?_
      refine lv_goto (tgt := 49) hx hb d_M_spanQuotient_45 (by decide) ?_
      exact jn4 ((nI 1)) (by first | (simp [sqw, nzf, bI, b272]; done) | contradiction) _ _ hP hD hS
    · skip
      replace b272 : (hUA k9) = nI 0 := b272
      refine lv_aload_n hx hb d_M_spanQuotient_33 rfl (lv_at hl 1 rfl) ?_
      refine pf_get (v := .ref (g.lk M 21)) (C := "BigRunnerModel") (T := FT10) (N := 45) hx hb (hw10 hB _) (fun _ h9 => h9) hown hK hP (lo_in hL t_M (by decide)) e238 rfl 21 (by decide) (wd_968 hB _) rfl d_M_spanQuotient_34 ?_
      refine lv_iload_n hx hb d_M_spanQuotient_37 rfl (lv_at hl 2 rfl) ?_
      refine pf_lald (i := k9) hx hb hK hP (lo_in hL (lo_k11_21 hL _ t_M) (by decide)) eAA (lo_t53 hL _ (lo_k11_21 hL _ t_M)) (by omega) (by decide) d_M_spanQuotient_38 ?_
      refine lv_lconst (v := nL 0) hx hb d_M_spanQuotient_39 (by decide) ?_
      refine W.lcmp hx hb d_M_spanQuotient_40 ?_
      refine lv_if_ge (tgt := 48) hx hb d_M_spanQuotient_41 (by decide) (fun b273 => ?_) (fun b273 => ?_)
      · skip
        replace b273 := pl_ge.mp b273
        replace b273 := Int64.not_lt.mpr b273
        refine lv_iconst (v := nI 0) hx hb d_M_spanQuotient_48 (by decide) ?_
        exact jn4 ((nI 0)) (by first | (simp [sqw, nzf, bI, b272, b273]; done) | contradiction) _ _ hP hD hS
      · skip
        replace b273 := mt pl_ge.mpr b273
        replace b273 := Int64.not_le.mp b273
        refine lv_iconst (v := nI 1) hx hb d_M_spanQuotient_44 (by decide) ?_
        refine lv_goto (tgt := 49) hx hb d_M_spanQuotient_45 (by decide) ?_
        exact jn4 ((nI 1)) (by first | (simp [sqw, nzf, bI, b272, b273]; done) | contradiction) _ _ hP hD hS
  refine lv_aload_n hx hb d_M_spanQuotient_0 rfl (lv_at hl 0 rfl) ?_
  obtain ⟨th_275, n_276, dr_277, sz_278, ix_279, dp_280, wt_281, op_282, tp_283, wa_284, gi_285, pc_286, st_287, tr_288, sp_289, ma_290, lg_291, du_292, e274, c293, c294, c295, c296, c297, c298, c299, c300, c301, c302, c303, c304, c305, c306, c307⟩ := oc_11.of t_M (hI.1 M)
  refine pf_get (v := .ref (g.lk M 23)) (C := "BigRunnerModel") (T := FT10) (N := 45) hx hb (hw10 hB _) (fun _ h9 => h9) hown hK hP (lo_in hL t_M (by decide)) e274 rfl 23 (by decide) (wd_970 hB _) rfl d_M_spanQuotient_1 ?_
  refine lv_iload_n hx hb d_M_spanQuotient_4 rfl (lv_at hl 1 rfl) ?_
  refine pf_zald (i := k9) hx hb hK hP (lo_in hL (lo_k11_23 hL _ t_M) (by decide)) eUA (lo_t55 hL _ (lo_k11_23 hL _ t_M)) (by omega) (by decide) d_M_spanQuotient_5 ?_
  refine lv_if_ne (tgt := 18) hx hb d_M_spanQuotient_6 (by decide) (fun b308 => ?_) (fun b308 => ?_)
  · skip
    replace b308 : ¬ (hUA k9) = nI 0 := b308
    refine lv_iconst (v := nI 1) hx hb d_M_spanQuotient_18 (by decide) ?_
    refine lv_goto (tgt := 23) hx hb d_M_spanQuotient_19 (by decide) ?_
    exact jn1 ((nI 1)) (by first | (simp [mf, nzf, bI, b308]; done) | contradiction) _ _ hP hD hS
  · skip
    replace b308 : (hUA k9) = nI 0 := b308
    refine lv_aload_n hx hb d_M_spanQuotient_9 rfl (lv_at hl 0 rfl) ?_
    refine pf_get (v := .ref (g.lk M 24)) (C := "BigRunnerModel") (T := FT10) (N := 45) hx hb (hw10 hB _) (fun _ h9 => h9) hown hK hP (lo_in hL t_M (by decide)) e274 rfl 24 (by decide) (wd_971 hB _) rfl d_M_spanQuotient_10 ?_
    refine lv_iload_n hx hb d_M_spanQuotient_13 rfl (lv_at hl 1 rfl) ?_
    refine pf_zald (i := k9) hx hb hK hP (lo_in hL (lo_k11_24 hL _ t_M) (by decide)) eUB (lo_t56 hL _ (lo_k11_24 hL _ t_M)) (by omega) (by decide) d_M_spanQuotient_14 ?_
    refine lv_if_eq (tgt := 22) hx hb d_M_spanQuotient_15 (by decide) (fun b309 => ?_) (fun b309 => ?_)
    · skip
      replace b309 : (hUB k9) = nI 0 := b309
      refine lv_iconst (v := nI 0) hx hb d_M_spanQuotient_22 (by decide) ?_
      exact jn1 ((nI 0)) (by first | (simp [mf, nzf, bI, b308, b309]; done) | contradiction) _ _ hP hD hS
    · skip
      replace b309 : ¬ (hUB k9) = nI 0 := b309
      refine lv_iconst (v := nI 1) hx hb d_M_spanQuotient_18 (by decide) ?_
      refine lv_goto (tgt := 23) hx hb d_M_spanQuotient_19 (by decide) ?_
      exact jn1 ((nI 1)) (by first | (simp [mf, nzf, bI, b308, b309]; done) | contradiction) _ _ hP hD hS

