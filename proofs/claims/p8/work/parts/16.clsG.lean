/-! methods of the landed part, walked by program -/
set_option maxHeartbeats 4000000 in
theorem c_Group_countSetsKept (l : Launch) (B : Nat) (M : zMem) (hT : zTy B M) (q : Nat) (hqB : q < B) (hqk : (zsh M q).1 = 5 + 3) (x0 : Int32) (x1 : Int32) : zC l m_Group_countSetsKept 0 0 [.ref q, .int x0, .int x1] M (zqI B M []) := by
  refine zC_of (L0 := [some (.ref q), some (.int x0), some (.int x1), none, none]) md_Group_countSetsKept (Nat.le_of_ble_eq_true rfl) rfl ?_ zQ0
  have hm : zMod B [] M M := zMod.rf
  refine zw_iconst (pc := 0) (v := 0) (by decide) d_Group_countSetsKept_0 ?_
  refine zw_istore_n (pc := 1) (i := 3) (L2 := [some (.ref q), some (.int x0), some (.int x1), some (.int 0), none]) rfl (by decide) rfl d_Group_countSetsKept_1 ?_
  refine zw_iconst (pc := 2) (v := 0) (by decide) d_Group_countSetsKept_2 ?_
  refine zw_istore (pc := 3) (i := 4) (L2 := [some (.ref q), some (.int x0), some (.int x1), some (.int 0), some (.int 0)]) (by decide) rfl d_Group_countSetsKept_3 ?_
  have lp_5 : ∀ (n : Nat) (u1 : Int32) (u2 : Int32) (N3 : zMem) (hn4 : zMod B [] M N3), zvu u2 (1 <<< ((zi M q 5) &&& 31)) < n → zW l m_Group_countSetsKept (zn M + 0, zw M + 0) N3 5 [some (.ref q), some (.int x0), some (.int x1), some (.int u1), some (.int u2)] [] (zqI B M []) := by
    intro n
    induction n with
    | zero =>
      intro u1 u2 N3 hn4 h0
      exact absurd h0 (Nat.not_lt_zero _)
    | succ n ih_5 =>
      intro u1 u2 N3 hn4 hlt_5
      refine zw_iload (pc := 5) (i := 4) (x := u2) rfl d_Group_countSetsKept_5 ?_
      refine zw_iconst (pc := 7) (v := 1) (by decide) d_Group_countSetsKept_7 ?_
      refine zw_aload_n (pc := 8) (n := 0) (x := q) rfl d_Group_countSetsKept_8 ?_
      refine zc_getI0 hn4 (pc := 9) (by decide) f_Group_32 rfl hqk d_Group_countSetsKept_9 ?_
      refine zw_ishl (pc := 12) d_Group_countSetsKept_12 ?_
      refine zw_icmp_ge (pc := 13) (tgt := 44) (by decide) d_Group_countSetsKept_13 (fun hc_13 => ?_) (fun hc_13 => ?_)
      · refine zw_iload_n (pc := 44) (n := 3) (x := u1) rfl d_Group_countSetsKept_44 ?_
        exact zw_iret (S := []) (pc := 45) (ty := .int) rfl rfl d_Group_countSetsKept_45 ⟨hn4, _, rfl⟩
      · refine zw_iload (pc := 16) (i := 4) (x := u2) rfl d_Group_countSetsKept_16 ?_
        refine zc_callS hn4 (pc := 18) [.int u2] [] l_Group_83 (c_Integer_bitCount l B N3 (hT.mod hn4) u2) rfl rfl (by decide) (Nat.le_of_ble_eq_true rfl) d_Group_countSetsKept_18 (fun r7 N5 hq6 => ?_)
        obtain ⟨hq6, ex11⟩ := hq6
        obtain ⟨hk10, v9, rfl⟩ := hq6
        have hn8 : zMod B [] M N5 := hn4.call hk10 (by decide)
        show zW l m_Group_countSetsKept (zn M + 0, zw M + 0) N5 21 [some (.ref q), some (.int x0), some (.int x1), some (.int u1), some (.int u2)] [.int v9] (zqI B M [])
        refine zw_iload_n (pc := 21) (n := 1) (x := x0) rfl d_Group_countSetsKept_21 ?_
        have j_38 : ∀ (u12 : Int32) (N13 : zMem) (hn14 : zMod B [] M N13), zW l m_Group_countSetsKept (zn M + 0, zw M + 0) N13 38 [some (.ref q), some (.int x0), some (.int x1), some (.int u12), some (.int u2)] [] (zqI B M []) := by
          intro u12 N13 hn14
          refine zw_iinc (pc := 38) (i := 4) (x := u2) (v := u2 + Int32.ofInt 1) (L2 := [some (.ref q), some (.int x0), some (.int x1), some (.int u12), some (.int (u2 + Int32.ofInt 1))]) rfl rfl (by decide) rfl d_Group_countSetsKept_38 ?_
          refine zw_goto (pc := 41) (tgt := 5) (by decide) d_Group_countSetsKept_41 ?_
          exact ih_5 u12 (u2 + Int32.ofInt 1) N13 hn14 (Nat.lt_of_lt_of_le (z_up hc_13) (Nat.le_of_lt_succ hlt_5))
        refine zw_icmp_ne (pc := 22) (tgt := 38) (by decide) d_Group_countSetsKept_22 (fun hc_22 => ?_) (fun hc_22 => ?_)
        · exact j_38 u1 N5 hn8
        · refine zw_aload_n (pc := 25) (n := 0) (x := q) rfl d_Group_countSetsKept_25 ?_
          refine zw_iload (pc := 26) (i := 4) (x := u2) rfl d_Group_countSetsKept_26 ?_
          refine zw_iload_n (pc := 28) (n := 2) (x := x1) rfl d_Group_countSetsKept_28 ?_
          refine zc_callV hn8 (pc := 29) [.int u2, .int x1] [] l_Group_112 (c_Group_isSetKept l B N5 (hT.mod hn8) q hqB (hn8.k hqk) u2 x1) rfl rfl hqk (by decide) (by decide) (Nat.le_of_ble_eq_true rfl) d_Group_countSetsKept_29 (fun r17 N15 hq16 => ?_)
          obtain ⟨hk20, v19, rfl, zv19⟩ := hq16
          have hn18 : zMod B [] M N15 := hn8.call hk20 (by decide)
          show zW l m_Group_countSetsKept (zn M + 0, zw M + 0) N15 32 [some (.ref q), some (.int x0), some (.int x1), some (.int u1), some (.int u2)] [.int v19] (zqI B M [])
          refine zw_if_eq (pc := 32) (tgt := 38) (by decide) d_Group_countSetsKept_32 (fun hc_32 => ?_) (fun hc_32 => ?_)
          · exact j_38 u1 N15 hn18
          · refine zw_iinc (pc := 35) (i := 3) (x := u1) (v := u1 + Int32.ofInt 1) (L2 := [some (.ref q), some (.int x0), some (.int x1), some (.int (u1 + Int32.ofInt 1)), some (.int u2)]) rfl rfl (by decide) rfl d_Group_countSetsKept_35 ?_
            exact j_38 (u1 + Int32.ofInt 1) N15 hn18
  exact lp_5 _ 0 0 M hm (Nat.lt_succ_self _)
set_option maxHeartbeats 4000000 in
theorem c_Group_power (l : Launch) (B : Nat) (M : zMem) (hT : zTy B M) (x0 : Int32) (x1 : Int32) : zC l m_Group_power 0 0 [.int x0, .int x1] M (zqI B M []) := by
  refine zC_of (L0 := [some (.int x0), some (.int x1), none, none]) md_Group_power (Nat.le_of_ble_eq_true rfl) rfl ?_ zQ0
  have hm : zMod B [] M M := zMod.rf
  refine zw_iconst (pc := 0) (v := 1) (by decide) d_Group_power_0 ?_
  refine zw_istore_n (pc := 1) (i := 2) (L2 := [some (.int x0), some (.int x1), some (.int 1), none]) rfl (by decide) rfl d_Group_power_1 ?_
  refine zw_iconst (pc := 2) (v := 0) (by decide) d_Group_power_2 ?_
  refine zw_istore_n (pc := 3) (i := 3) (L2 := [some (.int x0), some (.int x1), some (.int 1), some (.int 0)]) rfl (by decide) rfl d_Group_power_3 ?_
  have lp_4 : ∀ (n : Nat) (u1 : Int32) (u2 : Int32) (N3 : zMem) (hn4 : zMod B [] M N3), zvu u2 x1 < n → zW l m_Group_power (zn M + 0, zw M + 0) N3 4 [some (.int x0), some (.int x1), some (.int u1), some (.int u2)] [] (zqI B M []) := by
    intro n
    induction n with
    | zero =>
      intro u1 u2 N3 hn4 h0
      exact absurd h0 (Nat.not_lt_zero _)
    | succ n ih_4 =>
      intro u1 u2 N3 hn4 hlt_4
      refine zw_iload_n (pc := 4) (n := 3) (x := u2) rfl d_Group_power_4 ?_
      refine zw_iload_n (pc := 5) (n := 1) (x := x1) rfl d_Group_power_5 ?_
      refine zw_icmp_ge (pc := 6) (tgt := 19) (by decide) d_Group_power_6 (fun hc_6 => ?_) (fun hc_6 => ?_)
      · refine zw_iload_n (pc := 19) (n := 2) (x := u1) rfl d_Group_power_19 ?_
        exact zw_iret (S := []) (pc := 20) (ty := .int) rfl rfl d_Group_power_20 ⟨hn4, _, rfl⟩
      · refine zw_iload_n (pc := 9) (n := 2) (x := u1) rfl d_Group_power_9 ?_
        refine zw_iload_n (pc := 10) (n := 0) (x := x0) rfl d_Group_power_10 ?_
        refine zw_imul (pc := 11) d_Group_power_11 ?_
        refine zw_istore_n (pc := 12) (i := 2) (L2 := [some (.int x0), some (.int x1), some (.int (u1 * x0)), some (.int u2)]) rfl (by decide) rfl d_Group_power_12 ?_
        refine zw_iinc (pc := 13) (i := 3) (x := u2) (v := u2 + Int32.ofInt 1) (L2 := [some (.int x0), some (.int x1), some (.int (u1 * x0)), some (.int (u2 + Int32.ofInt 1))]) rfl rfl (by decide) rfl d_Group_power_13 ?_
        refine zw_goto (pc := 16) (tgt := 4) (by decide) d_Group_power_16 ?_
        exact ih_4 (u1 * x0) (u2 + Int32.ofInt 1) N3 hn4 (Nat.lt_of_lt_of_le (z_up hc_6) (Nat.le_of_lt_succ hlt_4))
  exact lp_4 _ 1 0 M hm (Nat.lt_succ_self _)
set_option maxHeartbeats 4000000 in
theorem c_Group_countKept (l : Launch) (B : Nat) (M : zMem) (hT : zTy B M) (q : Nat) (hqB : q < B) (hqk : (zsh M q).1 = 5 + 3) (x0 : Int32) (x1 : Int32) (x2 : Int32) : zC l m_Group_countKept 0 0 [.ref q, .int x0, .int x1, .int x2] M (zqI B M []) := by
  refine zC_of (L0 := [some (.ref q), some (.int x0), some (.int x1), some (.int x2), none, none, none, none]) md_Group_countKept (Nat.le_of_ble_eq_true rfl) rfl ?_ zQ0
  have hm : zMod B [] M M := zMod.rf
  refine zw_iconst (pc := 0) (v := 0) (by decide) d_Group_countKept_0 ?_
  refine zw_istore (pc := 1) (i := 4) (L2 := [some (.ref q), some (.int x0), some (.int x1), some (.int x2), some (.int 0), none, none, none]) (by decide) rfl d_Group_countKept_1 ?_
  refine zw_iconst (pc := 3) (v := 0) (by decide) d_Group_countKept_3 ?_
  refine zw_istore (pc := 4) (i := 5) (L2 := [some (.ref q), some (.int x0), some (.int x1), some (.int x2), some (.int 0), some (.int 0), none, none]) (by decide) rfl d_Group_countKept_4 ?_
  refine zw_iconst (pc := 6) (v := 0) (by decide) d_Group_countKept_6 ?_
  refine zw_istore (pc := 7) (i := 6) (L2 := [some (.ref q), some (.int x0), some (.int x1), some (.int x2), some (.int 0), some (.int 0), some (.int 0), none]) (by decide) rfl d_Group_countKept_7 ?_
  have lp_9 : ∀ (n : Nat) (u1 : Int32) (u2 : Int32) (u3 : Int32) (N4 : zMem) (hn5 : zMod B [] M N4), zvu u3 (zi M q 5) < n → zW l m_Group_countKept (zn M + 0, zw M + 0) N4 9 [some (.ref q), some (.int x0), some (.int x1), some (.int x2), some (.int u1), some (.int u2), some (.int u3), none] [] (zqI B M []) := by
    intro n
    induction n with
    | zero =>
      intro u1 u2 u3 N4 hn5 h0
      exact absurd h0 (Nat.not_lt_zero _)
    | succ n ih_9 =>
      intro u1 u2 u3 N4 hn5 hlt_9
      refine zw_iload (pc := 9) (i := 6) (x := u3) rfl d_Group_countKept_9 ?_
      refine zw_aload_n (pc := 11) (n := 0) (x := q) rfl d_Group_countKept_11 ?_
      refine zc_getI0 hn5 (pc := 12) (by decide) f_Group_32 rfl hqk d_Group_countKept_12 ?_
      refine zw_icmp_ge (pc := 15) (tgt := 61) (by decide) d_Group_countKept_15 (fun hc_15 => ?_) (fun hc_15 => ?_)
      · refine zw_iload_n (pc := 61) (n := 1) (x := x0) rfl d_Group_countKept_61 ?_
        refine zw_if_ne (pc := 62) (tgt := 68) (by decide) d_Group_countKept_62 (fun hc_62 => ?_) (fun hc_62 => ?_)
        · refine zw_iload_n (pc := 68) (n := 1) (x := x0) rfl d_Group_countKept_68 ?_
          refine zw_iconst (pc := 69) (v := 1) (by decide) d_Group_countKept_69 ?_
          refine zw_icmp_ne (pc := 70) (tgt := 82) (by decide) d_Group_countKept_70 (fun hc_70 => ?_) (fun hc_70 => ?_)
          · refine zw_iload_n (pc := 82) (n := 2) (x := x1) rfl d_Group_countKept_82 ?_
            refine zw_iload (pc := 83) (i := 5) (x := u2) rfl d_Group_countKept_83 ?_
            refine zc_callS hn5 (pc := 85) [.int x1, .int u2] [] l_Group_109 (c_Group_power l B N4 (hT.mod hn5) x1 u2) rfl rfl (by decide) (Nat.le_of_ble_eq_true rfl) d_Group_countKept_85 (fun r8 N6 hq7 => ?_)
            obtain ⟨hk11, v10, rfl⟩ := hq7
            have hn9 : zMod B [] M N6 := hn5.call hk11 (by decide)
            show zW l m_Group_countKept (zn M + 0, zw M + 0) N6 88 [some (.ref q), some (.int x0), some (.int x1), some (.int x2), some (.int u1), some (.int u2), some (.int u3), none] [.int v10] (zqI B M [])
            exact zw_iret (S := []) (pc := 88) (ty := .int) rfl rfl d_Group_countKept_88 ⟨hn9, _, rfl⟩
          · refine zw_aload_n (pc := 73) (n := 0) (x := q) rfl d_Group_countKept_73 ?_
            refine zw_iload_n (pc := 74) (n := 2) (x := x1) rfl d_Group_countKept_74 ?_
            refine zw_iload_n (pc := 75) (n := 3) (x := x2) rfl d_Group_countKept_75 ?_
            refine zc_callV hn5 (pc := 76) [.int x1, .int x2] [] l_Group_106 (c_Group_countSetsKept l B N4 (hT.mod hn5) q hqB (hn5.k hqk) x1 x2) rfl rfl hqk (by decide) (by decide) (Nat.le_of_ble_eq_true rfl) d_Group_countKept_76 (fun r15 N13 hq14 => ?_)
            obtain ⟨hk18, v17, rfl⟩ := hq14
            have hn16 : zMod B [] M N13 := hn5.call hk18 (by decide)
            show zW l m_Group_countKept (zn M + 0, zw M + 0) N13 79 [some (.ref q), some (.int x0), some (.int x1), some (.int x2), some (.int u1), some (.int u2), some (.int u3), none] [.int v17] (zqI B M [])
            refine zw_goto (pc := 79) (tgt := 88) (by decide) d_Group_countKept_79 ?_
            exact zw_iret (S := []) (pc := 88) (ty := .int) rfl rfl d_Group_countKept_88 ⟨hn16, _, rfl⟩
        · refine zw_iload (pc := 65) (i := 4) (x := u1) rfl d_Group_countKept_65 ?_
          exact zw_iret (S := []) (pc := 67) (ty := .int) rfl rfl d_Group_countKept_67 ⟨hn5, _, rfl⟩
      · refine zw_aload_n (pc := 18) (n := 0) (x := q) rfl d_Group_countKept_18 ?_
        refine zw_iload (pc := 19) (i := 6) (x := u3) rfl d_Group_countKept_19 ?_
        refine zw_iload_n (pc := 21) (n := 3) (x := x2) rfl d_Group_countKept_21 ?_
        refine zc_callV hn5 (pc := 22) [.int u3, .int x2] [] l_Group_103 (c_Group_placesReached l B N4 (hT.mod hn5) q hqB (hn5.k hqk) u3 x2) rfl rfl hqk (by decide) (by decide) (Nat.le_of_ble_eq_true rfl) d_Group_countKept_22 (fun r22 N20 hq21 => ?_)
        obtain ⟨hk25, v24, rfl⟩ := hq21
        have hn23 : zMod B [] M N20 := hn5.call hk25 (by decide)
        show zW l m_Group_countKept (zn M + 0, zw M + 0) N20 25 [some (.ref q), some (.int x0), some (.int x1), some (.int x2), some (.int u1), some (.int u2), some (.int u3), none] [.int v24] (zqI B M [])
        refine zw_istore (pc := 25) (i := 7) (L2 := [some (.ref q), some (.int x0), some (.int x1), some (.int x2), some (.int u1), some (.int u2), some (.int u3), some (.int v24)]) (by decide) rfl d_Group_countKept_25 ?_
        refine zw_iload (pc := 27) (i := 7) (x := v24) rfl d_Group_countKept_27 ?_
        refine zw_iconst (pc := 29) (v := 1) (by decide) d_Group_countKept_29 ?_
        refine zw_iload (pc := 30) (i := 6) (x := u3) rfl d_Group_countKept_30 ?_
        refine zw_ishl (pc := 32) d_Group_countKept_32 ?_
        have j_39 : ∀ (u27 : Int32) (N28 : zMem) (hn29 : zMod B [] M N28), zW l m_Group_countKept (zn M + 0, zw M + 0) N28 39 [some (.ref q), some (.int x0), some (.int x1), some (.int x2), some (.int u27), some (.int u2), some (.int u3), some (.int v24)] [] (zqI B M []) := by
          intro u27 N28 hn29
          refine zw_iload (pc := 39) (i := 7) (x := v24) rfl d_Group_countKept_39 ?_
          refine zw_iload (pc := 41) (i := 7) (x := v24) rfl d_Group_countKept_41 ?_
          refine zw_ineg (pc := 43) d_Group_countKept_43 ?_
          refine zw_iand (pc := 44) d_Group_countKept_44 ?_
          refine zw_iconst (pc := 45) (v := 1) (by decide) d_Group_countKept_45 ?_
          refine zw_iload (pc := 46) (i := 6) (x := u3) rfl d_Group_countKept_46 ?_
          refine zw_ishl (pc := 48) d_Group_countKept_48 ?_
          have j_55 : ∀ (u30 : Int32) (N31 : zMem) (hn32 : zMod B [] M N31), zW l m_Group_countKept (zn M + 0, zw M + 0) N31 55 [some (.ref q), some (.int x0), some (.int x1), some (.int x2), some (.int u27), some (.int u30), some (.int u3), some (.int v24)] [] (zqI B M []) := by
            intro u30 N31 hn32
            refine zw_iinc (pc := 55) (i := 6) (x := u3) (v := u3 + Int32.ofInt 1) (L2 := [some (.ref q), some (.int x0), some (.int x1), some (.int x2), some (.int u27), some (.int u30), some (.int (u3 + Int32.ofInt 1)), some (.int v24)]) rfl rfl (by decide) rfl d_Group_countKept_55 ?_
            refine zw_goto (pc := 58) (tgt := 9) (by decide) d_Group_countKept_58 ?_
            refine zW_le [some (.ref q), some (.int x0), some (.int x1), some (.int x2), some (.int u27), some (.int u30), some (.int (u3 + Int32.ofInt 1)), none] (⟨rfl, rfl, rfl, rfl, rfl, rfl, rfl, trivial⟩) ?_
            exact ih_9 u27 u30 (u3 + Int32.ofInt 1) N31 hn32 (Nat.lt_of_lt_of_le (z_up hc_15) (Nat.le_of_lt_succ hlt_9))
          refine zw_icmp_ne (pc := 49) (tgt := 55) (by decide) d_Group_countKept_49 (fun hc_49 => ?_) (fun hc_49 => ?_)
          · exact j_55 u2 N28 hn29
          · refine zw_iinc (pc := 52) (i := 5) (x := u2) (v := u2 + Int32.ofInt 1) (L2 := [some (.ref q), some (.int x0), some (.int x1), some (.int x2), some (.int u27), some (.int (u2 + Int32.ofInt 1)), some (.int u3), some (.int v24)]) rfl rfl (by decide) rfl d_Group_countKept_52 ?_
            exact j_55 (u2 + Int32.ofInt 1) N28 hn29
        refine zw_icmp_ne (pc := 33) (tgt := 39) (by decide) d_Group_countKept_33 (fun hc_33 => ?_) (fun hc_33 => ?_)
        · exact j_39 u1 N20 hn23
        · refine zw_iinc (pc := 36) (i := 4) (x := u1) (v := u1 + Int32.ofInt 1) (L2 := [some (.ref q), some (.int x0), some (.int x1), some (.int x2), some (.int (u1 + Int32.ofInt 1)), some (.int u2), some (.int u3), some (.int v24)]) rfl rfl (by decide) rfl d_Group_countKept_36 ?_
          exact j_39 (u1 + Int32.ofInt 1) N20 hn23
  exact lp_9 _ 0 0 0 M hm (Nat.lt_succ_self _)
set_option maxHeartbeats 4000000 in
theorem c_T_take (l : Launch) (B : Nat) (M : zMem) (hT : zTy B M) (q : Nat) (hqB : q < B) (hqk : (zsh M q).1 = 0 + 3) (x0 : Int32) (x1 : Int32) : zC l m_T_take 0 0 [.ref q, .int x0, .int x1] M (zqI B M [(4, 7), (4, 8)]) := by
  refine zC_of (L0 := [some (.ref q), some (.int x0), some (.int x1), none, none]) md_T_take (Nat.le_of_ble_eq_true rfl) rfl ?_ zQ0
  have hm : zMod B [(4, 7), (4, 8)] M M := zMod.rf
  refine zw_iload_n (pc := 0) (n := 2) (x := x1) rfl d_T_take_0 ?_
  have j_15 : ∀ (u1 : Int32) (hu1 : u1 = 0 ∨ u1 = 1) (N2 : zMem) (hn3 : zMod B [(4, 7), (4, 8)] M N2), zW l m_T_take (zn M + 0, zw M + 0) N2 15 [some (.ref q), some (.int x0), some (.int x1), none, none] [.int u1] (zqI B M [(4, 7), (4, 8)]) := by
    intro u1 hu1 N2 hn3
    refine zw_istore_n (pc := 15) (i := 3) (L2 := [some (.ref q), some (.int x0), some (.int x1), some (.int u1), none]) rfl (by decide) rfl d_T_take_15 ?_
    refine zw_iload_n (pc := 16) (n := 1) (x := x0) rfl d_T_take_16 ?_
    have j_36 : ∀ (N4 : zMem) (hn5 : zMod B [(4, 7), (4, 8)] M N4), zW l m_T_take (zn M + 0, zw M + 0) N4 36 [some (.ref q), some (.int x0), some (.int x1), some (.int u1), none] [] (zqI B M [(4, 7), (4, 8)]) := by
      intro N4 hn5
      refine zw_iconst (pc := 36) (v := 0) (by decide) d_T_take_36 ?_
      refine zw_istore (pc := 37) (i := 4) (L2 := [some (.ref q), some (.int x0), some (.int x1), some (.int u1), some (.int 0)]) (by decide) rfl d_T_take_37 ?_
      obtain ⟨r9, r9f, r9B, r9k⟩ := hT.1 q 0 2 hqB hqk (by decide) (by decide) rfl
      obtain ⟨r10, r10f, r10B, r10k⟩ := hT.1 r9 4 1 r9B r9k (by decide) (by decide) rfl
      have lp_39 : ∀ (n : Nat) (u6 : Int32) (N7 : zMem) (hn8 : zMod B [(4, 7), (4, 8)] M N7), zvu u6 (zi M r10 7) < n → zW l m_T_take (zn M + 0, zw M + 0) N7 39 [some (.ref q), some (.int x0), some (.int x1), some (.int u1), some (.int u6)] [] (zqI B M [(4, 7), (4, 8)]) := by
        intro n
        induction n with
        | zero =>
          intro u6 N7 hn8 h0
          exact absurd h0 (Nat.not_lt_zero _)
        | succ n ih_39 =>
          intro u6 N7 hn8 hlt_39
          refine zw_iload (pc := 39) (i := 4) (x := u6) rfl d_T_take_39 ?_
          refine zw_aload_n (pc := 41) (n := 0) (x := q) rfl d_T_take_41 ?_
          refine zc_getF hn8 (pc := 42) f_T_28 rfl hqk r9f d_T_take_42 ?_
          refine zc_getF hn8 (pc := 45) f_T_85 rfl r9k r10f d_T_take_45 ?_
          refine zc_getI0 hn8 (pc := 48) (by decide) f_T_94 rfl r10k d_T_take_48 ?_
          refine zw_icmp_ge (pc := 51) (tgt := 103) (by decide) d_T_take_51 (fun hc_51 => ?_) (fun hc_51 => ?_)
          · refine zw_aload_n (pc := 103) (n := 0) (x := q) rfl d_T_take_103 ?_
            refine zc_getF hn8 (pc := 104) f_T_28 rfl hqk r9f d_T_take_104 ?_
            obtain ⟨r11, r11f, r11B, r11k⟩ := hT.1 r9 4 2 r9B r9k (by decide) (by decide) rfl
            refine zc_getF hn8 (pc := 107) f_T_169 rfl r9k r11f d_T_take_107 ?_
            refine zw_bipush (pc := 110) (v := 39) (by decide) d_T_take_110 ?_
            refine zc_callV hn8 (pc := 112) [.int 39] [] l_T_296 (c_Sums_solve l B N7 (hT.mod hn8) r11 r11B (hn8.k r11k) 39) rfl rfl r11k (by decide) (by decide) (Nat.le_of_ble_eq_true rfl) d_T_take_112 (fun r14 N12 hq13 => ?_)
            obtain ⟨hk17, rfl⟩ := hq13
            have hn15 : zMod B [(4, 7), (4, 8)] M N12 := hn8.call hk17 (by decide)
            show zW l m_T_take (zn M + 0, zw M + 0) N12 115 [some (.ref q), some (.int x0), some (.int x1), some (.int u1), some (.int u6)] [] (zqI B M [(4, 7), (4, 8)])
            refine zw_aload_n (pc := 115) (n := 0) (x := q) rfl d_T_take_115 ?_
            refine zc_getF hn15 (pc := 116) f_T_28 rfl hqk r9f d_T_take_116 ?_
            refine zw_bipush (pc := 119) (v := 39) (by decide) d_T_take_119 ?_
            refine zc_callV hn15 (pc := 121) [.int 39] [] l_T_284 (c_Troupe_become l B N12 (hT.mod hn15) r9 r9B (hn15.k r9k) 39) rfl rfl r9k (by decide) (by decide) (Nat.le_of_ble_eq_true rfl) d_T_take_121 (fun r21 N19 hq20 => ?_)
            obtain ⟨hk24, rfl⟩ := hq20
            have hn22 : zMod B [(4, 7), (4, 8)] M N19 := hn15.call hk24 (by decide)
            show zW l m_T_take (zn M + 0, zw M + 0) N19 124 [some (.ref q), some (.int x0), some (.int x1), some (.int u1), some (.int u6)] [] (zqI B M [(4, 7), (4, 8)])
            refine zw_aload_n (pc := 124) (n := 0) (x := q) rfl d_T_take_124 ?_
            refine zc_getF hn22 (pc := 125) f_T_28 rfl hqk r9f d_T_take_125 ?_
            refine zc_getF hn22 (pc := 128) f_T_169 rfl r9k r11f d_T_take_128 ?_
            refine zw_iconst (pc := 131) (v := 0) (by decide) d_T_take_131 ?_
            refine zw_iconst (pc := 132) (v := 0) (by decide) d_T_take_132 ?_
            refine zc_callV hn22 (pc := 133) [.int 0, .int 0] [] l_T_250 (c_Sums_markOf l B N19 (hT.mod hn22) r11 r11B (hn22.k r11k) 0 0) rfl rfl r11k (by decide) (by decide) (Nat.le_of_ble_eq_true rfl) d_T_take_133 (fun r28 N26 hq27 => ?_)
            obtain ⟨hk31, v30, rfl⟩ := hq27
            have hn29 : zMod B [(4, 7), (4, 8)] M N26 := hn22.call hk31 (by decide)
            show zW l m_T_take (zn M + 0, zw M + 0) N26 136 [some (.ref q), some (.int x0), some (.int x1), some (.int u1), some (.int u6)] [.long v30] (zqI B M [(4, 7), (4, 8)])
            refine zw_l2i (pc := 136) d_T_take_136 ?_
            exact zw_iret (S := []) (pc := 137) (ty := .int) rfl rfl d_T_take_137 ⟨hn29, _, rfl⟩
          · refine zw_aload_n (pc := 54) (n := 0) (x := q) rfl d_T_take_54 ?_
            refine zc_getF hn8 (pc := 55) f_T_28 rfl hqk r9f d_T_take_55 ?_
            obtain ⟨r33, r33f, r33B, r33k⟩ := hT.1 r9 4 2 r9B r9k (by decide) (by decide) rfl
            refine zc_getF hn8 (pc := 58) f_T_169 rfl r9k r33f d_T_take_58 ?_
            obtain ⟨r34, r34f, r34B, r34k⟩ := hT.1 r33 7 2 r33B r33k (by decide) (by decide) rfl
            refine zc_getF hn8 (pc := 61) f_T_262 rfl r33k r34f d_T_take_61 ?_
            refine zw_iload (pc := 64) (i := 4) (x := u6) rfl d_T_take_64 ?_
            refine zw_aload_n (pc := 66) (n := 0) (x := q) rfl d_T_take_66 ?_
            refine zc_getF hn8 (pc := 67) f_T_28 rfl hqk r9f d_T_take_67 ?_
            obtain ⟨r35, r35f, r35B, r35k⟩ := hT.1 r9 4 0 r9B r9k (by decide) (by decide) rfl
            refine zc_getF hn8 (pc := 70) f_T_61 rfl r9k r35f d_T_take_70 ?_
            refine zw_iload_n (pc := 73) (n := 1) (x := x0) rfl d_T_take_73 ?_
            refine zw_iload_n (pc := 74) (n := 2) (x := x1) rfl d_T_take_74 ?_
            refine zw_aload_n (pc := 75) (n := 0) (x := q) rfl d_T_take_75 ?_
            refine zc_getF hn8 (pc := 76) f_T_28 rfl hqk r9f d_T_take_76 ?_
            refine zc_getF hn8 (pc := 79) f_T_85 rfl r9k r10f d_T_take_79 ?_
            obtain ⟨r36, r36f, r36B, r36k⟩ := hT.1 r10 6 4 r10B r10k (by decide) (by decide) rfl
            refine zc_getF hn8 (pc := 82) f_T_146 rfl r10k r36f d_T_take_82 ?_
            refine zw_iload (pc := 85) (i := 4) (x := u6) rfl d_T_take_85 ?_
            refine zc_callV hn8 (pc := 87) [.int u6] [.int x1, .int x0, .ref r35, .int u6, .ref r34] l_T_118 (c_IntRow_at l B N7 (hT.mod hn8) r36 r36B (hn8.k r36k) u6) rfl rfl r36k (by decide) (by decide) (Nat.le_of_ble_eq_true rfl) d_T_take_87 (fun r39 N37 hq38 => ?_)
            obtain ⟨hk42, v41, rfl⟩ := hq38
            have hn40 : zMod B [(4, 7), (4, 8)] M N37 := hn8.call hk42 (by decide)
            show zW l m_T_take (zn M + 0, zw M + 0) N37 90 [some (.ref q), some (.int x0), some (.int x1), some (.int u1), some (.int u6)] [.int v41, .int x1, .int x0, .ref r35, .int u6, .ref r34] (zqI B M [(4, 7), (4, 8)])
            refine zc_callV hn40 (pc := 90) [.int x0, .int x1, .int v41] [.int u6, .ref r34] l_T_287 (c_Group_countKept l B N37 (hT.mod hn40) r35 r35B (hn40.k r35k) x0 x1 v41) rfl rfl r35k (by decide) (by decide) (Nat.le_of_ble_eq_true rfl) d_T_take_90 (fun r46 N44 hq45 => ?_)
            obtain ⟨hk49, v48, rfl⟩ := hq45
            have hn47 : zMod B [(4, 7), (4, 8)] M N44 := hn40.call hk49 (by decide)
            show zW l m_T_take (zn M + 0, zw M + 0) N44 93 [some (.ref q), some (.int x0), some (.int x1), some (.int u1), some (.int u6)] [.int v48, .int u6, .ref r34] (zqI B M [(4, 7), (4, 8)])
            refine zw_i2l (pc := 93) d_T_take_93 ?_
            refine zc_callV hn47 (pc := 94) [.int u6, .long ((v48 : Int32).toInt64)] [] l_T_290 (c_LongRow_put l B N44 (hT.mod hn47) r34 r34B (hn47.k r34k) u6 ((v48 : Int32).toInt64)) rfl rfl r34k (by decide) (by decide) (Nat.le_of_ble_eq_true rfl) d_T_take_94 (fun r53 N51 hq52 => ?_)
            obtain ⟨hk56, rfl⟩ := hq52
            have hn54 : zMod B [(4, 7), (4, 8)] M N51 := hn47.call hk56 (by decide)
            show zW l m_T_take (zn M + 0, zw M + 0) N51 97 [some (.ref q), some (.int x0), some (.int x1), some (.int u1), some (.int u6)] [] (zqI B M [(4, 7), (4, 8)])
            refine zw_iinc (pc := 97) (i := 4) (x := u6) (v := u6 + Int32.ofInt 1) (L2 := [some (.ref q), some (.int x0), some (.int x1), some (.int u1), some (.int (u6 + Int32.ofInt 1))]) rfl rfl (by decide) rfl d_T_take_97 ?_
            refine zw_goto (pc := 100) (tgt := 39) (by decide) d_T_take_100 ?_
            exact ih_39 (u6 + Int32.ofInt 1) N51 hn54 (Nat.lt_of_lt_of_le (z_up hc_51) (Nat.le_of_lt_succ hlt_39))
      exact lp_39 _ 0 N4 hn5 (Nat.lt_succ_self _)
    refine zw_if_eq (pc := 17) (tgt := 36) (by decide) d_T_take_17 (fun hc_17 => ?_) (fun hc_17 => ?_)
    · exact j_36 N2 hn3
    · refine zw_iload_n (pc := 20) (n := 3) (x := u1) rfl d_T_take_20 ?_
      refine zw_if_eq (pc := 21) (tgt := 34) (by decide) d_T_take_21 (fun hc_21 => ?_) (fun hc_21 => ?_)
      · refine zw_iconst (pc := 34) (v := (-1)) (by decide) d_T_take_34 ?_
        exact zw_iret (S := []) (pc := 35) (ty := .int) rfl rfl d_T_take_35 ⟨hn3, _, rfl⟩
      · refine zw_iload_n (pc := 24) (n := 1) (x := x0) rfl d_T_take_24 ?_
        refine zw_iconst (pc := 25) (v := 1) (by decide) d_T_take_25 ?_
        refine zw_icmp_eq (pc := 26) (tgt := 36) (by decide) d_T_take_26 (fun hc_26 => ?_) (fun hc_26 => ?_)
        · exact j_36 N2 hn3
        · refine zw_iload_n (pc := 29) (n := 1) (x := x0) rfl d_T_take_29 ?_
          refine zw_iconst (pc := 30) (v := 2) (by decide) d_T_take_30 ?_
          refine zw_icmp_eq (pc := 31) (tgt := 36) (by decide) d_T_take_31 (fun hc_31 => ?_) (fun hc_31 => ?_)
          · exact j_36 N2 hn3
          · refine zw_iconst (pc := 34) (v := (-1)) (by decide) d_T_take_34 ?_
            exact zw_iret (S := []) (pc := 35) (ty := .int) rfl rfl d_T_take_35 ⟨hn3, _, rfl⟩
  have j_14 : ∀ (N58 : zMem) (hn59 : zMod B [(4, 7), (4, 8)] M N58), zW l m_T_take (zn M + 0, zw M + 0) N58 14 [some (.ref q), some (.int x0), some (.int x1), none, none] [] (zqI B M [(4, 7), (4, 8)]) := by
    intro N58 hn59
    refine zw_iconst (pc := 14) (v := 0) (by decide) d_T_take_14 ?_
    exact j_15 0 (Or.inl rfl) N58 hn59
  refine zw_if_lt (pc := 1) (tgt := 14) (by decide) d_T_take_1 (fun hc_1 => ?_) (fun hc_1 => ?_)
  · exact j_14 M hm
  · refine zw_iload_n (pc := 4) (n := 2) (x := x1) rfl d_T_take_4 ?_
    refine zw_bipush (pc := 5) (v := 6) (by decide) d_T_take_5 ?_
    refine zw_icmp_gt (pc := 7) (tgt := 14) (by decide) d_T_take_7 (fun hc_7 => ?_) (fun hc_7 => ?_)
    · exact j_14 M hm
    · refine zw_iconst (pc := 10) (v := 1) (by decide) d_T_take_10 ?_
      refine zw_goto (pc := 11) (tgt := 15) (by decide) d_T_take_11 ?_
      exact j_15 1 (Or.inr rfl) M hm
set_option maxHeartbeats 4000000 in
theorem c_Reader_readRow (l : Launch) (B : Nat) (M : zMem) (hT : zTy B M) (q : Nat) (hqB : q < B) (hqk : (zsh M q).1 = 3 + 3) (a0 : Nat) (a0B : a0 < B) (a0k : (zsh M a0).1 = 8 + 3) (x1 : Int32) : zC l m_Reader_readRow 0 0 [.ref q, .ref a0, .int x1] M (zqZ B M []) := by
  refine zC_of (L0 := [some (.ref q), some (.ref a0), some (.int x1), none, none, none, none, none, none, none]) md_Reader_readRow (Nat.le_of_ble_eq_true rfl) rfl ?_ zQ0
  have hm : zMod B [] M M := zMod.rf
  refine zw_aload_n (pc := 0) (n := 0) (x := q) rfl d_Reader_readRow_0 ?_
  obtain ⟨r1, r1f, r1B, r1k⟩ := hT.1 q 3 0 hqB hqk (by decide) (by decide) rfl
  refine zc_getF hm (pc := 1) f_Reader_15 rfl hqk r1f d_Reader_readRow_1 ?_
  refine zw_iconst (pc := 4) (v := 0) (by decide) d_Reader_readRow_4 ?_
  refine zc_callV hm (pc := 5) [.int 0] [] l_Reader_188 (c_Tokens_pastBlanks l B M (hT.mod hm) r1 r1B (hm.k r1k) 0) rfl rfl r1k (by decide) (by decide) (Nat.le_of_ble_eq_true rfl) d_Reader_readRow_5 (fun r4 N2 hq3 => ?_)
  obtain ⟨hk7, v6, rfl⟩ := hq3
  have hn5 : zMod B [] M N2 := hm.call hk7 (by decide)
  show zW l m_Reader_readRow (zn M + 0, zw M + 0) N2 8 [some (.ref q), some (.ref a0), some (.int x1), none, none, none, none, none, none, none] [.int v6] (zqZ B M [])
  refine zw_istore_n (pc := 8) (i := 3) (L2 := [some (.ref q), some (.ref a0), some (.int x1), some (.int v6), none, none, none, none, none, none]) rfl (by decide) rfl d_Reader_readRow_8 ?_
  refine zw_iconst (pc := 9) (v := 0) (by decide) d_Reader_readRow_9 ?_
  refine zw_istore (pc := 10) (i := 4) (L2 := [some (.ref q), some (.ref a0), some (.int x1), some (.int v6), some (.int 0), none, none, none, none, none]) (by decide) rfl d_Reader_readRow_10 ?_
  have lp_12 : ∀ (n : Nat) (u9 : Int32) (u10 : Int32) (N11 : zMem) (hn12 : zMod B [] M N11), zvu u10 x1 < n → zW l m_Reader_readRow (zn M + 0, zw M + 0) N11 12 [some (.ref q), some (.ref a0), some (.int x1), some (.int u9), some (.int u10), none, none, none, none, none] [] (zqZ B M []) := by
    intro n
    induction n with
    | zero =>
      intro u9 u10 N11 hn12 h0
      exact absurd h0 (Nat.not_lt_zero _)
    | succ n ih_12 =>
      intro u9 u10 N11 hn12 hlt_12
      refine zw_iload (pc := 12) (i := 4) (x := u10) rfl d_Reader_readRow_12 ?_
      refine zw_iload_n (pc := 14) (n := 2) (x := x1) rfl d_Reader_readRow_14 ?_
      refine zw_icmp_ge (pc := 15) (tgt := 179) (by decide) d_Reader_readRow_15 (fun hc_15 => ?_) (fun hc_15 => ?_)
      · refine zw_iload_n (pc := 179) (n := 3) (x := u9) rfl d_Reader_readRow_179 ?_
        refine zw_aload_n (pc := 180) (n := 0) (x := q) rfl d_Reader_readRow_180 ?_
        refine zc_getF hn12 (pc := 181) f_Reader_15 rfl hqk r1f d_Reader_readRow_181 ?_
        refine zc_getI0 hn12 (pc := 184) (by decide) f_Reader_191 rfl r1k d_Reader_readRow_184 ?_
        refine zw_icmp_lt (pc := 187) (tgt := 194) (by decide) d_Reader_readRow_187 (fun hc_187 => ?_) (fun hc_187 => ?_)
        · refine zw_iconst (pc := 194) (v := 0) (by decide) d_Reader_readRow_194 ?_
          exact zw_iret (S := []) (pc := 195) (ty := .boolean) rfl (z_narZ (Or.inl rfl)) d_Reader_readRow_195 ⟨hn12, _, rfl, Or.inl rfl⟩
        · refine zw_iconst (pc := 190) (v := 1) (by decide) d_Reader_readRow_190 ?_
          refine zw_goto (pc := 191) (tgt := 195) (by decide) d_Reader_readRow_191 ?_
          exact zw_iret (S := []) (pc := 195) (ty := .boolean) rfl (z_narZ (Or.inr rfl)) d_Reader_readRow_195 ⟨hn12, _, rfl, Or.inr rfl⟩
      · refine zw_iload_n (pc := 18) (n := 3) (x := u9) rfl d_Reader_readRow_18 ?_
        refine zw_aload_n (pc := 19) (n := 0) (x := q) rfl d_Reader_readRow_19 ?_
        refine zc_getF hn12 (pc := 20) f_Reader_15 rfl hqk r1f d_Reader_readRow_20 ?_
        refine zc_getI0 hn12 (pc := 23) (by decide) f_Reader_191 rfl r1k d_Reader_readRow_23 ?_
        have j_50 : ∀ (u13 : Int32) (hu13 : u13 = 0 ∨ u13 = 1) (N14 : zMem) (hn15 : zMod B [] M N14), zW l m_Reader_readRow (zn M + 0, zw M + 0) N14 50 [some (.ref q), some (.ref a0), some (.int x1), some (.int u9), some (.int u10), none, none, none, none, none] [.int u13] (zqZ B M []) := by
          intro u13 hu13 N14 hn15
          refine zw_istore (pc := 50) (i := 5) (L2 := [some (.ref q), some (.ref a0), some (.int x1), some (.int u9), some (.int u10), some (.int u13), none, none, none, none]) (by decide) rfl d_Reader_readRow_50 ?_
          refine zw_iload (pc := 52) (i := 5) (x := u13) rfl d_Reader_readRow_52 ?_
          have j_64 : ∀ (u16 : Int32) (N17 : zMem) (hn18 : zMod B [] M N17), zW l m_Reader_readRow (zn M + 0, zw M + 0) N17 64 [some (.ref q), some (.ref a0), some (.int x1), some (.int u9), some (.int u10), some (.int u13), none, none, none, none] [.int u16] (zqZ B M []) := by
            intro u16 N17 hn18
            refine zw_istore (pc := 64) (i := 6) (L2 := [some (.ref q), some (.ref a0), some (.int x1), some (.int u9), some (.int u10), some (.int u13), some (.int u16), none, none, none]) (by decide) rfl d_Reader_readRow_64 ?_
            refine zw_aload_n (pc := 66) (n := 0) (x := q) rfl d_Reader_readRow_66 ?_
            refine zc_getF hn18 (pc := 67) f_Reader_15 rfl hqk r1f d_Reader_readRow_67 ?_
            refine zw_iload (pc := 70) (i := 6) (x := u16) rfl d_Reader_readRow_70 ?_
            refine zc_callV hn18 (pc := 72) [.int u16] [] l_Reader_203 (c_Tokens_pastDigits l B N17 (hT.mod hn18) r1 r1B (hn18.k r1k) u16) rfl rfl r1k (by decide) (by decide) (Nat.le_of_ble_eq_true rfl) d_Reader_readRow_72 (fun r21 N19 hq20 => ?_)
            obtain ⟨hk24, v23, rfl⟩ := hq20
            have hn22 : zMod B [] M N19 := hn18.call hk24 (by decide)
            show zW l m_Reader_readRow (zn M + 0, zw M + 0) N19 75 [some (.ref q), some (.ref a0), some (.int x1), some (.int u9), some (.int u10), some (.int u13), some (.int u16), none, none, none] [.int v23] (zqZ B M [])
            refine zw_istore (pc := 75) (i := 7) (L2 := [some (.ref q), some (.ref a0), some (.int x1), some (.int u9), some (.int u10), some (.int u13), some (.int u16), some (.int v23), none, none]) (by decide) rfl d_Reader_readRow_75 ?_
            refine zw_iload (pc := 77) (i := 7) (x := v23) rfl d_Reader_readRow_77 ?_
            refine zw_iload (pc := 79) (i := 6) (x := u16) rfl d_Reader_readRow_79 ?_
            refine zw_isub (pc := 81) d_Reader_readRow_81 ?_
            refine zw_istore (pc := 82) (i := 8) (L2 := [some (.ref q), some (.ref a0), some (.int x1), some (.int u9), some (.int u10), some (.int u13), some (.int u16), some (.int v23), some (.int (v23 - u16)), none]) (by decide) rfl d_Reader_readRow_82 ?_
            refine zw_iload (pc := 84) (i := 8) (x := v23 - u16) rfl d_Reader_readRow_84 ?_
            refine zw_iconst (pc := 86) (v := 1) (by decide) d_Reader_readRow_86 ?_
            refine zw_icmp_lt (pc := 87) (tgt := 127) (by decide) d_Reader_readRow_87 (fun hc_87 => ?_) (fun hc_87 => ?_)
            · refine zw_iconst (pc := 127) (v := 0) (by decide) d_Reader_readRow_127 ?_
              exact zw_iret (S := []) (pc := 128) (ty := .boolean) rfl (z_narZ (Or.inl rfl)) d_Reader_readRow_128 ⟨hn22, _, rfl, Or.inl rfl⟩
            · refine zw_iload (pc := 90) (i := 8) (x := v23 - u16) rfl d_Reader_readRow_90 ?_
              refine zw_bipush (pc := 92) (v := 6) (by decide) d_Reader_readRow_92 ?_
              refine zw_icmp_gt (pc := 94) (tgt := 127) (by decide) d_Reader_readRow_94 (fun hc_94 => ?_) (fun hc_94 => ?_)
              · refine zw_iconst (pc := 127) (v := 0) (by decide) d_Reader_readRow_127 ?_
                exact zw_iret (S := []) (pc := 128) (ty := .boolean) rfl (z_narZ (Or.inl rfl)) d_Reader_readRow_128 ⟨hn22, _, rfl, Or.inl rfl⟩
              · refine zw_iload (pc := 97) (i := 7) (x := v23) rfl d_Reader_readRow_97 ?_
                refine zw_aload_n (pc := 99) (n := 0) (x := q) rfl d_Reader_readRow_99 ?_
                refine zc_getF hn22 (pc := 100) f_Reader_15 rfl hqk r1f d_Reader_readRow_100 ?_
                refine zc_getI0 hn22 (pc := 103) (by decide) f_Reader_191 rfl r1k d_Reader_readRow_103 ?_
                have j_129 : ∀ (N26 : zMem) (hn27 : zMod B [] M N26), zW l m_Reader_readRow (zn M + 0, zw M + 0) N26 129 [some (.ref q), some (.ref a0), some (.int x1), some (.int u9), some (.int u10), some (.int u13), some (.int u16), some (.int v23), some (.int (v23 - u16)), none] [] (zqZ B M []) := by
                  intro N26 hn27
                  refine zw_aload_n (pc := 129) (n := 0) (x := q) rfl d_Reader_readRow_129 ?_
                  refine zc_getF hn27 (pc := 130) f_Reader_15 rfl hqk r1f d_Reader_readRow_130 ?_
                  refine zw_iload (pc := 133) (i := 6) (x := u16) rfl d_Reader_readRow_133 ?_
                  refine zw_iload (pc := 135) (i := 7) (x := v23) rfl d_Reader_readRow_135 ?_
                  refine zc_callV hn27 (pc := 137) [.int u16, .int v23] [] l_Reader_209 (c_Tokens_numberFrom l B N26 (hT.mod hn27) r1 r1B (hn27.k r1k) u16 v23) rfl rfl r1k (by decide) (by decide) (Nat.le_of_ble_eq_true rfl) d_Reader_readRow_137 (fun r30 N28 hq29 => ?_)
                  obtain ⟨hk33, v32, rfl⟩ := hq29
                  have hn31 : zMod B [] M N28 := hn27.call hk33 (by decide)
                  show zW l m_Reader_readRow (zn M + 0, zw M + 0) N28 140 [some (.ref q), some (.ref a0), some (.int x1), some (.int u9), some (.int u10), some (.int u13), some (.int u16), some (.int v23), some (.int (v23 - u16)), none] [.int v32] (zqZ B M [])
                  refine zw_istore (pc := 140) (i := 9) (L2 := [some (.ref q), some (.ref a0), some (.int x1), some (.int u9), some (.int u10), some (.int u13), some (.int u16), some (.int v23), some (.int (v23 - u16)), some (.int v32)]) (by decide) rfl d_Reader_readRow_140 ?_
                  refine zw_aload_n (pc := 142) (n := 1) (x := a0) rfl d_Reader_readRow_142 ?_
                  refine zw_iload (pc := 143) (i := 4) (x := u10) rfl d_Reader_readRow_143 ?_
                  refine zw_iload (pc := 145) (i := 5) (x := u13) rfl d_Reader_readRow_145 ?_
                  have j_160 : ∀ (u35 : Int64) (N36 : zMem) (hn37 : zMod B [] M N36), zW l m_Reader_readRow (zn M + 0, zw M + 0) N36 160 [some (.ref q), some (.ref a0), some (.int x1), some (.int u9), some (.int u10), some (.int u13), some (.int u16), some (.int v23), some (.int (v23 - u16)), some (.int v32)] [.long u35, .int u10, .ref a0] (zqZ B M []) := by
                    intro u35 N36 hn37
                    refine zc_callV hn37 (pc := 160) [.int u10, .long u35] [] l_Reader_212 (c_LongRow_put l B N36 (hT.mod hn37) a0 a0B (hn37.k a0k) u10 u35) rfl rfl a0k (by decide) (by decide) (Nat.le_of_ble_eq_true rfl) d_Reader_readRow_160 (fun r40 N38 hq39 => ?_)
                    obtain ⟨hk43, rfl⟩ := hq39
                    have hn41 : zMod B [] M N38 := hn37.call hk43 (by decide)
                    show zW l m_Reader_readRow (zn M + 0, zw M + 0) N38 163 [some (.ref q), some (.ref a0), some (.int x1), some (.int u9), some (.int u10), some (.int u13), some (.int u16), some (.int v23), some (.int (v23 - u16)), some (.int v32)] [] (zqZ B M [])
                    refine zw_aload_n (pc := 163) (n := 0) (x := q) rfl d_Reader_readRow_163 ?_
                    refine zc_getF hn41 (pc := 164) f_Reader_15 rfl hqk r1f d_Reader_readRow_164 ?_
                    refine zw_iload (pc := 167) (i := 7) (x := v23) rfl d_Reader_readRow_167 ?_
                    refine zc_callV hn41 (pc := 169) [.int v23] [] l_Reader_188 (c_Tokens_pastBlanks l B N38 (hT.mod hn41) r1 r1B (hn41.k r1k) v23) rfl rfl r1k (by decide) (by decide) (Nat.le_of_ble_eq_true rfl) d_Reader_readRow_169 (fun r47 N45 hq46 => ?_)
                    obtain ⟨hk50, v49, rfl⟩ := hq46
                    have hn48 : zMod B [] M N45 := hn41.call hk50 (by decide)
                    show zW l m_Reader_readRow (zn M + 0, zw M + 0) N45 172 [some (.ref q), some (.ref a0), some (.int x1), some (.int u9), some (.int u10), some (.int u13), some (.int u16), some (.int v23), some (.int (v23 - u16)), some (.int v32)] [.int v49] (zqZ B M [])
                    refine zw_istore_n (pc := 172) (i := 3) (L2 := [some (.ref q), some (.ref a0), some (.int x1), some (.int v49), some (.int u10), some (.int u13), some (.int u16), some (.int v23), some (.int (v23 - u16)), some (.int v32)]) rfl (by decide) rfl d_Reader_readRow_172 ?_
                    refine zw_iinc (pc := 173) (i := 4) (x := u10) (v := u10 + Int32.ofInt 1) (L2 := [some (.ref q), some (.ref a0), some (.int x1), some (.int v49), some (.int (u10 + Int32.ofInt 1)), some (.int u13), some (.int u16), some (.int v23), some (.int (v23 - u16)), some (.int v32)]) rfl rfl (by decide) rfl d_Reader_readRow_173 ?_
                    refine zw_goto (pc := 176) (tgt := 12) (by decide) d_Reader_readRow_176 ?_
                    refine zW_le [some (.ref q), some (.ref a0), some (.int x1), some (.int v49), some (.int (u10 + Int32.ofInt 1)), none, none, none, none, none] (⟨rfl, rfl, rfl, rfl, rfl, trivial⟩) ?_
                    exact ih_12 v49 (u10 + Int32.ofInt 1) N45 hn48 (Nat.lt_of_lt_of_le (z_up hc_15) (Nat.le_of_lt_succ hlt_12))
                  refine zw_if_eq (pc := 147) (tgt := 157) (by decide) d_Reader_readRow_147 (fun hc_147 => ?_) (fun hc_147 => ?_)
                  · refine zw_iload (pc := 157) (i := 9) (x := v32) rfl d_Reader_readRow_157 ?_
                    refine zw_i2l (pc := 159) d_Reader_readRow_159 ?_
                    exact j_160 ((v32 : Int32).toInt64) N28 hn31
                  · refine zw_iload (pc := 150) (i := 9) (x := v32) rfl d_Reader_readRow_150 ?_
                    refine zw_ineg (pc := 152) d_Reader_readRow_152 ?_
                    refine zw_i2l (pc := 153) d_Reader_readRow_153 ?_
                    refine zw_goto (pc := 154) (tgt := 160) (by decide) d_Reader_readRow_154 ?_
                    exact j_160 ((-v32 : Int32).toInt64) N28 hn31
                refine zw_icmp_ge (pc := 106) (tgt := 129) (by decide) d_Reader_readRow_106 (fun hc_106 => ?_) (fun hc_106 => ?_)
                · exact j_129 N19 hn22
                · refine zw_aload_n (pc := 109) (n := 0) (x := q) rfl d_Reader_readRow_109 ?_
                  refine zc_getF hn22 (pc := 110) f_Reader_15 rfl hqk r1f d_Reader_readRow_110 ?_
                  obtain ⟨r52, r52f, r52B, r52k⟩ := hT.1 r1 1 0 r1B r1k (by decide) (by decide) rfl
                  refine zc_getF hn22 (pc := 113) f_Reader_194 rfl r1k r52f d_Reader_readRow_113 ?_
                  refine zw_iload (pc := 116) (i := 7) (x := v23) rfl d_Reader_readRow_116 ?_
                  refine zc_callV hn22 (pc := 118) [.int v23] [] l_Reader_198 (c_IntRow_at l B N19 (hT.mod hn22) r52 r52B (hn22.k r52k) v23) rfl rfl r52k (by decide) (by decide) (Nat.le_of_ble_eq_true rfl) d_Reader_readRow_118 (fun r55 N53 hq54 => ?_)
                  obtain ⟨hk58, v57, rfl⟩ := hq54
                  have hn56 : zMod B [] M N53 := hn22.call hk58 (by decide)
                  show zW l m_Reader_readRow (zn M + 0, zw M + 0) N53 121 [some (.ref q), some (.ref a0), some (.int x1), some (.int u9), some (.int u10), some (.int u13), some (.int u16), some (.int v23), some (.int (v23 - u16)), none] [.int v57] (zqZ B M [])
                  refine zc_callS hn56 (pc := 121) [.int v57] [] l_Reader_206 (c_Tokens_isBlank l B N53 (hT.mod hn56) v57) rfl rfl (by decide) (Nat.le_of_ble_eq_true rfl) d_Reader_readRow_121 (fun r62 N60 hq61 => ?_)
                  obtain ⟨hk65, v64, rfl, zv64⟩ := hq61
                  have hn63 : zMod B [] M N60 := hn56.call hk65 (by decide)
                  show zW l m_Reader_readRow (zn M + 0, zw M + 0) N60 124 [some (.ref q), some (.ref a0), some (.int x1), some (.int u9), some (.int u10), some (.int u13), some (.int u16), some (.int v23), some (.int (v23 - u16)), none] [.int v64] (zqZ B M [])
                  refine zw_if_ne (pc := 124) (tgt := 129) (by decide) d_Reader_readRow_124 (fun hc_124 => ?_) (fun hc_124 => ?_)
                  · exact j_129 N60 hn63
                  · refine zw_iconst (pc := 127) (v := 0) (by decide) d_Reader_readRow_127 ?_
                    exact zw_iret (S := []) (pc := 128) (ty := .boolean) rfl (z_narZ (Or.inl rfl)) d_Reader_readRow_128 ⟨hn63, _, rfl, Or.inl rfl⟩
          refine zw_if_eq (pc := 54) (tgt := 63) (by decide) d_Reader_readRow_54 (fun hc_54 => ?_) (fun hc_54 => ?_)
          · refine zw_iload_n (pc := 63) (n := 3) (x := u9) rfl d_Reader_readRow_63 ?_
            exact j_64 u9 N14 hn15
          · refine zw_iload_n (pc := 57) (n := 3) (x := u9) rfl d_Reader_readRow_57 ?_
            refine zw_iconst (pc := 58) (v := 1) (by decide) d_Reader_readRow_58 ?_
            refine zw_iadd (pc := 59) d_Reader_readRow_59 ?_
            refine zw_goto (pc := 60) (tgt := 64) (by decide) d_Reader_readRow_60 ?_
            exact j_64 (u9 + 1) N14 hn15
        have j_49 : ∀ (N67 : zMem) (hn68 : zMod B [] M N67), zW l m_Reader_readRow (zn M + 0, zw M + 0) N67 49 [some (.ref q), some (.ref a0), some (.int x1), some (.int u9), some (.int u10), none, none, none, none, none] [] (zqZ B M []) := by
          intro N67 hn68
          refine zw_iconst (pc := 49) (v := 0) (by decide) d_Reader_readRow_49 ?_
          exact j_50 0 (Or.inl rfl) N67 hn68
        refine zw_icmp_ge (pc := 26) (tgt := 49) (by decide) d_Reader_readRow_26 (fun hc_26 => ?_) (fun hc_26 => ?_)
        · exact j_49 N11 hn12
        · refine zw_aload_n (pc := 29) (n := 0) (x := q) rfl d_Reader_readRow_29 ?_
          refine zc_getF hn12 (pc := 30) f_Reader_15 rfl hqk r1f d_Reader_readRow_30 ?_
          obtain ⟨r69, r69f, r69B, r69k⟩ := hT.1 r1 1 0 r1B r1k (by decide) (by decide) rfl
          refine zc_getF hn12 (pc := 33) f_Reader_194 rfl r1k r69f d_Reader_readRow_33 ?_
          refine zw_iload_n (pc := 36) (n := 3) (x := u9) rfl d_Reader_readRow_36 ?_
          refine zc_callV hn12 (pc := 37) [.int u9] [] l_Reader_198 (c_IntRow_at l B N11 (hT.mod hn12) r69 r69B (hn12.k r69k) u9) rfl rfl r69k (by decide) (by decide) (Nat.le_of_ble_eq_true rfl) d_Reader_readRow_37 (fun r72 N70 hq71 => ?_)
          obtain ⟨hk75, v74, rfl⟩ := hq71
          have hn73 : zMod B [] M N70 := hn12.call hk75 (by decide)
          show zW l m_Reader_readRow (zn M + 0, zw M + 0) N70 40 [some (.ref q), some (.ref a0), some (.int x1), some (.int u9), some (.int u10), none, none, none, none, none] [.int v74] (zqZ B M [])
          refine zw_bipush (pc := 40) (v := 45) (by decide) d_Reader_readRow_40 ?_
          refine zw_icmp_ne (pc := 42) (tgt := 49) (by decide) d_Reader_readRow_42 (fun hc_42 => ?_) (fun hc_42 => ?_)
          · exact j_49 N70 hn73
          · refine zw_iconst (pc := 45) (v := 1) (by decide) d_Reader_readRow_45 ?_
            refine zw_goto (pc := 46) (tgt := 50) (by decide) d_Reader_readRow_46 ?_
            exact j_50 1 (Or.inr rfl) N70 hn73
  exact lp_12 _ v6 0 N2 hn5 (Nat.lt_succ_self _)
set_option maxHeartbeats 4000000 in
theorem c_Sorts_firstIncongruent (l : Launch) (B : Nat) (M : zMem) (hT : zTy B M) (q : Nat) (hqB : q < B) (hqk : (zsh M q).1 = 6 + 3) (a0 : Nat) (a0B : a0 < B) (a0k : (zsh M a0).1 = 8 + 3) : zC l m_Sorts_firstIncongruent 0 0 [.ref q, .ref a0] M (zqI B M []) := by
  refine zC_of (L0 := [some (.ref q), some (.ref a0), none, none]) md_Sorts_firstIncongruent (Nat.le_of_ble_eq_true rfl) rfl ?_ zQ0
  have hm : zMod B [] M M := zMod.rf
  refine zw_iconst (pc := 0) (v := 0) (by decide) d_Sorts_firstIncongruent_0 ?_
  refine zw_istore_n (pc := 1) (i := 2) (L2 := [some (.ref q), some (.ref a0), some (.int 0), none]) rfl (by decide) rfl d_Sorts_firstIncongruent_1 ?_
  have lp_2 : ∀ (n : Nat) (u1 : Int32) (N2 : zMem) (hn3 : zMod B [] M N2), zvu u1 (zi M q 7) < n → zW l m_Sorts_firstIncongruent (zn M + 0, zw M + 0) N2 2 [some (.ref q), some (.ref a0), some (.int u1), none] [] (zqI B M []) := by
    intro n
    induction n with
    | zero =>
      intro u1 N2 hn3 h0
      exact absurd h0 (Nat.not_lt_zero _)
    | succ n ih_2 =>
      intro u1 N2 hn3 hlt_2
      refine zw_iload_n (pc := 2) (n := 2) (x := u1) rfl d_Sorts_firstIncongruent_2 ?_
      refine zw_aload_n (pc := 3) (n := 0) (x := q) rfl d_Sorts_firstIncongruent_3 ?_
      refine zc_getI0 hn3 (pc := 4) (by decide) f_Sorts_83 rfl hqk d_Sorts_firstIncongruent_4 ?_
      refine zw_icmp_ge (pc := 7) (tgt := 42) (by decide) d_Sorts_firstIncongruent_7 (fun hc_7 => ?_) (fun hc_7 => ?_)
      · refine zw_iconst (pc := 42) (v := (-1)) (by decide) d_Sorts_firstIncongruent_42 ?_
        exact zw_iret (S := []) (pc := 43) (ty := .int) rfl rfl d_Sorts_firstIncongruent_43 ⟨hn3, _, rfl⟩
      · refine zw_aload_n (pc := 10) (n := 0) (x := q) rfl d_Sorts_firstIncongruent_10 ?_
        refine zw_iload_n (pc := 11) (n := 2) (x := u1) rfl d_Sorts_firstIncongruent_11 ?_
        refine zc_callV hn3 (pc := 12) [.int u1] [] l_Sorts_120 (c_Sorts_normSize l B N2 (hT.mod hn3) q hqB (hn3.k hqk) u1) rfl rfl hqk (by decide) (by decide) (Nat.le_of_ble_eq_true rfl) d_Sorts_firstIncongruent_12 (fun r6 N4 hq5 => ?_)
        obtain ⟨hk9, v8, rfl⟩ := hq5
        have hn7 : zMod B [] M N4 := hn3.call hk9 (by decide)
        show zW l m_Sorts_firstIncongruent (zn M + 0, zw M + 0) N4 15 [some (.ref q), some (.ref a0), some (.int u1), none] [.int v8] (zqI B M [])
        refine zw_istore_n (pc := 15) (i := 3) (L2 := [some (.ref q), some (.ref a0), some (.int u1), some (.int v8)]) rfl (by decide) rfl d_Sorts_firstIncongruent_15 ?_
        refine zw_iload_n (pc := 16) (n := 3) (x := v8) rfl d_Sorts_firstIncongruent_16 ?_
        have j_36 : ∀ (N11 : zMem) (hn12 : zMod B [] M N11), zW l m_Sorts_firstIncongruent (zn M + 0, zw M + 0) N11 36 [some (.ref q), some (.ref a0), some (.int u1), some (.int v8)] [] (zqI B M []) := by
          intro N11 hn12
          refine zw_iinc (pc := 36) (i := 2) (x := u1) (v := u1 + Int32.ofInt 1) (L2 := [some (.ref q), some (.ref a0), some (.int (u1 + Int32.ofInt 1)), some (.int v8)]) rfl rfl (by decide) rfl d_Sorts_firstIncongruent_36 ?_
          refine zw_goto (pc := 39) (tgt := 2) (by decide) d_Sorts_firstIncongruent_39 ?_
          refine zW_le [some (.ref q), some (.ref a0), some (.int (u1 + Int32.ofInt 1)), none] (⟨rfl, rfl, rfl, trivial⟩) ?_
          exact ih_2 (u1 + Int32.ofInt 1) N11 hn12 (Nat.lt_of_lt_of_le (z_up hc_7) (Nat.le_of_lt_succ hlt_2))
        refine zw_if_le (pc := 17) (tgt := 36) (by decide) d_Sorts_firstIncongruent_17 (fun hc_17 => ?_) (fun hc_17 => ?_)
        · exact j_36 N4 hn7
        · refine zw_aload_n (pc := 20) (n := 0) (x := q) rfl d_Sorts_firstIncongruent_20 ?_
          refine zw_iload_n (pc := 21) (n := 2) (x := u1) rfl d_Sorts_firstIncongruent_21 ?_
          refine zw_aload_n (pc := 22) (n := 1) (x := a0) rfl d_Sorts_firstIncongruent_22 ?_
          refine zc_callV hn7 (pc := 23) [.int u1, .ref a0] [] l_Sorts_123 (c_Sorts_sumOverNorm l B N4 (hT.mod hn7) q hqB (hn7.k hqk) u1 a0 a0B (hn7.k a0k)) rfl rfl hqk (by decide) (by decide) (Nat.le_of_ble_eq_true rfl) d_Sorts_firstIncongruent_23 (fun r15 N13 hq14 => ?_)
          obtain ⟨hk18, v17, rfl⟩ := hq14
          have hn16 : zMod B [] M N13 := hn7.call hk18 (by decide)
          show zW l m_Sorts_firstIncongruent (zn M + 0, zw M + 0) N13 26 [some (.ref q), some (.ref a0), some (.int u1), some (.int v8)] [.long v17] (zqI B M [])
          refine zw_iload_n (pc := 26) (n := 3) (x := v8) rfl d_Sorts_firstIncongruent_26 ?_
          refine zw_i2l (pc := 27) d_Sorts_firstIncongruent_27 ?_
          refine zw_lrem (pc := 28) (z_ne2 (z_ne1 hc_17)) d_Sorts_firstIncongruent_28 ?_
          refine zw_lconst (pc := 29) (v := 0) (by decide) d_Sorts_firstIncongruent_29 ?_
          refine zw_lcmp (pc := 30) d_Sorts_firstIncongruent_30 ?_
          refine zw_if_eq (pc := 31) (tgt := 36) (by decide) d_Sorts_firstIncongruent_31 (fun hc_31 => ?_) (fun hc_31 => ?_)
          · exact j_36 N13 hn16
          · refine zw_iload_n (pc := 34) (n := 2) (x := u1) rfl d_Sorts_firstIncongruent_34 ?_
            exact zw_iret (S := []) (pc := 35) (ty := .int) rfl rfl d_Sorts_firstIncongruent_35 ⟨hn16, _, rfl⟩
  exact lp_2 _ 0 M hm (Nat.lt_succ_self _)
set_option maxHeartbeats 4000000 in
theorem c_T_marks (l : Launch) (B : Nat) (M : zMem) (hT : zTy B M) (q : Nat) (hqB : q < B) (hqk : (zsh M q).1 = 0 + 3) : zC l m_T_marks 0 0 [.ref q] M (fun r M2 => (zqI B M [(1, 1), (4, 7), (4, 8)]) r M2 ∧ ∀ t, zf M q 0 = some t → zi M2 t 1 = 0) := by
  refine zC_of (L0 := [some (.ref q), none, none]) md_T_marks (Nat.le_of_ble_eq_true rfl) rfl ?_ zQ0
  have hm : zMod B [(1, 1), (4, 7), (4, 8)] M M := zMod.rf
  obtain ⟨r1, r1f, r1B, r1k⟩ := hT.1 q 0 0 hqB hqk (by decide) (by decide) rfl
  refine zw_aload_n (pc := 0) (n := 0) (x := q) rfl d_T_marks_0 ?_
  obtain ⟨r2, r2f, r2B, r2k⟩ := hT.1 q 0 1 hqB hqk (by decide) (by decide) rfl
  refine zc_getF hm (pc := 1) f_T_21 rfl hqk r2f d_T_marks_1 ?_
  refine zw_aload_n (pc := 4) (n := 0) (x := q) rfl d_T_marks_4 ?_
  obtain ⟨r3, r3f, r3B, r3k⟩ := hT.1 q 0 2 hqB hqk (by decide) (by decide) rfl
  refine zc_getF hm (pc := 5) f_T_28 rfl hqk r3f d_T_marks_5 ?_
  obtain ⟨r4, r4f, r4B, r4k⟩ := hT.1 r3 4 2 r3B r3k (by decide) (by decide) rfl
  refine zc_getF hm (pc := 8) f_T_169 rfl r3k r4f d_T_marks_8 ?_
  obtain ⟨r5, r5f, r5B, r5k⟩ := hT.1 r4 7 2 r4B r4k (by decide) (by decide) rfl
  refine zc_getF hm (pc := 11) f_T_262 rfl r4k r5f d_T_marks_11 ?_
  refine zw_aload_n (pc := 14) (n := 0) (x := q) rfl d_T_marks_14 ?_
  refine zc_getF hm (pc := 15) f_T_28 rfl hqk r3f d_T_marks_15 ?_
  obtain ⟨r6, r6f, r6B, r6k⟩ := hT.1 r3 4 1 r3B r3k (by decide) (by decide) rfl
  refine zc_getF hm (pc := 18) f_T_85 rfl r3k r6f d_T_marks_18 ?_
  refine zc_getI0 hm (pc := 21) (by decide) f_T_94 rfl r6k d_T_marks_21 ?_
  refine zc_callV hm (pc := 24) [.ref r5, .int (zi M r6 7)] [] l_T_299 (c_Reader_readRow l B M (hT.mod hm) r2 r2B (hm.k r2k) r5 r5B (hm.k r5k) (zi M r6 7)) rfl rfl r2k (by decide) (by decide) (Nat.le_of_ble_eq_true rfl) d_T_marks_24 (fun r9 N7 hq8 => ?_)
  obtain ⟨hk12, v11, rfl, zv11⟩ := hq8
  have hn10 : zMod B [(1, 1), (4, 7), (4, 8)] M N7 := hm.call hk12 (by decide)
  have kv14 : zi N7 r1 1 = zi M r1 1 := (hk12.2.2.2.2 r1 1 1 (hm.k r1k) (by decide)).trans rfl
  show zW l m_T_marks (zn M + 0, zw M + 0) N7 27 [some (.ref q), none, none] [.int v11] (fun r M2 => (zqI B M [(1, 1), (4, 7), (4, 8)]) r M2 ∧ ∀ t, zf M q 0 = some t → zi M2 t 1 = 0)
  refine zw_istore_n (pc := 27) (i := 1) (L2 := [some (.ref q), some (.int v11), none]) rfl (by decide) rfl d_T_marks_27 ?_
  refine zw_aload_n (pc := 28) (n := 0) (x := q) rfl d_T_marks_28 ?_
  refine zc_getF hn10 (pc := 29) f_T_10 rfl hqk r1f d_T_marks_29 ?_
  refine zw_iconst (pc := 32) (v := 0) (by decide) d_T_marks_32 ?_
  refine zc_putI hn10 (pc := 33) f_T_42 rfl rfl r1k r1B (by decide) rfl rfl d_T_marks_33 (fun N15 hN15 hn16 => ?_)
  have kv17 : zi N15 r1 1 = 0 := by rw [hN15]; exact zup2_s
  refine zw_iload_n (pc := 36) (n := 1) (x := v11) rfl d_T_marks_36 ?_
  refine zw_if_ne (pc := 37) (tgt := 43) (by decide) d_T_marks_37 (fun hc_37 => ?_) (fun hc_37 => ?_)
  · refine zw_aload_n (pc := 43) (n := 0) (x := q) rfl d_T_marks_43 ?_
    refine zc_getF hn16 (pc := 44) f_T_28 rfl hqk r3f d_T_marks_44 ?_
    refine zc_getF hn16 (pc := 47) f_T_85 rfl r3k r6f d_T_marks_47 ?_
    refine zw_aload_n (pc := 50) (n := 0) (x := q) rfl d_T_marks_50 ?_
    refine zc_getF hn16 (pc := 51) f_T_28 rfl hqk r3f d_T_marks_51 ?_
    refine zc_getF hn16 (pc := 54) f_T_169 rfl r3k r4f d_T_marks_54 ?_
    refine zc_getF hn16 (pc := 57) f_T_262 rfl r4k r5f d_T_marks_57 ?_
    refine zc_callV hn16 (pc := 60) [.ref r5] [] l_T_303 (c_Sorts_firstIncongruent l B N15 (hT.mod hn16) r6 r6B (hn16.k r6k) r5 r5B (hn16.k r5k)) rfl rfl r6k (by decide) (by decide) (Nat.le_of_ble_eq_true rfl) d_T_marks_60 (fun r20 N18 hq19 => ?_)
    obtain ⟨hk23, v22, rfl⟩ := hq19
    have hn21 : zMod B [(1, 1), (4, 7), (4, 8)] M N18 := hn16.call hk23 (by decide)
    have kv25 : zi N18 r1 1 = 0 := (hk23.2.2.2.2 r1 1 1 (hn16.k r1k) (by decide)).trans kv17
    show zW l m_T_marks (zn M + 0, zw M + 0) N18 63 [some (.ref q), some (.int v11), none] [.int v22] (fun r M2 => (zqI B M [(1, 1), (4, 7), (4, 8)]) r M2 ∧ ∀ t, zf M q 0 = some t → zi M2 t 1 = 0)
    refine zw_istore_n (pc := 63) (i := 2) (L2 := [some (.ref q), some (.int v11), some (.int v22)]) rfl (by decide) rfl d_T_marks_63 ?_
    refine zw_iload_n (pc := 64) (n := 2) (x := v22) rfl d_T_marks_64 ?_
    refine zw_iconst (pc := 65) (v := (-1)) (by decide) d_T_marks_65 ?_
    refine zw_icmp_eq (pc := 66) (tgt := 73) (by decide) d_T_marks_66 (fun hc_66 => ?_) (fun hc_66 => ?_)
    · refine zw_aload_n (pc := 73) (n := 0) (x := q) rfl d_T_marks_73 ?_
      refine zc_getF hn21 (pc := 74) f_T_28 rfl hqk r3f d_T_marks_74 ?_
      refine zc_getF hn21 (pc := 77) f_T_169 rfl r3k r4f d_T_marks_77 ?_
      refine zw_bipush (pc := 80) (v := 39) (by decide) d_T_marks_80 ?_
      refine zc_callV hn21 (pc := 82) [.int 39] [] l_T_296 (c_Sums_solve l B N18 (hT.mod hn21) r4 r4B (hn21.k r4k) 39) rfl rfl r4k (by decide) (by decide) (Nat.le_of_ble_eq_true rfl) d_T_marks_82 (fun r28 N26 hq27 => ?_)
      obtain ⟨hk31, rfl⟩ := hq27
      have hn29 : zMod B [(1, 1), (4, 7), (4, 8)] M N26 := hn21.call hk31 (by decide)
      have kv33 : zi N26 r1 1 = 0 := (hk31.2.2.2.2 r1 1 1 (hn21.k r1k) (by decide)).trans kv25
      show zW l m_T_marks (zn M + 0, zw M + 0) N26 85 [some (.ref q), some (.int v11), some (.int v22)] [] (fun r M2 => (zqI B M [(1, 1), (4, 7), (4, 8)]) r M2 ∧ ∀ t, zf M q 0 = some t → zi M2 t 1 = 0)
      refine zw_aload_n (pc := 85) (n := 0) (x := q) rfl d_T_marks_85 ?_
      refine zc_getF hn29 (pc := 86) f_T_28 rfl hqk r3f d_T_marks_86 ?_
      refine zw_bipush (pc := 89) (v := 39) (by decide) d_T_marks_89 ?_
      refine zc_callV hn29 (pc := 91) [.int 39] [] l_T_284 (c_Troupe_become l B N26 (hT.mod hn29) r3 r3B (hn29.k r3k) 39) rfl rfl r3k (by decide) (by decide) (Nat.le_of_ble_eq_true rfl) d_T_marks_91 (fun r36 N34 hq35 => ?_)
      obtain ⟨hk39, rfl⟩ := hq35
      have hn37 : zMod B [(1, 1), (4, 7), (4, 8)] M N34 := hn29.call hk39 (by decide)
      have kv41 : zi N34 r1 1 = 0 := (hk39.2.2.2.2 r1 1 1 (hn29.k r1k) (by decide)).trans kv33
      show zW l m_T_marks (zn M + 0, zw M + 0) N34 94 [some (.ref q), some (.int v11), some (.int v22)] [] (fun r M2 => (zqI B M [(1, 1), (4, 7), (4, 8)]) r M2 ∧ ∀ t, zf M q 0 = some t → zi M2 t 1 = 0)
      refine zw_iconst (pc := 94) (v := 0) (by decide) d_T_marks_94 ?_
      exact zw_iret (S := []) (pc := 95) (ty := .int) rfl rfl d_T_marks_95 ⟨⟨hn37, _, rfl⟩, fun t ht => by
        rw [r1f] at ht
        cases ht
        exact kv41⟩
    · refine zw_iload_n (pc := 69) (n := 2) (x := v22) rfl d_T_marks_69 ?_
      refine zw_iconst (pc := 70) (v := 1) (by decide) d_T_marks_70 ?_
      refine zw_iadd (pc := 71) d_T_marks_71 ?_
      exact zw_iret (S := []) (pc := 72) (ty := .int) rfl rfl d_T_marks_72 ⟨⟨hn21, _, rfl⟩, fun t ht => by
        rw [r1f] at ht
        cases ht
        exact kv25⟩
  · refine zw_bipush (pc := 40) (v := (-2)) (by decide) d_T_marks_40 ?_
    exact zw_iret (S := []) (pc := 42) (ty := .int) rfl rfl d_T_marks_42 ⟨⟨hn16, _, rfl⟩, fun t ht => by
      rw [r1f] at ht
      cases ht
      exact kv17⟩
set_option maxHeartbeats 4000000 in
theorem c_T_uses (l : Launch) (B : Nat) (M : zMem) (hT : zTy B M) (q : Nat) (hqB : q < B) (hqk : (zsh M q).1 = 0 + 3) (x0 : Int32) : zC l m_T_uses 0 0 [.ref q, .int x0] M (zqI B M [(4, 7), (4, 8)]) := by
  refine zC_of (L0 := [some (.ref q), some (.int x0)]) md_T_uses (Nat.le_of_ble_eq_true rfl) rfl ?_ zQ0
  have hm : zMod B [(4, 7), (4, 8)] M M := zMod.rf
  refine zw_aload_n (pc := 0) (n := 0) (x := q) rfl d_T_uses_0 ?_
  obtain ⟨r1, r1f, r1B, r1k⟩ := hT.1 q 0 2 hqB hqk (by decide) (by decide) rfl
  refine zc_getF hm (pc := 1) f_T_28 rfl hqk r1f d_T_uses_1 ?_
  refine zw_iload_n (pc := 4) (n := 1) (x := x0) rfl d_T_uses_4 ?_
  refine zc_callV hm (pc := 5) [.int x0] [] l_T_245 (c_Troupe_hasName l B M (hT.mod hm) r1 r1B (hm.k r1k) x0) rfl rfl r1k (by decide) (by decide) (Nat.le_of_ble_eq_true rfl) d_T_uses_5 (fun r4 N2 hq3 => ?_)
  obtain ⟨hk7, v6, rfl, zv6⟩ := hq3
  have hn5 : zMod B [(4, 7), (4, 8)] M N2 := hm.call hk7 (by decide)
  show zW l m_T_uses (zn M + 0, zw M + 0) N2 8 [some (.ref q), some (.int x0)] [.int v6] (zqI B M [(4, 7), (4, 8)])
  refine zw_if_ne (pc := 8) (tgt := 13) (by decide) d_T_uses_8 (fun hc_8 => ?_) (fun hc_8 => ?_)
  · refine zw_aload_n (pc := 13) (n := 0) (x := q) rfl d_T_uses_13 ?_
    refine zc_getF hn5 (pc := 14) f_T_28 rfl hqk r1f d_T_uses_14 ?_
    refine zw_iconst (pc := 17) (v := 1) (by decide) d_T_uses_17 ?_
    refine zw_iload_n (pc := 18) (n := 1) (x := x0) rfl d_T_uses_18 ?_
    refine zw_iadd (pc := 19) d_T_uses_19 ?_
    refine zc_callV hn5 (pc := 20) [.int (1 + x0)] [] l_T_284 (c_Troupe_become l B N2 (hT.mod hn5) r1 r1B (hn5.k r1k) (1 + x0)) rfl rfl r1k (by decide) (by decide) (Nat.le_of_ble_eq_true rfl) d_T_uses_20 (fun r11 N9 hq10 => ?_)
    obtain ⟨hk14, rfl⟩ := hq10
    have hn12 : zMod B [(4, 7), (4, 8)] M N9 := hn5.call hk14 (by decide)
    show zW l m_T_uses (zn M + 0, zw M + 0) N9 23 [some (.ref q), some (.int x0)] [] (zqI B M [(4, 7), (4, 8)])
    refine zw_aload_n (pc := 23) (n := 0) (x := q) rfl d_T_uses_23 ?_
    refine zc_getF hn12 (pc := 24) f_T_28 rfl hqk r1f d_T_uses_24 ?_
    obtain ⟨r16, r16f, r16B, r16k⟩ := hT.1 r1 4 2 r1B r1k (by decide) (by decide) rfl
    refine zc_getF hn12 (pc := 27) f_T_169 rfl r1k r16f d_T_uses_27 ?_
    refine zw_iconst (pc := 30) (v := 0) (by decide) d_T_uses_30 ?_
    refine zc_callV hn12 (pc := 31) [.int 0] [] l_T_253 (c_Sums_partsOf l B N9 (hT.mod hn12) r16 r16B (hn12.k r16k) 0) rfl rfl r16k (by decide) (by decide) (Nat.le_of_ble_eq_true rfl) d_T_uses_31 (fun r19 N17 hq18 => ?_)
    obtain ⟨hk22, v21, rfl⟩ := hq18
    have hn20 : zMod B [(4, 7), (4, 8)] M N17 := hn12.call hk22 (by decide)
    show zW l m_T_uses (zn M + 0, zw M + 0) N17 34 [some (.ref q), some (.int x0)] [.int v21] (zqI B M [(4, 7), (4, 8)])
    exact zw_iret (S := []) (pc := 34) (ty := .int) rfl rfl d_T_uses_34 ⟨hn20, _, rfl⟩
  · refine zw_iconst (pc := 11) (v := (-1)) (by decide) d_T_uses_11 ?_
    exact zw_iret (S := []) (pc := 12) (ty := .int) rfl rfl d_T_uses_12 ⟨hn5, _, rfl⟩
set_option maxHeartbeats 4000000 in
theorem c_Sums_putGrown (l : Launch) (B : Nat) (M : zMem) (hT : zTy B M) (q : Nat) (hqB : q < B) (hqk : (zsh M q).1 = 7 + 3) (x0 : Int32) (x1 : Int32) (x2 : Int32) : zC l m_Sums_putGrown 0 0 [.ref q, .int x0, .int x1, .int x2] M (zqV B M []) := by
  refine zC_of (L0 := [some (.ref q), some (.int x0), some (.int x1), some (.int x2), none]) md_Sums_putGrown (Nat.le_of_ble_eq_true rfl) rfl ?_ zQ0
  have hm : zMod B [] M M := zMod.rf
  refine zw_iconst (pc := 0) (v := 0) (by decide) d_Sums_putGrown_0 ?_
  refine zw_istore (pc := 1) (i := 4) (L2 := [some (.ref q), some (.int x0), some (.int x1), some (.int x2), some (.int 0)]) (by decide) rfl d_Sums_putGrown_1 ?_
  obtain ⟨r4, r4f, r4B, r4k⟩ := hT.1 q 7 0 hqB hqk (by decide) (by decide) rfl
  have lp_3 : ∀ (n : Nat) (u1 : Int32) (N2 : zMem) (hn3 : zMod B [] M N2), zvu u1 (zi M r4 7) < n → zW l m_Sums_putGrown (zn M + 0, zw M + 0) N2 3 [some (.ref q), some (.int x0), some (.int x1), some (.int x2), some (.int u1)] [] (zqV B M []) := by
    intro n
    induction n with
    | zero =>
      intro u1 N2 hn3 h0
      exact absurd h0 (Nat.not_lt_zero _)
    | succ n ih_3 =>
      intro u1 N2 hn3 hlt_3
      refine zw_iload (pc := 3) (i := 4) (x := u1) rfl d_Sums_putGrown_3 ?_
      refine zw_aload_n (pc := 5) (n := 0) (x := q) rfl d_Sums_putGrown_5 ?_
      refine zc_getF hn3 (pc := 6) f_Sums_23 rfl hqk r4f d_Sums_putGrown_6 ?_
      refine zc_getI0 hn3 (pc := 9) (by decide) f_Sums_35 rfl r4k d_Sums_putGrown_9 ?_
      refine zw_icmp_ge (pc := 12) (tgt := 52) (by decide) d_Sums_putGrown_12 (fun hc_12 => ?_) (fun hc_12 => ?_)
      · exact zw_vret (S := []) (pc := 52) rfl d_Sums_putGrown_52 ⟨hn3, rfl⟩
      · refine zw_aload_n (pc := 15) (n := 0) (x := q) rfl d_Sums_putGrown_15 ?_
        refine zw_bipush (pc := 16) (v := 39) (by decide) d_Sums_putGrown_16 ?_
        refine zw_iload (pc := 18) (i := 4) (x := u1) rfl d_Sums_putGrown_18 ?_
        refine zw_iload_n (pc := 20) (n := 1) (x := x0) rfl d_Sums_putGrown_20 ?_
        refine zw_i2l (pc := 21) d_Sums_putGrown_21 ?_
        refine zw_aload_n (pc := 22) (n := 0) (x := q) rfl d_Sums_putGrown_22 ?_
        refine zw_iconst (pc := 23) (v := 0) (by decide) d_Sums_putGrown_23 ?_
        refine zw_iload (pc := 24) (i := 4) (x := u1) rfl d_Sums_putGrown_24 ?_
        refine zc_callV hn3 (pc := 26) [.int 0, .int u1] [.long ((x0 : Int32).toInt64), .int u1, .int 39, .ref q] l_Sums_67 (c_Sums_numberAt l B N2 (hT.mod hn3) q hqB (hn3.k hqk) 0 u1) rfl rfl hqk (by decide) (by decide) (Nat.le_of_ble_eq_true rfl) d_Sums_putGrown_26 (fun r7 N5 hq6 => ?_)
        obtain ⟨hk10, v9, rfl⟩ := hq6
        have hn8 : zMod B [] M N5 := hn3.call hk10 (by decide)
        show zW l m_Sums_putGrown (zn M + 0, zw M + 0) N5 29 [some (.ref q), some (.int x0), some (.int x1), some (.int x2), some (.int u1)] [.long v9, .long ((x0 : Int32).toInt64), .int u1, .int 39, .ref q] (zqV B M [])
        refine zw_lmul (pc := 29) d_Sums_putGrown_29 ?_
        refine zw_iload (pc := 30) (i := 4) (x := u1) rfl d_Sums_putGrown_30 ?_
        refine zw_iload_n (pc := 32) (n := 3) (x := x2) rfl d_Sums_putGrown_32 ?_
        have j_41 : ∀ (u12 : Int32) (N13 : zMem) (hn14 : zMod B [] M N13), zW l m_Sums_putGrown (zn M + 0, zw M + 0) N13 41 [some (.ref q), some (.int x0), some (.int x1), some (.int x2), some (.int u1)] [.int u12, .long (((x0 : Int32).toInt64) * v9), .int u1, .int 39, .ref q] (zqV B M []) := by
          intro u12 N13 hn14
          refine zw_i2l (pc := 41) d_Sums_putGrown_41 ?_
          refine zw_ladd (pc := 42) d_Sums_putGrown_42 ?_
          refine zc_callV hn14 (pc := 43) [.int 39, .int u1, .long ((((x0 : Int32).toInt64) * v9) + ((u12 : Int32).toInt64))] [] l_Sums_70 (c_Sums_putNumber l B N13 (hT.mod hn14) q hqB (hn14.k hqk) 39 u1 ((((x0 : Int32).toInt64) * v9) + ((u12 : Int32).toInt64))) rfl rfl hqk (by decide) (by decide) (Nat.le_of_ble_eq_true rfl) d_Sums_putGrown_43 (fun r17 N15 hq16 => ?_)
          obtain ⟨hk20, rfl⟩ := hq16
          have hn18 : zMod B [] M N15 := hn14.call hk20 (by decide)
          show zW l m_Sums_putGrown (zn M + 0, zw M + 0) N15 46 [some (.ref q), some (.int x0), some (.int x1), some (.int x2), some (.int u1)] [] (zqV B M [])
          refine zw_iinc (pc := 46) (i := 4) (x := u1) (v := u1 + Int32.ofInt 1) (L2 := [some (.ref q), some (.int x0), some (.int x1), some (.int x2), some (.int (u1 + Int32.ofInt 1))]) rfl rfl (by decide) rfl d_Sums_putGrown_46 ?_
          refine zw_goto (pc := 49) (tgt := 3) (by decide) d_Sums_putGrown_49 ?_
          exact ih_3 (u1 + Int32.ofInt 1) N15 hn18 (Nat.lt_of_lt_of_le (z_up hc_12) (Nat.le_of_lt_succ hlt_3))
        refine zw_icmp_ne (pc := 33) (tgt := 40) (by decide) d_Sums_putGrown_33 (fun hc_33 => ?_) (fun hc_33 => ?_)
        · refine zw_iconst (pc := 40) (v := 0) (by decide) d_Sums_putGrown_40 ?_
          exact j_41 0 N5 hn8
        · refine zw_iload_n (pc := 36) (n := 2) (x := x1) rfl d_Sums_putGrown_36 ?_
          refine zw_goto (pc := 37) (tgt := 41) (by decide) d_Sums_putGrown_37 ?_
          exact j_41 x1 N5 hn8
  exact lp_3 _ 0 M hm (Nat.lt_succ_self _)
set_option maxHeartbeats 4000000 in
theorem c_T_grows (l : Launch) (B : Nat) (M : zMem) (hT : zTy B M) (q : Nat) (hqB : q < B) (hqk : (zsh M q).1 = 0 + 3) (x0 : Int32) (x1 : Int32) (x2 : Int32) : zC l m_T_grows 0 0 [.ref q, .int x0, .int x1, .int x2] M (zqJ B M [(4, 7), (4, 8)]) := by
  refine zC_of (L0 := [some (.ref q), some (.int x0), some (.int x1), some (.int x2)]) md_T_grows (Nat.le_of_ble_eq_true rfl) rfl ?_ zQ0
  have hm : zMod B [(4, 7), (4, 8)] M M := zMod.rf
  refine zw_iload_n (pc := 0) (n := 1) (x := x0) rfl d_T_grows_0 ?_
  refine zw_bipush (pc := 1) (v := (-9)) (by decide) d_T_grows_1 ?_
  refine zw_icmp_lt (pc := 3) (tgt := 40) (by decide) d_T_grows_3 (fun hc_3 => ?_) (fun hc_3 => ?_)
  · refine zw_ldc2 (pc := 40) k_T_248 d_T_grows_40 ?_
    exact zw_lret (S := []) (pc := 43) rfl d_T_grows_43 ⟨hm, _, rfl⟩
  · refine zw_iload_n (pc := 6) (n := 1) (x := x0) rfl d_T_grows_6 ?_
    refine zw_bipush (pc := 7) (v := 9) (by decide) d_T_grows_7 ?_
    refine zw_icmp_gt (pc := 9) (tgt := 40) (by decide) d_T_grows_9 (fun hc_9 => ?_) (fun hc_9 => ?_)
    · refine zw_ldc2 (pc := 40) k_T_248 d_T_grows_40 ?_
      exact zw_lret (S := []) (pc := 43) rfl d_T_grows_43 ⟨hm, _, rfl⟩
    · refine zw_iload_n (pc := 12) (n := 2) (x := x1) rfl d_T_grows_12 ?_
      refine zw_sipush (pc := 13) (v := (-999)) (by decide) d_T_grows_13 ?_
      refine zw_icmp_lt (pc := 16) (tgt := 40) (by decide) d_T_grows_16 (fun hc_16 => ?_) (fun hc_16 => ?_)
      · refine zw_ldc2 (pc := 40) k_T_248 d_T_grows_40 ?_
        exact zw_lret (S := []) (pc := 43) rfl d_T_grows_43 ⟨hm, _, rfl⟩
      · refine zw_iload_n (pc := 19) (n := 2) (x := x1) rfl d_T_grows_19 ?_
        refine zw_sipush (pc := 20) (v := 999) (by decide) d_T_grows_20 ?_
        refine zw_icmp_gt (pc := 23) (tgt := 40) (by decide) d_T_grows_23 (fun hc_23 => ?_) (fun hc_23 => ?_)
        · refine zw_ldc2 (pc := 40) k_T_248 d_T_grows_40 ?_
          exact zw_lret (S := []) (pc := 43) rfl d_T_grows_43 ⟨hm, _, rfl⟩
        · refine zw_aload_n (pc := 26) (n := 0) (x := q) rfl d_T_grows_26 ?_
          obtain ⟨r1, r1f, r1B, r1k⟩ := hT.1 q 0 2 hqB hqk (by decide) (by decide) rfl
          refine zc_getF hm (pc := 27) f_T_28 rfl hqk r1f d_T_grows_27 ?_
          obtain ⟨r2, r2f, r2B, r2k⟩ := hT.1 r1 4 1 r1B r1k (by decide) (by decide) rfl
          refine zc_getF hm (pc := 30) f_T_85 rfl r1k r2f d_T_grows_30 ?_
          refine zw_iload_n (pc := 33) (n := 3) (x := x2) rfl d_T_grows_33 ?_
          refine zc_callV hm (pc := 34) [.int x2] [] l_T_143 (c_Sorts_hasSort l B M (hT.mod hm) r2 r2B (hm.k r2k) x2) rfl rfl r2k (by decide) (by decide) (Nat.le_of_ble_eq_true rfl) d_T_grows_34 (fun r5 N3 hq4 => ?_)
          obtain ⟨hk8, v7, rfl, zv7⟩ := hq4
          have hn6 : zMod B [(4, 7), (4, 8)] M N3 := hm.call hk8 (by decide)
          show zW l m_T_grows (zn M + 0, zw M + 0) N3 37 [some (.ref q), some (.int x0), some (.int x1), some (.int x2)] [.int v7] (zqJ B M [(4, 7), (4, 8)])
          refine zw_if_ne (pc := 37) (tgt := 44) (by decide) d_T_grows_37 (fun hc_37 => ?_) (fun hc_37 => ?_)
          · refine zw_aload_n (pc := 44) (n := 0) (x := q) rfl d_T_grows_44 ?_
            refine zc_getF hn6 (pc := 45) f_T_28 rfl hqk r1f d_T_grows_45 ?_
            obtain ⟨r10, r10f, r10B, r10k⟩ := hT.1 r1 4 2 r1B r1k (by decide) (by decide) rfl
            refine zc_getF hn6 (pc := 48) f_T_169 rfl r1k r10f d_T_grows_48 ?_
            refine zw_iload_n (pc := 51) (n := 1) (x := x0) rfl d_T_grows_51 ?_
            refine zw_iload_n (pc := 52) (n := 2) (x := x1) rfl d_T_grows_52 ?_
            refine zw_iload_n (pc := 53) (n := 3) (x := x2) rfl d_T_grows_53 ?_
            refine zc_callV hn6 (pc := 54) [.int x0, .int x1, .int x2] [] l_T_307 (c_Sums_putGrown l B N3 (hT.mod hn6) r10 r10B (hn6.k r10k) x0 x1 x2) rfl rfl r10k (by decide) (by decide) (Nat.le_of_ble_eq_true rfl) d_T_grows_54 (fun r13 N11 hq12 => ?_)
            obtain ⟨hk16, rfl⟩ := hq12
            have hn14 : zMod B [(4, 7), (4, 8)] M N11 := hn6.call hk16 (by decide)
            show zW l m_T_grows (zn M + 0, zw M + 0) N11 57 [some (.ref q), some (.int x0), some (.int x1), some (.int x2)] [] (zqJ B M [(4, 7), (4, 8)])
            refine zw_aload_n (pc := 57) (n := 0) (x := q) rfl d_T_grows_57 ?_
            refine zc_getF hn14 (pc := 58) f_T_28 rfl hqk r1f d_T_grows_58 ?_
            refine zc_getF hn14 (pc := 61) f_T_169 rfl r1k r10f d_T_grows_61 ?_
            refine zw_bipush (pc := 64) (v := 39) (by decide) d_T_grows_64 ?_
            refine zc_callV hn14 (pc := 66) [.int 39] [] l_T_311 (c_Sums_isInBounds l B N11 (hT.mod hn14) r10 r10B (hn14.k r10k) 39) rfl rfl r10k (by decide) (by decide) (Nat.le_of_ble_eq_true rfl) d_T_grows_66 (fun r20 N18 hq19 => ?_)
            obtain ⟨hk23, v22, rfl, zv22⟩ := hq19
            have hn21 : zMod B [(4, 7), (4, 8)] M N18 := hn14.call hk23 (by decide)
            show zW l m_T_grows (zn M + 0, zw M + 0) N18 69 [some (.ref q), some (.int x0), some (.int x1), some (.int x2)] [.int v22] (zqJ B M [(4, 7), (4, 8)])
            refine zw_if_ne (pc := 69) (tgt := 76) (by decide) d_T_grows_69 (fun hc_69 => ?_) (fun hc_69 => ?_)
            · refine zw_aload_n (pc := 76) (n := 0) (x := q) rfl d_T_grows_76 ?_
              refine zc_getF hn21 (pc := 77) f_T_28 rfl hqk r1f d_T_grows_77 ?_
              refine zw_bipush (pc := 80) (v := 39) (by decide) d_T_grows_80 ?_
              refine zc_callV hn21 (pc := 82) [.int 39] [] l_T_284 (c_Troupe_become l B N18 (hT.mod hn21) r1 r1B (hn21.k r1k) 39) rfl rfl r1k (by decide) (by decide) (Nat.le_of_ble_eq_true rfl) d_T_grows_82 (fun r27 N25 hq26 => ?_)
              obtain ⟨hk30, rfl⟩ := hq26
              have hn28 : zMod B [(4, 7), (4, 8)] M N25 := hn21.call hk30 (by decide)
              show zW l m_T_grows (zn M + 0, zw M + 0) N25 85 [some (.ref q), some (.int x0), some (.int x1), some (.int x2)] [] (zqJ B M [(4, 7), (4, 8)])
              refine zw_aload_n (pc := 85) (n := 0) (x := q) rfl d_T_grows_85 ?_
              refine zc_getF hn28 (pc := 86) f_T_28 rfl hqk r1f d_T_grows_86 ?_
              refine zc_getF hn28 (pc := 89) f_T_169 rfl r1k r10f d_T_grows_89 ?_
              refine zw_iconst (pc := 92) (v := 0) (by decide) d_T_grows_92 ?_
              refine zw_iload_n (pc := 93) (n := 3) (x := x2) rfl d_T_grows_93 ?_
              refine zc_callV hn28 (pc := 94) [.int 0, .int x2] [] l_T_179 (c_Sums_numberAt l B N25 (hT.mod hn28) r10 r10B (hn28.k r10k) 0 x2) rfl rfl r10k (by decide) (by decide) (Nat.le_of_ble_eq_true rfl) d_T_grows_94 (fun r34 N32 hq33 => ?_)
              obtain ⟨hk37, v36, rfl⟩ := hq33
              have hn35 : zMod B [(4, 7), (4, 8)] M N32 := hn28.call hk37 (by decide)
              show zW l m_T_grows (zn M + 0, zw M + 0) N32 97 [some (.ref q), some (.int x0), some (.int x1), some (.int x2)] [.long v36] (zqJ B M [(4, 7), (4, 8)])
              exact zw_lret (S := []) (pc := 97) rfl d_T_grows_97 ⟨hn35, _, rfl⟩
            · refine zw_ldc2 (pc := 72) k_T_248 d_T_grows_72 ?_
              exact zw_lret (S := []) (pc := 75) rfl d_T_grows_75 ⟨hn21, _, rfl⟩
          · refine zw_ldc2 (pc := 40) k_T_248 d_T_grows_40 ?_
            exact zw_lret (S := []) (pc := 43) rfl d_T_grows_43 ⟨hn6, _, rfl⟩
set_option maxHeartbeats 4000000 in
theorem c_Troupe_takeBack (l : Launch) (B : Nat) (M : zMem) (hT : zTy B M) (q : Nat) (hqB : q < B) (hqk : (zsh M q).1 = 4 + 3) : zC l m_Troupe_takeBack 0 0 [.ref q] M (zqI B M [(4, 7), (4, 8)]) := by
  refine zC_of (L0 := [some (.ref q)]) md_Troupe_takeBack (Nat.le_of_ble_eq_true rfl) rfl ?_ zQ0
  have hm : zMod B [(4, 7), (4, 8)] M M := zMod.rf
  refine zw_aload_n (pc := 0) (n := 0) (x := q) rfl d_Troupe_takeBack_0 ?_
  refine zw_aload_n (pc := 1) (n := 0) (x := q) rfl d_Troupe_takeBack_1 ?_
  refine zc_getI hm (pc := 2) f_Troupe_71 rfl hqk d_Troupe_takeBack_2 ?_
  refine zw_bipush (pc := 5) (v := 12) (by decide) d_Troupe_takeBack_5 ?_
  refine zw_iadd (pc := 7) d_Troupe_takeBack_7 ?_
  refine zw_iconst (pc := 8) (v := 1) (by decide) d_Troupe_takeBack_8 ?_
  refine zw_isub (pc := 9) d_Troupe_takeBack_9 ?_
  refine zw_bipush (pc := 10) (v := 12) (by decide) d_Troupe_takeBack_10 ?_
  refine zw_irem (pc := 12) (by decide) d_Troupe_takeBack_12 ?_
  refine zc_putI hm (pc := 13) f_Troupe_71 rfl rfl hqk hqB (by decide) rfl rfl d_Troupe_takeBack_13 (fun N1 hN1 hn2 => ?_)
  refine zw_aload_n (pc := 16) (n := 0) (x := q) rfl d_Troupe_takeBack_16 ?_
  refine zw_dup (pc := 17) rfl d_Troupe_takeBack_17 ?_
  refine zc_getI hn2 (pc := 18) f_Troupe_68 rfl hqk d_Troupe_takeBack_18 ?_
  refine zw_iconst (pc := 21) (v := 1) (by decide) d_Troupe_takeBack_21 ?_
  refine zw_isub (pc := 22) d_Troupe_takeBack_22 ?_
  refine zc_putI hn2 (pc := 23) f_Troupe_68 rfl rfl hqk hqB (by decide) rfl rfl d_Troupe_takeBack_23 (fun N3 hN3 hn4 => ?_)
  refine zw_aload_n (pc := 26) (n := 0) (x := q) rfl d_Troupe_takeBack_26 ?_
  obtain ⟨r5, r5f, r5B, r5k⟩ := hT.1 q 4 2 hqB hqk (by decide) (by decide) rfl
  refine zc_getF hn4 (pc := 27) f_Troupe_32 rfl hqk r5f d_Troupe_takeBack_27 ?_
  refine zw_bipush (pc := 30) (v := 9) (by decide) d_Troupe_takeBack_30 ?_
  refine zw_aload_n (pc := 32) (n := 0) (x := q) rfl d_Troupe_takeBack_32 ?_
  refine zc_getI hn4 (pc := 33) f_Troupe_71 rfl hqk d_Troupe_takeBack_33 ?_
  refine zw_iadd (pc := 36) d_Troupe_takeBack_36 ?_
  refine zw_iconst (pc := 37) (v := 0) (by decide) d_Troupe_takeBack_37 ?_
  refine zc_callV hn4 (pc := 38) [.int (9 + (zi N3 q 8)), .int 0] [] l_Troupe_93 (c_Sums_copy l B N3 (hT.mod hn4) r5 r5B (hn4.k r5k) (9 + (zi N3 q 8)) 0) rfl rfl r5k (by decide) (by decide) (Nat.le_of_ble_eq_true rfl) d_Troupe_takeBack_38 (fun r8 N6 hq7 => ?_)
  obtain ⟨hk11, rfl⟩ := hq7
  have hn9 : zMod B [(4, 7), (4, 8)] M N6 := hn4.call hk11 (by decide)
  show zW l m_Troupe_takeBack (zn M + 0, zw M + 0) N6 41 [some (.ref q)] [] (zqI B M [(4, 7), (4, 8)])
  refine zw_aload_n (pc := 41) (n := 0) (x := q) rfl d_Troupe_takeBack_41 ?_
  refine zc_getI hn9 (pc := 42) f_Troupe_68 rfl hqk d_Troupe_takeBack_42 ?_
  exact zw_iret (S := []) (pc := 45) (ty := .int) rfl rfl d_Troupe_takeBack_45 ⟨hn9, _, rfl⟩
set_option maxHeartbeats 4000000 in
theorem c_T_undo (l : Launch) (B : Nat) (M : zMem) (hT : zTy B M) (q : Nat) (hqB : q < B) (hqk : (zsh M q).1 = 0 + 3) : zC l m_T_undo 0 0 [.ref q] M (zqI B M [(4, 7), (4, 8)]) := by
  refine zC_of (L0 := [some (.ref q)]) md_T_undo (Nat.le_of_ble_eq_true rfl) rfl ?_ zQ0
  have hm : zMod B [(4, 7), (4, 8)] M M := zMod.rf
  refine zw_aload_n (pc := 0) (n := 0) (x := q) rfl d_T_undo_0 ?_
  obtain ⟨r1, r1f, r1B, r1k⟩ := hT.1 q 0 2 hqB hqk (by decide) (by decide) rfl
  refine zc_getF hm (pc := 1) f_T_28 rfl hqk r1f d_T_undo_1 ?_
  refine zc_getI hm (pc := 4) f_T_105 rfl r1k d_T_undo_4 ?_
  refine zw_if_le (pc := 7) (tgt := 20) (by decide) d_T_undo_7 (fun hc_7 => ?_) (fun hc_7 => ?_)
  · refine zw_iconst (pc := 20) (v := (-1)) (by decide) d_T_undo_20 ?_
    exact zw_iret (S := []) (pc := 21) (ty := .int) rfl rfl d_T_undo_21 ⟨hm, _, rfl⟩
  · refine zw_aload_n (pc := 10) (n := 0) (x := q) rfl d_T_undo_10 ?_
    refine zc_getF hm (pc := 11) f_T_28 rfl hqk r1f d_T_undo_11 ?_
    refine zc_callV hm (pc := 14) [] [] l_T_314 (c_Troupe_takeBack l B M (hT.mod hm) r1 r1B (hm.k r1k)) rfl rfl r1k (by decide) (by decide) (Nat.le_of_ble_eq_true rfl) d_T_undo_14 (fun r4 N2 hq3 => ?_)
    obtain ⟨hk7, v6, rfl⟩ := hq3
    have hn5 : zMod B [(4, 7), (4, 8)] M N2 := hm.call hk7 (by decide)
    show zW l m_T_undo (zn M + 0, zw M + 0) N2 17 [some (.ref q)] [.int v6] (zqI B M [(4, 7), (4, 8)])
    refine zw_goto (pc := 17) (tgt := 21) (by decide) d_T_undo_17 ?_
    exact zw_iret (S := []) (pc := 21) (ty := .int) rfl rfl d_T_undo_21 ⟨hn5, _, rfl⟩
