/-! methods of the landed part, walked by program -/
set_option maxHeartbeats 4000000 in
theorem c_Sorts_blockOf (l : Launch) (B : Nat) (M : zMem) (hT : zTy B M) (q : Nat) (hqB : q < B) (hqk : (zsh M q).1 = 6 + 3) (x0 : Int32) (x1 : Int32) (hp : x1 = 2 ∨ x1 = 3 ∨ x1 = 5) : zC l m_Sorts_blockOf 0 0 [.ref q, .int x0, .int x1] M (zqI B M []) := by
  refine zC_of (L0 := [some (.ref q), some (.int x0), some (.int x1), none, none, none]) md_Sorts_blockOf (Nat.le_of_ble_eq_true rfl) rfl ?_ zQ0
  have hm : zMod B [] M M := zMod.rf
  refine zw_aload_n (pc := 0) (n := 0) (x := q) rfl d_Sorts_blockOf_0 ?_
  refine zw_iload_n (pc := 1) (n := 1) (x := x0) rfl d_Sorts_blockOf_1 ?_
  refine zw_iload_n (pc := 2) (n := 2) (x := x1) rfl d_Sorts_blockOf_2 ?_
  refine zc_callV hm (pc := 3) [.int x0, .int x1] [] l_Sorts_109 (c_Sorts_residueOf l B M (hT.mod hm) q hqB (hm.k hqk) x0 x1 hp) rfl rfl hqk (by decide) (by decide) (Nat.le_of_ble_eq_true rfl) d_Sorts_blockOf_3 (fun r3 N1 hq2 => ?_)
  obtain ⟨hk6, v5, rfl⟩ := hq2
  have hn4 : zMod B [] M N1 := hm.call hk6 (by decide)
  show zW l m_Sorts_blockOf (zn M + 0, zw M + 0) N1 6 [some (.ref q), some (.int x0), some (.int x1), none, none, none] [.int v5] (zqI B M [])
  refine zw_istore_n (pc := 6) (i := 3) (L2 := [some (.ref q), some (.int x0), some (.int x1), some (.int v5), none, none]) rfl (by decide) rfl d_Sorts_blockOf_6 ?_
  refine zw_iconst (pc := 7) (v := 0) (by decide) d_Sorts_blockOf_7 ?_
  refine zw_istore (pc := 8) (i := 4) (L2 := [some (.ref q), some (.int x0), some (.int x1), some (.int v5), some (.int 0), none]) (by decide) rfl d_Sorts_blockOf_8 ?_
  refine zw_iconst (pc := 10) (v := 0) (by decide) d_Sorts_blockOf_10 ?_
  refine zw_istore (pc := 11) (i := 5) (L2 := [some (.ref q), some (.int x0), some (.int x1), some (.int v5), some (.int 0), some (.int 0)]) (by decide) rfl d_Sorts_blockOf_11 ?_
  have lp_13 : ∀ (n : Nat) (u8 : Int32) (u9 : Int32) (N10 : zMem) (hn11 : zMod B [] M N10), zvu u9 (zi M q 7) < n → zW l m_Sorts_blockOf (zn M + 0, zw M + 0) N10 13 [some (.ref q), some (.int x0), some (.int x1), some (.int v5), some (.int u8), some (.int u9)] [] (zqI B M []) := by
    intro n
    induction n with
    | zero =>
      intro u8 u9 N10 hn11 h0
      exact absurd h0 (Nat.not_lt_zero _)
    | succ n ih_13 =>
      intro u8 u9 N10 hn11 hlt_13
      refine zw_iload (pc := 13) (i := 5) (x := u9) rfl d_Sorts_blockOf_13 ?_
      refine zw_aload_n (pc := 15) (n := 0) (x := q) rfl d_Sorts_blockOf_15 ?_
      refine zc_getI0 hn11 (pc := 16) (by decide) f_Sorts_83 rfl hqk d_Sorts_blockOf_16 ?_
      refine zw_icmp_ge (pc := 19) (tgt := 48) (by decide) d_Sorts_blockOf_19 (fun hc_19 => ?_) (fun hc_19 => ?_)
      · refine zw_iload (pc := 48) (i := 4) (x := u8) rfl d_Sorts_blockOf_48 ?_
        exact zw_iret (S := []) (pc := 50) (ty := .int) rfl rfl d_Sorts_blockOf_50 ⟨hn11, _, rfl⟩
      · refine zw_aload_n (pc := 22) (n := 0) (x := q) rfl d_Sorts_blockOf_22 ?_
        refine zw_iload (pc := 23) (i := 5) (x := u9) rfl d_Sorts_blockOf_23 ?_
        refine zw_iload_n (pc := 25) (n := 2) (x := x1) rfl d_Sorts_blockOf_25 ?_
        refine zc_callV hn11 (pc := 26) [.int u9, .int x1] [] l_Sorts_109 (c_Sorts_residueOf l B N10 (hT.mod hn11) q hqB (hn11.k hqk) u9 x1 hp) rfl rfl hqk (by decide) (by decide) (Nat.le_of_ble_eq_true rfl) d_Sorts_blockOf_26 (fun r14 N12 hq13 => ?_)
        obtain ⟨hk17, v16, rfl⟩ := hq13
        have hn15 : zMod B [] M N12 := hn11.call hk17 (by decide)
        show zW l m_Sorts_blockOf (zn M + 0, zw M + 0) N12 29 [some (.ref q), some (.int x0), some (.int x1), some (.int v5), some (.int u8), some (.int u9)] [.int v16] (zqI B M [])
        refine zw_iload_n (pc := 29) (n := 3) (x := v5) rfl d_Sorts_blockOf_29 ?_
        have j_42 : ∀ (u19 : Int32) (N20 : zMem) (hn21 : zMod B [] M N20), zW l m_Sorts_blockOf (zn M + 0, zw M + 0) N20 42 [some (.ref q), some (.int x0), some (.int x1), some (.int v5), some (.int u19), some (.int u9)] [] (zqI B M []) := by
          intro u19 N20 hn21
          refine zw_iinc (pc := 42) (i := 5) (x := u9) (v := u9 + Int32.ofInt 1) (L2 := [some (.ref q), some (.int x0), some (.int x1), some (.int v5), some (.int u19), some (.int (u9 + Int32.ofInt 1))]) rfl rfl (by decide) rfl d_Sorts_blockOf_42 ?_
          refine zw_goto (pc := 45) (tgt := 13) (by decide) d_Sorts_blockOf_45 ?_
          exact ih_13 u19 (u9 + Int32.ofInt 1) N20 hn21 (Nat.lt_of_lt_of_le (z_up hc_19) (Nat.le_of_lt_succ hlt_13))
        refine zw_icmp_ne (pc := 30) (tgt := 42) (by decide) d_Sorts_blockOf_30 (fun hc_30 => ?_) (fun hc_30 => ?_)
        · exact j_42 u8 N12 hn15
        · refine zw_iload (pc := 33) (i := 4) (x := u8) rfl d_Sorts_blockOf_33 ?_
          refine zw_iconst (pc := 35) (v := 1) (by decide) d_Sorts_blockOf_35 ?_
          refine zw_iload (pc := 36) (i := 5) (x := u9) rfl d_Sorts_blockOf_36 ?_
          refine zw_ishl (pc := 38) d_Sorts_blockOf_38 ?_
          refine zw_ior (pc := 39) d_Sorts_blockOf_39 ?_
          refine zw_istore (pc := 40) (i := 4) (L2 := [some (.ref q), some (.int x0), some (.int x1), some (.int v5), some (.int (u8 ||| (1 <<< (u9 &&& 31)))), some (.int u9)]) (by decide) rfl d_Sorts_blockOf_40 ?_
          exact j_42 (u8 ||| (1 <<< (u9 &&& 31))) N12 hn15
  exact lp_13 _ 0 0 N1 hn4 (Nat.lt_succ_self _)
set_option maxHeartbeats 4000000 in
theorem c_T_block (l : Launch) (B : Nat) (M : zMem) (hT : zTy B M) (q : Nat) (hqB : q < B) (hqk : (zsh M q).1 = 0 + 3) (x0 : Int32) (x1 : Int32) : zC l m_T_block 0 0 [.ref q, .int x0, .int x1] M (zqI B M []) := by
  refine zC_of (L0 := [some (.ref q), some (.int x0), some (.int x1)]) md_T_block (Nat.le_of_ble_eq_true rfl) rfl ?_ zQ0
  have hm : zMod B [] M M := zMod.rf
  refine zw_aload_n (pc := 0) (n := 0) (x := q) rfl d_T_block_0 ?_
  obtain ⟨r1, r1f, r1B, r1k⟩ := hT.1 q 0 2 hqB hqk (by decide) (by decide) rfl
  refine zc_getF hm (pc := 1) f_T_28 rfl hqk r1f d_T_block_1 ?_
  obtain ⟨r2, r2f, r2B, r2k⟩ := hT.1 r1 4 1 r1B r1k (by decide) (by decide) rfl
  refine zc_getF hm (pc := 4) f_T_85 rfl r1k r2f d_T_block_4 ?_
  refine zw_iload_n (pc := 7) (n := 1) (x := x0) rfl d_T_block_7 ?_
  refine zc_callV hm (pc := 8) [.int x0] [] l_T_143 (c_Sorts_hasSort l B M (hT.mod hm) r2 r2B (hm.k r2k) x0) rfl rfl r2k (by decide) (by decide) (Nat.le_of_ble_eq_true rfl) d_T_block_8 (fun r5 N3 hq4 => ?_)
  obtain ⟨hk8, v7, rfl, zv7⟩ := hq4
  have hn6 : zMod B [] M N3 := hm.call hk8 (by decide)
  show zW l m_T_block (zn M + 0, zw M + 0) N3 11 [some (.ref q), some (.int x0), some (.int x1)] [.int v7] (zqI B M [])
  refine zw_if_eq (pc := 11) (tgt := 36) (by decide) d_T_block_11 (fun hc_11 => ?_) (fun hc_11 => ?_)
  · refine zw_iconst (pc := 36) (v := (-1)) (by decide) d_T_block_36 ?_
    exact zw_iret (S := []) (pc := 37) (ty := .int) rfl rfl d_T_block_37 ⟨hn6, _, rfl⟩
  · refine zw_iload_n (pc := 14) (n := 2) (x := x1) rfl d_T_block_14 ?_
    refine zc_callS hn6 (pc := 15) [.int x1] [] l_T_183 (c_T_isPrime l B N3 (hT.mod hn6) x1) rfl rfl (by decide) (Nat.le_of_ble_eq_true rfl) d_T_block_15 (fun r12 N10 hq11 => ?_)
    obtain ⟨hq11, ex16⟩ := hq11
    obtain ⟨hk15, v14, rfl, zv14⟩ := hq11
    have hn13 : zMod B [] M N10 := hn6.call hk15 (by decide)
    show zW l m_T_block (zn M + 0, zw M + 0) N10 18 [some (.ref q), some (.int x0), some (.int x1)] [.int v14] (zqI B M [])
    refine zw_if_eq (pc := 18) (tgt := 36) (by decide) d_T_block_18 (fun hc_18 => ?_) (fun hc_18 => ?_)
    · refine zw_iconst (pc := 36) (v := (-1)) (by decide) d_T_block_36 ?_
      exact zw_iret (S := []) (pc := 37) (ty := .int) rfl rfl d_T_block_37 ⟨hn13, _, rfl⟩
    · refine zw_aload_n (pc := 21) (n := 0) (x := q) rfl d_T_block_21 ?_
      refine zc_getF hn13 (pc := 22) f_T_28 rfl hqk r1f d_T_block_22 ?_
      refine zc_getF hn13 (pc := 25) f_T_85 rfl r1k r2f d_T_block_25 ?_
      refine zw_iload_n (pc := 28) (n := 1) (x := x0) rfl d_T_block_28 ?_
      refine zw_iload_n (pc := 29) (n := 2) (x := x1) rfl d_T_block_29 ?_
      refine zc_callV hn13 (pc := 30) [.int x0, .int x1] [] l_T_189 (c_Sorts_blockOf l B N10 (hT.mod hn13) r2 r2B (hn13.k r2k) x0 x1 (ex16 _ rfl (z_one zv14 hc_18))) rfl rfl r2k (by decide) (by decide) (Nat.le_of_ble_eq_true rfl) d_T_block_30 (fun r19 N17 hq18 => ?_)
      obtain ⟨hk22, v21, rfl⟩ := hq18
      have hn20 : zMod B [] M N17 := hn13.call hk22 (by decide)
      show zW l m_T_block (zn M + 0, zw M + 0) N17 33 [some (.ref q), some (.int x0), some (.int x1)] [.int v21] (zqI B M [])
      refine zw_goto (pc := 33) (tgt := 37) (by decide) d_T_block_33 ?_
      exact zw_iret (S := []) (pc := 37) (ty := .int) rfl rfl d_T_block_37 ⟨hn20, _, rfl⟩
set_option maxHeartbeats 4000000 in
theorem c_Group_keepersOf (l : Launch) (B : Nat) (M : zMem) (hT : zTy B M) (q : Nat) (hqB : q < B) (hqk : (zsh M q).1 = 5 + 3) (x0 : Int32) : zC l m_Group_keepersOf 0 0 [.ref q, .int x0] M (zqI B M []) := by
  refine zC_of (L0 := [some (.ref q), some (.int x0), none, none]) md_Group_keepersOf (Nat.le_of_ble_eq_true rfl) rfl ?_ zQ0
  have hm : zMod B [] M M := zMod.rf
  refine zw_iconst (pc := 0) (v := 0) (by decide) d_Group_keepersOf_0 ?_
  refine zw_istore_n (pc := 1) (i := 2) (L2 := [some (.ref q), some (.int x0), some (.int 0), none]) rfl (by decide) rfl d_Group_keepersOf_1 ?_
  refine zw_iconst (pc := 2) (v := 0) (by decide) d_Group_keepersOf_2 ?_
  refine zw_istore_n (pc := 3) (i := 3) (L2 := [some (.ref q), some (.int x0), some (.int 0), some (.int 0)]) rfl (by decide) rfl d_Group_keepersOf_3 ?_
  have lp_4 : ∀ (n : Nat) (u1 : Int32) (u2 : Int32) (N3 : zMem) (hn4 : zMod B [] M N3), zvu u2 (zi M q 7) < n → zW l m_Group_keepersOf (zn M + 0, zw M + 0) N3 4 [some (.ref q), some (.int x0), some (.int u1), some (.int u2)] [] (zqI B M []) := by
    intro n
    induction n with
    | zero =>
      intro u1 u2 N3 hn4 h0
      exact absurd h0 (Nat.not_lt_zero _)
    | succ n ih_4 =>
      intro u1 u2 N3 hn4 hlt_4
      refine zw_iload_n (pc := 4) (n := 3) (x := u2) rfl d_Group_keepersOf_4 ?_
      refine zw_aload_n (pc := 5) (n := 0) (x := q) rfl d_Group_keepersOf_5 ?_
      refine zc_getI0 hn4 (pc := 6) (by decide) f_Group_39 rfl hqk d_Group_keepersOf_6 ?_
      refine zw_icmp_ge (pc := 9) (tgt := 40) (by decide) d_Group_keepersOf_9 (fun hc_9 => ?_) (fun hc_9 => ?_)
      · refine zw_iload_n (pc := 40) (n := 2) (x := u1) rfl d_Group_keepersOf_40 ?_
        exact zw_iret (S := []) (pc := 41) (ty := .int) rfl rfl d_Group_keepersOf_41 ⟨hn4, _, rfl⟩
      · refine zw_aload_n (pc := 12) (n := 0) (x := q) rfl d_Group_keepersOf_12 ?_
        obtain ⟨r5, r5f, r5B, r5k⟩ := hT.1 q 5 1 hqB hqk (by decide) (by decide) rfl
        refine zc_getF hn4 (pc := 13) f_Group_20 rfl hqk r5f d_Group_keepersOf_13 ?_
        refine zw_iload_n (pc := 16) (n := 3) (x := u2) rfl d_Group_keepersOf_16 ?_
        refine zc_callV hn4 (pc := 17) [.int u2] [] l_Group_54 (c_IntRow_at l B N3 (hT.mod hn4) r5 r5B (hn4.k r5k) u2) rfl rfl r5k (by decide) (by decide) (Nat.le_of_ble_eq_true rfl) d_Group_keepersOf_17 (fun r8 N6 hq7 => ?_)
        obtain ⟨hk11, v10, rfl⟩ := hq7
        have hn9 : zMod B [] M N6 := hn4.call hk11 (by decide)
        show zW l m_Group_keepersOf (zn M + 0, zw M + 0) N6 20 [some (.ref q), some (.int x0), some (.int u1), some (.int u2)] [.int v10] (zqI B M [])
        refine zw_iload_n (pc := 20) (n := 1) (x := x0) rfl d_Group_keepersOf_20 ?_
        refine zc_callS hn9 (pc := 21) [.int v10, .int x0] [] l_Group_64 (c_T_placeIn l B N6 (hT.mod hn9) v10 x0) rfl rfl (by decide) (Nat.le_of_ble_eq_true rfl) d_Group_keepersOf_21 (fun r15 N13 hq14 => ?_)
        obtain ⟨hk18, v17, rfl⟩ := hq14
        have hn16 : zMod B [] M N13 := hn9.call hk18 (by decide)
        show zW l m_Group_keepersOf (zn M + 0, zw M + 0) N13 24 [some (.ref q), some (.int x0), some (.int u1), some (.int u2)] [.int v17] (zqI B M [])
        refine zw_iload_n (pc := 24) (n := 1) (x := x0) rfl d_Group_keepersOf_24 ?_
        have j_34 : ∀ (u20 : Int32) (N21 : zMem) (hn22 : zMod B [] M N21), zW l m_Group_keepersOf (zn M + 0, zw M + 0) N21 34 [some (.ref q), some (.int x0), some (.int u20), some (.int u2)] [] (zqI B M []) := by
          intro u20 N21 hn22
          refine zw_iinc (pc := 34) (i := 3) (x := u2) (v := u2 + Int32.ofInt 1) (L2 := [some (.ref q), some (.int x0), some (.int u20), some (.int (u2 + Int32.ofInt 1))]) rfl rfl (by decide) rfl d_Group_keepersOf_34 ?_
          refine zw_goto (pc := 37) (tgt := 4) (by decide) d_Group_keepersOf_37 ?_
          exact ih_4 u20 (u2 + Int32.ofInt 1) N21 hn22 (Nat.lt_of_lt_of_le (z_up hc_9) (Nat.le_of_lt_succ hlt_4))
        refine zw_icmp_ne (pc := 25) (tgt := 34) (by decide) d_Group_keepersOf_25 (fun hc_25 => ?_) (fun hc_25 => ?_)
        · exact j_34 u1 N13 hn16
        · refine zw_iload_n (pc := 28) (n := 2) (x := u1) rfl d_Group_keepersOf_28 ?_
          refine zw_iconst (pc := 29) (v := 1) (by decide) d_Group_keepersOf_29 ?_
          refine zw_iload_n (pc := 30) (n := 3) (x := u2) rfl d_Group_keepersOf_30 ?_
          refine zw_ishl (pc := 31) d_Group_keepersOf_31 ?_
          refine zw_ior (pc := 32) d_Group_keepersOf_32 ?_
          refine zw_istore_n (pc := 33) (i := 2) (L2 := [some (.ref q), some (.int x0), some (.int (u1 ||| (1 <<< (u2 &&& 31)))), some (.int u2)]) rfl (by decide) rfl d_Group_keepersOf_33 ?_
          exact j_34 (u1 ||| (1 <<< (u2 &&& 31))) N13 hn16
  exact lp_4 _ 0 0 M hm (Nat.lt_succ_self _)
set_option maxHeartbeats 4000000 in
theorem c_T_keeper (l : Launch) (B : Nat) (M : zMem) (hT : zTy B M) (q : Nat) (hqB : q < B) (hqk : (zsh M q).1 = 0 + 3) (x0 : Int32) : zC l m_T_keeper 0 0 [.ref q, .int x0] M (zqI B M []) := by
  refine zC_of (L0 := [some (.ref q), some (.int x0)]) md_T_keeper (Nat.le_of_ble_eq_true rfl) rfl ?_ zQ0
  have hm : zMod B [] M M := zMod.rf
  refine zw_aload_n (pc := 0) (n := 0) (x := q) rfl d_T_keeper_0 ?_
  obtain ⟨r1, r1f, r1B, r1k⟩ := hT.1 q 0 2 hqB hqk (by decide) (by decide) rfl
  refine zc_getF hm (pc := 1) f_T_28 rfl hqk r1f d_T_keeper_1 ?_
  obtain ⟨r2, r2f, r2B, r2k⟩ := hT.1 r1 4 0 r1B r1k (by decide) (by decide) rfl
  refine zc_getF hm (pc := 4) f_T_61 rfl r1k r2f d_T_keeper_4 ?_
  refine zw_iload_n (pc := 7) (n := 1) (x := x0) rfl d_T_keeper_7 ?_
  refine zc_callV hm (pc := 8) [.int x0] [] l_T_111 (c_Group_hasPlace l B M (hT.mod hm) r2 r2B (hm.k r2k) x0) rfl rfl r2k (by decide) (by decide) (Nat.le_of_ble_eq_true rfl) d_T_keeper_8 (fun r5 N3 hq4 => ?_)
  obtain ⟨hk8, v7, rfl, zv7⟩ := hq4
  have hn6 : zMod B [] M N3 := hm.call hk8 (by decide)
  show zW l m_T_keeper (zn M + 0, zw M + 0) N3 11 [some (.ref q), some (.int x0)] [.int v7] (zqI B M [])
  refine zw_if_eq (pc := 11) (tgt := 28) (by decide) d_T_keeper_11 (fun hc_11 => ?_) (fun hc_11 => ?_)
  · refine zw_iconst (pc := 28) (v := (-1)) (by decide) d_T_keeper_28 ?_
    exact zw_iret (S := []) (pc := 29) (ty := .int) rfl rfl d_T_keeper_29 ⟨hn6, _, rfl⟩
  · refine zw_aload_n (pc := 14) (n := 0) (x := q) rfl d_T_keeper_14 ?_
    refine zc_getF hn6 (pc := 15) f_T_28 rfl hqk r1f d_T_keeper_15 ?_
    refine zc_getF hn6 (pc := 18) f_T_61 rfl r1k r2f d_T_keeper_18 ?_
    refine zw_iload_n (pc := 21) (n := 1) (x := x0) rfl d_T_keeper_21 ?_
    refine zc_callV hn6 (pc := 22) [.int x0] [] l_T_192 (c_Group_keepersOf l B N3 (hT.mod hn6) r2 r2B (hn6.k r2k) x0) rfl rfl r2k (by decide) (by decide) (Nat.le_of_ble_eq_true rfl) d_T_keeper_22 (fun r12 N10 hq11 => ?_)
    obtain ⟨hk15, v14, rfl⟩ := hq11
    have hn13 : zMod B [] M N10 := hn6.call hk15 (by decide)
    show zW l m_T_keeper (zn M + 0, zw M + 0) N10 25 [some (.ref q), some (.int x0)] [.int v14] (zqI B M [])
    refine zw_goto (pc := 25) (tgt := 29) (by decide) d_T_keeper_25 ?_
    exact zw_iret (S := []) (pc := 29) (ty := .int) rfl rfl d_T_keeper_29 ⟨hn13, _, rfl⟩
set_option maxHeartbeats 4000000 in
theorem c_Group_placesReached (l : Launch) (B : Nat) (M : zMem) (hT : zTy B M) (q : Nat) (hqB : q < B) (hqk : (zsh M q).1 = 5 + 3) (x0 : Int32) (x1 : Int32) : zC l m_Group_placesReached 0 0 [.ref q, .int x0, .int x1] M (zqI B M []) := by
  refine zC_of (L0 := [some (.ref q), some (.int x0), some (.int x1), none, none]) md_Group_placesReached (Nat.le_of_ble_eq_true rfl) rfl ?_ zQ0
  have hm : zMod B [] M M := zMod.rf
  refine zw_iconst (pc := 0) (v := 0) (by decide) d_Group_placesReached_0 ?_
  refine zw_istore_n (pc := 1) (i := 3) (L2 := [some (.ref q), some (.int x0), some (.int x1), some (.int 0), none]) rfl (by decide) rfl d_Group_placesReached_1 ?_
  refine zw_iconst (pc := 2) (v := 0) (by decide) d_Group_placesReached_2 ?_
  refine zw_istore (pc := 3) (i := 4) (L2 := [some (.ref q), some (.int x0), some (.int x1), some (.int 0), some (.int 0)]) (by decide) rfl d_Group_placesReached_3 ?_
  have lp_5 : ∀ (n : Nat) (u1 : Int32) (u2 : Int32) (N3 : zMem) (hn4 : zMod B [] M N3), zvu u2 (zi M q 7) < n → zW l m_Group_placesReached (zn M + 0, zw M + 0) N3 5 [some (.ref q), some (.int x0), some (.int x1), some (.int u1), some (.int u2)] [] (zqI B M []) := by
    intro n
    induction n with
    | zero =>
      intro u1 u2 N3 hn4 h0
      exact absurd h0 (Nat.not_lt_zero _)
    | succ n ih_5 =>
      intro u1 u2 N3 hn4 hlt_5
      refine zw_iload (pc := 5) (i := 4) (x := u2) rfl d_Group_placesReached_5 ?_
      refine zw_aload_n (pc := 7) (n := 0) (x := q) rfl d_Group_placesReached_7 ?_
      refine zc_getI0 hn4 (pc := 8) (by decide) f_Group_39 rfl hqk d_Group_placesReached_8 ?_
      refine zw_icmp_ge (pc := 11) (tgt := 47) (by decide) d_Group_placesReached_11 (fun hc_11 => ?_) (fun hc_11 => ?_)
      · refine zw_iload_n (pc := 47) (n := 3) (x := u1) rfl d_Group_placesReached_47 ?_
        exact zw_iret (S := []) (pc := 48) (ty := .int) rfl rfl d_Group_placesReached_48 ⟨hn4, _, rfl⟩
      · refine zw_iload_n (pc := 14) (n := 2) (x := x1) rfl d_Group_placesReached_14 ?_
        refine zw_iload (pc := 15) (i := 4) (x := u2) rfl d_Group_placesReached_15 ?_
        refine zc_callS hn4 (pc := 17) [.int x1, .int u2] [] l_Group_73 (c_T_isIn l B N3 (hT.mod hn4) x1 u2) rfl rfl (by decide) (Nat.le_of_ble_eq_true rfl) d_Group_placesReached_17 (fun r7 N5 hq6 => ?_)
        obtain ⟨hk10, v9, rfl, zv9⟩ := hq6
        have hn8 : zMod B [] M N5 := hn4.call hk10 (by decide)
        show zW l m_Group_placesReached (zn M + 0, zw M + 0) N5 20 [some (.ref q), some (.int x0), some (.int x1), some (.int u1), some (.int u2)] [.int v9] (zqI B M [])
        have j_41 : ∀ (u12 : Int32) (N13 : zMem) (hn14 : zMod B [] M N13), zW l m_Group_placesReached (zn M + 0, zw M + 0) N13 41 [some (.ref q), some (.int x0), some (.int x1), some (.int u12), some (.int u2)] [] (zqI B M []) := by
          intro u12 N13 hn14
          refine zw_iinc (pc := 41) (i := 4) (x := u2) (v := u2 + Int32.ofInt 1) (L2 := [some (.ref q), some (.int x0), some (.int x1), some (.int u12), some (.int (u2 + Int32.ofInt 1))]) rfl rfl (by decide) rfl d_Group_placesReached_41 ?_
          refine zw_goto (pc := 44) (tgt := 5) (by decide) d_Group_placesReached_44 ?_
          exact ih_5 u12 (u2 + Int32.ofInt 1) N13 hn14 (Nat.lt_of_lt_of_le (z_up hc_11) (Nat.le_of_lt_succ hlt_5))
        refine zw_if_eq (pc := 20) (tgt := 41) (by decide) d_Group_placesReached_20 (fun hc_20 => ?_) (fun hc_20 => ?_)
        · exact j_41 u1 N5 hn8
        · refine zw_iload_n (pc := 23) (n := 3) (x := u1) rfl d_Group_placesReached_23 ?_
          refine zw_iconst (pc := 24) (v := 1) (by decide) d_Group_placesReached_24 ?_
          refine zw_aload_n (pc := 25) (n := 0) (x := q) rfl d_Group_placesReached_25 ?_
          obtain ⟨r15, r15f, r15B, r15k⟩ := hT.1 q 5 1 hqB hqk (by decide) (by decide) rfl
          refine zc_getF hn8 (pc := 26) f_Group_20 rfl hqk r15f d_Group_placesReached_26 ?_
          refine zw_iload (pc := 29) (i := 4) (x := u2) rfl d_Group_placesReached_29 ?_
          refine zc_callV hn8 (pc := 31) [.int u2] [.int 1, .int u1] l_Group_54 (c_IntRow_at l B N5 (hT.mod hn8) r15 r15B (hn8.k r15k) u2) rfl rfl r15k (by decide) (by decide) (Nat.le_of_ble_eq_true rfl) d_Group_placesReached_31 (fun r18 N16 hq17 => ?_)
          obtain ⟨hk21, v20, rfl⟩ := hq17
          have hn19 : zMod B [] M N16 := hn8.call hk21 (by decide)
          show zW l m_Group_placesReached (zn M + 0, zw M + 0) N16 34 [some (.ref q), some (.int x0), some (.int x1), some (.int u1), some (.int u2)] [.int v20, .int 1, .int u1] (zqI B M [])
          refine zw_iload_n (pc := 34) (n := 1) (x := x0) rfl d_Group_placesReached_34 ?_
          refine zc_callS hn19 (pc := 35) [.int v20, .int x0] [.int 1, .int u1] l_Group_64 (c_T_placeIn l B N16 (hT.mod hn19) v20 x0) rfl rfl (by decide) (Nat.le_of_ble_eq_true rfl) d_Group_placesReached_35 (fun r25 N23 hq24 => ?_)
          obtain ⟨hk28, v27, rfl⟩ := hq24
          have hn26 : zMod B [] M N23 := hn19.call hk28 (by decide)
          show zW l m_Group_placesReached (zn M + 0, zw M + 0) N23 38 [some (.ref q), some (.int x0), some (.int x1), some (.int u1), some (.int u2)] [.int v27, .int 1, .int u1] (zqI B M [])
          refine zw_ishl (pc := 38) d_Group_placesReached_38 ?_
          refine zw_ior (pc := 39) d_Group_placesReached_39 ?_
          refine zw_istore_n (pc := 40) (i := 3) (L2 := [some (.ref q), some (.int x0), some (.int x1), some (.int (u1 ||| (1 <<< (v27 &&& 31)))), some (.int u2)]) rfl (by decide) rfl d_Group_placesReached_40 ?_
          exact j_41 (u1 ||| (1 <<< (v27 &&& 31))) N23 hn26
  exact lp_5 _ 0 0 M hm (Nat.lt_succ_self _)
set_option maxHeartbeats 4000000 in
theorem c_Group_reachOf (l : Launch) (B : Nat) (M : zMem) (hT : zTy B M) (q : Nat) (hqB : q < B) (hqk : (zsh M q).1 = 5 + 3) (x0 : Int32) : zC l m_Group_reachOf 0 0 [.ref q, .int x0] M (zqI B M []) := by
  refine zC_of (L0 := [some (.ref q), some (.int x0)]) md_Group_reachOf (Nat.le_of_ble_eq_true rfl) rfl ?_ zQ0
  have hm : zMod B [] M M := zMod.rf
  refine zw_aload_n (pc := 0) (n := 0) (x := q) rfl d_Group_reachOf_0 ?_
  refine zw_iload_n (pc := 1) (n := 1) (x := x0) rfl d_Group_reachOf_1 ?_
  refine zw_aload_n (pc := 2) (n := 0) (x := q) rfl d_Group_reachOf_2 ?_
  refine zc_callV hm (pc := 3) [] [.int x0, .ref q] l_Group_93 (c_Group_everyone l B M (hT.mod hm) q hqB (hm.k hqk)) rfl rfl hqk (by decide) (by decide) (Nat.le_of_ble_eq_true rfl) d_Group_reachOf_3 (fun r3 N1 hq2 => ?_)
  obtain ⟨hk6, v5, rfl⟩ := hq2
  have hn4 : zMod B [] M N1 := hm.call hk6 (by decide)
  show zW l m_Group_reachOf (zn M + 0, zw M + 0) N1 6 [some (.ref q), some (.int x0)] [.int v5, .int x0, .ref q] (zqI B M [])
  refine zc_callV hn4 (pc := 6) [.int x0, .int v5] [] l_Group_103 (c_Group_placesReached l B N1 (hT.mod hn4) q hqB (hn4.k hqk) x0 v5) rfl rfl hqk (by decide) (by decide) (Nat.le_of_ble_eq_true rfl) d_Group_reachOf_6 (fun r10 N8 hq9 => ?_)
  obtain ⟨hk13, v12, rfl⟩ := hq9
  have hn11 : zMod B [] M N8 := hn4.call hk13 (by decide)
  show zW l m_Group_reachOf (zn M + 0, zw M + 0) N8 9 [some (.ref q), some (.int x0)] [.int v12] (zqI B M [])
  exact zw_iret (S := []) (pc := 9) (ty := .int) rfl rfl d_Group_reachOf_9 ⟨hn11, _, rfl⟩
set_option maxHeartbeats 4000000 in
theorem c_T_orbit (l : Launch) (B : Nat) (M : zMem) (hT : zTy B M) (q : Nat) (hqB : q < B) (hqk : (zsh M q).1 = 0 + 3) (x0 : Int32) : zC l m_T_orbit 0 0 [.ref q, .int x0] M (zqI B M []) := by
  refine zC_of (L0 := [some (.ref q), some (.int x0)]) md_T_orbit (Nat.le_of_ble_eq_true rfl) rfl ?_ zQ0
  have hm : zMod B [] M M := zMod.rf
  refine zw_aload_n (pc := 0) (n := 0) (x := q) rfl d_T_orbit_0 ?_
  obtain ⟨r1, r1f, r1B, r1k⟩ := hT.1 q 0 2 hqB hqk (by decide) (by decide) rfl
  refine zc_getF hm (pc := 1) f_T_28 rfl hqk r1f d_T_orbit_1 ?_
  obtain ⟨r2, r2f, r2B, r2k⟩ := hT.1 r1 4 0 r1B r1k (by decide) (by decide) rfl
  refine zc_getF hm (pc := 4) f_T_61 rfl r1k r2f d_T_orbit_4 ?_
  refine zw_iload_n (pc := 7) (n := 1) (x := x0) rfl d_T_orbit_7 ?_
  refine zc_callV hm (pc := 8) [.int x0] [] l_T_111 (c_Group_hasPlace l B M (hT.mod hm) r2 r2B (hm.k r2k) x0) rfl rfl r2k (by decide) (by decide) (Nat.le_of_ble_eq_true rfl) d_T_orbit_8 (fun r5 N3 hq4 => ?_)
  obtain ⟨hk8, v7, rfl, zv7⟩ := hq4
  have hn6 : zMod B [] M N3 := hm.call hk8 (by decide)
  show zW l m_T_orbit (zn M + 0, zw M + 0) N3 11 [some (.ref q), some (.int x0)] [.int v7] (zqI B M [])
  refine zw_if_eq (pc := 11) (tgt := 28) (by decide) d_T_orbit_11 (fun hc_11 => ?_) (fun hc_11 => ?_)
  · refine zw_iconst (pc := 28) (v := (-1)) (by decide) d_T_orbit_28 ?_
    exact zw_iret (S := []) (pc := 29) (ty := .int) rfl rfl d_T_orbit_29 ⟨hn6, _, rfl⟩
  · refine zw_aload_n (pc := 14) (n := 0) (x := q) rfl d_T_orbit_14 ?_
    refine zc_getF hn6 (pc := 15) f_T_28 rfl hqk r1f d_T_orbit_15 ?_
    refine zc_getF hn6 (pc := 18) f_T_61 rfl r1k r2f d_T_orbit_18 ?_
    refine zw_iload_n (pc := 21) (n := 1) (x := x0) rfl d_T_orbit_21 ?_
    refine zc_callV hn6 (pc := 22) [.int x0] [] l_T_195 (c_Group_reachOf l B N3 (hT.mod hn6) r2 r2B (hn6.k r2k) x0) rfl rfl r2k (by decide) (by decide) (Nat.le_of_ble_eq_true rfl) d_T_orbit_22 (fun r12 N10 hq11 => ?_)
    obtain ⟨hk15, v14, rfl⟩ := hq11
    have hn13 : zMod B [] M N10 := hn6.call hk15 (by decide)
    show zW l m_T_orbit (zn M + 0, zw M + 0) N10 25 [some (.ref q), some (.int x0)] [.int v14] (zqI B M [])
    refine zw_goto (pc := 25) (tgt := 29) (by decide) d_T_orbit_25 ?_
    exact zw_iret (S := []) (pc := 29) (ty := .int) rfl rfl d_T_orbit_29 ⟨hn13, _, rfl⟩
set_option maxHeartbeats 4000000 in
theorem c_Group_leastOfCoset (l : Launch) (B : Nat) (M : zMem) (hT : zTy B M) (q : Nat) (hqB : q < B) (hqk : (zsh M q).1 = 5 + 3) (x0 : Int32) (x1 : Int32) : zC l m_Group_leastOfCoset 0 0 [.ref q, .int x0, .int x1] M (zqI B M []) := by
  refine zC_of (L0 := [some (.ref q), some (.int x0), some (.int x1), none, none]) md_Group_leastOfCoset (Nat.le_of_ble_eq_true rfl) rfl ?_ zQ0
  have hm : zMod B [] M M := zMod.rf
  refine zw_iload_n (pc := 0) (n := 2) (x := x1) rfl d_Group_leastOfCoset_0 ?_
  refine zw_istore_n (pc := 1) (i := 3) (L2 := [some (.ref q), some (.int x0), some (.int x1), some (.int x1), none]) rfl (by decide) rfl d_Group_leastOfCoset_1 ?_
  refine zw_iconst (pc := 2) (v := 0) (by decide) d_Group_leastOfCoset_2 ?_
  refine zw_istore (pc := 3) (i := 4) (L2 := [some (.ref q), some (.int x0), some (.int x1), some (.int x1), some (.int 0)]) (by decide) rfl d_Group_leastOfCoset_3 ?_
  have lp_5 : ∀ (n : Nat) (u1 : Int32) (u2 : Int32) (N3 : zMem) (hn4 : zMod B [] M N3), zvu u2 (zi M q 7) < n → zW l m_Group_leastOfCoset (zn M + 0, zw M + 0) N3 5 [some (.ref q), some (.int x0), some (.int x1), some (.int u1), some (.int u2)] [] (zqI B M []) := by
    intro n
    induction n with
    | zero =>
      intro u1 u2 N3 hn4 h0
      exact absurd h0 (Nat.not_lt_zero _)
    | succ n ih_5 =>
      intro u1 u2 N3 hn4 hlt_5
      refine zw_iload (pc := 5) (i := 4) (x := u2) rfl d_Group_leastOfCoset_5 ?_
      refine zw_aload_n (pc := 7) (n := 0) (x := q) rfl d_Group_leastOfCoset_7 ?_
      refine zc_getI0 hn4 (pc := 8) (by decide) f_Group_39 rfl hqk d_Group_leastOfCoset_8 ?_
      refine zw_icmp_ge (pc := 11) (tgt := 41) (by decide) d_Group_leastOfCoset_11 (fun hc_11 => ?_) (fun hc_11 => ?_)
      · refine zw_iload_n (pc := 41) (n := 3) (x := u1) rfl d_Group_leastOfCoset_41 ?_
        exact zw_iret (S := []) (pc := 42) (ty := .int) rfl rfl d_Group_leastOfCoset_42 ⟨hn4, _, rfl⟩
      · refine zw_iload_n (pc := 14) (n := 1) (x := x0) rfl d_Group_leastOfCoset_14 ?_
        refine zw_iload (pc := 15) (i := 4) (x := u2) rfl d_Group_leastOfCoset_15 ?_
        refine zc_callS hn4 (pc := 17) [.int x0, .int u2] [] l_Group_73 (c_T_isIn l B N3 (hT.mod hn4) x0 u2) rfl rfl (by decide) (Nat.le_of_ble_eq_true rfl) d_Group_leastOfCoset_17 (fun r7 N5 hq6 => ?_)
        obtain ⟨hk10, v9, rfl, zv9⟩ := hq6
        have hn8 : zMod B [] M N5 := hn4.call hk10 (by decide)
        show zW l m_Group_leastOfCoset (zn M + 0, zw M + 0) N5 20 [some (.ref q), some (.int x0), some (.int x1), some (.int u1), some (.int u2)] [.int v9] (zqI B M [])
        have j_35 : ∀ (u12 : Int32) (N13 : zMem) (hn14 : zMod B [] M N13), zW l m_Group_leastOfCoset (zn M + 0, zw M + 0) N13 35 [some (.ref q), some (.int x0), some (.int x1), some (.int u12), some (.int u2)] [] (zqI B M []) := by
          intro u12 N13 hn14
          refine zw_iinc (pc := 35) (i := 4) (x := u2) (v := u2 + Int32.ofInt 1) (L2 := [some (.ref q), some (.int x0), some (.int x1), some (.int u12), some (.int (u2 + Int32.ofInt 1))]) rfl rfl (by decide) rfl d_Group_leastOfCoset_35 ?_
          refine zw_goto (pc := 38) (tgt := 5) (by decide) d_Group_leastOfCoset_38 ?_
          exact ih_5 u12 (u2 + Int32.ofInt 1) N13 hn14 (Nat.lt_of_lt_of_le (z_up hc_11) (Nat.le_of_lt_succ hlt_5))
        refine zw_if_eq (pc := 20) (tgt := 35) (by decide) d_Group_leastOfCoset_20 (fun hc_20 => ?_) (fun hc_20 => ?_)
        · exact j_35 u1 N5 hn8
        · refine zw_iload_n (pc := 23) (n := 3) (x := u1) rfl d_Group_leastOfCoset_23 ?_
          refine zw_aload_n (pc := 24) (n := 0) (x := q) rfl d_Group_leastOfCoset_24 ?_
          refine zw_iload (pc := 25) (i := 4) (x := u2) rfl d_Group_leastOfCoset_25 ?_
          refine zw_iload_n (pc := 27) (n := 2) (x := x1) rfl d_Group_leastOfCoset_27 ?_
          refine zc_callV hn8 (pc := 28) [.int u2, .int x1] [.int u1] l_Group_67 (c_Group_both l B N5 (hT.mod hn8) q hqB (hn8.k hqk) u2 x1) rfl rfl hqk (by decide) (by decide) (Nat.le_of_ble_eq_true rfl) d_Group_leastOfCoset_28 (fun r17 N15 hq16 => ?_)
          obtain ⟨hk20, v19, rfl⟩ := hq16
          have hn18 : zMod B [] M N15 := hn8.call hk20 (by decide)
          show zW l m_Group_leastOfCoset (zn M + 0, zw M + 0) N15 31 [some (.ref q), some (.int x0), some (.int x1), some (.int u1), some (.int u2)] [.int v19, .int u1] (zqI B M [])
          refine zw_mmin (pc := 31) x_Group_88 (by decide) (Nat.le_of_ble_eq_true rfl) d_Group_leastOfCoset_31 (fun v22 hv22 => ?_)
          refine zw_istore_n (pc := 34) (i := 3) (L2 := [some (.ref q), some (.int x0), some (.int x1), some (.int v22), some (.int u2)]) rfl (by decide) rfl d_Group_leastOfCoset_34 ?_
          exact j_35 v22 N15 hn18
  exact lp_5 _ x1 0 M hm (Nat.lt_succ_self _)
set_option maxHeartbeats 4000000 in
theorem c_T_coset (l : Launch) (B : Nat) (M : zMem) (hT : zTy B M) (q : Nat) (hqB : q < B) (hqk : (zsh M q).1 = 0 + 3) (x0 : Int32) (x1 : Int32) : zC l m_T_coset 0 0 [.ref q, .int x0, .int x1] M (zqI B M []) := by
  refine zC_of (L0 := [some (.ref q), some (.int x0), some (.int x1)]) md_T_coset (Nat.le_of_ble_eq_true rfl) rfl ?_ zQ0
  have hm : zMod B [] M M := zMod.rf
  refine zw_aload_n (pc := 0) (n := 0) (x := q) rfl d_T_coset_0 ?_
  obtain ⟨r1, r1f, r1B, r1k⟩ := hT.1 q 0 2 hqB hqk (by decide) (by decide) rfl
  refine zc_getF hm (pc := 1) f_T_28 rfl hqk r1f d_T_coset_1 ?_
  obtain ⟨r2, r2f, r2B, r2k⟩ := hT.1 r1 4 1 r1B r1k (by decide) (by decide) rfl
  refine zc_getF hm (pc := 4) f_T_85 rfl r1k r2f d_T_coset_4 ?_
  refine zw_iload_n (pc := 7) (n := 1) (x := x0) rfl d_T_coset_7 ?_
  refine zc_callV hm (pc := 8) [.int x0] [] l_T_143 (c_Sorts_hasSort l B M (hT.mod hm) r2 r2B (hm.k r2k) x0) rfl rfl r2k (by decide) (by decide) (Nat.le_of_ble_eq_true rfl) d_T_coset_8 (fun r5 N3 hq4 => ?_)
  obtain ⟨hk8, v7, rfl, zv7⟩ := hq4
  have hn6 : zMod B [] M N3 := hm.call hk8 (by decide)
  show zW l m_T_coset (zn M + 0, zw M + 0) N3 11 [some (.ref q), some (.int x0), some (.int x1)] [.int v7] (zqI B M [])
  refine zw_if_eq (pc := 11) (tgt := 28) (by decide) d_T_coset_11 (fun hc_11 => ?_) (fun hc_11 => ?_)
  · refine zw_iconst (pc := 28) (v := (-1)) (by decide) d_T_coset_28 ?_
    exact zw_iret (S := []) (pc := 29) (ty := .int) rfl rfl d_T_coset_29 ⟨hn6, _, rfl⟩
  · refine zw_aload_n (pc := 14) (n := 0) (x := q) rfl d_T_coset_14 ?_
    refine zc_getF hn6 (pc := 15) f_T_28 rfl hqk r1f d_T_coset_15 ?_
    obtain ⟨r10, r10f, r10B, r10k⟩ := hT.1 r1 4 0 r1B r1k (by decide) (by decide) rfl
    refine zc_getF hn6 (pc := 18) f_T_61 rfl r1k r10f d_T_coset_18 ?_
    refine zw_iload_n (pc := 21) (n := 2) (x := x1) rfl d_T_coset_21 ?_
    refine zc_callV hn6 (pc := 22) [.int x1] [] l_T_108 (c_Group_hasMember l B N3 (hT.mod hn6) r10 r10B (hn6.k r10k) x1) rfl rfl r10k (by decide) (by decide) (Nat.le_of_ble_eq_true rfl) d_T_coset_22 (fun r13 N11 hq12 => ?_)
    obtain ⟨hk16, v15, rfl, zv15⟩ := hq12
    have hn14 : zMod B [] M N11 := hn6.call hk16 (by decide)
    show zW l m_T_coset (zn M + 0, zw M + 0) N11 25 [some (.ref q), some (.int x0), some (.int x1)] [.int v15] (zqI B M [])
    refine zw_if_ne (pc := 25) (tgt := 30) (by decide) d_T_coset_25 (fun hc_25 => ?_) (fun hc_25 => ?_)
    · refine zw_aload_n (pc := 30) (n := 0) (x := q) rfl d_T_coset_30 ?_
      refine zc_getF hn14 (pc := 31) f_T_28 rfl hqk r1f d_T_coset_31 ?_
      refine zc_getF hn14 (pc := 34) f_T_61 rfl r1k r10f d_T_coset_34 ?_
      refine zw_aload_n (pc := 37) (n := 0) (x := q) rfl d_T_coset_37 ?_
      refine zc_getF hn14 (pc := 38) f_T_28 rfl hqk r1f d_T_coset_38 ?_
      refine zc_getF hn14 (pc := 41) f_T_85 rfl r1k r2f d_T_coset_41 ?_
      obtain ⟨r18, r18f, r18B, r18k⟩ := hT.1 r2 6 4 r2B r2k (by decide) (by decide) rfl
      refine zc_getF hn14 (pc := 44) f_T_146 rfl r2k r18f d_T_coset_44 ?_
      refine zw_iload_n (pc := 47) (n := 1) (x := x0) rfl d_T_coset_47 ?_
      refine zc_callV hn14 (pc := 48) [.int x0] [.ref r10] l_T_118 (c_IntRow_at l B N11 (hT.mod hn14) r18 r18B (hn14.k r18k) x0) rfl rfl r18k (by decide) (by decide) (Nat.le_of_ble_eq_true rfl) d_T_coset_48 (fun r21 N19 hq20 => ?_)
      obtain ⟨hk24, v23, rfl⟩ := hq20
      have hn22 : zMod B [] M N19 := hn14.call hk24 (by decide)
      show zW l m_T_coset (zn M + 0, zw M + 0) N19 51 [some (.ref q), some (.int x0), some (.int x1)] [.int v23, .ref r10] (zqI B M [])
      refine zw_iload_n (pc := 51) (n := 2) (x := x1) rfl d_T_coset_51 ?_
      refine zc_callV hn22 (pc := 52) [.int v23, .int x1] [] l_T_198 (c_Group_leastOfCoset l B N19 (hT.mod hn22) r10 r10B (hn22.k r10k) v23 x1) rfl rfl r10k (by decide) (by decide) (Nat.le_of_ble_eq_true rfl) d_T_coset_52 (fun r28 N26 hq27 => ?_)
      obtain ⟨hk31, v30, rfl⟩ := hq27
      have hn29 : zMod B [] M N26 := hn22.call hk31 (by decide)
      show zW l m_T_coset (zn M + 0, zw M + 0) N26 55 [some (.ref q), some (.int x0), some (.int x1)] [.int v30] (zqI B M [])
      exact zw_iret (S := []) (pc := 55) (ty := .int) rfl rfl d_T_coset_55 ⟨hn29, _, rfl⟩
    · refine zw_iconst (pc := 28) (v := (-1)) (by decide) d_T_coset_28 ?_
      exact zw_iret (S := []) (pc := 29) (ty := .int) rfl rfl d_T_coset_29 ⟨hn14, _, rfl⟩
set_option maxHeartbeats 4000000 in
theorem c_T_takes (l : Launch) (B : Nat) (M : zMem) (hT : zTy B M) (q : Nat) (hqB : q < B) (hqk : (zsh M q).1 = 0 + 3) (x0 : Int32) (x1 : Int32) (x2 : Int32) : zC l m_T_takes 0 0 [.ref q, .int x0, .int x1, .int x2] M (zqI B M []) := by
  refine zC_of (L0 := [some (.ref q), some (.int x0), some (.int x1), some (.int x2)]) md_T_takes (Nat.le_of_ble_eq_true rfl) rfl ?_ zQ0
  have hm : zMod B [] M M := zMod.rf
  refine zw_aload_n (pc := 0) (n := 0) (x := q) rfl d_T_takes_0 ?_
  obtain ⟨r1, r1f, r1B, r1k⟩ := hT.1 q 0 2 hqB hqk (by decide) (by decide) rfl
  refine zc_getF hm (pc := 1) f_T_28 rfl hqk r1f d_T_takes_1 ?_
  obtain ⟨r2, r2f, r2B, r2k⟩ := hT.1 r1 4 1 r1B r1k (by decide) (by decide) rfl
  refine zc_getF hm (pc := 4) f_T_85 rfl r1k r2f d_T_takes_4 ?_
  refine zw_iload_n (pc := 7) (n := 1) (x := x0) rfl d_T_takes_7 ?_
  refine zc_callV hm (pc := 8) [.int x0] [] l_T_143 (c_Sorts_hasSort l B M (hT.mod hm) r2 r2B (hm.k r2k) x0) rfl rfl r2k (by decide) (by decide) (Nat.le_of_ble_eq_true rfl) d_T_takes_8 (fun r5 N3 hq4 => ?_)
  obtain ⟨hk8, v7, rfl, zv7⟩ := hq4
  have hn6 : zMod B [] M N3 := hm.call hk8 (by decide)
  show zW l m_T_takes (zn M + 0, zw M + 0) N3 11 [some (.ref q), some (.int x0), some (.int x1), some (.int x2)] [.int v7] (zqI B M [])
  refine zw_if_eq (pc := 11) (tgt := 42) (by decide) d_T_takes_11 (fun hc_11 => ?_) (fun hc_11 => ?_)
  · refine zw_iconst (pc := 42) (v := (-1)) (by decide) d_T_takes_42 ?_
    exact zw_iret (S := []) (pc := 43) (ty := .int) rfl rfl d_T_takes_43 ⟨hn6, _, rfl⟩
  · refine zw_aload_n (pc := 14) (n := 0) (x := q) rfl d_T_takes_14 ?_
    refine zc_getF hn6 (pc := 15) f_T_28 rfl hqk r1f d_T_takes_15 ?_
    obtain ⟨r10, r10f, r10B, r10k⟩ := hT.1 r1 4 0 r1B r1k (by decide) (by decide) rfl
    refine zc_getF hn6 (pc := 18) f_T_61 rfl r1k r10f d_T_takes_18 ?_
    refine zw_iload_n (pc := 21) (n := 2) (x := x1) rfl d_T_takes_21 ?_
    refine zc_callV hn6 (pc := 22) [.int x1] [] l_T_108 (c_Group_hasMember l B N3 (hT.mod hn6) r10 r10B (hn6.k r10k) x1) rfl rfl r10k (by decide) (by decide) (Nat.le_of_ble_eq_true rfl) d_T_takes_22 (fun r13 N11 hq12 => ?_)
    obtain ⟨hk16, v15, rfl, zv15⟩ := hq12
    have hn14 : zMod B [] M N11 := hn6.call hk16 (by decide)
    show zW l m_T_takes (zn M + 0, zw M + 0) N11 25 [some (.ref q), some (.int x0), some (.int x1), some (.int x2)] [.int v15] (zqI B M [])
    refine zw_if_eq (pc := 25) (tgt := 42) (by decide) d_T_takes_25 (fun hc_25 => ?_) (fun hc_25 => ?_)
    · refine zw_iconst (pc := 42) (v := (-1)) (by decide) d_T_takes_42 ?_
      exact zw_iret (S := []) (pc := 43) (ty := .int) rfl rfl d_T_takes_43 ⟨hn14, _, rfl⟩
    · refine zw_aload_n (pc := 28) (n := 0) (x := q) rfl d_T_takes_28 ?_
      refine zc_getF hn14 (pc := 29) f_T_28 rfl hqk r1f d_T_takes_29 ?_
      refine zc_getF hn14 (pc := 32) f_T_61 rfl r1k r10f d_T_takes_32 ?_
      refine zw_iload_n (pc := 35) (n := 3) (x := x2) rfl d_T_takes_35 ?_
      refine zc_callV hn14 (pc := 36) [.int x2] [] l_T_108 (c_Group_hasMember l B N11 (hT.mod hn14) r10 r10B (hn14.k r10k) x2) rfl rfl r10k (by decide) (by decide) (Nat.le_of_ble_eq_true rfl) d_T_takes_36 (fun r20 N18 hq19 => ?_)
      obtain ⟨hk23, v22, rfl, zv22⟩ := hq19
      have hn21 : zMod B [] M N18 := hn14.call hk23 (by decide)
      show zW l m_T_takes (zn M + 0, zw M + 0) N18 39 [some (.ref q), some (.int x0), some (.int x1), some (.int x2)] [.int v22] (zqI B M [])
      refine zw_if_ne (pc := 39) (tgt := 44) (by decide) d_T_takes_39 (fun hc_39 => ?_) (fun hc_39 => ?_)
      · refine zw_aload_n (pc := 44) (n := 0) (x := q) rfl d_T_takes_44 ?_
        refine zc_getF hn21 (pc := 45) f_T_28 rfl hqk r1f d_T_takes_45 ?_
        refine zc_getF hn21 (pc := 48) f_T_61 rfl r1k r10f d_T_takes_48 ?_
        refine zw_aload_n (pc := 51) (n := 0) (x := q) rfl d_T_takes_51 ?_
        refine zc_getF hn21 (pc := 52) f_T_28 rfl hqk r1f d_T_takes_52 ?_
        refine zc_getF hn21 (pc := 55) f_T_85 rfl r1k r2f d_T_takes_55 ?_
        obtain ⟨r25, r25f, r25B, r25k⟩ := hT.1 r2 6 4 r2B r2k (by decide) (by decide) rfl
        refine zc_getF hn21 (pc := 58) f_T_146 rfl r2k r25f d_T_takes_58 ?_
        refine zw_iload_n (pc := 61) (n := 1) (x := x0) rfl d_T_takes_61 ?_
        refine zc_callV hn21 (pc := 62) [.int x0] [.ref r10] l_T_118 (c_IntRow_at l B N18 (hT.mod hn21) r25 r25B (hn21.k r25k) x0) rfl rfl r25k (by decide) (by decide) (Nat.le_of_ble_eq_true rfl) d_T_takes_62 (fun r28 N26 hq27 => ?_)
        obtain ⟨hk31, v30, rfl⟩ := hq27
        have hn29 : zMod B [] M N26 := hn21.call hk31 (by decide)
        show zW l m_T_takes (zn M + 0, zw M + 0) N26 65 [some (.ref q), some (.int x0), some (.int x1), some (.int x2)] [.int v30, .ref r10] (zqI B M [])
        refine zw_aload_n (pc := 65) (n := 0) (x := q) rfl d_T_takes_65 ?_
        refine zc_getF hn29 (pc := 66) f_T_28 rfl hqk r1f d_T_takes_66 ?_
        refine zc_getF hn29 (pc := 69) f_T_61 rfl r1k r10f d_T_takes_69 ?_
        refine zw_iload_n (pc := 72) (n := 2) (x := x1) rfl d_T_takes_72 ?_
        refine zw_iload_n (pc := 73) (n := 3) (x := x2) rfl d_T_takes_73 ?_
        refine zc_callV hn29 (pc := 74) [.int x1, .int x2] [.int v30, .ref r10] l_T_128 (c_Group_both l B N26 (hT.mod hn29) r10 r10B (hn29.k r10k) x1 x2) rfl rfl r10k (by decide) (by decide) (Nat.le_of_ble_eq_true rfl) d_T_takes_74 (fun r35 N33 hq34 => ?_)
        obtain ⟨hk38, v37, rfl⟩ := hq34
        have hn36 : zMod B [] M N33 := hn29.call hk38 (by decide)
        show zW l m_T_takes (zn M + 0, zw M + 0) N33 77 [some (.ref q), some (.int x0), some (.int x1), some (.int x2)] [.int v37, .int v30, .ref r10] (zqI B M [])
        refine zc_callV hn36 (pc := 77) [.int v30, .int v37] [] l_T_198 (c_Group_leastOfCoset l B N33 (hT.mod hn36) r10 r10B (hn36.k r10k) v30 v37) rfl rfl r10k (by decide) (by decide) (Nat.le_of_ble_eq_true rfl) d_T_takes_77 (fun r42 N40 hq41 => ?_)
        obtain ⟨hk45, v44, rfl⟩ := hq41
        have hn43 : zMod B [] M N40 := hn36.call hk45 (by decide)
        show zW l m_T_takes (zn M + 0, zw M + 0) N40 80 [some (.ref q), some (.int x0), some (.int x1), some (.int x2)] [.int v44] (zqI B M [])
        exact zw_iret (S := []) (pc := 80) (ty := .int) rfl rfl d_T_takes_80 ⟨hn43, _, rfl⟩
      · refine zw_iconst (pc := 42) (v := (-1)) (by decide) d_T_takes_42 ?_
        exact zw_iret (S := []) (pc := 43) (ty := .int) rfl rfl d_T_takes_43 ⟨hn21, _, rfl⟩
set_option maxHeartbeats 4000000 in
theorem c_Sorts_moebiusOf (l : Launch) (B : Nat) (M : zMem) (hT : zTy B M) (q : Nat) (hqB : q < B) (hqk : (zsh M q).1 = 6 + 3) (x0 : Int32) : zC l m_Sorts_moebiusOf 0 0 [.ref q, .int x0] M (zqI B M []) := by
  refine zC_of (L0 := [some (.ref q), some (.int x0), none, none, none, none]) md_Sorts_moebiusOf (Nat.le_of_ble_eq_true rfl) rfl ?_ zQ0
  have hm : zMod B [] M M := zMod.rf
  refine zw_iconst (pc := 0) (v := 0) (by decide) d_Sorts_moebiusOf_0 ?_
  refine zw_istore_n (pc := 1) (i := 2) (L2 := [some (.ref q), some (.int x0), some (.int 0), none, none, none]) rfl (by decide) rfl d_Sorts_moebiusOf_1 ?_
  refine zw_aload_n (pc := 2) (n := 0) (x := q) rfl d_Sorts_moebiusOf_2 ?_
  refine zc_getI0 hm (pc := 3) (by decide) f_Sorts_36 rfl hqk d_Sorts_moebiusOf_3 ?_
  refine zw_iconst (pc := 6) (v := 1) (by decide) d_Sorts_moebiusOf_6 ?_
  refine zw_isub (pc := 7) d_Sorts_moebiusOf_7 ?_
  refine zw_istore_n (pc := 8) (i := 3) (L2 := [some (.ref q), some (.int x0), some (.int 0), some (.int ((zi M q 6) - 1)), none, none]) rfl (by decide) rfl d_Sorts_moebiusOf_8 ?_
  have lp_9 : ∀ (n : Nat) (u1 : Int32) (u2 : Int32) (N3 : zMem) (hn4 : zMod B [] M N3), zve u2 < n → zW l m_Sorts_moebiusOf (zn M + 0, zw M + 0) N3 9 [some (.ref q), some (.int x0), some (.int u1), some (.int u2), none, none] [] (zqI B M []) := by
    intro n
    induction n with
    | zero =>
      intro u1 u2 N3 hn4 h0
      exact absurd h0 (Nat.not_lt_zero _)
    | succ n ih_9 =>
      intro u1 u2 N3 hn4 hlt_9
      refine zw_iload_n (pc := 9) (n := 3) (x := u2) rfl d_Sorts_moebiusOf_9 ?_
      refine zw_if_lt (pc := 10) (tgt := 118) (by decide) d_Sorts_moebiusOf_10 (fun hc_10 => ?_) (fun hc_10 => ?_)
      · refine zw_iload_n (pc := 118) (n := 2) (x := u1) rfl d_Sorts_moebiusOf_118 ?_
        exact zw_iret (S := []) (pc := 119) (ty := .int) rfl rfl d_Sorts_moebiusOf_119 ⟨hn4, _, rfl⟩
      · refine zw_iload_n (pc := 13) (n := 3) (x := u2) rfl d_Sorts_moebiusOf_13 ?_
        refine zw_aload_n (pc := 14) (n := 0) (x := q) rfl d_Sorts_moebiusOf_14 ?_
        refine zc_getI0 hn4 (pc := 15) (by decide) f_Sorts_36 rfl hqk d_Sorts_moebiusOf_15 ?_
        refine zw_iconst (pc := 18) (v := 1) (by decide) d_Sorts_moebiusOf_18 ?_
        refine zw_isub (pc := 19) d_Sorts_moebiusOf_19 ?_
        have j_28 : ∀ (u5 : Int32) (hu5 : u5 = 0 ∨ u5 = 1) (N6 : zMem) (hn7 : zMod B [] M N6), zW l m_Sorts_moebiusOf (zn M + 0, zw M + 0) N6 28 [some (.ref q), some (.int x0), some (.int u1), some (.int u2), none, none] [.int u5] (zqI B M []) := by
          intro u5 hu5 N6 hn7
          refine zw_istore (pc := 28) (i := 4) (L2 := [some (.ref q), some (.int x0), some (.int u1), some (.int u2), some (.int u5), none]) (by decide) rfl d_Sorts_moebiusOf_28 ?_
          refine zw_iload_n (pc := 30) (n := 3) (x := u2) rfl d_Sorts_moebiusOf_30 ?_
          refine zw_iconst (pc := 31) (v := 1) (by decide) d_Sorts_moebiusOf_31 ?_
          refine zw_iadd (pc := 32) d_Sorts_moebiusOf_32 ?_
          refine zw_istore (pc := 33) (i := 5) (L2 := [some (.ref q), some (.int x0), some (.int u1), some (.int u2), some (.int u5), some (.int (u2 + 1))]) (by decide) rfl d_Sorts_moebiusOf_33 ?_
          have lp_35 : ∀ (n : Nat) (u8 : Int32) (u9 : Int32) (N10 : zMem) (hn11 : zMod B [] M N10), zvu u9 (zi M q 6) < n → zW l m_Sorts_moebiusOf (zn M + 0, zw M + 0) N10 35 [some (.ref q), some (.int x0), some (.int u1), some (.int u2), some (.int u8), some (.int u9)] [] (zqI B M []) := by
            intro n
            induction n with
            | zero =>
              intro u8 u9 N10 hn11 h0
              exact absurd h0 (Nat.not_lt_zero _)
            | succ n ih_35 =>
              intro u8 u9 N10 hn11 hlt_35
              refine zw_iload (pc := 35) (i := 5) (x := u9) rfl d_Sorts_moebiusOf_35 ?_
              refine zw_aload_n (pc := 37) (n := 0) (x := q) rfl d_Sorts_moebiusOf_37 ?_
              refine zc_getI0 hn11 (pc := 38) (by decide) f_Sorts_36 rfl hqk d_Sorts_moebiusOf_38 ?_
              refine zw_icmp_ge (pc := 41) (tgt := 87) (by decide) d_Sorts_moebiusOf_41 (fun hc_41 => ?_) (fun hc_41 => ?_)
              · refine zw_aload_n (pc := 87) (n := 0) (x := q) rfl d_Sorts_moebiusOf_87 ?_
                obtain ⟨r12, r12f, r12B, r12k⟩ := hT.1 q 6 3 hqB hqk (by decide) (by decide) rfl
                refine zc_getF hn11 (pc := 88) f_Sorts_23 rfl hqk r12f d_Sorts_moebiusOf_88 ?_
                refine zw_iload_n (pc := 91) (n := 3) (x := u2) rfl d_Sorts_moebiusOf_91 ?_
                refine zw_iload (pc := 92) (i := 4) (x := u8) rfl d_Sorts_moebiusOf_92 ?_
                refine zc_callV hn11 (pc := 94) [.int u2, .int u8] [] l_Sorts_40 (c_IntRow_put l B N10 (hT.mod hn11) r12 r12B (hn11.k r12k) u2 u8) rfl rfl r12k (by decide) (by decide) (Nat.le_of_ble_eq_true rfl) d_Sorts_moebiusOf_94 (fun r15 N13 hq14 => ?_)
                obtain ⟨hk18, rfl⟩ := hq14
                have hn16 : zMod B [] M N13 := hn11.call hk18 (by decide)
                show zW l m_Sorts_moebiusOf (zn M + 0, zw M + 0) N13 97 [some (.ref q), some (.int x0), some (.int u1), some (.int u2), some (.int u8), some (.int u9)] [] (zqI B M [])
                refine zw_aload_n (pc := 97) (n := 0) (x := q) rfl d_Sorts_moebiusOf_97 ?_
                obtain ⟨r20, r20f, r20B, r20k⟩ := hT.1 q 6 2 hqB hqk (by decide) (by decide) rfl
                refine zc_getF hn16 (pc := 98) f_Sorts_20 rfl hqk r20f d_Sorts_moebiusOf_98 ?_
                refine zw_iload_n (pc := 101) (n := 3) (x := u2) rfl d_Sorts_moebiusOf_101 ?_
                refine zc_callV hn16 (pc := 102) [.int u2] [] l_Sorts_49 (c_IntRow_at l B N13 (hT.mod hn16) r20 r20B (hn16.k r20k) u2) rfl rfl r20k (by decide) (by decide) (Nat.le_of_ble_eq_true rfl) d_Sorts_moebiusOf_102 (fun r23 N21 hq22 => ?_)
                obtain ⟨hk26, v25, rfl⟩ := hq22
                have hn24 : zMod B [] M N21 := hn16.call hk26 (by decide)
                show zW l m_Sorts_moebiusOf (zn M + 0, zw M + 0) N21 105 [some (.ref q), some (.int x0), some (.int u1), some (.int u2), some (.int u8), some (.int u9)] [.int v25] (zqI B M [])
                refine zw_iload_n (pc := 105) (n := 1) (x := x0) rfl d_Sorts_moebiusOf_105 ?_
                have j_112 : ∀ (u28 : Int32) (N29 : zMem) (hn30 : zMod B [] M N29), zW l m_Sorts_moebiusOf (zn M + 0, zw M + 0) N29 112 [some (.ref q), some (.int x0), some (.int u28), some (.int u2), some (.int u8), some (.int u9)] [] (zqI B M []) := by
                  intro u28 N29 hn30
                  refine zw_iinc (pc := 112) (i := 3) (x := u2) (v := u2 + Int32.ofInt (-1)) (L2 := [some (.ref q), some (.int x0), some (.int u28), some (.int (u2 + Int32.ofInt (-1))), some (.int u8), some (.int u9)]) rfl rfl (by decide) rfl d_Sorts_moebiusOf_112 ?_
                  refine zw_goto (pc := 115) (tgt := 9) (by decide) d_Sorts_moebiusOf_115 ?_
                  refine zW_le [some (.ref q), some (.int x0), some (.int u28), some (.int (u2 + Int32.ofInt (-1))), none, none] (⟨rfl, rfl, rfl, rfl, trivial⟩) ?_
                  exact ih_9 u28 (u2 + Int32.ofInt (-1)) N29 hn30 (Nat.lt_of_lt_of_le (z_dn0 hc_10) (Nat.le_of_lt_succ hlt_9))
                refine zw_icmp_ne (pc := 106) (tgt := 112) (by decide) d_Sorts_moebiusOf_106 (fun hc_106 => ?_) (fun hc_106 => ?_)
                · exact j_112 u1 N21 hn24
                · refine zw_iload (pc := 109) (i := 4) (x := u8) rfl d_Sorts_moebiusOf_109 ?_
                  refine zw_istore_n (pc := 111) (i := 2) (L2 := [some (.ref q), some (.int x0), some (.int u8), some (.int u2), some (.int u8), some (.int u9)]) rfl (by decide) rfl d_Sorts_moebiusOf_111 ?_
                  exact j_112 u8 N21 hn24
              · refine zw_aload_n (pc := 44) (n := 0) (x := q) rfl d_Sorts_moebiusOf_44 ?_
                obtain ⟨r31, r31f, r31B, r31k⟩ := hT.1 q 6 1 hqB hqk (by decide) (by decide) rfl
                refine zc_getF hn11 (pc := 45) f_Sorts_14 rfl hqk r31f d_Sorts_moebiusOf_45 ?_
                refine zw_iload_n (pc := 48) (n := 3) (x := u2) rfl d_Sorts_moebiusOf_48 ?_
                refine zc_callV hn11 (pc := 49) [.int u2] [] l_Sorts_49 (c_IntRow_at l B N10 (hT.mod hn11) r31 r31B (hn11.k r31k) u2) rfl rfl r31k (by decide) (by decide) (Nat.le_of_ble_eq_true rfl) d_Sorts_moebiusOf_49 (fun r34 N32 hq33 => ?_)
                obtain ⟨hk37, v36, rfl⟩ := hq33
                have hn35 : zMod B [] M N32 := hn11.call hk37 (by decide)
                show zW l m_Sorts_moebiusOf (zn M + 0, zw M + 0) N32 52 [some (.ref q), some (.int x0), some (.int u1), some (.int u2), some (.int u8), some (.int u9)] [.int v36] (zqI B M [])
                refine zw_aload_n (pc := 52) (n := 0) (x := q) rfl d_Sorts_moebiusOf_52 ?_
                refine zc_getF hn35 (pc := 53) f_Sorts_14 rfl hqk r31f d_Sorts_moebiusOf_53 ?_
                refine zw_iload (pc := 56) (i := 5) (x := u9) rfl d_Sorts_moebiusOf_56 ?_
                refine zc_callV hn35 (pc := 58) [.int u9] [.int v36] l_Sorts_49 (c_IntRow_at l B N32 (hT.mod hn35) r31 r31B (hn35.k r31k) u9) rfl rfl r31k (by decide) (by decide) (Nat.le_of_ble_eq_true rfl) d_Sorts_moebiusOf_58 (fun r41 N39 hq40 => ?_)
                obtain ⟨hk44, v43, rfl⟩ := hq40
                have hn42 : zMod B [] M N39 := hn35.call hk44 (by decide)
                show zW l m_Sorts_moebiusOf (zn M + 0, zw M + 0) N39 61 [some (.ref q), some (.int x0), some (.int u1), some (.int u2), some (.int u8), some (.int u9)] [.int v43, .int v36] (zqI B M [])
                refine zc_callS hn42 (pc := 61) [.int v36, .int v43] [] l_Sorts_96 (c_T_isPart l B N39 (hT.mod hn42) v36 v43) rfl rfl (by decide) (Nat.le_of_ble_eq_true rfl) d_Sorts_moebiusOf_61 (fun r48 N46 hq47 => ?_)
                obtain ⟨hk51, v50, rfl, zv50⟩ := hq47
                have hn49 : zMod B [] M N46 := hn42.call hk51 (by decide)
                show zW l m_Sorts_moebiusOf (zn M + 0, zw M + 0) N46 64 [some (.ref q), some (.int x0), some (.int u1), some (.int u2), some (.int u8), some (.int u9)] [.int v50] (zqI B M [])
                have j_81 : ∀ (u53 : Int32) (N54 : zMem) (hn55 : zMod B [] M N54), zW l m_Sorts_moebiusOf (zn M + 0, zw M + 0) N54 81 [some (.ref q), some (.int x0), some (.int u1), some (.int u2), some (.int u53), some (.int u9)] [] (zqI B M []) := by
                  intro u53 N54 hn55
                  refine zw_iinc (pc := 81) (i := 5) (x := u9) (v := u9 + Int32.ofInt 1) (L2 := [some (.ref q), some (.int x0), some (.int u1), some (.int u2), some (.int u53), some (.int (u9 + Int32.ofInt 1))]) rfl rfl (by decide) rfl d_Sorts_moebiusOf_81 ?_
                  refine zw_goto (pc := 84) (tgt := 35) (by decide) d_Sorts_moebiusOf_84 ?_
                  exact ih_35 u53 (u9 + Int32.ofInt 1) N54 hn55 (Nat.lt_of_lt_of_le (z_up hc_41) (Nat.le_of_lt_succ hlt_35))
                refine zw_if_eq (pc := 64) (tgt := 81) (by decide) d_Sorts_moebiusOf_64 (fun hc_64 => ?_) (fun hc_64 => ?_)
                · exact j_81 u8 N46 hn49
                · refine zw_iload (pc := 67) (i := 4) (x := u8) rfl d_Sorts_moebiusOf_67 ?_
                  refine zw_aload_n (pc := 69) (n := 0) (x := q) rfl d_Sorts_moebiusOf_69 ?_
                  obtain ⟨r56, r56f, r56B, r56k⟩ := hT.1 q 6 3 hqB hqk (by decide) (by decide) rfl
                  refine zc_getF hn49 (pc := 70) f_Sorts_23 rfl hqk r56f d_Sorts_moebiusOf_70 ?_
                  refine zw_iload (pc := 73) (i := 5) (x := u9) rfl d_Sorts_moebiusOf_73 ?_
                  refine zc_callV hn49 (pc := 75) [.int u9] [.int u8] l_Sorts_49 (c_IntRow_at l B N46 (hT.mod hn49) r56 r56B (hn49.k r56k) u9) rfl rfl r56k (by decide) (by decide) (Nat.le_of_ble_eq_true rfl) d_Sorts_moebiusOf_75 (fun r59 N57 hq58 => ?_)
                  obtain ⟨hk62, v61, rfl⟩ := hq58
                  have hn60 : zMod B [] M N57 := hn49.call hk62 (by decide)
                  show zW l m_Sorts_moebiusOf (zn M + 0, zw M + 0) N57 78 [some (.ref q), some (.int x0), some (.int u1), some (.int u2), some (.int u8), some (.int u9)] [.int v61, .int u8] (zqI B M [])
                  refine zw_isub (pc := 78) d_Sorts_moebiusOf_78 ?_
                  refine zw_istore (pc := 79) (i := 4) (L2 := [some (.ref q), some (.int x0), some (.int u1), some (.int u2), some (.int (u8 - v61)), some (.int u9)]) (by decide) rfl d_Sorts_moebiusOf_79 ?_
                  exact j_81 (u8 - v61) N57 hn60
          exact lp_35 _ u5 (u2 + 1) N6 hn7 (Nat.lt_succ_self _)
        refine zw_icmp_ne (pc := 20) (tgt := 27) (by decide) d_Sorts_moebiusOf_20 (fun hc_20 => ?_) (fun hc_20 => ?_)
        · refine zw_iconst (pc := 27) (v := 0) (by decide) d_Sorts_moebiusOf_27 ?_
          exact j_28 0 (Or.inl rfl) N3 hn4
        · refine zw_iconst (pc := 23) (v := 1) (by decide) d_Sorts_moebiusOf_23 ?_
          refine zw_goto (pc := 24) (tgt := 28) (by decide) d_Sorts_moebiusOf_24 ?_
          exact j_28 1 (Or.inr rfl) N3 hn4
  exact lp_9 _ 0 ((zi M q 6) - 1) M hm (Nat.lt_succ_self _)
set_option maxHeartbeats 4000000 in
theorem c_T_moebius (l : Launch) (B : Nat) (M : zMem) (hT : zTy B M) (q : Nat) (hqB : q < B) (hqk : (zsh M q).1 = 0 + 3) (x0 : Int32) : zC l m_T_moebius 0 0 [.ref q, .int x0] M (zqI B M []) := by
  refine zC_of (L0 := [some (.ref q), some (.int x0)]) md_T_moebius (Nat.le_of_ble_eq_true rfl) rfl ?_ zQ0
  have hm : zMod B [] M M := zMod.rf
  refine zw_aload_n (pc := 0) (n := 0) (x := q) rfl d_T_moebius_0 ?_
  obtain ⟨r1, r1f, r1B, r1k⟩ := hT.1 q 0 2 hqB hqk (by decide) (by decide) rfl
  refine zc_getF hm (pc := 1) f_T_28 rfl hqk r1f d_T_moebius_1 ?_
  obtain ⟨r2, r2f, r2B, r2k⟩ := hT.1 r1 4 1 r1B r1k (by decide) (by decide) rfl
  refine zc_getF hm (pc := 4) f_T_85 rfl r1k r2f d_T_moebius_4 ?_
  refine zw_iload_n (pc := 7) (n := 1) (x := x0) rfl d_T_moebius_7 ?_
  refine zc_callV hm (pc := 8) [.int x0] [] l_T_143 (c_Sorts_hasSort l B M (hT.mod hm) r2 r2B (hm.k r2k) x0) rfl rfl r2k (by decide) (by decide) (Nat.le_of_ble_eq_true rfl) d_T_moebius_8 (fun r5 N3 hq4 => ?_)
  obtain ⟨hk8, v7, rfl, zv7⟩ := hq4
  have hn6 : zMod B [] M N3 := hm.call hk8 (by decide)
  show zW l m_T_moebius (zn M + 0, zw M + 0) N3 11 [some (.ref q), some (.int x0)] [.int v7] (zqI B M [])
  refine zw_if_eq (pc := 11) (tgt := 28) (by decide) d_T_moebius_11 (fun hc_11 => ?_) (fun hc_11 => ?_)
  · refine zw_ldc (pc := 28) k_T_204 d_T_moebius_28 ?_
    exact zw_iret (S := []) (pc := 30) (ty := .int) rfl rfl d_T_moebius_30 ⟨hn6, _, rfl⟩
  · refine zw_aload_n (pc := 14) (n := 0) (x := q) rfl d_T_moebius_14 ?_
    refine zc_getF hn6 (pc := 15) f_T_28 rfl hqk r1f d_T_moebius_15 ?_
    refine zc_getF hn6 (pc := 18) f_T_85 rfl r1k r2f d_T_moebius_18 ?_
    refine zw_iload_n (pc := 21) (n := 1) (x := x0) rfl d_T_moebius_21 ?_
    refine zc_callV hn6 (pc := 22) [.int x0] [] l_T_201 (c_Sorts_moebiusOf l B N3 (hT.mod hn6) r2 r2B (hn6.k r2k) x0) rfl rfl r2k (by decide) (by decide) (Nat.le_of_ble_eq_true rfl) d_T_moebius_22 (fun r12 N10 hq11 => ?_)
    obtain ⟨hk15, v14, rfl⟩ := hq11
    have hn13 : zMod B [] M N10 := hn6.call hk15 (by decide)
    show zW l m_T_moebius (zn M + 0, zw M + 0) N10 25 [some (.ref q), some (.int x0)] [.int v14] (zqI B M [])
    refine zw_goto (pc := 25) (tgt := 30) (by decide) d_T_moebius_25 ?_
    exact zw_iret (S := []) (pc := 30) (ty := .int) rfl rfl d_T_moebius_30 ⟨hn13, _, rfl⟩
set_option maxHeartbeats 4000000 in
theorem c_Group_mixturesOf (l : Launch) (B : Nat) (M : zMem) (hT : zTy B M) (q : Nat) (hqB : q < B) (hqk : (zsh M q).1 = 5 + 3) (x0 : Int32) : zC l m_Group_mixturesOf 0 0 [.ref q, .int x0] M (zqI B M []) := by
  refine zC_of (L0 := [some (.ref q), some (.int x0), none, none, none, none]) md_Group_mixturesOf (Nat.le_of_ble_eq_true rfl) rfl ?_ zQ0
  have hm : zMod B [] M M := zMod.rf
  refine zw_iconst (pc := 0) (v := 0) (by decide) d_Group_mixturesOf_0 ?_
  refine zw_istore_n (pc := 1) (i := 2) (L2 := [some (.ref q), some (.int x0), some (.int 0), none, none, none]) rfl (by decide) rfl d_Group_mixturesOf_1 ?_
  refine zw_iconst (pc := 2) (v := 0) (by decide) d_Group_mixturesOf_2 ?_
  refine zw_istore_n (pc := 3) (i := 3) (L2 := [some (.ref q), some (.int x0), some (.int 0), some (.int 0), none, none]) rfl (by decide) rfl d_Group_mixturesOf_3 ?_
  have lp_4 : ∀ (n : Nat) (u1 : Int32) (u2 : Int32) (N3 : zMem) (hn4 : zMod B [] M N3), zvu u2 (zi M q 7) < n → zW l m_Group_mixturesOf (zn M + 0, zw M + 0) N3 4 [some (.ref q), some (.int x0), some (.int u1), some (.int u2), none, none] [] (zqI B M []) := by
    intro n
    induction n with
    | zero =>
      intro u1 u2 N3 hn4 h0
      exact absurd h0 (Nat.not_lt_zero _)
    | succ n ih_4 =>
      intro u1 u2 N3 hn4 hlt_4
      refine zw_iload_n (pc := 4) (n := 3) (x := u2) rfl d_Group_mixturesOf_4 ?_
      refine zw_aload_n (pc := 5) (n := 0) (x := q) rfl d_Group_mixturesOf_5 ?_
      refine zc_getI0 hn4 (pc := 6) (by decide) f_Group_39 rfl hqk d_Group_mixturesOf_6 ?_
      refine zw_icmp_ge (pc := 9) (tgt := 94) (by decide) d_Group_mixturesOf_9 (fun hc_9 => ?_) (fun hc_9 => ?_)
      · refine zw_iload_n (pc := 94) (n := 2) (x := u1) rfl d_Group_mixturesOf_94 ?_
        exact zw_iret (S := []) (pc := 95) (ty := .int) rfl rfl d_Group_mixturesOf_95 ⟨hn4, _, rfl⟩
      · refine zw_iconst (pc := 12) (v := 0) (by decide) d_Group_mixturesOf_12 ?_
        refine zw_istore (pc := 13) (i := 4) (L2 := [some (.ref q), some (.int x0), some (.int u1), some (.int u2), some (.int 0), none]) (by decide) rfl d_Group_mixturesOf_13 ?_
        have lp_15 : ∀ (n : Nat) (u5 : Int32) (u6 : Int32) (N7 : zMem) (hn8 : zMod B [] M N7), zvu u6 (zi M q 7) < n → zW l m_Group_mixturesOf (zn M + 0, zw M + 0) N7 15 [some (.ref q), some (.int x0), some (.int u5), some (.int u2), some (.int u6), none] [] (zqI B M []) := by
          intro n
          induction n with
          | zero =>
            intro u5 u6 N7 hn8 h0
            exact absurd h0 (Nat.not_lt_zero _)
          | succ n ih_15 =>
            intro u5 u6 N7 hn8 hlt_15
            refine zw_iload (pc := 15) (i := 4) (x := u6) rfl d_Group_mixturesOf_15 ?_
            refine zw_aload_n (pc := 17) (n := 0) (x := q) rfl d_Group_mixturesOf_17 ?_
            refine zc_getI0 hn8 (pc := 18) (by decide) f_Group_39 rfl hqk d_Group_mixturesOf_18 ?_
            refine zw_icmp_ge (pc := 21) (tgt := 88) (by decide) d_Group_mixturesOf_21 (fun hc_21 => ?_) (fun hc_21 => ?_)
            · refine zw_iinc (pc := 88) (i := 3) (x := u2) (v := u2 + Int32.ofInt 1) (L2 := [some (.ref q), some (.int x0), some (.int u5), some (.int (u2 + Int32.ofInt 1)), some (.int u6), none]) rfl rfl (by decide) rfl d_Group_mixturesOf_88 ?_
              refine zw_goto (pc := 91) (tgt := 4) (by decide) d_Group_mixturesOf_91 ?_
              refine zW_le [some (.ref q), some (.int x0), some (.int u5), some (.int (u2 + Int32.ofInt 1)), none, none] (⟨rfl, rfl, rfl, rfl, trivial⟩) ?_
              exact ih_4 u5 (u2 + Int32.ofInt 1) N7 hn8 (Nat.lt_of_lt_of_le (z_up hc_9) (Nat.le_of_lt_succ hlt_4))
            · refine zw_iload_n (pc := 24) (n := 1) (x := x0) rfl d_Group_mixturesOf_24 ?_
              refine zw_iload_n (pc := 25) (n := 3) (x := u2) rfl d_Group_mixturesOf_25 ?_
              refine zc_callS hn8 (pc := 26) [.int x0, .int u2] [] l_Group_73 (c_T_isIn l B N7 (hT.mod hn8) x0 u2) rfl rfl (by decide) (Nat.le_of_ble_eq_true rfl) d_Group_mixturesOf_26 (fun r11 N9 hq10 => ?_)
              obtain ⟨hk14, v13, rfl, zv13⟩ := hq10
              have hn12 : zMod B [] M N9 := hn8.call hk14 (by decide)
              show zW l m_Group_mixturesOf (zn M + 0, zw M + 0) N9 29 [some (.ref q), some (.int x0), some (.int u5), some (.int u2), some (.int u6), none] [.int v13] (zqI B M [])
              have j_82 : ∀ (u16 : Int32) (N17 : zMem) (hn18 : zMod B [] M N17), zW l m_Group_mixturesOf (zn M + 0, zw M + 0) N17 82 [some (.ref q), some (.int x0), some (.int u16), some (.int u2), some (.int u6), none] [] (zqI B M []) := by
                intro u16 N17 hn18
                refine zw_iinc (pc := 82) (i := 4) (x := u6) (v := u6 + Int32.ofInt 1) (L2 := [some (.ref q), some (.int x0), some (.int u16), some (.int u2), some (.int (u6 + Int32.ofInt 1)), none]) rfl rfl (by decide) rfl d_Group_mixturesOf_82 ?_
                refine zw_goto (pc := 85) (tgt := 15) (by decide) d_Group_mixturesOf_85 ?_
                exact ih_15 u16 (u6 + Int32.ofInt 1) N17 hn18 (Nat.lt_of_lt_of_le (z_up hc_21) (Nat.le_of_lt_succ hlt_15))
              refine zw_if_eq (pc := 29) (tgt := 82) (by decide) d_Group_mixturesOf_29 (fun hc_29 => ?_) (fun hc_29 => ?_)
              · exact j_82 u5 N9 hn12
              · refine zw_iload_n (pc := 32) (n := 1) (x := x0) rfl d_Group_mixturesOf_32 ?_
                refine zw_iload (pc := 33) (i := 4) (x := u6) rfl d_Group_mixturesOf_33 ?_
                refine zc_callS hn12 (pc := 35) [.int x0, .int u6] [] l_Group_73 (c_T_isIn l B N9 (hT.mod hn12) x0 u6) rfl rfl (by decide) (Nat.le_of_ble_eq_true rfl) d_Group_mixturesOf_35 (fun r21 N19 hq20 => ?_)
                obtain ⟨hk24, v23, rfl, zv23⟩ := hq20
                have hn22 : zMod B [] M N19 := hn12.call hk24 (by decide)
                show zW l m_Group_mixturesOf (zn M + 0, zw M + 0) N19 38 [some (.ref q), some (.int x0), some (.int u5), some (.int u2), some (.int u6), none] [.int v23] (zqI B M [])
                refine zw_if_eq (pc := 38) (tgt := 82) (by decide) d_Group_mixturesOf_38 (fun hc_38 => ?_) (fun hc_38 => ?_)
                · exact j_82 u5 N19 hn22
                · refine zw_aload_n (pc := 41) (n := 0) (x := q) rfl d_Group_mixturesOf_41 ?_
                  refine zw_aload_n (pc := 42) (n := 0) (x := q) rfl d_Group_mixturesOf_42 ?_
                  obtain ⟨r26, r26f, r26B, r26k⟩ := hT.1 q 5 3 hqB hqk (by decide) (by decide) rfl
                  refine zc_getF hn22 (pc := 43) f_Group_26 rfl hqk r26f d_Group_mixturesOf_43 ?_
                  refine zw_iload_n (pc := 46) (n := 3) (x := u2) rfl d_Group_mixturesOf_46 ?_
                  refine zc_callV hn22 (pc := 47) [.int u2] [.ref q] l_Group_54 (c_IntRow_at l B N19 (hT.mod hn22) r26 r26B (hn22.k r26k) u2) rfl rfl r26k (by decide) (by decide) (Nat.le_of_ble_eq_true rfl) d_Group_mixturesOf_47 (fun r29 N27 hq28 => ?_)
                  obtain ⟨hk32, v31, rfl⟩ := hq28
                  have hn30 : zMod B [] M N27 := hn22.call hk32 (by decide)
                  show zW l m_Group_mixturesOf (zn M + 0, zw M + 0) N27 50 [some (.ref q), some (.int x0), some (.int u5), some (.int u2), some (.int u6), none] [.int v31, .ref q] (zqI B M [])
                  refine zw_aload_n (pc := 50) (n := 0) (x := q) rfl d_Group_mixturesOf_50 ?_
                  refine zc_getF hn30 (pc := 51) f_Group_26 rfl hqk r26f d_Group_mixturesOf_51 ?_
                  refine zw_iload (pc := 54) (i := 4) (x := u6) rfl d_Group_mixturesOf_54 ?_
                  refine zc_callV hn30 (pc := 56) [.int u6] [.int v31, .ref q] l_Group_54 (c_IntRow_at l B N27 (hT.mod hn30) r26 r26B (hn30.k r26k) u6) rfl rfl r26k (by decide) (by decide) (Nat.le_of_ble_eq_true rfl) d_Group_mixturesOf_56 (fun r36 N34 hq35 => ?_)
                  obtain ⟨hk39, v38, rfl⟩ := hq35
                  have hn37 : zMod B [] M N34 := hn30.call hk39 (by decide)
                  show zW l m_Group_mixturesOf (zn M + 0, zw M + 0) N34 59 [some (.ref q), some (.int x0), some (.int u5), some (.int u2), some (.int u6), none] [.int v38, .int v31, .ref q] (zqI B M [])
                  refine zc_callV hn37 (pc := 59) [.int v31, .int v38] [] l_Group_67 (c_Group_both l B N34 (hT.mod hn37) q hqB (hn37.k hqk) v31 v38) rfl rfl hqk (by decide) (by decide) (Nat.le_of_ble_eq_true rfl) d_Group_mixturesOf_59 (fun r43 N41 hq42 => ?_)
                  obtain ⟨hk46, v45, rfl⟩ := hq42
                  have hn44 : zMod B [] M N41 := hn37.call hk46 (by decide)
                  show zW l m_Group_mixturesOf (zn M + 0, zw M + 0) N41 62 [some (.ref q), some (.int x0), some (.int u5), some (.int u2), some (.int u6), none] [.int v45] (zqI B M [])
                  refine zw_istore (pc := 62) (i := 5) (L2 := [some (.ref q), some (.int x0), some (.int u5), some (.int u2), some (.int u6), some (.int v45)]) (by decide) rfl d_Group_mixturesOf_62 ?_
                  refine zw_iload_n (pc := 64) (n := 2) (x := u5) rfl d_Group_mixturesOf_64 ?_
                  refine zw_iconst (pc := 65) (v := 1) (by decide) d_Group_mixturesOf_65 ?_
                  refine zw_aload_n (pc := 66) (n := 0) (x := q) rfl d_Group_mixturesOf_66 ?_
                  refine zw_iload (pc := 67) (i := 5) (x := v45) rfl d_Group_mixturesOf_67 ?_
                  refine zw_aload_n (pc := 69) (n := 0) (x := q) rfl d_Group_mixturesOf_69 ?_
                  refine zw_iload_n (pc := 70) (n := 3) (x := u2) rfl d_Group_mixturesOf_70 ?_
                  refine zw_iload (pc := 71) (i := 4) (x := u6) rfl d_Group_mixturesOf_71 ?_
                  refine zc_callV hn44 (pc := 73) [.int u2, .int u6] [.int v45, .ref q, .int 1, .int u5] l_Group_67 (c_Group_both l B N41 (hT.mod hn44) q hqB (hn44.k hqk) u2 u6) rfl rfl hqk (by decide) (by decide) (Nat.le_of_ble_eq_true rfl) d_Group_mixturesOf_73 (fun r50 N48 hq49 => ?_)
                  obtain ⟨hk53, v52, rfl⟩ := hq49
                  have hn51 : zMod B [] M N48 := hn44.call hk53 (by decide)
                  show zW l m_Group_mixturesOf (zn M + 0, zw M + 0) N48 76 [some (.ref q), some (.int x0), some (.int u5), some (.int u2), some (.int u6), some (.int v45)] [.int v52, .int v45, .ref q, .int 1, .int u5] (zqI B M [])
                  refine zc_callV hn51 (pc := 76) [.int v45, .int v52] [.int 1, .int u5] l_Group_67 (c_Group_both l B N48 (hT.mod hn51) q hqB (hn51.k hqk) v45 v52) rfl rfl hqk (by decide) (by decide) (Nat.le_of_ble_eq_true rfl) d_Group_mixturesOf_76 (fun r57 N55 hq56 => ?_)
                  obtain ⟨hk60, v59, rfl⟩ := hq56
                  have hn58 : zMod B [] M N55 := hn51.call hk60 (by decide)
                  show zW l m_Group_mixturesOf (zn M + 0, zw M + 0) N55 79 [some (.ref q), some (.int x0), some (.int u5), some (.int u2), some (.int u6), some (.int v45)] [.int v59, .int 1, .int u5] (zqI B M [])
                  refine zw_ishl (pc := 79) d_Group_mixturesOf_79 ?_
                  refine zw_ior (pc := 80) d_Group_mixturesOf_80 ?_
                  refine zw_istore_n (pc := 81) (i := 2) (L2 := [some (.ref q), some (.int x0), some (.int (u5 ||| (1 <<< (v59 &&& 31)))), some (.int u2), some (.int u6), some (.int v45)]) rfl (by decide) rfl d_Group_mixturesOf_81 ?_
                  refine zW_le [some (.ref q), some (.int x0), some (.int (u5 ||| (1 <<< (v59 &&& 31)))), some (.int u2), some (.int u6), none] (⟨rfl, rfl, rfl, rfl, rfl, trivial⟩) ?_
                  exact j_82 (u5 ||| (1 <<< (v59 &&& 31))) N55 hn58
        exact lp_15 _ u1 0 N3 hn4 (Nat.lt_succ_self _)
  exact lp_4 _ 0 0 M hm (Nat.lt_succ_self _)
set_option maxHeartbeats 4000000 in
theorem c_T_mixed (l : Launch) (B : Nat) (M : zMem) (hT : zTy B M) (q : Nat) (hqB : q < B) (hqk : (zsh M q).1 = 0 + 3) (x0 : Int32) : zC l m_T_mixed 0 0 [.ref q, .int x0] M (zqI B M []) := by
  refine zC_of (L0 := [some (.ref q), some (.int x0)]) md_T_mixed (Nat.le_of_ble_eq_true rfl) rfl ?_ zQ0
  have hm : zMod B [] M M := zMod.rf
  refine zw_aload_n (pc := 0) (n := 0) (x := q) rfl d_T_mixed_0 ?_
  obtain ⟨r1, r1f, r1B, r1k⟩ := hT.1 q 0 2 hqB hqk (by decide) (by decide) rfl
  refine zc_getF hm (pc := 1) f_T_28 rfl hqk r1f d_T_mixed_1 ?_
  obtain ⟨r2, r2f, r2B, r2k⟩ := hT.1 r1 4 1 r1B r1k (by decide) (by decide) rfl
  refine zc_getF hm (pc := 4) f_T_85 rfl r1k r2f d_T_mixed_4 ?_
  refine zw_iload_n (pc := 7) (n := 1) (x := x0) rfl d_T_mixed_7 ?_
  refine zc_callV hm (pc := 8) [.int x0] [] l_T_143 (c_Sorts_hasSort l B M (hT.mod hm) r2 r2B (hm.k r2k) x0) rfl rfl r2k (by decide) (by decide) (Nat.le_of_ble_eq_true rfl) d_T_mixed_8 (fun r5 N3 hq4 => ?_)
  obtain ⟨hk8, v7, rfl, zv7⟩ := hq4
  have hn6 : zMod B [] M N3 := hm.call hk8 (by decide)
  show zW l m_T_mixed (zn M + 0, zw M + 0) N3 11 [some (.ref q), some (.int x0)] [.int v7] (zqI B M [])
  refine zw_if_ne (pc := 11) (tgt := 16) (by decide) d_T_mixed_11 (fun hc_11 => ?_) (fun hc_11 => ?_)
  · refine zw_aload_n (pc := 16) (n := 0) (x := q) rfl d_T_mixed_16 ?_
    refine zc_getF hn6 (pc := 17) f_T_28 rfl hqk r1f d_T_mixed_17 ?_
    refine zc_getF hn6 (pc := 20) f_T_85 rfl r1k r2f d_T_mixed_20 ?_
    refine zw_aload_n (pc := 23) (n := 0) (x := q) rfl d_T_mixed_23 ?_
    refine zc_getF hn6 (pc := 24) f_T_28 rfl hqk r1f d_T_mixed_24 ?_
    obtain ⟨r10, r10f, r10B, r10k⟩ := hT.1 r1 4 0 r1B r1k (by decide) (by decide) rfl
    refine zc_getF hn6 (pc := 27) f_T_61 rfl r1k r10f d_T_mixed_27 ?_
    refine zw_aload_n (pc := 30) (n := 0) (x := q) rfl d_T_mixed_30 ?_
    refine zc_getF hn6 (pc := 31) f_T_28 rfl hqk r1f d_T_mixed_31 ?_
    refine zc_getF hn6 (pc := 34) f_T_85 rfl r1k r2f d_T_mixed_34 ?_
    obtain ⟨r11, r11f, r11B, r11k⟩ := hT.1 r2 6 4 r2B r2k (by decide) (by decide) rfl
    refine zc_getF hn6 (pc := 37) f_T_146 rfl r2k r11f d_T_mixed_37 ?_
    refine zw_iload_n (pc := 40) (n := 1) (x := x0) rfl d_T_mixed_40 ?_
    refine zc_callV hn6 (pc := 41) [.int x0] [.ref r10, .ref r2] l_T_118 (c_IntRow_at l B N3 (hT.mod hn6) r11 r11B (hn6.k r11k) x0) rfl rfl r11k (by decide) (by decide) (Nat.le_of_ble_eq_true rfl) d_T_mixed_41 (fun r14 N12 hq13 => ?_)
    obtain ⟨hk17, v16, rfl⟩ := hq13
    have hn15 : zMod B [] M N12 := hn6.call hk17 (by decide)
    show zW l m_T_mixed (zn M + 0, zw M + 0) N12 44 [some (.ref q), some (.int x0)] [.int v16, .ref r10, .ref r2] (zqI B M [])
    refine zc_callV hn15 (pc := 44) [.int v16] [.ref r2] l_T_205 (c_Group_mixturesOf l B N12 (hT.mod hn15) r10 r10B (hn15.k r10k) v16) rfl rfl r10k (by decide) (by decide) (Nat.le_of_ble_eq_true rfl) d_T_mixed_44 (fun r21 N19 hq20 => ?_)
    obtain ⟨hk24, v23, rfl⟩ := hq20
    have hn22 : zMod B [] M N19 := hn15.call hk24 (by decide)
    show zW l m_T_mixed (zn M + 0, zw M + 0) N19 47 [some (.ref q), some (.int x0)] [.int v23, .ref r2] (zqI B M [])
    refine zc_callV hn22 (pc := 47) [.int v23] [] l_T_140 (c_Sorts_spannedSort l B N19 (hT.mod hn22) r2 r2B (hn22.k r2k) v23) rfl rfl r2k (by decide) (by decide) (Nat.le_of_ble_eq_true rfl) d_T_mixed_47 (fun r28 N26 hq27 => ?_)
    obtain ⟨hk31, v30, rfl⟩ := hq27
    have hn29 : zMod B [] M N26 := hn22.call hk31 (by decide)
    show zW l m_T_mixed (zn M + 0, zw M + 0) N26 50 [some (.ref q), some (.int x0)] [.int v30] (zqI B M [])
    exact zw_iret (S := []) (pc := 50) (ty := .int) rfl rfl d_T_mixed_50 ⟨hn29, _, rfl⟩
  · refine zw_iconst (pc := 14) (v := (-1)) (by decide) d_T_mixed_14 ?_
    exact zw_iret (S := []) (pc := 15) (ty := .int) rfl rfl d_T_mixed_15 ⟨hn6, _, rfl⟩
set_option maxHeartbeats 4000000 in
theorem c_T_centre (l : Launch) (B : Nat) (M : zMem) (hT : zTy B M) (q : Nat) (hqB : q < B) (hqk : (zsh M q).1 = 0 + 3) (x0 : Int32) : zC l m_T_centre 0 0 [.ref q, .int x0] M (zqI B M []) := by
  refine zC_of (L0 := [some (.ref q), some (.int x0)]) md_T_centre (Nat.le_of_ble_eq_true rfl) rfl ?_ zQ0
  have hm : zMod B [] M M := zMod.rf
  refine zw_aload_n (pc := 0) (n := 0) (x := q) rfl d_T_centre_0 ?_
  obtain ⟨r1, r1f, r1B, r1k⟩ := hT.1 q 0 2 hqB hqk (by decide) (by decide) rfl
  refine zc_getF hm (pc := 1) f_T_28 rfl hqk r1f d_T_centre_1 ?_
  obtain ⟨r2, r2f, r2B, r2k⟩ := hT.1 r1 4 1 r1B r1k (by decide) (by decide) rfl
  refine zc_getF hm (pc := 4) f_T_85 rfl r1k r2f d_T_centre_4 ?_
  refine zw_iload_n (pc := 7) (n := 1) (x := x0) rfl d_T_centre_7 ?_
  refine zc_callV hm (pc := 8) [.int x0] [] l_T_143 (c_Sorts_hasSort l B M (hT.mod hm) r2 r2B (hm.k r2k) x0) rfl rfl r2k (by decide) (by decide) (Nat.le_of_ble_eq_true rfl) d_T_centre_8 (fun r5 N3 hq4 => ?_)
  obtain ⟨hk8, v7, rfl, zv7⟩ := hq4
  have hn6 : zMod B [] M N3 := hm.call hk8 (by decide)
  show zW l m_T_centre (zn M + 0, zw M + 0) N3 11 [some (.ref q), some (.int x0)] [.int v7] (zqI B M [])
  refine zw_if_eq (pc := 11) (tgt := 41) (by decide) d_T_centre_11 (fun hc_11 => ?_) (fun hc_11 => ?_)
  · refine zw_iconst (pc := 41) (v := (-1)) (by decide) d_T_centre_41 ?_
    exact zw_iret (S := []) (pc := 42) (ty := .int) rfl rfl d_T_centre_42 ⟨hn6, _, rfl⟩
  · refine zw_aload_n (pc := 14) (n := 0) (x := q) rfl d_T_centre_14 ?_
    refine zc_getF hn6 (pc := 15) f_T_28 rfl hqk r1f d_T_centre_15 ?_
    obtain ⟨r10, r10f, r10B, r10k⟩ := hT.1 r1 4 0 r1B r1k (by decide) (by decide) rfl
    refine zc_getF hn6 (pc := 18) f_T_61 rfl r1k r10f d_T_centre_18 ?_
    refine zw_aload_n (pc := 21) (n := 0) (x := q) rfl d_T_centre_21 ?_
    refine zc_getF hn6 (pc := 22) f_T_28 rfl hqk r1f d_T_centre_22 ?_
    refine zc_getF hn6 (pc := 25) f_T_85 rfl r1k r2f d_T_centre_25 ?_
    obtain ⟨r11, r11f, r11B, r11k⟩ := hT.1 r2 6 4 r2B r2k (by decide) (by decide) rfl
    refine zc_getF hn6 (pc := 28) f_T_146 rfl r2k r11f d_T_centre_28 ?_
    refine zw_iload_n (pc := 31) (n := 1) (x := x0) rfl d_T_centre_31 ?_
    refine zc_callV hn6 (pc := 32) [.int x0] [.ref r10] l_T_118 (c_IntRow_at l B N3 (hT.mod hn6) r11 r11B (hn6.k r11k) x0) rfl rfl r11k (by decide) (by decide) (Nat.le_of_ble_eq_true rfl) d_T_centre_32 (fun r14 N12 hq13 => ?_)
    obtain ⟨hk17, v16, rfl⟩ := hq13
    have hn15 : zMod B [] M N12 := hn6.call hk17 (by decide)
    show zW l m_T_centre (zn M + 0, zw M + 0) N12 35 [some (.ref q), some (.int x0)] [.int v16, .ref r10] (zqI B M [])
    refine zc_callV hn15 (pc := 35) [.int v16] [] l_T_208 (c_Group_centreOf l B N12 (hT.mod hn15) r10 r10B (hn15.k r10k) v16) rfl rfl r10k (by decide) (by decide) (Nat.le_of_ble_eq_true rfl) d_T_centre_35 (fun r21 N19 hq20 => ?_)
    obtain ⟨hk24, v23, rfl⟩ := hq20
    have hn22 : zMod B [] M N19 := hn15.call hk24 (by decide)
    show zW l m_T_centre (zn M + 0, zw M + 0) N19 38 [some (.ref q), some (.int x0)] [.int v23] (zqI B M [])
    refine zw_goto (pc := 38) (tgt := 42) (by decide) d_T_centre_38 ?_
    exact zw_iret (S := []) (pc := 42) (ty := .int) rfl rfl d_T_centre_42 ⟨hn22, _, rfl⟩
set_option maxHeartbeats 4000000 in
theorem c_Sums_totalOfWork (l : Launch) (B : Nat) (M : zMem) (hT : zTy B M) (q : Nat) (hqB : q < B) (hqk : (zsh M q).1 = 7 + 3) : zC l m_Sums_totalOfWork 0 0 [.ref q] M (zqI B M []) := by
  refine zC_of (L0 := [some (.ref q), none, none, none]) md_Sums_totalOfWork (Nat.le_of_ble_eq_true rfl) rfl ?_ zQ0
  have hm : zMod B [] M M := zMod.rf
  refine zw_lconst (pc := 0) (v := 0) (by decide) d_Sums_totalOfWork_0 ?_
  refine zw_lstore_n (pc := 1) (i := 1) (L2 := [some (.ref q), some (.long 0), none, none]) rfl (by decide) rfl d_Sums_totalOfWork_1 ?_
  refine zw_iconst (pc := 2) (v := 0) (by decide) d_Sums_totalOfWork_2 ?_
  refine zw_istore_n (pc := 3) (i := 3) (L2 := [some (.ref q), some (.long 0), none, some (.int 0)]) rfl (by decide) rfl d_Sums_totalOfWork_3 ?_
  obtain ⟨r5, r5f, r5B, r5k⟩ := hT.1 q 7 0 hqB hqk (by decide) (by decide) rfl
  have lp_4 : ∀ (n : Nat) (u1 : Int64) (u2 : Int32) (N3 : zMem) (hn4 : zMod B [] M N3), zvu u2 (zi M r5 7) < n → zW l m_Sums_totalOfWork (zn M + 0, zw M + 0) N3 4 [some (.ref q), some (.long u1), none, some (.int u2)] [] (zqI B M []) := by
    intro n
    induction n with
    | zero =>
      intro u1 u2 N3 hn4 h0
      exact absurd h0 (Nat.not_lt_zero _)
    | succ n ih_4 =>
      intro u1 u2 N3 hn4 hlt_4
      refine zw_iload_n (pc := 4) (n := 3) (x := u2) rfl d_Sums_totalOfWork_4 ?_
      refine zw_aload_n (pc := 5) (n := 0) (x := q) rfl d_Sums_totalOfWork_5 ?_
      refine zc_getF hn4 (pc := 6) f_Sums_23 rfl hqk r5f d_Sums_totalOfWork_6 ?_
      refine zc_getI0 hn4 (pc := 9) (by decide) f_Sums_35 rfl r5k d_Sums_totalOfWork_9 ?_
      refine zw_icmp_ge (pc := 12) (tgt := 31) (by decide) d_Sums_totalOfWork_12 (fun hc_12 => ?_) (fun hc_12 => ?_)
      · refine zw_lload_n (pc := 31) (n := 1) (x := u1) rfl d_Sums_totalOfWork_31 ?_
        refine zw_l2i (pc := 32) d_Sums_totalOfWork_32 ?_
        exact zw_iret (S := []) (pc := 33) (ty := .int) rfl rfl d_Sums_totalOfWork_33 ⟨hn4, _, rfl⟩
      · refine zw_lload_n (pc := 15) (n := 1) (x := u1) rfl d_Sums_totalOfWork_15 ?_
        refine zw_aload_n (pc := 16) (n := 0) (x := q) rfl d_Sums_totalOfWork_16 ?_
        refine zw_bipush (pc := 17) (v := 39) (by decide) d_Sums_totalOfWork_17 ?_
        refine zw_iload_n (pc := 19) (n := 3) (x := u2) rfl d_Sums_totalOfWork_19 ?_
        refine zc_callV hn4 (pc := 20) [.int 39, .int u2] [.long u1] l_Sums_67 (c_Sums_numberAt l B N3 (hT.mod hn4) q hqB (hn4.k hqk) 39 u2) rfl rfl hqk (by decide) (by decide) (Nat.le_of_ble_eq_true rfl) d_Sums_totalOfWork_20 (fun r8 N6 hq7 => ?_)
        obtain ⟨hk11, v10, rfl⟩ := hq7
        have hn9 : zMod B [] M N6 := hn4.call hk11 (by decide)
        show zW l m_Sums_totalOfWork (zn M + 0, zw M + 0) N6 23 [some (.ref q), some (.long u1), none, some (.int u2)] [.long v10, .long u1] (zqI B M [])
        refine zw_ladd (pc := 23) d_Sums_totalOfWork_23 ?_
        refine zw_lstore_n (pc := 24) (i := 1) (L2 := [some (.ref q), some (.long (u1 + v10)), none, some (.int u2)]) rfl (by decide) rfl d_Sums_totalOfWork_24 ?_
        refine zw_iinc (pc := 25) (i := 3) (x := u2) (v := u2 + Int32.ofInt 1) (L2 := [some (.ref q), some (.long (u1 + v10)), none, some (.int (u2 + Int32.ofInt 1))]) rfl rfl (by decide) rfl d_Sums_totalOfWork_25 ?_
        refine zw_goto (pc := 28) (tgt := 4) (by decide) d_Sums_totalOfWork_28 ?_
        exact ih_4 (u1 + v10) (u2 + Int32.ofInt 1) N6 hn9 (Nat.lt_of_lt_of_le (z_up hc_12) (Nat.le_of_lt_succ hlt_4))
  exact lp_4 _ 0 0 M hm (Nat.lt_succ_self _)
set_option maxHeartbeats 4000000 in
theorem c_T_pairs (l : Launch) (B : Nat) (M : zMem) (hT : zTy B M) (q : Nat) (hqB : q < B) (hqk : (zsh M q).1 = 0 + 3) (x0 : Int32) (x1 : Int32) : zC l m_T_pairs 0 0 [.ref q, .int x0, .int x1] M (zqI B M []) := by
  refine zC_of (L0 := [some (.ref q), some (.int x0), some (.int x1)]) md_T_pairs (Nat.le_of_ble_eq_true rfl) rfl ?_ zQ0
  have hm : zMod B [] M M := zMod.rf
  refine zw_aload_n (pc := 0) (n := 0) (x := q) rfl d_T_pairs_0 ?_
  obtain ⟨r1, r1f, r1B, r1k⟩ := hT.1 q 0 2 hqB hqk (by decide) (by decide) rfl
  refine zc_getF hm (pc := 1) f_T_28 rfl hqk r1f d_T_pairs_1 ?_
  obtain ⟨r2, r2f, r2B, r2k⟩ := hT.1 r1 4 1 r1B r1k (by decide) (by decide) rfl
  refine zc_getF hm (pc := 4) f_T_85 rfl r1k r2f d_T_pairs_4 ?_
  refine zw_iload_n (pc := 7) (n := 1) (x := x0) rfl d_T_pairs_7 ?_
  refine zc_callV hm (pc := 8) [.int x0] [] l_T_143 (c_Sorts_hasSort l B M (hT.mod hm) r2 r2B (hm.k r2k) x0) rfl rfl r2k (by decide) (by decide) (Nat.le_of_ble_eq_true rfl) d_T_pairs_8 (fun r5 N3 hq4 => ?_)
  obtain ⟨hk8, v7, rfl, zv7⟩ := hq4
  have hn6 : zMod B [] M N3 := hm.call hk8 (by decide)
  show zW l m_T_pairs (zn M + 0, zw M + 0) N3 11 [some (.ref q), some (.int x0), some (.int x1)] [.int v7] (zqI B M [])
  refine zw_if_eq (pc := 11) (tgt := 28) (by decide) d_T_pairs_11 (fun hc_11 => ?_) (fun hc_11 => ?_)
  · refine zw_iconst (pc := 28) (v := (-1)) (by decide) d_T_pairs_28 ?_
    exact zw_iret (S := []) (pc := 29) (ty := .int) rfl rfl d_T_pairs_29 ⟨hn6, _, rfl⟩
  · refine zw_aload_n (pc := 14) (n := 0) (x := q) rfl d_T_pairs_14 ?_
    refine zc_getF hn6 (pc := 15) f_T_28 rfl hqk r1f d_T_pairs_15 ?_
    refine zc_getF hn6 (pc := 18) f_T_85 rfl r1k r2f d_T_pairs_18 ?_
    refine zw_iload_n (pc := 21) (n := 2) (x := x1) rfl d_T_pairs_21 ?_
    refine zc_callV hn6 (pc := 22) [.int x1] [] l_T_143 (c_Sorts_hasSort l B N3 (hT.mod hn6) r2 r2B (hn6.k r2k) x1) rfl rfl r2k (by decide) (by decide) (Nat.le_of_ble_eq_true rfl) d_T_pairs_22 (fun r12 N10 hq11 => ?_)
    obtain ⟨hk15, v14, rfl, zv14⟩ := hq11
    have hn13 : zMod B [] M N10 := hn6.call hk15 (by decide)
    show zW l m_T_pairs (zn M + 0, zw M + 0) N10 25 [some (.ref q), some (.int x0), some (.int x1)] [.int v14] (zqI B M [])
    refine zw_if_ne (pc := 25) (tgt := 30) (by decide) d_T_pairs_25 (fun hc_25 => ?_) (fun hc_25 => ?_)
    · refine zw_aload_n (pc := 30) (n := 0) (x := q) rfl d_T_pairs_30 ?_
      refine zc_getF hn13 (pc := 31) f_T_28 rfl hqk r1f d_T_pairs_31 ?_
      obtain ⟨r17, r17f, r17B, r17k⟩ := hT.1 r1 4 2 r1B r1k (by decide) (by decide) rfl
      refine zc_getF hn13 (pc := 34) f_T_169 rfl r1k r17f d_T_pairs_34 ?_
      refine zw_iload_n (pc := 37) (n := 1) (x := x0) rfl d_T_pairs_37 ?_
      refine zw_iload_n (pc := 38) (n := 2) (x := x1) rfl d_T_pairs_38 ?_
      refine zc_callV hn13 (pc := 39) [.int x0, .int x1] [] l_T_173 (c_Sums_putProduct l B N10 (hT.mod hn13) r17 r17B (hn13.k r17k) x0 x1) rfl rfl r17k (by decide) (by decide) (Nat.le_of_ble_eq_true rfl) d_T_pairs_39 (fun r20 N18 hq19 => ?_)
      obtain ⟨hk23, rfl⟩ := hq19
      have hn21 : zMod B [] M N18 := hn13.call hk23 (by decide)
      show zW l m_T_pairs (zn M + 0, zw M + 0) N18 42 [some (.ref q), some (.int x0), some (.int x1)] [] (zqI B M [])
      refine zw_aload_n (pc := 42) (n := 0) (x := q) rfl d_T_pairs_42 ?_
      refine zc_getF hn21 (pc := 43) f_T_28 rfl hqk r1f d_T_pairs_43 ?_
      refine zc_getF hn21 (pc := 46) f_T_169 rfl r1k r17f d_T_pairs_46 ?_
      refine zc_callV hn21 (pc := 49) [] [] l_T_211 (c_Sums_totalOfWork l B N18 (hT.mod hn21) r17 r17B (hn21.k r17k)) rfl rfl r17k (by decide) (by decide) (Nat.le_of_ble_eq_true rfl) d_T_pairs_49 (fun r27 N25 hq26 => ?_)
      obtain ⟨hk30, v29, rfl⟩ := hq26
      have hn28 : zMod B [] M N25 := hn21.call hk30 (by decide)
      show zW l m_T_pairs (zn M + 0, zw M + 0) N25 52 [some (.ref q), some (.int x0), some (.int x1)] [.int v29] (zqI B M [])
      exact zw_iret (S := []) (pc := 52) (ty := .int) rfl rfl d_T_pairs_52 ⟨hn28, _, rfl⟩
    · refine zw_iconst (pc := 28) (v := (-1)) (by decide) d_T_pairs_28 ?_
      exact zw_iret (S := []) (pc := 29) (ty := .int) rfl rfl d_T_pairs_29 ⟨hn13, _, rfl⟩
set_option maxHeartbeats 4000000 in
theorem c_Group_commutingPairs (l : Launch) (B : Nat) (M : zMem) (hT : zTy B M) (q : Nat) (hqB : q < B) (hqk : (zsh M q).1 = 5 + 3) : zC l m_Group_commutingPairs 0 0 [.ref q] M (zqI B M []) := by
  refine zC_of (L0 := [some (.ref q), none, none]) md_Group_commutingPairs (Nat.le_of_ble_eq_true rfl) rfl ?_ zQ0
  have hm : zMod B [] M M := zMod.rf
  refine zw_iconst (pc := 0) (v := 0) (by decide) d_Group_commutingPairs_0 ?_
  refine zw_istore_n (pc := 1) (i := 1) (L2 := [some (.ref q), some (.int 0), none]) rfl (by decide) rfl d_Group_commutingPairs_1 ?_
  refine zw_iconst (pc := 2) (v := 0) (by decide) d_Group_commutingPairs_2 ?_
  refine zw_istore_n (pc := 3) (i := 2) (L2 := [some (.ref q), some (.int 0), some (.int 0)]) rfl (by decide) rfl d_Group_commutingPairs_3 ?_
  have lp_4 : ∀ (n : Nat) (u1 : Int32) (u2 : Int32) (N3 : zMem) (hn4 : zMod B [] M N3), zvu u2 (zi M q 7) < n → zW l m_Group_commutingPairs (zn M + 0, zw M + 0) N3 4 [some (.ref q), some (.int u1), some (.int u2)] [] (zqI B M []) := by
    intro n
    induction n with
    | zero =>
      intro u1 u2 N3 hn4 h0
      exact absurd h0 (Nat.not_lt_zero _)
    | succ n ih_4 =>
      intro u1 u2 N3 hn4 hlt_4
      refine zw_iload_n (pc := 4) (n := 2) (x := u2) rfl d_Group_commutingPairs_4 ?_
      refine zw_aload_n (pc := 5) (n := 0) (x := q) rfl d_Group_commutingPairs_5 ?_
      refine zc_getI0 hn4 (pc := 6) (by decide) f_Group_39 rfl hqk d_Group_commutingPairs_6 ?_
      refine zw_icmp_ge (pc := 9) (tgt := 33) (by decide) d_Group_commutingPairs_9 (fun hc_9 => ?_) (fun hc_9 => ?_)
      · refine zw_iload_n (pc := 33) (n := 1) (x := u1) rfl d_Group_commutingPairs_33 ?_
        exact zw_iret (S := []) (pc := 34) (ty := .int) rfl rfl d_Group_commutingPairs_34 ⟨hn4, _, rfl⟩
      · refine zw_iload_n (pc := 12) (n := 1) (x := u1) rfl d_Group_commutingPairs_12 ?_
        refine zw_aload_n (pc := 13) (n := 0) (x := q) rfl d_Group_commutingPairs_13 ?_
        refine zw_iload_n (pc := 14) (n := 2) (x := u2) rfl d_Group_commutingPairs_14 ?_
        refine zw_aload_n (pc := 15) (n := 0) (x := q) rfl d_Group_commutingPairs_15 ?_
        refine zc_callV hn4 (pc := 16) [] [.int u2, .ref q, .int u1] l_Group_93 (c_Group_everyone l B N3 (hT.mod hn4) q hqB (hn4.k hqk)) rfl rfl hqk (by decide) (by decide) (Nat.le_of_ble_eq_true rfl) d_Group_commutingPairs_16 (fun r7 N5 hq6 => ?_)
        obtain ⟨hk10, v9, rfl⟩ := hq6
        have hn8 : zMod B [] M N5 := hn4.call hk10 (by decide)
        show zW l m_Group_commutingPairs (zn M + 0, zw M + 0) N5 19 [some (.ref q), some (.int u1), some (.int u2)] [.int v9, .int u2, .ref q, .int u1] (zqI B M [])
        refine zc_callV hn8 (pc := 19) [.int u2, .int v9] [.int u1] l_Group_97 (c_Group_commutingWith l B N5 (hT.mod hn8) q hqB (hn8.k hqk) u2 v9) rfl rfl hqk (by decide) (by decide) (Nat.le_of_ble_eq_true rfl) d_Group_commutingPairs_19 (fun r14 N12 hq13 => ?_)
        obtain ⟨hk17, v16, rfl⟩ := hq13
        have hn15 : zMod B [] M N12 := hn8.call hk17 (by decide)
        show zW l m_Group_commutingPairs (zn M + 0, zw M + 0) N12 22 [some (.ref q), some (.int u1), some (.int u2)] [.int v16, .int u1] (zqI B M [])
        refine zc_callS hn15 (pc := 22) [.int v16] [.int u1] l_Group_83 (c_Integer_bitCount l B N12 (hT.mod hn15) v16) rfl rfl (by decide) (Nat.le_of_ble_eq_true rfl) d_Group_commutingPairs_22 (fun r21 N19 hq20 => ?_)
        obtain ⟨hq20, ex25⟩ := hq20
        obtain ⟨hk24, v23, rfl⟩ := hq20
        have hn22 : zMod B [] M N19 := hn15.call hk24 (by decide)
        show zW l m_Group_commutingPairs (zn M + 0, zw M + 0) N19 25 [some (.ref q), some (.int u1), some (.int u2)] [.int v23, .int u1] (zqI B M [])
        refine zw_iadd (pc := 25) d_Group_commutingPairs_25 ?_
        refine zw_istore_n (pc := 26) (i := 1) (L2 := [some (.ref q), some (.int (u1 + v23)), some (.int u2)]) rfl (by decide) rfl d_Group_commutingPairs_26 ?_
        refine zw_iinc (pc := 27) (i := 2) (x := u2) (v := u2 + Int32.ofInt 1) (L2 := [some (.ref q), some (.int (u1 + v23)), some (.int (u2 + Int32.ofInt 1))]) rfl rfl (by decide) rfl d_Group_commutingPairs_27 ?_
        refine zw_goto (pc := 30) (tgt := 4) (by decide) d_Group_commutingPairs_30 ?_
        exact ih_4 (u1 + v23) (u2 + Int32.ofInt 1) N19 hn22 (Nat.lt_of_lt_of_le (z_up hc_9) (Nat.le_of_lt_succ hlt_4))
  exact lp_4 _ 0 0 M hm (Nat.lt_succ_self _)
set_option maxHeartbeats 4000000 in
theorem c_T_alike (l : Launch) (B : Nat) (M : zMem) (hT : zTy B M) (q : Nat) (hqB : q < B) (hqk : (zsh M q).1 = 0 + 3) : zC l m_T_alike 0 0 [.ref q] M (zqI B M []) := by
  refine zC_of (L0 := [some (.ref q)]) md_T_alike (Nat.le_of_ble_eq_true rfl) rfl ?_ zQ0
  have hm : zMod B [] M M := zMod.rf
  refine zw_aload_n (pc := 0) (n := 0) (x := q) rfl d_T_alike_0 ?_
  obtain ⟨r1, r1f, r1B, r1k⟩ := hT.1 q 0 2 hqB hqk (by decide) (by decide) rfl
  refine zc_getF hm (pc := 1) f_T_28 rfl hqk r1f d_T_alike_1 ?_
  obtain ⟨r2, r2f, r2B, r2k⟩ := hT.1 r1 4 0 r1B r1k (by decide) (by decide) rfl
  refine zc_getF hm (pc := 4) f_T_61 rfl r1k r2f d_T_alike_4 ?_
  refine zc_callV hm (pc := 7) [] [] l_T_214 (c_Group_commutingPairs l B M (hT.mod hm) r2 r2B (hm.k r2k)) rfl rfl r2k (by decide) (by decide) (Nat.le_of_ble_eq_true rfl) d_T_alike_7 (fun r5 N3 hq4 => ?_)
  obtain ⟨hk8, v7, rfl⟩ := hq4
  have hn6 : zMod B [] M N3 := hm.call hk8 (by decide)
  show zW l m_T_alike (zn M + 0, zw M + 0) N3 10 [some (.ref q)] [.int v7] (zqI B M [])
  exact zw_iret (S := []) (pc := 10) (ty := .int) rfl rfl d_T_alike_10 ⟨hn6, _, rfl⟩
set_option maxHeartbeats 4000000 in
theorem c_T_meet (l : Launch) (B : Nat) (M : zMem) (hT : zTy B M) (q : Nat) (hqB : q < B) (hqk : (zsh M q).1 = 0 + 3) (x0 : Int32) (x1 : Int32) : zC l m_T_meet 0 0 [.ref q, .int x0, .int x1] M (zqI B M []) := by
  refine zC_of (L0 := [some (.ref q), some (.int x0), some (.int x1), none]) md_T_meet (Nat.le_of_ble_eq_true rfl) rfl ?_ zQ0
  have hm : zMod B [] M M := zMod.rf
  refine zw_aload_n (pc := 0) (n := 0) (x := q) rfl d_T_meet_0 ?_
  obtain ⟨r1, r1f, r1B, r1k⟩ := hT.1 q 0 2 hqB hqk (by decide) (by decide) rfl
  refine zc_getF hm (pc := 1) f_T_28 rfl hqk r1f d_T_meet_1 ?_
  obtain ⟨r2, r2f, r2B, r2k⟩ := hT.1 r1 4 1 r1B r1k (by decide) (by decide) rfl
  refine zc_getF hm (pc := 4) f_T_85 rfl r1k r2f d_T_meet_4 ?_
  refine zw_astore_n (pc := 7) (i := 3) (L2 := [some (.ref q), some (.int x0), some (.int x1), some (.ref r2)]) rfl (by decide) rfl d_T_meet_7 ?_
  refine zw_aload_n (pc := 8) (n := 3) (x := r2) rfl d_T_meet_8 ?_
  refine zw_iload_n (pc := 9) (n := 1) (x := x0) rfl d_T_meet_9 ?_
  refine zc_callV hm (pc := 10) [.int x0] [] l_T_143 (c_Sorts_hasSort l B M (hT.mod hm) r2 r2B (hm.k r2k) x0) rfl rfl r2k (by decide) (by decide) (Nat.le_of_ble_eq_true rfl) d_T_meet_10 (fun r5 N3 hq4 => ?_)
  obtain ⟨hk8, v7, rfl, zv7⟩ := hq4
  have hn6 : zMod B [] M N3 := hm.call hk8 (by decide)
  show zW l m_T_meet (zn M + 0, zw M + 0) N3 13 [some (.ref q), some (.int x0), some (.int x1), some (.ref r2)] [.int v7] (zqI B M [])
  refine zw_if_eq (pc := 13) (tgt := 24) (by decide) d_T_meet_13 (fun hc_13 => ?_) (fun hc_13 => ?_)
  · refine zw_iconst (pc := 24) (v := (-1)) (by decide) d_T_meet_24 ?_
    exact zw_iret (S := []) (pc := 25) (ty := .int) rfl rfl d_T_meet_25 ⟨hn6, _, rfl⟩
  · refine zw_aload_n (pc := 16) (n := 3) (x := r2) rfl d_T_meet_16 ?_
    refine zw_iload_n (pc := 17) (n := 2) (x := x1) rfl d_T_meet_17 ?_
    refine zc_callV hn6 (pc := 18) [.int x1] [] l_T_143 (c_Sorts_hasSort l B N3 (hT.mod hn6) r2 r2B (hn6.k r2k) x1) rfl rfl r2k (by decide) (by decide) (Nat.le_of_ble_eq_true rfl) d_T_meet_18 (fun r12 N10 hq11 => ?_)
    obtain ⟨hk15, v14, rfl, zv14⟩ := hq11
    have hn13 : zMod B [] M N10 := hn6.call hk15 (by decide)
    show zW l m_T_meet (zn M + 0, zw M + 0) N10 21 [some (.ref q), some (.int x0), some (.int x1), some (.ref r2)] [.int v14] (zqI B M [])
    refine zw_if_ne (pc := 21) (tgt := 26) (by decide) d_T_meet_21 (fun hc_21 => ?_) (fun hc_21 => ?_)
    · refine zw_aload_n (pc := 26) (n := 3) (x := r2) rfl d_T_meet_26 ?_
      refine zw_aload_n (pc := 27) (n := 3) (x := r2) rfl d_T_meet_27 ?_
      obtain ⟨r17, r17f, r17B, r17k⟩ := hT.1 r2 6 4 r2B r2k (by decide) (by decide) rfl
      refine zc_getF hn13 (pc := 28) f_T_146 rfl r2k r17f d_T_meet_28 ?_
      refine zw_iload_n (pc := 31) (n := 1) (x := x0) rfl d_T_meet_31 ?_
      refine zc_callV hn13 (pc := 32) [.int x0] [.ref r2] l_T_118 (c_IntRow_at l B N10 (hT.mod hn13) r17 r17B (hn13.k r17k) x0) rfl rfl r17k (by decide) (by decide) (Nat.le_of_ble_eq_true rfl) d_T_meet_32 (fun r20 N18 hq19 => ?_)
      obtain ⟨hk23, v22, rfl⟩ := hq19
      have hn21 : zMod B [] M N18 := hn13.call hk23 (by decide)
      show zW l m_T_meet (zn M + 0, zw M + 0) N18 35 [some (.ref q), some (.int x0), some (.int x1), some (.ref r2)] [.int v22, .ref r2] (zqI B M [])
      refine zw_aload_n (pc := 35) (n := 3) (x := r2) rfl d_T_meet_35 ?_
      refine zc_getF hn21 (pc := 36) f_T_146 rfl r2k r17f d_T_meet_36 ?_
      refine zw_iload_n (pc := 39) (n := 2) (x := x1) rfl d_T_meet_39 ?_
      refine zc_callV hn21 (pc := 40) [.int x1] [.int v22, .ref r2] l_T_118 (c_IntRow_at l B N18 (hT.mod hn21) r17 r17B (hn21.k r17k) x1) rfl rfl r17k (by decide) (by decide) (Nat.le_of_ble_eq_true rfl) d_T_meet_40 (fun r27 N25 hq26 => ?_)
      obtain ⟨hk30, v29, rfl⟩ := hq26
      have hn28 : zMod B [] M N25 := hn21.call hk30 (by decide)
      show zW l m_T_meet (zn M + 0, zw M + 0) N25 43 [some (.ref q), some (.int x0), some (.int x1), some (.ref r2)] [.int v29, .int v22, .ref r2] (zqI B M [])
      refine zw_iand (pc := 43) d_T_meet_43 ?_
      refine zc_callV hn28 (pc := 44) [.int (v22 &&& v29)] [] l_T_140 (c_Sorts_spannedSort l B N25 (hT.mod hn28) r2 r2B (hn28.k r2k) (v22 &&& v29)) rfl rfl r2k (by decide) (by decide) (Nat.le_of_ble_eq_true rfl) d_T_meet_44 (fun r34 N32 hq33 => ?_)
      obtain ⟨hk37, v36, rfl⟩ := hq33
      have hn35 : zMod B [] M N32 := hn28.call hk37 (by decide)
      show zW l m_T_meet (zn M + 0, zw M + 0) N32 47 [some (.ref q), some (.int x0), some (.int x1), some (.ref r2)] [.int v36] (zqI B M [])
      exact zw_iret (S := []) (pc := 47) (ty := .int) rfl rfl d_T_meet_47 ⟨hn35, _, rfl⟩
    · refine zw_iconst (pc := 24) (v := (-1)) (by decide) d_T_meet_24 ?_
      exact zw_iret (S := []) (pc := 25) (ty := .int) rfl rfl d_T_meet_25 ⟨hn13, _, rfl⟩
set_option maxHeartbeats 4000000 in
theorem c_T_join (l : Launch) (B : Nat) (M : zMem) (hT : zTy B M) (q : Nat) (hqB : q < B) (hqk : (zsh M q).1 = 0 + 3) (x0 : Int32) (x1 : Int32) : zC l m_T_join 0 0 [.ref q, .int x0, .int x1] M (zqI B M []) := by
  refine zC_of (L0 := [some (.ref q), some (.int x0), some (.int x1), none]) md_T_join (Nat.le_of_ble_eq_true rfl) rfl ?_ zQ0
  have hm : zMod B [] M M := zMod.rf
  refine zw_aload_n (pc := 0) (n := 0) (x := q) rfl d_T_join_0 ?_
  obtain ⟨r1, r1f, r1B, r1k⟩ := hT.1 q 0 2 hqB hqk (by decide) (by decide) rfl
  refine zc_getF hm (pc := 1) f_T_28 rfl hqk r1f d_T_join_1 ?_
  obtain ⟨r2, r2f, r2B, r2k⟩ := hT.1 r1 4 1 r1B r1k (by decide) (by decide) rfl
  refine zc_getF hm (pc := 4) f_T_85 rfl r1k r2f d_T_join_4 ?_
  refine zw_astore_n (pc := 7) (i := 3) (L2 := [some (.ref q), some (.int x0), some (.int x1), some (.ref r2)]) rfl (by decide) rfl d_T_join_7 ?_
  refine zw_aload_n (pc := 8) (n := 3) (x := r2) rfl d_T_join_8 ?_
  refine zw_iload_n (pc := 9) (n := 1) (x := x0) rfl d_T_join_9 ?_
  refine zc_callV hm (pc := 10) [.int x0] [] l_T_143 (c_Sorts_hasSort l B M (hT.mod hm) r2 r2B (hm.k r2k) x0) rfl rfl r2k (by decide) (by decide) (Nat.le_of_ble_eq_true rfl) d_T_join_10 (fun r5 N3 hq4 => ?_)
  obtain ⟨hk8, v7, rfl, zv7⟩ := hq4
  have hn6 : zMod B [] M N3 := hm.call hk8 (by decide)
  show zW l m_T_join (zn M + 0, zw M + 0) N3 13 [some (.ref q), some (.int x0), some (.int x1), some (.ref r2)] [.int v7] (zqI B M [])
  refine zw_if_eq (pc := 13) (tgt := 24) (by decide) d_T_join_13 (fun hc_13 => ?_) (fun hc_13 => ?_)
  · refine zw_iconst (pc := 24) (v := (-1)) (by decide) d_T_join_24 ?_
    exact zw_iret (S := []) (pc := 25) (ty := .int) rfl rfl d_T_join_25 ⟨hn6, _, rfl⟩
  · refine zw_aload_n (pc := 16) (n := 3) (x := r2) rfl d_T_join_16 ?_
    refine zw_iload_n (pc := 17) (n := 2) (x := x1) rfl d_T_join_17 ?_
    refine zc_callV hn6 (pc := 18) [.int x1] [] l_T_143 (c_Sorts_hasSort l B N3 (hT.mod hn6) r2 r2B (hn6.k r2k) x1) rfl rfl r2k (by decide) (by decide) (Nat.le_of_ble_eq_true rfl) d_T_join_18 (fun r12 N10 hq11 => ?_)
    obtain ⟨hk15, v14, rfl, zv14⟩ := hq11
    have hn13 : zMod B [] M N10 := hn6.call hk15 (by decide)
    show zW l m_T_join (zn M + 0, zw M + 0) N10 21 [some (.ref q), some (.int x0), some (.int x1), some (.ref r2)] [.int v14] (zqI B M [])
    refine zw_if_ne (pc := 21) (tgt := 26) (by decide) d_T_join_21 (fun hc_21 => ?_) (fun hc_21 => ?_)
    · refine zw_aload_n (pc := 26) (n := 3) (x := r2) rfl d_T_join_26 ?_
      refine zw_aload_n (pc := 27) (n := 3) (x := r2) rfl d_T_join_27 ?_
      obtain ⟨r17, r17f, r17B, r17k⟩ := hT.1 r2 6 4 r2B r2k (by decide) (by decide) rfl
      refine zc_getF hn13 (pc := 28) f_T_146 rfl r2k r17f d_T_join_28 ?_
      refine zw_iload_n (pc := 31) (n := 1) (x := x0) rfl d_T_join_31 ?_
      refine zc_callV hn13 (pc := 32) [.int x0] [.ref r2] l_T_118 (c_IntRow_at l B N10 (hT.mod hn13) r17 r17B (hn13.k r17k) x0) rfl rfl r17k (by decide) (by decide) (Nat.le_of_ble_eq_true rfl) d_T_join_32 (fun r20 N18 hq19 => ?_)
      obtain ⟨hk23, v22, rfl⟩ := hq19
      have hn21 : zMod B [] M N18 := hn13.call hk23 (by decide)
      show zW l m_T_join (zn M + 0, zw M + 0) N18 35 [some (.ref q), some (.int x0), some (.int x1), some (.ref r2)] [.int v22, .ref r2] (zqI B M [])
      refine zw_aload_n (pc := 35) (n := 3) (x := r2) rfl d_T_join_35 ?_
      refine zc_getF hn21 (pc := 36) f_T_146 rfl r2k r17f d_T_join_36 ?_
      refine zw_iload_n (pc := 39) (n := 2) (x := x1) rfl d_T_join_39 ?_
      refine zc_callV hn21 (pc := 40) [.int x1] [.int v22, .ref r2] l_T_118 (c_IntRow_at l B N18 (hT.mod hn21) r17 r17B (hn21.k r17k) x1) rfl rfl r17k (by decide) (by decide) (Nat.le_of_ble_eq_true rfl) d_T_join_40 (fun r27 N25 hq26 => ?_)
      obtain ⟨hk30, v29, rfl⟩ := hq26
      have hn28 : zMod B [] M N25 := hn21.call hk30 (by decide)
      show zW l m_T_join (zn M + 0, zw M + 0) N25 43 [some (.ref q), some (.int x0), some (.int x1), some (.ref r2)] [.int v29, .int v22, .ref r2] (zqI B M [])
      refine zw_ior (pc := 43) d_T_join_43 ?_
      refine zc_callV hn28 (pc := 44) [.int (v22 ||| v29)] [] l_T_140 (c_Sorts_spannedSort l B N25 (hT.mod hn28) r2 r2B (hn28.k r2k) (v22 ||| v29)) rfl rfl r2k (by decide) (by decide) (Nat.le_of_ble_eq_true rfl) d_T_join_44 (fun r34 N32 hq33 => ?_)
      obtain ⟨hk37, v36, rfl⟩ := hq33
      have hn35 : zMod B [] M N32 := hn28.call hk37 (by decide)
      show zW l m_T_join (zn M + 0, zw M + 0) N32 47 [some (.ref q), some (.int x0), some (.int x1), some (.ref r2)] [.int v36] (zqI B M [])
      exact zw_iret (S := []) (pc := 47) (ty := .int) rfl rfl d_T_join_47 ⟨hn35, _, rfl⟩
    · refine zw_iconst (pc := 24) (v := (-1)) (by decide) d_T_join_24 ?_
      exact zw_iret (S := []) (pc := 25) (ty := .int) rfl rfl d_T_join_25 ⟨hn13, _, rfl⟩
set_option maxHeartbeats 4000000 in
theorem c_Group_countRepeating (l : Launch) (B : Nat) (M : zMem) (hT : zTy B M) (q : Nat) (hqB : q < B) (hqk : (zsh M q).1 = 5 + 3) (x0 : Int32) : zC l m_Group_countRepeating 0 0 [.ref q, .int x0] M (zqI B M []) := by
  refine zC_of (L0 := [some (.ref q), some (.int x0), none, none]) md_Group_countRepeating (Nat.le_of_ble_eq_true rfl) rfl ?_ zQ0
  have hm : zMod B [] M M := zMod.rf
  refine zw_iconst (pc := 0) (v := 0) (by decide) d_Group_countRepeating_0 ?_
  refine zw_istore_n (pc := 1) (i := 2) (L2 := [some (.ref q), some (.int x0), some (.int 0), none]) rfl (by decide) rfl d_Group_countRepeating_1 ?_
  refine zw_iconst (pc := 2) (v := 0) (by decide) d_Group_countRepeating_2 ?_
  refine zw_istore_n (pc := 3) (i := 3) (L2 := [some (.ref q), some (.int x0), some (.int 0), some (.int 0)]) rfl (by decide) rfl d_Group_countRepeating_3 ?_
  have lp_4 : ∀ (n : Nat) (u1 : Int32) (u2 : Int32) (N3 : zMem) (hn4 : zMod B [] M N3), zvu u2 (zi M q 7) < n → zW l m_Group_countRepeating (zn M + 0, zw M + 0) N3 4 [some (.ref q), some (.int x0), some (.int u1), some (.int u2)] [] (zqI B M []) := by
    intro n
    induction n with
    | zero =>
      intro u1 u2 N3 hn4 h0
      exact absurd h0 (Nat.not_lt_zero _)
    | succ n ih_4 =>
      intro u1 u2 N3 hn4 hlt_4
      refine zw_iload_n (pc := 4) (n := 3) (x := u2) rfl d_Group_countRepeating_4 ?_
      refine zw_aload_n (pc := 5) (n := 0) (x := q) rfl d_Group_countRepeating_5 ?_
      refine zc_getI0 hn4 (pc := 6) (by decide) f_Group_39 rfl hqk d_Group_countRepeating_6 ?_
      refine zw_icmp_ge (pc := 9) (tgt := 30) (by decide) d_Group_countRepeating_9 (fun hc_9 => ?_) (fun hc_9 => ?_)
      · refine zw_iload_n (pc := 30) (n := 2) (x := u1) rfl d_Group_countRepeating_30 ?_
        exact zw_iret (S := []) (pc := 31) (ty := .int) rfl rfl d_Group_countRepeating_31 ⟨hn4, _, rfl⟩
      · refine zw_aload_n (pc := 12) (n := 0) (x := q) rfl d_Group_countRepeating_12 ?_
        refine zw_iload_n (pc := 13) (n := 3) (x := u2) rfl d_Group_countRepeating_13 ?_
        refine zc_callV hn4 (pc := 14) [.int u2] [] l_Group_70 (c_Group_repeatsOf l B N3 (hT.mod hn4) q hqB (hn4.k hqk) u2) rfl rfl hqk (by decide) (by decide) (Nat.le_of_ble_eq_true rfl) d_Group_countRepeating_14 (fun r7 N5 hq6 => ?_)
        obtain ⟨hk10, v9, rfl⟩ := hq6
        have hn8 : zMod B [] M N5 := hn4.call hk10 (by decide)
        show zW l m_Group_countRepeating (zn M + 0, zw M + 0) N5 17 [some (.ref q), some (.int x0), some (.int u1), some (.int u2)] [.int v9] (zqI B M [])
        refine zw_iload_n (pc := 17) (n := 1) (x := x0) rfl d_Group_countRepeating_17 ?_
        have j_24 : ∀ (u12 : Int32) (N13 : zMem) (hn14 : zMod B [] M N13), zW l m_Group_countRepeating (zn M + 0, zw M + 0) N13 24 [some (.ref q), some (.int x0), some (.int u12), some (.int u2)] [] (zqI B M []) := by
          intro u12 N13 hn14
          refine zw_iinc (pc := 24) (i := 3) (x := u2) (v := u2 + Int32.ofInt 1) (L2 := [some (.ref q), some (.int x0), some (.int u12), some (.int (u2 + Int32.ofInt 1))]) rfl rfl (by decide) rfl d_Group_countRepeating_24 ?_
          refine zw_goto (pc := 27) (tgt := 4) (by decide) d_Group_countRepeating_27 ?_
          exact ih_4 u12 (u2 + Int32.ofInt 1) N13 hn14 (Nat.lt_of_lt_of_le (z_up hc_9) (Nat.le_of_lt_succ hlt_4))
        refine zw_icmp_ne (pc := 18) (tgt := 24) (by decide) d_Group_countRepeating_18 (fun hc_18 => ?_) (fun hc_18 => ?_)
        · exact j_24 u1 N5 hn8
        · refine zw_iinc (pc := 21) (i := 2) (x := u1) (v := u1 + Int32.ofInt 1) (L2 := [some (.ref q), some (.int x0), some (.int (u1 + Int32.ofInt 1)), some (.int u2)]) rfl rfl (by decide) rfl d_Group_countRepeating_21 ?_
          exact j_24 (u1 + Int32.ofInt 1) N5 hn8
  exact lp_4 _ 0 0 M hm (Nat.lt_succ_self _)
set_option maxHeartbeats 4000000 in
theorem c_T_orders (l : Launch) (B : Nat) (M : zMem) (hT : zTy B M) (q : Nat) (hqB : q < B) (hqk : (zsh M q).1 = 0 + 3) (x0 : Int32) : zC l m_T_orders 0 0 [.ref q, .int x0] M (zqI B M []) := by
  refine zC_of (L0 := [some (.ref q), some (.int x0)]) md_T_orders (Nat.le_of_ble_eq_true rfl) rfl ?_ zQ0
  have hm : zMod B [] M M := zMod.rf
  refine zw_iload_n (pc := 0) (n := 1) (x := x0) rfl d_T_orders_0 ?_
  refine zw_iconst (pc := 1) (v := 1) (by decide) d_T_orders_1 ?_
  refine zw_icmp_lt (pc := 2) (tgt := 25) (by decide) d_T_orders_2 (fun hc_2 => ?_) (fun hc_2 => ?_)
  · refine zw_iconst (pc := 25) (v := (-1)) (by decide) d_T_orders_25 ?_
    exact zw_iret (S := []) (pc := 26) (ty := .int) rfl rfl d_T_orders_26 ⟨hm, _, rfl⟩
  · refine zw_iload_n (pc := 5) (n := 1) (x := x0) rfl d_T_orders_5 ?_
    refine zw_bipush (pc := 6) (v := 24) (by decide) d_T_orders_6 ?_
    refine zw_icmp_gt (pc := 8) (tgt := 25) (by decide) d_T_orders_8 (fun hc_8 => ?_) (fun hc_8 => ?_)
    · refine zw_iconst (pc := 25) (v := (-1)) (by decide) d_T_orders_25 ?_
      exact zw_iret (S := []) (pc := 26) (ty := .int) rfl rfl d_T_orders_26 ⟨hm, _, rfl⟩
    · refine zw_aload_n (pc := 11) (n := 0) (x := q) rfl d_T_orders_11 ?_
      obtain ⟨r1, r1f, r1B, r1k⟩ := hT.1 q 0 2 hqB hqk (by decide) (by decide) rfl
      refine zc_getF hm (pc := 12) f_T_28 rfl hqk r1f d_T_orders_12 ?_
      obtain ⟨r2, r2f, r2B, r2k⟩ := hT.1 r1 4 0 r1B r1k (by decide) (by decide) rfl
      refine zc_getF hm (pc := 15) f_T_61 rfl r1k r2f d_T_orders_15 ?_
      refine zw_iload_n (pc := 18) (n := 1) (x := x0) rfl d_T_orders_18 ?_
      refine zc_callV hm (pc := 19) [.int x0] [] l_T_217 (c_Group_countRepeating l B M (hT.mod hm) r2 r2B (hm.k r2k) x0) rfl rfl r2k (by decide) (by decide) (Nat.le_of_ble_eq_true rfl) d_T_orders_19 (fun r5 N3 hq4 => ?_)
      obtain ⟨hk8, v7, rfl⟩ := hq4
      have hn6 : zMod B [] M N3 := hm.call hk8 (by decide)
      show zW l m_T_orders (zn M + 0, zw M + 0) N3 22 [some (.ref q), some (.int x0)] [.int v7] (zqI B M [])
      refine zw_goto (pc := 22) (tgt := 26) (by decide) d_T_orders_22 ?_
      exact zw_iret (S := []) (pc := 26) (ty := .int) rfl rfl d_T_orders_26 ⟨hn6, _, rfl⟩
set_option maxHeartbeats 4000000 in
theorem c_Group_countLike (l : Launch) (B : Nat) (M : zMem) (hT : zTy B M) (q : Nat) (hqB : q < B) (hqk : (zsh M q).1 = 5 + 3) (x0 : Int32) : zC l m_Group_countLike 0 0 [.ref q, .int x0] M (zqI B M []) := by
  refine zC_of (L0 := [some (.ref q), some (.int x0), none, none]) md_Group_countLike (Nat.le_of_ble_eq_true rfl) rfl ?_ zQ0
  have hm : zMod B [] M M := zMod.rf
  refine zw_iconst (pc := 0) (v := 0) (by decide) d_Group_countLike_0 ?_
  refine zw_istore_n (pc := 1) (i := 2) (L2 := [some (.ref q), some (.int x0), some (.int 0), none]) rfl (by decide) rfl d_Group_countLike_1 ?_
  refine zw_iconst (pc := 2) (v := 0) (by decide) d_Group_countLike_2 ?_
  refine zw_istore_n (pc := 3) (i := 3) (L2 := [some (.ref q), some (.int x0), some (.int 0), some (.int 0)]) rfl (by decide) rfl d_Group_countLike_3 ?_
  have lp_4 : ∀ (n : Nat) (u1 : Int32) (u2 : Int32) (N3 : zMem) (hn4 : zMod B [] M N3), zvu u2 (zi M q 7) < n → zW l m_Group_countLike (zn M + 0, zw M + 0) N3 4 [some (.ref q), some (.int x0), some (.int u1), some (.int u2)] [] (zqI B M []) := by
    intro n
    induction n with
    | zero =>
      intro u1 u2 N3 hn4 h0
      exact absurd h0 (Nat.not_lt_zero _)
    | succ n ih_4 =>
      intro u1 u2 N3 hn4 hlt_4
      refine zw_iload_n (pc := 4) (n := 3) (x := u2) rfl d_Group_countLike_4 ?_
      refine zw_aload_n (pc := 5) (n := 0) (x := q) rfl d_Group_countLike_5 ?_
      refine zc_getI0 hn4 (pc := 6) (by decide) f_Group_39 rfl hqk d_Group_countLike_6 ?_
      refine zw_icmp_ge (pc := 9) (tgt := 29) (by decide) d_Group_countLike_9 (fun hc_9 => ?_) (fun hc_9 => ?_)
      · refine zw_iload_n (pc := 29) (n := 2) (x := u1) rfl d_Group_countLike_29 ?_
        refine zc_callS hn4 (pc := 30) [.int u1] [] l_Group_83 (c_Integer_bitCount l B N3 (hT.mod hn4) u1) rfl rfl (by decide) (Nat.le_of_ble_eq_true rfl) d_Group_countLike_30 (fun r7 N5 hq6 => ?_)
        obtain ⟨hq6, ex11⟩ := hq6
        obtain ⟨hk10, v9, rfl⟩ := hq6
        have hn8 : zMod B [] M N5 := hn4.call hk10 (by decide)
        show zW l m_Group_countLike (zn M + 0, zw M + 0) N5 33 [some (.ref q), some (.int x0), some (.int u1), some (.int u2)] [.int v9] (zqI B M [])
        exact zw_iret (S := []) (pc := 33) (ty := .int) rfl rfl d_Group_countLike_33 ⟨hn8, _, rfl⟩
      · refine zw_iload_n (pc := 12) (n := 2) (x := u1) rfl d_Group_countLike_12 ?_
        refine zw_iconst (pc := 13) (v := 1) (by decide) d_Group_countLike_13 ?_
        refine zw_aload_n (pc := 14) (n := 0) (x := q) rfl d_Group_countLike_14 ?_
        refine zw_iload_n (pc := 15) (n := 1) (x := x0) rfl d_Group_countLike_15 ?_
        refine zw_iload_n (pc := 16) (n := 3) (x := u2) rfl d_Group_countLike_16 ?_
        refine zc_callV hn4 (pc := 17) [.int x0, .int u2] [.int 1, .int u1] l_Group_77 (c_Group_turn l B N3 (hT.mod hn4) q hqB (hn4.k hqk) x0 u2) rfl rfl hqk (by decide) (by decide) (Nat.le_of_ble_eq_true rfl) d_Group_countLike_17 (fun r14 N12 hq13 => ?_)
        obtain ⟨hk17, v16, rfl⟩ := hq13
        have hn15 : zMod B [] M N12 := hn4.call hk17 (by decide)
        show zW l m_Group_countLike (zn M + 0, zw M + 0) N12 20 [some (.ref q), some (.int x0), some (.int u1), some (.int u2)] [.int v16, .int 1, .int u1] (zqI B M [])
        refine zw_ishl (pc := 20) d_Group_countLike_20 ?_
        refine zw_ior (pc := 21) d_Group_countLike_21 ?_
        refine zw_istore_n (pc := 22) (i := 2) (L2 := [some (.ref q), some (.int x0), some (.int (u1 ||| (1 <<< (v16 &&& 31)))), some (.int u2)]) rfl (by decide) rfl d_Group_countLike_22 ?_
        refine zw_iinc (pc := 23) (i := 3) (x := u2) (v := u2 + Int32.ofInt 1) (L2 := [some (.ref q), some (.int x0), some (.int (u1 ||| (1 <<< (v16 &&& 31)))), some (.int (u2 + Int32.ofInt 1))]) rfl rfl (by decide) rfl d_Group_countLike_23 ?_
        refine zw_goto (pc := 26) (tgt := 4) (by decide) d_Group_countLike_26 ?_
        exact ih_4 (u1 ||| (1 <<< (v16 &&& 31))) (u2 + Int32.ofInt 1) N12 hn15 (Nat.lt_of_lt_of_le (z_up hc_9) (Nat.le_of_lt_succ hlt_4))
  exact lp_4 _ 0 0 M hm (Nat.lt_succ_self _)
set_option maxHeartbeats 4000000 in
theorem c_T_likes (l : Launch) (B : Nat) (M : zMem) (hT : zTy B M) (q : Nat) (hqB : q < B) (hqk : (zsh M q).1 = 0 + 3) (x0 : Int32) : zC l m_T_likes 0 0 [.ref q, .int x0] M (zqI B M []) := by
  refine zC_of (L0 := [some (.ref q), some (.int x0)]) md_T_likes (Nat.le_of_ble_eq_true rfl) rfl ?_ zQ0
  have hm : zMod B [] M M := zMod.rf
  refine zw_aload_n (pc := 0) (n := 0) (x := q) rfl d_T_likes_0 ?_
  obtain ⟨r1, r1f, r1B, r1k⟩ := hT.1 q 0 2 hqB hqk (by decide) (by decide) rfl
  refine zc_getF hm (pc := 1) f_T_28 rfl hqk r1f d_T_likes_1 ?_
  obtain ⟨r2, r2f, r2B, r2k⟩ := hT.1 r1 4 0 r1B r1k (by decide) (by decide) rfl
  refine zc_getF hm (pc := 4) f_T_61 rfl r1k r2f d_T_likes_4 ?_
  refine zw_iload_n (pc := 7) (n := 1) (x := x0) rfl d_T_likes_7 ?_
  refine zc_callV hm (pc := 8) [.int x0] [] l_T_108 (c_Group_hasMember l B M (hT.mod hm) r2 r2B (hm.k r2k) x0) rfl rfl r2k (by decide) (by decide) (Nat.le_of_ble_eq_true rfl) d_T_likes_8 (fun r5 N3 hq4 => ?_)
  obtain ⟨hk8, v7, rfl, zv7⟩ := hq4
  have hn6 : zMod B [] M N3 := hm.call hk8 (by decide)
  show zW l m_T_likes (zn M + 0, zw M + 0) N3 11 [some (.ref q), some (.int x0)] [.int v7] (zqI B M [])
  refine zw_if_eq (pc := 11) (tgt := 28) (by decide) d_T_likes_11 (fun hc_11 => ?_) (fun hc_11 => ?_)
  · refine zw_iconst (pc := 28) (v := (-1)) (by decide) d_T_likes_28 ?_
    exact zw_iret (S := []) (pc := 29) (ty := .int) rfl rfl d_T_likes_29 ⟨hn6, _, rfl⟩
  · refine zw_aload_n (pc := 14) (n := 0) (x := q) rfl d_T_likes_14 ?_
    refine zc_getF hn6 (pc := 15) f_T_28 rfl hqk r1f d_T_likes_15 ?_
    refine zc_getF hn6 (pc := 18) f_T_61 rfl r1k r2f d_T_likes_18 ?_
    refine zw_iload_n (pc := 21) (n := 1) (x := x0) rfl d_T_likes_21 ?_
    refine zc_callV hn6 (pc := 22) [.int x0] [] l_T_220 (c_Group_countLike l B N3 (hT.mod hn6) r2 r2B (hn6.k r2k) x0) rfl rfl r2k (by decide) (by decide) (Nat.le_of_ble_eq_true rfl) d_T_likes_22 (fun r12 N10 hq11 => ?_)
    obtain ⟨hk15, v14, rfl⟩ := hq11
    have hn13 : zMod B [] M N10 := hn6.call hk15 (by decide)
    show zW l m_T_likes (zn M + 0, zw M + 0) N10 25 [some (.ref q), some (.int x0)] [.int v14] (zqI B M [])
    refine zw_goto (pc := 25) (tgt := 29) (by decide) d_T_likes_25 ?_
    exact zw_iret (S := []) (pc := 29) (ty := .int) rfl rfl d_T_likes_29 ⟨hn13, _, rfl⟩
set_option maxHeartbeats 4000000 in
theorem c_Sums_putScaled (l : Launch) (B : Nat) (M : zMem) (hT : zTy B M) (q : Nat) (hqB : q < B) (hqk : (zsh M q).1 = 7 + 3) (x0 : Int32) (x1 : Int32) : zC l m_Sums_putScaled 0 0 [.ref q, .int x0, .int x1] M (zqV B M []) := by
  refine zC_of (L0 := [some (.ref q), some (.int x0), some (.int x1), none]) md_Sums_putScaled (Nat.le_of_ble_eq_true rfl) rfl ?_ zQ0
  have hm : zMod B [] M M := zMod.rf
  refine zw_iconst (pc := 0) (v := 0) (by decide) d_Sums_putScaled_0 ?_
  refine zw_istore_n (pc := 1) (i := 3) (L2 := [some (.ref q), some (.int x0), some (.int x1), some (.int 0)]) rfl (by decide) rfl d_Sums_putScaled_1 ?_
  obtain ⟨r4, r4f, r4B, r4k⟩ := hT.1 q 7 0 hqB hqk (by decide) (by decide) rfl
  have lp_2 : ∀ (n : Nat) (u1 : Int32) (N2 : zMem) (hn3 : zMod B [] M N2), zvu u1 (zi M r4 7) < n → zW l m_Sums_putScaled (zn M + 0, zw M + 0) N2 2 [some (.ref q), some (.int x0), some (.int x1), some (.int u1)] [] (zqV B M []) := by
    intro n
    induction n with
    | zero =>
      intro u1 N2 hn3 h0
      exact absurd h0 (Nat.not_lt_zero _)
    | succ n ih_2 =>
      intro u1 N2 hn3 hlt_2
      refine zw_iload_n (pc := 2) (n := 3) (x := u1) rfl d_Sums_putScaled_2 ?_
      refine zw_aload_n (pc := 3) (n := 0) (x := q) rfl d_Sums_putScaled_3 ?_
      refine zc_getF hn3 (pc := 4) f_Sums_23 rfl hqk r4f d_Sums_putScaled_4 ?_
      refine zc_getI0 hn3 (pc := 7) (by decide) f_Sums_35 rfl r4k d_Sums_putScaled_7 ?_
      refine zw_icmp_ge (pc := 10) (tgt := 41) (by decide) d_Sums_putScaled_10 (fun hc_10 => ?_) (fun hc_10 => ?_)
      · refine zw_aload_n (pc := 41) (n := 0) (x := q) rfl d_Sums_putScaled_41 ?_
        refine zw_bipush (pc := 42) (v := 39) (by decide) d_Sums_putScaled_42 ?_
        refine zc_callV hn3 (pc := 44) [.int 39] [] l_Sums_58 (c_Sums_solve l B N2 (hT.mod hn3) q hqB (hn3.k hqk) 39) rfl rfl hqk (by decide) (by decide) (Nat.le_of_ble_eq_true rfl) d_Sums_putScaled_44 (fun r7 N5 hq6 => ?_)
        obtain ⟨hk10, rfl⟩ := hq6
        have hn8 : zMod B [] M N5 := hn3.call hk10 (by decide)
        show zW l m_Sums_putScaled (zn M + 0, zw M + 0) N5 47 [some (.ref q), some (.int x0), some (.int x1), some (.int u1)] [] (zqV B M [])
        exact zw_vret (S := []) (pc := 47) rfl d_Sums_putScaled_47 ⟨hn8, rfl⟩
      · refine zw_aload_n (pc := 13) (n := 0) (x := q) rfl d_Sums_putScaled_13 ?_
        obtain ⟨r12, r12f, r12B, r12k⟩ := hT.1 q 7 2 hqB hqk (by decide) (by decide) rfl
        refine zc_getF hn3 (pc := 14) f_Sums_20 rfl hqk r12f d_Sums_putScaled_14 ?_
        refine zw_iload_n (pc := 17) (n := 3) (x := u1) rfl d_Sums_putScaled_17 ?_
        refine zw_iload_n (pc := 18) (n := 1) (x := x0) rfl d_Sums_putScaled_18 ?_
        refine zw_iload_n (pc := 19) (n := 3) (x := u1) rfl d_Sums_putScaled_19 ?_
        refine zc_callS hn3 (pc := 20) [.int x0, .int u1] [.int u1, .ref r12] l_Sums_61 (c_T_isIn l B N2 (hT.mod hn3) x0 u1) rfl rfl (by decide) (Nat.le_of_ble_eq_true rfl) d_Sums_putScaled_20 (fun r15 N13 hq14 => ?_)
        obtain ⟨hk18, v17, rfl, zv17⟩ := hq14
        have hn16 : zMod B [] M N13 := hn3.call hk18 (by decide)
        show zW l m_Sums_putScaled (zn M + 0, zw M + 0) N13 23 [some (.ref q), some (.int x0), some (.int x1), some (.int u1)] [.int v17, .int u1, .ref r12] (zqV B M [])
        have j_32 : ∀ (u20 : Int64) (N21 : zMem) (hn22 : zMod B [] M N21), zW l m_Sums_putScaled (zn M + 0, zw M + 0) N21 32 [some (.ref q), some (.int x0), some (.int x1), some (.int u1)] [.long u20, .int u1, .ref r12] (zqV B M []) := by
          intro u20 N21 hn22
          refine zc_callV hn22 (pc := 32) [.int u1, .long u20] [] l_Sums_31 (c_LongRow_put l B N21 (hT.mod hn22) r12 r12B (hn22.k r12k) u1 u20) rfl rfl r12k (by decide) (by decide) (Nat.le_of_ble_eq_true rfl) d_Sums_putScaled_32 (fun r25 N23 hq24 => ?_)
          obtain ⟨hk28, rfl⟩ := hq24
          have hn26 : zMod B [] M N23 := hn22.call hk28 (by decide)
          show zW l m_Sums_putScaled (zn M + 0, zw M + 0) N23 35 [some (.ref q), some (.int x0), some (.int x1), some (.int u1)] [] (zqV B M [])
          refine zw_iinc (pc := 35) (i := 3) (x := u1) (v := u1 + Int32.ofInt 1) (L2 := [some (.ref q), some (.int x0), some (.int x1), some (.int (u1 + Int32.ofInt 1))]) rfl rfl (by decide) rfl d_Sums_putScaled_35 ?_
          refine zw_goto (pc := 38) (tgt := 2) (by decide) d_Sums_putScaled_38 ?_
          exact ih_2 (u1 + Int32.ofInt 1) N23 hn26 (Nat.lt_of_lt_of_le (z_up hc_10) (Nat.le_of_lt_succ hlt_2))
        refine zw_if_eq (pc := 23) (tgt := 31) (by decide) d_Sums_putScaled_23 (fun hc_23 => ?_) (fun hc_23 => ?_)
        · refine zw_lconst (pc := 31) (v := 0) (by decide) d_Sums_putScaled_31 ?_
          exact j_32 0 N13 hn16
        · refine zw_iload_n (pc := 26) (n := 2) (x := x1) rfl d_Sums_putScaled_26 ?_
          refine zw_i2l (pc := 27) d_Sums_putScaled_27 ?_
          refine zw_goto (pc := 28) (tgt := 32) (by decide) d_Sums_putScaled_28 ?_
          exact j_32 ((x1 : Int32).toInt64) N13 hn16
  exact lp_2 _ 0 M hm (Nat.lt_succ_self _)
set_option maxHeartbeats 4000000 in
theorem c_T_greatestDivisor (l : Launch) (B : Nat) (M : zMem) (hT : zTy B M) (x0 : Int32) (x1 : Int32) : zC l m_T_greatestDivisor 0 0 [.int x0, .int x1] M (zqI B M []) := by
  refine zC_of (L0 := [some (.int x0), some (.int x1), none, none, none, none]) md_T_greatestDivisor (Nat.le_of_ble_eq_true rfl) rfl ?_ zQ0
  have hm : zMod B [] M M := zMod.rf
  refine zw_iload_n (pc := 0) (n := 0) (x := x0) rfl d_T_greatestDivisor_0 ?_
  refine zw_istore_n (pc := 1) (i := 2) (L2 := [some (.int x0), some (.int x1), some (.int x0), none, none, none]) rfl (by decide) rfl d_T_greatestDivisor_1 ?_
  refine zw_iload_n (pc := 2) (n := 1) (x := x1) rfl d_T_greatestDivisor_2 ?_
  refine zw_istore_n (pc := 3) (i := 3) (L2 := [some (.int x0), some (.int x1), some (.int x0), some (.int x1), none, none]) rfl (by decide) rfl d_T_greatestDivisor_3 ?_
  refine zw_iconst (pc := 4) (v := 0) (by decide) d_T_greatestDivisor_4 ?_
  refine zw_istore (pc := 5) (i := 4) (L2 := [some (.int x0), some (.int x1), some (.int x0), some (.int x1), some (.int 0), none]) (by decide) rfl d_T_greatestDivisor_5 ?_
  have lp_7 : ∀ (n : Nat) (u1 : Int32) (u2 : Int32) (u3 : Int32) (N4 : zMem) (hn5 : zMod B [] M N4), zvu u3 100 < n → zW l m_T_greatestDivisor (zn M + 0, zw M + 0) N4 7 [some (.int x0), some (.int x1), some (.int u1), some (.int u2), some (.int u3), none] [] (zqI B M []) := by
    intro n
    induction n with
    | zero =>
      intro u1 u2 u3 N4 hn5 h0
      exact absurd h0 (Nat.not_lt_zero _)
    | succ n ih_7 =>
      intro u1 u2 u3 N4 hn5 hlt_7
      refine zw_iload (pc := 7) (i := 4) (x := u3) rfl d_T_greatestDivisor_7 ?_
      refine zw_bipush (pc := 9) (v := 100) (by decide) d_T_greatestDivisor_9 ?_
      refine zw_icmp_ge (pc := 11) (tgt := 34) (by decide) d_T_greatestDivisor_11 (fun hc_11 => ?_) (fun hc_11 => ?_)
      · refine zw_iload_n (pc := 34) (n := 2) (x := u1) rfl d_T_greatestDivisor_34 ?_
        exact zw_iret (S := []) (pc := 35) (ty := .int) rfl rfl d_T_greatestDivisor_35 ⟨hn5, _, rfl⟩
      · refine zw_iload_n (pc := 14) (n := 3) (x := u2) rfl d_T_greatestDivisor_14 ?_
        refine zw_if_eq (pc := 15) (tgt := 34) (by decide) d_T_greatestDivisor_15 (fun hc_15 => ?_) (fun hc_15 => ?_)
        · refine zw_iload_n (pc := 34) (n := 2) (x := u1) rfl d_T_greatestDivisor_34 ?_
          exact zw_iret (S := []) (pc := 35) (ty := .int) rfl rfl d_T_greatestDivisor_35 ⟨hn5, _, rfl⟩
        · refine zw_iload_n (pc := 18) (n := 2) (x := u1) rfl d_T_greatestDivisor_18 ?_
          refine zw_iload_n (pc := 19) (n := 3) (x := u2) rfl d_T_greatestDivisor_19 ?_
          refine zw_irem (pc := 20) hc_15 d_T_greatestDivisor_20 ?_
          refine zw_istore (pc := 21) (i := 5) (L2 := [some (.int x0), some (.int x1), some (.int u1), some (.int u2), some (.int u3), some (.int (u1 - u1 / u2 * u2))]) (by decide) rfl d_T_greatestDivisor_21 ?_
          refine zw_iload_n (pc := 23) (n := 3) (x := u2) rfl d_T_greatestDivisor_23 ?_
          refine zw_istore_n (pc := 24) (i := 2) (L2 := [some (.int x0), some (.int x1), some (.int u2), some (.int u2), some (.int u3), some (.int (u1 - u1 / u2 * u2))]) rfl (by decide) rfl d_T_greatestDivisor_24 ?_
          refine zw_iload (pc := 25) (i := 5) (x := u1 - u1 / u2 * u2) rfl d_T_greatestDivisor_25 ?_
          refine zw_istore_n (pc := 27) (i := 3) (L2 := [some (.int x0), some (.int x1), some (.int u2), some (.int (u1 - u1 / u2 * u2)), some (.int u3), some (.int (u1 - u1 / u2 * u2))]) rfl (by decide) rfl d_T_greatestDivisor_27 ?_
          refine zw_iinc (pc := 28) (i := 4) (x := u3) (v := u3 + Int32.ofInt 1) (L2 := [some (.int x0), some (.int x1), some (.int u2), some (.int (u1 - u1 / u2 * u2)), some (.int (u3 + Int32.ofInt 1)), some (.int (u1 - u1 / u2 * u2))]) rfl rfl (by decide) rfl d_T_greatestDivisor_28 ?_
          refine zw_goto (pc := 31) (tgt := 7) (by decide) d_T_greatestDivisor_31 ?_
          refine zW_le [some (.int x0), some (.int x1), some (.int u2), some (.int (u1 - u1 / u2 * u2)), some (.int (u3 + Int32.ofInt 1)), none] (⟨rfl, rfl, rfl, rfl, rfl, trivial⟩) ?_
          exact ih_7 u2 (u1 - u1 / u2 * u2) (u3 + Int32.ofInt 1) N4 hn5 (Nat.lt_of_lt_of_le (z_up hc_11) (Nat.le_of_lt_succ hlt_7))
  exact lp_7 _ x0 x1 0 M hm (Nat.lt_succ_self _)
set_option maxHeartbeats 4000000 in
theorem c_T_peakPart (l : Launch) (B : Nat) (M : zMem) (hT : zTy B M) (q : Nat) (hqB : q < B) (hqk : (zsh M q).1 = 0 + 3) (x0 : Int32) (x1 : Int32) (x2 : Int32) : zC l m_T_peakPart 0 0 [.ref q, .int x0, .int x1, .int x2] M (zqI B M []) := by
  refine zC_of (L0 := [some (.ref q), some (.int x0), some (.int x1), some (.int x2), none, none, none]) md_T_peakPart (Nat.le_of_ble_eq_true rfl) rfl ?_ zQ0
  have hm : zMod B [] M M := zMod.rf
  refine zw_iload_n (pc := 0) (n := 3) (x := x2) rfl d_T_peakPart_0 ?_
  have j_12 : ∀ (N1 : zMem) (hn2 : zMod B [] M N1), zW l m_T_peakPart (zn M + 0, zw M + 0) N1 12 [some (.ref q), some (.int x0), some (.int x1), some (.int x2), none, none, none] [] (zqI B M []) := by
    intro N1 hn2
    refine zw_aload_n (pc := 12) (n := 0) (x := q) rfl d_T_peakPart_12 ?_
    obtain ⟨r3, r3f, r3B, r3k⟩ := hT.1 q 0 2 hqB hqk (by decide) (by decide) rfl
    refine zc_getF hn2 (pc := 13) f_T_28 rfl hqk r3f d_T_peakPart_13 ?_
    obtain ⟨r4, r4f, r4B, r4k⟩ := hT.1 r3 4 0 r3B r3k (by decide) (by decide) rfl
    refine zc_getF hn2 (pc := 16) f_T_61 rfl r3k r4f d_T_peakPart_16 ?_
    refine zc_getI0 hn2 (pc := 19) (by decide) f_T_65 rfl r4k d_T_peakPart_19 ?_
    refine zw_istore (pc := 22) (i := 4) (L2 := [some (.ref q), some (.int x0), some (.int x1), some (.int x2), some (.int (zi M r4 7)), none, none]) (by decide) rfl d_T_peakPart_22 ?_
    refine zw_aload_n (pc := 24) (n := 0) (x := q) rfl d_T_peakPart_24 ?_
    refine zc_getF hn2 (pc := 25) f_T_28 rfl hqk r3f d_T_peakPart_25 ?_
    obtain ⟨r5, r5f, r5B, r5k⟩ := hT.1 r3 4 2 r3B r3k (by decide) (by decide) rfl
    refine zc_getF hn2 (pc := 28) f_T_169 rfl r3k r5f d_T_peakPart_28 ?_
    refine zw_iload_n (pc := 31) (n := 1) (x := x0) rfl d_T_peakPart_31 ?_
    refine zw_iload (pc := 32) (i := 4) (x := zi M r4 7) rfl d_T_peakPart_32 ?_
    refine zc_callV hn2 (pc := 34) [.int x0, .int (zi M r4 7)] [] l_T_317 (c_Sums_putScaled l B N1 (hT.mod hn2) r5 r5B (hn2.k r5k) x0 (zi M r4 7)) rfl rfl r5k (by decide) (by decide) (Nat.le_of_ble_eq_true rfl) d_T_peakPart_34 (fun r8 N6 hq7 => ?_)
    obtain ⟨hk11, rfl⟩ := hq7
    have hn9 : zMod B [] M N6 := hn2.call hk11 (by decide)
    show zW l m_T_peakPart (zn M + 0, zw M + 0) N6 37 [some (.ref q), some (.int x0), some (.int x1), some (.int x2), some (.int (zi M r4 7)), none, none] [] (zqI B M [])
    refine zw_aload_n (pc := 37) (n := 0) (x := q) rfl d_T_peakPart_37 ?_
    refine zc_getF hn9 (pc := 38) f_T_28 rfl hqk r3f d_T_peakPart_38 ?_
    refine zc_getF hn9 (pc := 41) f_T_169 rfl r3k r5f d_T_peakPart_41 ?_
    refine zw_bipush (pc := 44) (v := 39) (by decide) d_T_peakPart_44 ?_
    refine zw_iload_n (pc := 46) (n := 2) (x := x1) rfl d_T_peakPart_46 ?_
    refine zc_callV hn9 (pc := 47) [.int 39, .int x1] [] l_T_179 (c_Sums_numberAt l B N6 (hT.mod hn9) r5 r5B (hn9.k r5k) 39 x1) rfl rfl r5k (by decide) (by decide) (Nat.le_of_ble_eq_true rfl) d_T_peakPart_47 (fun r15 N13 hq14 => ?_)
    obtain ⟨hk18, v17, rfl⟩ := hq14
    have hn16 : zMod B [] M N13 := hn9.call hk18 (by decide)
    show zW l m_T_peakPart (zn M + 0, zw M + 0) N13 50 [some (.ref q), some (.int x0), some (.int x1), some (.int x2), some (.int (zi M r4 7)), none, none] [.long v17] (zqI B M [])
    refine zw_l2i (pc := 50) d_T_peakPart_50 ?_
    refine zw_istore (pc := 51) (i := 5) (L2 := [some (.ref q), some (.int x0), some (.int x1), some (.int x2), some (.int (zi M r4 7)), some (.int ((v17 : Int64).toInt32)), none]) (by decide) rfl d_T_peakPart_51 ?_
    refine zw_iload (pc := 53) (i := 4) (x := zi M r4 7) rfl d_T_peakPart_53 ?_
    refine zw_iload (pc := 55) (i := 5) (x := (v17 : Int64).toInt32) rfl d_T_peakPart_55 ?_
    refine zw_mabs (pc := 57) x_T_320 (by decide) (Nat.le_of_ble_eq_true rfl) d_T_peakPart_57 (fun v20 hv20 => ?_)
    refine zc_callS hn16 (pc := 60) [.int (zi M r4 7), .int v20] [] l_T_325 (c_T_greatestDivisor l B N13 (hT.mod hn16) (zi M r4 7) v20) rfl rfl (by decide) (Nat.le_of_ble_eq_true rfl) d_T_peakPart_60 (fun r23 N21 hq22 => ?_)
    obtain ⟨hk26, v25, rfl⟩ := hq22
    have hn24 : zMod B [] M N21 := hn16.call hk26 (by decide)
    show zW l m_T_peakPart (zn M + 0, zw M + 0) N21 63 [some (.ref q), some (.int x0), some (.int x1), some (.int x2), some (.int (zi M r4 7)), some (.int ((v17 : Int64).toInt32)), none] [.int v25] (zqI B M [])
    refine zw_istore (pc := 63) (i := 6) (L2 := [some (.ref q), some (.int x0), some (.int x1), some (.int x2), some (.int (zi M r4 7)), some (.int ((v17 : Int64).toInt32)), some (.int v25)]) (by decide) rfl d_T_peakPart_63 ?_
    refine zw_iload (pc := 65) (i := 6) (x := v25) rfl d_T_peakPart_65 ?_
    refine zw_if_ne (pc := 67) (tgt := 73) (by decide) d_T_peakPart_67 (fun hc_67 => ?_) (fun hc_67 => ?_)
    · refine zw_iload_n (pc := 73) (n := 3) (x := x2) rfl d_T_peakPart_73 ?_
      refine zw_if_ne (pc := 74) (tgt := 85) (by decide) d_T_peakPart_74 (fun hc_74 => ?_) (fun hc_74 => ?_)
      · refine zw_iload (pc := 85) (i := 4) (x := zi M r4 7) rfl d_T_peakPart_85 ?_
        refine zw_iload (pc := 87) (i := 6) (x := v25) rfl d_T_peakPart_87 ?_
        refine zw_idiv (pc := 89) hc_67 d_T_peakPart_89 ?_
        exact zw_iret (S := []) (pc := 90) (ty := .int) rfl rfl d_T_peakPart_90 ⟨hn24, _, rfl⟩
      · refine zw_iload (pc := 77) (i := 5) (x := (v17 : Int64).toInt32) rfl d_T_peakPart_77 ?_
        refine zw_iload (pc := 79) (i := 6) (x := v25) rfl d_T_peakPart_79 ?_
        refine zw_idiv (pc := 81) hc_67 d_T_peakPart_81 ?_
        refine zw_goto (pc := 82) (tgt := 90) (by decide) d_T_peakPart_82 ?_
        exact zw_iret (S := []) (pc := 90) (ty := .int) rfl rfl d_T_peakPart_90 ⟨hn24, _, rfl⟩
    · refine zw_ldc (pc := 70) k_T_204 d_T_peakPart_70 ?_
      exact zw_iret (S := []) (pc := 72) (ty := .int) rfl rfl d_T_peakPart_72 ⟨hn24, _, rfl⟩
  refine zw_if_eq (pc := 1) (tgt := 12) (by decide) d_T_peakPart_1 (fun hc_1 => ?_) (fun hc_1 => ?_)
  · exact j_12 M hm
  · refine zw_iload_n (pc := 4) (n := 3) (x := x2) rfl d_T_peakPart_4 ?_
    refine zw_iconst (pc := 5) (v := 1) (by decide) d_T_peakPart_5 ?_
    refine zw_icmp_eq (pc := 6) (tgt := 12) (by decide) d_T_peakPart_6 (fun hc_6 => ?_) (fun hc_6 => ?_)
    · exact j_12 M hm
    · refine zw_ldc (pc := 9) k_T_204 d_T_peakPart_9 ?_
      exact zw_iret (S := []) (pc := 11) (ty := .int) rfl rfl d_T_peakPart_11 ⟨hm, _, rfl⟩
set_option maxHeartbeats 4000000 in
theorem c_T_peak (l : Launch) (B : Nat) (M : zMem) (hT : zTy B M) (q : Nat) (hqB : q < B) (hqk : (zsh M q).1 = 0 + 3) (x0 : Int32) (x1 : Int32) (x2 : Int32) : zC l m_T_peak 0 0 [.ref q, .int x0, .int x1, .int x2] M (zqI B M []) := by
  refine zC_of (L0 := [some (.ref q), some (.int x0), some (.int x1), some (.int x2)]) md_T_peak (Nat.le_of_ble_eq_true rfl) rfl ?_ zQ0
  have hm : zMod B [] M M := zMod.rf
  refine zw_aload_n (pc := 0) (n := 0) (x := q) rfl d_T_peak_0 ?_
  obtain ⟨r1, r1f, r1B, r1k⟩ := hT.1 q 0 2 hqB hqk (by decide) (by decide) rfl
  refine zc_getF hm (pc := 1) f_T_28 rfl hqk r1f d_T_peak_1 ?_
  obtain ⟨r2, r2f, r2B, r2k⟩ := hT.1 r1 4 1 r1B r1k (by decide) (by decide) rfl
  refine zc_getF hm (pc := 4) f_T_85 rfl r1k r2f d_T_peak_4 ?_
  refine zw_iload_n (pc := 7) (n := 1) (x := x0) rfl d_T_peak_7 ?_
  refine zc_callV hm (pc := 8) [.int x0] [] l_T_143 (c_Sorts_hasSort l B M (hT.mod hm) r2 r2B (hm.k r2k) x0) rfl rfl r2k (by decide) (by decide) (Nat.le_of_ble_eq_true rfl) d_T_peak_8 (fun r5 N3 hq4 => ?_)
  obtain ⟨hk8, v7, rfl, zv7⟩ := hq4
  have hn6 : zMod B [] M N3 := hm.call hk8 (by decide)
  show zW l m_T_peak (zn M + 0, zw M + 0) N3 11 [some (.ref q), some (.int x0), some (.int x1), some (.int x2)] [.int v7] (zqI B M [])
  refine zw_if_eq (pc := 11) (tgt := 28) (by decide) d_T_peak_11 (fun hc_11 => ?_) (fun hc_11 => ?_)
  · refine zw_ldc (pc := 28) k_T_204 d_T_peak_28 ?_
    exact zw_iret (S := []) (pc := 30) (ty := .int) rfl rfl d_T_peak_30 ⟨hn6, _, rfl⟩
  · refine zw_aload_n (pc := 14) (n := 0) (x := q) rfl d_T_peak_14 ?_
    refine zc_getF hn6 (pc := 15) f_T_28 rfl hqk r1f d_T_peak_15 ?_
    refine zc_getF hn6 (pc := 18) f_T_85 rfl r1k r2f d_T_peak_18 ?_
    refine zw_iload_n (pc := 21) (n := 2) (x := x1) rfl d_T_peak_21 ?_
    refine zc_callV hn6 (pc := 22) [.int x1] [] l_T_143 (c_Sorts_hasSort l B N3 (hT.mod hn6) r2 r2B (hn6.k r2k) x1) rfl rfl r2k (by decide) (by decide) (Nat.le_of_ble_eq_true rfl) d_T_peak_22 (fun r12 N10 hq11 => ?_)
    obtain ⟨hk15, v14, rfl, zv14⟩ := hq11
    have hn13 : zMod B [] M N10 := hn6.call hk15 (by decide)
    show zW l m_T_peak (zn M + 0, zw M + 0) N10 25 [some (.ref q), some (.int x0), some (.int x1), some (.int x2)] [.int v14] (zqI B M [])
    refine zw_if_ne (pc := 25) (tgt := 31) (by decide) d_T_peak_25 (fun hc_25 => ?_) (fun hc_25 => ?_)
    · refine zw_aload_n (pc := 31) (n := 0) (x := q) rfl d_T_peak_31 ?_
      refine zw_iconst (pc := 32) (v := 1) (by decide) d_T_peak_32 ?_
      refine zw_iload_n (pc := 33) (n := 1) (x := x0) rfl d_T_peak_33 ?_
      refine zw_ishl (pc := 34) d_T_peak_34 ?_
      refine zw_iload_n (pc := 35) (n := 2) (x := x1) rfl d_T_peak_35 ?_
      refine zw_iload_n (pc := 36) (n := 3) (x := x2) rfl d_T_peak_36 ?_
      refine zc_callV hn13 (pc := 37) [.int (1 <<< (x0 &&& 31)), .int x1, .int x2] [] l_T_223 (c_T_peakPart l B N10 (hT.mod hn13) q hqB (hn13.k hqk) (1 <<< (x0 &&& 31)) x1 x2) rfl rfl hqk (by decide) (by decide) (Nat.le_of_ble_eq_true rfl) d_T_peak_37 (fun r19 N17 hq18 => ?_)
      obtain ⟨hk22, v21, rfl⟩ := hq18
      have hn20 : zMod B [] M N17 := hn13.call hk22 (by decide)
      show zW l m_T_peak (zn M + 0, zw M + 0) N17 40 [some (.ref q), some (.int x0), some (.int x1), some (.int x2)] [.int v21] (zqI B M [])
      exact zw_iret (S := []) (pc := 40) (ty := .int) rfl rfl d_T_peak_40 ⟨hn20, _, rfl⟩
    · refine zw_ldc (pc := 28) k_T_204 d_T_peak_28 ?_
      exact zw_iret (S := []) (pc := 30) (ty := .int) rfl rfl d_T_peak_30 ⟨hn13, _, rfl⟩
set_option maxHeartbeats 4000000 in
theorem c_T_local (l : Launch) (B : Nat) (M : zMem) (hT : zTy B M) (q : Nat) (hqB : q < B) (hqk : (zsh M q).1 = 0 + 3) (x0 : Int32) (x1 : Int32) (x2 : Int32) (x3 : Int32) : zC l m_T_local 0 0 [.ref q, .int x0, .int x1, .int x2, .int x3] M (zqI B M []) := by
  refine zC_of (L0 := [some (.ref q), some (.int x0), some (.int x1), some (.int x2), some (.int x3)]) md_T_local (Nat.le_of_ble_eq_true rfl) rfl ?_ zQ0
  have hm : zMod B [] M M := zMod.rf
  refine zw_iload_n (pc := 0) (n := 1) (x := x0) rfl d_T_local_0 ?_
  refine zc_callS hm (pc := 1) [.int x0] [] l_T_183 (c_T_isPrime l B M (hT.mod hm) x0) rfl rfl (by decide) (Nat.le_of_ble_eq_true rfl) d_T_local_1 (fun r3 N1 hq2 => ?_)
  obtain ⟨hq2, ex7⟩ := hq2
  obtain ⟨hk6, v5, rfl, zv5⟩ := hq2
  have hn4 : zMod B [] M N1 := hm.call hk6 (by decide)
  show zW l m_T_local (zn M + 0, zw M + 0) N1 4 [some (.ref q), some (.int x0), some (.int x1), some (.int x2), some (.int x3)] [.int v5] (zqI B M [])
  refine zw_if_eq (pc := 4) (tgt := 35) (by decide) d_T_local_4 (fun hc_4 => ?_) (fun hc_4 => ?_)
  · refine zw_ldc (pc := 35) k_T_204 d_T_local_35 ?_
    exact zw_iret (S := []) (pc := 37) (ty := .int) rfl rfl d_T_local_37 ⟨hn4, _, rfl⟩
  · refine zw_aload_n (pc := 7) (n := 0) (x := q) rfl d_T_local_7 ?_
    obtain ⟨r8, r8f, r8B, r8k⟩ := hT.1 q 0 2 hqB hqk (by decide) (by decide) rfl
    refine zc_getF hn4 (pc := 8) f_T_28 rfl hqk r8f d_T_local_8 ?_
    obtain ⟨r9, r9f, r9B, r9k⟩ := hT.1 r8 4 1 r8B r8k (by decide) (by decide) rfl
    refine zc_getF hn4 (pc := 11) f_T_85 rfl r8k r9f d_T_local_11 ?_
    refine zw_iload_n (pc := 14) (n := 2) (x := x1) rfl d_T_local_14 ?_
    refine zc_callV hn4 (pc := 15) [.int x1] [] l_T_143 (c_Sorts_hasSort l B N1 (hT.mod hn4) r9 r9B (hn4.k r9k) x1) rfl rfl r9k (by decide) (by decide) (Nat.le_of_ble_eq_true rfl) d_T_local_15 (fun r12 N10 hq11 => ?_)
    obtain ⟨hk15, v14, rfl, zv14⟩ := hq11
    have hn13 : zMod B [] M N10 := hn4.call hk15 (by decide)
    show zW l m_T_local (zn M + 0, zw M + 0) N10 18 [some (.ref q), some (.int x0), some (.int x1), some (.int x2), some (.int x3)] [.int v14] (zqI B M [])
    refine zw_if_eq (pc := 18) (tgt := 35) (by decide) d_T_local_18 (fun hc_18 => ?_) (fun hc_18 => ?_)
    · refine zw_ldc (pc := 35) k_T_204 d_T_local_35 ?_
      exact zw_iret (S := []) (pc := 37) (ty := .int) rfl rfl d_T_local_37 ⟨hn13, _, rfl⟩
    · refine zw_aload_n (pc := 21) (n := 0) (x := q) rfl d_T_local_21 ?_
      refine zc_getF hn13 (pc := 22) f_T_28 rfl hqk r8f d_T_local_22 ?_
      refine zc_getF hn13 (pc := 25) f_T_85 rfl r8k r9f d_T_local_25 ?_
      refine zw_iload_n (pc := 28) (n := 3) (x := x2) rfl d_T_local_28 ?_
      refine zc_callV hn13 (pc := 29) [.int x2] [] l_T_143 (c_Sorts_hasSort l B N10 (hT.mod hn13) r9 r9B (hn13.k r9k) x2) rfl rfl r9k (by decide) (by decide) (Nat.le_of_ble_eq_true rfl) d_T_local_29 (fun r19 N17 hq18 => ?_)
      obtain ⟨hk22, v21, rfl, zv21⟩ := hq18
      have hn20 : zMod B [] M N17 := hn13.call hk22 (by decide)
      show zW l m_T_local (zn M + 0, zw M + 0) N17 32 [some (.ref q), some (.int x0), some (.int x1), some (.int x2), some (.int x3)] [.int v21] (zqI B M [])
      refine zw_if_ne (pc := 32) (tgt := 38) (by decide) d_T_local_32 (fun hc_32 => ?_) (fun hc_32 => ?_)
      · refine zw_aload_n (pc := 38) (n := 0) (x := q) rfl d_T_local_38 ?_
        refine zw_aload_n (pc := 39) (n := 0) (x := q) rfl d_T_local_39 ?_
        refine zc_getF hn20 (pc := 40) f_T_28 rfl hqk r8f d_T_local_40 ?_
        refine zc_getF hn20 (pc := 43) f_T_85 rfl r8k r9f d_T_local_43 ?_
        refine zw_iload_n (pc := 46) (n := 2) (x := x1) rfl d_T_local_46 ?_
        refine zw_iload_n (pc := 47) (n := 1) (x := x0) rfl d_T_local_47 ?_
        refine zc_callV hn20 (pc := 48) [.int x1, .int x0] [.ref q] l_T_189 (c_Sorts_blockOf l B N17 (hT.mod hn20) r9 r9B (hn20.k r9k) x1 x0 (ex7 _ rfl (z_one zv5 hc_4))) rfl rfl r9k (by decide) (by decide) (Nat.le_of_ble_eq_true rfl) d_T_local_48 (fun r26 N24 hq25 => ?_)
        obtain ⟨hk29, v28, rfl⟩ := hq25
        have hn27 : zMod B [] M N24 := hn20.call hk29 (by decide)
        show zW l m_T_local (zn M + 0, zw M + 0) N24 51 [some (.ref q), some (.int x0), some (.int x1), some (.int x2), some (.int x3)] [.int v28, .ref q] (zqI B M [])
        refine zw_iload_n (pc := 51) (n := 3) (x := x2) rfl d_T_local_51 ?_
        refine zw_iload (pc := 52) (i := 4) (x := x3) rfl d_T_local_52 ?_
        refine zc_callV hn27 (pc := 54) [.int v28, .int x2, .int x3] [] l_T_223 (c_T_peakPart l B N24 (hT.mod hn27) q hqB (hn27.k hqk) v28 x2 x3) rfl rfl hqk (by decide) (by decide) (Nat.le_of_ble_eq_true rfl) d_T_local_54 (fun r33 N31 hq32 => ?_)
        obtain ⟨hk36, v35, rfl⟩ := hq32
        have hn34 : zMod B [] M N31 := hn27.call hk36 (by decide)
        show zW l m_T_local (zn M + 0, zw M + 0) N31 57 [some (.ref q), some (.int x0), some (.int x1), some (.int x2), some (.int x3)] [.int v35] (zqI B M [])
        exact zw_iret (S := []) (pc := 57) (ty := .int) rfl rfl d_T_local_57 ⟨hn34, _, rfl⟩
      · refine zw_ldc (pc := 35) k_T_204 d_T_local_35 ?_
        exact zw_iret (S := []) (pc := 37) (ty := .int) rfl rfl d_T_local_37 ⟨hn20, _, rfl⟩
set_option maxHeartbeats 4000000 in
theorem c_Units_bitOf (l : Launch) (B : Nat) (M : zMem) (hT : zTy B M) (q : Nat) (hqB : q < B) (hqk : (zsh M q).1 = 9 + 3) (x0 : Int32) : zC l m_Units_bitOf 0 0 [.ref q, .int x0] M (zqI B M []) := by
  refine zC_of (L0 := [some (.ref q), some (.int x0)]) md_Units_bitOf (Nat.le_of_ble_eq_true rfl) rfl ?_ zQ0
  have hm : zMod B [] M M := zMod.rf
  refine zw_iconst (pc := 0) (v := 1) (by decide) d_Units_bitOf_0 ?_
  refine zw_aload_n (pc := 1) (n := 0) (x := q) rfl d_Units_bitOf_1 ?_
  obtain ⟨r1, r1f, r1B, r1k⟩ := hT.1 q 9 0 hqB hqk (by decide) (by decide) rfl
  refine zc_getF hm (pc := 2) f_Units_23 rfl hqk r1f d_Units_bitOf_2 ?_
  refine zc_getI0 hm (pc := 5) (by decide) f_Units_35 rfl r1k d_Units_bitOf_5 ?_
  refine zw_iconst (pc := 8) (v := 1) (by decide) d_Units_bitOf_8 ?_
  refine zw_isub (pc := 9) d_Units_bitOf_9 ?_
  refine zw_iload_n (pc := 10) (n := 1) (x := x0) rfl d_Units_bitOf_10 ?_
  refine zw_isub (pc := 11) d_Units_bitOf_11 ?_
  refine zw_ishl (pc := 12) d_Units_bitOf_12 ?_
  exact zw_iret (S := []) (pc := 13) (ty := .int) rfl rfl d_Units_bitOf_13 ⟨hm, _, rfl⟩
set_option maxHeartbeats 4000000 in
theorem c_Units_narrow (l : Launch) (B : Nat) (M : zMem) (hT : zTy B M) (q : Nat) (hqB : q < B) (hqk : (zsh M q).1 = 9 + 3) (x0 : Int32) : zC l m_Units_narrow 0 0 [.ref q, .int x0] M (zqV B M [(9, 3)]) := by
  refine zC_of (L0 := [some (.ref q), some (.int x0), none, none]) md_Units_narrow (Nat.le_of_ble_eq_true rfl) rfl ?_ zQ0
  have hm : zMod B [(9, 3)] M M := zMod.rf
  refine zw_iconst (pc := 0) (v := (-1)) (by decide) d_Units_narrow_0 ?_
  refine zw_istore_n (pc := 1) (i := 2) (L2 := [some (.ref q), some (.int x0), some (.int ((-1))), none]) rfl (by decide) rfl d_Units_narrow_1 ?_
  refine zw_iconst (pc := 2) (v := 0) (by decide) d_Units_narrow_2 ?_
  refine zw_istore_n (pc := 3) (i := 3) (L2 := [some (.ref q), some (.int x0), some (.int ((-1))), some (.int 0)]) rfl (by decide) rfl d_Units_narrow_3 ?_
  have lp_4 : ∀ (n : Nat) (u1 : Int32) (u2 : Int32) (N3 : zMem) (hn4 : zMod B [(9, 3)] M N3) (ki5 : zi N3 q 3 = zi M q 3), zvu u2 (zi M q 3) < n → zW l m_Units_narrow (zn M + 0, zw M + 0) N3 4 [some (.ref q), some (.int x0), some (.int u1), some (.int u2)] [] (zqV B M [(9, 3)]) := by
    intro n
    induction n with
    | zero =>
      intro u1 u2 N3 hn4 ki5 h0
      exact absurd h0 (Nat.not_lt_zero _)
    | succ n ih_4 =>
      intro u1 u2 N3 hn4 ki5 hlt_4
      refine zw_iload_n (pc := 4) (n := 3) (x := u2) rfl d_Units_narrow_4 ?_
      refine zw_aload_n (pc := 5) (n := 0) (x := q) rfl d_Units_narrow_5 ?_
      refine zc_getIe hn4 (x := zi M q 3) ki5 (pc := 6) f_Units_31 rfl hqk d_Units_narrow_6 ?_
      refine zw_icmp_ge (pc := 9) (tgt := 74) (by decide) d_Units_narrow_9 (fun hc_9 => ?_) (fun hc_9 => ?_)
      · refine zw_iload_n (pc := 74) (n := 2) (x := u1) rfl d_Units_narrow_74 ?_
        refine zw_iconst (pc := 75) (v := (-1)) (by decide) d_Units_narrow_75 ?_
        refine zw_icmp_eq (pc := 76) (tgt := 108) (by decide) d_Units_narrow_76 (fun hc_76 => ?_) (fun hc_76 => ?_)
        · exact zw_vret (S := []) (pc := 108) rfl d_Units_narrow_108 ⟨hn4, rfl⟩
        · refine zw_aload_n (pc := 79) (n := 0) (x := q) rfl d_Units_narrow_79 ?_
          refine zw_dup (pc := 80) rfl d_Units_narrow_80 ?_
          refine zc_getIe hn4 (x := zi M q 3) ki5 (pc := 81) f_Units_31 rfl hqk d_Units_narrow_81 ?_
          refine zw_iconst (pc := 84) (v := 1) (by decide) d_Units_narrow_84 ?_
          refine zw_isub (pc := 85) d_Units_narrow_85 ?_
          refine zc_putI hn4 (pc := 86) f_Units_31 rfl rfl hqk hqB (by decide) rfl rfl d_Units_narrow_86 (fun N6 hN6 hn7 => ?_)
          have kv8 : zi N6 q 3 = (zi M q 3) - 1 := by rw [hN6]; exact zup2_s
          refine zw_aload_n (pc := 89) (n := 0) (x := q) rfl d_Units_narrow_89 ?_
          obtain ⟨r9, r9f, r9B, r9k⟩ := hT.1 q 9 1 hqB hqk (by decide) (by decide) rfl
          refine zc_getF hn7 (pc := 90) f_Units_14 rfl hqk r9f d_Units_narrow_90 ?_
          refine zw_iload_n (pc := 93) (n := 2) (x := u1) rfl d_Units_narrow_93 ?_
          refine zw_aload_n (pc := 94) (n := 0) (x := q) rfl d_Units_narrow_94 ?_
          refine zc_getF hn7 (pc := 95) f_Units_14 rfl hqk r9f d_Units_narrow_95 ?_
          refine zw_aload_n (pc := 98) (n := 0) (x := q) rfl d_Units_narrow_98 ?_
          refine zc_getIe hn7 (x := (zi M q 3) - 1) kv8 (pc := 99) f_Units_31 rfl hqk d_Units_narrow_99 ?_
          refine zc_callV hn7 (pc := 102) [.int ((zi M q 3) - 1)] [.int u1, .ref r9] l_Units_57 (c_IntRow_at l B N6 (hT.mod hn7) r9 r9B (hn7.k r9k) ((zi M q 3) - 1)) rfl rfl r9k (by decide) (by decide) (Nat.le_of_ble_eq_true rfl) d_Units_narrow_102 (fun r12 N10 hq11 => ?_)
          obtain ⟨hk15, v14, rfl⟩ := hq11
          have hn13 : zMod B [(9, 3)] M N10 := hn7.call hk15 (by decide)
          have kv17 : zi N10 q 3 = (zi M q 3) - 1 := (hk15.2.2.2.2 q 9 3 (hn7.k hqk) (by decide)).trans kv8
          show zW l m_Units_narrow (zn M + 0, zw M + 0) N10 105 [some (.ref q), some (.int x0), some (.int u1), some (.int u2)] [.int v14, .int u1, .ref r9] (zqV B M [(9, 3)])
          refine zc_callV hn13 (pc := 105) [.int u1, .int v14] [] l_Units_40 (c_IntRow_put l B N10 (hT.mod hn13) r9 r9B (hn13.k r9k) u1 v14) rfl rfl r9k (by decide) (by decide) (Nat.le_of_ble_eq_true rfl) d_Units_narrow_105 (fun r20 N18 hq19 => ?_)
          obtain ⟨hk23, rfl⟩ := hq19
          have hn21 : zMod B [(9, 3)] M N18 := hn13.call hk23 (by decide)
          have kv25 : zi N18 q 3 = (zi M q 3) - 1 := (hk23.2.2.2.2 q 9 3 (hn13.k hqk) (by decide)).trans kv17
          show zW l m_Units_narrow (zn M + 0, zw M + 0) N18 108 [some (.ref q), some (.int x0), some (.int u1), some (.int u2)] [] (zqV B M [(9, 3)])
          exact zw_vret (S := []) (pc := 108) rfl d_Units_narrow_108 ⟨hn21, rfl⟩
      · refine zw_aload_n (pc := 12) (n := 0) (x := q) rfl d_Units_narrow_12 ?_
        obtain ⟨r26, r26f, r26B, r26k⟩ := hT.1 q 9 1 hqB hqk (by decide) (by decide) rfl
        refine zc_getF hn4 (pc := 13) f_Units_14 rfl hqk r26f d_Units_narrow_13 ?_
        refine zw_iload_n (pc := 16) (n := 3) (x := u2) rfl d_Units_narrow_16 ?_
        refine zc_callV hn4 (pc := 17) [.int u2] [] l_Units_57 (c_IntRow_at l B N3 (hT.mod hn4) r26 r26B (hn4.k r26k) u2) rfl rfl r26k (by decide) (by decide) (Nat.le_of_ble_eq_true rfl) d_Units_narrow_17 (fun r29 N27 hq28 => ?_)
        obtain ⟨hk32, v31, rfl⟩ := hq28
        have hn30 : zMod B [(9, 3)] M N27 := hn4.call hk32 (by decide)
        have kv34 : zi N27 q 3 = zi M q 3 := (hk32.2.2.2.2 q 9 3 (hn4.k hqk) (by decide)).trans ki5
        show zW l m_Units_narrow (zn M + 0, zw M + 0) N27 20 [some (.ref q), some (.int x0), some (.int u1), some (.int u2)] [.int v31] (zqV B M [(9, 3)])
        refine zw_iload_n (pc := 20) (n := 1) (x := x0) rfl d_Units_narrow_20 ?_
        refine zw_iand (pc := 21) d_Units_narrow_21 ?_
        refine zc_callS hn30 (pc := 22) [.int (v31 &&& x0)] [] l_Units_89 (c_Integer_bitCount l B N27 (hT.mod hn30) (v31 &&& x0)) rfl rfl (by decide) (Nat.le_of_ble_eq_true rfl) d_Units_narrow_22 (fun r37 N35 hq36 => ?_)
        obtain ⟨hq36, ex41⟩ := hq36
        obtain ⟨hk40, v39, rfl⟩ := hq36
        have hn38 : zMod B [(9, 3)] M N35 := hn30.call hk40 (by decide)
        have kv42 : zi N35 q 3 = zi M q 3 := (hk40.2.2.2.2 q 9 3 (hn30.k hqk) (by decide)).trans kv34
        show zW l m_Units_narrow (zn M + 0, zw M + 0) N35 25 [some (.ref q), some (.int x0), some (.int u1), some (.int u2)] [.int v39] (zqV B M [(9, 3)])
        refine zw_iconst (pc := 25) (v := 1) (by decide) d_Units_narrow_25 ?_
        refine zw_iand (pc := 26) d_Units_narrow_26 ?_
        have j_68 : ∀ (u43 : Int32) (N44 : zMem) (hn45 : zMod B [(9, 3)] M N44) (ki46 : zi N44 q 3 = zi M q 3), zW l m_Units_narrow (zn M + 0, zw M + 0) N44 68 [some (.ref q), some (.int x0), some (.int u43), some (.int u2)] [] (zqV B M [(9, 3)]) := by
          intro u43 N44 hn45 ki46
          refine zw_iinc (pc := 68) (i := 3) (x := u2) (v := u2 + Int32.ofInt 1) (L2 := [some (.ref q), some (.int x0), some (.int u43), some (.int (u2 + Int32.ofInt 1))]) rfl rfl (by decide) rfl d_Units_narrow_68 ?_
          refine zw_goto (pc := 71) (tgt := 4) (by decide) d_Units_narrow_71 ?_
          exact ih_4 u43 (u2 + Int32.ofInt 1) N44 hn45 ki46 (Nat.lt_of_lt_of_le (z_up hc_9) (Nat.le_of_lt_succ hlt_4))
        refine zw_if_ne (pc := 27) (tgt := 33) (by decide) d_Units_narrow_27 (fun hc_27 => ?_) (fun hc_27 => ?_)
        · refine zw_iload_n (pc := 33) (n := 2) (x := u1) rfl d_Units_narrow_33 ?_
          refine zw_iconst (pc := 34) (v := (-1)) (by decide) d_Units_narrow_34 ?_
          refine zw_icmp_ne (pc := 35) (tgt := 43) (by decide) d_Units_narrow_35 (fun hc_35 => ?_) (fun hc_35 => ?_)
          · refine zw_aload_n (pc := 43) (n := 0) (x := q) rfl d_Units_narrow_43 ?_
            refine zc_getF hn38 (pc := 44) f_Units_14 rfl hqk r26f d_Units_narrow_44 ?_
            refine zw_iload_n (pc := 47) (n := 3) (x := u2) rfl d_Units_narrow_47 ?_
            refine zw_aload_n (pc := 48) (n := 0) (x := q) rfl d_Units_narrow_48 ?_
            refine zc_getF hn38 (pc := 49) f_Units_14 rfl hqk r26f d_Units_narrow_49 ?_
            refine zw_iload_n (pc := 52) (n := 3) (x := u2) rfl d_Units_narrow_52 ?_
            refine zc_callV hn38 (pc := 53) [.int u2] [.int u2, .ref r26] l_Units_57 (c_IntRow_at l B N35 (hT.mod hn38) r26 r26B (hn38.k r26k) u2) rfl rfl r26k (by decide) (by decide) (Nat.le_of_ble_eq_true rfl) d_Units_narrow_53 (fun r49 N47 hq48 => ?_)
            obtain ⟨hk52, v51, rfl⟩ := hq48
            have hn50 : zMod B [(9, 3)] M N47 := hn38.call hk52 (by decide)
            have kv54 : zi N47 q 3 = zi M q 3 := (hk52.2.2.2.2 q 9 3 (hn38.k hqk) (by decide)).trans kv42
            show zW l m_Units_narrow (zn M + 0, zw M + 0) N47 56 [some (.ref q), some (.int x0), some (.int u1), some (.int u2)] [.int v51, .int u2, .ref r26] (zqV B M [(9, 3)])
            refine zw_aload_n (pc := 56) (n := 0) (x := q) rfl d_Units_narrow_56 ?_
            refine zc_getF hn50 (pc := 57) f_Units_14 rfl hqk r26f d_Units_narrow_57 ?_
            refine zw_iload_n (pc := 60) (n := 2) (x := u1) rfl d_Units_narrow_60 ?_
            refine zc_callV hn50 (pc := 61) [.int u1] [.int v51, .int u2, .ref r26] l_Units_57 (c_IntRow_at l B N47 (hT.mod hn50) r26 r26B (hn50.k r26k) u1) rfl rfl r26k (by decide) (by decide) (Nat.le_of_ble_eq_true rfl) d_Units_narrow_61 (fun r57 N55 hq56 => ?_)
            obtain ⟨hk60, v59, rfl⟩ := hq56
            have hn58 : zMod B [(9, 3)] M N55 := hn50.call hk60 (by decide)
            have kv62 : zi N55 q 3 = zi M q 3 := (hk60.2.2.2.2 q 9 3 (hn50.k hqk) (by decide)).trans kv54
            show zW l m_Units_narrow (zn M + 0, zw M + 0) N55 64 [some (.ref q), some (.int x0), some (.int u1), some (.int u2)] [.int v59, .int v51, .int u2, .ref r26] (zqV B M [(9, 3)])
            refine zw_ixor (pc := 64) d_Units_narrow_64 ?_
            refine zc_callV hn58 (pc := 65) [.int u2, .int (v51 ^^^ v59)] [] l_Units_40 (c_IntRow_put l B N55 (hT.mod hn58) r26 r26B (hn58.k r26k) u2 (v51 ^^^ v59)) rfl rfl r26k (by decide) (by decide) (Nat.le_of_ble_eq_true rfl) d_Units_narrow_65 (fun r65 N63 hq64 => ?_)
            obtain ⟨hk68, rfl⟩ := hq64
            have hn66 : zMod B [(9, 3)] M N63 := hn58.call hk68 (by decide)
            have kv70 : zi N63 q 3 = zi M q 3 := (hk68.2.2.2.2 q 9 3 (hn58.k hqk) (by decide)).trans kv62
            show zW l m_Units_narrow (zn M + 0, zw M + 0) N63 68 [some (.ref q), some (.int x0), some (.int u1), some (.int u2)] [] (zqV B M [(9, 3)])
            exact j_68 u1 N63 hn66 kv70
          · refine zw_iload_n (pc := 38) (n := 3) (x := u2) rfl d_Units_narrow_38 ?_
            refine zw_istore_n (pc := 39) (i := 2) (L2 := [some (.ref q), some (.int x0), some (.int u2), some (.int u2)]) rfl (by decide) rfl d_Units_narrow_39 ?_
            refine zw_goto (pc := 40) (tgt := 68) (by decide) d_Units_narrow_40 ?_
            exact j_68 u2 N35 hn38 kv42
        · refine zw_goto (pc := 30) (tgt := 68) (by decide) d_Units_narrow_30 ?_
          exact j_68 u1 N35 hn38 kv42
  exact lp_4 _ ((-1)) 0 M hm rfl (Nat.lt_succ_self _)
