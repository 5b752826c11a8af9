/-! methods of the landed part, walked by program -/
set_option maxHeartbeats 4000000 in
theorem c_T_codeOf (l : Launch) (B : Nat) (M : zMem) (hT : zTy B M) (x0 : Int32) (x1 : Int32) : zC l m_T_codeOf 0 0 [.int x0, .int x1] M (zqI B M []) := by
  refine zC_of (L0 := [some (.int x0), some (.int x1)]) md_T_codeOf (Nat.le_of_ble_eq_true rfl) rfl ?_ zQ0
  have hm : zMod B [] M M := zMod.rf
  refine zw_iload_n (pc := 0) (n := 0) (x := x0) rfl d_T_codeOf_0 ?_
  refine zw_iconst (pc := 1) (v := 3) (by decide) d_T_codeOf_1 ?_
  refine zw_iconst (pc := 2) (v := 5) (by decide) d_T_codeOf_2 ?_
  refine zw_iload_n (pc := 3) (n := 1) (x := x1) rfl d_T_codeOf_3 ?_
  refine zw_isub (pc := 4) d_T_codeOf_4 ?_
  refine zw_imul (pc := 5) d_T_codeOf_5 ?_
  refine zw_ishl (pc := 6) d_T_codeOf_6 ?_
  exact zw_iret (S := []) (pc := 7) (ty := .int) rfl rfl d_T_codeOf_7 ⟨hm, _, rfl⟩
set_option maxHeartbeats 4000000 in
theorem c_IntRow_put (l : Launch) (B : Nat) (M : zMem) (hT : zTy B M) (q : Nat) (hqB : q < B) (hqk : (zsh M q).1 = 2 + 3) (x0 : Int32) (x1 : Int32) : zC l m_IntRow_put 0 0 [.ref q, .int x0, .int x1] M (zqV B M []) := by
  refine zC_of (L0 := [some (.ref q), some (.int x0), some (.int x1)]) md_IntRow_put (Nat.le_of_ble_eq_true rfl) rfl ?_ zQ0
  have hm : zMod B [] M M := zMod.rf
  refine zw_iload_n (pc := 0) (n := 1) (x := x0) rfl d_IntRow_put_0 ?_
  refine zw_if_lt (pc := 1) (tgt := 20) (by decide) d_IntRow_put_1 (fun hc_1 => ?_) (fun hc_1 => ?_)
  · exact zw_vret (S := []) (pc := 20) rfl d_IntRow_put_20 ⟨hm, rfl⟩
  · refine zw_iload_n (pc := 4) (n := 1) (x := x0) rfl d_IntRow_put_4 ?_
    refine zw_aload_n (pc := 5) (n := 0) (x := q) rfl d_IntRow_put_5 ?_
    obtain ⟨r1, r1f, r1B, r1k⟩ := hT.1 q 2 0 hqB hqk (by decide) (by decide) rfl
    refine zc_getF hm (pc := 6) f_IntRow_13 rfl hqk r1f d_IntRow_put_6 ?_
    refine zc_alenI hm (pc := 9) r1k d_IntRow_put_9 ?_
    refine zw_icmp_ge (pc := 10) (tgt := 20) (by decide) d_IntRow_put_10 (fun hc_10 => ?_) (fun hc_10 => ?_)
    · exact zw_vret (S := []) (pc := 20) rfl d_IntRow_put_20 ⟨hm, rfl⟩
    · refine zw_aload_n (pc := 13) (n := 0) (x := q) rfl d_IntRow_put_13 ?_
      refine zc_getF hm (pc := 14) f_IntRow_13 rfl hqk r1f d_IntRow_put_14 ?_
      refine zw_iload_n (pc := 17) (n := 1) (x := x0) rfl d_IntRow_put_17 ?_
      refine zw_iload_n (pc := 18) (n := 2) (x := x1) rfl d_IntRow_put_18 ?_
      refine zc_iast hm (pc := 19) r1k r1B (z_vin hc_1 hc_10 (hT.2 r1 r1B)) d_IntRow_put_19 (fun N2 hN2 hn3 => ?_)
      exact zw_vret (S := []) (pc := 20) rfl d_IntRow_put_20 ⟨hn3, rfl⟩
set_option maxHeartbeats 4000000 in
theorem c_IntRow_at (l : Launch) (B : Nat) (M : zMem) (hT : zTy B M) (q : Nat) (hqB : q < B) (hqk : (zsh M q).1 = 2 + 3) (x0 : Int32) : zC l m_IntRow_at 0 0 [.ref q, .int x0] M (zqI B M []) := by
  refine zC_of (L0 := [some (.ref q), some (.int x0)]) md_IntRow_at (Nat.le_of_ble_eq_true rfl) rfl ?_ zQ0
  have hm : zMod B [] M M := zMod.rf
  refine zw_iload_n (pc := 0) (n := 1) (x := x0) rfl d_IntRow_at_0 ?_
  refine zw_if_lt (pc := 1) (tgt := 22) (by decide) d_IntRow_at_1 (fun hc_1 => ?_) (fun hc_1 => ?_)
  · refine zw_iconst (pc := 22) (v := 0) (by decide) d_IntRow_at_22 ?_
    exact zw_iret (S := []) (pc := 23) (ty := .int) rfl rfl d_IntRow_at_23 ⟨hm, _, rfl⟩
  · refine zw_iload_n (pc := 4) (n := 1) (x := x0) rfl d_IntRow_at_4 ?_
    refine zw_aload_n (pc := 5) (n := 0) (x := q) rfl d_IntRow_at_5 ?_
    obtain ⟨r1, r1f, r1B, r1k⟩ := hT.1 q 2 0 hqB hqk (by decide) (by decide) rfl
    refine zc_getF hm (pc := 6) f_IntRow_13 rfl hqk r1f d_IntRow_at_6 ?_
    refine zc_alenI hm (pc := 9) r1k d_IntRow_at_9 ?_
    refine zw_icmp_ge (pc := 10) (tgt := 22) (by decide) d_IntRow_at_10 (fun hc_10 => ?_) (fun hc_10 => ?_)
    · refine zw_iconst (pc := 22) (v := 0) (by decide) d_IntRow_at_22 ?_
      exact zw_iret (S := []) (pc := 23) (ty := .int) rfl rfl d_IntRow_at_23 ⟨hm, _, rfl⟩
    · refine zw_aload_n (pc := 13) (n := 0) (x := q) rfl d_IntRow_at_13 ?_
      refine zc_getF hm (pc := 14) f_IntRow_13 rfl hqk r1f d_IntRow_at_14 ?_
      refine zw_iload_n (pc := 17) (n := 1) (x := x0) rfl d_IntRow_at_17 ?_
      refine zc_iald hm (pc := 18) r1k (z_vin hc_1 hc_10 (hT.2 r1 r1B)) d_IntRow_at_18 ?_
      refine zw_goto (pc := 19) (tgt := 23) (by decide) d_IntRow_at_19 ?_
      exact zw_iret (S := []) (pc := 23) (ty := .int) rfl rfl d_IntRow_at_23 ⟨hm, _, rfl⟩
set_option maxHeartbeats 4000000 in
theorem c_T_placeIn (l : Launch) (B : Nat) (M : zMem) (hT : zTy B M) (x0 : Int32) (x1 : Int32) : zC l m_T_placeIn 0 0 [.int x0, .int x1] M (zqI B M []) := by
  refine zC_of (L0 := [some (.int x0), some (.int x1)]) md_T_placeIn (Nat.le_of_ble_eq_true rfl) rfl ?_ zQ0
  have hm : zMod B [] M M := zMod.rf
  refine zw_iload_n (pc := 0) (n := 0) (x := x0) rfl d_T_placeIn_0 ?_
  refine zw_iconst (pc := 1) (v := 3) (by decide) d_T_placeIn_1 ?_
  refine zw_iconst (pc := 2) (v := 5) (by decide) d_T_placeIn_2 ?_
  refine zw_iload_n (pc := 3) (n := 1) (x := x1) rfl d_T_placeIn_3 ?_
  refine zw_isub (pc := 4) d_T_placeIn_4 ?_
  refine zw_imul (pc := 5) d_T_placeIn_5 ?_
  refine zw_ishr (pc := 6) d_T_placeIn_6 ?_
  refine zw_bipush (pc := 7) (v := 7) (by decide) d_T_placeIn_7 ?_
  refine zw_iand (pc := 9) d_T_placeIn_9 ?_
  exact zw_iret (S := []) (pc := 10) (ty := .int) rfl rfl d_T_placeIn_10 ⟨hm, _, rfl⟩
set_option maxHeartbeats 4000000 in
theorem c_Group_behind (l : Launch) (B : Nat) (M : zMem) (hT : zTy B M) (q : Nat) (hqB : q < B) (hqk : (zsh M q).1 = 5 + 3) (x0 : Int32) (x1 : Int32) : zC l m_Group_behind 0 0 [.ref q, .int x0, .int x1] M (zqI B M []) := by
  refine zC_of (L0 := [some (.ref q), some (.int x0), some (.int x1), none, none]) md_Group_behind (Nat.le_of_ble_eq_true rfl) rfl ?_ zQ0
  have hm : zMod B [] M M := zMod.rf
  refine zw_iconst (pc := 0) (v := 0) (by decide) d_Group_behind_0 ?_
  refine zw_istore_n (pc := 1) (i := 3) (L2 := [some (.ref q), some (.int x0), some (.int x1), some (.int 0), none]) rfl (by decide) rfl d_Group_behind_1 ?_
  refine zw_iconst (pc := 2) (v := 0) (by decide) d_Group_behind_2 ?_
  refine zw_istore (pc := 3) (i := 4) (L2 := [some (.ref q), some (.int x0), some (.int x1), some (.int 0), some (.int 0)]) (by decide) rfl d_Group_behind_3 ?_
  have lp_5 : ∀ (n : Nat) (u1 : Int32) (u2 : Int32) (N3 : zMem) (hn4 : zMod B [] M N3), zvu u2 (zi M q 5) < n → zW l m_Group_behind (zn M + 0, zw M + 0) N3 5 [some (.ref q), some (.int x0), some (.int x1), some (.int u1), some (.int u2)] [] (zqI B M []) := by
    intro n
    induction n with
    | zero =>
      intro u1 u2 N3 hn4 h0
      exact absurd h0 (Nat.not_lt_zero _)
    | succ n ih_5 =>
      intro u1 u2 N3 hn4 hlt_5
      refine zw_iload (pc := 5) (i := 4) (x := u2) rfl d_Group_behind_5 ?_
      refine zw_aload_n (pc := 7) (n := 0) (x := q) rfl d_Group_behind_7 ?_
      refine zc_getI0 hn4 (pc := 8) (by decide) f_Group_32 rfl hqk d_Group_behind_8 ?_
      refine zw_icmp_ge (pc := 11) (tgt := 38) (by decide) d_Group_behind_11 (fun hc_11 => ?_) (fun hc_11 => ?_)
      · refine zw_iload_n (pc := 38) (n := 3) (x := u1) rfl d_Group_behind_38 ?_
        exact zw_iret (S := []) (pc := 39) (ty := .int) rfl rfl d_Group_behind_39 ⟨hn4, _, rfl⟩
      · refine zw_iload_n (pc := 14) (n := 3) (x := u1) rfl d_Group_behind_14 ?_
        refine zw_iload_n (pc := 15) (n := 2) (x := x1) rfl d_Group_behind_15 ?_
        refine zw_iload_n (pc := 16) (n := 1) (x := x0) rfl d_Group_behind_16 ?_
        refine zw_iload (pc := 17) (i := 4) (x := u2) rfl d_Group_behind_17 ?_
        refine zc_callS hn4 (pc := 19) [.int x0, .int u2] [.int x1, .int u1] l_Group_64 (c_T_placeIn l B N3 (hT.mod hn4) x0 u2) rfl rfl (by decide) (Nat.le_of_ble_eq_true rfl) d_Group_behind_19 (fun r7 N5 hq6 => ?_)
        obtain ⟨hk10, v9, rfl⟩ := hq6
        have hn8 : zMod B [] M N5 := hn4.call hk10 (by decide)
        show zW l m_Group_behind (zn M + 0, zw M + 0) N5 22 [some (.ref q), some (.int x0), some (.int x1), some (.int u1), some (.int u2)] [.int v9, .int x1, .int u1] (zqI B M [])
        refine zc_callS hn8 (pc := 22) [.int x1, .int v9] [.int u1] l_Group_64 (c_T_placeIn l B N5 (hT.mod hn8) x1 v9) rfl rfl (by decide) (Nat.le_of_ble_eq_true rfl) d_Group_behind_22 (fun r14 N12 hq13 => ?_)
        obtain ⟨hk17, v16, rfl⟩ := hq13
        have hn15 : zMod B [] M N12 := hn8.call hk17 (by decide)
        show zW l m_Group_behind (zn M + 0, zw M + 0) N12 25 [some (.ref q), some (.int x0), some (.int x1), some (.int u1), some (.int u2)] [.int v16, .int u1] (zqI B M [])
        refine zw_iload (pc := 25) (i := 4) (x := u2) rfl d_Group_behind_25 ?_
        refine zc_callS hn15 (pc := 27) [.int v16, .int u2] [.int u1] l_Group_50 (c_T_codeOf l B N12 (hT.mod hn15) v16 u2) rfl rfl (by decide) (Nat.le_of_ble_eq_true rfl) d_Group_behind_27 (fun r21 N19 hq20 => ?_)
        obtain ⟨hk24, v23, rfl⟩ := hq20
        have hn22 : zMod B [] M N19 := hn15.call hk24 (by decide)
        show zW l m_Group_behind (zn M + 0, zw M + 0) N19 30 [some (.ref q), some (.int x0), some (.int x1), some (.int u1), some (.int u2)] [.int v23, .int u1] (zqI B M [])
        refine zw_ior (pc := 30) d_Group_behind_30 ?_
        refine zw_istore_n (pc := 31) (i := 3) (L2 := [some (.ref q), some (.int x0), some (.int x1), some (.int (u1 ||| v23)), some (.int u2)]) rfl (by decide) rfl d_Group_behind_31 ?_
        refine zw_iinc (pc := 32) (i := 4) (x := u2) (v := u2 + Int32.ofInt 1) (L2 := [some (.ref q), some (.int x0), some (.int x1), some (.int (u1 ||| v23)), some (.int (u2 + Int32.ofInt 1))]) rfl rfl (by decide) rfl d_Group_behind_32 ?_
        refine zw_goto (pc := 35) (tgt := 5) (by decide) d_Group_behind_35 ?_
        exact ih_5 (u1 ||| v23) (u2 + Int32.ofInt 1) N19 hn22 (Nat.lt_of_lt_of_le (z_up hc_11) (Nat.le_of_lt_succ hlt_5))
  exact lp_5 _ 0 0 M hm (Nat.lt_succ_self _)
set_option maxHeartbeats 4000000 in
theorem c_Group_indexOf (l : Launch) (B : Nat) (M : zMem) (hT : zTy B M) (q : Nat) (hqB : q < B) (hqk : (zsh M q).1 = 5 + 3) (x0 : Int32) : zC l m_Group_indexOf 0 0 [.ref q, .int x0] M (zqI B M []) := by
  refine zC_of (L0 := [some (.ref q), some (.int x0), none]) md_Group_indexOf (Nat.le_of_ble_eq_true rfl) rfl ?_ zQ0
  have hm : zMod B [] M M := zMod.rf
  refine zw_iconst (pc := 0) (v := 0) (by decide) d_Group_indexOf_0 ?_
  refine zw_istore_n (pc := 1) (i := 2) (L2 := [some (.ref q), some (.int x0), some (.int 0)]) rfl (by decide) rfl d_Group_indexOf_1 ?_
  have lp_2 : ∀ (n : Nat) (u1 : Int32) (N2 : zMem) (hn3 : zMod B [] M N2), zvu u1 (zi M q 7) < n → zW l m_Group_indexOf (zn M + 0, zw M + 0) N2 2 [some (.ref q), some (.int x0), some (.int u1)] [] (zqI B M []) := by
    intro n
    induction n with
    | zero =>
      intro u1 N2 hn3 h0
      exact absurd h0 (Nat.not_lt_zero _)
    | succ n ih_2 =>
      intro u1 N2 hn3 hlt_2
      refine zw_iload_n (pc := 2) (n := 2) (x := u1) rfl d_Group_indexOf_2 ?_
      refine zw_aload_n (pc := 3) (n := 0) (x := q) rfl d_Group_indexOf_3 ?_
      refine zc_getI0 hn3 (pc := 4) (by decide) f_Group_39 rfl hqk d_Group_indexOf_4 ?_
      refine zw_icmp_ge (pc := 7) (tgt := 30) (by decide) d_Group_indexOf_7 (fun hc_7 => ?_) (fun hc_7 => ?_)
      · refine zw_iconst (pc := 30) (v := (-1)) (by decide) d_Group_indexOf_30 ?_
        exact zw_iret (S := []) (pc := 31) (ty := .int) rfl rfl d_Group_indexOf_31 ⟨hn3, _, rfl⟩
      · refine zw_aload_n (pc := 10) (n := 0) (x := q) rfl d_Group_indexOf_10 ?_
        obtain ⟨r4, r4f, r4B, r4k⟩ := hT.1 q 5 1 hqB hqk (by decide) (by decide) rfl
        refine zc_getF hn3 (pc := 11) f_Group_20 rfl hqk r4f d_Group_indexOf_11 ?_
        refine zw_iload_n (pc := 14) (n := 2) (x := u1) rfl d_Group_indexOf_14 ?_
        refine zc_callV hn3 (pc := 15) [.int u1] [] l_Group_54 (c_IntRow_at l B N2 (hT.mod hn3) r4 r4B (hn3.k r4k) u1) rfl rfl r4k (by decide) (by decide) (Nat.le_of_ble_eq_true rfl) d_Group_indexOf_15 (fun r7 N5 hq6 => ?_)
        obtain ⟨hk10, v9, rfl⟩ := hq6
        have hn8 : zMod B [] M N5 := hn3.call hk10 (by decide)
        show zW l m_Group_indexOf (zn M + 0, zw M + 0) N5 18 [some (.ref q), some (.int x0), some (.int u1)] [.int v9] (zqI B M [])
        refine zw_iload_n (pc := 18) (n := 1) (x := x0) rfl d_Group_indexOf_18 ?_
        refine zw_icmp_ne (pc := 19) (tgt := 24) (by decide) d_Group_indexOf_19 (fun hc_19 => ?_) (fun hc_19 => ?_)
        · refine zw_iinc (pc := 24) (i := 2) (x := u1) (v := u1 + Int32.ofInt 1) (L2 := [some (.ref q), some (.int x0), some (.int (u1 + Int32.ofInt 1))]) rfl rfl (by decide) rfl d_Group_indexOf_24 ?_
          refine zw_goto (pc := 27) (tgt := 2) (by decide) d_Group_indexOf_27 ?_
          exact ih_2 (u1 + Int32.ofInt 1) N5 hn8 (Nat.lt_of_lt_of_le (z_up hc_7) (Nat.le_of_lt_succ hlt_2))
        · refine zw_iload_n (pc := 22) (n := 2) (x := u1) rfl d_Group_indexOf_22 ?_
          exact zw_iret (S := []) (pc := 23) (ty := .int) rfl rfl d_Group_indexOf_23 ⟨hn8, _, rfl⟩
  exact lp_2 _ 0 M hm (Nat.lt_succ_self _)
set_option maxHeartbeats 4000000 in
theorem c_Group_gather (l : Launch) (B : Nat) (M : zMem) (hT : zTy B M) (q : Nat) (hqB : q < B) (hqk : (zsh M q).1 = 5 + 3) : zC l m_Group_gather 0 0 [.ref q] M (zqZ B M [(5, 7)]) := by
  refine zC_of (L0 := [some (.ref q), none, none, none, none]) md_Group_gather (Nat.le_of_ble_eq_true rfl) rfl ?_ zQ0
  have hm : zMod B [(5, 7)] M M := zMod.rf
  refine zw_iconst (pc := 0) (v := 0) (by decide) d_Group_gather_0 ?_
  refine zw_istore_n (pc := 1) (i := 1) (L2 := [some (.ref q), some (.int 0), none, none, none]) rfl (by decide) rfl d_Group_gather_1 ?_
  refine zw_iconst (pc := 2) (v := 0) (by decide) d_Group_gather_2 ?_
  refine zw_istore_n (pc := 3) (i := 2) (L2 := [some (.ref q), some (.int 0), some (.int 0), none, none]) rfl (by decide) rfl d_Group_gather_3 ?_
  have lp_4 : ∀ (n : Nat) (u1 : Int32) (u2 : Int32) (N3 : zMem) (hn4 : zMod B [(5, 7)] M N3), zvu u2 (zi M q 5) < n → zW l m_Group_gather (zn M + 0, zw M + 0) N3 4 [some (.ref q), some (.int u1), some (.int u2), none, none] [] (zqZ B M [(5, 7)]) := by
    intro n
    induction n with
    | zero =>
      intro u1 u2 N3 hn4 h0
      exact absurd h0 (Nat.not_lt_zero _)
    | succ n ih_4 =>
      intro u1 u2 N3 hn4 hlt_4
      refine zw_iload_n (pc := 4) (n := 2) (x := u2) rfl d_Group_gather_4 ?_
      refine zw_aload_n (pc := 5) (n := 0) (x := q) rfl d_Group_gather_5 ?_
      refine zc_getI0 hn4 (pc := 6) (by decide) f_Group_32 rfl hqk d_Group_gather_6 ?_
      refine zw_icmp_ge (pc := 9) (tgt := 26) (by decide) d_Group_gather_9 (fun hc_9 => ?_) (fun hc_9 => ?_)
      · refine zw_aload_n (pc := 26) (n := 0) (x := q) rfl d_Group_gather_26 ?_
        obtain ⟨r5, r5f, r5B, r5k⟩ := hT.1 q 5 1 hqB hqk (by decide) (by decide) rfl
        refine zc_getF hn4 (pc := 27) f_Group_20 rfl hqk r5f d_Group_gather_27 ?_
        refine zw_iconst (pc := 30) (v := 0) (by decide) d_Group_gather_30 ?_
        refine zw_iload_n (pc := 31) (n := 1) (x := u1) rfl d_Group_gather_31 ?_
        refine zc_callV hn4 (pc := 32) [.int 0, .int u1] [] l_Group_46 (c_IntRow_put l B N3 (hT.mod hn4) r5 r5B (hn4.k r5k) 0 u1) rfl rfl r5k (by decide) (by decide) (Nat.le_of_ble_eq_true rfl) d_Group_gather_32 (fun r8 N6 hq7 => ?_)
        obtain ⟨hk11, rfl⟩ := hq7
        have hn9 : zMod B [(5, 7)] M N6 := hn4.call hk11 (by decide)
        show zW l m_Group_gather (zn M + 0, zw M + 0) N6 35 [some (.ref q), some (.int u1), some (.int u2), none, none] [] (zqZ B M [(5, 7)])
        refine zw_aload_n (pc := 35) (n := 0) (x := q) rfl d_Group_gather_35 ?_
        refine zw_iconst (pc := 36) (v := 1) (by decide) d_Group_gather_36 ?_
        refine zc_putI hn9 (pc := 37) f_Group_39 rfl rfl hqk hqB (by decide) rfl rfl d_Group_gather_37 (fun N13 hN13 hn14 => ?_)
        refine zw_iconst (pc := 40) (v := 0) (by decide) d_Group_gather_40 ?_
        refine zw_istore_n (pc := 41) (i := 2) (L2 := [some (.ref q), some (.int u1), some (.int 0), none, none]) rfl (by decide) rfl d_Group_gather_41 ?_
        have lp_42 : ∀ (n : Nat) (u15 : Int32) (N16 : zMem) (hn17 : zMod B [(5, 7)] M N16), zvu u15 24 < n → zW l m_Group_gather (zn M + 0, zw M + 0) N16 42 [some (.ref q), some (.int u1), some (.int u15), none, none] [] (zqZ B M [(5, 7)]) := by
          intro n
          induction n with
          | zero =>
            intro u15 N16 hn17 h0
            exact absurd h0 (Nat.not_lt_zero _)
          | succ n ih_42 =>
            intro u15 N16 hn17 hlt_42
            refine zw_iload_n (pc := 42) (n := 2) (x := u15) rfl d_Group_gather_42 ?_
            refine zw_aload_n (pc := 43) (n := 0) (x := q) rfl d_Group_gather_43 ?_
            refine zc_getI hn17 (pc := 44) f_Group_39 rfl hqk d_Group_gather_44 ?_
            refine zw_icmp_ge (pc := 47) (tgt := 147) (by decide) d_Group_gather_47 (fun hc_47 => ?_) (fun hc_47 => ?_)
            · refine zw_iconst (pc := 147) (v := 1) (by decide) d_Group_gather_147 ?_
              exact zw_iret (S := []) (pc := 148) (ty := .boolean) rfl (z_narZ (Or.inr rfl)) d_Group_gather_148 ⟨hn17, _, rfl, Or.inr rfl⟩
            · refine zw_iload_n (pc := 50) (n := 2) (x := u15) rfl d_Group_gather_50 ?_
              refine zw_bipush (pc := 51) (v := 24) (by decide) d_Group_gather_51 ?_
              refine zw_icmp_ge (pc := 53) (tgt := 147) (by decide) d_Group_gather_53 (fun hc_53 => ?_) (fun hc_53 => ?_)
              · refine zw_iconst (pc := 147) (v := 1) (by decide) d_Group_gather_147 ?_
                exact zw_iret (S := []) (pc := 148) (ty := .boolean) rfl (z_narZ (Or.inr rfl)) d_Group_gather_148 ⟨hn17, _, rfl, Or.inr rfl⟩
              · refine zw_iconst (pc := 56) (v := 0) (by decide) d_Group_gather_56 ?_
                refine zw_istore_n (pc := 57) (i := 3) (L2 := [some (.ref q), some (.int u1), some (.int u15), some (.int 0), none]) rfl (by decide) rfl d_Group_gather_57 ?_
                have lp_58 : ∀ (n : Nat) (u18 : Int32) (N19 : zMem) (hn20 : zMod B [(5, 7)] M N19), zvu u18 (zi M q 6) < n → zW l m_Group_gather (zn M + 0, zw M + 0) N19 58 [some (.ref q), some (.int u1), some (.int u15), some (.int u18), none] [] (zqZ B M [(5, 7)]) := by
                  intro n
                  induction n with
                  | zero =>
                    intro u18 N19 hn20 h0
                    exact absurd h0 (Nat.not_lt_zero _)
                  | succ n ih_58 =>
                    intro u18 N19 hn20 hlt_58
                    refine zw_iload_n (pc := 58) (n := 3) (x := u18) rfl d_Group_gather_58 ?_
                    refine zw_aload_n (pc := 59) (n := 0) (x := q) rfl d_Group_gather_59 ?_
                    refine zc_getI0 hn20 (pc := 60) (by decide) f_Group_36 rfl hqk d_Group_gather_60 ?_
                    refine zw_icmp_ge (pc := 63) (tgt := 141) (by decide) d_Group_gather_63 (fun hc_63 => ?_) (fun hc_63 => ?_)
                    · refine zw_iinc (pc := 141) (i := 2) (x := u15) (v := u15 + Int32.ofInt 1) (L2 := [some (.ref q), some (.int u1), some (.int (u15 + Int32.ofInt 1)), some (.int u18), none]) rfl rfl (by decide) rfl d_Group_gather_141 ?_
                      refine zw_goto (pc := 144) (tgt := 42) (by decide) d_Group_gather_144 ?_
                      refine zW_le [some (.ref q), some (.int u1), some (.int (u15 + Int32.ofInt 1)), none, none] (⟨rfl, rfl, rfl, trivial⟩) ?_
                      exact ih_42 (u15 + Int32.ofInt 1) N19 hn20 (Nat.lt_of_lt_of_le (z_up hc_53) (Nat.le_of_lt_succ hlt_42))
                    · refine zw_aload_n (pc := 66) (n := 0) (x := q) rfl d_Group_gather_66 ?_
                      refine zw_aload_n (pc := 67) (n := 0) (x := q) rfl d_Group_gather_67 ?_
                      refine zc_getF hn20 (pc := 68) f_Group_20 rfl hqk r5f d_Group_gather_68 ?_
                      refine zw_iload_n (pc := 71) (n := 2) (x := u15) rfl d_Group_gather_71 ?_
                      refine zc_callV hn20 (pc := 72) [.int u15] [.ref q] l_Group_54 (c_IntRow_at l B N19 (hT.mod hn20) r5 r5B (hn20.k r5k) u15) rfl rfl r5k (by decide) (by decide) (Nat.le_of_ble_eq_true rfl) d_Group_gather_72 (fun r23 N21 hq22 => ?_)
                      obtain ⟨hk26, v25, rfl⟩ := hq22
                      have hn24 : zMod B [(5, 7)] M N21 := hn20.call hk26 (by decide)
                      show zW l m_Group_gather (zn M + 0, zw M + 0) N21 75 [some (.ref q), some (.int u1), some (.int u15), some (.int u18), none] [.int v25, .ref q] (zqZ B M [(5, 7)])
                      refine zw_aload_n (pc := 75) (n := 0) (x := q) rfl d_Group_gather_75 ?_
                      obtain ⟨r28, r28f, r28B, r28k⟩ := hT.1 q 5 0 hqB hqk (by decide) (by decide) rfl
                      refine zc_getF hn24 (pc := 76) f_Group_14 rfl hqk r28f d_Group_gather_76 ?_
                      refine zw_iload_n (pc := 79) (n := 3) (x := u18) rfl d_Group_gather_79 ?_
                      refine zc_callV hn24 (pc := 80) [.int u18] [.int v25, .ref q] l_Group_54 (c_IntRow_at l B N21 (hT.mod hn24) r28 r28B (hn24.k r28k) u18) rfl rfl r28k (by decide) (by decide) (Nat.le_of_ble_eq_true rfl) d_Group_gather_80 (fun r31 N29 hq30 => ?_)
                      obtain ⟨hk34, v33, rfl⟩ := hq30
                      have hn32 : zMod B [(5, 7)] M N29 := hn24.call hk34 (by decide)
                      show zW l m_Group_gather (zn M + 0, zw M + 0) N29 83 [some (.ref q), some (.int u1), some (.int u15), some (.int u18), none] [.int v33, .int v25, .ref q] (zqZ B M [(5, 7)])
                      refine zc_callV hn32 (pc := 83) [.int v25, .int v33] [] l_Group_58 (c_Group_behind l B N29 (hT.mod hn32) q hqB (hn32.k hqk) v25 v33) rfl rfl hqk (by decide) (by decide) (Nat.le_of_ble_eq_true rfl) d_Group_gather_83 (fun r38 N36 hq37 => ?_)
                      obtain ⟨hk41, v40, rfl⟩ := hq37
                      have hn39 : zMod B [(5, 7)] M N36 := hn32.call hk41 (by decide)
                      show zW l m_Group_gather (zn M + 0, zw M + 0) N36 86 [some (.ref q), some (.int u1), some (.int u15), some (.int u18), none] [.int v40] (zqZ B M [(5, 7)])
                      refine zw_istore (pc := 86) (i := 4) (L2 := [some (.ref q), some (.int u1), some (.int u15), some (.int u18), some (.int v40)]) (by decide) rfl d_Group_gather_86 ?_
                      refine zw_aload_n (pc := 88) (n := 0) (x := q) rfl d_Group_gather_88 ?_
                      refine zw_iload (pc := 89) (i := 4) (x := v40) rfl d_Group_gather_89 ?_
                      refine zc_callV hn39 (pc := 91) [.int v40] [] l_Group_61 (c_Group_indexOf l B N36 (hT.mod hn39) q hqB (hn39.k hqk) v40) rfl rfl hqk (by decide) (by decide) (Nat.le_of_ble_eq_true rfl) d_Group_gather_91 (fun r45 N43 hq44 => ?_)
                      obtain ⟨hk48, v47, rfl⟩ := hq44
                      have hn46 : zMod B [(5, 7)] M N43 := hn39.call hk48 (by decide)
                      show zW l m_Group_gather (zn M + 0, zw M + 0) N43 94 [some (.ref q), some (.int u1), some (.int u15), some (.int u18), some (.int v40)] [.int v47] (zqZ B M [(5, 7)])
                      refine zw_iconst (pc := 94) (v := (-1)) (by decide) d_Group_gather_94 ?_
                      have j_135 : ∀ (N50 : zMem) (hn51 : zMod B [(5, 7)] M N50), zW l m_Group_gather (zn M + 0, zw M + 0) N50 135 [some (.ref q), some (.int u1), some (.int u15), some (.int u18), some (.int v40)] [] (zqZ B M [(5, 7)]) := by
                        intro N50 hn51
                        refine zw_iinc (pc := 135) (i := 3) (x := u18) (v := u18 + Int32.ofInt 1) (L2 := [some (.ref q), some (.int u1), some (.int u15), some (.int (u18 + Int32.ofInt 1)), some (.int v40)]) rfl rfl (by decide) rfl d_Group_gather_135 ?_
                        refine zw_goto (pc := 138) (tgt := 58) (by decide) d_Group_gather_138 ?_
                        refine zW_le [some (.ref q), some (.int u1), some (.int u15), some (.int (u18 + Int32.ofInt 1)), none] (⟨rfl, rfl, rfl, rfl, trivial⟩) ?_
                        exact ih_58 (u18 + Int32.ofInt 1) N50 hn51 (Nat.lt_of_lt_of_le (z_up hc_63) (Nat.le_of_lt_succ hlt_58))
                      refine zw_icmp_eq (pc := 95) (tgt := 101) (by decide) d_Group_gather_95 (fun hc_95 => ?_) (fun hc_95 => ?_)
                      · refine zw_aload_n (pc := 101) (n := 0) (x := q) rfl d_Group_gather_101 ?_
                        refine zc_getI hn46 (pc := 102) f_Group_39 rfl hqk d_Group_gather_102 ?_
                        refine zw_bipush (pc := 105) (v := 24) (by decide) d_Group_gather_105 ?_
                        refine zw_icmp_lt (pc := 107) (tgt := 112) (by decide) d_Group_gather_107 (fun hc_107 => ?_) (fun hc_107 => ?_)
                        · refine zw_aload_n (pc := 112) (n := 0) (x := q) rfl d_Group_gather_112 ?_
                          refine zc_getF hn46 (pc := 113) f_Group_20 rfl hqk r5f d_Group_gather_113 ?_
                          refine zw_aload_n (pc := 116) (n := 0) (x := q) rfl d_Group_gather_116 ?_
                          refine zc_getI hn46 (pc := 117) f_Group_39 rfl hqk d_Group_gather_117 ?_
                          refine zw_iload (pc := 120) (i := 4) (x := v40) rfl d_Group_gather_120 ?_
                          refine zc_callV hn46 (pc := 122) [.int (zi N43 q 7), .int v40] [] l_Group_46 (c_IntRow_put l B N43 (hT.mod hn46) r5 r5B (hn46.k r5k) (zi N43 q 7) v40) rfl rfl r5k (by decide) (by decide) (Nat.le_of_ble_eq_true rfl) d_Group_gather_122 (fun r54 N52 hq53 => ?_)
                          obtain ⟨hk57, rfl⟩ := hq53
                          have hn55 : zMod B [(5, 7)] M N52 := hn46.call hk57 (by decide)
                          show zW l m_Group_gather (zn M + 0, zw M + 0) N52 125 [some (.ref q), some (.int u1), some (.int u15), some (.int u18), some (.int v40)] [] (zqZ B M [(5, 7)])
                          refine zw_aload_n (pc := 125) (n := 0) (x := q) rfl d_Group_gather_125 ?_
                          refine zw_dup (pc := 126) rfl d_Group_gather_126 ?_
                          refine zc_getI hn55 (pc := 127) f_Group_39 rfl hqk d_Group_gather_127 ?_
                          refine zw_iconst (pc := 130) (v := 1) (by decide) d_Group_gather_130 ?_
                          refine zw_iadd (pc := 131) d_Group_gather_131 ?_
                          refine zc_putI hn55 (pc := 132) f_Group_39 rfl rfl hqk hqB (by decide) rfl rfl d_Group_gather_132 (fun N59 hN59 hn60 => ?_)
                          exact j_135 N59 hn60
                        · refine zw_iconst (pc := 110) (v := 0) (by decide) d_Group_gather_110 ?_
                          exact zw_iret (S := []) (pc := 111) (ty := .boolean) rfl (z_narZ (Or.inl rfl)) d_Group_gather_111 ⟨hn46, _, rfl, Or.inl rfl⟩
                      · refine zw_goto (pc := 98) (tgt := 135) (by decide) d_Group_gather_98 ?_
                        exact j_135 N43 hn46
                exact lp_58 _ 0 N16 hn17 (Nat.lt_succ_self _)
        exact lp_42 _ 0 N13 hn14 (Nat.lt_succ_self _)
      · refine zw_iload_n (pc := 12) (n := 1) (x := u1) rfl d_Group_gather_12 ?_
        refine zw_iload_n (pc := 13) (n := 2) (x := u2) rfl d_Group_gather_13 ?_
        refine zw_iload_n (pc := 14) (n := 2) (x := u2) rfl d_Group_gather_14 ?_
        refine zc_callS hn4 (pc := 15) [.int u2, .int u2] [.int u1] l_Group_50 (c_T_codeOf l B N3 (hT.mod hn4) u2 u2) rfl rfl (by decide) (Nat.le_of_ble_eq_true rfl) d_Group_gather_15 (fun r63 N61 hq62 => ?_)
        obtain ⟨hk66, v65, rfl⟩ := hq62
        have hn64 : zMod B [(5, 7)] M N61 := hn4.call hk66 (by decide)
        show zW l m_Group_gather (zn M + 0, zw M + 0) N61 18 [some (.ref q), some (.int u1), some (.int u2), none, none] [.int v65, .int u1] (zqZ B M [(5, 7)])
        refine zw_ior (pc := 18) d_Group_gather_18 ?_
        refine zw_istore_n (pc := 19) (i := 1) (L2 := [some (.ref q), some (.int (u1 ||| v65)), some (.int u2), none, none]) rfl (by decide) rfl d_Group_gather_19 ?_
        refine zw_iinc (pc := 20) (i := 2) (x := u2) (v := u2 + Int32.ofInt 1) (L2 := [some (.ref q), some (.int (u1 ||| v65)), some (.int (u2 + Int32.ofInt 1)), none, none]) rfl rfl (by decide) rfl d_Group_gather_20 ?_
        refine zw_goto (pc := 23) (tgt := 4) (by decide) d_Group_gather_23 ?_
        exact ih_4 (u1 ||| v65) (u2 + Int32.ofInt 1) N61 hn64 (Nat.lt_of_lt_of_le (z_up hc_9) (Nat.le_of_lt_succ hlt_4))
  exact lp_4 _ 0 0 M hm (Nat.lt_succ_self _)
set_option maxHeartbeats 4000000 in
theorem c_Group_begin (l : Launch) (B : Nat) (M : zMem) (hT : zTy B M) (q : Nat) (hqB : q < B) (hqk : (zsh M q).1 = 5 + 3) (x0 : Int32) : zC l m_Group_begin 0 0 [.ref q, .int x0] M (zqV B M [(5, 5), (5, 6), (5, 7)]) := by
  refine zC_of (L0 := [some (.ref q), some (.int x0)]) md_Group_begin (Nat.le_of_ble_eq_true rfl) rfl ?_ zQ0
  have hm : zMod B [(5, 5), (5, 6), (5, 7)] M M := zMod.rf
  refine zw_aload_n (pc := 0) (n := 0) (x := q) rfl d_Group_begin_0 ?_
  refine zw_iload_n (pc := 1) (n := 1) (x := x0) rfl d_Group_begin_1 ?_
  refine zc_putI hm (pc := 2) f_Group_32 rfl rfl hqk hqB (by decide) rfl rfl d_Group_begin_2 (fun N1 hN1 hn2 => ?_)
  refine zw_aload_n (pc := 5) (n := 0) (x := q) rfl d_Group_begin_5 ?_
  refine zw_iconst (pc := 6) (v := 0) (by decide) d_Group_begin_6 ?_
  refine zc_putI hn2 (pc := 7) f_Group_36 rfl rfl hqk hqB (by decide) rfl rfl d_Group_begin_7 (fun N3 hN3 hn4 => ?_)
  refine zw_aload_n (pc := 10) (n := 0) (x := q) rfl d_Group_begin_10 ?_
  refine zw_iconst (pc := 11) (v := 0) (by decide) d_Group_begin_11 ?_
  refine zc_putI hn4 (pc := 12) f_Group_39 rfl rfl hqk hqB (by decide) rfl rfl d_Group_begin_12 (fun N5 hN5 hn6 => ?_)
  refine zw_aload_n (pc := 15) (n := 0) (x := q) rfl d_Group_begin_15 ?_
  refine zc_callV hn6 (pc := 16) [] [] l_Group_42 (c_Group_gather l B N5 (hT.mod hn6) q hqB (hn6.k hqk)) rfl rfl hqk (by decide) (by decide) (Nat.le_of_ble_eq_true rfl) d_Group_begin_16 (fun r9 N7 hq8 => ?_)
  obtain ⟨hk12, v11, rfl, zv11⟩ := hq8
  have hn10 : zMod B [(5, 5), (5, 6), (5, 7)] M N7 := hn6.call hk12 (by decide)
  show zW l m_Group_begin (zn M + 0, zw M + 0) N7 19 [some (.ref q), some (.int x0)] [.int v11] (zqV B M [(5, 5), (5, 6), (5, 7)])
  refine zw_pop (pc := 19) rfl d_Group_begin_19 ?_
  exact zw_vret (S := []) (pc := 20) rfl d_Group_begin_20 ⟨hn10, rfl⟩
set_option maxHeartbeats 4000000 in
theorem c_Troupe_begin (l : Launch) (B : Nat) (M : zMem) (hT : zTy B M) (q : Nat) (hqB : q < B) (hqk : (zsh M q).1 = 4 + 3) (x0 : Int32) : zC l m_Troupe_begin 0 0 [.ref q, .int x0] M (zqV B M [(4, 6), (4, 7), (4, 8), (5, 5), (5, 6), (5, 7)]) := by
  refine zC_of (L0 := [some (.ref q), some (.int x0)]) md_Troupe_begin (Nat.le_of_ble_eq_true rfl) rfl ?_ zQ0
  have hm : zMod B [(4, 6), (4, 7), (4, 8), (5, 5), (5, 6), (5, 7)] M M := zMod.rf
  refine zw_aload_n (pc := 0) (n := 0) (x := q) rfl d_Troupe_begin_0 ?_
  obtain ⟨r1, r1f, r1B, r1k⟩ := hT.1 q 4 0 hqB hqk (by decide) (by decide) rfl
  refine zc_getF hm (pc := 1) f_Troupe_12 rfl hqk r1f d_Troupe_begin_1 ?_
  refine zw_iload_n (pc := 4) (n := 1) (x := x0) rfl d_Troupe_begin_4 ?_
  refine zc_callV hm (pc := 5) [.int x0] [] l_Troupe_61 (c_Group_begin l B M (hT.mod hm) r1 r1B (hm.k r1k) x0) rfl rfl r1k (by decide) (by decide) (Nat.le_of_ble_eq_true rfl) d_Troupe_begin_5 (fun r4 N2 hq3 => ?_)
  obtain ⟨hk7, rfl⟩ := hq3
  have hn5 : zMod B [(4, 6), (4, 7), (4, 8), (5, 5), (5, 6), (5, 7)] M N2 := hm.call hk7 (by decide)
  show zW l m_Troupe_begin (zn M + 0, zw M + 0) N2 8 [some (.ref q), some (.int x0)] [] (zqV B M [(4, 6), (4, 7), (4, 8), (5, 5), (5, 6), (5, 7)])
  refine zw_aload_n (pc := 8) (n := 0) (x := q) rfl d_Troupe_begin_8 ?_
  refine zw_iconst (pc := 9) (v := 0) (by decide) d_Troupe_begin_9 ?_
  refine zc_putI hn5 (pc := 10) f_Troupe_64 rfl rfl hqk hqB (by decide) rfl rfl d_Troupe_begin_10 (fun N9 hN9 hn10 => ?_)
  refine zw_aload_n (pc := 13) (n := 0) (x := q) rfl d_Troupe_begin_13 ?_
  refine zw_iconst (pc := 14) (v := 0) (by decide) d_Troupe_begin_14 ?_
  refine zc_putI hn10 (pc := 15) f_Troupe_68 rfl rfl hqk hqB (by decide) rfl rfl d_Troupe_begin_15 (fun N11 hN11 hn12 => ?_)
  refine zw_aload_n (pc := 18) (n := 0) (x := q) rfl d_Troupe_begin_18 ?_
  refine zw_iconst (pc := 19) (v := 0) (by decide) d_Troupe_begin_19 ?_
  refine zc_putI hn12 (pc := 20) f_Troupe_71 rfl rfl hqk hqB (by decide) rfl rfl d_Troupe_begin_20 (fun N13 hN13 hn14 => ?_)
  exact zw_vret (S := []) (pc := 23) rfl d_Troupe_begin_23 ⟨hn14, rfl⟩
set_option maxHeartbeats 4000000 in
theorem c_Group_settle (l : Launch) (B : Nat) (M : zMem) (hT : zTy B M) (q : Nat) (hqB : q < B) (hqk : (zsh M q).1 = 5 + 3) : zC l m_Group_settle 0 0 [.ref q] M (zqV B M []) := by
  refine zC_of (L0 := [some (.ref q), none, none, none]) md_Group_settle (Nat.le_of_ble_eq_true rfl) rfl ?_ zQ0
  have hm : zMod B [] M M := zMod.rf
  refine zw_iconst (pc := 0) (v := 1) (by decide) d_Group_settle_0 ?_
  refine zw_istore_n (pc := 1) (i := 1) (L2 := [some (.ref q), some (.int 1), none, none]) rfl (by decide) rfl d_Group_settle_1 ?_
  have lp_2 : ∀ (n : Nat) (u1 : Int32) (N2 : zMem) (hn3 : zMod B [] M N2), zvu u1 (zi M q 7) < n → zW l m_Group_settle (zn M + 0, zw M + 0) N2 2 [some (.ref q), some (.int u1), none, none] [] (zqV B M []) := by
    intro n
    induction n with
    | zero =>
      intro u1 N2 hn3 h0
      exact absurd h0 (Nat.not_lt_zero _)
    | succ n ih_2 =>
      intro u1 N2 hn3 hlt_2
      refine zw_iload_n (pc := 2) (n := 1) (x := u1) rfl d_Group_settle_2 ?_
      refine zw_aload_n (pc := 3) (n := 0) (x := q) rfl d_Group_settle_3 ?_
      refine zc_getI0 hn3 (pc := 4) (by decide) f_Group_39 rfl hqk d_Group_settle_4 ?_
      refine zw_icmp_ge (pc := 7) (tgt := 78) (by decide) d_Group_settle_7 (fun hc_7 => ?_) (fun hc_7 => ?_)
      · refine zw_iconst (pc := 78) (v := 0) (by decide) d_Group_settle_78 ?_
        refine zw_istore_n (pc := 79) (i := 1) (L2 := [some (.ref q), some (.int 0), none, none]) rfl (by decide) rfl d_Group_settle_79 ?_
        have lp_80 : ∀ (n : Nat) (u4 : Int32) (N5 : zMem) (hn6 : zMod B [] M N5), zvu u4 (zi M q 7) < n → zW l m_Group_settle (zn M + 0, zw M + 0) N5 80 [some (.ref q), some (.int u4), none, none] [] (zqV B M []) := by
          intro n
          induction n with
          | zero =>
            intro u4 N5 hn6 h0
            exact absurd h0 (Nat.not_lt_zero _)
          | succ n ih_80 =>
            intro u4 N5 hn6 hlt_80
            refine zw_iload_n (pc := 80) (n := 1) (x := u4) rfl d_Group_settle_80 ?_
            refine zw_aload_n (pc := 81) (n := 0) (x := q) rfl d_Group_settle_81 ?_
            refine zc_getI0 hn6 (pc := 82) (by decide) f_Group_39 rfl hqk d_Group_settle_82 ?_
            refine zw_icmp_ge (pc := 85) (tgt := 162) (by decide) d_Group_settle_85 (fun hc_85 => ?_) (fun hc_85 => ?_)
            · exact zw_vret (S := []) (pc := 162) rfl d_Group_settle_162 ⟨hn6, rfl⟩
            · refine zw_iconst (pc := 88) (v := 0) (by decide) d_Group_settle_88 ?_
              refine zw_istore_n (pc := 89) (i := 2) (L2 := [some (.ref q), some (.int u4), some (.int 0), none]) rfl (by decide) rfl d_Group_settle_89 ?_
              have lp_90 : ∀ (n : Nat) (u7 : Int32) (N8 : zMem) (hn9 : zMod B [] M N8), zvu u7 (zi M q 7) < n → zW l m_Group_settle (zn M + 0, zw M + 0) N8 90 [some (.ref q), some (.int u4), some (.int u7), none] [] (zqV B M []) := by
                intro n
                induction n with
                | zero =>
                  intro u7 N8 hn9 h0
                  exact absurd h0 (Nat.not_lt_zero _)
                | succ n ih_90 =>
                  intro u7 N8 hn9 hlt_90
                  refine zw_iload_n (pc := 90) (n := 2) (x := u7) rfl d_Group_settle_90 ?_
                  refine zw_aload_n (pc := 91) (n := 0) (x := q) rfl d_Group_settle_91 ?_
                  refine zc_getI0 hn9 (pc := 92) (by decide) f_Group_39 rfl hqk d_Group_settle_92 ?_
                  refine zw_icmp_ge (pc := 95) (tgt := 156) (by decide) d_Group_settle_95 (fun hc_95 => ?_) (fun hc_95 => ?_)
                  · refine zw_iinc (pc := 156) (i := 1) (x := u4) (v := u4 + Int32.ofInt 1) (L2 := [some (.ref q), some (.int (u4 + Int32.ofInt 1)), some (.int u7), none]) rfl rfl (by decide) rfl d_Group_settle_156 ?_
                    refine zw_goto (pc := 159) (tgt := 80) (by decide) d_Group_settle_159 ?_
                    refine zW_le [some (.ref q), some (.int (u4 + Int32.ofInt 1)), none, none] (⟨rfl, rfl, trivial⟩) ?_
                    exact ih_80 (u4 + Int32.ofInt 1) N8 hn9 (Nat.lt_of_lt_of_le (z_up hc_85) (Nat.le_of_lt_succ hlt_80))
                  · refine zw_aload_n (pc := 98) (n := 0) (x := q) rfl d_Group_settle_98 ?_
                    refine zw_aload_n (pc := 99) (n := 0) (x := q) rfl d_Group_settle_99 ?_
                    refine zw_aload_n (pc := 100) (n := 0) (x := q) rfl d_Group_settle_100 ?_
                    obtain ⟨r10, r10f, r10B, r10k⟩ := hT.1 q 5 1 hqB hqk (by decide) (by decide) rfl
                    refine zc_getF hn9 (pc := 101) f_Group_20 rfl hqk r10f d_Group_settle_101 ?_
                    refine zw_iload_n (pc := 104) (n := 1) (x := u4) rfl d_Group_settle_104 ?_
                    refine zc_callV hn9 (pc := 105) [.int u4] [.ref q, .ref q] l_Group_54 (c_IntRow_at l B N8 (hT.mod hn9) r10 r10B (hn9.k r10k) u4) rfl rfl r10k (by decide) (by decide) (Nat.le_of_ble_eq_true rfl) d_Group_settle_105 (fun r13 N11 hq12 => ?_)
                    obtain ⟨hk16, v15, rfl⟩ := hq12
                    have hn14 : zMod B [] M N11 := hn9.call hk16 (by decide)
                    show zW l m_Group_settle (zn M + 0, zw M + 0) N11 108 [some (.ref q), some (.int u4), some (.int u7), none] [.int v15, .ref q, .ref q] (zqV B M [])
                    refine zw_aload_n (pc := 108) (n := 0) (x := q) rfl d_Group_settle_108 ?_
                    refine zc_getF hn14 (pc := 109) f_Group_20 rfl hqk r10f d_Group_settle_109 ?_
                    refine zw_iload_n (pc := 112) (n := 2) (x := u7) rfl d_Group_settle_112 ?_
                    refine zc_callV hn14 (pc := 113) [.int u7] [.int v15, .ref q, .ref q] l_Group_54 (c_IntRow_at l B N11 (hT.mod hn14) r10 r10B (hn14.k r10k) u7) rfl rfl r10k (by decide) (by decide) (Nat.le_of_ble_eq_true rfl) d_Group_settle_113 (fun r20 N18 hq19 => ?_)
                    obtain ⟨hk23, v22, rfl⟩ := hq19
                    have hn21 : zMod B [] M N18 := hn14.call hk23 (by decide)
                    show zW l m_Group_settle (zn M + 0, zw M + 0) N18 116 [some (.ref q), some (.int u4), some (.int u7), none] [.int v22, .int v15, .ref q, .ref q] (zqV B M [])
                    refine zc_callV hn21 (pc := 116) [.int v15, .int v22] [.ref q] l_Group_58 (c_Group_behind l B N18 (hT.mod hn21) q hqB (hn21.k hqk) v15 v22) rfl rfl hqk (by decide) (by decide) (Nat.le_of_ble_eq_true rfl) d_Group_settle_116 (fun r27 N25 hq26 => ?_)
                    obtain ⟨hk30, v29, rfl⟩ := hq26
                    have hn28 : zMod B [] M N25 := hn21.call hk30 (by decide)
                    show zW l m_Group_settle (zn M + 0, zw M + 0) N25 119 [some (.ref q), some (.int u4), some (.int u7), none] [.int v29, .ref q] (zqV B M [])
                    refine zc_callV hn28 (pc := 119) [.int v29] [] l_Group_61 (c_Group_indexOf l B N25 (hT.mod hn28) q hqB (hn28.k hqk) v29) rfl rfl hqk (by decide) (by decide) (Nat.le_of_ble_eq_true rfl) d_Group_settle_119 (fun r34 N32 hq33 => ?_)
                    obtain ⟨hk37, v36, rfl⟩ := hq33
                    have hn35 : zMod B [] M N32 := hn28.call hk37 (by decide)
                    show zW l m_Group_settle (zn M + 0, zw M + 0) N32 122 [some (.ref q), some (.int u4), some (.int u7), none] [.int v36] (zqV B M [])
                    refine zw_istore_n (pc := 122) (i := 3) (L2 := [some (.ref q), some (.int u4), some (.int u7), some (.int v36)]) rfl (by decide) rfl d_Group_settle_122 ?_
                    refine zw_aload_n (pc := 123) (n := 0) (x := q) rfl d_Group_settle_123 ?_
                    obtain ⟨r39, r39f, r39B, r39k⟩ := hT.1 q 5 2 hqB hqk (by decide) (by decide) rfl
                    refine zc_getF hn35 (pc := 124) f_Group_23 rfl hqk r39f d_Group_settle_124 ?_
                    refine zw_iload_n (pc := 127) (n := 1) (x := u4) rfl d_Group_settle_127 ?_
                    refine zw_bipush (pc := 128) (v := 24) (by decide) d_Group_settle_128 ?_
                    refine zw_imul (pc := 130) d_Group_settle_130 ?_
                    refine zw_iload_n (pc := 131) (n := 2) (x := u7) rfl d_Group_settle_131 ?_
                    refine zw_iadd (pc := 132) d_Group_settle_132 ?_
                    refine zw_iload_n (pc := 133) (n := 3) (x := v36) rfl d_Group_settle_133 ?_
                    refine zc_callV hn35 (pc := 134) [.int ((u4 * 24) + u7), .int v36] [] l_Group_46 (c_IntRow_put l B N32 (hT.mod hn35) r39 r39B (hn35.k r39k) ((u4 * 24) + u7) v36) rfl rfl r39k (by decide) (by decide) (Nat.le_of_ble_eq_true rfl) d_Group_settle_134 (fun r42 N40 hq41 => ?_)
                    obtain ⟨hk45, rfl⟩ := hq41
                    have hn43 : zMod B [] M N40 := hn35.call hk45 (by decide)
                    show zW l m_Group_settle (zn M + 0, zw M + 0) N40 137 [some (.ref q), some (.int u4), some (.int u7), some (.int v36)] [] (zqV B M [])
                    refine zw_iload_n (pc := 137) (n := 3) (x := v36) rfl d_Group_settle_137 ?_
                    have j_150 : ∀ (N47 : zMem) (hn48 : zMod B [] M N47), zW l m_Group_settle (zn M + 0, zw M + 0) N47 150 [some (.ref q), some (.int u4), some (.int u7), some (.int v36)] [] (zqV B M []) := by
                      intro N47 hn48
                      refine zw_iinc (pc := 150) (i := 2) (x := u7) (v := u7 + Int32.ofInt 1) (L2 := [some (.ref q), some (.int u4), some (.int (u7 + Int32.ofInt 1)), some (.int v36)]) rfl rfl (by decide) rfl d_Group_settle_150 ?_
                      refine zw_goto (pc := 153) (tgt := 90) (by decide) d_Group_settle_153 ?_
                      refine zW_le [some (.ref q), some (.int u4), some (.int (u7 + Int32.ofInt 1)), none] (⟨rfl, rfl, rfl, trivial⟩) ?_
                      exact ih_90 (u7 + Int32.ofInt 1) N47 hn48 (Nat.lt_of_lt_of_le (z_up hc_95) (Nat.le_of_lt_succ hlt_90))
                    refine zw_if_ne (pc := 138) (tgt := 150) (by decide) d_Group_settle_138 (fun hc_138 => ?_) (fun hc_138 => ?_)
                    · exact j_150 N40 hn43
                    · refine zw_aload_n (pc := 141) (n := 0) (x := q) rfl d_Group_settle_141 ?_
                      obtain ⟨r49, r49f, r49B, r49k⟩ := hT.1 q 5 3 hqB hqk (by decide) (by decide) rfl
                      refine zc_getF hn43 (pc := 142) f_Group_26 rfl hqk r49f d_Group_settle_142 ?_
                      refine zw_iload_n (pc := 145) (n := 1) (x := u4) rfl d_Group_settle_145 ?_
                      refine zw_iload_n (pc := 146) (n := 2) (x := u7) rfl d_Group_settle_146 ?_
                      refine zc_callV hn43 (pc := 147) [.int u4, .int u7] [] l_Group_46 (c_IntRow_put l B N40 (hT.mod hn43) r49 r49B (hn43.k r49k) u4 u7) rfl rfl r49k (by decide) (by decide) (Nat.le_of_ble_eq_true rfl) d_Group_settle_147 (fun r52 N50 hq51 => ?_)
                      obtain ⟨hk55, rfl⟩ := hq51
                      have hn53 : zMod B [] M N50 := hn43.call hk55 (by decide)
                      show zW l m_Group_settle (zn M + 0, zw M + 0) N50 150 [some (.ref q), some (.int u4), some (.int u7), some (.int v36)] [] (zqV B M [])
                      exact j_150 N50 hn53
              exact lp_90 _ 0 N5 hn6 (Nat.lt_succ_self _)
        exact lp_80 _ 0 N2 hn3 (Nat.lt_succ_self _)
      · refine zw_aload_n (pc := 10) (n := 0) (x := q) rfl d_Group_settle_10 ?_
        obtain ⟨r57, r57f, r57B, r57k⟩ := hT.1 q 5 1 hqB hqk (by decide) (by decide) rfl
        refine zc_getF hn3 (pc := 11) f_Group_20 rfl hqk r57f d_Group_settle_11 ?_
        refine zw_iload_n (pc := 14) (n := 1) (x := u1) rfl d_Group_settle_14 ?_
        refine zc_callV hn3 (pc := 15) [.int u1] [] l_Group_54 (c_IntRow_at l B N2 (hT.mod hn3) r57 r57B (hn3.k r57k) u1) rfl rfl r57k (by decide) (by decide) (Nat.le_of_ble_eq_true rfl) d_Group_settle_15 (fun r60 N58 hq59 => ?_)
        obtain ⟨hk63, v62, rfl⟩ := hq59
        have hn61 : zMod B [] M N58 := hn3.call hk63 (by decide)
        show zW l m_Group_settle (zn M + 0, zw M + 0) N58 18 [some (.ref q), some (.int u1), none, none] [.int v62] (zqV B M [])
        refine zw_istore_n (pc := 18) (i := 2) (L2 := [some (.ref q), some (.int u1), some (.int v62), none]) rfl (by decide) rfl d_Group_settle_18 ?_
        refine zw_iload_n (pc := 19) (n := 1) (x := u1) rfl d_Group_settle_19 ?_
        refine zw_istore_n (pc := 20) (i := 3) (L2 := [some (.ref q), some (.int u1), some (.int v62), some (.int u1)]) rfl (by decide) rfl d_Group_settle_20 ?_
        have lp_21 : ∀ (n : Nat) (u65 : Int32) (N66 : zMem) (hn67 : zMod B [] M N66), zvd u65 < n → zW l m_Group_settle (zn M + 0, zw M + 0) N66 21 [some (.ref q), some (.int u1), some (.int v62), some (.int u65)] [] (zqV B M []) := by
          intro n
          induction n with
          | zero =>
            intro u65 N66 hn67 h0
            exact absurd h0 (Nat.not_lt_zero _)
          | succ n ih_21 =>
            intro u65 N66 hn67 hlt_21
            refine zw_iload_n (pc := 21) (n := 3) (x := u65) rfl d_Group_settle_21 ?_
            have j_63 : ∀ (N68 : zMem) (hn69 : zMod B [] M N68), zW l m_Group_settle (zn M + 0, zw M + 0) N68 63 [some (.ref q), some (.int u1), some (.int v62), some (.int u65)] [] (zqV B M []) := by
              intro N68 hn69
              refine zw_aload_n (pc := 63) (n := 0) (x := q) rfl d_Group_settle_63 ?_
              refine zc_getF hn69 (pc := 64) f_Group_20 rfl hqk r57f d_Group_settle_64 ?_
              refine zw_iload_n (pc := 67) (n := 3) (x := u65) rfl d_Group_settle_67 ?_
              refine zw_iload_n (pc := 68) (n := 2) (x := v62) rfl d_Group_settle_68 ?_
              refine zc_callV hn69 (pc := 69) [.int u65, .int v62] [] l_Group_46 (c_IntRow_put l B N68 (hT.mod hn69) r57 r57B (hn69.k r57k) u65 v62) rfl rfl r57k (by decide) (by decide) (Nat.le_of_ble_eq_true rfl) d_Group_settle_69 (fun r72 N70 hq71 => ?_)
              obtain ⟨hk75, rfl⟩ := hq71
              have hn73 : zMod B [] M N70 := hn69.call hk75 (by decide)
              show zW l m_Group_settle (zn M + 0, zw M + 0) N70 72 [some (.ref q), some (.int u1), some (.int v62), some (.int u65)] [] (zqV B M [])
              refine zw_iinc (pc := 72) (i := 1) (x := u1) (v := u1 + Int32.ofInt 1) (L2 := [some (.ref q), some (.int (u1 + Int32.ofInt 1)), some (.int v62), some (.int u65)]) rfl rfl (by decide) rfl d_Group_settle_72 ?_
              refine zw_goto (pc := 75) (tgt := 2) (by decide) d_Group_settle_75 ?_
              refine zW_le [some (.ref q), some (.int (u1 + Int32.ofInt 1)), none, none] (⟨rfl, rfl, trivial⟩) ?_
              exact ih_2 (u1 + Int32.ofInt 1) N70 hn73 (Nat.lt_of_lt_of_le (z_up hc_7) (Nat.le_of_lt_succ hlt_2))
            refine zw_if_le (pc := 22) (tgt := 63) (by decide) d_Group_settle_22 (fun hc_22 => ?_) (fun hc_22 => ?_)
            · exact j_63 N66 hn67
            · refine zw_aload_n (pc := 25) (n := 0) (x := q) rfl d_Group_settle_25 ?_
              refine zc_getF hn67 (pc := 26) f_Group_20 rfl hqk r57f d_Group_settle_26 ?_
              refine zw_iload_n (pc := 29) (n := 3) (x := u65) rfl d_Group_settle_29 ?_
              refine zw_iconst (pc := 30) (v := 1) (by decide) d_Group_settle_30 ?_
              refine zw_isub (pc := 31) d_Group_settle_31 ?_
              refine zc_callV hn67 (pc := 32) [.int (u65 - 1)] [] l_Group_54 (c_IntRow_at l B N66 (hT.mod hn67) r57 r57B (hn67.k r57k) (u65 - 1)) rfl rfl r57k (by decide) (by decide) (Nat.le_of_ble_eq_true rfl) d_Group_settle_32 (fun r79 N77 hq78 => ?_)
              obtain ⟨hk82, v81, rfl⟩ := hq78
              have hn80 : zMod B [] M N77 := hn67.call hk82 (by decide)
              show zW l m_Group_settle (zn M + 0, zw M + 0) N77 35 [some (.ref q), some (.int u1), some (.int v62), some (.int u65)] [.int v81] (zqV B M [])
              refine zw_iload_n (pc := 35) (n := 2) (x := v62) rfl d_Group_settle_35 ?_
              refine zw_icmp_le (pc := 36) (tgt := 63) (by decide) d_Group_settle_36 (fun hc_36 => ?_) (fun hc_36 => ?_)
              · exact j_63 N77 hn80
              · refine zw_aload_n (pc := 39) (n := 0) (x := q) rfl d_Group_settle_39 ?_
                refine zc_getF hn80 (pc := 40) f_Group_20 rfl hqk r57f d_Group_settle_40 ?_
                refine zw_iload_n (pc := 43) (n := 3) (x := u65) rfl d_Group_settle_43 ?_
                refine zw_aload_n (pc := 44) (n := 0) (x := q) rfl d_Group_settle_44 ?_
                refine zc_getF hn80 (pc := 45) f_Group_20 rfl hqk r57f d_Group_settle_45 ?_
                refine zw_iload_n (pc := 48) (n := 3) (x := u65) rfl d_Group_settle_48 ?_
                refine zw_iconst (pc := 49) (v := 1) (by decide) d_Group_settle_49 ?_
                refine zw_isub (pc := 50) d_Group_settle_50 ?_
                refine zc_callV hn80 (pc := 51) [.int (u65 - 1)] [.int u65, .ref r57] l_Group_54 (c_IntRow_at l B N77 (hT.mod hn80) r57 r57B (hn80.k r57k) (u65 - 1)) rfl rfl r57k (by decide) (by decide) (Nat.le_of_ble_eq_true rfl) d_Group_settle_51 (fun r86 N84 hq85 => ?_)
                obtain ⟨hk89, v88, rfl⟩ := hq85
                have hn87 : zMod B [] M N84 := hn80.call hk89 (by decide)
                show zW l m_Group_settle (zn M + 0, zw M + 0) N84 54 [some (.ref q), some (.int u1), some (.int v62), some (.int u65)] [.int v88, .int u65, .ref r57] (zqV B M [])
                refine zc_callV hn87 (pc := 54) [.int u65, .int v88] [] l_Group_46 (c_IntRow_put l B N84 (hT.mod hn87) r57 r57B (hn87.k r57k) u65 v88) rfl rfl r57k (by decide) (by decide) (Nat.le_of_ble_eq_true rfl) d_Group_settle_54 (fun r93 N91 hq92 => ?_)
                obtain ⟨hk96, rfl⟩ := hq92
                have hn94 : zMod B [] M N91 := hn87.call hk96 (by decide)
                show zW l m_Group_settle (zn M + 0, zw M + 0) N91 57 [some (.ref q), some (.int u1), some (.int v62), some (.int u65)] [] (zqV B M [])
                refine zw_iinc (pc := 57) (i := 3) (x := u65) (v := u65 + Int32.ofInt (-1)) (L2 := [some (.ref q), some (.int u1), some (.int v62), some (.int (u65 + Int32.ofInt (-1)))]) rfl rfl (by decide) rfl d_Group_settle_57 ?_
                refine zw_goto (pc := 60) (tgt := 21) (by decide) d_Group_settle_60 ?_
                exact ih_21 (u65 + Int32.ofInt (-1)) N91 hn94 (Nat.lt_of_lt_of_le (z_dn hc_22) (Nat.le_of_lt_succ hlt_21))
        exact lp_21 _ u1 N58 hn61 (Nat.lt_succ_self _)
  exact lp_2 _ 1 M hm (Nat.lt_succ_self _)
set_option maxHeartbeats 4000000 in
theorem c_T_isIn (l : Launch) (B : Nat) (M : zMem) (hT : zTy B M) (x0 : Int32) (x1 : Int32) : zC l m_T_isIn 0 0 [.int x0, .int x1] M (zqZ B M []) := by
  refine zC_of (L0 := [some (.int x0), some (.int x1)]) md_T_isIn (Nat.le_of_ble_eq_true rfl) rfl ?_ zQ0
  have hm : zMod B [] M M := zMod.rf
  refine zw_iload_n (pc := 0) (n := 0) (x := x0) rfl d_T_isIn_0 ?_
  refine zw_iload_n (pc := 1) (n := 1) (x := x1) rfl d_T_isIn_1 ?_
  refine zw_ishr (pc := 2) d_T_isIn_2 ?_
  refine zw_iconst (pc := 3) (v := 1) (by decide) d_T_isIn_3 ?_
  refine zw_iand (pc := 4) d_T_isIn_4 ?_
  refine zw_if_eq (pc := 5) (tgt := 12) (by decide) d_T_isIn_5 (fun hc_5 => ?_) (fun hc_5 => ?_)
  · refine zw_iconst (pc := 12) (v := 0) (by decide) d_T_isIn_12 ?_
    exact zw_iret (S := []) (pc := 13) (ty := .boolean) rfl (z_narZ (Or.inl rfl)) d_T_isIn_13 ⟨hm, _, rfl, Or.inl rfl⟩
  · refine zw_iconst (pc := 8) (v := 1) (by decide) d_T_isIn_8 ?_
    refine zw_goto (pc := 9) (tgt := 13) (by decide) d_T_isIn_9 ?_
    exact zw_iret (S := []) (pc := 13) (ty := .boolean) rfl (z_narZ (Or.inr rfl)) d_T_isIn_13 ⟨hm, _, rfl, Or.inr rfl⟩
set_option maxHeartbeats 4000000 in
theorem c_Group_both (l : Launch) (B : Nat) (M : zMem) (hT : zTy B M) (q : Nat) (hqB : q < B) (hqk : (zsh M q).1 = 5 + 3) (x0 : Int32) (x1 : Int32) : zC l m_Group_both 0 0 [.ref q, .int x0, .int x1] M (zqI B M []) := by
  refine zC_of (L0 := [some (.ref q), some (.int x0), some (.int x1)]) md_Group_both (Nat.le_of_ble_eq_true rfl) rfl ?_ zQ0
  have hm : zMod B [] M M := zMod.rf
  refine zw_aload_n (pc := 0) (n := 0) (x := q) rfl d_Group_both_0 ?_
  obtain ⟨r1, r1f, r1B, r1k⟩ := hT.1 q 5 2 hqB hqk (by decide) (by decide) rfl
  refine zc_getF hm (pc := 1) f_Group_23 rfl hqk r1f d_Group_both_1 ?_
  refine zw_iload_n (pc := 4) (n := 1) (x := x0) rfl d_Group_both_4 ?_
  refine zw_bipush (pc := 5) (v := 24) (by decide) d_Group_both_5 ?_
  refine zw_imul (pc := 7) d_Group_both_7 ?_
  refine zw_iload_n (pc := 8) (n := 2) (x := x1) rfl d_Group_both_8 ?_
  refine zw_iadd (pc := 9) d_Group_both_9 ?_
  refine zc_callV hm (pc := 10) [.int ((x0 * 24) + x1)] [] l_Group_54 (c_IntRow_at l B M (hT.mod hm) r1 r1B (hm.k r1k) ((x0 * 24) + x1)) rfl rfl r1k (by decide) (by decide) (Nat.le_of_ble_eq_true rfl) d_Group_both_10 (fun r4 N2 hq3 => ?_)
  obtain ⟨hk7, v6, rfl⟩ := hq3
  have hn5 : zMod B [] M N2 := hm.call hk7 (by decide)
  show zW l m_Group_both (zn M + 0, zw M + 0) N2 13 [some (.ref q), some (.int x0), some (.int x1)] [.int v6] (zqI B M [])
  exact zw_iret (S := []) (pc := 13) (ty := .int) rfl rfl d_Group_both_13 ⟨hn5, _, rfl⟩
set_option maxHeartbeats 4000000 in
theorem c_Group_spanOf (l : Launch) (B : Nat) (M : zMem) (hT : zTy B M) (q : Nat) (hqB : q < B) (hqk : (zsh M q).1 = 5 + 3) (x0 : Int32) : zC l m_Group_spanOf 0 0 [.ref q, .int x0] M (zqI B M []) := by
  refine zC_of (L0 := [some (.ref q), some (.int x0), none, none, none, none, none]) md_Group_spanOf (Nat.le_of_ble_eq_true rfl) rfl ?_ zQ0
  have hm : zMod B [] M M := zMod.rf
  refine zw_iconst (pc := 0) (v := 1) (by decide) d_Group_spanOf_0 ?_
  refine zw_istore_n (pc := 1) (i := 2) (L2 := [some (.ref q), some (.int x0), some (.int 1), none, none, none, none]) rfl (by decide) rfl d_Group_spanOf_1 ?_
  refine zw_iconst (pc := 2) (v := 1) (by decide) d_Group_spanOf_2 ?_
  refine zw_istore_n (pc := 3) (i := 3) (L2 := [some (.ref q), some (.int x0), some (.int 1), some (.int 1), none, none, none]) rfl (by decide) rfl d_Group_spanOf_3 ?_
  refine zw_aload_n (pc := 4) (n := 0) (x := q) rfl d_Group_spanOf_4 ?_
  obtain ⟨r1, r1f, r1B, r1k⟩ := hT.1 q 5 4 hqB hqk (by decide) (by decide) rfl
  refine zc_getF hm (pc := 5) f_Group_29 rfl hqk r1f d_Group_spanOf_5 ?_
  refine zw_iconst (pc := 8) (v := 0) (by decide) d_Group_spanOf_8 ?_
  refine zw_iconst (pc := 9) (v := 0) (by decide) d_Group_spanOf_9 ?_
  refine zc_callV hm (pc := 10) [.int 0, .int 0] [] l_Group_46 (c_IntRow_put l B M (hT.mod hm) r1 r1B (hm.k r1k) 0 0) rfl rfl r1k (by decide) (by decide) (Nat.le_of_ble_eq_true rfl) d_Group_spanOf_10 (fun r4 N2 hq3 => ?_)
  obtain ⟨hk7, rfl⟩ := hq3
  have hn5 : zMod B [] M N2 := hm.call hk7 (by decide)
  show zW l m_Group_spanOf (zn M + 0, zw M + 0) N2 13 [some (.ref q), some (.int x0), some (.int 1), some (.int 1), none, none, none] [] (zqI B M [])
  refine zw_iconst (pc := 13) (v := 0) (by decide) d_Group_spanOf_13 ?_
  refine zw_istore (pc := 14) (i := 4) (L2 := [some (.ref q), some (.int x0), some (.int 1), some (.int 1), some (.int 0), none, none]) (by decide) rfl d_Group_spanOf_14 ?_
  have lp_16 : ∀ (n : Nat) (u9 : Int32) (u10 : Int32) (u11 : Int32) (N12 : zMem) (hn13 : zMod B [] M N12), zvu u11 24 < n → zW l m_Group_spanOf (zn M + 0, zw M + 0) N12 16 [some (.ref q), some (.int x0), some (.int u9), some (.int u10), some (.int u11), none, none] [] (zqI B M []) := by
    intro n
    induction n with
    | zero =>
      intro u9 u10 u11 N12 hn13 h0
      exact absurd h0 (Nat.not_lt_zero _)
    | succ n ih_16 =>
      intro u9 u10 u11 N12 hn13 hlt_16
      refine zw_iload (pc := 16) (i := 4) (x := u11) rfl d_Group_spanOf_16 ?_
      refine zw_iload_n (pc := 18) (n := 3) (x := u10) rfl d_Group_spanOf_18 ?_
      refine zw_icmp_ge (pc := 19) (tgt := 112) (by decide) d_Group_spanOf_19 (fun hc_19 => ?_) (fun hc_19 => ?_)
      · refine zw_iload_n (pc := 112) (n := 2) (x := u9) rfl d_Group_spanOf_112 ?_
        exact zw_iret (S := []) (pc := 113) (ty := .int) rfl rfl d_Group_spanOf_113 ⟨hn13, _, rfl⟩
      · refine zw_iload (pc := 22) (i := 4) (x := u11) rfl d_Group_spanOf_22 ?_
        refine zw_bipush (pc := 24) (v := 24) (by decide) d_Group_spanOf_24 ?_
        refine zw_icmp_ge (pc := 26) (tgt := 112) (by decide) d_Group_spanOf_26 (fun hc_26 => ?_) (fun hc_26 => ?_)
        · refine zw_iload_n (pc := 112) (n := 2) (x := u9) rfl d_Group_spanOf_112 ?_
          exact zw_iret (S := []) (pc := 113) (ty := .int) rfl rfl d_Group_spanOf_113 ⟨hn13, _, rfl⟩
        · refine zw_iconst (pc := 29) (v := 0) (by decide) d_Group_spanOf_29 ?_
          refine zw_istore (pc := 30) (i := 5) (L2 := [some (.ref q), some (.int x0), some (.int u9), some (.int u10), some (.int u11), some (.int 0), none]) (by decide) rfl d_Group_spanOf_30 ?_
          have lp_32 : ∀ (n : Nat) (u14 : Int32) (u15 : Int32) (u16 : Int32) (N17 : zMem) (hn18 : zMod B [] M N17), zvu u16 (zi M q 7) < n → zW l m_Group_spanOf (zn M + 0, zw M + 0) N17 32 [some (.ref q), some (.int x0), some (.int u14), some (.int u15), some (.int u11), some (.int u16), none] [] (zqI B M []) := by
            intro n
            induction n with
            | zero =>
              intro u14 u15 u16 N17 hn18 h0
              exact absurd h0 (Nat.not_lt_zero _)
            | succ n ih_32 =>
              intro u14 u15 u16 N17 hn18 hlt_32
              refine zw_iload (pc := 32) (i := 5) (x := u16) rfl d_Group_spanOf_32 ?_
              refine zw_aload_n (pc := 34) (n := 0) (x := q) rfl d_Group_spanOf_34 ?_
              refine zc_getI0 hn18 (pc := 35) (by decide) f_Group_39 rfl hqk d_Group_spanOf_35 ?_
              refine zw_icmp_ge (pc := 38) (tgt := 106) (by decide) d_Group_spanOf_38 (fun hc_38 => ?_) (fun hc_38 => ?_)
              · refine zw_iinc (pc := 106) (i := 4) (x := u11) (v := u11 + Int32.ofInt 1) (L2 := [some (.ref q), some (.int x0), some (.int u14), some (.int u15), some (.int (u11 + Int32.ofInt 1)), some (.int u16), none]) rfl rfl (by decide) rfl d_Group_spanOf_106 ?_
                refine zw_goto (pc := 109) (tgt := 16) (by decide) d_Group_spanOf_109 ?_
                refine zW_le [some (.ref q), some (.int x0), some (.int u14), some (.int u15), some (.int (u11 + Int32.ofInt 1)), none, none] (⟨rfl, rfl, rfl, rfl, rfl, trivial⟩) ?_
                exact ih_16 u14 u15 (u11 + Int32.ofInt 1) N17 hn18 (Nat.lt_of_lt_of_le (z_up hc_26) (Nat.le_of_lt_succ hlt_16))
              · refine zw_iload_n (pc := 41) (n := 1) (x := x0) rfl d_Group_spanOf_41 ?_
                refine zw_iload (pc := 42) (i := 5) (x := u16) rfl d_Group_spanOf_42 ?_
                refine zc_callS hn18 (pc := 44) [.int x0, .int u16] [] l_Group_73 (c_T_isIn l B N17 (hT.mod hn18) x0 u16) rfl rfl (by decide) (Nat.le_of_ble_eq_true rfl) d_Group_spanOf_44 (fun r21 N19 hq20 => ?_)
                obtain ⟨hk24, v23, rfl, zv23⟩ := hq20
                have hn22 : zMod B [] M N19 := hn18.call hk24 (by decide)
                show zW l m_Group_spanOf (zn M + 0, zw M + 0) N19 47 [some (.ref q), some (.int x0), some (.int u14), some (.int u15), some (.int u11), some (.int u16), none] [.int v23] (zqI B M [])
                have j_69 : ∀ (u26 : Int32) (N27 : zMem) (hn28 : zMod B [] M N27), zW l m_Group_spanOf (zn M + 0, zw M + 0) N27 69 [some (.ref q), some (.int x0), some (.int u14), some (.int u15), some (.int u11), some (.int u16), none] [.int u26] (zqI B M []) := by
                  intro u26 N27 hn28
                  refine zw_istore (pc := 69) (i := 6) (L2 := [some (.ref q), some (.int x0), some (.int u14), some (.int u15), some (.int u11), some (.int u16), some (.int u26)]) (by decide) rfl d_Group_spanOf_69 ?_
                  refine zw_iload_n (pc := 71) (n := 2) (x := u14) rfl d_Group_spanOf_71 ?_
                  refine zw_iload (pc := 72) (i := 6) (x := u26) rfl d_Group_spanOf_72 ?_
                  refine zc_callS hn28 (pc := 74) [.int u14, .int u26] [] l_Group_73 (c_T_isIn l B N27 (hT.mod hn28) u14 u26) rfl rfl (by decide) (Nat.le_of_ble_eq_true rfl) d_Group_spanOf_74 (fun r31 N29 hq30 => ?_)
                  obtain ⟨hk34, v33, rfl, zv33⟩ := hq30
                  have hn32 : zMod B [] M N29 := hn28.call hk34 (by decide)
                  show zW l m_Group_spanOf (zn M + 0, zw M + 0) N29 77 [some (.ref q), some (.int x0), some (.int u14), some (.int u15), some (.int u11), some (.int u16), some (.int u26)] [.int v33] (zqI B M [])
                  have j_100 : ∀ (u36 : Int32) (u37 : Int32) (N38 : zMem) (hn39 : zMod B [] M N38), zW l m_Group_spanOf (zn M + 0, zw M + 0) N38 100 [some (.ref q), some (.int x0), some (.int u36), some (.int u37), some (.int u11), some (.int u16), some (.int u26)] [] (zqI B M []) := by
                    intro u36 u37 N38 hn39
                    refine zw_iinc (pc := 100) (i := 5) (x := u16) (v := u16 + Int32.ofInt 1) (L2 := [some (.ref q), some (.int x0), some (.int u36), some (.int u37), some (.int u11), some (.int (u16 + Int32.ofInt 1)), some (.int u26)]) rfl rfl (by decide) rfl d_Group_spanOf_100 ?_
                    refine zw_goto (pc := 103) (tgt := 32) (by decide) d_Group_spanOf_103 ?_
                    refine zW_le [some (.ref q), some (.int x0), some (.int u36), some (.int u37), some (.int u11), some (.int (u16 + Int32.ofInt 1)), none] (⟨rfl, rfl, rfl, rfl, rfl, rfl, trivial⟩) ?_
                    exact ih_32 u36 u37 (u16 + Int32.ofInt 1) N38 hn39 (Nat.lt_of_lt_of_le (z_up hc_38) (Nat.le_of_lt_succ hlt_32))
                  refine zw_if_ne (pc := 77) (tgt := 100) (by decide) d_Group_spanOf_77 (fun hc_77 => ?_) (fun hc_77 => ?_)
                  · exact j_100 u14 u15 N29 hn32
                  · refine zw_iload_n (pc := 80) (n := 2) (x := u14) rfl d_Group_spanOf_80 ?_
                    refine zw_iconst (pc := 81) (v := 1) (by decide) d_Group_spanOf_81 ?_
                    refine zw_iload (pc := 82) (i := 6) (x := u26) rfl d_Group_spanOf_82 ?_
                    refine zw_ishl (pc := 84) d_Group_spanOf_84 ?_
                    refine zw_ior (pc := 85) d_Group_spanOf_85 ?_
                    refine zw_istore_n (pc := 86) (i := 2) (L2 := [some (.ref q), some (.int x0), some (.int (u14 ||| (1 <<< (u26 &&& 31)))), some (.int u15), some (.int u11), some (.int u16), some (.int u26)]) rfl (by decide) rfl d_Group_spanOf_86 ?_
                    refine zw_aload_n (pc := 87) (n := 0) (x := q) rfl d_Group_spanOf_87 ?_
                    refine zc_getF hn32 (pc := 88) f_Group_29 rfl hqk r1f d_Group_spanOf_88 ?_
                    refine zw_iload_n (pc := 91) (n := 3) (x := u15) rfl d_Group_spanOf_91 ?_
                    refine zw_iload (pc := 92) (i := 6) (x := u26) rfl d_Group_spanOf_92 ?_
                    refine zc_callV hn32 (pc := 94) [.int u15, .int u26] [] l_Group_46 (c_IntRow_put l B N29 (hT.mod hn32) r1 r1B (hn32.k r1k) u15 u26) rfl rfl r1k (by decide) (by decide) (Nat.le_of_ble_eq_true rfl) d_Group_spanOf_94 (fun r42 N40 hq41 => ?_)
                    obtain ⟨hk45, rfl⟩ := hq41
                    have hn43 : zMod B [] M N40 := hn32.call hk45 (by decide)
                    show zW l m_Group_spanOf (zn M + 0, zw M + 0) N40 97 [some (.ref q), some (.int x0), some (.int (u14 ||| (1 <<< (u26 &&& 31)))), some (.int u15), some (.int u11), some (.int u16), some (.int u26)] [] (zqI B M [])
                    refine zw_iinc (pc := 97) (i := 3) (x := u15) (v := u15 + Int32.ofInt 1) (L2 := [some (.ref q), some (.int x0), some (.int (u14 ||| (1 <<< (u26 &&& 31)))), some (.int (u15 + Int32.ofInt 1)), some (.int u11), some (.int u16), some (.int u26)]) rfl rfl (by decide) rfl d_Group_spanOf_97 ?_
                    exact j_100 (u14 ||| (1 <<< (u26 &&& 31))) (u15 + Int32.ofInt 1) N40 hn43
                refine zw_if_eq (pc := 47) (tgt := 68) (by decide) d_Group_spanOf_47 (fun hc_47 => ?_) (fun hc_47 => ?_)
                · refine zw_iconst (pc := 68) (v := 0) (by decide) d_Group_spanOf_68 ?_
                  exact j_69 0 N19 hn22
                · refine zw_aload_n (pc := 50) (n := 0) (x := q) rfl d_Group_spanOf_50 ?_
                  refine zw_aload_n (pc := 51) (n := 0) (x := q) rfl d_Group_spanOf_51 ?_
                  refine zc_getF hn22 (pc := 52) f_Group_29 rfl hqk r1f d_Group_spanOf_52 ?_
                  refine zw_iload (pc := 55) (i := 4) (x := u11) rfl d_Group_spanOf_55 ?_
                  refine zc_callV hn22 (pc := 57) [.int u11] [.ref q] l_Group_54 (c_IntRow_at l B N19 (hT.mod hn22) r1 r1B (hn22.k r1k) u11) rfl rfl r1k (by decide) (by decide) (Nat.le_of_ble_eq_true rfl) d_Group_spanOf_57 (fun r49 N47 hq48 => ?_)
                  obtain ⟨hk52, v51, rfl⟩ := hq48
                  have hn50 : zMod B [] M N47 := hn22.call hk52 (by decide)
                  show zW l m_Group_spanOf (zn M + 0, zw M + 0) N47 60 [some (.ref q), some (.int x0), some (.int u14), some (.int u15), some (.int u11), some (.int u16), none] [.int v51, .ref q] (zqI B M [])
                  refine zw_iload (pc := 60) (i := 5) (x := u16) rfl d_Group_spanOf_60 ?_
                  refine zc_callV hn50 (pc := 62) [.int v51, .int u16] [] l_Group_67 (c_Group_both l B N47 (hT.mod hn50) q hqB (hn50.k hqk) v51 u16) rfl rfl hqk (by decide) (by decide) (Nat.le_of_ble_eq_true rfl) d_Group_spanOf_62 (fun r56 N54 hq55 => ?_)
                  obtain ⟨hk59, v58, rfl⟩ := hq55
                  have hn57 : zMod B [] M N54 := hn50.call hk59 (by decide)
                  show zW l m_Group_spanOf (zn M + 0, zw M + 0) N54 65 [some (.ref q), some (.int x0), some (.int u14), some (.int u15), some (.int u11), some (.int u16), none] [.int v58] (zqI B M [])
                  refine zw_goto (pc := 65) (tgt := 69) (by decide) d_Group_spanOf_65 ?_
                  exact j_69 v58 N54 hn57
          exact lp_32 _ u9 u10 0 N12 hn13 (Nat.lt_succ_self _)
  exact lp_16 _ 1 1 0 N2 hn5 (Nat.lt_succ_self _)
set_option maxHeartbeats 4000000 in
theorem c_Sorts_indexOf (l : Launch) (B : Nat) (M : zMem) (hT : zTy B M) (q : Nat) (hqB : q < B) (hqk : (zsh M q).1 = 6 + 3) (x0 : Int32) : zC l m_Sorts_indexOf 0 0 [.ref q, .int x0] M (zqI B M []) := by
  refine zC_of (L0 := [some (.ref q), some (.int x0), none]) md_Sorts_indexOf (Nat.le_of_ble_eq_true rfl) rfl ?_ zQ0
  have hm : zMod B [] M M := zMod.rf
  refine zw_iconst (pc := 0) (v := 0) (by decide) d_Sorts_indexOf_0 ?_
  refine zw_istore_n (pc := 1) (i := 2) (L2 := [some (.ref q), some (.int x0), some (.int 0)]) rfl (by decide) rfl d_Sorts_indexOf_1 ?_
  have lp_2 : ∀ (n : Nat) (u1 : Int32) (N2 : zMem) (hn3 : zMod B [] M N2), zvu u1 (zi M q 6) < n → zW l m_Sorts_indexOf (zn M + 0, zw M + 0) N2 2 [some (.ref q), some (.int x0), some (.int u1)] [] (zqI B M []) := by
    intro n
    induction n with
    | zero =>
      intro u1 N2 hn3 h0
      exact absurd h0 (Nat.not_lt_zero _)
    | succ n ih_2 =>
      intro u1 N2 hn3 hlt_2
      refine zw_iload_n (pc := 2) (n := 2) (x := u1) rfl d_Sorts_indexOf_2 ?_
      refine zw_aload_n (pc := 3) (n := 0) (x := q) rfl d_Sorts_indexOf_3 ?_
      refine zc_getI0 hn3 (pc := 4) (by decide) f_Sorts_36 rfl hqk d_Sorts_indexOf_4 ?_
      refine zw_icmp_ge (pc := 7) (tgt := 30) (by decide) d_Sorts_indexOf_7 (fun hc_7 => ?_) (fun hc_7 => ?_)
      · refine zw_iconst (pc := 30) (v := (-1)) (by decide) d_Sorts_indexOf_30 ?_
        exact zw_iret (S := []) (pc := 31) (ty := .int) rfl rfl d_Sorts_indexOf_31 ⟨hn3, _, rfl⟩
      · refine zw_aload_n (pc := 10) (n := 0) (x := q) rfl d_Sorts_indexOf_10 ?_
        obtain ⟨r4, r4f, r4B, r4k⟩ := hT.1 q 6 1 hqB hqk (by decide) (by decide) rfl
        refine zc_getF hn3 (pc := 11) f_Sorts_14 rfl hqk r4f d_Sorts_indexOf_11 ?_
        refine zw_iload_n (pc := 14) (n := 2) (x := u1) rfl d_Sorts_indexOf_14 ?_
        refine zc_callV hn3 (pc := 15) [.int u1] [] l_Sorts_49 (c_IntRow_at l B N2 (hT.mod hn3) r4 r4B (hn3.k r4k) u1) rfl rfl r4k (by decide) (by decide) (Nat.le_of_ble_eq_true rfl) d_Sorts_indexOf_15 (fun r7 N5 hq6 => ?_)
        obtain ⟨hk10, v9, rfl⟩ := hq6
        have hn8 : zMod B [] M N5 := hn3.call hk10 (by decide)
        show zW l m_Sorts_indexOf (zn M + 0, zw M + 0) N5 18 [some (.ref q), some (.int x0), some (.int u1)] [.int v9] (zqI B M [])
        refine zw_iload_n (pc := 18) (n := 1) (x := x0) rfl d_Sorts_indexOf_18 ?_
        refine zw_icmp_ne (pc := 19) (tgt := 24) (by decide) d_Sorts_indexOf_19 (fun hc_19 => ?_) (fun hc_19 => ?_)
        · refine zw_iinc (pc := 24) (i := 2) (x := u1) (v := u1 + Int32.ofInt 1) (L2 := [some (.ref q), some (.int x0), some (.int (u1 + Int32.ofInt 1))]) rfl rfl (by decide) rfl d_Sorts_indexOf_24 ?_
          refine zw_goto (pc := 27) (tgt := 2) (by decide) d_Sorts_indexOf_27 ?_
          exact ih_2 (u1 + Int32.ofInt 1) N5 hn8 (Nat.lt_of_lt_of_le (z_up hc_7) (Nat.le_of_lt_succ hlt_2))
        · refine zw_iload_n (pc := 22) (n := 2) (x := u1) rfl d_Sorts_indexOf_22 ?_
          exact zw_iret (S := []) (pc := 23) (ty := .int) rfl rfl d_Sorts_indexOf_23 ⟨hn8, _, rfl⟩
  exact lp_2 _ 0 M hm (Nat.lt_succ_self _)
