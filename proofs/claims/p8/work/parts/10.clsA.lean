/-! methods of the landed part, walked by program -/
set_option maxHeartbeats 4000000 in
theorem c_T_codeOf (l : Launch) (B : Nat) (M : zMem) (hT : zTy B M) (x0 : Int32) (x1 : Int32) : zC l m_T_codeOf 0 0 [.int x0, .int x1] M (zqI B M []) := by
  refine zC_of (L0 := [some (.int x0), some (.int x1)]) md_T_codeOf (Nat.le_of_ble_eq_true rfl) rfl ?_ zQ0
  have hm : zMod B [] M M := zMod.rf
  refine zw_iload_n (pc := 0) (n := 0) (x := x0) rfl d_T_codeOf_0 ?_
  refine zw_iconst (pc := 1) (v := 3) (by decide) d_T_codeOf_1 ?_
  refine zw_iconst (pc := 2) (v := 5) (by decide) d_T_codeOf_2 ?_
  refine zw_iload_n (pc := 3) (n := 1) (x := x1) rfl d_T_codeOf_3 ?_
  refine zw_isub (pc := 4) d_T_codeOf_4 ?_
  refine zw_imul (pc := 5) d_T_codeOf_5 ?_
  refine zw_ishl (pc := 6) d_T_codeOf_6 ?_
  exact zw_iret (S := []) (pc := 7) (ty := .int) rfl rfl d_T_codeOf_7 ⟨hm, _, rfl⟩
set_option maxHeartbeats 4000000 in
theorem c_IntRow_put (l : Launch) (B : Nat) (M : zMem) (hT : zTy B M) (q : Nat) (hqB : q < B) (hqk : (zsh M q).1 = 2 + 3) (x0 : Int32) (x1 : Int32) : zC l m_IntRow_put 0 0 [.ref q, .int x0, .int x1] M (zqV B M []) := by
  refine zC_of (L0 := [some (.ref q), some (.int x0), some (.int x1)]) md_IntRow_put (Nat.le_of_ble_eq_true rfl) rfl ?_ zQ0
  have hm : zMod B [] M M := zMod.rf
  refine zw_iload_n (pc := 0) (n := 1) (x := x0) rfl d_IntRow_put_0 ?_
  refine zw_if_lt (pc := 1) (tgt := 20) (by decide) d_IntRow_put_1 (fun hc_1 => ?_) (fun hc_1 => ?_)
  · exact zw_vret (S := []) (pc := 20) rfl d_IntRow_put_20 ⟨hm, rfl⟩
  · refine zw_iload_n (pc := 4) (n := 1) (x := x0) rfl d_IntRow_put_4 ?_
    refine zw_aload_n (pc := 5) (n := 0) (x := q) rfl d_IntRow_put_5 ?_
    obtain ⟨r1, r1f, r1B, r1k⟩ := hT.1 q 2 0 hqB hqk (by decide) (by decide) rfl
    refine zc_getF hm (pc := 6) f_IntRow_13 rfl hqk r1f d_IntRow_put_6 ?_
    refine zc_alenI hm (pc := 9) r1k d_IntRow_put_9 ?_
    refine zw_icmp_ge (pc := 10) (tgt := 20) (by decide) d_IntRow_put_10 (fun hc_10 => ?_) (fun hc_10 => ?_)
    · exact zw_vret (S := []) (pc := 20) rfl d_IntRow_put_20 ⟨hm, rfl⟩
    · refine zw_aload_n (pc := 13) (n := 0) (x := q) rfl d_IntRow_put_13 ?_
      refine zc_getF hm (pc := 14) f_IntRow_13 rfl hqk r1f d_IntRow_put_14 ?_
      refine zw_iload_n (pc := 17) (n := 1) (x := x0) rfl d_IntRow_put_17 ?_
      refine zw_iload_n (pc := 18) (n := 2) (x := x1) rfl d_IntRow_put_18 ?_
      refine zc_iast hm (pc := 19) r1k r1B (z_vin hc_1 hc_10 (hT.2 r1 r1B)) d_IntRow_put_19 (fun N2 hN2 hn3 => ?_)
      exact zw_vret (S := []) (pc := 20) rfl d_IntRow_put_20 ⟨hn3, rfl⟩
set_option maxHeartbeats 4000000 in
theorem c_IntRow_at (l : Launch) (B : Nat) (M : zMem) (hT : zTy B M) (q : Nat) (hqB : q < B) (hqk : (zsh M q).1 = 2 + 3) (x0 : Int32) : zC l m_IntRow_at 0 0 [.ref q, .int x0] M (zqI B M []) := by
  refine zC_of (L0 := [some (.ref q), some (.int x0)]) md_IntRow_at (Nat.le_of_ble_eq_true rfl) rfl ?_ zQ0
  have hm : zMod B [] M M := zMod.rf
  refine zw_iload_n (pc := 0) (n := 1) (x := x0) rfl d_IntRow_at_0 ?_
  refine zw_if_lt (pc := 1) (tgt := 22) (by decide) d_IntRow_at_1 (fun hc_1 => ?_) (fun hc_1 => ?_)
  · refine zw_iconst (pc := 22) (v := 0) (by decide) d_IntRow_at_22 ?_
    exact zw_iret (S := []) (pc := 23) (ty := .int) rfl rfl d_IntRow_at_23 ⟨hm, _, rfl⟩
  · refine zw_iload_n (pc := 4) (n := 1) (x := x0) rfl d_IntRow_at_4 ?_
    refine zw_aload_n (pc := 5) (n := 0) (x := q) rfl d_IntRow_at_5 ?_
    obtain ⟨r1, r1f, r1B, r1k⟩ := hT.1 q 2 0 hqB hqk (by decide) (by decide) rfl
    refine zc_getF hm (pc := 6) f_IntRow_13 rfl hqk r1f d_IntRow_at_6 ?_
    refine zc_alenI hm (pc := 9) r1k d_IntRow_at_9 ?_
    refine zw_icmp_ge (pc := 10) (tgt := 22) (by decide) d_IntRow_at_10 (fun hc_10 => ?_) (fun hc_10 => ?_)
    · refine zw_iconst (pc := 22) (v := 0) (by decide) d_IntRow_at_22 ?_
      exact zw_iret (S := []) (pc := 23) (ty := .int) rfl rfl d_IntRow_at_23 ⟨hm, _, rfl⟩
    · refine zw_aload_n (pc := 13) (n := 0) (x := q) rfl d_IntRow_at_13 ?_
      refine zc_getF hm (pc := 14) f_IntRow_13 rfl hqk r1f d_IntRow_at_14 ?_
      refine zw_iload_n (pc := 17) (n := 1) (x := x0) rfl d_IntRow_at_17 ?_
      refine zc_iald hm (pc := 18) r1k (z_vin hc_1 hc_10 (hT.2 r1 r1B)) d_IntRow_at_18 ?_
      refine zw_goto (pc := 19) (tgt := 23) (by decide) d_IntRow_at_19 ?_
      exact zw_iret (S := []) (pc := 23) (ty := .int) rfl rfl d_IntRow_at_23 ⟨hm, _, rfl⟩
set_option maxHeartbeats 4000000 in
theorem c_T_placeIn (l : Launch) (B : Nat) (M : zMem) (hT : zTy B M) (x0 : Int32) (x1 : Int32) : zC l m_T_placeIn 0 0 [.int x0, .int x1] M (zqI B M []) := by
  refine zC_of (L0 := [some (.int x0), some (.int x1)]) md_T_placeIn (Nat.le_of_ble_eq_true rfl) rfl ?_ zQ0
  have hm : zMod B [] M M := zMod.rf
  refine zw_iload_n (pc := 0) (n := 0) (x := x0) rfl d_T_placeIn_0 ?_
  refine zw_iconst (pc := 1) (v := 3) (by decide) d_T_placeIn_1 ?_
  refine zw_iconst (pc := 2) (v := 5) (by decide) d_T_placeIn_2 ?_
  refine zw_iload_n (pc := 3) (n := 1) (x := x1) rfl d_T_placeIn_3 ?_
  refine zw_isub (pc := 4) d_T_placeIn_4 ?_
  refine zw_imul (pc := 5) d_T_placeIn_5 ?_
  refine zw_ishr (pc := 6) d_T_placeIn_6 ?_
  refine zw_bipush (pc := 7) (v := 7) (by decide) d_T_placeIn_7 ?_
  refine zw_iand (pc := 9) d_T_placeIn_9 ?_
  exact zw_iret (S := []) (pc := 10) (ty := .int) rfl rfl d_T_placeIn_10 ⟨hm, _, rfl⟩
set_option maxHeartbeats 4000000 in
theorem c_Group_behind (l : Launch) (B : Nat) (M : zMem) (hT : zTy B M) (q : Nat) (hqB : q < B) (hqk : (zsh M q).1 = 5 + 3) (x0 : Int32) (x1 : Int32) : zC l m_Group_behind 0 0 [.ref q, .int x0, .int x1] M (zqI B M []) := by
  refine zC_of (L0 := [some (.ref q), some (.int x0), some (.int x1), none, none]) md_Group_behind (Nat.le_of_ble_eq_true rfl) rfl ?_ zQ0
  have hm : zMod B [] M M := zMod.rf
  refine zw_iconst (pc := 0) (v := 0) (by decide) d_Group_behind_0 ?_
  refine zw_istore_n (pc := 1) (i := 3) (L2 := [some (.ref q), some (.int x0), some (.int x1), some (.int 0), none]) rfl (by decide) rfl d_Group_behind_1 ?_
  refine zw_iconst (pc := 2) (v := 0) (by decide) d_Group_behind_2 ?_
  refine zw_istore (pc := 3) (i := 4) (L2 := [some (.ref q), some (.int x0), some (.int x1), some (.int 0), some (.int 0)]) (by decide) rfl d_Group_behind_3 ?_
  have lp_5 : ∀ (n : Nat) (u1 : Int32) (u2 : Int32) (N3 : zMem) (hn4 : zMod B [] M N3), zvu u2 (zi M q 5) < n → zW l m_Group_behind (zn M + 0, zw M + 0) N3 5 [some (.ref q), some (.int x0), some (.int x1), some (.int u1), some (.int u2)] [] (zqI B M []) := by
    intro n
    induction n with
    | zero =>
      intro u1 u2 N3 hn4 h0
      exact absurd h0 (Nat.not_lt_zero _)
    | succ n ih_5 =>
      intro u1 u2 N3 hn4 hlt_5
      refine zw_iload (pc := 5) (i := 4) (x := u2) rfl d_Group_behind_5 ?_
      refine zw_aload_n (pc := 7) (n := 0) (x := q) rfl d_Group_behind_7 ?_
      refine zc_getI0 hn4 (pc := 8) (by decide) f_Group_32 rfl hqk d_Group_behind_8 ?_
      refine zw_icmp_ge (pc := 11) (tgt := 38) (by decide) d_Group_behind_11 (fun hc_11 => ?_) (fun hc_11 => ?_)
      · refine zw_iload_n (pc := 38) (n := 3) (x := u1) rfl d_Group_behind_38 ?_
        exact zw_iret (S := []) (pc := 39) (ty := .int) rfl rfl d_Group_behind_39 ⟨hn4, _, rfl⟩
      · refine zw_iload_n (pc := 14) (n := 3) (x := u1) rfl d_Group_behind_14 ?_
        refine zw_iload_n (pc := 15) (n := 2) (x := x1) rfl d_Group_behind_15 ?_
        refine zw_iload_n (pc := 16) (n := 1) (x := x0) rfl d_Group_behind_16 ?_
        refine zw_iload (pc := 17) (i := 4) (x := u2) rfl d_Group_behind_17 ?_
        refine zc_callS hn4 (pc := 19) [.int x0, .int u2] [.int x1, .int u1] l_Group_64 (c_T_placeIn l B N3 (hT.mod hn4) x0 u2) rfl rfl (by decide) (Nat.le_of_ble_eq_true rfl) d_Group_behind_19 (fun r7 N5 hq6 => ?_)
        obtain ⟨hk10, v9, rfl⟩ := hq6
        have hn8 : zMod B [] M N5 := hn4.call hk10 (by decide)
        show zW l m_Group_behind (zn M + 0, zw M + 0) N5 22 [some (.ref q), some (.int x0), some (.int x1), some (.int u1), some (.int u2)] [.int v9, .int x1, .int u1] (zqI B M [])
        refine zc_callS hn8 (pc := 22) [.int x1, .int v9] [.int u1] l_Group_64 (c_T_placeIn l B N5 (hT.mod hn8) x1 v9) rfl rfl (by decide) (Nat.le_of_ble_eq_true rfl) d_Group_behind_22 (fun r14 N12 hq13 => ?_)
        obtain ⟨hk17, v16, rfl⟩ := hq13
        have hn15 : zMod B [] M N12 := hn8.call hk17 (by decide)
        show zW l m_Group_behind (zn M + 0, zw M + 0) N12 25 [some (.ref q), some (.int x0), some (.int x1), some (.int u1), some (.int u2)] [.int v16, .int u1] (zqI B M [])
        refine zw_iload (pc := 25) (i := 4) (x := u2) rfl d_Group_behind_25 ?_
        refine zc_callS hn15 (pc := 27) [.int v16, .int u2] [.int u1] l_Group_50 (c_T_codeOf l B N12 (hT.mod hn15) v16 u2) rfl rfl (by decide) (Nat.le_of_ble_eq_true rfl) d_Group_behind_27 (fun r21 N19 hq20 => ?_)
        obtain ⟨hk24, v23, rfl⟩ := hq20
        have hn22 : zMod B [] M N19 := hn15.call hk24 (by decide)
        show zW l m_Group_behind (zn M + 0, zw M + 0) N19 30 [some (.ref q), some (.int x0), some (.int x1), some (.int u1), some (.int u2)] [.int v23, .int u1] (zqI B M [])
        refine zw_ior (pc := 30) d_Group_behind_30 ?_
        refine zw_istore_n (pc := 31) (i := 3) (L2 := [some (.ref q), some (.int x0), some (.int x1), some (.int (u1 ||| v23)), some (.int u2)]) rfl (by decide) rfl d_Group_behind_31 ?_
        refine zw_iinc (pc := 32) (i := 4) (x := u2) (v := u2 + Int32.ofInt 1) (L2 := [some (.ref q), some (.int x0), some (.int x1), some (.int (u1 ||| v23)), some (.int (u2 + Int32.ofInt 1))]) rfl rfl (by decide) rfl d_Group_behind_32 ?_
        refine zw_goto (pc := 35) (tgt := 5) (by decide) d_Group_behind_35 ?_
        exact ih_5 (u1 ||| v23) (u2 + Int32.ofInt 1) N19 hn22 (Nat.lt_of_lt_of_le (z_up hc_11) (Nat.le_of_lt_succ hlt_5))
  exact lp_5 _ 0 0 M hm (Nat.lt_succ_self _)
set_option maxHeartbeats 4000000 in
theorem c_Group_indexOf (l : Launch) (B : Nat) (M : zMem) (hT : zTy B M) (q : Nat) (hqB : q < B) (hqk : (zsh M q).1 = 5 + 3) (x0 : Int32) : zC l m_Group_indexOf 0 0 [.ref q, .int x0] M (zqI B M []) := by
  refine zC_of (L0 := [some (.ref q), some (.int x0), none]) md_Group_indexOf (Nat.le_of_ble_eq_true rfl) rfl ?_ zQ0
  have hm : zMod B [] M M := zMod.rf
  refine zw_iconst (pc := 0) (v := 0) (by decide) d_Group_indexOf_0 ?_
  refine zw_istore_n (pc := 1) (i := 2) (L2 := [some (.ref q), some (.int x0), some (.int 0)]) rfl (by decide) rfl d_Group_indexOf_1 ?_
  have lp_2 : ∀ (n : Nat) (u1 : Int32) (N2 : zMem) (hn3 : zMod B [] M N2), zvu u1 (zi M q 7) < n → zW l m_Group_indexOf (zn M + 0, zw M + 0) N2 2 [some (.ref q), some (.int x0), some (.int u1)] [] (zqI B M []) := by
    intro n
    induction n with
    | zero =>
      intro u1 N2 hn3 h0
      exact absurd h0 (Nat.not_lt_zero _)
    | succ n ih_2 =>
      intro u1 N2 hn3 hlt_2
      refine zw_iload_n (pc := 2) (n := 2) (x := u1) rfl d_Group_indexOf_2 ?_
      refine zw_aload_n (pc := 3) (n := 0) (x := q) rfl d_Group_indexOf_3 ?_
      refine zc_getI0 hn3 (pc := 4) (by decide) f_Group_39 rfl hqk d_Group_indexOf_4 ?_
      refine zw_icmp_ge (pc := 7) (tgt := 30) (by decide) d_Group_indexOf_7 (fun hc_7 => ?_) (fun hc_7 => ?_)
      · refine zw_iconst (pc := 30) (v := (-1)) (by decide) d_Group_indexOf_30 ?_
        exact zw_iret (S := []) (pc := 31) (ty := .int) rfl rfl d_Group_indexOf_31 ⟨hn3, _, rfl⟩
      · refine zw_aload_n (pc := 10) (n := 0) (x := q) rfl d_Group_indexOf_10 ?_
        obtain ⟨r4, r4f, r4B, r4k⟩ := hT.1 q 5 1 hqB hqk (by decide) (by decide) rfl
        refine zc_getF hn3 (pc := 11) f_Group_20 rfl hqk r4f d_Group_indexOf_11 ?_
        refine zw_iload_n (pc := 14) (n := 2) (x := u1) rfl d_Group_indexOf_14 ?_
        refine zc_callV hn3 (pc := 15) [.int u1] [] l_Group_54 (c_IntRow_at l B N2 (hT.mod hn3) r4 r4B (hn3.k r4k) u1) rfl rfl r4k (by decide) (by decide) (Nat.le_of_ble_eq_true rfl) d_Group_indexOf_15 (fun r7 N5 hq6 => ?_)
        obtain ⟨hk10, v9, rfl⟩ := hq6
        have hn8 : zMod B [] M N5 := hn3.call hk10 (by decide)
        show zW l m_Group_indexOf (zn M + 0, zw M + 0) N5 18 [some (.ref q), some (.int x0), some (.int u1)] [.int v9] (zqI B M [])
        refine zw_iload_n (pc := 18) (n := 1) (x := x0) rfl d_Group_indexOf_18 ?_
        refine zw_icmp_ne (pc := 19) (tgt := 24) (by decide) d_Group_indexOf_19 (fun hc_19 => ?_) (fun hc_19 => ?_)
        · refine zw_iinc (pc := 24) (i := 2) (x := u1) (v := u1 + Int32.ofInt 1) (L2 := [some (.ref q), some (.int x0), some (.int (u1 + Int32.ofInt 1))]) rfl rfl (by decide) rfl d_Group_indexOf_24 ?_
          refine zw_goto (pc := 27) (tgt := 2) (by decide) d_Group_indexOf_27 ?_
          exact ih_2 (u1 + Int32.ofInt 1) N5 hn8 (Nat.lt_of_lt_of_le (z_up hc_7) (Nat.le_of_lt_succ hlt_2))
        · refine zw_iload_n (pc := 22) (n := 2) (x := u1) rfl d_Group_indexOf_22 ?_
          exact zw_iret (S := []) (pc := 23) (ty := .int) rfl rfl d_Group_indexOf_23 ⟨hn8, _, rfl⟩
  exact lp_2 _ 0 M hm (Nat.lt_succ_self _)
set_option maxHeartbeats 4000000 in
theorem c_Group_gather (l : Launch) (B : Nat) (M : zMem) (hT : zTy B M) (q : Nat) (hqB : q < B) (hqk : (zsh M q).1 = 5 + 3) : zC l m_Group_gather 0 0 [.ref q] M (zqZ B M [(5, 7)]) := by
  refine zC_of (L0 := [some (.ref q), none, none, none, none]) md_Group_gather (Nat.le_of_ble_eq_true rfl) rfl ?_ zQ0
  have hm : zMod B [(5, 7)] M M := zMod.rf
  refine zw_iconst (pc := 0) (v := 0) (by decide) d_Group_gather_0 ?_
  refine zw_istore_n (pc := 1) (i := 1) (L2 := [some (.ref q), some (.int 0), none, none, none]) rfl (by decide) rfl d_Group_gather_1 ?_
  refine zw_iconst (pc := 2) (v := 0) (by decide) d_Group_gather_2 ?_
  refine zw_istore_n (pc := 3) (i := 2) (L2 := [some (.ref q), some (.int 0), some (.int 0), none, none]) rfl (by decide) rfl d_Group_gather_3 ?_
  have lp_4 : ∀ (n : Nat) (u1 : Int32) (u2 : Int32) (N3 : zMem) (hn4 : zMod B [(5, 7)] M N3), zvu u2 (zi M q 5) < n → zW l m_Group_gather (zn M + 0, zw M + 0) N3 4 [some (.ref q), some (.int u1), some (.int u2), none, none] [] (zqZ B M [(5, 7)]) := by
    intro n
    induction n with
    | zero =>
      intro u1 u2 N3 hn4 h0
      exact absurd h0 (Nat.not_lt_zero _)
    | succ n ih_4 =>
      intro u1 u2 N3 hn4 hlt_4
      refine zw_iload_n (pc := 4) (n := 2) (x := u2) rfl d_Group_gather_4 ?_
      refine zw_aload_n (pc := 5) (n := 0) (x := q) rfl d_Group_gather_5 ?_
      refine zc_getI0 hn4 (pc := 6) (by decide) f_Group_32 rfl hqk d_Group_gather_6 ?_
      refine zw_icmp_ge (pc := 9) (tgt := 26) (by decide) d_Group_gather_9 (fun hc_9 => ?_) (fun hc_9 => ?_)
      · refine zw_aload_n (pc := 26) (n := 0) (x := q) rfl d_Group_gather_26 ?_
        obtain ⟨r5, r5f, r5B, r5k⟩ := hT.1 q 5 1 hqB hqk (by decide) (by decide) rfl
        refine zc_getF hn4 (pc := 27) f_Group_20 rfl hqk r5f d_Group_gather_27 ?_
        refine zw_iconst (pc := 30) (v := 0) (by decide) d_Group_gather_30 ?_
        refine zw_iload_n (pc := 31) (n := 1) (x := u1) rfl d_Group_gather_31 ?_
        refine zc_callV hn4 (pc := 32) [.int 0, .int u1] [] l_Group_46 (c_IntRow_put l B N3 (hT.mod hn4) r5 r5B (hn4.k r5k) 0 u1) rfl rfl r5k (by decide) (by decide) (Nat.le_of_ble_eq_true rfl) d_Group_gather_32 (fun r8 N6 hq7 => ?_)
        obtain ⟨hk11, rfl⟩ := hq7
        have hn9 : zMod B [(5, 7)] M N6 := hn4.call hk11 (by decide)
        show zW l m_Group_gather (zn M + 0, zw M + 0) N6 35 [some (.ref q), some (.int u1), some (.int u2), none, none] [] (zqZ B M [(5, 7)])
        refine zw_aload_n (pc := 35) (n := 0) (x := q) rfl d_Group_gather_35 ?_
        refine zw_iconst (pc := 36) (v := 1) (by decide) d_Group_gather_36 ?_
        refine zc_putI hn9 (pc := 37) f_Group_39 rfl rfl hqk hqB (by decide) rfl rfl d_Group_gather_37 (fun N13 hN13 hn14 => ?_)
        refine zw_iconst (pc := 40) (v := 0) (by decide) d_Group_gather_40 ?_
        refine zw_istore_n (pc := 41) (i := 2) (L2 := [some (.ref q), some (.int u1), some (.int 0), none, none]) rfl (by decide) rfl d_Group_gather_41 ?_
        have lp_42 : ∀ (n : Nat) (u15 : Int32) (N16 : zMem) (hn17 : zMod B [(5, 7)] M N16), zvu u15 24 < n → zW l m_Group_gather (zn M + 0, zw M + 0) N16 42 [some (.ref q), some (.int u1), some (.int u15), none, none] [] (zqZ B M [(5, 7)]) := by
          intro n
          induction n with
          | zero =>
            intro u15 N16 hn17 h0
            exact absurd h0 (Nat.not_lt_zero _)
          | succ n ih_42 =>
            intro u15 N16 hn17 hlt_42
            refine zw_iload_n (pc := 42) (n := 2) (x := u15) rfl d_Group_gather_42 ?_
            refine zw_aload_n (pc := 43) (n := 0) (x := q) rfl d_Group_gather_43 ?_
            refine zc_getI hn17 (pc := 44) f_Group_39 rfl hqk d_Group_gather_44 ?_
            refine zw_icmp_ge (pc := 47) (tgt := 147) (by decide) d_Group_gather_47 (fun hc_47 => ?_) (fun hc_47 => ?_)
            · refine zw_iconst (pc := 147) (v := 1) (by decide) d_Group_gather_147 ?_
              exact zw_iret (S := []) (pc := 148) (ty := .boolean) rfl (z_narZ (Or.inr rfl)) d_Group_gather_148 ⟨hn17, _, rfl, Or.inr rfl⟩
            · refine zw_iload_n (pc := 50) (n := 2) (x := u15) rfl d_Group_gather_50 ?_
              refine zw_bipush (pc := 51) (v := 24) (by decide) d_Group_gather_51 ?_
              refine zw_icmp_ge (pc := 53) (tgt := 147) (by decide) d_Group_gather_53 (fun hc_53 => ?_) (fun hc_53 => ?_)
              · refine zw_iconst (pc := 147) (v := 1) (by decide) d_Group_gather_147 ?_
                exact zw_iret (S := []) (pc := 148) (ty := .boolean) rfl (z_narZ (Or.inr rfl)) d_Group_gather_148 ⟨hn17, _, rfl, Or.inr rfl⟩
              · refine zw_iconst (pc := 56) (v := 0) (by decide) d_Group_gather_56 ?_
                refine zw_istore_n (pc := 57) (i := 3) (L2 := [some (.ref q), some (.int u1), some (.int u15), some (.int 0), none]) rfl (by decide) rfl d_Group_gather_57 ?_
                have lp_58 : ∀ (n : Nat) (u18 : Int32) (N19 : zMem) (hn20 : zMod B [(5, 7)] M N19), zvu u18 (zi M q 6) < n → zW l m_Group_gather (zn M + 0, zw M + 0) N19 58 [some (.ref q), some (.int u1), some (.int u15), some (.int u18), none] [] (zqZ B M [(5, 7)]) := by
                  intro n
                  induction n with
                  | zero =>
                    intro u18 N19 hn20 h0
                    exact absurd h0 (Nat.not_lt_zero _)
                  | succ n ih_58 =>
                    intro u18 N19 hn20 hlt_58
                    refine zw_iload_n (pc := 58) (n := 3) (x := u18) rfl d_Group_gather_58 ?_
                    refine zw_aload_n (pc := 59) (n := 0) (x := q) rfl d_Group_gather_59 ?_
                    refine zc_getI0 hn20 (pc := 60) (by decide) f_Group_36 rfl hqk d_Group_gather_60 ?_
                    refine zw_icmp_ge (pc := 63) (tgt := 141) (by decide) d_Group_gather_63 (fun hc_63 => ?_) (fun hc_63 => ?_)
                    · refine zw_iinc (pc := 141) (i := 2) (x := u15) (v := u15 + Int32.ofInt 1) (L2 := [some (.ref q), some (.int u1), some (.int (u15 + Int32.ofInt 1)), some (.int u18), none]) rfl rfl (by decide) rfl d_Group_gather_141 ?_
                      refine zw_goto (pc := 144) (tgt := 42) (by decide) d_Group_gather_144 ?_
                      refine zW_le [some (.ref q), some (.int u1), some (.int (u15 + Int32.ofInt 1)), none, none] (⟨rfl, rfl, rfl, trivial⟩) ?_
                      exact ih_42 (u15 + Int32.ofInt 1) N19 hn20 (Nat.lt_of_lt_of_le (z_up hc_53) (Nat.le_of_lt_succ hlt_42))
                    · refine zw_aload_n (pc := 66) (n := 0) (x := q) rfl d_Group_gather_66 ?_
                      refine zw_aload_n (pc := 67) (n := 0) (x := q) rfl d_Group_gather_67 ?_
                      refine zc_getF hn20 (pc := 68) f_Group_20 rfl hqk r5f d_Group_gather_68 ?_
                      refine zw_iload_n (pc := 71) (n := 2) (x := u15) rfl d_Group_gather_71 ?_
                      refine zc_callV hn20 (pc := 72) [.int u15] [.ref q] l_Group_54 (c_IntRow_at l B N19 (hT.mod hn20) r5 r5B (hn20.k r5k) u15) rfl rfl r5k (by decide) (by decide) (Nat.le_of_ble_eq_true rfl) d_Group_gather_72 (fun r23 N21 hq22 => ?_)
                      obtain ⟨hk26, v25, rfl⟩ := hq22
                      have hn24 : zMod B [(5, 7)] M N21 := hn20.call hk26 (by decide)
                      show zW l m_Group_gather (zn M + 0, zw M + 0) N21 75 [some (.ref q), some (.int u1), some (.int u15), some (.int u18), none] [.int v25, .ref q] (zqZ B M [(5, 7)])
                      refine zw_aload_n (pc := 75) (n := 0) (x := q) rfl d_Group_gather_75 ?_
                      obtain ⟨r28, r28f, r28B, r28k⟩ := hT.1 q 5 0 hqB hqk (by decide) (by decide) rfl
                      refine zc_getF hn24 (pc := 76) f_Group_14 rfl hqk r28f d_Group_gather_76 ?_
                      refine zw_iload_n (pc := 79) (n := 3) (x := u18) rfl d_Group_gather_79 ?_
                      refine zc_callV hn24 (pc := 80) [.int u18] [.int v25, .ref q] l_Group_54 (c_IntRow_at l B N21 (hT.mod hn24) r28 r28B (hn24.k r28k) u18) rfl rfl r28k (by decide) (by decide) (Nat.le_of_ble_eq_true rfl) d_Group_gather_80 (fun r31 N29 hq30 => ?_)
                      obtain ⟨hk34, v33, rfl⟩ := hq30
                      have hn32 : zMod B [(5, 7)] M N29 := hn24.call hk34 (by decide)
                      show zW l m_Group_gather (zn M + 0, zw M + 0) N29 83 [some (.ref q), some (.int u1), some (.int u15), some (.int u18), none] [.int v33, .int v25, .ref q] (zqZ B M [(5, 7)])
                      refine zc_callV hn32 (pc := 83) [.int v25, .int v33] [] l_Group_58 (c_Group_behind l B N29 (hT.mod hn32) q hqB (hn32.k hqk) v25 v33) rfl rfl hqk (by decide) (by decide) (Nat.le_of_ble_eq_true rfl) d_Group_gather_83 (fun r38 N36 hq37 => ?_)
                      obtain ⟨hk41, v40, rfl⟩ := hq37
                      have hn39 : zMod B [(5, 7)] M N36 := hn32.call hk41 (by decide)
                      show zW l m_Group_gather (zn M + 0, zw M + 0) N36 86 [some (.ref q), some (.int u1), some (.int u15), some (.int u18), none] [.int v40] (zqZ B M [(5, 7)])
                      refine zw_istore (pc := 86) (i := 4) (L2 := [some (.ref q), some (.int u1), some (.int u15), some (.int u18), some (.int v40)]) (by decide) rfl d_Group_gather_86 ?_
                      refine zw_aload_n (pc := 88) (n := 0) (x := q) rfl d_Group_gather_88 ?_
                      refine zw_iload (pc := 89) (i := 4) (x := v40) rfl d_Group_gather_89 ?_
                      refine zc_callV hn39 (pc := 91) [.int v40] [] l_Group_61 (c_Group_indexOf l B N36 (hT.mod hn39) q hqB (hn39.k hqk) v40) rfl rfl hqk (by decide) (by decide) (Nat.le_of_ble_eq_true rfl) d_Group_gather_91 (fun r45 N43 hq44 => ?_)
                      obtain ⟨hk48, v47, rfl⟩ := hq44
                      have hn46 : zMod B [(5, 7)] M N43 := hn39.call hk48 (by decide)
                      show zW l m_Group_gather (zn M + 0, zw M + 0) N43 94 [some (.ref q), some (.int u1), some (.int u15), some (.int u18), some (.int v40)] [.int v47] (zqZ B M [(5, 7)])
                      refine zw_iconst (pc := 94) (v := (-1)) (by decide) d_Group_gather_94 ?_
                      have j_135 : ∀ (N50 : zMem) (hn51 : zMod B [(5, 7)] M N50), zW l m_Group_gather (zn M + 0, zw M + 0) N50 135 [some (.ref q), some (.int u1), some (.int u15), some (.int u18), some (.int v40)] [] (zqZ B M [(5, 7)]) := by
                        intro N50 hn51
                        refine zw_iinc (pc := 135) (i := 3) (x := u18) (v := u18 + Int32.ofInt 1) (L2 := [some (.ref q), some (.int u1), some (.int u15), some (.int (u18 + Int32.ofInt 1)), some (.int v40)]) rfl rfl (by decide) rfl d_Group_gather_135 ?_
                        refine zw_goto (pc := 138) (tgt := 58) (by decide) d_Group_gather_138 ?_
                        refine zW_le [some (.ref q), some (.int u1), some (.int u15), some (.int (u18 + Int32.ofInt 1)), none] (⟨rfl, rfl, rfl, rfl, trivial⟩) ?_
                        exact ih_58 (u18 + Int32.ofInt 1) N50 hn51 (Nat.lt_of_lt_of_le (z_up hc_63) (Nat.le_of_lt_succ hlt_58))
                      refine zw_icmp_eq (pc := 95) (tgt := 101) (by decide) d_Group_gather_95 (fun hc_95 => ?_) (fun hc_95 => ?_)
                      · refine zw_aload_n (pc := 101) (n := 0) (x := q) rfl d_Group_gather_101 ?_
                        refine zc_getI hn46 (pc := 102) f_Group_39 rfl hqk d_Group_gather_102 ?_
                        refine zw_bipush (pc := 105) (v := 24) (by decide) d_Group_gather_105 ?_
                        refine zw_icmp_lt (pc := 107) (tgt := 112) (by decide) d_Group_gather_107 (fun hc_107 => ?_) (fun hc_107 => ?_)
                        · refine zw_aload_n (pc := 112) (n := 0) (x := q) rfl d_Group_gather_112 ?_
                          refine zc_getF hn46 (pc := 113) f_Group_20 rfl hqk r5f d_Group_gather_113 ?_
                          refine zw_aload_n (pc := 116) (n := 0) (x := q) rfl d_Group_gather_116 ?_
                          refine zc_getI hn46 (pc := 117) f_Group_39 rfl hqk d_Group_gather_117 ?_
                          refine zw_iload (pc := 120) (i := 4) (x := v40) rfl d_Group_gather_120 ?_
                          refine zc_callV hn46 (pc := 122) [.int (zi N43 q 7), .int v40] [] l_Group_46 (c_IntRow_put l B N43 (hT.mod hn46) r5 r5B (hn46.k r5k) (zi N43 q 7) v40) rfl rfl r5k (by decide) (by decide) (Nat.le_of_ble_eq_true rfl) d_Group_gather_122 (fun r54 N52 hq53 => ?_)
                          obtain ⟨hk57, rfl⟩ := hq53
                          have hn55 : zMod B [(5, 7)] M N52 := hn46.call hk57 (by decide)
                          show zW l m_Group_gather (zn M + 0, zw M + 0) N52 125 [some (.ref q), some (.int u1), some (.int u15), some (.int u18), some (.int v40)] [] (zqZ B M [(5, 7)])
                          refine zw_aload_n (pc := 125) (n := 0) (x := q) rfl d_Group_gather_125 ?_
                          refine zw_dup (pc := 126) rfl d_Group_gather_126 ?_
                          refine zc_getI hn55 (pc := 127) f_Group_39 rfl hqk d_Group_gather_127 ?_
                          refine zw_iconst (pc := 130) (v := 1) (by decide) d_Group_gather_130 ?_
                          refine zw_iadd (pc := 131) d_Group_gather_131 ?_
                          refine zc_putI hn55 (pc := 132) f_Group_39 rfl rfl hqk hqB (by decide) rfl rfl d_Group_gather_132 (fun N59 hN59 hn60 => ?_)
                          exact j_135 N59 hn60
                        · refine zw_iconst (pc := 110) (v := 0) (by decide) d_Group_gather_110 ?_
                          exact zw_iret (S := []) (pc := 111) (ty := .boolean) rfl (z_narZ (Or.inl rfl)) d_Group_gather_111 ⟨hn46, _, rfl, Or.inl rfl⟩
                      · refine zw_goto (pc := 98) (tgt := 135) (by decide) d_Group_gather_98 ?_
                        exact j_135 N43 hn46
                exact lp_58 _ 0 N16 hn17 (Nat.lt_succ_self _)
        exact lp_42 _ 0 N13 hn14 (Nat.lt_succ_self _)
      · refine zw_iload_n (pc := 12) (n := 1) (x := u1) rfl d_Group_gather_12 ?_
        refine zw_iload_n (pc := 13) (n := 2) (x := u2) rfl d_Group_gather_13 ?_
        refine zw_iload_n (pc := 14) (n := 2) (x := u2) rfl d_Group_gather_14 ?_
        refine zc_callS hn4 (pc := 15) [.int u2, .int u2] [.int u1] l_Group_50 (c_T_codeOf l B N3 (hT.mod hn4) u2 u2) rfl rfl (by decide) (Nat.le_of_ble_eq_true rfl) d_Group_gather_15 (fun r63 N61 hq62 => ?_)
        obtain ⟨hk66, v65, rfl⟩ := hq62
        have hn64 : zMod B [(5, 7)] M N61 := hn4.call hk66 (by decide)
        show zW l m_Group_gather (zn M + 0, zw M + 0) N61 18 [some (.ref q), some (.int u1), some (.int u2), none, none] [.int v65, .int u1] (zqZ B M [(5, 7)])
        refine zw_ior (pc := 18) d_Group_gather_18 ?_
        refine zw_istore_n (pc := 19) (i := 1) (L2 := [some (.ref q), some (.int (u1 ||| v65)), some (.int u2), none, none]) rfl (by decide) rfl d_Group_gather_19 ?_
        refine zw_iinc (pc := 20) (i := 2) (x := u2) (v := u2 + Int32.ofInt 1) (L2 := [some (.ref q), some (.int (u1 ||| v65)), some (.int (u2 + Int32.ofInt 1)), none, none]) rfl rfl (by decide) rfl d_Group_gather_20 ?_
        refine zw_goto (pc := 23) (tgt := 4) (by decide) d_Group_gather_23 ?_
        exact ih_4 (u1 ||| v65) (u2 + Int32.ofInt 1) N61 hn64 (Nat.lt_of_lt_of_le (z_up hc_9) (Nat.le_of_lt_succ hlt_4))
  exact lp_4 _ 0 0 M hm (Nat.lt_succ_self _)
set_option maxHeartbeats 4000000 in
theorem c_Group_begin (l : Launch) (B : Nat) (M : zMem) (hT : zTy B M) (q : Nat) (hqB : q < B) (hqk : (zsh M q).1 = 5 + 3) (x0 : Int32) : zC l m_Group_begin 0 0 [.ref q, .int x0] M (zqV B M [(5, 5), (5, 6), (5, 7)]) := by
  refine zC_of (L0 := [some (.ref q), some (.int x0)]) md_Group_begin (Nat.le_of_ble_eq_true rfl) rfl ?_ zQ0
  have hm : zMod B [(5, 5), (5, 6), (5, 7)] M M := zMod.rf
  refine zw_aload_n (pc := 0) (n := 0) (x := q) rfl d_Group_begin_0 ?_
  refine zw_iload_n (pc := 1) (n := 1) (x := x0) rfl d_Group_begin_1 ?_
  refine zc_putI hm (pc := 2) f_Group_32 rfl rfl hqk hqB (by decide) rfl rfl d_Group_begin_2 (fun N1 hN1 hn2 => ?_)
  refine zw_aload_n (pc := 5) (n := 0) (x := q) rfl d_Group_begin_5 ?_
  refine zw_iconst (pc := 6) (v := 0) (by decide) d_Group_begin_6 ?_
  refine zc_putI hn2 (pc := 7) f_Group_36 rfl rfl hqk hqB (by decide) rfl rfl d_Group_begin_7 (fun N3 hN3 hn4 => ?_)
  refine zw_aload_n (pc := 10) (n := 0) (x := q) rfl d_Group_begin_10 ?_
  refine zw_iconst (pc := 11) (v := 0) (by decide) d_Group_begin_11 ?_
  refine zc_putI hn4 (pc := 12) f_Group_39 rfl rfl hqk hqB (by decide) rfl rfl d_Group_begin_12 (fun N5 hN5 hn6 => ?_)
  refine zw_aload_n (pc := 15) (n := 0) (x := q) rfl d_Group_begin_15 ?_
  refine zc_callV hn6 (pc := 16) [] [] l_Group_42 (c_Group_gather l B N5 (hT.mod hn6) q hqB (hn6.k hqk)) rfl rfl hqk (by decide) (by decide) (Nat.le_of_ble_eq_true rfl) d_Group_begin_16 (fun r9 N7 hq8 => ?_)
  obtain ⟨hk12, v11, rfl, zv11⟩ := hq8
  have hn10 : zMod B [(5, 5), (5, 6), (5, 7)] M N7 := hn6.call hk12 (by decide)
  show zW l m_Group_begin (zn M + 0, zw M + 0) N7 19 [some (.ref q), some (.int x0)] [.int v11] (zqV B M [(5, 5), (5, 6), (5, 7)])
  refine zw_pop (pc := 19) rfl d_Group_begin_19 ?_
  exact zw_vret (S := []) (pc := 20) rfl d_Group_begin_20 ⟨hn10, rfl⟩
set_option maxHeartbeats 4000000 in
theorem c_Troupe_begin (l : Launch) (B : Nat) (M : zMem) (hT : zTy B M) (q : Nat) (hqB : q < B) (hqk : (zsh M q).1 = 4 + 3) (x0 : Int32) : zC l m_Troupe_begin 0 0 [.ref q, .int x0] M (zqV B M [(4, 6), (4, 7), (4, 8), (5, 5), (5, 6), (5, 7)]) := by
  refine zC_of (L0 := [some (.ref q), some (.int x0)]) md_Troupe_begin (Nat.le_of_ble_eq_true rfl) rfl ?_ zQ0
  have hm : zMod B [(4, 6), (4, 7), (4, 8), (5, 5), (5, 6), (5, 7)] M M := zMod.rf
  refine zw_aload_n (pc := 0) (n := 0) (x := q) rfl d_Troupe_begin_0 ?_
  obtain ⟨r1, r1f, r1B, r1k⟩ := hT.1 q 4 0 hqB hqk (by decide) (by decide) rfl
  refine zc_getF hm (pc := 1) f_Troupe_12 rfl hqk r1f d_Troupe_begin_1 ?_
  refine zw_iload_n (pc := 4) (n := 1) (x := x0) rfl d_Troupe_begin_4 ?_
  refine zc_callV hm (pc := 5) [.int x0] [] l_Troupe_61 (c_Group_begin l B M (hT.mod hm) r1 r1B (hm.k r1k) x0) rfl rfl r1k (by decide) (by decide) (Nat.le_of_ble_eq_true rfl) d_Troupe_begin_5 (fun r4 N2 hq3 => ?_)
  obtain ⟨hk7, rfl⟩ := hq3
  have hn5 : zMod B [(4, 6), (4, 7), (4, 8), (5, 5), (5, 6), (5, 7)] M N2 := hm.call hk7 (by decide)
  show zW l m_Troupe_begin (zn M + 0, zw M + 0) N2 8 [some (.ref q), some (.int x0)] [] (zqV B M [(4, 6), (4, 7), (4, 8), (5, 5), (5, 6), (5, 7)])
  refine zw_aload_n (pc := 8) (n := 0) (x := q) rfl d_Troupe_begin_8 ?_
  refine zw_iconst (pc := 9) (v := 0) (by decide) d_Troupe_begin_9 ?_
  refine zc_putI hn5 (pc := 10) f_Troupe_64 rfl rfl hqk hqB (by decide) rfl rfl d_Troupe_begin_10 (fun N9 hN9 hn10 => ?_)
  refine zw_aload_n (pc := 13) (n := 0) (x := q) rfl d_Troupe_begin_13 ?_
  refine zw_iconst (pc := 14) (v := 0) (by decide) d_Troupe_begin_14 ?_
  refine zc_putI hn10 (pc := 15) f_Troupe_68 rfl rfl hqk hqB (by decide) rfl rfl d_Troupe_begin_15 (fun N11 hN11 hn12 => ?_)
  refine zw_aload_n (pc := 18) (n := 0) (x := q) rfl d_Troupe_begin_18 ?_
  refine zw_iconst (pc := 19) (v := 0) (by decide) d_Troupe_begin_19 ?_
  refine zc_putI hn12 (pc := 20) f_Troupe_71 rfl rfl hqk hqB (by decide) rfl rfl d_Troupe_begin_20 (fun N13 hN13 hn14 => ?_)
  exact zw_vret (S := []) (pc := 23) rfl d_Troupe_begin_23 ⟨hn14, rfl⟩
set_option maxHeartbeats 4000000 in
theorem c_Group_settle (l : Launch) (B : Nat) (M : zMem) (hT : zTy B M) (q : Nat) (hqB : q < B) (hqk : (zsh M q).1 = 5 + 3) : zC l m_Group_settle 0 0 [.ref q] M (zqV B M []) := by
  refine zC_of (L0 := [some (.ref q), none, none, none]) md_Group_settle (Nat.le_of_ble_eq_true rfl) rfl ?_ zQ0
  have hm : zMod B [] M M := zMod.rf
  refine zw_iconst (pc := 0) (v := 1) (by decide) d_Group_settle_0 ?_
  refine zw_istore_n (pc := 1) (i := 1) (L2 := [some (.ref q), some (.int 1), none, none]) rfl (by decide) rfl d_Group_settle_1 ?_
  have lp_2 : ∀ (n : Nat) (u1 : Int32) (N2 : zMem) (hn3 : zMod B [] M N2), zvu u1 (zi M q 7) < n → zW l m_Group_settle (zn M + 0, zw M + 0) N2 2 [some (.ref q), some (.int u1), none, none] [] (zqV B M []) := by
    intro n
    induction n with
    | zero =>
      intro u1 N2 hn3 h0
      exact absurd h0 (Nat.not_lt_zero _)
    | succ n ih_2 =>
      intro u1 N2 hn3 hlt_2
      refine zw_iload_n (pc := 2) (n := 1) (x := u1) rfl d_Group_settle_2 ?_
      refine zw_aload_n (pc := 3) (n := 0) (x := q) rfl d_Group_settle_3 ?_
      refine zc_getI0 hn3 (pc := 4) (by decide) f_Group_39 rfl hqk d_Group_settle_4 ?_
      refine zw_icmp_ge (pc := 7) (tgt := 78) (by decide) d_Group_settle_7 (fun hc_7 => ?_) (fun hc_7 => ?_)
      · refine zw_iconst (pc := 78) (v := 0) (by decide) d_Group_settle_78 ?_
        refine zw_istore_n (pc := 79) (i := 1) (L2 := [some (.ref q), some (.int 0), none, none]) rfl (by decide) rfl d_Group_settle_79 ?_
        have lp_80 : ∀ (n : Nat) (u4 : Int32) (N5 : zMem) (hn6 : zMod B [] M N5), zvu u4 (zi M q 7) < n → zW l m_Group_settle (zn M + 0, zw M + 0) N5 80 [some (.ref q), some (.int u4), none, none] [] (zqV B M []) := by
          intro n
          induction n with
          | zero =>
            intro u4 N5 hn6 h0
            exact absurd h0 (Nat.not_lt_zero _)
          | succ n ih_80 =>
            intro u4 N5 hn6 hlt_80
            refine zw_iload_n (pc := 80) (n := 1) (x := u4) rfl d_Group_settle_80 ?_
            refine zw_aload_n (pc := 81) (n := 0) (x := q) rfl d_Group_settle_81 ?_
            refine zc_getI0 hn6 (pc := 82) (by decide) f_Group_39 rfl hqk d_Group_settle_82 ?_
            refine zw_icmp_ge (pc := 85) (tgt := 162) (by decide) d_Group_settle_85 (fun hc_85 => ?_) (fun hc_85 => ?_)
            · exact zw_vret (S := []) (pc := 162) rfl d_Group_settle_162 ⟨hn6, rfl⟩
            · refine zw_iconst (pc := 88) (v := 0) (by decide) d_Group_settle_88 ?_
              refine zw_istore_n (pc := 89) (i := 2) (L2 := [some (.ref q), some (.int u4), some (.int 0), none]) rfl (by decide) rfl d_Group_settle_89 ?_
              have lp_90 : ∀ (n : Nat) (u7 : Int32) (N8 : zMem) (hn9 : zMod B [] M N8), zvu u7 (zi M q 7) < n → zW l m_Group_settle (zn M + 0, zw M + 0) N8 90 [some (.ref q), some (.int u4), some (.int u7), none] [] (zqV B M []) := by
                intro n
                induction n with
                | zero =>
                  intro u7 N8 hn9 h0
                  exact absurd h0 (Nat.not_lt_zero _)
                | succ n ih_90 =>
                  intro u7 N8 hn9 hlt_90
                  refine zw_iload_n (pc := 90) (n := 2) (x := u7) rfl d_Group_settle_90 ?_
                  refine zw_aload_n (pc := 91) (n := 0) (x := q) rfl d_Group_settle_91 ?_
                  refine zc_getI0 hn9 (pc := 92) (by decide) f_Group_39 rfl hqk d_Group_settle_92 ?_
                  refine zw_icmp_ge (pc := 95) (tgt := 156) (by decide) d_Group_settle_95 (fun hc_95 => ?_) (fun hc_95 => ?_)
                  · refine zw_iinc (pc := 156) (i := 1) (x := u4) (v := u4 + Int32.ofInt 1) (L2 := [some (.ref q), some (.int (u4 + Int32.ofInt 1)), some (.int u7), none]) rfl rfl (by decide) rfl d_Group_settle_156 ?_
                    refine zw_goto (pc := 159) (tgt := 80) (by decide) d_Group_settle_159 ?_
                    refine zW_le [some (.ref q), some (.int (u4 + Int32.ofInt 1)), none, none] (⟨rfl, rfl, trivial⟩) ?_
                    exact ih_80 (u4 + Int32.ofInt 1) N8 hn9 (Nat.lt_of_lt_of_le (z_up hc_85) (Nat.le_of_lt_succ hlt_80))
                  · refine zw_aload_n (pc := 98) (n := 0) (x := q) rfl d_Group_settle_98 ?_
                    refine zw_aload_n (pc := 99) (n := 0) (x := q) rfl d_Group_settle_99 ?_
                    refine zw_aload_n (pc := 100) (n := 0) (x := q) rfl d_Group_settle_100 ?_
                    obtain ⟨r10, r10f, r10B, r10k⟩ := hT.1 q 5 1 hqB hqk (by decide) (by decide) rfl
                    refine zc_getF hn9 (pc := 101) f_Group_20 rfl hqk r10f d_Group_settle_101 ?_
                    refine zw_iload_n (pc := 104) (n := 1) (x := u4) rfl d_Group_settle_104 ?_
                    refine zc_callV hn9 (pc := 105) [.int u4] [.ref q, .ref q] l_Group_54 (c_IntRow_at l B N8 (hT.mod hn9) r10 r10B (hn9.k r10k) u4) rfl rfl r10k (by decide) (by decide) (Nat.le_of_ble_eq_true rfl) d_Group_settle_105 (fun r13 N11 hq12 => ?_)
                    obtain ⟨hk16, v15, rfl⟩ := hq12
                    have hn14 : zMod B [] M N11 := hn9.call hk16 (by decide)
                    show zW l m_Group_settle (zn M + 0, zw M + 0) N11 108 [some (.ref q), some (.int u4), some (.int u7), none] [.int v15, .ref q, .ref q] (zqV B M [])
                    refine zw_aload_n (pc := 108) (n := 0) (x := q) rfl d_Group_settle_108 ?_
                    refine zc_getF hn14 (pc := 109) f_Group_20 rfl hqk r10f d_Group_settle_109 ?_
                    refine zw_iload_n (pc := 112) (n := 2) (x := u7) rfl d_Group_settle_112 ?_
                    refine zc_callV hn14 (pc := 113) [.int u7] [.int v15, .ref q, .ref q] l_Group_54 (c_IntRow_at l B N11 (hT.mod hn14) r10 r10B (hn14.k r10k) u7) rfl rfl r10k (by decide) (by decide) (Nat.le_of_ble_eq_true rfl) d_Group_settle_113 (fun r20 N18 hq19 => ?_)
                    obtain ⟨hk23, v22, rfl⟩ := hq19
                    have hn21 : zMod B [] M N18 := hn14.call hk23 (by decide)
                    show zW l m_Group_settle (zn M + 0, zw M + 0) N18 116 [some (.ref q), some (.int u4), some (.int u7), none] [.int v22, .int v15, .ref q, .ref q] (zqV B M [])
                    refine zc_callV hn21 (pc := 116) [.int v15, .int v22] [.ref q] l_Group_58 (c_Group_behind l B N18 (hT.mod hn21) q hqB (hn21.k hqk) v15 v22) rfl rfl hqk (by decide) (by decide) (Nat.le_of_ble_eq_true rfl) d_Group_settle_116 (fun r27 N25 hq26 => ?_)
                    obtain ⟨hk30, v29, rfl⟩ := hq26
                    have hn28 : zMod B [] M N25 := hn21.call hk30 (by decide)
                    show zW l m_Group_settle (zn M + 0, zw M + 0) N25 119 [some (.ref q), some (.int u4), some (.int u7), none] [.int v29, .ref q] (zqV B M [])
                    refine zc_callV hn28 (pc := 119) [.int v29] [] l_Group_61 (c_Group_indexOf l B N25 (hT.mod hn28) q hqB (hn28.k hqk) v29) rfl rfl hqk (by decide) (by decide) (Nat.le_of_ble_eq_true rfl) d_Group_settle_119 (fun r34 N32 hq33 => ?_)
                    obtain ⟨hk37, v36, rfl⟩ := hq33
                    have hn35 : zMod B [] M N32 := hn28.call hk37 (by decide)
                    show zW l m_Group_settle (zn M + 0, zw M + 0) N32 122 [some (.ref q), some (.int u4), some (.int u7), none] [.int v36] (zqV B M [])
                    refine zw_istore_n (pc := 122) (i := 3) (L2 := [some (.ref q), some (.int u4), some (.int u7), some (.int v36)]) rfl (by decide) rfl d_Group_settle_122 ?_
                    refine zw_aload_n (pc := 123) (n := 0) (x := q) rfl d_Group_settle_123 ?_
                    obtain ⟨r39, r39f, r39B, r39k⟩ := hT.1 q 5 2 hqB hqk (by decide) (by decide) rfl
                    refine zc_getF hn35 (pc := 124) f_Group_23 rfl hqk r39f d_Group_settle_124 ?_
                    refine zw_iload_n (pc := 127) (n := 1) (x := u4) rfl d_Group_settle_127 ?_
                    refine zw_bipush (pc := 128) (v := 24) (by decide) d_Group_settle_128 ?_
                    refine zw_imul (pc := 130) d_Group_settle_130 ?_
                    refine zw_iload_n (pc := 131) (n := 2) (x := u7) rfl d_Group_settle_131 ?_
                    refine zw_iadd (pc := 132) d_Group_settle_132 ?_
                    refine zw_iload_n (pc := 133) (n := 3) (x := v36) rfl d_Group_settle_133 ?_
                    refine zc_callV hn35 (pc := 134) [.int ((u4 * 24) + u7), .int v36] [] l_Group_46 (c_IntRow_put l B N32 (hT.mod hn35) r39 r39B (hn35.k r39k) ((u4 * 24) + u7) v36) rfl rfl r39k (by decide) (by decide) (Nat.le_of_ble_eq_true rfl) d_Group_settle_134 (fun r42 N40 hq41 => ?_)
                    obtain ⟨hk45, rfl⟩ := hq41
                    have hn43 : zMod B [] M N40 := hn35.call hk45 (by decide)
                    show zW l m_Group_settle (zn M + 0, zw M + 0) N40 137 [some (.ref q), some (.int u4), some (.int u7), some (.int v36)] [] (zqV B M [])
                    refine zw_iload_n (pc := 137) (n := 3) (x := v36) rfl d_Group_settle_137 ?_
                    have j_150 : ∀ (N47 : zMem) (hn48 : zMod B [] M N47), zW l m_Group_settle (zn M + 0, zw M + 0) N47 150 [some (.ref q), some (.int u4), some (.int u7), some (.int v36)] [] (zqV B M []) := by
                      intro N47 hn48
                      refine zw_iinc (pc := 150) (i := 2) (x := u7) (v := u7 + Int32.ofInt 1) (L2 := [some (.ref q), some (.int u4), some (.int (u7 + Int32.ofInt 1)), some (.int v36)]) rfl rfl (by decide) rfl d_Group_settle_150 ?_
                      refine zw_goto (pc := 153) (tgt := 90) (by decide) d_Group_settle_153 ?_
                      refine zW_le [some (.ref q), some (.int u4), some (.int (u7 + Int32.ofInt 1)), none] (⟨rfl, rfl, rfl, trivial⟩) ?_
                      exact ih_90 (u7 + Int32.ofInt 1) N47 hn48 (Nat.lt_of_lt_of_le (z_up hc_95) (Nat.le_of_lt_succ hlt_90))
                    refine zw_if_ne (pc := 138) (tgt := 150) (by decide) d_Group_settle_138 (fun hc_138 => ?_) (fun hc_138 => ?_)
                    · exact j_150 N40 hn43
                    · refine zw_aload_n (pc := 141) (n := 0) (x := q) rfl d_Group_settle_141 ?_
                      obtain ⟨r49, r49f, r49B, r49k⟩ := hT.1 q 5 3 hqB hqk (by decide) (by decide) rfl
                      refine zc_getF hn43 (pc := 142) f_Group_26 rfl hqk r49f d_Group_settle_142 ?_
                      refine zw_iload_n (pc := 145) (n := 1) (x := u4) rfl d_Group_settle_145 ?_
                      refine zw_iload_n (pc := 146) (n := 2) (x := u7) rfl d_Group_settle_146 ?_
                      refine zc_callV hn43 (pc := 147) [.int u4, .int u7] [] l_Group_46 (c_IntRow_put l B N40 (hT.mod hn43) r49 r49B (hn43.k r49k) u4 u7) rfl rfl r49k (by decide) (by decide) (Nat.le_of_ble_eq_true rfl) d_Group_settle_147 (fun r52 N50 hq51 => ?_)
                      obtain ⟨hk55, rfl⟩ := hq51
                      have hn53 : zMod B [] M N50 := hn43.call hk55 (by decide)
                      show zW l m_Group_settle (zn M + 0, zw M + 0) N50 150 [some (.ref q), some (.int u4), some (.int u7), some (.int v36)] [] (zqV B M [])
                      exact j_150 N50 hn53
              exact lp_90 _ 0 N5 hn6 (Nat.lt_succ_self _)
        exact lp_80 _ 0 N2 hn3 (Nat.lt_succ_self _)
      · refine zw_aload_n (pc := 10) (n := 0) (x := q) rfl d_Group_settle_10 ?_
        obtain ⟨r57, r57f, r57B, r57k⟩ := hT.1 q 5 1 hqB hqk (by decide) (by decide) rfl
        refine zc_getF hn3 (pc := 11) f_Group_20 rfl hqk r57f d_Group_settle_11 ?_
        refine zw_iload_n (pc := 14) (n := 1) (x := u1) rfl d_Group_settle_14 ?_
        refine zc_callV hn3 (pc := 15) [.int u1] [] l_Group_54 (c_IntRow_at l B N2 (hT.mod hn3) r57 r57B (hn3.k r57k) u1) rfl rfl r57k (by decide) (by decide) (Nat.le_of_ble_eq_true rfl) d_Group_settle_15 (fun r60 N58 hq59 => ?_)
        obtain ⟨hk63, v62, rfl⟩ := hq59
        have hn61 : zMod B [] M N58 := hn3.call hk63 (by decide)
        show zW l m_Group_settle (zn M + 0, zw M + 0) N58 18 [some (.ref q), some (.int u1), none, none] [.int v62] (zqV B M [])
        refine zw_istore_n (pc := 18) (i := 2) (L2 := [some (.ref q), some (.int u1), some (.int v62), none]) rfl (by decide) rfl d_Group_settle_18 ?_
        refine zw_iload_n (pc := 19) (n := 1) (x := u1) rfl d_Group_settle_19 ?_
        refine zw_istore_n (pc := 20) (i := 3) (L2 := [some (.ref q), some (.int u1), some (.int v62), some (.int u1)]) rfl (by decide) rfl d_Group_settle_20 ?_
        have lp_21 : ∀ (n : Nat) (u65 : Int32) (N66 : zMem) (hn67 : zMod B [] M N66), zvd u65 < n → zW l m_Group_settle (zn M + 0, zw M + 0) N66 21 [some (.ref q), some (.int u1), some (.int v62), some (.int u65)] [] (zqV B M []) := by
          intro n
          induction n with
          | zero =>
            intro u65 N66 hn67 h0
            exact absurd h0 (Nat.not_lt_zero _)
          | succ n ih_21 =>
            intro u65 N66 hn67 hlt_21
            refine zw_iload_n (pc := 21) (n := 3) (x := u65) rfl d_Group_settle_21 ?_
            have j_63 : ∀ (N68 : zMem) (hn69 : zMod B [] M N68), zW l m_Group_settle (zn M + 0, zw M + 0) N68 63 [some (.ref q), some (.int u1), some (.int v62), some (.int u65)] [] (zqV B M []) := by
              intro N68 hn69
              refine zw_aload_n (pc := 63) (n := 0) (x := q) rfl d_Group_settle_63 ?_
              refine zc_getF hn69 (pc := 64) f_Group_20 rfl hqk r57f d_Group_settle_64 ?_
              refine zw_iload_n (pc := 67) (n := 3) (x := u65) rfl d_Group_settle_67 ?_
              refine zw_iload_n (pc := 68) (n := 2) (x := v62) rfl d_Group_settle_68 ?_
              refine zc_callV hn69 (pc := 69) [.int u65, .int v62] [] l_Group_46 (c_IntRow_put l B N68 (hT.mod hn69) r57 r57B (hn69.k r57k) u65 v62) rfl rfl r57k (by decide) (by decide) (Nat.le_of_ble_eq_true rfl) d_Group_settle_69 (fun r72 N70 hq71 => ?_)
              obtain ⟨hk75, rfl⟩ := hq71
              have hn73 : zMod B [] M N70 := hn69.call hk75 (by decide)
              show zW l m_Group_settle (zn M + 0, zw M + 0) N70 72 [some (.ref q), some (.int u1), some (.int v62), some (.int u65)] [] (zqV B M [])
              refine zw_iinc (pc := 72) (i := 1) (x := u1) (v := u1 + Int32.ofInt 1) (L2 := [some (.ref q), some (.int (u1 + Int32.ofInt 1)), some (.int v62), some (.int u65)]) rfl rfl (by decide) rfl d_Group_settle_72 ?_
              refine zw_goto (pc := 75) (tgt := 2) (by decide) d_Group_settle_75 ?_
              refine zW_le [some (.ref q), some (.int (u1 + Int32.ofInt 1)), none, none] (⟨rfl, rfl, trivial⟩) ?_
              exact ih_2 (u1 + Int32.ofInt 1) N70 hn73 (Nat.lt_of_lt_of_le (z_up hc_7) (Nat.le_of_lt_succ hlt_2))
            refine zw_if_le (pc := 22) (tgt := 63) (by decide) d_Group_settle_22 (fun hc_22 => ?_) (fun hc_22 => ?_)
            · exact j_63 N66 hn67
            · refine zw_aload_n (pc := 25) (n := 0) (x := q) rfl d_Group_settle_25 ?_
              refine zc_getF hn67 (pc := 26) f_Group_20 rfl hqk r57f d_Group_settle_26 ?_
              refine zw_iload_n (pc := 29) (n := 3) (x := u65) rfl d_Group_settle_29 ?_
              refine zw_iconst (pc := 30) (v := 1) (by decide) d_Group_settle_30 ?_
              refine zw_isub (pc := 31) d_Group_settle_31 ?_
              refine zc_callV hn67 (pc := 32) [.int (u65 - 1)] [] l_Group_54 (c_IntRow_at l B N66 (hT.mod hn67) r57 r57B (hn67.k r57k) (u65 - 1)) rfl rfl r57k (by decide) (by decide) (Nat.le_of_ble_eq_true rfl) d_Group_settle_32 (fun r79 N77 hq78 => ?_)
              obtain ⟨hk82, v81, rfl⟩ := hq78
              have hn80 : zMod B [] M N77 := hn67.call hk82 (by decide)
              show zW l m_Group_settle (zn M + 0, zw M + 0) N77 35 [some (.ref q), some (.int u1), some (.int v62), some (.int u65)] [.int v81] (zqV B M [])
              refine zw_iload_n (pc := 35) (n := 2) (x := v62) rfl d_Group_settle_35 ?_
              refine zw_icmp_le (pc := 36) (tgt := 63) (by decide) d_Group_settle_36 (fun hc_36 => ?_) (fun hc_36 => ?_)
              · exact j_63 N77 hn80
              · refine zw_aload_n (pc := 39) (n := 0) (x := q) rfl d_Group_settle_39 ?_
                refine zc_getF hn80 (pc := 40) f_Group_20 rfl hqk r57f d_Group_settle_40 ?_
                refine zw_iload_n (pc := 43) (n := 3) (x := u65) rfl d_Group_settle_43 ?_
                refine zw_aload_n (pc := 44) (n := 0) (x := q) rfl d_Group_settle_44 ?_
                refine zc_getF hn80 (pc := 45) f_Group_20 rfl hqk r57f d_Group_settle_45 ?_
                refine zw_iload_n (pc := 48) (n := 3) (x := u65) rfl d_Group_settle_48 ?_
                refine zw_iconst (pc := 49) (v := 1) (by decide) d_Group_settle_49 ?_
                refine zw_isub (pc := 50) d_Group_settle_50 ?_
                refine zc_callV hn80 (pc := 51) [.int (u65 - 1)] [.int u65, .ref r57] l_Group_54 (c_IntRow_at l B N77 (hT.mod hn80) r57 r57B (hn80.k r57k) (u65 - 1)) rfl rfl r57k (by decide) (by decide) (Nat.le_of_ble_eq_true rfl) d_Group_settle_51 (fun r86 N84 hq85 => ?_)
                obtain ⟨hk89, v88, rfl⟩ := hq85
                have hn87 : zMod B [] M N84 := hn80.call hk89 (by decide)
                show zW l m_Group_settle (zn M + 0, zw M + 0) N84 54 [some (.ref q), some (.int u1), some (.int v62), some (.int u65)] [.int v88, .int u65, .ref r57] (zqV B M [])
                refine zc_callV hn87 (pc := 54) [.int u65, .int v88] [] l_Group_46 (c_IntRow_put l B N84 (hT.mod hn87) r57 r57B (hn87.k r57k) u65 v88) rfl rfl r57k (by decide) (by decide) (Nat.le_of_ble_eq_true rfl) d_Group_settle_54 (fun r93 N91 hq92 => ?_)
                obtain ⟨hk96, rfl⟩ := hq92
                have hn94 : zMod B [] M N91 := hn87.call hk96 (by decide)
                show zW l m_Group_settle (zn M + 0, zw M + 0) N91 57 [some (.ref q), some (.int u1), some (.int v62), some (.int u65)] [] (zqV B M [])
                refine zw_iinc (pc := 57) (i := 3) (x := u65) (v := u65 + Int32.ofInt (-1)) (L2 := [some (.ref q), some (.int u1), some (.int v62), some (.int (u65 + Int32.ofInt (-1)))]) rfl rfl (by decide) rfl d_Group_settle_57 ?_
                refine zw_goto (pc := 60) (tgt := 21) (by decide) d_Group_settle_60 ?_
                exact ih_21 (u65 + Int32.ofInt (-1)) N91 hn94 (Nat.lt_of_lt_of_le (z_dn hc_22) (Nat.le_of_lt_succ hlt_21))
        exact lp_21 _ u1 N58 hn61 (Nat.lt_succ_self _)
  exact lp_2 _ 1 M hm (Nat.lt_succ_self _)
set_option maxHeartbeats 4000000 in
theorem c_T_isIn (l : Launch) (B : Nat) (M : zMem) (hT : zTy B M) (x0 : Int32) (x1 : Int32) : zC l m_T_isIn 0 0 [.int x0, .int x1] M (zqZ B M []) := by
  refine zC_of (L0 := [some (.int x0), some (.int x1)]) md_T_isIn (Nat.le_of_ble_eq_true rfl) rfl ?_ zQ0
  have hm : zMod B [] M M := zMod.rf
  refine zw_iload_n (pc := 0) (n := 0) (x := x0) rfl d_T_isIn_0 ?_
  refine zw_iload_n (pc := 1) (n := 1) (x := x1) rfl d_T_isIn_1 ?_
  refine zw_ishr (pc := 2) d_T_isIn_2 ?_
  refine zw_iconst (pc := 3) (v := 1) (by decide) d_T_isIn_3 ?_
  refine zw_iand (pc := 4) d_T_isIn_4 ?_
  refine zw_if_eq (pc := 5) (tgt := 12) (by decide) d_T_isIn_5 (fun hc_5 => ?_) (fun hc_5 => ?_)
  · refine zw_iconst (pc := 12) (v := 0) (by decide) d_T_isIn_12 ?_
    exact zw_iret (S := []) (pc := 13) (ty := .boolean) rfl (z_narZ (Or.inl rfl)) d_T_isIn_13 ⟨hm, _, rfl, Or.inl rfl⟩
  · refine zw_iconst (pc := 8) (v := 1) (by decide) d_T_isIn_8 ?_
    refine zw_goto (pc := 9) (tgt := 13) (by decide) d_T_isIn_9 ?_
    exact zw_iret (S := []) (pc := 13) (ty := .boolean) rfl (z_narZ (Or.inr rfl)) d_T_isIn_13 ⟨hm, _, rfl, Or.inr rfl⟩
set_option maxHeartbeats 4000000 in
theorem c_Group_both (l : Launch) (B : Nat) (M : zMem) (hT : zTy B M) (q : Nat) (hqB : q < B) (hqk : (zsh M q).1 = 5 + 3) (x0 : Int32) (x1 : Int32) : zC l m_Group_both 0 0 [.ref q, .int x0, .int x1] M (zqI B M []) := by
  refine zC_of (L0 := [some (.ref q), some (.int x0), some (.int x1)]) md_Group_both (Nat.le_of_ble_eq_true rfl) rfl ?_ zQ0
  have hm : zMod B [] M M := zMod.rf
  refine zw_aload_n (pc := 0) (n := 0) (x := q) rfl d_Group_both_0 ?_
  obtain ⟨r1, r1f, r1B, r1k⟩ := hT.1 q 5 2 hqB hqk (by decide) (by decide) rfl
  refine zc_getF hm (pc := 1) f_Group_23 rfl hqk r1f d_Group_both_1 ?_
  refine zw_iload_n (pc := 4) (n := 1) (x := x0) rfl d_Group_both_4 ?_
  refine zw_bipush (pc := 5) (v := 24) (by decide) d_Group_both_5 ?_
  refine zw_imul (pc := 7) d_Group_both_7 ?_
  refine zw_iload_n (pc := 8) (n := 2) (x := x1) rfl d_Group_both_8 ?_
  refine zw_iadd (pc := 9) d_Group_both_9 ?_
  refine zc_callV hm (pc := 10) [.int ((x0 * 24) + x1)] [] l_Group_54 (c_IntRow_at l B M (hT.mod hm) r1 r1B (hm.k r1k) ((x0 * 24) + x1)) rfl rfl r1k (by decide) (by decide) (Nat.le_of_ble_eq_true rfl) d_Group_both_10 (fun r4 N2 hq3 => ?_)
  obtain ⟨hk7, v6, rfl⟩ := hq3
  have hn5 : zMod B [] M N2 := hm.call hk7 (by decide)
  show zW l m_Group_both (zn M + 0, zw M + 0) N2 13 [some (.ref q), some (.int x0), some (.int x1)] [.int v6] (zqI B M [])
  exact zw_iret (S := []) (pc := 13) (ty := .int) rfl rfl d_Group_both_13 ⟨hn5, _, rfl⟩
set_option maxHeartbeats 4000000 in
theorem c_Group_spanOf (l : Launch) (B : Nat) (M : zMem) (hT : zTy B M) (q : Nat) (hqB : q < B) (hqk : (zsh M q).1 = 5 + 3) (x0 : Int32) : zC l m_Group_spanOf 0 0 [.ref q, .int x0] M (zqI B M []) := by
  refine zC_of (L0 := [some (.ref q), some (.int x0), none, none, none, none, none]) md_Group_spanOf (Nat.le_of_ble_eq_true rfl) rfl ?_ zQ0
  have hm : zMod B [] M M := zMod.rf
  refine zw_iconst (pc := 0) (v := 1) (by decide) d_Group_spanOf_0 ?_
  refine zw_istore_n (pc := 1) (i := 2) (L2 := [some (.ref q), some (.int x0), some (.int 1), none, none, none, none]) rfl (by decide) rfl d_Group_spanOf_1 ?_
  refine zw_iconst (pc := 2) (v := 1) (by decide) d_Group_spanOf_2 ?_
  refine zw_istore_n (pc := 3) (i := 3) (L2 := [some (.ref q), some (.int x0), some (.int 1), some (.int 1), none, none, none]) rfl (by decide) rfl d_Group_spanOf_3 ?_
  refine zw_aload_n (pc := 4) (n := 0) (x := q) rfl d_Group_spanOf_4 ?_
  obtain ⟨r1, r1f, r1B, r1k⟩ := hT.1 q 5 4 hqB hqk (by decide) (by decide) rfl
  refine zc_getF hm (pc := 5) f_Group_29 rfl hqk r1f d_Group_spanOf_5 ?_
  refine zw_iconst (pc := 8) (v := 0) (by decide) d_Group_spanOf_8 ?_
  refine zw_iconst (pc := 9) (v := 0) (by decide) d_Group_spanOf_9 ?_
  refine zc_callV hm (pc := 10) [.int 0, .int 0] [] l_Group_46 (c_IntRow_put l B M (hT.mod hm) r1 r1B (hm.k r1k) 0 0) rfl rfl r1k (by decide) (by decide) (Nat.le_of_ble_eq_true rfl) d_Group_spanOf_10 (fun r4 N2 hq3 => ?_)
  obtain ⟨hk7, rfl⟩ := hq3
  have hn5 : zMod B [] M N2 := hm.call hk7 (by decide)
  show zW l m_Group_spanOf (zn M + 0, zw M + 0) N2 13 [some (.ref q), some (.int x0), some (.int 1), some (.int 1), none, none, none] [] (zqI B M [])
  refine zw_iconst (pc := 13) (v := 0) (by decide) d_Group_spanOf_13 ?_
  refine zw_istore (pc := 14) (i := 4) (L2 := [some (.ref q), some (.int x0), some (.int 1), some (.int 1), some (.int 0), none, none]) (by decide) rfl d_Group_spanOf_14 ?_
  have lp_16 : ∀ (n : Nat) (u9 : Int32) (u10 : Int32) (u11 : Int32) (N12 : zMem) (hn13 : zMod B [] M N12), zvu u11 24 < n → zW l m_Group_spanOf (zn M + 0, zw M + 0) N12 16 [some (.ref q), some (.int x0), some (.int u9), some (.int u10), some (.int u11), none, none] [] (zqI B M []) := by
    intro n
    induction n with
    | zero =>
      intro u9 u10 u11 N12 hn13 h0
      exact absurd h0 (Nat.not_lt_zero _)
    | succ n ih_16 =>
      intro u9 u10 u11 N12 hn13 hlt_16
      refine zw_iload (pc := 16) (i := 4) (x := u11) rfl d_Group_spanOf_16 ?_
      refine zw_iload_n (pc := 18) (n := 3) (x := u10) rfl d_Group_spanOf_18 ?_
      refine zw_icmp_ge (pc := 19) (tgt := 112) (by decide) d_Group_spanOf_19 (fun hc_19 => ?_) (fun hc_19 => ?_)
      · refine zw_iload_n (pc := 112) (n := 2) (x := u9) rfl d_Group_spanOf_112 ?_
        exact zw_iret (S := []) (pc := 113) (ty := .int) rfl rfl d_Group_spanOf_113 ⟨hn13, _, rfl⟩
      · refine zw_iload (pc := 22) (i := 4) (x := u11) rfl d_Group_spanOf_22 ?_
        refine zw_bipush (pc := 24) (v := 24) (by decide) d_Group_spanOf_24 ?_
        refine zw_icmp_ge (pc := 26) (tgt := 112) (by decide) d_Group_spanOf_26 (fun hc_26 => ?_) (fun hc_26 => ?_)
        · refine zw_iload_n (pc := 112) (n := 2) (x := u9) rfl d_Group_spanOf_112 ?_
          exact zw_iret (S := []) (pc := 113) (ty := .int) rfl rfl d_Group_spanOf_113 ⟨hn13, _, rfl⟩
        · refine zw_iconst (pc := 29) (v := 0) (by decide) d_Group_spanOf_29 ?_
          refine zw_istore (pc := 30) (i := 5) (L2 := [some (.ref q), some (.int x0), some (.int u9), some (.int u10), some (.int u11), some (.int 0), none]) (by decide) rfl d_Group_spanOf_30 ?_
          have lp_32 : ∀ (n : Nat) (u14 : Int32) (u15 : Int32) (u16 : Int32) (N17 : zMem) (hn18 : zMod B [] M N17), zvu u16 (zi M q 7) < n → zW l m_Group_spanOf (zn M + 0, zw M + 0) N17 32 [some (.ref q), some (.int x0), some (.int u14), some (.int u15), some (.int u11), some (.int u16), none] [] (zqI B M []) := by
            intro n
            induction n with
            | zero =>
              intro u14 u15 u16 N17 hn18 h0
              exact absurd h0 (Nat.not_lt_zero _)
            | succ n ih_32 =>
              intro u14 u15 u16 N17 hn18 hlt_32
              refine zw_iload (pc := 32) (i := 5) (x := u16) rfl d_Group_spanOf_32 ?_
              refine zw_aload_n (pc := 34) (n := 0) (x := q) rfl d_Group_spanOf_34 ?_
              refine zc_getI0 hn18 (pc := 35) (by decide) f_Group_39 rfl hqk d_Group_spanOf_35 ?_
              refine zw_icmp_ge (pc := 38) (tgt := 106) (by decide) d_Group_spanOf_38 (fun hc_38 => ?_) (fun hc_38 => ?_)
              · refine zw_iinc (pc := 106) (i := 4) (x := u11) (v := u11 + Int32.ofInt 1) (L2 := [some (.ref q), some (.int x0), some (.int u14), some (.int u15), some (.int (u11 + Int32.ofInt 1)), some (.int u16), none]) rfl rfl (by decide) rfl d_Group_spanOf_106 ?_
                refine zw_goto (pc := 109) (tgt := 16) (by decide) d_Group_spanOf_109 ?_
                refine zW_le [some (.ref q), some (.int x0), some (.int u14), some (.int u15), some (.int (u11 + Int32.ofInt 1)), none, none] (⟨rfl, rfl, rfl, rfl, rfl, trivial⟩) ?_
                exact ih_16 u14 u15 (u11 + Int32.ofInt 1) N17 hn18 (Nat.lt_of_lt_of_le (z_up hc_26) (Nat.le_of_lt_succ hlt_16))
              · refine zw_iload_n (pc := 41) (n := 1) (x := x0) rfl d_Group_spanOf_41 ?_
                refine zw_iload (pc := 42) (i := 5) (x := u16) rfl d_Group_spanOf_42 ?_
                refine zc_callS hn18 (pc := 44) [.int x0, .int u16] [] l_Group_73 (c_T_isIn l B N17 (hT.mod hn18) x0 u16) rfl rfl (by decide) (Nat.le_of_ble_eq_true rfl) d_Group_spanOf_44 (fun r21 N19 hq20 => ?_)
                obtain ⟨hk24, v23, rfl, zv23⟩ := hq20
                have hn22 : zMod B [] M N19 := hn18.call hk24 (by decide)
                show zW l m_Group_spanOf (zn M + 0, zw M + 0) N19 47 [some (.ref q), some (.int x0), some (.int u14), some (.int u15), some (.int u11), some (.int u16), none] [.int v23] (zqI B M [])
                have j_69 : ∀ (u26 : Int32) (N27 : zMem) (hn28 : zMod B [] M N27), zW l m_Group_spanOf (zn M + 0, zw M + 0) N27 69 [some (.ref q), some (.int x0), some (.int u14), some (.int u15), some (.int u11), some (.int u16), none] [.int u26] (zqI B M []) := by
                  intro u26 N27 hn28
                  refine zw_istore (pc := 69) (i := 6) (L2 := [some (.ref q), some (.int x0), some (.int u14), some (.int u15), some (.int u11), some (.int u16), some (.int u26)]) (by decide) rfl d_Group_spanOf_69 ?_
                  refine zw_iload_n (pc := 71) (n := 2) (x := u14) rfl d_Group_spanOf_71 ?_
                  refine zw_iload (pc := 72) (i := 6) (x := u26) rfl d_Group_spanOf_72 ?_
                  refine zc_callS hn28 (pc := 74) [.int u14, .int u26] [] l_Group_73 (c_T_isIn l B N27 (hT.mod hn28) u14 u26) rfl rfl (by decide) (Nat.le_of_ble_eq_true rfl) d_Group_spanOf_74 (fun r31 N29 hq30 => ?_)
                  obtain ⟨hk34, v33, rfl, zv33⟩ := hq30
                  have hn32 : zMod B [] M N29 := hn28.call hk34 (by decide)
                  show zW l m_Group_spanOf (zn M + 0, zw M + 0) N29 77 [some (.ref q), some (.int x0), some (.int u14), some (.int u15), some (.int u11), some (.int u16), some (.int u26)] [.int v33] (zqI B M [])
                  have j_100 : ∀ (u36 : Int32) (u37 : Int32) (N38 : zMem) (hn39 : zMod B [] M N38), zW l m_Group_spanOf (zn M + 0, zw M + 0) N38 100 [some (.ref q), some (.int x0), some (.int u36), some (.int u37), some (.int u11), some (.int u16), some (.int u26)] [] (zqI B M []) := by
                    intro u36 u37 N38 hn39
                    refine zw_iinc (pc := 100) (i := 5) (x := u16) (v := u16 + Int32.ofInt 1) (L2 := [some (.ref q), some (.int x0), some (.int u36), some (.int u37), some (.int u11), some (.int (u16 + Int32.ofInt 1)), some (.int u26)]) rfl rfl (by decide) rfl d_Group_spanOf_100 ?_
                    refine zw_goto (pc := 103) (tgt := 32) (by decide) d_Group_spanOf_103 ?_
                    refine zW_le [some (.ref q), some (.int x0), some (.int u36), some (.int u37), some (.int u11), some (.int (u16 + Int32.ofInt 1)), none] (⟨rfl, rfl, rfl, rfl, rfl, rfl, trivial⟩) ?_
                    exact ih_32 u36 u37 (u16 + Int32.ofInt 1) N38 hn39 (Nat.lt_of_lt_of_le (z_up hc_38) (Nat.le_of_lt_succ hlt_32))
                  refine zw_if_ne (pc := 77) (tgt := 100) (by decide) d_Group_spanOf_77 (fun hc_77 => ?_) (fun hc_77 => ?_)
                  · exact j_100 u14 u15 N29 hn32
                  · refine zw_iload_n (pc := 80) (n := 2) (x := u14) rfl d_Group_spanOf_80 ?_
                    refine zw_iconst (pc := 81) (v := 1) (by decide) d_Group_spanOf_81 ?_
                    refine zw_iload (pc := 82) (i := 6) (x := u26) rfl d_Group_spanOf_82 ?_
                    refine zw_ishl (pc := 84) d_Group_spanOf_84 ?_
                    refine zw_ior (pc := 85) d_Group_spanOf_85 ?_
                    refine zw_istore_n (pc := 86) (i := 2) (L2 := [some (.ref q), some (.int x0), some (.int (u14 ||| (1 <<< (u26 &&& 31)))), some (.int u15), some (.int u11), some (.int u16), some (.int u26)]) rfl (by decide) rfl d_Group_spanOf_86 ?_
                    refine zw_aload_n (pc := 87) (n := 0) (x := q) rfl d_Group_spanOf_87 ?_
                    refine zc_getF hn32 (pc := 88) f_Group_29 rfl hqk r1f d_Group_spanOf_88 ?_
                    refine zw_iload_n (pc := 91) (n := 3) (x := u15) rfl d_Group_spanOf_91 ?_
                    refine zw_iload (pc := 92) (i := 6) (x := u26) rfl d_Group_spanOf_92 ?_
                    refine zc_callV hn32 (pc := 94) [.int u15, .int u26] [] l_Group_46 (c_IntRow_put l B N29 (hT.mod hn32) r1 r1B (hn32.k r1k) u15 u26) rfl rfl r1k (by decide) (by decide) (Nat.le_of_ble_eq_true rfl) d_Group_spanOf_94 (fun r42 N40 hq41 => ?_)
                    obtain ⟨hk45, rfl⟩ := hq41
                    have hn43 : zMod B [] M N40 := hn32.call hk45 (by decide)
                    show zW l m_Group_spanOf (zn M + 0, zw M + 0) N40 97 [some (.ref q), some (.int x0), some (.int (u14 ||| (1 <<< (u26 &&& 31)))), some (.int u15), some (.int u11), some (.int u16), some (.int u26)] [] (zqI B M [])
                    refine zw_iinc (pc := 97) (i := 3) (x := u15) (v := u15 + Int32.ofInt 1) (L2 := [some (.ref q), some (.int x0), some (.int (u14 ||| (1 <<< (u26 &&& 31)))), some (.int (u15 + Int32.ofInt 1)), some (.int u11), some (.int u16), some (.int u26)]) rfl rfl (by decide) rfl d_Group_spanOf_97 ?_
                    exact j_100 (u14 ||| (1 <<< (u26 &&& 31))) (u15 + Int32.ofInt 1) N40 hn43
                refine zw_if_eq (pc := 47) (tgt := 68) (by decide) d_Group_spanOf_47 (fun hc_47 => ?_) (fun hc_47 => ?_)
                · refine zw_iconst (pc := 68) (v := 0) (by decide) d_Group_spanOf_68 ?_
                  exact j_69 0 N19 hn22
                · refine zw_aload_n (pc := 50) (n := 0) (x := q) rfl d_Group_spanOf_50 ?_
                  refine zw_aload_n (pc := 51) (n := 0) (x := q) rfl d_Group_spanOf_51 ?_
                  refine zc_getF hn22 (pc := 52) f_Group_29 rfl hqk r1f d_Group_spanOf_52 ?_
                  refine zw_iload (pc := 55) (i := 4) (x := u11) rfl d_Group_spanOf_55 ?_
                  refine zc_callV hn22 (pc := 57) [.int u11] [.ref q] l_Group_54 (c_IntRow_at l B N19 (hT.mod hn22) r1 r1B (hn22.k r1k) u11) rfl rfl r1k (by decide) (by decide) (Nat.le_of_ble_eq_true rfl) d_Group_spanOf_57 (fun r49 N47 hq48 => ?_)
                  obtain ⟨hk52, v51, rfl⟩ := hq48
                  have hn50 : zMod B [] M N47 := hn22.call hk52 (by decide)
                  show zW l m_Group_spanOf (zn M + 0, zw M + 0) N47 60 [some (.ref q), some (.int x0), some (.int u14), some (.int u15), some (.int u11), some (.int u16), none] [.int v51, .ref q] (zqI B M [])
                  refine zw_iload (pc := 60) (i := 5) (x := u16) rfl d_Group_spanOf_60 ?_
                  refine zc_callV hn50 (pc := 62) [.int v51, .int u16] [] l_Group_67 (c_Group_both l B N47 (hT.mod hn50) q hqB (hn50.k hqk) v51 u16) rfl rfl hqk (by decide) (by decide) (Nat.le_of_ble_eq_true rfl) d_Group_spanOf_62 (fun r56 N54 hq55 => ?_)
                  obtain ⟨hk59, v58, rfl⟩ := hq55
                  have hn57 : zMod B [] M N54 := hn50.call hk59 (by decide)
                  show zW l m_Group_spanOf (zn M + 0, zw M + 0) N54 65 [some (.ref q), some (.int x0), some (.int u14), some (.int u15), some (.int u11), some (.int u16), none] [.int v58] (zqI B M [])
                  refine zw_goto (pc := 65) (tgt := 69) (by decide) d_Group_spanOf_65 ?_
                  exact j_69 v58 N54 hn57
          exact lp_32 _ u9 u10 0 N12 hn13 (Nat.lt_succ_self _)
  exact lp_16 _ 1 1 0 N2 hn5 (Nat.lt_succ_self _)
set_option maxHeartbeats 4000000 in
theorem c_Sorts_indexOf (l : Launch) (B : Nat) (M : zMem) (hT : zTy B M) (q : Nat) (hqB : q < B) (hqk : (zsh M q).1 = 6 + 3) (x0 : Int32) : zC l m_Sorts_indexOf 0 0 [.ref q, .int x0] M (zqI B M []) := by
  refine zC_of (L0 := [some (.ref q), some (.int x0), none]) md_Sorts_indexOf (Nat.le_of_ble_eq_true rfl) rfl ?_ zQ0
  have hm : zMod B [] M M := zMod.rf
  refine zw_iconst (pc := 0) (v := 0) (by decide) d_Sorts_indexOf_0 ?_
  refine zw_istore_n (pc := 1) (i := 2) (L2 := [some (.ref q), some (.int x0), some (.int 0)]) rfl (by decide) rfl d_Sorts_indexOf_1 ?_
  have lp_2 : ∀ (n : Nat) (u1 : Int32) (N2 : zMem) (hn3 : zMod B [] M N2), zvu u1 (zi M q 6) < n → zW l m_Sorts_indexOf (zn M + 0, zw M + 0) N2 2 [some (.ref q), some (.int x0), some (.int u1)] [] (zqI B M []) := by
    intro n
    induction n with
    | zero =>
      intro u1 N2 hn3 h0
      exact absurd h0 (Nat.not_lt_zero _)
    | succ n ih_2 =>
      intro u1 N2 hn3 hlt_2
      refine zw_iload_n (pc := 2) (n := 2) (x := u1) rfl d_Sorts_indexOf_2 ?_
      refine zw_aload_n (pc := 3) (n := 0) (x := q) rfl d_Sorts_indexOf_3 ?_
      refine zc_getI0 hn3 (pc := 4) (by decide) f_Sorts_36 rfl hqk d_Sorts_indexOf_4 ?_
      refine zw_icmp_ge (pc := 7) (tgt := 30) (by decide) d_Sorts_indexOf_7 (fun hc_7 => ?_) (fun hc_7 => ?_)
      · refine zw_iconst (pc := 30) (v := (-1)) (by decide) d_Sorts_indexOf_30 ?_
        exact zw_iret (S := []) (pc := 31) (ty := .int) rfl rfl d_Sorts_indexOf_31 ⟨hn3, _, rfl⟩
      · refine zw_aload_n (pc := 10) (n := 0) (x := q) rfl d_Sorts_indexOf_10 ?_
        obtain ⟨r4, r4f, r4B, r4k⟩ := hT.1 q 6 1 hqB hqk (by decide) (by decide) rfl
        refine zc_getF hn3 (pc := 11) f_Sorts_14 rfl hqk r4f d_Sorts_indexOf_11 ?_
        refine zw_iload_n (pc := 14) (n := 2) (x := u1) rfl d_Sorts_indexOf_14 ?_
        refine zc_callV hn3 (pc := 15) [.int u1] [] l_Sorts_49 (c_IntRow_at l B N2 (hT.mod hn3) r4 r4B (hn3.k r4k) u1) rfl rfl r4k (by decide) (by decide) (Nat.le_of_ble_eq_true rfl) d_Sorts_indexOf_15 (fun r7 N5 hq6 => ?_)
        obtain ⟨hk10, v9, rfl⟩ := hq6
        have hn8 : zMod B [] M N5 := hn3.call hk10 (by decide)
        show zW l m_Sorts_indexOf (zn M + 0, zw M + 0) N5 18 [some (.ref q), some (.int x0), some (.int u1)] [.int v9] (zqI B M [])
        refine zw_iload_n (pc := 18) (n := 1) (x := x0) rfl d_Sorts_indexOf_18 ?_
        refine zw_icmp_ne (pc := 19) (tgt := 24) (by decide) d_Sorts_indexOf_19 (fun hc_19 => ?_) (fun hc_19 => ?_)
        · refine zw_iinc (pc := 24) (i := 2) (x := u1) (v := u1 + Int32.ofInt 1) (L2 := [some (.ref q), some (.int x0), some (.int (u1 + Int32.ofInt 1))]) rfl rfl (by decide) rfl d_Sorts_indexOf_24 ?_
          refine zw_goto (pc := 27) (tgt := 2) (by decide) d_Sorts_indexOf_27 ?_
          exact ih_2 (u1 + Int32.ofInt 1) N5 hn8 (Nat.lt_of_lt_of_le (z_up hc_7) (Nat.le_of_lt_succ hlt_2))
        · refine zw_iload_n (pc := 22) (n := 2) (x := u1) rfl d_Sorts_indexOf_22 ?_
          exact zw_iret (S := []) (pc := 23) (ty := .int) rfl rfl d_Sorts_indexOf_23 ⟨hn8, _, rfl⟩
  exact lp_2 _ 0 M hm (Nat.lt_succ_self _)
set_option maxHeartbeats 4000000 in
theorem c_Sorts_addSubgroup (l : Launch) (B : Nat) (M : zMem) (hT : zTy B M) (q : Nat) (hqB : q < B) (hqk : (zsh M q).1 = 6 + 3) (x0 : Int32) : zC l m_Sorts_addSubgroup 0 0 [.ref q, .int x0] M (zqV B M [(6, 6)]) := by
  refine zC_of (L0 := [some (.ref q), some (.int x0)]) md_Sorts_addSubgroup (Nat.le_of_ble_eq_true rfl) rfl ?_ zQ0
  have hm : zMod B [(6, 6)] M M := zMod.rf
  refine zw_aload_n (pc := 0) (n := 0) (x := q) rfl d_Sorts_addSubgroup_0 ?_
  refine zw_iload_n (pc := 1) (n := 1) (x := x0) rfl d_Sorts_addSubgroup_1 ?_
  refine zc_callV hm (pc := 2) [.int x0] [] l_Sorts_72 (c_Sorts_indexOf l B M (hT.mod hm) q hqB (hm.k hqk) x0) rfl rfl hqk (by decide) (by decide) (Nat.le_of_ble_eq_true rfl) d_Sorts_addSubgroup_2 (fun r3 N1 hq2 => ?_)
  obtain ⟨hk6, v5, rfl⟩ := hq2
  have hn4 : zMod B [(6, 6)] M N1 := hm.call hk6 (by decide)
  show zW l m_Sorts_addSubgroup (zn M + 0, zw M + 0) N1 5 [some (.ref q), some (.int x0)] [.int v5] (zqV B M [(6, 6)])
  refine zw_iconst (pc := 5) (v := (-1)) (by decide) d_Sorts_addSubgroup_5 ?_
  refine zw_icmp_ne (pc := 6) (tgt := 40) (by decide) d_Sorts_addSubgroup_6 (fun hc_6 => ?_) (fun hc_6 => ?_)
  · exact zw_vret (S := []) (pc := 40) rfl d_Sorts_addSubgroup_40 ⟨hn4, rfl⟩
  · refine zw_aload_n (pc := 9) (n := 0) (x := q) rfl d_Sorts_addSubgroup_9 ?_
    refine zc_getI hn4 (pc := 10) f_Sorts_36 rfl hqk d_Sorts_addSubgroup_10 ?_
    refine zw_bipush (pc := 13) (v := 35) (by decide) d_Sorts_addSubgroup_13 ?_
    refine zw_icmp_ge (pc := 15) (tgt := 40) (by decide) d_Sorts_addSubgroup_15 (fun hc_15 => ?_) (fun hc_15 => ?_)
    · exact zw_vret (S := []) (pc := 40) rfl d_Sorts_addSubgroup_40 ⟨hn4, rfl⟩
    · refine zw_aload_n (pc := 18) (n := 0) (x := q) rfl d_Sorts_addSubgroup_18 ?_
      obtain ⟨r8, r8f, r8B, r8k⟩ := hT.1 q 6 1 hqB hqk (by decide) (by decide) rfl
      refine zc_getF hn4 (pc := 19) f_Sorts_14 rfl hqk r8f d_Sorts_addSubgroup_19 ?_
      refine zw_aload_n (pc := 22) (n := 0) (x := q) rfl d_Sorts_addSubgroup_22 ?_
      refine zc_getI hn4 (pc := 23) f_Sorts_36 rfl hqk d_Sorts_addSubgroup_23 ?_
      refine zw_iload_n (pc := 26) (n := 1) (x := x0) rfl d_Sorts_addSubgroup_26 ?_
      refine zc_callV hn4 (pc := 27) [.int (zi N1 q 6), .int x0] [] l_Sorts_40 (c_IntRow_put l B N1 (hT.mod hn4) r8 r8B (hn4.k r8k) (zi N1 q 6) x0) rfl rfl r8k (by decide) (by decide) (Nat.le_of_ble_eq_true rfl) d_Sorts_addSubgroup_27 (fun r11 N9 hq10 => ?_)
      obtain ⟨hk14, rfl⟩ := hq10
      have hn12 : zMod B [(6, 6)] M N9 := hn4.call hk14 (by decide)
      show zW l m_Sorts_addSubgroup (zn M + 0, zw M + 0) N9 30 [some (.ref q), some (.int x0)] [] (zqV B M [(6, 6)])
      refine zw_aload_n (pc := 30) (n := 0) (x := q) rfl d_Sorts_addSubgroup_30 ?_
      refine zw_dup (pc := 31) rfl d_Sorts_addSubgroup_31 ?_
      refine zc_getI hn12 (pc := 32) f_Sorts_36 rfl hqk d_Sorts_addSubgroup_32 ?_
      refine zw_iconst (pc := 35) (v := 1) (by decide) d_Sorts_addSubgroup_35 ?_
      refine zw_iadd (pc := 36) d_Sorts_addSubgroup_36 ?_
      refine zc_putI hn12 (pc := 37) f_Sorts_36 rfl rfl hqk hqB (by decide) rfl rfl d_Sorts_addSubgroup_37 (fun N16 hN16 hn17 => ?_)
      exact zw_vret (S := []) (pc := 40) rfl d_Sorts_addSubgroup_40 ⟨hn17, rfl⟩
set_option maxHeartbeats 4000000 in
theorem c_Integer_bitCount (l : Launch) (B : Nat) (M : zMem) (hT : zTy B M) (x0 : Int32) : zC l m_Integer_bitCount 0 0 [.int x0] M (fun r M2 => (zqI B M []) r M2 ∧ ∀ v, r = some (.int v) → 0 ≤ v.toInt ∧ v.toInt ≤ 63) := by
  refine zC_of (L0 := [some (.int x0)]) md_Integer_bitCount (Nat.le_of_ble_eq_true rfl) rfl ?_ zQ0
  have hm : zMod B [] M M := zMod.rf
  refine zw_iload_n (pc := 0) (n := 0) (x := x0) rfl d_Integer_bitCount_0 ?_
  refine zw_iload_n (pc := 1) (n := 0) (x := x0) rfl d_Integer_bitCount_1 ?_
  refine zw_iconst (pc := 2) (v := 1) (by decide) d_Integer_bitCount_2 ?_
  refine zw_iushr (pc := 3) d_Integer_bitCount_3 ?_
  refine zw_ldcw (pc := 4) k_Integer_265 d_Integer_bitCount_4 ?_
  refine zw_iand (pc := 7) d_Integer_bitCount_7 ?_
  refine zw_isub (pc := 8) d_Integer_bitCount_8 ?_
  refine zw_istore_n (pc := 9) (i := 0) (L2 := [some (.int (x0 - ((((x0 : Int32).toUInt32 >>> ((1 : Int32).toUInt32 &&& Int32.toUInt32 31)).toInt32) &&& 1431655765)))]) rfl (by decide) rfl d_Integer_bitCount_9 ?_
  refine zw_iload_n (pc := 10) (n := 0) (x := x0 - ((((x0 : Int32).toUInt32 >>> ((1 : Int32).toUInt32 &&& Int32.toUInt32 31)).toInt32) &&& 1431655765)) rfl d_Integer_bitCount_10 ?_
  refine zw_ldcw (pc := 11) k_Integer_266 d_Integer_bitCount_11 ?_
  refine zw_iand (pc := 14) d_Integer_bitCount_14 ?_
  refine zw_iload_n (pc := 15) (n := 0) (x := x0 - ((((x0 : Int32).toUInt32 >>> ((1 : Int32).toUInt32 &&& Int32.toUInt32 31)).toInt32) &&& 1431655765)) rfl d_Integer_bitCount_15 ?_
  refine zw_iconst (pc := 16) (v := 2) (by decide) d_Integer_bitCount_16 ?_
  refine zw_iushr (pc := 17) d_Integer_bitCount_17 ?_
  refine zw_ldcw (pc := 18) k_Integer_266 d_Integer_bitCount_18 ?_
  refine zw_iand (pc := 21) d_Integer_bitCount_21 ?_
  refine zw_gen (fun v1 => ?_)
  refine zw_iadd (pc := 22) d_Integer_bitCount_22 ?_
  refine zw_istore_n (pc := 23) (i := 0) (L2 := [some (.int (((x0 - ((((x0 : Int32).toUInt32 >>> ((1 : Int32).toUInt32 &&& Int32.toUInt32 31)).toInt32) &&& 1431655765)) &&& 858993459) + v1))]) rfl (by decide) rfl d_Integer_bitCount_23 ?_
  refine zw_iload_n (pc := 24) (n := 0) (x := ((x0 - ((((x0 : Int32).toUInt32 >>> ((1 : Int32).toUInt32 &&& Int32.toUInt32 31)).toInt32) &&& 1431655765)) &&& 858993459) + v1) rfl d_Integer_bitCount_24 ?_
  refine zw_iload_n (pc := 25) (n := 0) (x := ((x0 - ((((x0 : Int32).toUInt32 >>> ((1 : Int32).toUInt32 &&& Int32.toUInt32 31)).toInt32) &&& 1431655765)) &&& 858993459) + v1) rfl d_Integer_bitCount_25 ?_
  refine zw_iconst (pc := 26) (v := 4) (by decide) d_Integer_bitCount_26 ?_
  refine zw_iushr (pc := 27) d_Integer_bitCount_27 ?_
  refine zw_iadd (pc := 28) d_Integer_bitCount_28 ?_
  refine zw_gen (fun v2 => ?_)
  refine zw_ldcw (pc := 29) k_Integer_267 d_Integer_bitCount_29 ?_
  refine zw_iand (pc := 32) d_Integer_bitCount_32 ?_
  refine zw_istore_n (pc := 33) (i := 0) (L2 := [some (.int (v2 &&& 252645135))]) rfl (by decide) rfl d_Integer_bitCount_33 ?_
  refine zw_iload_n (pc := 34) (n := 0) (x := v2 &&& 252645135) rfl d_Integer_bitCount_34 ?_
  refine zw_iload_n (pc := 35) (n := 0) (x := v2 &&& 252645135) rfl d_Integer_bitCount_35 ?_
  refine zw_bipush (pc := 36) (v := 8) (by decide) d_Integer_bitCount_36 ?_
  refine zw_iushr (pc := 38) d_Integer_bitCount_38 ?_
  refine zw_iadd (pc := 39) d_Integer_bitCount_39 ?_
  refine zw_istore_n (pc := 40) (i := 0) (L2 := [some (.int ((v2 &&& 252645135) + (((v2 &&& 252645135 : Int32).toUInt32 >>> ((8 : Int32).toUInt32 &&& Int32.toUInt32 31)).toInt32)))]) rfl (by decide) rfl d_Integer_bitCount_40 ?_
  refine zw_iload_n (pc := 41) (n := 0) (x := (v2 &&& 252645135) + (((v2 &&& 252645135 : Int32).toUInt32 >>> ((8 : Int32).toUInt32 &&& Int32.toUInt32 31)).toInt32)) rfl d_Integer_bitCount_41 ?_
  refine zw_iload_n (pc := 42) (n := 0) (x := (v2 &&& 252645135) + (((v2 &&& 252645135 : Int32).toUInt32 >>> ((8 : Int32).toUInt32 &&& Int32.toUInt32 31)).toInt32)) rfl d_Integer_bitCount_42 ?_
  refine zw_bipush (pc := 43) (v := 16) (by decide) d_Integer_bitCount_43 ?_
  refine zw_iushr (pc := 45) d_Integer_bitCount_45 ?_
  refine zw_iadd (pc := 46) d_Integer_bitCount_46 ?_
  refine zw_gen (fun v3 => ?_)
  refine zw_istore_n (pc := 47) (i := 0) (L2 := [some (.int v3)]) rfl (by decide) rfl d_Integer_bitCount_47 ?_
  refine zw_iload_n (pc := 48) (n := 0) (x := v3) rfl d_Integer_bitCount_48 ?_
  refine zw_bipush (pc := 49) (v := 63) (by decide) d_Integer_bitCount_49 ?_
  refine zw_iand (pc := 51) d_Integer_bitCount_51 ?_
  exact zw_iret (S := []) (pc := 52) (ty := .int) rfl rfl d_Integer_bitCount_52 ⟨⟨hm, _, rfl⟩, fun v hv => by cases hv; exact z_and63 _⟩
set_option maxHeartbeats 4000000 in
theorem c_Sorts_isAhead (l : Launch) (B : Nat) (M : zMem) (hT : zTy B M) (x0 : Int32) (x1 : Int32) : zC l m_Sorts_isAhead 0 0 [.int x0, .int x1] M (zqZ B M []) := by
  refine zC_of (L0 := [some (.int x0), some (.int x1), none]) md_Sorts_isAhead (Nat.le_of_ble_eq_true rfl) rfl ?_ zQ0
  have hm : zMod B [] M M := zMod.rf
  refine zw_iload_n (pc := 0) (n := 0) (x := x0) rfl d_Sorts_isAhead_0 ?_
  refine zc_callS hm (pc := 1) [.int x0] [] l_Sorts_78 (c_Integer_bitCount l B M (hT.mod hm) x0) rfl rfl (by decide) (Nat.le_of_ble_eq_true rfl) d_Sorts_isAhead_1 (fun r3 N1 hq2 => ?_)
  obtain ⟨hq2, ex7⟩ := hq2
  obtain ⟨hk6, v5, rfl⟩ := hq2
  have hn4 : zMod B [] M N1 := hm.call hk6 (by decide)
  show zW l m_Sorts_isAhead (zn M + 0, zw M + 0) N1 4 [some (.int x0), some (.int x1), none] [.int v5] (zqZ B M [])
  refine zw_iload_n (pc := 4) (n := 1) (x := x1) rfl d_Sorts_isAhead_4 ?_
  refine zc_callS hn4 (pc := 5) [.int x1] [.int v5] l_Sorts_78 (c_Integer_bitCount l B N1 (hT.mod hn4) x1) rfl rfl (by decide) (Nat.le_of_ble_eq_true rfl) d_Sorts_isAhead_5 (fun r10 N8 hq9 => ?_)
  obtain ⟨hq9, ex14⟩ := hq9
  obtain ⟨hk13, v12, rfl⟩ := hq9
  have hn11 : zMod B [] M N8 := hn4.call hk13 (by decide)
  show zW l m_Sorts_isAhead (zn M + 0, zw M + 0) N8 8 [some (.int x0), some (.int x1), none] [.int v12, .int v5] (zqZ B M [])
  refine zw_isub (pc := 8) d_Sorts_isAhead_8 ?_
  refine zw_istore_n (pc := 9) (i := 2) (L2 := [some (.int x0), some (.int x1), some (.int (v5 - v12))]) rfl (by decide) rfl d_Sorts_isAhead_9 ?_
  refine zw_iload_n (pc := 10) (n := 2) (x := v5 - v12) rfl d_Sorts_isAhead_10 ?_
  refine zw_if_lt (pc := 11) (tgt := 23) (by decide) d_Sorts_isAhead_11 (fun hc_11 => ?_) (fun hc_11 => ?_)
  · refine zw_iconst (pc := 23) (v := 1) (by decide) d_Sorts_isAhead_23 ?_
    refine zw_goto (pc := 24) (tgt := 28) (by decide) d_Sorts_isAhead_24 ?_
    exact zw_iret (S := []) (pc := 28) (ty := .boolean) rfl (z_narZ (Or.inr rfl)) d_Sorts_isAhead_28 ⟨hn11, _, rfl, Or.inr rfl⟩
  · refine zw_iload_n (pc := 14) (n := 2) (x := v5 - v12) rfl d_Sorts_isAhead_14 ?_
    refine zw_if_ne (pc := 15) (tgt := 27) (by decide) d_Sorts_isAhead_15 (fun hc_15 => ?_) (fun hc_15 => ?_)
    · refine zw_iconst (pc := 27) (v := 0) (by decide) d_Sorts_isAhead_27 ?_
      exact zw_iret (S := []) (pc := 28) (ty := .boolean) rfl (z_narZ (Or.inl rfl)) d_Sorts_isAhead_28 ⟨hn11, _, rfl, Or.inl rfl⟩
    · refine zw_iload_n (pc := 18) (n := 0) (x := x0) rfl d_Sorts_isAhead_18 ?_
      refine zw_iload_n (pc := 19) (n := 1) (x := x1) rfl d_Sorts_isAhead_19 ?_
      refine zw_icmp_ge (pc := 20) (tgt := 27) (by decide) d_Sorts_isAhead_20 (fun hc_20 => ?_) (fun hc_20 => ?_)
      · refine zw_iconst (pc := 27) (v := 0) (by decide) d_Sorts_isAhead_27 ?_
        exact zw_iret (S := []) (pc := 28) (ty := .boolean) rfl (z_narZ (Or.inl rfl)) d_Sorts_isAhead_28 ⟨hn11, _, rfl, Or.inl rfl⟩
      · refine zw_iconst (pc := 23) (v := 1) (by decide) d_Sorts_isAhead_23 ?_
        refine zw_goto (pc := 24) (tgt := 28) (by decide) d_Sorts_isAhead_24 ?_
        exact zw_iret (S := []) (pc := 28) (ty := .boolean) rfl (z_narZ (Or.inr rfl)) d_Sorts_isAhead_28 ⟨hn11, _, rfl, Or.inr rfl⟩
set_option maxHeartbeats 4000000 in
theorem c_Sorts_arrange (l : Launch) (B : Nat) (M : zMem) (hT : zTy B M) (q : Nat) (hqB : q < B) (hqk : (zsh M q).1 = 6 + 3) : zC l m_Sorts_arrange 0 0 [.ref q] M (zqV B M []) := by
  refine zC_of (L0 := [some (.ref q), none, none, none]) md_Sorts_arrange (Nat.le_of_ble_eq_true rfl) rfl ?_ zQ0
  have hm : zMod B [] M M := zMod.rf
  refine zw_iconst (pc := 0) (v := 1) (by decide) d_Sorts_arrange_0 ?_
  refine zw_istore_n (pc := 1) (i := 1) (L2 := [some (.ref q), some (.int 1), none, none]) rfl (by decide) rfl d_Sorts_arrange_1 ?_
  have lp_2 : ∀ (n : Nat) (u1 : Int32) (N2 : zMem) (hn3 : zMod B [] M N2), zvu u1 (zi M q 6) < n → zW l m_Sorts_arrange (zn M + 0, zw M + 0) N2 2 [some (.ref q), some (.int u1), none, none] [] (zqV B M []) := by
    intro n
    induction n with
    | zero =>
      intro u1 N2 hn3 h0
      exact absurd h0 (Nat.not_lt_zero _)
    | succ n ih_2 =>
      intro u1 N2 hn3 hlt_2
      refine zw_iload_n (pc := 2) (n := 1) (x := u1) rfl d_Sorts_arrange_2 ?_
      refine zw_aload_n (pc := 3) (n := 0) (x := q) rfl d_Sorts_arrange_3 ?_
      refine zc_getI0 hn3 (pc := 4) (by decide) f_Sorts_36 rfl hqk d_Sorts_arrange_4 ?_
      refine zw_icmp_ge (pc := 7) (tgt := 81) (by decide) d_Sorts_arrange_7 (fun hc_7 => ?_) (fun hc_7 => ?_)
      · exact zw_vret (S := []) (pc := 81) rfl d_Sorts_arrange_81 ⟨hn3, rfl⟩
      · refine zw_aload_n (pc := 10) (n := 0) (x := q) rfl d_Sorts_arrange_10 ?_
        obtain ⟨r4, r4f, r4B, r4k⟩ := hT.1 q 6 1 hqB hqk (by decide) (by decide) rfl
        refine zc_getF hn3 (pc := 11) f_Sorts_14 rfl hqk r4f d_Sorts_arrange_11 ?_
        refine zw_iload_n (pc := 14) (n := 1) (x := u1) rfl d_Sorts_arrange_14 ?_
        refine zc_callV hn3 (pc := 15) [.int u1] [] l_Sorts_49 (c_IntRow_at l B N2 (hT.mod hn3) r4 r4B (hn3.k r4k) u1) rfl rfl r4k (by decide) (by decide) (Nat.le_of_ble_eq_true rfl) d_Sorts_arrange_15 (fun r7 N5 hq6 => ?_)
        obtain ⟨hk10, v9, rfl⟩ := hq6
        have hn8 : zMod B [] M N5 := hn3.call hk10 (by decide)
        show zW l m_Sorts_arrange (zn M + 0, zw M + 0) N5 18 [some (.ref q), some (.int u1), none, none] [.int v9] (zqV B M [])
        refine zw_istore_n (pc := 18) (i := 2) (L2 := [some (.ref q), some (.int u1), some (.int v9), none]) rfl (by decide) rfl d_Sorts_arrange_18 ?_
        refine zw_iload_n (pc := 19) (n := 1) (x := u1) rfl d_Sorts_arrange_19 ?_
        refine zw_istore_n (pc := 20) (i := 3) (L2 := [some (.ref q), some (.int u1), some (.int v9), some (.int u1)]) rfl (by decide) rfl d_Sorts_arrange_20 ?_
        have lp_21 : ∀ (n : Nat) (u12 : Int32) (N13 : zMem) (hn14 : zMod B [] M N13), zvd u12 < n → zW l m_Sorts_arrange (zn M + 0, zw M + 0) N13 21 [some (.ref q), some (.int u1), some (.int v9), some (.int u12)] [] (zqV B M []) := by
          intro n
          induction n with
          | zero =>
            intro u12 N13 hn14 h0
            exact absurd h0 (Nat.not_lt_zero _)
          | succ n ih_21 =>
            intro u12 N13 hn14 hlt_21
            refine zw_iload_n (pc := 21) (n := 3) (x := u12) rfl d_Sorts_arrange_21 ?_
            have j_66 : ∀ (N15 : zMem) (hn16 : zMod B [] M N15), zW l m_Sorts_arrange (zn M + 0, zw M + 0) N15 66 [some (.ref q), some (.int u1), some (.int v9), some (.int u12)] [] (zqV B M []) := by
              intro N15 hn16
              refine zw_aload_n (pc := 66) (n := 0) (x := q) rfl d_Sorts_arrange_66 ?_
              refine zc_getF hn16 (pc := 67) f_Sorts_14 rfl hqk r4f d_Sorts_arrange_67 ?_
              refine zw_iload_n (pc := 70) (n := 3) (x := u12) rfl d_Sorts_arrange_70 ?_
              refine zw_iload_n (pc := 71) (n := 2) (x := v9) rfl d_Sorts_arrange_71 ?_
              refine zc_callV hn16 (pc := 72) [.int u12, .int v9] [] l_Sorts_40 (c_IntRow_put l B N15 (hT.mod hn16) r4 r4B (hn16.k r4k) u12 v9) rfl rfl r4k (by decide) (by decide) (Nat.le_of_ble_eq_true rfl) d_Sorts_arrange_72 (fun r19 N17 hq18 => ?_)
              obtain ⟨hk22, rfl⟩ := hq18
              have hn20 : zMod B [] M N17 := hn16.call hk22 (by decide)
              show zW l m_Sorts_arrange (zn M + 0, zw M + 0) N17 75 [some (.ref q), some (.int u1), some (.int v9), some (.int u12)] [] (zqV B M [])
              refine zw_iinc (pc := 75) (i := 1) (x := u1) (v := u1 + Int32.ofInt 1) (L2 := [some (.ref q), some (.int (u1 + Int32.ofInt 1)), some (.int v9), some (.int u12)]) rfl rfl (by decide) rfl d_Sorts_arrange_75 ?_
              refine zw_goto (pc := 78) (tgt := 2) (by decide) d_Sorts_arrange_78 ?_
              refine zW_le [some (.ref q), some (.int (u1 + Int32.ofInt 1)), none, none] (⟨rfl, rfl, trivial⟩) ?_
              exact ih_2 (u1 + Int32.ofInt 1) N17 hn20 (Nat.lt_of_lt_of_le (z_up hc_7) (Nat.le_of_lt_succ hlt_2))
            refine zw_if_le (pc := 22) (tgt := 66) (by decide) d_Sorts_arrange_22 (fun hc_22 => ?_) (fun hc_22 => ?_)
            · exact j_66 N13 hn14
            · refine zw_iload_n (pc := 25) (n := 2) (x := v9) rfl d_Sorts_arrange_25 ?_
              refine zw_aload_n (pc := 26) (n := 0) (x := q) rfl d_Sorts_arrange_26 ?_
              refine zc_getF hn14 (pc := 27) f_Sorts_14 rfl hqk r4f d_Sorts_arrange_27 ?_
              refine zw_iload_n (pc := 30) (n := 3) (x := u12) rfl d_Sorts_arrange_30 ?_
              refine zw_iconst (pc := 31) (v := 1) (by decide) d_Sorts_arrange_31 ?_
              refine zw_isub (pc := 32) d_Sorts_arrange_32 ?_
              refine zc_callV hn14 (pc := 33) [.int (u12 - 1)] [.int v9] l_Sorts_49 (c_IntRow_at l B N13 (hT.mod hn14) r4 r4B (hn14.k r4k) (u12 - 1)) rfl rfl r4k (by decide) (by decide) (Nat.le_of_ble_eq_true rfl) d_Sorts_arrange_33 (fun r26 N24 hq25 => ?_)
              obtain ⟨hk29, v28, rfl⟩ := hq25
              have hn27 : zMod B [] M N24 := hn14.call hk29 (by decide)
              show zW l m_Sorts_arrange (zn M + 0, zw M + 0) N24 36 [some (.ref q), some (.int u1), some (.int v9), some (.int u12)] [.int v28, .int v9] (zqV B M [])
              refine zc_callS hn27 (pc := 36) [.int v9, .int v28] [] l_Sorts_75 (c_Sorts_isAhead l B N24 (hT.mod hn27) v9 v28) rfl rfl (by decide) (Nat.le_of_ble_eq_true rfl) d_Sorts_arrange_36 (fun r33 N31 hq32 => ?_)
              obtain ⟨hk36, v35, rfl, zv35⟩ := hq32
              have hn34 : zMod B [] M N31 := hn27.call hk36 (by decide)
              show zW l m_Sorts_arrange (zn M + 0, zw M + 0) N31 39 [some (.ref q), some (.int u1), some (.int v9), some (.int u12)] [.int v35] (zqV B M [])
              refine zw_if_eq (pc := 39) (tgt := 66) (by decide) d_Sorts_arrange_39 (fun hc_39 => ?_) (fun hc_39 => ?_)
              · exact j_66 N31 hn34
              · refine zw_aload_n (pc := 42) (n := 0) (x := q) rfl d_Sorts_arrange_42 ?_
                refine zc_getF hn34 (pc := 43) f_Sorts_14 rfl hqk r4f d_Sorts_arrange_43 ?_
                refine zw_iload_n (pc := 46) (n := 3) (x := u12) rfl d_Sorts_arrange_46 ?_
                refine zw_aload_n (pc := 47) (n := 0) (x := q) rfl d_Sorts_arrange_47 ?_
                refine zc_getF hn34 (pc := 48) f_Sorts_14 rfl hqk r4f d_Sorts_arrange_48 ?_
                refine zw_iload_n (pc := 51) (n := 3) (x := u12) rfl d_Sorts_arrange_51 ?_
                refine zw_iconst (pc := 52) (v := 1) (by decide) d_Sorts_arrange_52 ?_
                refine zw_isub (pc := 53) d_Sorts_arrange_53 ?_
                refine zc_callV hn34 (pc := 54) [.int (u12 - 1)] [.int u12, .ref r4] l_Sorts_49 (c_IntRow_at l B N31 (hT.mod hn34) r4 r4B (hn34.k r4k) (u12 - 1)) rfl rfl r4k (by decide) (by decide) (Nat.le_of_ble_eq_true rfl) d_Sorts_arrange_54 (fun r40 N38 hq39 => ?_)
                obtain ⟨hk43, v42, rfl⟩ := hq39
                have hn41 : zMod B [] M N38 := hn34.call hk43 (by decide)
                show zW l m_Sorts_arrange (zn M + 0, zw M + 0) N38 57 [some (.ref q), some (.int u1), some (.int v9), some (.int u12)] [.int v42, .int u12, .ref r4] (zqV B M [])
                refine zc_callV hn41 (pc := 57) [.int u12, .int v42] [] l_Sorts_40 (c_IntRow_put l B N38 (hT.mod hn41) r4 r4B (hn41.k r4k) u12 v42) rfl rfl r4k (by decide) (by decide) (Nat.le_of_ble_eq_true rfl) d_Sorts_arrange_57 (fun r47 N45 hq46 => ?_)
                obtain ⟨hk50, rfl⟩ := hq46
                have hn48 : zMod B [] M N45 := hn41.call hk50 (by decide)
                show zW l m_Sorts_arrange (zn M + 0, zw M + 0) N45 60 [some (.ref q), some (.int u1), some (.int v9), some (.int u12)] [] (zqV B M [])
                refine zw_iinc (pc := 60) (i := 3) (x := u12) (v := u12 + Int32.ofInt (-1)) (L2 := [some (.ref q), some (.int u1), some (.int v9), some (.int (u12 + Int32.ofInt (-1)))]) rfl rfl (by decide) rfl d_Sorts_arrange_60 ?_
                refine zw_goto (pc := 63) (tgt := 21) (by decide) d_Sorts_arrange_63 ?_
                exact ih_21 (u12 + Int32.ofInt (-1)) N45 hn48 (Nat.lt_of_lt_of_le (z_dn hc_22) (Nat.le_of_lt_succ hlt_21))
        exact lp_21 _ u1 N5 hn8 (Nat.lt_succ_self _)
  exact lp_2 _ 1 M hm (Nat.lt_succ_self _)
set_option maxHeartbeats 4000000 in
theorem c_Group_turn (l : Launch) (B : Nat) (M : zMem) (hT : zTy B M) (q : Nat) (hqB : q < B) (hqk : (zsh M q).1 = 5 + 3) (x0 : Int32) (x1 : Int32) : zC l m_Group_turn 0 0 [.ref q, .int x0, .int x1] M (zqI B M []) := by
  refine zC_of (L0 := [some (.ref q), some (.int x0), some (.int x1), none]) md_Group_turn (Nat.le_of_ble_eq_true rfl) rfl ?_ zQ0
  have hm : zMod B [] M M := zMod.rf
  refine zw_aload_n (pc := 0) (n := 0) (x := q) rfl d_Group_turn_0 ?_
  obtain ⟨r1, r1f, r1B, r1k⟩ := hT.1 q 5 2 hqB hqk (by decide) (by decide) rfl
  refine zc_getF hm (pc := 1) f_Group_23 rfl hqk r1f d_Group_turn_1 ?_
  refine zw_aload_n (pc := 4) (n := 0) (x := q) rfl d_Group_turn_4 ?_
  obtain ⟨r2, r2f, r2B, r2k⟩ := hT.1 q 5 3 hqB hqk (by decide) (by decide) rfl
  refine zc_getF hm (pc := 5) f_Group_26 rfl hqk r2f d_Group_turn_5 ?_
  refine zw_iload_n (pc := 8) (n := 2) (x := x1) rfl d_Group_turn_8 ?_
  refine zc_callV hm (pc := 9) [.int x1] [.ref r1] l_Group_54 (c_IntRow_at l B M (hT.mod hm) r2 r2B (hm.k r2k) x1) rfl rfl r2k (by decide) (by decide) (Nat.le_of_ble_eq_true rfl) d_Group_turn_9 (fun r5 N3 hq4 => ?_)
  obtain ⟨hk8, v7, rfl⟩ := hq4
  have hn6 : zMod B [] M N3 := hm.call hk8 (by decide)
  show zW l m_Group_turn (zn M + 0, zw M + 0) N3 12 [some (.ref q), some (.int x0), some (.int x1), none] [.int v7, .ref r1] (zqI B M [])
  refine zw_bipush (pc := 12) (v := 24) (by decide) d_Group_turn_12 ?_
  refine zw_imul (pc := 14) d_Group_turn_14 ?_
  refine zw_iload_n (pc := 15) (n := 1) (x := x0) rfl d_Group_turn_15 ?_
  refine zw_iadd (pc := 16) d_Group_turn_16 ?_
  refine zc_callV hn6 (pc := 17) [.int ((v7 * 24) + x0)] [] l_Group_54 (c_IntRow_at l B N3 (hT.mod hn6) r1 r1B (hn6.k r1k) ((v7 * 24) + x0)) rfl rfl r1k (by decide) (by decide) (Nat.le_of_ble_eq_true rfl) d_Group_turn_17 (fun r12 N10 hq11 => ?_)
  obtain ⟨hk15, v14, rfl⟩ := hq11
  have hn13 : zMod B [] M N10 := hn6.call hk15 (by decide)
  show zW l m_Group_turn (zn M + 0, zw M + 0) N10 20 [some (.ref q), some (.int x0), some (.int x1), none] [.int v14] (zqI B M [])
  refine zw_istore_n (pc := 20) (i := 3) (L2 := [some (.ref q), some (.int x0), some (.int x1), some (.int v14)]) rfl (by decide) rfl d_Group_turn_20 ?_
  refine zw_aload_n (pc := 21) (n := 0) (x := q) rfl d_Group_turn_21 ?_
  refine zc_getF hn13 (pc := 22) f_Group_23 rfl hqk r1f d_Group_turn_22 ?_
  refine zw_iload_n (pc := 25) (n := 3) (x := v14) rfl d_Group_turn_25 ?_
  refine zw_bipush (pc := 26) (v := 24) (by decide) d_Group_turn_26 ?_
  refine zw_imul (pc := 28) d_Group_turn_28 ?_
  refine zw_iload_n (pc := 29) (n := 2) (x := x1) rfl d_Group_turn_29 ?_
  refine zw_iadd (pc := 30) d_Group_turn_30 ?_
  refine zc_callV hn13 (pc := 31) [.int ((v14 * 24) + x1)] [] l_Group_54 (c_IntRow_at l B N10 (hT.mod hn13) r1 r1B (hn13.k r1k) ((v14 * 24) + x1)) rfl rfl r1k (by decide) (by decide) (Nat.le_of_ble_eq_true rfl) d_Group_turn_31 (fun r19 N17 hq18 => ?_)
  obtain ⟨hk22, v21, rfl⟩ := hq18
  have hn20 : zMod B [] M N17 := hn13.call hk22 (by decide)
  show zW l m_Group_turn (zn M + 0, zw M + 0) N17 34 [some (.ref q), some (.int x0), some (.int x1), some (.int v14)] [.int v21] (zqI B M [])
  exact zw_iret (S := []) (pc := 34) (ty := .int) rfl rfl d_Group_turn_34 ⟨hn20, _, rfl⟩
set_option maxHeartbeats 4000000 in
theorem c_Group_turnAll (l : Launch) (B : Nat) (M : zMem) (hT : zTy B M) (q : Nat) (hqB : q < B) (hqk : (zsh M q).1 = 5 + 3) (x0 : Int32) (x1 : Int32) : zC l m_Group_turnAll 0 0 [.ref q, .int x0, .int x1] M (zqI B M []) := by
  refine zC_of (L0 := [some (.ref q), some (.int x0), some (.int x1), none, none]) md_Group_turnAll (Nat.le_of_ble_eq_true rfl) rfl ?_ zQ0
  have hm : zMod B [] M M := zMod.rf
  refine zw_iconst (pc := 0) (v := 0) (by decide) d_Group_turnAll_0 ?_
  refine zw_istore_n (pc := 1) (i := 3) (L2 := [some (.ref q), some (.int x0), some (.int x1), some (.int 0), none]) rfl (by decide) rfl d_Group_turnAll_1 ?_
  refine zw_iconst (pc := 2) (v := 0) (by decide) d_Group_turnAll_2 ?_
  refine zw_istore (pc := 3) (i := 4) (L2 := [some (.ref q), some (.int x0), some (.int x1), some (.int 0), some (.int 0)]) (by decide) rfl d_Group_turnAll_3 ?_
  have lp_5 : ∀ (n : Nat) (u1 : Int32) (u2 : Int32) (N3 : zMem) (hn4 : zMod B [] M N3), zvu u2 (zi M q 7) < n → zW l m_Group_turnAll (zn M + 0, zw M + 0) N3 5 [some (.ref q), some (.int x0), some (.int x1), some (.int u1), some (.int u2)] [] (zqI B M []) := by
    intro n
    induction n with
    | zero =>
      intro u1 u2 N3 hn4 h0
      exact absurd h0 (Nat.not_lt_zero _)
    | succ n ih_5 =>
      intro u1 u2 N3 hn4 hlt_5
      refine zw_iload (pc := 5) (i := 4) (x := u2) rfl d_Group_turnAll_5 ?_
      refine zw_aload_n (pc := 7) (n := 0) (x := q) rfl d_Group_turnAll_7 ?_
      refine zc_getI0 hn4 (pc := 8) (by decide) f_Group_39 rfl hqk d_Group_turnAll_8 ?_
      refine zw_icmp_ge (pc := 11) (tgt := 41) (by decide) d_Group_turnAll_11 (fun hc_11 => ?_) (fun hc_11 => ?_)
      · refine zw_iload_n (pc := 41) (n := 3) (x := u1) rfl d_Group_turnAll_41 ?_
        exact zw_iret (S := []) (pc := 42) (ty := .int) rfl rfl d_Group_turnAll_42 ⟨hn4, _, rfl⟩
      · refine zw_iload_n (pc := 14) (n := 1) (x := x0) rfl d_Group_turnAll_14 ?_
        refine zw_iload (pc := 15) (i := 4) (x := u2) rfl d_Group_turnAll_15 ?_
        refine zc_callS hn4 (pc := 17) [.int x0, .int u2] [] l_Group_73 (c_T_isIn l B N3 (hT.mod hn4) x0 u2) rfl rfl (by decide) (Nat.le_of_ble_eq_true rfl) d_Group_turnAll_17 (fun r7 N5 hq6 => ?_)
        obtain ⟨hk10, v9, rfl, zv9⟩ := hq6
        have hn8 : zMod B [] M N5 := hn4.call hk10 (by decide)
        show zW l m_Group_turnAll (zn M + 0, zw M + 0) N5 20 [some (.ref q), some (.int x0), some (.int x1), some (.int u1), some (.int u2)] [.int v9] (zqI B M [])
        have j_35 : ∀ (u12 : Int32) (N13 : zMem) (hn14 : zMod B [] M N13), zW l m_Group_turnAll (zn M + 0, zw M + 0) N13 35 [some (.ref q), some (.int x0), some (.int x1), some (.int u12), some (.int u2)] [] (zqI B M []) := by
          intro u12 N13 hn14
          refine zw_iinc (pc := 35) (i := 4) (x := u2) (v := u2 + Int32.ofInt 1) (L2 := [some (.ref q), some (.int x0), some (.int x1), some (.int u12), some (.int (u2 + Int32.ofInt 1))]) rfl rfl (by decide) rfl d_Group_turnAll_35 ?_
          refine zw_goto (pc := 38) (tgt := 5) (by decide) d_Group_turnAll_38 ?_
          exact ih_5 u12 (u2 + Int32.ofInt 1) N13 hn14 (Nat.lt_of_lt_of_le (z_up hc_11) (Nat.le_of_lt_succ hlt_5))
        refine zw_if_eq (pc := 20) (tgt := 35) (by decide) d_Group_turnAll_20 (fun hc_20 => ?_) (fun hc_20 => ?_)
        · exact j_35 u1 N5 hn8
        · refine zw_iload_n (pc := 23) (n := 3) (x := u1) rfl d_Group_turnAll_23 ?_
          refine zw_iconst (pc := 24) (v := 1) (by decide) d_Group_turnAll_24 ?_
          refine zw_aload_n (pc := 25) (n := 0) (x := q) rfl d_Group_turnAll_25 ?_
          refine zw_iload (pc := 26) (i := 4) (x := u2) rfl d_Group_turnAll_26 ?_
          refine zw_iload_n (pc := 28) (n := 2) (x := x1) rfl d_Group_turnAll_28 ?_
          refine zc_callV hn8 (pc := 29) [.int u2, .int x1] [.int 1, .int u1] l_Group_77 (c_Group_turn l B N5 (hT.mod hn8) q hqB (hn8.k hqk) u2 x1) rfl rfl hqk (by decide) (by decide) (Nat.le_of_ble_eq_true rfl) d_Group_turnAll_29 (fun r17 N15 hq16 => ?_)
          obtain ⟨hk20, v19, rfl⟩ := hq16
          have hn18 : zMod B [] M N15 := hn8.call hk20 (by decide)
          show zW l m_Group_turnAll (zn M + 0, zw M + 0) N15 32 [some (.ref q), some (.int x0), some (.int x1), some (.int u1), some (.int u2)] [.int v19, .int 1, .int u1] (zqI B M [])
          refine zw_ishl (pc := 32) d_Group_turnAll_32 ?_
          refine zw_ior (pc := 33) d_Group_turnAll_33 ?_
          refine zw_istore_n (pc := 34) (i := 3) (L2 := [some (.ref q), some (.int x0), some (.int x1), some (.int (u1 ||| (1 <<< (v19 &&& 31)))), some (.int u2)]) rfl (by decide) rfl d_Group_turnAll_34 ?_
          exact j_35 (u1 ||| (1 <<< (v19 &&& 31))) N15 hn18
  exact lp_5 _ 0 0 M hm (Nat.lt_succ_self _)
set_option maxHeartbeats 4000000 in
theorem c_Sorts_numberSorts (l : Launch) (B : Nat) (M : zMem) (hT : zTy B M) (q : Nat) (hqB : q < B) (hqk : (zsh M q).1 = 6 + 3) : zC l m_Sorts_numberSorts 0 0 [.ref q] M (zqV B M [(6, 7)]) := by
  refine zC_of (L0 := [some (.ref q), none, none]) md_Sorts_numberSorts (Nat.le_of_ble_eq_true rfl) rfl ?_ zQ0
  have hm : zMod B [(6, 7)] M M := zMod.rf
  refine zw_aload_n (pc := 0) (n := 0) (x := q) rfl d_Sorts_numberSorts_0 ?_
  refine zw_iconst (pc := 1) (v := 0) (by decide) d_Sorts_numberSorts_1 ?_
  refine zc_putI hm (pc := 2) f_Sorts_83 rfl rfl hqk hqB (by decide) rfl rfl d_Sorts_numberSorts_2 (fun N1 hN1 hn2 => ?_)
  refine zw_iconst (pc := 5) (v := 0) (by decide) d_Sorts_numberSorts_5 ?_
  refine zw_istore_n (pc := 6) (i := 1) (L2 := [some (.ref q), some (.int 0), none]) rfl (by decide) rfl d_Sorts_numberSorts_6 ?_
  have lp_7 : ∀ (n : Nat) (u3 : Int32) (N4 : zMem) (hn5 : zMod B [(6, 7)] M N4), zvu u3 (zi M q 6) < n → zW l m_Sorts_numberSorts (zn M + 0, zw M + 0) N4 7 [some (.ref q), some (.int u3), none] [] (zqV B M [(6, 7)]) := by
    intro n
    induction n with
    | zero =>
      intro u3 N4 hn5 h0
      exact absurd h0 (Nat.not_lt_zero _)
    | succ n ih_7 =>
      intro u3 N4 hn5 hlt_7
      refine zw_iload_n (pc := 7) (n := 1) (x := u3) rfl d_Sorts_numberSorts_7 ?_
      refine zw_aload_n (pc := 8) (n := 0) (x := q) rfl d_Sorts_numberSorts_8 ?_
      refine zc_getI0 hn5 (pc := 9) (by decide) f_Sorts_36 rfl hqk d_Sorts_numberSorts_9 ?_
      refine zw_icmp_ge (pc := 12) (tgt := 30) (by decide) d_Sorts_numberSorts_12 (fun hc_12 => ?_) (fun hc_12 => ?_)
      · refine zw_iconst (pc := 30) (v := 0) (by decide) d_Sorts_numberSorts_30 ?_
        refine zw_istore_n (pc := 31) (i := 1) (L2 := [some (.ref q), some (.int 0), none]) rfl (by decide) rfl d_Sorts_numberSorts_31 ?_
        have lp_32 : ∀ (n : Nat) (u6 : Int32) (N7 : zMem) (hn8 : zMod B [(6, 7)] M N7), zvu u6 (zi M q 6) < n → zW l m_Sorts_numberSorts (zn M + 0, zw M + 0) N7 32 [some (.ref q), some (.int u6), none] [] (zqV B M [(6, 7)]) := by
          intro n
          induction n with
          | zero =>
            intro u6 N7 hn8 h0
            exact absurd h0 (Nat.not_lt_zero _)
          | succ n ih_32 =>
            intro u6 N7 hn8 hlt_32
            refine zw_iload_n (pc := 32) (n := 1) (x := u6) rfl d_Sorts_numberSorts_32 ?_
            refine zw_aload_n (pc := 33) (n := 0) (x := q) rfl d_Sorts_numberSorts_33 ?_
            refine zc_getI0 hn8 (pc := 34) (by decide) f_Sorts_36 rfl hqk d_Sorts_numberSorts_34 ?_
            refine zw_icmp_ge (pc := 37) (tgt := 149) (by decide) d_Sorts_numberSorts_37 (fun hc_37 => ?_) (fun hc_37 => ?_)
            · exact zw_vret (S := []) (pc := 149) rfl d_Sorts_numberSorts_149 ⟨hn8, rfl⟩
            · refine zw_aload_n (pc := 40) (n := 0) (x := q) rfl d_Sorts_numberSorts_40 ?_
              obtain ⟨r9, r9f, r9B, r9k⟩ := hT.1 q 6 2 hqB hqk (by decide) (by decide) rfl
              refine zc_getF hn8 (pc := 41) f_Sorts_20 rfl hqk r9f d_Sorts_numberSorts_41 ?_
              refine zw_iload_n (pc := 44) (n := 1) (x := u6) rfl d_Sorts_numberSorts_44 ?_
              refine zc_callV hn8 (pc := 45) [.int u6] [] l_Sorts_49 (c_IntRow_at l B N7 (hT.mod hn8) r9 r9B (hn8.k r9k) u6) rfl rfl r9k (by decide) (by decide) (Nat.le_of_ble_eq_true rfl) d_Sorts_numberSorts_45 (fun r12 N10 hq11 => ?_)
              obtain ⟨hk15, v14, rfl⟩ := hq11
              have hn13 : zMod B [(6, 7)] M N10 := hn8.call hk15 (by decide)
              show zW l m_Sorts_numberSorts (zn M + 0, zw M + 0) N10 48 [some (.ref q), some (.int u6), none] [.int v14] (zqV B M [(6, 7)])
              refine zw_iconst (pc := 48) (v := (-1)) (by decide) d_Sorts_numberSorts_48 ?_
              have j_143 : ∀ (N17 : zMem) (hn18 : zMod B [(6, 7)] M N17), zW l m_Sorts_numberSorts (zn M + 0, zw M + 0) N17 143 [some (.ref q), some (.int u6), none] [] (zqV B M [(6, 7)]) := by
                intro N17 hn18
                refine zw_iinc (pc := 143) (i := 1) (x := u6) (v := u6 + Int32.ofInt 1) (L2 := [some (.ref q), some (.int (u6 + Int32.ofInt 1)), none]) rfl rfl (by decide) rfl d_Sorts_numberSorts_143 ?_
                refine zw_goto (pc := 146) (tgt := 32) (by decide) d_Sorts_numberSorts_146 ?_
                exact ih_32 (u6 + Int32.ofInt 1) N17 hn18 (Nat.lt_of_lt_of_le (z_up hc_37) (Nat.le_of_lt_succ hlt_32))
              refine zw_icmp_ne (pc := 49) (tgt := 143) (by decide) d_Sorts_numberSorts_49 (fun hc_49 => ?_) (fun hc_49 => ?_)
              · exact j_143 N10 hn13
              · refine zw_aload_n (pc := 52) (n := 0) (x := q) rfl d_Sorts_numberSorts_52 ?_
                refine zc_getI hn13 (pc := 53) f_Sorts_83 rfl hqk d_Sorts_numberSorts_53 ?_
                refine zw_bipush (pc := 56) (v := 27) (by decide) d_Sorts_numberSorts_56 ?_
                refine zw_icmp_lt (pc := 58) (tgt := 64) (by decide) d_Sorts_numberSorts_58 (fun hc_58 => ?_) (fun hc_58 => ?_)
                · refine zw_aload_n (pc := 64) (n := 0) (x := q) rfl d_Sorts_numberSorts_64 ?_
                  obtain ⟨r19, r19f, r19B, r19k⟩ := hT.1 q 6 4 hqB hqk (by decide) (by decide) rfl
                  refine zc_getF hn13 (pc := 65) f_Sorts_26 rfl hqk r19f d_Sorts_numberSorts_65 ?_
                  refine zw_aload_n (pc := 68) (n := 0) (x := q) rfl d_Sorts_numberSorts_68 ?_
                  refine zc_getI hn13 (pc := 69) f_Sorts_83 rfl hqk d_Sorts_numberSorts_69 ?_
                  refine zw_aload_n (pc := 72) (n := 0) (x := q) rfl d_Sorts_numberSorts_72 ?_
                  obtain ⟨r20, r20f, r20B, r20k⟩ := hT.1 q 6 1 hqB hqk (by decide) (by decide) rfl
                  refine zc_getF hn13 (pc := 73) f_Sorts_14 rfl hqk r20f d_Sorts_numberSorts_73 ?_
                  refine zw_iload_n (pc := 76) (n := 1) (x := u6) rfl d_Sorts_numberSorts_76 ?_
                  refine zc_callV hn13 (pc := 77) [.int u6] [.int (zi N10 q 7), .ref r19] l_Sorts_49 (c_IntRow_at l B N10 (hT.mod hn13) r20 r20B (hn13.k r20k) u6) rfl rfl r20k (by decide) (by decide) (Nat.le_of_ble_eq_true rfl) d_Sorts_numberSorts_77 (fun r23 N21 hq22 => ?_)
                  obtain ⟨hk26, v25, rfl⟩ := hq22
                  have hn24 : zMod B [(6, 7)] M N21 := hn13.call hk26 (by decide)
                  show zW l m_Sorts_numberSorts (zn M + 0, zw M + 0) N21 80 [some (.ref q), some (.int u6), none] [.int v25, .int (zi N10 q 7), .ref r19] (zqV B M [(6, 7)])
                  refine zc_callV hn24 (pc := 80) [.int (zi N10 q 7), .int v25] [] l_Sorts_40 (c_IntRow_put l B N21 (hT.mod hn24) r19 r19B (hn24.k r19k) (zi N10 q 7) v25) rfl rfl r19k (by decide) (by decide) (Nat.le_of_ble_eq_true rfl) d_Sorts_numberSorts_80 (fun r30 N28 hq29 => ?_)
                  obtain ⟨hk33, rfl⟩ := hq29
                  have hn31 : zMod B [(6, 7)] M N28 := hn24.call hk33 (by decide)
                  show zW l m_Sorts_numberSorts (zn M + 0, zw M + 0) N28 83 [some (.ref q), some (.int u6), none] [] (zqV B M [(6, 7)])
                  refine zw_iconst (pc := 83) (v := 0) (by decide) d_Sorts_numberSorts_83 ?_
                  refine zw_istore_n (pc := 84) (i := 2) (L2 := [some (.ref q), some (.int u6), some (.int 0)]) rfl (by decide) rfl d_Sorts_numberSorts_84 ?_
                  obtain ⟨r38, r38f, r38B, r38k⟩ := hT.1 q 6 0 hqB hqk (by decide) (by decide) rfl
                  have lp_85 : ∀ (n : Nat) (u35 : Int32) (N36 : zMem) (hn37 : zMod B [(6, 7)] M N36), zvu u35 (zi M r38 7) < n → zW l m_Sorts_numberSorts (zn M + 0, zw M + 0) N36 85 [some (.ref q), some (.int u6), some (.int u35)] [] (zqV B M [(6, 7)]) := by
                    intro n
                    induction n with
                    | zero =>
                      intro u35 N36 hn37 h0
                      exact absurd h0 (Nat.not_lt_zero _)
                    | succ n ih_85 =>
                      intro u35 N36 hn37 hlt_85
                      refine zw_iload_n (pc := 85) (n := 2) (x := u35) rfl d_Sorts_numberSorts_85 ?_
                      refine zw_aload_n (pc := 86) (n := 0) (x := q) rfl d_Sorts_numberSorts_86 ?_
                      refine zc_getF hn37 (pc := 87) f_Sorts_32 rfl hqk r38f d_Sorts_numberSorts_87 ?_
                      refine zc_getI0 hn37 (pc := 90) (by decide) f_Sorts_44 rfl r38k d_Sorts_numberSorts_90 ?_
                      refine zw_icmp_ge (pc := 93) (tgt := 133) (by decide) d_Sorts_numberSorts_93 (fun hc_93 => ?_) (fun hc_93 => ?_)
                      · refine zw_aload_n (pc := 133) (n := 0) (x := q) rfl d_Sorts_numberSorts_133 ?_
                        refine zw_dup (pc := 134) rfl d_Sorts_numberSorts_134 ?_
                        refine zc_getI hn37 (pc := 135) f_Sorts_83 rfl hqk d_Sorts_numberSorts_135 ?_
                        refine zw_iconst (pc := 138) (v := 1) (by decide) d_Sorts_numberSorts_138 ?_
                        refine zw_iadd (pc := 139) d_Sorts_numberSorts_139 ?_
                        refine zc_putI hn37 (pc := 140) f_Sorts_83 rfl rfl hqk hqB (by decide) rfl rfl d_Sorts_numberSorts_140 (fun N39 hN39 hn40 => ?_)
                        refine zW_le [some (.ref q), some (.int u6), none] (⟨rfl, rfl, trivial⟩) ?_
                        exact j_143 N39 hn40
                      · refine zw_aload_n (pc := 96) (n := 0) (x := q) rfl d_Sorts_numberSorts_96 ?_
                        refine zc_getF hn37 (pc := 97) f_Sorts_20 rfl hqk r9f d_Sorts_numberSorts_97 ?_
                        refine zw_aload_n (pc := 100) (n := 0) (x := q) rfl d_Sorts_numberSorts_100 ?_
                        refine zw_aload_n (pc := 101) (n := 0) (x := q) rfl d_Sorts_numberSorts_101 ?_
                        refine zc_getF hn37 (pc := 102) f_Sorts_32 rfl hqk r38f d_Sorts_numberSorts_102 ?_
                        refine zw_aload_n (pc := 105) (n := 0) (x := q) rfl d_Sorts_numberSorts_105 ?_
                        refine zc_getF hn37 (pc := 106) f_Sorts_14 rfl hqk r20f d_Sorts_numberSorts_106 ?_
                        refine zw_iload_n (pc := 109) (n := 1) (x := u6) rfl d_Sorts_numberSorts_109 ?_
                        refine zc_callV hn37 (pc := 110) [.int u6] [.ref r38, .ref q, .ref r9] l_Sorts_49 (c_IntRow_at l B N36 (hT.mod hn37) r20 r20B (hn37.k r20k) u6) rfl rfl r20k (by decide) (by decide) (Nat.le_of_ble_eq_true rfl) d_Sorts_numberSorts_110 (fun r43 N41 hq42 => ?_)
                        obtain ⟨hk46, v45, rfl⟩ := hq42
                        have hn44 : zMod B [(6, 7)] M N41 := hn37.call hk46 (by decide)
                        show zW l m_Sorts_numberSorts (zn M + 0, zw M + 0) N41 113 [some (.ref q), some (.int u6), some (.int u35)] [.int v45, .ref r38, .ref q, .ref r9] (zqV B M [(6, 7)])
                        refine zw_iload_n (pc := 113) (n := 2) (x := u35) rfl d_Sorts_numberSorts_113 ?_
                        refine zc_callV hn44 (pc := 114) [.int v45, .int u35] [.ref q, .ref r9] l_Sorts_86 (c_Group_turnAll l B N41 (hT.mod hn44) r38 r38B (hn44.k r38k) v45 u35) rfl rfl r38k (by decide) (by decide) (Nat.le_of_ble_eq_true rfl) d_Sorts_numberSorts_114 (fun r50 N48 hq49 => ?_)
                        obtain ⟨hk53, v52, rfl⟩ := hq49
                        have hn51 : zMod B [(6, 7)] M N48 := hn44.call hk53 (by decide)
                        show zW l m_Sorts_numberSorts (zn M + 0, zw M + 0) N48 117 [some (.ref q), some (.int u6), some (.int u35)] [.int v52, .ref q, .ref r9] (zqV B M [(6, 7)])
                        refine zc_callV hn51 (pc := 117) [.int v52] [.ref r9] l_Sorts_72 (c_Sorts_indexOf l B N48 (hT.mod hn51) q hqB (hn51.k hqk) v52) rfl rfl hqk (by decide) (by decide) (Nat.le_of_ble_eq_true rfl) d_Sorts_numberSorts_117 (fun r57 N55 hq56 => ?_)
                        obtain ⟨hk60, v59, rfl⟩ := hq56
                        have hn58 : zMod B [(6, 7)] M N55 := hn51.call hk60 (by decide)
                        show zW l m_Sorts_numberSorts (zn M + 0, zw M + 0) N55 120 [some (.ref q), some (.int u6), some (.int u35)] [.int v59, .ref r9] (zqV B M [(6, 7)])
                        refine zw_aload_n (pc := 120) (n := 0) (x := q) rfl d_Sorts_numberSorts_120 ?_
                        refine zc_getI hn58 (pc := 121) f_Sorts_83 rfl hqk d_Sorts_numberSorts_121 ?_
                        refine zc_callV hn58 (pc := 124) [.int v59, .int (zi N55 q 7)] [] l_Sorts_40 (c_IntRow_put l B N55 (hT.mod hn58) r9 r9B (hn58.k r9k) v59 (zi N55 q 7)) rfl rfl r9k (by decide) (by decide) (Nat.le_of_ble_eq_true rfl) d_Sorts_numberSorts_124 (fun r64 N62 hq63 => ?_)
                        obtain ⟨hk67, rfl⟩ := hq63
                        have hn65 : zMod B [(6, 7)] M N62 := hn58.call hk67 (by decide)
                        show zW l m_Sorts_numberSorts (zn M + 0, zw M + 0) N62 127 [some (.ref q), some (.int u6), some (.int u35)] [] (zqV B M [(6, 7)])
                        refine zw_iinc (pc := 127) (i := 2) (x := u35) (v := u35 + Int32.ofInt 1) (L2 := [some (.ref q), some (.int u6), some (.int (u35 + Int32.ofInt 1))]) rfl rfl (by decide) rfl d_Sorts_numberSorts_127 ?_
                        refine zw_goto (pc := 130) (tgt := 85) (by decide) d_Sorts_numberSorts_130 ?_
                        exact ih_85 (u35 + Int32.ofInt 1) N62 hn65 (Nat.lt_of_lt_of_le (z_up hc_93) (Nat.le_of_lt_succ hlt_85))
                  exact lp_85 _ 0 N28 hn31 (Nat.lt_succ_self _)
                · refine zw_goto (pc := 61) (tgt := 143) (by decide) d_Sorts_numberSorts_61 ?_
                  exact j_143 N10 hn13
        exact lp_32 _ 0 N4 hn5 (Nat.lt_succ_self _)
      · refine zw_aload_n (pc := 15) (n := 0) (x := q) rfl d_Sorts_numberSorts_15 ?_
        obtain ⟨r69, r69f, r69B, r69k⟩ := hT.1 q 6 2 hqB hqk (by decide) (by decide) rfl
        refine zc_getF hn5 (pc := 16) f_Sorts_20 rfl hqk r69f d_Sorts_numberSorts_16 ?_
        refine zw_iload_n (pc := 19) (n := 1) (x := u3) rfl d_Sorts_numberSorts_19 ?_
        refine zw_iconst (pc := 20) (v := (-1)) (by decide) d_Sorts_numberSorts_20 ?_
        refine zc_callV hn5 (pc := 21) [.int u3, .int ((-1))] [] l_Sorts_40 (c_IntRow_put l B N4 (hT.mod hn5) r69 r69B (hn5.k r69k) u3 ((-1))) rfl rfl r69k (by decide) (by decide) (Nat.le_of_ble_eq_true rfl) d_Sorts_numberSorts_21 (fun r72 N70 hq71 => ?_)
        obtain ⟨hk75, rfl⟩ := hq71
        have hn73 : zMod B [(6, 7)] M N70 := hn5.call hk75 (by decide)
        show zW l m_Sorts_numberSorts (zn M + 0, zw M + 0) N70 24 [some (.ref q), some (.int u3), none] [] (zqV B M [(6, 7)])
        refine zw_iinc (pc := 24) (i := 1) (x := u3) (v := u3 + Int32.ofInt 1) (L2 := [some (.ref q), some (.int (u3 + Int32.ofInt 1)), none]) rfl rfl (by decide) rfl d_Sorts_numberSorts_24 ?_
        refine zw_goto (pc := 27) (tgt := 7) (by decide) d_Sorts_numberSorts_27 ?_
        exact ih_7 (u3 + Int32.ofInt 1) N70 hn73 (Nat.lt_of_lt_of_le (z_up hc_12) (Nat.le_of_lt_succ hlt_7))
  exact lp_7 _ 0 N1 hn2 (Nat.lt_succ_self _)
set_option maxHeartbeats 4000000 in
theorem c_T_isPart (l : Launch) (B : Nat) (M : zMem) (hT : zTy B M) (x0 : Int32) (x1 : Int32) : zC l m_T_isPart 0 0 [.int x0, .int x1] M (zqZ B M []) := by
  refine zC_of (L0 := [some (.int x0), some (.int x1)]) md_T_isPart (Nat.le_of_ble_eq_true rfl) rfl ?_ zQ0
  have hm : zMod B [] M M := zMod.rf
  refine zw_iload_n (pc := 0) (n := 0) (x := x0) rfl d_T_isPart_0 ?_
  refine zw_iload_n (pc := 1) (n := 1) (x := x1) rfl d_T_isPart_1 ?_
  refine zw_iconst (pc := 2) (v := (-1)) (by decide) d_T_isPart_2 ?_
  refine zw_ixor (pc := 3) d_T_isPart_3 ?_
  refine zw_iand (pc := 4) d_T_isPart_4 ?_
  refine zw_if_ne (pc := 5) (tgt := 12) (by decide) d_T_isPart_5 (fun hc_5 => ?_) (fun hc_5 => ?_)
  · refine zw_iconst (pc := 12) (v := 0) (by decide) d_T_isPart_12 ?_
    exact zw_iret (S := []) (pc := 13) (ty := .boolean) rfl (z_narZ (Or.inl rfl)) d_T_isPart_13 ⟨hm, _, rfl, Or.inl rfl⟩
  · refine zw_iconst (pc := 8) (v := 1) (by decide) d_T_isPart_8 ?_
    refine zw_goto (pc := 9) (tgt := 13) (by decide) d_T_isPart_9 ?_
    exact zw_iret (S := []) (pc := 13) (ty := .boolean) rfl (z_narZ (Or.inr rfl)) d_T_isPart_13 ⟨hm, _, rfl, Or.inr rfl⟩
set_option maxHeartbeats 4000000 in
theorem c_Sorts_markAt (l : Launch) (B : Nat) (M : zMem) (hT : zTy B M) (q : Nat) (hqB : q < B) (hqk : (zsh M q).1 = 6 + 3) (x0 : Int32) (x1 : Int32) : zC l m_Sorts_markAt 0 0 [.ref q, .int x0, .int x1] M (zqI B M []) := by
  refine zC_of (L0 := [some (.ref q), some (.int x0), some (.int x1)]) md_Sorts_markAt (Nat.le_of_ble_eq_true rfl) rfl ?_ zQ0
  have hm : zMod B [] M M := zMod.rf
  refine zw_aload_n (pc := 0) (n := 0) (x := q) rfl d_Sorts_markAt_0 ?_
  obtain ⟨r1, r1f, r1B, r1k⟩ := hT.1 q 6 5 hqB hqk (by decide) (by decide) rfl
  refine zc_getF hm (pc := 1) f_Sorts_29 rfl hqk r1f d_Sorts_markAt_1 ?_
  refine zw_iload_n (pc := 4) (n := 1) (x := x0) rfl d_Sorts_markAt_4 ?_
  refine zw_bipush (pc := 5) (v := 27) (by decide) d_Sorts_markAt_5 ?_
  refine zw_imul (pc := 7) d_Sorts_markAt_7 ?_
  refine zw_iload_n (pc := 8) (n := 2) (x := x1) rfl d_Sorts_markAt_8 ?_
  refine zw_iadd (pc := 9) d_Sorts_markAt_9 ?_
  refine zc_callV hm (pc := 10) [.int ((x0 * 27) + x1)] [] l_Sorts_49 (c_IntRow_at l B M (hT.mod hm) r1 r1B (hm.k r1k) ((x0 * 27) + x1)) rfl rfl r1k (by decide) (by decide) (Nat.le_of_ble_eq_true rfl) d_Sorts_markAt_10 (fun r4 N2 hq3 => ?_)
  obtain ⟨hk7, v6, rfl⟩ := hq3
  have hn5 : zMod B [] M N2 := hm.call hk7 (by decide)
  show zW l m_Sorts_markAt (zn M + 0, zw M + 0) N2 13 [some (.ref q), some (.int x0), some (.int x1)] [.int v6] (zqI B M [])
  exact zw_iret (S := []) (pc := 13) (ty := .int) rfl rfl d_Sorts_markAt_13 ⟨hn5, _, rfl⟩
set_option maxHeartbeats 4000000 in
theorem c_Sorts_countTurned (l : Launch) (B : Nat) (M : zMem) (hT : zTy B M) (q : Nat) (hqB : q < B) (hqk : (zsh M q).1 = 6 + 3) (x0 : Int32) (x1 : Int32) : zC l m_Sorts_countTurned 0 0 [.ref q, .int x0, .int x1] M (zqV B M []) := by
  refine zC_of (L0 := [some (.ref q), some (.int x0), some (.int x1), none]) md_Sorts_countTurned (Nat.le_of_ble_eq_true rfl) rfl ?_ zQ0
  have hm : zMod B [] M M := zMod.rf
  refine zw_iconst (pc := 0) (v := 0) (by decide) d_Sorts_countTurned_0 ?_
  refine zw_istore_n (pc := 1) (i := 3) (L2 := [some (.ref q), some (.int x0), some (.int x1), some (.int 0)]) rfl (by decide) rfl d_Sorts_countTurned_1 ?_
  have lp_2 : ∀ (n : Nat) (u1 : Int32) (N2 : zMem) (hn3 : zMod B [] M N2), zvu u1 (zi M q 7) < n → zW l m_Sorts_countTurned (zn M + 0, zw M + 0) N2 2 [some (.ref q), some (.int x0), some (.int x1), some (.int u1)] [] (zqV B M []) := by
    intro n
    induction n with
    | zero =>
      intro u1 N2 hn3 h0
      exact absurd h0 (Nat.not_lt_zero _)
    | succ n ih_2 =>
      intro u1 N2 hn3 hlt_2
      refine zw_iload_n (pc := 2) (n := 3) (x := u1) rfl d_Sorts_countTurned_2 ?_
      refine zw_aload_n (pc := 3) (n := 0) (x := q) rfl d_Sorts_countTurned_3 ?_
      refine zc_getI0 hn3 (pc := 4) (by decide) f_Sorts_83 rfl hqk d_Sorts_countTurned_4 ?_
      refine zw_icmp_ge (pc := 7) (tgt := 52) (by decide) d_Sorts_countTurned_7 (fun hc_7 => ?_) (fun hc_7 => ?_)
      · exact zw_vret (S := []) (pc := 52) rfl d_Sorts_countTurned_52 ⟨hn3, rfl⟩
      · refine zw_iload_n (pc := 10) (n := 1) (x := x0) rfl d_Sorts_countTurned_10 ?_
        refine zw_aload_n (pc := 11) (n := 0) (x := q) rfl d_Sorts_countTurned_11 ?_
        obtain ⟨r4, r4f, r4B, r4k⟩ := hT.1 q 6 4 hqB hqk (by decide) (by decide) rfl
        refine zc_getF hn3 (pc := 12) f_Sorts_26 rfl hqk r4f d_Sorts_countTurned_12 ?_
        refine zw_iload_n (pc := 15) (n := 3) (x := u1) rfl d_Sorts_countTurned_15 ?_
        refine zc_callV hn3 (pc := 16) [.int u1] [.int x0] l_Sorts_49 (c_IntRow_at l B N2 (hT.mod hn3) r4 r4B (hn3.k r4k) u1) rfl rfl r4k (by decide) (by decide) (Nat.le_of_ble_eq_true rfl) d_Sorts_countTurned_16 (fun r7 N5 hq6 => ?_)
        obtain ⟨hk10, v9, rfl⟩ := hq6
        have hn8 : zMod B [] M N5 := hn3.call hk10 (by decide)
        show zW l m_Sorts_countTurned (zn M + 0, zw M + 0) N5 19 [some (.ref q), some (.int x0), some (.int x1), some (.int u1)] [.int v9, .int x0] (zqV B M [])
        refine zc_callS hn8 (pc := 19) [.int x0, .int v9] [] l_Sorts_96 (c_T_isPart l B N5 (hT.mod hn8) x0 v9) rfl rfl (by decide) (Nat.le_of_ble_eq_true rfl) d_Sorts_countTurned_19 (fun r14 N12 hq13 => ?_)
        obtain ⟨hk17, v16, rfl, zv16⟩ := hq13
        have hn15 : zMod B [] M N12 := hn8.call hk17 (by decide)
        show zW l m_Sorts_countTurned (zn M + 0, zw M + 0) N12 22 [some (.ref q), some (.int x0), some (.int x1), some (.int u1)] [.int v16] (zqV B M [])
        have j_46 : ∀ (N19 : zMem) (hn20 : zMod B [] M N19), zW l m_Sorts_countTurned (zn M + 0, zw M + 0) N19 46 [some (.ref q), some (.int x0), some (.int x1), some (.int u1)] [] (zqV B M []) := by
          intro N19 hn20
          refine zw_iinc (pc := 46) (i := 3) (x := u1) (v := u1 + Int32.ofInt 1) (L2 := [some (.ref q), some (.int x0), some (.int x1), some (.int (u1 + Int32.ofInt 1))]) rfl rfl (by decide) rfl d_Sorts_countTurned_46 ?_
          refine zw_goto (pc := 49) (tgt := 2) (by decide) d_Sorts_countTurned_49 ?_
          exact ih_2 (u1 + Int32.ofInt 1) N19 hn20 (Nat.lt_of_lt_of_le (z_up hc_7) (Nat.le_of_lt_succ hlt_2))
        refine zw_if_eq (pc := 22) (tgt := 46) (by decide) d_Sorts_countTurned_22 (fun hc_22 => ?_) (fun hc_22 => ?_)
        · exact j_46 N12 hn15
        · refine zw_aload_n (pc := 25) (n := 0) (x := q) rfl d_Sorts_countTurned_25 ?_
          obtain ⟨r21, r21f, r21B, r21k⟩ := hT.1 q 6 5 hqB hqk (by decide) (by decide) rfl
          refine zc_getF hn15 (pc := 26) f_Sorts_29 rfl hqk r21f d_Sorts_countTurned_26 ?_
          refine zw_iload_n (pc := 29) (n := 3) (x := u1) rfl d_Sorts_countTurned_29 ?_
          refine zw_bipush (pc := 30) (v := 27) (by decide) d_Sorts_countTurned_30 ?_
          refine zw_imul (pc := 32) d_Sorts_countTurned_32 ?_
          refine zw_iload_n (pc := 33) (n := 2) (x := x1) rfl d_Sorts_countTurned_33 ?_
          refine zw_iadd (pc := 34) d_Sorts_countTurned_34 ?_
          refine zw_aload_n (pc := 35) (n := 0) (x := q) rfl d_Sorts_countTurned_35 ?_
          refine zw_iload_n (pc := 36) (n := 3) (x := u1) rfl d_Sorts_countTurned_36 ?_
          refine zw_iload_n (pc := 37) (n := 2) (x := x1) rfl d_Sorts_countTurned_37 ?_
          refine zc_callV hn15 (pc := 38) [.int u1, .int x1] [.int ((u1 * 27) + x1), .ref r21] l_Sorts_93 (c_Sorts_markAt l B N12 (hT.mod hn15) q hqB (hn15.k hqk) u1 x1) rfl rfl hqk (by decide) (by decide) (Nat.le_of_ble_eq_true rfl) d_Sorts_countTurned_38 (fun r24 N22 hq23 => ?_)
          obtain ⟨hk27, v26, rfl⟩ := hq23
          have hn25 : zMod B [] M N22 := hn15.call hk27 (by decide)
          show zW l m_Sorts_countTurned (zn M + 0, zw M + 0) N22 41 [some (.ref q), some (.int x0), some (.int x1), some (.int u1)] [.int v26, .int ((u1 * 27) + x1), .ref r21] (zqV B M [])
          refine zw_iconst (pc := 41) (v := 1) (by decide) d_Sorts_countTurned_41 ?_
          refine zw_iadd (pc := 42) d_Sorts_countTurned_42 ?_
          refine zc_callV hn25 (pc := 43) [.int ((u1 * 27) + x1), .int (v26 + 1)] [] l_Sorts_40 (c_IntRow_put l B N22 (hT.mod hn25) r21 r21B (hn25.k r21k) ((u1 * 27) + x1) (v26 + 1)) rfl rfl r21k (by decide) (by decide) (Nat.le_of_ble_eq_true rfl) d_Sorts_countTurned_43 (fun r31 N29 hq30 => ?_)
          obtain ⟨hk34, rfl⟩ := hq30
          have hn32 : zMod B [] M N29 := hn25.call hk34 (by decide)
          show zW l m_Sorts_countTurned (zn M + 0, zw M + 0) N29 46 [some (.ref q), some (.int x0), some (.int x1), some (.int u1)] [] (zqV B M [])
          exact j_46 N29 hn32
  exact lp_2 _ 0 M hm (Nat.lt_succ_self _)
set_option maxHeartbeats 4000000 in
theorem c_Sorts_fillTable (l : Launch) (B : Nat) (M : zMem) (hT : zTy B M) (q : Nat) (hqB : q < B) (hqk : (zsh M q).1 = 6 + 3) : zC l m_Sorts_fillTable 0 0 [.ref q] M (zqV B M []) := by
  refine zC_of (L0 := [some (.ref q), none, none, none]) md_Sorts_fillTable (Nat.le_of_ble_eq_true rfl) rfl ?_ zQ0
  have hm : zMod B [] M M := zMod.rf
  refine zw_iconst (pc := 0) (v := 0) (by decide) d_Sorts_fillTable_0 ?_
  refine zw_istore_n (pc := 1) (i := 1) (L2 := [some (.ref q), some (.int 0), none, none]) rfl (by decide) rfl d_Sorts_fillTable_1 ?_
  have lp_2 : ∀ (n : Nat) (u1 : Int32) (N2 : zMem) (hn3 : zMod B [] M N2), zvu u1 (zi M q 7) < n → zW l m_Sorts_fillTable (zn M + 0, zw M + 0) N2 2 [some (.ref q), some (.int u1), none, none] [] (zqV B M []) := by
    intro n
    induction n with
    | zero =>
      intro u1 N2 hn3 h0
      exact absurd h0 (Nat.not_lt_zero _)
    | succ n ih_2 =>
      intro u1 N2 hn3 hlt_2
      refine zw_iload_n (pc := 2) (n := 1) (x := u1) rfl d_Sorts_fillTable_2 ?_
      refine zw_aload_n (pc := 3) (n := 0) (x := q) rfl d_Sorts_fillTable_3 ?_
      refine zc_getI0 hn3 (pc := 4) (by decide) f_Sorts_83 rfl hqk d_Sorts_fillTable_4 ?_
      refine zw_icmp_ge (pc := 7) (tgt := 143) (by decide) d_Sorts_fillTable_7 (fun hc_7 => ?_) (fun hc_7 => ?_)
      · exact zw_vret (S := []) (pc := 143) rfl d_Sorts_fillTable_143 ⟨hn3, rfl⟩
      · refine zw_iconst (pc := 10) (v := 0) (by decide) d_Sorts_fillTable_10 ?_
        refine zw_istore_n (pc := 11) (i := 2) (L2 := [some (.ref q), some (.int u1), some (.int 0), none]) rfl (by decide) rfl d_Sorts_fillTable_11 ?_
        have lp_12 : ∀ (n : Nat) (u4 : Int32) (N5 : zMem) (hn6 : zMod B [] M N5), zvu u4 (zi M q 7) < n → zW l m_Sorts_fillTable (zn M + 0, zw M + 0) N5 12 [some (.ref q), some (.int u1), some (.int u4), none] [] (zqV B M []) := by
          intro n
          induction n with
          | zero =>
            intro u4 N5 hn6 h0
            exact absurd h0 (Nat.not_lt_zero _)
          | succ n ih_12 =>
            intro u4 N5 hn6 hlt_12
            refine zw_iload_n (pc := 12) (n := 2) (x := u4) rfl d_Sorts_fillTable_12 ?_
            refine zw_aload_n (pc := 13) (n := 0) (x := q) rfl d_Sorts_fillTable_13 ?_
            refine zc_getI0 hn6 (pc := 14) (by decide) f_Sorts_83 rfl hqk d_Sorts_fillTable_14 ?_
            refine zw_icmp_ge (pc := 17) (tgt := 40) (by decide) d_Sorts_fillTable_17 (fun hc_17 => ?_) (fun hc_17 => ?_)
            · refine zw_iconst (pc := 40) (v := 0) (by decide) d_Sorts_fillTable_40 ?_
              refine zw_istore_n (pc := 41) (i := 2) (L2 := [some (.ref q), some (.int u1), some (.int 0), none]) rfl (by decide) rfl d_Sorts_fillTable_41 ?_
              obtain ⟨r10, r10f, r10B, r10k⟩ := hT.1 q 6 0 hqB hqk (by decide) (by decide) rfl
              have lp_42 : ∀ (n : Nat) (u7 : Int32) (N8 : zMem) (hn9 : zMod B [] M N8), zvu u7 (zi M r10 7) < n → zW l m_Sorts_fillTable (zn M + 0, zw M + 0) N8 42 [some (.ref q), some (.int u1), some (.int u7), none] [] (zqV B M []) := by
                intro n
                induction n with
                | zero =>
                  intro u7 N8 hn9 h0
                  exact absurd h0 (Nat.not_lt_zero _)
                | succ n ih_42 =>
                  intro u7 N8 hn9 hlt_42
                  refine zw_iload_n (pc := 42) (n := 2) (x := u7) rfl d_Sorts_fillTable_42 ?_
                  refine zw_aload_n (pc := 43) (n := 0) (x := q) rfl d_Sorts_fillTable_43 ?_
                  refine zc_getF hn9 (pc := 44) f_Sorts_32 rfl hqk r10f d_Sorts_fillTable_44 ?_
                  refine zc_getI0 hn9 (pc := 47) (by decide) f_Sorts_44 rfl r10k d_Sorts_fillTable_47 ?_
                  refine zw_icmp_ge (pc := 50) (tgt := 80) (by decide) d_Sorts_fillTable_50 (fun hc_50 => ?_) (fun hc_50 => ?_)
                  · refine zw_iconst (pc := 80) (v := 0) (by decide) d_Sorts_fillTable_80 ?_
                    refine zw_istore_n (pc := 81) (i := 2) (L2 := [some (.ref q), some (.int u1), some (.int 0), none]) rfl (by decide) rfl d_Sorts_fillTable_81 ?_
                    have lp_82 : ∀ (n : Nat) (u11 : Int32) (N12 : zMem) (hn13 : zMod B [] M N12), zvu u11 (zi M q 7) < n → zW l m_Sorts_fillTable (zn M + 0, zw M + 0) N12 82 [some (.ref q), some (.int u1), some (.int u11), none] [] (zqV B M []) := by
                      intro n
                      induction n with
                      | zero =>
                        intro u11 N12 hn13 h0
                        exact absurd h0 (Nat.not_lt_zero _)
                      | succ n ih_82 =>
                        intro u11 N12 hn13 hlt_82
                        refine zw_iload_n (pc := 82) (n := 2) (x := u11) rfl d_Sorts_fillTable_82 ?_
                        refine zw_aload_n (pc := 83) (n := 0) (x := q) rfl d_Sorts_fillTable_83 ?_
                        refine zc_getI0 hn13 (pc := 84) (by decide) f_Sorts_83 rfl hqk d_Sorts_fillTable_84 ?_
                        refine zw_icmp_ge (pc := 87) (tgt := 137) (by decide) d_Sorts_fillTable_87 (fun hc_87 => ?_) (fun hc_87 => ?_)
                        · refine zw_iinc (pc := 137) (i := 1) (x := u1) (v := u1 + Int32.ofInt 1) (L2 := [some (.ref q), some (.int (u1 + Int32.ofInt 1)), some (.int u11), none]) rfl rfl (by decide) rfl d_Sorts_fillTable_137 ?_
                          refine zw_goto (pc := 140) (tgt := 2) (by decide) d_Sorts_fillTable_140 ?_
                          refine zW_le [some (.ref q), some (.int (u1 + Int32.ofInt 1)), none, none] (⟨rfl, rfl, trivial⟩) ?_
                          exact ih_2 (u1 + Int32.ofInt 1) N12 hn13 (Nat.lt_of_lt_of_le (z_up hc_7) (Nat.le_of_lt_succ hlt_2))
                        · refine zw_aload_n (pc := 90) (n := 0) (x := q) rfl d_Sorts_fillTable_90 ?_
                          obtain ⟨r14, r14f, r14B, r14k⟩ := hT.1 q 6 4 hqB hqk (by decide) (by decide) rfl
                          refine zc_getF hn13 (pc := 91) f_Sorts_26 rfl hqk r14f d_Sorts_fillTable_91 ?_
                          refine zw_iload_n (pc := 94) (n := 2) (x := u11) rfl d_Sorts_fillTable_94 ?_
                          refine zc_callV hn13 (pc := 95) [.int u11] [] l_Sorts_49 (c_IntRow_at l B N12 (hT.mod hn13) r14 r14B (hn13.k r14k) u11) rfl rfl r14k (by decide) (by decide) (Nat.le_of_ble_eq_true rfl) d_Sorts_fillTable_95 (fun r17 N15 hq16 => ?_)
                          obtain ⟨hk20, v19, rfl⟩ := hq16
                          have hn18 : zMod B [] M N15 := hn13.call hk20 (by decide)
                          show zW l m_Sorts_fillTable (zn M + 0, zw M + 0) N15 98 [some (.ref q), some (.int u1), some (.int u11), none] [.int v19] (zqV B M [])
                          refine zc_callS hn18 (pc := 98) [.int v19] [] l_Sorts_78 (c_Integer_bitCount l B N15 (hT.mod hn18) v19) rfl rfl (by decide) (Nat.le_of_ble_eq_true rfl) d_Sorts_fillTable_98 (fun r24 N22 hq23 => ?_)
                          obtain ⟨hq23, ex28⟩ := hq23
                          obtain ⟨hk27, v26, rfl⟩ := hq23
                          have hn25 : zMod B [] M N22 := hn18.call hk27 (by decide)
                          show zW l m_Sorts_fillTable (zn M + 0, zw M + 0) N22 101 [some (.ref q), some (.int u1), some (.int u11), none] [.int v26] (zqV B M [])
                          refine zw_istore_n (pc := 101) (i := 3) (L2 := [some (.ref q), some (.int u1), some (.int u11), some (.int v26)]) rfl (by decide) rfl d_Sorts_fillTable_101 ?_
                          refine zw_aload_n (pc := 102) (n := 0) (x := q) rfl d_Sorts_fillTable_102 ?_
                          obtain ⟨r29, r29f, r29B, r29k⟩ := hT.1 q 6 5 hqB hqk (by decide) (by decide) rfl
                          refine zc_getF hn25 (pc := 103) f_Sorts_29 rfl hqk r29f d_Sorts_fillTable_103 ?_
                          refine zw_iload_n (pc := 106) (n := 2) (x := u11) rfl d_Sorts_fillTable_106 ?_
                          refine zw_bipush (pc := 107) (v := 27) (by decide) d_Sorts_fillTable_107 ?_
                          refine zw_imul (pc := 109) d_Sorts_fillTable_109 ?_
                          refine zw_iload_n (pc := 110) (n := 1) (x := u1) rfl d_Sorts_fillTable_110 ?_
                          refine zw_iadd (pc := 111) d_Sorts_fillTable_111 ?_
                          refine zw_iload_n (pc := 112) (n := 3) (x := v26) rfl d_Sorts_fillTable_112 ?_
                          have j_128 : ∀ (u30 : Int32) (N31 : zMem) (hn32 : zMod B [] M N31), zW l m_Sorts_fillTable (zn M + 0, zw M + 0) N31 128 [some (.ref q), some (.int u1), some (.int u11), some (.int v26)] [.int u30, .int ((u11 * 27) + u1), .ref r29] (zqV B M []) := by
                            intro u30 N31 hn32
                            refine zc_callV hn32 (pc := 128) [.int ((u11 * 27) + u1), .int u30] [] l_Sorts_40 (c_IntRow_put l B N31 (hT.mod hn32) r29 r29B (hn32.k r29k) ((u11 * 27) + u1) u30) rfl rfl r29k (by decide) (by decide) (Nat.le_of_ble_eq_true rfl) d_Sorts_fillTable_128 (fun r35 N33 hq34 => ?_)
                            obtain ⟨hk38, rfl⟩ := hq34
                            have hn36 : zMod B [] M N33 := hn32.call hk38 (by decide)
                            show zW l m_Sorts_fillTable (zn M + 0, zw M + 0) N33 131 [some (.ref q), some (.int u1), some (.int u11), some (.int v26)] [] (zqV B M [])
                            refine zw_iinc (pc := 131) (i := 2) (x := u11) (v := u11 + Int32.ofInt 1) (L2 := [some (.ref q), some (.int u1), some (.int (u11 + Int32.ofInt 1)), some (.int v26)]) rfl rfl (by decide) rfl d_Sorts_fillTable_131 ?_
                            refine zw_goto (pc := 134) (tgt := 82) (by decide) d_Sorts_fillTable_134 ?_
                            refine zW_le [some (.ref q), some (.int u1), some (.int (u11 + Int32.ofInt 1)), none] (⟨rfl, rfl, rfl, trivial⟩) ?_
                            exact ih_82 (u11 + Int32.ofInt 1) N33 hn36 (Nat.lt_of_lt_of_le (z_up hc_87) (Nat.le_of_lt_succ hlt_82))
                          refine zw_if_le (pc := 113) (tgt := 127) (by decide) d_Sorts_fillTable_113 (fun hc_113 => ?_) (fun hc_113 => ?_)
                          · refine zw_iconst (pc := 127) (v := 0) (by decide) d_Sorts_fillTable_127 ?_
                            exact j_128 0 N22 hn25
                          · refine zw_aload_n (pc := 116) (n := 0) (x := q) rfl d_Sorts_fillTable_116 ?_
                            refine zw_iload_n (pc := 117) (n := 2) (x := u11) rfl d_Sorts_fillTable_117 ?_
                            refine zw_iload_n (pc := 118) (n := 1) (x := u1) rfl d_Sorts_fillTable_118 ?_
                            refine zc_callV hn25 (pc := 119) [.int u11, .int u1] [.int ((u11 * 27) + u1), .ref r29] l_Sorts_93 (c_Sorts_markAt l B N22 (hT.mod hn25) q hqB (hn25.k hqk) u11 u1) rfl rfl hqk (by decide) (by decide) (Nat.le_of_ble_eq_true rfl) d_Sorts_fillTable_119 (fun r42 N40 hq41 => ?_)
                            obtain ⟨hk45, v44, rfl⟩ := hq41
                            have hn43 : zMod B [] M N40 := hn25.call hk45 (by decide)
                            show zW l m_Sorts_fillTable (zn M + 0, zw M + 0) N40 122 [some (.ref q), some (.int u1), some (.int u11), some (.int v26)] [.int v44, .int ((u11 * 27) + u1), .ref r29] (zqV B M [])
                            refine zw_iload_n (pc := 122) (n := 3) (x := v26) rfl d_Sorts_fillTable_122 ?_
                            refine zw_idiv (pc := 123) (z_ne1 hc_113) d_Sorts_fillTable_123 ?_
                            refine zw_goto (pc := 124) (tgt := 128) (by decide) d_Sorts_fillTable_124 ?_
                            exact j_128 (v44 / v26) N40 hn43
                    exact lp_82 _ 0 N8 hn9 (Nat.lt_succ_self _)
                  · refine zw_aload_n (pc := 53) (n := 0) (x := q) rfl d_Sorts_fillTable_53 ?_
                    refine zw_aload_n (pc := 54) (n := 0) (x := q) rfl d_Sorts_fillTable_54 ?_
                    refine zc_getF hn9 (pc := 55) f_Sorts_32 rfl hqk r10f d_Sorts_fillTable_55 ?_
                    refine zw_aload_n (pc := 58) (n := 0) (x := q) rfl d_Sorts_fillTable_58 ?_
                    obtain ⟨r47, r47f, r47B, r47k⟩ := hT.1 q 6 4 hqB hqk (by decide) (by decide) rfl
                    refine zc_getF hn9 (pc := 59) f_Sorts_26 rfl hqk r47f d_Sorts_fillTable_59 ?_
                    refine zw_iload_n (pc := 62) (n := 1) (x := u1) rfl d_Sorts_fillTable_62 ?_
                    refine zc_callV hn9 (pc := 63) [.int u1] [.ref r10, .ref q] l_Sorts_49 (c_IntRow_at l B N8 (hT.mod hn9) r47 r47B (hn9.k r47k) u1) rfl rfl r47k (by decide) (by decide) (Nat.le_of_ble_eq_true rfl) d_Sorts_fillTable_63 (fun r50 N48 hq49 => ?_)
                    obtain ⟨hk53, v52, rfl⟩ := hq49
                    have hn51 : zMod B [] M N48 := hn9.call hk53 (by decide)
                    show zW l m_Sorts_fillTable (zn M + 0, zw M + 0) N48 66 [some (.ref q), some (.int u1), some (.int u7), none] [.int v52, .ref r10, .ref q] (zqV B M [])
                    refine zw_iload_n (pc := 66) (n := 2) (x := u7) rfl d_Sorts_fillTable_66 ?_
                    refine zc_callV hn51 (pc := 67) [.int v52, .int u7] [.ref q] l_Sorts_86 (c_Group_turnAll l B N48 (hT.mod hn51) r10 r10B (hn51.k r10k) v52 u7) rfl rfl r10k (by decide) (by decide) (Nat.le_of_ble_eq_true rfl) d_Sorts_fillTable_67 (fun r57 N55 hq56 => ?_)
                    obtain ⟨hk60, v59, rfl⟩ := hq56
                    have hn58 : zMod B [] M N55 := hn51.call hk60 (by decide)
                    show zW l m_Sorts_fillTable (zn M + 0, zw M + 0) N55 70 [some (.ref q), some (.int u1), some (.int u7), none] [.int v59, .ref q] (zqV B M [])
                    refine zw_iload_n (pc := 70) (n := 1) (x := u1) rfl d_Sorts_fillTable_70 ?_
                    refine zc_callV hn58 (pc := 71) [.int v59, .int u1] [] l_Sorts_90 (c_Sorts_countTurned l B N55 (hT.mod hn58) q hqB (hn58.k hqk) v59 u1) rfl rfl hqk (by decide) (by decide) (Nat.le_of_ble_eq_true rfl) d_Sorts_fillTable_71 (fun r64 N62 hq63 => ?_)
                    obtain ⟨hk67, rfl⟩ := hq63
                    have hn65 : zMod B [] M N62 := hn58.call hk67 (by decide)
                    show zW l m_Sorts_fillTable (zn M + 0, zw M + 0) N62 74 [some (.ref q), some (.int u1), some (.int u7), none] [] (zqV B M [])
                    refine zw_iinc (pc := 74) (i := 2) (x := u7) (v := u7 + Int32.ofInt 1) (L2 := [some (.ref q), some (.int u1), some (.int (u7 + Int32.ofInt 1)), none]) rfl rfl (by decide) rfl d_Sorts_fillTable_74 ?_
                    refine zw_goto (pc := 77) (tgt := 42) (by decide) d_Sorts_fillTable_77 ?_
                    exact ih_42 (u7 + Int32.ofInt 1) N62 hn65 (Nat.lt_of_lt_of_le (z_up hc_50) (Nat.le_of_lt_succ hlt_42))
              exact lp_42 _ 0 N5 hn6 (Nat.lt_succ_self _)
            · refine zw_aload_n (pc := 20) (n := 0) (x := q) rfl d_Sorts_fillTable_20 ?_
              obtain ⟨r69, r69f, r69B, r69k⟩ := hT.1 q 6 5 hqB hqk (by decide) (by decide) rfl
              refine zc_getF hn6 (pc := 21) f_Sorts_29 rfl hqk r69f d_Sorts_fillTable_21 ?_
              refine zw_iload_n (pc := 24) (n := 2) (x := u4) rfl d_Sorts_fillTable_24 ?_
              refine zw_bipush (pc := 25) (v := 27) (by decide) d_Sorts_fillTable_25 ?_
              refine zw_imul (pc := 27) d_Sorts_fillTable_27 ?_
              refine zw_iload_n (pc := 28) (n := 1) (x := u1) rfl d_Sorts_fillTable_28 ?_
              refine zw_iadd (pc := 29) d_Sorts_fillTable_29 ?_
              refine zw_iconst (pc := 30) (v := 0) (by decide) d_Sorts_fillTable_30 ?_
              refine zc_callV hn6 (pc := 31) [.int ((u4 * 27) + u1), .int 0] [] l_Sorts_40 (c_IntRow_put l B N5 (hT.mod hn6) r69 r69B (hn6.k r69k) ((u4 * 27) + u1) 0) rfl rfl r69k (by decide) (by decide) (Nat.le_of_ble_eq_true rfl) d_Sorts_fillTable_31 (fun r72 N70 hq71 => ?_)
              obtain ⟨hk75, rfl⟩ := hq71
              have hn73 : zMod B [] M N70 := hn6.call hk75 (by decide)
              show zW l m_Sorts_fillTable (zn M + 0, zw M + 0) N70 34 [some (.ref q), some (.int u1), some (.int u4), none] [] (zqV B M [])
              refine zw_iinc (pc := 34) (i := 2) (x := u4) (v := u4 + Int32.ofInt 1) (L2 := [some (.ref q), some (.int u1), some (.int (u4 + Int32.ofInt 1)), none]) rfl rfl (by decide) rfl d_Sorts_fillTable_34 ?_
              refine zw_goto (pc := 37) (tgt := 12) (by decide) d_Sorts_fillTable_37 ?_
              exact ih_12 (u4 + Int32.ofInt 1) N70 hn73 (Nat.lt_of_lt_of_le (z_up hc_17) (Nat.le_of_lt_succ hlt_12))
        exact lp_12 _ 0 N2 hn3 (Nat.lt_succ_self _)
  exact lp_2 _ 0 M hm (Nat.lt_succ_self _)
set_option maxHeartbeats 4000000 in
theorem c_Sorts_settle (l : Launch) (B : Nat) (M : zMem) (hT : zTy B M) (q : Nat) (hqB : q < B) (hqk : (zsh M q).1 = 6 + 3) : zC l m_Sorts_settle 0 0 [.ref q] M (zqV B M [(6, 6), (6, 7)]) := by
  refine zC_of (L0 := [some (.ref q), none, none]) md_Sorts_settle (Nat.le_of_ble_eq_true rfl) rfl ?_ zQ0
  have hm : zMod B [(6, 6), (6, 7)] M M := zMod.rf
  refine zw_aload_n (pc := 0) (n := 0) (x := q) rfl d_Sorts_settle_0 ?_
  refine zw_iconst (pc := 1) (v := 1) (by decide) d_Sorts_settle_1 ?_
  refine zc_putI hm (pc := 2) f_Sorts_36 rfl rfl hqk hqB (by decide) rfl rfl d_Sorts_settle_2 (fun N1 hN1 hn2 => ?_)
  refine zw_aload_n (pc := 5) (n := 0) (x := q) rfl d_Sorts_settle_5 ?_
  obtain ⟨r3, r3f, r3B, r3k⟩ := hT.1 q 6 1 hqB hqk (by decide) (by decide) rfl
  refine zc_getF hn2 (pc := 6) f_Sorts_14 rfl hqk r3f d_Sorts_settle_6 ?_
  refine zw_iconst (pc := 9) (v := 0) (by decide) d_Sorts_settle_9 ?_
  refine zw_iconst (pc := 10) (v := 1) (by decide) d_Sorts_settle_10 ?_
  refine zc_callV hn2 (pc := 11) [.int 0, .int 1] [] l_Sorts_40 (c_IntRow_put l B N1 (hT.mod hn2) r3 r3B (hn2.k r3k) 0 1) rfl rfl r3k (by decide) (by decide) (Nat.le_of_ble_eq_true rfl) d_Sorts_settle_11 (fun r6 N4 hq5 => ?_)
  obtain ⟨hk9, rfl⟩ := hq5
  have hn7 : zMod B [(6, 6), (6, 7)] M N4 := hn2.call hk9 (by decide)
  show zW l m_Sorts_settle (zn M + 0, zw M + 0) N4 14 [some (.ref q), none, none] [] (zqV B M [(6, 6), (6, 7)])
  refine zw_iconst (pc := 14) (v := 0) (by decide) d_Sorts_settle_14 ?_
  refine zw_istore_n (pc := 15) (i := 1) (L2 := [some (.ref q), some (.int 0), none]) rfl (by decide) rfl d_Sorts_settle_15 ?_
  have lp_16 : ∀ (n : Nat) (u11 : Int32) (N12 : zMem) (hn13 : zMod B [(6, 6), (6, 7)] M N12), zvu u11 35 < n → zW l m_Sorts_settle (zn M + 0, zw M + 0) N12 16 [some (.ref q), some (.int u11), none] [] (zqV B M [(6, 6), (6, 7)]) := by
    intro n
    induction n with
    | zero =>
      intro u11 N12 hn13 h0
      exact absurd h0 (Nat.not_lt_zero _)
    | succ n ih_16 =>
      intro u11 N12 hn13 hlt_16
      refine zw_iload_n (pc := 16) (n := 1) (x := u11) rfl d_Sorts_settle_16 ?_
      refine zw_aload_n (pc := 17) (n := 0) (x := q) rfl d_Sorts_settle_17 ?_
      refine zc_getI hn13 (pc := 18) f_Sorts_36 rfl hqk d_Sorts_settle_18 ?_
      have j_93 : ∀ (N14 : zMem) (hn15 : zMod B [(6, 6), (6, 7)] M N14), zW l m_Sorts_settle (zn M + 0, zw M + 0) N14 93 [some (.ref q), some (.int u11), none] [] (zqV B M [(6, 6), (6, 7)]) := by
        intro N14 hn15
        refine zw_aload_n (pc := 93) (n := 0) (x := q) rfl d_Sorts_settle_93 ?_
        refine zc_callV hn15 (pc := 94) [] [] l_Sorts_63 (c_Sorts_arrange l B N14 (hT.mod hn15) q hqB (hn15.k hqk)) rfl rfl hqk (by decide) (by decide) (Nat.le_of_ble_eq_true rfl) d_Sorts_settle_94 (fun r18 N16 hq17 => ?_)
        obtain ⟨hk21, rfl⟩ := hq17
        have hn19 : zMod B [(6, 6), (6, 7)] M N16 := hn15.call hk21 (by decide)
        show zW l m_Sorts_settle (zn M + 0, zw M + 0) N16 97 [some (.ref q), some (.int u11), none] [] (zqV B M [(6, 6), (6, 7)])
        refine zw_aload_n (pc := 97) (n := 0) (x := q) rfl d_Sorts_settle_97 ?_
        refine zc_callV hn19 (pc := 98) [] [] l_Sorts_66 (c_Sorts_numberSorts l B N16 (hT.mod hn19) q hqB (hn19.k hqk)) rfl rfl hqk (by decide) (by decide) (Nat.le_of_ble_eq_true rfl) d_Sorts_settle_98 (fun r25 N23 hq24 => ?_)
        obtain ⟨hk28, rfl⟩ := hq24
        have hn26 : zMod B [(6, 6), (6, 7)] M N23 := hn19.call hk28 (by decide)
        show zW l m_Sorts_settle (zn M + 0, zw M + 0) N23 101 [some (.ref q), some (.int u11), none] [] (zqV B M [(6, 6), (6, 7)])
        refine zw_aload_n (pc := 101) (n := 0) (x := q) rfl d_Sorts_settle_101 ?_
        refine zc_callV hn26 (pc := 102) [] [] l_Sorts_69 (c_Sorts_fillTable l B N23 (hT.mod hn26) q hqB (hn26.k hqk)) rfl rfl hqk (by decide) (by decide) (Nat.le_of_ble_eq_true rfl) d_Sorts_settle_102 (fun r32 N30 hq31 => ?_)
        obtain ⟨hk35, rfl⟩ := hq31
        have hn33 : zMod B [(6, 6), (6, 7)] M N30 := hn26.call hk35 (by decide)
        show zW l m_Sorts_settle (zn M + 0, zw M + 0) N30 105 [some (.ref q), some (.int u11), none] [] (zqV B M [(6, 6), (6, 7)])
        exact zw_vret (S := []) (pc := 105) rfl d_Sorts_settle_105 ⟨hn33, rfl⟩
      refine zw_icmp_ge (pc := 21) (tgt := 93) (by decide) d_Sorts_settle_21 (fun hc_21 => ?_) (fun hc_21 => ?_)
      · exact j_93 N12 hn13
      · refine zw_iload_n (pc := 24) (n := 1) (x := u11) rfl d_Sorts_settle_24 ?_
        refine zw_bipush (pc := 25) (v := 35) (by decide) d_Sorts_settle_25 ?_
        refine zw_icmp_ge (pc := 27) (tgt := 93) (by decide) d_Sorts_settle_27 (fun hc_27 => ?_) (fun hc_27 => ?_)
        · exact j_93 N12 hn13
        · refine zw_iconst (pc := 30) (v := 0) (by decide) d_Sorts_settle_30 ?_
          refine zw_istore_n (pc := 31) (i := 2) (L2 := [some (.ref q), some (.int u11), some (.int 0)]) rfl (by decide) rfl d_Sorts_settle_31 ?_
          obtain ⟨r40, r40f, r40B, r40k⟩ := hT.1 q 6 0 hqB hqk (by decide) (by decide) rfl
          have lp_32 : ∀ (n : Nat) (u37 : Int32) (N38 : zMem) (hn39 : zMod B [(6, 6), (6, 7)] M N38), zvu u37 (zi M r40 7) < n → zW l m_Sorts_settle (zn M + 0, zw M + 0) N38 32 [some (.ref q), some (.int u11), some (.int u37)] [] (zqV B M [(6, 6), (6, 7)]) := by
            intro n
            induction n with
            | zero =>
              intro u37 N38 hn39 h0
              exact absurd h0 (Nat.not_lt_zero _)
            | succ n ih_32 =>
              intro u37 N38 hn39 hlt_32
              refine zw_iload_n (pc := 32) (n := 2) (x := u37) rfl d_Sorts_settle_32 ?_
              refine zw_aload_n (pc := 33) (n := 0) (x := q) rfl d_Sorts_settle_33 ?_
              refine zc_getF hn39 (pc := 34) f_Sorts_32 rfl hqk r40f d_Sorts_settle_34 ?_
              refine zc_getI0 hn39 (pc := 37) (by decide) f_Sorts_44 rfl r40k d_Sorts_settle_37 ?_
              refine zw_icmp_ge (pc := 40) (tgt := 87) (by decide) d_Sorts_settle_40 (fun hc_40 => ?_) (fun hc_40 => ?_)
              · refine zw_iinc (pc := 87) (i := 1) (x := u11) (v := u11 + Int32.ofInt 1) (L2 := [some (.ref q), some (.int (u11 + Int32.ofInt 1)), some (.int u37)]) rfl rfl (by decide) rfl d_Sorts_settle_87 ?_
                refine zw_goto (pc := 90) (tgt := 16) (by decide) d_Sorts_settle_90 ?_
                refine zW_le [some (.ref q), some (.int (u11 + Int32.ofInt 1)), none] (⟨rfl, rfl, trivial⟩) ?_
                exact ih_16 (u11 + Int32.ofInt 1) N38 hn39 (Nat.lt_of_lt_of_le (z_up hc_27) (Nat.le_of_lt_succ hlt_16))
              · refine zw_aload_n (pc := 43) (n := 0) (x := q) rfl d_Sorts_settle_43 ?_
                refine zc_getF hn39 (pc := 44) f_Sorts_14 rfl hqk r3f d_Sorts_settle_44 ?_
                refine zw_iload_n (pc := 47) (n := 1) (x := u11) rfl d_Sorts_settle_47 ?_
                refine zc_callV hn39 (pc := 48) [.int u11] [] l_Sorts_49 (c_IntRow_at l B N38 (hT.mod hn39) r3 r3B (hn39.k r3k) u11) rfl rfl r3k (by decide) (by decide) (Nat.le_of_ble_eq_true rfl) d_Sorts_settle_48 (fun r43 N41 hq42 => ?_)
                obtain ⟨hk46, v45, rfl⟩ := hq42
                have hn44 : zMod B [(6, 6), (6, 7)] M N41 := hn39.call hk46 (by decide)
                show zW l m_Sorts_settle (zn M + 0, zw M + 0) N41 51 [some (.ref q), some (.int u11), some (.int u37)] [.int v45] (zqV B M [(6, 6), (6, 7)])
                refine zw_iload_n (pc := 51) (n := 2) (x := u37) rfl d_Sorts_settle_51 ?_
                refine zc_callS hn44 (pc := 52) [.int v45, .int u37] [] l_Sorts_53 (c_T_isIn l B N41 (hT.mod hn44) v45 u37) rfl rfl (by decide) (Nat.le_of_ble_eq_true rfl) d_Sorts_settle_52 (fun r50 N48 hq49 => ?_)
                obtain ⟨hk53, v52, rfl, zv52⟩ := hq49
                have hn51 : zMod B [(6, 6), (6, 7)] M N48 := hn44.call hk53 (by decide)
                show zW l m_Sorts_settle (zn M + 0, zw M + 0) N48 55 [some (.ref q), some (.int u11), some (.int u37)] [.int v52] (zqV B M [(6, 6), (6, 7)])
                have j_81 : ∀ (N55 : zMem) (hn56 : zMod B [(6, 6), (6, 7)] M N55), zW l m_Sorts_settle (zn M + 0, zw M + 0) N55 81 [some (.ref q), some (.int u11), some (.int u37)] [] (zqV B M [(6, 6), (6, 7)]) := by
                  intro N55 hn56
                  refine zw_iinc (pc := 81) (i := 2) (x := u37) (v := u37 + Int32.ofInt 1) (L2 := [some (.ref q), some (.int u11), some (.int (u37 + Int32.ofInt 1))]) rfl rfl (by decide) rfl d_Sorts_settle_81 ?_
                  refine zw_goto (pc := 84) (tgt := 32) (by decide) d_Sorts_settle_84 ?_
                  exact ih_32 (u37 + Int32.ofInt 1) N55 hn56 (Nat.lt_of_lt_of_le (z_up hc_40) (Nat.le_of_lt_succ hlt_32))
                refine zw_if_ne (pc := 55) (tgt := 81) (by decide) d_Sorts_settle_55 (fun hc_55 => ?_) (fun hc_55 => ?_)
                · exact j_81 N48 hn51
                · refine zw_aload_n (pc := 58) (n := 0) (x := q) rfl d_Sorts_settle_58 ?_
                  refine zw_aload_n (pc := 59) (n := 0) (x := q) rfl d_Sorts_settle_59 ?_
                  refine zc_getF hn51 (pc := 60) f_Sorts_32 rfl hqk r40f d_Sorts_settle_60 ?_
                  refine zw_aload_n (pc := 63) (n := 0) (x := q) rfl d_Sorts_settle_63 ?_
                  refine zc_getF hn51 (pc := 64) f_Sorts_14 rfl hqk r3f d_Sorts_settle_64 ?_
                  refine zw_iload_n (pc := 67) (n := 1) (x := u11) rfl d_Sorts_settle_67 ?_
                  refine zc_callV hn51 (pc := 68) [.int u11] [.ref r40, .ref q] l_Sorts_49 (c_IntRow_at l B N48 (hT.mod hn51) r3 r3B (hn51.k r3k) u11) rfl rfl r3k (by decide) (by decide) (Nat.le_of_ble_eq_true rfl) d_Sorts_settle_68 (fun r59 N57 hq58 => ?_)
                  obtain ⟨hk62, v61, rfl⟩ := hq58
                  have hn60 : zMod B [(6, 6), (6, 7)] M N57 := hn51.call hk62 (by decide)
                  show zW l m_Sorts_settle (zn M + 0, zw M + 0) N57 71 [some (.ref q), some (.int u11), some (.int u37)] [.int v61, .ref r40, .ref q] (zqV B M [(6, 6), (6, 7)])
                  refine zw_iconst (pc := 71) (v := 1) (by decide) d_Sorts_settle_71 ?_
                  refine zw_iload_n (pc := 72) (n := 2) (x := u37) rfl d_Sorts_settle_72 ?_
                  refine zw_ishl (pc := 73) d_Sorts_settle_73 ?_
                  refine zw_ior (pc := 74) d_Sorts_settle_74 ?_
                  refine zc_callV hn60 (pc := 75) [.int (v61 ||| (1 <<< (u37 &&& 31)))] [.ref q] l_Sorts_57 (c_Group_spanOf l B N57 (hT.mod hn60) r40 r40B (hn60.k r40k) (v61 ||| (1 <<< (u37 &&& 31)))) rfl rfl r40k (by decide) (by decide) (Nat.le_of_ble_eq_true rfl) d_Sorts_settle_75 (fun r66 N64 hq65 => ?_)
                  obtain ⟨hk69, v68, rfl⟩ := hq65
                  have hn67 : zMod B [(6, 6), (6, 7)] M N64 := hn60.call hk69 (by decide)
                  show zW l m_Sorts_settle (zn M + 0, zw M + 0) N64 78 [some (.ref q), some (.int u11), some (.int u37)] [.int v68, .ref q] (zqV B M [(6, 6), (6, 7)])
                  refine zc_callV hn67 (pc := 78) [.int v68] [] l_Sorts_60 (c_Sorts_addSubgroup l B N64 (hT.mod hn67) q hqB (hn67.k hqk) v68) rfl rfl hqk (by decide) (by decide) (Nat.le_of_ble_eq_true rfl) d_Sorts_settle_78 (fun r73 N71 hq72 => ?_)
                  obtain ⟨hk76, rfl⟩ := hq72
                  have hn74 : zMod B [(6, 6), (6, 7)] M N71 := hn67.call hk76 (by decide)
                  show zW l m_Sorts_settle (zn M + 0, zw M + 0) N71 81 [some (.ref q), some (.int u11), some (.int u37)] [] (zqV B M [(6, 6), (6, 7)])
                  exact j_81 N71 hn74
          exact lp_32 _ 0 N12 hn13 (Nat.lt_succ_self _)
  exact lp_16 _ 0 N4 hn7 (Nat.lt_succ_self _)
