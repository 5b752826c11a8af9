/-! methods of the landed part, walked by program -/
set_option maxHeartbeats 4000000 in
theorem c_Units_forget (l : Launch) (B : Nat) (M : zMem) (hT : zTy B M) (q : Nat) (hqB : q < B) (hqk : (zsh M q).1 = 9 + 3) : zC l m_Units_forget 0 0 [.ref q] M (zqV B M [(9, 4)]) := by
  refine zC_of (L0 := [some (.ref q)]) md_Units_forget (Nat.le_of_ble_eq_true rfl) rfl ?_ zQ0
  have hm : zMod B [(9, 4)] M M := zMod.rf
  refine zw_aload_n (pc := 0) (n := 0) (x := q) rfl d_Units_forget_0 ?_
  refine zw_iconst (pc := 1) (v := 0) (by decide) d_Units_forget_1 ?_
  refine zc_putI hm (pc := 2) f_Units_27 rfl rfl hqk hqB (by decide) (z_narZ (Or.inl rfl)) (z_fitZ (Or.inl rfl)) d_Units_forget_2 (fun N1 hN1 hn2 => ?_)
  exact zw_vret (S := []) (pc := 5) rfl d_Units_forget_5 ⟨hn2, rfl⟩
set_option maxHeartbeats 4000000 in
theorem c_LongRow_put (l : Launch) (B : Nat) (M : zMem) (hT : zTy B M) (q : Nat) (hqB : q < B) (hqk : (zsh M q).1 = 8 + 3) (x0 : Int32) (x1 : Int64) : zC l m_LongRow_put 0 0 [.ref q, .int x0, .long x1] M (zqV B M []) := by
  refine zC_of (L0 := [some (.ref q), some (.int x0), some (.long x1), none]) md_LongRow_put (Nat.le_of_ble_eq_true rfl) rfl ?_ zQ0
  have hm : zMod B [] M M := zMod.rf
  refine zw_iload_n (pc := 0) (n := 1) (x := x0) rfl d_LongRow_put_0 ?_
  refine zw_if_lt (pc := 1) (tgt := 20) (by decide) d_LongRow_put_1 (fun hc_1 => ?_) (fun hc_1 => ?_)
  · exact zw_vret (S := []) (pc := 20) rfl d_LongRow_put_20 ⟨hm, rfl⟩
  · refine zw_iload_n (pc := 4) (n := 1) (x := x0) rfl d_LongRow_put_4 ?_
    refine zw_aload_n (pc := 5) (n := 0) (x := q) rfl d_LongRow_put_5 ?_
    obtain ⟨r1, r1f, r1B, r1k⟩ := hT.1 q 8 0 hqB hqk (by decide) (by decide) rfl
    refine zc_getF hm (pc := 6) f_LongRow_13 rfl hqk r1f d_LongRow_put_6 ?_
    refine zc_alenJ hm (pc := 9) r1k d_LongRow_put_9 ?_
    refine zw_icmp_ge (pc := 10) (tgt := 20) (by decide) d_LongRow_put_10 (fun hc_10 => ?_) (fun hc_10 => ?_)
    · exact zw_vret (S := []) (pc := 20) rfl d_LongRow_put_20 ⟨hm, rfl⟩
    · refine zw_aload_n (pc := 13) (n := 0) (x := q) rfl d_LongRow_put_13 ?_
      refine zc_getF hm (pc := 14) f_LongRow_13 rfl hqk r1f d_LongRow_put_14 ?_
      refine zw_iload_n (pc := 17) (n := 1) (x := x0) rfl d_LongRow_put_17 ?_
      refine zw_lload_n (pc := 18) (n := 2) (x := x1) rfl d_LongRow_put_18 ?_
      refine zc_last hm (pc := 19) r1k r1B (z_vin hc_1 hc_10 (hT.2 r1 r1B)) d_LongRow_put_19 (fun N2 hN2 hn3 => ?_)
      exact zw_vret (S := []) (pc := 20) rfl d_LongRow_put_20 ⟨hn3, rfl⟩
set_option maxHeartbeats 4000000 in
theorem c_Sums_putSingle (l : Launch) (B : Nat) (M : zMem) (hT : zTy B M) (q : Nat) (hqB : q < B) (hqk : (zsh M q).1 = 7 + 3) (x0 : Int32) (x1 : Int32) (x2 : Int64) : zC l m_Sums_putSingle 0 0 [.ref q, .int x0, .int x1, .long x2] M (zqV B M []) := by
  refine zC_of (L0 := [some (.ref q), some (.int x0), some (.int x1), some (.long x2), none, none]) md_Sums_putSingle (Nat.le_of_ble_eq_true rfl) rfl ?_ zQ0
  have hm : zMod B [] M M := zMod.rf
  refine zw_iconst (pc := 0) (v := 0) (by decide) d_Sums_putSingle_0 ?_
  refine zw_istore (pc := 1) (i := 5) (L2 := [some (.ref q), some (.int x0), some (.int x1), some (.long x2), none, some (.int 0)]) (by decide) rfl d_Sums_putSingle_1 ?_
  obtain ⟨r4, r4f, r4B, r4k⟩ := hT.1 q 7 0 hqB hqk (by decide) (by decide) rfl
  have lp_3 : ∀ (n : Nat) (u1 : Int32) (N2 : zMem) (hn3 : zMod B [] M N2), zvu u1 (zi M r4 7) < n → zW l m_Sums_putSingle (zn M + 0, zw M + 0) N2 3 [some (.ref q), some (.int x0), some (.int x1), some (.long x2), none, some (.int u1)] [] (zqV B M []) := by
    intro n
    induction n with
    | zero =>
      intro u1 N2 hn3 h0
      exact absurd h0 (Nat.not_lt_zero _)
    | succ n ih_3 =>
      intro u1 N2 hn3 hlt_3
      refine zw_iload (pc := 3) (i := 5) (x := u1) rfl d_Sums_putSingle_3 ?_
      refine zw_aload_n (pc := 5) (n := 0) (x := q) rfl d_Sums_putSingle_5 ?_
      refine zc_getF hn3 (pc := 6) f_Sums_23 rfl hqk r4f d_Sums_putSingle_6 ?_
      refine zc_getI0 hn3 (pc := 9) (by decide) f_Sums_35 rfl r4k d_Sums_putSingle_9 ?_
      refine zw_icmp_ge (pc := 12) (tgt := 46) (by decide) d_Sums_putSingle_12 (fun hc_12 => ?_) (fun hc_12 => ?_)
      · exact zw_vret (S := []) (pc := 46) rfl d_Sums_putSingle_46 ⟨hn3, rfl⟩
      · refine zw_aload_n (pc := 15) (n := 0) (x := q) rfl d_Sums_putSingle_15 ?_
        obtain ⟨r5, r5f, r5B, r5k⟩ := hT.1 q 7 1 hqB hqk (by decide) (by decide) rfl
        refine zc_getF hn3 (pc := 16) f_Sums_16 rfl hqk r5f d_Sums_putSingle_16 ?_
        refine zw_iload_n (pc := 19) (n := 1) (x := x0) rfl d_Sums_putSingle_19 ?_
        refine zw_bipush (pc := 20) (v := 27) (by decide) d_Sums_putSingle_20 ?_
        refine zw_imul (pc := 22) d_Sums_putSingle_22 ?_
        refine zw_iload (pc := 23) (i := 5) (x := u1) rfl d_Sums_putSingle_23 ?_
        refine zw_iadd (pc := 25) d_Sums_putSingle_25 ?_
        refine zw_iload (pc := 26) (i := 5) (x := u1) rfl d_Sums_putSingle_26 ?_
        refine zw_iload_n (pc := 28) (n := 2) (x := x1) rfl d_Sums_putSingle_28 ?_
        have j_37 : ∀ (u6 : Int64) (N7 : zMem) (hn8 : zMod B [] M N7), zW l m_Sums_putSingle (zn M + 0, zw M + 0) N7 37 [some (.ref q), some (.int x0), some (.int x1), some (.long x2), none, some (.int u1)] [.long u6, .int ((x0 * 27) + u1), .ref r5] (zqV B M []) := by
          intro u6 N7 hn8
          refine zc_callV hn8 (pc := 37) [.int ((x0 * 27) + u1), .long u6] [] l_Sums_31 (c_LongRow_put l B N7 (hT.mod hn8) r5 r5B (hn8.k r5k) ((x0 * 27) + u1) u6) rfl rfl r5k (by decide) (by decide) (Nat.le_of_ble_eq_true rfl) d_Sums_putSingle_37 (fun r11 N9 hq10 => ?_)
          obtain ⟨hk14, rfl⟩ := hq10
          have hn12 : zMod B [] M N9 := hn8.call hk14 (by decide)
          show zW l m_Sums_putSingle (zn M + 0, zw M + 0) N9 40 [some (.ref q), some (.int x0), some (.int x1), some (.long x2), none, some (.int u1)] [] (zqV B M [])
          refine zw_iinc (pc := 40) (i := 5) (x := u1) (v := u1 + Int32.ofInt 1) (L2 := [some (.ref q), some (.int x0), some (.int x1), some (.long x2), none, some (.int (u1 + Int32.ofInt 1))]) rfl rfl (by decide) rfl d_Sums_putSingle_40 ?_
          refine zw_goto (pc := 43) (tgt := 3) (by decide) d_Sums_putSingle_43 ?_
          exact ih_3 (u1 + Int32.ofInt 1) N9 hn12 (Nat.lt_of_lt_of_le (z_up hc_12) (Nat.le_of_lt_succ hlt_3))
        refine zw_icmp_ne (pc := 29) (tgt := 36) (by decide) d_Sums_putSingle_29 (fun hc_29 => ?_) (fun hc_29 => ?_)
        · refine zw_lconst (pc := 36) (v := 0) (by decide) d_Sums_putSingle_36 ?_
          exact j_37 0 N2 hn3
        · refine zw_lload_n (pc := 32) (n := 3) (x := x2) rfl d_Sums_putSingle_32 ?_
          refine zw_goto (pc := 33) (tgt := 37) (by decide) d_Sums_putSingle_33 ?_
          exact j_37 x2 N2 hn3
  exact lp_3 _ 0 M hm (Nat.lt_succ_self _)
set_option maxHeartbeats 4000000 in
theorem c_Troupe_settle (l : Launch) (B : Nat) (M : zMem) (hT : zTy B M) (q : Nat) (hqB : q < B) (hqk : (zsh M q).1 = 4 + 3) : zC l m_Troupe_settle 0 0 [.ref q] M (zqV B M [(6, 6), (6, 7), (9, 4)]) := by
  refine zC_of (L0 := [some (.ref q)]) md_Troupe_settle (Nat.le_of_ble_eq_true rfl) rfl ?_ zQ0
  have hm : zMod B [(6, 6), (6, 7), (9, 4)] M M := zMod.rf
  refine zw_aload_n (pc := 0) (n := 0) (x := q) rfl d_Troupe_settle_0 ?_
  obtain ⟨r1, r1f, r1B, r1k⟩ := hT.1 q 4 0 hqB hqk (by decide) (by decide) rfl
  refine zc_getF hm (pc := 1) f_Troupe_12 rfl hqk r1f d_Troupe_settle_1 ?_
  refine zc_callV hm (pc := 4) [] [] l_Troupe_74 (c_Group_settle l B M (hT.mod hm) r1 r1B (hm.k r1k)) rfl rfl r1k (by decide) (by decide) (Nat.le_of_ble_eq_true rfl) d_Troupe_settle_4 (fun r4 N2 hq3 => ?_)
  obtain ⟨hk7, rfl⟩ := hq3
  have hn5 : zMod B [(6, 6), (6, 7), (9, 4)] M N2 := hm.call hk7 (by decide)
  show zW l m_Troupe_settle (zn M + 0, zw M + 0) N2 7 [some (.ref q)] [] (zqV B M [(6, 6), (6, 7), (9, 4)])
  refine zw_aload_n (pc := 7) (n := 0) (x := q) rfl d_Troupe_settle_7 ?_
  obtain ⟨r9, r9f, r9B, r9k⟩ := hT.1 q 4 1 hqB hqk (by decide) (by decide) rfl
  refine zc_getF hn5 (pc := 8) f_Troupe_23 rfl hqk r9f d_Troupe_settle_8 ?_
  refine zc_callV hn5 (pc := 11) [] [] l_Troupe_77 (c_Sorts_settle l B N2 (hT.mod hn5) r9 r9B (hn5.k r9k)) rfl rfl r9k (by decide) (by decide) (Nat.le_of_ble_eq_true rfl) d_Troupe_settle_11 (fun r12 N10 hq11 => ?_)
  obtain ⟨hk15, rfl⟩ := hq11
  have hn13 : zMod B [(6, 6), (6, 7), (9, 4)] M N10 := hn5.call hk15 (by decide)
  show zW l m_Troupe_settle (zn M + 0, zw M + 0) N10 14 [some (.ref q)] [] (zqV B M [(6, 6), (6, 7), (9, 4)])
  refine zw_aload_n (pc := 14) (n := 0) (x := q) rfl d_Troupe_settle_14 ?_
  obtain ⟨r17, r17f, r17B, r17k⟩ := hT.1 q 4 3 hqB hqk (by decide) (by decide) rfl
  refine zc_getF hn13 (pc := 15) f_Troupe_39 rfl hqk r17f d_Troupe_settle_15 ?_
  refine zc_callV hn13 (pc := 18) [] [] l_Troupe_78 (c_Units_forget l B N10 (hT.mod hn13) r17 r17B (hn13.k r17k)) rfl rfl r17k (by decide) (by decide) (Nat.le_of_ble_eq_true rfl) d_Troupe_settle_18 (fun r20 N18 hq19 => ?_)
  obtain ⟨hk23, rfl⟩ := hq19
  have hn21 : zMod B [(6, 6), (6, 7), (9, 4)] M N18 := hn13.call hk23 (by decide)
  show zW l m_Troupe_settle (zn M + 0, zw M + 0) N18 21 [some (.ref q)] [] (zqV B M [(6, 6), (6, 7), (9, 4)])
  refine zw_aload_n (pc := 21) (n := 0) (x := q) rfl d_Troupe_settle_21 ?_
  obtain ⟨r25, r25f, r25B, r25k⟩ := hT.1 q 4 2 hqB hqk (by decide) (by decide) rfl
  refine zc_getF hn21 (pc := 22) f_Troupe_32 rfl hqk r25f d_Troupe_settle_22 ?_
  refine zw_iconst (pc := 25) (v := 0) (by decide) d_Troupe_settle_25 ?_
  refine zw_iconst (pc := 26) (v := (-1)) (by decide) d_Troupe_settle_26 ?_
  refine zw_lconst (pc := 27) (v := 0) (by decide) d_Troupe_settle_27 ?_
  refine zc_callV hn21 (pc := 28) [.int 0, .int ((-1)), .long 0] [] l_Troupe_81 (c_Sums_putSingle l B N18 (hT.mod hn21) r25 r25B (hn21.k r25k) 0 ((-1)) 0) rfl rfl r25k (by decide) (by decide) (Nat.le_of_ble_eq_true rfl) d_Troupe_settle_28 (fun r28 N26 hq27 => ?_)
  obtain ⟨hk31, rfl⟩ := hq27
  have hn29 : zMod B [(6, 6), (6, 7), (9, 4)] M N26 := hn21.call hk31 (by decide)
  show zW l m_Troupe_settle (zn M + 0, zw M + 0) N26 31 [some (.ref q)] [] (zqV B M [(6, 6), (6, 7), (9, 4)])
  exact zw_vret (S := []) (pc := 31) rfl d_Troupe_settle_31 ⟨hn29, rfl⟩
set_option maxHeartbeats 4000000 in
theorem c_Tokens_append (l : Launch) (B : Nat) (M : zMem) (hT : zTy B M) (q : Nat) (hqB : q < B) (hqk : (zsh M q).1 = 1 + 3) (x0 : Int32) : zC l m_Tokens_append 0 0 [.ref q, .int x0] M (fun r M2 => (zqV B M [(1, 1)]) r M2 ∧ zi M2 q 1 = zi M q 1 + 4) := by
  refine zC_of (L0 := [some (.ref q), some (.int x0), none]) md_Tokens_append (Nat.le_of_ble_eq_true rfl) rfl ?_ zQ0
  have hm : zMod B [(1, 1)] M M := zMod.rf
  refine zw_bipush (pc := 0) (v := 24) (by decide) d_Tokens_append_0 ?_
  refine zw_istore_n (pc := 2) (i := 2) (L2 := [some (.ref q), some (.int x0), some (.int 24)]) rfl (by decide) rfl d_Tokens_append_2 ?_
  refine zw_iload_n (pc := 3) (n := 2) (x := 24) rfl d_Tokens_append_3 ?_
  refine zw_if_lt (pc := 4) (tgt := 41) (by decide) d_Tokens_append_4 (fun hc_4 => ?_) (fun hc_4 => ?_)
  · exact absurd hc_4 (by decide)
  · refine zw_aload_n (pc := 7) (n := 0) (x := q) rfl d_Tokens_append_7 ?_
    obtain ⟨r1, r1f, r1B, r1k⟩ := hT.1 q 1 0 hqB hqk (by decide) (by decide) rfl
    refine zc_getF hm (pc := 8) f_Tokens_14 rfl hqk r1f d_Tokens_append_8 ?_
    refine zw_aload_n (pc := 11) (n := 0) (x := q) rfl d_Tokens_append_11 ?_
    refine zc_getIe hm (x := zi M q 1) rfl (pc := 12) f_Tokens_20 rfl hqk d_Tokens_append_12 ?_
    refine zw_iload_n (pc := 15) (n := 1) (x := x0) rfl d_Tokens_append_15 ?_
    refine zw_iload_n (pc := 16) (n := 2) (x := 24) rfl d_Tokens_append_16 ?_
    refine zw_ishr (pc := 17) d_Tokens_append_17 ?_
    refine zw_sipush (pc := 18) (v := 255) (by decide) d_Tokens_append_18 ?_
    refine zw_iand (pc := 21) d_Tokens_append_21 ?_
    refine zc_callV hm (pc := 22) [.int (zi M q 1), .int ((x0 >>> (24 &&& 31)) &&& 255)] [] l_Tokens_24 (c_IntRow_put l B M (hT.mod hm) r1 r1B (hm.k r1k) (zi M q 1) ((x0 >>> (24 &&& 31)) &&& 255)) rfl rfl r1k (by decide) (by decide) (Nat.le_of_ble_eq_true rfl) d_Tokens_append_22 (fun r4 N2 hq3 => ?_)
    obtain ⟨hk7, rfl⟩ := hq3
    have hn5 : zMod B [(1, 1)] M N2 := hm.call hk7 (by decide)
    have kv9 : zi N2 q 1 = zi M q 1 := (hk7.2.2.2.2 q 1 1 (hm.k hqk) (by decide)).trans rfl
    show zW l m_Tokens_append (zn M + 0, zw M + 0) N2 25 [some (.ref q), some (.int x0), some (.int 24)] [] (fun r M2 => (zqV B M [(1, 1)]) r M2 ∧ zi M2 q 1 = zi M q 1 + 4)
    refine zw_aload_n (pc := 25) (n := 0) (x := q) rfl d_Tokens_append_25 ?_
    refine zw_dup (pc := 26) rfl d_Tokens_append_26 ?_
    refine zc_getIe hn5 (x := zi M q 1) kv9 (pc := 27) f_Tokens_20 rfl hqk d_Tokens_append_27 ?_
    refine zw_iconst (pc := 30) (v := 1) (by decide) d_Tokens_append_30 ?_
    refine zw_iadd (pc := 31) d_Tokens_append_31 ?_
    refine zc_putI hn5 (pc := 32) f_Tokens_20 rfl rfl hqk hqB (by decide) rfl rfl d_Tokens_append_32 (fun N10 hN10 hn11 => ?_)
    have kv12 : zi N10 q 1 = (zi M q 1) + 1 := by rw [hN10]; exact zup2_s
    refine zw_iinc (pc := 35) (i := 2) (x := 24) (v := 24 + Int32.ofInt (-8)) (L2 := [some (.ref q), some (.int x0), some (.int (24 + Int32.ofInt (-8)))]) rfl rfl (by decide) rfl d_Tokens_append_35 ?_
    refine zw_goto (pc := 38) (tgt := 3) (by decide) d_Tokens_append_38 ?_
    refine zw_iload_n (pc := 3) (n := 2) (x := 24 + Int32.ofInt (-8)) rfl d_Tokens_append_3 ?_
    refine zw_if_lt (pc := 4) (tgt := 41) (by decide) d_Tokens_append_4 (fun hc_4 => ?_) (fun hc_4 => ?_)
    · exact absurd hc_4 (by decide)
    · refine zw_aload_n (pc := 7) (n := 0) (x := q) rfl d_Tokens_append_7 ?_
      refine zc_getF hn11 (pc := 8) f_Tokens_14 rfl hqk r1f d_Tokens_append_8 ?_
      refine zw_aload_n (pc := 11) (n := 0) (x := q) rfl d_Tokens_append_11 ?_
      refine zc_getIe hn11 (x := (zi M q 1) + 1) kv12 (pc := 12) f_Tokens_20 rfl hqk d_Tokens_append_12 ?_
      refine zw_iload_n (pc := 15) (n := 1) (x := x0) rfl d_Tokens_append_15 ?_
      refine zw_iload_n (pc := 16) (n := 2) (x := 24 + Int32.ofInt (-8)) rfl d_Tokens_append_16 ?_
      refine zw_ishr (pc := 17) d_Tokens_append_17 ?_
      refine zw_sipush (pc := 18) (v := 255) (by decide) d_Tokens_append_18 ?_
      refine zw_iand (pc := 21) d_Tokens_append_21 ?_
      refine zc_callV hn11 (pc := 22) [.int ((zi M q 1) + 1), .int ((x0 >>> ((24 + Int32.ofInt (-8)) &&& 31)) &&& 255)] [] l_Tokens_24 (c_IntRow_put l B N10 (hT.mod hn11) r1 r1B (hn11.k r1k) ((zi M q 1) + 1) ((x0 >>> ((24 + Int32.ofInt (-8)) &&& 31)) &&& 255)) rfl rfl r1k (by decide) (by decide) (Nat.le_of_ble_eq_true rfl) d_Tokens_append_22 (fun r15 N13 hq14 => ?_)
      obtain ⟨hk18, rfl⟩ := hq14
      have hn16 : zMod B [(1, 1)] M N13 := hn11.call hk18 (by decide)
      have kv20 : zi N13 q 1 = (zi M q 1) + 1 := (hk18.2.2.2.2 q 1 1 (hn11.k hqk) (by decide)).trans kv12
      show zW l m_Tokens_append (zn M + 0, zw M + 0) N13 25 [some (.ref q), some (.int x0), some (.int (24 + Int32.ofInt (-8)))] [] (fun r M2 => (zqV B M [(1, 1)]) r M2 ∧ zi M2 q 1 = zi M q 1 + 4)
      refine zw_aload_n (pc := 25) (n := 0) (x := q) rfl d_Tokens_append_25 ?_
      refine zw_dup (pc := 26) rfl d_Tokens_append_26 ?_
      refine zc_getIe hn16 (x := (zi M q 1) + 1) kv20 (pc := 27) f_Tokens_20 rfl hqk d_Tokens_append_27 ?_
      refine zw_iconst (pc := 30) (v := 1) (by decide) d_Tokens_append_30 ?_
      refine zw_iadd (pc := 31) d_Tokens_append_31 ?_
      refine zc_putI hn16 (pc := 32) f_Tokens_20 rfl rfl hqk hqB (by decide) rfl rfl d_Tokens_append_32 (fun N21 hN21 hn22 => ?_)
      have kv23 : zi N21 q 1 = ((zi M q 1) + 1) + 1 := by rw [hN21]; exact zup2_s
      refine zw_iinc (pc := 35) (i := 2) (x := 24 + Int32.ofInt (-8)) (v := (24 + Int32.ofInt (-8)) + Int32.ofInt (-8)) (L2 := [some (.ref q), some (.int x0), some (.int ((24 + Int32.ofInt (-8)) + Int32.ofInt (-8)))]) rfl rfl (by decide) rfl d_Tokens_append_35 ?_
      refine zw_goto (pc := 38) (tgt := 3) (by decide) d_Tokens_append_38 ?_
      refine zw_iload_n (pc := 3) (n := 2) (x := (24 + Int32.ofInt (-8)) + Int32.ofInt (-8)) rfl d_Tokens_append_3 ?_
      refine zw_if_lt (pc := 4) (tgt := 41) (by decide) d_Tokens_append_4 (fun hc_4 => ?_) (fun hc_4 => ?_)
      · exact absurd hc_4 (by decide)
      · refine zw_aload_n (pc := 7) (n := 0) (x := q) rfl d_Tokens_append_7 ?_
        refine zc_getF hn22 (pc := 8) f_Tokens_14 rfl hqk r1f d_Tokens_append_8 ?_
        refine zw_aload_n (pc := 11) (n := 0) (x := q) rfl d_Tokens_append_11 ?_
        refine zc_getIe hn22 (x := ((zi M q 1) + 1) + 1) kv23 (pc := 12) f_Tokens_20 rfl hqk d_Tokens_append_12 ?_
        refine zw_iload_n (pc := 15) (n := 1) (x := x0) rfl d_Tokens_append_15 ?_
        refine zw_iload_n (pc := 16) (n := 2) (x := (24 + Int32.ofInt (-8)) + Int32.ofInt (-8)) rfl d_Tokens_append_16 ?_
        refine zw_ishr (pc := 17) d_Tokens_append_17 ?_
        refine zw_sipush (pc := 18) (v := 255) (by decide) d_Tokens_append_18 ?_
        refine zw_iand (pc := 21) d_Tokens_append_21 ?_
        refine zc_callV hn22 (pc := 22) [.int (((zi M q 1) + 1) + 1), .int ((x0 >>> (((24 + Int32.ofInt (-8)) + Int32.ofInt (-8)) &&& 31)) &&& 255)] [] l_Tokens_24 (c_IntRow_put l B N21 (hT.mod hn22) r1 r1B (hn22.k r1k) (((zi M q 1) + 1) + 1) ((x0 >>> (((24 + Int32.ofInt (-8)) + Int32.ofInt (-8)) &&& 31)) &&& 255)) rfl rfl r1k (by decide) (by decide) (Nat.le_of_ble_eq_true rfl) d_Tokens_append_22 (fun r26 N24 hq25 => ?_)
        obtain ⟨hk29, rfl⟩ := hq25
        have hn27 : zMod B [(1, 1)] M N24 := hn22.call hk29 (by decide)
        have kv31 : zi N24 q 1 = ((zi M q 1) + 1) + 1 := (hk29.2.2.2.2 q 1 1 (hn22.k hqk) (by decide)).trans kv23
        show zW l m_Tokens_append (zn M + 0, zw M + 0) N24 25 [some (.ref q), some (.int x0), some (.int ((24 + Int32.ofInt (-8)) + Int32.ofInt (-8)))] [] (fun r M2 => (zqV B M [(1, 1)]) r M2 ∧ zi M2 q 1 = zi M q 1 + 4)
        refine zw_aload_n (pc := 25) (n := 0) (x := q) rfl d_Tokens_append_25 ?_
        refine zw_dup (pc := 26) rfl d_Tokens_append_26 ?_
        refine zc_getIe hn27 (x := ((zi M q 1) + 1) + 1) kv31 (pc := 27) f_Tokens_20 rfl hqk d_Tokens_append_27 ?_
        refine zw_iconst (pc := 30) (v := 1) (by decide) d_Tokens_append_30 ?_
        refine zw_iadd (pc := 31) d_Tokens_append_31 ?_
        refine zc_putI hn27 (pc := 32) f_Tokens_20 rfl rfl hqk hqB (by decide) rfl rfl d_Tokens_append_32 (fun N32 hN32 hn33 => ?_)
        have kv34 : zi N32 q 1 = (((zi M q 1) + 1) + 1) + 1 := by rw [hN32]; exact zup2_s
        refine zw_iinc (pc := 35) (i := 2) (x := (24 + Int32.ofInt (-8)) + Int32.ofInt (-8)) (v := ((24 + Int32.ofInt (-8)) + Int32.ofInt (-8)) + Int32.ofInt (-8)) (L2 := [some (.ref q), some (.int x0), some (.int (((24 + Int32.ofInt (-8)) + Int32.ofInt (-8)) + Int32.ofInt (-8)))]) rfl rfl (by decide) rfl d_Tokens_append_35 ?_
        refine zw_goto (pc := 38) (tgt := 3) (by decide) d_Tokens_append_38 ?_
        refine zw_iload_n (pc := 3) (n := 2) (x := ((24 + Int32.ofInt (-8)) + Int32.ofInt (-8)) + Int32.ofInt (-8)) rfl d_Tokens_append_3 ?_
        refine zw_if_lt (pc := 4) (tgt := 41) (by decide) d_Tokens_append_4 (fun hc_4 => ?_) (fun hc_4 => ?_)
        · exact absurd hc_4 (by decide)
        · refine zw_aload_n (pc := 7) (n := 0) (x := q) rfl d_Tokens_append_7 ?_
          refine zc_getF hn33 (pc := 8) f_Tokens_14 rfl hqk r1f d_Tokens_append_8 ?_
          refine zw_aload_n (pc := 11) (n := 0) (x := q) rfl d_Tokens_append_11 ?_
          refine zc_getIe hn33 (x := (((zi M q 1) + 1) + 1) + 1) kv34 (pc := 12) f_Tokens_20 rfl hqk d_Tokens_append_12 ?_
          refine zw_iload_n (pc := 15) (n := 1) (x := x0) rfl d_Tokens_append_15 ?_
          refine zw_iload_n (pc := 16) (n := 2) (x := ((24 + Int32.ofInt (-8)) + Int32.ofInt (-8)) + Int32.ofInt (-8)) rfl d_Tokens_append_16 ?_
          refine zw_ishr (pc := 17) d_Tokens_append_17 ?_
          refine zw_sipush (pc := 18) (v := 255) (by decide) d_Tokens_append_18 ?_
          refine zw_iand (pc := 21) d_Tokens_append_21 ?_
          refine zc_callV hn33 (pc := 22) [.int ((((zi M q 1) + 1) + 1) + 1), .int ((x0 >>> ((((24 + Int32.ofInt (-8)) + Int32.ofInt (-8)) + Int32.ofInt (-8)) &&& 31)) &&& 255)] [] l_Tokens_24 (c_IntRow_put l B N32 (hT.mod hn33) r1 r1B (hn33.k r1k) ((((zi M q 1) + 1) + 1) + 1) ((x0 >>> ((((24 + Int32.ofInt (-8)) + Int32.ofInt (-8)) + Int32.ofInt (-8)) &&& 31)) &&& 255)) rfl rfl r1k (by decide) (by decide) (Nat.le_of_ble_eq_true rfl) d_Tokens_append_22 (fun r37 N35 hq36 => ?_)
          obtain ⟨hk40, rfl⟩ := hq36
          have hn38 : zMod B [(1, 1)] M N35 := hn33.call hk40 (by decide)
          have kv42 : zi N35 q 1 = (((zi M q 1) + 1) + 1) + 1 := (hk40.2.2.2.2 q 1 1 (hn33.k hqk) (by decide)).trans kv34
          show zW l m_Tokens_append (zn M + 0, zw M + 0) N35 25 [some (.ref q), some (.int x0), some (.int (((24 + Int32.ofInt (-8)) + Int32.ofInt (-8)) + Int32.ofInt (-8)))] [] (fun r M2 => (zqV B M [(1, 1)]) r M2 ∧ zi M2 q 1 = zi M q 1 + 4)
          refine zw_aload_n (pc := 25) (n := 0) (x := q) rfl d_Tokens_append_25 ?_
          refine zw_dup (pc := 26) rfl d_Tokens_append_26 ?_
          refine zc_getIe hn38 (x := (((zi M q 1) + 1) + 1) + 1) kv42 (pc := 27) f_Tokens_20 rfl hqk d_Tokens_append_27 ?_
          refine zw_iconst (pc := 30) (v := 1) (by decide) d_Tokens_append_30 ?_
          refine zw_iadd (pc := 31) d_Tokens_append_31 ?_
          refine zc_putI hn38 (pc := 32) f_Tokens_20 rfl rfl hqk hqB (by decide) rfl rfl d_Tokens_append_32 (fun N43 hN43 hn44 => ?_)
          have kv45 : zi N43 q 1 = ((((zi M q 1) + 1) + 1) + 1) + 1 := by rw [hN43]; exact zup2_s
          refine zw_iinc (pc := 35) (i := 2) (x := ((24 + Int32.ofInt (-8)) + Int32.ofInt (-8)) + Int32.ofInt (-8)) (v := (((24 + Int32.ofInt (-8)) + Int32.ofInt (-8)) + Int32.ofInt (-8)) + Int32.ofInt (-8)) (L2 := [some (.ref q), some (.int x0), some (.int ((((24 + Int32.ofInt (-8)) + Int32.ofInt (-8)) + Int32.ofInt (-8)) + Int32.ofInt (-8)))]) rfl rfl (by decide) rfl d_Tokens_append_35 ?_
          refine zw_goto (pc := 38) (tgt := 3) (by decide) d_Tokens_append_38 ?_
          refine zw_iload_n (pc := 3) (n := 2) (x := (((24 + Int32.ofInt (-8)) + Int32.ofInt (-8)) + Int32.ofInt (-8)) + Int32.ofInt (-8)) rfl d_Tokens_append_3 ?_
          refine zw_if_lt (pc := 4) (tgt := 41) (by decide) d_Tokens_append_4 (fun hc_4 => ?_) (fun hc_4 => ?_)
          · exact zw_vret (S := []) (pc := 41) rfl d_Tokens_append_41 ⟨⟨hn44, rfl⟩, kv45.trans (z_p4 _)⟩
          · exact absurd hc_4 (by decide)
set_option maxHeartbeats 4000000 in
theorem c_T_feed (l : Launch) (B : Nat) (M : zMem) (hT : zTy B M) (q : Nat) (hqB : q < B) (hqk : (zsh M q).1 = 0 + 3) (x0 : Int32) (x1 : Int32) (x2 : Int32) (x3 : Int32) (x4 : Int32) : zC l m_T_feed 0 0 [.ref q, .int x0, .int x1, .int x2, .int x3, .int x4] M (fun r M2 => (zqI B M [(1, 1)]) r M2 ∧ ∀ t, zf M q 0 = some t → (¬ zi M t 1 + 20 ≤ 700 → r = some (.int (-1)) ∧ zi M2 t 1 = zi M t 1) ∧ (zi M t 1 + 20 ≤ 700 → r = some (.int (zi M t 1 + 20)) ∧ zi M2 t 1 = zi M t 1 + 20)) := by
  refine zC_of (L0 := [some (.ref q), some (.int x0), some (.int x1), some (.int x2), some (.int x3), some (.int x4)]) md_T_feed (Nat.le_of_ble_eq_true rfl) rfl ?_ zQ0
  have hm : zMod B [(1, 1)] M M := zMod.rf
  obtain ⟨r1, r1f, r1B, r1k⟩ := hT.1 q 0 0 hqB hqk (by decide) (by decide) rfl
  refine zw_aload_n (pc := 0) (n := 0) (x := q) rfl d_T_feed_0 ?_
  refine zc_getF hm (pc := 1) f_T_10 rfl hqk r1f d_T_feed_1 ?_
  refine zc_getIe hm (x := zi M r1 1) rfl (pc := 4) f_T_42 rfl r1k d_T_feed_4 ?_
  refine zw_bipush (pc := 7) (v := 20) (by decide) d_T_feed_7 ?_
  refine zw_iadd (pc := 9) d_T_feed_9 ?_
  refine zw_sipush (pc := 10) (v := 700) (by decide) d_T_feed_10 ?_
  refine zw_icmp_le (pc := 13) (tgt := 18) (by decide) d_T_feed_13 (fun hc_13 => ?_) (fun hc_13 => ?_)
  · refine zw_aload_n (pc := 18) (n := 0) (x := q) rfl d_T_feed_18 ?_
    refine zc_getF hm (pc := 19) f_T_10 rfl hqk r1f d_T_feed_19 ?_
    refine zw_iload_n (pc := 22) (n := 1) (x := x0) rfl d_T_feed_22 ?_
    refine zc_callV hm (pc := 23) [.int x0] [] l_T_46 (c_Tokens_append l B M (hT.mod hm) r1 r1B (hm.k r1k) x0) rfl rfl r1k (by decide) (by decide) (Nat.le_of_ble_eq_true rfl) d_T_feed_23 (fun r4 N2 hq3 => ?_)
    obtain ⟨hq3, ex8⟩ := hq3
    obtain ⟨hk7, rfl⟩ := hq3
    have hn5 : zMod B [(1, 1)] M N2 := hm.call hk7 (by decide)
    have kv9 : zi N2 r1 1 = (zi M r1 1) + 4 := ex8
    show zW l m_T_feed (zn M + 0, zw M + 0) N2 26 [some (.ref q), some (.int x0), some (.int x1), some (.int x2), some (.int x3), some (.int x4)] [] (fun r M2 => (zqI B M [(1, 1)]) r M2 ∧ ∀ t, zf M q 0 = some t → (¬ zi M t 1 + 20 ≤ 700 → r = some (.int (-1)) ∧ zi M2 t 1 = zi M t 1) ∧ (zi M t 1 + 20 ≤ 700 → r = some (.int (zi M t 1 + 20)) ∧ zi M2 t 1 = zi M t 1 + 20))
    refine zw_aload_n (pc := 26) (n := 0) (x := q) rfl d_T_feed_26 ?_
    refine zc_getF hn5 (pc := 27) f_T_10 rfl hqk r1f d_T_feed_27 ?_
    refine zw_iload_n (pc := 30) (n := 2) (x := x1) rfl d_T_feed_30 ?_
    refine zc_callV hn5 (pc := 31) [.int x1] [] l_T_46 (c_Tokens_append l B N2 (hT.mod hn5) r1 r1B (hn5.k r1k) x1) rfl rfl r1k (by decide) (by decide) (Nat.le_of_ble_eq_true rfl) d_T_feed_31 (fun r12 N10 hq11 => ?_)
    obtain ⟨hq11, ex16⟩ := hq11
    obtain ⟨hk15, rfl⟩ := hq11
    have hn13 : zMod B [(1, 1)] M N10 := hn5.call hk15 (by decide)
    have kv17 : zi N10 r1 1 = ((zi M r1 1) + 4) + 4 := ex16.trans (by rw [kv9])
    show zW l m_T_feed (zn M + 0, zw M + 0) N10 34 [some (.ref q), some (.int x0), some (.int x1), some (.int x2), some (.int x3), some (.int x4)] [] (fun r M2 => (zqI B M [(1, 1)]) r M2 ∧ ∀ t, zf M q 0 = some t → (¬ zi M t 1 + 20 ≤ 700 → r = some (.int (-1)) ∧ zi M2 t 1 = zi M t 1) ∧ (zi M t 1 + 20 ≤ 700 → r = some (.int (zi M t 1 + 20)) ∧ zi M2 t 1 = zi M t 1 + 20))
    refine zw_aload_n (pc := 34) (n := 0) (x := q) rfl d_T_feed_34 ?_
    refine zc_getF hn13 (pc := 35) f_T_10 rfl hqk r1f d_T_feed_35 ?_
    refine zw_iload_n (pc := 38) (n := 3) (x := x2) rfl d_T_feed_38 ?_
    refine zc_callV hn13 (pc := 39) [.int x2] [] l_T_46 (c_Tokens_append l B N10 (hT.mod hn13) r1 r1B (hn13.k r1k) x2) rfl rfl r1k (by decide) (by decide) (Nat.le_of_ble_eq_true rfl) d_T_feed_39 (fun r20 N18 hq19 => ?_)
    obtain ⟨hq19, ex24⟩ := hq19
    obtain ⟨hk23, rfl⟩ := hq19
    have hn21 : zMod B [(1, 1)] M N18 := hn13.call hk23 (by decide)
    have kv25 : zi N18 r1 1 = (((zi M r1 1) + 4) + 4) + 4 := ex24.trans (by rw [kv17])
    show zW l m_T_feed (zn M + 0, zw M + 0) N18 42 [some (.ref q), some (.int x0), some (.int x1), some (.int x2), some (.int x3), some (.int x4)] [] (fun r M2 => (zqI B M [(1, 1)]) r M2 ∧ ∀ t, zf M q 0 = some t → (¬ zi M t 1 + 20 ≤ 700 → r = some (.int (-1)) ∧ zi M2 t 1 = zi M t 1) ∧ (zi M t 1 + 20 ≤ 700 → r = some (.int (zi M t 1 + 20)) ∧ zi M2 t 1 = zi M t 1 + 20))
    refine zw_aload_n (pc := 42) (n := 0) (x := q) rfl d_T_feed_42 ?_
    refine zc_getF hn21 (pc := 43) f_T_10 rfl hqk r1f d_T_feed_43 ?_
    refine zw_iload (pc := 46) (i := 4) (x := x3) rfl d_T_feed_46 ?_
    refine zc_callV hn21 (pc := 48) [.int x3] [] l_T_46 (c_Tokens_append l B N18 (hT.mod hn21) r1 r1B (hn21.k r1k) x3) rfl rfl r1k (by decide) (by decide) (Nat.le_of_ble_eq_true rfl) d_T_feed_48 (fun r28 N26 hq27 => ?_)
    obtain ⟨hq27, ex32⟩ := hq27
    obtain ⟨hk31, rfl⟩ := hq27
    have hn29 : zMod B [(1, 1)] M N26 := hn21.call hk31 (by decide)
    have kv33 : zi N26 r1 1 = ((((zi M r1 1) + 4) + 4) + 4) + 4 := ex32.trans (by rw [kv25])
    show zW l m_T_feed (zn M + 0, zw M + 0) N26 51 [some (.ref q), some (.int x0), some (.int x1), some (.int x2), some (.int x3), some (.int x4)] [] (fun r M2 => (zqI B M [(1, 1)]) r M2 ∧ ∀ t, zf M q 0 = some t → (¬ zi M t 1 + 20 ≤ 700 → r = some (.int (-1)) ∧ zi M2 t 1 = zi M t 1) ∧ (zi M t 1 + 20 ≤ 700 → r = some (.int (zi M t 1 + 20)) ∧ zi M2 t 1 = zi M t 1 + 20))
    refine zw_aload_n (pc := 51) (n := 0) (x := q) rfl d_T_feed_51 ?_
    refine zc_getF hn29 (pc := 52) f_T_10 rfl hqk r1f d_T_feed_52 ?_
    refine zw_iload (pc := 55) (i := 5) (x := x4) rfl d_T_feed_55 ?_
    refine zc_callV hn29 (pc := 57) [.int x4] [] l_T_46 (c_Tokens_append l B N26 (hT.mod hn29) r1 r1B (hn29.k r1k) x4) rfl rfl r1k (by decide) (by decide) (Nat.le_of_ble_eq_true rfl) d_T_feed_57 (fun r36 N34 hq35 => ?_)
    obtain ⟨hq35, ex40⟩ := hq35
    obtain ⟨hk39, rfl⟩ := hq35
    have hn37 : zMod B [(1, 1)] M N34 := hn29.call hk39 (by decide)
    have kv41 : zi N34 r1 1 = (((((zi M r1 1) + 4) + 4) + 4) + 4) + 4 := ex40.trans (by rw [kv33])
    show zW l m_T_feed (zn M + 0, zw M + 0) N34 60 [some (.ref q), some (.int x0), some (.int x1), some (.int x2), some (.int x3), some (.int x4)] [] (fun r M2 => (zqI B M [(1, 1)]) r M2 ∧ ∀ t, zf M q 0 = some t → (¬ zi M t 1 + 20 ≤ 700 → r = some (.int (-1)) ∧ zi M2 t 1 = zi M t 1) ∧ (zi M t 1 + 20 ≤ 700 → r = some (.int (zi M t 1 + 20)) ∧ zi M2 t 1 = zi M t 1 + 20))
    refine zw_aload_n (pc := 60) (n := 0) (x := q) rfl d_T_feed_60 ?_
    refine zc_getF hn37 (pc := 61) f_T_10 rfl hqk r1f d_T_feed_61 ?_
    refine zc_getIe hn37 (x := (((((zi M r1 1) + 4) + 4) + 4) + 4) + 4) kv41 (pc := 64) f_T_42 rfl r1k d_T_feed_64 ?_
    exact zw_iret (S := []) (pc := 67) (ty := .int) rfl rfl d_T_feed_67 ⟨⟨hn37, _, rfl⟩, fun t ht => by
      rw [r1f] at ht
      cases ht
      exact ⟨fun h => absurd hc_13 h, fun _ => ⟨by rw [z_p20], kv41.trans (z_p20 _)⟩⟩⟩
  · refine zw_iconst (pc := 16) (v := (-1)) (by decide) d_T_feed_16 ?_
    exact zw_iret (S := []) (pc := 17) (ty := .int) rfl rfl d_T_feed_17 ⟨⟨hm, _, rfl⟩, fun t ht => by
      rw [r1f] at ht
      cases ht
      exact ⟨fun _ => ⟨rfl, rfl⟩, fun h => absurd h hc_13⟩⟩
set_option maxHeartbeats 4000000 in
theorem c_T_end (l : Launch) (B : Nat) (M : zMem) (hT : zTy B M) (q : Nat) (hqB : q < B) (hqk : (zsh M q).1 = 0 + 3) (x0 : Int32) : zC l m_T_end 0 0 [.ref q, .int x0] M (fun r M2 => (zqI B M [(1, 1)]) r M2 ∧ ∀ t, zf M q 0 = some t → ((x0 < 0 ∨ zi M t 1 < x0) → r = some (.int (-1)) ∧ zi M2 t 1 = zi M t 1) ∧ ((¬ x0 < 0 ∧ ¬ zi M t 1 < x0) → r = some (.int x0) ∧ zi M2 t 1 = x0)) := by
  refine zC_of (L0 := [some (.ref q), some (.int x0)]) md_T_end (Nat.le_of_ble_eq_true rfl) rfl ?_ zQ0
  have hm : zMod B [(1, 1)] M M := zMod.rf
  obtain ⟨r1, r1f, r1B, r1k⟩ := hT.1 q 0 0 hqB hqk (by decide) (by decide) rfl
  refine zw_iload_n (pc := 0) (n := 1) (x := x0) rfl d_T_end_0 ?_
  refine zw_if_lt (pc := 1) (tgt := 15) (by decide) d_T_end_1 (fun hc_1 => ?_) (fun hc_1 => ?_)
  · refine zw_iconst (pc := 15) (v := (-1)) (by decide) d_T_end_15 ?_
    exact zw_iret (S := []) (pc := 16) (ty := .int) rfl rfl d_T_end_16 ⟨⟨hm, _, rfl⟩, fun t ht => by
      rw [r1f] at ht
      cases ht
      exact ⟨fun _ => ⟨rfl, rfl⟩, fun h => absurd hc_1 h.1⟩⟩
  · refine zw_iload_n (pc := 4) (n := 1) (x := x0) rfl d_T_end_4 ?_
    refine zw_aload_n (pc := 5) (n := 0) (x := q) rfl d_T_end_5 ?_
    refine zc_getF hm (pc := 6) f_T_10 rfl hqk r1f d_T_end_6 ?_
    refine zc_getIe hm (x := zi M r1 1) rfl (pc := 9) f_T_42 rfl r1k d_T_end_9 ?_
    refine zw_icmp_le (pc := 12) (tgt := 17) (by decide) d_T_end_12 (fun hc_12 => ?_) (fun hc_12 => ?_)
    · refine zw_aload_n (pc := 17) (n := 0) (x := q) rfl d_T_end_17 ?_
      refine zc_getF hm (pc := 18) f_T_10 rfl hqk r1f d_T_end_18 ?_
      refine zw_iload_n (pc := 21) (n := 1) (x := x0) rfl d_T_end_21 ?_
      refine zc_putI hm (pc := 22) f_T_42 rfl rfl r1k r1B (by decide) rfl rfl d_T_end_22 (fun N2 hN2 hn3 => ?_)
      have kv4 : zi N2 r1 1 = x0 := by rw [hN2]; exact zup2_s
      refine zw_iload_n (pc := 25) (n := 1) (x := x0) rfl d_T_end_25 ?_
      exact zw_iret (S := []) (pc := 26) (ty := .int) rfl rfl d_T_end_26 ⟨⟨hn3, _, rfl⟩, fun t ht => by
        rw [r1f] at ht
        cases ht
        exact ⟨fun h => absurd h (fun z => z.elim hc_1 (fun y => absurd hc_12 (Int32.not_le.mpr y))), fun _ => ⟨rfl, kv4⟩⟩⟩
    · refine zw_iconst (pc := 15) (v := (-1)) (by decide) d_T_end_15 ?_
      exact zw_iret (S := []) (pc := 16) (ty := .int) rfl rfl d_T_end_16 ⟨⟨hm, _, rfl⟩, fun t ht => by
        rw [r1f] at ht
        cases ht
        exact ⟨fun _ => ⟨rfl, rfl⟩, fun h => absurd (Int32.not_lt.mp h.2) hc_12⟩⟩
set_option maxHeartbeats 4000000 in
theorem c_Tokens_isBlank (l : Launch) (B : Nat) (M : zMem) (hT : zTy B M) (x0 : Int32) : zC l m_Tokens_isBlank 0 0 [.int x0] M (zqZ B M []) := by
  refine zC_of (L0 := [some (.int x0)]) md_Tokens_isBlank (Nat.le_of_ble_eq_true rfl) rfl ?_ zQ0
  have hm : zMod B [] M M := zMod.rf
  refine zw_iload_n (pc := 0) (n := 0) (x := x0) rfl d_Tokens_isBlank_0 ?_
  refine zw_bipush (pc := 1) (v := 32) (by decide) d_Tokens_isBlank_1 ?_
  refine zw_icmp_eq (pc := 3) (tgt := 12) (by decide) d_Tokens_isBlank_3 (fun hc_3 => ?_) (fun hc_3 => ?_)
  · refine zw_iconst (pc := 12) (v := 1) (by decide) d_Tokens_isBlank_12 ?_
    refine zw_goto (pc := 13) (tgt := 17) (by decide) d_Tokens_isBlank_13 ?_
    exact zw_iret (S := []) (pc := 17) (ty := .boolean) rfl (z_narZ (Or.inr rfl)) d_Tokens_isBlank_17 ⟨hm, _, rfl, Or.inr rfl⟩
  · refine zw_iload_n (pc := 6) (n := 0) (x := x0) rfl d_Tokens_isBlank_6 ?_
    refine zw_bipush (pc := 7) (v := 10) (by decide) d_Tokens_isBlank_7 ?_
    refine zw_icmp_ne (pc := 9) (tgt := 16) (by decide) d_Tokens_isBlank_9 (fun hc_9 => ?_) (fun hc_9 => ?_)
    · refine zw_iconst (pc := 16) (v := 0) (by decide) d_Tokens_isBlank_16 ?_
      exact zw_iret (S := []) (pc := 17) (ty := .boolean) rfl (z_narZ (Or.inl rfl)) d_Tokens_isBlank_17 ⟨hm, _, rfl, Or.inl rfl⟩
    · refine zw_iconst (pc := 12) (v := 1) (by decide) d_Tokens_isBlank_12 ?_
      refine zw_goto (pc := 13) (tgt := 17) (by decide) d_Tokens_isBlank_13 ?_
      exact zw_iret (S := []) (pc := 17) (ty := .boolean) rfl (z_narZ (Or.inr rfl)) d_Tokens_isBlank_17 ⟨hm, _, rfl, Or.inr rfl⟩
set_option maxHeartbeats 4000000 in
theorem c_Tokens_pastBlanks (l : Launch) (B : Nat) (M : zMem) (hT : zTy B M) (q : Nat) (hqB : q < B) (hqk : (zsh M q).1 = 1 + 3) (x0 : Int32) : zC l m_Tokens_pastBlanks 0 0 [.ref q, .int x0] M (zqI B M []) := by
  refine zC_of (L0 := [some (.ref q), some (.int x0), none]) md_Tokens_pastBlanks (Nat.le_of_ble_eq_true rfl) rfl ?_ zQ0
  have hm : zMod B [] M M := zMod.rf
  refine zw_iload_n (pc := 0) (n := 1) (x := x0) rfl d_Tokens_pastBlanks_0 ?_
  refine zw_istore_n (pc := 1) (i := 2) (L2 := [some (.ref q), some (.int x0), some (.int x0)]) rfl (by decide) rfl d_Tokens_pastBlanks_1 ?_
  have lp_2 : ∀ (n : Nat) (u1 : Int32) (N2 : zMem) (hn3 : zMod B [] M N2), zvu u1 (zi M q 1) < n → zW l m_Tokens_pastBlanks (zn M + 0, zw M + 0) N2 2 [some (.ref q), some (.int x0), some (.int u1)] [] (zqI B M []) := by
    intro n
    induction n with
    | zero =>
      intro u1 N2 hn3 h0
      exact absurd h0 (Nat.not_lt_zero _)
    | succ n ih_2 =>
      intro u1 N2 hn3 hlt_2
      refine zw_iload_n (pc := 2) (n := 2) (x := u1) rfl d_Tokens_pastBlanks_2 ?_
      refine zw_aload_n (pc := 3) (n := 0) (x := q) rfl d_Tokens_pastBlanks_3 ?_
      refine zc_getI0 hn3 (pc := 4) (by decide) f_Tokens_20 rfl hqk d_Tokens_pastBlanks_4 ?_
      refine zw_icmp_ge (pc := 7) (tgt := 30) (by decide) d_Tokens_pastBlanks_7 (fun hc_7 => ?_) (fun hc_7 => ?_)
      · refine zw_iload_n (pc := 30) (n := 2) (x := u1) rfl d_Tokens_pastBlanks_30 ?_
        exact zw_iret (S := []) (pc := 31) (ty := .int) rfl rfl d_Tokens_pastBlanks_31 ⟨hn3, _, rfl⟩
      · refine zw_aload_n (pc := 10) (n := 0) (x := q) rfl d_Tokens_pastBlanks_10 ?_
        obtain ⟨r4, r4f, r4B, r4k⟩ := hT.1 q 1 0 hqB hqk (by decide) (by decide) rfl
        refine zc_getF hn3 (pc := 11) f_Tokens_14 rfl hqk r4f d_Tokens_pastBlanks_11 ?_
        refine zw_iload_n (pc := 14) (n := 2) (x := u1) rfl d_Tokens_pastBlanks_14 ?_
        refine zc_callV hn3 (pc := 15) [.int u1] [] l_Tokens_47 (c_IntRow_at l B N2 (hT.mod hn3) r4 r4B (hn3.k r4k) u1) rfl rfl r4k (by decide) (by decide) (Nat.le_of_ble_eq_true rfl) d_Tokens_pastBlanks_15 (fun r7 N5 hq6 => ?_)
        obtain ⟨hk10, v9, rfl⟩ := hq6
        have hn8 : zMod B [] M N5 := hn3.call hk10 (by decide)
        show zW l m_Tokens_pastBlanks (zn M + 0, zw M + 0) N5 18 [some (.ref q), some (.int x0), some (.int u1)] [.int v9] (zqI B M [])
        refine zc_callS hn8 (pc := 18) [.int v9] [] l_Tokens_73 (c_Tokens_isBlank l B N5 (hT.mod hn8) v9) rfl rfl (by decide) (Nat.le_of_ble_eq_true rfl) d_Tokens_pastBlanks_18 (fun r14 N12 hq13 => ?_)
        obtain ⟨hk17, v16, rfl, zv16⟩ := hq13
        have hn15 : zMod B [] M N12 := hn8.call hk17 (by decide)
        show zW l m_Tokens_pastBlanks (zn M + 0, zw M + 0) N12 21 [some (.ref q), some (.int x0), some (.int u1)] [.int v16] (zqI B M [])
        refine zw_if_eq (pc := 21) (tgt := 30) (by decide) d_Tokens_pastBlanks_21 (fun hc_21 => ?_) (fun hc_21 => ?_)
        · refine zw_iload_n (pc := 30) (n := 2) (x := u1) rfl d_Tokens_pastBlanks_30 ?_
          exact zw_iret (S := []) (pc := 31) (ty := .int) rfl rfl d_Tokens_pastBlanks_31 ⟨hn15, _, rfl⟩
        · refine zw_iinc (pc := 24) (i := 2) (x := u1) (v := u1 + Int32.ofInt 1) (L2 := [some (.ref q), some (.int x0), some (.int (u1 + Int32.ofInt 1))]) rfl rfl (by decide) rfl d_Tokens_pastBlanks_24 ?_
          refine zw_goto (pc := 27) (tgt := 2) (by decide) d_Tokens_pastBlanks_27 ?_
          exact ih_2 (u1 + Int32.ofInt 1) N12 hn15 (Nat.lt_of_lt_of_le (z_up hc_7) (Nat.le_of_lt_succ hlt_2))
  exact lp_2 _ x0 M hm (Nat.lt_succ_self _)
set_option maxHeartbeats 4000000 in
theorem c_Tokens_isLetter (l : Launch) (B : Nat) (M : zMem) (hT : zTy B M) (x0 : Int32) : zC l m_Tokens_isLetter 0 0 [.int x0] M (zqZ B M []) := by
  refine zC_of (L0 := [some (.int x0)]) md_Tokens_isLetter (Nat.le_of_ble_eq_true rfl) rfl ?_ zQ0
  have hm : zMod B [] M M := zMod.rf
  refine zw_iload_n (pc := 0) (n := 0) (x := x0) rfl d_Tokens_isLetter_0 ?_
  refine zw_bipush (pc := 1) (v := 97) (by decide) d_Tokens_isLetter_1 ?_
  refine zw_icmp_lt (pc := 3) (tgt := 16) (by decide) d_Tokens_isLetter_3 (fun hc_3 => ?_) (fun hc_3 => ?_)
  · refine zw_iconst (pc := 16) (v := 0) (by decide) d_Tokens_isLetter_16 ?_
    exact zw_iret (S := []) (pc := 17) (ty := .boolean) rfl (z_narZ (Or.inl rfl)) d_Tokens_isLetter_17 ⟨hm, _, rfl, Or.inl rfl⟩
  · refine zw_iload_n (pc := 6) (n := 0) (x := x0) rfl d_Tokens_isLetter_6 ?_
    refine zw_bipush (pc := 7) (v := 122) (by decide) d_Tokens_isLetter_7 ?_
    refine zw_icmp_gt (pc := 9) (tgt := 16) (by decide) d_Tokens_isLetter_9 (fun hc_9 => ?_) (fun hc_9 => ?_)
    · refine zw_iconst (pc := 16) (v := 0) (by decide) d_Tokens_isLetter_16 ?_
      exact zw_iret (S := []) (pc := 17) (ty := .boolean) rfl (z_narZ (Or.inl rfl)) d_Tokens_isLetter_17 ⟨hm, _, rfl, Or.inl rfl⟩
    · refine zw_iconst (pc := 12) (v := 1) (by decide) d_Tokens_isLetter_12 ?_
      refine zw_goto (pc := 13) (tgt := 17) (by decide) d_Tokens_isLetter_13 ?_
      exact zw_iret (S := []) (pc := 17) (ty := .boolean) rfl (z_narZ (Or.inr rfl)) d_Tokens_isLetter_17 ⟨hm, _, rfl, Or.inr rfl⟩
set_option maxHeartbeats 4000000 in
theorem c_Tokens_readWord (l : Launch) (B : Nat) (M : zMem) (hT : zTy B M) (q : Nat) (hqB : q < B) (hqk : (zsh M q).1 = 1 + 3) : zC l m_Tokens_readWord 0 0 [.ref q] M (zqV B M [(1, 3), (1, 4), (1, 5)]) := by
  refine zC_of (L0 := [some (.ref q)]) md_Tokens_readWord (Nat.le_of_ble_eq_true rfl) rfl ?_ zQ0
  have hm : zMod B [(1, 3), (1, 4), (1, 5)] M M := zMod.rf
  have lp_0 : ∀ (n : Nat) (N1 : zMem) (hn2 : zMod B [(1, 3), (1, 4), (1, 5)] M N1), zvu (zi N1 q 3) (zi M q 1) < n → zW l m_Tokens_readWord (zn M + 0, zw M + 0) N1 0 [some (.ref q)] [] (zqV B M [(1, 3), (1, 4), (1, 5)]) := by
    intro n
    induction n with
    | zero =>
      intro N1 hn2 h0
      exact absurd h0 (Nat.not_lt_zero _)
    | succ n ih_0 =>
      intro N1 hn2 hlt_0
      refine zw_aload_n (pc := 0) (n := 0) (x := q) rfl d_Tokens_readWord_0 ?_
      refine zc_getIe hn2 (x := zi N1 q 3) rfl (pc := 1) f_Tokens_28 rfl hqk d_Tokens_readWord_1 ?_
      refine zw_aload_n (pc := 4) (n := 0) (x := q) rfl d_Tokens_readWord_4 ?_
      refine zc_getI0 hn2 (pc := 5) (by decide) f_Tokens_20 rfl hqk d_Tokens_readWord_5 ?_
      have j_69 : ∀ (N3 : zMem) (hn4 : zMod B [(1, 3), (1, 4), (1, 5)] M N3) (ki5 : zi N3 q 3 = zi N1 q 3), zW l m_Tokens_readWord (zn M + 0, zw M + 0) N3 69 [some (.ref q)] [] (zqV B M [(1, 3), (1, 4), (1, 5)]) := by
        intro N3 hn4 ki5
        refine zw_aload_n (pc := 69) (n := 0) (x := q) rfl d_Tokens_readWord_69 ?_
        refine zw_aload_n (pc := 70) (n := 0) (x := q) rfl d_Tokens_readWord_70 ?_
        refine zc_getIe hn4 (x := zi N1 q 3) ki5 (pc := 71) f_Tokens_28 rfl hqk d_Tokens_readWord_71 ?_
        refine zw_aload_n (pc := 74) (n := 0) (x := q) rfl d_Tokens_readWord_74 ?_
        refine zc_getI0 hn4 (pc := 75) (by decide) f_Tokens_38 rfl hqk d_Tokens_readWord_75 ?_
        refine zw_isub (pc := 78) d_Tokens_readWord_78 ?_
        refine zw_bipush (pc := 79) (v := 6) (by decide) d_Tokens_readWord_79 ?_
        refine zw_icmp_gt (pc := 81) (tgt := 88) (by decide) d_Tokens_readWord_81 (fun hc_81 => ?_) (fun hc_81 => ?_)
        · refine zw_iconst (pc := 88) (v := 4) (by decide) d_Tokens_readWord_88 ?_
          refine zc_putI hn4 (pc := 89) f_Tokens_44 rfl rfl hqk hqB (by decide) rfl rfl d_Tokens_readWord_89 (fun N6 hN6 hn7 => ?_)
          have kv8 : zi N6 q 3 = zi N1 q 3 := by rw [hN6]; exact (zup2_n (fun z => absurd z.2 (by decide))).trans ki5
          exact zw_vret (S := []) (pc := 92) rfl d_Tokens_readWord_92 ⟨hn7, rfl⟩
        · refine zw_iconst (pc := 84) (v := 1) (by decide) d_Tokens_readWord_84 ?_
          refine zw_goto (pc := 85) (tgt := 89) (by decide) d_Tokens_readWord_85 ?_
          refine zc_putI hn4 (pc := 89) f_Tokens_44 rfl rfl hqk hqB (by decide) rfl rfl d_Tokens_readWord_89 (fun N9 hN9 hn10 => ?_)
          have kv11 : zi N9 q 3 = zi N1 q 3 := by rw [hN9]; exact (zup2_n (fun z => absurd z.2 (by decide))).trans ki5
          exact zw_vret (S := []) (pc := 92) rfl d_Tokens_readWord_92 ⟨hn10, rfl⟩
      refine zw_icmp_ge (pc := 8) (tgt := 69) (by decide) d_Tokens_readWord_8 (fun hc_8 => ?_) (fun hc_8 => ?_)
      · exact j_69 N1 hn2 rfl
      · refine zw_aload_n (pc := 11) (n := 0) (x := q) rfl d_Tokens_readWord_11 ?_
        obtain ⟨r12, r12f, r12B, r12k⟩ := hT.1 q 1 0 hqB hqk (by decide) (by decide) rfl
        refine zc_getF hn2 (pc := 12) f_Tokens_14 rfl hqk r12f d_Tokens_readWord_12 ?_
        refine zw_aload_n (pc := 15) (n := 0) (x := q) rfl d_Tokens_readWord_15 ?_
        refine zc_getIe hn2 (x := zi N1 q 3) rfl (pc := 16) f_Tokens_28 rfl hqk d_Tokens_readWord_16 ?_
        refine zc_callV hn2 (pc := 19) [.int (zi N1 q 3)] [] l_Tokens_47 (c_IntRow_at l B N1 (hT.mod hn2) r12 r12B (hn2.k r12k) (zi N1 q 3)) rfl rfl r12k (by decide) (by decide) (Nat.le_of_ble_eq_true rfl) d_Tokens_readWord_19 (fun r15 N13 hq14 => ?_)
        obtain ⟨hk18, v17, rfl⟩ := hq14
        have hn16 : zMod B [(1, 3), (1, 4), (1, 5)] M N13 := hn2.call hk18 (by decide)
        have kv20 : zi N13 q 3 = zi N1 q 3 := (hk18.2.2.2.2 q 1 3 (hn2.k hqk) (by decide)).trans rfl
        show zW l m_Tokens_readWord (zn M + 0, zw M + 0) N13 22 [some (.ref q)] [.int v17] (zqV B M [(1, 3), (1, 4), (1, 5)])
        refine zc_callS hn16 (pc := 22) [.int v17] [] l_Tokens_50 (c_Tokens_isLetter l B N13 (hT.mod hn16) v17) rfl rfl (by decide) (Nat.le_of_ble_eq_true rfl) d_Tokens_readWord_22 (fun r23 N21 hq22 => ?_)
        obtain ⟨hk26, v25, rfl, zv25⟩ := hq22
        have hn24 : zMod B [(1, 3), (1, 4), (1, 5)] M N21 := hn16.call hk26 (by decide)
        have kv28 : zi N21 q 3 = zi N1 q 3 := (hk26.2.2.2.2 q 1 3 (hn16.k hqk) (by decide)).trans kv20
        show zW l m_Tokens_readWord (zn M + 0, zw M + 0) N21 25 [some (.ref q)] [.int v25] (zqV B M [(1, 3), (1, 4), (1, 5)])
        refine zw_if_eq (pc := 25) (tgt := 69) (by decide) d_Tokens_readWord_25 (fun hc_25 => ?_) (fun hc_25 => ?_)
        · exact j_69 N21 hn24 kv28
        · refine zw_aload_n (pc := 28) (n := 0) (x := q) rfl d_Tokens_readWord_28 ?_
          refine zw_aload_n (pc := 29) (n := 0) (x := q) rfl d_Tokens_readWord_29 ?_
          refine zc_getI hn24 (pc := 30) f_Tokens_41 rfl hqk d_Tokens_readWord_30 ?_
          refine zw_bipush (pc := 33) (v := 27) (by decide) d_Tokens_readWord_33 ?_
          refine zw_imul (pc := 35) d_Tokens_readWord_35 ?_
          refine zw_aload_n (pc := 36) (n := 0) (x := q) rfl d_Tokens_readWord_36 ?_
          refine zc_getF hn24 (pc := 37) f_Tokens_14 rfl hqk r12f d_Tokens_readWord_37 ?_
          refine zw_aload_n (pc := 40) (n := 0) (x := q) rfl d_Tokens_readWord_40 ?_
          refine zc_getIe hn24 (x := zi N1 q 3) kv28 (pc := 41) f_Tokens_28 rfl hqk d_Tokens_readWord_41 ?_
          refine zc_callV hn24 (pc := 44) [.int (zi N1 q 3)] [.int ((zi N21 q 5) * 27), .ref q] l_Tokens_47 (c_IntRow_at l B N21 (hT.mod hn24) r12 r12B (hn24.k r12k) (zi N1 q 3)) rfl rfl r12k (by decide) (by decide) (Nat.le_of_ble_eq_true rfl) d_Tokens_readWord_44 (fun r31 N29 hq30 => ?_)
          obtain ⟨hk34, v33, rfl⟩ := hq30
          have hn32 : zMod B [(1, 3), (1, 4), (1, 5)] M N29 := hn24.call hk34 (by decide)
          have kv36 : zi N29 q 3 = zi N1 q 3 := (hk34.2.2.2.2 q 1 3 (hn24.k hqk) (by decide)).trans kv28
          show zW l m_Tokens_readWord (zn M + 0, zw M + 0) N29 47 [some (.ref q)] [.int v33, .int ((zi N21 q 5) * 27), .ref q] (zqV B M [(1, 3), (1, 4), (1, 5)])
          refine zw_iadd (pc := 47) d_Tokens_readWord_47 ?_
          refine zw_bipush (pc := 48) (v := 97) (by decide) d_Tokens_readWord_48 ?_
          refine zw_isub (pc := 50) d_Tokens_readWord_50 ?_
          refine zw_iconst (pc := 51) (v := 1) (by decide) d_Tokens_readWord_51 ?_
          refine zw_iadd (pc := 52) d_Tokens_readWord_52 ?_
          refine zc_putI hn32 (pc := 53) f_Tokens_41 rfl rfl hqk hqB (by decide) rfl rfl d_Tokens_readWord_53 (fun N37 hN37 hn38 => ?_)
          have kv39 : zi N37 q 3 = zi N1 q 3 := by rw [hN37]; exact (zup2_n (fun z => absurd z.2 (by decide))).trans kv36
          refine zw_aload_n (pc := 56) (n := 0) (x := q) rfl d_Tokens_readWord_56 ?_
          refine zw_dup (pc := 57) rfl d_Tokens_readWord_57 ?_
          refine zc_getIe hn38 (x := zi N1 q 3) kv39 (pc := 58) f_Tokens_28 rfl hqk d_Tokens_readWord_58 ?_
          refine zw_iconst (pc := 61) (v := 1) (by decide) d_Tokens_readWord_61 ?_
          refine zw_iadd (pc := 62) d_Tokens_readWord_62 ?_
          refine zc_putI hn38 (pc := 63) f_Tokens_28 rfl rfl hqk hqB (by decide) rfl rfl d_Tokens_readWord_63 (fun N40 hN40 hn41 => ?_)
          have kv42 : zi N40 q 3 = (zi N1 q 3) + 1 := by rw [hN40]; exact zup2_s
          refine zw_goto (pc := 66) (tgt := 0) (by decide) d_Tokens_readWord_66 ?_
          exact ih_0 N40 hn41 (Nat.lt_of_lt_of_le (by rw [kv42]; exact z_up hc_8) (Nat.le_of_lt_succ hlt_0))
  exact lp_0 _ M hm (Nat.lt_succ_self _)
set_option maxHeartbeats 4000000 in
theorem c_Tokens_isDigit (l : Launch) (B : Nat) (M : zMem) (hT : zTy B M) (x0 : Int32) : zC l m_Tokens_isDigit 0 0 [.int x0] M (zqZ B M []) := by
  refine zC_of (L0 := [some (.int x0)]) md_Tokens_isDigit (Nat.le_of_ble_eq_true rfl) rfl ?_ zQ0
  have hm : zMod B [] M M := zMod.rf
  refine zw_iload_n (pc := 0) (n := 0) (x := x0) rfl d_Tokens_isDigit_0 ?_
  refine zw_bipush (pc := 1) (v := 48) (by decide) d_Tokens_isDigit_1 ?_
  refine zw_icmp_lt (pc := 3) (tgt := 16) (by decide) d_Tokens_isDigit_3 (fun hc_3 => ?_) (fun hc_3 => ?_)
  · refine zw_iconst (pc := 16) (v := 0) (by decide) d_Tokens_isDigit_16 ?_
    exact zw_iret (S := []) (pc := 17) (ty := .boolean) rfl (z_narZ (Or.inl rfl)) d_Tokens_isDigit_17 ⟨hm, _, rfl, Or.inl rfl⟩
  · refine zw_iload_n (pc := 6) (n := 0) (x := x0) rfl d_Tokens_isDigit_6 ?_
    refine zw_bipush (pc := 7) (v := 57) (by decide) d_Tokens_isDigit_7 ?_
    refine zw_icmp_gt (pc := 9) (tgt := 16) (by decide) d_Tokens_isDigit_9 (fun hc_9 => ?_) (fun hc_9 => ?_)
    · refine zw_iconst (pc := 16) (v := 0) (by decide) d_Tokens_isDigit_16 ?_
      exact zw_iret (S := []) (pc := 17) (ty := .boolean) rfl (z_narZ (Or.inl rfl)) d_Tokens_isDigit_17 ⟨hm, _, rfl, Or.inl rfl⟩
    · refine zw_iconst (pc := 12) (v := 1) (by decide) d_Tokens_isDigit_12 ?_
      refine zw_goto (pc := 13) (tgt := 17) (by decide) d_Tokens_isDigit_13 ?_
      exact zw_iret (S := []) (pc := 17) (ty := .boolean) rfl (z_narZ (Or.inr rfl)) d_Tokens_isDigit_17 ⟨hm, _, rfl, Or.inr rfl⟩
set_option maxHeartbeats 4000000 in
theorem c_Tokens_pastDigits (l : Launch) (B : Nat) (M : zMem) (hT : zTy B M) (q : Nat) (hqB : q < B) (hqk : (zsh M q).1 = 1 + 3) (x0 : Int32) : zC l m_Tokens_pastDigits 0 0 [.ref q, .int x0] M (zqI B M []) := by
  refine zC_of (L0 := [some (.ref q), some (.int x0), none]) md_Tokens_pastDigits (Nat.le_of_ble_eq_true rfl) rfl ?_ zQ0
  have hm : zMod B [] M M := zMod.rf
  refine zw_iload_n (pc := 0) (n := 1) (x := x0) rfl d_Tokens_pastDigits_0 ?_
  refine zw_istore_n (pc := 1) (i := 2) (L2 := [some (.ref q), some (.int x0), some (.int x0)]) rfl (by decide) rfl d_Tokens_pastDigits_1 ?_
  have lp_2 : ∀ (n : Nat) (u1 : Int32) (N2 : zMem) (hn3 : zMod B [] M N2), zvu u1 (zi M q 1) < n → zW l m_Tokens_pastDigits (zn M + 0, zw M + 0) N2 2 [some (.ref q), some (.int x0), some (.int u1)] [] (zqI B M []) := by
    intro n
    induction n with
    | zero =>
      intro u1 N2 hn3 h0
      exact absurd h0 (Nat.not_lt_zero _)
    | succ n ih_2 =>
      intro u1 N2 hn3 hlt_2
      refine zw_iload_n (pc := 2) (n := 2) (x := u1) rfl d_Tokens_pastDigits_2 ?_
      refine zw_aload_n (pc := 3) (n := 0) (x := q) rfl d_Tokens_pastDigits_3 ?_
      refine zc_getI0 hn3 (pc := 4) (by decide) f_Tokens_20 rfl hqk d_Tokens_pastDigits_4 ?_
      refine zw_icmp_ge (pc := 7) (tgt := 30) (by decide) d_Tokens_pastDigits_7 (fun hc_7 => ?_) (fun hc_7 => ?_)
      · refine zw_iload_n (pc := 30) (n := 2) (x := u1) rfl d_Tokens_pastDigits_30 ?_
        exact zw_iret (S := []) (pc := 31) (ty := .int) rfl rfl d_Tokens_pastDigits_31 ⟨hn3, _, rfl⟩
      · refine zw_aload_n (pc := 10) (n := 0) (x := q) rfl d_Tokens_pastDigits_10 ?_
        obtain ⟨r4, r4f, r4B, r4k⟩ := hT.1 q 1 0 hqB hqk (by decide) (by decide) rfl
        refine zc_getF hn3 (pc := 11) f_Tokens_14 rfl hqk r4f d_Tokens_pastDigits_11 ?_
        refine zw_iload_n (pc := 14) (n := 2) (x := u1) rfl d_Tokens_pastDigits_14 ?_
        refine zc_callV hn3 (pc := 15) [.int u1] [] l_Tokens_47 (c_IntRow_at l B N2 (hT.mod hn3) r4 r4B (hn3.k r4k) u1) rfl rfl r4k (by decide) (by decide) (Nat.le_of_ble_eq_true rfl) d_Tokens_pastDigits_15 (fun r7 N5 hq6 => ?_)
        obtain ⟨hk10, v9, rfl⟩ := hq6
        have hn8 : zMod B [] M N5 := hn3.call hk10 (by decide)
        show zW l m_Tokens_pastDigits (zn M + 0, zw M + 0) N5 18 [some (.ref q), some (.int x0), some (.int u1)] [.int v9] (zqI B M [])
        refine zc_callS hn8 (pc := 18) [.int v9] [] l_Tokens_57 (c_Tokens_isDigit l B N5 (hT.mod hn8) v9) rfl rfl (by decide) (Nat.le_of_ble_eq_true rfl) d_Tokens_pastDigits_18 (fun r14 N12 hq13 => ?_)
        obtain ⟨hk17, v16, rfl, zv16⟩ := hq13
        have hn15 : zMod B [] M N12 := hn8.call hk17 (by decide)
        show zW l m_Tokens_pastDigits (zn M + 0, zw M + 0) N12 21 [some (.ref q), some (.int x0), some (.int u1)] [.int v16] (zqI B M [])
        refine zw_if_eq (pc := 21) (tgt := 30) (by decide) d_Tokens_pastDigits_21 (fun hc_21 => ?_) (fun hc_21 => ?_)
        · refine zw_iload_n (pc := 30) (n := 2) (x := u1) rfl d_Tokens_pastDigits_30 ?_
          exact zw_iret (S := []) (pc := 31) (ty := .int) rfl rfl d_Tokens_pastDigits_31 ⟨hn15, _, rfl⟩
        · refine zw_iinc (pc := 24) (i := 2) (x := u1) (v := u1 + Int32.ofInt 1) (L2 := [some (.ref q), some (.int x0), some (.int (u1 + Int32.ofInt 1))]) rfl rfl (by decide) rfl d_Tokens_pastDigits_24 ?_
          refine zw_goto (pc := 27) (tgt := 2) (by decide) d_Tokens_pastDigits_27 ?_
          exact ih_2 (u1 + Int32.ofInt 1) N12 hn15 (Nat.lt_of_lt_of_le (z_up hc_7) (Nat.le_of_lt_succ hlt_2))
  exact lp_2 _ x0 M hm (Nat.lt_succ_self _)
set_option maxHeartbeats 4000000 in
theorem c_Tokens_numberFrom (l : Launch) (B : Nat) (M : zMem) (hT : zTy B M) (q : Nat) (hqB : q < B) (hqk : (zsh M q).1 = 1 + 3) (x0 : Int32) (x1 : Int32) : zC l m_Tokens_numberFrom 0 0 [.ref q, .int x0, .int x1] M (zqI B M []) := by
  refine zC_of (L0 := [some (.ref q), some (.int x0), some (.int x1), none, none]) md_Tokens_numberFrom (Nat.le_of_ble_eq_true rfl) rfl ?_ zQ0
  have hm : zMod B [] M M := zMod.rf
  refine zw_iconst (pc := 0) (v := 0) (by decide) d_Tokens_numberFrom_0 ?_
  refine zw_istore_n (pc := 1) (i := 3) (L2 := [some (.ref q), some (.int x0), some (.int x1), some (.int 0), none]) rfl (by decide) rfl d_Tokens_numberFrom_1 ?_
  refine zw_iload_n (pc := 2) (n := 1) (x := x0) rfl d_Tokens_numberFrom_2 ?_
  refine zw_istore (pc := 3) (i := 4) (L2 := [some (.ref q), some (.int x0), some (.int x1), some (.int 0), some (.int x0)]) (by decide) rfl d_Tokens_numberFrom_3 ?_
  have lp_5 : ∀ (n : Nat) (u1 : Int32) (u2 : Int32) (N3 : zMem) (hn4 : zMod B [] M N3), zvu u2 x1 < n → zW l m_Tokens_numberFrom (zn M + 0, zw M + 0) N3 5 [some (.ref q), some (.int x0), some (.int x1), some (.int u1), some (.int u2)] [] (zqI B M []) := by
    intro n
    induction n with
    | zero =>
      intro u1 u2 N3 hn4 h0
      exact absurd h0 (Nat.not_lt_zero _)
    | succ n ih_5 =>
      intro u1 u2 N3 hn4 hlt_5
      refine zw_iload (pc := 5) (i := 4) (x := u2) rfl d_Tokens_numberFrom_5 ?_
      refine zw_iload_n (pc := 7) (n := 2) (x := x1) rfl d_Tokens_numberFrom_7 ?_
      refine zw_icmp_ge (pc := 8) (tgt := 35) (by decide) d_Tokens_numberFrom_8 (fun hc_8 => ?_) (fun hc_8 => ?_)
      · refine zw_iload_n (pc := 35) (n := 3) (x := u1) rfl d_Tokens_numberFrom_35 ?_
        exact zw_iret (S := []) (pc := 36) (ty := .int) rfl rfl d_Tokens_numberFrom_36 ⟨hn4, _, rfl⟩
      · refine zw_iload_n (pc := 11) (n := 3) (x := u1) rfl d_Tokens_numberFrom_11 ?_
        refine zw_bipush (pc := 12) (v := 10) (by decide) d_Tokens_numberFrom_12 ?_
        refine zw_imul (pc := 14) d_Tokens_numberFrom_14 ?_
        refine zw_aload_n (pc := 15) (n := 0) (x := q) rfl d_Tokens_numberFrom_15 ?_
        obtain ⟨r5, r5f, r5B, r5k⟩ := hT.1 q 1 0 hqB hqk (by decide) (by decide) rfl
        refine zc_getF hn4 (pc := 16) f_Tokens_14 rfl hqk r5f d_Tokens_numberFrom_16 ?_
        refine zw_iload (pc := 19) (i := 4) (x := u2) rfl d_Tokens_numberFrom_19 ?_
        refine zc_callV hn4 (pc := 21) [.int u2] [.int (u1 * 10)] l_Tokens_47 (c_IntRow_at l B N3 (hT.mod hn4) r5 r5B (hn4.k r5k) u2) rfl rfl r5k (by decide) (by decide) (Nat.le_of_ble_eq_true rfl) d_Tokens_numberFrom_21 (fun r8 N6 hq7 => ?_)
        obtain ⟨hk11, v10, rfl⟩ := hq7
        have hn9 : zMod B [] M N6 := hn4.call hk11 (by decide)
        show zW l m_Tokens_numberFrom (zn M + 0, zw M + 0) N6 24 [some (.ref q), some (.int x0), some (.int x1), some (.int u1), some (.int u2)] [.int v10, .int (u1 * 10)] (zqI B M [])
        refine zw_iadd (pc := 24) d_Tokens_numberFrom_24 ?_
        refine zw_bipush (pc := 25) (v := 48) (by decide) d_Tokens_numberFrom_25 ?_
        refine zw_isub (pc := 27) d_Tokens_numberFrom_27 ?_
        refine zw_istore_n (pc := 28) (i := 3) (L2 := [some (.ref q), some (.int x0), some (.int x1), some (.int (((u1 * 10) + v10) - 48)), some (.int u2)]) rfl (by decide) rfl d_Tokens_numberFrom_28 ?_
        refine zw_iinc (pc := 29) (i := 4) (x := u2) (v := u2 + Int32.ofInt 1) (L2 := [some (.ref q), some (.int x0), some (.int x1), some (.int (((u1 * 10) + v10) - 48)), some (.int (u2 + Int32.ofInt 1))]) rfl rfl (by decide) rfl d_Tokens_numberFrom_29 ?_
        refine zw_goto (pc := 32) (tgt := 5) (by decide) d_Tokens_numberFrom_32 ?_
        exact ih_5 (((u1 * 10) + v10) - 48) (u2 + Int32.ofInt 1) N6 hn9 (Nat.lt_of_lt_of_le (z_up hc_8) (Nat.le_of_lt_succ hlt_5))
  exact lp_5 _ 0 x0 M hm (Nat.lt_succ_self _)
set_option maxHeartbeats 4000000 in
theorem c_Tokens_readNumber (l : Launch) (B : Nat) (M : zMem) (hT : zTy B M) (q : Nat) (hqB : q < B) (hqk : (zsh M q).1 = 1 + 3) : zC l m_Tokens_readNumber 0 0 [.ref q] M (zqV B M [(1, 3), (1, 4), (1, 5)]) := by
  refine zC_of (L0 := [some (.ref q), none]) md_Tokens_readNumber (Nat.le_of_ble_eq_true rfl) rfl ?_ zQ0
  have hm : zMod B [(1, 3), (1, 4), (1, 5)] M M := zMod.rf
  refine zw_aload_n (pc := 0) (n := 0) (x := q) rfl d_Tokens_readNumber_0 ?_
  refine zw_aload_n (pc := 1) (n := 0) (x := q) rfl d_Tokens_readNumber_1 ?_
  refine zw_aload_n (pc := 2) (n := 0) (x := q) rfl d_Tokens_readNumber_2 ?_
  refine zc_getI0 hm (pc := 3) (by decide) f_Tokens_38 rfl hqk d_Tokens_readNumber_3 ?_
  refine zc_callV hm (pc := 6) [.int (zi M q 2)] [.ref q] l_Tokens_66 (c_Tokens_pastDigits l B M (hT.mod hm) q hqB (hm.k hqk) (zi M q 2)) rfl rfl hqk (by decide) (by decide) (Nat.le_of_ble_eq_true rfl) d_Tokens_readNumber_6 (fun r3 N1 hq2 => ?_)
  obtain ⟨hk6, v5, rfl⟩ := hq2
  have hn4 : zMod B [(1, 3), (1, 4), (1, 5)] M N1 := hm.call hk6 (by decide)
  show zW l m_Tokens_readNumber (zn M + 0, zw M + 0) N1 9 [some (.ref q), none] [.int v5, .ref q] (zqV B M [(1, 3), (1, 4), (1, 5)])
  refine zc_putI hn4 (pc := 9) f_Tokens_28 rfl rfl hqk hqB (by decide) rfl rfl d_Tokens_readNumber_9 (fun N8 hN8 hn9 => ?_)
  refine zw_aload_n (pc := 12) (n := 0) (x := q) rfl d_Tokens_readNumber_12 ?_
  refine zw_aload_n (pc := 13) (n := 0) (x := q) rfl d_Tokens_readNumber_13 ?_
  refine zw_aload_n (pc := 14) (n := 0) (x := q) rfl d_Tokens_readNumber_14 ?_
  refine zc_getI0 hn9 (pc := 15) (by decide) f_Tokens_38 rfl hqk d_Tokens_readNumber_15 ?_
  refine zw_aload_n (pc := 18) (n := 0) (x := q) rfl d_Tokens_readNumber_18 ?_
  refine zc_getI hn9 (pc := 19) f_Tokens_28 rfl hqk d_Tokens_readNumber_19 ?_
  refine zc_callV hn9 (pc := 22) [.int (zi M q 2), .int (zi N8 q 3)] [.ref q] l_Tokens_69 (c_Tokens_numberFrom l B N8 (hT.mod hn9) q hqB (hn9.k hqk) (zi M q 2) (zi N8 q 3)) rfl rfl hqk (by decide) (by decide) (Nat.le_of_ble_eq_true rfl) d_Tokens_readNumber_22 (fun r12 N10 hq11 => ?_)
  obtain ⟨hk15, v14, rfl⟩ := hq11
  have hn13 : zMod B [(1, 3), (1, 4), (1, 5)] M N10 := hn9.call hk15 (by decide)
  show zW l m_Tokens_readNumber (zn M + 0, zw M + 0) N10 25 [some (.ref q), none] [.int v14, .ref q] (zqV B M [(1, 3), (1, 4), (1, 5)])
  refine zc_putI hn13 (pc := 25) f_Tokens_41 rfl rfl hqk hqB (by decide) rfl rfl d_Tokens_readNumber_25 (fun N17 hN17 hn18 => ?_)
  refine zw_aload_n (pc := 28) (n := 0) (x := q) rfl d_Tokens_readNumber_28 ?_
  refine zc_getI hn18 (pc := 29) f_Tokens_28 rfl hqk d_Tokens_readNumber_29 ?_
  refine zw_aload_n (pc := 32) (n := 0) (x := q) rfl d_Tokens_readNumber_32 ?_
  refine zc_getI0 hn18 (pc := 33) (by decide) f_Tokens_20 rfl hqk d_Tokens_readNumber_33 ?_
  have j_61 : ∀ (u19 : Int32) (hu19 : u19 = 0 ∨ u19 = 1) (N20 : zMem) (hn21 : zMod B [(1, 3), (1, 4), (1, 5)] M N20), zW l m_Tokens_readNumber (zn M + 0, zw M + 0) N20 61 [some (.ref q), none] [.int u19] (zqV B M [(1, 3), (1, 4), (1, 5)]) := by
    intro u19 hu19 N20 hn21
    refine zw_istore_n (pc := 61) (i := 1) (L2 := [some (.ref q), some (.int u19)]) rfl (by decide) rfl d_Tokens_readNumber_61 ?_
    refine zw_aload_n (pc := 62) (n := 0) (x := q) rfl d_Tokens_readNumber_62 ?_
    refine zw_aload_n (pc := 63) (n := 0) (x := q) rfl d_Tokens_readNumber_63 ?_
    refine zc_getI hn21 (pc := 64) f_Tokens_28 rfl hqk d_Tokens_readNumber_64 ?_
    refine zw_aload_n (pc := 67) (n := 0) (x := q) rfl d_Tokens_readNumber_67 ?_
    refine zc_getI0 hn21 (pc := 68) (by decide) f_Tokens_38 rfl hqk d_Tokens_readNumber_68 ?_
    refine zw_isub (pc := 71) d_Tokens_readNumber_71 ?_
    refine zw_iconst (pc := 72) (v := 3) (by decide) d_Tokens_readNumber_72 ?_
    refine zw_icmp_gt (pc := 73) (tgt := 84) (by decide) d_Tokens_readNumber_73 (fun hc_73 => ?_) (fun hc_73 => ?_)
    · refine zw_iconst (pc := 84) (v := 4) (by decide) d_Tokens_readNumber_84 ?_
      refine zc_putI hn21 (pc := 85) f_Tokens_44 rfl rfl hqk hqB (by decide) rfl rfl d_Tokens_readNumber_85 (fun N22 hN22 hn23 => ?_)
      exact zw_vret (S := []) (pc := 88) rfl d_Tokens_readNumber_88 ⟨hn23, rfl⟩
    · refine zw_iload_n (pc := 76) (n := 1) (x := u19) rfl d_Tokens_readNumber_76 ?_
      refine zw_if_ne (pc := 77) (tgt := 84) (by decide) d_Tokens_readNumber_77 (fun hc_77 => ?_) (fun hc_77 => ?_)
      · refine zw_iconst (pc := 84) (v := 4) (by decide) d_Tokens_readNumber_84 ?_
        refine zc_putI hn21 (pc := 85) f_Tokens_44 rfl rfl hqk hqB (by decide) rfl rfl d_Tokens_readNumber_85 (fun N24 hN24 hn25 => ?_)
        exact zw_vret (S := []) (pc := 88) rfl d_Tokens_readNumber_88 ⟨hn25, rfl⟩
      · refine zw_iconst (pc := 80) (v := 2) (by decide) d_Tokens_readNumber_80 ?_
        refine zw_goto (pc := 81) (tgt := 85) (by decide) d_Tokens_readNumber_81 ?_
        refine zc_putI hn21 (pc := 85) f_Tokens_44 rfl rfl hqk hqB (by decide) rfl rfl d_Tokens_readNumber_85 (fun N26 hN26 hn27 => ?_)
        exact zw_vret (S := []) (pc := 88) rfl d_Tokens_readNumber_88 ⟨hn27, rfl⟩
  have j_60 : ∀ (N28 : zMem) (hn29 : zMod B [(1, 3), (1, 4), (1, 5)] M N28), zW l m_Tokens_readNumber (zn M + 0, zw M + 0) N28 60 [some (.ref q), none] [] (zqV B M [(1, 3), (1, 4), (1, 5)]) := by
    intro N28 hn29
    refine zw_iconst (pc := 60) (v := 0) (by decide) d_Tokens_readNumber_60 ?_
    exact j_61 0 (Or.inl rfl) N28 hn29
  refine zw_icmp_ge (pc := 36) (tgt := 60) (by decide) d_Tokens_readNumber_36 (fun hc_36 => ?_) (fun hc_36 => ?_)
  · exact j_60 N17 hn18
  · refine zw_aload_n (pc := 39) (n := 0) (x := q) rfl d_Tokens_readNumber_39 ?_
    obtain ⟨r30, r30f, r30B, r30k⟩ := hT.1 q 1 0 hqB hqk (by decide) (by decide) rfl
    refine zc_getF hn18 (pc := 40) f_Tokens_14 rfl hqk r30f d_Tokens_readNumber_40 ?_
    refine zw_aload_n (pc := 43) (n := 0) (x := q) rfl d_Tokens_readNumber_43 ?_
    refine zc_getI hn18 (pc := 44) f_Tokens_28 rfl hqk d_Tokens_readNumber_44 ?_
    refine zc_callV hn18 (pc := 47) [.int (zi N17 q 3)] [] l_Tokens_47 (c_IntRow_at l B N17 (hT.mod hn18) r30 r30B (hn18.k r30k) (zi N17 q 3)) rfl rfl r30k (by decide) (by decide) (Nat.le_of_ble_eq_true rfl) d_Tokens_readNumber_47 (fun r33 N31 hq32 => ?_)
    obtain ⟨hk36, v35, rfl⟩ := hq32
    have hn34 : zMod B [(1, 3), (1, 4), (1, 5)] M N31 := hn18.call hk36 (by decide)
    show zW l m_Tokens_readNumber (zn M + 0, zw M + 0) N31 50 [some (.ref q), none] [.int v35] (zqV B M [(1, 3), (1, 4), (1, 5)])
    refine zc_callS hn34 (pc := 50) [.int v35] [] l_Tokens_50 (c_Tokens_isLetter l B N31 (hT.mod hn34) v35) rfl rfl (by decide) (Nat.le_of_ble_eq_true rfl) d_Tokens_readNumber_50 (fun r40 N38 hq39 => ?_)
    obtain ⟨hk43, v42, rfl, zv42⟩ := hq39
    have hn41 : zMod B [(1, 3), (1, 4), (1, 5)] M N38 := hn34.call hk43 (by decide)
    show zW l m_Tokens_readNumber (zn M + 0, zw M + 0) N38 53 [some (.ref q), none] [.int v42] (zqV B M [(1, 3), (1, 4), (1, 5)])
    refine zw_if_eq (pc := 53) (tgt := 60) (by decide) d_Tokens_readNumber_53 (fun hc_53 => ?_) (fun hc_53 => ?_)
    · exact j_60 N38 hn41
    · refine zw_iconst (pc := 56) (v := 1) (by decide) d_Tokens_readNumber_56 ?_
      refine zw_goto (pc := 57) (tgt := 61) (by decide) d_Tokens_readNumber_57 ?_
      exact j_61 1 (Or.inr rfl) N38 hn41
set_option maxHeartbeats 4000000 in
theorem c_Tokens_isSignByte (l : Launch) (B : Nat) (M : zMem) (hT : zTy B M) (x0 : Int32) : zC l m_Tokens_isSignByte 0 0 [.int x0] M (zqZ B M []) := by
  refine zC_of (L0 := [some (.int x0)]) md_Tokens_isSignByte (Nat.le_of_ble_eq_true rfl) rfl ?_ zQ0
  have hm : zMod B [] M M := zMod.rf
  refine zw_iload_n (pc := 0) (n := 0) (x := x0) rfl d_Tokens_isSignByte_0 ?_
  refine zw_bipush (pc := 1) (v := 61) (by decide) d_Tokens_isSignByte_1 ?_
  refine zw_icmp_eq (pc := 3) (tgt := 48) (by decide) d_Tokens_isSignByte_3 (fun hc_3 => ?_) (fun hc_3 => ?_)
  · refine zw_iconst (pc := 48) (v := 1) (by decide) d_Tokens_isSignByte_48 ?_
    refine zw_goto (pc := 49) (tgt := 53) (by decide) d_Tokens_isSignByte_49 ?_
    exact zw_iret (S := []) (pc := 53) (ty := .boolean) rfl (z_narZ (Or.inr rfl)) d_Tokens_isSignByte_53 ⟨hm, _, rfl, Or.inr rfl⟩
  · refine zw_iload_n (pc := 6) (n := 0) (x := x0) rfl d_Tokens_isSignByte_6 ?_
    refine zw_bipush (pc := 7) (v := 43) (by decide) d_Tokens_isSignByte_7 ?_
    refine zw_icmp_eq (pc := 9) (tgt := 48) (by decide) d_Tokens_isSignByte_9 (fun hc_9 => ?_) (fun hc_9 => ?_)
    · refine zw_iconst (pc := 48) (v := 1) (by decide) d_Tokens_isSignByte_48 ?_
      refine zw_goto (pc := 49) (tgt := 53) (by decide) d_Tokens_isSignByte_49 ?_
      exact zw_iret (S := []) (pc := 53) (ty := .boolean) rfl (z_narZ (Or.inr rfl)) d_Tokens_isSignByte_53 ⟨hm, _, rfl, Or.inr rfl⟩
    · refine zw_iload_n (pc := 12) (n := 0) (x := x0) rfl d_Tokens_isSignByte_12 ?_
      refine zw_bipush (pc := 13) (v := 45) (by decide) d_Tokens_isSignByte_13 ?_
      refine zw_icmp_eq (pc := 15) (tgt := 48) (by decide) d_Tokens_isSignByte_15 (fun hc_15 => ?_) (fun hc_15 => ?_)
      · refine zw_iconst (pc := 48) (v := 1) (by decide) d_Tokens_isSignByte_48 ?_
        refine zw_goto (pc := 49) (tgt := 53) (by decide) d_Tokens_isSignByte_49 ?_
        exact zw_iret (S := []) (pc := 53) (ty := .boolean) rfl (z_narZ (Or.inr rfl)) d_Tokens_isSignByte_53 ⟨hm, _, rfl, Or.inr rfl⟩
      · refine zw_iload_n (pc := 18) (n := 0) (x := x0) rfl d_Tokens_isSignByte_18 ?_
        refine zw_bipush (pc := 19) (v := 42) (by decide) d_Tokens_isSignByte_19 ?_
        refine zw_icmp_eq (pc := 21) (tgt := 48) (by decide) d_Tokens_isSignByte_21 (fun hc_21 => ?_) (fun hc_21 => ?_)
        · refine zw_iconst (pc := 48) (v := 1) (by decide) d_Tokens_isSignByte_48 ?_
          refine zw_goto (pc := 49) (tgt := 53) (by decide) d_Tokens_isSignByte_49 ?_
          exact zw_iret (S := []) (pc := 53) (ty := .boolean) rfl (z_narZ (Or.inr rfl)) d_Tokens_isSignByte_53 ⟨hm, _, rfl, Or.inr rfl⟩
        · refine zw_iload_n (pc := 24) (n := 0) (x := x0) rfl d_Tokens_isSignByte_24 ?_
          refine zw_bipush (pc := 25) (v := 94) (by decide) d_Tokens_isSignByte_25 ?_
          refine zw_icmp_eq (pc := 27) (tgt := 48) (by decide) d_Tokens_isSignByte_27 (fun hc_27 => ?_) (fun hc_27 => ?_)
          · refine zw_iconst (pc := 48) (v := 1) (by decide) d_Tokens_isSignByte_48 ?_
            refine zw_goto (pc := 49) (tgt := 53) (by decide) d_Tokens_isSignByte_49 ?_
            exact zw_iret (S := []) (pc := 53) (ty := .boolean) rfl (z_narZ (Or.inr rfl)) d_Tokens_isSignByte_53 ⟨hm, _, rfl, Or.inr rfl⟩
          · refine zw_iload_n (pc := 30) (n := 0) (x := x0) rfl d_Tokens_isSignByte_30 ?_
            refine zw_bipush (pc := 31) (v := 40) (by decide) d_Tokens_isSignByte_31 ?_
            refine zw_icmp_eq (pc := 33) (tgt := 48) (by decide) d_Tokens_isSignByte_33 (fun hc_33 => ?_) (fun hc_33 => ?_)
            · refine zw_iconst (pc := 48) (v := 1) (by decide) d_Tokens_isSignByte_48 ?_
              refine zw_goto (pc := 49) (tgt := 53) (by decide) d_Tokens_isSignByte_49 ?_
              exact zw_iret (S := []) (pc := 53) (ty := .boolean) rfl (z_narZ (Or.inr rfl)) d_Tokens_isSignByte_53 ⟨hm, _, rfl, Or.inr rfl⟩
            · refine zw_iload_n (pc := 36) (n := 0) (x := x0) rfl d_Tokens_isSignByte_36 ?_
              refine zw_bipush (pc := 37) (v := 41) (by decide) d_Tokens_isSignByte_37 ?_
              refine zw_icmp_eq (pc := 39) (tgt := 48) (by decide) d_Tokens_isSignByte_39 (fun hc_39 => ?_) (fun hc_39 => ?_)
              · refine zw_iconst (pc := 48) (v := 1) (by decide) d_Tokens_isSignByte_48 ?_
                refine zw_goto (pc := 49) (tgt := 53) (by decide) d_Tokens_isSignByte_49 ?_
                exact zw_iret (S := []) (pc := 53) (ty := .boolean) rfl (z_narZ (Or.inr rfl)) d_Tokens_isSignByte_53 ⟨hm, _, rfl, Or.inr rfl⟩
              · refine zw_iload_n (pc := 42) (n := 0) (x := x0) rfl d_Tokens_isSignByte_42 ?_
                refine zw_bipush (pc := 43) (v := 59) (by decide) d_Tokens_isSignByte_43 ?_
                refine zw_icmp_ne (pc := 45) (tgt := 52) (by decide) d_Tokens_isSignByte_45 (fun hc_45 => ?_) (fun hc_45 => ?_)
                · refine zw_iconst (pc := 52) (v := 0) (by decide) d_Tokens_isSignByte_52 ?_
                  exact zw_iret (S := []) (pc := 53) (ty := .boolean) rfl (z_narZ (Or.inl rfl)) d_Tokens_isSignByte_53 ⟨hm, _, rfl, Or.inl rfl⟩
                · refine zw_iconst (pc := 48) (v := 1) (by decide) d_Tokens_isSignByte_48 ?_
                  refine zw_goto (pc := 49) (tgt := 53) (by decide) d_Tokens_isSignByte_49 ?_
                  exact zw_iret (S := []) (pc := 53) (ty := .boolean) rfl (z_narZ (Or.inr rfl)) d_Tokens_isSignByte_53 ⟨hm, _, rfl, Or.inr rfl⟩
set_option maxHeartbeats 4000000 in
theorem c_Tokens_step (l : Launch) (B : Nat) (M : zMem) (hT : zTy B M) (q : Nat) (hqB : q < B) (hqk : (zsh M q).1 = 1 + 3) : zC l m_Tokens_step 0 0 [.ref q] M (zqV B M [(1, 2), (1, 3), (1, 4), (1, 5)]) := by
  refine zC_of (L0 := [some (.ref q)]) md_Tokens_step (Nat.le_of_ble_eq_true rfl) rfl ?_ zQ0
  have hm : zMod B [(1, 2), (1, 3), (1, 4), (1, 5)] M M := zMod.rf
  refine zw_aload_n (pc := 0) (n := 0) (x := q) rfl d_Tokens_step_0 ?_
  refine zw_aload_n (pc := 1) (n := 0) (x := q) rfl d_Tokens_step_1 ?_
  refine zw_aload_n (pc := 2) (n := 0) (x := q) rfl d_Tokens_step_2 ?_
  refine zc_getI hm (pc := 3) f_Tokens_28 rfl hqk d_Tokens_step_3 ?_
  refine zc_callV hm (pc := 6) [.int (zi M q 3)] [.ref q] l_Tokens_34 (c_Tokens_pastBlanks l B M (hT.mod hm) q hqB (hm.k hqk) (zi M q 3)) rfl rfl hqk (by decide) (by decide) (Nat.le_of_ble_eq_true rfl) d_Tokens_step_6 (fun r3 N1 hq2 => ?_)
  obtain ⟨hk6, v5, rfl⟩ := hq2
  have hn4 : zMod B [(1, 2), (1, 3), (1, 4), (1, 5)] M N1 := hm.call hk6 (by decide)
  show zW l m_Tokens_step (zn M + 0, zw M + 0) N1 9 [some (.ref q)] [.int v5, .ref q] (zqV B M [(1, 2), (1, 3), (1, 4), (1, 5)])
  refine zc_putI hn4 (pc := 9) f_Tokens_38 rfl rfl hqk hqB (by decide) rfl rfl d_Tokens_step_9 (fun N8 hN8 hn9 => ?_)
  refine zw_aload_n (pc := 12) (n := 0) (x := q) rfl d_Tokens_step_12 ?_
  refine zw_aload_n (pc := 13) (n := 0) (x := q) rfl d_Tokens_step_13 ?_
  refine zc_getI hn9 (pc := 14) f_Tokens_38 rfl hqk d_Tokens_step_14 ?_
  refine zc_putI hn9 (pc := 17) f_Tokens_28 rfl rfl hqk hqB (by decide) rfl rfl d_Tokens_step_17 (fun N10 hN10 hn11 => ?_)
  refine zw_aload_n (pc := 20) (n := 0) (x := q) rfl d_Tokens_step_20 ?_
  refine zw_iconst (pc := 21) (v := 0) (by decide) d_Tokens_step_21 ?_
  refine zc_putI hn11 (pc := 22) f_Tokens_41 rfl rfl hqk hqB (by decide) rfl rfl d_Tokens_step_22 (fun N12 hN12 hn13 => ?_)
  refine zw_aload_n (pc := 25) (n := 0) (x := q) rfl d_Tokens_step_25 ?_
  refine zc_getI hn13 (pc := 26) f_Tokens_38 rfl hqk d_Tokens_step_26 ?_
  refine zw_aload_n (pc := 29) (n := 0) (x := q) rfl d_Tokens_step_29 ?_
  refine zc_getI0 hn13 (pc := 30) (by decide) f_Tokens_20 rfl hqk d_Tokens_step_30 ?_
  refine zw_icmp_lt (pc := 33) (tgt := 44) (by decide) d_Tokens_step_33 (fun hc_33 => ?_) (fun hc_33 => ?_)
  · refine zw_aload_n (pc := 44) (n := 0) (x := q) rfl d_Tokens_step_44 ?_
    obtain ⟨r14, r14f, r14B, r14k⟩ := hT.1 q 1 0 hqB hqk (by decide) (by decide) rfl
    refine zc_getF hn13 (pc := 45) f_Tokens_14 rfl hqk r14f d_Tokens_step_45 ?_
    refine zw_aload_n (pc := 48) (n := 0) (x := q) rfl d_Tokens_step_48 ?_
    refine zc_getI hn13 (pc := 49) f_Tokens_38 rfl hqk d_Tokens_step_49 ?_
    refine zc_callV hn13 (pc := 52) [.int (zi N12 q 2)] [] l_Tokens_47 (c_IntRow_at l B N12 (hT.mod hn13) r14 r14B (hn13.k r14k) (zi N12 q 2)) rfl rfl r14k (by decide) (by decide) (Nat.le_of_ble_eq_true rfl) d_Tokens_step_52 (fun r17 N15 hq16 => ?_)
    obtain ⟨hk20, v19, rfl⟩ := hq16
    have hn18 : zMod B [(1, 2), (1, 3), (1, 4), (1, 5)] M N15 := hn13.call hk20 (by decide)
    show zW l m_Tokens_step (zn M + 0, zw M + 0) N15 55 [some (.ref q)] [.int v19] (zqV B M [(1, 2), (1, 3), (1, 4), (1, 5)])
    refine zc_callS hn18 (pc := 55) [.int v19] [] l_Tokens_50 (c_Tokens_isLetter l B N15 (hT.mod hn18) v19) rfl rfl (by decide) (Nat.le_of_ble_eq_true rfl) d_Tokens_step_55 (fun r24 N22 hq23 => ?_)
    obtain ⟨hk27, v26, rfl, zv26⟩ := hq23
    have hn25 : zMod B [(1, 2), (1, 3), (1, 4), (1, 5)] M N22 := hn18.call hk27 (by decide)
    show zW l m_Tokens_step (zn M + 0, zw M + 0) N22 58 [some (.ref q)] [.int v26] (zqV B M [(1, 2), (1, 3), (1, 4), (1, 5)])
    refine zw_if_eq (pc := 58) (tgt := 68) (by decide) d_Tokens_step_58 (fun hc_58 => ?_) (fun hc_58 => ?_)
    · refine zw_aload_n (pc := 68) (n := 0) (x := q) rfl d_Tokens_step_68 ?_
      refine zc_getF hn25 (pc := 69) f_Tokens_14 rfl hqk r14f d_Tokens_step_69 ?_
      refine zw_aload_n (pc := 72) (n := 0) (x := q) rfl d_Tokens_step_72 ?_
      refine zc_getI hn25 (pc := 73) f_Tokens_38 rfl hqk d_Tokens_step_73 ?_
      refine zc_callV hn25 (pc := 76) [.int (zi N22 q 2)] [] l_Tokens_47 (c_IntRow_at l B N22 (hT.mod hn25) r14 r14B (hn25.k r14k) (zi N22 q 2)) rfl rfl r14k (by decide) (by decide) (Nat.le_of_ble_eq_true rfl) d_Tokens_step_76 (fun r31 N29 hq30 => ?_)
      obtain ⟨hk34, v33, rfl⟩ := hq30
      have hn32 : zMod B [(1, 2), (1, 3), (1, 4), (1, 5)] M N29 := hn25.call hk34 (by decide)
      show zW l m_Tokens_step (zn M + 0, zw M + 0) N29 79 [some (.ref q)] [.int v33] (zqV B M [(1, 2), (1, 3), (1, 4), (1, 5)])
      refine zc_callS hn32 (pc := 79) [.int v33] [] l_Tokens_57 (c_Tokens_isDigit l B N29 (hT.mod hn32) v33) rfl rfl (by decide) (Nat.le_of_ble_eq_true rfl) d_Tokens_step_79 (fun r38 N36 hq37 => ?_)
      obtain ⟨hk41, v40, rfl, zv40⟩ := hq37
      have hn39 : zMod B [(1, 2), (1, 3), (1, 4), (1, 5)] M N36 := hn32.call hk41 (by decide)
      show zW l m_Tokens_step (zn M + 0, zw M + 0) N36 82 [some (.ref q)] [.int v40] (zqV B M [(1, 2), (1, 3), (1, 4), (1, 5)])
      refine zw_if_eq (pc := 82) (tgt := 92) (by decide) d_Tokens_step_82 (fun hc_82 => ?_) (fun hc_82 => ?_)
      · refine zw_aload_n (pc := 92) (n := 0) (x := q) rfl d_Tokens_step_92 ?_
        refine zw_aload_n (pc := 93) (n := 0) (x := q) rfl d_Tokens_step_93 ?_
        refine zc_getF hn39 (pc := 94) f_Tokens_14 rfl hqk r14f d_Tokens_step_94 ?_
        refine zw_aload_n (pc := 97) (n := 0) (x := q) rfl d_Tokens_step_97 ?_
        refine zc_getI hn39 (pc := 98) f_Tokens_38 rfl hqk d_Tokens_step_98 ?_
        refine zc_callV hn39 (pc := 101) [.int (zi N36 q 2)] [.ref q] l_Tokens_47 (c_IntRow_at l B N36 (hT.mod hn39) r14 r14B (hn39.k r14k) (zi N36 q 2)) rfl rfl r14k (by decide) (by decide) (Nat.le_of_ble_eq_true rfl) d_Tokens_step_101 (fun r45 N43 hq44 => ?_)
        obtain ⟨hk48, v47, rfl⟩ := hq44
        have hn46 : zMod B [(1, 2), (1, 3), (1, 4), (1, 5)] M N43 := hn39.call hk48 (by decide)
        show zW l m_Tokens_step (zn M + 0, zw M + 0) N43 104 [some (.ref q)] [.int v47, .ref q] (zqV B M [(1, 2), (1, 3), (1, 4), (1, 5)])
        refine zc_putI hn46 (pc := 104) f_Tokens_41 rfl rfl hqk hqB (by decide) rfl rfl d_Tokens_step_104 (fun N50 hN50 hn51 => ?_)
        refine zw_aload_n (pc := 107) (n := 0) (x := q) rfl d_Tokens_step_107 ?_
        refine zw_aload_n (pc := 108) (n := 0) (x := q) rfl d_Tokens_step_108 ?_
        refine zc_getI hn51 (pc := 109) f_Tokens_41 rfl hqk d_Tokens_step_109 ?_
        refine zc_callS hn51 (pc := 112) [.int (zi N50 q 5)] [.ref q] l_Tokens_63 (c_Tokens_isSignByte l B N50 (hT.mod hn51) (zi N50 q 5)) rfl rfl (by decide) (Nat.le_of_ble_eq_true rfl) d_Tokens_step_112 (fun r54 N52 hq53 => ?_)
        obtain ⟨hk57, v56, rfl, zv56⟩ := hq53
        have hn55 : zMod B [(1, 2), (1, 3), (1, 4), (1, 5)] M N52 := hn51.call hk57 (by decide)
        show zW l m_Tokens_step (zn M + 0, zw M + 0) N52 115 [some (.ref q)] [.int v56, .ref q] (zqV B M [(1, 2), (1, 3), (1, 4), (1, 5)])
        have j_123 : ∀ (u59 : Int32) (N60 : zMem) (hn61 : zMod B [(1, 2), (1, 3), (1, 4), (1, 5)] M N60), zW l m_Tokens_step (zn M + 0, zw M + 0) N60 123 [some (.ref q)] [.int u59, .ref q] (zqV B M [(1, 2), (1, 3), (1, 4), (1, 5)]) := by
          intro u59 N60 hn61
          refine zc_putI hn61 (pc := 123) f_Tokens_44 rfl rfl hqk hqB (by decide) rfl rfl d_Tokens_step_123 (fun N62 hN62 hn63 => ?_)
          refine zw_aload_n (pc := 126) (n := 0) (x := q) rfl d_Tokens_step_126 ?_
          refine zw_aload_n (pc := 127) (n := 0) (x := q) rfl d_Tokens_step_127 ?_
          refine zc_getI hn63 (pc := 128) f_Tokens_38 rfl hqk d_Tokens_step_128 ?_
          refine zw_iconst (pc := 131) (v := 1) (by decide) d_Tokens_step_131 ?_
          refine zw_iadd (pc := 132) d_Tokens_step_132 ?_
          refine zc_putI hn63 (pc := 133) f_Tokens_28 rfl rfl hqk hqB (by decide) rfl rfl d_Tokens_step_133 (fun N64 hN64 hn65 => ?_)
          exact zw_vret (S := []) (pc := 136) rfl d_Tokens_step_136 ⟨hn65, rfl⟩
        refine zw_if_eq (pc := 115) (tgt := 122) (by decide) d_Tokens_step_115 (fun hc_115 => ?_) (fun hc_115 => ?_)
        · refine zw_iconst (pc := 122) (v := 4) (by decide) d_Tokens_step_122 ?_
          exact j_123 4 N52 hn55
        · refine zw_iconst (pc := 118) (v := 3) (by decide) d_Tokens_step_118 ?_
          refine zw_goto (pc := 119) (tgt := 123) (by decide) d_Tokens_step_119 ?_
          exact j_123 3 N52 hn55
      · refine zw_aload_n (pc := 85) (n := 0) (x := q) rfl d_Tokens_step_85 ?_
        refine zc_callV hn39 (pc := 86) [] [] l_Tokens_60 (c_Tokens_readNumber l B N36 (hT.mod hn39) q hqB (hn39.k hqk)) rfl rfl hqk (by decide) (by decide) (Nat.le_of_ble_eq_true rfl) d_Tokens_step_86 (fun r68 N66 hq67 => ?_)
        obtain ⟨hk71, rfl⟩ := hq67
        have hn69 : zMod B [(1, 2), (1, 3), (1, 4), (1, 5)] M N66 := hn39.call hk71 (by decide)
        show zW l m_Tokens_step (zn M + 0, zw M + 0) N66 89 [some (.ref q)] [] (zqV B M [(1, 2), (1, 3), (1, 4), (1, 5)])
        refine zw_goto (pc := 89) (tgt := 136) (by decide) d_Tokens_step_89 ?_
        exact zw_vret (S := []) (pc := 136) rfl d_Tokens_step_136 ⟨hn69, rfl⟩
    · refine zw_aload_n (pc := 61) (n := 0) (x := q) rfl d_Tokens_step_61 ?_
      refine zc_callV hn25 (pc := 62) [] [] l_Tokens_54 (c_Tokens_readWord l B N22 (hT.mod hn25) q hqB (hn25.k hqk)) rfl rfl hqk (by decide) (by decide) (Nat.le_of_ble_eq_true rfl) d_Tokens_step_62 (fun r75 N73 hq74 => ?_)
      obtain ⟨hk78, rfl⟩ := hq74
      have hn76 : zMod B [(1, 2), (1, 3), (1, 4), (1, 5)] M N73 := hn25.call hk78 (by decide)
      show zW l m_Tokens_step (zn M + 0, zw M + 0) N73 65 [some (.ref q)] [] (zqV B M [(1, 2), (1, 3), (1, 4), (1, 5)])
      refine zw_goto (pc := 65) (tgt := 136) (by decide) d_Tokens_step_65 ?_
      exact zw_vret (S := []) (pc := 136) rfl d_Tokens_step_136 ⟨hn76, rfl⟩
  · refine zw_aload_n (pc := 36) (n := 0) (x := q) rfl d_Tokens_step_36 ?_
    refine zw_iconst (pc := 37) (v := 0) (by decide) d_Tokens_step_37 ?_
    refine zc_putI hn13 (pc := 38) f_Tokens_44 rfl rfl hqk hqB (by decide) rfl rfl d_Tokens_step_38 (fun N80 hN80 hn81 => ?_)
    refine zw_goto (pc := 41) (tgt := 136) (by decide) d_Tokens_step_41 ?_
    exact zw_vret (S := []) (pc := 136) rfl d_Tokens_step_136 ⟨hn81, rfl⟩
set_option maxHeartbeats 4000000 in
theorem c_Tokens_rewind (l : Launch) (B : Nat) (M : zMem) (hT : zTy B M) (q : Nat) (hqB : q < B) (hqk : (zsh M q).1 = 1 + 3) : zC l m_Tokens_rewind 0 0 [.ref q] M (zqV B M [(1, 2), (1, 3), (1, 4), (1, 5)]) := by
  refine zC_of (L0 := [some (.ref q)]) md_Tokens_rewind (Nat.le_of_ble_eq_true rfl) rfl ?_ zQ0
  have hm : zMod B [(1, 2), (1, 3), (1, 4), (1, 5)] M M := zMod.rf
  refine zw_aload_n (pc := 0) (n := 0) (x := q) rfl d_Tokens_rewind_0 ?_
  refine zw_iconst (pc := 1) (v := 0) (by decide) d_Tokens_rewind_1 ?_
  refine zc_putI hm (pc := 2) f_Tokens_28 rfl rfl hqk hqB (by decide) rfl rfl d_Tokens_rewind_2 (fun N1 hN1 hn2 => ?_)
  refine zw_aload_n (pc := 5) (n := 0) (x := q) rfl d_Tokens_rewind_5 ?_
  refine zc_callV hn2 (pc := 6) [] [] l_Tokens_31 (c_Tokens_step l B N1 (hT.mod hn2) q hqB (hn2.k hqk)) rfl rfl hqk (by decide) (by decide) (Nat.le_of_ble_eq_true rfl) d_Tokens_rewind_6 (fun r5 N3 hq4 => ?_)
  obtain ⟨hk8, rfl⟩ := hq4
  have hn6 : zMod B [(1, 2), (1, 3), (1, 4), (1, 5)] M N3 := hn2.call hk8 (by decide)
  show zW l m_Tokens_rewind (zn M + 0, zw M + 0) N3 9 [some (.ref q)] [] (zqV B M [(1, 2), (1, 3), (1, 4), (1, 5)])
  exact zw_vret (S := []) (pc := 9) rfl d_Tokens_rewind_9 ⟨hn6, rfl⟩
set_option maxHeartbeats 4000000 in
theorem c_Reader_begin (l : Launch) (B : Nat) (M : zMem) (hT : zTy B M) (q : Nat) (hqB : q < B) (hqk : (zsh M q).1 = 3 + 3) : zC l m_Reader_begin 0 0 [.ref q] M (zqV B M [(1, 2), (1, 3), (1, 4), (1, 5), (3, 2), (3, 3)]) := by
  refine zC_of (L0 := [some (.ref q)]) md_Reader_begin (Nat.le_of_ble_eq_true rfl) rfl ?_ zQ0
  have hm : zMod B [(1, 2), (1, 3), (1, 4), (1, 5), (3, 2), (3, 3)] M M := zMod.rf
  refine zw_aload_n (pc := 0) (n := 0) (x := q) rfl d_Reader_begin_0 ?_
  refine zw_iconst (pc := 1) (v := 0) (by decide) d_Reader_begin_1 ?_
  refine zc_putI hm (pc := 2) f_Reader_19 rfl rfl hqk hqB (by decide) rfl rfl d_Reader_begin_2 (fun N1 hN1 hn2 => ?_)
  refine zw_aload_n (pc := 5) (n := 0) (x := q) rfl d_Reader_begin_5 ?_
  refine zw_iconst (pc := 6) (v := (-1)) (by decide) d_Reader_begin_6 ?_
  refine zc_putI hn2 (pc := 7) f_Reader_9 rfl rfl hqk hqB (by decide) rfl rfl d_Reader_begin_7 (fun N3 hN3 hn4 => ?_)
  refine zw_aload_n (pc := 10) (n := 0) (x := q) rfl d_Reader_begin_10 ?_
  obtain ⟨r5, r5f, r5B, r5k⟩ := hT.1 q 3 0 hqB hqk (by decide) (by decide) rfl
  refine zc_getF hn4 (pc := 11) f_Reader_15 rfl hqk r5f d_Reader_begin_11 ?_
  refine zc_callV hn4 (pc := 14) [] [] l_Reader_22 (c_Tokens_rewind l B N3 (hT.mod hn4) r5 r5B (hn4.k r5k)) rfl rfl r5k (by decide) (by decide) (Nat.le_of_ble_eq_true rfl) d_Reader_begin_14 (fun r8 N6 hq7 => ?_)
  obtain ⟨hk11, rfl⟩ := hq7
  have hn9 : zMod B [(1, 2), (1, 3), (1, 4), (1, 5), (3, 2), (3, 3)] M N6 := hn4.call hk11 (by decide)
  show zW l m_Reader_begin (zn M + 0, zw M + 0) N6 17 [some (.ref q)] [] (zqV B M [(1, 2), (1, 3), (1, 4), (1, 5), (3, 2), (3, 3)])
  exact zw_vret (S := []) (pc := 17) rfl d_Reader_begin_17 ⟨hn9, rfl⟩
set_option maxHeartbeats 4000000 in
theorem c_Tokens_isWord (l : Launch) (B : Nat) (M : zMem) (hT : zTy B M) (q : Nat) (hqB : q < B) (hqk : (zsh M q).1 = 1 + 3) (x0 : Nat) (h0 : x0 < zsN) : zC l m_Tokens_isWord 0 0 [.ref q, .ref (zK x0)] M (zqZ B M []) := by
  refine zC_of (L0 := [some (.ref q), some (.ref (zK x0)), none]) md_Tokens_isWord (Nat.le_of_ble_eq_true rfl) rfl ?_ zQ0
  have hm : zMod B [] M M := zMod.rf
  refine zw_aload_n (pc := 0) (n := 0) (x := q) rfl d_Tokens_isWord_0 ?_
  refine zc_getI0 hm (pc := 1) (by decide) f_Tokens_44 rfl hqk d_Tokens_isWord_1 ?_
  refine zw_iconst (pc := 4) (v := 1) (by decide) d_Tokens_isWord_4 ?_
  refine zw_icmp_ne (pc := 5) (tgt := 24) (by decide) d_Tokens_isWord_5 (fun hc_5 => ?_) (fun hc_5 => ?_)
  · refine zw_iconst (pc := 24) (v := 0) (by decide) d_Tokens_isWord_24 ?_
    exact zw_iret (S := []) (pc := 25) (ty := .boolean) rfl (z_narZ (Or.inl rfl)) d_Tokens_isWord_25 ⟨hm, _, rfl, Or.inl rfl⟩
  · refine zw_aload_n (pc := 8) (n := 1) (x := zK x0) rfl d_Tokens_isWord_8 ?_
    refine zc_callT hm (i := x0) (pc := 9) [] [] l_Tokens_76 (c_String_length l B M (hT.mod hm) x0 h0) rfl rfl h0 (by decide) (Nat.le_of_ble_eq_true rfl) d_Tokens_isWord_9 (fun r3 N1 hq2 => ?_)
    obtain ⟨hk6, rfl⟩ := hq2
    have hn4 : zMod B [] M N1 := hm.call hk6 (by decide)
    show zW l m_Tokens_isWord (zn M + 0, zw M + 0) N1 12 [some (.ref q), some (.ref (zK x0)), none] [.int (nI (zsL.getD x0 0))] (zqZ B M [])
    refine zw_aload_n (pc := 12) (n := 0) (x := q) rfl d_Tokens_isWord_12 ?_
    refine zc_getI0 hn4 (pc := 13) (by decide) f_Tokens_28 rfl hqk d_Tokens_isWord_13 ?_
    refine zw_aload_n (pc := 16) (n := 0) (x := q) rfl d_Tokens_isWord_16 ?_
    refine zc_getI0 hn4 (pc := 17) (by decide) f_Tokens_38 rfl hqk d_Tokens_isWord_17 ?_
    refine zw_isub (pc := 20) d_Tokens_isWord_20 ?_
    refine zw_icmp_eq (pc := 21) (tgt := 26) (by decide) d_Tokens_isWord_21 (fun hc_21 => ?_) (fun hc_21 => ?_)
    · refine zw_iconst (pc := 26) (v := 0) (by decide) d_Tokens_isWord_26 ?_
      refine zw_istore_n (pc := 27) (i := 2) (L2 := [some (.ref q), some (.ref (zK x0)), some (.int 0)]) rfl (by decide) rfl d_Tokens_isWord_27 ?_
      have lp_28 : ∀ (n : Nat) (u7 : Int32) (N8 : zMem) (hn9 : zMod B [] M N8) (hz : ¬ u7 < 0), zvu u7 (nI (zsL.getD x0 0)) < n → zW l m_Tokens_isWord (zn M + 0, zw M + 0) N8 28 [some (.ref q), some (.ref (zK x0)), some (.int u7)] [] (zqZ B M []) := by
        intro n
        induction n with
        | zero =>
          intro u7 N8 hn9 hz h0
          exact absurd h0 (Nat.not_lt_zero _)
        | succ n ih_28 =>
          intro u7 N8 hn9 hz hlt_28
          refine zw_iload_n (pc := 28) (n := 2) (x := u7) rfl d_Tokens_isWord_28 ?_
          refine zw_aload_n (pc := 29) (n := 1) (x := zK x0) rfl d_Tokens_isWord_29 ?_
          refine zc_callT hn9 (i := x0) (pc := 30) [] [.int u7] l_Tokens_76 (c_String_length l B N8 (hT.mod hn9) x0 h0) rfl rfl h0 (by decide) (Nat.le_of_ble_eq_true rfl) d_Tokens_isWord_30 (fun r18 N16 hq17 => ?_)
          obtain ⟨hk21, rfl⟩ := hq17
          have hn19 : zMod B [] M N16 := hn9.call hk21 (by decide)
          show zW l m_Tokens_isWord (zn M + 0, zw M + 0) N16 33 [some (.ref q), some (.ref (zK x0)), some (.int u7)] [.int (nI (zsL.getD x0 0)), .int u7] (zqZ B M [])
          refine zw_icmp_ge (pc := 33) (tgt := 65) (by decide) d_Tokens_isWord_33 (fun hc_33 => ?_) (fun hc_33 => ?_)
          · refine zw_iconst (pc := 65) (v := 1) (by decide) d_Tokens_isWord_65 ?_
            exact zw_iret (S := []) (pc := 66) (ty := .boolean) rfl (z_narZ (Or.inr rfl)) d_Tokens_isWord_66 ⟨hn19, _, rfl, Or.inr rfl⟩
          · refine zw_aload_n (pc := 36) (n := 0) (x := q) rfl d_Tokens_isWord_36 ?_
            obtain ⟨r22, r22f, r22B, r22k⟩ := hT.1 q 1 0 hqB hqk (by decide) (by decide) rfl
            refine zc_getF hn19 (pc := 37) f_Tokens_14 rfl hqk r22f d_Tokens_isWord_37 ?_
            refine zw_aload_n (pc := 40) (n := 0) (x := q) rfl d_Tokens_isWord_40 ?_
            refine zc_getI0 hn19 (pc := 41) (by decide) f_Tokens_38 rfl hqk d_Tokens_isWord_41 ?_
            refine zw_iload_n (pc := 44) (n := 2) (x := u7) rfl d_Tokens_isWord_44 ?_
            refine zw_iadd (pc := 45) d_Tokens_isWord_45 ?_
            refine zc_callV hn19 (pc := 46) [.int ((zi M q 2) + u7)] [] l_Tokens_47 (c_IntRow_at l B N16 (hT.mod hn19) r22 r22B (hn19.k r22k) ((zi M q 2) + u7)) rfl rfl r22k (by decide) (by decide) (Nat.le_of_ble_eq_true rfl) d_Tokens_isWord_46 (fun r25 N23 hq24 => ?_)
            obtain ⟨hk28, v27, rfl⟩ := hq24
            have hn26 : zMod B [] M N23 := hn19.call hk28 (by decide)
            show zW l m_Tokens_isWord (zn M + 0, zw M + 0) N23 49 [some (.ref q), some (.ref (zK x0)), some (.int u7)] [.int v27] (zqZ B M [])
            refine zw_aload_n (pc := 49) (n := 1) (x := zK x0) rfl d_Tokens_isWord_49 ?_
            refine zw_iload_n (pc := 50) (n := 2) (x := u7) rfl d_Tokens_isWord_50 ?_
            refine zc_callT hn26 (i := x0) (pc := 51) [.int u7] [.int v27] l_Tokens_81 (c_String_charAt l B N23 (hT.mod hn26) x0 h0 u7 (z_vin (hz) hc_33 (zsL_le x0))) rfl rfl h0 (by decide) (Nat.le_of_ble_eq_true rfl) d_Tokens_isWord_51 (fun r32 N30 hq31 => ?_)
            obtain ⟨hk35, v34, rfl⟩ := hq31
            have hn33 : zMod B [] M N30 := hn26.call hk35 (by decide)
            show zW l m_Tokens_isWord (zn M + 0, zw M + 0) N30 54 [some (.ref q), some (.ref (zK x0)), some (.int u7)] [.int v34, .int v27] (zqZ B M [])
            refine zw_icmp_eq (pc := 54) (tgt := 59) (by decide) d_Tokens_isWord_54 (fun hc_54 => ?_) (fun hc_54 => ?_)
            · refine zw_iinc (pc := 59) (i := 2) (x := u7) (v := u7 + Int32.ofInt 1) (L2 := [some (.ref q), some (.ref (zK x0)), some (.int (u7 + Int32.ofInt 1))]) rfl rfl (by decide) rfl d_Tokens_isWord_59 ?_
              refine zw_goto (pc := 62) (tgt := 28) (by decide) d_Tokens_isWord_62 ?_
              exact ih_28 (u7 + Int32.ofInt 1) N30 hn33 (z_nn hz hc_33) (Nat.lt_of_lt_of_le (z_up hc_33) (Nat.le_of_lt_succ hlt_28))
            · refine zw_iconst (pc := 57) (v := 0) (by decide) d_Tokens_isWord_57 ?_
              exact zw_iret (S := []) (pc := 58) (ty := .boolean) rfl (z_narZ (Or.inl rfl)) d_Tokens_isWord_58 ⟨hn33, _, rfl, Or.inl rfl⟩
      exact lp_28 _ 0 N1 hn4 (by decide) (Nat.lt_succ_self _)
    · refine zw_iconst (pc := 24) (v := 0) (by decide) d_Tokens_isWord_24 ?_
      exact zw_iret (S := []) (pc := 25) (ty := .boolean) rfl (z_narZ (Or.inl rfl)) d_Tokens_isWord_25 ⟨hn4, _, rfl, Or.inl rfl⟩
set_option maxHeartbeats 4000000 in
theorem c_Reader_refuseAt (l : Launch) (B : Nat) (M : zMem) (hT : zTy B M) (q : Nat) (hqB : q < B) (hqk : (zsh M q).1 = 3 + 3) (x0 : Int32) (x1 : Int32) : zC l m_Reader_refuseAt 0 0 [.ref q, .int x0, .int x1] M (zqZ B M [(3, 2), (3, 3)]) := by
  refine zC_of (L0 := [some (.ref q), some (.int x0), some (.int x1)]) md_Reader_refuseAt (Nat.le_of_ble_eq_true rfl) rfl ?_ zQ0
  have hm : zMod B [(3, 2), (3, 3)] M M := zMod.rf
  refine zw_aload_n (pc := 0) (n := 0) (x := q) rfl d_Reader_refuseAt_0 ?_
  refine zw_iload_n (pc := 1) (n := 1) (x := x0) rfl d_Reader_refuseAt_1 ?_
  refine zc_putI hm (pc := 2) f_Reader_19 rfl rfl hqk hqB (by decide) rfl rfl d_Reader_refuseAt_2 (fun N1 hN1 hn2 => ?_)
  refine zw_aload_n (pc := 5) (n := 0) (x := q) rfl d_Reader_refuseAt_5 ?_
  refine zw_iload_n (pc := 6) (n := 2) (x := x1) rfl d_Reader_refuseAt_6 ?_
  refine zc_putI hn2 (pc := 7) f_Reader_9 rfl rfl hqk hqB (by decide) rfl rfl d_Reader_refuseAt_7 (fun N3 hN3 hn4 => ?_)
  refine zw_iconst (pc := 10) (v := 0) (by decide) d_Reader_refuseAt_10 ?_
  exact zw_iret (S := []) (pc := 11) (ty := .boolean) rfl (z_narZ (Or.inl rfl)) d_Reader_refuseAt_11 ⟨hn4, _, rfl, Or.inl rfl⟩
set_option maxHeartbeats 4000000 in
theorem c_Reader_refuse (l : Launch) (B : Nat) (M : zMem) (hT : zTy B M) (q : Nat) (hqB : q < B) (hqk : (zsh M q).1 = 3 + 3) (x0 : Int32) : zC l m_Reader_refuse 0 0 [.ref q, .int x0] M (zqZ B M [(3, 2), (3, 3)]) := by
  refine zC_of (L0 := [some (.ref q), some (.int x0)]) md_Reader_refuse (Nat.le_of_ble_eq_true rfl) rfl ?_ zQ0
  have hm : zMod B [(3, 2), (3, 3)] M M := zMod.rf
  refine zw_aload_n (pc := 0) (n := 0) (x := q) rfl d_Reader_refuse_0 ?_
  refine zw_aload_n (pc := 1) (n := 0) (x := q) rfl d_Reader_refuse_1 ?_
  obtain ⟨r1, r1f, r1B, r1k⟩ := hT.1 q 3 0 hqB hqk (by decide) (by decide) rfl
  refine zc_getF hm (pc := 2) f_Reader_15 rfl hqk r1f d_Reader_refuse_2 ?_
  refine zc_getI0 hm (pc := 5) (by decide) f_Reader_27 rfl r1k d_Reader_refuse_5 ?_
  refine zw_iconst (pc := 8) (v := 4) (by decide) d_Reader_refuse_8 ?_
  have j_17 : ∀ (u2 : Int32) (N3 : zMem) (hn4 : zMod B [(3, 2), (3, 3)] M N3), zW l m_Reader_refuse (zn M + 0, zw M + 0) N3 17 [some (.ref q), some (.int x0)] [.int u2, .ref q] (zqZ B M [(3, 2), (3, 3)]) := by
    intro u2 N3 hn4
    refine zw_aload_n (pc := 17) (n := 0) (x := q) rfl d_Reader_refuse_17 ?_
    refine zc_getF hn4 (pc := 18) f_Reader_15 rfl hqk r1f d_Reader_refuse_18 ?_
    refine zc_getI0 hn4 (pc := 21) (by decide) f_Reader_30 rfl r1k d_Reader_refuse_21 ?_
    refine zc_callV hn4 (pc := 24) [.int u2, .int (zi M r1 2)] [] l_Reader_33 (c_Reader_refuseAt l B N3 (hT.mod hn4) q hqB (hn4.k hqk) u2 (zi M r1 2)) rfl rfl hqk (by decide) (by decide) (Nat.le_of_ble_eq_true rfl) d_Reader_refuse_24 (fun r7 N5 hq6 => ?_)
    obtain ⟨hk10, v9, rfl, zv9⟩ := hq6
    have hn8 : zMod B [(3, 2), (3, 3)] M N5 := hn4.call hk10 (by decide)
    show zW l m_Reader_refuse (zn M + 0, zw M + 0) N5 27 [some (.ref q), some (.int x0)] [.int v9] (zqZ B M [(3, 2), (3, 3)])
    exact zw_iret (S := []) (pc := 27) (ty := .boolean) rfl (z_narZ (zv9)) d_Reader_refuse_27 ⟨hn8, _, rfl, zv9⟩
  refine zw_icmp_ne (pc := 9) (tgt := 16) (by decide) d_Reader_refuse_9 (fun hc_9 => ?_) (fun hc_9 => ?_)
  · refine zw_iload_n (pc := 16) (n := 1) (x := x0) rfl d_Reader_refuse_16 ?_
    exact j_17 x0 M hm
  · refine zw_iconst (pc := 12) (v := 1) (by decide) d_Reader_refuse_12 ?_
    refine zw_goto (pc := 13) (tgt := 17) (by decide) d_Reader_refuse_13 ?_
    exact j_17 1 M hm
set_option maxHeartbeats 4000000 in
theorem c_Tokens_isNumber (l : Launch) (B : Nat) (M : zMem) (hT : zTy B M) (q : Nat) (hqB : q < B) (hqk : (zsh M q).1 = 1 + 3) : zC l m_Tokens_isNumber 0 0 [.ref q] M (zqZ B M []) := by
  refine zC_of (L0 := [some (.ref q)]) md_Tokens_isNumber (Nat.le_of_ble_eq_true rfl) rfl ?_ zQ0
  have hm : zMod B [] M M := zMod.rf
  refine zw_aload_n (pc := 0) (n := 0) (x := q) rfl d_Tokens_isNumber_0 ?_
  refine zc_getI0 hm (pc := 1) (by decide) f_Tokens_44 rfl hqk d_Tokens_isNumber_1 ?_
  refine zw_iconst (pc := 4) (v := 2) (by decide) d_Tokens_isNumber_4 ?_
  refine zw_icmp_ne (pc := 5) (tgt := 12) (by decide) d_Tokens_isNumber_5 (fun hc_5 => ?_) (fun hc_5 => ?_)
  · refine zw_iconst (pc := 12) (v := 0) (by decide) d_Tokens_isNumber_12 ?_
    exact zw_iret (S := []) (pc := 13) (ty := .boolean) rfl (z_narZ (Or.inl rfl)) d_Tokens_isNumber_13 ⟨hm, _, rfl, Or.inl rfl⟩
  · refine zw_iconst (pc := 8) (v := 1) (by decide) d_Tokens_isNumber_8 ?_
    refine zw_goto (pc := 9) (tgt := 13) (by decide) d_Tokens_isNumber_9 ?_
    exact zw_iret (S := []) (pc := 13) (ty := .boolean) rfl (z_narZ (Or.inr rfl)) d_Tokens_isNumber_13 ⟨hm, _, rfl, Or.inr rfl⟩
set_option maxHeartbeats 4000000 in
theorem c_Tokens_isSign (l : Launch) (B : Nat) (M : zMem) (hT : zTy B M) (q : Nat) (hqB : q < B) (hqk : (zsh M q).1 = 1 + 3) (x0 : Int32) : zC l m_Tokens_isSign 0 0 [.ref q, .int x0] M (zqZ B M []) := by
  refine zC_of (L0 := [some (.ref q), some (.int x0)]) md_Tokens_isSign (Nat.le_of_ble_eq_true rfl) rfl ?_ zQ0
  have hm : zMod B [] M M := zMod.rf
  refine zw_aload_n (pc := 0) (n := 0) (x := q) rfl d_Tokens_isSign_0 ?_
  refine zc_getI0 hm (pc := 1) (by decide) f_Tokens_44 rfl hqk d_Tokens_isSign_1 ?_
  refine zw_iconst (pc := 4) (v := 3) (by decide) d_Tokens_isSign_4 ?_
  refine zw_icmp_ne (pc := 5) (tgt := 20) (by decide) d_Tokens_isSign_5 (fun hc_5 => ?_) (fun hc_5 => ?_)
  · refine zw_iconst (pc := 20) (v := 0) (by decide) d_Tokens_isSign_20 ?_
    exact zw_iret (S := []) (pc := 21) (ty := .boolean) rfl (z_narZ (Or.inl rfl)) d_Tokens_isSign_21 ⟨hm, _, rfl, Or.inl rfl⟩
  · refine zw_aload_n (pc := 8) (n := 0) (x := q) rfl d_Tokens_isSign_8 ?_
    refine zc_getI0 hm (pc := 9) (by decide) f_Tokens_41 rfl hqk d_Tokens_isSign_9 ?_
    refine zw_iload_n (pc := 12) (n := 1) (x := x0) rfl d_Tokens_isSign_12 ?_
    refine zw_icmp_ne (pc := 13) (tgt := 20) (by decide) d_Tokens_isSign_13 (fun hc_13 => ?_) (fun hc_13 => ?_)
    · refine zw_iconst (pc := 20) (v := 0) (by decide) d_Tokens_isSign_20 ?_
      exact zw_iret (S := []) (pc := 21) (ty := .boolean) rfl (z_narZ (Or.inl rfl)) d_Tokens_isSign_21 ⟨hm, _, rfl, Or.inl rfl⟩
    · refine zw_iconst (pc := 16) (v := 1) (by decide) d_Tokens_isSign_16 ?_
      refine zw_goto (pc := 17) (tgt := 21) (by decide) d_Tokens_isSign_17 ?_
      exact zw_iret (S := []) (pc := 21) (ty := .boolean) rfl (z_narZ (Or.inr rfl)) d_Tokens_isSign_21 ⟨hm, _, rfl, Or.inr rfl⟩
set_option maxHeartbeats 4000000 in
theorem c_Reader_passSign (l : Launch) (B : Nat) (M : zMem) (hT : zTy B M) (q : Nat) (hqB : q < B) (hqk : (zsh M q).1 = 3 + 3) (x0 : Int32) : zC l m_Reader_passSign 0 0 [.ref q, .int x0] M (zqZ B M [(1, 2), (1, 3), (1, 4), (1, 5), (3, 2), (3, 3)]) := by
  refine zC_of (L0 := [some (.ref q), some (.int x0)]) md_Reader_passSign (Nat.le_of_ble_eq_true rfl) rfl ?_ zQ0
  have hm : zMod B [(1, 2), (1, 3), (1, 4), (1, 5), (3, 2), (3, 3)] M M := zMod.rf
  refine zw_aload_n (pc := 0) (n := 0) (x := q) rfl d_Reader_passSign_0 ?_
  obtain ⟨r1, r1f, r1B, r1k⟩ := hT.1 q 3 0 hqB hqk (by decide) (by decide) rfl
  refine zc_getF hm (pc := 1) f_Reader_15 rfl hqk r1f d_Reader_passSign_1 ?_
  refine zw_iload_n (pc := 4) (n := 1) (x := x0) rfl d_Reader_passSign_4 ?_
  refine zc_callV hm (pc := 5) [.int x0] [] l_Reader_37 (c_Tokens_isSign l B M (hT.mod hm) r1 r1B (hm.k r1k) x0) rfl rfl r1k (by decide) (by decide) (Nat.le_of_ble_eq_true rfl) d_Reader_passSign_5 (fun r4 N2 hq3 => ?_)
  obtain ⟨hk7, v6, rfl, zv6⟩ := hq3
  have hn5 : zMod B [(1, 2), (1, 3), (1, 4), (1, 5), (3, 2), (3, 3)] M N2 := hm.call hk7 (by decide)
  show zW l m_Reader_passSign (zn M + 0, zw M + 0) N2 8 [some (.ref q), some (.int x0)] [.int v6] (zqZ B M [(1, 2), (1, 3), (1, 4), (1, 5), (3, 2), (3, 3)])
  refine zw_if_ne (pc := 8) (tgt := 17) (by decide) d_Reader_passSign_8 (fun hc_8 => ?_) (fun hc_8 => ?_)
  · refine zw_aload_n (pc := 17) (n := 0) (x := q) rfl d_Reader_passSign_17 ?_
    refine zc_getF hn5 (pc := 18) f_Reader_15 rfl hqk r1f d_Reader_passSign_18 ?_
    refine zc_callV hn5 (pc := 21) [] [] l_Reader_44 (c_Tokens_step l B N2 (hT.mod hn5) r1 r1B (hn5.k r1k)) rfl rfl r1k (by decide) (by decide) (Nat.le_of_ble_eq_true rfl) d_Reader_passSign_21 (fun r11 N9 hq10 => ?_)
    obtain ⟨hk14, rfl⟩ := hq10
    have hn12 : zMod B [(1, 2), (1, 3), (1, 4), (1, 5), (3, 2), (3, 3)] M N9 := hn5.call hk14 (by decide)
    show zW l m_Reader_passSign (zn M + 0, zw M + 0) N9 24 [some (.ref q), some (.int x0)] [] (zqZ B M [(1, 2), (1, 3), (1, 4), (1, 5), (3, 2), (3, 3)])
    refine zw_iconst (pc := 24) (v := 1) (by decide) d_Reader_passSign_24 ?_
    exact zw_iret (S := []) (pc := 25) (ty := .boolean) rfl (z_narZ (Or.inr rfl)) d_Reader_passSign_25 ⟨hn12, _, rfl, Or.inr rfl⟩
  · refine zw_aload_n (pc := 11) (n := 0) (x := q) rfl d_Reader_passSign_11 ?_
    refine zw_iconst (pc := 12) (v := 2) (by decide) d_Reader_passSign_12 ?_
    refine zc_callV hn5 (pc := 13) [.int 2] [] l_Reader_41 (c_Reader_refuse l B N2 (hT.mod hn5) q hqB (hn5.k hqk) 2) rfl rfl hqk (by decide) (by decide) (Nat.le_of_ble_eq_true rfl) d_Reader_passSign_13 (fun r18 N16 hq17 => ?_)
    obtain ⟨hk21, v20, rfl, zv20⟩ := hq17
    have hn19 : zMod B [(1, 2), (1, 3), (1, 4), (1, 5), (3, 2), (3, 3)] M N16 := hn5.call hk21 (by decide)
    show zW l m_Reader_passSign (zn M + 0, zw M + 0) N16 16 [some (.ref q), some (.int x0)] [.int v20] (zqZ B M [(1, 2), (1, 3), (1, 4), (1, 5), (3, 2), (3, 3)])
    exact zw_iret (S := []) (pc := 16) (ty := .boolean) rfl (z_narZ (zv20)) d_Reader_passSign_16 ⟨hn19, _, rfl, zv20⟩
set_option maxHeartbeats 4000000 in
theorem c_Reader_readPlaces (l : Launch) (B : Nat) (M : zMem) (hT : zTy B M) (q : Nat) (hqB : q < B) (hqk : (zsh M q).1 = 3 + 3) (a0 : Nat) (a0B : a0 < B) (a0k : (zsh M a0).1 = 4 + 3) : zC l m_Reader_readPlaces 0 0 [.ref q, .ref a0] M (zqZ B M [(1, 2), (1, 3), (1, 4), (1, 5), (3, 2), (3, 3), (4, 6), (4, 7), (4, 8), (5, 5), (5, 6), (5, 7)]) := by
  refine zC_of (L0 := [some (.ref q), some (.ref a0)]) md_Reader_readPlaces (Nat.le_of_ble_eq_true rfl) rfl ?_ zQ0
  have hm : zMod B [(1, 2), (1, 3), (1, 4), (1, 5), (3, 2), (3, 3), (4, 6), (4, 7), (4, 8), (5, 5), (5, 6), (5, 7)] M M := zMod.rf
  refine zw_aload_n (pc := 0) (n := 0) (x := q) rfl d_Reader_readPlaces_0 ?_
  obtain ⟨r1, r1f, r1B, r1k⟩ := hT.1 q 3 0 hqB hqk (by decide) (by decide) rfl
  refine zc_getF hm (pc := 1) f_Reader_15 rfl hqk r1f d_Reader_readPlaces_1 ?_
  refine zw_ldcs (pc := 4) (i := 0) (List.mem_of_getElem? (i := 0) rfl) d_Reader_readPlaces_4 ?_
  refine zc_callV hm (pc := 6) [.ref (zK 0)] [] l_Reader_49 (c_Tokens_isWord l B M (hT.mod hm) r1 r1B (hm.k r1k) 0 (by decide)) rfl rfl r1k (by decide) (by decide) (Nat.le_of_ble_eq_true rfl) d_Reader_readPlaces_6 (fun r4 N2 hq3 => ?_)
  obtain ⟨hk7, v6, rfl, zv6⟩ := hq3
  have hn5 : zMod B [(1, 2), (1, 3), (1, 4), (1, 5), (3, 2), (3, 3), (4, 6), (4, 7), (4, 8), (5, 5), (5, 6), (5, 7)] M N2 := hm.call hk7 (by decide)
  show zW l m_Reader_readPlaces (zn M + 0, zw M + 0) N2 9 [some (.ref q), some (.ref a0)] [.int v6] (zqZ B M [(1, 2), (1, 3), (1, 4), (1, 5), (3, 2), (3, 3), (4, 6), (4, 7), (4, 8), (5, 5), (5, 6), (5, 7)])
  refine zw_if_ne (pc := 9) (tgt := 18) (by decide) d_Reader_readPlaces_9 (fun hc_9 => ?_) (fun hc_9 => ?_)
  · refine zw_aload_n (pc := 18) (n := 0) (x := q) rfl d_Reader_readPlaces_18 ?_
    refine zc_getF hn5 (pc := 19) f_Reader_15 rfl hqk r1f d_Reader_readPlaces_19 ?_
    refine zc_callV hn5 (pc := 22) [] [] l_Reader_44 (c_Tokens_step l B N2 (hT.mod hn5) r1 r1B (hn5.k r1k)) rfl rfl r1k (by decide) (by decide) (Nat.le_of_ble_eq_true rfl) d_Reader_readPlaces_22 (fun r11 N9 hq10 => ?_)
    obtain ⟨hk14, rfl⟩ := hq10
    have hn12 : zMod B [(1, 2), (1, 3), (1, 4), (1, 5), (3, 2), (3, 3), (4, 6), (4, 7), (4, 8), (5, 5), (5, 6), (5, 7)] M N9 := hn5.call hk14 (by decide)
    show zW l m_Reader_readPlaces (zn M + 0, zw M + 0) N9 25 [some (.ref q), some (.ref a0)] [] (zqZ B M [(1, 2), (1, 3), (1, 4), (1, 5), (3, 2), (3, 3), (4, 6), (4, 7), (4, 8), (5, 5), (5, 6), (5, 7)])
    refine zw_aload_n (pc := 25) (n := 0) (x := q) rfl d_Reader_readPlaces_25 ?_
    refine zc_getF hn12 (pc := 26) f_Reader_15 rfl hqk r1f d_Reader_readPlaces_26 ?_
    refine zc_callV hn12 (pc := 29) [] [] l_Reader_53 (c_Tokens_isNumber l B N9 (hT.mod hn12) r1 r1B (hn12.k r1k)) rfl rfl r1k (by decide) (by decide) (Nat.le_of_ble_eq_true rfl) d_Reader_readPlaces_29 (fun r18 N16 hq17 => ?_)
    obtain ⟨hk21, v20, rfl, zv20⟩ := hq17
    have hn19 : zMod B [(1, 2), (1, 3), (1, 4), (1, 5), (3, 2), (3, 3), (4, 6), (4, 7), (4, 8), (5, 5), (5, 6), (5, 7)] M N16 := hn12.call hk21 (by decide)
    show zW l m_Reader_readPlaces (zn M + 0, zw M + 0) N16 32 [some (.ref q), some (.ref a0)] [.int v20] (zqZ B M [(1, 2), (1, 3), (1, 4), (1, 5), (3, 2), (3, 3), (4, 6), (4, 7), (4, 8), (5, 5), (5, 6), (5, 7)])
    refine zw_if_ne (pc := 32) (tgt := 41) (by decide) d_Reader_readPlaces_32 (fun hc_32 => ?_) (fun hc_32 => ?_)
    · refine zw_aload_n (pc := 41) (n := 0) (x := q) rfl d_Reader_readPlaces_41 ?_
      refine zc_getF hn19 (pc := 42) f_Reader_15 rfl hqk r1f d_Reader_readPlaces_42 ?_
      refine zc_getI hn19 (pc := 45) f_Reader_57 rfl r1k d_Reader_readPlaces_45 ?_
      refine zw_iconst (pc := 48) (v := 1) (by decide) d_Reader_readPlaces_48 ?_
      have j_64 : ∀ (N23 : zMem) (hn24 : zMod B [(1, 2), (1, 3), (1, 4), (1, 5), (3, 2), (3, 3), (4, 6), (4, 7), (4, 8), (5, 5), (5, 6), (5, 7)] M N23), zW l m_Reader_readPlaces (zn M + 0, zw M + 0) N23 64 [some (.ref q), some (.ref a0)] [] (zqZ B M [(1, 2), (1, 3), (1, 4), (1, 5), (3, 2), (3, 3), (4, 6), (4, 7), (4, 8), (5, 5), (5, 6), (5, 7)]) := by
        intro N23 hn24
        refine zw_aload_n (pc := 64) (n := 0) (x := q) rfl d_Reader_readPlaces_64 ?_
        refine zw_iconst (pc := 65) (v := 4) (by decide) d_Reader_readPlaces_65 ?_
        refine zc_callV hn24 (pc := 66) [.int 4] [] l_Reader_41 (c_Reader_refuse l B N23 (hT.mod hn24) q hqB (hn24.k hqk) 4) rfl rfl hqk (by decide) (by decide) (Nat.le_of_ble_eq_true rfl) d_Reader_readPlaces_66 (fun r27 N25 hq26 => ?_)
        obtain ⟨hk30, v29, rfl, zv29⟩ := hq26
        have hn28 : zMod B [(1, 2), (1, 3), (1, 4), (1, 5), (3, 2), (3, 3), (4, 6), (4, 7), (4, 8), (5, 5), (5, 6), (5, 7)] M N25 := hn24.call hk30 (by decide)
        show zW l m_Reader_readPlaces (zn M + 0, zw M + 0) N25 69 [some (.ref q), some (.ref a0)] [.int v29] (zqZ B M [(1, 2), (1, 3), (1, 4), (1, 5), (3, 2), (3, 3), (4, 6), (4, 7), (4, 8), (5, 5), (5, 6), (5, 7)])
        exact zw_iret (S := []) (pc := 69) (ty := .boolean) rfl (z_narZ (zv29)) d_Reader_readPlaces_69 ⟨hn28, _, rfl, zv29⟩
      refine zw_icmp_lt (pc := 49) (tgt := 64) (by decide) d_Reader_readPlaces_49 (fun hc_49 => ?_) (fun hc_49 => ?_)
      · exact j_64 N16 hn19
      · refine zw_aload_n (pc := 52) (n := 0) (x := q) rfl d_Reader_readPlaces_52 ?_
        refine zc_getF hn19 (pc := 53) f_Reader_15 rfl hqk r1f d_Reader_readPlaces_53 ?_
        refine zc_getI hn19 (pc := 56) f_Reader_57 rfl r1k d_Reader_readPlaces_56 ?_
        refine zw_bipush (pc := 59) (v := 6) (by decide) d_Reader_readPlaces_59 ?_
        refine zw_icmp_le (pc := 61) (tgt := 70) (by decide) d_Reader_readPlaces_61 (fun hc_61 => ?_) (fun hc_61 => ?_)
        · refine zw_aload_n (pc := 70) (n := 1) (x := a0) rfl d_Reader_readPlaces_70 ?_
          refine zw_aload_n (pc := 71) (n := 0) (x := q) rfl d_Reader_readPlaces_71 ?_
          refine zc_getF hn19 (pc := 72) f_Reader_15 rfl hqk r1f d_Reader_readPlaces_72 ?_
          refine zc_getI hn19 (pc := 75) f_Reader_57 rfl r1k d_Reader_readPlaces_75 ?_
          refine zc_callV hn19 (pc := 78) [.int (zi N16 r1 5)] [] l_Reader_60 (c_Troupe_begin l B N16 (hT.mod hn19) a0 a0B (hn19.k a0k) (zi N16 r1 5)) rfl rfl a0k (by decide) (by decide) (Nat.le_of_ble_eq_true rfl) d_Reader_readPlaces_78 (fun r34 N32 hq33 => ?_)
          obtain ⟨hk37, rfl⟩ := hq33
          have hn35 : zMod B [(1, 2), (1, 3), (1, 4), (1, 5), (3, 2), (3, 3), (4, 6), (4, 7), (4, 8), (5, 5), (5, 6), (5, 7)] M N32 := hn19.call hk37 (by decide)
          show zW l m_Reader_readPlaces (zn M + 0, zw M + 0) N32 81 [some (.ref q), some (.ref a0)] [] (zqZ B M [(1, 2), (1, 3), (1, 4), (1, 5), (3, 2), (3, 3), (4, 6), (4, 7), (4, 8), (5, 5), (5, 6), (5, 7)])
          refine zw_aload_n (pc := 81) (n := 0) (x := q) rfl d_Reader_readPlaces_81 ?_
          refine zc_getF hn35 (pc := 82) f_Reader_15 rfl hqk r1f d_Reader_readPlaces_82 ?_
          refine zc_callV hn35 (pc := 85) [] [] l_Reader_44 (c_Tokens_step l B N32 (hT.mod hn35) r1 r1B (hn35.k r1k)) rfl rfl r1k (by decide) (by decide) (Nat.le_of_ble_eq_true rfl) d_Reader_readPlaces_85 (fun r41 N39 hq40 => ?_)
          obtain ⟨hk44, rfl⟩ := hq40
          have hn42 : zMod B [(1, 2), (1, 3), (1, 4), (1, 5), (3, 2), (3, 3), (4, 6), (4, 7), (4, 8), (5, 5), (5, 6), (5, 7)] M N39 := hn35.call hk44 (by decide)
          show zW l m_Reader_readPlaces (zn M + 0, zw M + 0) N39 88 [some (.ref q), some (.ref a0)] [] (zqZ B M [(1, 2), (1, 3), (1, 4), (1, 5), (3, 2), (3, 3), (4, 6), (4, 7), (4, 8), (5, 5), (5, 6), (5, 7)])
          refine zw_aload_n (pc := 88) (n := 0) (x := q) rfl d_Reader_readPlaces_88 ?_
          refine zw_bipush (pc := 89) (v := 59) (by decide) d_Reader_readPlaces_89 ?_
          refine zc_callV hn42 (pc := 91) [.int 59] [] l_Reader_66 (c_Reader_passSign l B N39 (hT.mod hn42) q hqB (hn42.k hqk) 59) rfl rfl hqk (by decide) (by decide) (Nat.le_of_ble_eq_true rfl) d_Reader_readPlaces_91 (fun r48 N46 hq47 => ?_)
          obtain ⟨hk51, v50, rfl, zv50⟩ := hq47
          have hn49 : zMod B [(1, 2), (1, 3), (1, 4), (1, 5), (3, 2), (3, 3), (4, 6), (4, 7), (4, 8), (5, 5), (5, 6), (5, 7)] M N46 := hn42.call hk51 (by decide)
          show zW l m_Reader_readPlaces (zn M + 0, zw M + 0) N46 94 [some (.ref q), some (.ref a0)] [.int v50] (zqZ B M [(1, 2), (1, 3), (1, 4), (1, 5), (3, 2), (3, 3), (4, 6), (4, 7), (4, 8), (5, 5), (5, 6), (5, 7)])
          exact zw_iret (S := []) (pc := 94) (ty := .boolean) rfl (z_narZ (zv50)) d_Reader_readPlaces_94 ⟨hn49, _, rfl, zv50⟩
        · exact j_64 N16 hn19
    · refine zw_aload_n (pc := 35) (n := 0) (x := q) rfl d_Reader_readPlaces_35 ?_
      refine zw_iconst (pc := 36) (v := 2) (by decide) d_Reader_readPlaces_36 ?_
      refine zc_callV hn19 (pc := 37) [.int 2] [] l_Reader_41 (c_Reader_refuse l B N16 (hT.mod hn19) q hqB (hn19.k hqk) 2) rfl rfl hqk (by decide) (by decide) (Nat.le_of_ble_eq_true rfl) d_Reader_readPlaces_37 (fun r55 N53 hq54 => ?_)
      obtain ⟨hk58, v57, rfl, zv57⟩ := hq54
      have hn56 : zMod B [(1, 2), (1, 3), (1, 4), (1, 5), (3, 2), (3, 3), (4, 6), (4, 7), (4, 8), (5, 5), (5, 6), (5, 7)] M N53 := hn19.call hk58 (by decide)
      show zW l m_Reader_readPlaces (zn M + 0, zw M + 0) N53 40 [some (.ref q), some (.ref a0)] [.int v57] (zqZ B M [(1, 2), (1, 3), (1, 4), (1, 5), (3, 2), (3, 3), (4, 6), (4, 7), (4, 8), (5, 5), (5, 6), (5, 7)])
      exact zw_iret (S := []) (pc := 40) (ty := .boolean) rfl (z_narZ (zv57)) d_Reader_readPlaces_40 ⟨hn56, _, rfl, zv57⟩
  · refine zw_aload_n (pc := 12) (n := 0) (x := q) rfl d_Reader_readPlaces_12 ?_
    refine zw_iconst (pc := 13) (v := 2) (by decide) d_Reader_readPlaces_13 ?_
    refine zc_callV hn5 (pc := 14) [.int 2] [] l_Reader_41 (c_Reader_refuse l B N2 (hT.mod hn5) q hqB (hn5.k hqk) 2) rfl rfl hqk (by decide) (by decide) (Nat.le_of_ble_eq_true rfl) d_Reader_readPlaces_14 (fun r62 N60 hq61 => ?_)
    obtain ⟨hk65, v64, rfl, zv64⟩ := hq61
    have hn63 : zMod B [(1, 2), (1, 3), (1, 4), (1, 5), (3, 2), (3, 3), (4, 6), (4, 7), (4, 8), (5, 5), (5, 6), (5, 7)] M N60 := hn5.call hk65 (by decide)
    show zW l m_Reader_readPlaces (zn M + 0, zw M + 0) N60 17 [some (.ref q), some (.ref a0)] [.int v64] (zqZ B M [(1, 2), (1, 3), (1, 4), (1, 5), (3, 2), (3, 3), (4, 6), (4, 7), (4, 8), (5, 5), (5, 6), (5, 7)])
    exact zw_iret (S := []) (pc := 17) (ty := .boolean) rfl (z_narZ (zv64)) d_Reader_readPlaces_17 ⟨hn63, _, rfl, zv64⟩
set_option maxHeartbeats 4000000 in
theorem c_Reader_readMove (l : Launch) (B : Nat) (M : zMem) (hT : zTy B M) (q : Nat) (hqB : q < B) (hqk : (zsh M q).1 = 3 + 3) (x0 : Int32) : zC l m_Reader_readMove 0 0 [.ref q, .int x0] M (zqI B M [(1, 2), (1, 3), (1, 4), (1, 5), (3, 2), (3, 3)]) := by
  refine zC_of (L0 := [some (.ref q), some (.int x0), none, none, none, none]) md_Reader_readMove (Nat.le_of_ble_eq_true rfl) rfl ?_ zQ0
  have hm : zMod B [(1, 2), (1, 3), (1, 4), (1, 5), (3, 2), (3, 3)] M M := zMod.rf
  refine zw_iconst (pc := 0) (v := 0) (by decide) d_Reader_readMove_0 ?_
  refine zw_istore_n (pc := 1) (i := 2) (L2 := [some (.ref q), some (.int x0), some (.int 0), none, none, none]) rfl (by decide) rfl d_Reader_readMove_1 ?_
  refine zw_iconst (pc := 2) (v := 0) (by decide) d_Reader_readMove_2 ?_
  refine zw_istore_n (pc := 3) (i := 3) (L2 := [some (.ref q), some (.int x0), some (.int 0), some (.int 0), none, none]) rfl (by decide) rfl d_Reader_readMove_3 ?_
  refine zw_iconst (pc := 4) (v := 0) (by decide) d_Reader_readMove_4 ?_
  refine zw_istore (pc := 5) (i := 4) (L2 := [some (.ref q), some (.int x0), some (.int 0), some (.int 0), some (.int 0), none]) (by decide) rfl d_Reader_readMove_5 ?_
  have lp_7 : ∀ (n : Nat) (u1 : Int32) (u2 : Int32) (u3 : Int32) (N4 : zMem) (hn5 : zMod B [(1, 2), (1, 3), (1, 4), (1, 5), (3, 2), (3, 3)] M N4), zvu u3 x0 < n → zW l m_Reader_readMove (zn M + 0, zw M + 0) N4 7 [some (.ref q), some (.int x0), some (.int u1), some (.int u2), some (.int u3), none] [] (zqI B M [(1, 2), (1, 3), (1, 4), (1, 5), (3, 2), (3, 3)]) := by
    intro n
    induction n with
    | zero =>
      intro u1 u2 u3 N4 hn5 h0
      exact absurd h0 (Nat.not_lt_zero _)
    | succ n ih_7 =>
      intro u1 u2 u3 N4 hn5 hlt_7
      refine zw_iload (pc := 7) (i := 4) (x := u3) rfl d_Reader_readMove_7 ?_
      refine zw_iload_n (pc := 9) (n := 1) (x := x0) rfl d_Reader_readMove_9 ?_
      refine zw_icmp_ge (pc := 10) (tgt := 93) (by decide) d_Reader_readMove_10 (fun hc_10 => ?_) (fun hc_10 => ?_)
      · refine zw_iload_n (pc := 93) (n := 2) (x := u1) rfl d_Reader_readMove_93 ?_
        exact zw_iret (S := []) (pc := 94) (ty := .int) rfl rfl d_Reader_readMove_94 ⟨hn5, _, rfl⟩
      · refine zw_aload_n (pc := 13) (n := 0) (x := q) rfl d_Reader_readMove_13 ?_
        obtain ⟨r6, r6f, r6B, r6k⟩ := hT.1 q 3 0 hqB hqk (by decide) (by decide) rfl
        refine zc_getF hn5 (pc := 14) f_Reader_15 rfl hqk r6f d_Reader_readMove_14 ?_
        refine zc_callV hn5 (pc := 17) [] [] l_Reader_53 (c_Tokens_isNumber l B N4 (hT.mod hn5) r6 r6B (hn5.k r6k)) rfl rfl r6k (by decide) (by decide) (Nat.le_of_ble_eq_true rfl) d_Reader_readMove_17 (fun r9 N7 hq8 => ?_)
        obtain ⟨hk12, v11, rfl, zv11⟩ := hq8
        have hn10 : zMod B [(1, 2), (1, 3), (1, 4), (1, 5), (3, 2), (3, 3)] M N7 := hn5.call hk12 (by decide)
        show zW l m_Reader_readMove (zn M + 0, zw M + 0) N7 20 [some (.ref q), some (.int x0), some (.int u1), some (.int u2), some (.int u3), none] [.int v11] (zqI B M [(1, 2), (1, 3), (1, 4), (1, 5), (3, 2), (3, 3)])
        refine zw_if_ne (pc := 20) (tgt := 31) (by decide) d_Reader_readMove_20 (fun hc_20 => ?_) (fun hc_20 => ?_)
        · refine zw_aload_n (pc := 31) (n := 0) (x := q) rfl d_Reader_readMove_31 ?_
          refine zc_getF hn10 (pc := 32) f_Reader_15 rfl hqk r6f d_Reader_readMove_32 ?_
          refine zc_getI hn10 (pc := 35) f_Reader_57 rfl r6k d_Reader_readMove_35 ?_
          refine zw_istore (pc := 38) (i := 5) (L2 := [some (.ref q), some (.int x0), some (.int u1), some (.int u2), some (.int u3), some (.int (zi N7 r6 5))]) (by decide) rfl d_Reader_readMove_38 ?_
          refine zw_iload (pc := 40) (i := 5) (x := zi N7 r6 5) rfl d_Reader_readMove_40 ?_
          refine zw_iload_n (pc := 42) (n := 1) (x := x0) rfl d_Reader_readMove_42 ?_
          have j_55 : ∀ (N14 : zMem) (hn15 : zMod B [(1, 2), (1, 3), (1, 4), (1, 5), (3, 2), (3, 3)] M N14), zW l m_Reader_readMove (zn M + 0, zw M + 0) N14 55 [some (.ref q), some (.int x0), some (.int u1), some (.int u2), some (.int u3), some (.int (zi N7 r6 5))] [] (zqI B M [(1, 2), (1, 3), (1, 4), (1, 5), (3, 2), (3, 3)]) := by
            intro N14 hn15
            refine zw_aload_n (pc := 55) (n := 0) (x := q) rfl d_Reader_readMove_55 ?_
            refine zw_iconst (pc := 56) (v := 4) (by decide) d_Reader_readMove_56 ?_
            refine zc_callV hn15 (pc := 57) [.int 4] [] l_Reader_41 (c_Reader_refuse l B N14 (hT.mod hn15) q hqB (hn15.k hqk) 4) rfl rfl hqk (by decide) (by decide) (Nat.le_of_ble_eq_true rfl) d_Reader_readMove_57 (fun r18 N16 hq17 => ?_)
            obtain ⟨hk21, v20, rfl, zv20⟩ := hq17
            have hn19 : zMod B [(1, 2), (1, 3), (1, 4), (1, 5), (3, 2), (3, 3)] M N16 := hn15.call hk21 (by decide)
            show zW l m_Reader_readMove (zn M + 0, zw M + 0) N16 60 [some (.ref q), some (.int x0), some (.int u1), some (.int u2), some (.int u3), some (.int (zi N7 r6 5))] [.int v20] (zqI B M [(1, 2), (1, 3), (1, 4), (1, 5), (3, 2), (3, 3)])
            refine zw_pop (pc := 60) rfl d_Reader_readMove_60 ?_
            refine zw_iconst (pc := 61) (v := (-1)) (by decide) d_Reader_readMove_61 ?_
            exact zw_iret (S := []) (pc := 62) (ty := .int) rfl rfl d_Reader_readMove_62 ⟨hn19, _, rfl⟩
          refine zw_icmp_ge (pc := 43) (tgt := 55) (by decide) d_Reader_readMove_43 (fun hc_43 => ?_) (fun hc_43 => ?_)
          · exact j_55 N7 hn10
          · refine zw_iload_n (pc := 46) (n := 3) (x := u2) rfl d_Reader_readMove_46 ?_
            refine zw_iload (pc := 47) (i := 5) (x := zi N7 r6 5) rfl d_Reader_readMove_47 ?_
            refine zc_callS hn10 (pc := 49) [.int u2, .int (zi N7 r6 5)] [] l_Reader_89 (c_T_isIn l B N7 (hT.mod hn10) u2 (zi N7 r6 5)) rfl rfl (by decide) (Nat.le_of_ble_eq_true rfl) d_Reader_readMove_49 (fun r25 N23 hq24 => ?_)
            obtain ⟨hk28, v27, rfl, zv27⟩ := hq24
            have hn26 : zMod B [(1, 2), (1, 3), (1, 4), (1, 5), (3, 2), (3, 3)] M N23 := hn10.call hk28 (by decide)
            show zW l m_Reader_readMove (zn M + 0, zw M + 0) N23 52 [some (.ref q), some (.int x0), some (.int u1), some (.int u2), some (.int u3), some (.int (zi N7 r6 5))] [.int v27] (zqI B M [(1, 2), (1, 3), (1, 4), (1, 5), (3, 2), (3, 3)])
            refine zw_if_eq (pc := 52) (tgt := 63) (by decide) d_Reader_readMove_52 (fun hc_52 => ?_) (fun hc_52 => ?_)
            · refine zw_iload_n (pc := 63) (n := 3) (x := u2) rfl d_Reader_readMove_63 ?_
              refine zw_iconst (pc := 64) (v := 1) (by decide) d_Reader_readMove_64 ?_
              refine zw_iload (pc := 65) (i := 5) (x := zi N7 r6 5) rfl d_Reader_readMove_65 ?_
              refine zw_ishl (pc := 67) d_Reader_readMove_67 ?_
              refine zw_ior (pc := 68) d_Reader_readMove_68 ?_
              refine zw_istore_n (pc := 69) (i := 3) (L2 := [some (.ref q), some (.int x0), some (.int u1), some (.int (u2 ||| (1 <<< ((zi N7 r6 5) &&& 31)))), some (.int u3), some (.int (zi N7 r6 5))]) rfl (by decide) rfl d_Reader_readMove_69 ?_
              refine zw_iload_n (pc := 70) (n := 2) (x := u1) rfl d_Reader_readMove_70 ?_
              refine zw_iload (pc := 71) (i := 5) (x := zi N7 r6 5) rfl d_Reader_readMove_71 ?_
              refine zw_iload (pc := 73) (i := 4) (x := u3) rfl d_Reader_readMove_73 ?_
              refine zc_callS hn26 (pc := 75) [.int (zi N7 r6 5), .int u3] [.int u1] l_Reader_92 (c_T_codeOf l B N23 (hT.mod hn26) (zi N7 r6 5) u3) rfl rfl (by decide) (Nat.le_of_ble_eq_true rfl) d_Reader_readMove_75 (fun r32 N30 hq31 => ?_)
              obtain ⟨hk35, v34, rfl⟩ := hq31
              have hn33 : zMod B [(1, 2), (1, 3), (1, 4), (1, 5), (3, 2), (3, 3)] M N30 := hn26.call hk35 (by decide)
              show zW l m_Reader_readMove (zn M + 0, zw M + 0) N30 78 [some (.ref q), some (.int x0), some (.int u1), some (.int (u2 ||| (1 <<< ((zi N7 r6 5) &&& 31)))), some (.int u3), some (.int (zi N7 r6 5))] [.int v34, .int u1] (zqI B M [(1, 2), (1, 3), (1, 4), (1, 5), (3, 2), (3, 3)])
              refine zw_ior (pc := 78) d_Reader_readMove_78 ?_
              refine zw_istore_n (pc := 79) (i := 2) (L2 := [some (.ref q), some (.int x0), some (.int (u1 ||| v34)), some (.int (u2 ||| (1 <<< ((zi N7 r6 5) &&& 31)))), some (.int u3), some (.int (zi N7 r6 5))]) rfl (by decide) rfl d_Reader_readMove_79 ?_
              refine zw_aload_n (pc := 80) (n := 0) (x := q) rfl d_Reader_readMove_80 ?_
              refine zc_getF hn33 (pc := 81) f_Reader_15 rfl hqk r6f d_Reader_readMove_81 ?_
              refine zc_callV hn33 (pc := 84) [] [] l_Reader_44 (c_Tokens_step l B N30 (hT.mod hn33) r6 r6B (hn33.k r6k)) rfl rfl r6k (by decide) (by decide) (Nat.le_of_ble_eq_true rfl) d_Reader_readMove_84 (fun r39 N37 hq38 => ?_)
              obtain ⟨hk42, rfl⟩ := hq38
              have hn40 : zMod B [(1, 2), (1, 3), (1, 4), (1, 5), (3, 2), (3, 3)] M N37 := hn33.call hk42 (by decide)
              show zW l m_Reader_readMove (zn M + 0, zw M + 0) N37 87 [some (.ref q), some (.int x0), some (.int (u1 ||| v34)), some (.int (u2 ||| (1 <<< ((zi N7 r6 5) &&& 31)))), some (.int u3), some (.int (zi N7 r6 5))] [] (zqI B M [(1, 2), (1, 3), (1, 4), (1, 5), (3, 2), (3, 3)])
              refine zw_iinc (pc := 87) (i := 4) (x := u3) (v := u3 + Int32.ofInt 1) (L2 := [some (.ref q), some (.int x0), some (.int (u1 ||| v34)), some (.int (u2 ||| (1 <<< ((zi N7 r6 5) &&& 31)))), some (.int (u3 + Int32.ofInt 1)), some (.int (zi N7 r6 5))]) rfl rfl (by decide) rfl d_Reader_readMove_87 ?_
              refine zw_goto (pc := 90) (tgt := 7) (by decide) d_Reader_readMove_90 ?_
              refine zW_le [some (.ref q), some (.int x0), some (.int (u1 ||| v34)), some (.int (u2 ||| (1 <<< ((zi N7 r6 5) &&& 31)))), some (.int (u3 + Int32.ofInt 1)), none] (⟨rfl, rfl, rfl, rfl, rfl, trivial⟩) ?_
              exact ih_7 (u1 ||| v34) (u2 ||| (1 <<< ((zi N7 r6 5) &&& 31))) (u3 + Int32.ofInt 1) N37 hn40 (Nat.lt_of_lt_of_le (z_up hc_10) (Nat.le_of_lt_succ hlt_7))
            · exact j_55 N23 hn26
        · refine zw_aload_n (pc := 23) (n := 0) (x := q) rfl d_Reader_readMove_23 ?_
          refine zw_iconst (pc := 24) (v := 2) (by decide) d_Reader_readMove_24 ?_
          refine zc_callV hn10 (pc := 25) [.int 2] [] l_Reader_41 (c_Reader_refuse l B N7 (hT.mod hn10) q hqB (hn10.k hqk) 2) rfl rfl hqk (by decide) (by decide) (Nat.le_of_ble_eq_true rfl) d_Reader_readMove_25 (fun r46 N44 hq45 => ?_)
          obtain ⟨hk49, v48, rfl, zv48⟩ := hq45
          have hn47 : zMod B [(1, 2), (1, 3), (1, 4), (1, 5), (3, 2), (3, 3)] M N44 := hn10.call hk49 (by decide)
          show zW l m_Reader_readMove (zn M + 0, zw M + 0) N44 28 [some (.ref q), some (.int x0), some (.int u1), some (.int u2), some (.int u3), none] [.int v48] (zqI B M [(1, 2), (1, 3), (1, 4), (1, 5), (3, 2), (3, 3)])
          refine zw_pop (pc := 28) rfl d_Reader_readMove_28 ?_
          refine zw_iconst (pc := 29) (v := (-1)) (by decide) d_Reader_readMove_29 ?_
          exact zw_iret (S := []) (pc := 30) (ty := .int) rfl rfl d_Reader_readMove_30 ⟨hn47, _, rfl⟩
  exact lp_7 _ 0 0 0 M hm (Nat.lt_succ_self _)
set_option maxHeartbeats 4000000 in
theorem c_Group_addMove (l : Launch) (B : Nat) (M : zMem) (hT : zTy B M) (q : Nat) (hqB : q < B) (hqk : (zsh M q).1 = 5 + 3) (x0 : Int32) : zC l m_Group_addMove 0 0 [.ref q, .int x0] M (zqZ B M [(5, 6), (5, 7)]) := by
  refine zC_of (L0 := [some (.ref q), some (.int x0)]) md_Group_addMove (Nat.le_of_ble_eq_true rfl) rfl ?_ zQ0
  have hm : zMod B [(5, 6), (5, 7)] M M := zMod.rf
  refine zw_aload_n (pc := 0) (n := 0) (x := q) rfl d_Group_addMove_0 ?_
  refine zc_getI hm (pc := 1) f_Group_36 rfl hqk d_Group_addMove_1 ?_
  refine zw_iconst (pc := 4) (v := 4) (by decide) d_Group_addMove_4 ?_
  refine zw_icmp_lt (pc := 5) (tgt := 10) (by decide) d_Group_addMove_5 (fun hc_5 => ?_) (fun hc_5 => ?_)
  · refine zw_aload_n (pc := 10) (n := 0) (x := q) rfl d_Group_addMove_10 ?_
    obtain ⟨r1, r1f, r1B, r1k⟩ := hT.1 q 5 0 hqB hqk (by decide) (by decide) rfl
    refine zc_getF hm (pc := 11) f_Group_14 rfl hqk r1f d_Group_addMove_11 ?_
    refine zw_aload_n (pc := 14) (n := 0) (x := q) rfl d_Group_addMove_14 ?_
    refine zc_getI hm (pc := 15) f_Group_36 rfl hqk d_Group_addMove_15 ?_
    refine zw_iload_n (pc := 18) (n := 1) (x := x0) rfl d_Group_addMove_18 ?_
    refine zc_callV hm (pc := 19) [.int (zi M q 6), .int x0] [] l_Group_46 (c_IntRow_put l B M (hT.mod hm) r1 r1B (hm.k r1k) (zi M q 6) x0) rfl rfl r1k (by decide) (by decide) (Nat.le_of_ble_eq_true rfl) d_Group_addMove_19 (fun r4 N2 hq3 => ?_)
    obtain ⟨hk7, rfl⟩ := hq3
    have hn5 : zMod B [(5, 6), (5, 7)] M N2 := hm.call hk7 (by decide)
    show zW l m_Group_addMove (zn M + 0, zw M + 0) N2 22 [some (.ref q), some (.int x0)] [] (zqZ B M [(5, 6), (5, 7)])
    refine zw_aload_n (pc := 22) (n := 0) (x := q) rfl d_Group_addMove_22 ?_
    refine zw_dup (pc := 23) rfl d_Group_addMove_23 ?_
    refine zc_getI hn5 (pc := 24) f_Group_36 rfl hqk d_Group_addMove_24 ?_
    refine zw_iconst (pc := 27) (v := 1) (by decide) d_Group_addMove_27 ?_
    refine zw_iadd (pc := 28) d_Group_addMove_28 ?_
    refine zc_putI hn5 (pc := 29) f_Group_36 rfl rfl hqk hqB (by decide) rfl rfl d_Group_addMove_29 (fun N9 hN9 hn10 => ?_)
    refine zw_aload_n (pc := 32) (n := 0) (x := q) rfl d_Group_addMove_32 ?_
    refine zc_callV hn10 (pc := 33) [] [] l_Group_42 (c_Group_gather l B N9 (hT.mod hn10) q hqB (hn10.k hqk)) rfl rfl hqk (by decide) (by decide) (Nat.le_of_ble_eq_true rfl) d_Group_addMove_33 (fun r13 N11 hq12 => ?_)
    obtain ⟨hk16, v15, rfl, zv15⟩ := hq12
    have hn14 : zMod B [(5, 6), (5, 7)] M N11 := hn10.call hk16 (by decide)
    show zW l m_Group_addMove (zn M + 0, zw M + 0) N11 36 [some (.ref q), some (.int x0)] [.int v15] (zqZ B M [(5, 6), (5, 7)])
    exact zw_iret (S := []) (pc := 36) (ty := .boolean) rfl (z_narZ (zv15)) d_Group_addMove_36 ⟨hn14, _, rfl, zv15⟩
  · refine zw_iconst (pc := 8) (v := 0) (by decide) d_Group_addMove_8 ?_
    exact zw_iret (S := []) (pc := 9) (ty := .boolean) rfl (z_narZ (Or.inl rfl)) d_Group_addMove_9 ⟨hm, _, rfl, Or.inl rfl⟩
set_option maxHeartbeats 4000000 in
theorem c_Reader_readMoves (l : Launch) (B : Nat) (M : zMem) (hT : zTy B M) (q : Nat) (hqB : q < B) (hqk : (zsh M q).1 = 3 + 3) (a0 : Nat) (a0B : a0 < B) (a0k : (zsh M a0).1 = 4 + 3) : zC l m_Reader_readMoves 0 0 [.ref q, .ref a0] M (zqZ B M [(1, 2), (1, 3), (1, 4), (1, 5), (3, 2), (3, 3), (5, 6), (5, 7)]) := by
  refine zC_of (L0 := [some (.ref q), some (.ref a0), none, none, none]) md_Reader_readMoves (Nat.le_of_ble_eq_true rfl) rfl ?_ zQ0
  have hm : zMod B [(1, 2), (1, 3), (1, 4), (1, 5), (3, 2), (3, 3), (5, 6), (5, 7)] M M := zMod.rf
  refine zw_iconst (pc := 0) (v := 0) (by decide) d_Reader_readMoves_0 ?_
  refine zw_istore_n (pc := 1) (i := 2) (L2 := [some (.ref q), some (.ref a0), some (.int 0), none, none]) rfl (by decide) rfl d_Reader_readMoves_1 ?_
  have lp_2 : ∀ (n : Nat) (u1 : Int32) (N2 : zMem) (hn3 : zMod B [(1, 2), (1, 3), (1, 4), (1, 5), (3, 2), (3, 3), (5, 6), (5, 7)] M N2), zvq u1 4 < n → zW l m_Reader_readMoves (zn M + 0, zw M + 0) N2 2 [some (.ref q), some (.ref a0), some (.int u1), none, none] [] (zqZ B M [(1, 2), (1, 3), (1, 4), (1, 5), (3, 2), (3, 3), (5, 6), (5, 7)]) := by
    intro n
    induction n with
    | zero =>
      intro u1 N2 hn3 h0
      exact absurd h0 (Nat.not_lt_zero _)
    | succ n ih_2 =>
      intro u1 N2 hn3 hlt_2
      refine zw_iload_n (pc := 2) (n := 2) (x := u1) rfl d_Reader_readMoves_2 ?_
      refine zw_iconst (pc := 3) (v := 4) (by decide) d_Reader_readMoves_3 ?_
      refine zw_icmp_gt (pc := 4) (tgt := 106) (by decide) d_Reader_readMoves_4 (fun hc_4 => ?_) (fun hc_4 => ?_)
      · refine zw_iconst (pc := 106) (v := 1) (by decide) d_Reader_readMoves_106 ?_
        exact zw_iret (S := []) (pc := 107) (ty := .boolean) rfl (z_narZ (Or.inr rfl)) d_Reader_readMoves_107 ⟨hn3, _, rfl, Or.inr rfl⟩
      · refine zw_aload_n (pc := 7) (n := 0) (x := q) rfl d_Reader_readMoves_7 ?_
        obtain ⟨r4, r4f, r4B, r4k⟩ := hT.1 q 3 0 hqB hqk (by decide) (by decide) rfl
        refine zc_getF hn3 (pc := 8) f_Reader_15 rfl hqk r4f d_Reader_readMoves_8 ?_
        refine zw_ldcs (pc := 11) (i := 1) (List.mem_of_getElem? (i := 1) rfl) d_Reader_readMoves_11 ?_
        refine zc_callV hn3 (pc := 13) [.ref (zK 1)] [] l_Reader_49 (c_Tokens_isWord l B N2 (hT.mod hn3) r4 r4B (hn3.k r4k) 1 (by decide)) rfl rfl r4k (by decide) (by decide) (Nat.le_of_ble_eq_true rfl) d_Reader_readMoves_13 (fun r7 N5 hq6 => ?_)
        obtain ⟨hk10, v9, rfl, zv9⟩ := hq6
        have hn8 : zMod B [(1, 2), (1, 3), (1, 4), (1, 5), (3, 2), (3, 3), (5, 6), (5, 7)] M N5 := hn3.call hk10 (by decide)
        show zW l m_Reader_readMoves (zn M + 0, zw M + 0) N5 16 [some (.ref q), some (.ref a0), some (.int u1), none, none] [.int v9] (zqZ B M [(1, 2), (1, 3), (1, 4), (1, 5), (3, 2), (3, 3), (5, 6), (5, 7)])
        refine zw_if_eq (pc := 16) (tgt := 106) (by decide) d_Reader_readMoves_16 (fun hc_16 => ?_) (fun hc_16 => ?_)
        · refine zw_iconst (pc := 106) (v := 1) (by decide) d_Reader_readMoves_106 ?_
          exact zw_iret (S := []) (pc := 107) (ty := .boolean) rfl (z_narZ (Or.inr rfl)) d_Reader_readMoves_107 ⟨hn8, _, rfl, Or.inr rfl⟩
        · refine zw_aload_n (pc := 19) (n := 0) (x := q) rfl d_Reader_readMoves_19 ?_
          refine zc_getF hn8 (pc := 20) f_Reader_15 rfl hqk r4f d_Reader_readMoves_20 ?_
          refine zc_getI hn8 (pc := 23) f_Reader_30 rfl r4k d_Reader_readMoves_23 ?_
          refine zw_istore_n (pc := 26) (i := 3) (L2 := [some (.ref q), some (.ref a0), some (.int u1), some (.int (zi N5 r4 2)), none]) rfl (by decide) rfl d_Reader_readMoves_26 ?_
          refine zw_aload_n (pc := 27) (n := 1) (x := a0) rfl d_Reader_readMoves_27 ?_
          obtain ⟨r12, r12f, r12B, r12k⟩ := hT.1 a0 4 0 a0B a0k (by decide) (by decide) rfl
          refine zc_getF hn8 (pc := 28) f_Reader_71 rfl a0k r12f d_Reader_readMoves_28 ?_
          refine zc_getI hn8 (pc := 31) f_Reader_75 rfl r12k d_Reader_readMoves_31 ?_
          refine zw_iconst (pc := 34) (v := 4) (by decide) d_Reader_readMoves_34 ?_
          refine zw_icmp_lt (pc := 35) (tgt := 44) (by decide) d_Reader_readMoves_35 (fun hc_35 => ?_) (fun hc_35 => ?_)
          · refine zw_aload_n (pc := 44) (n := 0) (x := q) rfl d_Reader_readMoves_44 ?_
            refine zc_getF hn8 (pc := 45) f_Reader_15 rfl hqk r4f d_Reader_readMoves_45 ?_
            refine zc_callV hn8 (pc := 48) [] [] l_Reader_44 (c_Tokens_step l B N5 (hT.mod hn8) r4 r4B (hn8.k r4k)) rfl rfl r4k (by decide) (by decide) (Nat.le_of_ble_eq_true rfl) d_Reader_readMoves_48 (fun r15 N13 hq14 => ?_)
            obtain ⟨hk18, rfl⟩ := hq14
            have hn16 : zMod B [(1, 2), (1, 3), (1, 4), (1, 5), (3, 2), (3, 3), (5, 6), (5, 7)] M N13 := hn8.call hk18 (by decide)
            show zW l m_Reader_readMoves (zn M + 0, zw M + 0) N13 51 [some (.ref q), some (.ref a0), some (.int u1), some (.int (zi N5 r4 2)), none] [] (zqZ B M [(1, 2), (1, 3), (1, 4), (1, 5), (3, 2), (3, 3), (5, 6), (5, 7)])
            refine zw_aload_n (pc := 51) (n := 0) (x := q) rfl d_Reader_readMoves_51 ?_
            refine zw_aload_n (pc := 52) (n := 1) (x := a0) rfl d_Reader_readMoves_52 ?_
            refine zc_getF hn16 (pc := 53) f_Reader_71 rfl a0k r12f d_Reader_readMoves_53 ?_
            refine zc_getI0 hn16 (pc := 56) (by decide) f_Reader_80 rfl r12k d_Reader_readMoves_56 ?_
            refine zc_callV hn16 (pc := 59) [.int (zi M r12 5)] [] l_Reader_82 (c_Reader_readMove l B N13 (hT.mod hn16) q hqB (hn16.k hqk) (zi M r12 5)) rfl rfl hqk (by decide) (by decide) (Nat.le_of_ble_eq_true rfl) d_Reader_readMoves_59 (fun r22 N20 hq21 => ?_)
            obtain ⟨hk25, v24, rfl⟩ := hq21
            have hn23 : zMod B [(1, 2), (1, 3), (1, 4), (1, 5), (3, 2), (3, 3), (5, 6), (5, 7)] M N20 := hn16.call hk25 (by decide)
            show zW l m_Reader_readMoves (zn M + 0, zw M + 0) N20 62 [some (.ref q), some (.ref a0), some (.int u1), some (.int (zi N5 r4 2)), none] [.int v24] (zqZ B M [(1, 2), (1, 3), (1, 4), (1, 5), (3, 2), (3, 3), (5, 6), (5, 7)])
            refine zw_istore (pc := 62) (i := 4) (L2 := [some (.ref q), some (.ref a0), some (.int u1), some (.int (zi N5 r4 2)), some (.int v24)]) (by decide) rfl d_Reader_readMoves_62 ?_
            refine zw_iload (pc := 64) (i := 4) (x := v24) rfl d_Reader_readMoves_64 ?_
            refine zw_iconst (pc := 66) (v := (-1)) (by decide) d_Reader_readMoves_66 ?_
            refine zw_icmp_eq (pc := 67) (tgt := 79) (by decide) d_Reader_readMoves_67 (fun hc_67 => ?_) (fun hc_67 => ?_)
            · refine zw_iconst (pc := 79) (v := 0) (by decide) d_Reader_readMoves_79 ?_
              exact zw_iret (S := []) (pc := 80) (ty := .boolean) rfl (z_narZ (Or.inl rfl)) d_Reader_readMoves_80 ⟨hn23, _, rfl, Or.inl rfl⟩
            · refine zw_aload_n (pc := 70) (n := 0) (x := q) rfl d_Reader_readMoves_70 ?_
              refine zw_bipush (pc := 71) (v := 59) (by decide) d_Reader_readMoves_71 ?_
              refine zc_callV hn23 (pc := 73) [.int 59] [] l_Reader_66 (c_Reader_passSign l B N20 (hT.mod hn23) q hqB (hn23.k hqk) 59) rfl rfl hqk (by decide) (by decide) (Nat.le_of_ble_eq_true rfl) d_Reader_readMoves_73 (fun r29 N27 hq28 => ?_)
              obtain ⟨hk32, v31, rfl, zv31⟩ := hq28
              have hn30 : zMod B [(1, 2), (1, 3), (1, 4), (1, 5), (3, 2), (3, 3), (5, 6), (5, 7)] M N27 := hn23.call hk32 (by decide)
              show zW l m_Reader_readMoves (zn M + 0, zw M + 0) N27 76 [some (.ref q), some (.ref a0), some (.int u1), some (.int (zi N5 r4 2)), some (.int v24)] [.int v31] (zqZ B M [(1, 2), (1, 3), (1, 4), (1, 5), (3, 2), (3, 3), (5, 6), (5, 7)])
              refine zw_if_ne (pc := 76) (tgt := 81) (by decide) d_Reader_readMoves_76 (fun hc_76 => ?_) (fun hc_76 => ?_)
              · refine zw_aload_n (pc := 81) (n := 1) (x := a0) rfl d_Reader_readMoves_81 ?_
                refine zc_getF hn30 (pc := 82) f_Reader_71 rfl a0k r12f d_Reader_readMoves_82 ?_
                refine zw_iload (pc := 85) (i := 4) (x := v24) rfl d_Reader_readMoves_85 ?_
                refine zc_callV hn30 (pc := 87) [.int v24] [] l_Reader_86 (c_Group_addMove l B N27 (hT.mod hn30) r12 r12B (hn30.k r12k) v24) rfl rfl r12k (by decide) (by decide) (Nat.le_of_ble_eq_true rfl) d_Reader_readMoves_87 (fun r36 N34 hq35 => ?_)
                obtain ⟨hk39, v38, rfl, zv38⟩ := hq35
                have hn37 : zMod B [(1, 2), (1, 3), (1, 4), (1, 5), (3, 2), (3, 3), (5, 6), (5, 7)] M N34 := hn30.call hk39 (by decide)
                show zW l m_Reader_readMoves (zn M + 0, zw M + 0) N34 90 [some (.ref q), some (.ref a0), some (.int u1), some (.int (zi N5 r4 2)), some (.int v24)] [.int v38] (zqZ B M [(1, 2), (1, 3), (1, 4), (1, 5), (3, 2), (3, 3), (5, 6), (5, 7)])
                refine zw_if_ne (pc := 90) (tgt := 100) (by decide) d_Reader_readMoves_90 (fun hc_90 => ?_) (fun hc_90 => ?_)
                · refine zw_iinc (pc := 100) (i := 2) (x := u1) (v := u1 + Int32.ofInt 1) (L2 := [some (.ref q), some (.ref a0), some (.int (u1 + Int32.ofInt 1)), some (.int (zi N5 r4 2)), some (.int v24)]) rfl rfl (by decide) rfl d_Reader_readMoves_100 ?_
                  refine zw_goto (pc := 103) (tgt := 2) (by decide) d_Reader_readMoves_103 ?_
                  refine zW_le [some (.ref q), some (.ref a0), some (.int (u1 + Int32.ofInt 1)), none, none] (⟨rfl, rfl, rfl, trivial⟩) ?_
                  exact ih_2 (u1 + Int32.ofInt 1) N34 hn37 (Nat.lt_of_lt_of_le (z_upq (by decide) hc_4) (Nat.le_of_lt_succ hlt_2))
                · refine zw_aload_n (pc := 93) (n := 0) (x := q) rfl d_Reader_readMoves_93 ?_
                  refine zw_iconst (pc := 94) (v := 5) (by decide) d_Reader_readMoves_94 ?_
                  refine zw_iload_n (pc := 95) (n := 3) (x := zi N5 r4 2) rfl d_Reader_readMoves_95 ?_
                  refine zc_callV hn37 (pc := 96) [.int 5, .int (zi N5 r4 2)] [] l_Reader_33 (c_Reader_refuseAt l B N34 (hT.mod hn37) q hqB (hn37.k hqk) 5 (zi N5 r4 2)) rfl rfl hqk (by decide) (by decide) (Nat.le_of_ble_eq_true rfl) d_Reader_readMoves_96 (fun r43 N41 hq42 => ?_)
                  obtain ⟨hk46, v45, rfl, zv45⟩ := hq42
                  have hn44 : zMod B [(1, 2), (1, 3), (1, 4), (1, 5), (3, 2), (3, 3), (5, 6), (5, 7)] M N41 := hn37.call hk46 (by decide)
                  show zW l m_Reader_readMoves (zn M + 0, zw M + 0) N41 99 [some (.ref q), some (.ref a0), some (.int u1), some (.int (zi N5 r4 2)), some (.int v24)] [.int v45] (zqZ B M [(1, 2), (1, 3), (1, 4), (1, 5), (3, 2), (3, 3), (5, 6), (5, 7)])
                  exact zw_iret (S := []) (pc := 99) (ty := .boolean) rfl (z_narZ (zv45)) d_Reader_readMoves_99 ⟨hn44, _, rfl, zv45⟩
              · refine zw_iconst (pc := 79) (v := 0) (by decide) d_Reader_readMoves_79 ?_
                exact zw_iret (S := []) (pc := 80) (ty := .boolean) rfl (z_narZ (Or.inl rfl)) d_Reader_readMoves_80 ⟨hn30, _, rfl, Or.inl rfl⟩
          · refine zw_aload_n (pc := 38) (n := 0) (x := q) rfl d_Reader_readMoves_38 ?_
            refine zw_iconst (pc := 39) (v := 5) (by decide) d_Reader_readMoves_39 ?_
            refine zc_callV hn8 (pc := 40) [.int 5] [] l_Reader_41 (c_Reader_refuse l B N5 (hT.mod hn8) q hqB (hn8.k hqk) 5) rfl rfl hqk (by decide) (by decide) (Nat.le_of_ble_eq_true rfl) d_Reader_readMoves_40 (fun r50 N48 hq49 => ?_)
            obtain ⟨hk53, v52, rfl, zv52⟩ := hq49
            have hn51 : zMod B [(1, 2), (1, 3), (1, 4), (1, 5), (3, 2), (3, 3), (5, 6), (5, 7)] M N48 := hn8.call hk53 (by decide)
            show zW l m_Reader_readMoves (zn M + 0, zw M + 0) N48 43 [some (.ref q), some (.ref a0), some (.int u1), some (.int (zi N5 r4 2)), none] [.int v52] (zqZ B M [(1, 2), (1, 3), (1, 4), (1, 5), (3, 2), (3, 3), (5, 6), (5, 7)])
            exact zw_iret (S := []) (pc := 43) (ty := .boolean) rfl (z_narZ (zv52)) d_Reader_readMoves_43 ⟨hn51, _, rfl, zv52⟩
  exact lp_2 _ 0 M hm (Nat.lt_succ_self _)
set_option maxHeartbeats 4000000 in
theorem c_Tokens_isName (l : Launch) (B : Nat) (M : zMem) (hT : zTy B M) (q : Nat) (hqB : q < B) (hqk : (zsh M q).1 = 1 + 3) : zC l m_Tokens_isName 0 0 [.ref q] M (zqZ B M []) := by
  refine zC_of (L0 := [some (.ref q)]) md_Tokens_isName (Nat.le_of_ble_eq_true rfl) rfl ?_ zQ0
  have hm : zMod B [] M M := zMod.rf
  refine zw_aload_n (pc := 0) (n := 0) (x := q) rfl d_Tokens_isName_0 ?_
  refine zc_getI0 hm (pc := 1) (by decide) f_Tokens_44 rfl hqk d_Tokens_isName_1 ?_
  refine zw_iconst (pc := 4) (v := 1) (by decide) d_Tokens_isName_4 ?_
  refine zw_icmp_ne (pc := 5) (tgt := 48) (by decide) d_Tokens_isName_5 (fun hc_5 => ?_) (fun hc_5 => ?_)
  · refine zw_iconst (pc := 48) (v := 0) (by decide) d_Tokens_isName_48 ?_
    exact zw_iret (S := []) (pc := 49) (ty := .boolean) rfl (z_narZ (Or.inl rfl)) d_Tokens_isName_49 ⟨hm, _, rfl, Or.inl rfl⟩
  · refine zw_aload_n (pc := 8) (n := 0) (x := q) rfl d_Tokens_isName_8 ?_
    refine zw_ldcs (pc := 9) (i := 0) (List.mem_of_getElem? (i := 3) rfl) d_Tokens_isName_9 ?_
    refine zc_callV hm (pc := 11) [.ref (zK 0)] [] l_Tokens_87 (c_Tokens_isWord l B M (hT.mod hm) q hqB (hm.k hqk) 0 (by decide)) rfl rfl hqk (by decide) (by decide) (Nat.le_of_ble_eq_true rfl) d_Tokens_isName_11 (fun r3 N1 hq2 => ?_)
    obtain ⟨hk6, v5, rfl, zv5⟩ := hq2
    have hn4 : zMod B [] M N1 := hm.call hk6 (by decide)
    show zW l m_Tokens_isName (zn M + 0, zw M + 0) N1 14 [some (.ref q)] [.int v5] (zqZ B M [])
    refine zw_if_ne (pc := 14) (tgt := 48) (by decide) d_Tokens_isName_14 (fun hc_14 => ?_) (fun hc_14 => ?_)
    · refine zw_iconst (pc := 48) (v := 0) (by decide) d_Tokens_isName_48 ?_
      exact zw_iret (S := []) (pc := 49) (ty := .boolean) rfl (z_narZ (Or.inl rfl)) d_Tokens_isName_49 ⟨hn4, _, rfl, Or.inl rfl⟩
    · refine zw_aload_n (pc := 17) (n := 0) (x := q) rfl d_Tokens_isName_17 ?_
      refine zw_ldcs (pc := 18) (i := 1) (List.mem_of_getElem? (i := 4) rfl) d_Tokens_isName_18 ?_
      refine zc_callV hn4 (pc := 20) [.ref (zK 1)] [] l_Tokens_87 (c_Tokens_isWord l B N1 (hT.mod hn4) q hqB (hn4.k hqk) 1 (by decide)) rfl rfl hqk (by decide) (by decide) (Nat.le_of_ble_eq_true rfl) d_Tokens_isName_20 (fun r10 N8 hq9 => ?_)
      obtain ⟨hk13, v12, rfl, zv12⟩ := hq9
      have hn11 : zMod B [] M N8 := hn4.call hk13 (by decide)
      show zW l m_Tokens_isName (zn M + 0, zw M + 0) N8 23 [some (.ref q)] [.int v12] (zqZ B M [])
      refine zw_if_ne (pc := 23) (tgt := 48) (by decide) d_Tokens_isName_23 (fun hc_23 => ?_) (fun hc_23 => ?_)
      · refine zw_iconst (pc := 48) (v := 0) (by decide) d_Tokens_isName_48 ?_
        exact zw_iret (S := []) (pc := 49) (ty := .boolean) rfl (z_narZ (Or.inl rfl)) d_Tokens_isName_49 ⟨hn11, _, rfl, Or.inl rfl⟩
      · refine zw_aload_n (pc := 26) (n := 0) (x := q) rfl d_Tokens_isName_26 ?_
        refine zw_ldcs (pc := 27) (i := 2) (List.mem_of_getElem? (i := 5) rfl) d_Tokens_isName_27 ?_
        refine zc_callV hn11 (pc := 29) [.ref (zK 2)] [] l_Tokens_87 (c_Tokens_isWord l B N8 (hT.mod hn11) q hqB (hn11.k hqk) 2 (by decide)) rfl rfl hqk (by decide) (by decide) (Nat.le_of_ble_eq_true rfl) d_Tokens_isName_29 (fun r17 N15 hq16 => ?_)
        obtain ⟨hk20, v19, rfl, zv19⟩ := hq16
        have hn18 : zMod B [] M N15 := hn11.call hk20 (by decide)
        show zW l m_Tokens_isName (zn M + 0, zw M + 0) N15 32 [some (.ref q)] [.int v19] (zqZ B M [])
        refine zw_if_ne (pc := 32) (tgt := 48) (by decide) d_Tokens_isName_32 (fun hc_32 => ?_) (fun hc_32 => ?_)
        · refine zw_iconst (pc := 48) (v := 0) (by decide) d_Tokens_isName_48 ?_
          exact zw_iret (S := []) (pc := 49) (ty := .boolean) rfl (z_narZ (Or.inl rfl)) d_Tokens_isName_49 ⟨hn18, _, rfl, Or.inl rfl⟩
        · refine zw_aload_n (pc := 35) (n := 0) (x := q) rfl d_Tokens_isName_35 ?_
          refine zw_ldcs (pc := 36) (i := 3) (List.mem_of_getElem? (i := 6) rfl) d_Tokens_isName_36 ?_
          refine zc_callV hn18 (pc := 38) [.ref (zK 3)] [] l_Tokens_87 (c_Tokens_isWord l B N15 (hT.mod hn18) q hqB (hn18.k hqk) 3 (by decide)) rfl rfl hqk (by decide) (by decide) (Nat.le_of_ble_eq_true rfl) d_Tokens_isName_38 (fun r24 N22 hq23 => ?_)
          obtain ⟨hk27, v26, rfl, zv26⟩ := hq23
          have hn25 : zMod B [] M N22 := hn18.call hk27 (by decide)
          show zW l m_Tokens_isName (zn M + 0, zw M + 0) N22 41 [some (.ref q)] [.int v26] (zqZ B M [])
          refine zw_if_ne (pc := 41) (tgt := 48) (by decide) d_Tokens_isName_41 (fun hc_41 => ?_) (fun hc_41 => ?_)
          · refine zw_iconst (pc := 48) (v := 0) (by decide) d_Tokens_isName_48 ?_
            exact zw_iret (S := []) (pc := 49) (ty := .boolean) rfl (z_narZ (Or.inl rfl)) d_Tokens_isName_49 ⟨hn25, _, rfl, Or.inl rfl⟩
          · refine zw_iconst (pc := 44) (v := 1) (by decide) d_Tokens_isName_44 ?_
            refine zw_goto (pc := 45) (tgt := 49) (by decide) d_Tokens_isName_45 ?_
            exact zw_iret (S := []) (pc := 49) (ty := .boolean) rfl (z_narZ (Or.inr rfl)) d_Tokens_isName_49 ⟨hn25, _, rfl, Or.inr rfl⟩
set_option maxHeartbeats 4000000 in
theorem c_Troupe_nameOf (l : Launch) (B : Nat) (M : zMem) (hT : zTy B M) (q : Nat) (hqB : q < B) (hqk : (zsh M q).1 = 4 + 3) (x0 : Int32) : zC l m_Troupe_nameOf 0 0 [.ref q, .int x0] M (zqI B M []) := by
  refine zC_of (L0 := [some (.ref q), some (.int x0), none]) md_Troupe_nameOf (Nat.le_of_ble_eq_true rfl) rfl ?_ zQ0
  have hm : zMod B [] M M := zMod.rf
  refine zw_iconst (pc := 0) (v := 0) (by decide) d_Troupe_nameOf_0 ?_
  refine zw_istore_n (pc := 1) (i := 2) (L2 := [some (.ref q), some (.int x0), some (.int 0)]) rfl (by decide) rfl d_Troupe_nameOf_1 ?_
  have lp_2 : ∀ (n : Nat) (u1 : Int32) (N2 : zMem) (hn3 : zMod B [] M N2), zvu u1 (zi M q 6) < n → zW l m_Troupe_nameOf (zn M + 0, zw M + 0) N2 2 [some (.ref q), some (.int x0), some (.int u1)] [] (zqI B M []) := by
    intro n
    induction n with
    | zero =>
      intro u1 N2 hn3 h0
      exact absurd h0 (Nat.not_lt_zero _)
    | succ n ih_2 =>
      intro u1 N2 hn3 hlt_2
      refine zw_iload_n (pc := 2) (n := 2) (x := u1) rfl d_Troupe_nameOf_2 ?_
      refine zw_aload_n (pc := 3) (n := 0) (x := q) rfl d_Troupe_nameOf_3 ?_
      refine zc_getI0 hn3 (pc := 4) (by decide) f_Troupe_64 rfl hqk d_Troupe_nameOf_4 ?_
      refine zw_icmp_ge (pc := 7) (tgt := 30) (by decide) d_Troupe_nameOf_7 (fun hc_7 => ?_) (fun hc_7 => ?_)
      · refine zw_iconst (pc := 30) (v := (-1)) (by decide) d_Troupe_nameOf_30 ?_
        exact zw_iret (S := []) (pc := 31) (ty := .int) rfl rfl d_Troupe_nameOf_31 ⟨hn3, _, rfl⟩
      · refine zw_aload_n (pc := 10) (n := 0) (x := q) rfl d_Troupe_nameOf_10 ?_
        obtain ⟨r4, r4f, r4B, r4k⟩ := hT.1 q 4 5 hqB hqk (by decide) (by decide) rfl
        refine zc_getF hn3 (pc := 11) f_Troupe_57 rfl hqk r4f d_Troupe_nameOf_11 ?_
        refine zw_iload_n (pc := 14) (n := 2) (x := u1) rfl d_Troupe_nameOf_14 ?_
        refine zc_callV hn3 (pc := 15) [.int u1] [] l_Troupe_85 (c_IntRow_at l B N2 (hT.mod hn3) r4 r4B (hn3.k r4k) u1) rfl rfl r4k (by decide) (by decide) (Nat.le_of_ble_eq_true rfl) d_Troupe_nameOf_15 (fun r7 N5 hq6 => ?_)
        obtain ⟨hk10, v9, rfl⟩ := hq6
        have hn8 : zMod B [] M N5 := hn3.call hk10 (by decide)
        show zW l m_Troupe_nameOf (zn M + 0, zw M + 0) N5 18 [some (.ref q), some (.int x0), some (.int u1)] [.int v9] (zqI B M [])
        refine zw_iload_n (pc := 18) (n := 1) (x := x0) rfl d_Troupe_nameOf_18 ?_
        refine zw_icmp_ne (pc := 19) (tgt := 24) (by decide) d_Troupe_nameOf_19 (fun hc_19 => ?_) (fun hc_19 => ?_)
        · refine zw_iinc (pc := 24) (i := 2) (x := u1) (v := u1 + Int32.ofInt 1) (L2 := [some (.ref q), some (.int x0), some (.int (u1 + Int32.ofInt 1))]) rfl rfl (by decide) rfl d_Troupe_nameOf_24 ?_
          refine zw_goto (pc := 27) (tgt := 2) (by decide) d_Troupe_nameOf_27 ?_
          exact ih_2 (u1 + Int32.ofInt 1) N5 hn8 (Nat.lt_of_lt_of_le (z_up hc_7) (Nat.le_of_lt_succ hlt_2))
        · refine zw_iload_n (pc := 22) (n := 2) (x := u1) rfl d_Troupe_nameOf_22 ?_
          exact zw_iret (S := []) (pc := 23) (ty := .int) rfl rfl d_Troupe_nameOf_23 ⟨hn8, _, rfl⟩
  exact lp_2 _ 0 M hm (Nat.lt_succ_self _)
set_option maxHeartbeats 4000000 in
theorem c_Calc_begin (l : Launch) (B : Nat) (M : zMem) (hT : zTy B M) (q : Nat) (hqB : q < B) (hqk : (zsh M q).1 = 10 + 3) : zC l m_Calc_begin 0 0 [.ref q] M (zqV B M [(10, 2), (10, 3), (10, 4), (10, 5), (10, 6)]) := by
  refine zC_of (L0 := [some (.ref q)]) md_Calc_begin (Nat.le_of_ble_eq_true rfl) rfl ?_ zQ0
  have hm : zMod B [(10, 2), (10, 3), (10, 4), (10, 5), (10, 6)] M M := zMod.rf
  refine zw_aload_n (pc := 0) (n := 0) (x := q) rfl d_Calc_begin_0 ?_
  refine zw_iconst (pc := 1) (v := 0) (by decide) d_Calc_begin_1 ?_
  refine zc_putI hm (pc := 2) f_Calc_24 rfl rfl hqk hqB (by decide) rfl rfl d_Calc_begin_2 (fun N1 hN1 hn2 => ?_)
  refine zw_aload_n (pc := 5) (n := 0) (x := q) rfl d_Calc_begin_5 ?_
  refine zw_iconst (pc := 6) (v := 0) (by decide) d_Calc_begin_6 ?_
  refine zc_putI hn2 (pc := 7) f_Calc_28 rfl rfl hqk hqB (by decide) rfl rfl d_Calc_begin_7 (fun N3 hN3 hn4 => ?_)
  refine zw_aload_n (pc := 10) (n := 0) (x := q) rfl d_Calc_begin_10 ?_
  refine zw_iconst (pc := 11) (v := 0) (by decide) d_Calc_begin_11 ?_
  refine zc_putI hn4 (pc := 12) f_Calc_31 rfl rfl hqk hqB (by decide) rfl rfl d_Calc_begin_12 (fun N5 hN5 hn6 => ?_)
  refine zw_aload_n (pc := 15) (n := 0) (x := q) rfl d_Calc_begin_15 ?_
  refine zw_iconst (pc := 16) (v := 0) (by decide) d_Calc_begin_16 ?_
  refine zc_putI hn6 (pc := 17) f_Calc_34 rfl rfl hqk hqB (by decide) rfl rfl d_Calc_begin_17 (fun N7 hN7 hn8 => ?_)
  refine zw_aload_n (pc := 20) (n := 0) (x := q) rfl d_Calc_begin_20 ?_
  refine zw_iconst (pc := 21) (v := 0) (by decide) d_Calc_begin_21 ?_
  refine zc_putI hn8 (pc := 22) f_Calc_37 rfl rfl hqk hqB (by decide) (z_narZ (Or.inl rfl)) (z_fitZ (Or.inl rfl)) d_Calc_begin_22 (fun N9 hN9 hn10 => ?_)
  exact zw_vret (S := []) (pc := 25) rfl d_Calc_begin_25 ⟨hn10, rfl⟩
set_option maxHeartbeats 4000000 in
theorem c_Reader_countUnit (l : Launch) (B : Nat) (M : zMem) (hT : zTy B M) (q : Nat) (hqB : q < B) (hqk : (zsh M q).1 = 3 + 3) (a0 : Nat) (a0B : a0 < B) (a0k : (zsh M a0).1 = 10 + 3) : zC l m_Reader_countUnit 0 0 [.ref q, .ref a0] M (zqZ B M [(3, 1), (3, 2), (3, 3)]) := by
  refine zC_of (L0 := [some (.ref q), some (.ref a0)]) md_Reader_countUnit (Nat.le_of_ble_eq_true rfl) rfl ?_ zQ0
  have hm : zMod B [(3, 1), (3, 2), (3, 3)] M M := zMod.rf
  refine zw_aload_n (pc := 0) (n := 0) (x := q) rfl d_Reader_countUnit_0 ?_
  refine zc_getI hm (pc := 1) f_Reader_126 rfl hqk d_Reader_countUnit_1 ?_
  refine zw_bipush (pc := 4) (v := 30) (by decide) d_Reader_countUnit_4 ?_
  have j_18 : ∀ (N1 : zMem) (hn2 : zMod B [(3, 1), (3, 2), (3, 3)] M N1), zW l m_Reader_countUnit (zn M + 0, zw M + 0) N1 18 [some (.ref q), some (.ref a0)] [] (zqZ B M [(3, 1), (3, 2), (3, 3)]) := by
    intro N1 hn2
    refine zw_aload_n (pc := 18) (n := 0) (x := q) rfl d_Reader_countUnit_18 ?_
    refine zw_iconst (pc := 19) (v := 5) (by decide) d_Reader_countUnit_19 ?_
    refine zc_callV hn2 (pc := 20) [.int 5] [] l_Reader_41 (c_Reader_refuse l B N1 (hT.mod hn2) q hqB (hn2.k hqk) 5) rfl rfl hqk (by decide) (by decide) (Nat.le_of_ble_eq_true rfl) d_Reader_countUnit_20 (fun r5 N3 hq4 => ?_)
    obtain ⟨hk8, v7, rfl, zv7⟩ := hq4
    have hn6 : zMod B [(3, 1), (3, 2), (3, 3)] M N3 := hn2.call hk8 (by decide)
    show zW l m_Reader_countUnit (zn M + 0, zw M + 0) N3 23 [some (.ref q), some (.ref a0)] [.int v7] (zqZ B M [(3, 1), (3, 2), (3, 3)])
    exact zw_iret (S := []) (pc := 23) (ty := .boolean) rfl (z_narZ (zv7)) d_Reader_countUnit_23 ⟨hn6, _, rfl, zv7⟩
  refine zw_icmp_ge (pc := 6) (tgt := 18) (by decide) d_Reader_countUnit_6 (fun hc_6 => ?_) (fun hc_6 => ?_)
  · exact j_18 M hm
  · refine zw_aload_n (pc := 9) (n := 1) (x := a0) rfl d_Reader_countUnit_9 ?_
    refine zc_getI0 hm (pc := 10) (by decide) f_Reader_149 rfl a0k d_Reader_countUnit_10 ?_
    refine zw_bipush (pc := 13) (v := 6) (by decide) d_Reader_countUnit_13 ?_
    refine zw_icmp_le (pc := 15) (tgt := 24) (by decide) d_Reader_countUnit_15 (fun hc_15 => ?_) (fun hc_15 => ?_)
    · refine zw_aload_n (pc := 24) (n := 0) (x := q) rfl d_Reader_countUnit_24 ?_
      refine zw_dup (pc := 25) rfl d_Reader_countUnit_25 ?_
      refine zc_getI hm (pc := 26) f_Reader_126 rfl hqk d_Reader_countUnit_26 ?_
      refine zw_iconst (pc := 29) (v := 1) (by decide) d_Reader_countUnit_29 ?_
      refine zw_iadd (pc := 30) d_Reader_countUnit_30 ?_
      refine zc_putI hm (pc := 31) f_Reader_126 rfl rfl hqk hqB (by decide) rfl rfl d_Reader_countUnit_31 (fun N10 hN10 hn11 => ?_)
      refine zw_iconst (pc := 34) (v := 1) (by decide) d_Reader_countUnit_34 ?_
      exact zw_iret (S := []) (pc := 35) (ty := .boolean) rfl (z_narZ (Or.inr rfl)) d_Reader_countUnit_35 ⟨hn11, _, rfl, Or.inr rfl⟩
    · exact j_18 M hm
set_option maxHeartbeats 4000000 in
theorem c_Calc_pushSign (l : Launch) (B : Nat) (M : zMem) (hT : zTy B M) (q : Nat) (hqB : q < B) (hqk : (zsh M q).1 = 10 + 3) (x0 : Int32) : zC l m_Calc_pushSign 0 0 [.ref q, .int x0] M (zqV B M [(10, 2)]) := by
  refine zC_of (L0 := [some (.ref q), some (.int x0)]) md_Calc_pushSign (Nat.le_of_ble_eq_true rfl) rfl ?_ zQ0
  have hm : zMod B [(10, 2)] M M := zMod.rf
  refine zw_aload_n (pc := 0) (n := 0) (x := q) rfl d_Calc_pushSign_0 ?_
  refine zc_getI hm (pc := 1) f_Calc_24 rfl hqk d_Calc_pushSign_1 ?_
  refine zw_bipush (pc := 4) (v := 24) (by decide) d_Calc_pushSign_4 ?_
  refine zw_icmp_ge (pc := 6) (tgt := 31) (by decide) d_Calc_pushSign_6 (fun hc_6 => ?_) (fun hc_6 => ?_)
  · exact zw_vret (S := []) (pc := 31) rfl d_Calc_pushSign_31 ⟨hm, rfl⟩
  · refine zw_aload_n (pc := 9) (n := 0) (x := q) rfl d_Calc_pushSign_9 ?_
    obtain ⟨r1, r1f, r1B, r1k⟩ := hT.1 q 10 1 hqB hqk (by decide) (by decide) rfl
    refine zc_getF hm (pc := 10) f_Calc_14 rfl hqk r1f d_Calc_pushSign_10 ?_
    refine zw_aload_n (pc := 13) (n := 0) (x := q) rfl d_Calc_pushSign_13 ?_
    refine zc_getI hm (pc := 14) f_Calc_24 rfl hqk d_Calc_pushSign_14 ?_
    refine zw_iload_n (pc := 17) (n := 1) (x := x0) rfl d_Calc_pushSign_17 ?_
    refine zc_callV hm (pc := 18) [.int (zi M q 2), .int x0] [] l_Calc_47 (c_IntRow_put l B M (hT.mod hm) r1 r1B (hm.k r1k) (zi M q 2) x0) rfl rfl r1k (by decide) (by decide) (Nat.le_of_ble_eq_true rfl) d_Calc_pushSign_18 (fun r4 N2 hq3 => ?_)
    obtain ⟨hk7, rfl⟩ := hq3
    have hn5 : zMod B [(10, 2)] M N2 := hm.call hk7 (by decide)
    show zW l m_Calc_pushSign (zn M + 0, zw M + 0) N2 21 [some (.ref q), some (.int x0)] [] (zqV B M [(10, 2)])
    refine zw_aload_n (pc := 21) (n := 0) (x := q) rfl d_Calc_pushSign_21 ?_
    refine zw_dup (pc := 22) rfl d_Calc_pushSign_22 ?_
    refine zc_getI hn5 (pc := 23) f_Calc_24 rfl hqk d_Calc_pushSign_23 ?_
    refine zw_iconst (pc := 26) (v := 1) (by decide) d_Calc_pushSign_26 ?_
    refine zw_iadd (pc := 27) d_Calc_pushSign_27 ?_
    refine zc_putI hn5 (pc := 28) f_Calc_24 rfl rfl hqk hqB (by decide) rfl rfl d_Calc_pushSign_28 (fun N9 hN9 hn10 => ?_)
    exact zw_vret (S := []) (pc := 31) rfl d_Calc_pushSign_31 ⟨hn10, rfl⟩
set_option maxHeartbeats 4000000 in
theorem c_Calc_open (l : Launch) (B : Nat) (M : zMem) (hT : zTy B M) (q : Nat) (hqB : q < B) (hqk : (zsh M q).1 = 10 + 3) (x0 : Int32) : zC l m_Calc_open 0 0 [.ref q, .int x0] M (zqV B M [(10, 2), (10, 4), (10, 5)]) := by
  refine zC_of (L0 := [some (.ref q), some (.int x0)]) md_Calc_open (Nat.le_of_ble_eq_true rfl) rfl ?_ zQ0
  have hm : zMod B [(10, 2), (10, 4), (10, 5)] M M := zMod.rf
  refine zw_aload_n (pc := 0) (n := 0) (x := q) rfl d_Calc_open_0 ?_
  refine zw_iload_n (pc := 1) (n := 1) (x := x0) rfl d_Calc_open_1 ?_
  have j_12 : ∀ (u1 : Int32) (N2 : zMem) (hn3 : zMod B [(10, 2), (10, 4), (10, 5)] M N2), zW l m_Calc_open (zn M + 0, zw M + 0) N2 12 [some (.ref q), some (.int x0)] [.int u1, .ref q] (zqV B M [(10, 2), (10, 4), (10, 5)]) := by
    intro u1 N2 hn3
    refine zc_callV hn3 (pc := 12) [.int u1] [] l_Calc_55 (c_Calc_pushSign l B N2 (hT.mod hn3) q hqB (hn3.k hqk) u1) rfl rfl hqk (by decide) (by decide) (Nat.le_of_ble_eq_true rfl) d_Calc_open_12 (fun r6 N4 hq5 => ?_)
    obtain ⟨hk9, rfl⟩ := hq5
    have hn7 : zMod B [(10, 2), (10, 4), (10, 5)] M N4 := hn3.call hk9 (by decide)
    show zW l m_Calc_open (zn M + 0, zw M + 0) N4 15 [some (.ref q), some (.int x0)] [] (zqV B M [(10, 2), (10, 4), (10, 5)])
    refine zw_aload_n (pc := 15) (n := 0) (x := q) rfl d_Calc_open_15 ?_
    refine zw_dup (pc := 16) rfl d_Calc_open_16 ?_
    refine zc_getI hn7 (pc := 17) f_Calc_31 rfl hqk d_Calc_open_17 ?_
    refine zw_iconst (pc := 20) (v := 1) (by decide) d_Calc_open_20 ?_
    refine zw_iadd (pc := 21) d_Calc_open_21 ?_
    refine zc_putI hn7 (pc := 22) f_Calc_31 rfl rfl hqk hqB (by decide) rfl rfl d_Calc_open_22 (fun N11 hN11 hn12 => ?_)
    refine zw_aload_n (pc := 25) (n := 0) (x := q) rfl d_Calc_open_25 ?_
    refine zw_dup (pc := 26) rfl d_Calc_open_26 ?_
    refine zc_getI hn12 (pc := 27) f_Calc_34 rfl hqk d_Calc_open_27 ?_
    refine zw_iload_n (pc := 30) (n := 1) (x := x0) rfl d_Calc_open_30 ?_
    refine zw_if_eq (pc := 31) (tgt := 38) (by decide) d_Calc_open_31 (fun hc_31 => ?_) (fun hc_31 => ?_)
    · refine zw_iconst (pc := 38) (v := 0) (by decide) d_Calc_open_38 ?_
      refine zw_iadd (pc := 39) d_Calc_open_39 ?_
      refine zc_putI hn12 (pc := 40) f_Calc_34 rfl rfl hqk hqB (by decide) rfl rfl d_Calc_open_40 (fun N13 hN13 hn14 => ?_)
      exact zw_vret (S := []) (pc := 43) rfl d_Calc_open_43 ⟨hn14, rfl⟩
    · refine zw_iconst (pc := 34) (v := 1) (by decide) d_Calc_open_34 ?_
      refine zw_goto (pc := 35) (tgt := 39) (by decide) d_Calc_open_35 ?_
      refine zw_iadd (pc := 39) d_Calc_open_39 ?_
      refine zc_putI hn12 (pc := 40) f_Calc_34 rfl rfl hqk hqB (by decide) rfl rfl d_Calc_open_40 (fun N15 hN15 hn16 => ?_)
      exact zw_vret (S := []) (pc := 43) rfl d_Calc_open_43 ⟨hn16, rfl⟩
  refine zw_if_eq (pc := 2) (tgt := 10) (by decide) d_Calc_open_2 (fun hc_2 => ?_) (fun hc_2 => ?_)
  · refine zw_bipush (pc := 10) (v := 126) (by decide) d_Calc_open_10 ?_
    exact j_12 126 M hm
  · refine zw_bipush (pc := 5) (v := 40) (by decide) d_Calc_open_5 ?_
    refine zw_goto (pc := 7) (tgt := 12) (by decide) d_Calc_open_7 ?_
    exact j_12 40 M hm
