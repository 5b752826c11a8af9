/-! methods of the landed part, walked by program -/
set_option maxHeartbeats 4000000 in
theorem c_Reader_readAhead (l : Launch) (B : Nat) (M : zMem) (hT : zTy B M) (q : Nat) (hqB : q < B) (hqk : (zsh M q).1 = 3 + 3) (a0 : Nat) (a0B : a0 < B) (a0k : (zsh M a0).1 = 10 + 3) : zC l m_Reader_readAhead 0 0 [.ref q, .ref a0] M (zqZ B M [(1, 2), (1, 3), (1, 4), (1, 5), (3, 1), (3, 2), (3, 3), (10, 2), (10, 4), (10, 5)]) := by
  refine zC_of (L0 := [some (.ref q), some (.ref a0), none, none]) md_Reader_readAhead (Nat.le_of_ble_eq_true rfl) rfl ?_ zQ0
  have hm : zMod B [(1, 2), (1, 3), (1, 4), (1, 5), (3, 1), (3, 2), (3, 3), (10, 2), (10, 4), (10, 5)] M M := zMod.rf
  refine zw_iconst (pc := 0) (v := 0) (by decide) d_Reader_readAhead_0 ?_
  refine zw_istore_n (pc := 1) (i := 2) (L2 := [some (.ref q), some (.ref a0), some (.int 0), none]) rfl (by decide) rfl d_Reader_readAhead_1 ?_
  have lp_2 : ∀ (n : Nat) (u1 : Int32) (N2 : zMem) (hn3 : zMod B [(1, 2), (1, 3), (1, 4), (1, 5), (3, 1), (3, 2), (3, 3), (10, 2), (10, 4), (10, 5)] M N2), zvq u1 30 < n → zW l m_Reader_readAhead (zn M + 0, zw M + 0) N2 2 [some (.ref q), some (.ref a0), some (.int u1), none] [] (zqZ B M [(1, 2), (1, 3), (1, 4), (1, 5), (3, 1), (3, 2), (3, 3), (10, 2), (10, 4), (10, 5)]) := by
    intro n
    induction n with
    | zero =>
      intro u1 N2 hn3 h0
      exact absurd h0 (Nat.not_lt_zero _)
    | succ n ih_2 =>
      intro u1 N2 hn3 hlt_2
      refine zw_iload_n (pc := 2) (n := 2) (x := u1) rfl d_Reader_readAhead_2 ?_
      refine zw_bipush (pc := 3) (v := 30) (by decide) d_Reader_readAhead_3 ?_
      refine zw_icmp_gt (pc := 5) (tgt := 64) (by decide) d_Reader_readAhead_5 (fun hc_5 => ?_) (fun hc_5 => ?_)
      · refine zw_aload_n (pc := 64) (n := 0) (x := q) rfl d_Reader_readAhead_64 ?_
        refine zw_iconst (pc := 65) (v := 5) (by decide) d_Reader_readAhead_65 ?_
        refine zc_callV hn3 (pc := 66) [.int 5] [] l_Reader_41 (c_Reader_refuse l B N2 (hT.mod hn3) q hqB (hn3.k hqk) 5) rfl rfl hqk (by decide) (by decide) (Nat.le_of_ble_eq_true rfl) d_Reader_readAhead_66 (fun r6 N4 hq5 => ?_)
        obtain ⟨hk9, v8, rfl, zv8⟩ := hq5
        have hn7 : zMod B [(1, 2), (1, 3), (1, 4), (1, 5), (3, 1), (3, 2), (3, 3), (10, 2), (10, 4), (10, 5)] M N4 := hn3.call hk9 (by decide)
        show zW l m_Reader_readAhead (zn M + 0, zw M + 0) N4 69 [some (.ref q), some (.ref a0), some (.int u1), none] [.int v8] (zqZ B M [(1, 2), (1, 3), (1, 4), (1, 5), (3, 1), (3, 2), (3, 3), (10, 2), (10, 4), (10, 5)])
        exact zw_iret (S := []) (pc := 69) (ty := .boolean) rfl (z_narZ (zv8)) d_Reader_readAhead_69 ⟨hn7, _, rfl, zv8⟩
      · refine zw_aload_n (pc := 8) (n := 0) (x := q) rfl d_Reader_readAhead_8 ?_
        obtain ⟨r11, r11f, r11B, r11k⟩ := hT.1 q 3 0 hqB hqk (by decide) (by decide) rfl
        refine zc_getF hn3 (pc := 9) f_Reader_15 rfl hqk r11f d_Reader_readAhead_9 ?_
        refine zw_bipush (pc := 12) (v := 40) (by decide) d_Reader_readAhead_12 ?_
        refine zc_callV hn3 (pc := 14) [.int 40] [] l_Reader_37 (c_Tokens_isSign l B N2 (hT.mod hn3) r11 r11B (hn3.k r11k) 40) rfl rfl r11k (by decide) (by decide) (Nat.le_of_ble_eq_true rfl) d_Reader_readAhead_14 (fun r14 N12 hq13 => ?_)
        obtain ⟨hk17, v16, rfl, zv16⟩ := hq13
        have hn15 : zMod B [(1, 2), (1, 3), (1, 4), (1, 5), (3, 1), (3, 2), (3, 3), (10, 2), (10, 4), (10, 5)] M N12 := hn3.call hk17 (by decide)
        show zW l m_Reader_readAhead (zn M + 0, zw M + 0) N12 17 [some (.ref q), some (.ref a0), some (.int u1), none] [.int v16] (zqZ B M [(1, 2), (1, 3), (1, 4), (1, 5), (3, 1), (3, 2), (3, 3), (10, 2), (10, 4), (10, 5)])
        refine zw_istore_n (pc := 17) (i := 3) (L2 := [some (.ref q), some (.ref a0), some (.int u1), some (.int v16)]) rfl (by decide) rfl d_Reader_readAhead_17 ?_
        refine zw_iload_n (pc := 18) (n := 3) (x := v16) rfl d_Reader_readAhead_18 ?_
        have j_36 : ∀ (N19 : zMem) (hn20 : zMod B [(1, 2), (1, 3), (1, 4), (1, 5), (3, 1), (3, 2), (3, 3), (10, 2), (10, 4), (10, 5)] M N19), zW l m_Reader_readAhead (zn M + 0, zw M + 0) N19 36 [some (.ref q), some (.ref a0), some (.int u1), some (.int v16)] [] (zqZ B M [(1, 2), (1, 3), (1, 4), (1, 5), (3, 1), (3, 2), (3, 3), (10, 2), (10, 4), (10, 5)]) := by
          intro N19 hn20
          refine zw_aload_n (pc := 36) (n := 0) (x := q) rfl d_Reader_readAhead_36 ?_
          refine zw_aload_n (pc := 37) (n := 1) (x := a0) rfl d_Reader_readAhead_37 ?_
          refine zc_callV hn20 (pc := 38) [.ref a0] [] l_Reader_152 (c_Reader_countUnit l B N19 (hT.mod hn20) q hqB (hn20.k hqk) a0 a0B (hn20.k a0k)) rfl rfl hqk (by decide) (by decide) (Nat.le_of_ble_eq_true rfl) d_Reader_readAhead_38 (fun r23 N21 hq22 => ?_)
          obtain ⟨hk26, v25, rfl, zv25⟩ := hq22
          have hn24 : zMod B [(1, 2), (1, 3), (1, 4), (1, 5), (3, 1), (3, 2), (3, 3), (10, 2), (10, 4), (10, 5)] M N21 := hn20.call hk26 (by decide)
          show zW l m_Reader_readAhead (zn M + 0, zw M + 0) N21 41 [some (.ref q), some (.ref a0), some (.int u1), some (.int v16)] [.int v25] (zqZ B M [(1, 2), (1, 3), (1, 4), (1, 5), (3, 1), (3, 2), (3, 3), (10, 2), (10, 4), (10, 5)])
          refine zw_if_ne (pc := 41) (tgt := 46) (by decide) d_Reader_readAhead_41 (fun hc_41 => ?_) (fun hc_41 => ?_)
          · refine zw_aload_n (pc := 46) (n := 1) (x := a0) rfl d_Reader_readAhead_46 ?_
            refine zw_iload_n (pc := 47) (n := 3) (x := v16) rfl d_Reader_readAhead_47 ?_
            refine zc_callV hn24 (pc := 48) [.int v16] [] l_Reader_155 (c_Calc_open l B N21 (hT.mod hn24) a0 a0B (hn24.k a0k) v16) rfl rfl a0k (by decide) (by decide) (Nat.le_of_ble_eq_true rfl) d_Reader_readAhead_48 (fun r30 N28 hq29 => ?_)
            obtain ⟨hk33, rfl⟩ := hq29
            have hn31 : zMod B [(1, 2), (1, 3), (1, 4), (1, 5), (3, 1), (3, 2), (3, 3), (10, 2), (10, 4), (10, 5)] M N28 := hn24.call hk33 (by decide)
            show zW l m_Reader_readAhead (zn M + 0, zw M + 0) N28 51 [some (.ref q), some (.ref a0), some (.int u1), some (.int v16)] [] (zqZ B M [(1, 2), (1, 3), (1, 4), (1, 5), (3, 1), (3, 2), (3, 3), (10, 2), (10, 4), (10, 5)])
            refine zw_aload_n (pc := 51) (n := 0) (x := q) rfl d_Reader_readAhead_51 ?_
            refine zc_getF hn31 (pc := 52) f_Reader_15 rfl hqk r11f d_Reader_readAhead_52 ?_
            refine zc_callV hn31 (pc := 55) [] [] l_Reader_44 (c_Tokens_step l B N28 (hT.mod hn31) r11 r11B (hn31.k r11k)) rfl rfl r11k (by decide) (by decide) (Nat.le_of_ble_eq_true rfl) d_Reader_readAhead_55 (fun r37 N35 hq36 => ?_)
            obtain ⟨hk40, rfl⟩ := hq36
            have hn38 : zMod B [(1, 2), (1, 3), (1, 4), (1, 5), (3, 1), (3, 2), (3, 3), (10, 2), (10, 4), (10, 5)] M N35 := hn31.call hk40 (by decide)
            show zW l m_Reader_readAhead (zn M + 0, zw M + 0) N35 58 [some (.ref q), some (.ref a0), some (.int u1), some (.int v16)] [] (zqZ B M [(1, 2), (1, 3), (1, 4), (1, 5), (3, 1), (3, 2), (3, 3), (10, 2), (10, 4), (10, 5)])
            refine zw_iinc (pc := 58) (i := 2) (x := u1) (v := u1 + Int32.ofInt 1) (L2 := [some (.ref q), some (.ref a0), some (.int (u1 + Int32.ofInt 1)), some (.int v16)]) rfl rfl (by decide) rfl d_Reader_readAhead_58 ?_
            refine zw_goto (pc := 61) (tgt := 2) (by decide) d_Reader_readAhead_61 ?_
            refine zW_le [some (.ref q), some (.ref a0), some (.int (u1 + Int32.ofInt 1)), none] (⟨rfl, rfl, rfl, trivial⟩) ?_
            exact ih_2 (u1 + Int32.ofInt 1) N35 hn38 (Nat.lt_of_lt_of_le (z_upq (by decide) hc_5) (Nat.le_of_lt_succ hlt_2))
          · refine zw_iconst (pc := 44) (v := 0) (by decide) d_Reader_readAhead_44 ?_
            exact zw_iret (S := []) (pc := 45) (ty := .boolean) rfl (z_narZ (Or.inl rfl)) d_Reader_readAhead_45 ⟨hn24, _, rfl, Or.inl rfl⟩
        refine zw_if_ne (pc := 19) (tgt := 36) (by decide) d_Reader_readAhead_19 (fun hc_19 => ?_) (fun hc_19 => ?_)
        · exact j_36 N12 hn15
        · refine zw_aload_n (pc := 22) (n := 0) (x := q) rfl d_Reader_readAhead_22 ?_
          refine zc_getF hn15 (pc := 23) f_Reader_15 rfl hqk r11f d_Reader_readAhead_23 ?_
          refine zw_bipush (pc := 26) (v := 45) (by decide) d_Reader_readAhead_26 ?_
          refine zc_callV hn15 (pc := 28) [.int 45] [] l_Reader_37 (c_Tokens_isSign l B N12 (hT.mod hn15) r11 r11B (hn15.k r11k) 45) rfl rfl r11k (by decide) (by decide) (Nat.le_of_ble_eq_true rfl) d_Reader_readAhead_28 (fun r44 N42 hq43 => ?_)
          obtain ⟨hk47, v46, rfl, zv46⟩ := hq43
          have hn45 : zMod B [(1, 2), (1, 3), (1, 4), (1, 5), (3, 1), (3, 2), (3, 3), (10, 2), (10, 4), (10, 5)] M N42 := hn15.call hk47 (by decide)
          show zW l m_Reader_readAhead (zn M + 0, zw M + 0) N42 31 [some (.ref q), some (.ref a0), some (.int u1), some (.int v16)] [.int v46] (zqZ B M [(1, 2), (1, 3), (1, 4), (1, 5), (3, 1), (3, 2), (3, 3), (10, 2), (10, 4), (10, 5)])
          refine zw_if_ne (pc := 31) (tgt := 36) (by decide) d_Reader_readAhead_31 (fun hc_31 => ?_) (fun hc_31 => ?_)
          · exact j_36 N42 hn45
          · refine zw_iconst (pc := 34) (v := 1) (by decide) d_Reader_readAhead_34 ?_
            exact zw_iret (S := []) (pc := 35) (ty := .boolean) rfl (z_narZ (Or.inr rfl)) d_Reader_readAhead_35 ⟨hn45, _, rfl, Or.inr rfl⟩
  exact lp_2 _ 0 M hm (Nat.lt_succ_self _)
set_option maxHeartbeats 4000000 in
theorem c_Calc_topShelf (l : Launch) (B : Nat) (M : zMem) (hT : zTy B M) (q : Nat) (hqB : q < B) (hqk : (zsh M q).1 = 10 + 3) : zC l m_Calc_topShelf 0 0 [.ref q] M (zqI B M []) := by
  refine zC_of (L0 := [some (.ref q)]) md_Calc_topShelf (Nat.le_of_ble_eq_true rfl) rfl ?_ zQ0
  have hm : zMod B [] M M := zMod.rf
  refine zw_bipush (pc := 0) (v := 21) (by decide) d_Calc_topShelf_0 ?_
  refine zw_aload_n (pc := 2) (n := 0) (x := q) rfl d_Calc_topShelf_2 ?_
  refine zc_getI0 hm (pc := 3) (by decide) f_Calc_28 rfl hqk d_Calc_topShelf_3 ?_
  refine zw_iadd (pc := 6) d_Calc_topShelf_6 ?_
  refine zw_iconst (pc := 7) (v := 1) (by decide) d_Calc_topShelf_7 ?_
  refine zw_isub (pc := 8) d_Calc_topShelf_8 ?_
  exact zw_iret (S := []) (pc := 9) (ty := .int) rfl rfl d_Calc_topShelf_9 ⟨hm, _, rfl⟩
set_option maxHeartbeats 4000000 in
theorem c_Calc_nextShelf (l : Launch) (B : Nat) (M : zMem) (hT : zTy B M) (q : Nat) (hqB : q < B) (hqk : (zsh M q).1 = 10 + 3) : zC l m_Calc_nextShelf 0 0 [.ref q] M (zqI B M [(10, 3)]) := by
  refine zC_of (L0 := [some (.ref q)]) md_Calc_nextShelf (Nat.le_of_ble_eq_true rfl) rfl ?_ zQ0
  have hm : zMod B [(10, 3)] M M := zMod.rf
  refine zw_aload_n (pc := 0) (n := 0) (x := q) rfl d_Calc_nextShelf_0 ?_
  refine zc_getI hm (pc := 1) f_Calc_28 rfl hqk d_Calc_nextShelf_1 ?_
  refine zw_bipush (pc := 4) (v := 18) (by decide) d_Calc_nextShelf_4 ?_
  have j_19 : ∀ (N1 : zMem) (hn2 : zMod B [(10, 3)] M N1), zW l m_Calc_nextShelf (zn M + 0, zw M + 0) N1 19 [some (.ref q)] [] (zqI B M [(10, 3)]) := by
    intro N1 hn2
    refine zw_aload_n (pc := 19) (n := 0) (x := q) rfl d_Calc_nextShelf_19 ?_
    refine zc_callV hn2 (pc := 20) [] [] l_Calc_43 (c_Calc_topShelf l B N1 (hT.mod hn2) q hqB (hn2.k hqk)) rfl rfl hqk (by decide) (by decide) (Nat.le_of_ble_eq_true rfl) d_Calc_nextShelf_20 (fun r5 N3 hq4 => ?_)
    obtain ⟨hk8, v7, rfl⟩ := hq4
    have hn6 : zMod B [(10, 3)] M N3 := hn2.call hk8 (by decide)
    show zW l m_Calc_nextShelf (zn M + 0, zw M + 0) N3 23 [some (.ref q)] [.int v7] (zqI B M [(10, 3)])
    exact zw_iret (S := []) (pc := 23) (ty := .int) rfl rfl d_Calc_nextShelf_23 ⟨hn6, _, rfl⟩
  refine zw_icmp_ge (pc := 6) (tgt := 19) (by decide) d_Calc_nextShelf_6 (fun hc_6 => ?_) (fun hc_6 => ?_)
  · exact j_19 M hm
  · refine zw_aload_n (pc := 9) (n := 0) (x := q) rfl d_Calc_nextShelf_9 ?_
    refine zw_dup (pc := 10) rfl d_Calc_nextShelf_10 ?_
    refine zc_getI hm (pc := 11) f_Calc_28 rfl hqk d_Calc_nextShelf_11 ?_
    refine zw_iconst (pc := 14) (v := 1) (by decide) d_Calc_nextShelf_14 ?_
    refine zw_iadd (pc := 15) d_Calc_nextShelf_15 ?_
    refine zc_putI hm (pc := 16) f_Calc_28 rfl rfl hqk hqB (by decide) rfl rfl d_Calc_nextShelf_16 (fun N10 hN10 hn11 => ?_)
    exact j_19 N10 hn11
set_option maxHeartbeats 4000000 in
theorem c_LongRow_at (l : Launch) (B : Nat) (M : zMem) (hT : zTy B M) (q : Nat) (hqB : q < B) (hqk : (zsh M q).1 = 8 + 3) (x0 : Int32) : zC l m_LongRow_at 0 0 [.ref q, .int x0] M (zqJ B M []) := by
  refine zC_of (L0 := [some (.ref q), some (.int x0)]) md_LongRow_at (Nat.le_of_ble_eq_true rfl) rfl ?_ zQ0
  have hm : zMod B [] M M := zMod.rf
  refine zw_iload_n (pc := 0) (n := 1) (x := x0) rfl d_LongRow_at_0 ?_
  refine zw_if_lt (pc := 1) (tgt := 22) (by decide) d_LongRow_at_1 (fun hc_1 => ?_) (fun hc_1 => ?_)
  · refine zw_lconst (pc := 22) (v := 0) (by decide) d_LongRow_at_22 ?_
    exact zw_lret (S := []) (pc := 23) rfl d_LongRow_at_23 ⟨hm, _, rfl⟩
  · refine zw_iload_n (pc := 4) (n := 1) (x := x0) rfl d_LongRow_at_4 ?_
    refine zw_aload_n (pc := 5) (n := 0) (x := q) rfl d_LongRow_at_5 ?_
    obtain ⟨r1, r1f, r1B, r1k⟩ := hT.1 q 8 0 hqB hqk (by decide) (by decide) rfl
    refine zc_getF hm (pc := 6) f_LongRow_13 rfl hqk r1f d_LongRow_at_6 ?_
    refine zc_alenJ hm (pc := 9) r1k d_LongRow_at_9 ?_
    refine zw_icmp_ge (pc := 10) (tgt := 22) (by decide) d_LongRow_at_10 (fun hc_10 => ?_) (fun hc_10 => ?_)
    · refine zw_lconst (pc := 22) (v := 0) (by decide) d_LongRow_at_22 ?_
      exact zw_lret (S := []) (pc := 23) rfl d_LongRow_at_23 ⟨hm, _, rfl⟩
    · refine zw_aload_n (pc := 13) (n := 0) (x := q) rfl d_LongRow_at_13 ?_
      refine zc_getF hm (pc := 14) f_LongRow_13 rfl hqk r1f d_LongRow_at_14 ?_
      refine zw_iload_n (pc := 17) (n := 1) (x := x0) rfl d_LongRow_at_17 ?_
      refine zc_lald hm (pc := 18) r1k (z_vin hc_1 hc_10 (hT.2 r1 r1B)) d_LongRow_at_18 ?_
      refine zw_goto (pc := 19) (tgt := 23) (by decide) d_LongRow_at_19 ?_
      exact zw_lret (S := []) (pc := 23) rfl d_LongRow_at_23 ⟨hm, _, rfl⟩
set_option maxHeartbeats 4000000 in
theorem c_Sums_copy (l : Launch) (B : Nat) (M : zMem) (hT : zTy B M) (q : Nat) (hqB : q < B) (hqk : (zsh M q).1 = 7 + 3) (x0 : Int32) (x1 : Int32) : zC l m_Sums_copy 0 0 [.ref q, .int x0, .int x1] M (zqV B M []) := by
  refine zC_of (L0 := [some (.ref q), some (.int x0), some (.int x1), none]) md_Sums_copy (Nat.le_of_ble_eq_true rfl) rfl ?_ zQ0
  have hm : zMod B [] M M := zMod.rf
  refine zw_iconst (pc := 0) (v := 0) (by decide) d_Sums_copy_0 ?_
  refine zw_istore_n (pc := 1) (i := 3) (L2 := [some (.ref q), some (.int x0), some (.int x1), some (.int 0)]) rfl (by decide) rfl d_Sums_copy_1 ?_
  obtain ⟨r4, r4f, r4B, r4k⟩ := hT.1 q 7 0 hqB hqk (by decide) (by decide) rfl
  have lp_2 : ∀ (n : Nat) (u1 : Int32) (N2 : zMem) (hn3 : zMod B [] M N2), zvu u1 (zi M r4 7) < n → zW l m_Sums_copy (zn M + 0, zw M + 0) N2 2 [some (.ref q), some (.int x0), some (.int x1), some (.int u1)] [] (zqV B M []) := by
    intro n
    induction n with
    | zero =>
      intro u1 N2 hn3 h0
      exact absurd h0 (Nat.not_lt_zero _)
    | succ n ih_2 =>
      intro u1 N2 hn3 hlt_2
      refine zw_iload_n (pc := 2) (n := 3) (x := u1) rfl d_Sums_copy_2 ?_
      refine zw_aload_n (pc := 3) (n := 0) (x := q) rfl d_Sums_copy_3 ?_
      refine zc_getF hn3 (pc := 4) f_Sums_23 rfl hqk r4f d_Sums_copy_4 ?_
      refine zc_getI0 hn3 (pc := 7) (by decide) f_Sums_35 rfl r4k d_Sums_copy_7 ?_
      refine zw_icmp_ge (pc := 10) (tgt := 45) (by decide) d_Sums_copy_10 (fun hc_10 => ?_) (fun hc_10 => ?_)
      · exact zw_vret (S := []) (pc := 45) rfl d_Sums_copy_45 ⟨hn3, rfl⟩
      · refine zw_aload_n (pc := 13) (n := 0) (x := q) rfl d_Sums_copy_13 ?_
        obtain ⟨r5, r5f, r5B, r5k⟩ := hT.1 q 7 1 hqB hqk (by decide) (by decide) rfl
        refine zc_getF hn3 (pc := 14) f_Sums_16 rfl hqk r5f d_Sums_copy_14 ?_
        refine zw_iload_n (pc := 17) (n := 2) (x := x1) rfl d_Sums_copy_17 ?_
        refine zw_bipush (pc := 18) (v := 27) (by decide) d_Sums_copy_18 ?_
        refine zw_imul (pc := 20) d_Sums_copy_20 ?_
        refine zw_iload_n (pc := 21) (n := 3) (x := u1) rfl d_Sums_copy_21 ?_
        refine zw_iadd (pc := 22) d_Sums_copy_22 ?_
        refine zw_aload_n (pc := 23) (n := 0) (x := q) rfl d_Sums_copy_23 ?_
        refine zc_getF hn3 (pc := 24) f_Sums_16 rfl hqk r5f d_Sums_copy_24 ?_
        refine zw_iload_n (pc := 27) (n := 1) (x := x0) rfl d_Sums_copy_27 ?_
        refine zw_bipush (pc := 28) (v := 27) (by decide) d_Sums_copy_28 ?_
        refine zw_imul (pc := 30) d_Sums_copy_30 ?_
        refine zw_iload_n (pc := 31) (n := 3) (x := u1) rfl d_Sums_copy_31 ?_
        refine zw_iadd (pc := 32) d_Sums_copy_32 ?_
        refine zc_callV hn3 (pc := 33) [.int ((x0 * 27) + u1)] [.int ((x1 * 27) + u1), .ref r5] l_Sums_27 (c_LongRow_at l B N2 (hT.mod hn3) r5 r5B (hn3.k r5k) ((x0 * 27) + u1)) rfl rfl r5k (by decide) (by decide) (Nat.le_of_ble_eq_true rfl) d_Sums_copy_33 (fun r8 N6 hq7 => ?_)
        obtain ⟨hk11, v10, rfl⟩ := hq7
        have hn9 : zMod B [] M N6 := hn3.call hk11 (by decide)
        show zW l m_Sums_copy (zn M + 0, zw M + 0) N6 36 [some (.ref q), some (.int x0), some (.int x1), some (.int u1)] [.long v10, .int ((x1 * 27) + u1), .ref r5] (zqV B M [])
        refine zc_callV hn9 (pc := 36) [.int ((x1 * 27) + u1), .long v10] [] l_Sums_31 (c_LongRow_put l B N6 (hT.mod hn9) r5 r5B (hn9.k r5k) ((x1 * 27) + u1) v10) rfl rfl r5k (by decide) (by decide) (Nat.le_of_ble_eq_true rfl) d_Sums_copy_36 (fun r15 N13 hq14 => ?_)
        obtain ⟨hk18, rfl⟩ := hq14
        have hn16 : zMod B [] M N13 := hn9.call hk18 (by decide)
        show zW l m_Sums_copy (zn M + 0, zw M + 0) N13 39 [some (.ref q), some (.int x0), some (.int x1), some (.int u1)] [] (zqV B M [])
        refine zw_iinc (pc := 39) (i := 3) (x := u1) (v := u1 + Int32.ofInt 1) (L2 := [some (.ref q), some (.int x0), some (.int x1), some (.int (u1 + Int32.ofInt 1))]) rfl rfl (by decide) rfl d_Sums_copy_39 ?_
        refine zw_goto (pc := 42) (tgt := 2) (by decide) d_Sums_copy_42 ?_
        exact ih_2 (u1 + Int32.ofInt 1) N13 hn16 (Nat.lt_of_lt_of_le (z_up hc_10) (Nat.le_of_lt_succ hlt_2))
  exact lp_2 _ 0 M hm (Nat.lt_succ_self _)
set_option maxHeartbeats 4000000 in
theorem c_Calc_pushNamed (l : Launch) (B : Nat) (M : zMem) (hT : zTy B M) (q : Nat) (hqB : q < B) (hqk : (zsh M q).1 = 10 + 3) (x0 : Int32) : zC l m_Calc_pushNamed 0 0 [.ref q, .int x0] M (zqV B M [(10, 3)]) := by
  refine zC_of (L0 := [some (.ref q), some (.int x0)]) md_Calc_pushNamed (Nat.le_of_ble_eq_true rfl) rfl ?_ zQ0
  have hm : zMod B [(10, 3)] M M := zMod.rf
  refine zw_aload_n (pc := 0) (n := 0) (x := q) rfl d_Calc_pushNamed_0 ?_
  obtain ⟨r1, r1f, r1B, r1k⟩ := hT.1 q 10 0 hqB hqk (by decide) (by decide) rfl
  refine zc_getF hm (pc := 1) f_Calc_20 rfl hqk r1f d_Calc_pushNamed_1 ?_
  refine zw_iconst (pc := 4) (v := 1) (by decide) d_Calc_pushNamed_4 ?_
  refine zw_iload_n (pc := 5) (n := 1) (x := x0) rfl d_Calc_pushNamed_5 ?_
  refine zw_iadd (pc := 6) d_Calc_pushNamed_6 ?_
  refine zw_aload_n (pc := 7) (n := 0) (x := q) rfl d_Calc_pushNamed_7 ?_
  refine zc_callV hm (pc := 8) [] [.int (1 + x0), .ref r1] l_Calc_58 (c_Calc_nextShelf l B M (hT.mod hm) q hqB (hm.k hqk)) rfl rfl hqk (by decide) (by decide) (Nat.le_of_ble_eq_true rfl) d_Calc_pushNamed_8 (fun r4 N2 hq3 => ?_)
  obtain ⟨hk7, v6, rfl⟩ := hq3
  have hn5 : zMod B [(10, 3)] M N2 := hm.call hk7 (by decide)
  show zW l m_Calc_pushNamed (zn M + 0, zw M + 0) N2 11 [some (.ref q), some (.int x0)] [.int v6, .int (1 + x0), .ref r1] (zqV B M [(10, 3)])
  refine zc_callV hn5 (pc := 11) [.int (1 + x0), .int v6] [] l_Calc_65 (c_Sums_copy l B N2 (hT.mod hn5) r1 r1B (hn5.k r1k) (1 + x0) v6) rfl rfl r1k (by decide) (by decide) (Nat.le_of_ble_eq_true rfl) d_Calc_pushNamed_11 (fun r11 N9 hq10 => ?_)
  obtain ⟨hk14, rfl⟩ := hq10
  have hn12 : zMod B [(10, 3)] M N9 := hn5.call hk14 (by decide)
  show zW l m_Calc_pushNamed (zn M + 0, zw M + 0) N9 14 [some (.ref q), some (.int x0)] [] (zqV B M [(10, 3)])
  exact zw_vret (S := []) (pc := 14) rfl d_Calc_pushNamed_14 ⟨hn12, rfl⟩
set_option maxHeartbeats 4000000 in
theorem c_Reader_readNamed (l : Launch) (B : Nat) (M : zMem) (hT : zTy B M) (q : Nat) (hqB : q < B) (hqk : (zsh M q).1 = 3 + 3) (a0 : Nat) (a0B : a0 < B) (a0k : (zsh M a0).1 = 4 + 3) : zC l m_Reader_readNamed 0 0 [.ref q, .ref a0] M (zqZ B M [(3, 1), (3, 2), (3, 3), (10, 3)]) := by
  refine zC_of (L0 := [some (.ref q), some (.ref a0), none]) md_Reader_readNamed (Nat.le_of_ble_eq_true rfl) rfl ?_ zQ0
  have hm : zMod B [(3, 1), (3, 2), (3, 3), (10, 3)] M M := zMod.rf
  refine zw_aload_n (pc := 0) (n := 0) (x := q) rfl d_Reader_readNamed_0 ?_
  obtain ⟨r1, r1f, r1B, r1k⟩ := hT.1 q 3 0 hqB hqk (by decide) (by decide) rfl
  refine zc_getF hm (pc := 1) f_Reader_15 rfl hqk r1f d_Reader_readNamed_1 ?_
  refine zc_callV hm (pc := 4) [] [] l_Reader_101 (c_Tokens_isName l B M (hT.mod hm) r1 r1B (hm.k r1k)) rfl rfl r1k (by decide) (by decide) (Nat.le_of_ble_eq_true rfl) d_Reader_readNamed_4 (fun r4 N2 hq3 => ?_)
  obtain ⟨hk7, v6, rfl, zv6⟩ := hq3
  have hn5 : zMod B [(3, 1), (3, 2), (3, 3), (10, 3)] M N2 := hm.call hk7 (by decide)
  show zW l m_Reader_readNamed (zn M + 0, zw M + 0) N2 7 [some (.ref q), some (.ref a0), none] [.int v6] (zqZ B M [(3, 1), (3, 2), (3, 3), (10, 3)])
  refine zw_if_ne (pc := 7) (tgt := 16) (by decide) d_Reader_readNamed_7 (fun hc_7 => ?_) (fun hc_7 => ?_)
  · refine zw_aload_n (pc := 16) (n := 1) (x := a0) rfl d_Reader_readNamed_16 ?_
    refine zw_aload_n (pc := 17) (n := 0) (x := q) rfl d_Reader_readNamed_17 ?_
    refine zc_getF hn5 (pc := 18) f_Reader_15 rfl hqk r1f d_Reader_readNamed_18 ?_
    refine zc_getI0 hn5 (pc := 21) (by decide) f_Reader_57 rfl r1k d_Reader_readNamed_21 ?_
    refine zc_callV hn5 (pc := 24) [.int (zi M r1 5)] [] l_Reader_104 (c_Troupe_nameOf l B N2 (hT.mod hn5) a0 a0B (hn5.k a0k) (zi M r1 5)) rfl rfl a0k (by decide) (by decide) (Nat.le_of_ble_eq_true rfl) d_Reader_readNamed_24 (fun r11 N9 hq10 => ?_)
    obtain ⟨hk14, v13, rfl⟩ := hq10
    have hn12 : zMod B [(3, 1), (3, 2), (3, 3), (10, 3)] M N9 := hn5.call hk14 (by decide)
    show zW l m_Reader_readNamed (zn M + 0, zw M + 0) N9 27 [some (.ref q), some (.ref a0), none] [.int v13] (zqZ B M [(3, 1), (3, 2), (3, 3), (10, 3)])
    refine zw_istore_n (pc := 27) (i := 2) (L2 := [some (.ref q), some (.ref a0), some (.int v13)]) rfl (by decide) rfl d_Reader_readNamed_27 ?_
    refine zw_iload_n (pc := 28) (n := 2) (x := v13) rfl d_Reader_readNamed_28 ?_
    refine zw_iconst (pc := 29) (v := (-1)) (by decide) d_Reader_readNamed_29 ?_
    refine zw_icmp_ne (pc := 30) (tgt := 39) (by decide) d_Reader_readNamed_30 (fun hc_30 => ?_) (fun hc_30 => ?_)
    · refine zw_aload_n (pc := 39) (n := 0) (x := q) rfl d_Reader_readNamed_39 ?_
      refine zw_aload_n (pc := 40) (n := 1) (x := a0) rfl d_Reader_readNamed_40 ?_
      obtain ⟨r16, r16f, r16B, r16k⟩ := hT.1 a0 4 4 a0B a0k (by decide) (by decide) rfl
      refine zc_getF hn12 (pc := 41) f_Reader_111 rfl a0k r16f d_Reader_readNamed_41 ?_
      refine zc_callV hn12 (pc := 44) [.ref r16] [] l_Reader_152 (c_Reader_countUnit l B N9 (hT.mod hn12) q hqB (hn12.k hqk) r16 r16B (hn12.k r16k)) rfl rfl hqk (by decide) (by decide) (Nat.le_of_ble_eq_true rfl) d_Reader_readNamed_44 (fun r19 N17 hq18 => ?_)
      obtain ⟨hk22, v21, rfl, zv21⟩ := hq18
      have hn20 : zMod B [(3, 1), (3, 2), (3, 3), (10, 3)] M N17 := hn12.call hk22 (by decide)
      show zW l m_Reader_readNamed (zn M + 0, zw M + 0) N17 47 [some (.ref q), some (.ref a0), some (.int v13)] [.int v21] (zqZ B M [(3, 1), (3, 2), (3, 3), (10, 3)])
      refine zw_if_ne (pc := 47) (tgt := 52) (by decide) d_Reader_readNamed_47 (fun hc_47 => ?_) (fun hc_47 => ?_)
      · refine zw_aload_n (pc := 52) (n := 1) (x := a0) rfl d_Reader_readNamed_52 ?_
        refine zc_getF hn20 (pc := 53) f_Reader_111 rfl a0k r16f d_Reader_readNamed_53 ?_
        refine zw_iload_n (pc := 56) (n := 2) (x := v13) rfl d_Reader_readNamed_56 ?_
        refine zc_callV hn20 (pc := 57) [.int v13] [] l_Reader_176 (c_Calc_pushNamed l B N17 (hT.mod hn20) r16 r16B (hn20.k r16k) v13) rfl rfl r16k (by decide) (by decide) (Nat.le_of_ble_eq_true rfl) d_Reader_readNamed_57 (fun r26 N24 hq25 => ?_)
        obtain ⟨hk29, rfl⟩ := hq25
        have hn27 : zMod B [(3, 1), (3, 2), (3, 3), (10, 3)] M N24 := hn20.call hk29 (by decide)
        show zW l m_Reader_readNamed (zn M + 0, zw M + 0) N24 60 [some (.ref q), some (.ref a0), some (.int v13)] [] (zqZ B M [(3, 1), (3, 2), (3, 3), (10, 3)])
        refine zw_iconst (pc := 60) (v := 1) (by decide) d_Reader_readNamed_60 ?_
        exact zw_iret (S := []) (pc := 61) (ty := .boolean) rfl (z_narZ (Or.inr rfl)) d_Reader_readNamed_61 ⟨hn27, _, rfl, Or.inr rfl⟩
      · refine zw_iconst (pc := 50) (v := 0) (by decide) d_Reader_readNamed_50 ?_
        exact zw_iret (S := []) (pc := 51) (ty := .boolean) rfl (z_narZ (Or.inl rfl)) d_Reader_readNamed_51 ⟨hn20, _, rfl, Or.inl rfl⟩
    · refine zw_aload_n (pc := 33) (n := 0) (x := q) rfl d_Reader_readNamed_33 ?_
      refine zw_iconst (pc := 34) (v := 3) (by decide) d_Reader_readNamed_34 ?_
      refine zc_callV hn12 (pc := 35) [.int 3] [] l_Reader_41 (c_Reader_refuse l B N9 (hT.mod hn12) q hqB (hn12.k hqk) 3) rfl rfl hqk (by decide) (by decide) (Nat.le_of_ble_eq_true rfl) d_Reader_readNamed_35 (fun r33 N31 hq32 => ?_)
      obtain ⟨hk36, v35, rfl, zv35⟩ := hq32
      have hn34 : zMod B [(3, 1), (3, 2), (3, 3), (10, 3)] M N31 := hn12.call hk36 (by decide)
      show zW l m_Reader_readNamed (zn M + 0, zw M + 0) N31 38 [some (.ref q), some (.ref a0), some (.int v13)] [.int v35] (zqZ B M [(3, 1), (3, 2), (3, 3), (10, 3)])
      exact zw_iret (S := []) (pc := 38) (ty := .boolean) rfl (z_narZ (zv35)) d_Reader_readNamed_38 ⟨hn34, _, rfl, zv35⟩
  · refine zw_aload_n (pc := 10) (n := 0) (x := q) rfl d_Reader_readNamed_10 ?_
    refine zw_iconst (pc := 11) (v := 2) (by decide) d_Reader_readNamed_11 ?_
    refine zc_callV hn5 (pc := 12) [.int 2] [] l_Reader_41 (c_Reader_refuse l B N2 (hT.mod hn5) q hqB (hn5.k hqk) 2) rfl rfl hqk (by decide) (by decide) (Nat.le_of_ble_eq_true rfl) d_Reader_readNamed_12 (fun r40 N38 hq39 => ?_)
    obtain ⟨hk43, v42, rfl, zv42⟩ := hq39
    have hn41 : zMod B [(3, 1), (3, 2), (3, 3), (10, 3)] M N38 := hn5.call hk43 (by decide)
    show zW l m_Reader_readNamed (zn M + 0, zw M + 0) N38 15 [some (.ref q), some (.ref a0), none] [.int v42] (zqZ B M [(3, 1), (3, 2), (3, 3), (10, 3)])
    exact zw_iret (S := []) (pc := 15) (ty := .boolean) rfl (z_narZ (zv42)) d_Reader_readNamed_15 ⟨hn41, _, rfl, zv42⟩
set_option maxHeartbeats 4000000 in
theorem c_Calc_pushSingle (l : Launch) (B : Nat) (M : zMem) (hT : zTy B M) (q : Nat) (hqB : q < B) (hqk : (zsh M q).1 = 10 + 3) (x0 : Int32) (x1 : Int32) : zC l m_Calc_pushSingle 0 0 [.ref q, .int x0, .int x1] M (zqV B M [(10, 3)]) := by
  refine zC_of (L0 := [some (.ref q), some (.int x0), some (.int x1)]) md_Calc_pushSingle (Nat.le_of_ble_eq_true rfl) rfl ?_ zQ0
  have hm : zMod B [(10, 3)] M M := zMod.rf
  refine zw_aload_n (pc := 0) (n := 0) (x := q) rfl d_Calc_pushSingle_0 ?_
  obtain ⟨r1, r1f, r1B, r1k⟩ := hT.1 q 10 0 hqB hqk (by decide) (by decide) rfl
  refine zc_getF hm (pc := 1) f_Calc_20 rfl hqk r1f d_Calc_pushSingle_1 ?_
  refine zw_aload_n (pc := 4) (n := 0) (x := q) rfl d_Calc_pushSingle_4 ?_
  refine zc_callV hm (pc := 5) [] [.ref r1] l_Calc_58 (c_Calc_nextShelf l B M (hT.mod hm) q hqB (hm.k hqk)) rfl rfl hqk (by decide) (by decide) (Nat.le_of_ble_eq_true rfl) d_Calc_pushSingle_5 (fun r4 N2 hq3 => ?_)
  obtain ⟨hk7, v6, rfl⟩ := hq3
  have hn5 : zMod B [(10, 3)] M N2 := hm.call hk7 (by decide)
  show zW l m_Calc_pushSingle (zn M + 0, zw M + 0) N2 8 [some (.ref q), some (.int x0), some (.int x1)] [.int v6, .ref r1] (zqV B M [(10, 3)])
  refine zw_iload_n (pc := 8) (n := 1) (x := x0) rfl d_Calc_pushSingle_8 ?_
  refine zw_iload_n (pc := 9) (n := 2) (x := x1) rfl d_Calc_pushSingle_9 ?_
  refine zw_i2l (pc := 10) d_Calc_pushSingle_10 ?_
  refine zc_callV hn5 (pc := 11) [.int v6, .int x0, .long ((x1 : Int32).toInt64)] [] l_Calc_61 (c_Sums_putSingle l B N2 (hT.mod hn5) r1 r1B (hn5.k r1k) v6 x0 ((x1 : Int32).toInt64)) rfl rfl r1k (by decide) (by decide) (Nat.le_of_ble_eq_true rfl) d_Calc_pushSingle_11 (fun r11 N9 hq10 => ?_)
  obtain ⟨hk14, rfl⟩ := hq10
  have hn12 : zMod B [(10, 3)] M N9 := hn5.call hk14 (by decide)
  show zW l m_Calc_pushSingle (zn M + 0, zw M + 0) N9 14 [some (.ref q), some (.int x0), some (.int x1)] [] (zqV B M [(10, 3)])
  exact zw_vret (S := []) (pc := 14) rfl d_Calc_pushSingle_14 ⟨hn12, rfl⟩
set_option maxHeartbeats 4000000 in
theorem c_Reader_readOperand (l : Launch) (B : Nat) (M : zMem) (hT : zTy B M) (q : Nat) (hqB : q < B) (hqk : (zsh M q).1 = 3 + 3) (a0 : Nat) (a0B : a0 < B) (a0k : (zsh M a0).1 = 4 + 3) : zC l m_Reader_readOperand 0 0 [.ref q, .ref a0] M (zqZ B M [(1, 2), (1, 3), (1, 4), (1, 5), (3, 1), (3, 2), (3, 3), (10, 3)]) := by
  refine zC_of (L0 := [some (.ref q), some (.ref a0), none, none, none]) md_Reader_readOperand (Nat.le_of_ble_eq_true rfl) rfl ?_ zQ0
  have hm : zMod B [(1, 2), (1, 3), (1, 4), (1, 5), (3, 1), (3, 2), (3, 3), (10, 3)] M M := zMod.rf
  refine zw_aload_n (pc := 0) (n := 1) (x := a0) rfl d_Reader_readOperand_0 ?_
  obtain ⟨r1, r1f, r1B, r1k⟩ := hT.1 a0 4 4 a0B a0k (by decide) (by decide) rfl
  refine zc_getF hm (pc := 1) f_Reader_111 rfl a0k r1f d_Reader_readOperand_1 ?_
  refine zw_astore_n (pc := 4) (i := 2) (L2 := [some (.ref q), some (.ref a0), some (.ref r1), none, none]) rfl (by decide) rfl d_Reader_readOperand_4 ?_
  refine zw_aload_n (pc := 5) (n := 1) (x := a0) rfl d_Reader_readOperand_5 ?_
  obtain ⟨r2, r2f, r2B, r2k⟩ := hT.1 a0 4 1 a0B a0k (by decide) (by decide) rfl
  refine zc_getF hm (pc := 6) f_Reader_158 rfl a0k r2f d_Reader_readOperand_6 ?_
  refine zc_getI0 hm (pc := 9) (by decide) f_Reader_162 rfl r2k d_Reader_readOperand_9 ?_
  refine zw_iconst (pc := 12) (v := 1) (by decide) d_Reader_readOperand_12 ?_
  refine zw_isub (pc := 13) d_Reader_readOperand_13 ?_
  refine zw_istore_n (pc := 14) (i := 3) (L2 := [some (.ref q), some (.ref a0), some (.ref r1), some (.int ((zi M r2 7) - 1)), none]) rfl (by decide) rfl d_Reader_readOperand_14 ?_
  refine zw_aload_n (pc := 15) (n := 0) (x := q) rfl d_Reader_readOperand_15 ?_
  obtain ⟨r3, r3f, r3B, r3k⟩ := hT.1 q 3 0 hqB hqk (by decide) (by decide) rfl
  refine zc_getF hm (pc := 16) f_Reader_15 rfl hqk r3f d_Reader_readOperand_16 ?_
  refine zc_callV hm (pc := 19) [] [] l_Reader_53 (c_Tokens_isNumber l B M (hT.mod hm) r3 r3B (hm.k r3k)) rfl rfl r3k (by decide) (by decide) (Nat.le_of_ble_eq_true rfl) d_Reader_readOperand_19 (fun r6 N4 hq5 => ?_)
  obtain ⟨hk9, v8, rfl, zv8⟩ := hq5
  have hn7 : zMod B [(1, 2), (1, 3), (1, 4), (1, 5), (3, 1), (3, 2), (3, 3), (10, 3)] M N4 := hm.call hk9 (by decide)
  show zW l m_Reader_readOperand (zn M + 0, zw M + 0) N4 22 [some (.ref q), some (.ref a0), some (.ref r1), some (.int ((zi M r2 7) - 1)), none] [.int v8] (zqZ B M [(1, 2), (1, 3), (1, 4), (1, 5), (3, 1), (3, 2), (3, 3), (10, 3)])
  refine zw_istore (pc := 22) (i := 4) (L2 := [some (.ref q), some (.ref a0), some (.ref r1), some (.int ((zi M r2 7) - 1)), some (.int v8)]) (by decide) rfl d_Reader_readOperand_22 ?_
  refine zw_iload (pc := 24) (i := 4) (x := v8) rfl d_Reader_readOperand_24 ?_
  have j_133 : ∀ (N11 : zMem) (hn12 : zMod B [(1, 2), (1, 3), (1, 4), (1, 5), (3, 1), (3, 2), (3, 3), (10, 3)] M N11), zW l m_Reader_readOperand (zn M + 0, zw M + 0) N11 133 [some (.ref q), some (.ref a0), some (.ref r1), some (.int ((zi M r2 7) - 1)), some (.int v8)] [] (zqZ B M [(1, 2), (1, 3), (1, 4), (1, 5), (3, 1), (3, 2), (3, 3), (10, 3)]) := by
    intro N11 hn12
    refine zw_aload_n (pc := 133) (n := 0) (x := q) rfl d_Reader_readOperand_133 ?_
    refine zc_getF hn12 (pc := 134) f_Reader_15 rfl hqk r3f d_Reader_readOperand_134 ?_
    refine zc_callV hn12 (pc := 137) [] [] l_Reader_44 (c_Tokens_step l B N11 (hT.mod hn12) r3 r3B (hn12.k r3k)) rfl rfl r3k (by decide) (by decide) (Nat.le_of_ble_eq_true rfl) d_Reader_readOperand_137 (fun r15 N13 hq14 => ?_)
    obtain ⟨hk18, rfl⟩ := hq14
    have hn16 : zMod B [(1, 2), (1, 3), (1, 4), (1, 5), (3, 1), (3, 2), (3, 3), (10, 3)] M N13 := hn12.call hk18 (by decide)
    show zW l m_Reader_readOperand (zn M + 0, zw M + 0) N13 140 [some (.ref q), some (.ref a0), some (.ref r1), some (.int ((zi M r2 7) - 1)), some (.int v8)] [] (zqZ B M [(1, 2), (1, 3), (1, 4), (1, 5), (3, 1), (3, 2), (3, 3), (10, 3)])
    refine zw_iconst (pc := 140) (v := 1) (by decide) d_Reader_readOperand_140 ?_
    exact zw_iret (S := []) (pc := 141) (ty := .boolean) rfl (z_narZ (Or.inr rfl)) d_Reader_readOperand_141 ⟨hn16, _, rfl, Or.inr rfl⟩
  have j_51 : ∀ (N20 : zMem) (hn21 : zMod B [(1, 2), (1, 3), (1, 4), (1, 5), (3, 1), (3, 2), (3, 3), (10, 3)] M N20), zW l m_Reader_readOperand (zn M + 0, zw M + 0) N20 51 [some (.ref q), some (.ref a0), some (.ref r1), some (.int ((zi M r2 7) - 1)), some (.int v8)] [] (zqZ B M [(1, 2), (1, 3), (1, 4), (1, 5), (3, 1), (3, 2), (3, 3), (10, 3)]) := by
    intro N20 hn21
    refine zw_aload_n (pc := 51) (n := 0) (x := q) rfl d_Reader_readOperand_51 ?_
    refine zw_aload_n (pc := 52) (n := 2) (x := r1) rfl d_Reader_readOperand_52 ?_
    refine zc_callV hn21 (pc := 53) [.ref r1] [] l_Reader_152 (c_Reader_countUnit l B N20 (hT.mod hn21) q hqB (hn21.k hqk) r1 r1B (hn21.k r1k)) rfl rfl hqk (by decide) (by decide) (Nat.le_of_ble_eq_true rfl) d_Reader_readOperand_53 (fun r24 N22 hq23 => ?_)
    obtain ⟨hk27, v26, rfl, zv26⟩ := hq23
    have hn25 : zMod B [(1, 2), (1, 3), (1, 4), (1, 5), (3, 1), (3, 2), (3, 3), (10, 3)] M N22 := hn21.call hk27 (by decide)
    show zW l m_Reader_readOperand (zn M + 0, zw M + 0) N22 56 [some (.ref q), some (.ref a0), some (.ref r1), some (.int ((zi M r2 7) - 1)), some (.int v8)] [.int v26] (zqZ B M [(1, 2), (1, 3), (1, 4), (1, 5), (3, 1), (3, 2), (3, 3), (10, 3)])
    refine zw_if_ne (pc := 56) (tgt := 61) (by decide) d_Reader_readOperand_56 (fun hc_56 => ?_) (fun hc_56 => ?_)
    · refine zw_iload (pc := 61) (i := 4) (x := v8) rfl d_Reader_readOperand_61 ?_
      refine zw_if_eq (pc := 63) (tgt := 81) (by decide) d_Reader_readOperand_63 (fun hc_63 => ?_) (fun hc_63 => ?_)
      · refine zw_aload_n (pc := 81) (n := 0) (x := q) rfl d_Reader_readOperand_81 ?_
        refine zc_getF hn25 (pc := 82) f_Reader_15 rfl hqk r3f d_Reader_readOperand_82 ?_
        refine zc_callV hn25 (pc := 85) [] [] l_Reader_44 (c_Tokens_step l B N22 (hT.mod hn25) r3 r3B (hn25.k r3k)) rfl rfl r3k (by decide) (by decide) (Nat.le_of_ble_eq_true rfl) d_Reader_readOperand_85 (fun r31 N29 hq30 => ?_)
        obtain ⟨hk34, rfl⟩ := hq30
        have hn32 : zMod B [(1, 2), (1, 3), (1, 4), (1, 5), (3, 1), (3, 2), (3, 3), (10, 3)] M N29 := hn25.call hk34 (by decide)
        show zW l m_Reader_readOperand (zn M + 0, zw M + 0) N29 88 [some (.ref q), some (.ref a0), some (.ref r1), some (.int ((zi M r2 7) - 1)), some (.int v8)] [] (zqZ B M [(1, 2), (1, 3), (1, 4), (1, 5), (3, 1), (3, 2), (3, 3), (10, 3)])
        refine zw_aload_n (pc := 88) (n := 0) (x := q) rfl d_Reader_readOperand_88 ?_
        refine zc_getF hn32 (pc := 89) f_Reader_15 rfl hqk r3f d_Reader_readOperand_89 ?_
        refine zc_callV hn32 (pc := 92) [] [] l_Reader_53 (c_Tokens_isNumber l B N29 (hT.mod hn32) r3 r3B (hn32.k r3k)) rfl rfl r3k (by decide) (by decide) (Nat.le_of_ble_eq_true rfl) d_Reader_readOperand_92 (fun r38 N36 hq37 => ?_)
        obtain ⟨hk41, v40, rfl, zv40⟩ := hq37
        have hn39 : zMod B [(1, 2), (1, 3), (1, 4), (1, 5), (3, 1), (3, 2), (3, 3), (10, 3)] M N36 := hn32.call hk41 (by decide)
        show zW l m_Reader_readOperand (zn M + 0, zw M + 0) N36 95 [some (.ref q), some (.ref a0), some (.ref r1), some (.int ((zi M r2 7) - 1)), some (.int v8)] [.int v40] (zqZ B M [(1, 2), (1, 3), (1, 4), (1, 5), (3, 1), (3, 2), (3, 3), (10, 3)])
        refine zw_if_ne (pc := 95) (tgt := 104) (by decide) d_Reader_readOperand_95 (fun hc_95 => ?_) (fun hc_95 => ?_)
        · refine zw_aload_n (pc := 104) (n := 0) (x := q) rfl d_Reader_readOperand_104 ?_
          refine zc_getF hn39 (pc := 105) f_Reader_15 rfl hqk r3f d_Reader_readOperand_105 ?_
          refine zc_getI hn39 (pc := 108) f_Reader_57 rfl r3k d_Reader_readOperand_108 ?_
          refine zw_iload_n (pc := 111) (n := 3) (x := (zi M r2 7) - 1) rfl d_Reader_readOperand_111 ?_
          refine zw_icmp_le (pc := 112) (tgt := 121) (by decide) d_Reader_readOperand_112 (fun hc_112 => ?_) (fun hc_112 => ?_)
          · refine zw_aload_n (pc := 121) (n := 2) (x := r1) rfl d_Reader_readOperand_121 ?_
            refine zw_aload_n (pc := 122) (n := 0) (x := q) rfl d_Reader_readOperand_122 ?_
            refine zc_getF hn39 (pc := 123) f_Reader_15 rfl hqk r3f d_Reader_readOperand_123 ?_
            refine zc_getI hn39 (pc := 126) f_Reader_57 rfl r3k d_Reader_readOperand_126 ?_
            refine zw_iconst (pc := 129) (v := 1) (by decide) d_Reader_readOperand_129 ?_
            refine zc_callV hn39 (pc := 130) [.int (zi N36 r3 5), .int 1] [] l_Reader_172 (c_Calc_pushSingle l B N36 (hT.mod hn39) r1 r1B (hn39.k r1k) (zi N36 r3 5) 1) rfl rfl r1k (by decide) (by decide) (Nat.le_of_ble_eq_true rfl) d_Reader_readOperand_130 (fun r45 N43 hq44 => ?_)
            obtain ⟨hk48, rfl⟩ := hq44
            have hn46 : zMod B [(1, 2), (1, 3), (1, 4), (1, 5), (3, 1), (3, 2), (3, 3), (10, 3)] M N43 := hn39.call hk48 (by decide)
            show zW l m_Reader_readOperand (zn M + 0, zw M + 0) N43 133 [some (.ref q), some (.ref a0), some (.ref r1), some (.int ((zi M r2 7) - 1)), some (.int v8)] [] (zqZ B M [(1, 2), (1, 3), (1, 4), (1, 5), (3, 1), (3, 2), (3, 3), (10, 3)])
            exact j_133 N43 hn46
          · refine zw_aload_n (pc := 115) (n := 0) (x := q) rfl d_Reader_readOperand_115 ?_
            refine zw_iconst (pc := 116) (v := 4) (by decide) d_Reader_readOperand_116 ?_
            refine zc_callV hn39 (pc := 117) [.int 4] [] l_Reader_41 (c_Reader_refuse l B N36 (hT.mod hn39) q hqB (hn39.k hqk) 4) rfl rfl hqk (by decide) (by decide) (Nat.le_of_ble_eq_true rfl) d_Reader_readOperand_117 (fun r52 N50 hq51 => ?_)
            obtain ⟨hk55, v54, rfl, zv54⟩ := hq51
            have hn53 : zMod B [(1, 2), (1, 3), (1, 4), (1, 5), (3, 1), (3, 2), (3, 3), (10, 3)] M N50 := hn39.call hk55 (by decide)
            show zW l m_Reader_readOperand (zn M + 0, zw M + 0) N50 120 [some (.ref q), some (.ref a0), some (.ref r1), some (.int ((zi M r2 7) - 1)), some (.int v8)] [.int v54] (zqZ B M [(1, 2), (1, 3), (1, 4), (1, 5), (3, 1), (3, 2), (3, 3), (10, 3)])
            exact zw_iret (S := []) (pc := 120) (ty := .boolean) rfl (z_narZ (zv54)) d_Reader_readOperand_120 ⟨hn53, _, rfl, zv54⟩
        · refine zw_aload_n (pc := 98) (n := 0) (x := q) rfl d_Reader_readOperand_98 ?_
          refine zw_iconst (pc := 99) (v := 2) (by decide) d_Reader_readOperand_99 ?_
          refine zc_callV hn39 (pc := 100) [.int 2] [] l_Reader_41 (c_Reader_refuse l B N36 (hT.mod hn39) q hqB (hn39.k hqk) 2) rfl rfl hqk (by decide) (by decide) (Nat.le_of_ble_eq_true rfl) d_Reader_readOperand_100 (fun r59 N57 hq58 => ?_)
          obtain ⟨hk62, v61, rfl, zv61⟩ := hq58
          have hn60 : zMod B [(1, 2), (1, 3), (1, 4), (1, 5), (3, 1), (3, 2), (3, 3), (10, 3)] M N57 := hn39.call hk62 (by decide)
          show zW l m_Reader_readOperand (zn M + 0, zw M + 0) N57 103 [some (.ref q), some (.ref a0), some (.ref r1), some (.int ((zi M r2 7) - 1)), some (.int v8)] [.int v61] (zqZ B M [(1, 2), (1, 3), (1, 4), (1, 5), (3, 1), (3, 2), (3, 3), (10, 3)])
          exact zw_iret (S := []) (pc := 103) (ty := .boolean) rfl (z_narZ (zv61)) d_Reader_readOperand_103 ⟨hn60, _, rfl, zv61⟩
      · refine zw_aload_n (pc := 66) (n := 2) (x := r1) rfl d_Reader_readOperand_66 ?_
        refine zw_iload_n (pc := 67) (n := 3) (x := (zi M r2 7) - 1) rfl d_Reader_readOperand_67 ?_
        refine zw_aload_n (pc := 68) (n := 0) (x := q) rfl d_Reader_readOperand_68 ?_
        refine zc_getF hn25 (pc := 69) f_Reader_15 rfl hqk r3f d_Reader_readOperand_69 ?_
        refine zc_getI hn25 (pc := 72) f_Reader_57 rfl r3k d_Reader_readOperand_72 ?_
        refine zc_callV hn25 (pc := 75) [.int ((zi M r2 7) - 1), .int (zi N22 r3 5)] [] l_Reader_172 (c_Calc_pushSingle l B N22 (hT.mod hn25) r1 r1B (hn25.k r1k) ((zi M r2 7) - 1) (zi N22 r3 5)) rfl rfl r1k (by decide) (by decide) (Nat.le_of_ble_eq_true rfl) d_Reader_readOperand_75 (fun r66 N64 hq65 => ?_)
        obtain ⟨hk69, rfl⟩ := hq65
        have hn67 : zMod B [(1, 2), (1, 3), (1, 4), (1, 5), (3, 1), (3, 2), (3, 3), (10, 3)] M N64 := hn25.call hk69 (by decide)
        show zW l m_Reader_readOperand (zn M + 0, zw M + 0) N64 78 [some (.ref q), some (.ref a0), some (.ref r1), some (.int ((zi M r2 7) - 1)), some (.int v8)] [] (zqZ B M [(1, 2), (1, 3), (1, 4), (1, 5), (3, 1), (3, 2), (3, 3), (10, 3)])
        refine zw_goto (pc := 78) (tgt := 133) (by decide) d_Reader_readOperand_78 ?_
        exact j_133 N64 hn67
    · refine zw_iconst (pc := 59) (v := 0) (by decide) d_Reader_readOperand_59 ?_
      exact zw_iret (S := []) (pc := 60) (ty := .boolean) rfl (z_narZ (Or.inl rfl)) d_Reader_readOperand_60 ⟨hn25, _, rfl, Or.inl rfl⟩
  refine zw_if_ne (pc := 26) (tgt := 51) (by decide) d_Reader_readOperand_26 (fun hc_26 => ?_) (fun hc_26 => ?_)
  · exact j_51 N4 hn7
  · refine zw_aload_n (pc := 29) (n := 0) (x := q) rfl d_Reader_readOperand_29 ?_
    refine zc_getF hn7 (pc := 30) f_Reader_15 rfl hqk r3f d_Reader_readOperand_30 ?_
    refine zw_ldcs (pc := 33) (i := 3) (List.mem_of_getElem? (i := 7) rfl) d_Reader_readOperand_33 ?_
    refine zc_callV hn7 (pc := 35) [.ref (zK 3)] [] l_Reader_49 (c_Tokens_isWord l B N4 (hT.mod hn7) r3 r3B (hn7.k r3k) 3 (by decide)) rfl rfl r3k (by decide) (by decide) (Nat.le_of_ble_eq_true rfl) d_Reader_readOperand_35 (fun r73 N71 hq72 => ?_)
    obtain ⟨hk76, v75, rfl, zv75⟩ := hq72
    have hn74 : zMod B [(1, 2), (1, 3), (1, 4), (1, 5), (3, 1), (3, 2), (3, 3), (10, 3)] M N71 := hn7.call hk76 (by decide)
    show zW l m_Reader_readOperand (zn M + 0, zw M + 0) N71 38 [some (.ref q), some (.ref a0), some (.ref r1), some (.int ((zi M r2 7) - 1)), some (.int v8)] [.int v75] (zqZ B M [(1, 2), (1, 3), (1, 4), (1, 5), (3, 1), (3, 2), (3, 3), (10, 3)])
    refine zw_if_ne (pc := 38) (tgt := 51) (by decide) d_Reader_readOperand_38 (fun hc_38 => ?_) (fun hc_38 => ?_)
    · exact j_51 N71 hn74
    · refine zw_aload_n (pc := 41) (n := 0) (x := q) rfl d_Reader_readOperand_41 ?_
      refine zw_aload_n (pc := 42) (n := 1) (x := a0) rfl d_Reader_readOperand_42 ?_
      refine zc_callV hn74 (pc := 43) [.ref a0] [] l_Reader_169 (c_Reader_readNamed l B N71 (hT.mod hn74) q hqB (hn74.k hqk) a0 a0B (hn74.k a0k)) rfl rfl hqk (by decide) (by decide) (Nat.le_of_ble_eq_true rfl) d_Reader_readOperand_43 (fun r80 N78 hq79 => ?_)
      obtain ⟨hk83, v82, rfl, zv82⟩ := hq79
      have hn81 : zMod B [(1, 2), (1, 3), (1, 4), (1, 5), (3, 1), (3, 2), (3, 3), (10, 3)] M N78 := hn74.call hk83 (by decide)
      show zW l m_Reader_readOperand (zn M + 0, zw M + 0) N78 46 [some (.ref q), some (.ref a0), some (.ref r1), some (.int ((zi M r2 7) - 1)), some (.int v8)] [.int v82] (zqZ B M [(1, 2), (1, 3), (1, 4), (1, 5), (3, 1), (3, 2), (3, 3), (10, 3)])
      refine zw_if_ne (pc := 46) (tgt := 133) (by decide) d_Reader_readOperand_46 (fun hc_46 => ?_) (fun hc_46 => ?_)
      · exact j_133 N78 hn81
      · refine zw_iconst (pc := 49) (v := 0) (by decide) d_Reader_readOperand_49 ?_
        exact zw_iret (S := []) (pc := 50) (ty := .boolean) rfl (z_narZ (Or.inl rfl)) d_Reader_readOperand_50 ⟨hn81, _, rfl, Or.inl rfl⟩
set_option maxHeartbeats 4000000 in
theorem c_Sums_markOf (l : Launch) (B : Nat) (M : zMem) (hT : zTy B M) (q : Nat) (hqB : q < B) (hqk : (zsh M q).1 = 7 + 3) (x0 : Int32) (x1 : Int32) : zC l m_Sums_markOf 0 0 [.ref q, .int x0, .int x1] M (zqJ B M []) := by
  refine zC_of (L0 := [some (.ref q), some (.int x0), some (.int x1), none, none, none]) md_Sums_markOf (Nat.le_of_ble_eq_true rfl) rfl ?_ zQ0
  have hm : zMod B [] M M := zMod.rf
  refine zw_lconst (pc := 0) (v := 0) (by decide) d_Sums_markOf_0 ?_
  refine zw_lstore_n (pc := 1) (i := 3) (L2 := [some (.ref q), some (.int x0), some (.int x1), some (.long 0), none, none]) rfl (by decide) rfl d_Sums_markOf_1 ?_
  refine zw_iconst (pc := 2) (v := 0) (by decide) d_Sums_markOf_2 ?_
  refine zw_istore (pc := 3) (i := 5) (L2 := [some (.ref q), some (.int x0), some (.int x1), some (.long 0), none, some (.int 0)]) (by decide) rfl d_Sums_markOf_3 ?_
  obtain ⟨r5, r5f, r5B, r5k⟩ := hT.1 q 7 0 hqB hqk (by decide) (by decide) rfl
  have lp_5 : ∀ (n : Nat) (u1 : Int64) (u2 : Int32) (N3 : zMem) (hn4 : zMod B [] M N3), zvu u2 (zi M r5 7) < n → zW l m_Sums_markOf (zn M + 0, zw M + 0) N3 5 [some (.ref q), some (.int x0), some (.int x1), some (.long u1), none, some (.int u2)] [] (zqJ B M []) := by
    intro n
    induction n with
    | zero =>
      intro u1 u2 N3 hn4 h0
      exact absurd h0 (Nat.not_lt_zero _)
    | succ n ih_5 =>
      intro u1 u2 N3 hn4 hlt_5
      refine zw_iload (pc := 5) (i := 5) (x := u2) rfl d_Sums_markOf_5 ?_
      refine zw_aload_n (pc := 7) (n := 0) (x := q) rfl d_Sums_markOf_7 ?_
      refine zc_getF hn4 (pc := 8) f_Sums_23 rfl hqk r5f d_Sums_markOf_8 ?_
      refine zc_getI0 hn4 (pc := 11) (by decide) f_Sums_35 rfl r5k d_Sums_markOf_11 ?_
      refine zw_icmp_ge (pc := 14) (tgt := 59) (by decide) d_Sums_markOf_14 (fun hc_14 => ?_) (fun hc_14 => ?_)
      · refine zw_lload_n (pc := 59) (n := 3) (x := u1) rfl d_Sums_markOf_59 ?_
        exact zw_lret (S := []) (pc := 60) rfl d_Sums_markOf_60 ⟨hn4, _, rfl⟩
      · refine zw_lload_n (pc := 17) (n := 3) (x := u1) rfl d_Sums_markOf_17 ?_
        refine zw_aload_n (pc := 18) (n := 0) (x := q) rfl d_Sums_markOf_18 ?_
        obtain ⟨r6, r6f, r6B, r6k⟩ := hT.1 q 7 1 hqB hqk (by decide) (by decide) rfl
        refine zc_getF hn4 (pc := 19) f_Sums_16 rfl hqk r6f d_Sums_markOf_19 ?_
        refine zw_iload_n (pc := 22) (n := 1) (x := x0) rfl d_Sums_markOf_22 ?_
        refine zw_bipush (pc := 23) (v := 27) (by decide) d_Sums_markOf_23 ?_
        refine zw_imul (pc := 25) d_Sums_markOf_25 ?_
        refine zw_iload (pc := 26) (i := 5) (x := u2) rfl d_Sums_markOf_26 ?_
        refine zw_iadd (pc := 28) d_Sums_markOf_28 ?_
        refine zc_callV hn4 (pc := 29) [.int ((x0 * 27) + u2)] [.long u1] l_Sums_27 (c_LongRow_at l B N3 (hT.mod hn4) r6 r6B (hn4.k r6k) ((x0 * 27) + u2)) rfl rfl r6k (by decide) (by decide) (Nat.le_of_ble_eq_true rfl) d_Sums_markOf_29 (fun r9 N7 hq8 => ?_)
        obtain ⟨hk12, v11, rfl⟩ := hq8
        have hn10 : zMod B [] M N7 := hn4.call hk12 (by decide)
        show zW l m_Sums_markOf (zn M + 0, zw M + 0) N7 32 [some (.ref q), some (.int x0), some (.int x1), some (.long u1), none, some (.int u2)] [.long v11, .long u1] (zqJ B M [])
        refine zw_aload_n (pc := 32) (n := 0) (x := q) rfl d_Sums_markOf_32 ?_
        refine zc_getF hn10 (pc := 33) f_Sums_23 rfl hqk r5f d_Sums_markOf_33 ?_
        obtain ⟨r14, r14f, r14B, r14k⟩ := hT.1 r5 6 5 r5B r5k (by decide) (by decide) rfl
        refine zc_getF hn10 (pc := 36) f_Sums_41 rfl r5k r14f d_Sums_markOf_36 ?_
        refine zw_iload (pc := 39) (i := 5) (x := u2) rfl d_Sums_markOf_39 ?_
        refine zw_bipush (pc := 41) (v := 27) (by decide) d_Sums_markOf_41 ?_
        refine zw_imul (pc := 43) d_Sums_markOf_43 ?_
        refine zw_iload_n (pc := 44) (n := 2) (x := x1) rfl d_Sums_markOf_44 ?_
        refine zw_iadd (pc := 45) d_Sums_markOf_45 ?_
        refine zc_callV hn10 (pc := 46) [.int ((u2 * 27) + x1)] [.long v11, .long u1] l_Sums_45 (c_IntRow_at l B N7 (hT.mod hn10) r14 r14B (hn10.k r14k) ((u2 * 27) + x1)) rfl rfl r14k (by decide) (by decide) (Nat.le_of_ble_eq_true rfl) d_Sums_markOf_46 (fun r17 N15 hq16 => ?_)
        obtain ⟨hk20, v19, rfl⟩ := hq16
        have hn18 : zMod B [] M N15 := hn10.call hk20 (by decide)
        show zW l m_Sums_markOf (zn M + 0, zw M + 0) N15 49 [some (.ref q), some (.int x0), some (.int x1), some (.long u1), none, some (.int u2)] [.int v19, .long v11, .long u1] (zqJ B M [])
        refine zw_i2l (pc := 49) d_Sums_markOf_49 ?_
        refine zw_lmul (pc := 50) d_Sums_markOf_50 ?_
        refine zw_ladd (pc := 51) d_Sums_markOf_51 ?_
        refine zw_lstore_n (pc := 52) (i := 3) (L2 := [some (.ref q), some (.int x0), some (.int x1), some (.long (u1 + (v11 * ((v19 : Int32).toInt64)))), none, some (.int u2)]) rfl (by decide) rfl d_Sums_markOf_52 ?_
        refine zw_iinc (pc := 53) (i := 5) (x := u2) (v := u2 + Int32.ofInt 1) (L2 := [some (.ref q), some (.int x0), some (.int x1), some (.long (u1 + (v11 * ((v19 : Int32).toInt64)))), none, some (.int (u2 + Int32.ofInt 1))]) rfl rfl (by decide) rfl d_Sums_markOf_53 ?_
        refine zw_goto (pc := 56) (tgt := 5) (by decide) d_Sums_markOf_56 ?_
        exact ih_5 (u1 + (v11 * ((v19 : Int32).toInt64))) (u2 + Int32.ofInt 1) N15 hn18 (Nat.lt_of_lt_of_le (z_up hc_14) (Nat.le_of_lt_succ hlt_5))
  exact lp_5 _ 0 0 M hm (Nat.lt_succ_self _)
set_option maxHeartbeats 4000000 in
theorem c_Sums_solve (l : Launch) (B : Nat) (M : zMem) (hT : zTy B M) (q : Nat) (hqB : q < B) (hqk : (zsh M q).1 = 7 + 3) (x0 : Int32) : zC l m_Sums_solve 0 0 [.ref q, .int x0] M (zqV B M []) := by
  refine zC_of (L0 := [some (.ref q), some (.int x0), none, none, none, none]) md_Sums_solve (Nat.le_of_ble_eq_true rfl) rfl ?_ zQ0
  have hm : zMod B [] M M := zMod.rf
  refine zw_aload_n (pc := 0) (n := 0) (x := q) rfl d_Sums_solve_0 ?_
  obtain ⟨r1, r1f, r1B, r1k⟩ := hT.1 q 7 0 hqB hqk (by decide) (by decide) rfl
  refine zc_getF hm (pc := 1) f_Sums_23 rfl hqk r1f d_Sums_solve_1 ?_
  refine zc_getI0 hm (pc := 4) (by decide) f_Sums_35 rfl r1k d_Sums_solve_4 ?_
  refine zw_iconst (pc := 7) (v := 1) (by decide) d_Sums_solve_7 ?_
  refine zw_isub (pc := 8) d_Sums_solve_8 ?_
  refine zw_istore_n (pc := 9) (i := 2) (L2 := [some (.ref q), some (.int x0), some (.int ((zi M r1 7) - 1)), none, none, none]) rfl (by decide) rfl d_Sums_solve_9 ?_
  have lp_10 : ∀ (n : Nat) (u2 : Int32) (N3 : zMem) (hn4 : zMod B [] M N3), zve u2 < n → zW l m_Sums_solve (zn M + 0, zw M + 0) N3 10 [some (.ref q), some (.int x0), some (.int u2), none, none, none] [] (zqV B M []) := by
    intro n
    induction n with
    | zero =>
      intro u2 N3 hn4 h0
      exact absurd h0 (Nat.not_lt_zero _)
    | succ n ih_10 =>
      intro u2 N3 hn4 hlt_10
      refine zw_iload_n (pc := 10) (n := 2) (x := u2) rfl d_Sums_solve_10 ?_
      refine zw_if_lt (pc := 11) (tgt := 133) (by decide) d_Sums_solve_11 (fun hc_11 => ?_) (fun hc_11 => ?_)
      · exact zw_vret (S := []) (pc := 133) rfl d_Sums_solve_133 ⟨hn4, rfl⟩
      · refine zw_aload_n (pc := 14) (n := 0) (x := q) rfl d_Sums_solve_14 ?_
        obtain ⟨r5, r5f, r5B, r5k⟩ := hT.1 q 7 2 hqB hqk (by decide) (by decide) rfl
        refine zc_getF hn4 (pc := 15) f_Sums_20 rfl hqk r5f d_Sums_solve_15 ?_
        refine zw_iload_n (pc := 18) (n := 2) (x := u2) rfl d_Sums_solve_18 ?_
        refine zc_callV hn4 (pc := 19) [.int u2] [] l_Sums_27 (c_LongRow_at l B N3 (hT.mod hn4) r5 r5B (hn4.k r5k) u2) rfl rfl r5k (by decide) (by decide) (Nat.le_of_ble_eq_true rfl) d_Sums_solve_19 (fun r8 N6 hq7 => ?_)
        obtain ⟨hk11, v10, rfl⟩ := hq7
        have hn9 : zMod B [] M N6 := hn4.call hk11 (by decide)
        show zW l m_Sums_solve (zn M + 0, zw M + 0) N6 22 [some (.ref q), some (.int x0), some (.int u2), none, none, none] [.long v10] (zqV B M [])
        refine zw_lstore_n (pc := 22) (i := 3) (L2 := [some (.ref q), some (.int x0), some (.int u2), some (.long v10), none, none]) rfl (by decide) rfl d_Sums_solve_22 ?_
        refine zw_iload_n (pc := 23) (n := 2) (x := u2) rfl d_Sums_solve_23 ?_
        refine zw_iconst (pc := 24) (v := 1) (by decide) d_Sums_solve_24 ?_
        refine zw_iadd (pc := 25) d_Sums_solve_25 ?_
        refine zw_istore (pc := 26) (i := 5) (L2 := [some (.ref q), some (.int x0), some (.int u2), some (.long v10), none, some (.int (u2 + 1))]) (by decide) rfl d_Sums_solve_26 ?_
        have lp_28 : ∀ (n : Nat) (u13 : Int64) (u14 : Int32) (N15 : zMem) (hn16 : zMod B [] M N15), zvu u14 (zi M r1 7) < n → zW l m_Sums_solve (zn M + 0, zw M + 0) N15 28 [some (.ref q), some (.int x0), some (.int u2), some (.long u13), none, some (.int u14)] [] (zqV B M []) := by
          intro n
          induction n with
          | zero =>
            intro u13 u14 N15 hn16 h0
            exact absurd h0 (Nat.not_lt_zero _)
          | succ n ih_28 =>
            intro u13 u14 N15 hn16 hlt_28
            refine zw_iload (pc := 28) (i := 5) (x := u14) rfl d_Sums_solve_28 ?_
            refine zw_aload_n (pc := 30) (n := 0) (x := q) rfl d_Sums_solve_30 ?_
            refine zc_getF hn16 (pc := 31) f_Sums_23 rfl hqk r1f d_Sums_solve_31 ?_
            refine zc_getI0 hn16 (pc := 34) (by decide) f_Sums_35 rfl r1k d_Sums_solve_34 ?_
            refine zw_icmp_ge (pc := 37) (tgt := 82) (by decide) d_Sums_solve_37 (fun hc_37 => ?_) (fun hc_37 => ?_)
            · refine zw_aload_n (pc := 82) (n := 0) (x := q) rfl d_Sums_solve_82 ?_
              refine zc_getF hn16 (pc := 83) f_Sums_23 rfl hqk r1f d_Sums_solve_83 ?_
              obtain ⟨r17, r17f, r17B, r17k⟩ := hT.1 r1 6 5 r1B r1k (by decide) (by decide) rfl
              refine zc_getF hn16 (pc := 86) f_Sums_41 rfl r1k r17f d_Sums_solve_86 ?_
              refine zw_iload_n (pc := 89) (n := 2) (x := u2) rfl d_Sums_solve_89 ?_
              refine zw_bipush (pc := 90) (v := 27) (by decide) d_Sums_solve_90 ?_
              refine zw_imul (pc := 92) d_Sums_solve_92 ?_
              refine zw_iload_n (pc := 93) (n := 2) (x := u2) rfl d_Sums_solve_93 ?_
              refine zw_iadd (pc := 94) d_Sums_solve_94 ?_
              refine zc_callV hn16 (pc := 95) [.int ((u2 * 27) + u2)] [] l_Sums_45 (c_IntRow_at l B N15 (hT.mod hn16) r17 r17B (hn16.k r17k) ((u2 * 27) + u2)) rfl rfl r17k (by decide) (by decide) (Nat.le_of_ble_eq_true rfl) d_Sums_solve_95 (fun r20 N18 hq19 => ?_)
              obtain ⟨hk23, v22, rfl⟩ := hq19
              have hn21 : zMod B [] M N18 := hn16.call hk23 (by decide)
              show zW l m_Sums_solve (zn M + 0, zw M + 0) N18 98 [some (.ref q), some (.int x0), some (.int u2), some (.long u13), none, some (.int u14)] [.int v22] (zqV B M [])
              refine zw_istore (pc := 98) (i := 5) (L2 := [some (.ref q), some (.int x0), some (.int u2), some (.long u13), none, some (.int v22)]) (by decide) rfl d_Sums_solve_98 ?_
              refine zw_aload_n (pc := 100) (n := 0) (x := q) rfl d_Sums_solve_100 ?_
              obtain ⟨r25, r25f, r25B, r25k⟩ := hT.1 q 7 1 hqB hqk (by decide) (by decide) rfl
              refine zc_getF hn21 (pc := 101) f_Sums_16 rfl hqk r25f d_Sums_solve_101 ?_
              refine zw_iload_n (pc := 104) (n := 1) (x := x0) rfl d_Sums_solve_104 ?_
              refine zw_bipush (pc := 105) (v := 27) (by decide) d_Sums_solve_105 ?_
              refine zw_imul (pc := 107) d_Sums_solve_107 ?_
              refine zw_iload_n (pc := 108) (n := 2) (x := u2) rfl d_Sums_solve_108 ?_
              refine zw_iadd (pc := 109) d_Sums_solve_109 ?_
              refine zw_iload (pc := 110) (i := 5) (x := v22) rfl d_Sums_solve_110 ?_
              have j_124 : ∀ (u26 : Int64) (N27 : zMem) (hn28 : zMod B [] M N27), zW l m_Sums_solve (zn M + 0, zw M + 0) N27 124 [some (.ref q), some (.int x0), some (.int u2), some (.long u13), none, some (.int v22)] [.long u26, .int ((x0 * 27) + u2), .ref r25] (zqV B M []) := by
                intro u26 N27 hn28
                refine zc_callV hn28 (pc := 124) [.int ((x0 * 27) + u2), .long u26] [] l_Sums_31 (c_LongRow_put l B N27 (hT.mod hn28) r25 r25B (hn28.k r25k) ((x0 * 27) + u2) u26) rfl rfl r25k (by decide) (by decide) (Nat.le_of_ble_eq_true rfl) d_Sums_solve_124 (fun r31 N29 hq30 => ?_)
                obtain ⟨hk34, rfl⟩ := hq30
                have hn32 : zMod B [] M N29 := hn28.call hk34 (by decide)
                show zW l m_Sums_solve (zn M + 0, zw M + 0) N29 127 [some (.ref q), some (.int x0), some (.int u2), some (.long u13), none, some (.int v22)] [] (zqV B M [])
                refine zw_iinc (pc := 127) (i := 2) (x := u2) (v := u2 + Int32.ofInt (-1)) (L2 := [some (.ref q), some (.int x0), some (.int (u2 + Int32.ofInt (-1))), some (.long u13), none, some (.int v22)]) rfl rfl (by decide) rfl d_Sums_solve_127 ?_
                refine zw_goto (pc := 130) (tgt := 10) (by decide) d_Sums_solve_130 ?_
                refine zW_le [some (.ref q), some (.int x0), some (.int (u2 + Int32.ofInt (-1))), none, none, none] (⟨rfl, rfl, rfl, trivial⟩) ?_
                exact ih_10 (u2 + Int32.ofInt (-1)) N29 hn32 (Nat.lt_of_lt_of_le (z_dn0 hc_11) (Nat.le_of_lt_succ hlt_10))
              refine zw_if_eq (pc := 112) (tgt := 123) (by decide) d_Sums_solve_112 (fun hc_112 => ?_) (fun hc_112 => ?_)
              · refine zw_lconst (pc := 123) (v := 0) (by decide) d_Sums_solve_123 ?_
                exact j_124 0 N18 hn21
              · refine zw_lload_n (pc := 115) (n := 3) (x := u13) rfl d_Sums_solve_115 ?_
                refine zw_iload (pc := 116) (i := 5) (x := v22) rfl d_Sums_solve_116 ?_
                refine zw_i2l (pc := 118) d_Sums_solve_118 ?_
                refine zw_ldiv (pc := 119) (z_ne2 hc_112) d_Sums_solve_119 ?_
                refine zw_goto (pc := 120) (tgt := 124) (by decide) d_Sums_solve_120 ?_
                exact j_124 (u13 / ((v22 : Int32).toInt64)) N18 hn21
            · refine zw_lload_n (pc := 40) (n := 3) (x := u13) rfl d_Sums_solve_40 ?_
              refine zw_aload_n (pc := 41) (n := 0) (x := q) rfl d_Sums_solve_41 ?_
              obtain ⟨r36, r36f, r36B, r36k⟩ := hT.1 q 7 1 hqB hqk (by decide) (by decide) rfl
              refine zc_getF hn16 (pc := 42) f_Sums_16 rfl hqk r36f d_Sums_solve_42 ?_
              refine zw_iload_n (pc := 45) (n := 1) (x := x0) rfl d_Sums_solve_45 ?_
              refine zw_bipush (pc := 46) (v := 27) (by decide) d_Sums_solve_46 ?_
              refine zw_imul (pc := 48) d_Sums_solve_48 ?_
              refine zw_iload (pc := 49) (i := 5) (x := u14) rfl d_Sums_solve_49 ?_
              refine zw_iadd (pc := 51) d_Sums_solve_51 ?_
              refine zc_callV hn16 (pc := 52) [.int ((x0 * 27) + u14)] [.long u13] l_Sums_27 (c_LongRow_at l B N15 (hT.mod hn16) r36 r36B (hn16.k r36k) ((x0 * 27) + u14)) rfl rfl r36k (by decide) (by decide) (Nat.le_of_ble_eq_true rfl) d_Sums_solve_52 (fun r39 N37 hq38 => ?_)
              obtain ⟨hk42, v41, rfl⟩ := hq38
              have hn40 : zMod B [] M N37 := hn16.call hk42 (by decide)
              show zW l m_Sums_solve (zn M + 0, zw M + 0) N37 55 [some (.ref q), some (.int x0), some (.int u2), some (.long u13), none, some (.int u14)] [.long v41, .long u13] (zqV B M [])
              refine zw_aload_n (pc := 55) (n := 0) (x := q) rfl d_Sums_solve_55 ?_
              refine zc_getF hn40 (pc := 56) f_Sums_23 rfl hqk r1f d_Sums_solve_56 ?_
              obtain ⟨r44, r44f, r44B, r44k⟩ := hT.1 r1 6 5 r1B r1k (by decide) (by decide) rfl
              refine zc_getF hn40 (pc := 59) f_Sums_41 rfl r1k r44f d_Sums_solve_59 ?_
              refine zw_iload (pc := 62) (i := 5) (x := u14) rfl d_Sums_solve_62 ?_
              refine zw_bipush (pc := 64) (v := 27) (by decide) d_Sums_solve_64 ?_
              refine zw_imul (pc := 66) d_Sums_solve_66 ?_
              refine zw_iload_n (pc := 67) (n := 2) (x := u2) rfl d_Sums_solve_67 ?_
              refine zw_iadd (pc := 68) d_Sums_solve_68 ?_
              refine zc_callV hn40 (pc := 69) [.int ((u14 * 27) + u2)] [.long v41, .long u13] l_Sums_45 (c_IntRow_at l B N37 (hT.mod hn40) r44 r44B (hn40.k r44k) ((u14 * 27) + u2)) rfl rfl r44k (by decide) (by decide) (Nat.le_of_ble_eq_true rfl) d_Sums_solve_69 (fun r47 N45 hq46 => ?_)
              obtain ⟨hk50, v49, rfl⟩ := hq46
              have hn48 : zMod B [] M N45 := hn40.call hk50 (by decide)
              show zW l m_Sums_solve (zn M + 0, zw M + 0) N45 72 [some (.ref q), some (.int x0), some (.int u2), some (.long u13), none, some (.int u14)] [.int v49, .long v41, .long u13] (zqV B M [])
              refine zw_i2l (pc := 72) d_Sums_solve_72 ?_
              refine zw_lmul (pc := 73) d_Sums_solve_73 ?_
              refine zw_lsub (pc := 74) d_Sums_solve_74 ?_
              refine zw_lstore_n (pc := 75) (i := 3) (L2 := [some (.ref q), some (.int x0), some (.int u2), some (.long (u13 - (v41 * ((v49 : Int32).toInt64)))), none, some (.int u14)]) rfl (by decide) rfl d_Sums_solve_75 ?_
              refine zw_iinc (pc := 76) (i := 5) (x := u14) (v := u14 + Int32.ofInt 1) (L2 := [some (.ref q), some (.int x0), some (.int u2), some (.long (u13 - (v41 * ((v49 : Int32).toInt64)))), none, some (.int (u14 + Int32.ofInt 1))]) rfl rfl (by decide) rfl d_Sums_solve_76 ?_
              refine zw_goto (pc := 79) (tgt := 28) (by decide) d_Sums_solve_79 ?_
              exact ih_28 (u13 - (v41 * ((v49 : Int32).toInt64))) (u14 + Int32.ofInt 1) N45 hn48 (Nat.lt_of_lt_of_le (z_up hc_37) (Nat.le_of_lt_succ hlt_28))
        exact lp_28 _ v10 (u2 + 1) N6 hn9 (Nat.lt_succ_self _)
  exact lp_10 _ ((zi M r1 7) - 1) M hm (Nat.lt_succ_self _)
set_option maxHeartbeats 4000000 in
theorem c_Sums_multiply (l : Launch) (B : Nat) (M : zMem) (hT : zTy B M) (q : Nat) (hqB : q < B) (hqk : (zsh M q).1 = 7 + 3) (x0 : Int32) (x1 : Int32) : zC l m_Sums_multiply 0 0 [.ref q, .int x0, .int x1] M (zqZ B M []) := by
  refine zC_of (L0 := [some (.ref q), some (.int x0), some (.int x1), none, none, none, none, none]) md_Sums_multiply (Nat.le_of_ble_eq_true rfl) rfl ?_ zQ0
  have hm : zMod B [] M M := zMod.rf
  refine zw_iconst (pc := 0) (v := 0) (by decide) d_Sums_multiply_0 ?_
  refine zw_istore_n (pc := 1) (i := 3) (L2 := [some (.ref q), some (.int x0), some (.int x1), some (.int 0), none, none, none, none]) rfl (by decide) rfl d_Sums_multiply_1 ?_
  obtain ⟨r4, r4f, r4B, r4k⟩ := hT.1 q 7 0 hqB hqk (by decide) (by decide) rfl
  have lp_2 : ∀ (n : Nat) (u1 : Int32) (N2 : zMem) (hn3 : zMod B [] M N2), zvu u1 (zi M r4 7) < n → zW l m_Sums_multiply (zn M + 0, zw M + 0) N2 2 [some (.ref q), some (.int x0), some (.int x1), some (.int u1), none, none, none, none] [] (zqZ B M []) := by
    intro n
    induction n with
    | zero =>
      intro u1 N2 hn3 h0
      exact absurd h0 (Nat.not_lt_zero _)
    | succ n ih_2 =>
      intro u1 N2 hn3 hlt_2
      refine zw_iload_n (pc := 2) (n := 3) (x := u1) rfl d_Sums_multiply_2 ?_
      refine zw_aload_n (pc := 3) (n := 0) (x := q) rfl d_Sums_multiply_3 ?_
      refine zc_getF hn3 (pc := 4) f_Sums_23 rfl hqk r4f d_Sums_multiply_4 ?_
      refine zc_getI0 hn3 (pc := 7) (by decide) f_Sums_35 rfl r4k d_Sums_multiply_7 ?_
      refine zw_icmp_ge (pc := 10) (tgt := 75) (by decide) d_Sums_multiply_10 (fun hc_10 => ?_) (fun hc_10 => ?_)
      · refine zw_aload_n (pc := 75) (n := 0) (x := q) rfl d_Sums_multiply_75 ?_
        refine zw_iload_n (pc := 76) (n := 1) (x := x0) rfl d_Sums_multiply_76 ?_
        refine zc_callV hn3 (pc := 77) [.int x0] [] l_Sums_58 (c_Sums_solve l B N2 (hT.mod hn3) q hqB (hn3.k hqk) x0) rfl rfl hqk (by decide) (by decide) (Nat.le_of_ble_eq_true rfl) d_Sums_multiply_77 (fun r7 N5 hq6 => ?_)
        obtain ⟨hk10, rfl⟩ := hq6
        have hn8 : zMod B [] M N5 := hn3.call hk10 (by decide)
        show zW l m_Sums_multiply (zn M + 0, zw M + 0) N5 80 [some (.ref q), some (.int x0), some (.int x1), some (.int u1), none, none, none, none] [] (zqZ B M [])
        refine zw_iconst (pc := 80) (v := 1) (by decide) d_Sums_multiply_80 ?_
        exact zw_iret (S := []) (pc := 81) (ty := .boolean) rfl (z_narZ (Or.inr rfl)) d_Sums_multiply_81 ⟨hn8, _, rfl, Or.inr rfl⟩
      · refine zw_aload_n (pc := 13) (n := 0) (x := q) rfl d_Sums_multiply_13 ?_
        refine zw_iload_n (pc := 14) (n := 1) (x := x0) rfl d_Sums_multiply_14 ?_
        refine zw_iload_n (pc := 15) (n := 3) (x := u1) rfl d_Sums_multiply_15 ?_
        refine zc_callV hn3 (pc := 16) [.int x0, .int u1] [] l_Sums_50 (c_Sums_markOf l B N2 (hT.mod hn3) q hqB (hn3.k hqk) x0 u1) rfl rfl hqk (by decide) (by decide) (Nat.le_of_ble_eq_true rfl) d_Sums_multiply_16 (fun r14 N12 hq13 => ?_)
        obtain ⟨hk17, v16, rfl⟩ := hq13
        have hn15 : zMod B [] M N12 := hn3.call hk17 (by decide)
        show zW l m_Sums_multiply (zn M + 0, zw M + 0) N12 19 [some (.ref q), some (.int x0), some (.int x1), some (.int u1), none, none, none, none] [.long v16] (zqZ B M [])
        refine zw_lstore (pc := 19) (i := 4) (L2 := [some (.ref q), some (.int x0), some (.int x1), some (.int u1), some (.long v16), none, none, none]) (by decide) rfl d_Sums_multiply_19 ?_
        refine zw_aload_n (pc := 21) (n := 0) (x := q) rfl d_Sums_multiply_21 ?_
        refine zw_iload_n (pc := 22) (n := 2) (x := x1) rfl d_Sums_multiply_22 ?_
        refine zw_iload_n (pc := 23) (n := 3) (x := u1) rfl d_Sums_multiply_23 ?_
        refine zc_callV hn15 (pc := 24) [.int x1, .int u1] [] l_Sums_50 (c_Sums_markOf l B N12 (hT.mod hn15) q hqB (hn15.k hqk) x1 u1) rfl rfl hqk (by decide) (by decide) (Nat.le_of_ble_eq_true rfl) d_Sums_multiply_24 (fun r21 N19 hq20 => ?_)
        obtain ⟨hk24, v23, rfl⟩ := hq20
        have hn22 : zMod B [] M N19 := hn15.call hk24 (by decide)
        show zW l m_Sums_multiply (zn M + 0, zw M + 0) N19 27 [some (.ref q), some (.int x0), some (.int x1), some (.int u1), some (.long v16), none, none, none] [.long v23] (zqZ B M [])
        refine zw_lstore (pc := 27) (i := 6) (L2 := [some (.ref q), some (.int x0), some (.int x1), some (.int u1), some (.long v16), none, some (.long v23), none]) (by decide) rfl d_Sums_multiply_27 ?_
        refine zw_lload (pc := 29) (i := 4) (x := v16) rfl d_Sums_multiply_29 ?_
        refine zw_lconst (pc := 31) (v := 0) (by decide) d_Sums_multiply_31 ?_
        refine zw_lcmp (pc := 32) d_Sums_multiply_32 ?_
        have j_56 : ∀ (N26 : zMem) (hn27 : zMod B [] M N26), zW l m_Sums_multiply (zn M + 0, zw M + 0) N26 56 [some (.ref q), some (.int x0), some (.int x1), some (.int u1), some (.long v16), none, some (.long v23), none] [] (zqZ B M []) := by
          intro N26 hn27
          refine zw_aload_n (pc := 56) (n := 0) (x := q) rfl d_Sums_multiply_56 ?_
          obtain ⟨r28, r28f, r28B, r28k⟩ := hT.1 q 7 2 hqB hqk (by decide) (by decide) rfl
          refine zc_getF hn27 (pc := 57) f_Sums_20 rfl hqk r28f d_Sums_multiply_57 ?_
          refine zw_iload_n (pc := 60) (n := 3) (x := u1) rfl d_Sums_multiply_60 ?_
          refine zw_lload (pc := 61) (i := 4) (x := v16) rfl d_Sums_multiply_61 ?_
          refine zw_lload (pc := 63) (i := 6) (x := v23) rfl d_Sums_multiply_63 ?_
          refine zw_lmul (pc := 65) d_Sums_multiply_65 ?_
          refine zc_callV hn27 (pc := 66) [.int u1, .long (v16 * v23)] [] l_Sums_31 (c_LongRow_put l B N26 (hT.mod hn27) r28 r28B (hn27.k r28k) u1 (v16 * v23)) rfl rfl r28k (by decide) (by decide) (Nat.le_of_ble_eq_true rfl) d_Sums_multiply_66 (fun r31 N29 hq30 => ?_)
          obtain ⟨hk34, rfl⟩ := hq30
          have hn32 : zMod B [] M N29 := hn27.call hk34 (by decide)
          show zW l m_Sums_multiply (zn M + 0, zw M + 0) N29 69 [some (.ref q), some (.int x0), some (.int x1), some (.int u1), some (.long v16), none, some (.long v23), none] [] (zqZ B M [])
          refine zw_iinc (pc := 69) (i := 3) (x := u1) (v := u1 + Int32.ofInt 1) (L2 := [some (.ref q), some (.int x0), some (.int x1), some (.int (u1 + Int32.ofInt 1)), some (.long v16), none, some (.long v23), none]) rfl rfl (by decide) rfl d_Sums_multiply_69 ?_
          refine zw_goto (pc := 72) (tgt := 2) (by decide) d_Sums_multiply_72 ?_
          refine zW_le [some (.ref q), some (.int x0), some (.int x1), some (.int (u1 + Int32.ofInt 1)), none, none, none, none] (⟨rfl, rfl, rfl, rfl, trivial⟩) ?_
          exact ih_2 (u1 + Int32.ofInt 1) N29 hn32 (Nat.lt_of_lt_of_le (z_up hc_10) (Nat.le_of_lt_succ hlt_2))
        refine zw_if_eq (pc := 33) (tgt := 56) (by decide) d_Sums_multiply_33 (fun hc_33 => ?_) (fun hc_33 => ?_)
        · exact j_56 N19 hn22
        · refine zw_lload (pc := 36) (i := 6) (x := v23) rfl d_Sums_multiply_36 ?_
          refine zw_mabsl (pc := 38) x_Sums_74 (by decide) (Nat.le_of_ble_eq_true rfl) d_Sums_multiply_38 (fun v36 hv36 => ?_)
          refine zw_ldc2 (pc := 41) k_Sums_80 d_Sums_multiply_41 ?_
          refine zw_lload (pc := 44) (i := 4) (x := v16) rfl d_Sums_multiply_44 ?_
          refine zw_mabsl (pc := 46) x_Sums_74 (by decide) (Nat.le_of_ble_eq_true rfl) d_Sums_multiply_46 (fun v37 hv37 => ?_)
          refine zw_ldiv (pc := 49) (z_absne hc_33 hv37) d_Sums_multiply_49 ?_
          refine zw_lcmp (pc := 50) d_Sums_multiply_50 ?_
          refine zw_if_le (pc := 51) (tgt := 56) (by decide) d_Sums_multiply_51 (fun hc_51 => ?_) (fun hc_51 => ?_)
          · exact j_56 N19 hn22
          · refine zw_iconst (pc := 54) (v := 0) (by decide) d_Sums_multiply_54 ?_
            exact zw_iret (S := []) (pc := 55) (ty := .boolean) rfl (z_narZ (Or.inl rfl)) d_Sums_multiply_55 ⟨hn22, _, rfl, Or.inl rfl⟩
  exact lp_2 _ 0 M hm (Nat.lt_succ_self _)
set_option maxHeartbeats 4000000 in
theorem c_Sums_numberAt (l : Launch) (B : Nat) (M : zMem) (hT : zTy B M) (q : Nat) (hqB : q < B) (hqk : (zsh M q).1 = 7 + 3) (x0 : Int32) (x1 : Int32) : zC l m_Sums_numberAt 0 0 [.ref q, .int x0, .int x1] M (zqJ B M []) := by
  refine zC_of (L0 := [some (.ref q), some (.int x0), some (.int x1)]) md_Sums_numberAt (Nat.le_of_ble_eq_true rfl) rfl ?_ zQ0
  have hm : zMod B [] M M := zMod.rf
  refine zw_aload_n (pc := 0) (n := 0) (x := q) rfl d_Sums_numberAt_0 ?_
  obtain ⟨r1, r1f, r1B, r1k⟩ := hT.1 q 7 1 hqB hqk (by decide) (by decide) rfl
  refine zc_getF hm (pc := 1) f_Sums_16 rfl hqk r1f d_Sums_numberAt_1 ?_
  refine zw_iload_n (pc := 4) (n := 1) (x := x0) rfl d_Sums_numberAt_4 ?_
  refine zw_bipush (pc := 5) (v := 27) (by decide) d_Sums_numberAt_5 ?_
  refine zw_imul (pc := 7) d_Sums_numberAt_7 ?_
  refine zw_iload_n (pc := 8) (n := 2) (x := x1) rfl d_Sums_numberAt_8 ?_
  refine zw_iadd (pc := 9) d_Sums_numberAt_9 ?_
  refine zc_callV hm (pc := 10) [.int ((x0 * 27) + x1)] [] l_Sums_27 (c_LongRow_at l B M (hT.mod hm) r1 r1B (hm.k r1k) ((x0 * 27) + x1)) rfl rfl r1k (by decide) (by decide) (Nat.le_of_ble_eq_true rfl) d_Sums_numberAt_10 (fun r4 N2 hq3 => ?_)
  obtain ⟨hk7, v6, rfl⟩ := hq3
  have hn5 : zMod B [] M N2 := hm.call hk7 (by decide)
  show zW l m_Sums_numberAt (zn M + 0, zw M + 0) N2 13 [some (.ref q), some (.int x0), some (.int x1)] [.long v6] (zqJ B M [])
  exact zw_lret (S := []) (pc := 13) rfl d_Sums_numberAt_13 ⟨hn5, _, rfl⟩
set_option maxHeartbeats 4000000 in
theorem c_Sums_isInBounds (l : Launch) (B : Nat) (M : zMem) (hT : zTy B M) (q : Nat) (hqB : q < B) (hqk : (zsh M q).1 = 7 + 3) (x0 : Int32) : zC l m_Sums_isInBounds 0 0 [.ref q, .int x0] M (zqZ B M []) := by
  refine zC_of (L0 := [some (.ref q), some (.int x0), none]) md_Sums_isInBounds (Nat.le_of_ble_eq_true rfl) rfl ?_ zQ0
  have hm : zMod B [] M M := zMod.rf
  refine zw_iconst (pc := 0) (v := 0) (by decide) d_Sums_isInBounds_0 ?_
  refine zw_istore_n (pc := 1) (i := 2) (L2 := [some (.ref q), some (.int x0), some (.int 0)]) rfl (by decide) rfl d_Sums_isInBounds_1 ?_
  obtain ⟨r4, r4f, r4B, r4k⟩ := hT.1 q 7 0 hqB hqk (by decide) (by decide) rfl
  have lp_2 : ∀ (n : Nat) (u1 : Int32) (N2 : zMem) (hn3 : zMod B [] M N2), zvu u1 (zi M r4 7) < n → zW l m_Sums_isInBounds (zn M + 0, zw M + 0) N2 2 [some (.ref q), some (.int x0), some (.int u1)] [] (zqZ B M []) := by
    intro n
    induction n with
    | zero =>
      intro u1 N2 hn3 h0
      exact absurd h0 (Nat.not_lt_zero _)
    | succ n ih_2 =>
      intro u1 N2 hn3 hlt_2
      refine zw_iload_n (pc := 2) (n := 2) (x := u1) rfl d_Sums_isInBounds_2 ?_
      refine zw_aload_n (pc := 3) (n := 0) (x := q) rfl d_Sums_isInBounds_3 ?_
      refine zc_getF hn3 (pc := 4) f_Sums_23 rfl hqk r4f d_Sums_isInBounds_4 ?_
      refine zc_getI0 hn3 (pc := 7) (by decide) f_Sums_35 rfl r4k d_Sums_isInBounds_7 ?_
      refine zw_icmp_ge (pc := 10) (tgt := 53) (by decide) d_Sums_isInBounds_10 (fun hc_10 => ?_) (fun hc_10 => ?_)
      · refine zw_iconst (pc := 53) (v := 1) (by decide) d_Sums_isInBounds_53 ?_
        exact zw_iret (S := []) (pc := 54) (ty := .boolean) rfl (z_narZ (Or.inr rfl)) d_Sums_isInBounds_54 ⟨hn3, _, rfl, Or.inr rfl⟩
      · refine zw_aload_n (pc := 13) (n := 0) (x := q) rfl d_Sums_isInBounds_13 ?_
        refine zw_iload_n (pc := 14) (n := 1) (x := x0) rfl d_Sums_isInBounds_14 ?_
        refine zw_iload_n (pc := 15) (n := 2) (x := u1) rfl d_Sums_isInBounds_15 ?_
        refine zc_callV hn3 (pc := 16) [.int x0, .int u1] [] l_Sums_67 (c_Sums_numberAt l B N2 (hT.mod hn3) q hqB (hn3.k hqk) x0 u1) rfl rfl hqk (by decide) (by decide) (Nat.le_of_ble_eq_true rfl) d_Sums_isInBounds_16 (fun r7 N5 hq6 => ?_)
        obtain ⟨hk10, v9, rfl⟩ := hq6
        have hn8 : zMod B [] M N5 := hn3.call hk10 (by decide)
        show zW l m_Sums_isInBounds (zn M + 0, zw M + 0) N5 19 [some (.ref q), some (.int x0), some (.int u1)] [.long v9] (zqZ B M [])
        refine zw_mabsl (pc := 19) x_Sums_74 (by decide) (Nat.le_of_ble_eq_true rfl) d_Sums_isInBounds_19 (fun v12 hv12 => ?_)
        refine zw_ldc2 (pc := 22) k_Sums_80 d_Sums_isInBounds_22 ?_
        refine zw_lcmp (pc := 25) d_Sums_isInBounds_25 ?_
        refine zw_if_gt (pc := 26) (tgt := 45) (by decide) d_Sums_isInBounds_26 (fun hc_26 => ?_) (fun hc_26 => ?_)
        · refine zw_iconst (pc := 45) (v := 0) (by decide) d_Sums_isInBounds_45 ?_
          exact zw_iret (S := []) (pc := 46) (ty := .boolean) rfl (z_narZ (Or.inl rfl)) d_Sums_isInBounds_46 ⟨hn8, _, rfl, Or.inl rfl⟩
        · refine zw_aload_n (pc := 29) (n := 0) (x := q) rfl d_Sums_isInBounds_29 ?_
          refine zw_iload_n (pc := 30) (n := 1) (x := x0) rfl d_Sums_isInBounds_30 ?_
          refine zw_iload_n (pc := 31) (n := 2) (x := u1) rfl d_Sums_isInBounds_31 ?_
          refine zc_callV hn8 (pc := 32) [.int x0, .int u1] [] l_Sums_50 (c_Sums_markOf l B N5 (hT.mod hn8) q hqB (hn8.k hqk) x0 u1) rfl rfl hqk (by decide) (by decide) (Nat.le_of_ble_eq_true rfl) d_Sums_isInBounds_32 (fun r15 N13 hq14 => ?_)
          obtain ⟨hk18, v17, rfl⟩ := hq14
          have hn16 : zMod B [] M N13 := hn8.call hk18 (by decide)
          show zW l m_Sums_isInBounds (zn M + 0, zw M + 0) N13 35 [some (.ref q), some (.int x0), some (.int u1)] [.long v17] (zqZ B M [])
          refine zw_mabsl (pc := 35) x_Sums_74 (by decide) (Nat.le_of_ble_eq_true rfl) d_Sums_isInBounds_35 (fun v20 hv20 => ?_)
          refine zw_ldc2 (pc := 38) k_Sums_80 d_Sums_isInBounds_38 ?_
          refine zw_lcmp (pc := 41) d_Sums_isInBounds_41 ?_
          refine zw_if_le (pc := 42) (tgt := 47) (by decide) d_Sums_isInBounds_42 (fun hc_42 => ?_) (fun hc_42 => ?_)
          · refine zw_iinc (pc := 47) (i := 2) (x := u1) (v := u1 + Int32.ofInt 1) (L2 := [some (.ref q), some (.int x0), some (.int (u1 + Int32.ofInt 1))]) rfl rfl (by decide) rfl d_Sums_isInBounds_47 ?_
            refine zw_goto (pc := 50) (tgt := 2) (by decide) d_Sums_isInBounds_50 ?_
            exact ih_2 (u1 + Int32.ofInt 1) N13 hn16 (Nat.lt_of_lt_of_le (z_up hc_10) (Nat.le_of_lt_succ hlt_2))
          · refine zw_iconst (pc := 45) (v := 0) (by decide) d_Sums_isInBounds_45 ?_
            exact zw_iret (S := []) (pc := 46) (ty := .boolean) rfl (z_narZ (Or.inl rfl)) d_Sums_isInBounds_46 ⟨hn16, _, rfl, Or.inl rfl⟩
  exact lp_2 _ 0 M hm (Nat.lt_succ_self _)
set_option maxHeartbeats 4000000 in
theorem c_Calc_settle (l : Launch) (B : Nat) (M : zMem) (hT : zTy B M) (q : Nat) (hqB : q < B) (hqk : (zsh M q).1 = 10 + 3) (x0 : Int32) : zC l m_Calc_settle 0 0 [.ref q, .int x0] M (zqV B M [(10, 6)]) := by
  refine zC_of (L0 := [some (.ref q), some (.int x0)]) md_Calc_settle (Nat.le_of_ble_eq_true rfl) rfl ?_ zQ0
  have hm : zMod B [(10, 6)] M M := zMod.rf
  refine zw_iload_n (pc := 0) (n := 1) (x := x0) rfl d_Calc_settle_0 ?_
  refine zw_if_ne (pc := 1) (tgt := 22) (by decide) d_Calc_settle_1 (fun hc_1 => ?_) (fun hc_1 => ?_)
  · exact zw_vret (S := []) (pc := 22) rfl d_Calc_settle_22 ⟨hm, rfl⟩
  · refine zw_aload_n (pc := 4) (n := 0) (x := q) rfl d_Calc_settle_4 ?_
    refine zw_iconst (pc := 5) (v := 1) (by decide) d_Calc_settle_5 ?_
    refine zc_putI hm (pc := 6) f_Calc_37 rfl rfl hqk hqB (by decide) (z_narZ (Or.inr rfl)) (z_fitZ (Or.inr rfl)) d_Calc_settle_6 (fun N1 hN1 hn2 => ?_)
    refine zw_aload_n (pc := 9) (n := 0) (x := q) rfl d_Calc_settle_9 ?_
    obtain ⟨r3, r3f, r3B, r3k⟩ := hT.1 q 10 0 hqB hqk (by decide) (by decide) rfl
    refine zc_getF hn2 (pc := 10) f_Calc_20 rfl hqk r3f d_Calc_settle_10 ?_
    refine zw_aload_n (pc := 13) (n := 0) (x := q) rfl d_Calc_settle_13 ?_
    refine zc_callV hn2 (pc := 14) [] [.ref r3] l_Calc_43 (c_Calc_topShelf l B N1 (hT.mod hn2) q hqB (hn2.k hqk)) rfl rfl hqk (by decide) (by decide) (Nat.le_of_ble_eq_true rfl) d_Calc_settle_14 (fun r6 N4 hq5 => ?_)
    obtain ⟨hk9, v8, rfl⟩ := hq5
    have hn7 : zMod B [(10, 6)] M N4 := hn2.call hk9 (by decide)
    show zW l m_Calc_settle (zn M + 0, zw M + 0) N4 17 [some (.ref q), some (.int x0)] [.int v8, .ref r3] (zqV B M [(10, 6)])
    refine zw_iconst (pc := 17) (v := (-1)) (by decide) d_Calc_settle_17 ?_
    refine zw_lconst (pc := 18) (v := 0) (by decide) d_Calc_settle_18 ?_
    refine zc_callV hn7 (pc := 19) [.int v8, .int ((-1)), .long 0] [] l_Calc_61 (c_Sums_putSingle l B N4 (hT.mod hn7) r3 r3B (hn7.k r3k) v8 ((-1)) 0) rfl rfl r3k (by decide) (by decide) (Nat.le_of_ble_eq_true rfl) d_Calc_settle_19 (fun r13 N11 hq12 => ?_)
    obtain ⟨hk16, rfl⟩ := hq12
    have hn14 : zMod B [(10, 6)] M N11 := hn7.call hk16 (by decide)
    show zW l m_Calc_settle (zn M + 0, zw M + 0) N11 22 [some (.ref q), some (.int x0)] [] (zqV B M [(10, 6)])
    exact zw_vret (S := []) (pc := 22) rfl d_Calc_settle_22 ⟨hn14, rfl⟩
set_option maxHeartbeats 4000000 in
theorem c_Calc_raise (l : Launch) (B : Nat) (M : zMem) (hT : zTy B M) (q : Nat) (hqB : q < B) (hqk : (zsh M q).1 = 10 + 3) (x0 : Int32) : zC l m_Calc_raise 0 0 [.ref q, .int x0] M (zqV B M [(10, 6)]) := by
  refine zC_of (L0 := [some (.ref q), some (.int x0), none, none, none]) md_Calc_raise (Nat.le_of_ble_eq_true rfl) rfl ?_ zQ0
  have hm : zMod B [(10, 6)] M M := zMod.rf
  refine zw_aload_n (pc := 0) (n := 0) (x := q) rfl d_Calc_raise_0 ?_
  refine zc_callV hm (pc := 1) [] [] l_Calc_43 (c_Calc_topShelf l B M (hT.mod hm) q hqB (hm.k hqk)) rfl rfl hqk (by decide) (by decide) (Nat.le_of_ble_eq_true rfl) d_Calc_raise_1 (fun r3 N1 hq2 => ?_)
  obtain ⟨hk6, v5, rfl⟩ := hq2
  have hn4 : zMod B [(10, 6)] M N1 := hm.call hk6 (by decide)
  show zW l m_Calc_raise (zn M + 0, zw M + 0) N1 4 [some (.ref q), some (.int x0), none, none, none] [.int v5] (zqV B M [(10, 6)])
  refine zw_istore_n (pc := 4) (i := 2) (L2 := [some (.ref q), some (.int x0), some (.int v5), none, none]) rfl (by decide) rfl d_Calc_raise_4 ?_
  refine zw_aload_n (pc := 5) (n := 0) (x := q) rfl d_Calc_raise_5 ?_
  obtain ⟨r8, r8f, r8B, r8k⟩ := hT.1 q 10 0 hqB hqk (by decide) (by decide) rfl
  refine zc_getF hn4 (pc := 6) f_Calc_20 rfl hqk r8f d_Calc_raise_6 ?_
  refine zw_iload_n (pc := 9) (n := 2) (x := v5) rfl d_Calc_raise_9 ?_
  refine zw_bipush (pc := 10) (v := 39) (by decide) d_Calc_raise_10 ?_
  refine zc_callV hn4 (pc := 12) [.int v5, .int 39] [] l_Calc_65 (c_Sums_copy l B N1 (hT.mod hn4) r8 r8B (hn4.k r8k) v5 39) rfl rfl r8k (by decide) (by decide) (Nat.le_of_ble_eq_true rfl) d_Calc_raise_12 (fun r11 N9 hq10 => ?_)
  obtain ⟨hk14, rfl⟩ := hq10
  have hn12 : zMod B [(10, 6)] M N9 := hn4.call hk14 (by decide)
  show zW l m_Calc_raise (zn M + 0, zw M + 0) N9 15 [some (.ref q), some (.int x0), some (.int v5), none, none] [] (zqV B M [(10, 6)])
  refine zw_aload_n (pc := 15) (n := 0) (x := q) rfl d_Calc_raise_15 ?_
  refine zc_getF hn12 (pc := 16) f_Calc_20 rfl hqk r8f d_Calc_raise_16 ?_
  refine zw_iload_n (pc := 19) (n := 2) (x := v5) rfl d_Calc_raise_19 ?_
  refine zw_aload_n (pc := 20) (n := 0) (x := q) rfl d_Calc_raise_20 ?_
  refine zc_getF hn12 (pc := 21) f_Calc_20 rfl hqk r8f d_Calc_raise_21 ?_
  obtain ⟨r16, r16f, r16B, r16k⟩ := hT.1 r8 7 0 r8B r8k (by decide) (by decide) rfl
  refine zc_getF hn12 (pc := 24) f_Calc_68 rfl r8k r16f d_Calc_raise_24 ?_
  refine zc_getI0 hn12 (pc := 27) (by decide) f_Calc_72 rfl r16k d_Calc_raise_27 ?_
  refine zw_iconst (pc := 30) (v := 1) (by decide) d_Calc_raise_30 ?_
  refine zw_isub (pc := 31) d_Calc_raise_31 ?_
  refine zw_lconst (pc := 32) (v := 1) (by decide) d_Calc_raise_32 ?_
  refine zc_callV hn12 (pc := 33) [.int v5, .int ((zi M r16 7) - 1), .long 1] [] l_Calc_61 (c_Sums_putSingle l B N9 (hT.mod hn12) r8 r8B (hn12.k r8k) v5 ((zi M r16 7) - 1) 1) rfl rfl r8k (by decide) (by decide) (Nat.le_of_ble_eq_true rfl) d_Calc_raise_33 (fun r19 N17 hq18 => ?_)
  obtain ⟨hk22, rfl⟩ := hq18
  have hn20 : zMod B [(10, 6)] M N17 := hn12.call hk22 (by decide)
  show zW l m_Calc_raise (zn M + 0, zw M + 0) N17 36 [some (.ref q), some (.int x0), some (.int v5), none, none] [] (zqV B M [(10, 6)])
  refine zw_iconst (pc := 36) (v := 0) (by decide) d_Calc_raise_36 ?_
  refine zw_istore_n (pc := 37) (i := 3) (L2 := [some (.ref q), some (.int x0), some (.int v5), some (.int 0), none]) rfl (by decide) rfl d_Calc_raise_37 ?_
  have lp_38 : ∀ (n : Nat) (u24 : Int32) (N25 : zMem) (hn26 : zMod B [(10, 6)] M N25), zvu u24 x0 < n → zW l m_Calc_raise (zn M + 0, zw M + 0) N25 38 [some (.ref q), some (.int x0), some (.int v5), some (.int u24), none] [] (zqV B M [(10, 6)]) := by
    intro n
    induction n with
    | zero =>
      intro u24 N25 hn26 h0
      exact absurd h0 (Nat.not_lt_zero _)
    | succ n ih_38 =>
      intro u24 N25 hn26 hlt_38
      refine zw_iload_n (pc := 38) (n := 3) (x := u24) rfl d_Calc_raise_38 ?_
      refine zw_iload_n (pc := 39) (n := 1) (x := x0) rfl d_Calc_raise_39 ?_
      refine zw_icmp_ge (pc := 40) (tgt := 92) (by decide) d_Calc_raise_40 (fun hc_40 => ?_) (fun hc_40 => ?_)
      · exact zw_vret (S := []) (pc := 92) rfl d_Calc_raise_92 ⟨hn26, rfl⟩
      · refine zw_iload_n (pc := 43) (n := 3) (x := u24) rfl d_Calc_raise_43 ?_
        refine zw_bipush (pc := 44) (v := 9) (by decide) d_Calc_raise_44 ?_
        refine zw_icmp_ge (pc := 46) (tgt := 92) (by decide) d_Calc_raise_46 (fun hc_46 => ?_) (fun hc_46 => ?_)
        · exact zw_vret (S := []) (pc := 92) rfl d_Calc_raise_92 ⟨hn26, rfl⟩
        · refine zw_aload_n (pc := 49) (n := 0) (x := q) rfl d_Calc_raise_49 ?_
          refine zc_getF hn26 (pc := 50) f_Calc_20 rfl hqk r8f d_Calc_raise_50 ?_
          refine zw_iload_n (pc := 53) (n := 2) (x := v5) rfl d_Calc_raise_53 ?_
          refine zw_bipush (pc := 54) (v := 39) (by decide) d_Calc_raise_54 ?_
          refine zc_callV hn26 (pc := 56) [.int v5, .int 39] [] l_Calc_77 (c_Sums_multiply l B N25 (hT.mod hn26) r8 r8B (hn26.k r8k) v5 39) rfl rfl r8k (by decide) (by decide) (Nat.le_of_ble_eq_true rfl) d_Calc_raise_56 (fun r29 N27 hq28 => ?_)
          obtain ⟨hk32, v31, rfl, zv31⟩ := hq28
          have hn30 : zMod B [(10, 6)] M N27 := hn26.call hk32 (by decide)
          show zW l m_Calc_raise (zn M + 0, zw M + 0) N27 59 [some (.ref q), some (.int x0), some (.int v5), some (.int u24), none] [.int v31] (zqV B M [(10, 6)])
          refine zw_istore (pc := 59) (i := 4) (L2 := [some (.ref q), some (.int x0), some (.int v5), some (.int u24), some (.int v31)]) (by decide) rfl d_Calc_raise_59 ?_
          refine zw_aload_n (pc := 61) (n := 0) (x := q) rfl d_Calc_raise_61 ?_
          refine zw_iload (pc := 62) (i := 4) (x := v31) rfl d_Calc_raise_62 ?_
          have j_83 : ∀ (u34 : Int32) (hu34 : u34 = 0 ∨ u34 = 1) (N35 : zMem) (hn36 : zMod B [(10, 6)] M N35), zW l m_Calc_raise (zn M + 0, zw M + 0) N35 83 [some (.ref q), some (.int x0), some (.int v5), some (.int u24), some (.int v31)] [.int u34, .ref q] (zqV B M [(10, 6)]) := by
            intro u34 hu34 N35 hn36
            refine zc_callV hn36 (pc := 83) [.int u34] [] l_Calc_85 (c_Calc_settle l B N35 (hT.mod hn36) q hqB (hn36.k hqk) u34) rfl rfl hqk (by decide) (by decide) (Nat.le_of_ble_eq_true rfl) d_Calc_raise_83 (fun r39 N37 hq38 => ?_)
            obtain ⟨hk42, rfl⟩ := hq38
            have hn40 : zMod B [(10, 6)] M N37 := hn36.call hk42 (by decide)
            show zW l m_Calc_raise (zn M + 0, zw M + 0) N37 86 [some (.ref q), some (.int x0), some (.int v5), some (.int u24), some (.int v31)] [] (zqV B M [(10, 6)])
            refine zw_iinc (pc := 86) (i := 3) (x := u24) (v := u24 + Int32.ofInt 1) (L2 := [some (.ref q), some (.int x0), some (.int v5), some (.int (u24 + Int32.ofInt 1)), some (.int v31)]) rfl rfl (by decide) rfl d_Calc_raise_86 ?_
            refine zw_goto (pc := 89) (tgt := 38) (by decide) d_Calc_raise_89 ?_
            refine zW_le [some (.ref q), some (.int x0), some (.int v5), some (.int (u24 + Int32.ofInt 1)), none] (⟨rfl, rfl, rfl, rfl, trivial⟩) ?_
            exact ih_38 (u24 + Int32.ofInt 1) N37 hn40 (Nat.lt_of_lt_of_le (z_up hc_40) (Nat.le_of_lt_succ hlt_38))
          have j_82 : ∀ (N44 : zMem) (hn45 : zMod B [(10, 6)] M N44), zW l m_Calc_raise (zn M + 0, zw M + 0) N44 82 [some (.ref q), some (.int x0), some (.int v5), some (.int u24), some (.int v31)] [.ref q] (zqV B M [(10, 6)]) := by
            intro N44 hn45
            refine zw_iconst (pc := 82) (v := 0) (by decide) d_Calc_raise_82 ?_
            exact j_83 0 (Or.inl rfl) N44 hn45
          refine zw_if_eq (pc := 64) (tgt := 82) (by decide) d_Calc_raise_64 (fun hc_64 => ?_) (fun hc_64 => ?_)
          · exact j_82 N27 hn30
          · refine zw_aload_n (pc := 67) (n := 0) (x := q) rfl d_Calc_raise_67 ?_
            refine zc_getF hn30 (pc := 68) f_Calc_20 rfl hqk r8f d_Calc_raise_68 ?_
            refine zw_iload_n (pc := 71) (n := 2) (x := v5) rfl d_Calc_raise_71 ?_
            refine zc_callV hn30 (pc := 72) [.int v5] [.ref q] l_Calc_81 (c_Sums_isInBounds l B N27 (hT.mod hn30) r8 r8B (hn30.k r8k) v5) rfl rfl r8k (by decide) (by decide) (Nat.le_of_ble_eq_true rfl) d_Calc_raise_72 (fun r48 N46 hq47 => ?_)
            obtain ⟨hk51, v50, rfl, zv50⟩ := hq47
            have hn49 : zMod B [(10, 6)] M N46 := hn30.call hk51 (by decide)
            show zW l m_Calc_raise (zn M + 0, zw M + 0) N46 75 [some (.ref q), some (.int x0), some (.int v5), some (.int u24), some (.int v31)] [.int v50, .ref q] (zqV B M [(10, 6)])
            refine zw_if_eq (pc := 75) (tgt := 82) (by decide) d_Calc_raise_75 (fun hc_75 => ?_) (fun hc_75 => ?_)
            · exact j_82 N46 hn49
            · refine zw_iconst (pc := 78) (v := 1) (by decide) d_Calc_raise_78 ?_
              refine zw_goto (pc := 79) (tgt := 83) (by decide) d_Calc_raise_79 ?_
              exact j_83 1 (Or.inr rfl) N46 hn49
  exact lp_38 _ 0 N17 hn20 (Nat.lt_succ_self _)
set_option maxHeartbeats 4000000 in
theorem c_Calc_topSign (l : Launch) (B : Nat) (M : zMem) (hT : zTy B M) (q : Nat) (hqB : q < B) (hqk : (zsh M q).1 = 10 + 3) : zC l m_Calc_topSign 0 0 [.ref q] M (zqI B M []) := by
  refine zC_of (L0 := [some (.ref q)]) md_Calc_topSign (Nat.le_of_ble_eq_true rfl) rfl ?_ zQ0
  have hm : zMod B [] M M := zMod.rf
  refine zw_aload_n (pc := 0) (n := 0) (x := q) rfl d_Calc_topSign_0 ?_
  obtain ⟨r1, r1f, r1B, r1k⟩ := hT.1 q 10 1 hqB hqk (by decide) (by decide) rfl
  refine zc_getF hm (pc := 1) f_Calc_14 rfl hqk r1f d_Calc_topSign_1 ?_
  refine zw_aload_n (pc := 4) (n := 0) (x := q) rfl d_Calc_topSign_4 ?_
  refine zc_getI0 hm (pc := 5) (by decide) f_Calc_24 rfl hqk d_Calc_topSign_5 ?_
  refine zw_iconst (pc := 8) (v := 1) (by decide) d_Calc_topSign_8 ?_
  refine zw_isub (pc := 9) d_Calc_topSign_9 ?_
  refine zc_callV hm (pc := 10) [.int ((zi M q 2) - 1)] [] l_Calc_51 (c_IntRow_at l B M (hT.mod hm) r1 r1B (hm.k r1k) ((zi M q 2) - 1)) rfl rfl r1k (by decide) (by decide) (Nat.le_of_ble_eq_true rfl) d_Calc_topSign_10 (fun r4 N2 hq3 => ?_)
  obtain ⟨hk7, v6, rfl⟩ := hq3
  have hn5 : zMod B [] M N2 := hm.call hk7 (by decide)
  show zW l m_Calc_topSign (zn M + 0, zw M + 0) N2 13 [some (.ref q)] [.int v6] (zqI B M [])
  exact zw_iret (S := []) (pc := 13) (ty := .int) rfl rfl d_Calc_topSign_13 ⟨hn5, _, rfl⟩
set_option maxHeartbeats 4000000 in
theorem c_Sums_putNumber (l : Launch) (B : Nat) (M : zMem) (hT : zTy B M) (q : Nat) (hqB : q < B) (hqk : (zsh M q).1 = 7 + 3) (x0 : Int32) (x1 : Int32) (x2 : Int64) : zC l m_Sums_putNumber 0 0 [.ref q, .int x0, .int x1, .long x2] M (zqV B M []) := by
  refine zC_of (L0 := [some (.ref q), some (.int x0), some (.int x1), some (.long x2), none]) md_Sums_putNumber (Nat.le_of_ble_eq_true rfl) rfl ?_ zQ0
  have hm : zMod B [] M M := zMod.rf
  refine zw_aload_n (pc := 0) (n := 0) (x := q) rfl d_Sums_putNumber_0 ?_
  obtain ⟨r1, r1f, r1B, r1k⟩ := hT.1 q 7 1 hqB hqk (by decide) (by decide) rfl
  refine zc_getF hm (pc := 1) f_Sums_16 rfl hqk r1f d_Sums_putNumber_1 ?_
  refine zw_iload_n (pc := 4) (n := 1) (x := x0) rfl d_Sums_putNumber_4 ?_
  refine zw_bipush (pc := 5) (v := 27) (by decide) d_Sums_putNumber_5 ?_
  refine zw_imul (pc := 7) d_Sums_putNumber_7 ?_
  refine zw_iload_n (pc := 8) (n := 2) (x := x1) rfl d_Sums_putNumber_8 ?_
  refine zw_iadd (pc := 9) d_Sums_putNumber_9 ?_
  refine zw_lload_n (pc := 10) (n := 3) (x := x2) rfl d_Sums_putNumber_10 ?_
  refine zc_callV hm (pc := 11) [.int ((x0 * 27) + x1), .long x2] [] l_Sums_31 (c_LongRow_put l B M (hT.mod hm) r1 r1B (hm.k r1k) ((x0 * 27) + x1) x2) rfl rfl r1k (by decide) (by decide) (Nat.le_of_ble_eq_true rfl) d_Sums_putNumber_11 (fun r4 N2 hq3 => ?_)
  obtain ⟨hk7, rfl⟩ := hq3
  have hn5 : zMod B [] M N2 := hm.call hk7 (by decide)
  show zW l m_Sums_putNumber (zn M + 0, zw M + 0) N2 14 [some (.ref q), some (.int x0), some (.int x1), some (.long x2), none] [] (zqV B M [])
  exact zw_vret (S := []) (pc := 14) rfl d_Sums_putNumber_14 ⟨hn5, rfl⟩
set_option maxHeartbeats 4000000 in
theorem c_Sums_putNegative (l : Launch) (B : Nat) (M : zMem) (hT : zTy B M) (q : Nat) (hqB : q < B) (hqk : (zsh M q).1 = 7 + 3) (x0 : Int32) : zC l m_Sums_putNegative 0 0 [.ref q, .int x0] M (zqV B M []) := by
  refine zC_of (L0 := [some (.ref q), some (.int x0), none]) md_Sums_putNegative (Nat.le_of_ble_eq_true rfl) rfl ?_ zQ0
  have hm : zMod B [] M M := zMod.rf
  refine zw_iconst (pc := 0) (v := 0) (by decide) d_Sums_putNegative_0 ?_
  refine zw_istore_n (pc := 1) (i := 2) (L2 := [some (.ref q), some (.int x0), some (.int 0)]) rfl (by decide) rfl d_Sums_putNegative_1 ?_
  obtain ⟨r4, r4f, r4B, r4k⟩ := hT.1 q 7 0 hqB hqk (by decide) (by decide) rfl
  have lp_2 : ∀ (n : Nat) (u1 : Int32) (N2 : zMem) (hn3 : zMod B [] M N2), zvu u1 (zi M r4 7) < n → zW l m_Sums_putNegative (zn M + 0, zw M + 0) N2 2 [some (.ref q), some (.int x0), some (.int u1)] [] (zqV B M []) := by
    intro n
    induction n with
    | zero =>
      intro u1 N2 hn3 h0
      exact absurd h0 (Nat.not_lt_zero _)
    | succ n ih_2 =>
      intro u1 N2 hn3 hlt_2
      refine zw_iload_n (pc := 2) (n := 2) (x := u1) rfl d_Sums_putNegative_2 ?_
      refine zw_aload_n (pc := 3) (n := 0) (x := q) rfl d_Sums_putNegative_3 ?_
      refine zc_getF hn3 (pc := 4) f_Sums_23 rfl hqk r4f d_Sums_putNegative_4 ?_
      refine zc_getI0 hn3 (pc := 7) (by decide) f_Sums_35 rfl r4k d_Sums_putNegative_7 ?_
      refine zw_icmp_ge (pc := 10) (tgt := 32) (by decide) d_Sums_putNegative_10 (fun hc_10 => ?_) (fun hc_10 => ?_)
      · exact zw_vret (S := []) (pc := 32) rfl d_Sums_putNegative_32 ⟨hn3, rfl⟩
      · refine zw_aload_n (pc := 13) (n := 0) (x := q) rfl d_Sums_putNegative_13 ?_
        refine zw_iload_n (pc := 14) (n := 1) (x := x0) rfl d_Sums_putNegative_14 ?_
        refine zw_iload_n (pc := 15) (n := 2) (x := u1) rfl d_Sums_putNegative_15 ?_
        refine zw_aload_n (pc := 16) (n := 0) (x := q) rfl d_Sums_putNegative_16 ?_
        refine zw_iload_n (pc := 17) (n := 1) (x := x0) rfl d_Sums_putNegative_17 ?_
        refine zw_iload_n (pc := 18) (n := 2) (x := u1) rfl d_Sums_putNegative_18 ?_
        refine zc_callV hn3 (pc := 19) [.int x0, .int u1] [.int u1, .int x0, .ref q] l_Sums_67 (c_Sums_numberAt l B N2 (hT.mod hn3) q hqB (hn3.k hqk) x0 u1) rfl rfl hqk (by decide) (by decide) (Nat.le_of_ble_eq_true rfl) d_Sums_putNegative_19 (fun r7 N5 hq6 => ?_)
        obtain ⟨hk10, v9, rfl⟩ := hq6
        have hn8 : zMod B [] M N5 := hn3.call hk10 (by decide)
        show zW l m_Sums_putNegative (zn M + 0, zw M + 0) N5 22 [some (.ref q), some (.int x0), some (.int u1)] [.long v9, .int u1, .int x0, .ref q] (zqV B M [])
        refine zw_lneg (pc := 22) d_Sums_putNegative_22 ?_
        refine zc_callV hn8 (pc := 23) [.int x0, .int u1, .long (-v9)] [] l_Sums_70 (c_Sums_putNumber l B N5 (hT.mod hn8) q hqB (hn8.k hqk) x0 u1 (-v9)) rfl rfl hqk (by decide) (by decide) (Nat.le_of_ble_eq_true rfl) d_Sums_putNegative_23 (fun r14 N12 hq13 => ?_)
        obtain ⟨hk17, rfl⟩ := hq13
        have hn15 : zMod B [] M N12 := hn8.call hk17 (by decide)
        show zW l m_Sums_putNegative (zn M + 0, zw M + 0) N12 26 [some (.ref q), some (.int x0), some (.int u1)] [] (zqV B M [])
        refine zw_iinc (pc := 26) (i := 2) (x := u1) (v := u1 + Int32.ofInt 1) (L2 := [some (.ref q), some (.int x0), some (.int (u1 + Int32.ofInt 1))]) rfl rfl (by decide) rfl d_Sums_putNegative_26 ?_
        refine zw_goto (pc := 29) (tgt := 2) (by decide) d_Sums_putNegative_29 ?_
        exact ih_2 (u1 + Int32.ofInt 1) N12 hn15 (Nat.lt_of_lt_of_le (z_up hc_10) (Nat.le_of_lt_succ hlt_2))
  exact lp_2 _ 0 M hm (Nat.lt_succ_self _)
set_option maxHeartbeats 4000000 in
theorem c_Calc_negate (l : Launch) (B : Nat) (M : zMem) (hT : zTy B M) (q : Nat) (hqB : q < B) (hqk : (zsh M q).1 = 10 + 3) : zC l m_Calc_negate 0 0 [.ref q] M (zqV B M [(10, 2), (10, 4)]) := by
  refine zC_of (L0 := [some (.ref q)]) md_Calc_negate (Nat.le_of_ble_eq_true rfl) rfl ?_ zQ0
  have hm : zMod B [(10, 2), (10, 4)] M M := zMod.rf
  have lp_0 : ∀ (n : Nat) (N1 : zMem) (hn2 : zMod B [(10, 2), (10, 4)] M N1), zvd (zi N1 q 2) < n → zW l m_Calc_negate (zn M + 0, zw M + 0) N1 0 [some (.ref q)] [] (zqV B M [(10, 2), (10, 4)]) := by
    intro n
    induction n with
    | zero =>
      intro N1 hn2 h0
      exact absurd h0 (Nat.not_lt_zero _)
    | succ n ih_0 =>
      intro N1 hn2 hlt_0
      refine zw_aload_n (pc := 0) (n := 0) (x := q) rfl d_Calc_negate_0 ?_
      refine zc_getIe hn2 (x := zi N1 q 2) rfl (pc := 1) f_Calc_24 rfl hqk d_Calc_negate_1 ?_
      refine zw_if_le (pc := 4) (tgt := 50) (by decide) d_Calc_negate_4 (fun hc_4 => ?_) (fun hc_4 => ?_)
      · exact zw_vret (S := []) (pc := 50) rfl d_Calc_negate_50 ⟨hn2, rfl⟩
      · refine zw_aload_n (pc := 7) (n := 0) (x := q) rfl d_Calc_negate_7 ?_
        refine zc_callV hn2 (pc := 8) [] [] l_Calc_89 (c_Calc_topSign l B N1 (hT.mod hn2) q hqB (hn2.k hqk)) rfl rfl hqk (by decide) (by decide) (Nat.le_of_ble_eq_true rfl) d_Calc_negate_8 (fun r5 N3 hq4 => ?_)
        obtain ⟨hk8, v7, rfl⟩ := hq4
        have hn6 : zMod B [(10, 2), (10, 4)] M N3 := hn2.call hk8 (by decide)
        have kv10 : zi N3 q 2 = zi N1 q 2 := (hk8.2.2.2.2 q 10 2 (hn2.k hqk) (by decide)).trans rfl
        show zW l m_Calc_negate (zn M + 0, zw M + 0) N3 11 [some (.ref q)] [.int v7] (zqV B M [(10, 2), (10, 4)])
        refine zw_bipush (pc := 11) (v := 126) (by decide) d_Calc_negate_11 ?_
        refine zw_icmp_ne (pc := 13) (tgt := 50) (by decide) d_Calc_negate_13 (fun hc_13 => ?_) (fun hc_13 => ?_)
        · exact zw_vret (S := []) (pc := 50) rfl d_Calc_negate_50 ⟨hn6, rfl⟩
        · refine zw_aload_n (pc := 16) (n := 0) (x := q) rfl d_Calc_negate_16 ?_
          refine zw_dup (pc := 17) rfl d_Calc_negate_17 ?_
          refine zc_getIe hn6 (x := zi N1 q 2) kv10 (pc := 18) f_Calc_24 rfl hqk d_Calc_negate_18 ?_
          refine zw_iconst (pc := 21) (v := 1) (by decide) d_Calc_negate_21 ?_
          refine zw_isub (pc := 22) d_Calc_negate_22 ?_
          refine zc_putI hn6 (pc := 23) f_Calc_24 rfl rfl hqk hqB (by decide) rfl rfl d_Calc_negate_23 (fun N11 hN11 hn12 => ?_)
          have kv13 : zi N11 q 2 = (zi N1 q 2) - 1 := by rw [hN11]; exact zup2_s
          refine zw_aload_n (pc := 26) (n := 0) (x := q) rfl d_Calc_negate_26 ?_
          refine zw_dup (pc := 27) rfl d_Calc_negate_27 ?_
          refine zc_getI hn12 (pc := 28) f_Calc_31 rfl hqk d_Calc_negate_28 ?_
          refine zw_iconst (pc := 31) (v := 1) (by decide) d_Calc_negate_31 ?_
          refine zw_isub (pc := 32) d_Calc_negate_32 ?_
          refine zc_putI hn12 (pc := 33) f_Calc_31 rfl rfl hqk hqB (by decide) rfl rfl d_Calc_negate_33 (fun N14 hN14 hn15 => ?_)
          have kv16 : zi N14 q 2 = (zi N1 q 2) - 1 := by rw [hN14]; exact (zup2_n (fun z => absurd z.2 (by decide))).trans kv13
          refine zw_aload_n (pc := 36) (n := 0) (x := q) rfl d_Calc_negate_36 ?_
          obtain ⟨r17, r17f, r17B, r17k⟩ := hT.1 q 10 0 hqB hqk (by decide) (by decide) rfl
          refine zc_getF hn15 (pc := 37) f_Calc_20 rfl hqk r17f d_Calc_negate_37 ?_
          refine zw_aload_n (pc := 40) (n := 0) (x := q) rfl d_Calc_negate_40 ?_
          refine zc_callV hn15 (pc := 41) [] [.ref r17] l_Calc_43 (c_Calc_topShelf l B N14 (hT.mod hn15) q hqB (hn15.k hqk)) rfl rfl hqk (by decide) (by decide) (Nat.le_of_ble_eq_true rfl) d_Calc_negate_41 (fun r20 N18 hq19 => ?_)
          obtain ⟨hk23, v22, rfl⟩ := hq19
          have hn21 : zMod B [(10, 2), (10, 4)] M N18 := hn15.call hk23 (by decide)
          have kv25 : zi N18 q 2 = (zi N1 q 2) - 1 := (hk23.2.2.2.2 q 10 2 (hn15.k hqk) (by decide)).trans kv16
          show zW l m_Calc_negate (zn M + 0, zw M + 0) N18 44 [some (.ref q)] [.int v22, .ref r17] (zqV B M [(10, 2), (10, 4)])
          refine zc_callV hn21 (pc := 44) [.int v22] [] l_Calc_92 (c_Sums_putNegative l B N18 (hT.mod hn21) r17 r17B (hn21.k r17k) v22) rfl rfl r17k (by decide) (by decide) (Nat.le_of_ble_eq_true rfl) d_Calc_negate_44 (fun r28 N26 hq27 => ?_)
          obtain ⟨hk31, rfl⟩ := hq27
          have hn29 : zMod B [(10, 2), (10, 4)] M N26 := hn21.call hk31 (by decide)
          have kv33 : zi N26 q 2 = (zi N1 q 2) - 1 := (hk31.2.2.2.2 q 10 2 (hn21.k hqk) (by decide)).trans kv25
          show zW l m_Calc_negate (zn M + 0, zw M + 0) N26 47 [some (.ref q)] [] (zqV B M [(10, 2), (10, 4)])
          refine zw_goto (pc := 47) (tgt := 0) (by decide) d_Calc_negate_47 ?_
          exact ih_0 N26 hn29 (Nat.lt_of_lt_of_le (by rw [kv33]; exact z_dnS hc_4) (Nat.le_of_lt_succ hlt_0))
  exact lp_0 _ M hm (Nat.lt_succ_self _)
set_option maxHeartbeats 4000000 in
theorem c_Sums_add (l : Launch) (B : Nat) (M : zMem) (hT : zTy B M) (q : Nat) (hqB : q < B) (hqk : (zsh M q).1 = 7 + 3) (x0 : Int32) (x1 : Int32) (x2 : Int32) : zC l m_Sums_add 0 0 [.ref q, .int x0, .int x1, .int x2] M (zqV B M []) := by
  refine zC_of (L0 := [some (.ref q), some (.int x0), some (.int x1), some (.int x2), none]) md_Sums_add (Nat.le_of_ble_eq_true rfl) rfl ?_ zQ0
  have hm : zMod B [] M M := zMod.rf
  refine zw_iconst (pc := 0) (v := 0) (by decide) d_Sums_add_0 ?_
  refine zw_istore (pc := 1) (i := 4) (L2 := [some (.ref q), some (.int x0), some (.int x1), some (.int x2), some (.int 0)]) (by decide) rfl d_Sums_add_1 ?_
  obtain ⟨r4, r4f, r4B, r4k⟩ := hT.1 q 7 0 hqB hqk (by decide) (by decide) rfl
  have lp_3 : ∀ (n : Nat) (u1 : Int32) (N2 : zMem) (hn3 : zMod B [] M N2), zvu u1 (zi M r4 7) < n → zW l m_Sums_add (zn M + 0, zw M + 0) N2 3 [some (.ref q), some (.int x0), some (.int x1), some (.int x2), some (.int u1)] [] (zqV B M []) := by
    intro n
    induction n with
    | zero =>
      intro u1 N2 hn3 h0
      exact absurd h0 (Nat.not_lt_zero _)
    | succ n ih_3 =>
      intro u1 N2 hn3 hlt_3
      refine zw_iload (pc := 3) (i := 4) (x := u1) rfl d_Sums_add_3 ?_
      refine zw_aload_n (pc := 5) (n := 0) (x := q) rfl d_Sums_add_5 ?_
      refine zc_getF hn3 (pc := 6) f_Sums_23 rfl hqk r4f d_Sums_add_6 ?_
      refine zc_getI0 hn3 (pc := 9) (by decide) f_Sums_35 rfl r4k d_Sums_add_9 ?_
      refine zw_icmp_ge (pc := 12) (tgt := 46) (by decide) d_Sums_add_12 (fun hc_12 => ?_) (fun hc_12 => ?_)
      · exact zw_vret (S := []) (pc := 46) rfl d_Sums_add_46 ⟨hn3, rfl⟩
      · refine zw_aload_n (pc := 15) (n := 0) (x := q) rfl d_Sums_add_15 ?_
        refine zw_iload_n (pc := 16) (n := 1) (x := x0) rfl d_Sums_add_16 ?_
        refine zw_iload (pc := 17) (i := 4) (x := u1) rfl d_Sums_add_17 ?_
        refine zw_aload_n (pc := 19) (n := 0) (x := q) rfl d_Sums_add_19 ?_
        refine zw_iload_n (pc := 20) (n := 1) (x := x0) rfl d_Sums_add_20 ?_
        refine zw_iload (pc := 21) (i := 4) (x := u1) rfl d_Sums_add_21 ?_
        refine zc_callV hn3 (pc := 23) [.int x0, .int u1] [.int u1, .int x0, .ref q] l_Sums_67 (c_Sums_numberAt l B N2 (hT.mod hn3) q hqB (hn3.k hqk) x0 u1) rfl rfl hqk (by decide) (by decide) (Nat.le_of_ble_eq_true rfl) d_Sums_add_23 (fun r7 N5 hq6 => ?_)
        obtain ⟨hk10, v9, rfl⟩ := hq6
        have hn8 : zMod B [] M N5 := hn3.call hk10 (by decide)
        show zW l m_Sums_add (zn M + 0, zw M + 0) N5 26 [some (.ref q), some (.int x0), some (.int x1), some (.int x2), some (.int u1)] [.long v9, .int u1, .int x0, .ref q] (zqV B M [])
        refine zw_iload_n (pc := 26) (n := 3) (x := x2) rfl d_Sums_add_26 ?_
        refine zw_i2l (pc := 27) d_Sums_add_27 ?_
        refine zw_aload_n (pc := 28) (n := 0) (x := q) rfl d_Sums_add_28 ?_
        refine zw_iload_n (pc := 29) (n := 2) (x := x1) rfl d_Sums_add_29 ?_
        refine zw_iload (pc := 30) (i := 4) (x := u1) rfl d_Sums_add_30 ?_
        refine zc_callV hn8 (pc := 32) [.int x1, .int u1] [.long ((x2 : Int32).toInt64), .long v9, .int u1, .int x0, .ref q] l_Sums_67 (c_Sums_numberAt l B N5 (hT.mod hn8) q hqB (hn8.k hqk) x1 u1) rfl rfl hqk (by decide) (by decide) (Nat.le_of_ble_eq_true rfl) d_Sums_add_32 (fun r14 N12 hq13 => ?_)
        obtain ⟨hk17, v16, rfl⟩ := hq13
        have hn15 : zMod B [] M N12 := hn8.call hk17 (by decide)
        show zW l m_Sums_add (zn M + 0, zw M + 0) N12 35 [some (.ref q), some (.int x0), some (.int x1), some (.int x2), some (.int u1)] [.long v16, .long ((x2 : Int32).toInt64), .long v9, .int u1, .int x0, .ref q] (zqV B M [])
        refine zw_lmul (pc := 35) d_Sums_add_35 ?_
        refine zw_ladd (pc := 36) d_Sums_add_36 ?_
        refine zc_callV hn15 (pc := 37) [.int x0, .int u1, .long (v9 + (((x2 : Int32).toInt64) * v16))] [] l_Sums_70 (c_Sums_putNumber l B N12 (hT.mod hn15) q hqB (hn15.k hqk) x0 u1 (v9 + (((x2 : Int32).toInt64) * v16))) rfl rfl hqk (by decide) (by decide) (Nat.le_of_ble_eq_true rfl) d_Sums_add_37 (fun r21 N19 hq20 => ?_)
        obtain ⟨hk24, rfl⟩ := hq20
        have hn22 : zMod B [] M N19 := hn15.call hk24 (by decide)
        show zW l m_Sums_add (zn M + 0, zw M + 0) N19 40 [some (.ref q), some (.int x0), some (.int x1), some (.int x2), some (.int u1)] [] (zqV B M [])
        refine zw_iinc (pc := 40) (i := 4) (x := u1) (v := u1 + Int32.ofInt 1) (L2 := [some (.ref q), some (.int x0), some (.int x1), some (.int x2), some (.int (u1 + Int32.ofInt 1))]) rfl rfl (by decide) rfl d_Sums_add_40 ?_
        refine zw_goto (pc := 43) (tgt := 3) (by decide) d_Sums_add_43 ?_
        exact ih_3 (u1 + Int32.ofInt 1) N19 hn22 (Nat.lt_of_lt_of_le (z_up hc_12) (Nat.le_of_lt_succ hlt_3))
  exact lp_3 _ 0 M hm (Nat.lt_succ_self _)
set_option maxHeartbeats 4000000 in
theorem c_Calc_reckon (l : Launch) (B : Nat) (M : zMem) (hT : zTy B M) (q : Nat) (hqB : q < B) (hqk : (zsh M q).1 = 10 + 3) (x0 : Int32) : zC l m_Calc_reckon 0 0 [.ref q, .int x0] M (zqV B M [(10, 2), (10, 3), (10, 6)]) := by
  refine zC_of (L0 := [some (.ref q), some (.int x0), none, none, none]) md_Calc_reckon (Nat.le_of_ble_eq_true rfl) rfl ?_ zQ0
  have hm : zMod B [(10, 2), (10, 3), (10, 6)] M M := zMod.rf
  have lp_0 : ∀ (n : Nat) (N1 : zMem) (hn2 : zMod B [(10, 2), (10, 3), (10, 6)] M N1), zvd (zi N1 q 2) < n → zW l m_Calc_reckon (zn M + 0, zw M + 0) N1 0 [some (.ref q), some (.int x0), none, none, none] [] (zqV B M [(10, 2), (10, 3), (10, 6)]) := by
    intro n
    induction n with
    | zero =>
      intro N1 hn2 h0
      exact absurd h0 (Nat.not_lt_zero _)
    | succ n ih_0 =>
      intro N1 hn2 hlt_0
      refine zw_aload_n (pc := 0) (n := 0) (x := q) rfl d_Calc_reckon_0 ?_
      refine zc_getIe hn2 (x := zi N1 q 2) rfl (pc := 1) f_Calc_24 rfl hqk d_Calc_reckon_1 ?_
      refine zw_if_le (pc := 4) (tgt := 147) (by decide) d_Calc_reckon_4 (fun hc_4 => ?_) (fun hc_4 => ?_)
      · exact zw_vret (S := []) (pc := 147) rfl d_Calc_reckon_147 ⟨hn2, rfl⟩
      · refine zw_aload_n (pc := 7) (n := 0) (x := q) rfl d_Calc_reckon_7 ?_
        refine zc_getI hn2 (pc := 8) f_Calc_28 rfl hqk d_Calc_reckon_8 ?_
        refine zw_iconst (pc := 11) (v := 1) (by decide) d_Calc_reckon_11 ?_
        refine zw_icmp_le (pc := 12) (tgt := 147) (by decide) d_Calc_reckon_12 (fun hc_12 => ?_) (fun hc_12 => ?_)
        · exact zw_vret (S := []) (pc := 147) rfl d_Calc_reckon_147 ⟨hn2, rfl⟩
        · refine zw_aload_n (pc := 15) (n := 0) (x := q) rfl d_Calc_reckon_15 ?_
          refine zc_callV hn2 (pc := 16) [] [] l_Calc_89 (c_Calc_topSign l B N1 (hT.mod hn2) q hqB (hn2.k hqk)) rfl rfl hqk (by decide) (by decide) (Nat.le_of_ble_eq_true rfl) d_Calc_reckon_16 (fun r5 N3 hq4 => ?_)
          obtain ⟨hk8, v7, rfl⟩ := hq4
          have hn6 : zMod B [(10, 2), (10, 3), (10, 6)] M N3 := hn2.call hk8 (by decide)
          have kv10 : zi N3 q 2 = zi N1 q 2 := (hk8.2.2.2.2 q 10 2 (hn2.k hqk) (by decide)).trans rfl
          show zW l m_Calc_reckon (zn M + 0, zw M + 0) N3 19 [some (.ref q), some (.int x0), none, none, none] [.int v7] (zqV B M [(10, 2), (10, 3), (10, 6)])
          refine zw_bipush (pc := 19) (v := 40) (by decide) d_Calc_reckon_19 ?_
          refine zw_icmp_eq (pc := 21) (tgt := 147) (by decide) d_Calc_reckon_21 (fun hc_21 => ?_) (fun hc_21 => ?_)
          · exact zw_vret (S := []) (pc := 147) rfl d_Calc_reckon_147 ⟨hn6, rfl⟩
          · refine zw_aload_n (pc := 24) (n := 0) (x := q) rfl d_Calc_reckon_24 ?_
            refine zc_callV hn6 (pc := 25) [] [] l_Calc_89 (c_Calc_topSign l B N3 (hT.mod hn6) q hqB (hn6.k hqk)) rfl rfl hqk (by decide) (by decide) (Nat.le_of_ble_eq_true rfl) d_Calc_reckon_25 (fun r13 N11 hq12 => ?_)
            obtain ⟨hk16, v15, rfl⟩ := hq12
            have hn14 : zMod B [(10, 2), (10, 3), (10, 6)] M N11 := hn6.call hk16 (by decide)
            have kv18 : zi N11 q 2 = zi N1 q 2 := (hk16.2.2.2.2 q 10 2 (hn6.k hqk) (by decide)).trans kv10
            show zW l m_Calc_reckon (zn M + 0, zw M + 0) N11 28 [some (.ref q), some (.int x0), none, none, none] [.int v15] (zqV B M [(10, 2), (10, 3), (10, 6)])
            refine zw_bipush (pc := 28) (v := 42) (by decide) d_Calc_reckon_28 ?_
            have j_37 : ∀ (N19 : zMem) (hn20 : zMod B [(10, 2), (10, 3), (10, 6)] M N19) (ki21 : zi N19 q 2 = zi N1 q 2), zW l m_Calc_reckon (zn M + 0, zw M + 0) N19 37 [some (.ref q), some (.int x0), none, none, none] [] (zqV B M [(10, 2), (10, 3), (10, 6)]) := by
              intro N19 hn20 ki21
              refine zw_aload_n (pc := 37) (n := 0) (x := q) rfl d_Calc_reckon_37 ?_
              refine zc_callV hn20 (pc := 38) [] [] l_Calc_89 (c_Calc_topSign l B N19 (hT.mod hn20) q hqB (hn20.k hqk)) rfl rfl hqk (by decide) (by decide) (Nat.le_of_ble_eq_true rfl) d_Calc_reckon_38 (fun r24 N22 hq23 => ?_)
              obtain ⟨hk27, v26, rfl⟩ := hq23
              have hn25 : zMod B [(10, 2), (10, 3), (10, 6)] M N22 := hn20.call hk27 (by decide)
              have kv29 : zi N22 q 2 = zi N1 q 2 := (hk27.2.2.2.2 q 10 2 (hn20.k hqk) (by decide)).trans ki21
              show zW l m_Calc_reckon (zn M + 0, zw M + 0) N22 41 [some (.ref q), some (.int x0), none, none, none] [.int v26] (zqV B M [(10, 2), (10, 3), (10, 6)])
              refine zw_istore_n (pc := 41) (i := 2) (L2 := [some (.ref q), some (.int x0), some (.int v26), none, none]) rfl (by decide) rfl d_Calc_reckon_41 ?_
              refine zw_aload_n (pc := 42) (n := 0) (x := q) rfl d_Calc_reckon_42 ?_
              refine zc_callV hn25 (pc := 43) [] [] l_Calc_43 (c_Calc_topShelf l B N22 (hT.mod hn25) q hqB (hn25.k hqk)) rfl rfl hqk (by decide) (by decide) (Nat.le_of_ble_eq_true rfl) d_Calc_reckon_43 (fun r32 N30 hq31 => ?_)
              obtain ⟨hk35, v34, rfl⟩ := hq31
              have hn33 : zMod B [(10, 2), (10, 3), (10, 6)] M N30 := hn25.call hk35 (by decide)
              have kv37 : zi N30 q 2 = zi N1 q 2 := (hk35.2.2.2.2 q 10 2 (hn25.k hqk) (by decide)).trans kv29
              show zW l m_Calc_reckon (zn M + 0, zw M + 0) N30 46 [some (.ref q), some (.int x0), some (.int v26), none, none] [.int v34] (zqV B M [(10, 2), (10, 3), (10, 6)])
              refine zw_istore_n (pc := 46) (i := 3) (L2 := [some (.ref q), some (.int x0), some (.int v26), some (.int v34), none]) rfl (by decide) rfl d_Calc_reckon_46 ?_
              refine zw_aload_n (pc := 47) (n := 0) (x := q) rfl d_Calc_reckon_47 ?_
              refine zw_dup (pc := 48) rfl d_Calc_reckon_48 ?_
              refine zc_getIe hn33 (x := zi N1 q 2) kv37 (pc := 49) f_Calc_24 rfl hqk d_Calc_reckon_49 ?_
              refine zw_iconst (pc := 52) (v := 1) (by decide) d_Calc_reckon_52 ?_
              refine zw_isub (pc := 53) d_Calc_reckon_53 ?_
              refine zc_putI hn33 (pc := 54) f_Calc_24 rfl rfl hqk hqB (by decide) rfl rfl d_Calc_reckon_54 (fun N38 hN38 hn39 => ?_)
              have kv40 : zi N38 q 2 = (zi N1 q 2) - 1 := by rw [hN38]; exact zup2_s
              refine zw_aload_n (pc := 57) (n := 0) (x := q) rfl d_Calc_reckon_57 ?_
              refine zw_dup (pc := 58) rfl d_Calc_reckon_58 ?_
              refine zc_getI hn39 (pc := 59) f_Calc_28 rfl hqk d_Calc_reckon_59 ?_
              refine zw_iconst (pc := 62) (v := 1) (by decide) d_Calc_reckon_62 ?_
              refine zw_isub (pc := 63) d_Calc_reckon_63 ?_
              refine zc_putI hn39 (pc := 64) f_Calc_28 rfl rfl hqk hqB (by decide) rfl rfl d_Calc_reckon_64 (fun N41 hN41 hn42 => ?_)
              have kv43 : zi N41 q 2 = (zi N1 q 2) - 1 := by rw [hN41]; exact (zup2_n (fun z => absurd z.2 (by decide))).trans kv40
              refine zw_iconst (pc := 67) (v := 1) (by decide) d_Calc_reckon_67 ?_
              refine zw_istore (pc := 68) (i := 4) (L2 := [some (.ref q), some (.int x0), some (.int v26), some (.int v34), some (.int 1)]) (by decide) rfl d_Calc_reckon_68 ?_
              refine zw_iload_n (pc := 70) (n := 2) (x := v26) rfl d_Calc_reckon_70 ?_
              refine zw_bipush (pc := 71) (v := 42) (by decide) d_Calc_reckon_71 ?_
              have j_116 : ∀ (u44 : Int32) (hu44 : u44 = 0 ∨ u44 = 1) (N45 : zMem) (hn46 : zMod B [(10, 2), (10, 3), (10, 6)] M N45) (ki47 : zi N45 q 2 = (zi N1 q 2) - 1), zW l m_Calc_reckon (zn M + 0, zw M + 0) N45 116 [some (.ref q), some (.int x0), some (.int v26), some (.int v34), some (.int u44)] [] (zqV B M [(10, 2), (10, 3), (10, 6)]) := by
                intro u44 hu44 N45 hn46 ki47
                refine zw_aload_n (pc := 116) (n := 0) (x := q) rfl d_Calc_reckon_116 ?_
                refine zw_iload (pc := 117) (i := 4) (x := u44) rfl d_Calc_reckon_117 ?_
                have j_141 : ∀ (u48 : Int32) (hu48 : u48 = 0 ∨ u48 = 1) (N49 : zMem) (hn50 : zMod B [(10, 2), (10, 3), (10, 6)] M N49) (ki51 : zi N49 q 2 = (zi N1 q 2) - 1), zW l m_Calc_reckon (zn M + 0, zw M + 0) N49 141 [some (.ref q), some (.int x0), some (.int v26), some (.int v34), some (.int u44)] [.int u48, .ref q] (zqV B M [(10, 2), (10, 3), (10, 6)]) := by
                  intro u48 hu48 N49 hn50 ki51
                  refine zc_callV hn50 (pc := 141) [.int u48] [] l_Calc_85 (c_Calc_settle l B N49 (hT.mod hn50) q hqB (hn50.k hqk) u48) rfl rfl hqk (by decide) (by decide) (Nat.le_of_ble_eq_true rfl) d_Calc_reckon_141 (fun r54 N52 hq53 => ?_)
                  obtain ⟨hk57, rfl⟩ := hq53
                  have hn55 : zMod B [(10, 2), (10, 3), (10, 6)] M N52 := hn50.call hk57 (by decide)
                  have kv59 : zi N52 q 2 = (zi N1 q 2) - 1 := (hk57.2.2.2.2 q 10 2 (hn50.k hqk) (by decide)).trans ki51
                  show zW l m_Calc_reckon (zn M + 0, zw M + 0) N52 144 [some (.ref q), some (.int x0), some (.int v26), some (.int v34), some (.int u44)] [] (zqV B M [(10, 2), (10, 3), (10, 6)])
                  refine zw_goto (pc := 144) (tgt := 0) (by decide) d_Calc_reckon_144 ?_
                  refine zW_le [some (.ref q), some (.int x0), none, none, none] (⟨rfl, rfl, trivial⟩) ?_
                  exact ih_0 N52 hn55 (Nat.lt_of_lt_of_le (by rw [kv59]; exact z_dnS hc_4) (Nat.le_of_lt_succ hlt_0))
                have j_140 : ∀ (N60 : zMem) (hn61 : zMod B [(10, 2), (10, 3), (10, 6)] M N60) (ki62 : zi N60 q 2 = (zi N1 q 2) - 1), zW l m_Calc_reckon (zn M + 0, zw M + 0) N60 140 [some (.ref q), some (.int x0), some (.int v26), some (.int v34), some (.int u44)] [.ref q] (zqV B M [(10, 2), (10, 3), (10, 6)]) := by
                  intro N60 hn61 ki62
                  refine zw_iconst (pc := 140) (v := 0) (by decide) d_Calc_reckon_140 ?_
                  exact j_141 0 (Or.inl rfl) N60 hn61 ki62
                refine zw_if_eq (pc := 119) (tgt := 140) (by decide) d_Calc_reckon_119 (fun hc_119 => ?_) (fun hc_119 => ?_)
                · exact j_140 N45 hn46 ki47
                · refine zw_aload_n (pc := 122) (n := 0) (x := q) rfl d_Calc_reckon_122 ?_
                  obtain ⟨r63, r63f, r63B, r63k⟩ := hT.1 q 10 0 hqB hqk (by decide) (by decide) rfl
                  refine zc_getF hn46 (pc := 123) f_Calc_20 rfl hqk r63f d_Calc_reckon_123 ?_
                  refine zw_aload_n (pc := 126) (n := 0) (x := q) rfl d_Calc_reckon_126 ?_
                  refine zc_callV hn46 (pc := 127) [] [.ref r63, .ref q] l_Calc_43 (c_Calc_topShelf l B N45 (hT.mod hn46) q hqB (hn46.k hqk)) rfl rfl hqk (by decide) (by decide) (Nat.le_of_ble_eq_true rfl) d_Calc_reckon_127 (fun r66 N64 hq65 => ?_)
                  obtain ⟨hk69, v68, rfl⟩ := hq65
                  have hn67 : zMod B [(10, 2), (10, 3), (10, 6)] M N64 := hn46.call hk69 (by decide)
                  have kv71 : zi N64 q 2 = (zi N1 q 2) - 1 := (hk69.2.2.2.2 q 10 2 (hn46.k hqk) (by decide)).trans ki47
                  show zW l m_Calc_reckon (zn M + 0, zw M + 0) N64 130 [some (.ref q), some (.int x0), some (.int v26), some (.int v34), some (.int u44)] [.int v68, .ref r63, .ref q] (zqV B M [(10, 2), (10, 3), (10, 6)])
                  refine zc_callV hn67 (pc := 130) [.int v68] [.ref q] l_Calc_81 (c_Sums_isInBounds l B N64 (hT.mod hn67) r63 r63B (hn67.k r63k) v68) rfl rfl r63k (by decide) (by decide) (Nat.le_of_ble_eq_true rfl) d_Calc_reckon_130 (fun r74 N72 hq73 => ?_)
                  obtain ⟨hk77, v76, rfl, zv76⟩ := hq73
                  have hn75 : zMod B [(10, 2), (10, 3), (10, 6)] M N72 := hn67.call hk77 (by decide)
                  have kv79 : zi N72 q 2 = (zi N1 q 2) - 1 := (hk77.2.2.2.2 q 10 2 (hn67.k hqk) (by decide)).trans kv71
                  show zW l m_Calc_reckon (zn M + 0, zw M + 0) N72 133 [some (.ref q), some (.int x0), some (.int v26), some (.int v34), some (.int u44)] [.int v76, .ref q] (zqV B M [(10, 2), (10, 3), (10, 6)])
                  refine zw_if_eq (pc := 133) (tgt := 140) (by decide) d_Calc_reckon_133 (fun hc_133 => ?_) (fun hc_133 => ?_)
                  · exact j_140 N72 hn75 kv79
                  · refine zw_iconst (pc := 136) (v := 1) (by decide) d_Calc_reckon_136 ?_
                    refine zw_goto (pc := 137) (tgt := 141) (by decide) d_Calc_reckon_137 ?_
                    exact j_141 1 (Or.inr rfl) N72 hn75 kv79
              refine zw_icmp_ne (pc := 73) (tgt := 93) (by decide) d_Calc_reckon_73 (fun hc_73 => ?_) (fun hc_73 => ?_)
              · refine zw_aload_n (pc := 93) (n := 0) (x := q) rfl d_Calc_reckon_93 ?_
                obtain ⟨r80, r80f, r80B, r80k⟩ := hT.1 q 10 0 hqB hqk (by decide) (by decide) rfl
                refine zc_getF hn42 (pc := 94) f_Calc_20 rfl hqk r80f d_Calc_reckon_94 ?_
                refine zw_aload_n (pc := 97) (n := 0) (x := q) rfl d_Calc_reckon_97 ?_
                refine zc_callV hn42 (pc := 98) [] [.ref r80] l_Calc_43 (c_Calc_topShelf l B N41 (hT.mod hn42) q hqB (hn42.k hqk)) rfl rfl hqk (by decide) (by decide) (Nat.le_of_ble_eq_true rfl) d_Calc_reckon_98 (fun r83 N81 hq82 => ?_)
                obtain ⟨hk86, v85, rfl⟩ := hq82
                have hn84 : zMod B [(10, 2), (10, 3), (10, 6)] M N81 := hn42.call hk86 (by decide)
                have kv88 : zi N81 q 2 = (zi N1 q 2) - 1 := (hk86.2.2.2.2 q 10 2 (hn42.k hqk) (by decide)).trans kv43
                show zW l m_Calc_reckon (zn M + 0, zw M + 0) N81 101 [some (.ref q), some (.int x0), some (.int v26), some (.int v34), some (.int 1)] [.int v85, .ref r80] (zqV B M [(10, 2), (10, 3), (10, 6)])
                refine zw_iload_n (pc := 101) (n := 3) (x := v34) rfl d_Calc_reckon_101 ?_
                refine zw_iload_n (pc := 102) (n := 2) (x := v26) rfl d_Calc_reckon_102 ?_
                refine zw_bipush (pc := 103) (v := 43) (by decide) d_Calc_reckon_103 ?_
                have j_113 : ∀ (u89 : Int32) (N90 : zMem) (hn91 : zMod B [(10, 2), (10, 3), (10, 6)] M N90) (ki92 : zi N90 q 2 = (zi N1 q 2) - 1), zW l m_Calc_reckon (zn M + 0, zw M + 0) N90 113 [some (.ref q), some (.int x0), some (.int v26), some (.int v34), some (.int 1)] [.int u89, .int v34, .int v85, .ref r80] (zqV B M [(10, 2), (10, 3), (10, 6)]) := by
                  intro u89 N90 hn91 ki92
                  refine zc_callV hn91 (pc := 113) [.int v85, .int v34, .int u89] [] l_Calc_98 (c_Sums_add l B N90 (hT.mod hn91) r80 r80B (hn91.k r80k) v85 v34 u89) rfl rfl r80k (by decide) (by decide) (Nat.le_of_ble_eq_true rfl) d_Calc_reckon_113 (fun r95 N93 hq94 => ?_)
                  obtain ⟨hk98, rfl⟩ := hq94
                  have hn96 : zMod B [(10, 2), (10, 3), (10, 6)] M N93 := hn91.call hk98 (by decide)
                  have kv100 : zi N93 q 2 = (zi N1 q 2) - 1 := (hk98.2.2.2.2 q 10 2 (hn91.k hqk) (by decide)).trans ki92
                  show zW l m_Calc_reckon (zn M + 0, zw M + 0) N93 116 [some (.ref q), some (.int x0), some (.int v26), some (.int v34), some (.int 1)] [] (zqV B M [(10, 2), (10, 3), (10, 6)])
                  exact j_116 1 (Or.inr rfl) N93 hn96 kv100
                refine zw_icmp_ne (pc := 105) (tgt := 112) (by decide) d_Calc_reckon_105 (fun hc_105 => ?_) (fun hc_105 => ?_)
                · refine zw_iconst (pc := 112) (v := (-1)) (by decide) d_Calc_reckon_112 ?_
                  exact j_113 ((-1)) N81 hn84 kv88
                · refine zw_iconst (pc := 108) (v := 1) (by decide) d_Calc_reckon_108 ?_
                  refine zw_goto (pc := 109) (tgt := 113) (by decide) d_Calc_reckon_109 ?_
                  exact j_113 1 N81 hn84 kv88
              · refine zw_aload_n (pc := 76) (n := 0) (x := q) rfl d_Calc_reckon_76 ?_
                obtain ⟨r101, r101f, r101B, r101k⟩ := hT.1 q 10 0 hqB hqk (by decide) (by decide) rfl
                refine zc_getF hn42 (pc := 77) f_Calc_20 rfl hqk r101f d_Calc_reckon_77 ?_
                refine zw_aload_n (pc := 80) (n := 0) (x := q) rfl d_Calc_reckon_80 ?_
                refine zc_callV hn42 (pc := 81) [] [.ref r101] l_Calc_43 (c_Calc_topShelf l B N41 (hT.mod hn42) q hqB (hn42.k hqk)) rfl rfl hqk (by decide) (by decide) (Nat.le_of_ble_eq_true rfl) d_Calc_reckon_81 (fun r104 N102 hq103 => ?_)
                obtain ⟨hk107, v106, rfl⟩ := hq103
                have hn105 : zMod B [(10, 2), (10, 3), (10, 6)] M N102 := hn42.call hk107 (by decide)
                have kv109 : zi N102 q 2 = (zi N1 q 2) - 1 := (hk107.2.2.2.2 q 10 2 (hn42.k hqk) (by decide)).trans kv43
                show zW l m_Calc_reckon (zn M + 0, zw M + 0) N102 84 [some (.ref q), some (.int x0), some (.int v26), some (.int v34), some (.int 1)] [.int v106, .ref r101] (zqV B M [(10, 2), (10, 3), (10, 6)])
                refine zw_iload_n (pc := 84) (n := 3) (x := v34) rfl d_Calc_reckon_84 ?_
                refine zc_callV hn105 (pc := 85) [.int v106, .int v34] [] l_Calc_77 (c_Sums_multiply l B N102 (hT.mod hn105) r101 r101B (hn105.k r101k) v106 v34) rfl rfl r101k (by decide) (by decide) (Nat.le_of_ble_eq_true rfl) d_Calc_reckon_85 (fun r112 N110 hq111 => ?_)
                obtain ⟨hk115, v114, rfl, zv114⟩ := hq111
                have hn113 : zMod B [(10, 2), (10, 3), (10, 6)] M N110 := hn105.call hk115 (by decide)
                have kv117 : zi N110 q 2 = (zi N1 q 2) - 1 := (hk115.2.2.2.2 q 10 2 (hn105.k hqk) (by decide)).trans kv109
                show zW l m_Calc_reckon (zn M + 0, zw M + 0) N110 88 [some (.ref q), some (.int x0), some (.int v26), some (.int v34), some (.int 1)] [.int v114] (zqV B M [(10, 2), (10, 3), (10, 6)])
                refine zw_istore (pc := 88) (i := 4) (L2 := [some (.ref q), some (.int x0), some (.int v26), some (.int v34), some (.int v114)]) (by decide) rfl d_Calc_reckon_88 ?_
                refine zw_goto (pc := 90) (tgt := 116) (by decide) d_Calc_reckon_90 ?_
                exact j_116 v114 (zv114) N110 hn113 kv117
            refine zw_icmp_eq (pc := 30) (tgt := 37) (by decide) d_Calc_reckon_30 (fun hc_30 => ?_) (fun hc_30 => ?_)
            · exact j_37 N11 hn14 kv18
            · refine zw_iload_n (pc := 33) (n := 1) (x := x0) rfl d_Calc_reckon_33 ?_
              refine zw_if_ne (pc := 34) (tgt := 147) (by decide) d_Calc_reckon_34 (fun hc_34 => ?_) (fun hc_34 => ?_)
              · exact zw_vret (S := []) (pc := 147) rfl d_Calc_reckon_147 ⟨hn14, rfl⟩
              · exact j_37 N11 hn14 kv18
  exact lp_0 _ M hm (Nat.lt_succ_self _)
set_option maxHeartbeats 4000000 in
theorem c_Calc_close (l : Launch) (B : Nat) (M : zMem) (hT : zTy B M) (q : Nat) (hqB : q < B) (hqk : (zsh M q).1 = 10 + 3) : zC l m_Calc_close 0 0 [.ref q] M (zqV B M [(10, 2), (10, 4), (10, 5)]) := by
  refine zC_of (L0 := [some (.ref q)]) md_Calc_close (Nat.le_of_ble_eq_true rfl) rfl ?_ zQ0
  have hm : zMod B [(10, 2), (10, 4), (10, 5)] M M := zMod.rf
  refine zw_aload_n (pc := 0) (n := 0) (x := q) rfl d_Calc_close_0 ?_
  refine zc_getI hm (pc := 1) f_Calc_24 rfl hqk d_Calc_close_1 ?_
  refine zw_if_le (pc := 4) (tgt := 37) (by decide) d_Calc_close_4 (fun hc_4 => ?_) (fun hc_4 => ?_)
  · exact zw_vret (S := []) (pc := 37) rfl d_Calc_close_37 ⟨hm, rfl⟩
  · refine zw_aload_n (pc := 7) (n := 0) (x := q) rfl d_Calc_close_7 ?_
    refine zw_dup (pc := 8) rfl d_Calc_close_8 ?_
    refine zc_getI hm (pc := 9) f_Calc_24 rfl hqk d_Calc_close_9 ?_
    refine zw_iconst (pc := 12) (v := 1) (by decide) d_Calc_close_12 ?_
    refine zw_isub (pc := 13) d_Calc_close_13 ?_
    refine zc_putI hm (pc := 14) f_Calc_24 rfl rfl hqk hqB (by decide) rfl rfl d_Calc_close_14 (fun N1 hN1 hn2 => ?_)
    refine zw_aload_n (pc := 17) (n := 0) (x := q) rfl d_Calc_close_17 ?_
    refine zw_dup (pc := 18) rfl d_Calc_close_18 ?_
    refine zc_getI hn2 (pc := 19) f_Calc_31 rfl hqk d_Calc_close_19 ?_
    refine zw_iconst (pc := 22) (v := 1) (by decide) d_Calc_close_22 ?_
    refine zw_isub (pc := 23) d_Calc_close_23 ?_
    refine zc_putI hn2 (pc := 24) f_Calc_31 rfl rfl hqk hqB (by decide) rfl rfl d_Calc_close_24 (fun N3 hN3 hn4 => ?_)
    refine zw_aload_n (pc := 27) (n := 0) (x := q) rfl d_Calc_close_27 ?_
    refine zw_dup (pc := 28) rfl d_Calc_close_28 ?_
    refine zc_getI hn4 (pc := 29) f_Calc_34 rfl hqk d_Calc_close_29 ?_
    refine zw_iconst (pc := 32) (v := 1) (by decide) d_Calc_close_32 ?_
    refine zw_isub (pc := 33) d_Calc_close_33 ?_
    refine zc_putI hn4 (pc := 34) f_Calc_34 rfl rfl hqk hqB (by decide) rfl rfl d_Calc_close_34 (fun N5 hN5 hn6 => ?_)
    exact zw_vret (S := []) (pc := 37) rfl d_Calc_close_37 ⟨hn6, rfl⟩
set_option maxHeartbeats 4000000 in
theorem c_Reader_readBehind (l : Launch) (B : Nat) (M : zMem) (hT : zTy B M) (q : Nat) (hqB : q < B) (hqk : (zsh M q).1 = 3 + 3) (a0 : Nat) (a0B : a0 < B) (a0k : (zsh M a0).1 = 10 + 3) : zC l m_Reader_readBehind 0 0 [.ref q, .ref a0] M (zqZ B M [(1, 2), (1, 3), (1, 4), (1, 5), (3, 2), (3, 3), (10, 2), (10, 3), (10, 4), (10, 5), (10, 6)]) := by
  refine zC_of (L0 := [some (.ref q), some (.ref a0), none]) md_Reader_readBehind (Nat.le_of_ble_eq_true rfl) rfl ?_ zQ0
  have hm : zMod B [(1, 2), (1, 3), (1, 4), (1, 5), (3, 2), (3, 3), (10, 2), (10, 3), (10, 4), (10, 5), (10, 6)] M M := zMod.rf
  refine zw_iconst (pc := 0) (v := 0) (by decide) d_Reader_readBehind_0 ?_
  refine zw_istore_n (pc := 1) (i := 2) (L2 := [some (.ref q), some (.ref a0), some (.int 0)]) rfl (by decide) rfl d_Reader_readBehind_1 ?_
  have lp_2 : ∀ (n : Nat) (u1 : Int32) (N2 : zMem) (hn3 : zMod B [(1, 2), (1, 3), (1, 4), (1, 5), (3, 2), (3, 3), (10, 2), (10, 3), (10, 4), (10, 5), (10, 6)] M N2), zvq u1 30 < n → zW l m_Reader_readBehind (zn M + 0, zw M + 0) N2 2 [some (.ref q), some (.ref a0), some (.int u1)] [] (zqZ B M [(1, 2), (1, 3), (1, 4), (1, 5), (3, 2), (3, 3), (10, 2), (10, 3), (10, 4), (10, 5), (10, 6)]) := by
    intro n
    induction n with
    | zero =>
      intro u1 N2 hn3 h0
      exact absurd h0 (Nat.not_lt_zero _)
    | succ n ih_2 =>
      intro u1 N2 hn3 hlt_2
      refine zw_iload_n (pc := 2) (n := 2) (x := u1) rfl d_Reader_readBehind_2 ?_
      refine zw_bipush (pc := 3) (v := 30) (by decide) d_Reader_readBehind_3 ?_
      refine zw_icmp_gt (pc := 5) (tgt := 120) (by decide) d_Reader_readBehind_5 (fun hc_5 => ?_) (fun hc_5 => ?_)
      · refine zw_aload_n (pc := 120) (n := 0) (x := q) rfl d_Reader_readBehind_120 ?_
        refine zw_iconst (pc := 121) (v := 2) (by decide) d_Reader_readBehind_121 ?_
        refine zc_callV hn3 (pc := 122) [.int 2] [] l_Reader_41 (c_Reader_refuse l B N2 (hT.mod hn3) q hqB (hn3.k hqk) 2) rfl rfl hqk (by decide) (by decide) (Nat.le_of_ble_eq_true rfl) d_Reader_readBehind_122 (fun r6 N4 hq5 => ?_)
        obtain ⟨hk9, v8, rfl, zv8⟩ := hq5
        have hn7 : zMod B [(1, 2), (1, 3), (1, 4), (1, 5), (3, 2), (3, 3), (10, 2), (10, 3), (10, 4), (10, 5), (10, 6)] M N4 := hn3.call hk9 (by decide)
        show zW l m_Reader_readBehind (zn M + 0, zw M + 0) N4 125 [some (.ref q), some (.ref a0), some (.int u1)] [.int v8] (zqZ B M [(1, 2), (1, 3), (1, 4), (1, 5), (3, 2), (3, 3), (10, 2), (10, 3), (10, 4), (10, 5), (10, 6)])
        exact zw_iret (S := []) (pc := 125) (ty := .boolean) rfl (z_narZ (zv8)) d_Reader_readBehind_125 ⟨hn7, _, rfl, zv8⟩
      · refine zw_aload_n (pc := 8) (n := 0) (x := q) rfl d_Reader_readBehind_8 ?_
        obtain ⟨r11, r11f, r11B, r11k⟩ := hT.1 q 3 0 hqB hqk (by decide) (by decide) rfl
        refine zc_getF hn3 (pc := 9) f_Reader_15 rfl hqk r11f d_Reader_readBehind_9 ?_
        refine zw_bipush (pc := 12) (v := 94) (by decide) d_Reader_readBehind_12 ?_
        refine zc_callV hn3 (pc := 14) [.int 94] [] l_Reader_37 (c_Tokens_isSign l B N2 (hT.mod hn3) r11 r11B (hn3.k r11k) 94) rfl rfl r11k (by decide) (by decide) (Nat.le_of_ble_eq_true rfl) d_Reader_readBehind_14 (fun r14 N12 hq13 => ?_)
        obtain ⟨hk17, v16, rfl, zv16⟩ := hq13
        have hn15 : zMod B [(1, 2), (1, 3), (1, 4), (1, 5), (3, 2), (3, 3), (10, 2), (10, 3), (10, 4), (10, 5), (10, 6)] M N12 := hn3.call hk17 (by decide)
        show zW l m_Reader_readBehind (zn M + 0, zw M + 0) N12 17 [some (.ref q), some (.ref a0), some (.int u1)] [.int v16] (zqZ B M [(1, 2), (1, 3), (1, 4), (1, 5), (3, 2), (3, 3), (10, 2), (10, 3), (10, 4), (10, 5), (10, 6)])
        have j_73 : ∀ (N19 : zMem) (hn20 : zMod B [(1, 2), (1, 3), (1, 4), (1, 5), (3, 2), (3, 3), (10, 2), (10, 3), (10, 4), (10, 5), (10, 6)] M N19), zW l m_Reader_readBehind (zn M + 0, zw M + 0) N19 73 [some (.ref q), some (.ref a0), some (.int u1)] [] (zqZ B M [(1, 2), (1, 3), (1, 4), (1, 5), (3, 2), (3, 3), (10, 2), (10, 3), (10, 4), (10, 5), (10, 6)]) := by
          intro N19 hn20
          refine zw_aload_n (pc := 73) (n := 1) (x := a0) rfl d_Reader_readBehind_73 ?_
          refine zc_callV hn20 (pc := 74) [] [] l_Reader_182 (c_Calc_negate l B N19 (hT.mod hn20) a0 a0B (hn20.k a0k)) rfl rfl a0k (by decide) (by decide) (Nat.le_of_ble_eq_true rfl) d_Reader_readBehind_74 (fun r23 N21 hq22 => ?_)
          obtain ⟨hk26, rfl⟩ := hq22
          have hn24 : zMod B [(1, 2), (1, 3), (1, 4), (1, 5), (3, 2), (3, 3), (10, 2), (10, 3), (10, 4), (10, 5), (10, 6)] M N21 := hn20.call hk26 (by decide)
          show zW l m_Reader_readBehind (zn M + 0, zw M + 0) N21 77 [some (.ref q), some (.ref a0), some (.int u1)] [] (zqZ B M [(1, 2), (1, 3), (1, 4), (1, 5), (3, 2), (3, 3), (10, 2), (10, 3), (10, 4), (10, 5), (10, 6)])
          refine zw_aload_n (pc := 77) (n := 1) (x := a0) rfl d_Reader_readBehind_77 ?_
          refine zc_getI hn24 (pc := 78) f_Reader_142 rfl a0k d_Reader_readBehind_78 ?_
          refine zw_if_le (pc := 81) (tgt := 96) (by decide) d_Reader_readBehind_81 (fun hc_81 => ?_) (fun hc_81 => ?_)
          · refine zw_iconst (pc := 96) (v := 1) (by decide) d_Reader_readBehind_96 ?_
            exact zw_iret (S := []) (pc := 97) (ty := .boolean) rfl (z_narZ (Or.inr rfl)) d_Reader_readBehind_97 ⟨hn24, _, rfl, Or.inr rfl⟩
          · refine zw_aload_n (pc := 84) (n := 0) (x := q) rfl d_Reader_readBehind_84 ?_
            refine zc_getF hn24 (pc := 85) f_Reader_15 rfl hqk r11f d_Reader_readBehind_85 ?_
            refine zw_bipush (pc := 88) (v := 41) (by decide) d_Reader_readBehind_88 ?_
            refine zc_callV hn24 (pc := 90) [.int 41] [] l_Reader_37 (c_Tokens_isSign l B N21 (hT.mod hn24) r11 r11B (hn24.k r11k) 41) rfl rfl r11k (by decide) (by decide) (Nat.le_of_ble_eq_true rfl) d_Reader_readBehind_90 (fun r30 N28 hq29 => ?_)
            obtain ⟨hk33, v32, rfl, zv32⟩ := hq29
            have hn31 : zMod B [(1, 2), (1, 3), (1, 4), (1, 5), (3, 2), (3, 3), (10, 2), (10, 3), (10, 4), (10, 5), (10, 6)] M N28 := hn24.call hk33 (by decide)
            show zW l m_Reader_readBehind (zn M + 0, zw M + 0) N28 93 [some (.ref q), some (.ref a0), some (.int u1)] [.int v32] (zqZ B M [(1, 2), (1, 3), (1, 4), (1, 5), (3, 2), (3, 3), (10, 2), (10, 3), (10, 4), (10, 5), (10, 6)])
            refine zw_if_ne (pc := 93) (tgt := 98) (by decide) d_Reader_readBehind_93 (fun hc_93 => ?_) (fun hc_93 => ?_)
            · refine zw_aload_n (pc := 98) (n := 1) (x := a0) rfl d_Reader_readBehind_98 ?_
              refine zw_iconst (pc := 99) (v := 0) (by decide) d_Reader_readBehind_99 ?_
              refine zc_callV hn31 (pc := 100) [.int 0] [] l_Reader_145 (c_Calc_reckon l B N28 (hT.mod hn31) a0 a0B (hn31.k a0k) 0) rfl rfl a0k (by decide) (by decide) (Nat.le_of_ble_eq_true rfl) d_Reader_readBehind_100 (fun r37 N35 hq36 => ?_)
              obtain ⟨hk40, rfl⟩ := hq36
              have hn38 : zMod B [(1, 2), (1, 3), (1, 4), (1, 5), (3, 2), (3, 3), (10, 2), (10, 3), (10, 4), (10, 5), (10, 6)] M N35 := hn31.call hk40 (by decide)
              show zW l m_Reader_readBehind (zn M + 0, zw M + 0) N35 103 [some (.ref q), some (.ref a0), some (.int u1)] [] (zqZ B M [(1, 2), (1, 3), (1, 4), (1, 5), (3, 2), (3, 3), (10, 2), (10, 3), (10, 4), (10, 5), (10, 6)])
              refine zw_aload_n (pc := 103) (n := 1) (x := a0) rfl d_Reader_readBehind_103 ?_
              refine zc_callV hn38 (pc := 104) [] [] l_Reader_185 (c_Calc_close l B N35 (hT.mod hn38) a0 a0B (hn38.k a0k)) rfl rfl a0k (by decide) (by decide) (Nat.le_of_ble_eq_true rfl) d_Reader_readBehind_104 (fun r44 N42 hq43 => ?_)
              obtain ⟨hk47, rfl⟩ := hq43
              have hn45 : zMod B [(1, 2), (1, 3), (1, 4), (1, 5), (3, 2), (3, 3), (10, 2), (10, 3), (10, 4), (10, 5), (10, 6)] M N42 := hn38.call hk47 (by decide)
              show zW l m_Reader_readBehind (zn M + 0, zw M + 0) N42 107 [some (.ref q), some (.ref a0), some (.int u1)] [] (zqZ B M [(1, 2), (1, 3), (1, 4), (1, 5), (3, 2), (3, 3), (10, 2), (10, 3), (10, 4), (10, 5), (10, 6)])
              refine zw_aload_n (pc := 107) (n := 0) (x := q) rfl d_Reader_readBehind_107 ?_
              refine zc_getF hn45 (pc := 108) f_Reader_15 rfl hqk r11f d_Reader_readBehind_108 ?_
              refine zc_callV hn45 (pc := 111) [] [] l_Reader_44 (c_Tokens_step l B N42 (hT.mod hn45) r11 r11B (hn45.k r11k)) rfl rfl r11k (by decide) (by decide) (Nat.le_of_ble_eq_true rfl) d_Reader_readBehind_111 (fun r51 N49 hq50 => ?_)
              obtain ⟨hk54, rfl⟩ := hq50
              have hn52 : zMod B [(1, 2), (1, 3), (1, 4), (1, 5), (3, 2), (3, 3), (10, 2), (10, 3), (10, 4), (10, 5), (10, 6)] M N49 := hn45.call hk54 (by decide)
              show zW l m_Reader_readBehind (zn M + 0, zw M + 0) N49 114 [some (.ref q), some (.ref a0), some (.int u1)] [] (zqZ B M [(1, 2), (1, 3), (1, 4), (1, 5), (3, 2), (3, 3), (10, 2), (10, 3), (10, 4), (10, 5), (10, 6)])
              refine zw_iinc (pc := 114) (i := 2) (x := u1) (v := u1 + Int32.ofInt 1) (L2 := [some (.ref q), some (.ref a0), some (.int (u1 + Int32.ofInt 1))]) rfl rfl (by decide) rfl d_Reader_readBehind_114 ?_
              refine zw_goto (pc := 117) (tgt := 2) (by decide) d_Reader_readBehind_117 ?_
              exact ih_2 (u1 + Int32.ofInt 1) N49 hn52 (Nat.lt_of_lt_of_le (z_upq (by decide) hc_5) (Nat.le_of_lt_succ hlt_2))
            · refine zw_iconst (pc := 96) (v := 1) (by decide) d_Reader_readBehind_96 ?_
              exact zw_iret (S := []) (pc := 97) (ty := .boolean) rfl (z_narZ (Or.inr rfl)) d_Reader_readBehind_97 ⟨hn31, _, rfl, Or.inr rfl⟩
        refine zw_if_eq (pc := 17) (tgt := 73) (by decide) d_Reader_readBehind_17 (fun hc_17 => ?_) (fun hc_17 => ?_)
        · exact j_73 N12 hn15
        · refine zw_aload_n (pc := 20) (n := 0) (x := q) rfl d_Reader_readBehind_20 ?_
          refine zc_getF hn15 (pc := 21) f_Reader_15 rfl hqk r11f d_Reader_readBehind_21 ?_
          refine zc_callV hn15 (pc := 24) [] [] l_Reader_44 (c_Tokens_step l B N12 (hT.mod hn15) r11 r11B (hn15.k r11k)) rfl rfl r11k (by decide) (by decide) (Nat.le_of_ble_eq_true rfl) d_Reader_readBehind_24 (fun r58 N56 hq57 => ?_)
          obtain ⟨hk61, rfl⟩ := hq57
          have hn59 : zMod B [(1, 2), (1, 3), (1, 4), (1, 5), (3, 2), (3, 3), (10, 2), (10, 3), (10, 4), (10, 5), (10, 6)] M N56 := hn15.call hk61 (by decide)
          show zW l m_Reader_readBehind (zn M + 0, zw M + 0) N56 27 [some (.ref q), some (.ref a0), some (.int u1)] [] (zqZ B M [(1, 2), (1, 3), (1, 4), (1, 5), (3, 2), (3, 3), (10, 2), (10, 3), (10, 4), (10, 5), (10, 6)])
          refine zw_aload_n (pc := 27) (n := 0) (x := q) rfl d_Reader_readBehind_27 ?_
          refine zc_getF hn59 (pc := 28) f_Reader_15 rfl hqk r11f d_Reader_readBehind_28 ?_
          refine zc_callV hn59 (pc := 31) [] [] l_Reader_53 (c_Tokens_isNumber l B N56 (hT.mod hn59) r11 r11B (hn59.k r11k)) rfl rfl r11k (by decide) (by decide) (Nat.le_of_ble_eq_true rfl) d_Reader_readBehind_31 (fun r65 N63 hq64 => ?_)
          obtain ⟨hk68, v67, rfl, zv67⟩ := hq64
          have hn66 : zMod B [(1, 2), (1, 3), (1, 4), (1, 5), (3, 2), (3, 3), (10, 2), (10, 3), (10, 4), (10, 5), (10, 6)] M N63 := hn59.call hk68 (by decide)
          show zW l m_Reader_readBehind (zn M + 0, zw M + 0) N63 34 [some (.ref q), some (.ref a0), some (.int u1)] [.int v67] (zqZ B M [(1, 2), (1, 3), (1, 4), (1, 5), (3, 2), (3, 3), (10, 2), (10, 3), (10, 4), (10, 5), (10, 6)])
          have j_49 : ∀ (N70 : zMem) (hn71 : zMod B [(1, 2), (1, 3), (1, 4), (1, 5), (3, 2), (3, 3), (10, 2), (10, 3), (10, 4), (10, 5), (10, 6)] M N70), zW l m_Reader_readBehind (zn M + 0, zw M + 0) N70 49 [some (.ref q), some (.ref a0), some (.int u1)] [] (zqZ B M [(1, 2), (1, 3), (1, 4), (1, 5), (3, 2), (3, 3), (10, 2), (10, 3), (10, 4), (10, 5), (10, 6)]) := by
            intro N70 hn71
            refine zw_aload_n (pc := 49) (n := 0) (x := q) rfl d_Reader_readBehind_49 ?_
            refine zw_iconst (pc := 50) (v := 2) (by decide) d_Reader_readBehind_50 ?_
            refine zc_callV hn71 (pc := 51) [.int 2] [] l_Reader_41 (c_Reader_refuse l B N70 (hT.mod hn71) q hqB (hn71.k hqk) 2) rfl rfl hqk (by decide) (by decide) (Nat.le_of_ble_eq_true rfl) d_Reader_readBehind_51 (fun r74 N72 hq73 => ?_)
            obtain ⟨hk77, v76, rfl, zv76⟩ := hq73
            have hn75 : zMod B [(1, 2), (1, 3), (1, 4), (1, 5), (3, 2), (3, 3), (10, 2), (10, 3), (10, 4), (10, 5), (10, 6)] M N72 := hn71.call hk77 (by decide)
            show zW l m_Reader_readBehind (zn M + 0, zw M + 0) N72 54 [some (.ref q), some (.ref a0), some (.int u1)] [.int v76] (zqZ B M [(1, 2), (1, 3), (1, 4), (1, 5), (3, 2), (3, 3), (10, 2), (10, 3), (10, 4), (10, 5), (10, 6)])
            exact zw_iret (S := []) (pc := 54) (ty := .boolean) rfl (z_narZ (zv76)) d_Reader_readBehind_54 ⟨hn75, _, rfl, zv76⟩
          refine zw_if_eq (pc := 34) (tgt := 49) (by decide) d_Reader_readBehind_34 (fun hc_34 => ?_) (fun hc_34 => ?_)
          · exact j_49 N63 hn66
          · refine zw_aload_n (pc := 37) (n := 0) (x := q) rfl d_Reader_readBehind_37 ?_
            refine zc_getF hn66 (pc := 38) f_Reader_15 rfl hqk r11f d_Reader_readBehind_38 ?_
            refine zc_getI hn66 (pc := 41) f_Reader_57 rfl r11k d_Reader_readBehind_41 ?_
            refine zw_bipush (pc := 44) (v := 9) (by decide) d_Reader_readBehind_44 ?_
            refine zw_icmp_le (pc := 46) (tgt := 55) (by decide) d_Reader_readBehind_46 (fun hc_46 => ?_) (fun hc_46 => ?_)
            · refine zw_aload_n (pc := 55) (n := 1) (x := a0) rfl d_Reader_readBehind_55 ?_
              refine zw_aload_n (pc := 56) (n := 0) (x := q) rfl d_Reader_readBehind_56 ?_
              refine zc_getF hn66 (pc := 57) f_Reader_15 rfl hqk r11f d_Reader_readBehind_57 ?_
              refine zc_getI hn66 (pc := 60) f_Reader_57 rfl r11k d_Reader_readBehind_60 ?_
              refine zc_callV hn66 (pc := 63) [.int (zi N63 r11 5)] [] l_Reader_179 (c_Calc_raise l B N63 (hT.mod hn66) a0 a0B (hn66.k a0k) (zi N63 r11 5)) rfl rfl a0k (by decide) (by decide) (Nat.le_of_ble_eq_true rfl) d_Reader_readBehind_63 (fun r81 N79 hq80 => ?_)
              obtain ⟨hk84, rfl⟩ := hq80
              have hn82 : zMod B [(1, 2), (1, 3), (1, 4), (1, 5), (3, 2), (3, 3), (10, 2), (10, 3), (10, 4), (10, 5), (10, 6)] M N79 := hn66.call hk84 (by decide)
              show zW l m_Reader_readBehind (zn M + 0, zw M + 0) N79 66 [some (.ref q), some (.ref a0), some (.int u1)] [] (zqZ B M [(1, 2), (1, 3), (1, 4), (1, 5), (3, 2), (3, 3), (10, 2), (10, 3), (10, 4), (10, 5), (10, 6)])
              refine zw_aload_n (pc := 66) (n := 0) (x := q) rfl d_Reader_readBehind_66 ?_
              refine zc_getF hn82 (pc := 67) f_Reader_15 rfl hqk r11f d_Reader_readBehind_67 ?_
              refine zc_callV hn82 (pc := 70) [] [] l_Reader_44 (c_Tokens_step l B N79 (hT.mod hn82) r11 r11B (hn82.k r11k)) rfl rfl r11k (by decide) (by decide) (Nat.le_of_ble_eq_true rfl) d_Reader_readBehind_70 (fun r88 N86 hq87 => ?_)
              obtain ⟨hk91, rfl⟩ := hq87
              have hn89 : zMod B [(1, 2), (1, 3), (1, 4), (1, 5), (3, 2), (3, 3), (10, 2), (10, 3), (10, 4), (10, 5), (10, 6)] M N86 := hn82.call hk91 (by decide)
              show zW l m_Reader_readBehind (zn M + 0, zw M + 0) N86 73 [some (.ref q), some (.ref a0), some (.int u1)] [] (zqZ B M [(1, 2), (1, 3), (1, 4), (1, 5), (3, 2), (3, 3), (10, 2), (10, 3), (10, 4), (10, 5), (10, 6)])
              exact j_73 N86 hn89
            · exact j_49 N63 hn66
  exact lp_2 _ 0 M hm (Nat.lt_succ_self _)
set_option maxHeartbeats 4000000 in
theorem c_Calc_put (l : Launch) (B : Nat) (M : zMem) (hT : zTy B M) (q : Nat) (hqB : q < B) (hqk : (zsh M q).1 = 10 + 3) (x0 : Int32) : zC l m_Calc_put 0 0 [.ref q, .int x0] M (zqV B M [(10, 2), (10, 3), (10, 6)]) := by
  refine zC_of (L0 := [some (.ref q), some (.int x0)]) md_Calc_put (Nat.le_of_ble_eq_true rfl) rfl ?_ zQ0
  have hm : zMod B [(10, 2), (10, 3), (10, 6)] M M := zMod.rf
  refine zw_aload_n (pc := 0) (n := 0) (x := q) rfl d_Calc_put_0 ?_
  refine zw_iload_n (pc := 1) (n := 1) (x := x0) rfl d_Calc_put_1 ?_
  refine zw_bipush (pc := 2) (v := 42) (by decide) d_Calc_put_2 ?_
  have j_12 : ∀ (u1 : Int32) (hu1 : u1 = 0 ∨ u1 = 1) (N2 : zMem) (hn3 : zMod B [(10, 2), (10, 3), (10, 6)] M N2), zW l m_Calc_put (zn M + 0, zw M + 0) N2 12 [some (.ref q), some (.int x0)] [.int u1, .ref q] (zqV B M [(10, 2), (10, 3), (10, 6)]) := by
    intro u1 hu1 N2 hn3
    refine zc_callV hn3 (pc := 12) [.int u1] [] l_Calc_95 (c_Calc_reckon l B N2 (hT.mod hn3) q hqB (hn3.k hqk) u1) rfl rfl hqk (by decide) (by decide) (Nat.le_of_ble_eq_true rfl) d_Calc_put_12 (fun r6 N4 hq5 => ?_)
    obtain ⟨hk9, rfl⟩ := hq5
    have hn7 : zMod B [(10, 2), (10, 3), (10, 6)] M N4 := hn3.call hk9 (by decide)
    show zW l m_Calc_put (zn M + 0, zw M + 0) N4 15 [some (.ref q), some (.int x0)] [] (zqV B M [(10, 2), (10, 3), (10, 6)])
    refine zw_aload_n (pc := 15) (n := 0) (x := q) rfl d_Calc_put_15 ?_
    refine zw_iload_n (pc := 16) (n := 1) (x := x0) rfl d_Calc_put_16 ?_
    refine zc_callV hn7 (pc := 17) [.int x0] [] l_Calc_55 (c_Calc_pushSign l B N4 (hT.mod hn7) q hqB (hn7.k hqk) x0) rfl rfl hqk (by decide) (by decide) (Nat.le_of_ble_eq_true rfl) d_Calc_put_17 (fun r13 N11 hq12 => ?_)
    obtain ⟨hk16, rfl⟩ := hq12
    have hn14 : zMod B [(10, 2), (10, 3), (10, 6)] M N11 := hn7.call hk16 (by decide)
    show zW l m_Calc_put (zn M + 0, zw M + 0) N11 20 [some (.ref q), some (.int x0)] [] (zqV B M [(10, 2), (10, 3), (10, 6)])
    exact zw_vret (S := []) (pc := 20) rfl d_Calc_put_20 ⟨hn14, rfl⟩
  refine zw_icmp_ne (pc := 4) (tgt := 11) (by decide) d_Calc_put_4 (fun hc_4 => ?_) (fun hc_4 => ?_)
  · refine zw_iconst (pc := 11) (v := 0) (by decide) d_Calc_put_11 ?_
    exact j_12 0 (Or.inl rfl) M hm
  · refine zw_iconst (pc := 7) (v := 1) (by decide) d_Calc_put_7 ?_
    refine zw_goto (pc := 8) (tgt := 12) (by decide) d_Calc_put_8 ?_
    exact j_12 1 (Or.inr rfl) M hm
set_option maxHeartbeats 4000000 in
theorem c_Reader_readSum (l : Launch) (B : Nat) (M : zMem) (hT : zTy B M) (q : Nat) (hqB : q < B) (hqk : (zsh M q).1 = 3 + 3) (a0 : Nat) (a0B : a0 < B) (a0k : (zsh M a0).1 = 4 + 3) : zC l m_Reader_readSum 0 0 [.ref q, .ref a0] M (zqZ B M [(1, 2), (1, 3), (1, 4), (1, 5), (3, 1), (3, 2), (3, 3), (10, 2), (10, 3), (10, 4), (10, 5), (10, 6)]) := by
  refine zC_of (L0 := [some (.ref q), some (.ref a0), none, none, none]) md_Reader_readSum (Nat.le_of_ble_eq_true rfl) rfl ?_ zQ0
  have hm : zMod B [(1, 2), (1, 3), (1, 4), (1, 5), (3, 1), (3, 2), (3, 3), (10, 2), (10, 3), (10, 4), (10, 5), (10, 6)] M M := zMod.rf
  refine zw_aload_n (pc := 0) (n := 1) (x := a0) rfl d_Reader_readSum_0 ?_
  obtain ⟨r1, r1f, r1B, r1k⟩ := hT.1 a0 4 4 a0B a0k (by decide) (by decide) rfl
  refine zc_getF hm (pc := 1) f_Reader_111 rfl a0k r1f d_Reader_readSum_1 ?_
  refine zw_astore_n (pc := 4) (i := 2) (L2 := [some (.ref q), some (.ref a0), some (.ref r1), none, none]) rfl (by decide) rfl d_Reader_readSum_4 ?_
  refine zw_aload_n (pc := 5) (n := 2) (x := r1) rfl d_Reader_readSum_5 ?_
  refine zc_callV hm (pc := 6) [] [] l_Reader_124 (c_Calc_begin l B M (hT.mod hm) r1 r1B (hm.k r1k)) rfl rfl r1k (by decide) (by decide) (Nat.le_of_ble_eq_true rfl) d_Reader_readSum_6 (fun r4 N2 hq3 => ?_)
  obtain ⟨hk7, rfl⟩ := hq3
  have hn5 : zMod B [(1, 2), (1, 3), (1, 4), (1, 5), (3, 1), (3, 2), (3, 3), (10, 2), (10, 3), (10, 4), (10, 5), (10, 6)] M N2 := hm.call hk7 (by decide)
  show zW l m_Reader_readSum (zn M + 0, zw M + 0) N2 9 [some (.ref q), some (.ref a0), some (.ref r1), none, none] [] (zqZ B M [(1, 2), (1, 3), (1, 4), (1, 5), (3, 1), (3, 2), (3, 3), (10, 2), (10, 3), (10, 4), (10, 5), (10, 6)])
  refine zw_aload_n (pc := 9) (n := 0) (x := q) rfl d_Reader_readSum_9 ?_
  refine zw_iconst (pc := 10) (v := 0) (by decide) d_Reader_readSum_10 ?_
  refine zc_putI hn5 (pc := 11) f_Reader_126 rfl rfl hqk hqB (by decide) rfl rfl d_Reader_readSum_11 (fun N9 hN9 hn10 => ?_)
  refine zw_iconst (pc := 14) (v := 1) (by decide) d_Reader_readSum_14 ?_
  refine zw_istore_n (pc := 15) (i := 3) (L2 := [some (.ref q), some (.ref a0), some (.ref r1), some (.int 1), none]) rfl (by decide) rfl d_Reader_readSum_15 ?_
  refine zw_iconst (pc := 16) (v := 0) (by decide) d_Reader_readSum_16 ?_
  refine zw_istore (pc := 17) (i := 4) (L2 := [some (.ref q), some (.ref a0), some (.ref r1), some (.int 1), some (.int 0)]) (by decide) rfl d_Reader_readSum_17 ?_
  have lp_19 : ∀ (n : Nat) (u11 : Int32) (hu11 : u11 = 0 ∨ u11 = 1) (u12 : Int32) (N13 : zMem) (hn14 : zMod B [(1, 2), (1, 3), (1, 4), (1, 5), (3, 1), (3, 2), (3, 3), (10, 2), (10, 3), (10, 4), (10, 5), (10, 6)] M N13), zvq u12 30 < n → zW l m_Reader_readSum (zn M + 0, zw M + 0) N13 19 [some (.ref q), some (.ref a0), some (.ref r1), some (.int u11), some (.int u12)] [] (zqZ B M [(1, 2), (1, 3), (1, 4), (1, 5), (3, 1), (3, 2), (3, 3), (10, 2), (10, 3), (10, 4), (10, 5), (10, 6)]) := by
    intro n
    induction n with
    | zero =>
      intro u11 hu11 u12 N13 hn14 h0
      exact absurd h0 (Nat.not_lt_zero _)
    | succ n ih_19 =>
      intro u11 hu11 u12 N13 hn14 hlt_19
      refine zw_iload (pc := 19) (i := 4) (x := u12) rfl d_Reader_readSum_19 ?_
      refine zw_bipush (pc := 21) (v := 30) (by decide) d_Reader_readSum_21 ?_
      have j_126 : ∀ (N15 : zMem) (hn16 : zMod B [(1, 2), (1, 3), (1, 4), (1, 5), (3, 1), (3, 2), (3, 3), (10, 2), (10, 3), (10, 4), (10, 5), (10, 6)] M N15), zW l m_Reader_readSum (zn M + 0, zw M + 0) N15 126 [some (.ref q), some (.ref a0), some (.ref r1), some (.int u11), some (.int u12)] [] (zqZ B M [(1, 2), (1, 3), (1, 4), (1, 5), (3, 1), (3, 2), (3, 3), (10, 2), (10, 3), (10, 4), (10, 5), (10, 6)]) := by
        intro N15 hn16
        refine zw_aload_n (pc := 126) (n := 2) (x := r1) rfl d_Reader_readSum_126 ?_
        refine zc_getI hn16 (pc := 127) f_Reader_142 rfl r1k d_Reader_readSum_127 ?_
        refine zw_if_le (pc := 130) (tgt := 139) (by decide) d_Reader_readSum_130 (fun hc_130 => ?_) (fun hc_130 => ?_)
        · refine zw_aload_n (pc := 139) (n := 2) (x := r1) rfl d_Reader_readSum_139 ?_
          refine zw_iconst (pc := 140) (v := 0) (by decide) d_Reader_readSum_140 ?_
          refine zc_callV hn16 (pc := 141) [.int 0] [] l_Reader_145 (c_Calc_reckon l B N15 (hT.mod hn16) r1 r1B (hn16.k r1k) 0) rfl rfl r1k (by decide) (by decide) (Nat.le_of_ble_eq_true rfl) d_Reader_readSum_141 (fun r19 N17 hq18 => ?_)
          obtain ⟨hk22, rfl⟩ := hq18
          have hn20 : zMod B [(1, 2), (1, 3), (1, 4), (1, 5), (3, 1), (3, 2), (3, 3), (10, 2), (10, 3), (10, 4), (10, 5), (10, 6)] M N17 := hn16.call hk22 (by decide)
          show zW l m_Reader_readSum (zn M + 0, zw M + 0) N17 144 [some (.ref q), some (.ref a0), some (.ref r1), some (.int u11), some (.int u12)] [] (zqZ B M [(1, 2), (1, 3), (1, 4), (1, 5), (3, 1), (3, 2), (3, 3), (10, 2), (10, 3), (10, 4), (10, 5), (10, 6)])
          refine zw_iconst (pc := 144) (v := 1) (by decide) d_Reader_readSum_144 ?_
          exact zw_iret (S := []) (pc := 145) (ty := .boolean) rfl (z_narZ (Or.inr rfl)) d_Reader_readSum_145 ⟨hn20, _, rfl, Or.inr rfl⟩
        · refine zw_aload_n (pc := 133) (n := 0) (x := q) rfl d_Reader_readSum_133 ?_
          refine zw_iconst (pc := 134) (v := 2) (by decide) d_Reader_readSum_134 ?_
          refine zc_callV hn16 (pc := 135) [.int 2] [] l_Reader_41 (c_Reader_refuse l B N15 (hT.mod hn16) q hqB (hn16.k hqk) 2) rfl rfl hqk (by decide) (by decide) (Nat.le_of_ble_eq_true rfl) d_Reader_readSum_135 (fun r26 N24 hq25 => ?_)
          obtain ⟨hk29, v28, rfl, zv28⟩ := hq25
          have hn27 : zMod B [(1, 2), (1, 3), (1, 4), (1, 5), (3, 1), (3, 2), (3, 3), (10, 2), (10, 3), (10, 4), (10, 5), (10, 6)] M N24 := hn16.call hk29 (by decide)
          show zW l m_Reader_readSum (zn M + 0, zw M + 0) N24 138 [some (.ref q), some (.ref a0), some (.ref r1), some (.int u11), some (.int u12)] [.int v28] (zqZ B M [(1, 2), (1, 3), (1, 4), (1, 5), (3, 1), (3, 2), (3, 3), (10, 2), (10, 3), (10, 4), (10, 5), (10, 6)])
          exact zw_iret (S := []) (pc := 138) (ty := .boolean) rfl (z_narZ (zv28)) d_Reader_readSum_138 ⟨hn27, _, rfl, zv28⟩
      refine zw_icmp_gt (pc := 23) (tgt := 126) (by decide) d_Reader_readSum_23 (fun hc_23 => ?_) (fun hc_23 => ?_)
      · exact j_126 N13 hn14
      · refine zw_iload_n (pc := 26) (n := 3) (x := u11) rfl d_Reader_readSum_26 ?_
        refine zw_if_eq (pc := 27) (tgt := 126) (by decide) d_Reader_readSum_27 (fun hc_27 => ?_) (fun hc_27 => ?_)
        · exact j_126 N13 hn14
        · refine zw_aload_n (pc := 30) (n := 0) (x := q) rfl d_Reader_readSum_30 ?_
          refine zw_aload_n (pc := 31) (n := 2) (x := r1) rfl d_Reader_readSum_31 ?_
          refine zc_callV hn14 (pc := 32) [.ref r1] [] l_Reader_129 (c_Reader_readAhead l B N13 (hT.mod hn14) q hqB (hn14.k hqk) r1 r1B (hn14.k r1k)) rfl rfl hqk (by decide) (by decide) (Nat.le_of_ble_eq_true rfl) d_Reader_readSum_32 (fun r33 N31 hq32 => ?_)
          obtain ⟨hk36, v35, rfl, zv35⟩ := hq32
          have hn34 : zMod B [(1, 2), (1, 3), (1, 4), (1, 5), (3, 1), (3, 2), (3, 3), (10, 2), (10, 3), (10, 4), (10, 5), (10, 6)] M N31 := hn14.call hk36 (by decide)
          show zW l m_Reader_readSum (zn M + 0, zw M + 0) N31 35 [some (.ref q), some (.ref a0), some (.ref r1), some (.int u11), some (.int u12)] [.int v35] (zqZ B M [(1, 2), (1, 3), (1, 4), (1, 5), (3, 1), (3, 2), (3, 3), (10, 2), (10, 3), (10, 4), (10, 5), (10, 6)])
          refine zw_if_eq (pc := 35) (tgt := 54) (by decide) d_Reader_readSum_35 (fun hc_35 => ?_) (fun hc_35 => ?_)
          · refine zw_iconst (pc := 54) (v := 0) (by decide) d_Reader_readSum_54 ?_
            exact zw_iret (S := []) (pc := 55) (ty := .boolean) rfl (z_narZ (Or.inl rfl)) d_Reader_readSum_55 ⟨hn34, _, rfl, Or.inl rfl⟩
          · refine zw_aload_n (pc := 38) (n := 0) (x := q) rfl d_Reader_readSum_38 ?_
            refine zw_aload_n (pc := 39) (n := 1) (x := a0) rfl d_Reader_readSum_39 ?_
            refine zc_callV hn34 (pc := 40) [.ref a0] [] l_Reader_133 (c_Reader_readOperand l B N31 (hT.mod hn34) q hqB (hn34.k hqk) a0 a0B (hn34.k a0k)) rfl rfl hqk (by decide) (by decide) (Nat.le_of_ble_eq_true rfl) d_Reader_readSum_40 (fun r40 N38 hq39 => ?_)
            obtain ⟨hk43, v42, rfl, zv42⟩ := hq39
            have hn41 : zMod B [(1, 2), (1, 3), (1, 4), (1, 5), (3, 1), (3, 2), (3, 3), (10, 2), (10, 3), (10, 4), (10, 5), (10, 6)] M N38 := hn34.call hk43 (by decide)
            show zW l m_Reader_readSum (zn M + 0, zw M + 0) N38 43 [some (.ref q), some (.ref a0), some (.ref r1), some (.int u11), some (.int u12)] [.int v42] (zqZ B M [(1, 2), (1, 3), (1, 4), (1, 5), (3, 1), (3, 2), (3, 3), (10, 2), (10, 3), (10, 4), (10, 5), (10, 6)])
            refine zw_if_eq (pc := 43) (tgt := 54) (by decide) d_Reader_readSum_43 (fun hc_43 => ?_) (fun hc_43 => ?_)
            · refine zw_iconst (pc := 54) (v := 0) (by decide) d_Reader_readSum_54 ?_
              exact zw_iret (S := []) (pc := 55) (ty := .boolean) rfl (z_narZ (Or.inl rfl)) d_Reader_readSum_55 ⟨hn41, _, rfl, Or.inl rfl⟩
            · refine zw_aload_n (pc := 46) (n := 0) (x := q) rfl d_Reader_readSum_46 ?_
              refine zw_aload_n (pc := 47) (n := 2) (x := r1) rfl d_Reader_readSum_47 ?_
              refine zc_callV hn41 (pc := 48) [.ref r1] [] l_Reader_136 (c_Reader_readBehind l B N38 (hT.mod hn41) q hqB (hn41.k hqk) r1 r1B (hn41.k r1k)) rfl rfl hqk (by decide) (by decide) (Nat.le_of_ble_eq_true rfl) d_Reader_readSum_48 (fun r47 N45 hq46 => ?_)
              obtain ⟨hk50, v49, rfl, zv49⟩ := hq46
              have hn48 : zMod B [(1, 2), (1, 3), (1, 4), (1, 5), (3, 1), (3, 2), (3, 3), (10, 2), (10, 3), (10, 4), (10, 5), (10, 6)] M N45 := hn41.call hk50 (by decide)
              show zW l m_Reader_readSum (zn M + 0, zw M + 0) N45 51 [some (.ref q), some (.ref a0), some (.ref r1), some (.int u11), some (.int u12)] [.int v49] (zqZ B M [(1, 2), (1, 3), (1, 4), (1, 5), (3, 1), (3, 2), (3, 3), (10, 2), (10, 3), (10, 4), (10, 5), (10, 6)])
              refine zw_if_ne (pc := 51) (tgt := 56) (by decide) d_Reader_readSum_51 (fun hc_51 => ?_) (fun hc_51 => ?_)
              · refine zw_aload_n (pc := 56) (n := 0) (x := q) rfl d_Reader_readSum_56 ?_
                obtain ⟨r52, r52f, r52B, r52k⟩ := hT.1 q 3 0 hqB hqk (by decide) (by decide) rfl
                refine zc_getF hn48 (pc := 57) f_Reader_15 rfl hqk r52f d_Reader_readSum_57 ?_
                refine zw_bipush (pc := 60) (v := 43) (by decide) d_Reader_readSum_60 ?_
                refine zc_callV hn48 (pc := 62) [.int 43] [] l_Reader_37 (c_Tokens_isSign l B N45 (hT.mod hn48) r52 r52B (hn48.k r52k) 43) rfl rfl r52k (by decide) (by decide) (Nat.le_of_ble_eq_true rfl) d_Reader_readSum_62 (fun r55 N53 hq54 => ?_)
                obtain ⟨hk58, v57, rfl, zv57⟩ := hq54
                have hn56 : zMod B [(1, 2), (1, 3), (1, 4), (1, 5), (3, 1), (3, 2), (3, 3), (10, 2), (10, 3), (10, 4), (10, 5), (10, 6)] M N53 := hn48.call hk58 (by decide)
                show zW l m_Reader_readSum (zn M + 0, zw M + 0) N53 65 [some (.ref q), some (.ref a0), some (.ref r1), some (.int u11), some (.int u12)] [.int v57] (zqZ B M [(1, 2), (1, 3), (1, 4), (1, 5), (3, 1), (3, 2), (3, 3), (10, 2), (10, 3), (10, 4), (10, 5), (10, 6)])
                have j_97 : ∀ (u60 : Int32) (hu60 : u60 = 0 ∨ u60 = 1) (N61 : zMem) (hn62 : zMod B [(1, 2), (1, 3), (1, 4), (1, 5), (3, 1), (3, 2), (3, 3), (10, 2), (10, 3), (10, 4), (10, 5), (10, 6)] M N61), zW l m_Reader_readSum (zn M + 0, zw M + 0) N61 97 [some (.ref q), some (.ref a0), some (.ref r1), some (.int u11), some (.int u12)] [.int u60] (zqZ B M [(1, 2), (1, 3), (1, 4), (1, 5), (3, 1), (3, 2), (3, 3), (10, 2), (10, 3), (10, 4), (10, 5), (10, 6)]) := by
                  intro u60 hu60 N61 hn62
                  refine zw_istore_n (pc := 97) (i := 3) (L2 := [some (.ref q), some (.ref a0), some (.ref r1), some (.int u60), some (.int u12)]) rfl (by decide) rfl d_Reader_readSum_97 ?_
                  refine zw_iload_n (pc := 98) (n := 3) (x := u60) rfl d_Reader_readSum_98 ?_
                  have j_120 : ∀ (N63 : zMem) (hn64 : zMod B [(1, 2), (1, 3), (1, 4), (1, 5), (3, 1), (3, 2), (3, 3), (10, 2), (10, 3), (10, 4), (10, 5), (10, 6)] M N63), zW l m_Reader_readSum (zn M + 0, zw M + 0) N63 120 [some (.ref q), some (.ref a0), some (.ref r1), some (.int u60), some (.int u12)] [] (zqZ B M [(1, 2), (1, 3), (1, 4), (1, 5), (3, 1), (3, 2), (3, 3), (10, 2), (10, 3), (10, 4), (10, 5), (10, 6)]) := by
                    intro N63 hn64
                    refine zw_iinc (pc := 120) (i := 4) (x := u12) (v := u12 + Int32.ofInt 1) (L2 := [some (.ref q), some (.ref a0), some (.ref r1), some (.int u60), some (.int (u12 + Int32.ofInt 1))]) rfl rfl (by decide) rfl d_Reader_readSum_120 ?_
                    refine zw_goto (pc := 123) (tgt := 19) (by decide) d_Reader_readSum_123 ?_
                    exact ih_19 u60 (hu60) (u12 + Int32.ofInt 1) N63 hn64 (Nat.lt_of_lt_of_le (z_upq (by decide) hc_23) (Nat.le_of_lt_succ hlt_19))
                  refine zw_if_eq (pc := 99) (tgt := 120) (by decide) d_Reader_readSum_99 (fun hc_99 => ?_) (fun hc_99 => ?_)
                  · exact j_120 N61 hn62
                  · refine zw_aload_n (pc := 102) (n := 2) (x := r1) rfl d_Reader_readSum_102 ?_
                    refine zw_aload_n (pc := 103) (n := 0) (x := q) rfl d_Reader_readSum_103 ?_
                    refine zc_getF hn62 (pc := 104) f_Reader_15 rfl hqk r52f d_Reader_readSum_104 ?_
                    refine zc_getI hn62 (pc := 107) f_Reader_57 rfl r52k d_Reader_readSum_107 ?_
                    refine zc_callV hn62 (pc := 110) [.int (zi N61 r52 5)] [] l_Reader_139 (c_Calc_put l B N61 (hT.mod hn62) r1 r1B (hn62.k r1k) (zi N61 r52 5)) rfl rfl r1k (by decide) (by decide) (Nat.le_of_ble_eq_true rfl) d_Reader_readSum_110 (fun r67 N65 hq66 => ?_)
                    obtain ⟨hk70, rfl⟩ := hq66
                    have hn68 : zMod B [(1, 2), (1, 3), (1, 4), (1, 5), (3, 1), (3, 2), (3, 3), (10, 2), (10, 3), (10, 4), (10, 5), (10, 6)] M N65 := hn62.call hk70 (by decide)
                    show zW l m_Reader_readSum (zn M + 0, zw M + 0) N65 113 [some (.ref q), some (.ref a0), some (.ref r1), some (.int u60), some (.int u12)] [] (zqZ B M [(1, 2), (1, 3), (1, 4), (1, 5), (3, 1), (3, 2), (3, 3), (10, 2), (10, 3), (10, 4), (10, 5), (10, 6)])
                    refine zw_aload_n (pc := 113) (n := 0) (x := q) rfl d_Reader_readSum_113 ?_
                    refine zc_getF hn68 (pc := 114) f_Reader_15 rfl hqk r52f d_Reader_readSum_114 ?_
                    refine zc_callV hn68 (pc := 117) [] [] l_Reader_44 (c_Tokens_step l B N65 (hT.mod hn68) r52 r52B (hn68.k r52k)) rfl rfl r52k (by decide) (by decide) (Nat.le_of_ble_eq_true rfl) d_Reader_readSum_117 (fun r74 N72 hq73 => ?_)
                    obtain ⟨hk77, rfl⟩ := hq73
                    have hn75 : zMod B [(1, 2), (1, 3), (1, 4), (1, 5), (3, 1), (3, 2), (3, 3), (10, 2), (10, 3), (10, 4), (10, 5), (10, 6)] M N72 := hn68.call hk77 (by decide)
                    show zW l m_Reader_readSum (zn M + 0, zw M + 0) N72 120 [some (.ref q), some (.ref a0), some (.ref r1), some (.int u60), some (.int u12)] [] (zqZ B M [(1, 2), (1, 3), (1, 4), (1, 5), (3, 1), (3, 2), (3, 3), (10, 2), (10, 3), (10, 4), (10, 5), (10, 6)])
                    exact j_120 N72 hn75
                have j_92 : ∀ (N79 : zMem) (hn80 : zMod B [(1, 2), (1, 3), (1, 4), (1, 5), (3, 1), (3, 2), (3, 3), (10, 2), (10, 3), (10, 4), (10, 5), (10, 6)] M N79), zW l m_Reader_readSum (zn M + 0, zw M + 0) N79 92 [some (.ref q), some (.ref a0), some (.ref r1), some (.int u11), some (.int u12)] [] (zqZ B M [(1, 2), (1, 3), (1, 4), (1, 5), (3, 1), (3, 2), (3, 3), (10, 2), (10, 3), (10, 4), (10, 5), (10, 6)]) := by
                  intro N79 hn80
                  refine zw_iconst (pc := 92) (v := 1) (by decide) d_Reader_readSum_92 ?_
                  refine zw_goto (pc := 93) (tgt := 97) (by decide) d_Reader_readSum_93 ?_
                  exact j_97 1 (Or.inr rfl) N79 hn80
                refine zw_if_ne (pc := 65) (tgt := 92) (by decide) d_Reader_readSum_65 (fun hc_65 => ?_) (fun hc_65 => ?_)
                · exact j_92 N53 hn56
                · refine zw_aload_n (pc := 68) (n := 0) (x := q) rfl d_Reader_readSum_68 ?_
                  refine zc_getF hn56 (pc := 69) f_Reader_15 rfl hqk r52f d_Reader_readSum_69 ?_
                  refine zw_bipush (pc := 72) (v := 45) (by decide) d_Reader_readSum_72 ?_
                  refine zc_callV hn56 (pc := 74) [.int 45] [] l_Reader_37 (c_Tokens_isSign l B N53 (hT.mod hn56) r52 r52B (hn56.k r52k) 45) rfl rfl r52k (by decide) (by decide) (Nat.le_of_ble_eq_true rfl) d_Reader_readSum_74 (fun r83 N81 hq82 => ?_)
                  obtain ⟨hk86, v85, rfl, zv85⟩ := hq82
                  have hn84 : zMod B [(1, 2), (1, 3), (1, 4), (1, 5), (3, 1), (3, 2), (3, 3), (10, 2), (10, 3), (10, 4), (10, 5), (10, 6)] M N81 := hn56.call hk86 (by decide)
                  show zW l m_Reader_readSum (zn M + 0, zw M + 0) N81 77 [some (.ref q), some (.ref a0), some (.ref r1), some (.int u11), some (.int u12)] [.int v85] (zqZ B M [(1, 2), (1, 3), (1, 4), (1, 5), (3, 1), (3, 2), (3, 3), (10, 2), (10, 3), (10, 4), (10, 5), (10, 6)])
                  refine zw_if_ne (pc := 77) (tgt := 92) (by decide) d_Reader_readSum_77 (fun hc_77 => ?_) (fun hc_77 => ?_)
                  · exact j_92 N81 hn84
                  · refine zw_aload_n (pc := 80) (n := 0) (x := q) rfl d_Reader_readSum_80 ?_
                    refine zc_getF hn84 (pc := 81) f_Reader_15 rfl hqk r52f d_Reader_readSum_81 ?_
                    refine zw_bipush (pc := 84) (v := 42) (by decide) d_Reader_readSum_84 ?_
                    refine zc_callV hn84 (pc := 86) [.int 42] [] l_Reader_37 (c_Tokens_isSign l B N81 (hT.mod hn84) r52 r52B (hn84.k r52k) 42) rfl rfl r52k (by decide) (by decide) (Nat.le_of_ble_eq_true rfl) d_Reader_readSum_86 (fun r90 N88 hq89 => ?_)
                    obtain ⟨hk93, v92, rfl, zv92⟩ := hq89
                    have hn91 : zMod B [(1, 2), (1, 3), (1, 4), (1, 5), (3, 1), (3, 2), (3, 3), (10, 2), (10, 3), (10, 4), (10, 5), (10, 6)] M N88 := hn84.call hk93 (by decide)
                    show zW l m_Reader_readSum (zn M + 0, zw M + 0) N88 89 [some (.ref q), some (.ref a0), some (.ref r1), some (.int u11), some (.int u12)] [.int v92] (zqZ B M [(1, 2), (1, 3), (1, 4), (1, 5), (3, 1), (3, 2), (3, 3), (10, 2), (10, 3), (10, 4), (10, 5), (10, 6)])
                    refine zw_if_eq (pc := 89) (tgt := 96) (by decide) d_Reader_readSum_89 (fun hc_89 => ?_) (fun hc_89 => ?_)
                    · refine zw_iconst (pc := 96) (v := 0) (by decide) d_Reader_readSum_96 ?_
                      exact j_97 0 (Or.inl rfl) N88 hn91
                    · exact j_92 N88 hn91
              · refine zw_iconst (pc := 54) (v := 0) (by decide) d_Reader_readSum_54 ?_
                exact zw_iret (S := []) (pc := 55) (ty := .boolean) rfl (z_narZ (Or.inl rfl)) d_Reader_readSum_55 ⟨hn48, _, rfl, Or.inl rfl⟩
  exact lp_19 _ 1 (Or.inr rfl) 0 N9 hn10 (Nat.lt_succ_self _)
