/-! methods of the landed part, walked by program -/
set_option maxHeartbeats 4000000 in
theorem c_Troupe_addName (l : Launch) (B : Nat) (M : zMem) (hT : zTy B M) (q : Nat) (hqB : q < B) (hqk : (zsh M q).1 = 4 + 3) (x0 : Int32) : zC l m_Troupe_addName 0 0 [.ref q, .int x0] M (zqV B M [(4, 6)]) := by
  refine zC_of (L0 := [some (.ref q), some (.int x0)]) md_Troupe_addName (Nat.le_of_ble_eq_true rfl) rfl ?_ zQ0
  have hm : zMod B [(4, 6)] M M := zMod.rf
  refine zw_aload_n (pc := 0) (n := 0) (x := q) rfl d_Troupe_addName_0 ?_
  refine zc_getI hm (pc := 1) f_Troupe_64 rfl hqk d_Troupe_addName_1 ?_
  refine zw_bipush (pc := 4) (v := 8) (by decide) d_Troupe_addName_4 ?_
  refine zw_icmp_ge (pc := 6) (tgt := 46) (by decide) d_Troupe_addName_6 (fun hc_6 => ?_) (fun hc_6 => ?_)
  · exact zw_vret (S := []) (pc := 46) rfl d_Troupe_addName_46 ⟨hm, rfl⟩
  · refine zw_aload_n (pc := 9) (n := 0) (x := q) rfl d_Troupe_addName_9 ?_
    obtain ⟨r1, r1f, r1B, r1k⟩ := hT.1 q 4 5 hqB hqk (by decide) (by decide) rfl
    refine zc_getF hm (pc := 10) f_Troupe_57 rfl hqk r1f d_Troupe_addName_10 ?_
    refine zw_aload_n (pc := 13) (n := 0) (x := q) rfl d_Troupe_addName_13 ?_
    refine zc_getI hm (pc := 14) f_Troupe_64 rfl hqk d_Troupe_addName_14 ?_
    refine zw_iload_n (pc := 17) (n := 1) (x := x0) rfl d_Troupe_addName_17 ?_
    refine zc_callV hm (pc := 18) [.int (zi M q 6), .int x0] [] l_Troupe_89 (c_IntRow_put l B M (hT.mod hm) r1 r1B (hm.k r1k) (zi M q 6) x0) rfl rfl r1k (by decide) (by decide) (Nat.le_of_ble_eq_true rfl) d_Troupe_addName_18 (fun r4 N2 hq3 => ?_)
    obtain ⟨hk7, rfl⟩ := hq3
    have hn5 : zMod B [(4, 6)] M N2 := hm.call hk7 (by decide)
    show zW l m_Troupe_addName (zn M + 0, zw M + 0) N2 21 [some (.ref q), some (.int x0)] [] (zqV B M [(4, 6)])
    refine zw_aload_n (pc := 21) (n := 0) (x := q) rfl d_Troupe_addName_21 ?_
    obtain ⟨r9, r9f, r9B, r9k⟩ := hT.1 q 4 2 hqB hqk (by decide) (by decide) rfl
    refine zc_getF hn5 (pc := 22) f_Troupe_32 rfl hqk r9f d_Troupe_addName_22 ?_
    refine zw_bipush (pc := 25) (v := 21) (by decide) d_Troupe_addName_25 ?_
    refine zw_iconst (pc := 27) (v := 1) (by decide) d_Troupe_addName_27 ?_
    refine zw_aload_n (pc := 28) (n := 0) (x := q) rfl d_Troupe_addName_28 ?_
    refine zc_getI hn5 (pc := 29) f_Troupe_64 rfl hqk d_Troupe_addName_29 ?_
    refine zw_iadd (pc := 32) d_Troupe_addName_32 ?_
    refine zc_callV hn5 (pc := 33) [.int 21, .int (1 + (zi N2 q 6))] [] l_Troupe_93 (c_Sums_copy l B N2 (hT.mod hn5) r9 r9B (hn5.k r9k) 21 (1 + (zi N2 q 6))) rfl rfl r9k (by decide) (by decide) (Nat.le_of_ble_eq_true rfl) d_Troupe_addName_33 (fun r12 N10 hq11 => ?_)
    obtain ⟨hk15, rfl⟩ := hq11
    have hn13 : zMod B [(4, 6)] M N10 := hn5.call hk15 (by decide)
    show zW l m_Troupe_addName (zn M + 0, zw M + 0) N10 36 [some (.ref q), some (.int x0)] [] (zqV B M [(4, 6)])
    refine zw_aload_n (pc := 36) (n := 0) (x := q) rfl d_Troupe_addName_36 ?_
    refine zw_dup (pc := 37) rfl d_Troupe_addName_37 ?_
    refine zc_getI hn13 (pc := 38) f_Troupe_64 rfl hqk d_Troupe_addName_38 ?_
    refine zw_iconst (pc := 41) (v := 1) (by decide) d_Troupe_addName_41 ?_
    refine zw_iadd (pc := 42) d_Troupe_addName_42 ?_
    refine zc_putI hn13 (pc := 43) f_Troupe_64 rfl rfl hqk hqB (by decide) rfl rfl d_Troupe_addName_43 (fun N17 hN17 hn18 => ?_)
    exact zw_vret (S := []) (pc := 46) rfl d_Troupe_addName_46 ⟨hn18, rfl⟩
set_option maxHeartbeats 4000000 in
theorem c_Reader_readLets (l : Launch) (B : Nat) (M : zMem) (hT : zTy B M) (q : Nat) (hqB : q < B) (hqk : (zsh M q).1 = 3 + 3) (a0 : Nat) (a0B : a0 < B) (a0k : (zsh M a0).1 = 4 + 3) : zC l m_Reader_readLets 0 0 [.ref q, .ref a0] M (zqZ B M [(1, 2), (1, 3), (1, 4), (1, 5), (3, 1), (3, 2), (3, 3), (4, 6), (10, 2), (10, 3), (10, 4), (10, 5), (10, 6)]) := by
  refine zC_of (L0 := [some (.ref q), some (.ref a0), none, none, none]) md_Reader_readLets (Nat.le_of_ble_eq_true rfl) rfl ?_ zQ0
  have hm : zMod B [(1, 2), (1, 3), (1, 4), (1, 5), (3, 1), (3, 2), (3, 3), (4, 6), (10, 2), (10, 3), (10, 4), (10, 5), (10, 6)] M M := zMod.rf
  refine zw_iconst (pc := 0) (v := 0) (by decide) d_Reader_readLets_0 ?_
  refine zw_istore_n (pc := 1) (i := 2) (L2 := [some (.ref q), some (.ref a0), some (.int 0), none, none]) rfl (by decide) rfl d_Reader_readLets_1 ?_
  have lp_2 : ∀ (n : Nat) (u1 : Int32) (N2 : zMem) (hn3 : zMod B [(1, 2), (1, 3), (1, 4), (1, 5), (3, 1), (3, 2), (3, 3), (4, 6), (10, 2), (10, 3), (10, 4), (10, 5), (10, 6)] M N2), zvq u1 8 < n → zW l m_Reader_readLets (zn M + 0, zw M + 0) N2 2 [some (.ref q), some (.ref a0), some (.int u1), none, none] [] (zqZ B M [(1, 2), (1, 3), (1, 4), (1, 5), (3, 1), (3, 2), (3, 3), (4, 6), (10, 2), (10, 3), (10, 4), (10, 5), (10, 6)]) := by
    intro n
    induction n with
    | zero =>
      intro u1 N2 hn3 h0
      exact absurd h0 (Nat.not_lt_zero _)
    | succ n ih_2 =>
      intro u1 N2 hn3 hlt_2
      refine zw_iload_n (pc := 2) (n := 2) (x := u1) rfl d_Reader_readLets_2 ?_
      refine zw_bipush (pc := 3) (v := 8) (by decide) d_Reader_readLets_3 ?_
      have j_156 : ∀ (N4 : zMem) (hn5 : zMod B [(1, 2), (1, 3), (1, 4), (1, 5), (3, 1), (3, 2), (3, 3), (4, 6), (10, 2), (10, 3), (10, 4), (10, 5), (10, 6)] M N4), zW l m_Reader_readLets (zn M + 0, zw M + 0) N4 156 [some (.ref q), some (.ref a0), some (.int u1), none, none] [] (zqZ B M [(1, 2), (1, 3), (1, 4), (1, 5), (3, 1), (3, 2), (3, 3), (4, 6), (10, 2), (10, 3), (10, 4), (10, 5), (10, 6)]) := by
        intro N4 hn5
        refine zw_aload_n (pc := 156) (n := 0) (x := q) rfl d_Reader_readLets_156 ?_
        obtain ⟨r6, r6f, r6B, r6k⟩ := hT.1 q 3 0 hqB hqk (by decide) (by decide) rfl
        refine zc_getF hn5 (pc := 157) f_Reader_15 rfl hqk r6f d_Reader_readLets_157 ?_
        refine zc_getI hn5 (pc := 160) f_Reader_27 rfl r6k d_Reader_readLets_160 ?_
        refine zw_if_eq (pc := 163) (tgt := 174) (by decide) d_Reader_readLets_163 (fun hc_163 => ?_) (fun hc_163 => ?_)
        · refine zw_iconst (pc := 174) (v := 1) (by decide) d_Reader_readLets_174 ?_
          refine zw_goto (pc := 175) (tgt := 179) (by decide) d_Reader_readLets_175 ?_
          exact zw_iret (S := []) (pc := 179) (ty := .boolean) rfl (z_narZ (Or.inr rfl)) d_Reader_readLets_179 ⟨hn5, _, rfl, Or.inr rfl⟩
        · refine zw_aload_n (pc := 166) (n := 0) (x := q) rfl d_Reader_readLets_166 ?_
          refine zw_iconst (pc := 167) (v := 2) (by decide) d_Reader_readLets_167 ?_
          refine zc_callV hn5 (pc := 168) [.int 2] [] l_Reader_41 (c_Reader_refuse l B N4 (hT.mod hn5) q hqB (hn5.k hqk) 2) rfl rfl hqk (by decide) (by decide) (Nat.le_of_ble_eq_true rfl) d_Reader_readLets_168 (fun r9 N7 hq8 => ?_)
          obtain ⟨hk12, v11, rfl, zv11⟩ := hq8
          have hn10 : zMod B [(1, 2), (1, 3), (1, 4), (1, 5), (3, 1), (3, 2), (3, 3), (4, 6), (10, 2), (10, 3), (10, 4), (10, 5), (10, 6)] M N7 := hn5.call hk12 (by decide)
          show zW l m_Reader_readLets (zn M + 0, zw M + 0) N7 171 [some (.ref q), some (.ref a0), some (.int u1), none, none] [.int v11] (zqZ B M [(1, 2), (1, 3), (1, 4), (1, 5), (3, 1), (3, 2), (3, 3), (4, 6), (10, 2), (10, 3), (10, 4), (10, 5), (10, 6)])
          refine zw_if_eq (pc := 171) (tgt := 178) (by decide) d_Reader_readLets_171 (fun hc_171 => ?_) (fun hc_171 => ?_)
          · refine zw_iconst (pc := 178) (v := 0) (by decide) d_Reader_readLets_178 ?_
            exact zw_iret (S := []) (pc := 179) (ty := .boolean) rfl (z_narZ (Or.inl rfl)) d_Reader_readLets_179 ⟨hn10, _, rfl, Or.inl rfl⟩
          · refine zw_iconst (pc := 174) (v := 1) (by decide) d_Reader_readLets_174 ?_
            refine zw_goto (pc := 175) (tgt := 179) (by decide) d_Reader_readLets_175 ?_
            exact zw_iret (S := []) (pc := 179) (ty := .boolean) rfl (z_narZ (Or.inr rfl)) d_Reader_readLets_179 ⟨hn10, _, rfl, Or.inr rfl⟩
      refine zw_icmp_gt (pc := 5) (tgt := 156) (by decide) d_Reader_readLets_5 (fun hc_5 => ?_) (fun hc_5 => ?_)
      · exact j_156 N2 hn3
      · refine zw_aload_n (pc := 8) (n := 0) (x := q) rfl d_Reader_readLets_8 ?_
        obtain ⟨r14, r14f, r14B, r14k⟩ := hT.1 q 3 0 hqB hqk (by decide) (by decide) rfl
        refine zc_getF hn3 (pc := 9) f_Reader_15 rfl hqk r14f d_Reader_readLets_9 ?_
        refine zw_ldcs (pc := 12) (i := 2) (List.mem_of_getElem? (i := 2) rfl) d_Reader_readLets_12 ?_
        refine zc_callV hn3 (pc := 14) [.ref (zK 2)] [] l_Reader_49 (c_Tokens_isWord l B N2 (hT.mod hn3) r14 r14B (hn3.k r14k) 2 (by decide)) rfl rfl r14k (by decide) (by decide) (Nat.le_of_ble_eq_true rfl) d_Reader_readLets_14 (fun r17 N15 hq16 => ?_)
        obtain ⟨hk20, v19, rfl, zv19⟩ := hq16
        have hn18 : zMod B [(1, 2), (1, 3), (1, 4), (1, 5), (3, 1), (3, 2), (3, 3), (4, 6), (10, 2), (10, 3), (10, 4), (10, 5), (10, 6)] M N15 := hn3.call hk20 (by decide)
        show zW l m_Reader_readLets (zn M + 0, zw M + 0) N15 17 [some (.ref q), some (.ref a0), some (.int u1), none, none] [.int v19] (zqZ B M [(1, 2), (1, 3), (1, 4), (1, 5), (3, 1), (3, 2), (3, 3), (4, 6), (10, 2), (10, 3), (10, 4), (10, 5), (10, 6)])
        refine zw_if_eq (pc := 17) (tgt := 156) (by decide) d_Reader_readLets_17 (fun hc_17 => ?_) (fun hc_17 => ?_)
        · exact j_156 N15 hn18
        · refine zw_aload_n (pc := 20) (n := 0) (x := q) rfl d_Reader_readLets_20 ?_
          refine zc_getF hn18 (pc := 21) f_Reader_15 rfl hqk r14f d_Reader_readLets_21 ?_
          refine zc_getI hn18 (pc := 24) f_Reader_30 rfl r14k d_Reader_readLets_24 ?_
          refine zw_istore_n (pc := 27) (i := 3) (L2 := [some (.ref q), some (.ref a0), some (.int u1), some (.int (zi N15 r14 2)), none]) rfl (by decide) rfl d_Reader_readLets_27 ?_
          refine zw_aload_n (pc := 28) (n := 1) (x := a0) rfl d_Reader_readLets_28 ?_
          refine zc_getI hn18 (pc := 29) f_Reader_98 rfl a0k d_Reader_readLets_29 ?_
          refine zw_bipush (pc := 32) (v := 8) (by decide) d_Reader_readLets_32 ?_
          refine zw_icmp_lt (pc := 34) (tgt := 43) (by decide) d_Reader_readLets_34 (fun hc_34 => ?_) (fun hc_34 => ?_)
          · refine zw_aload_n (pc := 43) (n := 0) (x := q) rfl d_Reader_readLets_43 ?_
            refine zc_getF hn18 (pc := 44) f_Reader_15 rfl hqk r14f d_Reader_readLets_44 ?_
            refine zc_callV hn18 (pc := 47) [] [] l_Reader_44 (c_Tokens_step l B N15 (hT.mod hn18) r14 r14B (hn18.k r14k)) rfl rfl r14k (by decide) (by decide) (Nat.le_of_ble_eq_true rfl) d_Reader_readLets_47 (fun r24 N22 hq23 => ?_)
            obtain ⟨hk27, rfl⟩ := hq23
            have hn25 : zMod B [(1, 2), (1, 3), (1, 4), (1, 5), (3, 1), (3, 2), (3, 3), (4, 6), (10, 2), (10, 3), (10, 4), (10, 5), (10, 6)] M N22 := hn18.call hk27 (by decide)
            show zW l m_Reader_readLets (zn M + 0, zw M + 0) N22 50 [some (.ref q), some (.ref a0), some (.int u1), some (.int (zi N15 r14 2)), none] [] (zqZ B M [(1, 2), (1, 3), (1, 4), (1, 5), (3, 1), (3, 2), (3, 3), (4, 6), (10, 2), (10, 3), (10, 4), (10, 5), (10, 6)])
            refine zw_aload_n (pc := 50) (n := 0) (x := q) rfl d_Reader_readLets_50 ?_
            refine zc_getF hn25 (pc := 51) f_Reader_15 rfl hqk r14f d_Reader_readLets_51 ?_
            refine zc_callV hn25 (pc := 54) [] [] l_Reader_101 (c_Tokens_isName l B N22 (hT.mod hn25) r14 r14B (hn25.k r14k)) rfl rfl r14k (by decide) (by decide) (Nat.le_of_ble_eq_true rfl) d_Reader_readLets_54 (fun r31 N29 hq30 => ?_)
            obtain ⟨hk34, v33, rfl, zv33⟩ := hq30
            have hn32 : zMod B [(1, 2), (1, 3), (1, 4), (1, 5), (3, 1), (3, 2), (3, 3), (4, 6), (10, 2), (10, 3), (10, 4), (10, 5), (10, 6)] M N29 := hn25.call hk34 (by decide)
            show zW l m_Reader_readLets (zn M + 0, zw M + 0) N29 57 [some (.ref q), some (.ref a0), some (.int u1), some (.int (zi N15 r14 2)), none] [.int v33] (zqZ B M [(1, 2), (1, 3), (1, 4), (1, 5), (3, 1), (3, 2), (3, 3), (4, 6), (10, 2), (10, 3), (10, 4), (10, 5), (10, 6)])
            refine zw_if_ne (pc := 57) (tgt := 66) (by decide) d_Reader_readLets_57 (fun hc_57 => ?_) (fun hc_57 => ?_)
            · refine zw_aload_n (pc := 66) (n := 0) (x := q) rfl d_Reader_readLets_66 ?_
              refine zc_getF hn32 (pc := 67) f_Reader_15 rfl hqk r14f d_Reader_readLets_67 ?_
              refine zc_getI hn32 (pc := 70) f_Reader_57 rfl r14k d_Reader_readLets_70 ?_
              refine zw_istore (pc := 73) (i := 4) (L2 := [some (.ref q), some (.ref a0), some (.int u1), some (.int (zi N15 r14 2)), some (.int (zi N29 r14 5))]) (by decide) rfl d_Reader_readLets_73 ?_
              refine zw_aload_n (pc := 75) (n := 1) (x := a0) rfl d_Reader_readLets_75 ?_
              refine zw_iload (pc := 76) (i := 4) (x := zi N29 r14 5) rfl d_Reader_readLets_76 ?_
              refine zc_callV hn32 (pc := 78) [.int (zi N29 r14 5)] [] l_Reader_104 (c_Troupe_nameOf l B N29 (hT.mod hn32) a0 a0B (hn32.k a0k) (zi N29 r14 5)) rfl rfl a0k (by decide) (by decide) (Nat.le_of_ble_eq_true rfl) d_Reader_readLets_78 (fun r38 N36 hq37 => ?_)
              obtain ⟨hk41, v40, rfl⟩ := hq37
              have hn39 : zMod B [(1, 2), (1, 3), (1, 4), (1, 5), (3, 1), (3, 2), (3, 3), (4, 6), (10, 2), (10, 3), (10, 4), (10, 5), (10, 6)] M N36 := hn32.call hk41 (by decide)
              show zW l m_Reader_readLets (zn M + 0, zw M + 0) N36 81 [some (.ref q), some (.ref a0), some (.int u1), some (.int (zi N15 r14 2)), some (.int (zi N29 r14 5))] [.int v40] (zqZ B M [(1, 2), (1, 3), (1, 4), (1, 5), (3, 1), (3, 2), (3, 3), (4, 6), (10, 2), (10, 3), (10, 4), (10, 5), (10, 6)])
              refine zw_iconst (pc := 81) (v := (-1)) (by decide) d_Reader_readLets_81 ?_
              refine zw_icmp_eq (pc := 82) (tgt := 91) (by decide) d_Reader_readLets_82 (fun hc_82 => ?_) (fun hc_82 => ?_)
              · refine zw_aload_n (pc := 91) (n := 0) (x := q) rfl d_Reader_readLets_91 ?_
                refine zc_getF hn39 (pc := 92) f_Reader_15 rfl hqk r14f d_Reader_readLets_92 ?_
                refine zc_callV hn39 (pc := 95) [] [] l_Reader_44 (c_Tokens_step l B N36 (hT.mod hn39) r14 r14B (hn39.k r14k)) rfl rfl r14k (by decide) (by decide) (Nat.le_of_ble_eq_true rfl) d_Reader_readLets_95 (fun r45 N43 hq44 => ?_)
                obtain ⟨hk48, rfl⟩ := hq44
                have hn46 : zMod B [(1, 2), (1, 3), (1, 4), (1, 5), (3, 1), (3, 2), (3, 3), (4, 6), (10, 2), (10, 3), (10, 4), (10, 5), (10, 6)] M N43 := hn39.call hk48 (by decide)
                show zW l m_Reader_readLets (zn M + 0, zw M + 0) N43 98 [some (.ref q), some (.ref a0), some (.int u1), some (.int (zi N15 r14 2)), some (.int (zi N29 r14 5))] [] (zqZ B M [(1, 2), (1, 3), (1, 4), (1, 5), (3, 1), (3, 2), (3, 3), (4, 6), (10, 2), (10, 3), (10, 4), (10, 5), (10, 6)])
                refine zw_aload_n (pc := 98) (n := 0) (x := q) rfl d_Reader_readLets_98 ?_
                refine zw_bipush (pc := 99) (v := 61) (by decide) d_Reader_readLets_99 ?_
                refine zc_callV hn46 (pc := 101) [.int 61] [] l_Reader_66 (c_Reader_passSign l B N43 (hT.mod hn46) q hqB (hn46.k hqk) 61) rfl rfl hqk (by decide) (by decide) (Nat.le_of_ble_eq_true rfl) d_Reader_readLets_101 (fun r52 N50 hq51 => ?_)
                obtain ⟨hk55, v54, rfl, zv54⟩ := hq51
                have hn53 : zMod B [(1, 2), (1, 3), (1, 4), (1, 5), (3, 1), (3, 2), (3, 3), (4, 6), (10, 2), (10, 3), (10, 4), (10, 5), (10, 6)] M N50 := hn46.call hk55 (by decide)
                show zW l m_Reader_readLets (zn M + 0, zw M + 0) N50 104 [some (.ref q), some (.ref a0), some (.int u1), some (.int (zi N15 r14 2)), some (.int (zi N29 r14 5))] [.int v54] (zqZ B M [(1, 2), (1, 3), (1, 4), (1, 5), (3, 1), (3, 2), (3, 3), (4, 6), (10, 2), (10, 3), (10, 4), (10, 5), (10, 6)])
                refine zw_if_eq (pc := 104) (tgt := 124) (by decide) d_Reader_readLets_104 (fun hc_104 => ?_) (fun hc_104 => ?_)
                · refine zw_iconst (pc := 124) (v := 0) (by decide) d_Reader_readLets_124 ?_
                  exact zw_iret (S := []) (pc := 125) (ty := .boolean) rfl (z_narZ (Or.inl rfl)) d_Reader_readLets_125 ⟨hn53, _, rfl, Or.inl rfl⟩
                · refine zw_aload_n (pc := 107) (n := 0) (x := q) rfl d_Reader_readLets_107 ?_
                  refine zw_aload_n (pc := 108) (n := 1) (x := a0) rfl d_Reader_readLets_108 ?_
                  refine zc_callV hn53 (pc := 109) [.ref a0] [] l_Reader_107 (c_Reader_readSum l B N50 (hT.mod hn53) q hqB (hn53.k hqk) a0 a0B (hn53.k a0k)) rfl rfl hqk (by decide) (by decide) (Nat.le_of_ble_eq_true rfl) d_Reader_readLets_109 (fun r59 N57 hq58 => ?_)
                  obtain ⟨hk62, v61, rfl, zv61⟩ := hq58
                  have hn60 : zMod B [(1, 2), (1, 3), (1, 4), (1, 5), (3, 1), (3, 2), (3, 3), (4, 6), (10, 2), (10, 3), (10, 4), (10, 5), (10, 6)] M N57 := hn53.call hk62 (by decide)
                  show zW l m_Reader_readLets (zn M + 0, zw M + 0) N57 112 [some (.ref q), some (.ref a0), some (.int u1), some (.int (zi N15 r14 2)), some (.int (zi N29 r14 5))] [.int v61] (zqZ B M [(1, 2), (1, 3), (1, 4), (1, 5), (3, 1), (3, 2), (3, 3), (4, 6), (10, 2), (10, 3), (10, 4), (10, 5), (10, 6)])
                  refine zw_if_eq (pc := 112) (tgt := 124) (by decide) d_Reader_readLets_112 (fun hc_112 => ?_) (fun hc_112 => ?_)
                  · refine zw_iconst (pc := 124) (v := 0) (by decide) d_Reader_readLets_124 ?_
                    exact zw_iret (S := []) (pc := 125) (ty := .boolean) rfl (z_narZ (Or.inl rfl)) d_Reader_readLets_125 ⟨hn60, _, rfl, Or.inl rfl⟩
                  · refine zw_aload_n (pc := 115) (n := 0) (x := q) rfl d_Reader_readLets_115 ?_
                    refine zw_bipush (pc := 116) (v := 59) (by decide) d_Reader_readLets_116 ?_
                    refine zc_callV hn60 (pc := 118) [.int 59] [] l_Reader_66 (c_Reader_passSign l B N57 (hT.mod hn60) q hqB (hn60.k hqk) 59) rfl rfl hqk (by decide) (by decide) (Nat.le_of_ble_eq_true rfl) d_Reader_readLets_118 (fun r66 N64 hq65 => ?_)
                    obtain ⟨hk69, v68, rfl, zv68⟩ := hq65
                    have hn67 : zMod B [(1, 2), (1, 3), (1, 4), (1, 5), (3, 1), (3, 2), (3, 3), (4, 6), (10, 2), (10, 3), (10, 4), (10, 5), (10, 6)] M N64 := hn60.call hk69 (by decide)
                    show zW l m_Reader_readLets (zn M + 0, zw M + 0) N64 121 [some (.ref q), some (.ref a0), some (.int u1), some (.int (zi N15 r14 2)), some (.int (zi N29 r14 5))] [.int v68] (zqZ B M [(1, 2), (1, 3), (1, 4), (1, 5), (3, 1), (3, 2), (3, 3), (4, 6), (10, 2), (10, 3), (10, 4), (10, 5), (10, 6)])
                    refine zw_if_ne (pc := 121) (tgt := 126) (by decide) d_Reader_readLets_121 (fun hc_121 => ?_) (fun hc_121 => ?_)
                    · refine zw_aload_n (pc := 126) (n := 1) (x := a0) rfl d_Reader_readLets_126 ?_
                      obtain ⟨r71, r71f, r71B, r71k⟩ := hT.1 a0 4 4 a0B a0k (by decide) (by decide) rfl
                      refine zc_getF hn67 (pc := 127) f_Reader_111 rfl a0k r71f d_Reader_readLets_127 ?_
                      refine zc_getI hn67 (pc := 130) f_Reader_115 rfl r71k d_Reader_readLets_130 ?_
                      refine zw_if_eq (pc := 133) (tgt := 144) (by decide) d_Reader_readLets_133 (fun hc_133 => ?_) (fun hc_133 => ?_)
                      · refine zw_aload_n (pc := 144) (n := 1) (x := a0) rfl d_Reader_readLets_144 ?_
                        refine zw_iload (pc := 145) (i := 4) (x := zi N29 r14 5) rfl d_Reader_readLets_145 ?_
                        refine zc_callV hn67 (pc := 147) [.int (zi N29 r14 5)] [] l_Reader_121 (c_Troupe_addName l B N64 (hT.mod hn67) a0 a0B (hn67.k a0k) (zi N29 r14 5)) rfl rfl a0k (by decide) (by decide) (Nat.le_of_ble_eq_true rfl) d_Reader_readLets_147 (fun r74 N72 hq73 => ?_)
                        obtain ⟨hk77, rfl⟩ := hq73
                        have hn75 : zMod B [(1, 2), (1, 3), (1, 4), (1, 5), (3, 1), (3, 2), (3, 3), (4, 6), (10, 2), (10, 3), (10, 4), (10, 5), (10, 6)] M N72 := hn67.call hk77 (by decide)
                        show zW l m_Reader_readLets (zn M + 0, zw M + 0) N72 150 [some (.ref q), some (.ref a0), some (.int u1), some (.int (zi N15 r14 2)), some (.int (zi N29 r14 5))] [] (zqZ B M [(1, 2), (1, 3), (1, 4), (1, 5), (3, 1), (3, 2), (3, 3), (4, 6), (10, 2), (10, 3), (10, 4), (10, 5), (10, 6)])
                        refine zw_iinc (pc := 150) (i := 2) (x := u1) (v := u1 + Int32.ofInt 1) (L2 := [some (.ref q), some (.ref a0), some (.int (u1 + Int32.ofInt 1)), some (.int (zi N15 r14 2)), some (.int (zi N29 r14 5))]) rfl rfl (by decide) rfl d_Reader_readLets_150 ?_
                        refine zw_goto (pc := 153) (tgt := 2) (by decide) d_Reader_readLets_153 ?_
                        refine zW_le [some (.ref q), some (.ref a0), some (.int (u1 + Int32.ofInt 1)), none, none] (⟨rfl, rfl, rfl, trivial⟩) ?_
                        exact ih_2 (u1 + Int32.ofInt 1) N72 hn75 (Nat.lt_of_lt_of_le (z_upq (by decide) hc_5) (Nat.le_of_lt_succ hlt_2))
                      · refine zw_aload_n (pc := 136) (n := 0) (x := q) rfl d_Reader_readLets_136 ?_
                        refine zw_bipush (pc := 137) (v := 6) (by decide) d_Reader_readLets_137 ?_
                        refine zw_iload_n (pc := 139) (n := 3) (x := zi N15 r14 2) rfl d_Reader_readLets_139 ?_
                        refine zc_callV hn67 (pc := 140) [.int 6, .int (zi N15 r14 2)] [] l_Reader_33 (c_Reader_refuseAt l B N64 (hT.mod hn67) q hqB (hn67.k hqk) 6 (zi N15 r14 2)) rfl rfl hqk (by decide) (by decide) (Nat.le_of_ble_eq_true rfl) d_Reader_readLets_140 (fun r81 N79 hq80 => ?_)
                        obtain ⟨hk84, v83, rfl, zv83⟩ := hq80
                        have hn82 : zMod B [(1, 2), (1, 3), (1, 4), (1, 5), (3, 1), (3, 2), (3, 3), (4, 6), (10, 2), (10, 3), (10, 4), (10, 5), (10, 6)] M N79 := hn67.call hk84 (by decide)
                        show zW l m_Reader_readLets (zn M + 0, zw M + 0) N79 143 [some (.ref q), some (.ref a0), some (.int u1), some (.int (zi N15 r14 2)), some (.int (zi N29 r14 5))] [.int v83] (zqZ B M [(1, 2), (1, 3), (1, 4), (1, 5), (3, 1), (3, 2), (3, 3), (4, 6), (10, 2), (10, 3), (10, 4), (10, 5), (10, 6)])
                        exact zw_iret (S := []) (pc := 143) (ty := .boolean) rfl (z_narZ (zv83)) d_Reader_readLets_143 ⟨hn82, _, rfl, zv83⟩
                    · refine zw_iconst (pc := 124) (v := 0) (by decide) d_Reader_readLets_124 ?_
                      exact zw_iret (S := []) (pc := 125) (ty := .boolean) rfl (z_narZ (Or.inl rfl)) d_Reader_readLets_125 ⟨hn67, _, rfl, Or.inl rfl⟩
              · refine zw_aload_n (pc := 85) (n := 0) (x := q) rfl d_Reader_readLets_85 ?_
                refine zw_iconst (pc := 86) (v := 3) (by decide) d_Reader_readLets_86 ?_
                refine zc_callV hn39 (pc := 87) [.int 3] [] l_Reader_41 (c_Reader_refuse l B N36 (hT.mod hn39) q hqB (hn39.k hqk) 3) rfl rfl hqk (by decide) (by decide) (Nat.le_of_ble_eq_true rfl) d_Reader_readLets_87 (fun r88 N86 hq87 => ?_)
                obtain ⟨hk91, v90, rfl, zv90⟩ := hq87
                have hn89 : zMod B [(1, 2), (1, 3), (1, 4), (1, 5), (3, 1), (3, 2), (3, 3), (4, 6), (10, 2), (10, 3), (10, 4), (10, 5), (10, 6)] M N86 := hn39.call hk91 (by decide)
                show zW l m_Reader_readLets (zn M + 0, zw M + 0) N86 90 [some (.ref q), some (.ref a0), some (.int u1), some (.int (zi N15 r14 2)), some (.int (zi N29 r14 5))] [.int v90] (zqZ B M [(1, 2), (1, 3), (1, 4), (1, 5), (3, 1), (3, 2), (3, 3), (4, 6), (10, 2), (10, 3), (10, 4), (10, 5), (10, 6)])
                exact zw_iret (S := []) (pc := 90) (ty := .boolean) rfl (z_narZ (zv90)) d_Reader_readLets_90 ⟨hn89, _, rfl, zv90⟩
            · refine zw_aload_n (pc := 60) (n := 0) (x := q) rfl d_Reader_readLets_60 ?_
              refine zw_iconst (pc := 61) (v := 2) (by decide) d_Reader_readLets_61 ?_
              refine zc_callV hn32 (pc := 62) [.int 2] [] l_Reader_41 (c_Reader_refuse l B N29 (hT.mod hn32) q hqB (hn32.k hqk) 2) rfl rfl hqk (by decide) (by decide) (Nat.le_of_ble_eq_true rfl) d_Reader_readLets_62 (fun r95 N93 hq94 => ?_)
              obtain ⟨hk98, v97, rfl, zv97⟩ := hq94
              have hn96 : zMod B [(1, 2), (1, 3), (1, 4), (1, 5), (3, 1), (3, 2), (3, 3), (4, 6), (10, 2), (10, 3), (10, 4), (10, 5), (10, 6)] M N93 := hn32.call hk98 (by decide)
              show zW l m_Reader_readLets (zn M + 0, zw M + 0) N93 65 [some (.ref q), some (.ref a0), some (.int u1), some (.int (zi N15 r14 2)), none] [.int v97] (zqZ B M [(1, 2), (1, 3), (1, 4), (1, 5), (3, 1), (3, 2), (3, 3), (4, 6), (10, 2), (10, 3), (10, 4), (10, 5), (10, 6)])
              exact zw_iret (S := []) (pc := 65) (ty := .boolean) rfl (z_narZ (zv97)) d_Reader_readLets_65 ⟨hn96, _, rfl, zv97⟩
          · refine zw_aload_n (pc := 37) (n := 0) (x := q) rfl d_Reader_readLets_37 ?_
            refine zw_iconst (pc := 38) (v := 5) (by decide) d_Reader_readLets_38 ?_
            refine zc_callV hn18 (pc := 39) [.int 5] [] l_Reader_41 (c_Reader_refuse l B N15 (hT.mod hn18) q hqB (hn18.k hqk) 5) rfl rfl hqk (by decide) (by decide) (Nat.le_of_ble_eq_true rfl) d_Reader_readLets_39 (fun r102 N100 hq101 => ?_)
            obtain ⟨hk105, v104, rfl, zv104⟩ := hq101
            have hn103 : zMod B [(1, 2), (1, 3), (1, 4), (1, 5), (3, 1), (3, 2), (3, 3), (4, 6), (10, 2), (10, 3), (10, 4), (10, 5), (10, 6)] M N100 := hn18.call hk105 (by decide)
            show zW l m_Reader_readLets (zn M + 0, zw M + 0) N100 42 [some (.ref q), some (.ref a0), some (.int u1), some (.int (zi N15 r14 2)), none] [.int v104] (zqZ B M [(1, 2), (1, 3), (1, 4), (1, 5), (3, 1), (3, 2), (3, 3), (4, 6), (10, 2), (10, 3), (10, 4), (10, 5), (10, 6)])
            exact zw_iret (S := []) (pc := 42) (ty := .boolean) rfl (z_narZ (zv104)) d_Reader_readLets_42 ⟨hn103, _, rfl, zv104⟩
  exact lp_2 _ 0 M hm (Nat.lt_succ_self _)
set_option maxHeartbeats 4000000 in
theorem c_T_troupe (l : Launch) (B : Nat) (M : zMem) (hT : zTy B M) (q : Nat) (hqB : q < B) (hqk : (zsh M q).1 = 0 + 3) : zC l m_T_troupe 0 0 [.ref q] M (zqT B M q) := by
  refine zC_of (L0 := [some (.ref q), none, none]) md_T_troupe (Nat.le_of_ble_eq_true rfl) rfl ?_ zQ0
  have hm : zMod B [(1, 1), (1, 2), (1, 3), (1, 4), (1, 5), (3, 1), (3, 2), (3, 3), (4, 6), (4, 7), (4, 8), (5, 5), (5, 6), (5, 7), (6, 6), (6, 7), (9, 4), (10, 2), (10, 3), (10, 4), (10, 5), (10, 6)] M M := zMod.rf
  obtain ⟨r1, r1f, r1B, r1k⟩ := hT.1 q 0 0 hqB hqk (by decide) (by decide) rfl
  refine zw_aload_n (pc := 0) (n := 0) (x := q) rfl d_T_troupe_0 ?_
  obtain ⟨r2, r2f, r2B, r2k⟩ := hT.1 q 0 3 hqB hqk (by decide) (by decide) rfl
  refine zc_getF hm (pc := 1) f_T_32 rfl hqk r2f d_T_troupe_1 ?_
  refine zw_astore_n (pc := 4) (i := 1) (L2 := [some (.ref q), some (.ref r2), none]) rfl (by decide) rfl d_T_troupe_4 ?_
  refine zw_aload_n (pc := 5) (n := 0) (x := q) rfl d_T_troupe_5 ?_
  obtain ⟨r3, r3f, r3B, r3k⟩ := hT.1 q 0 1 hqB hqk (by decide) (by decide) rfl
  refine zc_getF hm (pc := 6) f_T_21 rfl hqk r3f d_T_troupe_6 ?_
  refine zc_callV hm (pc := 9) [] [] l_T_49 (c_Reader_begin l B M (hT.mod hm) r3 r3B (hm.k r3k)) rfl rfl r3k (by decide) (by decide) (Nat.le_of_ble_eq_true rfl) d_T_troupe_9 (fun r6 N4 hq5 => ?_)
  obtain ⟨hk9, rfl⟩ := hq5
  have hn7 : zMod B [(1, 1), (1, 2), (1, 3), (1, 4), (1, 5), (3, 1), (3, 2), (3, 3), (4, 6), (4, 7), (4, 8), (5, 5), (5, 6), (5, 7), (6, 6), (6, 7), (9, 4), (10, 2), (10, 3), (10, 4), (10, 5), (10, 6)] M N4 := hm.call hk9 (by decide)
  have kv11 : zi N4 r1 1 = zi M r1 1 := (hk9.2.2.2.2 r1 1 1 (hm.k r1k) (by decide)).trans rfl
  show zW l m_T_troupe (zn M + 0, zw M + 0) N4 12 [some (.ref q), some (.ref r2), none] [] (zqT B M q)
  refine zw_aload_n (pc := 12) (n := 0) (x := q) rfl d_T_troupe_12 ?_
  refine zc_getF hn7 (pc := 13) f_T_21 rfl hqk r3f d_T_troupe_13 ?_
  refine zw_aload_n (pc := 16) (n := 1) (x := r2) rfl d_T_troupe_16 ?_
  refine zc_callV hn7 (pc := 17) [.ref r2] [] l_T_51 (c_Reader_readPlaces l B N4 (hT.mod hn7) r3 r3B (hn7.k r3k) r2 r2B (hn7.k r2k)) rfl rfl r3k (by decide) (by decide) (Nat.le_of_ble_eq_true rfl) d_T_troupe_17 (fun r14 N12 hq13 => ?_)
  obtain ⟨hk17, v16, rfl, zv16⟩ := hq13
  have hn15 : zMod B [(1, 1), (1, 2), (1, 3), (1, 4), (1, 5), (3, 1), (3, 2), (3, 3), (4, 6), (4, 7), (4, 8), (5, 5), (5, 6), (5, 7), (6, 6), (6, 7), (9, 4), (10, 2), (10, 3), (10, 4), (10, 5), (10, 6)] M N12 := hn7.call hk17 (by decide)
  have kv19 : zi N12 r1 1 = zi M r1 1 := (hk17.2.2.2.2 r1 1 1 (hn7.k r1k) (by decide)).trans kv11
  show zW l m_T_troupe (zn M + 0, zw M + 0) N12 20 [some (.ref q), some (.ref r2), none] [.int v16] (zqT B M q)
  have j_39 : ∀ (u20 : Int32) (hu20 : u20 = 0 ∨ u20 = 1) (N21 : zMem) (hn22 : zMod B [(1, 1), (1, 2), (1, 3), (1, 4), (1, 5), (3, 1), (3, 2), (3, 3), (4, 6), (4, 7), (4, 8), (5, 5), (5, 6), (5, 7), (6, 6), (6, 7), (9, 4), (10, 2), (10, 3), (10, 4), (10, 5), (10, 6)] M N21) (ki23 : zi N21 r1 1 = zi M r1 1), zW l m_T_troupe (zn M + 0, zw M + 0) N21 39 [some (.ref q), some (.ref r2), none] [.int u20] (zqT B M q) := by
    intro u20 hu20 N21 hn22 ki23
    refine zw_istore_n (pc := 39) (i := 2) (L2 := [some (.ref q), some (.ref r2), some (.int u20)]) rfl (by decide) rfl d_T_troupe_39 ?_
    refine zw_iload_n (pc := 40) (n := 2) (x := u20) rfl d_T_troupe_40 ?_
    have j_57 : ∀ (u24 : Int32) (hu24 : u24 = 0 ∨ u24 = 1) (N25 : zMem) (hn26 : zMod B [(1, 1), (1, 2), (1, 3), (1, 4), (1, 5), (3, 1), (3, 2), (3, 3), (4, 6), (4, 7), (4, 8), (5, 5), (5, 6), (5, 7), (6, 6), (6, 7), (9, 4), (10, 2), (10, 3), (10, 4), (10, 5), (10, 6)] M N25) (ki27 : zi N25 r1 1 = zi M r1 1), zW l m_T_troupe (zn M + 0, zw M + 0) N25 57 [some (.ref q), some (.ref r2), some (.int u24)] [] (zqT B M q) := by
      intro u24 hu24 N25 hn26 ki27
      refine zw_aload_n (pc := 57) (n := 0) (x := q) rfl d_T_troupe_57 ?_
      refine zc_getF hn26 (pc := 58) f_T_10 rfl hqk r1f d_T_troupe_58 ?_
      refine zw_iconst (pc := 61) (v := 0) (by decide) d_T_troupe_61 ?_
      refine zc_putI hn26 (pc := 62) f_T_42 rfl rfl r1k r1B (by decide) rfl rfl d_T_troupe_62 (fun N28 hN28 hn29 => ?_)
      have kv30 : zi N28 r1 1 = 0 := by rw [hN28]; exact zup2_s
      refine zw_iload_n (pc := 65) (n := 2) (x := u24) rfl d_T_troupe_65 ?_
      refine zw_if_ne (pc := 66) (tgt := 71) (by decide) d_T_troupe_66 (fun hc_66 => ?_) (fun hc_66 => ?_)
      · refine zw_aload_n (pc := 71) (n := 0) (x := q) rfl d_T_troupe_71 ?_
        refine zw_aload_n (pc := 72) (n := 0) (x := q) rfl d_T_troupe_72 ?_
        obtain ⟨r31, r31f, r31B, r31k⟩ := hT.1 q 0 2 hqB hqk (by decide) (by decide) rfl
        refine zc_getF hn29 (pc := 73) f_T_28 rfl hqk r31f d_T_troupe_73 ?_
        refine zw_putR (pc := 76) (x := r31) (Or.inl ⟨f_T_32, rfl⟩) rfl (hn29.k hqk) (fun _ => rfl) (fun _ => rfl) d_T_troupe_76 ?_
        refine zw_aload_n (pc := 79) (n := 0) (x := q) rfl d_T_troupe_79 ?_
        refine zw_aload_n (pc := 80) (n := 1) (x := r2) rfl d_T_troupe_80 ?_
        refine zw_putR (pc := 81) (x := r2) (Or.inl ⟨f_T_28, rfl⟩) rfl (hn29.k hqk) (fun _ => rfl) (fun _ => rfl) d_T_troupe_81 ?_
        have hT2 : zTy B (zsF (zsF N28 q 3 (some r31)) q 2 (some r2)) := (((hT.mod hn29).putR (q := q) (j := 3) (ci := 0) r31B (hn29.k hqk) (hn29.k r31k)).putR (q := q) (j := 2) (ci := 0) r2B (hn29.k hqk) (hn29.k r2k))
        obtain ⟨g, gf, gB, gk⟩ := hT2.1 r2 4 0 r2B (hn29.k r2k) (by decide) (by decide) rfl
        refine zw_aload_n (pc := 84) (n := 0) (x := q) rfl d_T_troupe_84 ?_
        refine zw_getF (pc := 85) (r := r2) f_T_28 rfl (hn29.k hqk) zup2_s d_T_troupe_85 ?_
        refine zw_getF (pc := 88) f_T_61 rfl (hn29.k r2k) gf d_T_troupe_88 ?_
        refine zw_getI (pc := 91) f_T_65 rfl gk d_T_troupe_91 ?_
        exact zw_iret (S := []) (pc := 94) (ty := .int) rfl rfl d_T_troupe_94 ⟨hT2, hn29.1, hn29.2.1, fun r hr => ⟨(hn29.2.2.2.1 r hr).1, (hn29.2.2.2.1 r hr).2, by
          show zup2 (zup2 (zf N28) q 3 _) q 2 _ r = _
          rw [zup2_q (by omega), zup2_q (by omega), hn29.2.2.1]⟩, fun t ht => by
          rw [r1f] at ht
          cases ht
          exact ⟨((zup2_n (fun z => absurd z.2 (by decide))).trans (zup2_n (fun z => absurd z.2 (by decide)))).trans (by show zf N28 q 0 = _; rw [hn29.2.2.1]; exact r1f), kv30⟩, _, rfl⟩
      · refine zw_iconst (pc := 69) (v := (-1)) (by decide) d_T_troupe_69 ?_
        exact zw_iret (S := []) (pc := 70) (ty := .int) rfl rfl d_T_troupe_70 ⟨hT.mod hn29, hn29.1, hn29.2.1, fun r hr => ⟨(hn29.2.2.2.1 r hr).1, (hn29.2.2.2.1 r hr).2, by rw [hn29.2.2.1]⟩, fun t ht => by
          rw [r1f] at ht
          cases ht
          exact ⟨by rw [hn29.2.2.1]; exact r1f, kv30⟩, _, rfl⟩
    refine zw_if_eq (pc := 41) (tgt := 57) (by decide) d_T_troupe_41 (fun hc_41 => ?_) (fun hc_41 => ?_)
    · exact j_57 u20 (hu20) N21 hn22 ki23
    · refine zw_aload_n (pc := 44) (n := 1) (x := r2) rfl d_T_troupe_44 ?_
      refine zc_callV hn22 (pc := 45) [] [] l_T_39 (c_Troupe_settle l B N21 (hT.mod hn22) r2 r2B (hn22.k r2k)) rfl rfl r2k (by decide) (by decide) (Nat.le_of_ble_eq_true rfl) d_T_troupe_45 (fun r34 N32 hq33 => ?_)
      obtain ⟨hk37, rfl⟩ := hq33
      have hn35 : zMod B [(1, 1), (1, 2), (1, 3), (1, 4), (1, 5), (3, 1), (3, 2), (3, 3), (4, 6), (4, 7), (4, 8), (5, 5), (5, 6), (5, 7), (6, 6), (6, 7), (9, 4), (10, 2), (10, 3), (10, 4), (10, 5), (10, 6)] M N32 := hn22.call hk37 (by decide)
      have kv39 : zi N32 r1 1 = zi M r1 1 := (hk37.2.2.2.2 r1 1 1 (hn22.k r1k) (by decide)).trans ki23
      show zW l m_T_troupe (zn M + 0, zw M + 0) N32 48 [some (.ref q), some (.ref r2), some (.int u20)] [] (zqT B M q)
      refine zw_aload_n (pc := 48) (n := 0) (x := q) rfl d_T_troupe_48 ?_
      refine zc_getF hn35 (pc := 49) f_T_21 rfl hqk r3f d_T_troupe_49 ?_
      refine zw_aload_n (pc := 52) (n := 1) (x := r2) rfl d_T_troupe_52 ?_
      refine zc_callV hn35 (pc := 53) [.ref r2] [] l_T_58 (c_Reader_readLets l B N32 (hT.mod hn35) r3 r3B (hn35.k r3k) r2 r2B (hn35.k r2k)) rfl rfl r3k (by decide) (by decide) (Nat.le_of_ble_eq_true rfl) d_T_troupe_53 (fun r42 N40 hq41 => ?_)
      obtain ⟨hk45, v44, rfl, zv44⟩ := hq41
      have hn43 : zMod B [(1, 1), (1, 2), (1, 3), (1, 4), (1, 5), (3, 1), (3, 2), (3, 3), (4, 6), (4, 7), (4, 8), (5, 5), (5, 6), (5, 7), (6, 6), (6, 7), (9, 4), (10, 2), (10, 3), (10, 4), (10, 5), (10, 6)] M N40 := hn35.call hk45 (by decide)
      have kv47 : zi N40 r1 1 = zi M r1 1 := (hk45.2.2.2.2 r1 1 1 (hn35.k r1k) (by decide)).trans kv39
      show zW l m_T_troupe (zn M + 0, zw M + 0) N40 56 [some (.ref q), some (.ref r2), some (.int u20)] [.int v44] (zqT B M q)
      refine zw_istore_n (pc := 56) (i := 2) (L2 := [some (.ref q), some (.ref r2), some (.int v44)]) rfl (by decide) rfl d_T_troupe_56 ?_
      exact j_57 v44 (zv44) N40 hn43 kv47
  have j_38 : ∀ (N48 : zMem) (hn49 : zMod B [(1, 1), (1, 2), (1, 3), (1, 4), (1, 5), (3, 1), (3, 2), (3, 3), (4, 6), (4, 7), (4, 8), (5, 5), (5, 6), (5, 7), (6, 6), (6, 7), (9, 4), (10, 2), (10, 3), (10, 4), (10, 5), (10, 6)] M N48) (ki50 : zi N48 r1 1 = zi M r1 1), zW l m_T_troupe (zn M + 0, zw M + 0) N48 38 [some (.ref q), some (.ref r2), none] [] (zqT B M q) := by
    intro N48 hn49 ki50
    refine zw_iconst (pc := 38) (v := 0) (by decide) d_T_troupe_38 ?_
    exact j_39 0 (Or.inl rfl) N48 hn49 ki50
  refine zw_if_eq (pc := 20) (tgt := 38) (by decide) d_T_troupe_20 (fun hc_20 => ?_) (fun hc_20 => ?_)
  · exact j_38 N12 hn15 kv19
  · refine zw_aload_n (pc := 23) (n := 0) (x := q) rfl d_T_troupe_23 ?_
    refine zc_getF hn15 (pc := 24) f_T_21 rfl hqk r3f d_T_troupe_24 ?_
    refine zw_aload_n (pc := 27) (n := 1) (x := r2) rfl d_T_troupe_27 ?_
    refine zc_callV hn15 (pc := 28) [.ref r2] [] l_T_55 (c_Reader_readMoves l B N12 (hT.mod hn15) r3 r3B (hn15.k r3k) r2 r2B (hn15.k r2k)) rfl rfl r3k (by decide) (by decide) (Nat.le_of_ble_eq_true rfl) d_T_troupe_28 (fun r53 N51 hq52 => ?_)
    obtain ⟨hk56, v55, rfl, zv55⟩ := hq52
    have hn54 : zMod B [(1, 1), (1, 2), (1, 3), (1, 4), (1, 5), (3, 1), (3, 2), (3, 3), (4, 6), (4, 7), (4, 8), (5, 5), (5, 6), (5, 7), (6, 6), (6, 7), (9, 4), (10, 2), (10, 3), (10, 4), (10, 5), (10, 6)] M N51 := hn15.call hk56 (by decide)
    have kv58 : zi N51 r1 1 = zi M r1 1 := (hk56.2.2.2.2 r1 1 1 (hn15.k r1k) (by decide)).trans kv19
    show zW l m_T_troupe (zn M + 0, zw M + 0) N51 31 [some (.ref q), some (.ref r2), none] [.int v55] (zqT B M q)
    refine zw_if_eq (pc := 31) (tgt := 38) (by decide) d_T_troupe_31 (fun hc_31 => ?_) (fun hc_31 => ?_)
    · exact j_38 N51 hn54 kv58
    · refine zw_iconst (pc := 34) (v := 1) (by decide) d_T_troupe_34 ?_
      refine zw_goto (pc := 35) (tgt := 39) (by decide) d_T_troupe_35 ?_
      exact j_39 1 (Or.inr rfl) N51 hn54 kv58
set_option maxHeartbeats 4000000 in
theorem c_T_fault (l : Launch) (B : Nat) (M : zMem) (hT : zTy B M) (q : Nat) (hqB : q < B) (hqk : (zsh M q).1 = 0 + 3) (x0 : Int32) : zC l m_T_fault 0 0 [.ref q, .int x0] M (zqI B M []) := by
  refine zC_of (L0 := [some (.ref q), some (.int x0)]) md_T_fault (Nat.le_of_ble_eq_true rfl) rfl ?_ zQ0
  have hm : zMod B [] M M := zMod.rf
  refine zw_iload_n (pc := 0) (n := 1) (x := x0) rfl d_T_fault_0 ?_
  refine zw_if_ne (pc := 1) (tgt := 12) (by decide) d_T_fault_1 (fun hc_1 => ?_) (fun hc_1 => ?_)
  · refine zw_iload_n (pc := 12) (n := 1) (x := x0) rfl d_T_fault_12 ?_
    refine zw_iconst (pc := 13) (v := 1) (by decide) d_T_fault_13 ?_
    refine zw_icmp_ne (pc := 14) (tgt := 27) (by decide) d_T_fault_14 (fun hc_14 => ?_) (fun hc_14 => ?_)
    · refine zw_iconst (pc := 27) (v := (-1)) (by decide) d_T_fault_27 ?_
      exact zw_iret (S := []) (pc := 28) (ty := .int) rfl rfl d_T_fault_28 ⟨hm, _, rfl⟩
    · refine zw_aload_n (pc := 17) (n := 0) (x := q) rfl d_T_fault_17 ?_
      obtain ⟨r1, r1f, r1B, r1k⟩ := hT.1 q 0 1 hqB hqk (by decide) (by decide) rfl
      refine zc_getF hm (pc := 18) f_T_21 rfl hqk r1f d_T_fault_18 ?_
      refine zc_getI0 hm (pc := 21) (by decide) f_T_73 rfl r1k d_T_fault_21 ?_
      refine zw_goto (pc := 24) (tgt := 28) (by decide) d_T_fault_24 ?_
      exact zw_iret (S := []) (pc := 28) (ty := .int) rfl rfl d_T_fault_28 ⟨hm, _, rfl⟩
  · refine zw_aload_n (pc := 4) (n := 0) (x := q) rfl d_T_fault_4 ?_
    obtain ⟨r2, r2f, r2B, r2k⟩ := hT.1 q 0 1 hqB hqk (by decide) (by decide) rfl
    refine zc_getF hm (pc := 5) f_T_21 rfl hqk r2f d_T_fault_5 ?_
    refine zc_getI0 hm (pc := 8) (by decide) f_T_70 rfl r2k d_T_fault_8 ?_
    exact zw_iret (S := []) (pc := 11) (ty := .int) rfl rfl d_T_fault_11 ⟨hm, _, rfl⟩
set_option maxHeartbeats 4000000 in
theorem c_Group_everyone (l : Launch) (B : Nat) (M : zMem) (hT : zTy B M) (q : Nat) (hqB : q < B) (hqk : (zsh M q).1 = 5 + 3) : zC l m_Group_everyone 0 0 [.ref q] M (zqI B M []) := by
  refine zC_of (L0 := [some (.ref q)]) md_Group_everyone (Nat.le_of_ble_eq_true rfl) rfl ?_ zQ0
  have hm : zMod B [] M M := zMod.rf
  refine zw_iconst (pc := 0) (v := 1) (by decide) d_Group_everyone_0 ?_
  refine zw_aload_n (pc := 1) (n := 0) (x := q) rfl d_Group_everyone_1 ?_
  refine zc_getI0 hm (pc := 2) (by decide) f_Group_39 rfl hqk d_Group_everyone_2 ?_
  refine zw_ishl (pc := 5) d_Group_everyone_5 ?_
  refine zw_iconst (pc := 6) (v := 1) (by decide) d_Group_everyone_6 ?_
  refine zw_isub (pc := 7) d_Group_everyone_7 ?_
  exact zw_iret (S := []) (pc := 8) (ty := .int) rfl rfl d_Group_everyone_8 ⟨hm, _, rfl⟩
set_option maxHeartbeats 4000000 in
theorem c_Group_commutingWith (l : Launch) (B : Nat) (M : zMem) (hT : zTy B M) (q : Nat) (hqB : q < B) (hqk : (zsh M q).1 = 5 + 3) (x0 : Int32) (x1 : Int32) : zC l m_Group_commutingWith 0 0 [.ref q, .int x0, .int x1] M (zqI B M []) := by
  refine zC_of (L0 := [some (.ref q), some (.int x0), some (.int x1), none, none]) md_Group_commutingWith (Nat.le_of_ble_eq_true rfl) rfl ?_ zQ0
  have hm : zMod B [] M M := zMod.rf
  refine zw_iconst (pc := 0) (v := 0) (by decide) d_Group_commutingWith_0 ?_
  refine zw_istore_n (pc := 1) (i := 3) (L2 := [some (.ref q), some (.int x0), some (.int x1), some (.int 0), none]) rfl (by decide) rfl d_Group_commutingWith_1 ?_
  refine zw_iconst (pc := 2) (v := 0) (by decide) d_Group_commutingWith_2 ?_
  refine zw_istore (pc := 3) (i := 4) (L2 := [some (.ref q), some (.int x0), some (.int x1), some (.int 0), some (.int 0)]) (by decide) rfl d_Group_commutingWith_3 ?_
  have lp_5 : ∀ (n : Nat) (u1 : Int32) (u2 : Int32) (N3 : zMem) (hn4 : zMod B [] M N3), zvu u2 (zi M q 7) < n → zW l m_Group_commutingWith (zn M + 0, zw M + 0) N3 5 [some (.ref q), some (.int x0), some (.int x1), some (.int u1), some (.int u2)] [] (zqI B M []) := by
    intro n
    induction n with
    | zero =>
      intro u1 u2 N3 hn4 h0
      exact absurd h0 (Nat.not_lt_zero _)
    | succ n ih_5 =>
      intro u1 u2 N3 hn4 hlt_5
      refine zw_iload (pc := 5) (i := 4) (x := u2) rfl d_Group_commutingWith_5 ?_
      refine zw_aload_n (pc := 7) (n := 0) (x := q) rfl d_Group_commutingWith_7 ?_
      refine zc_getI0 hn4 (pc := 8) (by decide) f_Group_39 rfl hqk d_Group_commutingWith_8 ?_
      refine zw_icmp_ge (pc := 11) (tgt := 53) (by decide) d_Group_commutingWith_11 (fun hc_11 => ?_) (fun hc_11 => ?_)
      · refine zw_iload_n (pc := 53) (n := 3) (x := u1) rfl d_Group_commutingWith_53 ?_
        exact zw_iret (S := []) (pc := 54) (ty := .int) rfl rfl d_Group_commutingWith_54 ⟨hn4, _, rfl⟩
      · refine zw_iload_n (pc := 14) (n := 2) (x := x1) rfl d_Group_commutingWith_14 ?_
        refine zw_iload (pc := 15) (i := 4) (x := u2) rfl d_Group_commutingWith_15 ?_
        refine zc_callS hn4 (pc := 17) [.int x1, .int u2] [] l_Group_73 (c_T_isIn l B N3 (hT.mod hn4) x1 u2) rfl rfl (by decide) (Nat.le_of_ble_eq_true rfl) d_Group_commutingWith_17 (fun r7 N5 hq6 => ?_)
        obtain ⟨hk10, v9, rfl, zv9⟩ := hq6
        have hn8 : zMod B [] M N5 := hn4.call hk10 (by decide)
        show zW l m_Group_commutingWith (zn M + 0, zw M + 0) N5 20 [some (.ref q), some (.int x0), some (.int x1), some (.int u1), some (.int u2)] [.int v9] (zqI B M [])
        have j_47 : ∀ (u12 : Int32) (N13 : zMem) (hn14 : zMod B [] M N13), zW l m_Group_commutingWith (zn M + 0, zw M + 0) N13 47 [some (.ref q), some (.int x0), some (.int x1), some (.int u12), some (.int u2)] [] (zqI B M []) := by
          intro u12 N13 hn14
          refine zw_iinc (pc := 47) (i := 4) (x := u2) (v := u2 + Int32.ofInt 1) (L2 := [some (.ref q), some (.int x0), some (.int x1), some (.int u12), some (.int (u2 + Int32.ofInt 1))]) rfl rfl (by decide) rfl d_Group_commutingWith_47 ?_
          refine zw_goto (pc := 50) (tgt := 5) (by decide) d_Group_commutingWith_50 ?_
          exact ih_5 u12 (u2 + Int32.ofInt 1) N13 hn14 (Nat.lt_of_lt_of_le (z_up hc_11) (Nat.le_of_lt_succ hlt_5))
        refine zw_if_eq (pc := 20) (tgt := 47) (by decide) d_Group_commutingWith_20 (fun hc_20 => ?_) (fun hc_20 => ?_)
        · exact j_47 u1 N5 hn8
        · refine zw_aload_n (pc := 23) (n := 0) (x := q) rfl d_Group_commutingWith_23 ?_
          refine zw_iload_n (pc := 24) (n := 1) (x := x0) rfl d_Group_commutingWith_24 ?_
          refine zw_iload (pc := 25) (i := 4) (x := u2) rfl d_Group_commutingWith_25 ?_
          refine zc_callV hn8 (pc := 27) [.int x0, .int u2] [] l_Group_67 (c_Group_both l B N5 (hT.mod hn8) q hqB (hn8.k hqk) x0 u2) rfl rfl hqk (by decide) (by decide) (Nat.le_of_ble_eq_true rfl) d_Group_commutingWith_27 (fun r17 N15 hq16 => ?_)
          obtain ⟨hk20, v19, rfl⟩ := hq16
          have hn18 : zMod B [] M N15 := hn8.call hk20 (by decide)
          show zW l m_Group_commutingWith (zn M + 0, zw M + 0) N15 30 [some (.ref q), some (.int x0), some (.int x1), some (.int u1), some (.int u2)] [.int v19] (zqI B M [])
          refine zw_aload_n (pc := 30) (n := 0) (x := q) rfl d_Group_commutingWith_30 ?_
          refine zw_iload (pc := 31) (i := 4) (x := u2) rfl d_Group_commutingWith_31 ?_
          refine zw_iload_n (pc := 33) (n := 1) (x := x0) rfl d_Group_commutingWith_33 ?_
          refine zc_callV hn18 (pc := 34) [.int u2, .int x0] [.int v19] l_Group_67 (c_Group_both l B N15 (hT.mod hn18) q hqB (hn18.k hqk) u2 x0) rfl rfl hqk (by decide) (by decide) (Nat.le_of_ble_eq_true rfl) d_Group_commutingWith_34 (fun r24 N22 hq23 => ?_)
          obtain ⟨hk27, v26, rfl⟩ := hq23
          have hn25 : zMod B [] M N22 := hn18.call hk27 (by decide)
          show zW l m_Group_commutingWith (zn M + 0, zw M + 0) N22 37 [some (.ref q), some (.int x0), some (.int x1), some (.int u1), some (.int u2)] [.int v26, .int v19] (zqI B M [])
          refine zw_icmp_ne (pc := 37) (tgt := 47) (by decide) d_Group_commutingWith_37 (fun hc_37 => ?_) (fun hc_37 => ?_)
          · exact j_47 u1 N22 hn25
          · refine zw_iload_n (pc := 40) (n := 3) (x := u1) rfl d_Group_commutingWith_40 ?_
            refine zw_iconst (pc := 41) (v := 1) (by decide) d_Group_commutingWith_41 ?_
            refine zw_iload (pc := 42) (i := 4) (x := u2) rfl d_Group_commutingWith_42 ?_
            refine zw_ishl (pc := 44) d_Group_commutingWith_44 ?_
            refine zw_ior (pc := 45) d_Group_commutingWith_45 ?_
            refine zw_istore_n (pc := 46) (i := 3) (L2 := [some (.ref q), some (.int x0), some (.int x1), some (.int (u1 ||| (1 <<< (u2 &&& 31)))), some (.int u2)]) rfl (by decide) rfl d_Group_commutingWith_46 ?_
            exact j_47 (u1 ||| (1 <<< (u2 &&& 31))) N22 hn25
  exact lp_5 _ 0 0 M hm (Nat.lt_succ_self _)
set_option maxHeartbeats 4000000 in
theorem c_Group_centreOf (l : Launch) (B : Nat) (M : zMem) (hT : zTy B M) (q : Nat) (hqB : q < B) (hqk : (zsh M q).1 = 5 + 3) (x0 : Int32) : zC l m_Group_centreOf 0 0 [.ref q, .int x0] M (zqI B M []) := by
  refine zC_of (L0 := [some (.ref q), some (.int x0), none, none]) md_Group_centreOf (Nat.le_of_ble_eq_true rfl) rfl ?_ zQ0
  have hm : zMod B [] M M := zMod.rf
  refine zw_iload_n (pc := 0) (n := 1) (x := x0) rfl d_Group_centreOf_0 ?_
  refine zw_istore_n (pc := 1) (i := 2) (L2 := [some (.ref q), some (.int x0), some (.int x0), none]) rfl (by decide) rfl d_Group_centreOf_1 ?_
  refine zw_iconst (pc := 2) (v := 0) (by decide) d_Group_centreOf_2 ?_
  refine zw_istore_n (pc := 3) (i := 3) (L2 := [some (.ref q), some (.int x0), some (.int x0), some (.int 0)]) rfl (by decide) rfl d_Group_centreOf_3 ?_
  have lp_4 : ∀ (n : Nat) (u1 : Int32) (u2 : Int32) (N3 : zMem) (hn4 : zMod B [] M N3), zvu u2 (zi M q 7) < n → zW l m_Group_centreOf (zn M + 0, zw M + 0) N3 4 [some (.ref q), some (.int x0), some (.int u1), some (.int u2)] [] (zqI B M []) := by
    intro n
    induction n with
    | zero =>
      intro u1 u2 N3 hn4 h0
      exact absurd h0 (Nat.not_lt_zero _)
    | succ n ih_4 =>
      intro u1 u2 N3 hn4 hlt_4
      refine zw_iload_n (pc := 4) (n := 3) (x := u2) rfl d_Group_centreOf_4 ?_
      refine zw_aload_n (pc := 5) (n := 0) (x := q) rfl d_Group_centreOf_5 ?_
      refine zc_getI0 hn4 (pc := 6) (by decide) f_Group_39 rfl hqk d_Group_centreOf_6 ?_
      refine zw_icmp_ge (pc := 9) (tgt := 35) (by decide) d_Group_centreOf_9 (fun hc_9 => ?_) (fun hc_9 => ?_)
      · refine zw_iload_n (pc := 35) (n := 2) (x := u1) rfl d_Group_centreOf_35 ?_
        exact zw_iret (S := []) (pc := 36) (ty := .int) rfl rfl d_Group_centreOf_36 ⟨hn4, _, rfl⟩
      · refine zw_iload_n (pc := 12) (n := 1) (x := x0) rfl d_Group_centreOf_12 ?_
        refine zw_iload_n (pc := 13) (n := 3) (x := u2) rfl d_Group_centreOf_13 ?_
        refine zc_callS hn4 (pc := 14) [.int x0, .int u2] [] l_Group_73 (c_T_isIn l B N3 (hT.mod hn4) x0 u2) rfl rfl (by decide) (Nat.le_of_ble_eq_true rfl) d_Group_centreOf_14 (fun r7 N5 hq6 => ?_)
        obtain ⟨hk10, v9, rfl, zv9⟩ := hq6
        have hn8 : zMod B [] M N5 := hn4.call hk10 (by decide)
        show zW l m_Group_centreOf (zn M + 0, zw M + 0) N5 17 [some (.ref q), some (.int x0), some (.int u1), some (.int u2)] [.int v9] (zqI B M [])
        have j_29 : ∀ (u12 : Int32) (N13 : zMem) (hn14 : zMod B [] M N13), zW l m_Group_centreOf (zn M + 0, zw M + 0) N13 29 [some (.ref q), some (.int x0), some (.int u12), some (.int u2)] [] (zqI B M []) := by
          intro u12 N13 hn14
          refine zw_iinc (pc := 29) (i := 3) (x := u2) (v := u2 + Int32.ofInt 1) (L2 := [some (.ref q), some (.int x0), some (.int u12), some (.int (u2 + Int32.ofInt 1))]) rfl rfl (by decide) rfl d_Group_centreOf_29 ?_
          refine zw_goto (pc := 32) (tgt := 4) (by decide) d_Group_centreOf_32 ?_
          exact ih_4 u12 (u2 + Int32.ofInt 1) N13 hn14 (Nat.lt_of_lt_of_le (z_up hc_9) (Nat.le_of_lt_succ hlt_4))
        refine zw_if_eq (pc := 17) (tgt := 29) (by decide) d_Group_centreOf_17 (fun hc_17 => ?_) (fun hc_17 => ?_)
        · exact j_29 u1 N5 hn8
        · refine zw_iload_n (pc := 20) (n := 2) (x := u1) rfl d_Group_centreOf_20 ?_
          refine zw_aload_n (pc := 21) (n := 0) (x := q) rfl d_Group_centreOf_21 ?_
          refine zw_iload_n (pc := 22) (n := 3) (x := u2) rfl d_Group_centreOf_22 ?_
          refine zw_iload_n (pc := 23) (n := 1) (x := x0) rfl d_Group_centreOf_23 ?_
          refine zc_callV hn8 (pc := 24) [.int u2, .int x0] [.int u1] l_Group_97 (c_Group_commutingWith l B N5 (hT.mod hn8) q hqB (hn8.k hqk) u2 x0) rfl rfl hqk (by decide) (by decide) (Nat.le_of_ble_eq_true rfl) d_Group_centreOf_24 (fun r17 N15 hq16 => ?_)
          obtain ⟨hk20, v19, rfl⟩ := hq16
          have hn18 : zMod B [] M N15 := hn8.call hk20 (by decide)
          show zW l m_Group_centreOf (zn M + 0, zw M + 0) N15 27 [some (.ref q), some (.int x0), some (.int u1), some (.int u2)] [.int v19, .int u1] (zqI B M [])
          refine zw_iand (pc := 27) d_Group_centreOf_27 ?_
          refine zw_istore_n (pc := 28) (i := 2) (L2 := [some (.ref q), some (.int x0), some (.int (u1 &&& v19)), some (.int u2)]) rfl (by decide) rfl d_Group_centreOf_28 ?_
          exact j_29 (u1 &&& v19) N15 hn18
  exact lp_4 _ x0 0 M hm (Nat.lt_succ_self _)
set_option maxHeartbeats 4000000 in
theorem c_Group_isCommuting (l : Launch) (B : Nat) (M : zMem) (hT : zTy B M) (q : Nat) (hqB : q < B) (hqk : (zsh M q).1 = 5 + 3) (x0 : Int32) : zC l m_Group_isCommuting 0 0 [.ref q, .int x0] M (zqZ B M []) := by
  refine zC_of (L0 := [some (.ref q), some (.int x0)]) md_Group_isCommuting (Nat.le_of_ble_eq_true rfl) rfl ?_ zQ0
  have hm : zMod B [] M M := zMod.rf
  refine zw_aload_n (pc := 0) (n := 0) (x := q) rfl d_Group_isCommuting_0 ?_
  refine zw_iload_n (pc := 1) (n := 1) (x := x0) rfl d_Group_isCommuting_1 ?_
  refine zc_callV hm (pc := 2) [.int x0] [] l_Group_100 (c_Group_centreOf l B M (hT.mod hm) q hqB (hm.k hqk) x0) rfl rfl hqk (by decide) (by decide) (Nat.le_of_ble_eq_true rfl) d_Group_isCommuting_2 (fun r3 N1 hq2 => ?_)
  obtain ⟨hk6, v5, rfl⟩ := hq2
  have hn4 : zMod B [] M N1 := hm.call hk6 (by decide)
  show zW l m_Group_isCommuting (zn M + 0, zw M + 0) N1 5 [some (.ref q), some (.int x0)] [.int v5] (zqZ B M [])
  refine zw_iload_n (pc := 5) (n := 1) (x := x0) rfl d_Group_isCommuting_5 ?_
  refine zw_icmp_ne (pc := 6) (tgt := 13) (by decide) d_Group_isCommuting_6 (fun hc_6 => ?_) (fun hc_6 => ?_)
  · refine zw_iconst (pc := 13) (v := 0) (by decide) d_Group_isCommuting_13 ?_
    exact zw_iret (S := []) (pc := 14) (ty := .boolean) rfl (z_narZ (Or.inl rfl)) d_Group_isCommuting_14 ⟨hn4, _, rfl, Or.inl rfl⟩
  · refine zw_iconst (pc := 9) (v := 1) (by decide) d_Group_isCommuting_9 ?_
    refine zw_goto (pc := 10) (tgt := 14) (by decide) d_Group_isCommuting_10 ?_
    exact zw_iret (S := []) (pc := 14) (ty := .boolean) rfl (z_narZ (Or.inr rfl)) d_Group_isCommuting_14 ⟨hn4, _, rfl, Or.inr rfl⟩
set_option maxHeartbeats 4000000 in
theorem c_T_about (l : Launch) (B : Nat) (M : zMem) (hT : zTy B M) (q : Nat) (hqB : q < B) (hqk : (zsh M q).1 = 0 + 3) (x0 : Int32) : zC l m_T_about 0 0 [.ref q, .int x0] M (zqI B M []) := by
  refine zC_of (L0 := [some (.ref q), some (.int x0)]) md_T_about (Nat.le_of_ble_eq_true rfl) rfl ?_ zQ0
  have hm : zMod B [] M M := zMod.rf
  refine zw_iload_n (pc := 0) (n := 1) (x := x0) rfl d_T_about_0 ?_
  by_cases hs_1_0 : x0 = 0
  · refine zw_tabIn (pc := 1) (x := x0) (off := 51) (tgt := 52) (by rw [hs_1_0]; decide) (by rw [hs_1_0]; decide) (by rw [hs_1_0]; rfl) (by decide) d_T_about_1 ?_
    refine zw_aload_n (pc := 52) (n := 0) (x := q) rfl d_T_about_52 ?_
    obtain ⟨r1, r1f, r1B, r1k⟩ := hT.1 q 0 2 hqB hqk (by decide) (by decide) rfl
    refine zc_getF hm (pc := 53) f_T_28 rfl hqk r1f d_T_about_53 ?_
    obtain ⟨r2, r2f, r2B, r2k⟩ := hT.1 r1 4 0 r1B r1k (by decide) (by decide) rfl
    refine zc_getF hm (pc := 56) f_T_61 rfl r1k r2f d_T_about_56 ?_
    refine zc_getI0 hm (pc := 59) (by decide) f_T_76 rfl r2k d_T_about_59 ?_
    exact zw_iret (S := []) (pc := 62) (ty := .int) rfl rfl d_T_about_62 ⟨hm, _, rfl⟩
  by_cases hs_1_1 : x0 = 1
  · refine zw_tabIn (pc := 1) (x := x0) (off := 62) (tgt := 63) (by rw [hs_1_1]; decide) (by rw [hs_1_1]; decide) (by rw [hs_1_1]; rfl) (by decide) d_T_about_1 ?_
    refine zw_aload_n (pc := 63) (n := 0) (x := q) rfl d_T_about_63 ?_
    obtain ⟨r3, r3f, r3B, r3k⟩ := hT.1 q 0 2 hqB hqk (by decide) (by decide) rfl
    refine zc_getF hm (pc := 64) f_T_28 rfl hqk r3f d_T_about_64 ?_
    obtain ⟨r4, r4f, r4B, r4k⟩ := hT.1 r3 4 0 r3B r3k (by decide) (by decide) rfl
    refine zc_getF hm (pc := 67) f_T_61 rfl r3k r4f d_T_about_67 ?_
    refine zc_getI0 hm (pc := 70) (by decide) f_T_79 rfl r4k d_T_about_70 ?_
    exact zw_iret (S := []) (pc := 73) (ty := .int) rfl rfl d_T_about_73 ⟨hm, _, rfl⟩
  by_cases hs_1_2 : x0 = 2
  · refine zw_tabIn (pc := 1) (x := x0) (off := 73) (tgt := 74) (by rw [hs_1_2]; decide) (by rw [hs_1_2]; decide) (by rw [hs_1_2]; rfl) (by decide) d_T_about_1 ?_
    refine zw_aload_n (pc := 74) (n := 0) (x := q) rfl d_T_about_74 ?_
    obtain ⟨r5, r5f, r5B, r5k⟩ := hT.1 q 0 2 hqB hqk (by decide) (by decide) rfl
    refine zc_getF hm (pc := 75) f_T_28 rfl hqk r5f d_T_about_75 ?_
    refine zc_getI0 hm (pc := 78) (by decide) f_T_82 rfl r5k d_T_about_78 ?_
    exact zw_iret (S := []) (pc := 81) (ty := .int) rfl rfl d_T_about_81 ⟨hm, _, rfl⟩
  by_cases hs_1_3 : x0 = 3
  · refine zw_tabIn (pc := 1) (x := x0) (off := 81) (tgt := 82) (by rw [hs_1_3]; decide) (by rw [hs_1_3]; decide) (by rw [hs_1_3]; rfl) (by decide) d_T_about_1 ?_
    refine zw_aload_n (pc := 82) (n := 0) (x := q) rfl d_T_about_82 ?_
    obtain ⟨r6, r6f, r6B, r6k⟩ := hT.1 q 0 2 hqB hqk (by decide) (by decide) rfl
    refine zc_getF hm (pc := 83) f_T_28 rfl hqk r6f d_T_about_83 ?_
    obtain ⟨r7, r7f, r7B, r7k⟩ := hT.1 r6 4 0 r6B r6k (by decide) (by decide) rfl
    refine zc_getF hm (pc := 86) f_T_61 rfl r6k r7f d_T_about_86 ?_
    refine zc_getI0 hm (pc := 89) (by decide) f_T_65 rfl r7k d_T_about_89 ?_
    exact zw_iret (S := []) (pc := 92) (ty := .int) rfl rfl d_T_about_92 ⟨hm, _, rfl⟩
  by_cases hs_1_4 : x0 = 4
  · refine zw_tabIn (pc := 1) (x := x0) (off := 92) (tgt := 93) (by rw [hs_1_4]; decide) (by rw [hs_1_4]; decide) (by rw [hs_1_4]; rfl) (by decide) d_T_about_1 ?_
    refine zw_aload_n (pc := 93) (n := 0) (x := q) rfl d_T_about_93 ?_
    obtain ⟨r8, r8f, r8B, r8k⟩ := hT.1 q 0 2 hqB hqk (by decide) (by decide) rfl
    refine zc_getF hm (pc := 94) f_T_28 rfl hqk r8f d_T_about_94 ?_
    obtain ⟨r9, r9f, r9B, r9k⟩ := hT.1 r8 4 1 r8B r8k (by decide) (by decide) rfl
    refine zc_getF hm (pc := 97) f_T_85 rfl r8k r9f d_T_about_97 ?_
    refine zc_getI0 hm (pc := 100) (by decide) f_T_89 rfl r9k d_T_about_100 ?_
    exact zw_iret (S := []) (pc := 103) (ty := .int) rfl rfl d_T_about_103 ⟨hm, _, rfl⟩
  by_cases hs_1_5 : x0 = 5
  · refine zw_tabIn (pc := 1) (x := x0) (off := 103) (tgt := 104) (by rw [hs_1_5]; decide) (by rw [hs_1_5]; decide) (by rw [hs_1_5]; rfl) (by decide) d_T_about_1 ?_
    refine zw_aload_n (pc := 104) (n := 0) (x := q) rfl d_T_about_104 ?_
    obtain ⟨r10, r10f, r10B, r10k⟩ := hT.1 q 0 2 hqB hqk (by decide) (by decide) rfl
    refine zc_getF hm (pc := 105) f_T_28 rfl hqk r10f d_T_about_105 ?_
    obtain ⟨r11, r11f, r11B, r11k⟩ := hT.1 r10 4 1 r10B r10k (by decide) (by decide) rfl
    refine zc_getF hm (pc := 108) f_T_85 rfl r10k r11f d_T_about_108 ?_
    refine zc_getI0 hm (pc := 111) (by decide) f_T_94 rfl r11k d_T_about_111 ?_
    exact zw_iret (S := []) (pc := 114) (ty := .int) rfl rfl d_T_about_114 ⟨hm, _, rfl⟩
  by_cases hs_1_6 : x0 = 6
  · refine zw_tabIn (pc := 1) (x := x0) (off := 114) (tgt := 115) (by rw [hs_1_6]; decide) (by rw [hs_1_6]; decide) (by rw [hs_1_6]; rfl) (by decide) d_T_about_1 ?_
    refine zw_aload_n (pc := 115) (n := 0) (x := q) rfl d_T_about_115 ?_
    obtain ⟨r12, r12f, r12B, r12k⟩ := hT.1 q 0 2 hqB hqk (by decide) (by decide) rfl
    refine zc_getF hm (pc := 116) f_T_28 rfl hqk r12f d_T_about_116 ?_
    obtain ⟨r13, r13f, r13B, r13k⟩ := hT.1 r12 4 0 r12B r12k (by decide) (by decide) rfl
    refine zc_getF hm (pc := 119) f_T_61 rfl r12k r13f d_T_about_119 ?_
    refine zw_aload_n (pc := 122) (n := 0) (x := q) rfl d_T_about_122 ?_
    refine zc_getF hm (pc := 123) f_T_28 rfl hqk r12f d_T_about_123 ?_
    refine zc_getF hm (pc := 126) f_T_61 rfl r12k r13f d_T_about_126 ?_
    refine zc_callV hm (pc := 129) [] [.ref r13] l_T_97 (c_Group_everyone l B M (hT.mod hm) r13 r13B (hm.k r13k)) rfl rfl r13k (by decide) (by decide) (Nat.le_of_ble_eq_true rfl) d_T_about_129 (fun r16 N14 hq15 => ?_)
    obtain ⟨hk19, v18, rfl⟩ := hq15
    have hn17 : zMod B [] M N14 := hm.call hk19 (by decide)
    show zW l m_T_about (zn M + 0, zw M + 0) N14 132 [some (.ref q), some (.int x0)] [.int v18, .ref r13] (zqI B M [])
    refine zc_callV hn17 (pc := 132) [.int v18] [] l_T_101 (c_Group_isCommuting l B N14 (hT.mod hn17) r13 r13B (hn17.k r13k) v18) rfl rfl r13k (by decide) (by decide) (Nat.le_of_ble_eq_true rfl) d_T_about_132 (fun r23 N21 hq22 => ?_)
    obtain ⟨hk26, v25, rfl, zv25⟩ := hq22
    have hn24 : zMod B [] M N21 := hn17.call hk26 (by decide)
    show zW l m_T_about (zn M + 0, zw M + 0) N21 135 [some (.ref q), some (.int x0)] [.int v25] (zqI B M [])
    refine zw_if_eq (pc := 135) (tgt := 142) (by decide) d_T_about_135 (fun hc_135 => ?_) (fun hc_135 => ?_)
    · refine zw_iconst (pc := 142) (v := 0) (by decide) d_T_about_142 ?_
      exact zw_iret (S := []) (pc := 143) (ty := .int) rfl rfl d_T_about_143 ⟨hn24, _, rfl⟩
    · refine zw_iconst (pc := 138) (v := 1) (by decide) d_T_about_138 ?_
      refine zw_goto (pc := 139) (tgt := 143) (by decide) d_T_about_139 ?_
      exact zw_iret (S := []) (pc := 143) (ty := .int) rfl rfl d_T_about_143 ⟨hn24, _, rfl⟩
  by_cases hs_1_7 : x0 = 7
  · refine zw_tabIn (pc := 1) (x := x0) (off := 143) (tgt := 144) (by rw [hs_1_7]; decide) (by rw [hs_1_7]; decide) (by rw [hs_1_7]; rfl) (by decide) d_T_about_1 ?_
    refine zw_aload_n (pc := 144) (n := 0) (x := q) rfl d_T_about_144 ?_
    obtain ⟨r28, r28f, r28B, r28k⟩ := hT.1 q 0 2 hqB hqk (by decide) (by decide) rfl
    refine zc_getF hm (pc := 145) f_T_28 rfl hqk r28f d_T_about_145 ?_
    refine zc_getI0 hm (pc := 148) (by decide) f_T_105 rfl r28k d_T_about_148 ?_
    exact zw_iret (S := []) (pc := 151) (ty := .int) rfl rfl d_T_about_151 ⟨hm, _, rfl⟩
  by_cases hs_1_8 : x0 = 8
  · refine zw_tabIn (pc := 1) (x := x0) (off := 151) (tgt := 152) (by rw [hs_1_8]; decide) (by rw [hs_1_8]; decide) (by rw [hs_1_8]; rfl) (by decide) d_T_about_1 ?_
    refine zw_aload_n (pc := 152) (n := 0) (x := q) rfl d_T_about_152 ?_
    obtain ⟨r29, r29f, r29B, r29k⟩ := hT.1 q 0 0 hqB hqk (by decide) (by decide) rfl
    refine zc_getF hm (pc := 153) f_T_10 rfl hqk r29f d_T_about_153 ?_
    refine zc_getI0 hm (pc := 156) (by decide) f_T_42 rfl r29k d_T_about_156 ?_
    exact zw_iret (S := []) (pc := 159) (ty := .int) rfl rfl d_T_about_159 ⟨hm, _, rfl⟩
  refine zw_tabOut (pc := 1) (x := x0) (tgt := 160) (z_out9 hs_1_0 hs_1_1 hs_1_2 hs_1_3 hs_1_4 hs_1_5 hs_1_6 hs_1_7 hs_1_8) (by decide) d_T_about_1 ?_
  refine zw_iconst (pc := 160) (v := (-1)) (by decide) d_T_about_160 ?_
  exact zw_iret (S := []) (pc := 161) (ty := .int) rfl rfl d_T_about_161 ⟨hm, _, rfl⟩
set_option maxHeartbeats 4000000 in
theorem c_Group_hasMember (l : Launch) (B : Nat) (M : zMem) (hT : zTy B M) (q : Nat) (hqB : q < B) (hqk : (zsh M q).1 = 5 + 3) (x0 : Int32) : zC l m_Group_hasMember 0 0 [.ref q, .int x0] M (zqZ B M []) := by
  refine zC_of (L0 := [some (.ref q), some (.int x0)]) md_Group_hasMember (Nat.le_of_ble_eq_true rfl) rfl ?_ zQ0
  have hm : zMod B [] M M := zMod.rf
  refine zw_iload_n (pc := 0) (n := 1) (x := x0) rfl d_Group_hasMember_0 ?_
  refine zw_if_lt (pc := 1) (tgt := 16) (by decide) d_Group_hasMember_1 (fun hc_1 => ?_) (fun hc_1 => ?_)
  · refine zw_iconst (pc := 16) (v := 0) (by decide) d_Group_hasMember_16 ?_
    exact zw_iret (S := []) (pc := 17) (ty := .boolean) rfl (z_narZ (Or.inl rfl)) d_Group_hasMember_17 ⟨hm, _, rfl, Or.inl rfl⟩
  · refine zw_iload_n (pc := 4) (n := 1) (x := x0) rfl d_Group_hasMember_4 ?_
    refine zw_aload_n (pc := 5) (n := 0) (x := q) rfl d_Group_hasMember_5 ?_
    refine zc_getI0 hm (pc := 6) (by decide) f_Group_39 rfl hqk d_Group_hasMember_6 ?_
    refine zw_icmp_ge (pc := 9) (tgt := 16) (by decide) d_Group_hasMember_9 (fun hc_9 => ?_) (fun hc_9 => ?_)
    · refine zw_iconst (pc := 16) (v := 0) (by decide) d_Group_hasMember_16 ?_
      exact zw_iret (S := []) (pc := 17) (ty := .boolean) rfl (z_narZ (Or.inl rfl)) d_Group_hasMember_17 ⟨hm, _, rfl, Or.inl rfl⟩
    · refine zw_iconst (pc := 12) (v := 1) (by decide) d_Group_hasMember_12 ?_
      refine zw_goto (pc := 13) (tgt := 17) (by decide) d_Group_hasMember_13 ?_
      exact zw_iret (S := []) (pc := 17) (ty := .boolean) rfl (z_narZ (Or.inr rfl)) d_Group_hasMember_17 ⟨hm, _, rfl, Or.inr rfl⟩
set_option maxHeartbeats 4000000 in
theorem c_Group_hasPlace (l : Launch) (B : Nat) (M : zMem) (hT : zTy B M) (q : Nat) (hqB : q < B) (hqk : (zsh M q).1 = 5 + 3) (x0 : Int32) : zC l m_Group_hasPlace 0 0 [.ref q, .int x0] M (zqZ B M []) := by
  refine zC_of (L0 := [some (.ref q), some (.int x0)]) md_Group_hasPlace (Nat.le_of_ble_eq_true rfl) rfl ?_ zQ0
  have hm : zMod B [] M M := zMod.rf
  refine zw_iload_n (pc := 0) (n := 1) (x := x0) rfl d_Group_hasPlace_0 ?_
  refine zw_if_lt (pc := 1) (tgt := 16) (by decide) d_Group_hasPlace_1 (fun hc_1 => ?_) (fun hc_1 => ?_)
  · refine zw_iconst (pc := 16) (v := 0) (by decide) d_Group_hasPlace_16 ?_
    exact zw_iret (S := []) (pc := 17) (ty := .boolean) rfl (z_narZ (Or.inl rfl)) d_Group_hasPlace_17 ⟨hm, _, rfl, Or.inl rfl⟩
  · refine zw_iload_n (pc := 4) (n := 1) (x := x0) rfl d_Group_hasPlace_4 ?_
    refine zw_aload_n (pc := 5) (n := 0) (x := q) rfl d_Group_hasPlace_5 ?_
    refine zc_getI0 hm (pc := 6) (by decide) f_Group_32 rfl hqk d_Group_hasPlace_6 ?_
    refine zw_icmp_ge (pc := 9) (tgt := 16) (by decide) d_Group_hasPlace_9 (fun hc_9 => ?_) (fun hc_9 => ?_)
    · refine zw_iconst (pc := 16) (v := 0) (by decide) d_Group_hasPlace_16 ?_
      exact zw_iret (S := []) (pc := 17) (ty := .boolean) rfl (z_narZ (Or.inl rfl)) d_Group_hasPlace_17 ⟨hm, _, rfl, Or.inl rfl⟩
    · refine zw_iconst (pc := 12) (v := 1) (by decide) d_Group_hasPlace_12 ?_
      refine zw_goto (pc := 13) (tgt := 17) (by decide) d_Group_hasPlace_13 ?_
      exact zw_iret (S := []) (pc := 17) (ty := .boolean) rfl (z_narZ (Or.inr rfl)) d_Group_hasPlace_17 ⟨hm, _, rfl, Or.inr rfl⟩
set_option maxHeartbeats 4000000 in
theorem c_T_moves (l : Launch) (B : Nat) (M : zMem) (hT : zTy B M) (q : Nat) (hqB : q < B) (hqk : (zsh M q).1 = 0 + 3) (x0 : Int32) (x1 : Int32) : zC l m_T_moves 0 0 [.ref q, .int x0, .int x1] M (zqI B M []) := by
  refine zC_of (L0 := [some (.ref q), some (.int x0), some (.int x1), none]) md_T_moves (Nat.le_of_ble_eq_true rfl) rfl ?_ zQ0
  have hm : zMod B [] M M := zMod.rf
  refine zw_aload_n (pc := 0) (n := 0) (x := q) rfl d_T_moves_0 ?_
  obtain ⟨r1, r1f, r1B, r1k⟩ := hT.1 q 0 2 hqB hqk (by decide) (by decide) rfl
  refine zc_getF hm (pc := 1) f_T_28 rfl hqk r1f d_T_moves_1 ?_
  obtain ⟨r2, r2f, r2B, r2k⟩ := hT.1 r1 4 0 r1B r1k (by decide) (by decide) rfl
  refine zc_getF hm (pc := 4) f_T_61 rfl r1k r2f d_T_moves_4 ?_
  refine zw_astore_n (pc := 7) (i := 3) (L2 := [some (.ref q), some (.int x0), some (.int x1), some (.ref r2)]) rfl (by decide) rfl d_T_moves_7 ?_
  refine zw_aload_n (pc := 8) (n := 3) (x := r2) rfl d_T_moves_8 ?_
  refine zw_iload_n (pc := 9) (n := 1) (x := x0) rfl d_T_moves_9 ?_
  refine zc_callV hm (pc := 10) [.int x0] [] l_T_108 (c_Group_hasMember l B M (hT.mod hm) r2 r2B (hm.k r2k) x0) rfl rfl r2k (by decide) (by decide) (Nat.le_of_ble_eq_true rfl) d_T_moves_10 (fun r5 N3 hq4 => ?_)
  obtain ⟨hk8, v7, rfl, zv7⟩ := hq4
  have hn6 : zMod B [] M N3 := hm.call hk8 (by decide)
  show zW l m_T_moves (zn M + 0, zw M + 0) N3 13 [some (.ref q), some (.int x0), some (.int x1), some (.ref r2)] [.int v7] (zqI B M [])
  refine zw_if_eq (pc := 13) (tgt := 39) (by decide) d_T_moves_13 (fun hc_13 => ?_) (fun hc_13 => ?_)
  · refine zw_iconst (pc := 39) (v := (-1)) (by decide) d_T_moves_39 ?_
    exact zw_iret (S := []) (pc := 40) (ty := .int) rfl rfl d_T_moves_40 ⟨hn6, _, rfl⟩
  · refine zw_aload_n (pc := 16) (n := 3) (x := r2) rfl d_T_moves_16 ?_
    refine zw_iload_n (pc := 17) (n := 2) (x := x1) rfl d_T_moves_17 ?_
    refine zc_callV hn6 (pc := 18) [.int x1] [] l_T_111 (c_Group_hasPlace l B N3 (hT.mod hn6) r2 r2B (hn6.k r2k) x1) rfl rfl r2k (by decide) (by decide) (Nat.le_of_ble_eq_true rfl) d_T_moves_18 (fun r12 N10 hq11 => ?_)
    obtain ⟨hk15, v14, rfl, zv14⟩ := hq11
    have hn13 : zMod B [] M N10 := hn6.call hk15 (by decide)
    show zW l m_T_moves (zn M + 0, zw M + 0) N10 21 [some (.ref q), some (.int x0), some (.int x1), some (.ref r2)] [.int v14] (zqI B M [])
    refine zw_if_eq (pc := 21) (tgt := 39) (by decide) d_T_moves_21 (fun hc_21 => ?_) (fun hc_21 => ?_)
    · refine zw_iconst (pc := 39) (v := (-1)) (by decide) d_T_moves_39 ?_
      exact zw_iret (S := []) (pc := 40) (ty := .int) rfl rfl d_T_moves_40 ⟨hn13, _, rfl⟩
    · refine zw_aload_n (pc := 24) (n := 3) (x := r2) rfl d_T_moves_24 ?_
      obtain ⟨r17, r17f, r17B, r17k⟩ := hT.1 r2 5 1 r2B r2k (by decide) (by decide) rfl
      refine zc_getF hn13 (pc := 25) f_T_114 rfl r2k r17f d_T_moves_25 ?_
      refine zw_iload_n (pc := 28) (n := 1) (x := x0) rfl d_T_moves_28 ?_
      refine zc_callV hn13 (pc := 29) [.int x0] [] l_T_118 (c_IntRow_at l B N10 (hT.mod hn13) r17 r17B (hn13.k r17k) x0) rfl rfl r17k (by decide) (by decide) (Nat.le_of_ble_eq_true rfl) d_T_moves_29 (fun r20 N18 hq19 => ?_)
      obtain ⟨hk23, v22, rfl⟩ := hq19
      have hn21 : zMod B [] M N18 := hn13.call hk23 (by decide)
      show zW l m_T_moves (zn M + 0, zw M + 0) N18 32 [some (.ref q), some (.int x0), some (.int x1), some (.ref r2)] [.int v22] (zqI B M [])
      refine zw_iload_n (pc := 32) (n := 2) (x := x1) rfl d_T_moves_32 ?_
      refine zc_callS hn21 (pc := 33) [.int v22, .int x1] [] l_T_124 (c_T_placeIn l B N18 (hT.mod hn21) v22 x1) rfl rfl (by decide) (Nat.le_of_ble_eq_true rfl) d_T_moves_33 (fun r27 N25 hq26 => ?_)
      obtain ⟨hk30, v29, rfl⟩ := hq26
      have hn28 : zMod B [] M N25 := hn21.call hk30 (by decide)
      show zW l m_T_moves (zn M + 0, zw M + 0) N25 36 [some (.ref q), some (.int x0), some (.int x1), some (.ref r2)] [.int v29] (zqI B M [])
      refine zw_goto (pc := 36) (tgt := 40) (by decide) d_T_moves_36 ?_
      exact zw_iret (S := []) (pc := 40) (ty := .int) rfl rfl d_T_moves_40 ⟨hn28, _, rfl⟩
set_option maxHeartbeats 4000000 in
theorem c_T_times (l : Launch) (B : Nat) (M : zMem) (hT : zTy B M) (q : Nat) (hqB : q < B) (hqk : (zsh M q).1 = 0 + 3) (x0 : Int32) (x1 : Int32) : zC l m_T_times 0 0 [.ref q, .int x0, .int x1] M (zqI B M []) := by
  refine zC_of (L0 := [some (.ref q), some (.int x0), some (.int x1)]) md_T_times (Nat.le_of_ble_eq_true rfl) rfl ?_ zQ0
  have hm : zMod B [] M M := zMod.rf
  refine zw_aload_n (pc := 0) (n := 0) (x := q) rfl d_T_times_0 ?_
  obtain ⟨r1, r1f, r1B, r1k⟩ := hT.1 q 0 2 hqB hqk (by decide) (by decide) rfl
  refine zc_getF hm (pc := 1) f_T_28 rfl hqk r1f d_T_times_1 ?_
  obtain ⟨r2, r2f, r2B, r2k⟩ := hT.1 r1 4 0 r1B r1k (by decide) (by decide) rfl
  refine zc_getF hm (pc := 4) f_T_61 rfl r1k r2f d_T_times_4 ?_
  refine zw_iload_n (pc := 7) (n := 1) (x := x0) rfl d_T_times_7 ?_
  refine zc_callV hm (pc := 8) [.int x0] [] l_T_108 (c_Group_hasMember l B M (hT.mod hm) r2 r2B (hm.k r2k) x0) rfl rfl r2k (by decide) (by decide) (Nat.le_of_ble_eq_true rfl) d_T_times_8 (fun r5 N3 hq4 => ?_)
  obtain ⟨hk8, v7, rfl, zv7⟩ := hq4
  have hn6 : zMod B [] M N3 := hm.call hk8 (by decide)
  show zW l m_T_times (zn M + 0, zw M + 0) N3 11 [some (.ref q), some (.int x0), some (.int x1)] [.int v7] (zqI B M [])
  refine zw_if_eq (pc := 11) (tgt := 43) (by decide) d_T_times_11 (fun hc_11 => ?_) (fun hc_11 => ?_)
  · refine zw_iconst (pc := 43) (v := (-1)) (by decide) d_T_times_43 ?_
    exact zw_iret (S := []) (pc := 44) (ty := .int) rfl rfl d_T_times_44 ⟨hn6, _, rfl⟩
  · refine zw_aload_n (pc := 14) (n := 0) (x := q) rfl d_T_times_14 ?_
    refine zc_getF hn6 (pc := 15) f_T_28 rfl hqk r1f d_T_times_15 ?_
    refine zc_getF hn6 (pc := 18) f_T_61 rfl r1k r2f d_T_times_18 ?_
    refine zw_iload_n (pc := 21) (n := 2) (x := x1) rfl d_T_times_21 ?_
    refine zc_callV hn6 (pc := 22) [.int x1] [] l_T_108 (c_Group_hasMember l B N3 (hT.mod hn6) r2 r2B (hn6.k r2k) x1) rfl rfl r2k (by decide) (by decide) (Nat.le_of_ble_eq_true rfl) d_T_times_22 (fun r12 N10 hq11 => ?_)
    obtain ⟨hk15, v14, rfl, zv14⟩ := hq11
    have hn13 : zMod B [] M N10 := hn6.call hk15 (by decide)
    show zW l m_T_times (zn M + 0, zw M + 0) N10 25 [some (.ref q), some (.int x0), some (.int x1)] [.int v14] (zqI B M [])
    refine zw_if_eq (pc := 25) (tgt := 43) (by decide) d_T_times_25 (fun hc_25 => ?_) (fun hc_25 => ?_)
    · refine zw_iconst (pc := 43) (v := (-1)) (by decide) d_T_times_43 ?_
      exact zw_iret (S := []) (pc := 44) (ty := .int) rfl rfl d_T_times_44 ⟨hn13, _, rfl⟩
    · refine zw_aload_n (pc := 28) (n := 0) (x := q) rfl d_T_times_28 ?_
      refine zc_getF hn13 (pc := 29) f_T_28 rfl hqk r1f d_T_times_29 ?_
      refine zc_getF hn13 (pc := 32) f_T_61 rfl r1k r2f d_T_times_32 ?_
      refine zw_iload_n (pc := 35) (n := 1) (x := x0) rfl d_T_times_35 ?_
      refine zw_iload_n (pc := 36) (n := 2) (x := x1) rfl d_T_times_36 ?_
      refine zc_callV hn13 (pc := 37) [.int x0, .int x1] [] l_T_128 (c_Group_both l B N10 (hT.mod hn13) r2 r2B (hn13.k r2k) x0 x1) rfl rfl r2k (by decide) (by decide) (Nat.le_of_ble_eq_true rfl) d_T_times_37 (fun r19 N17 hq18 => ?_)
      obtain ⟨hk22, v21, rfl⟩ := hq18
      have hn20 : zMod B [] M N17 := hn13.call hk22 (by decide)
      show zW l m_T_times (zn M + 0, zw M + 0) N17 40 [some (.ref q), some (.int x0), some (.int x1)] [.int v21] (zqI B M [])
      refine zw_goto (pc := 40) (tgt := 44) (by decide) d_T_times_40 ?_
      exact zw_iret (S := []) (pc := 44) (ty := .int) rfl rfl d_T_times_44 ⟨hn20, _, rfl⟩
set_option maxHeartbeats 4000000 in
theorem c_Group_repeatsOf (l : Launch) (B : Nat) (M : zMem) (hT : zTy B M) (q : Nat) (hqB : q < B) (hqk : (zsh M q).1 = 5 + 3) (x0 : Int32) : zC l m_Group_repeatsOf 0 0 [.ref q, .int x0] M (zqI B M []) := by
  refine zC_of (L0 := [some (.ref q), some (.int x0), none, none]) md_Group_repeatsOf (Nat.le_of_ble_eq_true rfl) rfl ?_ zQ0
  have hm : zMod B [] M M := zMod.rf
  refine zw_iload_n (pc := 0) (n := 1) (x := x0) rfl d_Group_repeatsOf_0 ?_
  refine zw_istore_n (pc := 1) (i := 2) (L2 := [some (.ref q), some (.int x0), some (.int x0), none]) rfl (by decide) rfl d_Group_repeatsOf_1 ?_
  refine zw_iconst (pc := 2) (v := 1) (by decide) d_Group_repeatsOf_2 ?_
  refine zw_istore_n (pc := 3) (i := 3) (L2 := [some (.ref q), some (.int x0), some (.int x0), some (.int 1)]) rfl (by decide) rfl d_Group_repeatsOf_3 ?_
  have lp_4 : ∀ (n : Nat) (u1 : Int32) (u2 : Int32) (N3 : zMem) (hn4 : zMod B [] M N3), zvu u2 24 < n → zW l m_Group_repeatsOf (zn M + 0, zw M + 0) N3 4 [some (.ref q), some (.int x0), some (.int u1), some (.int u2)] [] (zqI B M []) := by
    intro n
    induction n with
    | zero =>
      intro u1 u2 N3 hn4 h0
      exact absurd h0 (Nat.not_lt_zero _)
    | succ n ih_4 =>
      intro u1 u2 N3 hn4 hlt_4
      refine zw_iload_n (pc := 4) (n := 2) (x := u1) rfl d_Group_repeatsOf_4 ?_
      refine zw_if_eq (pc := 5) (tgt := 27) (by decide) d_Group_repeatsOf_5 (fun hc_5 => ?_) (fun hc_5 => ?_)
      · refine zw_iload_n (pc := 27) (n := 3) (x := u2) rfl d_Group_repeatsOf_27 ?_
        exact zw_iret (S := []) (pc := 28) (ty := .int) rfl rfl d_Group_repeatsOf_28 ⟨hn4, _, rfl⟩
      · refine zw_iload_n (pc := 8) (n := 3) (x := u2) rfl d_Group_repeatsOf_8 ?_
        refine zw_bipush (pc := 9) (v := 24) (by decide) d_Group_repeatsOf_9 ?_
        refine zw_icmp_ge (pc := 11) (tgt := 27) (by decide) d_Group_repeatsOf_11 (fun hc_11 => ?_) (fun hc_11 => ?_)
        · refine zw_iload_n (pc := 27) (n := 3) (x := u2) rfl d_Group_repeatsOf_27 ?_
          exact zw_iret (S := []) (pc := 28) (ty := .int) rfl rfl d_Group_repeatsOf_28 ⟨hn4, _, rfl⟩
        · refine zw_aload_n (pc := 14) (n := 0) (x := q) rfl d_Group_repeatsOf_14 ?_
          refine zw_iload_n (pc := 15) (n := 2) (x := u1) rfl d_Group_repeatsOf_15 ?_
          refine zw_iload_n (pc := 16) (n := 1) (x := x0) rfl d_Group_repeatsOf_16 ?_
          refine zc_callV hn4 (pc := 17) [.int u1, .int x0] [] l_Group_67 (c_Group_both l B N3 (hT.mod hn4) q hqB (hn4.k hqk) u1 x0) rfl rfl hqk (by decide) (by decide) (Nat.le_of_ble_eq_true rfl) d_Group_repeatsOf_17 (fun r7 N5 hq6 => ?_)
          obtain ⟨hk10, v9, rfl⟩ := hq6
          have hn8 : zMod B [] M N5 := hn4.call hk10 (by decide)
          show zW l m_Group_repeatsOf (zn M + 0, zw M + 0) N5 20 [some (.ref q), some (.int x0), some (.int u1), some (.int u2)] [.int v9] (zqI B M [])
          refine zw_istore_n (pc := 20) (i := 2) (L2 := [some (.ref q), some (.int x0), some (.int v9), some (.int u2)]) rfl (by decide) rfl d_Group_repeatsOf_20 ?_
          refine zw_iinc (pc := 21) (i := 3) (x := u2) (v := u2 + Int32.ofInt 1) (L2 := [some (.ref q), some (.int x0), some (.int v9), some (.int (u2 + Int32.ofInt 1))]) rfl rfl (by decide) rfl d_Group_repeatsOf_21 ?_
          refine zw_goto (pc := 24) (tgt := 4) (by decide) d_Group_repeatsOf_24 ?_
          exact ih_4 v9 (u2 + Int32.ofInt 1) N5 hn8 (Nat.lt_of_lt_of_le (z_up hc_11) (Nat.le_of_lt_succ hlt_4))
  exact lp_4 _ x0 1 M hm (Nat.lt_succ_self _)
set_option maxHeartbeats 4000000 in
theorem c_T_order (l : Launch) (B : Nat) (M : zMem) (hT : zTy B M) (q : Nat) (hqB : q < B) (hqk : (zsh M q).1 = 0 + 3) (x0 : Int32) : zC l m_T_order 0 0 [.ref q, .int x0] M (zqI B M []) := by
  refine zC_of (L0 := [some (.ref q), some (.int x0)]) md_T_order (Nat.le_of_ble_eq_true rfl) rfl ?_ zQ0
  have hm : zMod B [] M M := zMod.rf
  refine zw_aload_n (pc := 0) (n := 0) (x := q) rfl d_T_order_0 ?_
  obtain ⟨r1, r1f, r1B, r1k⟩ := hT.1 q 0 2 hqB hqk (by decide) (by decide) rfl
  refine zc_getF hm (pc := 1) f_T_28 rfl hqk r1f d_T_order_1 ?_
  obtain ⟨r2, r2f, r2B, r2k⟩ := hT.1 r1 4 0 r1B r1k (by decide) (by decide) rfl
  refine zc_getF hm (pc := 4) f_T_61 rfl r1k r2f d_T_order_4 ?_
  refine zw_iload_n (pc := 7) (n := 1) (x := x0) rfl d_T_order_7 ?_
  refine zc_callV hm (pc := 8) [.int x0] [] l_T_108 (c_Group_hasMember l B M (hT.mod hm) r2 r2B (hm.k r2k) x0) rfl rfl r2k (by decide) (by decide) (Nat.le_of_ble_eq_true rfl) d_T_order_8 (fun r5 N3 hq4 => ?_)
  obtain ⟨hk8, v7, rfl, zv7⟩ := hq4
  have hn6 : zMod B [] M N3 := hm.call hk8 (by decide)
  show zW l m_T_order (zn M + 0, zw M + 0) N3 11 [some (.ref q), some (.int x0)] [.int v7] (zqI B M [])
  refine zw_if_eq (pc := 11) (tgt := 28) (by decide) d_T_order_11 (fun hc_11 => ?_) (fun hc_11 => ?_)
  · refine zw_iconst (pc := 28) (v := (-1)) (by decide) d_T_order_28 ?_
    exact zw_iret (S := []) (pc := 29) (ty := .int) rfl rfl d_T_order_29 ⟨hn6, _, rfl⟩
  · refine zw_aload_n (pc := 14) (n := 0) (x := q) rfl d_T_order_14 ?_
    refine zc_getF hn6 (pc := 15) f_T_28 rfl hqk r1f d_T_order_15 ?_
    refine zc_getF hn6 (pc := 18) f_T_61 rfl r1k r2f d_T_order_18 ?_
    refine zw_iload_n (pc := 21) (n := 1) (x := x0) rfl d_T_order_21 ?_
    refine zc_callV hn6 (pc := 22) [.int x0] [] l_T_131 (c_Group_repeatsOf l B N3 (hT.mod hn6) r2 r2B (hn6.k r2k) x0) rfl rfl r2k (by decide) (by decide) (Nat.le_of_ble_eq_true rfl) d_T_order_22 (fun r12 N10 hq11 => ?_)
    obtain ⟨hk15, v14, rfl⟩ := hq11
    have hn13 : zMod B [] M N10 := hn6.call hk15 (by decide)
    show zW l m_T_order (zn M + 0, zw M + 0) N10 25 [some (.ref q), some (.int x0)] [.int v14] (zqI B M [])
    refine zw_goto (pc := 25) (tgt := 29) (by decide) d_T_order_25 ?_
    exact zw_iret (S := []) (pc := 29) (ty := .int) rfl rfl d_T_order_29 ⟨hn13, _, rfl⟩
set_option maxHeartbeats 4000000 in
theorem c_Group_hasMembers (l : Launch) (B : Nat) (M : zMem) (hT : zTy B M) (q : Nat) (hqB : q < B) (hqk : (zsh M q).1 = 5 + 3) (x0 : Int32) : zC l m_Group_hasMembers 0 0 [.ref q, .int x0] M (zqZ B M []) := by
  refine zC_of (L0 := [some (.ref q), some (.int x0)]) md_Group_hasMembers (Nat.le_of_ble_eq_true rfl) rfl ?_ zQ0
  have hm : zMod B [] M M := zMod.rf
  refine zw_iload_n (pc := 0) (n := 1) (x := x0) rfl d_Group_hasMembers_0 ?_
  refine zw_aload_n (pc := 1) (n := 0) (x := q) rfl d_Group_hasMembers_1 ?_
  refine zc_getI0 hm (pc := 2) (by decide) f_Group_39 rfl hqk d_Group_hasMembers_2 ?_
  refine zw_iushr (pc := 5) d_Group_hasMembers_5 ?_
  refine zw_if_ne (pc := 6) (tgt := 13) (by decide) d_Group_hasMembers_6 (fun hc_6 => ?_) (fun hc_6 => ?_)
  · refine zw_iconst (pc := 13) (v := 0) (by decide) d_Group_hasMembers_13 ?_
    exact zw_iret (S := []) (pc := 14) (ty := .boolean) rfl (z_narZ (Or.inl rfl)) d_Group_hasMembers_14 ⟨hm, _, rfl, Or.inl rfl⟩
  · refine zw_iconst (pc := 9) (v := 1) (by decide) d_Group_hasMembers_9 ?_
    refine zw_goto (pc := 10) (tgt := 14) (by decide) d_Group_hasMembers_10 ?_
    exact zw_iret (S := []) (pc := 14) (ty := .boolean) rfl (z_narZ (Or.inr rfl)) d_Group_hasMembers_14 ⟨hm, _, rfl, Or.inr rfl⟩
set_option maxHeartbeats 4000000 in
theorem c_T_makesOf (l : Launch) (B : Nat) (M : zMem) (hT : zTy B M) (q : Nat) (hqB : q < B) (hqk : (zsh M q).1 = 0 + 3) (x0 : Int32) : zC l m_T_makesOf 0 0 [.ref q, .int x0] M (zqI B M []) := by
  refine zC_of (L0 := [some (.ref q), some (.int x0)]) md_T_makesOf (Nat.le_of_ble_eq_true rfl) rfl ?_ zQ0
  have hm : zMod B [] M M := zMod.rf
  refine zw_aload_n (pc := 0) (n := 0) (x := q) rfl d_T_makesOf_0 ?_
  obtain ⟨r1, r1f, r1B, r1k⟩ := hT.1 q 0 2 hqB hqk (by decide) (by decide) rfl
  refine zc_getF hm (pc := 1) f_T_28 rfl hqk r1f d_T_makesOf_1 ?_
  obtain ⟨r2, r2f, r2B, r2k⟩ := hT.1 r1 4 0 r1B r1k (by decide) (by decide) rfl
  refine zc_getF hm (pc := 4) f_T_61 rfl r1k r2f d_T_makesOf_4 ?_
  refine zw_iload_n (pc := 7) (n := 1) (x := x0) rfl d_T_makesOf_7 ?_
  refine zc_callV hm (pc := 8) [.int x0] [] l_T_134 (c_Group_hasMembers l B M (hT.mod hm) r2 r2B (hm.k r2k) x0) rfl rfl r2k (by decide) (by decide) (Nat.le_of_ble_eq_true rfl) d_T_makesOf_8 (fun r5 N3 hq4 => ?_)
  obtain ⟨hk8, v7, rfl, zv7⟩ := hq4
  have hn6 : zMod B [] M N3 := hm.call hk8 (by decide)
  show zW l m_T_makesOf (zn M + 0, zw M + 0) N3 11 [some (.ref q), some (.int x0)] [.int v7] (zqI B M [])
  refine zw_if_eq (pc := 11) (tgt := 28) (by decide) d_T_makesOf_11 (fun hc_11 => ?_) (fun hc_11 => ?_)
  · refine zw_iconst (pc := 28) (v := (-1)) (by decide) d_T_makesOf_28 ?_
    exact zw_iret (S := []) (pc := 29) (ty := .int) rfl rfl d_T_makesOf_29 ⟨hn6, _, rfl⟩
  · refine zw_aload_n (pc := 14) (n := 0) (x := q) rfl d_T_makesOf_14 ?_
    refine zc_getF hn6 (pc := 15) f_T_28 rfl hqk r1f d_T_makesOf_15 ?_
    refine zc_getF hn6 (pc := 18) f_T_61 rfl r1k r2f d_T_makesOf_18 ?_
    refine zw_iload_n (pc := 21) (n := 1) (x := x0) rfl d_T_makesOf_21 ?_
    refine zc_callV hn6 (pc := 22) [.int x0] [] l_T_137 (c_Group_spanOf l B N3 (hT.mod hn6) r2 r2B (hn6.k r2k) x0) rfl rfl r2k (by decide) (by decide) (Nat.le_of_ble_eq_true rfl) d_T_makesOf_22 (fun r12 N10 hq11 => ?_)
    obtain ⟨hk15, v14, rfl⟩ := hq11
    have hn13 : zMod B [] M N10 := hn6.call hk15 (by decide)
    show zW l m_T_makesOf (zn M + 0, zw M + 0) N10 25 [some (.ref q), some (.int x0)] [.int v14] (zqI B M [])
    refine zw_goto (pc := 25) (tgt := 29) (by decide) d_T_makesOf_25 ?_
    exact zw_iret (S := []) (pc := 29) (ty := .int) rfl rfl d_T_makesOf_29 ⟨hn13, _, rfl⟩
set_option maxHeartbeats 4000000 in
theorem c_Sorts_spannedSort (l : Launch) (B : Nat) (M : zMem) (hT : zTy B M) (q : Nat) (hqB : q < B) (hqk : (zsh M q).1 = 6 + 3) (x0 : Int32) : zC l m_Sorts_spannedSort 0 0 [.ref q, .int x0] M (zqI B M []) := by
  refine zC_of (L0 := [some (.ref q), some (.int x0)]) md_Sorts_spannedSort (Nat.le_of_ble_eq_true rfl) rfl ?_ zQ0
  have hm : zMod B [] M M := zMod.rf
  refine zw_aload_n (pc := 0) (n := 0) (x := q) rfl d_Sorts_spannedSort_0 ?_
  obtain ⟨r1, r1f, r1B, r1k⟩ := hT.1 q 6 2 hqB hqk (by decide) (by decide) rfl
  refine zc_getF hm (pc := 1) f_Sorts_20 rfl hqk r1f d_Sorts_spannedSort_1 ?_
  refine zw_aload_n (pc := 4) (n := 0) (x := q) rfl d_Sorts_spannedSort_4 ?_
  refine zw_aload_n (pc := 5) (n := 0) (x := q) rfl d_Sorts_spannedSort_5 ?_
  obtain ⟨r2, r2f, r2B, r2k⟩ := hT.1 q 6 0 hqB hqk (by decide) (by decide) rfl
  refine zc_getF hm (pc := 6) f_Sorts_32 rfl hqk r2f d_Sorts_spannedSort_6 ?_
  refine zw_iload_n (pc := 9) (n := 1) (x := x0) rfl d_Sorts_spannedSort_9 ?_
  refine zc_callV hm (pc := 10) [.int x0] [.ref q, .ref r1] l_Sorts_57 (c_Group_spanOf l B M (hT.mod hm) r2 r2B (hm.k r2k) x0) rfl rfl r2k (by decide) (by decide) (Nat.le_of_ble_eq_true rfl) d_Sorts_spannedSort_10 (fun r5 N3 hq4 => ?_)
  obtain ⟨hk8, v7, rfl⟩ := hq4
  have hn6 : zMod B [] M N3 := hm.call hk8 (by decide)
  show zW l m_Sorts_spannedSort (zn M + 0, zw M + 0) N3 13 [some (.ref q), some (.int x0)] [.int v7, .ref q, .ref r1] (zqI B M [])
  refine zc_callV hn6 (pc := 13) [.int v7] [.ref r1] l_Sorts_72 (c_Sorts_indexOf l B N3 (hT.mod hn6) q hqB (hn6.k hqk) v7) rfl rfl hqk (by decide) (by decide) (Nat.le_of_ble_eq_true rfl) d_Sorts_spannedSort_13 (fun r12 N10 hq11 => ?_)
  obtain ⟨hk15, v14, rfl⟩ := hq11
  have hn13 : zMod B [] M N10 := hn6.call hk15 (by decide)
  show zW l m_Sorts_spannedSort (zn M + 0, zw M + 0) N10 16 [some (.ref q), some (.int x0)] [.int v14, .ref r1] (zqI B M [])
  refine zc_callV hn13 (pc := 16) [.int v14] [] l_Sorts_49 (c_IntRow_at l B N10 (hT.mod hn13) r1 r1B (hn13.k r1k) v14) rfl rfl r1k (by decide) (by decide) (Nat.le_of_ble_eq_true rfl) d_Sorts_spannedSort_16 (fun r19 N17 hq18 => ?_)
  obtain ⟨hk22, v21, rfl⟩ := hq18
  have hn20 : zMod B [] M N17 := hn13.call hk22 (by decide)
  show zW l m_Sorts_spannedSort (zn M + 0, zw M + 0) N17 19 [some (.ref q), some (.int x0)] [.int v21] (zqI B M [])
  exact zw_iret (S := []) (pc := 19) (ty := .int) rfl rfl d_Sorts_spannedSort_19 ⟨hn20, _, rfl⟩
set_option maxHeartbeats 4000000 in
theorem c_T_sortOf (l : Launch) (B : Nat) (M : zMem) (hT : zTy B M) (q : Nat) (hqB : q < B) (hqk : (zsh M q).1 = 0 + 3) (x0 : Int32) : zC l m_T_sortOf 0 0 [.ref q, .int x0] M (zqI B M []) := by
  refine zC_of (L0 := [some (.ref q), some (.int x0)]) md_T_sortOf (Nat.le_of_ble_eq_true rfl) rfl ?_ zQ0
  have hm : zMod B [] M M := zMod.rf
  refine zw_aload_n (pc := 0) (n := 0) (x := q) rfl d_T_sortOf_0 ?_
  obtain ⟨r1, r1f, r1B, r1k⟩ := hT.1 q 0 2 hqB hqk (by decide) (by decide) rfl
  refine zc_getF hm (pc := 1) f_T_28 rfl hqk r1f d_T_sortOf_1 ?_
  obtain ⟨r2, r2f, r2B, r2k⟩ := hT.1 r1 4 0 r1B r1k (by decide) (by decide) rfl
  refine zc_getF hm (pc := 4) f_T_61 rfl r1k r2f d_T_sortOf_4 ?_
  refine zw_iload_n (pc := 7) (n := 1) (x := x0) rfl d_T_sortOf_7 ?_
  refine zc_callV hm (pc := 8) [.int x0] [] l_T_134 (c_Group_hasMembers l B M (hT.mod hm) r2 r2B (hm.k r2k) x0) rfl rfl r2k (by decide) (by decide) (Nat.le_of_ble_eq_true rfl) d_T_sortOf_8 (fun r5 N3 hq4 => ?_)
  obtain ⟨hk8, v7, rfl, zv7⟩ := hq4
  have hn6 : zMod B [] M N3 := hm.call hk8 (by decide)
  show zW l m_T_sortOf (zn M + 0, zw M + 0) N3 11 [some (.ref q), some (.int x0)] [.int v7] (zqI B M [])
  refine zw_if_eq (pc := 11) (tgt := 28) (by decide) d_T_sortOf_11 (fun hc_11 => ?_) (fun hc_11 => ?_)
  · refine zw_iconst (pc := 28) (v := (-1)) (by decide) d_T_sortOf_28 ?_
    exact zw_iret (S := []) (pc := 29) (ty := .int) rfl rfl d_T_sortOf_29 ⟨hn6, _, rfl⟩
  · refine zw_aload_n (pc := 14) (n := 0) (x := q) rfl d_T_sortOf_14 ?_
    refine zc_getF hn6 (pc := 15) f_T_28 rfl hqk r1f d_T_sortOf_15 ?_
    obtain ⟨r10, r10f, r10B, r10k⟩ := hT.1 r1 4 1 r1B r1k (by decide) (by decide) rfl
    refine zc_getF hn6 (pc := 18) f_T_85 rfl r1k r10f d_T_sortOf_18 ?_
    refine zw_iload_n (pc := 21) (n := 1) (x := x0) rfl d_T_sortOf_21 ?_
    refine zc_callV hn6 (pc := 22) [.int x0] [] l_T_140 (c_Sorts_spannedSort l B N3 (hT.mod hn6) r10 r10B (hn6.k r10k) x0) rfl rfl r10k (by decide) (by decide) (Nat.le_of_ble_eq_true rfl) d_T_sortOf_22 (fun r13 N11 hq12 => ?_)
    obtain ⟨hk16, v15, rfl⟩ := hq12
    have hn14 : zMod B [] M N11 := hn6.call hk16 (by decide)
    show zW l m_T_sortOf (zn M + 0, zw M + 0) N11 25 [some (.ref q), some (.int x0)] [.int v15] (zqI B M [])
    refine zw_goto (pc := 25) (tgt := 29) (by decide) d_T_sortOf_25 ?_
    exact zw_iret (S := []) (pc := 29) (ty := .int) rfl rfl d_T_sortOf_29 ⟨hn14, _, rfl⟩
set_option maxHeartbeats 4000000 in
theorem c_Sorts_hasSort (l : Launch) (B : Nat) (M : zMem) (hT : zTy B M) (q : Nat) (hqB : q < B) (hqk : (zsh M q).1 = 6 + 3) (x0 : Int32) : zC l m_Sorts_hasSort 0 0 [.ref q, .int x0] M (zqZ B M []) := by
  refine zC_of (L0 := [some (.ref q), some (.int x0)]) md_Sorts_hasSort (Nat.le_of_ble_eq_true rfl) rfl ?_ zQ0
  have hm : zMod B [] M M := zMod.rf
  refine zw_iload_n (pc := 0) (n := 1) (x := x0) rfl d_Sorts_hasSort_0 ?_
  refine zw_if_lt (pc := 1) (tgt := 16) (by decide) d_Sorts_hasSort_1 (fun hc_1 => ?_) (fun hc_1 => ?_)
  · refine zw_iconst (pc := 16) (v := 0) (by decide) d_Sorts_hasSort_16 ?_
    exact zw_iret (S := []) (pc := 17) (ty := .boolean) rfl (z_narZ (Or.inl rfl)) d_Sorts_hasSort_17 ⟨hm, _, rfl, Or.inl rfl⟩
  · refine zw_iload_n (pc := 4) (n := 1) (x := x0) rfl d_Sorts_hasSort_4 ?_
    refine zw_aload_n (pc := 5) (n := 0) (x := q) rfl d_Sorts_hasSort_5 ?_
    refine zc_getI0 hm (pc := 6) (by decide) f_Sorts_83 rfl hqk d_Sorts_hasSort_6 ?_
    refine zw_icmp_ge (pc := 9) (tgt := 16) (by decide) d_Sorts_hasSort_9 (fun hc_9 => ?_) (fun hc_9 => ?_)
    · refine zw_iconst (pc := 16) (v := 0) (by decide) d_Sorts_hasSort_16 ?_
      exact zw_iret (S := []) (pc := 17) (ty := .boolean) rfl (z_narZ (Or.inl rfl)) d_Sorts_hasSort_17 ⟨hm, _, rfl, Or.inl rfl⟩
    · refine zw_iconst (pc := 12) (v := 1) (by decide) d_Sorts_hasSort_12 ?_
      refine zw_goto (pc := 13) (tgt := 17) (by decide) d_Sorts_hasSort_13 ?_
      exact zw_iret (S := []) (pc := 17) (ty := .boolean) rfl (z_narZ (Or.inr rfl)) d_Sorts_hasSort_17 ⟨hm, _, rfl, Or.inr rfl⟩
set_option maxHeartbeats 4000000 in
theorem c_Sorts_countWithin (l : Launch) (B : Nat) (M : zMem) (hT : zTy B M) (q : Nat) (hqB : q < B) (hqk : (zsh M q).1 = 6 + 3) (x0 : Int32) (x1 : Int32) : zC l m_Sorts_countWithin 0 0 [.ref q, .int x0, .int x1] M (zqI B M []) := by
  refine zC_of (L0 := [some (.ref q), some (.int x0), some (.int x1), none, none]) md_Sorts_countWithin (Nat.le_of_ble_eq_true rfl) rfl ?_ zQ0
  have hm : zMod B [] M M := zMod.rf
  refine zw_iconst (pc := 0) (v := 0) (by decide) d_Sorts_countWithin_0 ?_
  refine zw_istore_n (pc := 1) (i := 3) (L2 := [some (.ref q), some (.int x0), some (.int x1), some (.int 0), none]) rfl (by decide) rfl d_Sorts_countWithin_1 ?_
  refine zw_iconst (pc := 2) (v := 0) (by decide) d_Sorts_countWithin_2 ?_
  refine zw_istore (pc := 3) (i := 4) (L2 := [some (.ref q), some (.int x0), some (.int x1), some (.int 0), some (.int 0)]) (by decide) rfl d_Sorts_countWithin_3 ?_
  have lp_5 : ∀ (n : Nat) (u1 : Int32) (u2 : Int32) (N3 : zMem) (hn4 : zMod B [] M N3), zvu u2 (zi M q 6) < n → zW l m_Sorts_countWithin (zn M + 0, zw M + 0) N3 5 [some (.ref q), some (.int x0), some (.int x1), some (.int u1), some (.int u2)] [] (zqI B M []) := by
    intro n
    induction n with
    | zero =>
      intro u1 u2 N3 hn4 h0
      exact absurd h0 (Nat.not_lt_zero _)
    | succ n ih_5 =>
      intro u1 u2 N3 hn4 hlt_5
      refine zw_iload (pc := 5) (i := 4) (x := u2) rfl d_Sorts_countWithin_5 ?_
      refine zw_aload_n (pc := 7) (n := 0) (x := q) rfl d_Sorts_countWithin_7 ?_
      refine zc_getI0 hn4 (pc := 8) (by decide) f_Sorts_36 rfl hqk d_Sorts_countWithin_8 ?_
      refine zw_icmp_ge (pc := 11) (tgt := 59) (by decide) d_Sorts_countWithin_11 (fun hc_11 => ?_) (fun hc_11 => ?_)
      · refine zw_iload_n (pc := 59) (n := 3) (x := u1) rfl d_Sorts_countWithin_59 ?_
        exact zw_iret (S := []) (pc := 60) (ty := .int) rfl rfl d_Sorts_countWithin_60 ⟨hn4, _, rfl⟩
      · refine zw_aload_n (pc := 14) (n := 0) (x := q) rfl d_Sorts_countWithin_14 ?_
        obtain ⟨r5, r5f, r5B, r5k⟩ := hT.1 q 6 2 hqB hqk (by decide) (by decide) rfl
        refine zc_getF hn4 (pc := 15) f_Sorts_20 rfl hqk r5f d_Sorts_countWithin_15 ?_
        refine zw_iload (pc := 18) (i := 4) (x := u2) rfl d_Sorts_countWithin_18 ?_
        refine zc_callV hn4 (pc := 20) [.int u2] [] l_Sorts_49 (c_IntRow_at l B N3 (hT.mod hn4) r5 r5B (hn4.k r5k) u2) rfl rfl r5k (by decide) (by decide) (Nat.le_of_ble_eq_true rfl) d_Sorts_countWithin_20 (fun r8 N6 hq7 => ?_)
        obtain ⟨hk11, v10, rfl⟩ := hq7
        have hn9 : zMod B [] M N6 := hn4.call hk11 (by decide)
        show zW l m_Sorts_countWithin (zn M + 0, zw M + 0) N6 23 [some (.ref q), some (.int x0), some (.int x1), some (.int u1), some (.int u2)] [.int v10] (zqI B M [])
        refine zw_iload_n (pc := 23) (n := 1) (x := x0) rfl d_Sorts_countWithin_23 ?_
        have j_53 : ∀ (u13 : Int32) (N14 : zMem) (hn15 : zMod B [] M N14), zW l m_Sorts_countWithin (zn M + 0, zw M + 0) N14 53 [some (.ref q), some (.int x0), some (.int x1), some (.int u13), some (.int u2)] [] (zqI B M []) := by
          intro u13 N14 hn15
          refine zw_iinc (pc := 53) (i := 4) (x := u2) (v := u2 + Int32.ofInt 1) (L2 := [some (.ref q), some (.int x0), some (.int x1), some (.int u13), some (.int (u2 + Int32.ofInt 1))]) rfl rfl (by decide) rfl d_Sorts_countWithin_53 ?_
          refine zw_goto (pc := 56) (tgt := 5) (by decide) d_Sorts_countWithin_56 ?_
          exact ih_5 u13 (u2 + Int32.ofInt 1) N14 hn15 (Nat.lt_of_lt_of_le (z_up hc_11) (Nat.le_of_lt_succ hlt_5))
        refine zw_icmp_ne (pc := 24) (tgt := 53) (by decide) d_Sorts_countWithin_24 (fun hc_24 => ?_) (fun hc_24 => ?_)
        · exact j_53 u1 N6 hn9
        · refine zw_aload_n (pc := 27) (n := 0) (x := q) rfl d_Sorts_countWithin_27 ?_
          obtain ⟨r16, r16f, r16B, r16k⟩ := hT.1 q 6 1 hqB hqk (by decide) (by decide) rfl
          refine zc_getF hn9 (pc := 28) f_Sorts_14 rfl hqk r16f d_Sorts_countWithin_28 ?_
          refine zw_iload (pc := 31) (i := 4) (x := u2) rfl d_Sorts_countWithin_31 ?_
          refine zc_callV hn9 (pc := 33) [.int u2] [] l_Sorts_49 (c_IntRow_at l B N6 (hT.mod hn9) r16 r16B (hn9.k r16k) u2) rfl rfl r16k (by decide) (by decide) (Nat.le_of_ble_eq_true rfl) d_Sorts_countWithin_33 (fun r19 N17 hq18 => ?_)
          obtain ⟨hk22, v21, rfl⟩ := hq18
          have hn20 : zMod B [] M N17 := hn9.call hk22 (by decide)
          show zW l m_Sorts_countWithin (zn M + 0, zw M + 0) N17 36 [some (.ref q), some (.int x0), some (.int x1), some (.int u1), some (.int u2)] [.int v21] (zqI B M [])
          refine zw_aload_n (pc := 36) (n := 0) (x := q) rfl d_Sorts_countWithin_36 ?_
          obtain ⟨r24, r24f, r24B, r24k⟩ := hT.1 q 6 4 hqB hqk (by decide) (by decide) rfl
          refine zc_getF hn20 (pc := 37) f_Sorts_26 rfl hqk r24f d_Sorts_countWithin_37 ?_
          refine zw_iload_n (pc := 40) (n := 2) (x := x1) rfl d_Sorts_countWithin_40 ?_
          refine zc_callV hn20 (pc := 41) [.int x1] [.int v21] l_Sorts_49 (c_IntRow_at l B N17 (hT.mod hn20) r24 r24B (hn20.k r24k) x1) rfl rfl r24k (by decide) (by decide) (Nat.le_of_ble_eq_true rfl) d_Sorts_countWithin_41 (fun r27 N25 hq26 => ?_)
          obtain ⟨hk30, v29, rfl⟩ := hq26
          have hn28 : zMod B [] M N25 := hn20.call hk30 (by decide)
          show zW l m_Sorts_countWithin (zn M + 0, zw M + 0) N25 44 [some (.ref q), some (.int x0), some (.int x1), some (.int u1), some (.int u2)] [.int v29, .int v21] (zqI B M [])
          refine zc_callS hn28 (pc := 44) [.int v21, .int v29] [] l_Sorts_96 (c_T_isPart l B N25 (hT.mod hn28) v21 v29) rfl rfl (by decide) (Nat.le_of_ble_eq_true rfl) d_Sorts_countWithin_44 (fun r34 N32 hq33 => ?_)
          obtain ⟨hk37, v36, rfl, zv36⟩ := hq33
          have hn35 : zMod B [] M N32 := hn28.call hk37 (by decide)
          show zW l m_Sorts_countWithin (zn M + 0, zw M + 0) N32 47 [some (.ref q), some (.int x0), some (.int x1), some (.int u1), some (.int u2)] [.int v36] (zqI B M [])
          refine zw_if_eq (pc := 47) (tgt := 53) (by decide) d_Sorts_countWithin_47 (fun hc_47 => ?_) (fun hc_47 => ?_)
          · exact j_53 u1 N32 hn35
          · refine zw_iinc (pc := 50) (i := 3) (x := u1) (v := u1 + Int32.ofInt 1) (L2 := [some (.ref q), some (.int x0), some (.int x1), some (.int (u1 + Int32.ofInt 1)), some (.int u2)]) rfl rfl (by decide) rfl d_Sorts_countWithin_50 ?_
            exact j_53 (u1 + Int32.ofInt 1) N32 hn35
  exact lp_5 _ 0 0 M hm (Nat.lt_succ_self _)
set_option maxHeartbeats 4000000 in
theorem c_Sorts_countOf (l : Launch) (B : Nat) (M : zMem) (hT : zTy B M) (q : Nat) (hqB : q < B) (hqk : (zsh M q).1 = 6 + 3) (x0 : Int32) : zC l m_Sorts_countOf 0 0 [.ref q, .int x0] M (zqI B M []) := by
  refine zC_of (L0 := [some (.ref q), some (.int x0)]) md_Sorts_countOf (Nat.le_of_ble_eq_true rfl) rfl ?_ zQ0
  have hm : zMod B [] M M := zMod.rf
  refine zw_aload_n (pc := 0) (n := 0) (x := q) rfl d_Sorts_countOf_0 ?_
  refine zw_iload_n (pc := 1) (n := 1) (x := x0) rfl d_Sorts_countOf_1 ?_
  refine zw_aload_n (pc := 2) (n := 0) (x := q) rfl d_Sorts_countOf_2 ?_
  refine zc_getI0 hm (pc := 3) (by decide) f_Sorts_83 rfl hqk d_Sorts_countOf_3 ?_
  refine zw_iconst (pc := 6) (v := 1) (by decide) d_Sorts_countOf_6 ?_
  refine zw_isub (pc := 7) d_Sorts_countOf_7 ?_
  refine zc_callV hm (pc := 8) [.int x0, .int ((zi M q 7) - 1)] [] l_Sorts_99 (c_Sorts_countWithin l B M (hT.mod hm) q hqB (hm.k hqk) x0 ((zi M q 7) - 1)) rfl rfl hqk (by decide) (by decide) (Nat.le_of_ble_eq_true rfl) d_Sorts_countOf_8 (fun r3 N1 hq2 => ?_)
  obtain ⟨hk6, v5, rfl⟩ := hq2
  have hn4 : zMod B [] M N1 := hm.call hk6 (by decide)
  show zW l m_Sorts_countOf (zn M + 0, zw M + 0) N1 11 [some (.ref q), some (.int x0)] [.int v5] (zqI B M [])
  exact zw_iret (S := []) (pc := 11) (ty := .int) rfl rfl d_Sorts_countOf_11 ⟨hn4, _, rfl⟩
set_option maxHeartbeats 4000000 in
theorem c_Group_normOf (l : Launch) (B : Nat) (M : zMem) (hT : zTy B M) (q : Nat) (hqB : q < B) (hqk : (zsh M q).1 = 5 + 3) (x0 : Int32) : zC l m_Group_normOf 0 0 [.ref q, .int x0] M (zqI B M []) := by
  refine zC_of (L0 := [some (.ref q), some (.int x0), none, none]) md_Group_normOf (Nat.le_of_ble_eq_true rfl) rfl ?_ zQ0
  have hm : zMod B [] M M := zMod.rf
  refine zw_iconst (pc := 0) (v := 0) (by decide) d_Group_normOf_0 ?_
  refine zw_istore_n (pc := 1) (i := 2) (L2 := [some (.ref q), some (.int x0), some (.int 0), none]) rfl (by decide) rfl d_Group_normOf_1 ?_
  refine zw_iconst (pc := 2) (v := 0) (by decide) d_Group_normOf_2 ?_
  refine zw_istore_n (pc := 3) (i := 3) (L2 := [some (.ref q), some (.int x0), some (.int 0), some (.int 0)]) rfl (by decide) rfl d_Group_normOf_3 ?_
  have lp_4 : ∀ (n : Nat) (u1 : Int32) (u2 : Int32) (N3 : zMem) (hn4 : zMod B [] M N3), zvu u2 (zi M q 7) < n → zW l m_Group_normOf (zn M + 0, zw M + 0) N3 4 [some (.ref q), some (.int x0), some (.int u1), some (.int u2)] [] (zqI B M []) := by
    intro n
    induction n with
    | zero =>
      intro u1 u2 N3 hn4 h0
      exact absurd h0 (Nat.not_lt_zero _)
    | succ n ih_4 =>
      intro u1 u2 N3 hn4 hlt_4
      refine zw_iload_n (pc := 4) (n := 3) (x := u2) rfl d_Group_normOf_4 ?_
      refine zw_aload_n (pc := 5) (n := 0) (x := q) rfl d_Group_normOf_5 ?_
      refine zc_getI0 hn4 (pc := 6) (by decide) f_Group_39 rfl hqk d_Group_normOf_6 ?_
      refine zw_icmp_ge (pc := 9) (tgt := 34) (by decide) d_Group_normOf_9 (fun hc_9 => ?_) (fun hc_9 => ?_)
      · refine zw_iload_n (pc := 34) (n := 2) (x := u1) rfl d_Group_normOf_34 ?_
        exact zw_iret (S := []) (pc := 35) (ty := .int) rfl rfl d_Group_normOf_35 ⟨hn4, _, rfl⟩
      · refine zw_aload_n (pc := 12) (n := 0) (x := q) rfl d_Group_normOf_12 ?_
        refine zw_iload_n (pc := 13) (n := 1) (x := x0) rfl d_Group_normOf_13 ?_
        refine zw_iload_n (pc := 14) (n := 3) (x := u2) rfl d_Group_normOf_14 ?_
        refine zc_callV hn4 (pc := 15) [.int x0, .int u2] [] l_Group_80 (c_Group_turnAll l B N3 (hT.mod hn4) q hqB (hn4.k hqk) x0 u2) rfl rfl hqk (by decide) (by decide) (Nat.le_of_ble_eq_true rfl) d_Group_normOf_15 (fun r7 N5 hq6 => ?_)
        obtain ⟨hk10, v9, rfl⟩ := hq6
        have hn8 : zMod B [] M N5 := hn4.call hk10 (by decide)
        show zW l m_Group_normOf (zn M + 0, zw M + 0) N5 18 [some (.ref q), some (.int x0), some (.int u1), some (.int u2)] [.int v9] (zqI B M [])
        refine zw_iload_n (pc := 18) (n := 1) (x := x0) rfl d_Group_normOf_18 ?_
        have j_28 : ∀ (u12 : Int32) (N13 : zMem) (hn14 : zMod B [] M N13), zW l m_Group_normOf (zn M + 0, zw M + 0) N13 28 [some (.ref q), some (.int x0), some (.int u12), some (.int u2)] [] (zqI B M []) := by
          intro u12 N13 hn14
          refine zw_iinc (pc := 28) (i := 3) (x := u2) (v := u2 + Int32.ofInt 1) (L2 := [some (.ref q), some (.int x0), some (.int u12), some (.int (u2 + Int32.ofInt 1))]) rfl rfl (by decide) rfl d_Group_normOf_28 ?_
          refine zw_goto (pc := 31) (tgt := 4) (by decide) d_Group_normOf_31 ?_
          exact ih_4 u12 (u2 + Int32.ofInt 1) N13 hn14 (Nat.lt_of_lt_of_le (z_up hc_9) (Nat.le_of_lt_succ hlt_4))
        refine zw_icmp_ne (pc := 19) (tgt := 28) (by decide) d_Group_normOf_19 (fun hc_19 => ?_) (fun hc_19 => ?_)
        · exact j_28 u1 N5 hn8
        · refine zw_iload_n (pc := 22) (n := 2) (x := u1) rfl d_Group_normOf_22 ?_
          refine zw_iconst (pc := 23) (v := 1) (by decide) d_Group_normOf_23 ?_
          refine zw_iload_n (pc := 24) (n := 3) (x := u2) rfl d_Group_normOf_24 ?_
          refine zw_ishl (pc := 25) d_Group_normOf_25 ?_
          refine zw_ior (pc := 26) d_Group_normOf_26 ?_
          refine zw_istore_n (pc := 27) (i := 2) (L2 := [some (.ref q), some (.int x0), some (.int (u1 ||| (1 <<< (u2 &&& 31)))), some (.int u2)]) rfl (by decide) rfl d_Group_normOf_27 ?_
          exact j_28 (u1 ||| (1 <<< (u2 &&& 31))) N5 hn8
  exact lp_4 _ 0 0 M hm (Nat.lt_succ_self _)
set_option maxHeartbeats 4000000 in
theorem c_Group_isMadeByOne (l : Launch) (B : Nat) (M : zMem) (hT : zTy B M) (q : Nat) (hqB : q < B) (hqk : (zsh M q).1 = 5 + 3) (x0 : Int32) : zC l m_Group_isMadeByOne 0 0 [.ref q, .int x0] M (zqZ B M []) := by
  refine zC_of (L0 := [some (.ref q), some (.int x0), none, none]) md_Group_isMadeByOne (Nat.le_of_ble_eq_true rfl) rfl ?_ zQ0
  have hm : zMod B [] M M := zMod.rf
  refine zw_iload_n (pc := 0) (n := 1) (x := x0) rfl d_Group_isMadeByOne_0 ?_
  refine zc_callS hm (pc := 1) [.int x0] [] l_Group_83 (c_Integer_bitCount l B M (hT.mod hm) x0) rfl rfl (by decide) (Nat.le_of_ble_eq_true rfl) d_Group_isMadeByOne_1 (fun r3 N1 hq2 => ?_)
  obtain ⟨hq2, ex7⟩ := hq2
  obtain ⟨hk6, v5, rfl⟩ := hq2
  have hn4 : zMod B [] M N1 := hm.call hk6 (by decide)
  show zW l m_Group_isMadeByOne (zn M + 0, zw M + 0) N1 4 [some (.ref q), some (.int x0), none, none] [.int v5] (zqZ B M [])
  refine zw_istore_n (pc := 4) (i := 2) (L2 := [some (.ref q), some (.int x0), some (.int v5), none]) rfl (by decide) rfl d_Group_isMadeByOne_4 ?_
  refine zw_iconst (pc := 5) (v := 0) (by decide) d_Group_isMadeByOne_5 ?_
  refine zw_istore_n (pc := 6) (i := 3) (L2 := [some (.ref q), some (.int x0), some (.int v5), some (.int 0)]) rfl (by decide) rfl d_Group_isMadeByOne_6 ?_
  have lp_7 : ∀ (n : Nat) (u8 : Int32) (N9 : zMem) (hn10 : zMod B [] M N9), zvu u8 (zi M q 7) < n → zW l m_Group_isMadeByOne (zn M + 0, zw M + 0) N9 7 [some (.ref q), some (.int x0), some (.int v5), some (.int u8)] [] (zqZ B M []) := by
    intro n
    induction n with
    | zero =>
      intro u8 N9 hn10 h0
      exact absurd h0 (Nat.not_lt_zero _)
    | succ n ih_7 =>
      intro u8 N9 hn10 hlt_7
      refine zw_iload_n (pc := 7) (n := 3) (x := u8) rfl d_Group_isMadeByOne_7 ?_
      refine zw_aload_n (pc := 8) (n := 0) (x := q) rfl d_Group_isMadeByOne_8 ?_
      refine zc_getI0 hn10 (pc := 9) (by decide) f_Group_39 rfl hqk d_Group_isMadeByOne_9 ?_
      refine zw_icmp_ge (pc := 12) (tgt := 40) (by decide) d_Group_isMadeByOne_12 (fun hc_12 => ?_) (fun hc_12 => ?_)
      · refine zw_iconst (pc := 40) (v := 0) (by decide) d_Group_isMadeByOne_40 ?_
        exact zw_iret (S := []) (pc := 41) (ty := .boolean) rfl (z_narZ (Or.inl rfl)) d_Group_isMadeByOne_41 ⟨hn10, _, rfl, Or.inl rfl⟩
      · refine zw_iload_n (pc := 15) (n := 1) (x := x0) rfl d_Group_isMadeByOne_15 ?_
        refine zw_iload_n (pc := 16) (n := 3) (x := u8) rfl d_Group_isMadeByOne_16 ?_
        refine zc_callS hn10 (pc := 17) [.int x0, .int u8] [] l_Group_73 (c_T_isIn l B N9 (hT.mod hn10) x0 u8) rfl rfl (by decide) (Nat.le_of_ble_eq_true rfl) d_Group_isMadeByOne_17 (fun r13 N11 hq12 => ?_)
        obtain ⟨hk16, v15, rfl, zv15⟩ := hq12
        have hn14 : zMod B [] M N11 := hn10.call hk16 (by decide)
        show zW l m_Group_isMadeByOne (zn M + 0, zw M + 0) N11 20 [some (.ref q), some (.int x0), some (.int v5), some (.int u8)] [.int v15] (zqZ B M [])
        have j_34 : ∀ (N18 : zMem) (hn19 : zMod B [] M N18), zW l m_Group_isMadeByOne (zn M + 0, zw M + 0) N18 34 [some (.ref q), some (.int x0), some (.int v5), some (.int u8)] [] (zqZ B M []) := by
          intro N18 hn19
          refine zw_iinc (pc := 34) (i := 3) (x := u8) (v := u8 + Int32.ofInt 1) (L2 := [some (.ref q), some (.int x0), some (.int v5), some (.int (u8 + Int32.ofInt 1))]) rfl rfl (by decide) rfl d_Group_isMadeByOne_34 ?_
          refine zw_goto (pc := 37) (tgt := 7) (by decide) d_Group_isMadeByOne_37 ?_
          exact ih_7 (u8 + Int32.ofInt 1) N18 hn19 (Nat.lt_of_lt_of_le (z_up hc_12) (Nat.le_of_lt_succ hlt_7))
        refine zw_if_eq (pc := 20) (tgt := 34) (by decide) d_Group_isMadeByOne_20 (fun hc_20 => ?_) (fun hc_20 => ?_)
        · exact j_34 N11 hn14
        · refine zw_aload_n (pc := 23) (n := 0) (x := q) rfl d_Group_isMadeByOne_23 ?_
          refine zw_iload_n (pc := 24) (n := 3) (x := u8) rfl d_Group_isMadeByOne_24 ?_
          refine zc_callV hn14 (pc := 25) [.int u8] [] l_Group_70 (c_Group_repeatsOf l B N11 (hT.mod hn14) q hqB (hn14.k hqk) u8) rfl rfl hqk (by decide) (by decide) (Nat.le_of_ble_eq_true rfl) d_Group_isMadeByOne_25 (fun r22 N20 hq21 => ?_)
          obtain ⟨hk25, v24, rfl⟩ := hq21
          have hn23 : zMod B [] M N20 := hn14.call hk25 (by decide)
          show zW l m_Group_isMadeByOne (zn M + 0, zw M + 0) N20 28 [some (.ref q), some (.int x0), some (.int v5), some (.int u8)] [.int v24] (zqZ B M [])
          refine zw_iload_n (pc := 28) (n := 2) (x := v5) rfl d_Group_isMadeByOne_28 ?_
          refine zw_icmp_ne (pc := 29) (tgt := 34) (by decide) d_Group_isMadeByOne_29 (fun hc_29 => ?_) (fun hc_29 => ?_)
          · exact j_34 N20 hn23
          · refine zw_iconst (pc := 32) (v := 1) (by decide) d_Group_isMadeByOne_32 ?_
            exact zw_iret (S := []) (pc := 33) (ty := .boolean) rfl (z_narZ (Or.inr rfl)) d_Group_isMadeByOne_33 ⟨hn23, _, rfl, Or.inr rfl⟩
  exact lp_7 _ 0 N1 hn4 (Nat.lt_succ_self _)
set_option maxHeartbeats 4000000 in
theorem c_T_sort (l : Launch) (B : Nat) (M : zMem) (hT : zTy B M) (q : Nat) (hqB : q < B) (hqk : (zsh M q).1 = 0 + 3) (x0 : Int32) (x1 : Int32) : zC l m_T_sort 0 0 [.ref q, .int x0, .int x1] M (zqI B M []) := by
  refine zC_of (L0 := [some (.ref q), some (.int x0), some (.int x1), none, none]) md_T_sort (Nat.le_of_ble_eq_true rfl) rfl ?_ zQ0
  have hm : zMod B [] M M := zMod.rf
  refine zw_aload_n (pc := 0) (n := 0) (x := q) rfl d_T_sort_0 ?_
  obtain ⟨r1, r1f, r1B, r1k⟩ := hT.1 q 0 2 hqB hqk (by decide) (by decide) rfl
  refine zc_getF hm (pc := 1) f_T_28 rfl hqk r1f d_T_sort_1 ?_
  obtain ⟨r2, r2f, r2B, r2k⟩ := hT.1 r1 4 1 r1B r1k (by decide) (by decide) rfl
  refine zc_getF hm (pc := 4) f_T_85 rfl r1k r2f d_T_sort_4 ?_
  refine zw_astore_n (pc := 7) (i := 3) (L2 := [some (.ref q), some (.int x0), some (.int x1), some (.ref r2), none]) rfl (by decide) rfl d_T_sort_7 ?_
  refine zw_aload_n (pc := 8) (n := 3) (x := r2) rfl d_T_sort_8 ?_
  refine zw_iload_n (pc := 9) (n := 1) (x := x0) rfl d_T_sort_9 ?_
  refine zc_callV hm (pc := 10) [.int x0] [] l_T_143 (c_Sorts_hasSort l B M (hT.mod hm) r2 r2B (hm.k r2k) x0) rfl rfl r2k (by decide) (by decide) (Nat.le_of_ble_eq_true rfl) d_T_sort_10 (fun r5 N3 hq4 => ?_)
  obtain ⟨hk8, v7, rfl, zv7⟩ := hq4
  have hn6 : zMod B [] M N3 := hm.call hk8 (by decide)
  show zW l m_T_sort (zn M + 0, zw M + 0) N3 13 [some (.ref q), some (.int x0), some (.int x1), some (.ref r2), none] [.int v7] (zqI B M [])
  refine zw_if_ne (pc := 13) (tgt := 18) (by decide) d_T_sort_13 (fun hc_13 => ?_) (fun hc_13 => ?_)
  · refine zw_aload_n (pc := 18) (n := 3) (x := r2) rfl d_T_sort_18 ?_
    obtain ⟨r10, r10f, r10B, r10k⟩ := hT.1 r2 6 4 r2B r2k (by decide) (by decide) rfl
    refine zc_getF hn6 (pc := 19) f_T_146 rfl r2k r10f d_T_sort_19 ?_
    refine zw_iload_n (pc := 22) (n := 1) (x := x0) rfl d_T_sort_22 ?_
    refine zc_callV hn6 (pc := 23) [.int x0] [] l_T_118 (c_IntRow_at l B N3 (hT.mod hn6) r10 r10B (hn6.k r10k) x0) rfl rfl r10k (by decide) (by decide) (Nat.le_of_ble_eq_true rfl) d_T_sort_23 (fun r13 N11 hq12 => ?_)
    obtain ⟨hk16, v15, rfl⟩ := hq12
    have hn14 : zMod B [] M N11 := hn6.call hk16 (by decide)
    show zW l m_T_sort (zn M + 0, zw M + 0) N11 26 [some (.ref q), some (.int x0), some (.int x1), some (.ref r2), none] [.int v15] (zqI B M [])
    refine zw_istore (pc := 26) (i := 4) (L2 := [some (.ref q), some (.int x0), some (.int x1), some (.ref r2), some (.int v15)]) (by decide) rfl d_T_sort_26 ?_
    refine zw_iload_n (pc := 28) (n := 2) (x := x1) rfl d_T_sort_28 ?_
    by_cases hs_29_0 : x1 = 0
    · refine zw_tabIn (pc := 29) (x := x1) (off := 39) (tgt := 68) (by rw [hs_29_0]; decide) (by rw [hs_29_0]; decide) (by rw [hs_29_0]; rfl) (by decide) d_T_sort_29 ?_
      refine zw_iload (pc := 68) (i := 4) (x := v15) rfl d_T_sort_68 ?_
      refine zc_callS hn14 (pc := 70) [.int v15] [] l_T_149 (c_Integer_bitCount l B N11 (hT.mod hn14) v15) rfl rfl (by decide) (Nat.le_of_ble_eq_true rfl) d_T_sort_70 (fun r20 N18 hq19 => ?_)
      obtain ⟨hq19, ex24⟩ := hq19
      obtain ⟨hk23, v22, rfl⟩ := hq19
      have hn21 : zMod B [] M N18 := hn14.call hk23 (by decide)
      show zW l m_T_sort (zn M + 0, zw M + 0) N18 73 [some (.ref q), some (.int x0), some (.int x1), some (.ref r2), some (.int v15)] [.int v22] (zqI B M [])
      exact zw_iret (S := []) (pc := 73) (ty := .int) rfl rfl d_T_sort_73 ⟨hn21, _, rfl⟩
    by_cases hs_29_1 : x1 = 1
    · refine zw_tabIn (pc := 29) (x := x1) (off := 45) (tgt := 74) (by rw [hs_29_1]; decide) (by rw [hs_29_1]; decide) (by rw [hs_29_1]; rfl) (by decide) d_T_sort_29 ?_
      refine zw_aload_n (pc := 74) (n := 3) (x := r2) rfl d_T_sort_74 ?_
      refine zw_iload_n (pc := 75) (n := 1) (x := x0) rfl d_T_sort_75 ?_
      refine zc_callV hn14 (pc := 76) [.int x0] [] l_T_154 (c_Sorts_countOf l B N11 (hT.mod hn14) r2 r2B (hn14.k r2k) x0) rfl rfl r2k (by decide) (by decide) (Nat.le_of_ble_eq_true rfl) d_T_sort_76 (fun r27 N25 hq26 => ?_)
      obtain ⟨hk30, v29, rfl⟩ := hq26
      have hn28 : zMod B [] M N25 := hn14.call hk30 (by decide)
      show zW l m_T_sort (zn M + 0, zw M + 0) N25 79 [some (.ref q), some (.int x0), some (.int x1), some (.ref r2), some (.int v15)] [.int v29] (zqI B M [])
      exact zw_iret (S := []) (pc := 79) (ty := .int) rfl rfl d_T_sort_79 ⟨hn28, _, rfl⟩
    by_cases hs_29_2 : x1 = 2
    · refine zw_tabIn (pc := 29) (x := x1) (off := 51) (tgt := 80) (by rw [hs_29_2]; decide) (by rw [hs_29_2]; decide) (by rw [hs_29_2]; rfl) (by decide) d_T_sort_29 ?_
      refine zw_iload (pc := 80) (i := 4) (x := v15) rfl d_T_sort_80 ?_
      exact zw_iret (S := []) (pc := 82) (ty := .int) rfl rfl d_T_sort_82 ⟨hn14, _, rfl⟩
    by_cases hs_29_3 : x1 = 3
    · refine zw_tabIn (pc := 29) (x := x1) (off := 54) (tgt := 83) (by rw [hs_29_3]; decide) (by rw [hs_29_3]; decide) (by rw [hs_29_3]; rfl) (by decide) d_T_sort_29 ?_
      refine zw_aload_n (pc := 83) (n := 0) (x := q) rfl d_T_sort_83 ?_
      refine zc_getF hn14 (pc := 84) f_T_28 rfl hqk r1f d_T_sort_84 ?_
      obtain ⟨r32, r32f, r32B, r32k⟩ := hT.1 r1 4 0 r1B r1k (by decide) (by decide) rfl
      refine zc_getF hn14 (pc := 87) f_T_61 rfl r1k r32f d_T_sort_87 ?_
      refine zw_iload (pc := 90) (i := 4) (x := v15) rfl d_T_sort_90 ?_
      refine zc_callV hn14 (pc := 92) [.int v15] [] l_T_157 (c_Group_normOf l B N11 (hT.mod hn14) r32 r32B (hn14.k r32k) v15) rfl rfl r32k (by decide) (by decide) (Nat.le_of_ble_eq_true rfl) d_T_sort_92 (fun r35 N33 hq34 => ?_)
      obtain ⟨hk38, v37, rfl⟩ := hq34
      have hn36 : zMod B [] M N33 := hn14.call hk38 (by decide)
      show zW l m_T_sort (zn M + 0, zw M + 0) N33 95 [some (.ref q), some (.int x0), some (.int x1), some (.ref r2), some (.int v15)] [.int v37] (zqI B M [])
      refine zc_callS hn36 (pc := 95) [.int v37] [] l_T_149 (c_Integer_bitCount l B N33 (hT.mod hn36) v37) rfl rfl (by decide) (Nat.le_of_ble_eq_true rfl) d_T_sort_95 (fun r42 N40 hq41 => ?_)
      obtain ⟨hq41, ex46⟩ := hq41
      obtain ⟨hk45, v44, rfl⟩ := hq41
      have hn43 : zMod B [] M N40 := hn36.call hk45 (by decide)
      show zW l m_T_sort (zn M + 0, zw M + 0) N40 98 [some (.ref q), some (.int x0), some (.int x1), some (.ref r2), some (.int v15)] [.int v44] (zqI B M [])
      exact zw_iret (S := []) (pc := 98) (ty := .int) rfl rfl d_T_sort_98 ⟨hn43, _, rfl⟩
    by_cases hs_29_4 : x1 = 4
    · refine zw_tabIn (pc := 29) (x := x1) (off := 70) (tgt := 99) (by rw [hs_29_4]; decide) (by rw [hs_29_4]; decide) (by rw [hs_29_4]; rfl) (by decide) d_T_sort_29 ?_
      refine zw_aload_n (pc := 99) (n := 0) (x := q) rfl d_T_sort_99 ?_
      refine zc_getF hn14 (pc := 100) f_T_28 rfl hqk r1f d_T_sort_100 ?_
      obtain ⟨r47, r47f, r47B, r47k⟩ := hT.1 r1 4 0 r1B r1k (by decide) (by decide) rfl
      refine zc_getF hn14 (pc := 103) f_T_61 rfl r1k r47f d_T_sort_103 ?_
      refine zw_iload (pc := 106) (i := 4) (x := v15) rfl d_T_sort_106 ?_
      refine zc_callV hn14 (pc := 108) [.int v15] [] l_T_160 (c_Group_isMadeByOne l B N11 (hT.mod hn14) r47 r47B (hn14.k r47k) v15) rfl rfl r47k (by decide) (by decide) (Nat.le_of_ble_eq_true rfl) d_T_sort_108 (fun r50 N48 hq49 => ?_)
      obtain ⟨hk53, v52, rfl, zv52⟩ := hq49
      have hn51 : zMod B [] M N48 := hn14.call hk53 (by decide)
      show zW l m_T_sort (zn M + 0, zw M + 0) N48 111 [some (.ref q), some (.int x0), some (.int x1), some (.ref r2), some (.int v15)] [.int v52] (zqI B M [])
      refine zw_if_eq (pc := 111) (tgt := 118) (by decide) d_T_sort_111 (fun hc_111 => ?_) (fun hc_111 => ?_)
      · refine zw_iconst (pc := 118) (v := 0) (by decide) d_T_sort_118 ?_
        exact zw_iret (S := []) (pc := 119) (ty := .int) rfl rfl d_T_sort_119 ⟨hn51, _, rfl⟩
      · refine zw_iconst (pc := 114) (v := 1) (by decide) d_T_sort_114 ?_
        refine zw_goto (pc := 115) (tgt := 119) (by decide) d_T_sort_115 ?_
        exact zw_iret (S := []) (pc := 119) (ty := .int) rfl rfl d_T_sort_119 ⟨hn51, _, rfl⟩
    by_cases hs_29_5 : x1 = 5
    · refine zw_tabIn (pc := 29) (x := x1) (off := 91) (tgt := 120) (by rw [hs_29_5]; decide) (by rw [hs_29_5]; decide) (by rw [hs_29_5]; rfl) (by decide) d_T_sort_29 ?_
      refine zw_aload_n (pc := 120) (n := 0) (x := q) rfl d_T_sort_120 ?_
      refine zc_getF hn14 (pc := 121) f_T_28 rfl hqk r1f d_T_sort_121 ?_
      obtain ⟨r55, r55f, r55B, r55k⟩ := hT.1 r1 4 0 r1B r1k (by decide) (by decide) rfl
      refine zc_getF hn14 (pc := 124) f_T_61 rfl r1k r55f d_T_sort_124 ?_
      refine zw_iload (pc := 127) (i := 4) (x := v15) rfl d_T_sort_127 ?_
      refine zc_callV hn14 (pc := 129) [.int v15] [] l_T_101 (c_Group_isCommuting l B N11 (hT.mod hn14) r55 r55B (hn14.k r55k) v15) rfl rfl r55k (by decide) (by decide) (Nat.le_of_ble_eq_true rfl) d_T_sort_129 (fun r58 N56 hq57 => ?_)
      obtain ⟨hk61, v60, rfl, zv60⟩ := hq57
      have hn59 : zMod B [] M N56 := hn14.call hk61 (by decide)
      show zW l m_T_sort (zn M + 0, zw M + 0) N56 132 [some (.ref q), some (.int x0), some (.int x1), some (.ref r2), some (.int v15)] [.int v60] (zqI B M [])
      refine zw_if_eq (pc := 132) (tgt := 139) (by decide) d_T_sort_132 (fun hc_132 => ?_) (fun hc_132 => ?_)
      · refine zw_iconst (pc := 139) (v := 0) (by decide) d_T_sort_139 ?_
        exact zw_iret (S := []) (pc := 140) (ty := .int) rfl rfl d_T_sort_140 ⟨hn59, _, rfl⟩
      · refine zw_iconst (pc := 135) (v := 1) (by decide) d_T_sort_135 ?_
        refine zw_goto (pc := 136) (tgt := 140) (by decide) d_T_sort_136 ?_
        exact zw_iret (S := []) (pc := 140) (ty := .int) rfl rfl d_T_sort_140 ⟨hn59, _, rfl⟩
    refine zw_tabOut (pc := 29) (x := x1) (tgt := 141) (z_out6 hs_29_0 hs_29_1 hs_29_2 hs_29_3 hs_29_4 hs_29_5) (by decide) d_T_sort_29 ?_
    refine zw_iconst (pc := 141) (v := (-1)) (by decide) d_T_sort_141 ?_
    exact zw_iret (S := []) (pc := 142) (ty := .int) rfl rfl d_T_sort_142 ⟨hn14, _, rfl⟩
  · refine zw_iconst (pc := 16) (v := (-1)) (by decide) d_T_sort_16 ?_
    exact zw_iret (S := []) (pc := 17) (ty := .int) rfl rfl d_T_sort_17 ⟨hn6, _, rfl⟩
set_option maxHeartbeats 4000000 in
theorem c_T_within (l : Launch) (B : Nat) (M : zMem) (hT : zTy B M) (q : Nat) (hqB : q < B) (hqk : (zsh M q).1 = 0 + 3) (x0 : Int32) (x1 : Int32) : zC l m_T_within 0 0 [.ref q, .int x0, .int x1] M (zqI B M []) := by
  refine zC_of (L0 := [some (.ref q), some (.int x0), some (.int x1)]) md_T_within (Nat.le_of_ble_eq_true rfl) rfl ?_ zQ0
  have hm : zMod B [] M M := zMod.rf
  refine zw_aload_n (pc := 0) (n := 0) (x := q) rfl d_T_within_0 ?_
  obtain ⟨r1, r1f, r1B, r1k⟩ := hT.1 q 0 2 hqB hqk (by decide) (by decide) rfl
  refine zc_getF hm (pc := 1) f_T_28 rfl hqk r1f d_T_within_1 ?_
  obtain ⟨r2, r2f, r2B, r2k⟩ := hT.1 r1 4 1 r1B r1k (by decide) (by decide) rfl
  refine zc_getF hm (pc := 4) f_T_85 rfl r1k r2f d_T_within_4 ?_
  refine zw_iload_n (pc := 7) (n := 1) (x := x0) rfl d_T_within_7 ?_
  refine zc_callV hm (pc := 8) [.int x0] [] l_T_143 (c_Sorts_hasSort l B M (hT.mod hm) r2 r2B (hm.k r2k) x0) rfl rfl r2k (by decide) (by decide) (Nat.le_of_ble_eq_true rfl) d_T_within_8 (fun r5 N3 hq4 => ?_)
  obtain ⟨hk8, v7, rfl, zv7⟩ := hq4
  have hn6 : zMod B [] M N3 := hm.call hk8 (by decide)
  show zW l m_T_within (zn M + 0, zw M + 0) N3 11 [some (.ref q), some (.int x0), some (.int x1)] [.int v7] (zqI B M [])
  refine zw_if_eq (pc := 11) (tgt := 43) (by decide) d_T_within_11 (fun hc_11 => ?_) (fun hc_11 => ?_)
  · refine zw_iconst (pc := 43) (v := (-1)) (by decide) d_T_within_43 ?_
    exact zw_iret (S := []) (pc := 44) (ty := .int) rfl rfl d_T_within_44 ⟨hn6, _, rfl⟩
  · refine zw_aload_n (pc := 14) (n := 0) (x := q) rfl d_T_within_14 ?_
    refine zc_getF hn6 (pc := 15) f_T_28 rfl hqk r1f d_T_within_15 ?_
    refine zc_getF hn6 (pc := 18) f_T_85 rfl r1k r2f d_T_within_18 ?_
    refine zw_iload_n (pc := 21) (n := 2) (x := x1) rfl d_T_within_21 ?_
    refine zc_callV hn6 (pc := 22) [.int x1] [] l_T_143 (c_Sorts_hasSort l B N3 (hT.mod hn6) r2 r2B (hn6.k r2k) x1) rfl rfl r2k (by decide) (by decide) (Nat.le_of_ble_eq_true rfl) d_T_within_22 (fun r12 N10 hq11 => ?_)
    obtain ⟨hk15, v14, rfl, zv14⟩ := hq11
    have hn13 : zMod B [] M N10 := hn6.call hk15 (by decide)
    show zW l m_T_within (zn M + 0, zw M + 0) N10 25 [some (.ref q), some (.int x0), some (.int x1)] [.int v14] (zqI B M [])
    refine zw_if_eq (pc := 25) (tgt := 43) (by decide) d_T_within_25 (fun hc_25 => ?_) (fun hc_25 => ?_)
    · refine zw_iconst (pc := 43) (v := (-1)) (by decide) d_T_within_43 ?_
      exact zw_iret (S := []) (pc := 44) (ty := .int) rfl rfl d_T_within_44 ⟨hn13, _, rfl⟩
    · refine zw_aload_n (pc := 28) (n := 0) (x := q) rfl d_T_within_28 ?_
      refine zc_getF hn13 (pc := 29) f_T_28 rfl hqk r1f d_T_within_29 ?_
      refine zc_getF hn13 (pc := 32) f_T_85 rfl r1k r2f d_T_within_32 ?_
      refine zw_iload_n (pc := 35) (n := 1) (x := x0) rfl d_T_within_35 ?_
      refine zw_iload_n (pc := 36) (n := 2) (x := x1) rfl d_T_within_36 ?_
      refine zc_callV hn13 (pc := 37) [.int x0, .int x1] [] l_T_163 (c_Sorts_countWithin l B N10 (hT.mod hn13) r2 r2B (hn13.k r2k) x0 x1) rfl rfl r2k (by decide) (by decide) (Nat.le_of_ble_eq_true rfl) d_T_within_37 (fun r19 N17 hq18 => ?_)
      obtain ⟨hk22, v21, rfl⟩ := hq18
      have hn20 : zMod B [] M N17 := hn13.call hk22 (by decide)
      show zW l m_T_within (zn M + 0, zw M + 0) N17 40 [some (.ref q), some (.int x0), some (.int x1)] [.int v21] (zqI B M [])
      refine zw_goto (pc := 40) (tgt := 44) (by decide) d_T_within_40 ?_
      exact zw_iret (S := []) (pc := 44) (ty := .int) rfl rfl d_T_within_44 ⟨hn20, _, rfl⟩
set_option maxHeartbeats 4000000 in
theorem c_T_mark (l : Launch) (B : Nat) (M : zMem) (hT : zTy B M) (q : Nat) (hqB : q < B) (hqk : (zsh M q).1 = 0 + 3) (x0 : Int32) (x1 : Int32) : zC l m_T_mark 0 0 [.ref q, .int x0, .int x1] M (zqI B M []) := by
  refine zC_of (L0 := [some (.ref q), some (.int x0), some (.int x1)]) md_T_mark (Nat.le_of_ble_eq_true rfl) rfl ?_ zQ0
  have hm : zMod B [] M M := zMod.rf
  refine zw_aload_n (pc := 0) (n := 0) (x := q) rfl d_T_mark_0 ?_
  obtain ⟨r1, r1f, r1B, r1k⟩ := hT.1 q 0 2 hqB hqk (by decide) (by decide) rfl
  refine zc_getF hm (pc := 1) f_T_28 rfl hqk r1f d_T_mark_1 ?_
  obtain ⟨r2, r2f, r2B, r2k⟩ := hT.1 r1 4 1 r1B r1k (by decide) (by decide) rfl
  refine zc_getF hm (pc := 4) f_T_85 rfl r1k r2f d_T_mark_4 ?_
  refine zw_iload_n (pc := 7) (n := 1) (x := x0) rfl d_T_mark_7 ?_
  refine zc_callV hm (pc := 8) [.int x0] [] l_T_143 (c_Sorts_hasSort l B M (hT.mod hm) r2 r2B (hm.k r2k) x0) rfl rfl r2k (by decide) (by decide) (Nat.le_of_ble_eq_true rfl) d_T_mark_8 (fun r5 N3 hq4 => ?_)
  obtain ⟨hk8, v7, rfl, zv7⟩ := hq4
  have hn6 : zMod B [] M N3 := hm.call hk8 (by decide)
  show zW l m_T_mark (zn M + 0, zw M + 0) N3 11 [some (.ref q), some (.int x0), some (.int x1)] [.int v7] (zqI B M [])
  refine zw_if_eq (pc := 11) (tgt := 43) (by decide) d_T_mark_11 (fun hc_11 => ?_) (fun hc_11 => ?_)
  · refine zw_iconst (pc := 43) (v := (-1)) (by decide) d_T_mark_43 ?_
    exact zw_iret (S := []) (pc := 44) (ty := .int) rfl rfl d_T_mark_44 ⟨hn6, _, rfl⟩
  · refine zw_aload_n (pc := 14) (n := 0) (x := q) rfl d_T_mark_14 ?_
    refine zc_getF hn6 (pc := 15) f_T_28 rfl hqk r1f d_T_mark_15 ?_
    refine zc_getF hn6 (pc := 18) f_T_85 rfl r1k r2f d_T_mark_18 ?_
    refine zw_iload_n (pc := 21) (n := 2) (x := x1) rfl d_T_mark_21 ?_
    refine zc_callV hn6 (pc := 22) [.int x1] [] l_T_143 (c_Sorts_hasSort l B N3 (hT.mod hn6) r2 r2B (hn6.k r2k) x1) rfl rfl r2k (by decide) (by decide) (Nat.le_of_ble_eq_true rfl) d_T_mark_22 (fun r12 N10 hq11 => ?_)
    obtain ⟨hk15, v14, rfl, zv14⟩ := hq11
    have hn13 : zMod B [] M N10 := hn6.call hk15 (by decide)
    show zW l m_T_mark (zn M + 0, zw M + 0) N10 25 [some (.ref q), some (.int x0), some (.int x1)] [.int v14] (zqI B M [])
    refine zw_if_eq (pc := 25) (tgt := 43) (by decide) d_T_mark_25 (fun hc_25 => ?_) (fun hc_25 => ?_)
    · refine zw_iconst (pc := 43) (v := (-1)) (by decide) d_T_mark_43 ?_
      exact zw_iret (S := []) (pc := 44) (ty := .int) rfl rfl d_T_mark_44 ⟨hn13, _, rfl⟩
    · refine zw_aload_n (pc := 28) (n := 0) (x := q) rfl d_T_mark_28 ?_
      refine zc_getF hn13 (pc := 29) f_T_28 rfl hqk r1f d_T_mark_29 ?_
      refine zc_getF hn13 (pc := 32) f_T_85 rfl r1k r2f d_T_mark_32 ?_
      refine zw_iload_n (pc := 35) (n := 1) (x := x0) rfl d_T_mark_35 ?_
      refine zw_iload_n (pc := 36) (n := 2) (x := x1) rfl d_T_mark_36 ?_
      refine zc_callV hn13 (pc := 37) [.int x0, .int x1] [] l_T_166 (c_Sorts_markAt l B N10 (hT.mod hn13) r2 r2B (hn13.k r2k) x0 x1) rfl rfl r2k (by decide) (by decide) (Nat.le_of_ble_eq_true rfl) d_T_mark_37 (fun r19 N17 hq18 => ?_)
      obtain ⟨hk22, v21, rfl⟩ := hq18
      have hn20 : zMod B [] M N17 := hn13.call hk22 (by decide)
      show zW l m_T_mark (zn M + 0, zw M + 0) N17 40 [some (.ref q), some (.int x0), some (.int x1)] [.int v21] (zqI B M [])
      refine zw_goto (pc := 40) (tgt := 44) (by decide) d_T_mark_40 ?_
      exact zw_iret (S := []) (pc := 44) (ty := .int) rfl rfl d_T_mark_44 ⟨hn20, _, rfl⟩
set_option maxHeartbeats 4000000 in
theorem c_Sums_putProduct (l : Launch) (B : Nat) (M : zMem) (hT : zTy B M) (q : Nat) (hqB : q < B) (hqk : (zsh M q).1 = 7 + 3) (x0 : Int32) (x1 : Int32) : zC l m_Sums_putProduct 0 0 [.ref q, .int x0, .int x1] M (zqV B M []) := by
  refine zC_of (L0 := [some (.ref q), some (.int x0), some (.int x1), none]) md_Sums_putProduct (Nat.le_of_ble_eq_true rfl) rfl ?_ zQ0
  have hm : zMod B [] M M := zMod.rf
  refine zw_iconst (pc := 0) (v := 0) (by decide) d_Sums_putProduct_0 ?_
  refine zw_istore_n (pc := 1) (i := 3) (L2 := [some (.ref q), some (.int x0), some (.int x1), some (.int 0)]) rfl (by decide) rfl d_Sums_putProduct_1 ?_
  obtain ⟨r4, r4f, r4B, r4k⟩ := hT.1 q 7 0 hqB hqk (by decide) (by decide) rfl
  have lp_2 : ∀ (n : Nat) (u1 : Int32) (N2 : zMem) (hn3 : zMod B [] M N2), zvu u1 (zi M r4 7) < n → zW l m_Sums_putProduct (zn M + 0, zw M + 0) N2 2 [some (.ref q), some (.int x0), some (.int x1), some (.int u1)] [] (zqV B M []) := by
    intro n
    induction n with
    | zero =>
      intro u1 N2 hn3 h0
      exact absurd h0 (Nat.not_lt_zero _)
    | succ n ih_2 =>
      intro u1 N2 hn3 hlt_2
      refine zw_iload_n (pc := 2) (n := 3) (x := u1) rfl d_Sums_putProduct_2 ?_
      refine zw_aload_n (pc := 3) (n := 0) (x := q) rfl d_Sums_putProduct_3 ?_
      refine zc_getF hn3 (pc := 4) f_Sums_23 rfl hqk r4f d_Sums_putProduct_4 ?_
      refine zc_getI0 hn3 (pc := 7) (by decide) f_Sums_35 rfl r4k d_Sums_putProduct_7 ?_
      refine zw_icmp_ge (pc := 10) (tgt := 48) (by decide) d_Sums_putProduct_10 (fun hc_10 => ?_) (fun hc_10 => ?_)
      · refine zw_aload_n (pc := 48) (n := 0) (x := q) rfl d_Sums_putProduct_48 ?_
        refine zw_bipush (pc := 49) (v := 39) (by decide) d_Sums_putProduct_49 ?_
        refine zc_callV hn3 (pc := 51) [.int 39] [] l_Sums_58 (c_Sums_solve l B N2 (hT.mod hn3) q hqB (hn3.k hqk) 39) rfl rfl hqk (by decide) (by decide) (Nat.le_of_ble_eq_true rfl) d_Sums_putProduct_51 (fun r7 N5 hq6 => ?_)
        obtain ⟨hk10, rfl⟩ := hq6
        have hn8 : zMod B [] M N5 := hn3.call hk10 (by decide)
        show zW l m_Sums_putProduct (zn M + 0, zw M + 0) N5 54 [some (.ref q), some (.int x0), some (.int x1), some (.int u1)] [] (zqV B M [])
        exact zw_vret (S := []) (pc := 54) rfl d_Sums_putProduct_54 ⟨hn8, rfl⟩
      · refine zw_aload_n (pc := 13) (n := 0) (x := q) rfl d_Sums_putProduct_13 ?_
        obtain ⟨r12, r12f, r12B, r12k⟩ := hT.1 q 7 2 hqB hqk (by decide) (by decide) rfl
        refine zc_getF hn3 (pc := 14) f_Sums_20 rfl hqk r12f d_Sums_putProduct_14 ?_
        refine zw_iload_n (pc := 17) (n := 3) (x := u1) rfl d_Sums_putProduct_17 ?_
        refine zw_aload_n (pc := 18) (n := 0) (x := q) rfl d_Sums_putProduct_18 ?_
        refine zc_getF hn3 (pc := 19) f_Sums_23 rfl hqk r4f d_Sums_putProduct_19 ?_
        refine zw_iload_n (pc := 22) (n := 1) (x := x0) rfl d_Sums_putProduct_22 ?_
        refine zw_iload_n (pc := 23) (n := 3) (x := u1) rfl d_Sums_putProduct_23 ?_
        refine zc_callV hn3 (pc := 24) [.int x0, .int u1] [.int u1, .ref r12] l_Sums_54 (c_Sorts_markAt l B N2 (hT.mod hn3) r4 r4B (hn3.k r4k) x0 u1) rfl rfl r4k (by decide) (by decide) (Nat.le_of_ble_eq_true rfl) d_Sums_putProduct_24 (fun r15 N13 hq14 => ?_)
        obtain ⟨hk18, v17, rfl⟩ := hq14
        have hn16 : zMod B [] M N13 := hn3.call hk18 (by decide)
        show zW l m_Sums_putProduct (zn M + 0, zw M + 0) N13 27 [some (.ref q), some (.int x0), some (.int x1), some (.int u1)] [.int v17, .int u1, .ref r12] (zqV B M [])
        refine zw_i2l (pc := 27) d_Sums_putProduct_27 ?_
        refine zw_aload_n (pc := 28) (n := 0) (x := q) rfl d_Sums_putProduct_28 ?_
        refine zc_getF hn16 (pc := 29) f_Sums_23 rfl hqk r4f d_Sums_putProduct_29 ?_
        refine zw_iload_n (pc := 32) (n := 2) (x := x1) rfl d_Sums_putProduct_32 ?_
        refine zw_iload_n (pc := 33) (n := 3) (x := u1) rfl d_Sums_putProduct_33 ?_
        refine zc_callV hn16 (pc := 34) [.int x1, .int u1] [.long ((v17 : Int32).toInt64), .int u1, .ref r12] l_Sums_54 (c_Sorts_markAt l B N13 (hT.mod hn16) r4 r4B (hn16.k r4k) x1 u1) rfl rfl r4k (by decide) (by decide) (Nat.le_of_ble_eq_true rfl) d_Sums_putProduct_34 (fun r22 N20 hq21 => ?_)
        obtain ⟨hk25, v24, rfl⟩ := hq21
        have hn23 : zMod B [] M N20 := hn16.call hk25 (by decide)
        show zW l m_Sums_putProduct (zn M + 0, zw M + 0) N20 37 [some (.ref q), some (.int x0), some (.int x1), some (.int u1)] [.int v24, .long ((v17 : Int32).toInt64), .int u1, .ref r12] (zqV B M [])
        refine zw_i2l (pc := 37) d_Sums_putProduct_37 ?_
        refine zw_lmul (pc := 38) d_Sums_putProduct_38 ?_
        refine zc_callV hn23 (pc := 39) [.int u1, .long (((v17 : Int32).toInt64) * ((v24 : Int32).toInt64))] [] l_Sums_31 (c_LongRow_put l B N20 (hT.mod hn23) r12 r12B (hn23.k r12k) u1 (((v17 : Int32).toInt64) * ((v24 : Int32).toInt64))) rfl rfl r12k (by decide) (by decide) (Nat.le_of_ble_eq_true rfl) d_Sums_putProduct_39 (fun r29 N27 hq28 => ?_)
        obtain ⟨hk32, rfl⟩ := hq28
        have hn30 : zMod B [] M N27 := hn23.call hk32 (by decide)
        show zW l m_Sums_putProduct (zn M + 0, zw M + 0) N27 42 [some (.ref q), some (.int x0), some (.int x1), some (.int u1)] [] (zqV B M [])
        refine zw_iinc (pc := 42) (i := 3) (x := u1) (v := u1 + Int32.ofInt 1) (L2 := [some (.ref q), some (.int x0), some (.int x1), some (.int (u1 + Int32.ofInt 1))]) rfl rfl (by decide) rfl d_Sums_putProduct_42 ?_
        refine zw_goto (pc := 45) (tgt := 2) (by decide) d_Sums_putProduct_45 ?_
        exact ih_2 (u1 + Int32.ofInt 1) N27 hn30 (Nat.lt_of_lt_of_le (z_up hc_10) (Nat.le_of_lt_succ hlt_2))
  exact lp_2 _ 0 M hm (Nat.lt_succ_self _)
set_option maxHeartbeats 4000000 in
theorem c_T_product (l : Launch) (B : Nat) (M : zMem) (hT : zTy B M) (q : Nat) (hqB : q < B) (hqk : (zsh M q).1 = 0 + 3) (x0 : Int32) (x1 : Int32) (x2 : Int32) : zC l m_T_product 0 0 [.ref q, .int x0, .int x1, .int x2] M (zqI B M []) := by
  refine zC_of (L0 := [some (.ref q), some (.int x0), some (.int x1), some (.int x2), none]) md_T_product (Nat.le_of_ble_eq_true rfl) rfl ?_ zQ0
  have hm : zMod B [] M M := zMod.rf
  refine zw_aload_n (pc := 0) (n := 0) (x := q) rfl d_T_product_0 ?_
  obtain ⟨r1, r1f, r1B, r1k⟩ := hT.1 q 0 2 hqB hqk (by decide) (by decide) rfl
  refine zc_getF hm (pc := 1) f_T_28 rfl hqk r1f d_T_product_1 ?_
  obtain ⟨r2, r2f, r2B, r2k⟩ := hT.1 r1 4 1 r1B r1k (by decide) (by decide) rfl
  refine zc_getF hm (pc := 4) f_T_85 rfl r1k r2f d_T_product_4 ?_
  refine zw_astore (pc := 7) (i := 4) (L2 := [some (.ref q), some (.int x0), some (.int x1), some (.int x2), some (.ref r2)]) (by decide) rfl d_T_product_7 ?_
  refine zw_aload (pc := 9) (i := 4) (x := r2) rfl d_T_product_9 ?_
  refine zw_iload_n (pc := 11) (n := 1) (x := x0) rfl d_T_product_11 ?_
  refine zc_callV hm (pc := 12) [.int x0] [] l_T_143 (c_Sorts_hasSort l B M (hT.mod hm) r2 r2B (hm.k r2k) x0) rfl rfl r2k (by decide) (by decide) (Nat.le_of_ble_eq_true rfl) d_T_product_12 (fun r5 N3 hq4 => ?_)
  obtain ⟨hk8, v7, rfl, zv7⟩ := hq4
  have hn6 : zMod B [] M N3 := hm.call hk8 (by decide)
  show zW l m_T_product (zn M + 0, zw M + 0) N3 15 [some (.ref q), some (.int x0), some (.int x1), some (.int x2), some (.ref r2)] [.int v7] (zqI B M [])
  refine zw_if_eq (pc := 15) (tgt := 36) (by decide) d_T_product_15 (fun hc_15 => ?_) (fun hc_15 => ?_)
  · refine zw_iconst (pc := 36) (v := (-1)) (by decide) d_T_product_36 ?_
    exact zw_iret (S := []) (pc := 37) (ty := .int) rfl rfl d_T_product_37 ⟨hn6, _, rfl⟩
  · refine zw_aload (pc := 18) (i := 4) (x := r2) rfl d_T_product_18 ?_
    refine zw_iload_n (pc := 20) (n := 2) (x := x1) rfl d_T_product_20 ?_
    refine zc_callV hn6 (pc := 21) [.int x1] [] l_T_143 (c_Sorts_hasSort l B N3 (hT.mod hn6) r2 r2B (hn6.k r2k) x1) rfl rfl r2k (by decide) (by decide) (Nat.le_of_ble_eq_true rfl) d_T_product_21 (fun r12 N10 hq11 => ?_)
    obtain ⟨hk15, v14, rfl, zv14⟩ := hq11
    have hn13 : zMod B [] M N10 := hn6.call hk15 (by decide)
    show zW l m_T_product (zn M + 0, zw M + 0) N10 24 [some (.ref q), some (.int x0), some (.int x1), some (.int x2), some (.ref r2)] [.int v14] (zqI B M [])
    refine zw_if_eq (pc := 24) (tgt := 36) (by decide) d_T_product_24 (fun hc_24 => ?_) (fun hc_24 => ?_)
    · refine zw_iconst (pc := 36) (v := (-1)) (by decide) d_T_product_36 ?_
      exact zw_iret (S := []) (pc := 37) (ty := .int) rfl rfl d_T_product_37 ⟨hn13, _, rfl⟩
    · refine zw_aload (pc := 27) (i := 4) (x := r2) rfl d_T_product_27 ?_
      refine zw_iload_n (pc := 29) (n := 3) (x := x2) rfl d_T_product_29 ?_
      refine zc_callV hn13 (pc := 30) [.int x2] [] l_T_143 (c_Sorts_hasSort l B N10 (hT.mod hn13) r2 r2B (hn13.k r2k) x2) rfl rfl r2k (by decide) (by decide) (Nat.le_of_ble_eq_true rfl) d_T_product_30 (fun r19 N17 hq18 => ?_)
      obtain ⟨hk22, v21, rfl, zv21⟩ := hq18
      have hn20 : zMod B [] M N17 := hn13.call hk22 (by decide)
      show zW l m_T_product (zn M + 0, zw M + 0) N17 33 [some (.ref q), some (.int x0), some (.int x1), some (.int x2), some (.ref r2)] [.int v21] (zqI B M [])
      refine zw_if_ne (pc := 33) (tgt := 38) (by decide) d_T_product_33 (fun hc_33 => ?_) (fun hc_33 => ?_)
      · refine zw_aload_n (pc := 38) (n := 0) (x := q) rfl d_T_product_38 ?_
        refine zc_getF hn20 (pc := 39) f_T_28 rfl hqk r1f d_T_product_39 ?_
        obtain ⟨r24, r24f, r24B, r24k⟩ := hT.1 r1 4 2 r1B r1k (by decide) (by decide) rfl
        refine zc_getF hn20 (pc := 42) f_T_169 rfl r1k r24f d_T_product_42 ?_
        refine zw_iload_n (pc := 45) (n := 1) (x := x0) rfl d_T_product_45 ?_
        refine zw_iload_n (pc := 46) (n := 2) (x := x1) rfl d_T_product_46 ?_
        refine zc_callV hn20 (pc := 47) [.int x0, .int x1] [] l_T_173 (c_Sums_putProduct l B N17 (hT.mod hn20) r24 r24B (hn20.k r24k) x0 x1) rfl rfl r24k (by decide) (by decide) (Nat.le_of_ble_eq_true rfl) d_T_product_47 (fun r27 N25 hq26 => ?_)
        obtain ⟨hk30, rfl⟩ := hq26
        have hn28 : zMod B [] M N25 := hn20.call hk30 (by decide)
        show zW l m_T_product (zn M + 0, zw M + 0) N25 50 [some (.ref q), some (.int x0), some (.int x1), some (.int x2), some (.ref r2)] [] (zqI B M [])
        refine zw_aload_n (pc := 50) (n := 0) (x := q) rfl d_T_product_50 ?_
        refine zc_getF hn28 (pc := 51) f_T_28 rfl hqk r1f d_T_product_51 ?_
        refine zc_getF hn28 (pc := 54) f_T_169 rfl r1k r24f d_T_product_54 ?_
        refine zw_bipush (pc := 57) (v := 39) (by decide) d_T_product_57 ?_
        refine zw_iload_n (pc := 59) (n := 3) (x := x2) rfl d_T_product_59 ?_
        refine zc_callV hn28 (pc := 60) [.int 39, .int x2] [] l_T_179 (c_Sums_numberAt l B N25 (hT.mod hn28) r24 r24B (hn28.k r24k) 39 x2) rfl rfl r24k (by decide) (by decide) (Nat.le_of_ble_eq_true rfl) d_T_product_60 (fun r34 N32 hq33 => ?_)
        obtain ⟨hk37, v36, rfl⟩ := hq33
        have hn35 : zMod B [] M N32 := hn28.call hk37 (by decide)
        show zW l m_T_product (zn M + 0, zw M + 0) N32 63 [some (.ref q), some (.int x0), some (.int x1), some (.int x2), some (.ref r2)] [.long v36] (zqI B M [])
        refine zw_l2i (pc := 63) d_T_product_63 ?_
        exact zw_iret (S := []) (pc := 64) (ty := .int) rfl rfl d_T_product_64 ⟨hn35, _, rfl⟩
      · refine zw_iconst (pc := 36) (v := (-1)) (by decide) d_T_product_36 ?_
        exact zw_iret (S := []) (pc := 37) (ty := .int) rfl rfl d_T_product_37 ⟨hn20, _, rfl⟩
set_option maxHeartbeats 4000000 in
theorem c_T_isPrime (l : Launch) (B : Nat) (M : zMem) (hT : zTy B M) (x0 : Int32) : zC l m_T_isPrime 0 0 [.int x0] M (fun r M2 => (zqZ B M []) r M2 ∧ ∀ v, r = some (.int v) → v = 1 → (x0 = 2 ∨ x0 = 3 ∨ x0 = 5)) := by
  refine zC_of (L0 := [some (.int x0)]) md_T_isPrime (Nat.le_of_ble_eq_true rfl) rfl ?_ zQ0
  have hm : zMod B [] M M := zMod.rf
  refine zw_iload_n (pc := 0) (n := 0) (x := x0) rfl d_T_isPrime_0 ?_
  refine zw_iconst (pc := 1) (v := 2) (by decide) d_T_isPrime_1 ?_
  refine zw_icmp_eq (pc := 2) (tgt := 15) (by decide) d_T_isPrime_2 (fun hc_2 => ?_) (fun hc_2 => ?_)
  · refine zw_iconst (pc := 15) (v := 1) (by decide) d_T_isPrime_15 ?_
    refine zw_goto (pc := 16) (tgt := 20) (by decide) d_T_isPrime_16 ?_
    exact zw_iret (S := []) (pc := 20) (ty := .boolean) rfl (z_narZ (Or.inr rfl)) d_T_isPrime_20 ⟨⟨hm, _, rfl, Or.inr rfl⟩, fun v hv h1 => Or.inl hc_2⟩
  · refine zw_iload_n (pc := 5) (n := 0) (x := x0) rfl d_T_isPrime_5 ?_
    refine zw_iconst (pc := 6) (v := 3) (by decide) d_T_isPrime_6 ?_
    refine zw_icmp_eq (pc := 7) (tgt := 15) (by decide) d_T_isPrime_7 (fun hc_7 => ?_) (fun hc_7 => ?_)
    · refine zw_iconst (pc := 15) (v := 1) (by decide) d_T_isPrime_15 ?_
      refine zw_goto (pc := 16) (tgt := 20) (by decide) d_T_isPrime_16 ?_
      exact zw_iret (S := []) (pc := 20) (ty := .boolean) rfl (z_narZ (Or.inr rfl)) d_T_isPrime_20 ⟨⟨hm, _, rfl, Or.inr rfl⟩, fun v hv h1 => Or.inr (Or.inl hc_7)⟩
    · refine zw_iload_n (pc := 10) (n := 0) (x := x0) rfl d_T_isPrime_10 ?_
      refine zw_iconst (pc := 11) (v := 5) (by decide) d_T_isPrime_11 ?_
      refine zw_icmp_ne (pc := 12) (tgt := 19) (by decide) d_T_isPrime_12 (fun hc_12 => ?_) (fun hc_12 => ?_)
      · refine zw_iconst (pc := 19) (v := 0) (by decide) d_T_isPrime_19 ?_
        exact zw_iret (S := []) (pc := 20) (ty := .boolean) rfl (z_narZ (Or.inl rfl)) d_T_isPrime_20 ⟨⟨hm, _, rfl, Or.inl rfl⟩, fun v hv h1 => by cases hv; exact absurd h1 (by decide)⟩
      · refine zw_iconst (pc := 15) (v := 1) (by decide) d_T_isPrime_15 ?_
        refine zw_goto (pc := 16) (tgt := 20) (by decide) d_T_isPrime_16 ?_
        exact zw_iret (S := []) (pc := 20) (ty := .boolean) rfl (z_narZ (Or.inr rfl)) d_T_isPrime_20 ⟨⟨hm, _, rfl, Or.inr rfl⟩, fun v hv h1 => Or.inr (Or.inr hc_12)⟩
set_option maxHeartbeats 4000000 in
theorem c_Sorts_isPowerApart (l : Launch) (B : Nat) (M : zMem) (hT : zTy B M) (x0 : Int32) (x1 : Int32) (x2 : Int32) (hx : x1.toInt ≤ 63) (hp : x2 = 2 ∨ x2 = 3 ∨ x2 = 5) : zC l m_Sorts_isPowerApart 0 0 [.int x0, .int x1, .int x2] M (zqZ B M []) := by
  refine zC_of (L0 := [some (.int x0), some (.int x1), some (.int x2), none]) md_Sorts_isPowerApart (Nat.le_of_ble_eq_true rfl) rfl ?_ zQ0
  have hm : zMod B [] M M := zMod.rf
  refine zw_iload_n (pc := 0) (n := 0) (x := x0) rfl d_Sorts_isPowerApart_0 ?_
  refine zw_istore_n (pc := 1) (i := 3) (L2 := [some (.int x0), some (.int x1), some (.int x2), some (.int x0)]) rfl (by decide) rfl d_Sorts_isPowerApart_1 ?_
  have lp_2 : ∀ (n : Nat) (u1 : Int32) (N2 : zMem) (hn3 : zMod B [] M N2), zvu u1 x1 < n → zW l m_Sorts_isPowerApart (zn M + 0, zw M + 0) N2 2 [some (.int x0), some (.int x1), some (.int x2), some (.int u1)] [] (zqZ B M []) := by
    intro n
    induction n with
    | zero =>
      intro u1 N2 hn3 h0
      exact absurd h0 (Nat.not_lt_zero _)
    | succ n ih_2 =>
      intro u1 N2 hn3 hlt_2
      refine zw_iload_n (pc := 2) (n := 3) (x := u1) rfl d_Sorts_isPowerApart_2 ?_
      have j_23 : ∀ (N4 : zMem) (hn5 : zMod B [] M N4), zW l m_Sorts_isPowerApart (zn M + 0, zw M + 0) N4 23 [some (.int x0), some (.int x1), some (.int x2), some (.int u1)] [] (zqZ B M []) := by
        intro N4 hn5
        refine zw_iload_n (pc := 23) (n := 3) (x := u1) rfl d_Sorts_isPowerApart_23 ?_
        refine zw_iload_n (pc := 24) (n := 1) (x := x1) rfl d_Sorts_isPowerApart_24 ?_
        refine zw_icmp_ne (pc := 25) (tgt := 32) (by decide) d_Sorts_isPowerApart_25 (fun hc_25 => ?_) (fun hc_25 => ?_)
        · refine zw_iconst (pc := 32) (v := 0) (by decide) d_Sorts_isPowerApart_32 ?_
          exact zw_iret (S := []) (pc := 33) (ty := .boolean) rfl (z_narZ (Or.inl rfl)) d_Sorts_isPowerApart_33 ⟨hn5, _, rfl, Or.inl rfl⟩
        · refine zw_iconst (pc := 28) (v := 1) (by decide) d_Sorts_isPowerApart_28 ?_
          refine zw_goto (pc := 29) (tgt := 33) (by decide) d_Sorts_isPowerApart_29 ?_
          exact zw_iret (S := []) (pc := 33) (ty := .boolean) rfl (z_narZ (Or.inr rfl)) d_Sorts_isPowerApart_33 ⟨hn5, _, rfl, Or.inr rfl⟩
      refine zw_if_le (pc := 3) (tgt := 23) (by decide) d_Sorts_isPowerApart_3 (fun hc_3 => ?_) (fun hc_3 => ?_)
      · exact j_23 N2 hn3
      · refine zw_iload_n (pc := 6) (n := 3) (x := u1) rfl d_Sorts_isPowerApart_6 ?_
        refine zw_iload_n (pc := 7) (n := 1) (x := x1) rfl d_Sorts_isPowerApart_7 ?_
        refine zw_icmp_ge (pc := 8) (tgt := 23) (by decide) d_Sorts_isPowerApart_8 (fun hc_8 => ?_) (fun hc_8 => ?_)
        · exact j_23 N2 hn3
        · refine zw_iload_n (pc := 11) (n := 2) (x := x2) rfl d_Sorts_isPowerApart_11 ?_
          refine zw_iconst (pc := 12) (v := 1) (by decide) d_Sorts_isPowerApart_12 ?_
          refine zw_icmp_le (pc := 13) (tgt := 23) (by decide) d_Sorts_isPowerApart_13 (fun hc_13 => ?_) (fun hc_13 => ?_)
          · exact j_23 N2 hn3
          · refine zw_iload_n (pc := 16) (n := 3) (x := u1) rfl d_Sorts_isPowerApart_16 ?_
            refine zw_iload_n (pc := 17) (n := 2) (x := x2) rfl d_Sorts_isPowerApart_17 ?_
            refine zw_imul (pc := 18) d_Sorts_isPowerApart_18 ?_
            refine zw_istore_n (pc := 19) (i := 3) (L2 := [some (.int x0), some (.int x1), some (.int x2), some (.int (u1 * x2))]) rfl (by decide) rfl d_Sorts_isPowerApart_19 ?_
            refine zw_goto (pc := 20) (tgt := 2) (by decide) d_Sorts_isPowerApart_20 ?_
            exact ih_2 (u1 * x2) N2 hn3 (Nat.lt_of_lt_of_le (z_mulup hc_3 hc_8 hx hp) (Nat.le_of_lt_succ hlt_2))
  exact lp_2 _ x0 M hm (Nat.lt_succ_self _)
set_option maxHeartbeats 4000000 in
theorem c_Sorts_residueOf (l : Launch) (B : Nat) (M : zMem) (hT : zTy B M) (q : Nat) (hqB : q < B) (hqk : (zsh M q).1 = 6 + 3) (x0 : Int32) (x1 : Int32) (hp : x1 = 2 ∨ x1 = 3 ∨ x1 = 5) : zC l m_Sorts_residueOf 0 0 [.ref q, .int x0, .int x1] M (zqI B M []) := by
  refine zC_of (L0 := [some (.ref q), some (.int x0), some (.int x1), none, none, none]) md_Sorts_residueOf (Nat.le_of_ble_eq_true rfl) rfl ?_ zQ0
  have hm : zMod B [] M M := zMod.rf
  refine zw_aload_n (pc := 0) (n := 0) (x := q) rfl d_Sorts_residueOf_0 ?_
  obtain ⟨r1, r1f, r1B, r1k⟩ := hT.1 q 6 4 hqB hqk (by decide) (by decide) rfl
  refine zc_getF hm (pc := 1) f_Sorts_26 rfl hqk r1f d_Sorts_residueOf_1 ?_
  refine zw_iload_n (pc := 4) (n := 1) (x := x0) rfl d_Sorts_residueOf_4 ?_
  refine zc_callV hm (pc := 5) [.int x0] [] l_Sorts_49 (c_IntRow_at l B M (hT.mod hm) r1 r1B (hm.k r1k) x0) rfl rfl r1k (by decide) (by decide) (Nat.le_of_ble_eq_true rfl) d_Sorts_residueOf_5 (fun r4 N2 hq3 => ?_)
  obtain ⟨hk7, v6, rfl⟩ := hq3
  have hn5 : zMod B [] M N2 := hm.call hk7 (by decide)
  show zW l m_Sorts_residueOf (zn M + 0, zw M + 0) N2 8 [some (.ref q), some (.int x0), some (.int x1), none, none, none] [.int v6] (zqI B M [])
  refine zw_istore_n (pc := 8) (i := 3) (L2 := [some (.ref q), some (.int x0), some (.int x1), some (.int v6), none, none]) rfl (by decide) rfl d_Sorts_residueOf_8 ?_
  refine zw_iconst (pc := 9) (v := 0) (by decide) d_Sorts_residueOf_9 ?_
  refine zw_istore (pc := 10) (i := 4) (L2 := [some (.ref q), some (.int x0), some (.int x1), some (.int v6), some (.int 0), none]) (by decide) rfl d_Sorts_residueOf_10 ?_
  have lp_12 : ∀ (n : Nat) (u9 : Int32) (N10 : zMem) (hn11 : zMod B [] M N10), zvu u9 (zi M q 6) < n → zW l m_Sorts_residueOf (zn M + 0, zw M + 0) N10 12 [some (.ref q), some (.int x0), some (.int x1), some (.int v6), some (.int u9), none] [] (zqI B M []) := by
    intro n
    induction n with
    | zero =>
      intro u9 N10 hn11 h0
      exact absurd h0 (Nat.not_lt_zero _)
    | succ n ih_12 =>
      intro u9 N10 hn11 hlt_12
      refine zw_iload (pc := 12) (i := 4) (x := u9) rfl d_Sorts_residueOf_12 ?_
      refine zw_aload_n (pc := 14) (n := 0) (x := q) rfl d_Sorts_residueOf_14 ?_
      refine zc_getI0 hn11 (pc := 15) (by decide) f_Sorts_36 rfl hqk d_Sorts_residueOf_15 ?_
      refine zw_icmp_ge (pc := 18) (tgt := 89) (by decide) d_Sorts_residueOf_18 (fun hc_18 => ?_) (fun hc_18 => ?_)
      · refine zw_iload_n (pc := 89) (n := 1) (x := x0) rfl d_Sorts_residueOf_89 ?_
        exact zw_iret (S := []) (pc := 90) (ty := .int) rfl rfl d_Sorts_residueOf_90 ⟨hn11, _, rfl⟩
      · refine zw_aload_n (pc := 21) (n := 0) (x := q) rfl d_Sorts_residueOf_21 ?_
        obtain ⟨r12, r12f, r12B, r12k⟩ := hT.1 q 6 1 hqB hqk (by decide) (by decide) rfl
        refine zc_getF hn11 (pc := 22) f_Sorts_14 rfl hqk r12f d_Sorts_residueOf_22 ?_
        refine zw_iload (pc := 25) (i := 4) (x := u9) rfl d_Sorts_residueOf_25 ?_
        refine zc_callV hn11 (pc := 27) [.int u9] [] l_Sorts_49 (c_IntRow_at l B N10 (hT.mod hn11) r12 r12B (hn11.k r12k) u9) rfl rfl r12k (by decide) (by decide) (Nat.le_of_ble_eq_true rfl) d_Sorts_residueOf_27 (fun r15 N13 hq14 => ?_)
        obtain ⟨hk18, v17, rfl⟩ := hq14
        have hn16 : zMod B [] M N13 := hn11.call hk18 (by decide)
        show zW l m_Sorts_residueOf (zn M + 0, zw M + 0) N13 30 [some (.ref q), some (.int x0), some (.int x1), some (.int v6), some (.int u9), none] [.int v17] (zqI B M [])
        refine zw_istore (pc := 30) (i := 5) (L2 := [some (.ref q), some (.int x0), some (.int x1), some (.int v6), some (.int u9), some (.int v17)]) (by decide) rfl d_Sorts_residueOf_30 ?_
        refine zw_iload (pc := 32) (i := 5) (x := v17) rfl d_Sorts_residueOf_32 ?_
        refine zw_iload_n (pc := 34) (n := 3) (x := v6) rfl d_Sorts_residueOf_34 ?_
        refine zc_callS hn16 (pc := 35) [.int v17, .int v6] [] l_Sorts_96 (c_T_isPart l B N13 (hT.mod hn16) v17 v6) rfl rfl (by decide) (Nat.le_of_ble_eq_true rfl) d_Sorts_residueOf_35 (fun r22 N20 hq21 => ?_)
        obtain ⟨hk25, v24, rfl, zv24⟩ := hq21
        have hn23 : zMod B [] M N20 := hn16.call hk25 (by decide)
        show zW l m_Sorts_residueOf (zn M + 0, zw M + 0) N20 38 [some (.ref q), some (.int x0), some (.int x1), some (.int v6), some (.int u9), some (.int v17)] [.int v24] (zqI B M [])
        have j_83 : ∀ (N27 : zMem) (hn28 : zMod B [] M N27), zW l m_Sorts_residueOf (zn M + 0, zw M + 0) N27 83 [some (.ref q), some (.int x0), some (.int x1), some (.int v6), some (.int u9), some (.int v17)] [] (zqI B M []) := by
          intro N27 hn28
          refine zw_iinc (pc := 83) (i := 4) (x := u9) (v := u9 + Int32.ofInt 1) (L2 := [some (.ref q), some (.int x0), some (.int x1), some (.int v6), some (.int (u9 + Int32.ofInt 1)), some (.int v17)]) rfl rfl (by decide) rfl d_Sorts_residueOf_83 ?_
          refine zw_goto (pc := 86) (tgt := 12) (by decide) d_Sorts_residueOf_86 ?_
          refine zW_le [some (.ref q), some (.int x0), some (.int x1), some (.int v6), some (.int (u9 + Int32.ofInt 1)), none] (⟨rfl, rfl, rfl, rfl, rfl, trivial⟩) ?_
          exact ih_12 (u9 + Int32.ofInt 1) N27 hn28 (Nat.lt_of_lt_of_le (z_up hc_18) (Nat.le_of_lt_succ hlt_12))
        refine zw_if_eq (pc := 38) (tgt := 83) (by decide) d_Sorts_residueOf_38 (fun hc_38 => ?_) (fun hc_38 => ?_)
        · exact j_83 N20 hn23
        · refine zw_iload_n (pc := 41) (n := 3) (x := v6) rfl d_Sorts_residueOf_41 ?_
          refine zw_aload_n (pc := 42) (n := 0) (x := q) rfl d_Sorts_residueOf_42 ?_
          obtain ⟨r29, r29f, r29B, r29k⟩ := hT.1 q 6 0 hqB hqk (by decide) (by decide) rfl
          refine zc_getF hn23 (pc := 43) f_Sorts_32 rfl hqk r29f d_Sorts_residueOf_43 ?_
          refine zw_iload (pc := 46) (i := 5) (x := v17) rfl d_Sorts_residueOf_46 ?_
          refine zc_callV hn23 (pc := 48) [.int v17] [.int v6] l_Sorts_102 (c_Group_normOf l B N20 (hT.mod hn23) r29 r29B (hn23.k r29k) v17) rfl rfl r29k (by decide) (by decide) (Nat.le_of_ble_eq_true rfl) d_Sorts_residueOf_48 (fun r32 N30 hq31 => ?_)
          obtain ⟨hk35, v34, rfl⟩ := hq31
          have hn33 : zMod B [] M N30 := hn23.call hk35 (by decide)
          show zW l m_Sorts_residueOf (zn M + 0, zw M + 0) N30 51 [some (.ref q), some (.int x0), some (.int x1), some (.int v6), some (.int u9), some (.int v17)] [.int v34, .int v6] (zqI B M [])
          refine zc_callS hn33 (pc := 51) [.int v6, .int v34] [] l_Sorts_96 (c_T_isPart l B N30 (hT.mod hn33) v6 v34) rfl rfl (by decide) (Nat.le_of_ble_eq_true rfl) d_Sorts_residueOf_51 (fun r39 N37 hq38 => ?_)
          obtain ⟨hk42, v41, rfl, zv41⟩ := hq38
          have hn40 : zMod B [] M N37 := hn33.call hk42 (by decide)
          show zW l m_Sorts_residueOf (zn M + 0, zw M + 0) N37 54 [some (.ref q), some (.int x0), some (.int x1), some (.int v6), some (.int u9), some (.int v17)] [.int v41] (zqI B M [])
          refine zw_if_eq (pc := 54) (tgt := 83) (by decide) d_Sorts_residueOf_54 (fun hc_54 => ?_) (fun hc_54 => ?_)
          · exact j_83 N37 hn40
          · refine zw_iload (pc := 57) (i := 5) (x := v17) rfl d_Sorts_residueOf_57 ?_
            refine zc_callS hn40 (pc := 59) [.int v17] [] l_Sorts_78 (c_Integer_bitCount l B N37 (hT.mod hn40) v17) rfl rfl (by decide) (Nat.le_of_ble_eq_true rfl) d_Sorts_residueOf_59 (fun r46 N44 hq45 => ?_)
            obtain ⟨hq45, ex50⟩ := hq45
            obtain ⟨hk49, v48, rfl⟩ := hq45
            have hn47 : zMod B [] M N44 := hn40.call hk49 (by decide)
            show zW l m_Sorts_residueOf (zn M + 0, zw M + 0) N44 62 [some (.ref q), some (.int x0), some (.int x1), some (.int v6), some (.int u9), some (.int v17)] [.int v48] (zqI B M [])
            refine zw_iload_n (pc := 62) (n := 3) (x := v6) rfl d_Sorts_residueOf_62 ?_
            refine zc_callS hn47 (pc := 63) [.int v6] [.int v48] l_Sorts_78 (c_Integer_bitCount l B N44 (hT.mod hn47) v6) rfl rfl (by decide) (Nat.le_of_ble_eq_true rfl) d_Sorts_residueOf_63 (fun r53 N51 hq52 => ?_)
            obtain ⟨hq52, ex57⟩ := hq52
            obtain ⟨hk56, v55, rfl⟩ := hq52
            have hn54 : zMod B [] M N51 := hn47.call hk56 (by decide)
            show zW l m_Sorts_residueOf (zn M + 0, zw M + 0) N51 66 [some (.ref q), some (.int x0), some (.int x1), some (.int v6), some (.int u9), some (.int v17)] [.int v55, .int v48] (zqI B M [])
            refine zw_iload_n (pc := 66) (n := 2) (x := x1) rfl d_Sorts_residueOf_66 ?_
            refine zc_callS hn54 (pc := 67) [.int v48, .int v55, .int x1] [] l_Sorts_105 (c_Sorts_isPowerApart l B N51 (hT.mod hn54) v48 v55 x1 (ex57 _ rfl).2 hp) rfl rfl (by decide) (Nat.le_of_ble_eq_true rfl) d_Sorts_residueOf_67 (fun r60 N58 hq59 => ?_)
            obtain ⟨hk63, v62, rfl, zv62⟩ := hq59
            have hn61 : zMod B [] M N58 := hn54.call hk63 (by decide)
            show zW l m_Sorts_residueOf (zn M + 0, zw M + 0) N58 70 [some (.ref q), some (.int x0), some (.int x1), some (.int v6), some (.int u9), some (.int v17)] [.int v62] (zqI B M [])
            refine zw_if_eq (pc := 70) (tgt := 83) (by decide) d_Sorts_residueOf_70 (fun hc_70 => ?_) (fun hc_70 => ?_)
            · exact j_83 N58 hn61
            · refine zw_aload_n (pc := 73) (n := 0) (x := q) rfl d_Sorts_residueOf_73 ?_
              obtain ⟨r65, r65f, r65B, r65k⟩ := hT.1 q 6 2 hqB hqk (by decide) (by decide) rfl
              refine zc_getF hn61 (pc := 74) f_Sorts_20 rfl hqk r65f d_Sorts_residueOf_74 ?_
              refine zw_iload (pc := 77) (i := 4) (x := u9) rfl d_Sorts_residueOf_77 ?_
              refine zc_callV hn61 (pc := 79) [.int u9] [] l_Sorts_49 (c_IntRow_at l B N58 (hT.mod hn61) r65 r65B (hn61.k r65k) u9) rfl rfl r65k (by decide) (by decide) (Nat.le_of_ble_eq_true rfl) d_Sorts_residueOf_79 (fun r68 N66 hq67 => ?_)
              obtain ⟨hk71, v70, rfl⟩ := hq67
              have hn69 : zMod B [] M N66 := hn61.call hk71 (by decide)
              show zW l m_Sorts_residueOf (zn M + 0, zw M + 0) N66 82 [some (.ref q), some (.int x0), some (.int x1), some (.int v6), some (.int u9), some (.int v17)] [.int v70] (zqI B M [])
              exact zw_iret (S := []) (pc := 82) (ty := .int) rfl rfl d_Sorts_residueOf_82 ⟨hn69, _, rfl⟩
  exact lp_12 _ 0 N2 hn5 (Nat.lt_succ_self _)
set_option maxHeartbeats 4000000 in
theorem c_T_residue (l : Launch) (B : Nat) (M : zMem) (hT : zTy B M) (q : Nat) (hqB : q < B) (hqk : (zsh M q).1 = 0 + 3) (x0 : Int32) (x1 : Int32) : zC l m_T_residue 0 0 [.ref q, .int x0, .int x1] M (zqI B M []) := by
  refine zC_of (L0 := [some (.ref q), some (.int x0), some (.int x1)]) md_T_residue (Nat.le_of_ble_eq_true rfl) rfl ?_ zQ0
  have hm : zMod B [] M M := zMod.rf
  refine zw_aload_n (pc := 0) (n := 0) (x := q) rfl d_T_residue_0 ?_
  obtain ⟨r1, r1f, r1B, r1k⟩ := hT.1 q 0 2 hqB hqk (by decide) (by decide) rfl
  refine zc_getF hm (pc := 1) f_T_28 rfl hqk r1f d_T_residue_1 ?_
  obtain ⟨r2, r2f, r2B, r2k⟩ := hT.1 r1 4 1 r1B r1k (by decide) (by decide) rfl
  refine zc_getF hm (pc := 4) f_T_85 rfl r1k r2f d_T_residue_4 ?_
  refine zw_iload_n (pc := 7) (n := 1) (x := x0) rfl d_T_residue_7 ?_
  refine zc_callV hm (pc := 8) [.int x0] [] l_T_143 (c_Sorts_hasSort l B M (hT.mod hm) r2 r2B (hm.k r2k) x0) rfl rfl r2k (by decide) (by decide) (Nat.le_of_ble_eq_true rfl) d_T_residue_8 (fun r5 N3 hq4 => ?_)
  obtain ⟨hk8, v7, rfl, zv7⟩ := hq4
  have hn6 : zMod B [] M N3 := hm.call hk8 (by decide)
  show zW l m_T_residue (zn M + 0, zw M + 0) N3 11 [some (.ref q), some (.int x0), some (.int x1)] [.int v7] (zqI B M [])
  refine zw_if_eq (pc := 11) (tgt := 36) (by decide) d_T_residue_11 (fun hc_11 => ?_) (fun hc_11 => ?_)
  · refine zw_iconst (pc := 36) (v := (-1)) (by decide) d_T_residue_36 ?_
    exact zw_iret (S := []) (pc := 37) (ty := .int) rfl rfl d_T_residue_37 ⟨hn6, _, rfl⟩
  · refine zw_iload_n (pc := 14) (n := 2) (x := x1) rfl d_T_residue_14 ?_
    refine zc_callS hn6 (pc := 15) [.int x1] [] l_T_183 (c_T_isPrime l B N3 (hT.mod hn6) x1) rfl rfl (by decide) (Nat.le_of_ble_eq_true rfl) d_T_residue_15 (fun r12 N10 hq11 => ?_)
    obtain ⟨hq11, ex16⟩ := hq11
    obtain ⟨hk15, v14, rfl, zv14⟩ := hq11
    have hn13 : zMod B [] M N10 := hn6.call hk15 (by decide)
    show zW l m_T_residue (zn M + 0, zw M + 0) N10 18 [some (.ref q), some (.int x0), some (.int x1)] [.int v14] (zqI B M [])
    refine zw_if_eq (pc := 18) (tgt := 36) (by decide) d_T_residue_18 (fun hc_18 => ?_) (fun hc_18 => ?_)
    · refine zw_iconst (pc := 36) (v := (-1)) (by decide) d_T_residue_36 ?_
      exact zw_iret (S := []) (pc := 37) (ty := .int) rfl rfl d_T_residue_37 ⟨hn13, _, rfl⟩
    · refine zw_aload_n (pc := 21) (n := 0) (x := q) rfl d_T_residue_21 ?_
      refine zc_getF hn13 (pc := 22) f_T_28 rfl hqk r1f d_T_residue_22 ?_
      refine zc_getF hn13 (pc := 25) f_T_85 rfl r1k r2f d_T_residue_25 ?_
      refine zw_iload_n (pc := 28) (n := 1) (x := x0) rfl d_T_residue_28 ?_
      refine zw_iload_n (pc := 29) (n := 2) (x := x1) rfl d_T_residue_29 ?_
      refine zc_callV hn13 (pc := 30) [.int x0, .int x1] [] l_T_186 (c_Sorts_residueOf l B N10 (hT.mod hn13) r2 r2B (hn13.k r2k) x0 x1 (ex16 _ rfl (z_one zv14 hc_18))) rfl rfl r2k (by decide) (by decide) (Nat.le_of_ble_eq_true rfl) d_T_residue_30 (fun r19 N17 hq18 => ?_)
      obtain ⟨hk22, v21, rfl⟩ := hq18
      have hn20 : zMod B [] M N17 := hn13.call hk22 (by decide)
      show zW l m_T_residue (zn M + 0, zw M + 0) N17 33 [some (.ref q), some (.int x0), some (.int x1)] [.int v21] (zqI B M [])
      refine zw_goto (pc := 33) (tgt := 37) (by decide) d_T_residue_33 ?_
      exact zw_iret (S := []) (pc := 37) (ty := .int) rfl rfl d_T_residue_37 ⟨hn20, _, rfl⟩
