set_option maxHeartbeats 4000000 in
theorem c_M_numbers_96_105 (l : Launch) (Mz : zMem) (hW : zMt Mz) (a2_ : Int) (ha2_a : -2147483648 ≤ a2_) (ha2_b : a2_ < 2147483648) (p0_ : zGD Mz) (p1_ : 0 ≤ a2_) (p2_ : a2_ ≤ 0) : zC l m_M_numbers 0 0 [.ref 81, .ref 96, .ref 105, .int (Int32.ofInt a2_)] Mz (zpV [] [105] Mz (fun N => True)) := by
  refine zC_of (L0 := [some (.ref 81), some (.ref 96), some (.ref 105), some (.int (Int32.ofInt a2_)), none, none, none, none]) md_M_numbers (Nat.le_of_ble_eq_true rfl) rfl ?_ zQ0
  have hf : zFr [] [105] Mz Mz := zFr.rf
  have r_26 := ze_r Mz 81 26
  have gb := p0_.1
  refine zw_aload_n (pc := 0) (n := 0) (x := 81) rfl (zdal_p dlC_M_numbers_126 (i := 0) rfl) ?_
  refine zr_getI0 hf hW (pc := 1) (by decide) f_M_235 rfl (zdal_p dlC_M_numbers_126 (i := 1) rfl) ?_
  refine zw_iconst (pc := 4) (v := Int32.ofInt 1) (by decide) (zdal_p dlC_M_numbers_126 (i := 2) rfl) ?_
  refine zr_isub (pc := 5) (zdal_p dlC_M_numbers_126 (i := 3) rfl) ?_
  refine zw_istore (pc := 6) (i := 4) (L2 := [some (.ref 81), some (.ref 96), some (.ref 105), some (.int (Int32.ofInt a2_)), some (.int (Int32.ofInt ((ze Mz 81 26) - 1))), none, none, none]) (by decide) rfl (zdal_p dlC_M_numbers_126 (i := 4) rfl) ?_
  have lp_8 : ∀ (n : Nat) (u1_ : Int) (hu1_a : -2147483648 ≤ u1_) (hu1_b : u1_ < 2147483648) (N2_ : zMem) (hs3_ : zFr [] [105] Mz N2_) (i4_ : u1_ ≤ (ze Mz 81 26) - 1) (i5_ : u1_ ≥ -1), (u1_ + 1).toNat < n → zW l m_M_numbers (zn Mz + 0, zw Mz + 0) N2_ 8 [some (.ref 81), some (.ref 96), some (.ref 105), some (.int (Int32.ofInt a2_)), some (.int (Int32.ofInt u1_)), none, none, none] [] (zpV [] [105] Mz (fun N => True)) := by
    intro n
    induction n with
    | zero =>
      intro u1_ hu1_a hu1_b N2_ hs3_ i4_ i5_ h0
      exact absurd h0 (Nat.not_lt_zero _)
    | succ n ih_8 =>
      intro u1_ hu1_a hu1_b N2_ hs3_ i4_ i5_ hlt_8
      have hf_N2_ : zFr [] [105] Mz N2_ := hf.tr hs3_ (by decide) (by decide)
      refine zw_iload (pc := 8) (i := 4) (x := Int32.ofInt u1_) rfl (zdal_p dlC_M_numbers_126 (i := 5) rfl) ?_
      refine zr_if_lt (pc := 10) (tgt := 95) ⟨hu1_a, hu1_b⟩ (by decide) (zdal_p dlC_M_numbers_126 (i := 6) rfl) (fun hc_10 => ?_) (fun hc_10 => ?_)
      · skip
        exact zr_vret (pc := 95) rfl hf_N2_ trivial (zdal_p dlC_M_numbers_128 (i := 9) rfl)
      · skip
        refine zw_aload_n (pc := 13) (n := 1) (x := 96) rfl (zdal_p dlC_M_numbers_126 (i := 7) rfl) ?_
        refine zw_iload (pc := 14) (i := 4) (x := Int32.ofInt u1_) rfl (zdal_p dlC_M_numbers_126 (i := 8) rfl) ?_
        refine zr_laldn (pc := 16) (zh_96 (hf_N2_.w hW)).2 (by decide) (by (exact hc_10)) (by (exact zo_887 gb.2.2.2.2.2 hu1_b i4_)) (zdal_p dlC_M_numbers_126 (i := 9) rfl) (fun v7_ hv7_ hv7_a hv7_b => ?_)
        rw [hf_N2_.jg (by decide) (by decide)] at hv7_
        refine zw_lstore (pc := 17) (i := 5) (L2 := [some (.ref 81), some (.ref 96), some (.ref 105), some (.int (Int32.ofInt a2_)), some (.int (Int32.ofInt u1_)), some (.long (Int64.ofInt v7_)), none, none]) (by decide) rfl (zdal_p dlC_M_numbers_126 (i := 10) rfl) ?_
        refine zw_iload (pc := 19) (i := 4) (x := Int32.ofInt u1_) rfl (zdal_p dlC_M_numbers_126 (i := 11) rfl) ?_
        refine zw_iconst (pc := 21) (v := Int32.ofInt 1) (by decide) (zdal_p dlC_M_numbers_126 (i := 12) rfl) ?_
        refine zr_iadd (pc := 22) (zdal_p dlC_M_numbers_126 (i := 13) rfl) ?_
        refine zw_istore (pc := 23) (i := 7) (L2 := [some (.ref 81), some (.ref 96), some (.ref 105), some (.int (Int32.ofInt a2_)), some (.int (Int32.ofInt u1_)), some (.long (Int64.ofInt v7_)), none, some (.int (Int32.ofInt (u1_ + 1)))]) (by decide) rfl (zdal_p dlC_M_numbers_126 (i := 14) rfl) ?_
        have lp_25 : ∀ (n : Nat) (u8_ : Int) (hu8_a : -9223372036854775808 ≤ u8_) (hu8_b : u8_ < 9223372036854775808) (u9_ : Int) (hu9_a : -2147483648 ≤ u9_) (hu9_b : u9_ < 2147483648) (i10_ : u1_ + 1 ≤ u9_), (ze Mz 81 26 - u9_).toNat < n → zW l m_M_numbers (zn Mz + 0, zw Mz + 0) N2_ 25 [some (.ref 81), some (.ref 96), some (.ref 105), some (.int (Int32.ofInt a2_)), some (.int (Int32.ofInt u1_)), some (.long (Int64.ofInt u8_)), none, some (.int (Int32.ofInt u9_))] [] (zpV [] [105] Mz (fun N => True)) := by
          intro n
          induction n with
          | zero =>
            intro u8_ hu8_a hu8_b u9_ hu9_a hu9_b i10_ h0
            exact absurd h0 (Nat.not_lt_zero _)
          | succ n ih_25 =>
            intro u8_ hu8_a hu8_b u9_ hu9_a hu9_b i10_ hlt_25
            refine zw_iload (pc := 25) (i := 7) (x := Int32.ofInt u9_) rfl (zdal_p dlC_M_numbers_126 (i := 15) rfl) ?_
            refine zw_aload_n (pc := 27) (n := 0) (x := 81) rfl (zdal_p dlC_M_numbers_126 (i := 16) rfl) ?_
            refine zr_getI0 hf_N2_ hW (pc := 28) (by decide) f_M_235 rfl (zdal_p dlC_M_numbers_126 (i := 17) rfl) ?_
            refine zr_icmp_ge (pc := 31) (tgt := 66) ⟨hu9_a, hu9_b⟩ ⟨(ze_r Mz 81 26).1, (ze_r Mz 81 26).2⟩ (by decide) (zdal_p dlC_M_numbers_126 (i := 18) rfl) (fun hc_31 => ?_) (fun hc_31 => ?_)
            · skip
              refine zw_aload_n (pc := 66) (n := 2) (x := 105) rfl (zdal_p dlC_M_numbers_127 (i := 15) rfl) ?_
              refine zw_iload_n (pc := 67) (n := 3) (x := Int32.ofInt a2_) rfl (zdal_p dlC_M_numbers_127 (i := 16) rfl) ?_
              refine zw_iload (pc := 68) (i := 4) (x := Int32.ofInt u1_) rfl (zdal_p dlC_M_numbers_127 (i := 17) rfl) ?_
              refine zr_iadd (pc := 70) (zdal_p dlC_M_numbers_127 (i := 18) rfl) ?_
              refine zw_lload (pc := 71) (i := 5) (x := Int64.ofInt u8_) rfl (zdal_p dlC_M_numbers_127 (i := 19) rfl) ?_
              refine zw_aload_n (pc := 73) (n := 0) (x := 81) rfl (zdal_p dlC_M_numbers_127 (i := 20) rfl) ?_
              refine zr_getF (r := 93) (hf_N2_.w hW) (pc := 74) f_M_50 rfl (zh_93 (hf_N2_.w hW)).1 (zdal_p dlC_M_numbers_127 (i := 21) rfl) ?_
              refine zw_bipush (pc := 77) (v := Int32.ofInt 64) (by decide) (zdal_p dlC_M_numbers_127 (i := 22) rfl) ?_
              refine zw_iload (pc := 79) (i := 4) (x := Int32.ofInt u1_) rfl (zdal_p dlC_M_numbers_127 (i := 23) rfl) ?_
              refine zr_imul (pc := 81) (zdal_p dlC_M_numbers_128 (i := 0) rfl) ?_
              refine zw_iload (pc := 82) (i := 4) (x := Int32.ofInt u1_) rfl (zdal_p dlC_M_numbers_128 (i := 1) rfl) ?_
              refine zr_iadd (pc := 84) (zdal_p dlC_M_numbers_128 (i := 2) rfl) ?_
              refine zr_ialdn (pc := 85) (zh_93 (hf_N2_.w hW)).2 (by decide) (by (exact zo_888 hc_10)) (by (exact zo_889 gb.2.2.2.2.2 hu1_b i4_)) (zdal_p dlC_M_numbers_128 (i := 3) rfl) (fun v11_ hv11_ hv11_a hv11_b => ?_)
              rw [hf_N2_.ie (by decide) (by decide)] at hv11_
              refine zr_i2l (pc := 86) ⟨hv11_a, hv11_b⟩ (zdal_p dlC_M_numbers_128 (i := 4) rfl) ?_
              refine zr_ldiv (pc := 87) ⟨by (exact zo_282 hv11_a), by (exact zo_283 hv11_b)⟩ (by rw [hv11_]; exact p0_.2 _ (by (exact hc_10)) (by (exact zo_890 i4_))) (zdal_p dlC_M_numbers_128 (i := 5) rfl) ?_
              have hr12_ := zlquo_r u8_ v11_
              refine zr_last (pc := 88) (zh_105 (hf_N2_.w hW)).2 (by decide) (by decide) (by (exact zo_833 hc_10 p1_)) (by (exact zo_891 gb.2.2.2.2.2 hu1_b i4_ p2_)) (zdal_p dlC_M_numbers_128 (i := 6) rfl) (fun N13_ hN13_ hsN13_ => ?_)
              have hf_N13_ : zFr [] [105] Mz N13_ := hf_N2_.tr hsN13_ (by decide) (by decide)
              have hb0_N13_ : zFr [] [105] Mz N13_ := hs3_.tr hsN13_ (by decide) (by decide)
              refine zr_iinc (pc := 89) (i := 4) (a := u1_) (n := -1) (L2 := [some (.ref 81), some (.ref 96), some (.ref 105), some (.int (Int32.ofInt a2_)), some (.int (Int32.ofInt (u1_ + (-1)))), some (.long (Int64.ofInt u8_)), none, some (.int (Int32.ofInt u9_))]) rfl (by decide) rfl (zdal_p dlC_M_numbers_128 (i := 7) rfl) ?_
              refine zw_goto (pc := 92) (tgt := 8) (by decide) (zdal_p dlC_M_numbers_128 (i := 8) rfl) ?_
              refine zW_le [some (.ref 81), some (.ref 96), some (.ref 105), some (.int (Int32.ofInt a2_)), some (.int (Int32.ofInt (u1_ + (-1)))), none, none, none] (⟨rfl, rfl, rfl, rfl, rfl, trivial⟩) ?_
              exact ih_8 (u1_ + (-1)) (by (exact zo_892 hc_10)) (by (exact zo_893 hu1_b)) N13_ hb0_N13_ (show (u1_ + (-1)) ≤ (ze Mz 81 26) - 1 by first | with_reducible assumption | (exact zo_894 i4_) | assumption) (show (u1_ + (-1)) ≥ -1 by first | with_reducible assumption | (exact zo_895 hc_10) | assumption) (by (exact zo_896 hc_10 hlt_8 hu1_b))
            · skip
              refine zw_lload (pc := 34) (i := 5) (x := Int64.ofInt u8_) rfl (zdal_p dlC_M_numbers_126 (i := 19) rfl) ?_
              refine zw_aload_n (pc := 36) (n := 2) (x := 105) rfl (zdal_p dlC_M_numbers_126 (i := 20) rfl) ?_
              refine zw_iload_n (pc := 37) (n := 3) (x := Int32.ofInt a2_) rfl (zdal_p dlC_M_numbers_126 (i := 21) rfl) ?_
              refine zw_iload (pc := 38) (i := 7) (x := Int32.ofInt u9_) rfl (zdal_p dlC_M_numbers_126 (i := 22) rfl) ?_
              refine zr_iadd (pc := 40) (zdal_p dlC_M_numbers_126 (i := 23) rfl) ?_
              refine zr_laldn (pc := 41) (zh_105 (hf_N2_.w hW)).2 (by decide) (by (exact zo_897 hc_10 hu9_a i10_ p1_)) (by (exact zo_834 gb.2.2.2.2.2 hc_31 p2_)) (zdal_p dlC_M_numbers_127 (i := 0) rfl) (fun v15_ hv15_ hv15_a hv15_b => ?_)
              refine zw_aload_n (pc := 42) (n := 0) (x := 81) rfl (zdal_p dlC_M_numbers_127 (i := 1) rfl) ?_
              refine zr_getF (r := 93) (hf_N2_.w hW) (pc := 43) f_M_50 rfl (zh_93 (hf_N2_.w hW)).1 (zdal_p dlC_M_numbers_127 (i := 2) rfl) ?_
              refine zw_bipush (pc := 46) (v := Int32.ofInt 64) (by decide) (zdal_p dlC_M_numbers_127 (i := 3) rfl) ?_
              refine zw_iload (pc := 48) (i := 7) (x := Int32.ofInt u9_) rfl (zdal_p dlC_M_numbers_127 (i := 4) rfl) ?_
              refine zr_imul (pc := 50) (zdal_p dlC_M_numbers_127 (i := 5) rfl) ?_
              refine zw_iload (pc := 51) (i := 4) (x := Int32.ofInt u1_) rfl (zdal_p dlC_M_numbers_127 (i := 6) rfl) ?_
              refine zr_iadd (pc := 53) (zdal_p dlC_M_numbers_127 (i := 7) rfl) ?_
              refine zr_ialdn (pc := 54) (zh_93 (hf_N2_.w hW)).2 (by decide) (by (exact zo_898 hc_10 i10_)) (by (exact zo_899 gb.2.2.2.2.2 hc_31 i4_)) (zdal_p dlC_M_numbers_127 (i := 8) rfl) (fun v16_ hv16_ hv16_a hv16_b => ?_)
              rw [hf_N2_.ie (by decide) (by decide)] at hv16_
              refine zr_i2l (pc := 55) ⟨hv16_a, hv16_b⟩ (zdal_p dlC_M_numbers_127 (i := 9) rfl) ?_
              refine zr_lmul (pc := 56) (zdal_p dlC_M_numbers_127 (i := 10) rfl) ?_
              refine zr_lsub (pc := 57) (zdal_p dlC_M_numbers_127 (i := 11) rfl) ?_
              refine zr_nmJ (fun v17_ hv17_ => ?_)
              obtain ⟨hv17_a, hv17_b⟩ := hv17_
              refine zw_lstore (pc := 58) (i := 5) (L2 := [some (.ref 81), some (.ref 96), some (.ref 105), some (.int (Int32.ofInt a2_)), some (.int (Int32.ofInt u1_)), some (.long (Int64.ofInt v17_)), none, some (.int (Int32.ofInt u9_))]) (by decide) rfl (zdal_p dlC_M_numbers_127 (i := 12) rfl) ?_
              refine zr_iinc (pc := 60) (i := 7) (a := u9_) (n := 1) (L2 := [some (.ref 81), some (.ref 96), some (.ref 105), some (.int (Int32.ofInt a2_)), some (.int (Int32.ofInt u1_)), some (.long (Int64.ofInt v17_)), none, some (.int (Int32.ofInt (u9_ + 1)))]) rfl (by decide) rfl (zdal_p dlC_M_numbers_127 (i := 13) rfl) ?_
              refine zw_goto (pc := 63) (tgt := 25) (by decide) (zdal_p dlC_M_numbers_127 (i := 14) rfl) ?_
              exact ih_25 v17_ hv17_a hv17_b (u9_ + 1) (by (exact zo_679 hu9_a)) (by (exact zo_832 gb.2.2.2.2.2 hc_31)) (show u1_ + 1 ≤ (u9_ + 1) by first | with_reducible assumption | (exact zo_900 i10_) | assumption) (by (exact zo_147 hc_31 hlt_25))
        exact lp_25 _ v7_ hv7_a hv7_b (u1_ + 1) (by (exact zo_74 hc_10)) (by (exact zo_901 gb.2.2.2.2.2 hu1_b i4_)) (show u1_ + 1 ≤ (u1_ + 1) by first | with_reducible assumption | (exact zo_902) | assumption) (Nat.lt_succ_self _)
  exact lp_8 _ ((ze Mz 81 26) - 1) (by (exact zo_63 gb.2.2.2.2.1)) (by (exact zo_903 gb.2.2.2.2.2)) Mz zFr.rf (show ((ze Mz 81 26) - 1) ≤ (ze Mz 81 26) - 1 by first | with_reducible assumption | (exact zo_904) | assumption) (show ((ze Mz 81 26) - 1) ≥ -1 by first | with_reducible assumption | (exact zo_905 gb.2.2.2.2.1) | assumption) (Nat.lt_succ_self _)
set_option maxHeartbeats 4000000 in
theorem c_M_sort (l : Launch) (Mz : zMem) (hW : zMt Mz) (a0_ : Int) (ha0_a : -2147483648 ≤ a0_) (ha0_b : a0_ < 2147483648) (a1_ : Int) (ha1_a : -2147483648 ≤ a1_) (ha1_b : a1_ < 2147483648) (T : zGT) (hO : gOK T) (p0_ : zGB T Mz) : zC l m_M_sort 0 0 [.ref 81, .int (Int32.ofInt a0_), .int (Int32.ofInt a1_)] Mz (zpI [] [] Mz (fun v N => True)) := by
  refine zC_of (L0 := [some (.ref 81), some (.int (Int32.ofInt a0_)), some (.int (Int32.ofInt a1_))]) md_M_sort (Nat.le_of_ble_eq_true rfl) rfl ?_ zQ0
  have hf : zFr [] [] Mz Mz := zFr.rf
  have r_26 := ze_r Mz 81 26
  have hG := hO.1
  have g24 := hG.2.1
  have g1 := hG.1
  have dv0 : zTab T Mz := p0_.1
  have dv1 : zB 85 144 0 5 Mz := p0_.2.1
  have dv2 : zJX T Mz := p0_.2.2.1
  have dv3 : zFirs T Mz := p0_.2.2.2.1
  have dv4 : zSSm T Mz := p0_.2.2.2.2.1
  have dv5 : zGD Mz := zGB.d hO p0_
  have gb := dv5.1
  have gn := dv0.1
  refine zw_aload_n (pc := 0) (n := 0) (x := 81) rfl (zdal_p dlD_M_sort_14 (i := 0) rfl) ?_
  refine zw_iload_n (pc := 1) (n := 1) (x := Int32.ofInt a0_) rfl (zdal_p dlD_M_sort_14 (i := 1) rfl) ?_
  refine zr_callV (hf.w hW) hf.x (pc := 2) [.int (Int32.ofInt a0_)] [] l_M_414 (c_M_isSort l Mz (hf.w hW) a0_ ha0_a ha0_b T hO p0_) rfl rfl rfl (by decide) (Nat.le_of_ble_eq_true rfl) (zdal_p dlD_M_sort_14 (i := 2) rfl) ?_
  rintro _ N1_ ⟨v2_, rfl, ⟨hv2_a, hv2_b⟩, hsN1_, hp0_N1_⟩
  obtain rfl := hsN1_.eq.symm
  replace hp0_N1_ : ((v2_ = 1 ∧ 0 ≤ a0_ ∧ a0_ < ze Mz 81 26) ∨ (v2_ = 0)) := hp0_N1_
  rcases hp0_N1_ with ⟨rfl, ha2_0_hp0_N1_, ha2_1_hp0_N1_⟩ | rfl
  · skip
    show zW l m_M_sort (zn Mz + 0, zw Mz + 0) Mz 5 [some (.ref 81), some (.int (Int32.ofInt a0_)), some (.int (Int32.ofInt a1_))] [.int (Int32.ofInt 1)] (zpI [] [] Mz (fun v N => True))
    refine zr_if_ne (pc := 5) (tgt := 10) ⟨(by decide), (by decide)⟩ (by decide) (zdal_p dlD_M_sort_14 (i := 3) rfl) (fun hc_5 => ?_) (fun hc_5 => ?_)
    · skip
      refine zw_iload_n (pc := 10) (n := 2) (x := Int32.ofInt a1_) rfl (zdal_p dlD_M_sort_14 (i := 6) rfl) ?_
      by_cases hs_11_0 : a1_ = 0
      · refine zr_tabIn (c := 0) (off := 37) (tgt := 48) ⟨by decide, by decide⟩ hs_11_0 (by decide) (by decide) rfl (by decide) d_M_sort_11 ?_
        refine zw_aload_n (pc := 48) (n := 0) (x := 81) rfl (zdal_p dlD_M_sort_14 (i := 8) rfl) ?_
        refine zr_getF (r := 91) (hf.w hW) (pc := 49) f_M_44 rfl (zh_91 (hf.w hW)).1 (zdal_p dlD_M_sort_14 (i := 9) rfl) ?_
        refine zw_iload_n (pc := 52) (n := 1) (x := Int32.ofInt a0_) rfl (zdal_p dlD_M_sort_14 (i := 10) rfl) ?_
        refine zr_ialdn (pc := 53) (zh_91 (hf.w hW)).2 (by decide) (by (exact ha2_0_hp0_N1_)) (by (exact zo_906 gb.2.2.2.2.2 ha0_b ha2_1_hp0_N1_)) (zdal_p dlD_M_sort_14 (i := 11) rfl) (fun v3_ hv3_ hv3_a hv3_b => ?_)
        have hf_x := dv3.g hO (e := a0_) (by (exact ha2_0_hp0_N1_)) (by (exact ha2_1_hp0_N1_))
        refine zr_callS hf.x (pc := 54) [.int (Int32.ofInt v3_)] [] l_M_253 (c_M_ones l Mz (hf.w hW) v3_ hv3_a hv3_b (show 0 ≤ v3_ by first | with_reducible assumption | (exact zo_574 hf_x.2.1 hv3_ hv3_a) | assumption)) rfl rfl (by decide) (Nat.le_of_ble_eq_true rfl) (zdal_p dlD_M_sort_14 (i := 12) rfl) ?_
        rintro _ N4_ ⟨v5_, rfl, ⟨hv5_a, hv5_b⟩, hsN4_, ⟨hp0_N4_, hp1_N4_, hp2_N4_⟩⟩
        obtain rfl := hsN4_.eq.symm
        show zW l m_M_sort (zn Mz + 0, zw Mz + 0) Mz 57 [some (.ref 81), some (.int (Int32.ofInt a0_)), some (.int (Int32.ofInt a1_))] [.int (Int32.ofInt v5_)] (zpI [] [] Mz (fun v N => True))
        exact zr_iret (pc := 57) (ty := .int) rfl rfl ⟨by (exact hv5_a), by (exact hv5_b)⟩ hf trivial (zdal_p dlD_M_sort_14 (i := 13) rfl)
      by_cases hs_11_1 : a1_ = 1
      · refine zr_tabIn (c := 1) (off := 47) (tgt := 58) ⟨by decide, by decide⟩ hs_11_1 (by decide) (by decide) rfl (by decide) d_M_sort_11 ?_
        refine zw_aload_n (pc := 58) (n := 0) (x := 81) rfl (zdal_p dlD_M_sort_14 (i := 14) rfl) ?_
        refine zr_getF (r := 92) (hf.w hW) (pc := 59) f_M_47 rfl (zh_92 (hf.w hW)).1 (zdal_p dlD_M_sort_14 (i := 15) rfl) ?_
        refine zw_iload_n (pc := 62) (n := 1) (x := Int32.ofInt a0_) rfl (zdal_p dlD_M_sort_14 (i := 16) rfl) ?_
        refine zr_ialdn (pc := 63) (zh_92 (hf.w hW)).2 (by decide) (by (exact ha2_0_hp0_N1_)) (by (exact zo_906 gb.2.2.2.2.2 ha0_b ha2_1_hp0_N1_)) (zdal_p dlD_M_sort_14 (i := 17) rfl) (fun v6_ hv6_ hv6_a hv6_b => ?_)
        exact zr_iret (pc := 64) (ty := .int) rfl rfl ⟨by (exact hv6_a), by (exact hv6_b)⟩ hf trivial (zdal_p dlD_M_sort_14 (i := 18) rfl)
      by_cases hs_11_2 : a1_ = 2
      · refine zr_tabIn (c := 2) (off := 54) (tgt := 65) ⟨by decide, by decide⟩ hs_11_2 (by decide) (by decide) rfl (by decide) d_M_sort_11 ?_
        refine zw_aload_n (pc := 65) (n := 0) (x := 81) rfl (zdal_p dlD_M_sort_14 (i := 19) rfl) ?_
        refine zr_getF (r := 91) (hf.w hW) (pc := 66) f_M_44 rfl (zh_91 (hf.w hW)).1 (zdal_p dlD_M_sort_14 (i := 20) rfl) ?_
        refine zw_iload_n (pc := 69) (n := 1) (x := Int32.ofInt a0_) rfl (zdal_p dlD_M_sort_14 (i := 21) rfl) ?_
        refine zr_ialdn (pc := 70) (zh_91 (hf.w hW)).2 (by decide) (by (exact ha2_0_hp0_N1_)) (by (exact zo_906 gb.2.2.2.2.2 ha0_b ha2_1_hp0_N1_)) (zdal_p dlD_M_sort_14 (i := 22) rfl) (fun v7_ hv7_ hv7_a hv7_b => ?_)
        have hf_x := dv3.g hO (e := a0_) (by (exact ha2_0_hp0_N1_)) (by (exact ha2_1_hp0_N1_))
        exact zr_iret (pc := 71) (ty := .int) rfl rfl ⟨by (exact hv7_a), by (exact hv7_b)⟩ hf trivial (zdal_p dlD_M_sort_14 (i := 23) rfl)
      by_cases hs_11_3 : a1_ = 3
      · refine zr_tabIn (c := 3) (off := 61) (tgt := 72) ⟨by decide, by decide⟩ hs_11_3 (by decide) (by decide) rfl (by decide) d_M_sort_11 ?_
        refine zw_aload_n (pc := 72) (n := 0) (x := 81) rfl (zdal_p dlD_M_sort_15 (i := 0) rfl) ?_
        refine zw_aload_n (pc := 73) (n := 0) (x := 81) rfl (zdal_p dlD_M_sort_15 (i := 1) rfl) ?_
        refine zr_getF (r := 91) (hf.w hW) (pc := 74) f_M_44 rfl (zh_91 (hf.w hW)).1 (zdal_p dlD_M_sort_15 (i := 2) rfl) ?_
        refine zw_iload_n (pc := 77) (n := 1) (x := Int32.ofInt a0_) rfl (zdal_p dlD_M_sort_15 (i := 3) rfl) ?_
        refine zr_ialdn (pc := 78) (zh_91 (hf.w hW)).2 (by decide) (by (exact ha2_0_hp0_N1_)) (by (exact zo_906 gb.2.2.2.2.2 ha0_b ha2_1_hp0_N1_)) (zdal_p dlD_M_sort_15 (i := 4) rfl) (fun v8_ hv8_ hv8_a hv8_b => ?_)
        have hf_x := dv3.g hO (e := a0_) (by (exact ha2_0_hp0_N1_)) (by (exact ha2_1_hp0_N1_))
        refine zr_callV (hf.w hW) hf.x (pc := 79) [.int (Int32.ofInt v8_)] [] l_M_417 (c_M_normOf l Mz (hf.w hW) v8_ hv8_a hv8_b T hO p0_ (show 0 ≤ v8_ by first | with_reducible assumption | (exact zo_574 hf_x.2.1 hv8_ hv8_a) | assumption) (show v8_ < 16777216 by first | with_reducible assumption | assumption | omega)) rfl rfl rfl (by decide) (Nat.le_of_ble_eq_true rfl) (zdal_p dlD_M_sort_15 (i := 5) rfl) ?_
        rintro _ N9_ ⟨v10_, rfl, ⟨hv10_a, hv10_b⟩, hsN9_, ⟨hp0_N9_, hp1_N9_⟩⟩
        obtain rfl := hsN9_.eq.symm
        show zW l m_M_sort (zn Mz + 0, zw Mz + 0) Mz 82 [some (.ref 81), some (.int (Int32.ofInt a0_)), some (.int (Int32.ofInt a1_))] [.int (Int32.ofInt v10_)] (zpI [] [] Mz (fun v N => True))
        refine zr_callS hf.x (pc := 82) [.int (Int32.ofInt v10_)] [] l_M_253 (c_M_ones l Mz (hf.w hW) v10_ hv10_a hv10_b (show 0 ≤ v10_ by first | with_reducible assumption | assumption | omega)) rfl rfl (by decide) (Nat.le_of_ble_eq_true rfl) (zdal_p dlD_M_sort_15 (i := 6) rfl) ?_
        rintro _ N11_ ⟨v12_, rfl, ⟨hv12_a, hv12_b⟩, hsN11_, ⟨hp0_N11_, hp1_N11_, hp2_N11_⟩⟩
        obtain rfl := hsN11_.eq.symm
        show zW l m_M_sort (zn Mz + 0, zw Mz + 0) Mz 85 [some (.ref 81), some (.int (Int32.ofInt a0_)), some (.int (Int32.ofInt a1_))] [.int (Int32.ofInt v12_)] (zpI [] [] Mz (fun v N => True))
        exact zr_iret (pc := 85) (ty := .int) rfl rfl ⟨by (exact hv12_a), by (exact hv12_b)⟩ hf trivial (zdal_p dlD_M_sort_15 (i := 7) rfl)
      by_cases hs_11_4 : a1_ = 4
      · refine zr_tabIn (c := 4) (off := 75) (tgt := 86) ⟨by decide, by decide⟩ hs_11_4 (by decide) (by decide) rfl (by decide) d_M_sort_11 ?_
        refine zw_aload_n (pc := 86) (n := 0) (x := 81) rfl (zdal_p dlD_M_sort_15 (i := 8) rfl) ?_
        refine zw_aload_n (pc := 87) (n := 0) (x := 81) rfl (zdal_p dlD_M_sort_15 (i := 9) rfl) ?_
        refine zr_getF (r := 91) (hf.w hW) (pc := 88) f_M_44 rfl (zh_91 (hf.w hW)).1 (zdal_p dlD_M_sort_15 (i := 10) rfl) ?_
        refine zw_iload_n (pc := 91) (n := 1) (x := Int32.ofInt a0_) rfl (zdal_p dlD_M_sort_15 (i := 11) rfl) ?_
        refine zr_ialdn (pc := 92) (zh_91 (hf.w hW)).2 (by decide) (by (exact ha2_0_hp0_N1_)) (by (exact zo_906 gb.2.2.2.2.2 ha0_b ha2_1_hp0_N1_)) (zdal_p dlD_M_sort_15 (i := 12) rfl) (fun v13_ hv13_ hv13_a hv13_b => ?_)
        have hf_x := dv3.g hO (e := a0_) (by (exact ha2_0_hp0_N1_)) (by (exact ha2_1_hp0_N1_))
        refine zr_callV (hf.w hW) hf.x (pc := 93) [.int (Int32.ofInt v13_)] [] l_M_420 (c_M_isOfOne l Mz (hf.w hW) v13_ hv13_a hv13_b T hO p0_ (show 0 ≤ v13_ by first | with_reducible assumption | (exact zo_574 hf_x.2.1 hv13_ hv13_a) | assumption)) rfl rfl rfl (by decide) (Nat.le_of_ble_eq_true rfl) (zdal_p dlD_M_sort_15 (i := 13) rfl) ?_
        rintro _ N14_ ⟨v15_, rfl, ⟨hv15_a, hv15_b⟩, hsN14_, hp0_N14_⟩
        obtain rfl := hsN14_.eq.symm
        replace hp0_N14_ : (v15_ = 0 ∨ v15_ = 1) := hp0_N14_
        show zW l m_M_sort (zn Mz + 0, zw Mz + 0) Mz 96 [some (.ref 81), some (.int (Int32.ofInt a0_)), some (.int (Int32.ofInt a1_))] [.int (Int32.ofInt v15_)] (zpI [] [] Mz (fun v N => True))
        refine zr_callS hf.x (pc := 96) [.int (Int32.ofInt v15_)] [] l_M_256 (c_M_truth l Mz (hf.w hW) v15_ hv15_a hv15_b (by (exact hp0_N14_))) rfl rfl (by decide) (Nat.le_of_ble_eq_true rfl) (zdal_p dlD_M_sort_15 (i := 14) rfl) ?_
        rintro _ N16_ ⟨v17_, rfl, ⟨hv17_a, hv17_b⟩, hsN16_, hp0_N16_⟩
        obtain rfl := hsN16_.eq.symm
        replace hp0_N16_ : v17_ = v15_ := hp0_N16_
        show zW l m_M_sort (zn Mz + 0, zw Mz + 0) Mz 99 [some (.ref 81), some (.int (Int32.ofInt a0_)), some (.int (Int32.ofInt a1_))] [.int (Int32.ofInt v17_)] (zpI [] [] Mz (fun v N => True))
        exact zr_iret (pc := 99) (ty := .int) rfl rfl ⟨by (exact hv17_a), by (exact hv17_b)⟩ hf trivial (zdal_p dlD_M_sort_15 (i := 15) rfl)
      by_cases hs_11_5 : a1_ = 5
      · refine zr_tabIn (c := 5) (off := 89) (tgt := 100) ⟨by decide, by decide⟩ hs_11_5 (by decide) (by decide) rfl (by decide) d_M_sort_11 ?_
        refine zw_aload_n (pc := 100) (n := 0) (x := 81) rfl (zdal_p dlD_M_sort_15 (i := 16) rfl) ?_
        refine zw_aload_n (pc := 101) (n := 0) (x := 81) rfl (zdal_p dlD_M_sort_15 (i := 17) rfl) ?_
        refine zr_getF (r := 91) (hf.w hW) (pc := 102) f_M_44 rfl (zh_91 (hf.w hW)).1 (zdal_p dlD_M_sort_15 (i := 18) rfl) ?_
        refine zw_iload_n (pc := 105) (n := 1) (x := Int32.ofInt a0_) rfl (zdal_p dlD_M_sort_15 (i := 19) rfl) ?_
        refine zr_ialdn (pc := 106) (zh_91 (hf.w hW)).2 (by decide) (by (exact ha2_0_hp0_N1_)) (by (exact zo_906 gb.2.2.2.2.2 ha0_b ha2_1_hp0_N1_)) (zdal_p dlD_M_sort_15 (i := 20) rfl) (fun v18_ hv18_ hv18_a hv18_b => ?_)
        have hf_x := dv3.g hO (e := a0_) (by (exact ha2_0_hp0_N1_)) (by (exact ha2_1_hp0_N1_))
        refine zr_callV (hf.w hW) hf.x (pc := 107) [.int (Int32.ofInt v18_)] [] l_M_397 (c_M_areAlike l Mz (hf.w hW) v18_ hv18_a hv18_b T hO p0_ (show 0 ≤ v18_ by first | with_reducible assumption | (exact zo_574 hf_x.2.1 hv18_ hv18_a) | assumption)) rfl rfl rfl (by decide) (Nat.le_of_ble_eq_true rfl) (zdal_p dlD_M_sort_15 (i := 21) rfl) ?_
        rintro _ N19_ ⟨v20_, rfl, ⟨hv20_a, hv20_b⟩, hsN19_, hp0_N19_⟩
        obtain rfl := hsN19_.eq.symm
        replace hp0_N19_ : (v20_ = 0 ∨ v20_ = 1) := hp0_N19_
        show zW l m_M_sort (zn Mz + 0, zw Mz + 0) Mz 110 [some (.ref 81), some (.int (Int32.ofInt a0_)), some (.int (Int32.ofInt a1_))] [.int (Int32.ofInt v20_)] (zpI [] [] Mz (fun v N => True))
        refine zr_callS hf.x (pc := 110) [.int (Int32.ofInt v20_)] [] l_M_256 (c_M_truth l Mz (hf.w hW) v20_ hv20_a hv20_b (by (exact hp0_N19_))) rfl rfl (by decide) (Nat.le_of_ble_eq_true rfl) (zdal_p dlD_M_sort_15 (i := 22) rfl) ?_
        rintro _ N21_ ⟨v22_, rfl, ⟨hv22_a, hv22_b⟩, hsN21_, hp0_N21_⟩
        obtain rfl := hsN21_.eq.symm
        replace hp0_N21_ : v22_ = v20_ := hp0_N21_
        show zW l m_M_sort (zn Mz + 0, zw Mz + 0) Mz 113 [some (.ref 81), some (.int (Int32.ofInt a0_)), some (.int (Int32.ofInt a1_))] [.int (Int32.ofInt v22_)] (zpI [] [] Mz (fun v N => True))
        exact zr_iret (pc := 113) (ty := .int) rfl rfl ⟨by (exact hv22_a), by (exact hv22_b)⟩ hf trivial (zdal_p dlD_M_sort_15 (i := 23) rfl)
      refine zr_tabOut (tgt := 114) ⟨ha1_a, ha1_b⟩ (by omega) (by decide) d_M_sort_11 ?_
      refine zw_iconst (pc := 114) (v := Int32.ofInt (-1)) (by decide) (zdal_p dlD_M_sort_16 (i := 0) rfl) ?_
      exact zr_iret (pc := 115) (ty := .int) rfl rfl ⟨by (decide), by (decide)⟩ hf trivial (zdal_p dlD_M_sort_16 (i := 1) rfl)
    · skip
      exact absurd hc_5 (by decide)
  · skip
    show zW l m_M_sort (zn Mz + 0, zw Mz + 0) Mz 5 [some (.ref 81), some (.int (Int32.ofInt a0_)), some (.int (Int32.ofInt a1_))] [.int (Int32.ofInt 0)] (zpI [] [] Mz (fun v N => True))
    refine zr_if_ne (pc := 5) (tgt := 10) ⟨(by decide), (by decide)⟩ (by decide) (zdal_p dlD_M_sort_14 (i := 3) rfl) (fun hc_5 => ?_) (fun hc_5 => ?_)
    · skip
      exact absurd hc_5 (by decide)
    · skip
      refine zw_iconst (pc := 8) (v := Int32.ofInt (-1)) (by decide) (zdal_p dlD_M_sort_14 (i := 4) rfl) ?_
      exact zr_iret (pc := 9) (ty := .int) rfl rfl ⟨by (decide), by (decide)⟩ hf trivial (zdal_p dlD_M_sort_14 (i := 5) rfl)
set_option maxHeartbeats 4000000 in
theorem c_M_within (l : Launch) (Mz : zMem) (hW : zMt Mz) (a0_ : Int) (ha0_a : -2147483648 ≤ a0_) (ha0_b : a0_ < 2147483648) (a1_ : Int) (ha1_a : -2147483648 ≤ a1_) (ha1_b : a1_ < 2147483648) (T : zGT) (hO : gOK T) (p0_ : zGB T Mz) : zC l m_M_within 0 0 [.ref 81, .int (Int32.ofInt a0_), .int (Int32.ofInt a1_)] Mz (zpI [] [] Mz (fun v N => True)) := by
  refine zC_of (L0 := [some (.ref 81), some (.int (Int32.ofInt a0_)), some (.int (Int32.ofInt a1_)), none, none]) md_M_within (Nat.le_of_ble_eq_true rfl) rfl ?_ zQ0
  have hf : zFr [] [] Mz Mz := zFr.rf
  have r_25 := ze_r Mz 81 25
  have r_26 := ze_r Mz 81 26
  have hG := hO.1
  have g24 := hG.2.1
  have g1 := hG.1
  have dv0 : zTab T Mz := p0_.1
  have dv1 : zB 85 144 0 5 Mz := p0_.2.1
  have dv2 : zJX T Mz := p0_.2.2.1
  have dv3 : zFirs T Mz := p0_.2.2.2.1
  have dv4 : zSSm T Mz := p0_.2.2.2.2.1
  have dv5 : zGD Mz := zGB.d hO p0_
  have gb := dv5.1
  have gn := dv0.1
  refine zw_aload_n (pc := 0) (n := 0) (x := 81) rfl (zdal_p dlD_M_within_23 (i := 0) rfl) ?_
  refine zw_iload_n (pc := 1) (n := 1) (x := Int32.ofInt a0_) rfl (zdal_p dlD_M_within_23 (i := 1) rfl) ?_
  refine zr_callV (hf.w hW) hf.x (pc := 2) [.int (Int32.ofInt a0_)] [] l_M_414 (c_M_isSort l Mz (hf.w hW) a0_ ha0_a ha0_b T hO p0_) rfl rfl rfl (by decide) (Nat.le_of_ble_eq_true rfl) (zdal_p dlD_M_within_23 (i := 2) rfl) ?_
  rintro _ N1_ ⟨v2_, rfl, ⟨hv2_a, hv2_b⟩, hsN1_, hp0_N1_⟩
  obtain rfl := hsN1_.eq.symm
  replace hp0_N1_ : ((v2_ = 1 ∧ 0 ≤ a0_ ∧ a0_ < ze Mz 81 26) ∨ (v2_ = 0)) := hp0_N1_
  rcases hp0_N1_ with ⟨rfl, ha2_0_hp0_N1_, ha2_1_hp0_N1_⟩ | rfl
  · skip
    show zW l m_M_within (zn Mz + 0, zw Mz + 0) Mz 5 [some (.ref 81), some (.int (Int32.ofInt a0_)), some (.int (Int32.ofInt a1_)), none, none] [.int (Int32.ofInt 1)] (zpI [] [] Mz (fun v N => True))
    refine zr_if_eq (pc := 5) (tgt := 16) ⟨(by decide), (by decide)⟩ (by decide) (zdal_p dlD_M_within_23 (i := 3) rfl) (fun hc_5 => ?_) (fun hc_5 => ?_)
    · skip
      exact absurd hc_5 (by decide)
    · skip
      refine zw_aload_n (pc := 8) (n := 0) (x := 81) rfl (zdal_p dlD_M_within_23 (i := 4) rfl) ?_
      refine zw_iload_n (pc := 9) (n := 2) (x := Int32.ofInt a1_) rfl (zdal_p dlD_M_within_23 (i := 5) rfl) ?_
      refine zr_callV (hf.w hW) hf.x (pc := 10) [.int (Int32.ofInt a1_)] [] l_M_414 (c_M_isSort l Mz (hf.w hW) a1_ ha1_a ha1_b T hO p0_) rfl rfl rfl (by decide) (Nat.le_of_ble_eq_true rfl) (zdal_p dlD_M_within_23 (i := 6) rfl) ?_
      rintro _ N3_ ⟨v4_, rfl, ⟨hv4_a, hv4_b⟩, hsN3_, hp0_N3_⟩
      obtain rfl := hsN3_.eq.symm
      replace hp0_N3_ : ((v4_ = 1 ∧ 0 ≤ a1_ ∧ a1_ < ze Mz 81 26) ∨ (v4_ = 0)) := hp0_N3_
      rcases hp0_N3_ with ⟨rfl, ha10_0_hp0_N3_, ha10_1_hp0_N3_⟩ | rfl
      · skip
        show zW l m_M_within (zn Mz + 0, zw Mz + 0) Mz 13 [some (.ref 81), some (.int (Int32.ofInt a0_)), some (.int (Int32.ofInt a1_)), none, none] [.int (Int32.ofInt 1)] (zpI [] [] Mz (fun v N => True))
        refine zr_if_ne (pc := 13) (tgt := 18) ⟨(by decide), (by decide)⟩ (by decide) (zdal_p dlD_M_within_23 (i := 7) rfl) (fun hc_13 => ?_) (fun hc_13 => ?_)
        · skip
          refine zw_iconst (pc := 18) (v := Int32.ofInt 0) (by decide) (zdal_p dlD_M_within_23 (i := 10) rfl) ?_
          refine zw_istore_n (pc := 19) (i := 3) (L2 := [some (.ref 81), some (.int (Int32.ofInt a0_)), some (.int (Int32.ofInt a1_)), some (.int (Int32.ofInt 0)), none]) rfl (by decide) rfl (zdal_p dlD_M_within_23 (i := 11) rfl) ?_
          refine zw_iconst (pc := 20) (v := Int32.ofInt 0) (by decide) (zdal_p dlD_M_within_23 (i := 12) rfl) ?_
          refine zw_istore (pc := 21) (i := 4) (L2 := [some (.ref 81), some (.int (Int32.ofInt a0_)), some (.int (Int32.ofInt a1_)), some (.int (Int32.ofInt 0)), some (.int (Int32.ofInt 0))]) (by decide) rfl (zdal_p dlD_M_within_23 (i := 13) rfl) ?_
          have lp_23 : ∀ (n : Nat) (u5_ : Int) (hu5_a : -2147483648 ≤ u5_) (hu5_b : u5_ < 2147483648) (u6_ : Int) (hu6_a : -2147483648 ≤ u6_) (hu6_b : u6_ < 2147483648) (i7_ : 0 ≤ u6_), (ze Mz 81 25 - u6_).toNat < n → zW l m_M_within (zn Mz + 0, zw Mz + 0) Mz 23 [some (.ref 81), some (.int (Int32.ofInt a0_)), some (.int (Int32.ofInt a1_)), some (.int (Int32.ofInt u5_)), some (.int (Int32.ofInt u6_))] [] (zpI [] [] Mz (fun v N => True)) := by
            intro n
            induction n with
            | zero =>
              intro u5_ hu5_a hu5_b u6_ hu6_a hu6_b i7_ h0
              exact absurd h0 (Nat.not_lt_zero _)
            | succ n ih_23 =>
              intro u5_ hu5_a hu5_b u6_ hu6_a hu6_b i7_ hlt_23
              refine zw_iload (pc := 23) (i := 4) (x := Int32.ofInt u6_) rfl (zdal_p dlD_M_within_23 (i := 14) rfl) ?_
              refine zw_aload_n (pc := 25) (n := 0) (x := 81) rfl (zdal_p dlD_M_within_23 (i := 15) rfl) ?_
              refine zr_getI0 hf hW (pc := 26) (by decide) f_M_220 rfl (zdal_p dlD_M_within_23 (i := 16) rfl) ?_
              refine zr_icmp_ge (pc := 29) (tgt := 79) ⟨hu6_a, hu6_b⟩ ⟨(ze_r Mz 81 25).1, (ze_r Mz 81 25).2⟩ (by decide) (zdal_p dlD_M_within_23 (i := 17) rfl) (fun hc_29 => ?_) (fun hc_29 => ?_)
              · skip
                refine zw_iload_n (pc := 79) (n := 3) (x := Int32.ofInt u5_) rfl (zdal_p dlD_M_within_24 (i := 21) rfl) ?_
                exact zr_iret (pc := 80) (ty := .int) rfl rfl ⟨by (exact hu5_a), by (exact hu5_b)⟩ hf trivial (zdal_p dlD_M_within_24 (i := 22) rfl)
              · skip
                refine zw_iload_n (pc := 32) (n := 3) (x := Int32.ofInt u5_) rfl (zdal_p dlD_M_within_23 (i := 18) rfl) ?_
                refine zw_aload_n (pc := 33) (n := 0) (x := 81) rfl (zdal_p dlD_M_within_23 (i := 19) rfl) ?_
                refine zr_getF (r := 90) (hf.w hW) (pc := 34) f_M_41 rfl (zh_90 (hf.w hW)).1 (zdal_p dlD_M_within_23 (i := 20) rfl) ?_
                refine zw_iload (pc := 37) (i := 4) (x := Int32.ofInt u6_) rfl (zdal_p dlD_M_within_23 (i := 21) rfl) ?_
                refine zr_ialdn (pc := 39) (zh_90 (hf.w hW)).2 (by decide) (by (exact i7_)) (by (exact zo_907 gb.2.2.2.1 hc_29)) (zdal_p dlD_M_within_23 (i := 22) rfl) (fun v8_ hv8_ hv8_a hv8_b => ?_)
                refine zw_iload_n (pc := 40) (n := 1) (x := Int32.ofInt a0_) rfl (zdal_p dlD_M_within_23 (i := 23) rfl) ?_
                refine zr_icmp_ne (pc := 41) (tgt := 67) ⟨hv8_a, hv8_b⟩ ⟨ha0_a, ha0_b⟩ (by decide) (zdal_p dlD_M_within_24 (i := 0) rfl) (fun hc_41 => ?_) (fun hc_41 => ?_)
                · skip
                  refine zw_iconst (pc := 67) (v := Int32.ofInt 0) (by decide) (zdal_p dlD_M_within_24 (i := 15) rfl) ?_
                  refine zr_callS hf.x (pc := 68) [.int (Int32.ofInt 0)] [.int (Int32.ofInt u5_)] l_M_256 (c_M_truth l Mz (hf.w hW) 0 (by decide) (by decide) (by (decide))) rfl rfl (by decide) (Nat.le_of_ble_eq_true rfl) (zdal_p dlD_M_within_24 (i := 16) rfl) ?_
                  rintro _ N9_ ⟨v10_, rfl, ⟨hv10_a, hv10_b⟩, hsN9_, hp0_N9_⟩
                  obtain rfl := hsN9_.eq.symm
                  replace hp0_N9_ : v10_ = 0 := hp0_N9_
                  show zW l m_M_within (zn Mz + 0, zw Mz + 0) Mz 71 [some (.ref 81), some (.int (Int32.ofInt a0_)), some (.int (Int32.ofInt a1_)), some (.int (Int32.ofInt u5_)), some (.int (Int32.ofInt u6_))] [.int (Int32.ofInt v10_), .int (Int32.ofInt u5_)] (zpI [] [] Mz (fun v N => True))
                  refine zr_iadd (pc := 71) (zdal_p dlD_M_within_24 (i := 17) rfl) ?_
                  refine zr_nmI (fun v11_ hv11_ => ?_)
                  obtain ⟨hv11_a, hv11_b⟩ := hv11_
                  refine zw_istore_n (pc := 72) (i := 3) (L2 := [some (.ref 81), some (.int (Int32.ofInt a0_)), some (.int (Int32.ofInt a1_)), some (.int (Int32.ofInt v11_)), some (.int (Int32.ofInt u6_))]) rfl (by decide) rfl (zdal_p dlD_M_within_24 (i := 18) rfl) ?_
                  refine zr_iinc (pc := 73) (i := 4) (a := u6_) (n := 1) (L2 := [some (.ref 81), some (.int (Int32.ofInt a0_)), some (.int (Int32.ofInt a1_)), some (.int (Int32.ofInt v11_)), some (.int (Int32.ofInt (u6_ + 1)))]) rfl (by decide) rfl (zdal_p dlD_M_within_24 (i := 19) rfl) ?_
                  refine zw_goto (pc := 76) (tgt := 23) (by decide) (zdal_p dlD_M_within_24 (i := 20) rfl) ?_
                  exact ih_23 v11_ hv11_a hv11_b (u6_ + 1) (by (exact zo_74 i7_)) (by (exact zo_832 gb.2.2.2.1 hc_29)) (show 0 ≤ (u6_ + 1) by first | with_reducible assumption | (exact zo_76 i7_) | assumption) (by (exact zo_147 hc_29 hlt_23))
                · skip
                  refine zw_aload_n (pc := 44) (n := 0) (x := 81) rfl (zdal_p dlD_M_within_24 (i := 1) rfl) ?_
                  refine zr_getF (r := 89) (hf.w hW) (pc := 45) f_M_38 rfl (zh_89 (hf.w hW)).1 (zdal_p dlD_M_within_24 (i := 2) rfl) ?_
                  refine zw_iload (pc := 48) (i := 4) (x := Int32.ofInt u6_) rfl (zdal_p dlD_M_within_24 (i := 3) rfl) ?_
                  refine zr_ialdn (pc := 50) (zh_89 (hf.w hW)).2 (by decide) (by (exact i7_)) (by (exact zo_907 gb.2.2.2.1 hc_29)) (zdal_p dlD_M_within_24 (i := 4) rfl) (fun v12_ hv12_ hv12_a hv12_b => ?_)
                  refine zw_aload_n (pc := 51) (n := 0) (x := 81) rfl (zdal_p dlD_M_within_24 (i := 5) rfl) ?_
                  refine zr_getF (r := 91) (hf.w hW) (pc := 52) f_M_44 rfl (zh_91 (hf.w hW)).1 (zdal_p dlD_M_within_24 (i := 6) rfl) ?_
                  refine zw_iload_n (pc := 55) (n := 2) (x := Int32.ofInt a1_) rfl (zdal_p dlD_M_within_24 (i := 7) rfl) ?_
                  refine zr_ialdn (pc := 56) (zh_91 (hf.w hW)).2 (by decide) (by (exact ha10_0_hp0_N3_)) (by (exact zo_837 gb.2.2.2.2.2 ha10_1_hp0_N3_ ha1_b)) (zdal_p dlD_M_within_24 (i := 8) rfl) (fun v13_ hv13_ hv13_a hv13_b => ?_)
                  refine zw_iconst (pc := 57) (v := Int32.ofInt (-1)) (by decide) (zdal_p dlD_M_within_24 (i := 9) rfl) ?_
                  refine zr_ixor (pc := 58) (zdal_p dlD_M_within_24 (i := 10) rfl) ?_
                  have hr14_ := zxor_r v13_ ((-1))
                  refine zr_iand (pc := 59) (zdal_p dlD_M_within_24 (i := 11) rfl) ?_
                  have hr15_ := zand_r v12_ (zxor v13_ ((-1)))
                  refine zr_if_ne (pc := 60) (tgt := 67) ⟨(by (exact zo_284 hr15_.1)), (by (exact zo_285 hr15_.2))⟩ (by decide) (zdal_p dlD_M_within_24 (i := 12) rfl) (fun hc_60 => ?_) (fun hc_60 => ?_)
                  · skip
                    refine zw_iconst (pc := 67) (v := Int32.ofInt 0) (by decide) (zdal_p dlD_M_within_24 (i := 15) rfl) ?_
                    refine zr_callS hf.x (pc := 68) [.int (Int32.ofInt 0)] [.int (Int32.ofInt u5_)] l_M_256 (c_M_truth l Mz (hf.w hW) 0 (by decide) (by decide) (by (decide))) rfl rfl (by decide) (Nat.le_of_ble_eq_true rfl) (zdal_p dlD_M_within_24 (i := 16) rfl) ?_
                    rintro _ N16_ ⟨v17_, rfl, ⟨hv17_a, hv17_b⟩, hsN16_, hp0_N16_⟩
                    obtain rfl := hsN16_.eq.symm
                    replace hp0_N16_ : v17_ = 0 := hp0_N16_
                    show zW l m_M_within (zn Mz + 0, zw Mz + 0) Mz 71 [some (.ref 81), some (.int (Int32.ofInt a0_)), some (.int (Int32.ofInt a1_)), some (.int (Int32.ofInt u5_)), some (.int (Int32.ofInt u6_))] [.int (Int32.ofInt v17_), .int (Int32.ofInt u5_)] (zpI [] [] Mz (fun v N => True))
                    refine zr_iadd (pc := 71) (zdal_p dlD_M_within_24 (i := 17) rfl) ?_
                    refine zr_nmI (fun v18_ hv18_ => ?_)
                    obtain ⟨hv18_a, hv18_b⟩ := hv18_
                    refine zw_istore_n (pc := 72) (i := 3) (L2 := [some (.ref 81), some (.int (Int32.ofInt a0_)), some (.int (Int32.ofInt a1_)), some (.int (Int32.ofInt v18_)), some (.int (Int32.ofInt u6_))]) rfl (by decide) rfl (zdal_p dlD_M_within_24 (i := 18) rfl) ?_
                    refine zr_iinc (pc := 73) (i := 4) (a := u6_) (n := 1) (L2 := [some (.ref 81), some (.int (Int32.ofInt a0_)), some (.int (Int32.ofInt a1_)), some (.int (Int32.ofInt v18_)), some (.int (Int32.ofInt (u6_ + 1)))]) rfl (by decide) rfl (zdal_p dlD_M_within_24 (i := 19) rfl) ?_
                    refine zw_goto (pc := 76) (tgt := 23) (by decide) (zdal_p dlD_M_within_24 (i := 20) rfl) ?_
                    exact ih_23 v18_ hv18_a hv18_b (u6_ + 1) (by (exact zo_74 i7_)) (by (exact zo_832 gb.2.2.2.1 hc_29)) (show 0 ≤ (u6_ + 1) by first | with_reducible assumption | (exact zo_76 i7_) | assumption) (by (exact zo_147 hc_29 hlt_23))
                  · skip
                    refine zw_iconst (pc := 63) (v := Int32.ofInt 1) (by decide) (zdal_p dlD_M_within_24 (i := 13) rfl) ?_
                    refine zw_goto (pc := 64) (tgt := 68) (by decide) (zdal_p dlD_M_within_24 (i := 14) rfl) ?_
                    refine zr_callS hf.x (pc := 68) [.int (Int32.ofInt 1)] [.int (Int32.ofInt u5_)] l_M_256 (c_M_truth l Mz (hf.w hW) 1 (by decide) (by decide) (by (decide))) rfl rfl (by decide) (Nat.le_of_ble_eq_true rfl) (zdal_p dlD_M_within_24 (i := 16) rfl) ?_
                    rintro _ N19_ ⟨v20_, rfl, ⟨hv20_a, hv20_b⟩, hsN19_, hp0_N19_⟩
                    obtain rfl := hsN19_.eq.symm
                    replace hp0_N19_ : v20_ = 1 := hp0_N19_
                    show zW l m_M_within (zn Mz + 0, zw Mz + 0) Mz 71 [some (.ref 81), some (.int (Int32.ofInt a0_)), some (.int (Int32.ofInt a1_)), some (.int (Int32.ofInt u5_)), some (.int (Int32.ofInt u6_))] [.int (Int32.ofInt v20_), .int (Int32.ofInt u5_)] (zpI [] [] Mz (fun v N => True))
                    refine zr_iadd (pc := 71) (zdal_p dlD_M_within_24 (i := 17) rfl) ?_
                    refine zr_nmI (fun v21_ hv21_ => ?_)
                    obtain ⟨hv21_a, hv21_b⟩ := hv21_
                    refine zw_istore_n (pc := 72) (i := 3) (L2 := [some (.ref 81), some (.int (Int32.ofInt a0_)), some (.int (Int32.ofInt a1_)), some (.int (Int32.ofInt v21_)), some (.int (Int32.ofInt u6_))]) rfl (by decide) rfl (zdal_p dlD_M_within_24 (i := 18) rfl) ?_
                    refine zr_iinc (pc := 73) (i := 4) (a := u6_) (n := 1) (L2 := [some (.ref 81), some (.int (Int32.ofInt a0_)), some (.int (Int32.ofInt a1_)), some (.int (Int32.ofInt v21_)), some (.int (Int32.ofInt (u6_ + 1)))]) rfl (by decide) rfl (zdal_p dlD_M_within_24 (i := 19) rfl) ?_
                    refine zw_goto (pc := 76) (tgt := 23) (by decide) (zdal_p dlD_M_within_24 (i := 20) rfl) ?_
                    exact ih_23 v21_ hv21_a hv21_b (u6_ + 1) (by (exact zo_74 i7_)) (by (exact zo_832 gb.2.2.2.1 hc_29)) (show 0 ≤ (u6_ + 1) by first | with_reducible assumption | (exact zo_76 i7_) | assumption) (by (exact zo_147 hc_29 hlt_23))
          exact lp_23 _ 0 (by decide) (by decide) 0 (by decide) (by decide) (show 0 ≤ (0 : Int) by first | with_reducible assumption | (decide) | assumption) (Nat.lt_succ_self _)
        · skip
          exact absurd hc_13 (by decide)
      · skip
        show zW l m_M_within (zn Mz + 0, zw Mz + 0) Mz 13 [some (.ref 81), some (.int (Int32.ofInt a0_)), some (.int (Int32.ofInt a1_)), none, none] [.int (Int32.ofInt 0)] (zpI [] [] Mz (fun v N => True))
        refine zr_if_ne (pc := 13) (tgt := 18) ⟨(by decide), (by decide)⟩ (by decide) (zdal_p dlD_M_within_23 (i := 7) rfl) (fun hc_13 => ?_) (fun hc_13 => ?_)
        · skip
          exact absurd hc_13 (by decide)
        · skip
          refine zw_iconst (pc := 16) (v := Int32.ofInt (-1)) (by decide) (zdal_p dlD_M_within_23 (i := 8) rfl) ?_
          exact zr_iret (pc := 17) (ty := .int) rfl rfl ⟨by (decide), by (decide)⟩ hf trivial (zdal_p dlD_M_within_23 (i := 9) rfl)
  · skip
    show zW l m_M_within (zn Mz + 0, zw Mz + 0) Mz 5 [some (.ref 81), some (.int (Int32.ofInt a0_)), some (.int (Int32.ofInt a1_)), none, none] [.int (Int32.ofInt 0)] (zpI [] [] Mz (fun v N => True))
    refine zr_if_eq (pc := 5) (tgt := 16) ⟨(by decide), (by decide)⟩ (by decide) (zdal_p dlD_M_within_23 (i := 3) rfl) (fun hc_5 => ?_) (fun hc_5 => ?_)
    · skip
      refine zw_iconst (pc := 16) (v := Int32.ofInt (-1)) (by decide) (zdal_p dlD_M_within_23 (i := 8) rfl) ?_
      exact zr_iret (pc := 17) (ty := .int) rfl rfl ⟨by (decide), by (decide)⟩ hf trivial (zdal_p dlD_M_within_23 (i := 9) rfl)
    · skip
      exact absurd hc_5 (by decide)
set_option maxHeartbeats 4000000 in
theorem c_M_worksProduct (l : Launch) (Mz : zMem) (hW : zMt Mz) (a0_ : Int) (ha0_a : -2147483648 ≤ a0_) (ha0_b : a0_ < 2147483648) (a1_ : Int) (ha1_a : -2147483648 ≤ a1_) (ha1_b : a1_ < 2147483648) (T : zGT) (hO : gOK T) (p0_ : zGB T Mz) (p1_ : 0 ≤ a0_) (p2_ : a0_ < ze Mz 81 26) (p3_ : 0 ≤ a1_) (p4_ : a1_ < ze Mz 81 26) : zC l m_M_worksProduct 0 0 [.ref 81, .int (Int32.ofInt a0_), .int (Int32.ofInt a1_)] Mz (zpV [] [96, 105] Mz (fun N => True)) := by
  refine zC_of (L0 := [some (.ref 81), some (.int (Int32.ofInt a0_)), some (.int (Int32.ofInt a1_)), none]) md_M_worksProduct (Nat.le_of_ble_eq_true rfl) rfl ?_ zQ0
  have hf : zFr [] [96, 105] Mz Mz := zFr.rf
  have r_26 := ze_r Mz 81 26
  have hG := hO.1
  have g24 := hG.2.1
  have g1 := hG.1
  have dv0 : zTab T Mz := p0_.1
  have dv1 : zB 85 144 0 5 Mz := p0_.2.1
  have dv2 : zJX T Mz := p0_.2.2.1
  have dv3 : zFirs T Mz := p0_.2.2.2.1
  have dv4 : zSSm T Mz := p0_.2.2.2.2.1
  have dv5 : zGD Mz := zGB.d hO p0_
  have gb := dv5.1
  have gn := dv0.1
  refine zw_iconst (pc := 0) (v := Int32.ofInt 0) (by decide) (zdal_p dlD_M_worksProduct_27 (i := 0) rfl) ?_
  refine zw_istore_n (pc := 1) (i := 3) (L2 := [some (.ref 81), some (.int (Int32.ofInt a0_)), some (.int (Int32.ofInt a1_)), some (.int (Int32.ofInt 0))]) rfl (by decide) rfl (zdal_p dlD_M_worksProduct_27 (i := 1) rfl) ?_
  have lp_2 : ∀ (n : Nat) (u1_ : Int) (hu1_a : -2147483648 ≤ u1_) (hu1_b : u1_ < 2147483648) (N2_ : zMem) (hs3_ : zFr [] [96] Mz N2_) (i4_ : 0 ≤ u1_), (ze Mz 81 26 - u1_).toNat < n → zW l m_M_worksProduct (zn Mz + 0, zw Mz + 0) N2_ 2 [some (.ref 81), some (.int (Int32.ofInt a0_)), some (.int (Int32.ofInt a1_)), some (.int (Int32.ofInt u1_))] [] (zpV [] [96, 105] Mz (fun N => True)) := by
    intro n
    induction n with
    | zero =>
      intro u1_ hu1_a hu1_b N2_ hs3_ i4_ h0
      exact absurd h0 (Nat.not_lt_zero _)
    | succ n ih_2 =>
      intro u1_ hu1_a hu1_b N2_ hs3_ i4_ hlt_2
      have hf_N2_ : zFr [] [96, 105] Mz N2_ := hf.tr hs3_ (by decide) (by decide)
      have c11_ : zGD N2_ := zGD.fr hs3_ dv5 (by decide) (by decide)
      refine zw_iload_n (pc := 2) (n := 3) (x := Int32.ofInt u1_) rfl (zdal_p dlD_M_worksProduct_27 (i := 2) rfl) ?_
      refine zw_aload_n (pc := 3) (n := 0) (x := 81) rfl (zdal_p dlD_M_worksProduct_27 (i := 3) rfl) ?_
      refine zr_getI0 hf_N2_ hW (pc := 4) (by decide) f_M_235 rfl (zdal_p dlD_M_worksProduct_27 (i := 4) rfl) ?_
      refine zr_icmp_ge (pc := 7) (tgt := 47) ⟨hu1_a, hu1_b⟩ ⟨(ze_r Mz 81 26).1, (ze_r Mz 81 26).2⟩ (by decide) (zdal_p dlD_M_worksProduct_27 (i := 5) rfl) (fun hc_7 => ?_) (fun hc_7 => ?_)
      · skip
        refine zw_aload_n (pc := 47) (n := 0) (x := 81) rfl (zdal_p dlD_M_worksProduct_28 (i := 7) rfl) ?_
        refine zw_aload_n (pc := 48) (n := 0) (x := 81) rfl (zdal_p dlD_M_worksProduct_28 (i := 8) rfl) ?_
        refine zr_getF (r := 96) (hf_N2_.w hW) (pc := 49) f_M_60 rfl (zh_96 (hf_N2_.w hW)).1 (zdal_p dlD_M_worksProduct_28 (i := 9) rfl) ?_
        refine zw_aload_n (pc := 52) (n := 0) (x := 81) rfl (zdal_p dlD_M_worksProduct_28 (i := 10) rfl) ?_
        refine zr_getF (r := 105) (hf_N2_.w hW) (pc := 53) f_M_87 rfl (zh_105 (hf_N2_.w hW)).1 (zdal_p dlD_M_worksProduct_28 (i := 11) rfl) ?_
        refine zw_iconst (pc := 56) (v := Int32.ofInt 0) (by decide) (zdal_p dlD_M_worksProduct_28 (i := 12) rfl) ?_
        refine zr_callV (hf_N2_.w hW) hf_N2_.x (pc := 57) [.ref 96, .ref 105, .int (Int32.ofInt 0)] [] l_M_289 (c_M_numbers_96_105 l N2_ (hf_N2_.w hW) 0 (by decide) (by decide) c11_ (show 0 ≤ 0 by first | with_reducible assumption | (decide) | assumption) (show 0 ≤ 0 by first | with_reducible assumption | (decide) | assumption)) rfl rfl rfl (by decide) (Nat.le_of_ble_eq_true rfl) (zdal_p dlD_M_worksProduct_28 (i := 13) rfl) ?_
        rintro _ N12_ ⟨rfl, hsN12_, -⟩
        have hf_N12_ : zFr [] [96, 105] Mz N12_ := hf_N2_.tr hsN12_ (by decide) (by decide)
        show zW l m_M_worksProduct (zn Mz + 0, zw Mz + 0) N12_ 60 [some (.ref 81), some (.int (Int32.ofInt a0_)), some (.int (Int32.ofInt a1_)), some (.int (Int32.ofInt u1_))] [] (zpV [] [96, 105] Mz (fun N => True))
        exact zr_vret (pc := 60) rfl hf_N12_ trivial (zdal_p dlD_M_worksProduct_28 (i := 14) rfl)
      · skip
        refine zw_aload_n (pc := 10) (n := 0) (x := 81) rfl (zdal_p dlD_M_worksProduct_27 (i := 6) rfl) ?_
        refine zr_getF (r := 96) (hf_N2_.w hW) (pc := 11) f_M_60 rfl (zh_96 (hf_N2_.w hW)).1 (zdal_p dlD_M_worksProduct_27 (i := 7) rfl) ?_
        refine zw_iload_n (pc := 14) (n := 3) (x := Int32.ofInt u1_) rfl (zdal_p dlD_M_worksProduct_27 (i := 8) rfl) ?_
        refine zw_aload_n (pc := 15) (n := 0) (x := 81) rfl (zdal_p dlD_M_worksProduct_27 (i := 9) rfl) ?_
        refine zr_getF (r := 93) (hf_N2_.w hW) (pc := 16) f_M_50 rfl (zh_93 (hf_N2_.w hW)).1 (zdal_p dlD_M_worksProduct_27 (i := 10) rfl) ?_
        refine zw_bipush (pc := 19) (v := Int32.ofInt 64) (by decide) (zdal_p dlD_M_worksProduct_27 (i := 11) rfl) ?_
        refine zw_iload_n (pc := 21) (n := 1) (x := Int32.ofInt a0_) rfl (zdal_p dlD_M_worksProduct_27 (i := 12) rfl) ?_
        refine zr_imul (pc := 22) (zdal_p dlD_M_worksProduct_27 (i := 13) rfl) ?_
        refine zw_iload_n (pc := 23) (n := 3) (x := Int32.ofInt u1_) rfl (zdal_p dlD_M_worksProduct_27 (i := 14) rfl) ?_
        refine zr_iadd (pc := 24) (zdal_p dlD_M_worksProduct_27 (i := 15) rfl) ?_
        refine zr_ialdn (pc := 25) (zh_93 (hf_N2_.w hW)).2 (by decide) (by (exact zo_908 i4_ p1_)) (by (exact zo_909 gb.2.2.2.2.2 hc_7 p2_)) (zdal_p dlD_M_worksProduct_27 (i := 16) rfl) (fun v21_ hv21_ hv21_a hv21_b => ?_)
        rw [hf_N2_.ie (by decide) (by decide)] at hv21_
        refine zr_i2l (pc := 26) ⟨hv21_a, hv21_b⟩ (zdal_p dlD_M_worksProduct_27 (i := 17) rfl) ?_
        refine zw_aload_n (pc := 27) (n := 0) (x := 81) rfl (zdal_p dlD_M_worksProduct_27 (i := 18) rfl) ?_
        refine zr_getF (r := 93) (hf_N2_.w hW) (pc := 28) f_M_50 rfl (zh_93 (hf_N2_.w hW)).1 (zdal_p dlD_M_worksProduct_27 (i := 19) rfl) ?_
        refine zw_bipush (pc := 31) (v := Int32.ofInt 64) (by decide) (zdal_p dlD_M_worksProduct_27 (i := 20) rfl) ?_
        refine zw_iload_n (pc := 33) (n := 2) (x := Int32.ofInt a1_) rfl (zdal_p dlD_M_worksProduct_27 (i := 21) rfl) ?_
        refine zr_imul (pc := 34) (zdal_p dlD_M_worksProduct_27 (i := 22) rfl) ?_
        refine zw_iload_n (pc := 35) (n := 3) (x := Int32.ofInt u1_) rfl (zdal_p dlD_M_worksProduct_27 (i := 23) rfl) ?_
        refine zr_iadd (pc := 36) (zdal_p dlD_M_worksProduct_28 (i := 0) rfl) ?_
        refine zr_ialdn (pc := 37) (zh_93 (hf_N2_.w hW)).2 (by decide) (by (exact zo_908 i4_ p3_)) (by (exact zo_909 gb.2.2.2.2.2 hc_7 p4_)) (zdal_p dlD_M_worksProduct_28 (i := 1) rfl) (fun v22_ hv22_ hv22_a hv22_b => ?_)
        rw [hf_N2_.ie (by decide) (by decide)] at hv22_
        refine zr_i2l (pc := 38) ⟨hv22_a, hv22_b⟩ (zdal_p dlD_M_worksProduct_28 (i := 2) rfl) ?_
        refine zr_lmul (pc := 39) (zdal_p dlD_M_worksProduct_28 (i := 3) rfl) ?_
        refine zr_last (pc := 40) (zh_96 (hf_N2_.w hW)).2 (by decide) (by decide) (by (exact i4_)) (by (exact zo_831 gb.2.2.2.2.2 hc_7)) (zdal_p dlD_M_worksProduct_28 (i := 4) rfl) (fun N23_ hN23_ hsN23_ => ?_)
        have hf_N23_ : zFr [] [96, 105] Mz N23_ := hf_N2_.tr hsN23_ (by decide) (by decide)
        have hb0_N23_ : zFr [] [96] Mz N23_ := hs3_.tr hsN23_ (by decide) (by decide)
        refine zr_iinc (pc := 41) (i := 3) (a := u1_) (n := 1) (L2 := [some (.ref 81), some (.int (Int32.ofInt a0_)), some (.int (Int32.ofInt a1_)), some (.int (Int32.ofInt (u1_ + 1)))]) rfl (by decide) rfl (zdal_p dlD_M_worksProduct_28 (i := 5) rfl) ?_
        refine zw_goto (pc := 44) (tgt := 2) (by decide) (zdal_p dlD_M_worksProduct_28 (i := 6) rfl) ?_
        exact ih_2 (u1_ + 1) (by (exact zo_74 i4_)) (by (exact zo_832 gb.2.2.2.2.2 hc_7)) N23_ hb0_N23_ (show 0 ≤ (u1_ + 1) by first | with_reducible assumption | (exact zo_76 i4_) | assumption) (by (exact zo_147 hc_7 hlt_2))
  exact lp_2 _ 0 (by decide) (by decide) Mz zFr.rf (show 0 ≤ (0 : Int) by first | with_reducible assumption | (decide) | assumption) (Nat.lt_succ_self _)
set_option maxHeartbeats 4000000 in
theorem c_M_product (l : Launch) (Mz : zMem) (hW : zMt Mz) (a0_ : Int) (ha0_a : -2147483648 ≤ a0_) (ha0_b : a0_ < 2147483648) (a1_ : Int) (ha1_a : -2147483648 ≤ a1_) (ha1_b : a1_ < 2147483648) (a2_ : Int) (ha2_a : -2147483648 ≤ a2_) (ha2_b : a2_ < 2147483648) (T : zGT) (hO : gOK T) (p0_ : zGB T Mz) : zC l m_M_product 0 0 [.ref 81, .int (Int32.ofInt a0_), .int (Int32.ofInt a1_), .int (Int32.ofInt a2_)] Mz (zpI [] [96, 105] Mz (fun v N => True)) := by
  refine zC_of (L0 := [some (.ref 81), some (.int (Int32.ofInt a0_)), some (.int (Int32.ofInt a1_)), some (.int (Int32.ofInt a2_))]) md_M_product (Nat.le_of_ble_eq_true rfl) rfl ?_ zQ0
  have hf : zFr [] [96, 105] Mz Mz := zFr.rf
  have r_26 := ze_r Mz 81 26
  have hG := hO.1
  have g24 := hG.2.1
  have g1 := hG.1
  have dv0 : zTab T Mz := p0_.1
  have dv1 : zB 85 144 0 5 Mz := p0_.2.1
  have dv2 : zJX T Mz := p0_.2.2.1
  have dv3 : zFirs T Mz := p0_.2.2.2.1
  have dv4 : zSSm T Mz := p0_.2.2.2.2.1
  have dv5 : zGD Mz := zGB.d hO p0_
  have gb := dv5.1
  have gn := dv0.1
  refine zw_aload_n (pc := 0) (n := 0) (x := 81) rfl (zdal_p dlD_M_product_26 (i := 0) rfl) ?_
  refine zw_iload_n (pc := 1) (n := 1) (x := Int32.ofInt a0_) rfl (zdal_p dlD_M_product_26 (i := 1) rfl) ?_
  refine zr_callV (hf.w hW) hf.x (pc := 2) [.int (Int32.ofInt a0_)] [] l_M_414 (c_M_isSort l Mz (hf.w hW) a0_ ha0_a ha0_b T hO p0_) rfl rfl rfl (by decide) (Nat.le_of_ble_eq_true rfl) (zdal_p dlD_M_product_26 (i := 2) rfl) ?_
  rintro _ N1_ ⟨v2_, rfl, ⟨hv2_a, hv2_b⟩, hsN1_, hp0_N1_⟩
  obtain rfl := hsN1_.eq.symm
  replace hp0_N1_ : ((v2_ = 1 ∧ 0 ≤ a0_ ∧ a0_ < ze Mz 81 26) ∨ (v2_ = 0)) := hp0_N1_
  rcases hp0_N1_ with ⟨rfl, ha2_0_hp0_N1_, ha2_1_hp0_N1_⟩ | rfl
  · skip
    show zW l m_M_product (zn Mz + 0, zw Mz + 0) Mz 5 [some (.ref 81), some (.int (Int32.ofInt a0_)), some (.int (Int32.ofInt a1_)), some (.int (Int32.ofInt a2_))] [.int (Int32.ofInt 1)] (zpI [] [96, 105] Mz (fun v N => True))
    refine zr_if_eq (pc := 5) (tgt := 24) ⟨(by decide), (by decide)⟩ (by decide) (zdal_p dlD_M_product_26 (i := 3) rfl) (fun hc_5 => ?_) (fun hc_5 => ?_)
    · skip
      exact absurd hc_5 (by decide)
    · skip
      refine zw_aload_n (pc := 8) (n := 0) (x := 81) rfl (zdal_p dlD_M_product_26 (i := 4) rfl) ?_
      refine zw_iload_n (pc := 9) (n := 2) (x := Int32.ofInt a1_) rfl (zdal_p dlD_M_product_26 (i := 5) rfl) ?_
      refine zr_callV (hf.w hW) hf.x (pc := 10) [.int (Int32.ofInt a1_)] [] l_M_414 (c_M_isSort l Mz (hf.w hW) a1_ ha1_a ha1_b T hO p0_) rfl rfl rfl (by decide) (Nat.le_of_ble_eq_true rfl) (zdal_p dlD_M_product_26 (i := 6) rfl) ?_
      rintro _ N3_ ⟨v4_, rfl, ⟨hv4_a, hv4_b⟩, hsN3_, hp0_N3_⟩
      obtain rfl := hsN3_.eq.symm
      replace hp0_N3_ : ((v4_ = 1 ∧ 0 ≤ a1_ ∧ a1_ < ze Mz 81 26) ∨ (v4_ = 0)) := hp0_N3_
      rcases hp0_N3_ with ⟨rfl, ha10_0_hp0_N3_, ha10_1_hp0_N3_⟩ | rfl
      · skip
        show zW l m_M_product (zn Mz + 0, zw Mz + 0) Mz 13 [some (.ref 81), some (.int (Int32.ofInt a0_)), some (.int (Int32.ofInt a1_)), some (.int (Int32.ofInt a2_))] [.int (Int32.ofInt 1)] (zpI [] [96, 105] Mz (fun v N => True))
        refine zr_if_eq (pc := 13) (tgt := 24) ⟨(by decide), (by decide)⟩ (by decide) (zdal_p dlD_M_product_26 (i := 7) rfl) (fun hc_13 => ?_) (fun hc_13 => ?_)
        · skip
          exact absurd hc_13 (by decide)
        · skip
          refine zw_aload_n (pc := 16) (n := 0) (x := 81) rfl (zdal_p dlD_M_product_26 (i := 8) rfl) ?_
          refine zw_iload_n (pc := 17) (n := 3) (x := Int32.ofInt a2_) rfl (zdal_p dlD_M_product_26 (i := 9) rfl) ?_
          refine zr_callV (hf.w hW) hf.x (pc := 18) [.int (Int32.ofInt a2_)] [] l_M_414 (c_M_isSort l Mz (hf.w hW) a2_ ha2_a ha2_b T hO p0_) rfl rfl rfl (by decide) (Nat.le_of_ble_eq_true rfl) (zdal_p dlD_M_product_26 (i := 10) rfl) ?_
          rintro _ N5_ ⟨v6_, rfl, ⟨hv6_a, hv6_b⟩, hsN5_, hp0_N5_⟩
          obtain rfl := hsN5_.eq.symm
          replace hp0_N5_ : ((v6_ = 1 ∧ 0 ≤ a2_ ∧ a2_ < ze Mz 81 26) ∨ (v6_ = 0)) := hp0_N5_
          rcases hp0_N5_ with ⟨rfl, ha18_0_hp0_N5_, ha18_1_hp0_N5_⟩ | rfl
          · skip
            show zW l m_M_product (zn Mz + 0, zw Mz + 0) Mz 21 [some (.ref 81), some (.int (Int32.ofInt a0_)), some (.int (Int32.ofInt a1_)), some (.int (Int32.ofInt a2_))] [.int (Int32.ofInt 1)] (zpI [] [96, 105] Mz (fun v N => True))
            refine zr_if_ne (pc := 21) (tgt := 26) ⟨(by decide), (by decide)⟩ (by decide) (zdal_p dlD_M_product_26 (i := 11) rfl) (fun hc_21 => ?_) (fun hc_21 => ?_)
            · skip
              refine zw_aload_n (pc := 26) (n := 0) (x := 81) rfl (zdal_p dlD_M_product_26 (i := 14) rfl) ?_
              refine zw_iload_n (pc := 27) (n := 1) (x := Int32.ofInt a0_) rfl (zdal_p dlD_M_product_26 (i := 15) rfl) ?_
              refine zw_iload_n (pc := 28) (n := 2) (x := Int32.ofInt a1_) rfl (zdal_p dlD_M_product_26 (i := 16) rfl) ?_
              refine zr_callV (hf.w hW) hf.x (pc := 29) [.int (Int32.ofInt a0_), .int (Int32.ofInt a1_)] [] l_M_423 (c_M_worksProduct l Mz (hf.w hW) a0_ ha0_a ha0_b a1_ ha1_a ha1_b T hO p0_ (show 0 ≤ a0_ by first | with_reducible assumption | assumption | omega) (show a0_ < ze Mz 81 26 by first | with_reducible assumption | assumption | omega) (show 0 ≤ a1_ by first | with_reducible assumption | assumption | omega) (show a1_ < ze Mz 81 26 by first | with_reducible assumption | assumption | omega)) rfl rfl rfl (by decide) (Nat.le_of_ble_eq_true rfl) (zdal_p dlD_M_product_26 (i := 17) rfl) ?_
              rintro _ N7_ ⟨rfl, hsN7_, -⟩
              have hf_N7_ : zFr [] [96, 105] Mz N7_ := hf.tr hsN7_ (by decide) (by decide)
              show zW l m_M_product (zn Mz + 0, zw Mz + 0) N7_ 32 [some (.ref 81), some (.int (Int32.ofInt a0_)), some (.int (Int32.ofInt a1_)), some (.int (Int32.ofInt a2_))] [] (zpI [] [96, 105] Mz (fun v N => True))
              refine zw_aload_n (pc := 32) (n := 0) (x := 81) rfl (zdal_p dlD_M_product_26 (i := 18) rfl) ?_
              refine zr_getF (r := 105) (hf_N7_.w hW) (pc := 33) f_M_87 rfl (zh_105 (hf_N7_.w hW)).1 (zdal_p dlD_M_product_26 (i := 19) rfl) ?_
              refine zw_iload_n (pc := 36) (n := 3) (x := Int32.ofInt a2_) rfl (zdal_p dlD_M_product_26 (i := 20) rfl) ?_
              refine zr_laldn (pc := 37) (zh_105 (hf_N7_.w hW)).2 (by decide) (by (exact ha18_0_hp0_N5_)) (by (exact zo_837 gb.2.2.2.2.2 ha18_1_hp0_N5_ ha2_b)) (zdal_p dlD_M_product_26 (i := 21) rfl) (fun v16_ hv16_ hv16_a hv16_b => ?_)
              refine zr_l2i (pc := 38) (zdal_p dlD_M_product_26 (i := 22) rfl) ?_
              refine zr_nmI (fun v17_ hv17_ => ?_)
              obtain ⟨hv17_a, hv17_b⟩ := hv17_
              exact zr_iret (pc := 39) (ty := .int) rfl rfl ⟨by (exact hv17_a), by (exact hv17_b)⟩ hf_N7_ trivial (zdal_p dlD_M_product_26 (i := 23) rfl)
            · skip
              exact absurd hc_21 (by decide)
          · skip
            show zW l m_M_product (zn Mz + 0, zw Mz + 0) Mz 21 [some (.ref 81), some (.int (Int32.ofInt a0_)), some (.int (Int32.ofInt a1_)), some (.int (Int32.ofInt a2_))] [.int (Int32.ofInt 0)] (zpI [] [96, 105] Mz (fun v N => True))
            refine zr_if_ne (pc := 21) (tgt := 26) ⟨(by decide), (by decide)⟩ (by decide) (zdal_p dlD_M_product_26 (i := 11) rfl) (fun hc_21 => ?_) (fun hc_21 => ?_)
            · skip
              exact absurd hc_21 (by decide)
            · skip
              refine zw_iconst (pc := 24) (v := Int32.ofInt (-1)) (by decide) (zdal_p dlD_M_product_26 (i := 12) rfl) ?_
              exact zr_iret (pc := 25) (ty := .int) rfl rfl ⟨by (decide), by (decide)⟩ hf trivial (zdal_p dlD_M_product_26 (i := 13) rfl)
      · skip
        show zW l m_M_product (zn Mz + 0, zw Mz + 0) Mz 13 [some (.ref 81), some (.int (Int32.ofInt a0_)), some (.int (Int32.ofInt a1_)), some (.int (Int32.ofInt a2_))] [.int (Int32.ofInt 0)] (zpI [] [96, 105] Mz (fun v N => True))
        refine zr_if_eq (pc := 13) (tgt := 24) ⟨(by decide), (by decide)⟩ (by decide) (zdal_p dlD_M_product_26 (i := 7) rfl) (fun hc_13 => ?_) (fun hc_13 => ?_)
        · skip
          refine zw_iconst (pc := 24) (v := Int32.ofInt (-1)) (by decide) (zdal_p dlD_M_product_26 (i := 12) rfl) ?_
          exact zr_iret (pc := 25) (ty := .int) rfl rfl ⟨by (decide), by (decide)⟩ hf trivial (zdal_p dlD_M_product_26 (i := 13) rfl)
        · skip
          exact absurd hc_13 (by decide)
  · skip
    show zW l m_M_product (zn Mz + 0, zw Mz + 0) Mz 5 [some (.ref 81), some (.int (Int32.ofInt a0_)), some (.int (Int32.ofInt a1_)), some (.int (Int32.ofInt a2_))] [.int (Int32.ofInt 0)] (zpI [] [96, 105] Mz (fun v N => True))
    refine zr_if_eq (pc := 5) (tgt := 24) ⟨(by decide), (by decide)⟩ (by decide) (zdal_p dlD_M_product_26 (i := 3) rfl) (fun hc_5 => ?_) (fun hc_5 => ?_)
    · skip
      refine zw_iconst (pc := 24) (v := Int32.ofInt (-1)) (by decide) (zdal_p dlD_M_product_26 (i := 12) rfl) ?_
      exact zr_iret (pc := 25) (ty := .int) rfl rfl ⟨by (decide), by (decide)⟩ hf trivial (zdal_p dlD_M_product_26 (i := 13) rfl)
    · skip
      exact absurd hc_5 (by decide)
set_option maxHeartbeats 4000000 in
theorem c_M_pairs (l : Launch) (Mz : zMem) (hW : zMt Mz) (a0_ : Int) (ha0_a : -2147483648 ≤ a0_) (ha0_b : a0_ < 2147483648) (a1_ : Int) (ha1_a : -2147483648 ≤ a1_) (ha1_b : a1_ < 2147483648) (T : zGT) (hO : gOK T) (p0_ : zGB T Mz) : zC l m_M_pairs 0 0 [.ref 81, .int (Int32.ofInt a0_), .int (Int32.ofInt a1_)] Mz (zpI [] [96, 105] Mz (fun v N => True)) := by
  refine zC_of (L0 := [some (.ref 81), some (.int (Int32.ofInt a0_)), some (.int (Int32.ofInt a1_)), none, none, none]) md_M_pairs (Nat.le_of_ble_eq_true rfl) rfl ?_ zQ0
  have hf : zFr [] [96, 105] Mz Mz := zFr.rf
  have r_26 := ze_r Mz 81 26
  have hG := hO.1
  have g24 := hG.2.1
  have g1 := hG.1
  have dv0 : zTab T Mz := p0_.1
  have dv1 : zB 85 144 0 5 Mz := p0_.2.1
  have dv2 : zJX T Mz := p0_.2.2.1
  have dv3 : zFirs T Mz := p0_.2.2.2.1
  have dv4 : zSSm T Mz := p0_.2.2.2.2.1
  have dv5 : zGD Mz := zGB.d hO p0_
  have gb := dv5.1
  have gn := dv0.1
  refine zw_aload_n (pc := 0) (n := 0) (x := 81) rfl (zdal_p dlD_M_pairs_29 (i := 0) rfl) ?_
  refine zw_iload_n (pc := 1) (n := 1) (x := Int32.ofInt a0_) rfl (zdal_p dlD_M_pairs_29 (i := 1) rfl) ?_
  refine zr_callV (hf.w hW) hf.x (pc := 2) [.int (Int32.ofInt a0_)] [] l_M_414 (c_M_isSort l Mz (hf.w hW) a0_ ha0_a ha0_b T hO p0_) rfl rfl rfl (by decide) (Nat.le_of_ble_eq_true rfl) (zdal_p dlD_M_pairs_29 (i := 2) rfl) ?_
  rintro _ N1_ ⟨v2_, rfl, ⟨hv2_a, hv2_b⟩, hsN1_, hp0_N1_⟩
  obtain rfl := hsN1_.eq.symm
  replace hp0_N1_ : ((v2_ = 1 ∧ 0 ≤ a0_ ∧ a0_ < ze Mz 81 26) ∨ (v2_ = 0)) := hp0_N1_
  rcases hp0_N1_ with ⟨rfl, ha2_0_hp0_N1_, ha2_1_hp0_N1_⟩ | rfl
  · skip
    show zW l m_M_pairs (zn Mz + 0, zw Mz + 0) Mz 5 [some (.ref 81), some (.int (Int32.ofInt a0_)), some (.int (Int32.ofInt a1_)), none, none, none] [.int (Int32.ofInt 1)] (zpI [] [96, 105] Mz (fun v N => True))
    refine zr_if_eq (pc := 5) (tgt := 16) ⟨(by decide), (by decide)⟩ (by decide) (zdal_p dlD_M_pairs_29 (i := 3) rfl) (fun hc_5 => ?_) (fun hc_5 => ?_)
    · skip
      exact absurd hc_5 (by decide)
    · skip
      refine zw_aload_n (pc := 8) (n := 0) (x := 81) rfl (zdal_p dlD_M_pairs_29 (i := 4) rfl) ?_
      refine zw_iload_n (pc := 9) (n := 2) (x := Int32.ofInt a1_) rfl (zdal_p dlD_M_pairs_29 (i := 5) rfl) ?_
      refine zr_callV (hf.w hW) hf.x (pc := 10) [.int (Int32.ofInt a1_)] [] l_M_414 (c_M_isSort l Mz (hf.w hW) a1_ ha1_a ha1_b T hO p0_) rfl rfl rfl (by decide) (Nat.le_of_ble_eq_true rfl) (zdal_p dlD_M_pairs_29 (i := 6) rfl) ?_
      rintro _ N3_ ⟨v4_, rfl, ⟨hv4_a, hv4_b⟩, hsN3_, hp0_N3_⟩
      obtain rfl := hsN3_.eq.symm
      replace hp0_N3_ : ((v4_ = 1 ∧ 0 ≤ a1_ ∧ a1_ < ze Mz 81 26) ∨ (v4_ = 0)) := hp0_N3_
      rcases hp0_N3_ with ⟨rfl, ha10_0_hp0_N3_, ha10_1_hp0_N3_⟩ | rfl
      · skip
        show zW l m_M_pairs (zn Mz + 0, zw Mz + 0) Mz 13 [some (.ref 81), some (.int (Int32.ofInt a0_)), some (.int (Int32.ofInt a1_)), none, none, none] [.int (Int32.ofInt 1)] (zpI [] [96, 105] Mz (fun v N => True))
        refine zr_if_ne (pc := 13) (tgt := 18) ⟨(by decide), (by decide)⟩ (by decide) (zdal_p dlD_M_pairs_29 (i := 7) rfl) (fun hc_13 => ?_) (fun hc_13 => ?_)
        · skip
          refine zw_aload_n (pc := 18) (n := 0) (x := 81) rfl (zdal_p dlD_M_pairs_29 (i := 10) rfl) ?_
          refine zw_iload_n (pc := 19) (n := 1) (x := Int32.ofInt a0_) rfl (zdal_p dlD_M_pairs_29 (i := 11) rfl) ?_
          refine zw_iload_n (pc := 20) (n := 2) (x := Int32.ofInt a1_) rfl (zdal_p dlD_M_pairs_29 (i := 12) rfl) ?_
          refine zr_callV (hf.w hW) hf.x (pc := 21) [.int (Int32.ofInt a0_), .int (Int32.ofInt a1_)] [] l_M_423 (c_M_worksProduct l Mz (hf.w hW) a0_ ha0_a ha0_b a1_ ha1_a ha1_b T hO p0_ (show 0 ≤ a0_ by first | with_reducible assumption | assumption | omega) (show a0_ < ze Mz 81 26 by first | with_reducible assumption | assumption | omega) (show 0 ≤ a1_ by first | with_reducible assumption | assumption | omega) (show a1_ < ze Mz 81 26 by first | with_reducible assumption | assumption | omega)) rfl rfl rfl (by decide) (Nat.le_of_ble_eq_true rfl) (zdal_p dlD_M_pairs_29 (i := 13) rfl) ?_
          rintro _ N5_ ⟨rfl, hsN5_, -⟩
          have hf_N5_ : zFr [] [96, 105] Mz N5_ := hf.tr hsN5_ (by decide) (by decide)
          show zW l m_M_pairs (zn Mz + 0, zw Mz + 0) N5_ 24 [some (.ref 81), some (.int (Int32.ofInt a0_)), some (.int (Int32.ofInt a1_)), none, none, none] [] (zpI [] [96, 105] Mz (fun v N => True))
          refine zw_lconst (pc := 24) (v := Int64.ofInt 0) (by decide) (zdal_p dlD_M_pairs_29 (i := 14) rfl) ?_
          refine zw_lstore_n (pc := 25) (i := 3) (L2 := [some (.ref 81), some (.int (Int32.ofInt a0_)), some (.int (Int32.ofInt a1_)), some (.long (Int64.ofInt 0)), none, none]) rfl (by decide) rfl (zdal_p dlD_M_pairs_29 (i := 15) rfl) ?_
          refine zw_iconst (pc := 26) (v := Int32.ofInt 0) (by decide) (zdal_p dlD_M_pairs_29 (i := 16) rfl) ?_
          refine zw_istore (pc := 27) (i := 5) (L2 := [some (.ref 81), some (.int (Int32.ofInt a0_)), some (.int (Int32.ofInt a1_)), some (.long (Int64.ofInt 0)), none, some (.int (Int32.ofInt 0))]) (by decide) rfl (zdal_p dlD_M_pairs_29 (i := 17) rfl) ?_
          have lp_29 : ∀ (n : Nat) (u14_ : Int) (hu14_a : -9223372036854775808 ≤ u14_) (hu14_b : u14_ < 9223372036854775808) (u15_ : Int) (hu15_a : -2147483648 ≤ u15_) (hu15_b : u15_ < 2147483648) (i16_ : 0 ≤ u15_), (ze Mz 81 26 - u15_).toNat < n → zW l m_M_pairs (zn Mz + 0, zw Mz + 0) N5_ 29 [some (.ref 81), some (.int (Int32.ofInt a0_)), some (.int (Int32.ofInt a1_)), some (.long (Int64.ofInt u14_)), none, some (.int (Int32.ofInt u15_))] [] (zpI [] [96, 105] Mz (fun v N => True)) := by
            intro n
            induction n with
            | zero =>
              intro u14_ hu14_a hu14_b u15_ hu15_a hu15_b i16_ h0
              exact absurd h0 (Nat.not_lt_zero _)
            | succ n ih_29 =>
              intro u14_ hu14_a hu14_b u15_ hu15_a hu15_b i16_ hlt_29
              refine zw_iload (pc := 29) (i := 5) (x := Int32.ofInt u15_) rfl (zdal_p dlD_M_pairs_29 (i := 18) rfl) ?_
              refine zw_aload_n (pc := 31) (n := 0) (x := 81) rfl (zdal_p dlD_M_pairs_29 (i := 19) rfl) ?_
              refine zr_getI0 hf_N5_ hW (pc := 32) (by decide) f_M_235 rfl (zdal_p dlD_M_pairs_29 (i := 20) rfl) ?_
              refine zr_icmp_ge (pc := 35) (tgt := 54) ⟨hu15_a, hu15_b⟩ ⟨(ze_r Mz 81 26).1, (ze_r Mz 81 26).2⟩ (by decide) (zdal_p dlD_M_pairs_29 (i := 21) rfl) (fun hc_35 => ?_) (fun hc_35 => ?_)
              · skip
                refine zw_lload_n (pc := 54) (n := 3) (x := Int64.ofInt u14_) rfl (zdal_p dlD_M_pairs_30 (i := 7) rfl) ?_
                refine zr_l2i (pc := 55) (zdal_p dlD_M_pairs_30 (i := 8) rfl) ?_
                refine zr_nmI (fun v17_ hv17_ => ?_)
                obtain ⟨hv17_a, hv17_b⟩ := hv17_
                exact zr_iret (pc := 56) (ty := .int) rfl rfl ⟨by (exact hv17_a), by (exact hv17_b)⟩ hf_N5_ trivial (zdal_p dlD_M_pairs_30 (i := 9) rfl)
              · skip
                refine zw_lload_n (pc := 38) (n := 3) (x := Int64.ofInt u14_) rfl (zdal_p dlD_M_pairs_29 (i := 22) rfl) ?_
                refine zw_aload_n (pc := 39) (n := 0) (x := 81) rfl (zdal_p dlD_M_pairs_29 (i := 23) rfl) ?_
                refine zr_getF (r := 105) (hf_N5_.w hW) (pc := 40) f_M_87 rfl (zh_105 (hf_N5_.w hW)).1 (zdal_p dlD_M_pairs_30 (i := 0) rfl) ?_
                refine zw_iload (pc := 43) (i := 5) (x := Int32.ofInt u15_) rfl (zdal_p dlD_M_pairs_30 (i := 1) rfl) ?_
                refine zr_laldn (pc := 45) (zh_105 (hf_N5_.w hW)).2 (by decide) (by (exact i16_)) (by (exact zo_831 gb.2.2.2.2.2 hc_35)) (zdal_p dlD_M_pairs_30 (i := 2) rfl) (fun v18_ hv18_ hv18_a hv18_b => ?_)
                refine zr_ladd (pc := 46) (zdal_p dlD_M_pairs_30 (i := 3) rfl) ?_
                refine zr_nmJ (fun v19_ hv19_ => ?_)
                obtain ⟨hv19_a, hv19_b⟩ := hv19_
                refine zw_lstore_n (pc := 47) (i := 3) (L2 := [some (.ref 81), some (.int (Int32.ofInt a0_)), some (.int (Int32.ofInt a1_)), some (.long (Int64.ofInt v19_)), none, some (.int (Int32.ofInt u15_))]) rfl (by decide) rfl (zdal_p dlD_M_pairs_30 (i := 4) rfl) ?_
                refine zr_iinc (pc := 48) (i := 5) (a := u15_) (n := 1) (L2 := [some (.ref 81), some (.int (Int32.ofInt a0_)), some (.int (Int32.ofInt a1_)), some (.long (Int64.ofInt v19_)), none, some (.int (Int32.ofInt (u15_ + 1)))]) rfl (by decide) rfl (zdal_p dlD_M_pairs_30 (i := 5) rfl) ?_
                refine zw_goto (pc := 51) (tgt := 29) (by decide) (zdal_p dlD_M_pairs_30 (i := 6) rfl) ?_
                exact ih_29 v19_ hv19_a hv19_b (u15_ + 1) (by (exact zo_74 i16_)) (by (exact zo_832 gb.2.2.2.2.2 hc_35)) (show 0 ≤ (u15_ + 1) by first | with_reducible assumption | (exact zo_76 i16_) | assumption) (by (exact zo_147 hc_35 hlt_29))
          exact lp_29 _ 0 (by decide) (by decide) 0 (by decide) (by decide) (show 0 ≤ (0 : Int) by first | with_reducible assumption | (decide) | assumption) (Nat.lt_succ_self _)
        · skip
          exact absurd hc_13 (by decide)
      · skip
        show zW l m_M_pairs (zn Mz + 0, zw Mz + 0) Mz 13 [some (.ref 81), some (.int (Int32.ofInt a0_)), some (.int (Int32.ofInt a1_)), none, none, none] [.int (Int32.ofInt 0)] (zpI [] [96, 105] Mz (fun v N => True))
        refine zr_if_ne (pc := 13) (tgt := 18) ⟨(by decide), (by decide)⟩ (by decide) (zdal_p dlD_M_pairs_29 (i := 7) rfl) (fun hc_13 => ?_) (fun hc_13 => ?_)
        · skip
          exact absurd hc_13 (by decide)
        · skip
          refine zw_iconst (pc := 16) (v := Int32.ofInt (-1)) (by decide) (zdal_p dlD_M_pairs_29 (i := 8) rfl) ?_
          exact zr_iret (pc := 17) (ty := .int) rfl rfl ⟨by (decide), by (decide)⟩ hf trivial (zdal_p dlD_M_pairs_29 (i := 9) rfl)
  · skip
    show zW l m_M_pairs (zn Mz + 0, zw Mz + 0) Mz 5 [some (.ref 81), some (.int (Int32.ofInt a0_)), some (.int (Int32.ofInt a1_)), none, none, none] [.int (Int32.ofInt 0)] (zpI [] [96, 105] Mz (fun v N => True))
    refine zr_if_eq (pc := 5) (tgt := 16) ⟨(by decide), (by decide)⟩ (by decide) (zdal_p dlD_M_pairs_29 (i := 3) rfl) (fun hc_5 => ?_) (fun hc_5 => ?_)
    · skip
      refine zw_iconst (pc := 16) (v := Int32.ofInt (-1)) (by decide) (zdal_p dlD_M_pairs_29 (i := 8) rfl) ?_
      exact zr_iret (pc := 17) (ty := .int) rfl rfl ⟨by (decide), by (decide)⟩ hf trivial (zdal_p dlD_M_pairs_29 (i := 9) rfl)
    · skip
      exact absurd hc_5 (by decide)
set_option maxHeartbeats 4000000 in
theorem c_M_isPrime (l : Launch) (Mz : zMem) (hW : zMt Mz) (a0_ : Int) (ha0_a : -2147483648 ≤ a0_) (ha0_b : a0_ < 2147483648) : zC l m_M_isPrime 0 0 [.int (Int32.ofInt a0_)] Mz (zpI [] [] Mz (fun v N => (((v = 1 ∧ (a0_ = 2 ∨ a0_ = 3 ∨ a0_ = 5)) ∨ (v = 0))))) := by
  refine zC_of (L0 := [some (.int (Int32.ofInt a0_))]) md_M_isPrime (Nat.le_of_ble_eq_true rfl) rfl ?_ zQ0
  have hf : zFr [] [] Mz Mz := zFr.rf
  refine zw_iload_n (pc := 0) (n := 0) (x := Int32.ofInt a0_) rfl (zdal_p dlD_M_isPrime_32 (i := 0) rfl) ?_
  refine zw_iconst (pc := 1) (v := Int32.ofInt 2) (by decide) (zdal_p dlD_M_isPrime_32 (i := 1) rfl) ?_
  refine zr_icmp_eq (pc := 2) (tgt := 15) ⟨ha0_a, ha0_b⟩ ⟨(by decide), (by decide)⟩ (by decide) (zdal_p dlD_M_isPrime_32 (i := 2) rfl) (fun hc_2 => ?_) (fun hc_2 => ?_)
  · skip
    refine zw_iconst (pc := 15) (v := Int32.ofInt 1) (by decide) (zdal_p dlD_M_isPrime_32 (i := 9) rfl) ?_
    refine zw_goto (pc := 16) (tgt := 20) (by decide) (zdal_p dlD_M_isPrime_32 (i := 10) rfl) ?_
    exact zr_iret (pc := 20) (ty := .boolean) rfl (z_narB (by (decide))) ⟨by (decide), by (decide)⟩ hf (show ((1 = 1 ∧ (a0_ = 2 ∨ a0_ = 3 ∨ a0_ = 5)) ∨ (1 = 0)) from Or.inl (⟨(show 1 = 1 by first | with_reducible assumption | (decide) | assumption), (show (a0_ = 2 ∨ a0_ = 3 ∨ a0_ = 5) by first | with_reducible assumption | (exact zo_910 hc_2) | assumption)⟩)) (zdal_p dlD_M_isPrime_32 (i := 12) rfl)
  · skip
    refine zw_iload_n (pc := 5) (n := 0) (x := Int32.ofInt a0_) rfl (zdal_p dlD_M_isPrime_32 (i := 3) rfl) ?_
    refine zw_iconst (pc := 6) (v := Int32.ofInt 3) (by decide) (zdal_p dlD_M_isPrime_32 (i := 4) rfl) ?_
    refine zr_icmp_eq (pc := 7) (tgt := 15) ⟨ha0_a, ha0_b⟩ ⟨(by decide), (by decide)⟩ (by decide) (zdal_p dlD_M_isPrime_32 (i := 5) rfl) (fun hc_7 => ?_) (fun hc_7 => ?_)
    · skip
      refine zw_iconst (pc := 15) (v := Int32.ofInt 1) (by decide) (zdal_p dlD_M_isPrime_32 (i := 9) rfl) ?_
      refine zw_goto (pc := 16) (tgt := 20) (by decide) (zdal_p dlD_M_isPrime_32 (i := 10) rfl) ?_
      exact zr_iret (pc := 20) (ty := .boolean) rfl (z_narB (by (decide))) ⟨by (decide), by (decide)⟩ hf (show ((1 = 1 ∧ (a0_ = 2 ∨ a0_ = 3 ∨ a0_ = 5)) ∨ (1 = 0)) from Or.inl (⟨(show 1 = 1 by first | with_reducible assumption | (decide) | assumption), (show (a0_ = 2 ∨ a0_ = 3 ∨ a0_ = 5) by first | with_reducible assumption | (exact zo_911 hc_7) | assumption)⟩)) (zdal_p dlD_M_isPrime_32 (i := 12) rfl)
    · skip
      refine zw_iload_n (pc := 10) (n := 0) (x := Int32.ofInt a0_) rfl (zdal_p dlD_M_isPrime_32 (i := 6) rfl) ?_
      refine zw_iconst (pc := 11) (v := Int32.ofInt 5) (by decide) (zdal_p dlD_M_isPrime_32 (i := 7) rfl) ?_
      refine zr_icmp_ne (pc := 12) (tgt := 19) ⟨ha0_a, ha0_b⟩ ⟨(by decide), (by decide)⟩ (by decide) (zdal_p dlD_M_isPrime_32 (i := 8) rfl) (fun hc_12 => ?_) (fun hc_12 => ?_)
      · skip
        refine zw_iconst (pc := 19) (v := Int32.ofInt 0) (by decide) (zdal_p dlD_M_isPrime_32 (i := 11) rfl) ?_
        exact zr_iret (pc := 20) (ty := .boolean) rfl (z_narB (by (decide))) ⟨by (decide), by (decide)⟩ hf (show ((0 = 1 ∧ (a0_ = 2 ∨ a0_ = 3 ∨ a0_ = 5)) ∨ (0 = 0)) from Or.inr ((show 0 = 0 by first | with_reducible assumption | (decide) | assumption))) (zdal_p dlD_M_isPrime_32 (i := 12) rfl)
      · skip
        refine zw_iconst (pc := 15) (v := Int32.ofInt 1) (by decide) (zdal_p dlD_M_isPrime_32 (i := 9) rfl) ?_
        refine zw_goto (pc := 16) (tgt := 20) (by decide) (zdal_p dlD_M_isPrime_32 (i := 10) rfl) ?_
        exact zr_iret (pc := 20) (ty := .boolean) rfl (z_narB (by (decide))) ⟨by (decide), by (decide)⟩ hf (show ((1 = 1 ∧ (a0_ = 2 ∨ a0_ = 3 ∨ a0_ = 5)) ∨ (1 = 0)) from Or.inl (⟨(show 1 = 1 by first | with_reducible assumption | (decide) | assumption), (show (a0_ = 2 ∨ a0_ = 3 ∨ a0_ = 5) by first | with_reducible assumption | (exact zo_912 hc_12) | assumption)⟩)) (zdal_p dlD_M_isPrime_32 (i := 12) rfl)
set_option maxHeartbeats 4000000 in
theorem c_M_residueOf (l : Launch) (Mz : zMem) (hW : zMt Mz) (a0_ : Int) (ha0_a : -2147483648 ≤ a0_) (ha0_b : a0_ < 2147483648) (a1_ : Int) (ha1_a : -2147483648 ≤ a1_) (ha1_b : a1_ < 2147483648) (T : zGT) (hO : gOK T) (p0_ : zGB T Mz) (p1_ : 0 ≤ a0_) (p2_ : a0_ < ze Mz 81 26) (p3_ : 2 ≤ a1_) : zC l m_M_residueOf 0 0 [.ref 81, .int (Int32.ofInt a0_), .int (Int32.ofInt a1_)] Mz (zpI [] [] Mz (fun v N => 0 ≤ v ∧ v < ze Mz 81 26)) := by
  refine zC_of (L0 := [some (.ref 81), some (.int (Int32.ofInt a0_)), some (.int (Int32.ofInt a1_)), none, none, none, none, none, none]) md_M_residueOf (Nat.le_of_ble_eq_true rfl) rfl ?_ zQ0
  have hf : zFr [] [] Mz Mz := zFr.rf
  have r_20 := ze_r Mz 81 20
  have r_25 := ze_r Mz 81 25
  have r_26 := ze_r Mz 81 26
  have hG := hO.1
  have g24 := hG.2.1
  have g1 := hG.1
  have dv0 : zTab T Mz := p0_.1
  have dv1 : zB 85 144 0 5 Mz := p0_.2.1
  have dv2 : zJX T Mz := p0_.2.2.1
  have dv3 : zFirs T Mz := p0_.2.2.2.1
  have dv4 : zSSm T Mz := p0_.2.2.2.2.1
  have dv5 : zGD Mz := zGB.d hO p0_
  have gb := dv5.1
  have gn := dv0.1
  refine zw_aload_n (pc := 0) (n := 0) (x := 81) rfl (zdal_p dlD_M_residueOf_33 (i := 0) rfl) ?_
  refine zr_getF (r := 91) (hf.w hW) (pc := 1) f_M_44 rfl (zh_91 (hf.w hW)).1 (zdal_p dlD_M_residueOf_33 (i := 1) rfl) ?_
  refine zw_iload_n (pc := 4) (n := 1) (x := Int32.ofInt a0_) rfl (zdal_p dlD_M_residueOf_33 (i := 2) rfl) ?_
  refine zr_ialdn (pc := 5) (zh_91 (hf.w hW)).2 (by decide) (by (exact p1_)) (by (exact zo_906 gb.2.2.2.2.2 ha0_b p2_)) (zdal_p dlD_M_residueOf_33 (i := 3) rfl) (fun v1_ hv1_ hv1_a hv1_b => ?_)
  have hf_x := dv3.g hO (e := a0_) (by (exact p1_)) (by (exact p2_))
  refine zr_toI (show v1_ = ze Mz 91 (a0_).toNat by (exact hv1_)) ?_
  have ho_x := hf_x.1.o hO
  refine zw_istore_n (pc := 6) (i := 3) (L2 := [some (.ref 81), some (.int (Int32.ofInt a0_)), some (.int (Int32.ofInt a1_)), some (.int (Int32.ofInt (ze Mz 91 (a0_).toNat))), none, none, none, none, none]) rfl (by decide) rfl (zdal_p dlD_M_residueOf_33 (i := 4) rfl) ?_
  refine zw_iload_n (pc := 7) (n := 3) (x := Int32.ofInt (ze Mz 91 (a0_).toNat)) rfl (zdal_p dlD_M_residueOf_33 (i := 5) rfl) ?_
  refine zw_istore (pc := 8) (i := 4) (L2 := [some (.ref 81), some (.int (Int32.ofInt a0_)), some (.int (Int32.ofInt a1_)), some (.int (Int32.ofInt (ze Mz 91 (a0_).toNat))), some (.int (Int32.ofInt (ze Mz 91 (a0_).toNat))), none, none, none, none]) (by decide) rfl (zdal_p dlD_M_residueOf_33 (i := 6) rfl) ?_
  refine zw_iconst (pc := 10) (v := Int32.ofInt 0) (by decide) (zdal_p dlD_M_residueOf_33 (i := 7) rfl) ?_
  refine zw_istore (pc := 11) (i := 5) (L2 := [some (.ref 81), some (.int (Int32.ofInt a0_)), some (.int (Int32.ofInt a1_)), some (.int (Int32.ofInt (ze Mz 91 (a0_).toNat))), some (.int (Int32.ofInt (ze Mz 91 (a0_).toNat))), some (.int (Int32.ofInt 0)), none, none, none]) (by decide) rfl (zdal_p dlD_M_residueOf_33 (i := 8) rfl) ?_
  have lp_13 : ∀ (n : Nat) (u2_ : Int) (hu2_a : -2147483648 ≤ u2_) (hu2_b : u2_ < 2147483648) (u3_ : Int) (hu3_a : -2147483648 ≤ u3_) (hu3_b : u3_ < 2147483648) (i4_ : 0 ≤ u3_) (i5_ : gMe T u2_) (i6_ : zcb u2_ 31 ≤ zcb (ze Mz 91 (a0_).toNat) 31), (ze Mz 81 25 - u3_).toNat < n → zW l m_M_residueOf (zn Mz + 0, zw Mz + 0) Mz 13 [some (.ref 81), some (.int (Int32.ofInt a0_)), some (.int (Int32.ofInt a1_)), some (.int (Int32.ofInt (ze Mz 91 (a0_).toNat))), some (.int (Int32.ofInt u2_)), some (.int (Int32.ofInt u3_)), none, none, none] [] (zpI [] [] Mz (fun v N => 0 ≤ v ∧ v < ze Mz 81 26)) := by
    intro n
    induction n with
    | zero =>
      intro u2_ hu2_a hu2_b u3_ hu3_a hu3_b i4_ i5_ i6_ h0
      exact absurd h0 (Nat.not_lt_zero _)
    | succ n ih_13 =>
      intro u2_ hu2_a hu2_b u3_ hu3_a hu3_b i4_ i5_ i6_ hlt_13
      have hb4 := (show gMe T u2_ by first | with_reducible assumption | exact hf_x.1 | assumption).b hO
      refine zw_iload (pc := 13) (i := 5) (x := Int32.ofInt u3_) rfl (zdal_p dlD_M_residueOf_33 (i := 9) rfl) ?_
      refine zw_aload_n (pc := 15) (n := 0) (x := 81) rfl (zdal_p dlD_M_residueOf_33 (i := 10) rfl) ?_
      refine zr_getI0 hf hW (pc := 16) (by decide) f_M_220 rfl (zdal_p dlD_M_residueOf_33 (i := 11) rfl) ?_
      refine zr_icmp_ge (pc := 19) (tgt := 185) ⟨hu3_a, hu3_b⟩ ⟨(ze_r Mz 81 25).1, (ze_r Mz 81 25).2⟩ (by decide) (zdal_p dlD_M_residueOf_33 (i := 12) rfl) (fun hc_19 => ?_) (fun hc_19 => ?_)
      · skip
        refine zw_aload_n (pc := 185) (n := 0) (x := 81) rfl (zdal_p dlD_M_residueOf_36 (i := 23) rfl) ?_
        refine zw_iload (pc := 186) (i := 4) (x := Int32.ofInt u2_) rfl (zdal_p dlD_M_residueOf_37 (i := 0) rfl) ?_
        refine zr_callV (hf.w hW) hf.x (pc := 188) [.int (Int32.ofInt u2_)] [] l_M_411 (c_M_sortOfSet l Mz (hf.w hW) u2_ hu2_a hu2_b T hO p0_ (show gMe T u2_ by first | with_reducible assumption | assumption)) rfl rfl rfl (by decide) (Nat.le_of_ble_eq_true rfl) (zdal_p dlD_M_residueOf_37 (i := 1) rfl) ?_
        rintro _ N7_ ⟨v8_, rfl, ⟨hv8_a, hv8_b⟩, hsN7_, ⟨hp0_N7_, hp1_N7_⟩⟩
        obtain rfl := hsN7_.eq.symm
        show zW l m_M_residueOf (zn Mz + 0, zw Mz + 0) Mz 191 [some (.ref 81), some (.int (Int32.ofInt a0_)), some (.int (Int32.ofInt a1_)), some (.int (Int32.ofInt (ze Mz 91 (a0_).toNat))), some (.int (Int32.ofInt u2_)), some (.int (Int32.ofInt u3_)), none, none, none] [.int (Int32.ofInt v8_)] _
        exact zr_iret (pc := 191) (ty := .int) rfl rfl ⟨by (exact hv8_a), by (exact hv8_b)⟩ hf ⟨(show 0 ≤ v8_ by first | with_reducible assumption | assumption | omega), (show v8_ < ze Mz 81 26 by first | with_reducible assumption | assumption | omega)⟩ (zdal_p dlD_M_residueOf_37 (i := 2) rfl)
      · skip
        refine zw_aload_n (pc := 22) (n := 0) (x := 81) rfl (zdal_p dlD_M_residueOf_33 (i := 13) rfl) ?_
        refine zr_getF (r := 89) (hf.w hW) (pc := 23) f_M_38 rfl (zh_89 (hf.w hW)).1 (zdal_p dlD_M_residueOf_33 (i := 14) rfl) ?_
        refine zw_iload (pc := 26) (i := 5) (x := Int32.ofInt u3_) rfl (zdal_p dlD_M_residueOf_33 (i := 15) rfl) ?_
        refine zr_ialdn (pc := 28) (zh_89 (hf.w hW)).2 (by decide) (by (exact i4_)) (by (exact zo_907 gb.2.2.2.1 hc_19)) (zdal_p dlD_M_residueOf_33 (i := 16) rfl) (fun v9_ hv9_ hv9_a hv9_b => ?_)
        have hs_x := dv2.g hO (e := u3_) (by (exact i4_)) (by (exact hc_19))
        refine zr_toI (show v9_ = ze Mz 89 (u3_).toNat by (exact hv9_)) ?_
        refine zw_iload_n (pc := 29) (n := 3) (x := Int32.ofInt (ze Mz 91 (a0_).toNat)) rfl (zdal_p dlD_M_residueOf_33 (i := 17) rfl) ?_
        refine zw_iconst (pc := 30) (v := Int32.ofInt (-1)) (by decide) (zdal_p dlD_M_residueOf_33 (i := 18) rfl) ?_
        refine zr_ixor (pc := 31) (zdal_p dlD_M_residueOf_33 (i := 19) rfl) ?_
        have hr10_ := zxor_r (ze Mz 91 (a0_).toNat) ((-1))
        refine zr_iand (pc := 32) (zdal_p dlD_M_residueOf_33 (i := 20) rfl) ?_
        have hr11_ := zand_r (ze Mz 89 (u3_).toNat) (zxor (ze Mz 91 (a0_).toNat) ((-1)))
        refine zr_if_ne (pc := 33) (tgt := 179) ⟨(by (exact zo_284 hr11_.1)), (by (exact zo_285 hr11_.2))⟩ (by decide) (zdal_p dlD_M_residueOf_33 (i := 21) rfl) (fun hc_33 => ?_) (fun hc_33 => ?_)
        · skip
          refine zr_iinc (pc := 179) (i := 5) (a := u3_) (n := 1) (L2 := [some (.ref 81), some (.int (Int32.ofInt a0_)), some (.int (Int32.ofInt a1_)), some (.int (Int32.ofInt (ze Mz 91 (a0_).toNat))), some (.int (Int32.ofInt u2_)), some (.int (Int32.ofInt (u3_ + 1))), none, none, none]) rfl (by decide) rfl d_M_residueOf_179 ?_
          refine zw_goto (pc := 182) (tgt := 13) (by decide) d_M_residueOf_182 ?_
          exact ih_13 u2_ hu2_a hu2_b (u3_ + 1) (by (exact zo_74 i4_)) (by (exact zo_832 gb.2.2.2.1 hc_19)) (show 0 ≤ (u3_ + 1) by first | with_reducible assumption | (exact zo_76 i4_) | assumption) (show gMe T u2_ by first | with_reducible assumption | exact hs_x.1 | assumption) (show zcb u2_ 31 ≤ zcb (ze Mz 91 (a0_).toNat) 31 by first | with_reducible assumption | assumption | omega) (by (exact zo_147 hc_19 hlt_13))
        · skip
          refine zw_aload_n (pc := 36) (n := 0) (x := 81) rfl (zdal_p dlD_M_residueOf_33 (i := 22) rfl) ?_
          refine zr_getF (r := 89) (hf.w hW) (pc := 37) f_M_38 rfl (zh_89 (hf.w hW)).1 (zdal_p dlD_M_residueOf_33 (i := 23) rfl) ?_
          refine zw_iload (pc := 40) (i := 5) (x := Int32.ofInt u3_) rfl (zdal_p dlD_M_residueOf_34 (i := 0) rfl) ?_
          refine zr_ialdn (pc := 42) (zh_89 (hf.w hW)).2 (by decide) (by (exact i4_)) (by (exact zo_907 gb.2.2.2.1 hc_19)) (zdal_p dlD_M_residueOf_34 (i := 1) rfl) (fun v12_ hv12_ hv12_a hv12_b => ?_)
          have hs_x := dv2.g hO (e := u3_) (by (exact i4_)) (by (exact hc_19))
          refine zr_toI (show v12_ = ze Mz 89 (u3_).toNat by (exact hv12_)) ?_
          have hp_x := hs_x.1.o hO
          refine zr_callS hf.x (pc := 43) [.int (Int32.ofInt (ze Mz 89 (u3_).toNat))] [] l_M_253 (c_M_ones l Mz (hf.w hW) (ze Mz 89 (u3_).toNat) (by (exact zo_168 hs_x.2.1)) (by (exact zo_550 hv12_ hv12_b)) (show 0 ≤ (ze Mz 89 (u3_).toNat) by first | with_reducible assumption | (exact zo_57 hs_x.2.1) | assumption)) rfl rfl (by decide) (Nat.le_of_ble_eq_true rfl) (zdal_p dlD_M_residueOf_34 (i := 2) rfl) ?_
          rintro _ N13_ ⟨v14_, rfl, ⟨hv14_a, hv14_b⟩, hsN13_, ⟨hp0_N13_, hp1_N13_, hp2_N13_⟩⟩
          obtain rfl := hsN13_.eq.symm
          show zW l m_M_residueOf (zn Mz + 0, zw Mz + 0) Mz 46 [some (.ref 81), some (.int (Int32.ofInt a0_)), some (.int (Int32.ofInt a1_)), some (.int (Int32.ofInt (ze Mz 91 (a0_).toNat))), some (.int (Int32.ofInt u2_)), some (.int (Int32.ofInt u3_)), none, none, none] [.int (Int32.ofInt v14_)] _
          refine zw_iload (pc := 46) (i := 4) (x := Int32.ofInt u2_) rfl (zdal_p dlD_M_residueOf_34 (i := 3) rfl) ?_
          refine zr_callS hf.x (pc := 48) [.int (Int32.ofInt u2_)] [.int (Int32.ofInt v14_)] l_M_253 (c_M_ones l Mz (hf.w hW) u2_ hu2_a hu2_b (show 0 ≤ u2_ by first | with_reducible assumption | (exact zo_57 hb4.1) | assumption)) rfl rfl (by decide) (Nat.le_of_ble_eq_true rfl) (zdal_p dlD_M_residueOf_34 (i := 4) rfl) ?_
          rintro _ N15_ ⟨v16_, rfl, ⟨hv16_a, hv16_b⟩, hsN15_, ⟨hp0_N15_, hp1_N15_, hp2_N15_⟩⟩
          obtain rfl := hsN15_.eq.symm
          show zW l m_M_residueOf (zn Mz + 0, zw Mz + 0) Mz 51 [some (.ref 81), some (.int (Int32.ofInt a0_)), some (.int (Int32.ofInt a1_)), some (.int (Int32.ofInt (ze Mz 91 (a0_).toNat))), some (.int (Int32.ofInt u2_)), some (.int (Int32.ofInt u3_)), none, none, none] [.int (Int32.ofInt v16_), .int (Int32.ofInt v14_)] _
          refine zr_icmp_lt (pc := 51) (tgt := 57) ⟨hv14_a, hv14_b⟩ ⟨hv16_a, hv16_b⟩ (by decide) (zdal_p dlD_M_residueOf_34 (i := 5) rfl) (fun hc_51 => ?_) (fun hc_51 => ?_)
          · skip
            refine zw_iload_n (pc := 57) (n := 3) (x := Int32.ofInt (ze Mz 91 (a0_).toNat)) rfl (zdal_p dlD_M_residueOf_34 (i := 7) rfl) ?_
            refine zr_callS hf.x (pc := 58) [.int (Int32.ofInt (ze Mz 91 (a0_).toNat))] [] l_M_253 (c_M_ones l Mz (hf.w hW) (ze Mz 91 (a0_).toNat) (by (exact zo_168 hf_x.2.1)) (by (exact zo_550 hv1_ hv1_b)) (show 0 ≤ (ze Mz 91 (a0_).toNat) by first | with_reducible assumption | (exact zo_57 hf_x.2.1) | assumption)) rfl rfl (by decide) (Nat.le_of_ble_eq_true rfl) (zdal_p dlD_M_residueOf_34 (i := 8) rfl) ?_
            rintro _ N17_ ⟨v18_, rfl, ⟨hv18_a, hv18_b⟩, hsN17_, ⟨hp0_N17_, hp1_N17_, hp2_N17_⟩⟩
            obtain rfl := hsN17_.eq.symm
            show zW l m_M_residueOf (zn Mz + 0, zw Mz + 0) Mz 61 [some (.ref 81), some (.int (Int32.ofInt a0_)), some (.int (Int32.ofInt a1_)), some (.int (Int32.ofInt (ze Mz 91 (a0_).toNat))), some (.int (Int32.ofInt u2_)), some (.int (Int32.ofInt u3_)), none, none, none] [.int (Int32.ofInt v18_)] _
            refine zw_aload_n (pc := 61) (n := 0) (x := 81) rfl (zdal_p dlD_M_residueOf_34 (i := 9) rfl) ?_
            refine zr_getF (r := 89) (hf.w hW) (pc := 62) f_M_38 rfl (zh_89 (hf.w hW)).1 (zdal_p dlD_M_residueOf_34 (i := 10) rfl) ?_
            refine zw_iload (pc := 65) (i := 5) (x := Int32.ofInt u3_) rfl (zdal_p dlD_M_residueOf_34 (i := 11) rfl) ?_
            refine zr_ialdn (pc := 67) (zh_89 (hf.w hW)).2 (by decide) (by (exact i4_)) (by (exact zo_907 gb.2.2.2.1 hc_19)) (zdal_p dlD_M_residueOf_34 (i := 12) rfl) (fun v19_ hv19_ hv19_a hv19_b => ?_)
            have hs_x := dv2.g hO (e := u3_) (by (exact i4_)) (by (exact hc_19))
            refine zr_toI (show v19_ = ze Mz 89 (u3_).toNat by (exact hv19_)) ?_
            refine zr_callS hf.x (pc := 68) [.int (Int32.ofInt (ze Mz 89 (u3_).toNat))] [.int (Int32.ofInt v18_)] l_M_253 (c_M_ones l Mz (hf.w hW) (ze Mz 89 (u3_).toNat) (by (exact zo_168 hs_x.2.1)) (by (exact zo_550 hv9_ hv9_b)) (show 0 ≤ (ze Mz 89 (u3_).toNat) by first | with_reducible assumption | (exact zo_57 hs_x.2.1) | assumption)) rfl rfl (by decide) (Nat.le_of_ble_eq_true rfl) (zdal_p dlD_M_residueOf_34 (i := 13) rfl) ?_
            rintro _ N20_ ⟨v21_, rfl, ⟨hv21_a, hv21_b⟩, hsN20_, ⟨hp0_N20_, hp1_N20_, hp2_N20_⟩⟩
            obtain rfl := hsN20_.eq.symm
            show zW l m_M_residueOf (zn Mz + 0, zw Mz + 0) Mz 71 [some (.ref 81), some (.int (Int32.ofInt a0_)), some (.int (Int32.ofInt a1_)), some (.int (Int32.ofInt (ze Mz 91 (a0_).toNat))), some (.int (Int32.ofInt u2_)), some (.int (Int32.ofInt u3_)), none, none, none] [.int (Int32.ofInt v21_), .int (Int32.ofInt v18_)] _
            have hq_x := zquo_p (a := v18_) (b := v21_) (by (exact hp2_N17_)) (by (exact zo_913 hp0_N20_ hp1_N20_ hp_x)) (by (exact zo_914 hc_51 hp0_N13_ hp0_N15_ hp0_N17_ hp0_N20_ hp1_N17_ hp2_N20_ i6_))
            refine zr_idiv (pc := 71) ⟨by (exact hv21_a), by (exact hv21_b)⟩ (by (exact zo_915 hp0_N20_ hp_x)) (zdal_p dlD_M_residueOf_34 (i := 14) rfl) ?_
            have hr22_ := zquo_r v18_ v21_
            refine zw_istore (pc := 72) (i := 6) (L2 := [some (.ref 81), some (.int (Int32.ofInt a0_)), some (.int (Int32.ofInt a1_)), some (.int (Int32.ofInt (ze Mz 91 (a0_).toNat))), some (.int (Int32.ofInt u2_)), some (.int (Int32.ofInt u3_)), some (.int (Int32.ofInt (zquo v18_ v21_))), none, none]) (by decide) rfl (zdal_p dlD_M_residueOf_34 (i := 15) rfl) ?_
            have lp_74 : ∀ (n : Nat) (u23_ : Int) (hu23_a : -2147483648 ≤ u23_) (hu23_b : u23_ < 2147483648) (i24_ : 1 ≤ u23_), (u23_).toNat < n → zW l m_M_residueOf (zn Mz + 0, zw Mz + 0) Mz 74 [some (.ref 81), some (.int (Int32.ofInt a0_)), some (.int (Int32.ofInt a1_)), some (.int (Int32.ofInt (ze Mz 91 (a0_).toNat))), some (.int (Int32.ofInt u2_)), some (.int (Int32.ofInt u3_)), some (.int (Int32.ofInt u23_)), none, none] [] (zpI [] [] Mz (fun v N => 0 ≤ v ∧ v < ze Mz 81 26)) := by
              intro n
              induction n with
              | zero =>
                intro u23_ hu23_a hu23_b i24_ h0
                exact absurd h0 (Nat.not_lt_zero _)
              | succ n ih_74 =>
                intro u23_ hu23_a hu23_b i24_ hlt_74
                refine zw_iload (pc := 74) (i := 6) (x := Int32.ofInt u23_) rfl (zdal_p dlD_M_residueOf_34 (i := 16) rfl) ?_
                refine zw_iload_n (pc := 76) (n := 2) (x := Int32.ofInt a1_) rfl (zdal_p dlD_M_residueOf_34 (i := 17) rfl) ?_
                refine zr_irem (pc := 77) ⟨by (exact ha1_a), by (exact ha1_b)⟩ (by (exact zo_916 p3_)) (zdal_p dlD_M_residueOf_34 (i := 18) rfl) ?_
                have hr25_ := zrem_r u23_ a1_
                refine zr_if_ne (pc := 78) (tgt := 90) ⟨(by (exact zo_284 hr25_.1)), (by (exact zo_285 hr25_.2))⟩ (by decide) (zdal_p dlD_M_residueOf_34 (i := 19) rfl) (fun hc_78 => ?_) (fun hc_78 => ?_)
                · skip
                  refine zw_iload (pc := 90) (i := 6) (x := Int32.ofInt u23_) rfl (zdal_p dlD_M_residueOf_35 (i := 1) rfl) ?_
                  refine zw_iconst (pc := 92) (v := Int32.ofInt 1) (by decide) (zdal_p dlD_M_residueOf_35 (i := 2) rfl) ?_
                  have j_101 : ∀ (u26_ : Int) (hu26_a : -2147483648 ≤ u26_) (hu26_b : u26_ < 2147483648) (hu26_z : u26_ = 0 ∨ u26_ = 1), zW l m_M_residueOf (zn Mz + 0, zw Mz + 0) Mz 101 [some (.ref 81), some (.int (Int32.ofInt a0_)), some (.int (Int32.ofInt a1_)), some (.int (Int32.ofInt (ze Mz 91 (a0_).toNat))), some (.int (Int32.ofInt u2_)), some (.int (Int32.ofInt u3_)), some (.int (Int32.ofInt u23_)), none, none] [.int (Int32.ofInt u26_)] (zpI [] [] Mz (fun v N => 0 ≤ v ∧ v < ze Mz 81 26)) := by
                    intro u26_ hu26_a hu26_b hu26_z
                    refine zw_istore (pc := 101) (i := 7) (L2 := [some (.ref 81), some (.int (Int32.ofInt a0_)), some (.int (Int32.ofInt a1_)), some (.int (Int32.ofInt (ze Mz 91 (a0_).toNat))), some (.int (Int32.ofInt u2_)), some (.int (Int32.ofInt u3_)), some (.int (Int32.ofInt u23_)), some (.int (Int32.ofInt u26_)), none]) (by decide) rfl (zdal_p dlD_M_residueOf_35 (i := 7) rfl) ?_
                    refine zw_iconst (pc := 103) (v := Int32.ofInt 0) (by decide) (zdal_p dlD_M_residueOf_35 (i := 8) rfl) ?_
                    refine zw_istore (pc := 104) (i := 8) (L2 := [some (.ref 81), some (.int (Int32.ofInt a0_)), some (.int (Int32.ofInt a1_)), some (.int (Int32.ofInt (ze Mz 91 (a0_).toNat))), some (.int (Int32.ofInt u2_)), some (.int (Int32.ofInt u3_)), some (.int (Int32.ofInt u23_)), some (.int (Int32.ofInt u26_)), some (.int (Int32.ofInt 0))]) (by decide) rfl (zdal_p dlD_M_residueOf_35 (i := 9) rfl) ?_
                    have lp_106 : ∀ (n : Nat) (u27_ : Int) (hu27_a : -2147483648 ≤ u27_) (hu27_b : u27_ < 2147483648) (hu27_z : u27_ = 0 ∨ u27_ = 1) (u28_ : Int) (hu28_a : -2147483648 ≤ u28_) (hu28_b : u28_ < 2147483648) (i29_ : 0 ≤ u28_), (ze Mz 81 20 - u28_).toNat < n → zW l m_M_residueOf (zn Mz + 0, zw Mz + 0) Mz 106 [some (.ref 81), some (.int (Int32.ofInt a0_)), some (.int (Int32.ofInt a1_)), some (.int (Int32.ofInt (ze Mz 91 (a0_).toNat))), some (.int (Int32.ofInt u2_)), some (.int (Int32.ofInt u3_)), some (.int (Int32.ofInt u23_)), some (.int (Int32.ofInt u27_)), some (.int (Int32.ofInt u28_))] [] (zpI [] [] Mz (fun v N => 0 ≤ v ∧ v < ze Mz 81 26)) := by
                      intro n
                      induction n with
                      | zero =>
                        intro u27_ hu27_a hu27_b hu27_z u28_ hu28_a hu28_b i29_ h0
                        exact absurd h0 (Nat.not_lt_zero _)
                      | succ n ih_106 =>
                        intro u27_ hu27_a hu27_b hu27_z u28_ hu28_a hu28_b i29_ hlt_106
                        refine zw_iload (pc := 106) (i := 8) (x := Int32.ofInt u28_) rfl (zdal_p dlD_M_residueOf_35 (i := 10) rfl) ?_
                        refine zw_aload_n (pc := 108) (n := 0) (x := 81) rfl (zdal_p dlD_M_residueOf_35 (i := 11) rfl) ?_
                        refine zr_getI0 hf hW (pc := 109) (by decide) f_M_196 rfl (zdal_p dlD_M_residueOf_35 (i := 12) rfl) ?_
                        refine zr_icmp_ge (pc := 112) (tgt := 165) ⟨hu28_a, hu28_b⟩ ⟨(ze_r Mz 81 20).1, (ze_r Mz 81 20).2⟩ (by decide) (zdal_p dlD_M_residueOf_35 (i := 13) rfl) (fun hc_112 => ?_) (fun hc_112 => ?_)
                        · skip
                          refine zw_iload (pc := 165) (i := 7) (x := Int32.ofInt u27_) rfl (zdal_p dlD_M_residueOf_36 (i := 14) rfl) ?_
                          refine zr_if_eq (pc := 167) (tgt := 179) ⟨hu27_a, hu27_b⟩ (by decide) (zdal_p dlD_M_residueOf_36 (i := 15) rfl) (fun hc_167 => ?_) (fun hc_167 => ?_)
                          · skip
                            refine zr_iinc (pc := 179) (i := 5) (a := u3_) (n := 1) (L2 := [some (.ref 81), some (.int (Int32.ofInt a0_)), some (.int (Int32.ofInt a1_)), some (.int (Int32.ofInt (ze Mz 91 (a0_).toNat))), some (.int (Int32.ofInt u2_)), some (.int (Int32.ofInt (u3_ + 1))), some (.int (Int32.ofInt u23_)), some (.int (Int32.ofInt u27_)), some (.int (Int32.ofInt u28_))]) rfl (by decide) rfl d_M_residueOf_179 ?_
                            refine zw_goto (pc := 182) (tgt := 13) (by decide) d_M_residueOf_182 ?_
                            refine zW_le [some (.ref 81), some (.int (Int32.ofInt a0_)), some (.int (Int32.ofInt a1_)), some (.int (Int32.ofInt (ze Mz 91 (a0_).toNat))), some (.int (Int32.ofInt u2_)), some (.int (Int32.ofInt (u3_ + 1))), none, none, none] (⟨rfl, rfl, rfl, rfl, rfl, rfl, trivial⟩) ?_
                            exact ih_13 u2_ hu2_a hu2_b (u3_ + 1) (by (exact zo_74 i4_)) (by (exact zo_832 gb.2.2.2.1 hc_19)) (show 0 ≤ (u3_ + 1) by first | with_reducible assumption | (exact zo_76 i4_) | assumption) (show gMe T u2_ by first | with_reducible assumption | exact hs_x.1 | assumption) (show zcb u2_ 31 ≤ zcb (ze Mz 91 (a0_).toNat) 31 by first | with_reducible assumption | assumption | omega) (by (exact zo_147 hc_19 hlt_13))
                          · skip
                            refine zw_aload_n (pc := 170) (n := 0) (x := 81) rfl (zdal_p dlD_M_residueOf_36 (i := 16) rfl) ?_
                            refine zr_getF (r := 89) (hf.w hW) (pc := 171) f_M_38 rfl (zh_89 (hf.w hW)).1 (zdal_p dlD_M_residueOf_36 (i := 17) rfl) ?_
                            refine zw_iload (pc := 174) (i := 5) (x := Int32.ofInt u3_) rfl (zdal_p dlD_M_residueOf_36 (i := 18) rfl) ?_
                            refine zr_ialdn (pc := 176) (zh_89 (hf.w hW)).2 (by decide) (by (exact i4_)) (by (exact zo_907 gb.2.2.2.1 hc_19)) (zdal_p dlD_M_residueOf_36 (i := 19) rfl) (fun v30_ hv30_ hv30_a hv30_b => ?_)
                            have hs_x := dv2.g hO (e := u3_) (by (exact i4_)) (by (exact hc_19))
                            refine zr_toI (show v30_ = ze Mz 89 (u3_).toNat by (exact hv30_)) ?_
                            refine zw_istore (pc := 177) (i := 4) (L2 := [some (.ref 81), some (.int (Int32.ofInt a0_)), some (.int (Int32.ofInt a1_)), some (.int (Int32.ofInt (ze Mz 91 (a0_).toNat))), some (.int (Int32.ofInt (ze Mz 89 (u3_).toNat))), some (.int (Int32.ofInt u3_)), some (.int (Int32.ofInt u23_)), some (.int (Int32.ofInt u27_)), some (.int (Int32.ofInt u28_))]) (by decide) rfl (zdal_p dlD_M_residueOf_36 (i := 20) rfl) ?_
                            refine zr_iinc (pc := 179) (i := 5) (a := u3_) (n := 1) (L2 := [some (.ref 81), some (.int (Int32.ofInt a0_)), some (.int (Int32.ofInt a1_)), some (.int (Int32.ofInt (ze Mz 91 (a0_).toNat))), some (.int (Int32.ofInt (ze Mz 89 (u3_).toNat))), some (.int (Int32.ofInt (u3_ + 1))), some (.int (Int32.ofInt u23_)), some (.int (Int32.ofInt u27_)), some (.int (Int32.ofInt u28_))]) rfl (by decide) rfl d_M_residueOf_179 ?_
                            refine zw_goto (pc := 182) (tgt := 13) (by decide) d_M_residueOf_182 ?_
                            refine zW_le [some (.ref 81), some (.int (Int32.ofInt a0_)), some (.int (Int32.ofInt a1_)), some (.int (Int32.ofInt (ze Mz 91 (a0_).toNat))), some (.int (Int32.ofInt (ze Mz 89 (u3_).toNat))), some (.int (Int32.ofInt (u3_ + 1))), none, none, none] (⟨rfl, rfl, rfl, rfl, rfl, rfl, trivial⟩) ?_
                            exact ih_13 (ze Mz 89 (u3_).toNat) (by (exact zo_168 hs_x.2.1)) (by (exact zo_550 hv12_ hv12_b)) (u3_ + 1) (by (exact zo_74 i4_)) (by (exact zo_832 gb.2.2.2.1 hc_19)) (show 0 ≤ (u3_ + 1) by first | with_reducible assumption | (exact zo_76 i4_) | assumption) (show gMe T (ze Mz 89 (u3_).toNat) by first | with_reducible assumption | exact hs_x.1 | assumption) (show zcb (ze Mz 89 (u3_).toNat) 31 ≤ zcb (ze Mz 91 (a0_).toNat) 31 by first | with_reducible assumption | (exact zo_917 hc_51 ho_x hp0_N13_ hp0_N15_ hp2_N13_ i6_) | assumption) (by (exact zo_147 hc_19 hlt_13))
                        · skip
                          refine zw_iload (pc := 115) (i := 7) (x := Int32.ofInt u27_) rfl (zdal_p dlD_M_residueOf_35 (i := 14) rfl) ?_
                          refine zr_if_eq (pc := 117) (tgt := 165) ⟨hu27_a, hu27_b⟩ (by decide) (zdal_p dlD_M_residueOf_35 (i := 15) rfl) (fun hc_117 => ?_) (fun hc_117 => ?_)
                          · skip
                            refine zw_iload (pc := 165) (i := 7) (x := Int32.ofInt u27_) rfl (zdal_p dlD_M_residueOf_36 (i := 14) rfl) ?_
                            refine zr_if_eq (pc := 167) (tgt := 179) ⟨hu27_a, hu27_b⟩ (by decide) (zdal_p dlD_M_residueOf_36 (i := 15) rfl) (fun hc_167 => ?_) (fun hc_167 => ?_)
                            · skip
                              refine zr_iinc (pc := 179) (i := 5) (a := u3_) (n := 1) (L2 := [some (.ref 81), some (.int (Int32.ofInt a0_)), some (.int (Int32.ofInt a1_)), some (.int (Int32.ofInt (ze Mz 91 (a0_).toNat))), some (.int (Int32.ofInt u2_)), some (.int (Int32.ofInt (u3_ + 1))), some (.int (Int32.ofInt u23_)), some (.int (Int32.ofInt u27_)), some (.int (Int32.ofInt u28_))]) rfl (by decide) rfl d_M_residueOf_179 ?_
                              refine zw_goto (pc := 182) (tgt := 13) (by decide) d_M_residueOf_182 ?_
                              refine zW_le [some (.ref 81), some (.int (Int32.ofInt a0_)), some (.int (Int32.ofInt a1_)), some (.int (Int32.ofInt (ze Mz 91 (a0_).toNat))), some (.int (Int32.ofInt u2_)), some (.int (Int32.ofInt (u3_ + 1))), none, none, none] (⟨rfl, rfl, rfl, rfl, rfl, rfl, trivial⟩) ?_
                              exact ih_13 u2_ hu2_a hu2_b (u3_ + 1) (by (exact zo_74 i4_)) (by (exact zo_832 gb.2.2.2.1 hc_19)) (show 0 ≤ (u3_ + 1) by first | with_reducible assumption | (exact zo_76 i4_) | assumption) (show gMe T u2_ by first | with_reducible assumption | exact hs_x.1 | assumption) (show zcb u2_ 31 ≤ zcb (ze Mz 91 (a0_).toNat) 31 by first | with_reducible assumption | assumption | omega) (by (exact zo_147 hc_19 hlt_13))
                            · skip
                              refine zw_aload_n (pc := 170) (n := 0) (x := 81) rfl (zdal_p dlD_M_residueOf_36 (i := 16) rfl) ?_
                              refine zr_getF (r := 89) (hf.w hW) (pc := 171) f_M_38 rfl (zh_89 (hf.w hW)).1 (zdal_p dlD_M_residueOf_36 (i := 17) rfl) ?_
                              refine zw_iload (pc := 174) (i := 5) (x := Int32.ofInt u3_) rfl (zdal_p dlD_M_residueOf_36 (i := 18) rfl) ?_
                              refine zr_ialdn (pc := 176) (zh_89 (hf.w hW)).2 (by decide) (by (exact i4_)) (by (exact zo_907 gb.2.2.2.1 hc_19)) (zdal_p dlD_M_residueOf_36 (i := 19) rfl) (fun v31_ hv31_ hv31_a hv31_b => ?_)
                              have hs_x := dv2.g hO (e := u3_) (by (exact i4_)) (by (exact hc_19))
                              refine zr_toI (show v31_ = ze Mz 89 (u3_).toNat by (exact hv31_)) ?_
                              refine zw_istore (pc := 177) (i := 4) (L2 := [some (.ref 81), some (.int (Int32.ofInt a0_)), some (.int (Int32.ofInt a1_)), some (.int (Int32.ofInt (ze Mz 91 (a0_).toNat))), some (.int (Int32.ofInt (ze Mz 89 (u3_).toNat))), some (.int (Int32.ofInt u3_)), some (.int (Int32.ofInt u23_)), some (.int (Int32.ofInt u27_)), some (.int (Int32.ofInt u28_))]) (by decide) rfl (zdal_p dlD_M_residueOf_36 (i := 20) rfl) ?_
                              refine zr_iinc (pc := 179) (i := 5) (a := u3_) (n := 1) (L2 := [some (.ref 81), some (.int (Int32.ofInt a0_)), some (.int (Int32.ofInt a1_)), some (.int (Int32.ofInt (ze Mz 91 (a0_).toNat))), some (.int (Int32.ofInt (ze Mz 89 (u3_).toNat))), some (.int (Int32.ofInt (u3_ + 1))), some (.int (Int32.ofInt u23_)), some (.int (Int32.ofInt u27_)), some (.int (Int32.ofInt u28_))]) rfl (by decide) rfl d_M_residueOf_179 ?_
                              refine zw_goto (pc := 182) (tgt := 13) (by decide) d_M_residueOf_182 ?_
                              refine zW_le [some (.ref 81), some (.int (Int32.ofInt a0_)), some (.int (Int32.ofInt a1_)), some (.int (Int32.ofInt (ze Mz 91 (a0_).toNat))), some (.int (Int32.ofInt (ze Mz 89 (u3_).toNat))), some (.int (Int32.ofInt (u3_ + 1))), none, none, none] (⟨rfl, rfl, rfl, rfl, rfl, rfl, trivial⟩) ?_
                              exact ih_13 (ze Mz 89 (u3_).toNat) (by (exact zo_168 hs_x.2.1)) (by (exact zo_550 hv12_ hv12_b)) (u3_ + 1) (by (exact zo_74 i4_)) (by (exact zo_832 gb.2.2.2.1 hc_19)) (show 0 ≤ (u3_ + 1) by first | with_reducible assumption | (exact zo_76 i4_) | assumption) (show gMe T (ze Mz 89 (u3_).toNat) by first | with_reducible assumption | exact hs_x.1 | assumption) (show zcb (ze Mz 89 (u3_).toNat) 31 ≤ zcb (ze Mz 91 (a0_).toNat) 31 by first | with_reducible assumption | (exact zo_917 hc_51 ho_x hp0_N13_ hp0_N15_ hp2_N13_ i6_) | assumption) (by (exact zo_147 hc_19 hlt_13))
                          · skip
                            refine zw_iload_n (pc := 120) (n := 3) (x := Int32.ofInt (ze Mz 91 (a0_).toNat)) rfl (zdal_p dlD_M_residueOf_35 (i := 16) rfl) ?_
                            refine zw_iload (pc := 121) (i := 8) (x := Int32.ofInt u28_) rfl (zdal_p dlD_M_residueOf_35 (i := 17) rfl) ?_
                            refine zr_callS hf.x (pc := 123) [.int (Int32.ofInt (ze Mz 91 (a0_).toNat)), .int (Int32.ofInt u28_)] [] l_M_213 (c_M_holds l Mz (hf.w hW) (ze Mz 91 (a0_).toNat) (by (exact zo_168 hf_x.2.1)) (by (exact zo_550 hv1_ hv1_b)) u28_ hu28_a hu28_b (show 0 ≤ (ze Mz 91 (a0_).toNat) by first | with_reducible assumption | (exact zo_57 hf_x.2.1) | assumption) (show 0 ≤ u28_ by first | with_reducible assumption | assumption | omega) (show u28_ < 32 by first | with_reducible assumption | (exact zo_918 gb.2.1 hc_112) | assumption)) rfl rfl (by decide) (Nat.le_of_ble_eq_true rfl) (zdal_p dlD_M_residueOf_35 (i := 18) rfl) ?_
                            rintro _ N32_ ⟨v33_, rfl, ⟨hv33_a, hv33_b⟩, hsN32_, hp0_N32_⟩
                            obtain rfl := hsN32_.eq.symm
                            replace hp0_N32_ : ((v33_ = 1 ∧ zbt (ze Mz 91 (a0_).toNat) u28_) ∨ (v33_ = 0 ∧ ¬ zbt (ze Mz 91 (a0_).toNat) u28_)) := hp0_N32_
                            rcases hp0_N32_ with ⟨rfl, ha123_0_hp0_N32_⟩ | ⟨rfl, ha123_0_hp0_N32_⟩
                            · skip
                              show zW l m_M_residueOf (zn Mz + 0, zw Mz + 0) Mz 126 [some (.ref 81), some (.int (Int32.ofInt a0_)), some (.int (Int32.ofInt a1_)), some (.int (Int32.ofInt (ze Mz 91 (a0_).toNat))), some (.int (Int32.ofInt u2_)), some (.int (Int32.ofInt u3_)), some (.int (Int32.ofInt u23_)), some (.int (Int32.ofInt u27_)), some (.int (Int32.ofInt u28_))] [.int (Int32.ofInt 1)] _
                              have j_157 : ∀ (u34_ : Int) (hu34_a : -2147483648 ≤ u34_) (hu34_b : u34_ < 2147483648) (hu34_z : u34_ = 0 ∨ u34_ = 1), zW l m_M_residueOf (zn Mz + 0, zw Mz + 0) Mz 157 [some (.ref 81), some (.int (Int32.ofInt a0_)), some (.int (Int32.ofInt a1_)), some (.int (Int32.ofInt (ze Mz 91 (a0_).toNat))), some (.int (Int32.ofInt u2_)), some (.int (Int32.ofInt u3_)), some (.int (Int32.ofInt u23_)), some (.int (Int32.ofInt u27_)), some (.int (Int32.ofInt u28_))] [.int (Int32.ofInt u34_)] (zpI [] [] Mz (fun v N => 0 ≤ v ∧ v < ze Mz 81 26)) := by
                                intro u34_ hu34_a hu34_b hu34_z
                                refine zw_istore (pc := 157) (i := 7) (L2 := [some (.ref 81), some (.int (Int32.ofInt a0_)), some (.int (Int32.ofInt a1_)), some (.int (Int32.ofInt (ze Mz 91 (a0_).toNat))), some (.int (Int32.ofInt u2_)), some (.int (Int32.ofInt u3_)), some (.int (Int32.ofInt u23_)), some (.int (Int32.ofInt u34_)), some (.int (Int32.ofInt u28_))]) (by decide) rfl (zdal_p dlD_M_residueOf_36 (i := 11) rfl) ?_
                                refine zr_iinc (pc := 159) (i := 8) (a := u28_) (n := 1) (L2 := [some (.ref 81), some (.int (Int32.ofInt a0_)), some (.int (Int32.ofInt a1_)), some (.int (Int32.ofInt (ze Mz 91 (a0_).toNat))), some (.int (Int32.ofInt u2_)), some (.int (Int32.ofInt u3_)), some (.int (Int32.ofInt u23_)), some (.int (Int32.ofInt u34_)), some (.int (Int32.ofInt (u28_ + 1)))]) rfl (by decide) rfl (zdal_p dlD_M_residueOf_36 (i := 12) rfl) ?_
                                refine zw_goto (pc := 162) (tgt := 106) (by decide) (zdal_p dlD_M_residueOf_36 (i := 13) rfl) ?_
                                exact ih_106 u34_ hu34_a hu34_b (by (exact hu34_z)) (u28_ + 1) (by (exact zo_74 i29_)) (by (exact zo_919 gb.2.1 hc_112)) (show 0 ≤ (u28_ + 1) by first | with_reducible assumption | (exact zo_76 i29_) | assumption) (by (exact zo_147 hc_112 hlt_106))
                              refine zr_if_eq (pc := 126) (tgt := 152) ⟨(by decide), (by decide)⟩ (by decide) (zdal_p dlD_M_residueOf_35 (i := 19) rfl) (fun hc_126 => ?_) (fun hc_126 => ?_)
                              · skip
                                exact absurd hc_126 (by decide)
                              · skip
                                refine zw_aload_n (pc := 129) (n := 0) (x := 81) rfl (zdal_p dlD_M_residueOf_35 (i := 20) rfl) ?_
                                refine zw_aload_n (pc := 130) (n := 0) (x := 81) rfl (zdal_p dlD_M_residueOf_35 (i := 21) rfl) ?_
                                refine zr_getF (r := 89) (hf.w hW) (pc := 131) f_M_38 rfl (zh_89 (hf.w hW)).1 (zdal_p dlD_M_residueOf_35 (i := 22) rfl) ?_
                                refine zw_iload (pc := 134) (i := 5) (x := Int32.ofInt u3_) rfl (zdal_p dlD_M_residueOf_35 (i := 23) rfl) ?_
                                refine zr_ialdn (pc := 136) (zh_89 (hf.w hW)).2 (by decide) (by (exact i4_)) (by (exact zo_907 gb.2.2.2.1 hc_19)) (zdal_p dlD_M_residueOf_36 (i := 0) rfl) (fun v35_ hv35_ hv35_a hv35_b => ?_)
                                have hs_x := dv2.g hO (e := u3_) (by (exact i4_)) (by (exact hc_19))
                                refine zr_toI (show v35_ = ze Mz 89 (u3_).toNat by (exact hv35_)) ?_
                                refine zw_iload (pc := 137) (i := 8) (x := Int32.ofInt u28_) rfl (zdal_p dlD_M_residueOf_36 (i := 1) rfl) ?_
                                refine zr_callV (hf.w hW) hf.x (pc := 139) [.int (Int32.ofInt (ze Mz 89 (u3_).toNat)), .int (Int32.ofInt u28_)] [] l_M_223 (c_M_turned l Mz (hf.w hW) (ze Mz 89 (u3_).toNat) (by (exact zo_168 hs_x.2.1)) (by (exact zo_550 hv12_ hv12_b)) u28_ hu28_a hu28_b T hG dv0 (show 0 ≤ (ze Mz 89 (u3_).toNat) by first | with_reducible assumption | (exact zo_57 hs_x.2.1) | assumption) (show 0 ≤ u28_ by first | with_reducible assumption | assumption | omega) (show u28_ < ze Mz 81 20 by first | with_reducible assumption | assumption | omega)) rfl rfl rfl (by decide) (Nat.le_of_ble_eq_true rfl) (zdal_p dlD_M_residueOf_36 (i := 2) rfl) ?_
                                rintro _ N36_ ⟨v37_, rfl, ⟨hv37_a, hv37_b⟩, hsN36_, ⟨hp0_N36_, hp1_N36_, hp2_N36_⟩⟩
                                obtain rfl := hsN36_.eq.symm
                                show zW l m_M_residueOf (zn Mz + 0, zw Mz + 0) Mz 142 [some (.ref 81), some (.int (Int32.ofInt a0_)), some (.int (Int32.ofInt a1_)), some (.int (Int32.ofInt (ze Mz 91 (a0_).toNat))), some (.int (Int32.ofInt u2_)), some (.int (Int32.ofInt u3_)), some (.int (Int32.ofInt u23_)), some (.int (Int32.ofInt u27_)), some (.int (Int32.ofInt u28_))] [.int (Int32.ofInt v37_)] _
                                refine zw_aload_n (pc := 142) (n := 0) (x := 81) rfl (zdal_p dlD_M_residueOf_36 (i := 3) rfl) ?_
                                refine zr_getF (r := 89) (hf.w hW) (pc := 143) f_M_38 rfl (zh_89 (hf.w hW)).1 (zdal_p dlD_M_residueOf_36 (i := 4) rfl) ?_
                                refine zw_iload (pc := 146) (i := 5) (x := Int32.ofInt u3_) rfl (zdal_p dlD_M_residueOf_36 (i := 5) rfl) ?_
                                refine zr_ialdn (pc := 148) (zh_89 (hf.w hW)).2 (by decide) (by (exact i4_)) (by (exact zo_907 gb.2.2.2.1 hc_19)) (zdal_p dlD_M_residueOf_36 (i := 6) rfl) (fun v38_ hv38_ hv38_a hv38_b => ?_)
                                have hs_x := dv2.g hO (e := u3_) (by (exact i4_)) (by (exact hc_19))
                                refine zr_toI (show v38_ = ze Mz 89 (u3_).toNat by (exact hv38_)) ?_
                                refine zr_icmp_ne (pc := 149) (tgt := 156) ⟨hv37_a, hv37_b⟩ ⟨(by (exact zo_168 hs_x.2.1)), (by (exact zo_550 hv35_ hv35_b))⟩ (by decide) (zdal_p dlD_M_residueOf_36 (i := 7) rfl) (fun hc_149 => ?_) (fun hc_149 => ?_)
                                · skip
                                  refine zw_iconst (pc := 156) (v := Int32.ofInt 0) (by decide) (zdal_p dlD_M_residueOf_36 (i := 10) rfl) ?_
                                  exact j_157 0 (by decide) (by decide) (by (decide))
                                · skip
                                  refine zw_iconst (pc := 152) (v := Int32.ofInt 1) (by decide) (zdal_p dlD_M_residueOf_36 (i := 8) rfl) ?_
                                  refine zw_goto (pc := 153) (tgt := 157) (by decide) (zdal_p dlD_M_residueOf_36 (i := 9) rfl) ?_
                                  exact j_157 1 (by decide) (by decide) (by (decide))
                            · skip
                              show zW l m_M_residueOf (zn Mz + 0, zw Mz + 0) Mz 126 [some (.ref 81), some (.int (Int32.ofInt a0_)), some (.int (Int32.ofInt a1_)), some (.int (Int32.ofInt (ze Mz 91 (a0_).toNat))), some (.int (Int32.ofInt u2_)), some (.int (Int32.ofInt u3_)), some (.int (Int32.ofInt u23_)), some (.int (Int32.ofInt u27_)), some (.int (Int32.ofInt u28_))] [.int (Int32.ofInt 0)] _
                              have j_157 : ∀ (u39_ : Int) (hu39_a : -2147483648 ≤ u39_) (hu39_b : u39_ < 2147483648) (hu39_z : u39_ = 0 ∨ u39_ = 1), zW l m_M_residueOf (zn Mz + 0, zw Mz + 0) Mz 157 [some (.ref 81), some (.int (Int32.ofInt a0_)), some (.int (Int32.ofInt a1_)), some (.int (Int32.ofInt (ze Mz 91 (a0_).toNat))), some (.int (Int32.ofInt u2_)), some (.int (Int32.ofInt u3_)), some (.int (Int32.ofInt u23_)), some (.int (Int32.ofInt u27_)), some (.int (Int32.ofInt u28_))] [.int (Int32.ofInt u39_)] (zpI [] [] Mz (fun v N => 0 ≤ v ∧ v < ze Mz 81 26)) := by
                                intro u39_ hu39_a hu39_b hu39_z
                                refine zw_istore (pc := 157) (i := 7) (L2 := [some (.ref 81), some (.int (Int32.ofInt a0_)), some (.int (Int32.ofInt a1_)), some (.int (Int32.ofInt (ze Mz 91 (a0_).toNat))), some (.int (Int32.ofInt u2_)), some (.int (Int32.ofInt u3_)), some (.int (Int32.ofInt u23_)), some (.int (Int32.ofInt u39_)), some (.int (Int32.ofInt u28_))]) (by decide) rfl (zdal_p dlD_M_residueOf_36 (i := 11) rfl) ?_
                                refine zr_iinc (pc := 159) (i := 8) (a := u28_) (n := 1) (L2 := [some (.ref 81), some (.int (Int32.ofInt a0_)), some (.int (Int32.ofInt a1_)), some (.int (Int32.ofInt (ze Mz 91 (a0_).toNat))), some (.int (Int32.ofInt u2_)), some (.int (Int32.ofInt u3_)), some (.int (Int32.ofInt u23_)), some (.int (Int32.ofInt u39_)), some (.int (Int32.ofInt (u28_ + 1)))]) rfl (by decide) rfl (zdal_p dlD_M_residueOf_36 (i := 12) rfl) ?_
                                refine zw_goto (pc := 162) (tgt := 106) (by decide) (zdal_p dlD_M_residueOf_36 (i := 13) rfl) ?_
                                exact ih_106 u39_ hu39_a hu39_b (by (exact hu39_z)) (u28_ + 1) (by (exact zo_74 i29_)) (by (exact zo_919 gb.2.1 hc_112)) (show 0 ≤ (u28_ + 1) by first | with_reducible assumption | (exact zo_76 i29_) | assumption) (by (exact zo_147 hc_112 hlt_106))
                              refine zr_if_eq (pc := 126) (tgt := 152) ⟨(by decide), (by decide)⟩ (by decide) (zdal_p dlD_M_residueOf_35 (i := 19) rfl) (fun hc_126 => ?_) (fun hc_126 => ?_)
                              · skip
                                refine zw_iconst (pc := 152) (v := Int32.ofInt 1) (by decide) (zdal_p dlD_M_residueOf_36 (i := 8) rfl) ?_
                                refine zw_goto (pc := 153) (tgt := 157) (by decide) (zdal_p dlD_M_residueOf_36 (i := 9) rfl) ?_
                                exact j_157 1 (by decide) (by decide) (by (decide))
                              · skip
                                exact absurd hc_126 (by decide)
                    exact lp_106 _ u26_ hu26_a hu26_b (by (exact hu26_z)) 0 (by decide) (by decide) (show 0 ≤ (0 : Int) by first | with_reducible assumption | (decide) | assumption) (Nat.lt_succ_self _)
                  refine zr_icmp_ne (pc := 93) (tgt := 100) ⟨hu23_a, hu23_b⟩ ⟨(by decide), (by decide)⟩ (by decide) (zdal_p dlD_M_residueOf_35 (i := 3) rfl) (fun hc_93 => ?_) (fun hc_93 => ?_)
                  · skip
                    refine zw_iconst (pc := 100) (v := Int32.ofInt 0) (by decide) (zdal_p dlD_M_residueOf_35 (i := 6) rfl) ?_
                    exact j_101 0 (by decide) (by decide) (by (decide))
                  · skip
                    refine zw_iconst (pc := 96) (v := Int32.ofInt 1) (by decide) (zdal_p dlD_M_residueOf_35 (i := 4) rfl) ?_
                    refine zw_goto (pc := 97) (tgt := 101) (by decide) (zdal_p dlD_M_residueOf_35 (i := 5) rfl) ?_
                    exact j_101 1 (by decide) (by decide) (by (decide))
                · skip
                  refine zw_iload (pc := 81) (i := 6) (x := Int32.ofInt u23_) rfl (zdal_p dlD_M_residueOf_34 (i := 20) rfl) ?_
                  refine zw_iload_n (pc := 83) (n := 2) (x := Int32.ofInt a1_) rfl (zdal_p dlD_M_residueOf_34 (i := 21) rfl) ?_
                  have hd_x := zdv (a := u23_) (p := a1_) (by (exact i24_)) (by (exact hu23_b)) (by (exact p3_)) (by (exact ha1_b)) (by (exact hc_78))
                  refine zr_idiv (pc := 84) ⟨by (exact ha1_a), by (exact ha1_b)⟩ (by (exact zo_916 p3_)) (zdal_p dlD_M_residueOf_34 (i := 22) rfl) ?_
                  have hr40_ := zquo_r u23_ a1_
                  refine zw_istore (pc := 85) (i := 6) (L2 := [some (.ref 81), some (.int (Int32.ofInt a0_)), some (.int (Int32.ofInt a1_)), some (.int (Int32.ofInt (ze Mz 91 (a0_).toNat))), some (.int (Int32.ofInt u2_)), some (.int (Int32.ofInt u3_)), some (.int (Int32.ofInt (zquo u23_ a1_))), none, none]) (by decide) rfl (zdal_p dlD_M_residueOf_34 (i := 23) rfl) ?_
                  refine zw_goto (pc := 87) (tgt := 74) (by decide) (zdal_p dlD_M_residueOf_35 (i := 0) rfl) ?_
                  exact ih_74 (zquo u23_ a1_) (by (exact zo_920 hd_x.1)) (by (exact zo_285 hr40_.2)) (show 1 ≤ (zquo u23_ a1_) by first | with_reducible assumption | (exact zo_694 hd_x.1) | assumption) (by (exact zo_921 hd_x.1 hd_x.2 hlt_74 hr40_.2))
            exact lp_74 _ (zquo v18_ v21_) (by (exact zo_920 hq_x.1)) (by (exact zo_922 hq_x.2)) (show 1 ≤ (zquo v18_ v21_) by first | with_reducible assumption | (exact zo_694 hq_x.1) | assumption) (Nat.lt_succ_self _)
          · skip
            refine zw_goto (pc := 54) (tgt := 179) (by decide) (zdal_p dlD_M_residueOf_34 (i := 6) rfl) ?_
            refine zr_iinc (pc := 179) (i := 5) (a := u3_) (n := 1) (L2 := [some (.ref 81), some (.int (Int32.ofInt a0_)), some (.int (Int32.ofInt a1_)), some (.int (Int32.ofInt (ze Mz 91 (a0_).toNat))), some (.int (Int32.ofInt u2_)), some (.int (Int32.ofInt (u3_ + 1))), none, none, none]) rfl (by decide) rfl d_M_residueOf_179 ?_
            refine zw_goto (pc := 182) (tgt := 13) (by decide) d_M_residueOf_182 ?_
            exact ih_13 u2_ hu2_a hu2_b (u3_ + 1) (by (exact zo_74 i4_)) (by (exact zo_832 gb.2.2.2.1 hc_19)) (show 0 ≤ (u3_ + 1) by first | with_reducible assumption | (exact zo_76 i4_) | assumption) (show gMe T u2_ by first | with_reducible assumption | exact hs_x.1 | assumption) (show zcb u2_ 31 ≤ zcb (ze Mz 91 (a0_).toNat) 31 by first | with_reducible assumption | assumption | omega) (by (exact zo_147 hc_19 hlt_13))
  exact lp_13 _ (ze Mz 91 (a0_).toNat) (by (exact zo_168 hf_x.2.1)) (by (exact zo_550 hv1_ hv1_b)) 0 (by decide) (by decide) (show 0 ≤ (0 : Int) by first | with_reducible assumption | (decide) | assumption) (show gMe T (ze Mz 91 (a0_).toNat) by exact hf_x.1) (show zcb (ze Mz 91 (a0_).toNat) 31 ≤ zcb (ze Mz 91 (a0_).toNat) 31 by exact Int.le_refl _) (Nat.lt_succ_self _)
set_option maxHeartbeats 4000000 in
theorem c_M_residue (l : Launch) (Mz : zMem) (hW : zMt Mz) (a0_ : Int) (ha0_a : -2147483648 ≤ a0_) (ha0_b : a0_ < 2147483648) (a1_ : Int) (ha1_a : -2147483648 ≤ a1_) (ha1_b : a1_ < 2147483648) (T : zGT) (hO : gOK T) (p0_ : zGB T Mz) : zC l m_M_residue 0 0 [.ref 81, .int (Int32.ofInt a0_), .int (Int32.ofInt a1_)] Mz (zpI [] [] Mz (fun v N => True)) := by
  refine zC_of (L0 := [some (.ref 81), some (.int (Int32.ofInt a0_)), some (.int (Int32.ofInt a1_))]) md_M_residue (Nat.le_of_ble_eq_true rfl) rfl ?_ zQ0
  have hf : zFr [] [] Mz Mz := zFr.rf
  have r_26 := ze_r Mz 81 26
  have hG := hO.1
  have g24 := hG.2.1
  have g1 := hG.1
  have dv0 : zTab T Mz := p0_.1
  have dv1 : zB 85 144 0 5 Mz := p0_.2.1
  have dv2 : zJX T Mz := p0_.2.2.1
  have dv3 : zFirs T Mz := p0_.2.2.2.1
  have dv4 : zSSm T Mz := p0_.2.2.2.2.1
  have dv5 : zGD Mz := zGB.d hO p0_
  have gb := dv5.1
  have gn := dv0.1
  refine zw_aload_n (pc := 0) (n := 0) (x := 81) rfl (zdal_p dlD_M_residue_31 (i := 0) rfl) ?_
  refine zw_iload_n (pc := 1) (n := 1) (x := Int32.ofInt a0_) rfl (zdal_p dlD_M_residue_31 (i := 1) rfl) ?_
  refine zr_callV (hf.w hW) hf.x (pc := 2) [.int (Int32.ofInt a0_)] [] l_M_414 (c_M_isSort l Mz (hf.w hW) a0_ ha0_a ha0_b T hO p0_) rfl rfl rfl (by decide) (Nat.le_of_ble_eq_true rfl) (zdal_p dlD_M_residue_31 (i := 2) rfl) ?_
  rintro _ N1_ ⟨v2_, rfl, ⟨hv2_a, hv2_b⟩, hsN1_, hp0_N1_⟩
  obtain rfl := hsN1_.eq.symm
  replace hp0_N1_ : ((v2_ = 1 ∧ 0 ≤ a0_ ∧ a0_ < ze Mz 81 26) ∨ (v2_ = 0)) := hp0_N1_
  rcases hp0_N1_ with ⟨rfl, ha2_0_hp0_N1_, ha2_1_hp0_N1_⟩ | rfl
  · skip
    show zW l m_M_residue (zn Mz + 0, zw Mz + 0) Mz 5 [some (.ref 81), some (.int (Int32.ofInt a0_)), some (.int (Int32.ofInt a1_))] [.int (Int32.ofInt 1)] (zpI [] [] Mz (fun v N => True))
    refine zr_if_eq (pc := 5) (tgt := 24) ⟨(by decide), (by decide)⟩ (by decide) (zdal_p dlD_M_residue_31 (i := 3) rfl) (fun hc_5 => ?_) (fun hc_5 => ?_)
    · skip
      exact absurd hc_5 (by decide)
    · skip
      refine zw_iload_n (pc := 8) (n := 2) (x := Int32.ofInt a1_) rfl (zdal_p dlD_M_residue_31 (i := 4) rfl) ?_
      refine zr_callS hf.x (pc := 9) [.int (Int32.ofInt a1_)] [] l_M_426 (c_M_isPrime l Mz (hf.w hW) a1_ ha1_a ha1_b) rfl rfl (by decide) (Nat.le_of_ble_eq_true rfl) (zdal_p dlD_M_residue_31 (i := 5) rfl) ?_
      rintro _ N3_ ⟨v4_, rfl, ⟨hv4_a, hv4_b⟩, hsN3_, hp0_N3_⟩
      obtain rfl := hsN3_.eq.symm
      replace hp0_N3_ : ((v4_ = 1 ∧ (a1_ = 2 ∨ a1_ = 3 ∨ a1_ = 5)) ∨ (v4_ = 0)) := hp0_N3_
      rcases hp0_N3_ with ⟨rfl, ha9_0_hp0_N3_⟩ | rfl
      · skip
        show zW l m_M_residue (zn Mz + 0, zw Mz + 0) Mz 12 [some (.ref 81), some (.int (Int32.ofInt a0_)), some (.int (Int32.ofInt a1_))] [.int (Int32.ofInt 1)] (zpI [] [] Mz (fun v N => True))
        refine zr_if_eq (pc := 12) (tgt := 24) ⟨(by decide), (by decide)⟩ (by decide) (zdal_p dlD_M_residue_31 (i := 6) rfl) (fun hc_12 => ?_) (fun hc_12 => ?_)
        · skip
          exact absurd hc_12 (by decide)
        · skip
          refine zw_aload_n (pc := 15) (n := 0) (x := 81) rfl (zdal_p dlD_M_residue_31 (i := 7) rfl) ?_
          refine zw_iload_n (pc := 16) (n := 1) (x := Int32.ofInt a0_) rfl (zdal_p dlD_M_residue_31 (i := 8) rfl) ?_
          refine zw_iload_n (pc := 17) (n := 2) (x := Int32.ofInt a1_) rfl (zdal_p dlD_M_residue_31 (i := 9) rfl) ?_
          refine zr_callV (hf.w hW) hf.x (pc := 18) [.int (Int32.ofInt a0_), .int (Int32.ofInt a1_)] [] l_M_429 (c_M_residueOf l Mz (hf.w hW) a0_ ha0_a ha0_b a1_ ha1_a ha1_b T hO p0_ (show 0 ≤ a0_ by first | with_reducible assumption | assumption | omega) (show a0_ < ze Mz 81 26 by first | with_reducible assumption | assumption | omega) (show 2 ≤ a1_ by first | with_reducible assumption | (exact zo_923 ha9_0_hp0_N3_) | assumption)) rfl rfl rfl (by decide) (Nat.le_of_ble_eq_true rfl) (zdal_p dlD_M_residue_31 (i := 10) rfl) ?_
          rintro _ N5_ ⟨v6_, rfl, ⟨hv6_a, hv6_b⟩, hsN5_, ⟨hp0_N5_, hp1_N5_⟩⟩
          obtain rfl := hsN5_.eq.symm
          show zW l m_M_residue (zn Mz + 0, zw Mz + 0) Mz 21 [some (.ref 81), some (.int (Int32.ofInt a0_)), some (.int (Int32.ofInt a1_))] [.int (Int32.ofInt v6_)] (zpI [] [] Mz (fun v N => True))
          refine zw_goto (pc := 21) (tgt := 25) (by decide) (zdal_p dlD_M_residue_31 (i := 11) rfl) ?_
          exact zr_iret (pc := 25) (ty := .int) rfl rfl ⟨by (exact hv6_a), by (exact hv6_b)⟩ hf trivial (zdal_p dlD_M_residue_31 (i := 13) rfl)
      · skip
        show zW l m_M_residue (zn Mz + 0, zw Mz + 0) Mz 12 [some (.ref 81), some (.int (Int32.ofInt a0_)), some (.int (Int32.ofInt a1_))] [.int (Int32.ofInt 0)] (zpI [] [] Mz (fun v N => True))
        refine zr_if_eq (pc := 12) (tgt := 24) ⟨(by decide), (by decide)⟩ (by decide) (zdal_p dlD_M_residue_31 (i := 6) rfl) (fun hc_12 => ?_) (fun hc_12 => ?_)
        · skip
          refine zw_iconst (pc := 24) (v := Int32.ofInt (-1)) (by decide) (zdal_p dlD_M_residue_31 (i := 12) rfl) ?_
          exact zr_iret (pc := 25) (ty := .int) rfl rfl ⟨by (decide), by (decide)⟩ hf trivial (zdal_p dlD_M_residue_31 (i := 13) rfl)
        · skip
          exact absurd hc_12 (by decide)
  · skip
    show zW l m_M_residue (zn Mz + 0, zw Mz + 0) Mz 5 [some (.ref 81), some (.int (Int32.ofInt a0_)), some (.int (Int32.ofInt a1_))] [.int (Int32.ofInt 0)] (zpI [] [] Mz (fun v N => True))
    refine zr_if_eq (pc := 5) (tgt := 24) ⟨(by decide), (by decide)⟩ (by decide) (zdal_p dlD_M_residue_31 (i := 3) rfl) (fun hc_5 => ?_) (fun hc_5 => ?_)
    · skip
      refine zw_iconst (pc := 24) (v := Int32.ofInt (-1)) (by decide) (zdal_p dlD_M_residue_31 (i := 12) rfl) ?_
      exact zr_iret (pc := 25) (ty := .int) rfl rfl ⟨by (decide), by (decide)⟩ hf trivial (zdal_p dlD_M_residue_31 (i := 13) rfl)
    · skip
      exact absurd hc_5 (by decide)
set_option maxHeartbeats 4000000 in
theorem c_M_blockOf (l : Launch) (Mz : zMem) (hW : zMt Mz) (a0_ : Int) (ha0_a : -2147483648 ≤ a0_) (ha0_b : a0_ < 2147483648) (a1_ : Int) (ha1_a : -2147483648 ≤ a1_) (ha1_b : a1_ < 2147483648) (T : zGT) (hO : gOK T) (p0_ : zGB T Mz) (p1_ : 0 ≤ a0_) (p2_ : a0_ < ze Mz 81 26) (p3_ : 2 ≤ a1_) : zC l m_M_blockOf 0 0 [.ref 81, .int (Int32.ofInt a0_), .int (Int32.ofInt a1_)] Mz (zpI [] [] Mz (fun v N => True)) := by
  refine zC_of (L0 := [some (.ref 81), some (.int (Int32.ofInt a0_)), some (.int (Int32.ofInt a1_)), none, none, none]) md_M_blockOf (Nat.le_of_ble_eq_true rfl) rfl ?_ zQ0
  have hf : zFr [] [] Mz Mz := zFr.rf
  have r_26 := ze_r Mz 81 26
  have hG := hO.1
  have g24 := hG.2.1
  have g1 := hG.1
  have dv0 : zTab T Mz := p0_.1
  have dv1 : zB 85 144 0 5 Mz := p0_.2.1
  have dv2 : zJX T Mz := p0_.2.2.1
  have dv3 : zFirs T Mz := p0_.2.2.2.1
  have dv4 : zSSm T Mz := p0_.2.2.2.2.1
  have dv5 : zGD Mz := zGB.d hO p0_
  have gb := dv5.1
  have gn := dv0.1
  refine zw_aload_n (pc := 0) (n := 0) (x := 81) rfl (zdal_p dlD_M_blockOf_39 (i := 0) rfl) ?_
  refine zw_iload_n (pc := 1) (n := 1) (x := Int32.ofInt a0_) rfl (zdal_p dlD_M_blockOf_39 (i := 1) rfl) ?_
  refine zw_iload_n (pc := 2) (n := 2) (x := Int32.ofInt a1_) rfl (zdal_p dlD_M_blockOf_39 (i := 2) rfl) ?_
  refine zr_callV (hf.w hW) hf.x (pc := 3) [.int (Int32.ofInt a0_), .int (Int32.ofInt a1_)] [] l_M_429 (c_M_residueOf l Mz (hf.w hW) a0_ ha0_a ha0_b a1_ ha1_a ha1_b T hO p0_ (show 0 ≤ a0_ by first | with_reducible assumption | assumption | omega) (show a0_ < ze Mz 81 26 by first | with_reducible assumption | assumption | omega) (show 2 ≤ a1_ by first | with_reducible assumption | assumption | omega)) rfl rfl rfl (by decide) (Nat.le_of_ble_eq_true rfl) (zdal_p dlD_M_blockOf_39 (i := 3) rfl) ?_
  rintro _ N1_ ⟨v2_, rfl, ⟨hv2_a, hv2_b⟩, hsN1_, ⟨hp0_N1_, hp1_N1_⟩⟩
  obtain rfl := hsN1_.eq.symm
  show zW l m_M_blockOf (zn Mz + 0, zw Mz + 0) Mz 6 [some (.ref 81), some (.int (Int32.ofInt a0_)), some (.int (Int32.ofInt a1_)), none, none, none] [.int (Int32.ofInt v2_)] (zpI [] [] Mz (fun v N => True))
  refine zw_istore_n (pc := 6) (i := 3) (L2 := [some (.ref 81), some (.int (Int32.ofInt a0_)), some (.int (Int32.ofInt a1_)), some (.int (Int32.ofInt v2_)), none, none]) rfl (by decide) rfl (zdal_p dlD_M_blockOf_39 (i := 4) rfl) ?_
  refine zw_iconst (pc := 7) (v := Int32.ofInt 0) (by decide) (zdal_p dlD_M_blockOf_39 (i := 5) rfl) ?_
  refine zw_istore (pc := 8) (i := 4) (L2 := [some (.ref 81), some (.int (Int32.ofInt a0_)), some (.int (Int32.ofInt a1_)), some (.int (Int32.ofInt v2_)), some (.int (Int32.ofInt 0)), none]) (by decide) rfl (zdal_p dlD_M_blockOf_39 (i := 6) rfl) ?_
  refine zw_iconst (pc := 10) (v := Int32.ofInt 0) (by decide) (zdal_p dlD_M_blockOf_39 (i := 7) rfl) ?_
  refine zw_istore (pc := 11) (i := 5) (L2 := [some (.ref 81), some (.int (Int32.ofInt a0_)), some (.int (Int32.ofInt a1_)), some (.int (Int32.ofInt v2_)), some (.int (Int32.ofInt 0)), some (.int (Int32.ofInt 0))]) (by decide) rfl (zdal_p dlD_M_blockOf_39 (i := 8) rfl) ?_
  have lp_13 : ∀ (n : Nat) (u3_ : Int) (hu3_a : -2147483648 ≤ u3_) (hu3_b : u3_ < 2147483648) (u4_ : Int) (hu4_a : -2147483648 ≤ u4_) (hu4_b : u4_ < 2147483648) (i5_ : 0 ≤ u4_), (ze Mz 81 26 - u4_).toNat < n → zW l m_M_blockOf (zn Mz + 0, zw Mz + 0) Mz 13 [some (.ref 81), some (.int (Int32.ofInt a0_)), some (.int (Int32.ofInt a1_)), some (.int (Int32.ofInt v2_)), some (.int (Int32.ofInt u3_)), some (.int (Int32.ofInt u4_))] [] (zpI [] [] Mz (fun v N => True)) := by
    intro n
    induction n with
    | zero =>
      intro u3_ hu3_a hu3_b u4_ hu4_a hu4_b i5_ h0
      exact absurd h0 (Nat.not_lt_zero _)
    | succ n ih_13 =>
      intro u3_ hu3_a hu3_b u4_ hu4_a hu4_b i5_ hlt_13
      refine zw_iload (pc := 13) (i := 5) (x := Int32.ofInt u4_) rfl (zdal_p dlD_M_blockOf_39 (i := 9) rfl) ?_
      refine zw_aload_n (pc := 15) (n := 0) (x := 81) rfl (zdal_p dlD_M_blockOf_39 (i := 10) rfl) ?_
      refine zr_getI0 hf hW (pc := 16) (by decide) f_M_235 rfl (zdal_p dlD_M_blockOf_39 (i := 11) rfl) ?_
      refine zr_icmp_ge (pc := 19) (tgt := 55) ⟨hu4_a, hu4_b⟩ ⟨(ze_r Mz 81 26).1, (ze_r Mz 81 26).2⟩ (by decide) (zdal_p dlD_M_blockOf_39 (i := 12) rfl) (fun hc_19 => ?_) (fun hc_19 => ?_)
      · skip
        refine zw_iload (pc := 55) (i := 4) (x := Int32.ofInt u3_) rfl (zdal_p dlD_M_blockOf_40 (i := 6) rfl) ?_
        exact zr_iret (pc := 57) (ty := .int) rfl rfl ⟨by (exact hu3_a), by (exact hu3_b)⟩ hf trivial (zdal_p dlD_M_blockOf_40 (i := 7) rfl)
      · skip
        refine zw_iload (pc := 22) (i := 4) (x := Int32.ofInt u3_) rfl (zdal_p dlD_M_blockOf_39 (i := 13) rfl) ?_
        refine zw_aload_n (pc := 24) (n := 0) (x := 81) rfl (zdal_p dlD_M_blockOf_39 (i := 14) rfl) ?_
        refine zw_iload (pc := 25) (i := 5) (x := Int32.ofInt u4_) rfl (zdal_p dlD_M_blockOf_39 (i := 15) rfl) ?_
        refine zw_iload_n (pc := 27) (n := 2) (x := Int32.ofInt a1_) rfl (zdal_p dlD_M_blockOf_39 (i := 16) rfl) ?_
        refine zr_callV (hf.w hW) hf.x (pc := 28) [.int (Int32.ofInt u4_), .int (Int32.ofInt a1_)] [.int (Int32.ofInt u3_)] l_M_429 (c_M_residueOf l Mz (hf.w hW) u4_ hu4_a hu4_b a1_ ha1_a ha1_b T hO p0_ (show 0 ≤ u4_ by first | with_reducible assumption | assumption | omega) (show u4_ < ze Mz 81 26 by first | with_reducible assumption | assumption | omega) (show 2 ≤ a1_ by first | with_reducible assumption | assumption | omega)) rfl rfl rfl (by decide) (Nat.le_of_ble_eq_true rfl) (zdal_p dlD_M_blockOf_39 (i := 17) rfl) ?_
        rintro _ N6_ ⟨v7_, rfl, ⟨hv7_a, hv7_b⟩, hsN6_, ⟨hp0_N6_, hp1_N6_⟩⟩
        obtain rfl := hsN6_.eq.symm
        show zW l m_M_blockOf (zn Mz + 0, zw Mz + 0) Mz 31 [some (.ref 81), some (.int (Int32.ofInt a0_)), some (.int (Int32.ofInt a1_)), some (.int (Int32.ofInt v2_)), some (.int (Int32.ofInt u3_)), some (.int (Int32.ofInt u4_))] [.int (Int32.ofInt v7_), .int (Int32.ofInt u3_)] (zpI [] [] Mz (fun v N => True))
        refine zw_iload_n (pc := 31) (n := 3) (x := Int32.ofInt v2_) rfl (zdal_p dlD_M_blockOf_39 (i := 18) rfl) ?_
        refine zr_icmp_ne (pc := 32) (tgt := 39) ⟨hv7_a, hv7_b⟩ ⟨hv2_a, hv2_b⟩ (by decide) (zdal_p dlD_M_blockOf_39 (i := 19) rfl) (fun hc_32 => ?_) (fun hc_32 => ?_)
        · skip
          refine zw_iconst (pc := 39) (v := Int32.ofInt 0) (by decide) (zdal_p dlD_M_blockOf_39 (i := 22) rfl) ?_
          refine zr_callS hf.x (pc := 40) [.int (Int32.ofInt 0)] [.int (Int32.ofInt u3_)] l_M_256 (c_M_truth l Mz (hf.w hW) 0 (by decide) (by decide) (by (decide))) rfl rfl (by decide) (Nat.le_of_ble_eq_true rfl) (zdal_p dlD_M_blockOf_39 (i := 23) rfl) ?_
          rintro _ N8_ ⟨v9_, rfl, ⟨hv9_a, hv9_b⟩, hsN8_, hp0_N8_⟩
          obtain rfl := hsN8_.eq.symm
          replace hp0_N8_ : v9_ = 0 := hp0_N8_
          show zW l m_M_blockOf (zn Mz + 0, zw Mz + 0) Mz 43 [some (.ref 81), some (.int (Int32.ofInt a0_)), some (.int (Int32.ofInt a1_)), some (.int (Int32.ofInt v2_)), some (.int (Int32.ofInt u3_)), some (.int (Int32.ofInt u4_))] [.int (Int32.ofInt v9_), .int (Int32.ofInt u3_)] (zpI [] [] Mz (fun v N => True))
          refine zw_iload (pc := 43) (i := 5) (x := Int32.ofInt u4_) rfl (zdal_p dlD_M_blockOf_40 (i := 0) rfl) ?_
          refine zr_ishl (pc := 45) (zdal_p dlD_M_blockOf_40 (i := 1) rfl) ?_
          have hr10_ := zshl_r v9_ u4_
          refine zr_ior (pc := 46) (zdal_p dlD_M_blockOf_40 (i := 2) rfl) ?_
          have hr11_ := zor_r u3_ (zshl v9_ u4_)
          refine zr_nmI (fun v12_ hv12_ => ?_)
          obtain ⟨hv12_a, hv12_b⟩ := hv12_
          refine zw_istore (pc := 47) (i := 4) (L2 := [some (.ref 81), some (.int (Int32.ofInt a0_)), some (.int (Int32.ofInt a1_)), some (.int (Int32.ofInt v2_)), some (.int (Int32.ofInt v12_)), some (.int (Int32.ofInt u4_))]) (by decide) rfl (zdal_p dlD_M_blockOf_40 (i := 3) rfl) ?_
          refine zr_iinc (pc := 49) (i := 5) (a := u4_) (n := 1) (L2 := [some (.ref 81), some (.int (Int32.ofInt a0_)), some (.int (Int32.ofInt a1_)), some (.int (Int32.ofInt v2_)), some (.int (Int32.ofInt v12_)), some (.int (Int32.ofInt (u4_ + 1)))]) rfl (by decide) rfl (zdal_p dlD_M_blockOf_40 (i := 4) rfl) ?_
          refine zw_goto (pc := 52) (tgt := 13) (by decide) (zdal_p dlD_M_blockOf_40 (i := 5) rfl) ?_
          exact ih_13 v12_ hv12_a hv12_b (u4_ + 1) (by (exact zo_74 i5_)) (by (exact zo_832 gb.2.2.2.2.2 hc_19)) (show 0 ≤ (u4_ + 1) by first | with_reducible assumption | (exact zo_76 i5_) | assumption) (by (exact zo_147 hc_19 hlt_13))
        · skip
          refine zw_iconst (pc := 35) (v := Int32.ofInt 1) (by decide) (zdal_p dlD_M_blockOf_39 (i := 20) rfl) ?_
          refine zw_goto (pc := 36) (tgt := 40) (by decide) (zdal_p dlD_M_blockOf_39 (i := 21) rfl) ?_
          refine zr_callS hf.x (pc := 40) [.int (Int32.ofInt 1)] [.int (Int32.ofInt u3_)] l_M_256 (c_M_truth l Mz (hf.w hW) 1 (by decide) (by decide) (by (decide))) rfl rfl (by decide) (Nat.le_of_ble_eq_true rfl) (zdal_p dlD_M_blockOf_39 (i := 23) rfl) ?_
          rintro _ N13_ ⟨v14_, rfl, ⟨hv14_a, hv14_b⟩, hsN13_, hp0_N13_⟩
          obtain rfl := hsN13_.eq.symm
          replace hp0_N13_ : v14_ = 1 := hp0_N13_
          show zW l m_M_blockOf (zn Mz + 0, zw Mz + 0) Mz 43 [some (.ref 81), some (.int (Int32.ofInt a0_)), some (.int (Int32.ofInt a1_)), some (.int (Int32.ofInt v2_)), some (.int (Int32.ofInt u3_)), some (.int (Int32.ofInt u4_))] [.int (Int32.ofInt v14_), .int (Int32.ofInt u3_)] (zpI [] [] Mz (fun v N => True))
          refine zw_iload (pc := 43) (i := 5) (x := Int32.ofInt u4_) rfl (zdal_p dlD_M_blockOf_40 (i := 0) rfl) ?_
          refine zr_ishl (pc := 45) (zdal_p dlD_M_blockOf_40 (i := 1) rfl) ?_
          have hr15_ := zshl_r v14_ u4_
          refine zr_ior (pc := 46) (zdal_p dlD_M_blockOf_40 (i := 2) rfl) ?_
          have hr16_ := zor_r u3_ (zshl v14_ u4_)
          refine zr_nmI (fun v17_ hv17_ => ?_)
          obtain ⟨hv17_a, hv17_b⟩ := hv17_
          refine zw_istore (pc := 47) (i := 4) (L2 := [some (.ref 81), some (.int (Int32.ofInt a0_)), some (.int (Int32.ofInt a1_)), some (.int (Int32.ofInt v2_)), some (.int (Int32.ofInt v17_)), some (.int (Int32.ofInt u4_))]) (by decide) rfl (zdal_p dlD_M_blockOf_40 (i := 3) rfl) ?_
          refine zr_iinc (pc := 49) (i := 5) (a := u4_) (n := 1) (L2 := [some (.ref 81), some (.int (Int32.ofInt a0_)), some (.int (Int32.ofInt a1_)), some (.int (Int32.ofInt v2_)), some (.int (Int32.ofInt v17_)), some (.int (Int32.ofInt (u4_ + 1)))]) rfl (by decide) rfl (zdal_p dlD_M_blockOf_40 (i := 4) rfl) ?_
          refine zw_goto (pc := 52) (tgt := 13) (by decide) (zdal_p dlD_M_blockOf_40 (i := 5) rfl) ?_
          exact ih_13 v17_ hv17_a hv17_b (u4_ + 1) (by (exact zo_74 i5_)) (by (exact zo_832 gb.2.2.2.2.2 hc_19)) (show 0 ≤ (u4_ + 1) by first | with_reducible assumption | (exact zo_76 i5_) | assumption) (by (exact zo_147 hc_19 hlt_13))
  exact lp_13 _ 0 (by decide) (by decide) 0 (by decide) (by decide) (show 0 ≤ (0 : Int) by first | with_reducible assumption | (decide) | assumption) (Nat.lt_succ_self _)
set_option maxHeartbeats 4000000 in
theorem c_M_block (l : Launch) (Mz : zMem) (hW : zMt Mz) (a0_ : Int) (ha0_a : -2147483648 ≤ a0_) (ha0_b : a0_ < 2147483648) (a1_ : Int) (ha1_a : -2147483648 ≤ a1_) (ha1_b : a1_ < 2147483648) (T : zGT) (hO : gOK T) (p0_ : zGB T Mz) : zC l m_M_block 0 0 [.ref 81, .int (Int32.ofInt a0_), .int (Int32.ofInt a1_)] Mz (zpI [] [] Mz (fun v N => True)) := by
  refine zC_of (L0 := [some (.ref 81), some (.int (Int32.ofInt a0_)), some (.int (Int32.ofInt a1_))]) md_M_block (Nat.le_of_ble_eq_true rfl) rfl ?_ zQ0
  have hf : zFr [] [] Mz Mz := zFr.rf
  have r_26 := ze_r Mz 81 26
  have hG := hO.1
  have g24 := hG.2.1
  have g1 := hG.1
  have dv0 : zTab T Mz := p0_.1
  have dv1 : zB 85 144 0 5 Mz := p0_.2.1
  have dv2 : zJX T Mz := p0_.2.2.1
  have dv3 : zFirs T Mz := p0_.2.2.2.1
  have dv4 : zSSm T Mz := p0_.2.2.2.2.1
  have dv5 : zGD Mz := zGB.d hO p0_
  have gb := dv5.1
  have gn := dv0.1
  refine zw_aload_n (pc := 0) (n := 0) (x := 81) rfl (zdal_p dlD_M_block_38 (i := 0) rfl) ?_
  refine zw_iload_n (pc := 1) (n := 1) (x := Int32.ofInt a0_) rfl (zdal_p dlD_M_block_38 (i := 1) rfl) ?_
  refine zr_callV (hf.w hW) hf.x (pc := 2) [.int (Int32.ofInt a0_)] [] l_M_414 (c_M_isSort l Mz (hf.w hW) a0_ ha0_a ha0_b T hO p0_) rfl rfl rfl (by decide) (Nat.le_of_ble_eq_true rfl) (zdal_p dlD_M_block_38 (i := 2) rfl) ?_
  rintro _ N1_ ⟨v2_, rfl, ⟨hv2_a, hv2_b⟩, hsN1_, hp0_N1_⟩
  obtain rfl := hsN1_.eq.symm
  replace hp0_N1_ : ((v2_ = 1 ∧ 0 ≤ a0_ ∧ a0_ < ze Mz 81 26) ∨ (v2_ = 0)) := hp0_N1_
  rcases hp0_N1_ with ⟨rfl, ha2_0_hp0_N1_, ha2_1_hp0_N1_⟩ | rfl
  · skip
    show zW l m_M_block (zn Mz + 0, zw Mz + 0) Mz 5 [some (.ref 81), some (.int (Int32.ofInt a0_)), some (.int (Int32.ofInt a1_))] [.int (Int32.ofInt 1)] (zpI [] [] Mz (fun v N => True))
    refine zr_if_eq (pc := 5) (tgt := 24) ⟨(by decide), (by decide)⟩ (by decide) (zdal_p dlD_M_block_38 (i := 3) rfl) (fun hc_5 => ?_) (fun hc_5 => ?_)
    · skip
      exact absurd hc_5 (by decide)
    · skip
      refine zw_iload_n (pc := 8) (n := 2) (x := Int32.ofInt a1_) rfl (zdal_p dlD_M_block_38 (i := 4) rfl) ?_
      refine zr_callS hf.x (pc := 9) [.int (Int32.ofInt a1_)] [] l_M_426 (c_M_isPrime l Mz (hf.w hW) a1_ ha1_a ha1_b) rfl rfl (by decide) (Nat.le_of_ble_eq_true rfl) (zdal_p dlD_M_block_38 (i := 5) rfl) ?_
      rintro _ N3_ ⟨v4_, rfl, ⟨hv4_a, hv4_b⟩, hsN3_, hp0_N3_⟩
      obtain rfl := hsN3_.eq.symm
      replace hp0_N3_ : ((v4_ = 1 ∧ (a1_ = 2 ∨ a1_ = 3 ∨ a1_ = 5)) ∨ (v4_ = 0)) := hp0_N3_
      rcases hp0_N3_ with ⟨rfl, ha9_0_hp0_N3_⟩ | rfl
      · skip
        show zW l m_M_block (zn Mz + 0, zw Mz + 0) Mz 12 [some (.ref 81), some (.int (Int32.ofInt a0_)), some (.int (Int32.ofInt a1_))] [.int (Int32.ofInt 1)] (zpI [] [] Mz (fun v N => True))
        refine zr_if_eq (pc := 12) (tgt := 24) ⟨(by decide), (by decide)⟩ (by decide) (zdal_p dlD_M_block_38 (i := 6) rfl) (fun hc_12 => ?_) (fun hc_12 => ?_)
        · skip
          exact absurd hc_12 (by decide)
        · skip
          refine zw_aload_n (pc := 15) (n := 0) (x := 81) rfl (zdal_p dlD_M_block_38 (i := 7) rfl) ?_
          refine zw_iload_n (pc := 16) (n := 1) (x := Int32.ofInt a0_) rfl (zdal_p dlD_M_block_38 (i := 8) rfl) ?_
          refine zw_iload_n (pc := 17) (n := 2) (x := Int32.ofInt a1_) rfl (zdal_p dlD_M_block_38 (i := 9) rfl) ?_
          refine zr_callV (hf.w hW) hf.x (pc := 18) [.int (Int32.ofInt a0_), .int (Int32.ofInt a1_)] [] l_M_432 (c_M_blockOf l Mz (hf.w hW) a0_ ha0_a ha0_b a1_ ha1_a ha1_b T hO p0_ (show 0 ≤ a0_ by first | with_reducible assumption | assumption | omega) (show a0_ < ze Mz 81 26 by first | with_reducible assumption | assumption | omega) (show 2 ≤ a1_ by first | with_reducible assumption | (exact zo_923 ha9_0_hp0_N3_) | assumption)) rfl rfl rfl (by decide) (Nat.le_of_ble_eq_true rfl) (zdal_p dlD_M_block_38 (i := 10) rfl) ?_
          rintro _ N5_ ⟨v6_, rfl, ⟨hv6_a, hv6_b⟩, hsN5_, -⟩
          obtain rfl := hsN5_.eq.symm
          show zW l m_M_block (zn Mz + 0, zw Mz + 0) Mz 21 [some (.ref 81), some (.int (Int32.ofInt a0_)), some (.int (Int32.ofInt a1_))] [.int (Int32.ofInt v6_)] (zpI [] [] Mz (fun v N => True))
          refine zw_goto (pc := 21) (tgt := 25) (by decide) (zdal_p dlD_M_block_38 (i := 11) rfl) ?_
          exact zr_iret (pc := 25) (ty := .int) rfl rfl ⟨by (exact hv6_a), by (exact hv6_b)⟩ hf trivial (zdal_p dlD_M_block_38 (i := 13) rfl)
      · skip
        show zW l m_M_block (zn Mz + 0, zw Mz + 0) Mz 12 [some (.ref 81), some (.int (Int32.ofInt a0_)), some (.int (Int32.ofInt a1_))] [.int (Int32.ofInt 0)] (zpI [] [] Mz (fun v N => True))
        refine zr_if_eq (pc := 12) (tgt := 24) ⟨(by decide), (by decide)⟩ (by decide) (zdal_p dlD_M_block_38 (i := 6) rfl) (fun hc_12 => ?_) (fun hc_12 => ?_)
        · skip
          refine zw_iconst (pc := 24) (v := Int32.ofInt (-1)) (by decide) (zdal_p dlD_M_block_38 (i := 12) rfl) ?_
          exact zr_iret (pc := 25) (ty := .int) rfl rfl ⟨by (decide), by (decide)⟩ hf trivial (zdal_p dlD_M_block_38 (i := 13) rfl)
        · skip
          exact absurd hc_12 (by decide)
  · skip
    show zW l m_M_block (zn Mz + 0, zw Mz + 0) Mz 5 [some (.ref 81), some (.int (Int32.ofInt a0_)), some (.int (Int32.ofInt a1_))] [.int (Int32.ofInt 0)] (zpI [] [] Mz (fun v N => True))
    refine zr_if_eq (pc := 5) (tgt := 24) ⟨(by decide), (by decide)⟩ (by decide) (zdal_p dlD_M_block_38 (i := 3) rfl) (fun hc_5 => ?_) (fun hc_5 => ?_)
    · skip
      refine zw_iconst (pc := 24) (v := Int32.ofInt (-1)) (by decide) (zdal_p dlD_M_block_38 (i := 12) rfl) ?_
      exact zr_iret (pc := 25) (ty := .int) rfl rfl ⟨by (decide), by (decide)⟩ hf trivial (zdal_p dlD_M_block_38 (i := 13) rfl)
    · skip
      exact absurd hc_5 (by decide)
set_option maxHeartbeats 4000000 in
theorem c_M_likes (l : Launch) (Mz : zMem) (hW : zMt Mz) (a0_ : Int) (ha0_a : -2147483648 ≤ a0_) (ha0_b : a0_ < 2147483648) (T : zGT) (hO : gOK T) (p0_ : zGB T Mz) : zC l m_M_likes 0 0 [.ref 81, .int (Int32.ofInt a0_)] Mz (zpI [] [] Mz (fun v N => True)) := by
  refine zC_of (L0 := [some (.ref 81), some (.int (Int32.ofInt a0_)), none, none]) md_M_likes (Nat.le_of_ble_eq_true rfl) rfl ?_ zQ0
  have hf : zFr [] [] Mz Mz := zFr.rf
  have r_20 := ze_r Mz 81 20
  have hG := hO.1
  have g24 := hG.2.1
  have g1 := hG.1
  have dv0 : zTab T Mz := p0_.1
  have dv1 : zB 85 144 0 5 Mz := p0_.2.1
  have dv2 : zJX T Mz := p0_.2.2.1
  have dv3 : zFirs T Mz := p0_.2.2.2.1
  have dv4 : zSSm T Mz := p0_.2.2.2.2.1
  have dv5 : zGD Mz := zGB.d hO p0_
  have gb := dv5.1
  have gn := dv0.1
  refine zw_aload_n (pc := 0) (n := 0) (x := 81) rfl (zdal_p dlD_M_likes_58 (i := 0) rfl) ?_
  refine zw_iload_n (pc := 1) (n := 1) (x := Int32.ofInt a0_) rfl (zdal_p dlD_M_likes_58 (i := 1) rfl) ?_
  refine zr_callV (hf.w hW) hf.x (pc := 2) [.int (Int32.ofInt a0_)] [] l_M_400 (c_M_isMember l Mz (hf.w hW) a0_ ha0_a ha0_b T hO p0_) rfl rfl rfl (by decide) (Nat.le_of_ble_eq_true rfl) (zdal_p dlD_M_likes_58 (i := 2) rfl) ?_
  rintro _ N1_ ⟨v2_, rfl, ⟨hv2_a, hv2_b⟩, hsN1_, hp0_N1_⟩
  obtain rfl := hsN1_.eq.symm
  replace hp0_N1_ : ((v2_ = 1 ∧ 0 ≤ a0_ ∧ a0_ < ze Mz 81 20) ∨ (v2_ = 0)) := hp0_N1_
  rcases hp0_N1_ with ⟨rfl, ha2_0_hp0_N1_, ha2_1_hp0_N1_⟩ | rfl
  · skip
    show zW l m_M_likes (zn Mz + 0, zw Mz + 0) Mz 5 [some (.ref 81), some (.int (Int32.ofInt a0_)), none, none] [.int (Int32.ofInt 1)] (zpI [] [] Mz (fun v N => True))
    refine zr_if_ne (pc := 5) (tgt := 10) ⟨(by decide), (by decide)⟩ (by decide) (zdal_p dlD_M_likes_58 (i := 3) rfl) (fun hc_5 => ?_) (fun hc_5 => ?_)
    · skip
      refine zw_iconst (pc := 10) (v := Int32.ofInt 0) (by decide) (zdal_p dlD_M_likes_58 (i := 6) rfl) ?_
      refine zw_istore_n (pc := 11) (i := 2) (L2 := [some (.ref 81), some (.int (Int32.ofInt a0_)), some (.int (Int32.ofInt 0)), none]) rfl (by decide) rfl (zdal_p dlD_M_likes_58 (i := 7) rfl) ?_
      refine zw_iconst (pc := 12) (v := Int32.ofInt 0) (by decide) (zdal_p dlD_M_likes_58 (i := 8) rfl) ?_
      refine zw_istore_n (pc := 13) (i := 3) (L2 := [some (.ref 81), some (.int (Int32.ofInt a0_)), some (.int (Int32.ofInt 0)), some (.int (Int32.ofInt 0))]) rfl (by decide) rfl (zdal_p dlD_M_likes_58 (i := 9) rfl) ?_
      have lp_14 : ∀ (n : Nat) (u3_ : Int) (hu3_a : -2147483648 ≤ u3_) (hu3_b : u3_ < 2147483648) (u4_ : Int) (hu4_a : -2147483648 ≤ u4_) (hu4_b : u4_ < 2147483648) (i5_ : 0 ≤ u4_) (i6_ : gIn T u3_), (ze Mz 81 20 - u4_).toNat < n → zW l m_M_likes (zn Mz + 0, zw Mz + 0) Mz 14 [some (.ref 81), some (.int (Int32.ofInt a0_)), some (.int (Int32.ofInt u3_)), some (.int (Int32.ofInt u4_))] [] (zpI [] [] Mz (fun v N => True)) := by
        intro n
        induction n with
        | zero =>
          intro u3_ hu3_a hu3_b u4_ hu4_a hu4_b i5_ i6_ h0
          exact absurd h0 (Nat.not_lt_zero _)
        | succ n ih_14 =>
          intro u3_ hu3_a hu3_b u4_ hu4_a hu4_b i5_ i6_ hlt_14
          refine zw_iload_n (pc := 14) (n := 3) (x := Int32.ofInt u4_) rfl (zdal_p dlD_M_likes_58 (i := 10) rfl) ?_
          refine zw_aload_n (pc := 15) (n := 0) (x := 81) rfl (zdal_p dlD_M_likes_58 (i := 11) rfl) ?_
          refine zr_getI0 hf hW (pc := 16) (by decide) f_M_196 rfl (zdal_p dlD_M_likes_58 (i := 12) rfl) ?_
          refine zr_icmp_ge (pc := 19) (tgt := 49) ⟨hu4_a, hu4_b⟩ ⟨(ze_r Mz 81 20).1, (ze_r Mz 81 20).2⟩ (by decide) (zdal_p dlD_M_likes_58 (i := 13) rfl) (fun hc_19 => ?_) (fun hc_19 => ?_)
          · skip
            refine zw_iload_n (pc := 49) (n := 2) (x := Int32.ofInt u3_) rfl (zdal_p dlD_M_likes_59 (i := 7) rfl) ?_
            refine zr_callS hf.x (pc := 50) [.int (Int32.ofInt u3_)] [] l_M_253 (c_M_ones l Mz (hf.w hW) u3_ hu3_a hu3_b (show 0 ≤ u3_ by exact (show gIn T u3_ by first | with_reducible assumption | assumption).1)) rfl rfl (by decide) (Nat.le_of_ble_eq_true rfl) (zdal_p dlD_M_likes_59 (i := 8) rfl) ?_
            rintro _ N7_ ⟨v8_, rfl, ⟨hv8_a, hv8_b⟩, hsN7_, ⟨hp0_N7_, hp1_N7_, hp2_N7_⟩⟩
            obtain rfl := hsN7_.eq.symm
            show zW l m_M_likes (zn Mz + 0, zw Mz + 0) Mz 53 [some (.ref 81), some (.int (Int32.ofInt a0_)), some (.int (Int32.ofInt u3_)), some (.int (Int32.ofInt u4_))] [.int (Int32.ofInt v8_)] (zpI [] [] Mz (fun v N => True))
            exact zr_iret (pc := 53) (ty := .int) rfl rfl ⟨by (exact hv8_a), by (exact hv8_b)⟩ hf trivial (zdal_p dlD_M_likes_59 (i := 9) rfl)
          · skip
            refine zw_iload_n (pc := 22) (n := 2) (x := Int32.ofInt u3_) rfl (zdal_p dlD_M_likes_58 (i := 14) rfl) ?_
            refine zw_iconst (pc := 23) (v := Int32.ofInt 1) (by decide) (zdal_p dlD_M_likes_58 (i := 15) rfl) ?_
            refine zw_aload_n (pc := 24) (n := 0) (x := 81) rfl (zdal_p dlD_M_likes_58 (i := 16) rfl) ?_
            refine zw_aload_n (pc := 25) (n := 0) (x := 81) rfl (zdal_p dlD_M_likes_58 (i := 17) rfl) ?_
            refine zw_aload_n (pc := 26) (n := 0) (x := 81) rfl (zdal_p dlD_M_likes_58 (i := 18) rfl) ?_
            refine zr_getF (r := 88) (hf.w hW) (pc := 27) f_M_35 rfl (zh_88 (hf.w hW)).1 (zdal_p dlD_M_likes_58 (i := 19) rfl) ?_
            refine zw_iload_n (pc := 30) (n := 3) (x := Int32.ofInt u4_) rfl (zdal_p dlD_M_likes_58 (i := 20) rfl) ?_
            refine zr_ialdn (pc := 31) (zh_88 (hf.w hW)).2 (by decide) (by (exact i5_)) (by (exact zo_924 gb.2.1 hc_19)) (zdal_p dlD_M_likes_58 (i := 21) rfl) (fun v9_ hv9_ hv9_a hv9_b => ?_)
            have hu_x := dv0.u (a := u4_) (by (exact i5_)) (by (exact hc_19))
            have hu_y := hG.2.2.1 (u4_).toNat (by (exact zo_925 gn hc_19 i5_))
            refine zw_iload_n (pc := 32) (n := 1) (x := Int32.ofInt a0_) rfl (zdal_p dlD_M_likes_58 (i := 22) rfl) ?_
            refine zr_callV (hf.w hW) hf.x (pc := 33) [.int (Int32.ofInt v9_), .int (Int32.ofInt a0_)] [.ref 81, .int (Int32.ofInt 1), .int (Int32.ofInt u3_)] l_M_216 (c_M_by l Mz (hf.w hW) v9_ hv9_a hv9_b a0_ ha0_a ha0_b T hG dv0 (show 0 ≤ v9_ by first | with_reducible assumption | (exact zo_926 hu_x hv9_ hv9_a) | assumption) (show v9_ < ze Mz 81 20 by first | with_reducible assumption | (exact zo_927 gb.1 gn hu_x hu_y hv9_ hv9_b) | assumption) (show 0 ≤ a0_ by first | with_reducible assumption | assumption | omega) (show a0_ < ze Mz 81 20 by first | with_reducible assumption | assumption | omega)) rfl rfl rfl (by decide) (Nat.le_of_ble_eq_true rfl) (zdal_p dlD_M_likes_58 (i := 23) rfl) ?_
            rintro _ N10_ ⟨v11_, rfl, ⟨hv11_a, hv11_b⟩, hsN10_, ⟨hp0_N10_, hp1_N10_, hp2_N10_⟩⟩
            obtain rfl := hsN10_.eq.symm
            show zW l m_M_likes (zn Mz + 0, zw Mz + 0) Mz 36 [some (.ref 81), some (.int (Int32.ofInt a0_)), some (.int (Int32.ofInt u3_)), some (.int (Int32.ofInt u4_))] [.int (Int32.ofInt v11_), .ref 81, .int (Int32.ofInt 1), .int (Int32.ofInt u3_)] (zpI [] [] Mz (fun v N => True))
            refine zw_iload_n (pc := 36) (n := 3) (x := Int32.ofInt u4_) rfl (zdal_p dlD_M_likes_59 (i := 0) rfl) ?_
            refine zr_callV (hf.w hW) hf.x (pc := 37) [.int (Int32.ofInt v11_), .int (Int32.ofInt u4_)] [.int (Int32.ofInt 1), .int (Int32.ofInt u3_)] l_M_216 (c_M_by l Mz (hf.w hW) v11_ hv11_a hv11_b u4_ hu4_a hu4_b T hG dv0 (show 0 ≤ v11_ by first | with_reducible assumption | assumption | omega) (show v11_ < ze Mz 81 20 by first | with_reducible assumption | assumption | omega) (show 0 ≤ u4_ by first | with_reducible assumption | assumption | omega) (show u4_ < ze Mz 81 20 by first | with_reducible assumption | assumption | omega)) rfl rfl rfl (by decide) (Nat.le_of_ble_eq_true rfl) (zdal_p dlD_M_likes_59 (i := 1) rfl) ?_
            rintro _ N12_ ⟨v13_, rfl, ⟨hv13_a, hv13_b⟩, hsN12_, ⟨hp0_N12_, hp1_N12_, hp2_N12_⟩⟩
            obtain rfl := hsN12_.eq.symm
            show zW l m_M_likes (zn Mz + 0, zw Mz + 0) Mz 40 [some (.ref 81), some (.int (Int32.ofInt a0_)), some (.int (Int32.ofInt u3_)), some (.int (Int32.ofInt u4_))] [.int (Int32.ofInt v13_), .int (Int32.ofInt 1), .int (Int32.ofInt u3_)] (zpI [] [] Mz (fun v N => True))
            refine zr_ishl (pc := 40) (zdal_p dlD_M_likes_59 (i := 2) rfl) ?_
            have hr14_ := zshl_r 1 v13_
            refine zr_ior (pc := 41) (zdal_p dlD_M_likes_59 (i := 3) rfl) ?_
            have hr15_ := zor_r u3_ (zshl 1 v13_)
            refine zw_istore_n (pc := 42) (i := 2) (L2 := [some (.ref 81), some (.int (Int32.ofInt a0_)), some (.int (Int32.ofInt (zor u3_ (zshl 1 v13_)))), some (.int (Int32.ofInt u4_))]) rfl (by decide) rfl (zdal_p dlD_M_likes_59 (i := 4) rfl) ?_
            refine zr_iinc (pc := 43) (i := 3) (a := u4_) (n := 1) (L2 := [some (.ref 81), some (.int (Int32.ofInt a0_)), some (.int (Int32.ofInt (zor u3_ (zshl 1 v13_)))), some (.int (Int32.ofInt (u4_ + 1)))]) rfl (by decide) rfl (zdal_p dlD_M_likes_59 (i := 5) rfl) ?_
            refine zw_goto (pc := 46) (tgt := 14) (by decide) (zdal_p dlD_M_likes_59 (i := 6) rfl) ?_
            exact ih_14 (zor u3_ (zshl 1 v13_)) (by (exact zo_284 hr15_.1)) (by (exact zo_285 hr15_.2)) (u4_ + 1) (by (exact zo_74 i5_)) (by (exact zo_919 gb.2.1 hc_19)) (show 0 ≤ (u4_ + 1) by first | with_reducible assumption | (exact zo_76 i5_) | assumption) (show gIn T (zor u3_ (zshl 1 v13_)) by exact gIn_t hG (by first | with_reducible assumption | assumption) (Or.inr rfl) (by (exact hp1_N12_)) (by (exact zo_928 gb.2.1 gn hp2_N12_))) (by (exact zo_147 hc_19 hlt_14))
      exact lp_14 _ 0 (by decide) (by decide) 0 (by decide) (by decide) (show 0 ≤ (0 : Int) by first | with_reducible assumption | (decide) | assumption) (show gIn T (0 : Int) by exact gIn_0 T) (Nat.lt_succ_self _)
    · skip
      exact absurd hc_5 (by decide)
  · skip
    show zW l m_M_likes (zn Mz + 0, zw Mz + 0) Mz 5 [some (.ref 81), some (.int (Int32.ofInt a0_)), none, none] [.int (Int32.ofInt 0)] (zpI [] [] Mz (fun v N => True))
    refine zr_if_ne (pc := 5) (tgt := 10) ⟨(by decide), (by decide)⟩ (by decide) (zdal_p dlD_M_likes_58 (i := 3) rfl) (fun hc_5 => ?_) (fun hc_5 => ?_)
    · skip
      exact absurd hc_5 (by decide)
    · skip
      refine zw_iconst (pc := 8) (v := Int32.ofInt (-1)) (by decide) (zdal_p dlD_M_likes_58 (i := 4) rfl) ?_
      exact zr_iret (pc := 9) (ty := .int) rfl rfl ⟨by (decide), by (decide)⟩ hf trivial (zdal_p dlD_M_likes_58 (i := 5) rfl)
set_option maxHeartbeats 4000000 in
theorem c_M_mixed (l : Launch) (Mz : zMem) (hW : zMt Mz) (a0_ : Int) (ha0_a : -2147483648 ≤ a0_) (ha0_b : a0_ < 2147483648) (T : zGT) (hO : gOK T) (p0_ : zGB T Mz) : zC l m_M_mixed 0 0 [.ref 81, .int (Int32.ofInt a0_)] Mz (zpI [] [] Mz (fun v N => True)) := by
  refine zC_of (L0 := [some (.ref 81), some (.int (Int32.ofInt a0_)), none, none, none]) md_M_mixed (Nat.le_of_ble_eq_true rfl) rfl ?_ zQ0
  have hf : zFr [] [] Mz Mz := zFr.rf
  have r_20 := ze_r Mz 81 20
  have r_26 := ze_r Mz 81 26
  have hG := hO.1
  have g24 := hG.2.1
  have g1 := hG.1
  have dv0 : zTab T Mz := p0_.1
  have dv1 : zB 85 144 0 5 Mz := p0_.2.1
  have dv2 : zJX T Mz := p0_.2.2.1
  have dv3 : zFirs T Mz := p0_.2.2.2.1
  have dv4 : zSSm T Mz := p0_.2.2.2.2.1
  have dv5 : zGD Mz := zGB.d hO p0_
  have gb := dv5.1
  have gn := dv0.1
  refine zw_aload_n (pc := 0) (n := 0) (x := 81) rfl (zdal_p dlD_M_mixed_52 (i := 0) rfl) ?_
  refine zw_iload_n (pc := 1) (n := 1) (x := Int32.ofInt a0_) rfl (zdal_p dlD_M_mixed_52 (i := 1) rfl) ?_
  refine zr_callV (hf.w hW) hf.x (pc := 2) [.int (Int32.ofInt a0_)] [] l_M_414 (c_M_isSort l Mz (hf.w hW) a0_ ha0_a ha0_b T hO p0_) rfl rfl rfl (by decide) (Nat.le_of_ble_eq_true rfl) (zdal_p dlD_M_mixed_52 (i := 2) rfl) ?_
  rintro _ N1_ ⟨v2_, rfl, ⟨hv2_a, hv2_b⟩, hsN1_, hp0_N1_⟩
  obtain rfl := hsN1_.eq.symm
  replace hp0_N1_ : ((v2_ = 1 ∧ 0 ≤ a0_ ∧ a0_ < ze Mz 81 26) ∨ (v2_ = 0)) := hp0_N1_
  rcases hp0_N1_ with ⟨rfl, ha2_0_hp0_N1_, ha2_1_hp0_N1_⟩ | rfl
  · skip
    show zW l m_M_mixed (zn Mz + 0, zw Mz + 0) Mz 5 [some (.ref 81), some (.int (Int32.ofInt a0_)), none, none, none] [.int (Int32.ofInt 1)] (zpI [] [] Mz (fun v N => True))
    refine zr_if_ne (pc := 5) (tgt := 10) ⟨(by decide), (by decide)⟩ (by decide) (zdal_p dlD_M_mixed_52 (i := 3) rfl) (fun hc_5 => ?_) (fun hc_5 => ?_)
    · skip
      refine zw_iconst (pc := 10) (v := Int32.ofInt 0) (by decide) (zdal_p dlD_M_mixed_52 (i := 6) rfl) ?_
      refine zw_istore_n (pc := 11) (i := 2) (L2 := [some (.ref 81), some (.int (Int32.ofInt a0_)), some (.int (Int32.ofInt 0)), none, none]) rfl (by decide) rfl (zdal_p dlD_M_mixed_52 (i := 7) rfl) ?_
      refine zw_iconst (pc := 12) (v := Int32.ofInt 0) (by decide) (zdal_p dlD_M_mixed_52 (i := 8) rfl) ?_
      refine zw_istore_n (pc := 13) (i := 3) (L2 := [some (.ref 81), some (.int (Int32.ofInt a0_)), some (.int (Int32.ofInt 0)), some (.int (Int32.ofInt 0)), none]) rfl (by decide) rfl (zdal_p dlD_M_mixed_52 (i := 9) rfl) ?_
      have lp_14 : ∀ (n : Nat) (u3_ : Int) (hu3_a : -2147483648 ≤ u3_) (hu3_b : u3_ < 2147483648) (u4_ : Int) (hu4_a : -2147483648 ≤ u4_) (hu4_b : u4_ < 2147483648) (i5_ : 0 ≤ u4_) (i6_ : gIn T u3_), (ze Mz 81 20 - u4_).toNat < n → zW l m_M_mixed (zn Mz + 0, zw Mz + 0) Mz 14 [some (.ref 81), some (.int (Int32.ofInt a0_)), some (.int (Int32.ofInt u3_)), some (.int (Int32.ofInt u4_)), none] [] (zpI [] [] Mz (fun v N => True)) := by
        intro n
        induction n with
        | zero =>
          intro u3_ hu3_a hu3_b u4_ hu4_a hu4_b i5_ i6_ h0
          exact absurd h0 (Nat.not_lt_zero _)
        | succ n ih_14 =>
          intro u3_ hu3_a hu3_b u4_ hu4_a hu4_b i5_ i6_ hlt_14
          refine zw_iload_n (pc := 14) (n := 3) (x := Int32.ofInt u4_) rfl (zdal_p dlD_M_mixed_52 (i := 10) rfl) ?_
          refine zw_aload_n (pc := 15) (n := 0) (x := 81) rfl (zdal_p dlD_M_mixed_52 (i := 11) rfl) ?_
          refine zr_getI0 hf hW (pc := 16) (by decide) f_M_196 rfl (zdal_p dlD_M_mixed_52 (i := 12) rfl) ?_
          refine zr_icmp_ge (pc := 19) (tgt := 106) ⟨hu4_a, hu4_b⟩ ⟨(ze_r Mz 81 20).1, (ze_r Mz 81 20).2⟩ (by decide) (zdal_p dlD_M_mixed_52 (i := 13) rfl) (fun hc_19 => ?_) (fun hc_19 => ?_)
          · skip
            refine zw_aload_n (pc := 106) (n := 0) (x := 81) rfl (zdal_p dlD_M_mixed_54 (i := 11) rfl) ?_
            refine zw_aload_n (pc := 107) (n := 0) (x := 81) rfl (zdal_p dlD_M_mixed_54 (i := 12) rfl) ?_
            refine zw_iload_n (pc := 108) (n := 2) (x := Int32.ofInt u3_) rfl (zdal_p dlD_M_mixed_54 (i := 13) rfl) ?_
            refine zr_callV (hf.w hW) hf.x (pc := 109) [.int (Int32.ofInt u3_)] [.ref 81] l_M_229 (c_M_closed l Mz (hf.w hW) u3_ hu3_a hu3_b T hG dv0 (show gIn T u3_ by first | with_reducible assumption | assumption)) rfl rfl rfl (by decide) (Nat.le_of_ble_eq_true rfl) (zdal_p dlD_M_mixed_54 (i := 14) rfl) ?_
            rintro _ N7_ ⟨v8_, rfl, ⟨hv8_a, hv8_b⟩, hsN7_, ⟨hp0_N7_, hp1_N7_, hp2_N7_⟩⟩
            obtain rfl := hsN7_.eq.symm
            show zW l m_M_mixed (zn Mz + 0, zw Mz + 0) Mz 112 [some (.ref 81), some (.int (Int32.ofInt a0_)), some (.int (Int32.ofInt u3_)), some (.int (Int32.ofInt u4_)), none] [.int (Int32.ofInt v8_), .ref 81] (zpI [] [] Mz (fun v N => True))
            have hm_Mz := gMe_c hO hp0_N7_ (by (exact hp1_N7_))
            refine zr_callV (hf.w hW) hf.x (pc := 112) [.int (Int32.ofInt v8_)] [] l_M_411 (c_M_sortOfSet l Mz (hf.w hW) v8_ hv8_a hv8_b T hO p0_ (show gMe T v8_ by first | with_reducible assumption | assumption)) rfl rfl rfl (by decide) (Nat.le_of_ble_eq_true rfl) (zdal_p dlD_M_mixed_54 (i := 15) rfl) ?_
            rintro _ N9_ ⟨v10_, rfl, ⟨hv10_a, hv10_b⟩, hsN9_, ⟨hp0_N9_, hp1_N9_⟩⟩
            obtain rfl := hsN9_.eq.symm
            show zW l m_M_mixed (zn Mz + 0, zw Mz + 0) Mz 115 [some (.ref 81), some (.int (Int32.ofInt a0_)), some (.int (Int32.ofInt u3_)), some (.int (Int32.ofInt u4_)), none] [.int (Int32.ofInt v10_)] (zpI [] [] Mz (fun v N => True))
            exact zr_iret (pc := 115) (ty := .int) rfl rfl ⟨by (exact hv10_a), by (exact hv10_b)⟩ hf trivial (zdal_p dlD_M_mixed_54 (i := 16) rfl)
          · skip
            refine zw_iconst (pc := 22) (v := Int32.ofInt 0) (by decide) (zdal_p dlD_M_mixed_52 (i := 14) rfl) ?_
            refine zw_istore (pc := 23) (i := 4) (L2 := [some (.ref 81), some (.int (Int32.ofInt a0_)), some (.int (Int32.ofInt u3_)), some (.int (Int32.ofInt u4_)), some (.int (Int32.ofInt 0))]) (by decide) rfl (zdal_p dlD_M_mixed_52 (i := 15) rfl) ?_
            have lp_25 : ∀ (n : Nat) (u11_ : Int) (hu11_a : -2147483648 ≤ u11_) (hu11_b : u11_ < 2147483648) (u12_ : Int) (hu12_a : -2147483648 ≤ u12_) (hu12_b : u12_ < 2147483648) (i13_ : 0 ≤ u12_) (i14_ : gIn T u11_), (ze Mz 81 20 - u12_).toNat < n → zW l m_M_mixed (zn Mz + 0, zw Mz + 0) Mz 25 [some (.ref 81), some (.int (Int32.ofInt a0_)), some (.int (Int32.ofInt u11_)), some (.int (Int32.ofInt u4_)), some (.int (Int32.ofInt u12_))] [] (zpI [] [] Mz (fun v N => True)) := by
              intro n
              induction n with
              | zero =>
                intro u11_ hu11_a hu11_b u12_ hu12_a hu12_b i13_ i14_ h0
                exact absurd h0 (Nat.not_lt_zero _)
              | succ n ih_25 =>
                intro u11_ hu11_a hu11_b u12_ hu12_a hu12_b i13_ i14_ hlt_25
                refine zw_iload (pc := 25) (i := 4) (x := Int32.ofInt u12_) rfl (zdal_p dlD_M_mixed_52 (i := 16) rfl) ?_
                refine zw_aload_n (pc := 27) (n := 0) (x := 81) rfl (zdal_p dlD_M_mixed_52 (i := 17) rfl) ?_
                refine zr_getI0 hf hW (pc := 28) (by decide) f_M_196 rfl (zdal_p dlD_M_mixed_52 (i := 18) rfl) ?_
                refine zr_icmp_ge (pc := 31) (tgt := 100) ⟨hu12_a, hu12_b⟩ ⟨(ze_r Mz 81 20).1, (ze_r Mz 81 20).2⟩ (by decide) (zdal_p dlD_M_mixed_52 (i := 19) rfl) (fun hc_31 => ?_) (fun hc_31 => ?_)
                · skip
                  refine zr_iinc (pc := 100) (i := 3) (a := u4_) (n := 1) (L2 := [some (.ref 81), some (.int (Int32.ofInt a0_)), some (.int (Int32.ofInt u11_)), some (.int (Int32.ofInt (u4_ + 1))), some (.int (Int32.ofInt u12_))]) rfl (by decide) rfl (zdal_p dlD_M_mixed_54 (i := 9) rfl) ?_
                  refine zw_goto (pc := 103) (tgt := 14) (by decide) (zdal_p dlD_M_mixed_54 (i := 10) rfl) ?_
                  refine zW_le [some (.ref 81), some (.int (Int32.ofInt a0_)), some (.int (Int32.ofInt u11_)), some (.int (Int32.ofInt (u4_ + 1))), none] (⟨rfl, rfl, rfl, rfl, trivial⟩) ?_
                  exact ih_14 u11_ hu11_a hu11_b (u4_ + 1) (by (exact zo_74 i5_)) (by (exact zo_919 gb.2.1 hc_19)) (show 0 ≤ (u4_ + 1) by first | with_reducible assumption | (exact zo_76 i5_) | assumption) (show gIn T u11_ by first | with_reducible assumption | assumption | omega) (by (exact zo_147 hc_19 hlt_14))
                · skip
                  refine zw_aload_n (pc := 34) (n := 0) (x := 81) rfl (zdal_p dlD_M_mixed_52 (i := 20) rfl) ?_
                  refine zr_getF (r := 91) (hf.w hW) (pc := 35) f_M_44 rfl (zh_91 (hf.w hW)).1 (zdal_p dlD_M_mixed_52 (i := 21) rfl) ?_
                  refine zw_iload_n (pc := 38) (n := 1) (x := Int32.ofInt a0_) rfl (zdal_p dlD_M_mixed_52 (i := 22) rfl) ?_
                  refine zr_ialdn (pc := 39) (zh_91 (hf.w hW)).2 (by decide) (by (exact ha2_0_hp0_N1_)) (by (exact zo_906 gb.2.2.2.2.2 ha0_b ha2_1_hp0_N1_)) (zdal_p dlD_M_mixed_52 (i := 23) rfl) (fun v15_ hv15_ hv15_a hv15_b => ?_)
                  have hf_x := dv3.g hO (e := a0_) (by (exact ha2_0_hp0_N1_)) (by (exact ha2_1_hp0_N1_))
                  refine zr_toI (show v15_ = ze Mz 91 (a0_).toNat by (exact hv15_)) ?_
                  refine zw_iload_n (pc := 40) (n := 3) (x := Int32.ofInt u4_) rfl (zdal_p dlD_M_mixed_53 (i := 0) rfl) ?_
                  refine zr_callS hf.x (pc := 41) [.int (Int32.ofInt (ze Mz 91 (a0_).toNat)), .int (Int32.ofInt u4_)] [] l_M_213 (c_M_holds l Mz (hf.w hW) (ze Mz 91 (a0_).toNat) (by (exact zo_168 hf_x.2.1)) (by (exact zo_550 hv15_ hv15_b)) u4_ hu4_a hu4_b (show 0 ≤ (ze Mz 91 (a0_).toNat) by first | with_reducible assumption | (exact zo_57 hf_x.2.1) | assumption) (show 0 ≤ u4_ by first | with_reducible assumption | assumption | omega) (show u4_ < 32 by first | with_reducible assumption | (exact zo_918 gb.2.1 hc_19) | assumption)) rfl rfl (by decide) (Nat.le_of_ble_eq_true rfl) (zdal_p dlD_M_mixed_53 (i := 1) rfl) ?_
                  rintro _ N16_ ⟨v17_, rfl, ⟨hv17_a, hv17_b⟩, hsN16_, hp0_N16_⟩
                  obtain rfl := hsN16_.eq.symm
                  replace hp0_N16_ : ((v17_ = 1 ∧ zbt (ze Mz 91 (a0_).toNat) u4_) ∨ (v17_ = 0 ∧ ¬ zbt (ze Mz 91 (a0_).toNat) u4_)) := hp0_N16_
                  rcases hp0_N16_ with ⟨rfl, ha41_0_hp0_N16_⟩ | ⟨rfl, ha41_0_hp0_N16_⟩
                  · skip
                    show zW l m_M_mixed (zn Mz + 0, zw Mz + 0) Mz 44 [some (.ref 81), some (.int (Int32.ofInt a0_)), some (.int (Int32.ofInt u11_)), some (.int (Int32.ofInt u4_)), some (.int (Int32.ofInt u12_))] [.int (Int32.ofInt 1)] (zpI [] [] Mz (fun v N => True))
                    refine zr_if_eq (pc := 44) (tgt := 94) ⟨(by decide), (by decide)⟩ (by decide) (zdal_p dlD_M_mixed_53 (i := 2) rfl) (fun hc_44 => ?_) (fun hc_44 => ?_)
                    · skip
                      exact absurd hc_44 (by decide)
                    · skip
                      refine zw_aload_n (pc := 47) (n := 0) (x := 81) rfl (zdal_p dlD_M_mixed_53 (i := 3) rfl) ?_
                      refine zr_getF (r := 91) (hf.w hW) (pc := 48) f_M_44 rfl (zh_91 (hf.w hW)).1 (zdal_p dlD_M_mixed_53 (i := 4) rfl) ?_
                      refine zw_iload_n (pc := 51) (n := 1) (x := Int32.ofInt a0_) rfl (zdal_p dlD_M_mixed_53 (i := 5) rfl) ?_
                      refine zr_ialdn (pc := 52) (zh_91 (hf.w hW)).2 (by decide) (by (exact ha2_0_hp0_N1_)) (by (exact zo_906 gb.2.2.2.2.2 ha0_b ha2_1_hp0_N1_)) (zdal_p dlD_M_mixed_53 (i := 6) rfl) (fun v18_ hv18_ hv18_a hv18_b => ?_)
                      have hf_x := dv3.g hO (e := a0_) (by (exact ha2_0_hp0_N1_)) (by (exact ha2_1_hp0_N1_))
                      refine zr_toI (show v18_ = ze Mz 91 (a0_).toNat by (exact hv18_)) ?_
                      refine zw_iload (pc := 53) (i := 4) (x := Int32.ofInt u12_) rfl (zdal_p dlD_M_mixed_53 (i := 7) rfl) ?_
                      refine zr_callS hf.x (pc := 55) [.int (Int32.ofInt (ze Mz 91 (a0_).toNat)), .int (Int32.ofInt u12_)] [] l_M_213 (c_M_holds l Mz (hf.w hW) (ze Mz 91 (a0_).toNat) (by (exact zo_168 hf_x.2.1)) (by (exact zo_550 hv18_ hv18_b)) u12_ hu12_a hu12_b (show 0 ≤ (ze Mz 91 (a0_).toNat) by first | with_reducible assumption | (exact zo_57 hf_x.2.1) | assumption) (show 0 ≤ u12_ by first | with_reducible assumption | assumption | omega) (show u12_ < 32 by first | with_reducible assumption | (exact zo_918 gb.2.1 hc_31) | assumption)) rfl rfl (by decide) (Nat.le_of_ble_eq_true rfl) (zdal_p dlD_M_mixed_53 (i := 8) rfl) ?_
                      rintro _ N19_ ⟨v20_, rfl, ⟨hv20_a, hv20_b⟩, hsN19_, hp0_N19_⟩
                      obtain rfl := hsN19_.eq.symm
                      replace hp0_N19_ : ((v20_ = 1 ∧ zbt (ze Mz 91 (a0_).toNat) u12_) ∨ (v20_ = 0 ∧ ¬ zbt (ze Mz 91 (a0_).toNat) u12_)) := hp0_N19_
                      rcases hp0_N19_ with ⟨rfl, ha55_0_hp0_N19_⟩ | ⟨rfl, ha55_0_hp0_N19_⟩
                      · skip
                        show zW l m_M_mixed (zn Mz + 0, zw Mz + 0) Mz 58 [some (.ref 81), some (.int (Int32.ofInt a0_)), some (.int (Int32.ofInt u11_)), some (.int (Int32.ofInt u4_)), some (.int (Int32.ofInt u12_))] [.int (Int32.ofInt 1)] (zpI [] [] Mz (fun v N => True))
                        refine zr_if_eq (pc := 58) (tgt := 94) ⟨(by decide), (by decide)⟩ (by decide) (zdal_p dlD_M_mixed_53 (i := 9) rfl) (fun hc_58 => ?_) (fun hc_58 => ?_)
                        · skip
                          exact absurd hc_58 (by decide)
                        · skip
                          refine zw_iload_n (pc := 61) (n := 2) (x := Int32.ofInt u11_) rfl (zdal_p dlD_M_mixed_53 (i := 10) rfl) ?_
                          refine zw_iconst (pc := 62) (v := Int32.ofInt 1) (by decide) (zdal_p dlD_M_mixed_53 (i := 11) rfl) ?_
                          refine zw_aload_n (pc := 63) (n := 0) (x := 81) rfl (zdal_p dlD_M_mixed_53 (i := 12) rfl) ?_
                          refine zw_aload_n (pc := 64) (n := 0) (x := 81) rfl (zdal_p dlD_M_mixed_53 (i := 13) rfl) ?_
                          refine zw_aload_n (pc := 65) (n := 0) (x := 81) rfl (zdal_p dlD_M_mixed_53 (i := 14) rfl) ?_
                          refine zw_aload_n (pc := 66) (n := 0) (x := 81) rfl (zdal_p dlD_M_mixed_53 (i := 15) rfl) ?_
                          refine zr_getF (r := 88) (hf.w hW) (pc := 67) f_M_35 rfl (zh_88 (hf.w hW)).1 (zdal_p dlD_M_mixed_53 (i := 16) rfl) ?_
                          refine zw_iload_n (pc := 70) (n := 3) (x := Int32.ofInt u4_) rfl (zdal_p dlD_M_mixed_53 (i := 17) rfl) ?_
                          refine zr_ialdn (pc := 71) (zh_88 (hf.w hW)).2 (by decide) (by (exact i5_)) (by (exact zo_924 gb.2.1 hc_19)) (zdal_p dlD_M_mixed_53 (i := 18) rfl) (fun v21_ hv21_ hv21_a hv21_b => ?_)
                          have hu_x := dv0.u (a := u4_) (by (exact i5_)) (by (exact hc_19))
                          have hu_y := hG.2.2.1 (u4_).toNat (by (exact zo_925 gn hc_19 i5_))
                          refine zw_aload_n (pc := 72) (n := 0) (x := 81) rfl (zdal_p dlD_M_mixed_53 (i := 19) rfl) ?_
                          refine zr_getF (r := 88) (hf.w hW) (pc := 73) f_M_35 rfl (zh_88 (hf.w hW)).1 (zdal_p dlD_M_mixed_53 (i := 20) rfl) ?_
                          refine zw_iload (pc := 76) (i := 4) (x := Int32.ofInt u12_) rfl (zdal_p dlD_M_mixed_53 (i := 21) rfl) ?_
                          refine zr_ialdn (pc := 78) (zh_88 (hf.w hW)).2 (by decide) (by (exact i13_)) (by (exact zo_924 gb.2.1 hc_31)) (zdal_p dlD_M_mixed_53 (i := 22) rfl) (fun v22_ hv22_ hv22_a hv22_b => ?_)
                          have hu_z := dv0.u (a := u12_) (by (exact i13_)) (by (exact hc_31))
                          have hu_w := hG.2.2.1 (u12_).toNat (by (exact zo_925 gn hc_31 i13_))
                          refine zr_callV (hf.w hW) hf.x (pc := 79) [.int (Int32.ofInt v21_), .int (Int32.ofInt v22_)] [.ref 81, .ref 81, .int (Int32.ofInt 1), .int (Int32.ofInt u11_)] l_M_216 (c_M_by l Mz (hf.w hW) v21_ hv21_a hv21_b v22_ hv22_a hv22_b T hG dv0 (show 0 ≤ v21_ by first | with_reducible assumption | (exact zo_926 hu_x hv21_ hv21_a) | assumption) (show v21_ < ze Mz 81 20 by first | with_reducible assumption | (exact zo_927 gb.1 gn hu_x hu_y hv21_ hv21_b) | assumption) (show 0 ≤ v22_ by first | with_reducible assumption | (exact zo_926 hu_z hv22_ hv22_a) | assumption) (show v22_ < ze Mz 81 20 by first | with_reducible assumption | (exact zo_929 gb.1 gn hu_w hu_z hv22_ hv22_b) | assumption)) rfl rfl rfl (by decide) (Nat.le_of_ble_eq_true rfl) (zdal_p dlD_M_mixed_53 (i := 23) rfl) ?_
                          rintro _ N23_ ⟨v24_, rfl, ⟨hv24_a, hv24_b⟩, hsN23_, ⟨hp0_N23_, hp1_N23_, hp2_N23_⟩⟩
                          obtain rfl := hsN23_.eq.symm
                          show zW l m_M_mixed (zn Mz + 0, zw Mz + 0) Mz 82 [some (.ref 81), some (.int (Int32.ofInt a0_)), some (.int (Int32.ofInt u11_)), some (.int (Int32.ofInt u4_)), some (.int (Int32.ofInt u12_))] [.int (Int32.ofInt v24_), .ref 81, .ref 81, .int (Int32.ofInt 1), .int (Int32.ofInt u11_)] (zpI [] [] Mz (fun v N => True))
                          refine zw_iload_n (pc := 82) (n := 3) (x := Int32.ofInt u4_) rfl (zdal_p dlD_M_mixed_54 (i := 0) rfl) ?_
                          refine zr_callV (hf.w hW) hf.x (pc := 83) [.int (Int32.ofInt v24_), .int (Int32.ofInt u4_)] [.ref 81, .int (Int32.ofInt 1), .int (Int32.ofInt u11_)] l_M_216 (c_M_by l Mz (hf.w hW) v24_ hv24_a hv24_b u4_ hu4_a hu4_b T hG dv0 (show 0 ≤ v24_ by first | with_reducible assumption | assumption | omega) (show v24_ < ze Mz 81 20 by first | with_reducible assumption | assumption | omega) (show 0 ≤ u4_ by first | with_reducible assumption | assumption | omega) (show u4_ < ze Mz 81 20 by first | with_reducible assumption | assumption | omega)) rfl rfl rfl (by decide) (Nat.le_of_ble_eq_true rfl) (zdal_p dlD_M_mixed_54 (i := 1) rfl) ?_
                          rintro _ N25_ ⟨v26_, rfl, ⟨hv26_a, hv26_b⟩, hsN25_, ⟨hp0_N25_, hp1_N25_, hp2_N25_⟩⟩
                          obtain rfl := hsN25_.eq.symm
                          show zW l m_M_mixed (zn Mz + 0, zw Mz + 0) Mz 86 [some (.ref 81), some (.int (Int32.ofInt a0_)), some (.int (Int32.ofInt u11_)), some (.int (Int32.ofInt u4_)), some (.int (Int32.ofInt u12_))] [.int (Int32.ofInt v26_), .ref 81, .int (Int32.ofInt 1), .int (Int32.ofInt u11_)] (zpI [] [] Mz (fun v N => True))
                          refine zw_iload (pc := 86) (i := 4) (x := Int32.ofInt u12_) rfl (zdal_p dlD_M_mixed_54 (i := 2) rfl) ?_
                          refine zr_callV (hf.w hW) hf.x (pc := 88) [.int (Int32.ofInt v26_), .int (Int32.ofInt u12_)] [.int (Int32.ofInt 1), .int (Int32.ofInt u11_)] l_M_216 (c_M_by l Mz (hf.w hW) v26_ hv26_a hv26_b u12_ hu12_a hu12_b T hG dv0 (show 0 ≤ v26_ by first | with_reducible assumption | assumption | omega) (show v26_ < ze Mz 81 20 by first | with_reducible assumption | assumption | omega) (show 0 ≤ u12_ by first | with_reducible assumption | assumption | omega) (show u12_ < ze Mz 81 20 by first | with_reducible assumption | assumption | omega)) rfl rfl rfl (by decide) (Nat.le_of_ble_eq_true rfl) (zdal_p dlD_M_mixed_54 (i := 3) rfl) ?_
                          rintro _ N27_ ⟨v28_, rfl, ⟨hv28_a, hv28_b⟩, hsN27_, ⟨hp0_N27_, hp1_N27_, hp2_N27_⟩⟩
                          obtain rfl := hsN27_.eq.symm
                          show zW l m_M_mixed (zn Mz + 0, zw Mz + 0) Mz 91 [some (.ref 81), some (.int (Int32.ofInt a0_)), some (.int (Int32.ofInt u11_)), some (.int (Int32.ofInt u4_)), some (.int (Int32.ofInt u12_))] [.int (Int32.ofInt v28_), .int (Int32.ofInt 1), .int (Int32.ofInt u11_)] (zpI [] [] Mz (fun v N => True))
                          refine zr_ishl (pc := 91) (zdal_p dlD_M_mixed_54 (i := 4) rfl) ?_
                          have hr29_ := zshl_r 1 v28_
                          refine zr_ior (pc := 92) (zdal_p dlD_M_mixed_54 (i := 5) rfl) ?_
                          have hr30_ := zor_r u11_ (zshl 1 v28_)
                          refine zw_istore_n (pc := 93) (i := 2) (L2 := [some (.ref 81), some (.int (Int32.ofInt a0_)), some (.int (Int32.ofInt (zor u11_ (zshl 1 v28_)))), some (.int (Int32.ofInt u4_)), some (.int (Int32.ofInt u12_))]) rfl (by decide) rfl (zdal_p dlD_M_mixed_54 (i := 6) rfl) ?_
                          refine zr_iinc (pc := 94) (i := 4) (a := u12_) (n := 1) (L2 := [some (.ref 81), some (.int (Int32.ofInt a0_)), some (.int (Int32.ofInt (zor u11_ (zshl 1 v28_)))), some (.int (Int32.ofInt u4_)), some (.int (Int32.ofInt (u12_ + 1)))]) rfl (by decide) rfl (zdal_p dlD_M_mixed_54 (i := 7) rfl) ?_
                          refine zw_goto (pc := 97) (tgt := 25) (by decide) (zdal_p dlD_M_mixed_54 (i := 8) rfl) ?_
                          exact ih_25 (zor u11_ (zshl 1 v28_)) (by (exact zo_284 hr30_.1)) (by (exact zo_285 hr30_.2)) (u12_ + 1) (by (exact zo_74 i13_)) (by (exact zo_919 gb.2.1 hc_31)) (show 0 ≤ (u12_ + 1) by first | with_reducible assumption | (exact zo_76 i13_) | assumption) (show gIn T (zor u11_ (zshl 1 v28_)) by first | with_reducible assumption | exact gIn_t hG (by first | with_reducible assumption | assumption) (Or.inr rfl) (by (exact hp1_N27_)) (by (exact zo_928 gb.2.1 gn hp2_N27_)) | assumption) (by (exact zo_147 hc_31 hlt_25))
                      · skip
                        show zW l m_M_mixed (zn Mz + 0, zw Mz + 0) Mz 58 [some (.ref 81), some (.int (Int32.ofInt a0_)), some (.int (Int32.ofInt u11_)), some (.int (Int32.ofInt u4_)), some (.int (Int32.ofInt u12_))] [.int (Int32.ofInt 0)] (zpI [] [] Mz (fun v N => True))
                        refine zr_if_eq (pc := 58) (tgt := 94) ⟨(by decide), (by decide)⟩ (by decide) (zdal_p dlD_M_mixed_53 (i := 9) rfl) (fun hc_58 => ?_) (fun hc_58 => ?_)
                        · skip
                          refine zr_iinc (pc := 94) (i := 4) (a := u12_) (n := 1) (L2 := [some (.ref 81), some (.int (Int32.ofInt a0_)), some (.int (Int32.ofInt u11_)), some (.int (Int32.ofInt u4_)), some (.int (Int32.ofInt (u12_ + 1)))]) rfl (by decide) rfl (zdal_p dlD_M_mixed_54 (i := 7) rfl) ?_
                          refine zw_goto (pc := 97) (tgt := 25) (by decide) (zdal_p dlD_M_mixed_54 (i := 8) rfl) ?_
                          exact ih_25 u11_ hu11_a hu11_b (u12_ + 1) (by (exact zo_74 i13_)) (by (exact zo_919 gb.2.1 hc_31)) (show 0 ≤ (u12_ + 1) by first | with_reducible assumption | (exact zo_76 i13_) | assumption) (show gIn T u11_ by first | with_reducible assumption | assumption | exact gIn_t hG (by first | with_reducible assumption | assumption) (Or.inr rfl) (by omega) (by omega)) (by (exact zo_147 hc_31 hlt_25))
                        · skip
                          exact absurd hc_58 (by decide)
                  · skip
                    show zW l m_M_mixed (zn Mz + 0, zw Mz + 0) Mz 44 [some (.ref 81), some (.int (Int32.ofInt a0_)), some (.int (Int32.ofInt u11_)), some (.int (Int32.ofInt u4_)), some (.int (Int32.ofInt u12_))] [.int (Int32.ofInt 0)] (zpI [] [] Mz (fun v N => True))
                    refine zr_if_eq (pc := 44) (tgt := 94) ⟨(by decide), (by decide)⟩ (by decide) (zdal_p dlD_M_mixed_53 (i := 2) rfl) (fun hc_44 => ?_) (fun hc_44 => ?_)
                    · skip
                      refine zr_iinc (pc := 94) (i := 4) (a := u12_) (n := 1) (L2 := [some (.ref 81), some (.int (Int32.ofInt a0_)), some (.int (Int32.ofInt u11_)), some (.int (Int32.ofInt u4_)), some (.int (Int32.ofInt (u12_ + 1)))]) rfl (by decide) rfl (zdal_p dlD_M_mixed_54 (i := 7) rfl) ?_
                      refine zw_goto (pc := 97) (tgt := 25) (by decide) (zdal_p dlD_M_mixed_54 (i := 8) rfl) ?_
                      exact ih_25 u11_ hu11_a hu11_b (u12_ + 1) (by (exact zo_74 i13_)) (by (exact zo_919 gb.2.1 hc_31)) (show 0 ≤ (u12_ + 1) by first | with_reducible assumption | (exact zo_76 i13_) | assumption) (show gIn T u11_ by first | with_reducible assumption | assumption | exact gIn_t hG (by first | with_reducible assumption | assumption) (Or.inr rfl) (by omega) (by omega)) (by (exact zo_147 hc_31 hlt_25))
                    · skip
                      exact absurd hc_44 (by decide)
            exact lp_25 _ u3_ hu3_a hu3_b 0 (by decide) (by decide) (show 0 ≤ (0 : Int) by first | with_reducible assumption | (decide) | assumption) (show gIn T u3_ by first | with_reducible assumption | assumption | omega) (Nat.lt_succ_self _)
      exact lp_14 _ 0 (by decide) (by decide) 0 (by decide) (by decide) (show 0 ≤ (0 : Int) by first | with_reducible assumption | (decide) | assumption) (show gIn T (0 : Int) by exact gIn_0 T) (Nat.lt_succ_self _)
    · skip
      exact absurd hc_5 (by decide)
  · skip
    show zW l m_M_mixed (zn Mz + 0, zw Mz + 0) Mz 5 [some (.ref 81), some (.int (Int32.ofInt a0_)), none, none, none] [.int (Int32.ofInt 0)] (zpI [] [] Mz (fun v N => True))
    refine zr_if_ne (pc := 5) (tgt := 10) ⟨(by decide), (by decide)⟩ (by decide) (zdal_p dlD_M_mixed_52 (i := 3) rfl) (fun hc_5 => ?_) (fun hc_5 => ?_)
    · skip
      exact absurd hc_5 (by decide)
    · skip
      refine zw_iconst (pc := 8) (v := Int32.ofInt (-1)) (by decide) (zdal_p dlD_M_mixed_52 (i := 4) rfl) ?_
      exact zr_iret (pc := 9) (ty := .int) rfl rfl ⟨by (decide), by (decide)⟩ hf trivial (zdal_p dlD_M_mixed_52 (i := 5) rfl)
set_option maxHeartbeats 4000000 in
theorem c_M_centre (l : Launch) (Mz : zMem) (hW : zMt Mz) (a0_ : Int) (ha0_a : -2147483648 ≤ a0_) (ha0_b : a0_ < 2147483648) (T : zGT) (hO : gOK T) (p0_ : zGB T Mz) : zC l m_M_centre 0 0 [.ref 81, .int (Int32.ofInt a0_)] Mz (zpI [] [] Mz (fun v N => True)) := by
  refine zC_of (L0 := [some (.ref 81), some (.int (Int32.ofInt a0_)), none, none, none, none]) md_M_centre (Nat.le_of_ble_eq_true rfl) rfl ?_ zQ0
  have hf : zFr [] [] Mz Mz := zFr.rf
  have r_20 := ze_r Mz 81 20
  have r_26 := ze_r Mz 81 26
  have hG := hO.1
  have g24 := hG.2.1
  have g1 := hG.1
  have dv0 : zTab T Mz := p0_.1
  have dv1 : zB 85 144 0 5 Mz := p0_.2.1
  have dv2 : zJX T Mz := p0_.2.2.1
  have dv3 : zFirs T Mz := p0_.2.2.2.1
  have dv4 : zSSm T Mz := p0_.2.2.2.2.1
  have dv5 : zGD Mz := zGB.d hO p0_
  have gb := dv5.1
  have gn := dv0.1
  refine zw_aload_n (pc := 0) (n := 0) (x := 81) rfl (zdal_p dlD_M_centre_55 (i := 0) rfl) ?_
  refine zw_iload_n (pc := 1) (n := 1) (x := Int32.ofInt a0_) rfl (zdal_p dlD_M_centre_55 (i := 1) rfl) ?_
  refine zr_callV (hf.w hW) hf.x (pc := 2) [.int (Int32.ofInt a0_)] [] l_M_414 (c_M_isSort l Mz (hf.w hW) a0_ ha0_a ha0_b T hO p0_) rfl rfl rfl (by decide) (Nat.le_of_ble_eq_true rfl) (zdal_p dlD_M_centre_55 (i := 2) rfl) ?_
  rintro _ N1_ ⟨v2_, rfl, ⟨hv2_a, hv2_b⟩, hsN1_, hp0_N1_⟩
  obtain rfl := hsN1_.eq.symm
  replace hp0_N1_ : ((v2_ = 1 ∧ 0 ≤ a0_ ∧ a0_ < ze Mz 81 26) ∨ (v2_ = 0)) := hp0_N1_
  rcases hp0_N1_ with ⟨rfl, ha2_0_hp0_N1_, ha2_1_hp0_N1_⟩ | rfl
  · skip
    show zW l m_M_centre (zn Mz + 0, zw Mz + 0) Mz 5 [some (.ref 81), some (.int (Int32.ofInt a0_)), none, none, none, none] [.int (Int32.ofInt 1)] (zpI [] [] Mz (fun v N => True))
    refine zr_if_ne (pc := 5) (tgt := 10) ⟨(by decide), (by decide)⟩ (by decide) (zdal_p dlD_M_centre_55 (i := 3) rfl) (fun hc_5 => ?_) (fun hc_5 => ?_)
    · skip
      refine zw_iconst (pc := 10) (v := Int32.ofInt 0) (by decide) (zdal_p dlD_M_centre_55 (i := 6) rfl) ?_
      refine zw_istore_n (pc := 11) (i := 2) (L2 := [some (.ref 81), some (.int (Int32.ofInt a0_)), some (.int (Int32.ofInt 0)), none, none, none]) rfl (by decide) rfl (zdal_p dlD_M_centre_55 (i := 7) rfl) ?_
      refine zw_iconst (pc := 12) (v := Int32.ofInt 0) (by decide) (zdal_p dlD_M_centre_55 (i := 8) rfl) ?_
      refine zw_istore_n (pc := 13) (i := 3) (L2 := [some (.ref 81), some (.int (Int32.ofInt a0_)), some (.int (Int32.ofInt 0)), some (.int (Int32.ofInt 0)), none, none]) rfl (by decide) rfl (zdal_p dlD_M_centre_55 (i := 9) rfl) ?_
      have lp_14 : ∀ (n : Nat) (u3_ : Int) (hu3_a : -2147483648 ≤ u3_) (hu3_b : u3_ < 2147483648) (u4_ : Int) (hu4_a : -2147483648 ≤ u4_) (hu4_b : u4_ < 2147483648) (i5_ : 0 ≤ u4_), (ze Mz 81 20 - u4_).toNat < n → zW l m_M_centre (zn Mz + 0, zw Mz + 0) Mz 14 [some (.ref 81), some (.int (Int32.ofInt a0_)), some (.int (Int32.ofInt u3_)), some (.int (Int32.ofInt u4_)), none, none] [] (zpI [] [] Mz (fun v N => True)) := by
        intro n
        induction n with
        | zero =>
          intro u3_ hu3_a hu3_b u4_ hu4_a hu4_b i5_ h0
          exact absurd h0 (Nat.not_lt_zero _)
        | succ n ih_14 =>
          intro u3_ hu3_a hu3_b u4_ hu4_a hu4_b i5_ hlt_14
          refine zw_iload_n (pc := 14) (n := 3) (x := Int32.ofInt u4_) rfl (zdal_p dlD_M_centre_55 (i := 10) rfl) ?_
          refine zw_aload_n (pc := 15) (n := 0) (x := 81) rfl (zdal_p dlD_M_centre_55 (i := 11) rfl) ?_
          refine zr_getI0 hf hW (pc := 16) (by decide) f_M_196 rfl (zdal_p dlD_M_centre_55 (i := 12) rfl) ?_
          refine zr_icmp_ge (pc := 19) (tgt := 111) ⟨hu4_a, hu4_b⟩ ⟨(ze_r Mz 81 20).1, (ze_r Mz 81 20).2⟩ (by decide) (zdal_p dlD_M_centre_55 (i := 13) rfl) (fun hc_19 => ?_) (fun hc_19 => ?_)
          · skip
            refine zw_iload_n (pc := 111) (n := 2) (x := Int32.ofInt u3_) rfl (zdal_p dlD_M_centre_57 (i := 12) rfl) ?_
            exact zr_iret (pc := 112) (ty := .int) rfl rfl ⟨by (exact hu3_a), by (exact hu3_b)⟩ hf trivial (zdal_p dlD_M_centre_57 (i := 13) rfl)
          · skip
            refine zw_aload_n (pc := 22) (n := 0) (x := 81) rfl (zdal_p dlD_M_centre_55 (i := 14) rfl) ?_
            refine zr_getF (r := 91) (hf.w hW) (pc := 23) f_M_44 rfl (zh_91 (hf.w hW)).1 (zdal_p dlD_M_centre_55 (i := 15) rfl) ?_
            refine zw_iload_n (pc := 26) (n := 1) (x := Int32.ofInt a0_) rfl (zdal_p dlD_M_centre_55 (i := 16) rfl) ?_
            refine zr_ialdn (pc := 27) (zh_91 (hf.w hW)).2 (by decide) (by (exact ha2_0_hp0_N1_)) (by (exact zo_906 gb.2.2.2.2.2 ha0_b ha2_1_hp0_N1_)) (zdal_p dlD_M_centre_55 (i := 17) rfl) (fun v6_ hv6_ hv6_a hv6_b => ?_)
            have hf_x := dv3.g hO (e := a0_) (by (exact ha2_0_hp0_N1_)) (by (exact ha2_1_hp0_N1_))
            refine zr_toI (show v6_ = ze Mz 91 (a0_).toNat by (exact hv6_)) ?_
            refine zw_iload_n (pc := 28) (n := 3) (x := Int32.ofInt u4_) rfl (zdal_p dlD_M_centre_55 (i := 18) rfl) ?_
            refine zr_callS hf.x (pc := 29) [.int (Int32.ofInt (ze Mz 91 (a0_).toNat)), .int (Int32.ofInt u4_)] [] l_M_213 (c_M_holds l Mz (hf.w hW) (ze Mz 91 (a0_).toNat) (by (exact zo_168 hf_x.2.1)) (by (exact zo_550 hv6_ hv6_b)) u4_ hu4_a hu4_b (show 0 ≤ (ze Mz 91 (a0_).toNat) by first | with_reducible assumption | (exact zo_57 hf_x.2.1) | assumption) (show 0 ≤ u4_ by first | with_reducible assumption | assumption | omega) (show u4_ < 32 by first | with_reducible assumption | (exact zo_918 gb.2.1 hc_19) | assumption)) rfl rfl (by decide) (Nat.le_of_ble_eq_true rfl) (zdal_p dlD_M_centre_55 (i := 19) rfl) ?_
            rintro _ N7_ ⟨v8_, rfl, ⟨hv8_a, hv8_b⟩, hsN7_, hp0_N7_⟩
            obtain rfl := hsN7_.eq.symm
            replace hp0_N7_ : ((v8_ = 1 ∧ zbt (ze Mz 91 (a0_).toNat) u4_) ∨ (v8_ = 0 ∧ ¬ zbt (ze Mz 91 (a0_).toNat) u4_)) := hp0_N7_
            rcases hp0_N7_ with ⟨rfl, ha29_0_hp0_N7_⟩ | ⟨rfl, ha29_0_hp0_N7_⟩
            · skip
              show zW l m_M_centre (zn Mz + 0, zw Mz + 0) Mz 32 [some (.ref 81), some (.int (Int32.ofInt a0_)), some (.int (Int32.ofInt u3_)), some (.int (Int32.ofInt u4_)), none, none] [.int (Int32.ofInt 1)] (zpI [] [] Mz (fun v N => True))
              refine zw_istore (pc := 32) (i := 4) (L2 := [some (.ref 81), some (.int (Int32.ofInt a0_)), some (.int (Int32.ofInt u3_)), some (.int (Int32.ofInt u4_)), some (.int (Int32.ofInt 1)), none]) (by decide) rfl (zdal_p dlD_M_centre_55 (i := 20) rfl) ?_
              refine zw_iconst (pc := 34) (v := Int32.ofInt 0) (by decide) (zdal_p dlD_M_centre_55 (i := 21) rfl) ?_
              refine zw_istore (pc := 35) (i := 5) (L2 := [some (.ref 81), some (.int (Int32.ofInt a0_)), some (.int (Int32.ofInt u3_)), some (.int (Int32.ofInt u4_)), some (.int (Int32.ofInt 1)), some (.int (Int32.ofInt 0))]) (by decide) rfl (zdal_p dlD_M_centre_55 (i := 22) rfl) ?_
              have lp_37 : ∀ (n : Nat) (u9_ : Int) (hu9_a : -2147483648 ≤ u9_) (hu9_b : u9_ < 2147483648) (hu9_z : u9_ = 0 ∨ u9_ = 1) (u10_ : Int) (hu10_a : -2147483648 ≤ u10_) (hu10_b : u10_ < 2147483648) (i11_ : 0 ≤ u10_), (ze Mz 81 20 - u10_).toNat < n → zW l m_M_centre (zn Mz + 0, zw Mz + 0) Mz 37 [some (.ref 81), some (.int (Int32.ofInt a0_)), some (.int (Int32.ofInt u3_)), some (.int (Int32.ofInt u4_)), some (.int (Int32.ofInt u9_)), some (.int (Int32.ofInt u10_))] [] (zpI [] [] Mz (fun v N => True)) := by
                intro n
                induction n with
                | zero =>
                  intro u9_ hu9_a hu9_b hu9_z u10_ hu10_a hu10_b i11_ h0
                  exact absurd h0 (Nat.not_lt_zero _)
                | succ n ih_37 =>
                  intro u9_ hu9_a hu9_b hu9_z u10_ hu10_a hu10_b i11_ hlt_37
                  refine zw_iload (pc := 37) (i := 5) (x := Int32.ofInt u10_) rfl (zdal_p dlD_M_centre_55 (i := 23) rfl) ?_
                  refine zw_aload_n (pc := 39) (n := 0) (x := 81) rfl (zdal_p dlD_M_centre_56 (i := 0) rfl) ?_
                  refine zr_getI0 hf hW (pc := 40) (by decide) f_M_196 rfl (zdal_p dlD_M_centre_56 (i := 1) rfl) ?_
                  refine zr_icmp_ge (pc := 43) (tgt := 95) ⟨hu10_a, hu10_b⟩ ⟨(ze_r Mz 81 20).1, (ze_r Mz 81 20).2⟩ (by decide) (zdal_p dlD_M_centre_56 (i := 2) rfl) (fun hc_43 => ?_) (fun hc_43 => ?_)
                  · skip
                    refine zw_iload_n (pc := 95) (n := 2) (x := Int32.ofInt u3_) rfl (zdal_p dlD_M_centre_57 (i := 3) rfl) ?_
                    refine zw_iload (pc := 96) (i := 4) (x := Int32.ofInt u9_) rfl (zdal_p dlD_M_centre_57 (i := 4) rfl) ?_
                    refine zr_callS hf.x (pc := 98) [.int (Int32.ofInt u9_)] [.int (Int32.ofInt u3_)] l_M_256 (c_M_truth l Mz (hf.w hW) u9_ hu9_a hu9_b (by (exact hu9_z))) rfl rfl (by decide) (Nat.le_of_ble_eq_true rfl) (zdal_p dlD_M_centre_57 (i := 5) rfl) ?_
                    rintro _ N12_ ⟨v13_, rfl, ⟨hv13_a, hv13_b⟩, hsN12_, hp0_N12_⟩
                    obtain rfl := hsN12_.eq.symm
                    replace hp0_N12_ : v13_ = u9_ := hp0_N12_
                    show zW l m_M_centre (zn Mz + 0, zw Mz + 0) Mz 101 [some (.ref 81), some (.int (Int32.ofInt a0_)), some (.int (Int32.ofInt u3_)), some (.int (Int32.ofInt u4_)), some (.int (Int32.ofInt u9_)), some (.int (Int32.ofInt u10_))] [.int (Int32.ofInt v13_), .int (Int32.ofInt u3_)] (zpI [] [] Mz (fun v N => True))
                    refine zw_iload_n (pc := 101) (n := 3) (x := Int32.ofInt u4_) rfl (zdal_p dlD_M_centre_57 (i := 6) rfl) ?_
                    refine zr_ishl (pc := 102) (zdal_p dlD_M_centre_57 (i := 7) rfl) ?_
                    have hr14_ := zshl_r v13_ u4_
                    refine zr_ior (pc := 103) (zdal_p dlD_M_centre_57 (i := 8) rfl) ?_
                    have hr15_ := zor_r u3_ (zshl v13_ u4_)
                    refine zr_nmI (fun v16_ hv16_ => ?_)
                    obtain ⟨hv16_a, hv16_b⟩ := hv16_
                    refine zw_istore_n (pc := 104) (i := 2) (L2 := [some (.ref 81), some (.int (Int32.ofInt a0_)), some (.int (Int32.ofInt v16_)), some (.int (Int32.ofInt u4_)), some (.int (Int32.ofInt u9_)), some (.int (Int32.ofInt u10_))]) rfl (by decide) rfl (zdal_p dlD_M_centre_57 (i := 9) rfl) ?_
                    refine zr_iinc (pc := 105) (i := 3) (a := u4_) (n := 1) (L2 := [some (.ref 81), some (.int (Int32.ofInt a0_)), some (.int (Int32.ofInt v16_)), some (.int (Int32.ofInt (u4_ + 1))), some (.int (Int32.ofInt u9_)), some (.int (Int32.ofInt u10_))]) rfl (by decide) rfl (zdal_p dlD_M_centre_57 (i := 10) rfl) ?_
                    refine zw_goto (pc := 108) (tgt := 14) (by decide) (zdal_p dlD_M_centre_57 (i := 11) rfl) ?_
                    refine zW_le [some (.ref 81), some (.int (Int32.ofInt a0_)), some (.int (Int32.ofInt v16_)), some (.int (Int32.ofInt (u4_ + 1))), none, none] (⟨rfl, rfl, rfl, rfl, trivial⟩) ?_
                    exact ih_14 v16_ hv16_a hv16_b (u4_ + 1) (by (exact zo_74 i5_)) (by (exact zo_919 gb.2.1 hc_19)) (show 0 ≤ (u4_ + 1) by first | with_reducible assumption | (exact zo_76 i5_) | assumption) (by (exact zo_147 hc_19 hlt_14))
                  · skip
                    refine zw_iload (pc := 46) (i := 4) (x := Int32.ofInt u9_) rfl (zdal_p dlD_M_centre_56 (i := 3) rfl) ?_
                    refine zr_if_eq (pc := 48) (tgt := 95) ⟨hu9_a, hu9_b⟩ (by decide) (zdal_p dlD_M_centre_56 (i := 4) rfl) (fun hc_48 => ?_) (fun hc_48 => ?_)
                    · skip
                      refine zw_iload_n (pc := 95) (n := 2) (x := Int32.ofInt u3_) rfl (zdal_p dlD_M_centre_57 (i := 3) rfl) ?_
                      refine zw_iload (pc := 96) (i := 4) (x := Int32.ofInt u9_) rfl (zdal_p dlD_M_centre_57 (i := 4) rfl) ?_
                      refine zr_callS hf.x (pc := 98) [.int (Int32.ofInt u9_)] [.int (Int32.ofInt u3_)] l_M_256 (c_M_truth l Mz (hf.w hW) u9_ hu9_a hu9_b (by (exact hu9_z))) rfl rfl (by decide) (Nat.le_of_ble_eq_true rfl) (zdal_p dlD_M_centre_57 (i := 5) rfl) ?_
                      rintro _ N17_ ⟨v18_, rfl, ⟨hv18_a, hv18_b⟩, hsN17_, hp0_N17_⟩
                      obtain rfl := hsN17_.eq.symm
                      replace hp0_N17_ : v18_ = u9_ := hp0_N17_
                      show zW l m_M_centre (zn Mz + 0, zw Mz + 0) Mz 101 [some (.ref 81), some (.int (Int32.ofInt a0_)), some (.int (Int32.ofInt u3_)), some (.int (Int32.ofInt u4_)), some (.int (Int32.ofInt u9_)), some (.int (Int32.ofInt u10_))] [.int (Int32.ofInt v18_), .int (Int32.ofInt u3_)] (zpI [] [] Mz (fun v N => True))
                      refine zw_iload_n (pc := 101) (n := 3) (x := Int32.ofInt u4_) rfl (zdal_p dlD_M_centre_57 (i := 6) rfl) ?_
                      refine zr_ishl (pc := 102) (zdal_p dlD_M_centre_57 (i := 7) rfl) ?_
                      have hr19_ := zshl_r v18_ u4_
                      refine zr_ior (pc := 103) (zdal_p dlD_M_centre_57 (i := 8) rfl) ?_
                      have hr20_ := zor_r u3_ (zshl v18_ u4_)
                      refine zr_nmI (fun v21_ hv21_ => ?_)
                      obtain ⟨hv21_a, hv21_b⟩ := hv21_
                      refine zw_istore_n (pc := 104) (i := 2) (L2 := [some (.ref 81), some (.int (Int32.ofInt a0_)), some (.int (Int32.ofInt v21_)), some (.int (Int32.ofInt u4_)), some (.int (Int32.ofInt u9_)), some (.int (Int32.ofInt u10_))]) rfl (by decide) rfl (zdal_p dlD_M_centre_57 (i := 9) rfl) ?_
                      refine zr_iinc (pc := 105) (i := 3) (a := u4_) (n := 1) (L2 := [some (.ref 81), some (.int (Int32.ofInt a0_)), some (.int (Int32.ofInt v21_)), some (.int (Int32.ofInt (u4_ + 1))), some (.int (Int32.ofInt u9_)), some (.int (Int32.ofInt u10_))]) rfl (by decide) rfl (zdal_p dlD_M_centre_57 (i := 10) rfl) ?_
                      refine zw_goto (pc := 108) (tgt := 14) (by decide) (zdal_p dlD_M_centre_57 (i := 11) rfl) ?_
                      refine zW_le [some (.ref 81), some (.int (Int32.ofInt a0_)), some (.int (Int32.ofInt v21_)), some (.int (Int32.ofInt (u4_ + 1))), none, none] (⟨rfl, rfl, rfl, rfl, trivial⟩) ?_
                      exact ih_14 v21_ hv21_a hv21_b (u4_ + 1) (by (exact zo_74 i5_)) (by (exact zo_919 gb.2.1 hc_19)) (show 0 ≤ (u4_ + 1) by first | with_reducible assumption | (exact zo_76 i5_) | assumption) (by (exact zo_147 hc_19 hlt_14))
                    · skip
                      refine zw_aload_n (pc := 51) (n := 0) (x := 81) rfl (zdal_p dlD_M_centre_56 (i := 5) rfl) ?_
                      refine zr_getF (r := 91) (hf.w hW) (pc := 52) f_M_44 rfl (zh_91 (hf.w hW)).1 (zdal_p dlD_M_centre_56 (i := 6) rfl) ?_
                      refine zw_iload_n (pc := 55) (n := 1) (x := Int32.ofInt a0_) rfl (zdal_p dlD_M_centre_56 (i := 7) rfl) ?_
                      refine zr_ialdn (pc := 56) (zh_91 (hf.w hW)).2 (by decide) (by (exact ha2_0_hp0_N1_)) (by (exact zo_906 gb.2.2.2.2.2 ha0_b ha2_1_hp0_N1_)) (zdal_p dlD_M_centre_56 (i := 8) rfl) (fun v22_ hv22_ hv22_a hv22_b => ?_)
                      have hf_x := dv3.g hO (e := a0_) (by (exact ha2_0_hp0_N1_)) (by (exact ha2_1_hp0_N1_))
                      refine zr_toI (show v22_ = ze Mz 91 (a0_).toNat by (exact hv22_)) ?_
                      refine zw_iload (pc := 57) (i := 5) (x := Int32.ofInt u10_) rfl (zdal_p dlD_M_centre_56 (i := 9) rfl) ?_
                      refine zr_callS hf.x (pc := 59) [.int (Int32.ofInt (ze Mz 91 (a0_).toNat)), .int (Int32.ofInt u10_)] [] l_M_213 (c_M_holds l Mz (hf.w hW) (ze Mz 91 (a0_).toNat) (by (exact zo_168 hf_x.2.1)) (by (exact zo_550 hv22_ hv22_b)) u10_ hu10_a hu10_b (show 0 ≤ (ze Mz 91 (a0_).toNat) by first | with_reducible assumption | (exact zo_57 hf_x.2.1) | assumption) (show 0 ≤ u10_ by first | with_reducible assumption | assumption | omega) (show u10_ < 32 by first | with_reducible assumption | (exact zo_918 gb.2.1 hc_43) | assumption)) rfl rfl (by decide) (Nat.le_of_ble_eq_true rfl) (zdal_p dlD_M_centre_56 (i := 10) rfl) ?_
                      rintro _ N23_ ⟨v24_, rfl, ⟨hv24_a, hv24_b⟩, hsN23_, hp0_N23_⟩
                      obtain rfl := hsN23_.eq.symm
                      replace hp0_N23_ : ((v24_ = 1 ∧ zbt (ze Mz 91 (a0_).toNat) u10_) ∨ (v24_ = 0 ∧ ¬ zbt (ze Mz 91 (a0_).toNat) u10_)) := hp0_N23_
                      rcases hp0_N23_ with ⟨rfl, ha59_0_hp0_N23_⟩ | ⟨rfl, ha59_0_hp0_N23_⟩
                      · skip
                        show zW l m_M_centre (zn Mz + 0, zw Mz + 0) Mz 62 [some (.ref 81), some (.int (Int32.ofInt a0_)), some (.int (Int32.ofInt u3_)), some (.int (Int32.ofInt u4_)), some (.int (Int32.ofInt u9_)), some (.int (Int32.ofInt u10_))] [.int (Int32.ofInt 1)] (zpI [] [] Mz (fun v N => True))
                        refine zr_if_eq (pc := 62) (tgt := 82) ⟨(by decide), (by decide)⟩ (by decide) (zdal_p dlD_M_centre_56 (i := 11) rfl) (fun hc_62 => ?_) (fun hc_62 => ?_)
                        · skip
                          exact absurd hc_62 (by decide)
                        · skip
                          refine zw_aload_n (pc := 65) (n := 0) (x := 81) rfl (zdal_p dlD_M_centre_56 (i := 12) rfl) ?_
                          refine zw_iload_n (pc := 66) (n := 3) (x := Int32.ofInt u4_) rfl (zdal_p dlD_M_centre_56 (i := 13) rfl) ?_
                          refine zw_iload (pc := 67) (i := 5) (x := Int32.ofInt u10_) rfl (zdal_p dlD_M_centre_56 (i := 14) rfl) ?_
                          refine zr_callV (hf.w hW) hf.x (pc := 69) [.int (Int32.ofInt u4_), .int (Int32.ofInt u10_)] [] l_M_216 (c_M_by l Mz (hf.w hW) u4_ hu4_a hu4_b u10_ hu10_a hu10_b T hG dv0 (show 0 ≤ u4_ by first | with_reducible assumption | assumption | omega) (show u4_ < ze Mz 81 20 by first | with_reducible assumption | assumption | omega) (show 0 ≤ u10_ by first | with_reducible assumption | assumption | omega) (show u10_ < ze Mz 81 20 by first | with_reducible assumption | assumption | omega)) rfl rfl rfl (by decide) (Nat.le_of_ble_eq_true rfl) (zdal_p dlD_M_centre_56 (i := 15) rfl) ?_
                          rintro _ N25_ ⟨v26_, rfl, ⟨hv26_a, hv26_b⟩, hsN25_, ⟨hp0_N25_, hp1_N25_, hp2_N25_⟩⟩
                          obtain rfl := hsN25_.eq.symm
                          show zW l m_M_centre (zn Mz + 0, zw Mz + 0) Mz 72 [some (.ref 81), some (.int (Int32.ofInt a0_)), some (.int (Int32.ofInt u3_)), some (.int (Int32.ofInt u4_)), some (.int (Int32.ofInt u9_)), some (.int (Int32.ofInt u10_))] [.int (Int32.ofInt v26_)] (zpI [] [] Mz (fun v N => True))
                          refine zw_aload_n (pc := 72) (n := 0) (x := 81) rfl (zdal_p dlD_M_centre_56 (i := 16) rfl) ?_
                          refine zw_iload (pc := 73) (i := 5) (x := Int32.ofInt u10_) rfl (zdal_p dlD_M_centre_56 (i := 17) rfl) ?_
                          refine zw_iload_n (pc := 75) (n := 3) (x := Int32.ofInt u4_) rfl (zdal_p dlD_M_centre_56 (i := 18) rfl) ?_
                          refine zr_callV (hf.w hW) hf.x (pc := 76) [.int (Int32.ofInt u10_), .int (Int32.ofInt u4_)] [.int (Int32.ofInt v26_)] l_M_216 (c_M_by l Mz (hf.w hW) u10_ hu10_a hu10_b u4_ hu4_a hu4_b T hG dv0 (show 0 ≤ u10_ by first | with_reducible assumption | assumption | omega) (show u10_ < ze Mz 81 20 by first | with_reducible assumption | assumption | omega) (show 0 ≤ u4_ by first | with_reducible assumption | assumption | omega) (show u4_ < ze Mz 81 20 by first | with_reducible assumption | assumption | omega)) rfl rfl rfl (by decide) (Nat.le_of_ble_eq_true rfl) (zdal_p dlD_M_centre_56 (i := 19) rfl) ?_
                          rintro _ N27_ ⟨v28_, rfl, ⟨hv28_a, hv28_b⟩, hsN27_, ⟨hp0_N27_, hp1_N27_, hp2_N27_⟩⟩
                          obtain rfl := hsN27_.eq.symm
                          show zW l m_M_centre (zn Mz + 0, zw Mz + 0) Mz 79 [some (.ref 81), some (.int (Int32.ofInt a0_)), some (.int (Int32.ofInt u3_)), some (.int (Int32.ofInt u4_)), some (.int (Int32.ofInt u9_)), some (.int (Int32.ofInt u10_))] [.int (Int32.ofInt v28_), .int (Int32.ofInt v26_)] (zpI [] [] Mz (fun v N => True))
                          refine zr_icmp_ne (pc := 79) (tgt := 86) ⟨hv26_a, hv26_b⟩ ⟨hv28_a, hv28_b⟩ (by decide) (zdal_p dlD_M_centre_56 (i := 20) rfl) (fun hc_79 => ?_) (fun hc_79 => ?_)
                          · skip
                            refine zw_iconst (pc := 86) (v := Int32.ofInt 0) (by decide) (zdal_p dlD_M_centre_56 (i := 23) rfl) ?_
                            refine zw_istore (pc := 87) (i := 4) (L2 := [some (.ref 81), some (.int (Int32.ofInt a0_)), some (.int (Int32.ofInt u3_)), some (.int (Int32.ofInt u4_)), some (.int (Int32.ofInt 0)), some (.int (Int32.ofInt u10_))]) (by decide) rfl d_M_centre_87 ?_
                            refine zr_iinc (pc := 89) (i := 5) (a := u10_) (n := 1) (L2 := [some (.ref 81), some (.int (Int32.ofInt a0_)), some (.int (Int32.ofInt u3_)), some (.int (Int32.ofInt u4_)), some (.int (Int32.ofInt 0)), some (.int (Int32.ofInt (u10_ + 1)))]) rfl (by decide) rfl d_M_centre_89 ?_
                            refine zw_goto (pc := 92) (tgt := 37) (by decide) d_M_centre_92 ?_
                            exact ih_37 0 (by decide) (by decide) (by (decide)) (u10_ + 1) (by (exact zo_74 i11_)) (by (exact zo_919 gb.2.1 hc_43)) (show 0 ≤ (u10_ + 1) by first | with_reducible assumption | (exact zo_76 i11_) | assumption) (by (exact zo_147 hc_43 hlt_37))
                          · skip
                            refine zw_iconst (pc := 82) (v := Int32.ofInt 1) (by decide) (zdal_p dlD_M_centre_56 (i := 21) rfl) ?_
                            refine zw_goto (pc := 83) (tgt := 87) (by decide) (zdal_p dlD_M_centre_56 (i := 22) rfl) ?_
                            refine zw_istore (pc := 87) (i := 4) (L2 := [some (.ref 81), some (.int (Int32.ofInt a0_)), some (.int (Int32.ofInt u3_)), some (.int (Int32.ofInt u4_)), some (.int (Int32.ofInt 1)), some (.int (Int32.ofInt u10_))]) (by decide) rfl d_M_centre_87 ?_
                            refine zr_iinc (pc := 89) (i := 5) (a := u10_) (n := 1) (L2 := [some (.ref 81), some (.int (Int32.ofInt a0_)), some (.int (Int32.ofInt u3_)), some (.int (Int32.ofInt u4_)), some (.int (Int32.ofInt 1)), some (.int (Int32.ofInt (u10_ + 1)))]) rfl (by decide) rfl d_M_centre_89 ?_
                            refine zw_goto (pc := 92) (tgt := 37) (by decide) d_M_centre_92 ?_
                            exact ih_37 1 (by decide) (by decide) (by (decide)) (u10_ + 1) (by (exact zo_74 i11_)) (by (exact zo_919 gb.2.1 hc_43)) (show 0 ≤ (u10_ + 1) by first | with_reducible assumption | (exact zo_76 i11_) | assumption) (by (exact zo_147 hc_43 hlt_37))
                      · skip
                        show zW l m_M_centre (zn Mz + 0, zw Mz + 0) Mz 62 [some (.ref 81), some (.int (Int32.ofInt a0_)), some (.int (Int32.ofInt u3_)), some (.int (Int32.ofInt u4_)), some (.int (Int32.ofInt u9_)), some (.int (Int32.ofInt u10_))] [.int (Int32.ofInt 0)] (zpI [] [] Mz (fun v N => True))
                        refine zr_if_eq (pc := 62) (tgt := 82) ⟨(by decide), (by decide)⟩ (by decide) (zdal_p dlD_M_centre_56 (i := 11) rfl) (fun hc_62 => ?_) (fun hc_62 => ?_)
                        · skip
                          refine zw_iconst (pc := 82) (v := Int32.ofInt 1) (by decide) (zdal_p dlD_M_centre_56 (i := 21) rfl) ?_
                          refine zw_goto (pc := 83) (tgt := 87) (by decide) (zdal_p dlD_M_centre_56 (i := 22) rfl) ?_
                          refine zw_istore (pc := 87) (i := 4) (L2 := [some (.ref 81), some (.int (Int32.ofInt a0_)), some (.int (Int32.ofInt u3_)), some (.int (Int32.ofInt u4_)), some (.int (Int32.ofInt 1)), some (.int (Int32.ofInt u10_))]) (by decide) rfl d_M_centre_87 ?_
                          refine zr_iinc (pc := 89) (i := 5) (a := u10_) (n := 1) (L2 := [some (.ref 81), some (.int (Int32.ofInt a0_)), some (.int (Int32.ofInt u3_)), some (.int (Int32.ofInt u4_)), some (.int (Int32.ofInt 1)), some (.int (Int32.ofInt (u10_ + 1)))]) rfl (by decide) rfl d_M_centre_89 ?_
                          refine zw_goto (pc := 92) (tgt := 37) (by decide) d_M_centre_92 ?_
                          exact ih_37 1 (by decide) (by decide) (by (decide)) (u10_ + 1) (by (exact zo_74 i11_)) (by (exact zo_919 gb.2.1 hc_43)) (show 0 ≤ (u10_ + 1) by first | with_reducible assumption | (exact zo_76 i11_) | assumption) (by (exact zo_147 hc_43 hlt_37))
                        · skip
                          exact absurd hc_62 (by decide)
              exact lp_37 _ 1 (by decide) (by decide) (by (decide)) 0 (by decide) (by decide) (show 0 ≤ (0 : Int) by first | with_reducible assumption | (decide) | assumption) (Nat.lt_succ_self _)
            · skip
              show zW l m_M_centre (zn Mz + 0, zw Mz + 0) Mz 32 [some (.ref 81), some (.int (Int32.ofInt a0_)), some (.int (Int32.ofInt u3_)), some (.int (Int32.ofInt u4_)), none, none] [.int (Int32.ofInt 0)] (zpI [] [] Mz (fun v N => True))
              refine zw_istore (pc := 32) (i := 4) (L2 := [some (.ref 81), some (.int (Int32.ofInt a0_)), some (.int (Int32.ofInt u3_)), some (.int (Int32.ofInt u4_)), some (.int (Int32.ofInt 0)), none]) (by decide) rfl (zdal_p dlD_M_centre_55 (i := 20) rfl) ?_
              refine zw_iconst (pc := 34) (v := Int32.ofInt 0) (by decide) (zdal_p dlD_M_centre_55 (i := 21) rfl) ?_
              refine zw_istore (pc := 35) (i := 5) (L2 := [some (.ref 81), some (.int (Int32.ofInt a0_)), some (.int (Int32.ofInt u3_)), some (.int (Int32.ofInt u4_)), some (.int (Int32.ofInt 0)), some (.int (Int32.ofInt 0))]) (by decide) rfl (zdal_p dlD_M_centre_55 (i := 22) rfl) ?_
              have lp_37 : ∀ (n : Nat) (u29_ : Int) (hu29_a : -2147483648 ≤ u29_) (hu29_b : u29_ < 2147483648) (hu29_z : u29_ = 0 ∨ u29_ = 1) (u30_ : Int) (hu30_a : -2147483648 ≤ u30_) (hu30_b : u30_ < 2147483648) (i31_ : 0 ≤ u30_), (ze Mz 81 20 - u30_).toNat < n → zW l m_M_centre (zn Mz + 0, zw Mz + 0) Mz 37 [some (.ref 81), some (.int (Int32.ofInt a0_)), some (.int (Int32.ofInt u3_)), some (.int (Int32.ofInt u4_)), some (.int (Int32.ofInt u29_)), some (.int (Int32.ofInt u30_))] [] (zpI [] [] Mz (fun v N => True)) := by
                intro n
                induction n with
                | zero =>
                  intro u29_ hu29_a hu29_b hu29_z u30_ hu30_a hu30_b i31_ h0
                  exact absurd h0 (Nat.not_lt_zero _)
                | succ n ih_37 =>
                  intro u29_ hu29_a hu29_b hu29_z u30_ hu30_a hu30_b i31_ hlt_37
                  refine zw_iload (pc := 37) (i := 5) (x := Int32.ofInt u30_) rfl (zdal_p dlD_M_centre_55 (i := 23) rfl) ?_
                  refine zw_aload_n (pc := 39) (n := 0) (x := 81) rfl (zdal_p dlD_M_centre_56 (i := 0) rfl) ?_
                  refine zr_getI0 hf hW (pc := 40) (by decide) f_M_196 rfl (zdal_p dlD_M_centre_56 (i := 1) rfl) ?_
                  refine zr_icmp_ge (pc := 43) (tgt := 95) ⟨hu30_a, hu30_b⟩ ⟨(ze_r Mz 81 20).1, (ze_r Mz 81 20).2⟩ (by decide) (zdal_p dlD_M_centre_56 (i := 2) rfl) (fun hc_43 => ?_) (fun hc_43 => ?_)
                  · skip
                    refine zw_iload_n (pc := 95) (n := 2) (x := Int32.ofInt u3_) rfl (zdal_p dlD_M_centre_57 (i := 3) rfl) ?_
                    refine zw_iload (pc := 96) (i := 4) (x := Int32.ofInt u29_) rfl (zdal_p dlD_M_centre_57 (i := 4) rfl) ?_
                    refine zr_callS hf.x (pc := 98) [.int (Int32.ofInt u29_)] [.int (Int32.ofInt u3_)] l_M_256 (c_M_truth l Mz (hf.w hW) u29_ hu29_a hu29_b (by (exact hu29_z))) rfl rfl (by decide) (Nat.le_of_ble_eq_true rfl) (zdal_p dlD_M_centre_57 (i := 5) rfl) ?_
                    rintro _ N32_ ⟨v33_, rfl, ⟨hv33_a, hv33_b⟩, hsN32_, hp0_N32_⟩
                    obtain rfl := hsN32_.eq.symm
                    replace hp0_N32_ : v33_ = u29_ := hp0_N32_
                    show zW l m_M_centre (zn Mz + 0, zw Mz + 0) Mz 101 [some (.ref 81), some (.int (Int32.ofInt a0_)), some (.int (Int32.ofInt u3_)), some (.int (Int32.ofInt u4_)), some (.int (Int32.ofInt u29_)), some (.int (Int32.ofInt u30_))] [.int (Int32.ofInt v33_), .int (Int32.ofInt u3_)] (zpI [] [] Mz (fun v N => True))
                    refine zw_iload_n (pc := 101) (n := 3) (x := Int32.ofInt u4_) rfl (zdal_p dlD_M_centre_57 (i := 6) rfl) ?_
                    refine zr_ishl (pc := 102) (zdal_p dlD_M_centre_57 (i := 7) rfl) ?_
                    have hr34_ := zshl_r v33_ u4_
                    refine zr_ior (pc := 103) (zdal_p dlD_M_centre_57 (i := 8) rfl) ?_
                    have hr35_ := zor_r u3_ (zshl v33_ u4_)
                    refine zr_nmI (fun v36_ hv36_ => ?_)
                    obtain ⟨hv36_a, hv36_b⟩ := hv36_
                    refine zw_istore_n (pc := 104) (i := 2) (L2 := [some (.ref 81), some (.int (Int32.ofInt a0_)), some (.int (Int32.ofInt v36_)), some (.int (Int32.ofInt u4_)), some (.int (Int32.ofInt u29_)), some (.int (Int32.ofInt u30_))]) rfl (by decide) rfl (zdal_p dlD_M_centre_57 (i := 9) rfl) ?_
                    refine zr_iinc (pc := 105) (i := 3) (a := u4_) (n := 1) (L2 := [some (.ref 81), some (.int (Int32.ofInt a0_)), some (.int (Int32.ofInt v36_)), some (.int (Int32.ofInt (u4_ + 1))), some (.int (Int32.ofInt u29_)), some (.int (Int32.ofInt u30_))]) rfl (by decide) rfl (zdal_p dlD_M_centre_57 (i := 10) rfl) ?_
                    refine zw_goto (pc := 108) (tgt := 14) (by decide) (zdal_p dlD_M_centre_57 (i := 11) rfl) ?_
                    refine zW_le [some (.ref 81), some (.int (Int32.ofInt a0_)), some (.int (Int32.ofInt v36_)), some (.int (Int32.ofInt (u4_ + 1))), none, none] (⟨rfl, rfl, rfl, rfl, trivial⟩) ?_
                    exact ih_14 v36_ hv36_a hv36_b (u4_ + 1) (by (exact zo_74 i5_)) (by (exact zo_919 gb.2.1 hc_19)) (show 0 ≤ (u4_ + 1) by first | with_reducible assumption | (exact zo_76 i5_) | assumption) (by (exact zo_147 hc_19 hlt_14))
                  · skip
                    refine zw_iload (pc := 46) (i := 4) (x := Int32.ofInt u29_) rfl (zdal_p dlD_M_centre_56 (i := 3) rfl) ?_
                    refine zr_if_eq (pc := 48) (tgt := 95) ⟨hu29_a, hu29_b⟩ (by decide) (zdal_p dlD_M_centre_56 (i := 4) rfl) (fun hc_48 => ?_) (fun hc_48 => ?_)
                    · skip
                      refine zw_iload_n (pc := 95) (n := 2) (x := Int32.ofInt u3_) rfl (zdal_p dlD_M_centre_57 (i := 3) rfl) ?_
                      refine zw_iload (pc := 96) (i := 4) (x := Int32.ofInt u29_) rfl (zdal_p dlD_M_centre_57 (i := 4) rfl) ?_
                      refine zr_callS hf.x (pc := 98) [.int (Int32.ofInt u29_)] [.int (Int32.ofInt u3_)] l_M_256 (c_M_truth l Mz (hf.w hW) u29_ hu29_a hu29_b (by (exact hu29_z))) rfl rfl (by decide) (Nat.le_of_ble_eq_true rfl) (zdal_p dlD_M_centre_57 (i := 5) rfl) ?_
                      rintro _ N37_ ⟨v38_, rfl, ⟨hv38_a, hv38_b⟩, hsN37_, hp0_N37_⟩
                      obtain rfl := hsN37_.eq.symm
                      replace hp0_N37_ : v38_ = u29_ := hp0_N37_
                      show zW l m_M_centre (zn Mz + 0, zw Mz + 0) Mz 101 [some (.ref 81), some (.int (Int32.ofInt a0_)), some (.int (Int32.ofInt u3_)), some (.int (Int32.ofInt u4_)), some (.int (Int32.ofInt u29_)), some (.int (Int32.ofInt u30_))] [.int (Int32.ofInt v38_), .int (Int32.ofInt u3_)] (zpI [] [] Mz (fun v N => True))
                      refine zw_iload_n (pc := 101) (n := 3) (x := Int32.ofInt u4_) rfl (zdal_p dlD_M_centre_57 (i := 6) rfl) ?_
                      refine zr_ishl (pc := 102) (zdal_p dlD_M_centre_57 (i := 7) rfl) ?_
                      have hr39_ := zshl_r v38_ u4_
                      refine zr_ior (pc := 103) (zdal_p dlD_M_centre_57 (i := 8) rfl) ?_
                      have hr40_ := zor_r u3_ (zshl v38_ u4_)
                      refine zr_nmI (fun v41_ hv41_ => ?_)
                      obtain ⟨hv41_a, hv41_b⟩ := hv41_
                      refine zw_istore_n (pc := 104) (i := 2) (L2 := [some (.ref 81), some (.int (Int32.ofInt a0_)), some (.int (Int32.ofInt v41_)), some (.int (Int32.ofInt u4_)), some (.int (Int32.ofInt u29_)), some (.int (Int32.ofInt u30_))]) rfl (by decide) rfl (zdal_p dlD_M_centre_57 (i := 9) rfl) ?_
                      refine zr_iinc (pc := 105) (i := 3) (a := u4_) (n := 1) (L2 := [some (.ref 81), some (.int (Int32.ofInt a0_)), some (.int (Int32.ofInt v41_)), some (.int (Int32.ofInt (u4_ + 1))), some (.int (Int32.ofInt u29_)), some (.int (Int32.ofInt u30_))]) rfl (by decide) rfl (zdal_p dlD_M_centre_57 (i := 10) rfl) ?_
                      refine zw_goto (pc := 108) (tgt := 14) (by decide) (zdal_p dlD_M_centre_57 (i := 11) rfl) ?_
                      refine zW_le [some (.ref 81), some (.int (Int32.ofInt a0_)), some (.int (Int32.ofInt v41_)), some (.int (Int32.ofInt (u4_ + 1))), none, none] (⟨rfl, rfl, rfl, rfl, trivial⟩) ?_
                      exact ih_14 v41_ hv41_a hv41_b (u4_ + 1) (by (exact zo_74 i5_)) (by (exact zo_919 gb.2.1 hc_19)) (show 0 ≤ (u4_ + 1) by first | with_reducible assumption | (exact zo_76 i5_) | assumption) (by (exact zo_147 hc_19 hlt_14))
                    · skip
                      refine zw_aload_n (pc := 51) (n := 0) (x := 81) rfl (zdal_p dlD_M_centre_56 (i := 5) rfl) ?_
                      refine zr_getF (r := 91) (hf.w hW) (pc := 52) f_M_44 rfl (zh_91 (hf.w hW)).1 (zdal_p dlD_M_centre_56 (i := 6) rfl) ?_
                      refine zw_iload_n (pc := 55) (n := 1) (x := Int32.ofInt a0_) rfl (zdal_p dlD_M_centre_56 (i := 7) rfl) ?_
                      refine zr_ialdn (pc := 56) (zh_91 (hf.w hW)).2 (by decide) (by (exact ha2_0_hp0_N1_)) (by (exact zo_906 gb.2.2.2.2.2 ha0_b ha2_1_hp0_N1_)) (zdal_p dlD_M_centre_56 (i := 8) rfl) (fun v42_ hv42_ hv42_a hv42_b => ?_)
                      have hf_x := dv3.g hO (e := a0_) (by (exact ha2_0_hp0_N1_)) (by (exact ha2_1_hp0_N1_))
                      refine zr_toI (show v42_ = ze Mz 91 (a0_).toNat by (exact hv42_)) ?_
                      refine zw_iload (pc := 57) (i := 5) (x := Int32.ofInt u30_) rfl (zdal_p dlD_M_centre_56 (i := 9) rfl) ?_
                      refine zr_callS hf.x (pc := 59) [.int (Int32.ofInt (ze Mz 91 (a0_).toNat)), .int (Int32.ofInt u30_)] [] l_M_213 (c_M_holds l Mz (hf.w hW) (ze Mz 91 (a0_).toNat) (by (exact zo_168 hf_x.2.1)) (by (exact zo_550 hv42_ hv42_b)) u30_ hu30_a hu30_b (show 0 ≤ (ze Mz 91 (a0_).toNat) by first | with_reducible assumption | (exact zo_57 hf_x.2.1) | assumption) (show 0 ≤ u30_ by first | with_reducible assumption | assumption | omega) (show u30_ < 32 by first | with_reducible assumption | (exact zo_918 gb.2.1 hc_43) | assumption)) rfl rfl (by decide) (Nat.le_of_ble_eq_true rfl) (zdal_p dlD_M_centre_56 (i := 10) rfl) ?_
                      rintro _ N43_ ⟨v44_, rfl, ⟨hv44_a, hv44_b⟩, hsN43_, hp0_N43_⟩
                      obtain rfl := hsN43_.eq.symm
                      replace hp0_N43_ : ((v44_ = 1 ∧ zbt (ze Mz 91 (a0_).toNat) u30_) ∨ (v44_ = 0 ∧ ¬ zbt (ze Mz 91 (a0_).toNat) u30_)) := hp0_N43_
                      rcases hp0_N43_ with ⟨rfl, ha59_0_hp0_N43_⟩ | ⟨rfl, ha59_0_hp0_N43_⟩
                      · skip
                        show zW l m_M_centre (zn Mz + 0, zw Mz + 0) Mz 62 [some (.ref 81), some (.int (Int32.ofInt a0_)), some (.int (Int32.ofInt u3_)), some (.int (Int32.ofInt u4_)), some (.int (Int32.ofInt u29_)), some (.int (Int32.ofInt u30_))] [.int (Int32.ofInt 1)] (zpI [] [] Mz (fun v N => True))
                        refine zr_if_eq (pc := 62) (tgt := 82) ⟨(by decide), (by decide)⟩ (by decide) (zdal_p dlD_M_centre_56 (i := 11) rfl) (fun hc_62 => ?_) (fun hc_62 => ?_)
                        · skip
                          exact absurd hc_62 (by decide)
                        · skip
                          refine zw_aload_n (pc := 65) (n := 0) (x := 81) rfl (zdal_p dlD_M_centre_56 (i := 12) rfl) ?_
                          refine zw_iload_n (pc := 66) (n := 3) (x := Int32.ofInt u4_) rfl (zdal_p dlD_M_centre_56 (i := 13) rfl) ?_
                          refine zw_iload (pc := 67) (i := 5) (x := Int32.ofInt u30_) rfl (zdal_p dlD_M_centre_56 (i := 14) rfl) ?_
                          refine zr_callV (hf.w hW) hf.x (pc := 69) [.int (Int32.ofInt u4_), .int (Int32.ofInt u30_)] [] l_M_216 (c_M_by l Mz (hf.w hW) u4_ hu4_a hu4_b u30_ hu30_a hu30_b T hG dv0 (show 0 ≤ u4_ by first | with_reducible assumption | assumption | omega) (show u4_ < ze Mz 81 20 by first | with_reducible assumption | assumption | omega) (show 0 ≤ u30_ by first | with_reducible assumption | assumption | omega) (show u30_ < ze Mz 81 20 by first | with_reducible assumption | assumption | omega)) rfl rfl rfl (by decide) (Nat.le_of_ble_eq_true rfl) (zdal_p dlD_M_centre_56 (i := 15) rfl) ?_
                          rintro _ N45_ ⟨v46_, rfl, ⟨hv46_a, hv46_b⟩, hsN45_, ⟨hp0_N45_, hp1_N45_, hp2_N45_⟩⟩
                          obtain rfl := hsN45_.eq.symm
                          show zW l m_M_centre (zn Mz + 0, zw Mz + 0) Mz 72 [some (.ref 81), some (.int (Int32.ofInt a0_)), some (.int (Int32.ofInt u3_)), some (.int (Int32.ofInt u4_)), some (.int (Int32.ofInt u29_)), some (.int (Int32.ofInt u30_))] [.int (Int32.ofInt v46_)] (zpI [] [] Mz (fun v N => True))
                          refine zw_aload_n (pc := 72) (n := 0) (x := 81) rfl (zdal_p dlD_M_centre_56 (i := 16) rfl) ?_
                          refine zw_iload (pc := 73) (i := 5) (x := Int32.ofInt u30_) rfl (zdal_p dlD_M_centre_56 (i := 17) rfl) ?_
                          refine zw_iload_n (pc := 75) (n := 3) (x := Int32.ofInt u4_) rfl (zdal_p dlD_M_centre_56 (i := 18) rfl) ?_
                          refine zr_callV (hf.w hW) hf.x (pc := 76) [.int (Int32.ofInt u30_), .int (Int32.ofInt u4_)] [.int (Int32.ofInt v46_)] l_M_216 (c_M_by l Mz (hf.w hW) u30_ hu30_a hu30_b u4_ hu4_a hu4_b T hG dv0 (show 0 ≤ u30_ by first | with_reducible assumption | assumption | omega) (show u30_ < ze Mz 81 20 by first | with_reducible assumption | assumption | omega) (show 0 ≤ u4_ by first | with_reducible assumption | assumption | omega) (show u4_ < ze Mz 81 20 by first | with_reducible assumption | assumption | omega)) rfl rfl rfl (by decide) (Nat.le_of_ble_eq_true rfl) (zdal_p dlD_M_centre_56 (i := 19) rfl) ?_
                          rintro _ N47_ ⟨v48_, rfl, ⟨hv48_a, hv48_b⟩, hsN47_, ⟨hp0_N47_, hp1_N47_, hp2_N47_⟩⟩
                          obtain rfl := hsN47_.eq.symm
                          show zW l m_M_centre (zn Mz + 0, zw Mz + 0) Mz 79 [some (.ref 81), some (.int (Int32.ofInt a0_)), some (.int (Int32.ofInt u3_)), some (.int (Int32.ofInt u4_)), some (.int (Int32.ofInt u29_)), some (.int (Int32.ofInt u30_))] [.int (Int32.ofInt v48_), .int (Int32.ofInt v46_)] (zpI [] [] Mz (fun v N => True))
                          refine zr_icmp_ne (pc := 79) (tgt := 86) ⟨hv46_a, hv46_b⟩ ⟨hv48_a, hv48_b⟩ (by decide) (zdal_p dlD_M_centre_56 (i := 20) rfl) (fun hc_79 => ?_) (fun hc_79 => ?_)
                          · skip
                            refine zw_iconst (pc := 86) (v := Int32.ofInt 0) (by decide) (zdal_p dlD_M_centre_56 (i := 23) rfl) ?_
                            refine zw_istore (pc := 87) (i := 4) (L2 := [some (.ref 81), some (.int (Int32.ofInt a0_)), some (.int (Int32.ofInt u3_)), some (.int (Int32.ofInt u4_)), some (.int (Int32.ofInt 0)), some (.int (Int32.ofInt u30_))]) (by decide) rfl d_M_centre_87 ?_
                            refine zr_iinc (pc := 89) (i := 5) (a := u30_) (n := 1) (L2 := [some (.ref 81), some (.int (Int32.ofInt a0_)), some (.int (Int32.ofInt u3_)), some (.int (Int32.ofInt u4_)), some (.int (Int32.ofInt 0)), some (.int (Int32.ofInt (u30_ + 1)))]) rfl (by decide) rfl d_M_centre_89 ?_
                            refine zw_goto (pc := 92) (tgt := 37) (by decide) d_M_centre_92 ?_
                            exact ih_37 0 (by decide) (by decide) (by (decide)) (u30_ + 1) (by (exact zo_74 i31_)) (by (exact zo_919 gb.2.1 hc_43)) (show 0 ≤ (u30_ + 1) by first | with_reducible assumption | (exact zo_76 i31_) | assumption) (by (exact zo_147 hc_43 hlt_37))
                          · skip
                            refine zw_iconst (pc := 82) (v := Int32.ofInt 1) (by decide) (zdal_p dlD_M_centre_56 (i := 21) rfl) ?_
                            refine zw_goto (pc := 83) (tgt := 87) (by decide) (zdal_p dlD_M_centre_56 (i := 22) rfl) ?_
                            refine zw_istore (pc := 87) (i := 4) (L2 := [some (.ref 81), some (.int (Int32.ofInt a0_)), some (.int (Int32.ofInt u3_)), some (.int (Int32.ofInt u4_)), some (.int (Int32.ofInt 1)), some (.int (Int32.ofInt u30_))]) (by decide) rfl d_M_centre_87 ?_
                            refine zr_iinc (pc := 89) (i := 5) (a := u30_) (n := 1) (L2 := [some (.ref 81), some (.int (Int32.ofInt a0_)), some (.int (Int32.ofInt u3_)), some (.int (Int32.ofInt u4_)), some (.int (Int32.ofInt 1)), some (.int (Int32.ofInt (u30_ + 1)))]) rfl (by decide) rfl d_M_centre_89 ?_
                            refine zw_goto (pc := 92) (tgt := 37) (by decide) d_M_centre_92 ?_
                            exact ih_37 1 (by decide) (by decide) (by (decide)) (u30_ + 1) (by (exact zo_74 i31_)) (by (exact zo_919 gb.2.1 hc_43)) (show 0 ≤ (u30_ + 1) by first | with_reducible assumption | (exact zo_76 i31_) | assumption) (by (exact zo_147 hc_43 hlt_37))
                      · skip
                        show zW l m_M_centre (zn Mz + 0, zw Mz + 0) Mz 62 [some (.ref 81), some (.int (Int32.ofInt a0_)), some (.int (Int32.ofInt u3_)), some (.int (Int32.ofInt u4_)), some (.int (Int32.ofInt u29_)), some (.int (Int32.ofInt u30_))] [.int (Int32.ofInt 0)] (zpI [] [] Mz (fun v N => True))
                        refine zr_if_eq (pc := 62) (tgt := 82) ⟨(by decide), (by decide)⟩ (by decide) (zdal_p dlD_M_centre_56 (i := 11) rfl) (fun hc_62 => ?_) (fun hc_62 => ?_)
                        · skip
                          refine zw_iconst (pc := 82) (v := Int32.ofInt 1) (by decide) (zdal_p dlD_M_centre_56 (i := 21) rfl) ?_
                          refine zw_goto (pc := 83) (tgt := 87) (by decide) (zdal_p dlD_M_centre_56 (i := 22) rfl) ?_
                          refine zw_istore (pc := 87) (i := 4) (L2 := [some (.ref 81), some (.int (Int32.ofInt a0_)), some (.int (Int32.ofInt u3_)), some (.int (Int32.ofInt u4_)), some (.int (Int32.ofInt 1)), some (.int (Int32.ofInt u30_))]) (by decide) rfl d_M_centre_87 ?_
                          refine zr_iinc (pc := 89) (i := 5) (a := u30_) (n := 1) (L2 := [some (.ref 81), some (.int (Int32.ofInt a0_)), some (.int (Int32.ofInt u3_)), some (.int (Int32.ofInt u4_)), some (.int (Int32.ofInt 1)), some (.int (Int32.ofInt (u30_ + 1)))]) rfl (by decide) rfl d_M_centre_89 ?_
                          refine zw_goto (pc := 92) (tgt := 37) (by decide) d_M_centre_92 ?_
                          exact ih_37 1 (by decide) (by decide) (by (decide)) (u30_ + 1) (by (exact zo_74 i31_)) (by (exact zo_919 gb.2.1 hc_43)) (show 0 ≤ (u30_ + 1) by first | with_reducible assumption | (exact zo_76 i31_) | assumption) (by (exact zo_147 hc_43 hlt_37))
                        · skip
                          exact absurd hc_62 (by decide)
              exact lp_37 _ 0 (by decide) (by decide) (by (decide)) 0 (by decide) (by decide) (show 0 ≤ (0 : Int) by first | with_reducible assumption | (decide) | assumption) (Nat.lt_succ_self _)
      exact lp_14 _ 0 (by decide) (by decide) 0 (by decide) (by decide) (show 0 ≤ (0 : Int) by first | with_reducible assumption | (decide) | assumption) (Nat.lt_succ_self _)
    · skip
      exact absurd hc_5 (by decide)
  · skip
    show zW l m_M_centre (zn Mz + 0, zw Mz + 0) Mz 5 [some (.ref 81), some (.int (Int32.ofInt a0_)), none, none, none, none] [.int (Int32.ofInt 0)] (zpI [] [] Mz (fun v N => True))
    refine zr_if_ne (pc := 5) (tgt := 10) ⟨(by decide), (by decide)⟩ (by decide) (zdal_p dlD_M_centre_55 (i := 3) rfl) (fun hc_5 => ?_) (fun hc_5 => ?_)
    · skip
      exact absurd hc_5 (by decide)
    · skip
      refine zw_iconst (pc := 8) (v := Int32.ofInt (-1)) (by decide) (zdal_p dlD_M_centre_55 (i := 4) rfl) ?_
      exact zr_iret (pc := 9) (ty := .int) rfl rfl ⟨by (decide), by (decide)⟩ hf trivial (zdal_p dlD_M_centre_55 (i := 5) rfl)
set_option maxHeartbeats 4000000 in
theorem c_M_named (l : Launch) (Mz : zMem) (hW : zMt Mz) (a0_ : Int) (ha0_a : -2147483648 ≤ a0_) (ha0_b : a0_ < 2147483648) (a1_ : Int) (ha1_a : -2147483648 ≤ a1_) (ha1_b : a1_ < 2147483648) (T : zGT) (hO : gOK T) (p0_ : zGB T Mz) (p1_ : 0 ≤ ze Mz 81 18) (p2_ : ze Mz 81 18 ≤ 8) : zC l m_M_named 0 0 [.ref 81, .int (Int32.ofInt a0_), .int (Int32.ofInt a1_)] Mz (zpJ [] [] Mz (fun v N => True)) := by
  refine zC_of (L0 := [some (.ref 81), some (.int (Int32.ofInt a0_)), some (.int (Int32.ofInt a1_))]) md_M_named (Nat.le_of_ble_eq_true rfl) rfl ?_ zQ0
  have hf : zFr [] [] Mz Mz := zFr.rf
  have r_18 := ze_r Mz 81 18
  have r_26 := ze_r Mz 81 26
  have hG := hO.1
  have g24 := hG.2.1
  have g1 := hG.1
  have dv0 : zTab T Mz := p0_.1
  have dv1 : zB 85 144 0 5 Mz := p0_.2.1
  have dv2 : zJX T Mz := p0_.2.2.1
  have dv3 : zFirs T Mz := p0_.2.2.2.1
  have dv4 : zSSm T Mz := p0_.2.2.2.2.1
  have dv5 : zGD Mz := zGB.d hO p0_
  have gb := dv5.1
  have gn := dv0.1
  refine zw_iload_n (pc := 0) (n := 1) (x := Int32.ofInt a0_) rfl (zdal_p dlD_M_named_91 (i := 0) rfl) ?_
  refine zr_i2l (pc := 1) ⟨ha0_a, ha0_b⟩ (zdal_p dlD_M_named_91 (i := 1) rfl) ?_
  refine zw_lconst (pc := 2) (v := Int64.ofInt 0) (by decide) (zdal_p dlD_M_named_91 (i := 2) rfl) ?_
  refine zw_aload_n (pc := 3) (n := 0) (x := 81) rfl (zdal_p dlD_M_named_91 (i := 3) rfl) ?_
  refine zr_getI0 hf hW (pc := 4) (by decide) f_M_388 rfl (zdal_p dlD_M_named_91 (i := 4) rfl) ?_
  refine zw_iconst (pc := 7) (v := Int32.ofInt 1) (by decide) (zdal_p dlD_M_named_91 (i := 5) rfl) ?_
  refine zr_isub (pc := 8) (zdal_p dlD_M_named_91 (i := 6) rfl) ?_
  refine zr_i2l (pc := 9) ⟨(by (exact zo_600 p1_)), (by (exact zo_826 p2_))⟩ (zdal_p dlD_M_named_91 (i := 7) rfl) ?_
  refine zr_callS hf.x (pc := 10) [.long (Int64.ofInt a0_), .long (Int64.ofInt 0), .long (Int64.ofInt ((ze Mz 81 18) - 1))] [] l_M_131 (c_M_isIn l Mz (hf.w hW) a0_ (by (exact zo_282 ha0_a)) (by (exact zo_283 ha0_b)) 0 (by decide) (by decide) ((ze Mz 81 18) - 1) (by (exact zo_827 p1_)) (by (exact zo_828 p2_))) rfl rfl (by decide) (Nat.le_of_ble_eq_true rfl) (zdal_p dlD_M_named_91 (i := 8) rfl) ?_
  rintro _ N1_ ⟨v2_, rfl, ⟨hv2_a, hv2_b⟩, hsN1_, hp0_N1_⟩
  obtain rfl := hsN1_.eq.symm
  replace hp0_N1_ : ((v2_ = 1 ∧ 0 ≤ a0_ ∧ a0_ ≤ ((ze Mz 81 18) - 1)) ∨ (v2_ = 0 ∧ (a0_ < 0 ∨ ((ze Mz 81 18) - 1) < a0_))) := hp0_N1_
  rcases hp0_N1_ with ⟨rfl, ha10_0_hp0_N1_, ha10_1_hp0_N1_⟩ | ⟨rfl, ha10_0_hp0_N1_⟩
  · skip
    show zW l m_M_named (zn Mz + 0, zw Mz + 0) Mz 13 [some (.ref 81), some (.int (Int32.ofInt a0_)), some (.int (Int32.ofInt a1_))] [.int (Int32.ofInt 1)] (zpJ [] [] Mz (fun v N => True))
    refine zr_if_eq (pc := 13) (tgt := 38) ⟨(by decide), (by decide)⟩ (by decide) (zdal_p dlD_M_named_91 (i := 9) rfl) (fun hc_13 => ?_) (fun hc_13 => ?_)
    · skip
      exact absurd hc_13 (by decide)
    · skip
      refine zw_aload_n (pc := 16) (n := 0) (x := 81) rfl (zdal_p dlD_M_named_91 (i := 10) rfl) ?_
      refine zw_iload_n (pc := 17) (n := 2) (x := Int32.ofInt a1_) rfl (zdal_p dlD_M_named_91 (i := 11) rfl) ?_
      refine zr_callV (hf.w hW) hf.x (pc := 18) [.int (Int32.ofInt a1_)] [] l_M_414 (c_M_isSort l Mz (hf.w hW) a1_ ha1_a ha1_b T hO p0_) rfl rfl rfl (by decide) (Nat.le_of_ble_eq_true rfl) (zdal_p dlD_M_named_91 (i := 12) rfl) ?_
      rintro _ N3_ ⟨v4_, rfl, ⟨hv4_a, hv4_b⟩, hsN3_, hp0_N3_⟩
      obtain rfl := hsN3_.eq.symm
      replace hp0_N3_ : ((v4_ = 1 ∧ 0 ≤ a1_ ∧ a1_ < ze Mz 81 26) ∨ (v4_ = 0)) := hp0_N3_
      rcases hp0_N3_ with ⟨rfl, ha18_0_hp0_N3_, ha18_1_hp0_N3_⟩ | rfl
      · skip
        show zW l m_M_named (zn Mz + 0, zw Mz + 0) Mz 21 [some (.ref 81), some (.int (Int32.ofInt a0_)), some (.int (Int32.ofInt a1_))] [.int (Int32.ofInt 1)] (zpJ [] [] Mz (fun v N => True))
        refine zr_if_eq (pc := 21) (tgt := 38) ⟨(by decide), (by decide)⟩ (by decide) (zdal_p dlD_M_named_91 (i := 13) rfl) (fun hc_21 => ?_) (fun hc_21 => ?_)
        · skip
          exact absurd hc_21 (by decide)
        · skip
          refine zw_aload_n (pc := 24) (n := 0) (x := 81) rfl (zdal_p dlD_M_named_91 (i := 14) rfl) ?_
          refine zr_getF (r := 104) (hf.w hW) (pc := 25) f_M_84 rfl (zh_104 (hf.w hW)).1 (zdal_p dlD_M_named_91 (i := 15) rfl) ?_
          refine zw_bipush (pc := 28) (v := Int32.ofInt 64) (by decide) (zdal_p dlD_M_named_91 (i := 16) rfl) ?_
          refine zw_iload_n (pc := 30) (n := 1) (x := Int32.ofInt a0_) rfl (zdal_p dlD_M_named_91 (i := 17) rfl) ?_
          refine zr_imul (pc := 31) (zdal_p dlD_M_named_91 (i := 18) rfl) ?_
          refine zw_iload_n (pc := 32) (n := 2) (x := Int32.ofInt a1_) rfl (zdal_p dlD_M_named_91 (i := 19) rfl) ?_
          refine zr_iadd (pc := 33) (zdal_p dlD_M_named_91 (i := 20) rfl) ?_
          refine zr_laldn (pc := 34) (zh_104 (hf.w hW)).2 (by decide) (by (exact zo_529 ha10_0_hp0_N1_ ha18_0_hp0_N3_)) (by omega) (zdal_p dlD_M_named_91 (i := 21) rfl) (fun v5_ hv5_ hv5_a hv5_b => ?_)
          refine zw_goto (pc := 35) (tgt := 41) (by decide) (zdal_p dlD_M_named_91 (i := 22) rfl) ?_
          exact zr_lret (pc := 41) rfl ⟨by (exact hv5_a), by (exact hv5_b)⟩ hf trivial (zdal_p dlD_M_named_92 (i := 0) rfl)
      · skip
        show zW l m_M_named (zn Mz + 0, zw Mz + 0) Mz 21 [some (.ref 81), some (.int (Int32.ofInt a0_)), some (.int (Int32.ofInt a1_))] [.int (Int32.ofInt 0)] (zpJ [] [] Mz (fun v N => True))
        refine zr_if_eq (pc := 21) (tgt := 38) ⟨(by decide), (by decide)⟩ (by decide) (zdal_p dlD_M_named_91 (i := 13) rfl) (fun hc_21 => ?_) (fun hc_21 => ?_)
        · skip
          refine zr_ldc2 (pc := 38) (n := (-9223372036854775808)) (by decide) k_M_470 (zdal_p dlD_M_named_91 (i := 23) rfl) ?_
          exact zr_lret (pc := 41) rfl ⟨by (decide), by (decide)⟩ hf trivial (zdal_p dlD_M_named_92 (i := 0) rfl)
        · skip
          exact absurd hc_21 (by decide)
  · skip
    show zW l m_M_named (zn Mz + 0, zw Mz + 0) Mz 13 [some (.ref 81), some (.int (Int32.ofInt a0_)), some (.int (Int32.ofInt a1_))] [.int (Int32.ofInt 0)] (zpJ [] [] Mz (fun v N => True))
    refine zr_if_eq (pc := 13) (tgt := 38) ⟨(by decide), (by decide)⟩ (by decide) (zdal_p dlD_M_named_91 (i := 9) rfl) (fun hc_13 => ?_) (fun hc_13 => ?_)
    · skip
      refine zr_ldc2 (pc := 38) (n := (-9223372036854775808)) (by decide) k_M_470 (zdal_p dlD_M_named_91 (i := 23) rfl) ?_
      exact zr_lret (pc := 41) rfl ⟨by (decide), by (decide)⟩ hf trivial (zdal_p dlD_M_named_92 (i := 0) rfl)
    · skip
      exact absurd hc_13 (by decide)
set_option maxHeartbeats 4000000 in
theorem c_M_markAt_98 (l : Launch) (Mz : zMem) (hW : zMt Mz) (a1_ : Int) (ha1_a : -2147483648 ≤ a1_) (ha1_b : a1_ < 2147483648) (a2_ : Int) (ha2_a : -2147483648 ≤ a2_) (ha2_b : a2_ < 2147483648) (p0_ : zGD Mz) (p1_ : 0 ≤ a1_) (p2_ : a1_ ≤ 0) (p3_ : 0 ≤ a2_) (p4_ : a2_ ≤ 63) : zC l m_M_markAt 0 0 [.ref 81, .ref 98, .int (Int32.ofInt a1_), .int (Int32.ofInt a2_)] Mz (zpJ [] [] Mz (fun v N => True)) := by
  refine zC_of (L0 := [some (.ref 81), some (.ref 98), some (.int (Int32.ofInt a1_)), some (.int (Int32.ofInt a2_)), none, none, none]) md_M_markAt (Nat.le_of_ble_eq_true rfl) rfl ?_ zQ0
  have hf : zFr [] [] Mz Mz := zFr.rf
  have r_26 := ze_r Mz 81 26
  have gb := p0_.1
  refine zw_lconst (pc := 0) (v := Int64.ofInt 0) (by decide) (zdal_p dlC_M_markAt_114 (i := 0) rfl) ?_
  refine zw_lstore (pc := 1) (i := 4) (L2 := [some (.ref 81), some (.ref 98), some (.int (Int32.ofInt a1_)), some (.int (Int32.ofInt a2_)), some (.long (Int64.ofInt 0)), none, none]) (by decide) rfl (zdal_p dlC_M_markAt_114 (i := 1) rfl) ?_
  refine zw_iconst (pc := 3) (v := Int32.ofInt 0) (by decide) (zdal_p dlC_M_markAt_114 (i := 2) rfl) ?_
  refine zw_istore (pc := 4) (i := 6) (L2 := [some (.ref 81), some (.ref 98), some (.int (Int32.ofInt a1_)), some (.int (Int32.ofInt a2_)), some (.long (Int64.ofInt 0)), none, some (.int (Int32.ofInt 0))]) (by decide) rfl (zdal_p dlC_M_markAt_114 (i := 3) rfl) ?_
  have lp_6 : ∀ (n : Nat) (u1_ : Int) (hu1_a : -9223372036854775808 ≤ u1_) (hu1_b : u1_ < 9223372036854775808) (u2_ : Int) (hu2_a : -2147483648 ≤ u2_) (hu2_b : u2_ < 2147483648) (i3_ : 0 ≤ u2_), (ze Mz 81 26 - u2_).toNat < n → zW l m_M_markAt (zn Mz + 0, zw Mz + 0) Mz 6 [some (.ref 81), some (.ref 98), some (.int (Int32.ofInt a1_)), some (.int (Int32.ofInt a2_)), some (.long (Int64.ofInt u1_)), none, some (.int (Int32.ofInt u2_))] [] (zpJ [] [] Mz (fun v N => True)) := by
    intro n
    induction n with
    | zero =>
      intro u1_ hu1_a hu1_b u2_ hu2_a hu2_b i3_ h0
      exact absurd h0 (Nat.not_lt_zero _)
    | succ n ih_6 =>
      intro u1_ hu1_a hu1_b u2_ hu2_a hu2_b i3_ hlt_6
      refine zw_iload (pc := 6) (i := 6) (x := Int32.ofInt u2_) rfl (zdal_p dlC_M_markAt_114 (i := 4) rfl) ?_
      refine zw_aload_n (pc := 8) (n := 0) (x := 81) rfl (zdal_p dlC_M_markAt_114 (i := 5) rfl) ?_
      refine zr_getI0 hf hW (pc := 9) (by decide) f_M_235 rfl (zdal_p dlC_M_markAt_114 (i := 6) rfl) ?_
      refine zr_icmp_ge (pc := 12) (tgt := 46) ⟨hu2_a, hu2_b⟩ ⟨(ze_r Mz 81 26).1, (ze_r Mz 81 26).2⟩ (by decide) (zdal_p dlC_M_markAt_114 (i := 7) rfl) (fun hc_12 => ?_) (fun hc_12 => ?_)
      · skip
        refine zw_lload (pc := 46) (i := 4) (x := Int64.ofInt u1_) rfl (zdal_p dlC_M_markAt_115 (i := 4) rfl) ?_
        exact zr_lret (pc := 48) rfl ⟨by (exact hu1_a), by (exact hu1_b)⟩ hf trivial (zdal_p dlC_M_markAt_115 (i := 5) rfl)
      · skip
        refine zw_lload (pc := 15) (i := 4) (x := Int64.ofInt u1_) rfl (zdal_p dlC_M_markAt_114 (i := 8) rfl) ?_
        refine zw_aload_n (pc := 17) (n := 1) (x := 98) rfl (zdal_p dlC_M_markAt_114 (i := 9) rfl) ?_
        refine zw_iload_n (pc := 18) (n := 2) (x := Int32.ofInt a1_) rfl (zdal_p dlC_M_markAt_114 (i := 10) rfl) ?_
        refine zw_iload (pc := 19) (i := 6) (x := Int32.ofInt u2_) rfl (zdal_p dlC_M_markAt_114 (i := 11) rfl) ?_
        refine zr_iadd (pc := 21) (zdal_p dlC_M_markAt_114 (i := 12) rfl) ?_
        refine zr_laldn (pc := 22) (zh_98 (hf.w hW)).2 (by decide) (by (exact zo_833 i3_ p1_)) (by (exact zo_834 gb.2.2.2.2.2 hc_12 p2_)) (zdal_p dlC_M_markAt_114 (i := 13) rfl) (fun v4_ hv4_ hv4_a hv4_b => ?_)
        refine zw_aload_n (pc := 23) (n := 0) (x := 81) rfl (zdal_p dlC_M_markAt_114 (i := 14) rfl) ?_
        refine zr_getF (r := 93) (hf.w hW) (pc := 24) f_M_50 rfl (zh_93 (hf.w hW)).1 (zdal_p dlC_M_markAt_114 (i := 15) rfl) ?_
        refine zw_bipush (pc := 27) (v := Int32.ofInt 64) (by decide) (zdal_p dlC_M_markAt_114 (i := 16) rfl) ?_
        refine zw_iload (pc := 29) (i := 6) (x := Int32.ofInt u2_) rfl (zdal_p dlC_M_markAt_114 (i := 17) rfl) ?_
        refine zr_imul (pc := 31) (zdal_p dlC_M_markAt_114 (i := 18) rfl) ?_
        refine zw_iload_n (pc := 32) (n := 3) (x := Int32.ofInt a2_) rfl (zdal_p dlC_M_markAt_114 (i := 19) rfl) ?_
        refine zr_iadd (pc := 33) (zdal_p dlC_M_markAt_114 (i := 20) rfl) ?_
        refine zr_ialdn (pc := 34) (zh_93 (hf.w hW)).2 (by decide) (by (exact zo_529 i3_ p3_)) (by (exact zo_835 gb.2.2.2.2.2 hc_12 p4_)) (zdal_p dlC_M_markAt_114 (i := 21) rfl) (fun v5_ hv5_ hv5_a hv5_b => ?_)
        refine zr_i2l (pc := 35) ⟨hv5_a, hv5_b⟩ (zdal_p dlC_M_markAt_114 (i := 22) rfl) ?_
        refine zr_lmul (pc := 36) (zdal_p dlC_M_markAt_114 (i := 23) rfl) ?_
        refine zr_ladd (pc := 37) (zdal_p dlC_M_markAt_115 (i := 0) rfl) ?_
        refine zr_nmJ (fun v6_ hv6_ => ?_)
        obtain ⟨hv6_a, hv6_b⟩ := hv6_
        refine zw_lstore (pc := 38) (i := 4) (L2 := [some (.ref 81), some (.ref 98), some (.int (Int32.ofInt a1_)), some (.int (Int32.ofInt a2_)), some (.long (Int64.ofInt v6_)), none, some (.int (Int32.ofInt u2_))]) (by decide) rfl (zdal_p dlC_M_markAt_115 (i := 1) rfl) ?_
        refine zr_iinc (pc := 40) (i := 6) (a := u2_) (n := 1) (L2 := [some (.ref 81), some (.ref 98), some (.int (Int32.ofInt a1_)), some (.int (Int32.ofInt a2_)), some (.long (Int64.ofInt v6_)), none, some (.int (Int32.ofInt (u2_ + 1)))]) rfl (by decide) rfl (zdal_p dlC_M_markAt_115 (i := 2) rfl) ?_
        refine zw_goto (pc := 43) (tgt := 6) (by decide) (zdal_p dlC_M_markAt_115 (i := 3) rfl) ?_
        exact ih_6 v6_ hv6_a hv6_b (u2_ + 1) (by (exact zo_74 i3_)) (by (exact zo_832 gb.2.2.2.2.2 hc_12)) (show 0 ≤ (u2_ + 1) by first | with_reducible assumption | (exact zo_76 i3_) | assumption) (by (exact zo_147 hc_12 hlt_6))
  exact lp_6 _ 0 (by decide) (by decide) 0 (by decide) (by decide) (show 0 ≤ (0 : Int) by first | with_reducible assumption | (decide) | assumption) (Nat.lt_succ_self _)
set_option maxHeartbeats 4000000 in
theorem c_M_has (l : Launch) (Mz : zMem) (hW : zMt Mz) (a0_ : Int) (ha0_a : -2147483648 ≤ a0_) (ha0_b : a0_ < 2147483648) (T : zGT) (hO : gOK T) (p0_ : zGB T Mz) : zC l m_M_has 0 0 [.ref 81, .int (Int32.ofInt a0_)] Mz (zpJ [] [] Mz (fun v N => True)) := by
  refine zC_of (L0 := [some (.ref 81), some (.int (Int32.ofInt a0_))]) md_M_has (Nat.le_of_ble_eq_true rfl) rfl ?_ zQ0
  have hf : zFr [] [] Mz Mz := zFr.rf
  have r_26 := ze_r Mz 81 26
  have hG := hO.1
  have g24 := hG.2.1
  have g1 := hG.1
  have dv0 : zTab T Mz := p0_.1
  have dv1 : zB 85 144 0 5 Mz := p0_.2.1
  have dv2 : zJX T Mz := p0_.2.2.1
  have dv3 : zFirs T Mz := p0_.2.2.2.1
  have dv4 : zSSm T Mz := p0_.2.2.2.2.1
  have dv5 : zGD Mz := zGB.d hO p0_
  have gb := dv5.1
  have gn := dv0.1
  refine zw_aload_n (pc := 0) (n := 0) (x := 81) rfl (zdal_p dlD_M_has_93 (i := 0) rfl) ?_
  refine zw_iload_n (pc := 1) (n := 1) (x := Int32.ofInt a0_) rfl (zdal_p dlD_M_has_93 (i := 1) rfl) ?_
  refine zr_callV (hf.w hW) hf.x (pc := 2) [.int (Int32.ofInt a0_)] [] l_M_414 (c_M_isSort l Mz (hf.w hW) a0_ ha0_a ha0_b T hO p0_) rfl rfl rfl (by decide) (Nat.le_of_ble_eq_true rfl) (zdal_p dlD_M_has_93 (i := 2) rfl) ?_
  rintro _ N1_ ⟨v2_, rfl, ⟨hv2_a, hv2_b⟩, hsN1_, hp0_N1_⟩
  obtain rfl := hsN1_.eq.symm
  replace hp0_N1_ : ((v2_ = 1 ∧ 0 ≤ a0_ ∧ a0_ < ze Mz 81 26) ∨ (v2_ = 0)) := hp0_N1_
  rcases hp0_N1_ with ⟨rfl, ha2_0_hp0_N1_, ha2_1_hp0_N1_⟩ | rfl
  · skip
    show zW l m_M_has (zn Mz + 0, zw Mz + 0) Mz 5 [some (.ref 81), some (.int (Int32.ofInt a0_))] [.int (Int32.ofInt 1)] (zpJ [] [] Mz (fun v N => True))
    refine zr_if_eq (pc := 5) (tgt := 17) ⟨(by decide), (by decide)⟩ (by decide) (zdal_p dlD_M_has_93 (i := 3) rfl) (fun hc_5 => ?_) (fun hc_5 => ?_)
    · skip
      exact absurd hc_5 (by decide)
    · skip
      refine zw_aload_n (pc := 8) (n := 0) (x := 81) rfl (zdal_p dlD_M_has_93 (i := 4) rfl) ?_
      refine zr_getF (r := 98) (hf.w hW) (pc := 9) f_M_66 rfl (zh_98 (hf.w hW)).1 (zdal_p dlD_M_has_93 (i := 5) rfl) ?_
      refine zw_iload_n (pc := 12) (n := 1) (x := Int32.ofInt a0_) rfl (zdal_p dlD_M_has_93 (i := 6) rfl) ?_
      refine zr_laldn (pc := 13) (zh_98 (hf.w hW)).2 (by decide) (by (exact ha2_0_hp0_N1_)) (by (exact zo_906 gb.2.2.2.2.2 ha0_b ha2_1_hp0_N1_)) (zdal_p dlD_M_has_93 (i := 7) rfl) (fun v3_ hv3_ hv3_a hv3_b => ?_)
      refine zw_goto (pc := 14) (tgt := 20) (by decide) (zdal_p dlD_M_has_93 (i := 8) rfl) ?_
      exact zr_lret (pc := 20) rfl ⟨by (exact hv3_a), by (exact hv3_b)⟩ hf trivial (zdal_p dlD_M_has_93 (i := 10) rfl)
  · skip
    show zW l m_M_has (zn Mz + 0, zw Mz + 0) Mz 5 [some (.ref 81), some (.int (Int32.ofInt a0_))] [.int (Int32.ofInt 0)] (zpJ [] [] Mz (fun v N => True))
    refine zr_if_eq (pc := 5) (tgt := 17) ⟨(by decide), (by decide)⟩ (by decide) (zdal_p dlD_M_has_93 (i := 3) rfl) (fun hc_5 => ?_) (fun hc_5 => ?_)
    · skip
      refine zr_ldc2 (pc := 17) (n := (-9223372036854775808)) (by decide) k_M_470 (zdal_p dlD_M_has_93 (i := 9) rfl) ?_
      exact zr_lret (pc := 20) rfl ⟨by (decide), by (decide)⟩ hf trivial (zdal_p dlD_M_has_93 (i := 10) rfl)
    · skip
      exact absurd hc_5 (by decide)
set_option maxHeartbeats 4000000 in
theorem c_M_marked (l : Launch) (Mz : zMem) (hW : zMt Mz) (a0_ : Int) (ha0_a : -2147483648 ≤ a0_) (ha0_b : a0_ < 2147483648) (T : zGT) (hO : gOK T) (p0_ : zGB T Mz) : zC l m_M_marked 0 0 [.ref 81, .int (Int32.ofInt a0_)] Mz (zpJ [] [] Mz (fun v N => True)) := by
  refine zC_of (L0 := [some (.ref 81), some (.int (Int32.ofInt a0_))]) md_M_marked (Nat.le_of_ble_eq_true rfl) rfl ?_ zQ0
  have hf : zFr [] [] Mz Mz := zFr.rf
  have r_26 := ze_r Mz 81 26
  have hG := hO.1
  have g24 := hG.2.1
  have g1 := hG.1
  have dv0 : zTab T Mz := p0_.1
  have dv1 : zB 85 144 0 5 Mz := p0_.2.1
  have dv2 : zJX T Mz := p0_.2.2.1
  have dv3 : zFirs T Mz := p0_.2.2.2.1
  have dv4 : zSSm T Mz := p0_.2.2.2.2.1
  have dv5 : zGD Mz := zGB.d hO p0_
  have gb := dv5.1
  have gn := dv0.1
  refine zw_aload_n (pc := 0) (n := 0) (x := 81) rfl (zdal_p dlD_M_marked_94 (i := 0) rfl) ?_
  refine zw_iload_n (pc := 1) (n := 1) (x := Int32.ofInt a0_) rfl (zdal_p dlD_M_marked_94 (i := 1) rfl) ?_
  refine zr_callV (hf.w hW) hf.x (pc := 2) [.int (Int32.ofInt a0_)] [] l_M_414 (c_M_isSort l Mz (hf.w hW) a0_ ha0_a ha0_b T hO p0_) rfl rfl rfl (by decide) (Nat.le_of_ble_eq_true rfl) (zdal_p dlD_M_marked_94 (i := 2) rfl) ?_
  rintro _ N1_ ⟨v2_, rfl, ⟨hv2_a, hv2_b⟩, hsN1_, hp0_N1_⟩
  obtain rfl := hsN1_.eq.symm
  replace hp0_N1_ : ((v2_ = 1 ∧ 0 ≤ a0_ ∧ a0_ < ze Mz 81 26) ∨ (v2_ = 0)) := hp0_N1_
  rcases hp0_N1_ with ⟨rfl, ha2_0_hp0_N1_, ha2_1_hp0_N1_⟩ | rfl
  · skip
    show zW l m_M_marked (zn Mz + 0, zw Mz + 0) Mz 5 [some (.ref 81), some (.int (Int32.ofInt a0_))] [.int (Int32.ofInt 1)] (zpJ [] [] Mz (fun v N => True))
    refine zr_if_eq (pc := 5) (tgt := 21) ⟨(by decide), (by decide)⟩ (by decide) (zdal_p dlD_M_marked_94 (i := 3) rfl) (fun hc_5 => ?_) (fun hc_5 => ?_)
    · skip
      exact absurd hc_5 (by decide)
    · skip
      refine zw_aload_n (pc := 8) (n := 0) (x := 81) rfl (zdal_p dlD_M_marked_94 (i := 4) rfl) ?_
      refine zw_aload_n (pc := 9) (n := 0) (x := 81) rfl (zdal_p dlD_M_marked_94 (i := 5) rfl) ?_
      refine zr_getF (r := 98) (hf.w hW) (pc := 10) f_M_66 rfl (zh_98 (hf.w hW)).1 (zdal_p dlD_M_marked_94 (i := 6) rfl) ?_
      refine zw_iconst (pc := 13) (v := Int32.ofInt 0) (by decide) (zdal_p dlD_M_marked_94 (i := 7) rfl) ?_
      refine zw_iload_n (pc := 14) (n := 1) (x := Int32.ofInt a0_) rfl (zdal_p dlD_M_marked_94 (i := 8) rfl) ?_
      refine zr_callV (hf.w hW) hf.x (pc := 15) [.ref 98, .int (Int32.ofInt 0), .int (Int32.ofInt a0_)] [] l_M_264 (c_M_markAt_98 l Mz (hf.w hW) 0 (by decide) (by decide) a0_ ha0_a ha0_b dv5 (show 0 ≤ 0 by first | with_reducible assumption | (decide) | assumption) (show 0 ≤ 0 by first | with_reducible assumption | (decide) | assumption) (show 0 ≤ a0_ by first | with_reducible assumption | assumption | omega) (show a0_ ≤ 63 by first | with_reducible assumption | assumption | omega)) rfl rfl rfl (by decide) (Nat.le_of_ble_eq_true rfl) (zdal_p dlD_M_marked_94 (i := 9) rfl) ?_
      rintro _ N3_ ⟨v4_, rfl, ⟨hv4_a, hv4_b⟩, hsN3_, -⟩
      obtain rfl := hsN3_.eq.symm
      show zW l m_M_marked (zn Mz + 0, zw Mz + 0) Mz 18 [some (.ref 81), some (.int (Int32.ofInt a0_))] [.long (Int64.ofInt v4_)] (zpJ [] [] Mz (fun v N => True))
      refine zw_goto (pc := 18) (tgt := 24) (by decide) (zdal_p dlD_M_marked_94 (i := 10) rfl) ?_
      exact zr_lret (pc := 24) rfl ⟨by (exact hv4_a), by (exact hv4_b)⟩ hf trivial (zdal_p dlD_M_marked_94 (i := 12) rfl)
  · skip
    show zW l m_M_marked (zn Mz + 0, zw Mz + 0) Mz 5 [some (.ref 81), some (.int (Int32.ofInt a0_))] [.int (Int32.ofInt 0)] (zpJ [] [] Mz (fun v N => True))
    refine zr_if_eq (pc := 5) (tgt := 21) ⟨(by decide), (by decide)⟩ (by decide) (zdal_p dlD_M_marked_94 (i := 3) rfl) (fun hc_5 => ?_) (fun hc_5 => ?_)
    · skip
      refine zr_ldc2 (pc := 21) (n := (-9223372036854775808)) (by decide) k_M_470 (zdal_p dlD_M_marked_94 (i := 11) rfl) ?_
      exact zr_lret (pc := 24) rfl ⟨by (decide), by (decide)⟩ hf trivial (zdal_p dlD_M_marked_94 (i := 12) rfl)
    · skip
      exact absurd hc_5 (by decide)
set_option maxHeartbeats 4000000 in
theorem c_M_character (l : Launch) (Mz : zMem) (hW : zMt Mz) (a0_ : Int) (ha0_a : -2147483648 ≤ a0_) (ha0_b : a0_ < 2147483648) (T : zGT) (hO : gOK T) (p0_ : zGB T Mz) : zC l m_M_character 0 0 [.ref 81, .int (Int32.ofInt a0_)] Mz (zpJ [] [] Mz (fun v N => True)) := by
  refine zC_of (L0 := [some (.ref 81), some (.int (Int32.ofInt a0_))]) md_M_character (Nat.le_of_ble_eq_true rfl) rfl ?_ zQ0
  have hf : zFr [] [] Mz Mz := zFr.rf
  have r_20 := ze_r Mz 81 20
  have r_26 := ze_r Mz 81 26
  have hG := hO.1
  have g24 := hG.2.1
  have g1 := hG.1
  have dv0 : zTab T Mz := p0_.1
  have dv1 : zB 85 144 0 5 Mz := p0_.2.1
  have dv2 : zJX T Mz := p0_.2.2.1
  have dv3 : zFirs T Mz := p0_.2.2.2.1
  have dv4 : zSSm T Mz := p0_.2.2.2.2.1
  have dv5 : zGD Mz := zGB.d hO p0_
  have gb := dv5.1
  have gn := dv0.1
  refine zw_aload_n (pc := 0) (n := 0) (x := 81) rfl (zdal_p dlD_M_character_95 (i := 0) rfl) ?_
  refine zw_iload_n (pc := 1) (n := 1) (x := Int32.ofInt a0_) rfl (zdal_p dlD_M_character_95 (i := 1) rfl) ?_
  refine zr_callV (hf.w hW) hf.x (pc := 2) [.int (Int32.ofInt a0_)] [] l_M_400 (c_M_isMember l Mz (hf.w hW) a0_ ha0_a ha0_b T hO p0_) rfl rfl rfl (by decide) (Nat.le_of_ble_eq_true rfl) (zdal_p dlD_M_character_95 (i := 2) rfl) ?_
  rintro _ N1_ ⟨v2_, rfl, ⟨hv2_a, hv2_b⟩, hsN1_, hp0_N1_⟩
  obtain rfl := hsN1_.eq.symm
  replace hp0_N1_ : ((v2_ = 1 ∧ 0 ≤ a0_ ∧ a0_ < ze Mz 81 20) ∨ (v2_ = 0)) := hp0_N1_
  rcases hp0_N1_ with ⟨rfl, ha2_0_hp0_N1_, ha2_1_hp0_N1_⟩ | rfl
  · skip
    show zW l m_M_character (zn Mz + 0, zw Mz + 0) Mz 5 [some (.ref 81), some (.int (Int32.ofInt a0_))] [.int (Int32.ofInt 1)] (zpJ [] [] Mz (fun v N => True))
    refine zr_if_eq (pc := 5) (tgt := 31) ⟨(by decide), (by decide)⟩ (by decide) (zdal_p dlD_M_character_95 (i := 3) rfl) (fun hc_5 => ?_) (fun hc_5 => ?_)
    · skip
      exact absurd hc_5 (by decide)
    · skip
      refine zw_aload_n (pc := 8) (n := 0) (x := 81) rfl (zdal_p dlD_M_character_95 (i := 4) rfl) ?_
      refine zw_aload_n (pc := 9) (n := 0) (x := 81) rfl (zdal_p dlD_M_character_95 (i := 5) rfl) ?_
      refine zr_getF (r := 98) (hf.w hW) (pc := 10) f_M_66 rfl (zh_98 (hf.w hW)).1 (zdal_p dlD_M_character_95 (i := 6) rfl) ?_
      refine zw_iconst (pc := 13) (v := Int32.ofInt 0) (by decide) (zdal_p dlD_M_character_95 (i := 7) rfl) ?_
      refine zw_aload_n (pc := 14) (n := 0) (x := 81) rfl (zdal_p dlD_M_character_95 (i := 8) rfl) ?_
      refine zw_aload_n (pc := 15) (n := 0) (x := 81) rfl (zdal_p dlD_M_character_95 (i := 9) rfl) ?_
      refine zw_iconst (pc := 16) (v := Int32.ofInt 1) (by decide) (zdal_p dlD_M_character_95 (i := 10) rfl) ?_
      refine zw_iload_n (pc := 17) (n := 1) (x := Int32.ofInt a0_) rfl (zdal_p dlD_M_character_95 (i := 11) rfl) ?_
      refine zr_ishl (pc := 18) (zdal_p dlD_M_character_95 (i := 12) rfl) ?_
      have hr3_ := zshl_r 1 a0_
      have hsi := zshl_i hG (k := a0_) (by (exact ha2_0_hp0_N1_)) (by (exact zo_928 gb.2.1 gn ha2_1_hp0_N1_))
      refine zr_callV (hf.w hW) hf.x (pc := 19) [.int (Int32.ofInt (zshl 1 a0_))] [.ref 81, .int (Int32.ofInt 0), .ref 98, .ref 81] l_M_229 (c_M_closed l Mz (hf.w hW) (zshl 1 a0_) (by (exact zo_168 hsi.2.1)) (by (exact zo_285 hr3_.2)) T hG dv0 (show gIn T (zshl 1 a0_) by exact hsi.1)) rfl rfl rfl (by decide) (Nat.le_of_ble_eq_true rfl) (zdal_p dlD_M_character_95 (i := 13) rfl) ?_
      rintro _ N4_ ⟨v5_, rfl, ⟨hv5_a, hv5_b⟩, hsN4_, ⟨hp0_N4_, hp1_N4_, hp2_N4_⟩⟩
      obtain rfl := hsN4_.eq.symm
      show zW l m_M_character (zn Mz + 0, zw Mz + 0) Mz 22 [some (.ref 81), some (.int (Int32.ofInt a0_))] [.int (Int32.ofInt v5_), .ref 81, .int (Int32.ofInt 0), .ref 98, .ref 81] (zpJ [] [] Mz (fun v N => True))
      have hm_Mz := gMe_c hO hp0_N4_ (by (exact hp1_N4_))
      refine zr_callV (hf.w hW) hf.x (pc := 22) [.int (Int32.ofInt v5_)] [.int (Int32.ofInt 0), .ref 98, .ref 81] l_M_411 (c_M_sortOfSet l Mz (hf.w hW) v5_ hv5_a hv5_b T hO p0_ (show gMe T v5_ by first | with_reducible assumption | assumption)) rfl rfl rfl (by decide) (Nat.le_of_ble_eq_true rfl) (zdal_p dlD_M_character_95 (i := 14) rfl) ?_
      rintro _ N6_ ⟨v7_, rfl, ⟨hv7_a, hv7_b⟩, hsN6_, ⟨hp0_N6_, hp1_N6_⟩⟩
      obtain rfl := hsN6_.eq.symm
      show zW l m_M_character (zn Mz + 0, zw Mz + 0) Mz 25 [some (.ref 81), some (.int (Int32.ofInt a0_))] [.int (Int32.ofInt v7_), .int (Int32.ofInt 0), .ref 98, .ref 81] (zpJ [] [] Mz (fun v N => True))
      refine zr_callV (hf.w hW) hf.x (pc := 25) [.ref 98, .int (Int32.ofInt 0), .int (Int32.ofInt v7_)] [] l_M_264 (c_M_markAt_98 l Mz (hf.w hW) 0 (by decide) (by decide) v7_ hv7_a hv7_b dv5 (show 0 ≤ 0 by first | with_reducible assumption | (decide) | assumption) (show 0 ≤ 0 by first | with_reducible assumption | (decide) | assumption) (show 0 ≤ v7_ by first | with_reducible assumption | assumption | omega) (show v7_ ≤ 63 by first | with_reducible assumption | assumption | omega)) rfl rfl rfl (by decide) (Nat.le_of_ble_eq_true rfl) (zdal_p dlD_M_character_95 (i := 15) rfl) ?_
      rintro _ N8_ ⟨v9_, rfl, ⟨hv9_a, hv9_b⟩, hsN8_, -⟩
      obtain rfl := hsN8_.eq.symm
      show zW l m_M_character (zn Mz + 0, zw Mz + 0) Mz 28 [some (.ref 81), some (.int (Int32.ofInt a0_))] [.long (Int64.ofInt v9_)] (zpJ [] [] Mz (fun v N => True))
      refine zw_goto (pc := 28) (tgt := 34) (by decide) (zdal_p dlD_M_character_95 (i := 16) rfl) ?_
      exact zr_lret (pc := 34) rfl ⟨by (exact hv9_a), by (exact hv9_b)⟩ hf trivial (zdal_p dlD_M_character_95 (i := 18) rfl)
  · skip
    show zW l m_M_character (zn Mz + 0, zw Mz + 0) Mz 5 [some (.ref 81), some (.int (Int32.ofInt a0_))] [.int (Int32.ofInt 0)] (zpJ [] [] Mz (fun v N => True))
    refine zr_if_eq (pc := 5) (tgt := 31) ⟨(by decide), (by decide)⟩ (by decide) (zdal_p dlD_M_character_95 (i := 3) rfl) (fun hc_5 => ?_) (fun hc_5 => ?_)
    · skip
      refine zr_ldc2 (pc := 31) (n := (-9223372036854775808)) (by decide) k_M_470 (zdal_p dlD_M_character_95 (i := 17) rfl) ?_
      exact zr_lret (pc := 34) rfl ⟨by (decide), by (decide)⟩ hf trivial (zdal_p dlD_M_character_95 (i := 18) rfl)
    · skip
      exact absurd hc_5 (by decide)
set_option maxHeartbeats 4000000 in
theorem c_M_parts (l : Launch) (Mz : zMem) (hW : zMt Mz) (T : zGT) (hO : gOK T) (p0_ : zGB T Mz) : zC l m_M_parts 0 0 [.ref 81] Mz (zpI [] [] Mz (fun v N => True)) := by
  refine zC_of (L0 := [some (.ref 81), none, none]) md_M_parts (Nat.le_of_ble_eq_true rfl) rfl ?_ zQ0
  have hf : zFr [] [] Mz Mz := zFr.rf
  have r_26 := ze_r Mz 81 26
  have hG := hO.1
  have g24 := hG.2.1
  have g1 := hG.1
  have dv0 : zTab T Mz := p0_.1
  have dv1 : zB 85 144 0 5 Mz := p0_.2.1
  have dv2 : zJX T Mz := p0_.2.2.1
  have dv3 : zFirs T Mz := p0_.2.2.2.1
  have dv4 : zSSm T Mz := p0_.2.2.2.2.1
  have dv5 : zGD Mz := zGB.d hO p0_
  have gb := dv5.1
  have gn := dv0.1
  refine zw_iconst (pc := 0) (v := Int32.ofInt 0) (by decide) (zdal_p dlD_M_parts_96 (i := 0) rfl) ?_
  refine zw_istore_n (pc := 1) (i := 1) (L2 := [some (.ref 81), some (.int (Int32.ofInt 0)), none]) rfl (by decide) rfl (zdal_p dlD_M_parts_96 (i := 1) rfl) ?_
  refine zw_iconst (pc := 2) (v := Int32.ofInt 0) (by decide) (zdal_p dlD_M_parts_96 (i := 2) rfl) ?_
  refine zw_istore_n (pc := 3) (i := 2) (L2 := [some (.ref 81), some (.int (Int32.ofInt 0)), some (.int (Int32.ofInt 0))]) rfl (by decide) rfl (zdal_p dlD_M_parts_96 (i := 3) rfl) ?_
  have lp_4 : ∀ (n : Nat) (u1_ : Int) (hu1_a : -2147483648 ≤ u1_) (hu1_b : u1_ < 2147483648) (u2_ : Int) (hu2_a : -2147483648 ≤ u2_) (hu2_b : u2_ < 2147483648) (i3_ : 0 ≤ u2_), (ze Mz 81 26 - u2_).toNat < n → zW l m_M_parts (zn Mz + 0, zw Mz + 0) Mz 4 [some (.ref 81), some (.int (Int32.ofInt u1_)), some (.int (Int32.ofInt u2_))] [] (zpI [] [] Mz (fun v N => True)) := by
    intro n
    induction n with
    | zero =>
      intro u1_ hu1_a hu1_b u2_ hu2_a hu2_b i3_ h0
      exact absurd h0 (Nat.not_lt_zero _)
    | succ n ih_4 =>
      intro u1_ hu1_a hu1_b u2_ hu2_a hu2_b i3_ hlt_4
      refine zw_iload_n (pc := 4) (n := 2) (x := Int32.ofInt u2_) rfl (zdal_p dlD_M_parts_96 (i := 4) rfl) ?_
      refine zw_aload_n (pc := 5) (n := 0) (x := 81) rfl (zdal_p dlD_M_parts_96 (i := 5) rfl) ?_
      refine zr_getI0 hf hW (pc := 6) (by decide) f_M_235 rfl (zdal_p dlD_M_parts_96 (i := 6) rfl) ?_
      refine zr_icmp_ge (pc := 9) (tgt := 40) ⟨hu2_a, hu2_b⟩ ⟨(ze_r Mz 81 26).1, (ze_r Mz 81 26).2⟩ (by decide) (zdal_p dlD_M_parts_96 (i := 7) rfl) (fun hc_9 => ?_) (fun hc_9 => ?_)
      · skip
        refine zw_iload_n (pc := 40) (n := 1) (x := Int32.ofInt u1_) rfl (zdal_p dlD_M_parts_97 (i := 0) rfl) ?_
        exact zr_iret (pc := 41) (ty := .int) rfl rfl ⟨by (exact hu1_a), by (exact hu1_b)⟩ hf trivial (zdal_p dlD_M_parts_97 (i := 1) rfl)
      · skip
        refine zw_iload_n (pc := 12) (n := 1) (x := Int32.ofInt u1_) rfl (zdal_p dlD_M_parts_96 (i := 8) rfl) ?_
        refine zw_aload_n (pc := 13) (n := 0) (x := 81) rfl (zdal_p dlD_M_parts_96 (i := 9) rfl) ?_
        refine zr_getF (r := 98) (hf.w hW) (pc := 14) f_M_66 rfl (zh_98 (hf.w hW)).1 (zdal_p dlD_M_parts_96 (i := 10) rfl) ?_
        refine zw_iload_n (pc := 17) (n := 2) (x := Int32.ofInt u2_) rfl (zdal_p dlD_M_parts_96 (i := 11) rfl) ?_
        refine zr_laldn (pc := 18) (zh_98 (hf.w hW)).2 (by decide) (by (exact i3_)) (by (exact zo_831 gb.2.2.2.2.2 hc_9)) (zdal_p dlD_M_parts_96 (i := 12) rfl) (fun v4_ hv4_ hv4_a hv4_b => ?_)
        refine zw_lconst (pc := 19) (v := Int64.ofInt 0) (by decide) (zdal_p dlD_M_parts_96 (i := 13) rfl) ?_
        refine zr_lcmp (pc := 20) ⟨hv4_a, hv4_b⟩ ⟨(by decide), (by decide)⟩ (zdal_p dlD_M_parts_96 (i := 14) rfl) ?_
        have hr5_ := zcmp_s v4_ 0
        refine zr_if_eq (pc := 21) (tgt := 28) ⟨(by (exact zo_71 hr5_)), (by (exact zo_72 hr5_))⟩ (by decide) (zdal_p dlD_M_parts_96 (i := 15) rfl) (fun hc_21 => ?_) (fun hc_21 => ?_)
        · skip
          refine zw_iconst (pc := 28) (v := Int32.ofInt 0) (by decide) (zdal_p dlD_M_parts_96 (i := 18) rfl) ?_
          refine zr_callS hf.x (pc := 29) [.int (Int32.ofInt 0)] [.int (Int32.ofInt u1_)] l_M_256 (c_M_truth l Mz (hf.w hW) 0 (by decide) (by decide) (by (decide))) rfl rfl (by decide) (Nat.le_of_ble_eq_true rfl) (zdal_p dlD_M_parts_96 (i := 19) rfl) ?_
          rintro _ N6_ ⟨v7_, rfl, ⟨hv7_a, hv7_b⟩, hsN6_, hp0_N6_⟩
          obtain rfl := hsN6_.eq.symm
          replace hp0_N6_ : v7_ = 0 := hp0_N6_
          show zW l m_M_parts (zn Mz + 0, zw Mz + 0) Mz 32 [some (.ref 81), some (.int (Int32.ofInt u1_)), some (.int (Int32.ofInt u2_))] [.int (Int32.ofInt v7_), .int (Int32.ofInt u1_)] (zpI [] [] Mz (fun v N => True))
          refine zr_iadd (pc := 32) (zdal_p dlD_M_parts_96 (i := 20) rfl) ?_
          refine zr_nmI (fun v8_ hv8_ => ?_)
          obtain ⟨hv8_a, hv8_b⟩ := hv8_
          refine zw_istore_n (pc := 33) (i := 1) (L2 := [some (.ref 81), some (.int (Int32.ofInt v8_)), some (.int (Int32.ofInt u2_))]) rfl (by decide) rfl (zdal_p dlD_M_parts_96 (i := 21) rfl) ?_
          refine zr_iinc (pc := 34) (i := 2) (a := u2_) (n := 1) (L2 := [some (.ref 81), some (.int (Int32.ofInt v8_)), some (.int (Int32.ofInt (u2_ + 1)))]) rfl (by decide) rfl (zdal_p dlD_M_parts_96 (i := 22) rfl) ?_
          refine zw_goto (pc := 37) (tgt := 4) (by decide) (zdal_p dlD_M_parts_96 (i := 23) rfl) ?_
          exact ih_4 v8_ hv8_a hv8_b (u2_ + 1) (by (exact zo_74 i3_)) (by (exact zo_832 gb.2.2.2.2.2 hc_9)) (show 0 ≤ (u2_ + 1) by first | with_reducible assumption | (exact zo_76 i3_) | assumption) (by (exact zo_147 hc_9 hlt_4))
        · skip
          refine zw_iconst (pc := 24) (v := Int32.ofInt 1) (by decide) (zdal_p dlD_M_parts_96 (i := 16) rfl) ?_
          refine zw_goto (pc := 25) (tgt := 29) (by decide) (zdal_p dlD_M_parts_96 (i := 17) rfl) ?_
          refine zr_callS hf.x (pc := 29) [.int (Int32.ofInt 1)] [.int (Int32.ofInt u1_)] l_M_256 (c_M_truth l Mz (hf.w hW) 1 (by decide) (by decide) (by (decide))) rfl rfl (by decide) (Nat.le_of_ble_eq_true rfl) (zdal_p dlD_M_parts_96 (i := 19) rfl) ?_
          rintro _ N9_ ⟨v10_, rfl, ⟨hv10_a, hv10_b⟩, hsN9_, hp0_N9_⟩
          obtain rfl := hsN9_.eq.symm
          replace hp0_N9_ : v10_ = 1 := hp0_N9_
          show zW l m_M_parts (zn Mz + 0, zw Mz + 0) Mz 32 [some (.ref 81), some (.int (Int32.ofInt u1_)), some (.int (Int32.ofInt u2_))] [.int (Int32.ofInt v10_), .int (Int32.ofInt u1_)] (zpI [] [] Mz (fun v N => True))
          refine zr_iadd (pc := 32) (zdal_p dlD_M_parts_96 (i := 20) rfl) ?_
          refine zr_nmI (fun v11_ hv11_ => ?_)
          obtain ⟨hv11_a, hv11_b⟩ := hv11_
          refine zw_istore_n (pc := 33) (i := 1) (L2 := [some (.ref 81), some (.int (Int32.ofInt v11_)), some (.int (Int32.ofInt u2_))]) rfl (by decide) rfl (zdal_p dlD_M_parts_96 (i := 21) rfl) ?_
          refine zr_iinc (pc := 34) (i := 2) (a := u2_) (n := 1) (L2 := [some (.ref 81), some (.int (Int32.ofInt v11_)), some (.int (Int32.ofInt (u2_ + 1)))]) rfl (by decide) rfl (zdal_p dlD_M_parts_96 (i := 22) rfl) ?_
          refine zw_goto (pc := 37) (tgt := 4) (by decide) (zdal_p dlD_M_parts_96 (i := 23) rfl) ?_
          exact ih_4 v11_ hv11_a hv11_b (u2_ + 1) (by (exact zo_74 i3_)) (by (exact zo_832 gb.2.2.2.2.2 hc_9)) (show 0 ≤ (u2_ + 1) by first | with_reducible assumption | (exact zo_76 i3_) | assumption) (by (exact zo_147 hc_9 hlt_4))
  exact lp_4 _ 0 (by decide) (by decide) 0 (by decide) (by decide) (show 0 ≤ (0 : Int) by first | with_reducible assumption | (decide) | assumption) (Nat.lt_succ_self _)
set_option maxHeartbeats 4000000 in
theorem c_M_laysMarks (l : Launch) (Mz : zMem) (hW : zMt Mz) (T : zGT) (hO : gOK T) (p0_ : zGB T Mz) : zC l m_M_laysMarks 0 0 [.ref 81] Mz (zpV [] [99] Mz (fun N => True)) := by
  refine zC_of (L0 := [some (.ref 81), none]) md_M_laysMarks (Nat.le_of_ble_eq_true rfl) rfl ?_ zQ0
  have hf : zFr [] [99] Mz Mz := zFr.rf
  have r_26 := ze_r Mz 81 26
  have hG := hO.1
  have g24 := hG.2.1
  have g1 := hG.1
  have dv0 : zTab T Mz := p0_.1
  have dv1 : zB 85 144 0 5 Mz := p0_.2.1
  have dv2 : zJX T Mz := p0_.2.2.1
  have dv3 : zFirs T Mz := p0_.2.2.2.1
  have dv4 : zSSm T Mz := p0_.2.2.2.2.1
  have dv5 : zGD Mz := zGB.d hO p0_
  have gb := dv5.1
  have gn := dv0.1
  refine zw_iconst (pc := 0) (v := Int32.ofInt 0) (by decide) (zdal_p dlD_M_laysMarks_99 (i := 0) rfl) ?_
  refine zw_istore_n (pc := 1) (i := 1) (L2 := [some (.ref 81), some (.int (Int32.ofInt 0))]) rfl (by decide) rfl (zdal_p dlD_M_laysMarks_99 (i := 1) rfl) ?_
  have lp_2 : ∀ (n : Nat) (u1_ : Int) (hu1_a : -2147483648 ≤ u1_) (hu1_b : u1_ < 2147483648) (N2_ : zMem) (hs3_ : zFr [] [99] Mz N2_) (i4_ : 0 ≤ u1_), (ze Mz 81 26 - u1_).toNat < n → zW l m_M_laysMarks (zn Mz + 0, zw Mz + 0) N2_ 2 [some (.ref 81), some (.int (Int32.ofInt u1_))] [] (zpV [] [99] Mz (fun N => True)) := by
    intro n
    induction n with
    | zero =>
      intro u1_ hu1_a hu1_b N2_ hs3_ i4_ h0
      exact absurd h0 (Nat.not_lt_zero _)
    | succ n ih_2 =>
      intro u1_ hu1_a hu1_b N2_ hs3_ i4_ hlt_2
      have hf_N2_ : zFr [] [99] Mz N2_ := hf.tr hs3_ (by decide) (by decide)
      have c11_ : zGD N2_ := zGD.fr hs3_ dv5 (by decide) (by decide)
      refine zw_iload_n (pc := 2) (n := 1) (x := Int32.ofInt u1_) rfl (zdal_p dlD_M_laysMarks_99 (i := 2) rfl) ?_
      refine zw_aload_n (pc := 3) (n := 0) (x := 81) rfl (zdal_p dlD_M_laysMarks_99 (i := 3) rfl) ?_
      refine zr_getI0 hf_N2_ hW (pc := 4) (by decide) f_M_235 rfl (zdal_p dlD_M_laysMarks_99 (i := 4) rfl) ?_
      refine zr_icmp_ge (pc := 7) (tgt := 32) ⟨hu1_a, hu1_b⟩ ⟨(ze_r Mz 81 26).1, (ze_r Mz 81 26).2⟩ (by decide) (zdal_p dlD_M_laysMarks_99 (i := 5) rfl) (fun hc_7 => ?_) (fun hc_7 => ?_)
      · skip
        exact zr_vret (pc := 32) rfl hf_N2_ trivial (zdal_p dlD_M_laysMarks_99 (i := 18) rfl)
      · skip
        refine zw_aload_n (pc := 10) (n := 0) (x := 81) rfl (zdal_p dlD_M_laysMarks_99 (i := 6) rfl) ?_
        refine zr_getF (r := 99) (hf_N2_.w hW) (pc := 11) f_M_69 rfl (zh_99 (hf_N2_.w hW)).1 (zdal_p dlD_M_laysMarks_99 (i := 7) rfl) ?_
        refine zw_iload_n (pc := 14) (n := 1) (x := Int32.ofInt u1_) rfl (zdal_p dlD_M_laysMarks_99 (i := 8) rfl) ?_
        refine zw_aload_n (pc := 15) (n := 0) (x := 81) rfl (zdal_p dlD_M_laysMarks_99 (i := 9) rfl) ?_
        refine zw_aload_n (pc := 16) (n := 0) (x := 81) rfl (zdal_p dlD_M_laysMarks_99 (i := 10) rfl) ?_
        refine zr_getF (r := 98) (hf_N2_.w hW) (pc := 17) f_M_66 rfl (zh_98 (hf_N2_.w hW)).1 (zdal_p dlD_M_laysMarks_99 (i := 11) rfl) ?_
        refine zw_iconst (pc := 20) (v := Int32.ofInt 0) (by decide) (zdal_p dlD_M_laysMarks_99 (i := 12) rfl) ?_
        refine zw_iload_n (pc := 21) (n := 1) (x := Int32.ofInt u1_) rfl (zdal_p dlD_M_laysMarks_99 (i := 13) rfl) ?_
        refine zr_callV (hf_N2_.w hW) hf_N2_.x (pc := 22) [.ref 98, .int (Int32.ofInt 0), .int (Int32.ofInt u1_)] [.int (Int32.ofInt u1_), .ref 99] l_M_264 (c_M_markAt_98 l N2_ (hf_N2_.w hW) 0 (by decide) (by decide) u1_ hu1_a hu1_b c11_ (show 0 ≤ 0 by first | with_reducible assumption | (decide) | assumption) (show 0 ≤ 0 by first | with_reducible assumption | (decide) | assumption) (show 0 ≤ u1_ by first | with_reducible assumption | assumption | omega) (show u1_ ≤ 63 by first | with_reducible assumption | (exact zo_836 gb.2.2.2.2.2 hc_7) | assumption)) rfl rfl rfl (by decide) (Nat.le_of_ble_eq_true rfl) (zdal_p dlD_M_laysMarks_99 (i := 14) rfl) ?_
        rintro _ N12_ ⟨v13_, rfl, ⟨hv13_a, hv13_b⟩, hsN12_, -⟩
        obtain rfl := hsN12_.eq.symm
        show zW l m_M_laysMarks (zn Mz + 0, zw Mz + 0) N2_ 25 [some (.ref 81), some (.int (Int32.ofInt u1_))] [.long (Int64.ofInt v13_), .int (Int32.ofInt u1_), .ref 99] (zpV [] [99] Mz (fun N => True))
        refine zr_last (pc := 25) (zh_99 (hf_N2_.w hW)).2 (by decide) (by decide) (by (exact i4_)) (by (exact zo_831 gb.2.2.2.2.2 hc_7)) (zdal_p dlD_M_laysMarks_99 (i := 15) rfl) (fun N14_ hN14_ hsN14_ => ?_)
        have hf_N14_ : zFr [] [99] Mz N14_ := hf_N2_.tr hsN14_ (by decide) (by decide)
        have hb0_N14_ : zFr [] [99] Mz N14_ := hs3_.tr hsN14_ (by decide) (by decide)
        refine zr_iinc (pc := 26) (i := 1) (a := u1_) (n := 1) (L2 := [some (.ref 81), some (.int (Int32.ofInt (u1_ + 1)))]) rfl (by decide) rfl (zdal_p dlD_M_laysMarks_99 (i := 16) rfl) ?_
        refine zw_goto (pc := 29) (tgt := 2) (by decide) (zdal_p dlD_M_laysMarks_99 (i := 17) rfl) ?_
        exact ih_2 (u1_ + 1) (by (exact zo_74 i4_)) (by (exact zo_832 gb.2.2.2.2.2 hc_7)) N14_ hb0_N14_ (show 0 ≤ (u1_ + 1) by first | with_reducible assumption | (exact zo_76 i4_) | assumption) (by (exact zo_147 hc_7 hlt_2))
  exact lp_2 _ 0 (by decide) (by decide) Mz zFr.rf (show 0 ≤ (0 : Int) by first | with_reducible assumption | (decide) | assumption) (Nat.lt_succ_self _)
set_option maxHeartbeats 4000000 in
theorem c_M_is (l : Launch) (Mz : zMem) (hW : zMt Mz) (a0_ : Int) (ha0_a : -2147483648 ≤ a0_) (ha0_b : a0_ < 2147483648) (T : zGT) (hO : gOK T) (p0_ : zGB T Mz) : zC l m_M_is 0 0 [.ref 81, .int (Int32.ofInt a0_)] Mz (zpI [] [99] Mz (fun v N => True)) := by
  refine zC_of (L0 := [some (.ref 81), some (.int (Int32.ofInt a0_)), none, none, none, none, none, none]) md_M_is (Nat.le_of_ble_eq_true rfl) rfl ?_ zQ0
  have hf : zFr [] [99] Mz Mz := zFr.rf
  have r_26 := ze_r Mz 81 26
  have hG := hO.1
  have g24 := hG.2.1
  have g1 := hG.1
  have dv0 : zTab T Mz := p0_.1
  have dv1 : zB 85 144 0 5 Mz := p0_.2.1
  have dv2 : zJX T Mz := p0_.2.2.1
  have dv3 : zFirs T Mz := p0_.2.2.2.1
  have dv4 : zSSm T Mz := p0_.2.2.2.2.1
  have dv5 : zGD Mz := zGB.d hO p0_
  have gb := dv5.1
  have gn := dv0.1
  refine zw_iload_n (pc := 0) (n := 1) (x := Int32.ofInt a0_) rfl (zdal_p dlD_M_is_101 (i := 0) rfl) ?_
  refine zr_i2l (pc := 1) ⟨ha0_a, ha0_b⟩ (zdal_p dlD_M_is_101 (i := 1) rfl) ?_
  refine zw_lconst (pc := 2) (v := Int64.ofInt 0) (by decide) (zdal_p dlD_M_is_101 (i := 2) rfl) ?_
  refine zr_ldc2 (pc := 3) (n := 3) (by decide) k_M_479 (zdal_p dlD_M_is_101 (i := 3) rfl) ?_
  refine zr_callS hf.x (pc := 6) [.long (Int64.ofInt a0_), .long (Int64.ofInt 0), .long (Int64.ofInt 3)] [] l_M_131 (c_M_isIn l Mz (hf.w hW) a0_ (by (exact zo_282 ha0_a)) (by (exact zo_283 ha0_b)) 0 (by decide) (by decide) 3 (by decide) (by decide)) rfl rfl (by decide) (Nat.le_of_ble_eq_true rfl) (zdal_p dlD_M_is_101 (i := 4) rfl) ?_
  rintro _ N1_ ⟨v2_, rfl, ⟨hv2_a, hv2_b⟩, hsN1_, hp0_N1_⟩
  obtain rfl := hsN1_.eq.symm
  replace hp0_N1_ : ((v2_ = 1 ∧ 0 ≤ a0_ ∧ a0_ ≤ 3) ∨ (v2_ = 0 ∧ (a0_ < 0 ∨ 3 < a0_))) := hp0_N1_
  rcases hp0_N1_ with ⟨rfl, ha6_0_hp0_N1_, ha6_1_hp0_N1_⟩ | ⟨rfl, ha6_0_hp0_N1_⟩
  · skip
    show zW l m_M_is (zn Mz + 0, zw Mz + 0) Mz 9 [some (.ref 81), some (.int (Int32.ofInt a0_)), none, none, none, none, none, none] [.int (Int32.ofInt 1)] (zpI [] [99] Mz (fun v N => True))
    refine zr_if_ne (pc := 9) (tgt := 14) ⟨(by decide), (by decide)⟩ (by decide) (zdal_p dlD_M_is_101 (i := 5) rfl) (fun hc_9 => ?_) (fun hc_9 => ?_)
    · skip
      refine zw_aload_n (pc := 14) (n := 0) (x := 81) rfl (zdal_p dlD_M_is_101 (i := 8) rfl) ?_
      refine zr_callV (hf.w hW) hf.x (pc := 15) [] [] l_M_472 (c_M_laysMarks l Mz (hf.w hW) T hO p0_) rfl rfl rfl (by decide) (Nat.le_of_ble_eq_true rfl) (zdal_p dlD_M_is_101 (i := 9) rfl) ?_
      rintro _ N3_ ⟨rfl, hsN3_, -⟩
      have hf_N3_ : zFr [] [99] Mz N3_ := hf.tr hsN3_ (by decide) (by decide)
      have e26_N3_ : ze N3_ 81 26 = ze Mz 81 26 := hsN3_.e (by decide)
      show zW l m_M_is (zn Mz + 0, zw Mz + 0) N3_ 18 [some (.ref 81), some (.int (Int32.ofInt a0_)), none, none, none, none, none, none] [] (zpI [] [99] Mz (fun v N => True))
      refine zw_iconst (pc := 18) (v := Int32.ofInt 1) (by decide) (zdal_p dlD_M_is_101 (i := 10) rfl) ?_
      refine zw_istore_n (pc := 19) (i := 2) (L2 := [some (.ref 81), some (.int (Int32.ofInt a0_)), some (.int (Int32.ofInt 1)), none, none, none, none, none]) rfl (by decide) rfl (zdal_p dlD_M_is_101 (i := 11) rfl) ?_
      refine zw_iconst (pc := 20) (v := Int32.ofInt 0) (by decide) (zdal_p dlD_M_is_101 (i := 12) rfl) ?_
      refine zw_istore_n (pc := 21) (i := 3) (L2 := [some (.ref 81), some (.int (Int32.ofInt a0_)), some (.int (Int32.ofInt 1)), some (.int (Int32.ofInt 0)), none, none, none, none]) rfl (by decide) rfl (zdal_p dlD_M_is_101 (i := 13) rfl) ?_
      refine zw_iconst (pc := 22) (v := Int32.ofInt 0) (by decide) (zdal_p dlD_M_is_101 (i := 14) rfl) ?_
      refine zw_istore (pc := 23) (i := 4) (L2 := [some (.ref 81), some (.int (Int32.ofInt a0_)), some (.int (Int32.ofInt 1)), some (.int (Int32.ofInt 0)), some (.int (Int32.ofInt 0)), none, none, none]) (by decide) rfl (zdal_p dlD_M_is_101 (i := 15) rfl) ?_
      have lp_25 : ∀ (n : Nat) (u12_ : Int) (hu12_a : -2147483648 ≤ u12_) (hu12_b : u12_ < 2147483648) (hu12_z : u12_ = 0 ∨ u12_ = 1) (u13_ : Int) (hu13_a : -2147483648 ≤ u13_) (hu13_b : u13_ < 2147483648) (hu13_z : u13_ = 0 ∨ u13_ = 1) (u14_ : Int) (hu14_a : -2147483648 ≤ u14_) (hu14_b : u14_ < 2147483648) (i15_ : 0 ≤ u14_), (ze Mz 81 26 - u14_).toNat < n → zW l m_M_is (zn Mz + 0, zw Mz + 0) N3_ 25 [some (.ref 81), some (.int (Int32.ofInt a0_)), some (.int (Int32.ofInt u12_)), some (.int (Int32.ofInt u13_)), some (.int (Int32.ofInt u14_)), none, none, none] [] (zpI [] [99] Mz (fun v N => True)) := by
        intro n
        induction n with
        | zero =>
          intro u12_ hu12_a hu12_b hu12_z u13_ hu13_a hu13_b hu13_z u14_ hu14_a hu14_b i15_ h0
          exact absurd h0 (Nat.not_lt_zero _)
        | succ n ih_25 =>
          intro u12_ hu12_a hu12_b hu12_z u13_ hu13_a hu13_b hu13_z u14_ hu14_a hu14_b i15_ hlt_25
          refine zw_iload (pc := 25) (i := 4) (x := Int32.ofInt u14_) rfl (zdal_p dlD_M_is_101 (i := 16) rfl) ?_
          refine zw_aload_n (pc := 27) (n := 0) (x := 81) rfl (zdal_p dlD_M_is_101 (i := 17) rfl) ?_
          refine zr_getI0 hf_N3_ hW (pc := 28) (by decide) f_M_235 rfl (zdal_p dlD_M_is_101 (i := 18) rfl) ?_
          refine zr_icmp_ge (pc := 31) (tgt := 173) ⟨hu14_a, hu14_b⟩ ⟨(ze_r Mz 81 26).1, (ze_r Mz 81 26).2⟩ (by decide) (zdal_p dlD_M_is_101 (i := 19) rfl) (fun hc_31 => ?_) (fun hc_31 => ?_)
          · skip
            refine zw_iload_n (pc := 173) (n := 1) (x := Int32.ofInt a0_) rfl (zdal_p dlD_M_is_104 (i := 22) rfl) ?_
            refine zw_iconst (pc := 174) (v := Int32.ofInt 3) (by decide) (zdal_p dlD_M_is_104 (i := 23) rfl) ?_
            refine zr_icmp_ne (pc := 175) (tgt := 182) ⟨ha0_a, ha0_b⟩ ⟨(by decide), (by decide)⟩ (by decide) (zdal_p dlD_M_is_105 (i := 0) rfl) (fun hc_175 => ?_) (fun hc_175 => ?_)
            · skip
              refine zw_iload_n (pc := 182) (n := 2) (x := Int32.ofInt u12_) rfl (zdal_p dlD_M_is_105 (i := 3) rfl) ?_
              refine zr_callS hf_N3_.x (pc := 183) [.int (Int32.ofInt u12_)] [] l_M_256 (c_M_truth l N3_ (hf_N3_.w hW) u12_ hu12_a hu12_b (by (exact hu12_z))) rfl rfl (by decide) (Nat.le_of_ble_eq_true rfl) (zdal_p dlD_M_is_105 (i := 4) rfl) ?_
              rintro _ N16_ ⟨v17_, rfl, ⟨hv17_a, hv17_b⟩, hsN16_, hp0_N16_⟩
              obtain rfl := hsN16_.eq.symm
              replace hp0_N16_ : v17_ = u12_ := hp0_N16_
              show zW l m_M_is (zn Mz + 0, zw Mz + 0) N3_ 186 [some (.ref 81), some (.int (Int32.ofInt a0_)), some (.int (Int32.ofInt u12_)), some (.int (Int32.ofInt u13_)), some (.int (Int32.ofInt u14_)), none, none, none] [.int (Int32.ofInt v17_)] (zpI [] [99] Mz (fun v N => True))
              exact zr_iret (pc := 186) (ty := .int) rfl rfl ⟨by (exact hv17_a), by (exact hv17_b)⟩ hf_N3_ trivial (zdal_p dlD_M_is_105 (i := 5) rfl)
            · skip
              refine zw_iload_n (pc := 178) (n := 3) (x := Int32.ofInt u13_) rfl (zdal_p dlD_M_is_105 (i := 1) rfl) ?_
              refine zw_goto (pc := 179) (tgt := 183) (by decide) (zdal_p dlD_M_is_105 (i := 2) rfl) ?_
              refine zr_callS hf_N3_.x (pc := 183) [.int (Int32.ofInt u13_)] [] l_M_256 (c_M_truth l N3_ (hf_N3_.w hW) u13_ hu13_a hu13_b (by (exact hu13_z))) rfl rfl (by decide) (Nat.le_of_ble_eq_true rfl) (zdal_p dlD_M_is_105 (i := 4) rfl) ?_
              rintro _ N18_ ⟨v19_, rfl, ⟨hv19_a, hv19_b⟩, hsN18_, hp0_N18_⟩
              obtain rfl := hsN18_.eq.symm
              replace hp0_N18_ : v19_ = u13_ := hp0_N18_
              show zW l m_M_is (zn Mz + 0, zw Mz + 0) N3_ 186 [some (.ref 81), some (.int (Int32.ofInt a0_)), some (.int (Int32.ofInt u12_)), some (.int (Int32.ofInt u13_)), some (.int (Int32.ofInt u14_)), none, none, none] [.int (Int32.ofInt v19_)] (zpI [] [99] Mz (fun v N => True))
              exact zr_iret (pc := 186) (ty := .int) rfl rfl ⟨by (exact hv19_a), by (exact hv19_b)⟩ hf_N3_ trivial (zdal_p dlD_M_is_105 (i := 5) rfl)
          · skip
            refine zw_aload_n (pc := 34) (n := 0) (x := 81) rfl (zdal_p dlD_M_is_101 (i := 20) rfl) ?_
            refine zr_getF (r := 99) (hf_N3_.w hW) (pc := 35) f_M_69 rfl (zh_99 (hf_N3_.w hW)).1 (zdal_p dlD_M_is_101 (i := 21) rfl) ?_
            refine zw_iload (pc := 38) (i := 4) (x := Int32.ofInt u14_) rfl (zdal_p dlD_M_is_101 (i := 22) rfl) ?_
            refine zr_laldn (pc := 40) (zh_99 (hf_N3_.w hW)).2 (by decide) (by (exact i15_)) (by (exact zo_831 gb.2.2.2.2.2 hc_31)) (zdal_p dlD_M_is_101 (i := 23) rfl) (fun v20_ hv20_ hv20_a hv20_b => ?_)
            refine zw_lstore (pc := 41) (i := 5) (L2 := [some (.ref 81), some (.int (Int32.ofInt a0_)), some (.int (Int32.ofInt u12_)), some (.int (Int32.ofInt u13_)), some (.int (Int32.ofInt u14_)), some (.long (Int64.ofInt v20_)), none, none]) (by decide) rfl (zdal_p dlD_M_is_102 (i := 0) rfl) ?_
            refine zw_iload_n (pc := 43) (n := 1) (x := Int32.ofInt a0_) rfl (zdal_p dlD_M_is_102 (i := 1) rfl) ?_
            have j_135 : ∀ (u21_ : Int) (hu21_a : -2147483648 ≤ u21_) (hu21_b : u21_ < 2147483648) (hu21_z : u21_ = 0 ∨ u21_ = 1), zW l m_M_is (zn Mz + 0, zw Mz + 0) N3_ 135 [some (.ref 81), some (.int (Int32.ofInt a0_)), some (.int (Int32.ofInt u12_)), some (.int (Int32.ofInt u13_)), some (.int (Int32.ofInt u14_)), some (.long (Int64.ofInt v20_)), none, none] [.int (Int32.ofInt u21_)] (zpI [] [99] Mz (fun v N => True)) := by
              intro u21_ hu21_a hu21_b hu21_z
              refine zw_istore (pc := 135) (i := 7) (L2 := [some (.ref 81), some (.int (Int32.ofInt a0_)), some (.int (Int32.ofInt u12_)), some (.int (Int32.ofInt u13_)), some (.int (Int32.ofInt u14_)), some (.long (Int64.ofInt v20_)), none, some (.int (Int32.ofInt u21_))]) (by decide) rfl (zdal_p dlD_M_is_104 (i := 3) rfl) ?_
              refine zw_iload_n (pc := 137) (n := 2) (x := Int32.ofInt u12_) rfl (zdal_p dlD_M_is_104 (i := 4) rfl) ?_
              have j_151 : ∀ (u22_ : Int) (hu22_a : -2147483648 ≤ u22_) (hu22_b : u22_ < 2147483648) (hu22_z : u22_ = 0 ∨ u22_ = 1), zW l m_M_is (zn Mz + 0, zw Mz + 0) N3_ 151 [some (.ref 81), some (.int (Int32.ofInt a0_)), some (.int (Int32.ofInt u12_)), some (.int (Int32.ofInt u13_)), some (.int (Int32.ofInt u14_)), some (.long (Int64.ofInt v20_)), none, some (.int (Int32.ofInt u21_))] [.int (Int32.ofInt u22_)] (zpI [] [99] Mz (fun v N => True)) := by
                intro u22_ hu22_a hu22_b hu22_z
                refine zw_istore_n (pc := 151) (i := 2) (L2 := [some (.ref 81), some (.int (Int32.ofInt a0_)), some (.int (Int32.ofInt u22_)), some (.int (Int32.ofInt u13_)), some (.int (Int32.ofInt u14_)), some (.long (Int64.ofInt v20_)), none, some (.int (Int32.ofInt u21_))]) rfl (by decide) rfl (zdal_p dlD_M_is_104 (i := 11) rfl) ?_
                refine zw_iload_n (pc := 152) (n := 3) (x := Int32.ofInt u13_) rfl (zdal_p dlD_M_is_104 (i := 12) rfl) ?_
                have j_166 : ∀ (u23_ : Int) (hu23_a : -2147483648 ≤ u23_) (hu23_b : u23_ < 2147483648) (hu23_z : u23_ = 0 ∨ u23_ = 1), zW l m_M_is (zn Mz + 0, zw Mz + 0) N3_ 166 [some (.ref 81), some (.int (Int32.ofInt a0_)), some (.int (Int32.ofInt u22_)), some (.int (Int32.ofInt u13_)), some (.int (Int32.ofInt u14_)), some (.long (Int64.ofInt v20_)), none, some (.int (Int32.ofInt u21_))] [.int (Int32.ofInt u23_)] (zpI [] [99] Mz (fun v N => True)) := by
                  intro u23_ hu23_a hu23_b hu23_z
                  refine zw_istore_n (pc := 166) (i := 3) (L2 := [some (.ref 81), some (.int (Int32.ofInt a0_)), some (.int (Int32.ofInt u22_)), some (.int (Int32.ofInt u23_)), some (.int (Int32.ofInt u14_)), some (.long (Int64.ofInt v20_)), none, some (.int (Int32.ofInt u21_))]) rfl (by decide) rfl (zdal_p dlD_M_is_104 (i := 19) rfl) ?_
                  refine zr_iinc (pc := 167) (i := 4) (a := u14_) (n := 1) (L2 := [some (.ref 81), some (.int (Int32.ofInt a0_)), some (.int (Int32.ofInt u22_)), some (.int (Int32.ofInt u23_)), some (.int (Int32.ofInt (u14_ + 1))), some (.long (Int64.ofInt v20_)), none, some (.int (Int32.ofInt u21_))]) rfl (by decide) rfl (zdal_p dlD_M_is_104 (i := 20) rfl) ?_
                  refine zw_goto (pc := 170) (tgt := 25) (by decide) (zdal_p dlD_M_is_104 (i := 21) rfl) ?_
                  refine zW_le [some (.ref 81), some (.int (Int32.ofInt a0_)), some (.int (Int32.ofInt u22_)), some (.int (Int32.ofInt u23_)), some (.int (Int32.ofInt (u14_ + 1))), none, none, none] (⟨rfl, rfl, rfl, rfl, rfl, trivial⟩) ?_
                  exact ih_25 u22_ hu22_a hu22_b (by (exact hu22_z)) u23_ hu23_a hu23_b (by (exact hu23_z)) (u14_ + 1) (by (exact zo_74 i15_)) (by (exact zo_832 gb.2.2.2.2.2 hc_31)) (show 0 ≤ (u14_ + 1) by first | with_reducible assumption | (exact zo_76 i15_) | assumption) (by (exact zo_147 hc_31 hlt_25))
                refine zr_if_ne (pc := 153) (tgt := 161) ⟨hu13_a, hu13_b⟩ (by decide) (zdal_p dlD_M_is_104 (i := 13) rfl) (fun hc_153 => ?_) (fun hc_153 => ?_)
                · skip
                  refine zw_iconst (pc := 161) (v := Int32.ofInt 1) (by decide) (zdal_p dlD_M_is_104 (i := 16) rfl) ?_
                  refine zw_goto (pc := 162) (tgt := 166) (by decide) (zdal_p dlD_M_is_104 (i := 17) rfl) ?_
                  exact j_166 1 (by decide) (by decide) (by (decide))
                · skip
                  refine zw_iload (pc := 156) (i := 7) (x := Int32.ofInt u21_) rfl (zdal_p dlD_M_is_104 (i := 14) rfl) ?_
                  refine zr_if_eq (pc := 158) (tgt := 165) ⟨hu21_a, hu21_b⟩ (by decide) (zdal_p dlD_M_is_104 (i := 15) rfl) (fun hc_158 => ?_) (fun hc_158 => ?_)
                  · skip
                    refine zw_iconst (pc := 165) (v := Int32.ofInt 0) (by decide) (zdal_p dlD_M_is_104 (i := 18) rfl) ?_
                    exact j_166 0 (by decide) (by decide) (by (decide))
                  · skip
                    refine zw_iconst (pc := 161) (v := Int32.ofInt 1) (by decide) (zdal_p dlD_M_is_104 (i := 16) rfl) ?_
                    refine zw_goto (pc := 162) (tgt := 166) (by decide) (zdal_p dlD_M_is_104 (i := 17) rfl) ?_
                    exact j_166 1 (by decide) (by decide) (by (decide))
              refine zr_if_eq (pc := 138) (tgt := 150) ⟨hu12_a, hu12_b⟩ (by decide) (zdal_p dlD_M_is_104 (i := 5) rfl) (fun hc_138 => ?_) (fun hc_138 => ?_)
              · skip
                refine zw_iconst (pc := 150) (v := Int32.ofInt 0) (by decide) (zdal_p dlD_M_is_104 (i := 10) rfl) ?_
                exact j_151 0 (by decide) (by decide) (by (decide))
              · skip
                refine zw_iload (pc := 141) (i := 7) (x := Int32.ofInt u21_) rfl (zdal_p dlD_M_is_104 (i := 6) rfl) ?_
                refine zr_if_eq (pc := 143) (tgt := 150) ⟨hu21_a, hu21_b⟩ (by decide) (zdal_p dlD_M_is_104 (i := 7) rfl) (fun hc_143 => ?_) (fun hc_143 => ?_)
                · skip
                  refine zw_iconst (pc := 150) (v := Int32.ofInt 0) (by decide) (zdal_p dlD_M_is_104 (i := 10) rfl) ?_
                  exact j_151 0 (by decide) (by decide) (by (decide))
                · skip
                  refine zw_iconst (pc := 146) (v := Int32.ofInt 1) (by decide) (zdal_p dlD_M_is_104 (i := 8) rfl) ?_
                  refine zw_goto (pc := 147) (tgt := 151) (by decide) (zdal_p dlD_M_is_104 (i := 9) rfl) ?_
                  exact j_151 1 (by decide) (by decide) (by (decide))
            refine zr_if_ne (pc := 44) (tgt := 67) ⟨ha0_a, ha0_b⟩ (by decide) (zdal_p dlD_M_is_102 (i := 2) rfl) (fun hc_44 => ?_) (fun hc_44 => ?_)
            · skip
              refine zw_iload_n (pc := 67) (n := 1) (x := Int32.ofInt a0_) rfl (zdal_p dlD_M_is_102 (i := 14) rfl) ?_
              refine zw_iconst (pc := 68) (v := Int32.ofInt 1) (by decide) (zdal_p dlD_M_is_102 (i := 15) rfl) ?_
              refine zr_icmp_ne (pc := 69) (tgt := 94) ⟨ha0_a, ha0_b⟩ ⟨(by decide), (by decide)⟩ (by decide) (zdal_p dlD_M_is_102 (i := 16) rfl) (fun hc_69 => ?_) (fun hc_69 => ?_)
              · skip
                refine zw_iload_n (pc := 94) (n := 1) (x := Int32.ofInt a0_) rfl (zdal_p dlD_M_is_103 (i := 5) rfl) ?_
                refine zw_iconst (pc := 95) (v := Int32.ofInt 2) (by decide) (zdal_p dlD_M_is_103 (i := 6) rfl) ?_
                refine zr_icmp_ne (pc := 96) (tgt := 123) ⟨ha0_a, ha0_b⟩ ⟨(by decide), (by decide)⟩ (by decide) (zdal_p dlD_M_is_103 (i := 7) rfl) (fun hc_96 => ?_) (fun hc_96 => ?_)
                · skip
                  refine zw_lload (pc := 123) (i := 5) (x := Int64.ofInt v20_) rfl (zdal_p dlD_M_is_103 (i := 20) rfl) ?_
                  refine zw_lconst (pc := 125) (v := Int64.ofInt 0) (by decide) (zdal_p dlD_M_is_103 (i := 21) rfl) ?_
                  refine zr_lcmp (pc := 126) ⟨hv20_a, hv20_b⟩ ⟨(by decide), (by decide)⟩ (zdal_p dlD_M_is_103 (i := 22) rfl) ?_
                  have hr24_ := zcmp_s v20_ 0
                  refine zr_if_ne (pc := 127) (tgt := 134) ⟨(by (exact zo_71 hr24_)), (by (exact zo_72 hr24_))⟩ (by decide) (zdal_p dlD_M_is_103 (i := 23) rfl) (fun hc_127 => ?_) (fun hc_127 => ?_)
                  · skip
                    refine zw_iconst (pc := 134) (v := Int32.ofInt 0) (by decide) (zdal_p dlD_M_is_104 (i := 2) rfl) ?_
                    exact j_135 0 (by decide) (by decide) (by (decide))
                  · skip
                    refine zw_iconst (pc := 130) (v := Int32.ofInt 1) (by decide) (zdal_p dlD_M_is_104 (i := 0) rfl) ?_
                    refine zw_goto (pc := 131) (tgt := 135) (by decide) (zdal_p dlD_M_is_104 (i := 1) rfl) ?_
                    exact j_135 1 (by decide) (by decide) (by (decide))
                · skip
                  refine zw_lload (pc := 99) (i := 5) (x := Int64.ofInt v20_) rfl (zdal_p dlD_M_is_103 (i := 8) rfl) ?_
                  refine zw_lconst (pc := 101) (v := Int64.ofInt 1) (by decide) (zdal_p dlD_M_is_103 (i := 9) rfl) ?_
                  refine zr_lcmp (pc := 102) ⟨hv20_a, hv20_b⟩ ⟨(by decide), (by decide)⟩ (zdal_p dlD_M_is_103 (i := 10) rfl) ?_
                  have hr25_ := zcmp_s v20_ 1
                  refine zr_if_eq (pc := 103) (tgt := 115) ⟨(by (exact zo_2479 hr25_)), (by (exact zo_2480 hr25_))⟩ (by decide) (zdal_p dlD_M_is_103 (i := 11) rfl) (fun hc_103 => ?_) (fun hc_103 => ?_)
                  · skip
                    refine zw_iconst (pc := 115) (v := Int32.ofInt 1) (by decide) (zdal_p dlD_M_is_103 (i := 16) rfl) ?_
                    refine zw_goto (pc := 116) (tgt := 135) (by decide) (zdal_p dlD_M_is_103 (i := 17) rfl) ?_
                    exact j_135 1 (by decide) (by decide) (by (decide))
                  · skip
                    refine zw_lload (pc := 106) (i := 5) (x := Int64.ofInt v20_) rfl (zdal_p dlD_M_is_103 (i := 12) rfl) ?_
                    refine zr_ldc2 (pc := 108) (n := (-1)) (by decide) k_M_468 (zdal_p dlD_M_is_103 (i := 13) rfl) ?_
                    refine zr_lcmp (pc := 111) ⟨hv20_a, hv20_b⟩ ⟨(by decide), (by decide)⟩ (zdal_p dlD_M_is_103 (i := 14) rfl) ?_
                    have hr26_ := zcmp_s v20_ ((-1))
                    refine zr_if_ne (pc := 112) (tgt := 119) ⟨(by omega), (by omega)⟩ (by decide) (zdal_p dlD_M_is_103 (i := 15) rfl) (fun hc_112 => ?_) (fun hc_112 => ?_)
                    · skip
                      refine zw_iconst (pc := 119) (v := Int32.ofInt 0) (by decide) (zdal_p dlD_M_is_103 (i := 18) rfl) ?_
                      refine zw_goto (pc := 120) (tgt := 135) (by decide) (zdal_p dlD_M_is_103 (i := 19) rfl) ?_
                      exact j_135 0 (by decide) (by decide) (by (decide))
                    · skip
                      refine zw_iconst (pc := 115) (v := Int32.ofInt 1) (by decide) (zdal_p dlD_M_is_103 (i := 16) rfl) ?_
                      refine zw_goto (pc := 116) (tgt := 135) (by decide) (zdal_p dlD_M_is_103 (i := 17) rfl) ?_
                      exact j_135 1 (by decide) (by decide) (by (decide))
              · skip
                refine zw_lload (pc := 72) (i := 5) (x := Int64.ofInt v20_) rfl (zdal_p dlD_M_is_102 (i := 17) rfl) ?_
                refine zw_lconst (pc := 74) (v := Int64.ofInt 0) (by decide) (zdal_p dlD_M_is_102 (i := 18) rfl) ?_
                refine zr_lcmp (pc := 75) ⟨hv20_a, hv20_b⟩ ⟨(by decide), (by decide)⟩ (zdal_p dlD_M_is_102 (i := 19) rfl) ?_
                have hr27_ := zcmp_s v20_ 0
                refine zr_if_eq (pc := 76) (tgt := 86) ⟨(by (exact zo_71 hr27_)), (by (exact zo_72 hr27_))⟩ (by decide) (zdal_p dlD_M_is_102 (i := 20) rfl) (fun hc_76 => ?_) (fun hc_76 => ?_)
                · skip
                  refine zw_iconst (pc := 86) (v := Int32.ofInt 1) (by decide) (zdal_p dlD_M_is_103 (i := 1) rfl) ?_
                  refine zw_goto (pc := 87) (tgt := 135) (by decide) (zdal_p dlD_M_is_103 (i := 2) rfl) ?_
                  exact j_135 1 (by decide) (by decide) (by (decide))
                · skip
                  refine zw_lload (pc := 79) (i := 5) (x := Int64.ofInt v20_) rfl (zdal_p dlD_M_is_102 (i := 21) rfl) ?_
                  refine zw_lconst (pc := 81) (v := Int64.ofInt 1) (by decide) (zdal_p dlD_M_is_102 (i := 22) rfl) ?_
                  refine zr_lcmp (pc := 82) ⟨hv20_a, hv20_b⟩ ⟨(by decide), (by decide)⟩ (zdal_p dlD_M_is_102 (i := 23) rfl) ?_
                  have hr28_ := zcmp_s v20_ 1
                  refine zr_if_ne (pc := 83) (tgt := 90) ⟨(by (exact zo_2479 hr28_)), (by (exact zo_2480 hr28_))⟩ (by decide) (zdal_p dlD_M_is_103 (i := 0) rfl) (fun hc_83 => ?_) (fun hc_83 => ?_)
                  · skip
                    refine zw_iconst (pc := 90) (v := Int32.ofInt 0) (by decide) (zdal_p dlD_M_is_103 (i := 3) rfl) ?_
                    refine zw_goto (pc := 91) (tgt := 135) (by decide) (zdal_p dlD_M_is_103 (i := 4) rfl) ?_
                    exact j_135 0 (by decide) (by decide) (by (decide))
                  · skip
                    refine zw_iconst (pc := 86) (v := Int32.ofInt 1) (by decide) (zdal_p dlD_M_is_103 (i := 1) rfl) ?_
                    refine zw_goto (pc := 87) (tgt := 135) (by decide) (zdal_p dlD_M_is_103 (i := 2) rfl) ?_
                    exact j_135 1 (by decide) (by decide) (by (decide))
            · skip
              refine zw_aload_n (pc := 47) (n := 0) (x := 81) rfl (zdal_p dlD_M_is_102 (i := 3) rfl) ?_
              refine zr_getF (r := 98) (hf_N3_.w hW) (pc := 48) f_M_66 rfl (zh_98 (hf_N3_.w hW)).1 (zdal_p dlD_M_is_102 (i := 4) rfl) ?_
              refine zw_iload (pc := 51) (i := 4) (x := Int32.ofInt u14_) rfl (zdal_p dlD_M_is_102 (i := 5) rfl) ?_
              refine zr_laldn (pc := 53) (zh_98 (hf_N3_.w hW)).2 (by decide) (by (exact i15_)) (by (exact zo_831 gb.2.2.2.2.2 hc_31)) (zdal_p dlD_M_is_102 (i := 6) rfl) (fun v29_ hv29_ hv29_a hv29_b => ?_)
              rw [hf_N3_.jg (by decide) (by decide)] at hv29_
              refine zw_lconst (pc := 54) (v := Int64.ofInt 0) (by decide) (zdal_p dlD_M_is_102 (i := 7) rfl) ?_
              refine zr_lcmp (pc := 55) ⟨hv29_a, hv29_b⟩ ⟨(by decide), (by decide)⟩ (zdal_p dlD_M_is_102 (i := 8) rfl) ?_
              have hr30_ := zcmp_s v29_ 0
              refine zr_if_lt (pc := 56) (tgt := 63) ⟨(by (exact zo_71 hr30_)), (by (exact zo_72 hr30_))⟩ (by decide) (zdal_p dlD_M_is_102 (i := 9) rfl) (fun hc_56 => ?_) (fun hc_56 => ?_)
              · skip
                refine zw_iconst (pc := 63) (v := Int32.ofInt 0) (by decide) (zdal_p dlD_M_is_102 (i := 12) rfl) ?_
                refine zw_goto (pc := 64) (tgt := 135) (by decide) (zdal_p dlD_M_is_102 (i := 13) rfl) ?_
                exact j_135 0 (by decide) (by decide) (by (decide))
              · skip
                refine zw_iconst (pc := 59) (v := Int32.ofInt 1) (by decide) (zdal_p dlD_M_is_102 (i := 10) rfl) ?_
                refine zw_goto (pc := 60) (tgt := 135) (by decide) (zdal_p dlD_M_is_102 (i := 11) rfl) ?_
                exact j_135 1 (by decide) (by decide) (by (decide))
      exact lp_25 _ 1 (by decide) (by decide) (by (decide)) 0 (by decide) (by decide) (by (decide)) 0 (by decide) (by decide) (show 0 ≤ (0 : Int) by first | with_reducible assumption | (decide) | assumption) (Nat.lt_succ_self _)
    · skip
      exact absurd hc_9 (by decide)
  · skip
    show zW l m_M_is (zn Mz + 0, zw Mz + 0) Mz 9 [some (.ref 81), some (.int (Int32.ofInt a0_)), none, none, none, none, none, none] [.int (Int32.ofInt 0)] (zpI [] [99] Mz (fun v N => True))
    refine zr_if_ne (pc := 9) (tgt := 14) ⟨(by decide), (by decide)⟩ (by decide) (zdal_p dlD_M_is_101 (i := 5) rfl) (fun hc_9 => ?_) (fun hc_9 => ?_)
    · skip
      exact absurd hc_9 (by decide)
    · skip
      refine zw_iconst (pc := 12) (v := Int32.ofInt (-1)) (by decide) (zdal_p dlD_M_is_101 (i := 6) rfl) ?_
      exact zr_iret (pc := 13) (ty := .int) rfl rfl ⟨by (decide), by (decide)⟩ hf trivial (zdal_p dlD_M_is_101 (i := 7) rfl)
set_option maxHeartbeats 4000000 in
theorem c_M_fault (l : Launch) (Mz : zMem) (hW : zMt Mz) (a0_ : Int) (ha0_a : -2147483648 ≤ a0_) (ha0_b : a0_ < 2147483648) : zC l m_M_fault 0 0 [.ref 81, .int (Int32.ofInt a0_)] Mz (zpI [] [] Mz (fun v N => True)) := by
  refine zC_of (L0 := [some (.ref 81), some (.int (Int32.ofInt a0_))]) md_M_fault (Nat.le_of_ble_eq_true rfl) rfl ?_ zQ0
  have hf : zFr [] [] Mz Mz := zFr.rf
  have r_9 := ze_r Mz 81 9
  have r_10 := ze_r Mz 81 10
  refine zw_iload_n (pc := 0) (n := 1) (x := Int32.ofInt a0_) rfl (zdal_p dlC_M_fault_145 (i := 0) rfl) ?_
  refine zr_if_ne (pc := 1) (tgt := 11) ⟨ha0_a, ha0_b⟩ (by decide) (zdal_p dlC_M_fault_145 (i := 1) rfl) (fun hc_1 => ?_) (fun hc_1 => ?_)
  · skip
    refine zw_iload_n (pc := 11) (n := 1) (x := Int32.ofInt a0_) rfl (zdal_p dlC_M_fault_145 (i := 5) rfl) ?_
    refine zw_iconst (pc := 12) (v := Int32.ofInt 1) (by decide) (zdal_p dlC_M_fault_145 (i := 6) rfl) ?_
    refine zr_icmp_ne (pc := 13) (tgt := 23) ⟨ha0_a, ha0_b⟩ ⟨(by decide), (by decide)⟩ (by decide) (zdal_p dlC_M_fault_145 (i := 7) rfl) (fun hc_13 => ?_) (fun hc_13 => ?_)
    · skip
      refine zw_iconst (pc := 23) (v := Int32.ofInt (-1)) (by decide) (zdal_p dlC_M_fault_145 (i := 11) rfl) ?_
      exact zr_iret (pc := 24) (ty := .int) rfl rfl ⟨by (decide), by (decide)⟩ hf trivial (zdal_p dlC_M_fault_145 (i := 12) rfl)
    · skip
      refine zw_aload_n (pc := 16) (n := 0) (x := 81) rfl (zdal_p dlC_M_fault_145 (i := 8) rfl) ?_
      refine zr_getI0 hf hW (pc := 17) (by decide) f_M_17 rfl (zdal_p dlC_M_fault_145 (i := 9) rfl) ?_
      refine zw_goto (pc := 20) (tgt := 24) (by decide) (zdal_p dlC_M_fault_145 (i := 10) rfl) ?_
      exact zr_iret (pc := 24) (ty := .int) rfl rfl ⟨by (exact zo_284 r_10.1), by (exact zo_285 r_10.2)⟩ hf trivial (zdal_p dlC_M_fault_145 (i := 12) rfl)
  · skip
    refine zw_aload_n (pc := 4) (n := 0) (x := 81) rfl (zdal_p dlC_M_fault_145 (i := 2) rfl) ?_
    refine zr_getI0 hf hW (pc := 5) (by decide) f_M_379 rfl (zdal_p dlC_M_fault_145 (i := 3) rfl) ?_
    refine zw_goto (pc := 8) (tgt := 24) (by decide) (zdal_p dlC_M_fault_145 (i := 4) rfl) ?_
    exact zr_iret (pc := 24) (ty := .int) rfl rfl ⟨by (exact zo_284 r_9.1), by (exact zo_285 r_9.2)⟩ hf trivial (zdal_p dlC_M_fault_145 (i := 12) rfl)
set_option maxHeartbeats 4000000 in
theorem c_M_tells (l : Launch) (Mz : zMem) (hW : zMt Mz) : zC l m_M_tells 0 0 [.ref 81] Mz (zpV [9, 10] [] Mz (fun N => True)) := by
  refine zC_of (L0 := [some (.ref 81)]) md_M_tells (Nat.le_of_ble_eq_true rfl) rfl ?_ zQ0
  have hf : zFr [9, 10] [] Mz Mz := zFr.rf
  have r_7 := ze_r Mz 81 7
  have r_8 := ze_r Mz 81 8
  have r_9 := ze_r Mz 81 9
  have r_10 := ze_r Mz 81 10
  refine zw_aload_n (pc := 0) (n := 0) (x := 81) rfl (zdal_p dlC_M_tells_141 (i := 0) rfl) ?_
  refine zw_aload_n (pc := 1) (n := 0) (x := 81) rfl (zdal_p dlC_M_tells_141 (i := 1) rfl) ?_
  refine zr_getI0 hf hW (pc := 2) (by decide) f_M_172 rfl (zdal_p dlC_M_tells_141 (i := 2) rfl) ?_
  refine zr_putI (hf.w hW) (pc := 5) f_M_379 rfl rfl ⟨by (exact zo_284 r_7.1), by (exact zo_285 r_7.2)⟩ rfl rfl (zdal_p dlC_M_tells_141 (i := 3) rfl) (fun N1_ hsN1_ hvN1_ => ?_)
  have hf_N1_ : zFr [9, 10] [] Mz N1_ := hf.tr hsN1_ (by decide) (by decide)
  refine zw_aload_n (pc := 8) (n := 0) (x := 81) rfl (zdal_p dlC_M_tells_141 (i := 4) rfl) ?_
  refine zw_aload_n (pc := 9) (n := 0) (x := 81) rfl (zdal_p dlC_M_tells_141 (i := 5) rfl) ?_
  refine zr_getI0 hf_N1_ hW (pc := 10) (by decide) f_M_13 rfl (zdal_p dlC_M_tells_141 (i := 6) rfl) ?_
  refine zr_putI (hf_N1_.w hW) (pc := 13) f_M_17 rfl rfl ⟨by (exact zo_284 r_8.1), by (exact zo_285 r_8.2)⟩ rfl rfl (zdal_p dlC_M_tells_141 (i := 7) rfl) (fun N2_ hsN2_ hvN2_ => ?_)
  have hf_N2_ : zFr [9, 10] [] Mz N2_ := hf_N1_.tr hsN2_ (by decide) (by decide)
  exact zr_vret (pc := 16) rfl hf_N2_ trivial (zdal_p dlC_M_tells_141 (i := 8) rfl)
theorem z6b {x y : Int} (x0 : 0 ≤ x) (x1 : x < 64) (y0 : 0 ≤ y) (y1 : y < 64) : 0 ≤ zor x y ∧ zor x y < 64 := by
  obtain ⟨m, rfl⟩ := Int.eq_ofNat_of_zero_le x0
  obtain ⟨n, rfl⟩ := Int.eq_ofNat_of_zero_le y0
  rw [zor_n m n (by omega) (by omega)]
  have := Nat.or_lt_two_pow (n := 6) (x := m) (y := n) (by omega) (by omega)
  omega
