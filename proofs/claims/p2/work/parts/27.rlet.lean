/-! 27 -/
set_option maxHeartbeats 40000000 in
theorem c_M_letLine (l : Launch) (Mz : zMem) (hW : zMt Mz) (p0_ : zGD Mz) (p1_ : 0 ≤ ze Mz 81 3) (p2_ : ze Mz 81 3 ≤ ze Mz 81 2) (p3_ : ze Mz 81 2 ≤ 700) (p4_ : zTv Mz) (p5_ : ze Mz 81 7 = 0) (p6_ : ze Mz 81 5 = 1) (p7_ : 0 ≤ ze Mz 81 14) (p8_ : ze Mz 81 14 ≤ 8) : zC l m_M_letLine 0 0 [.ref 81] Mz (zpV [3, 4, 5, 6, 7, 8, 11, 14, 38, 39, 41, 42, 43] [95, 96, 97, 100, 101, 102] Mz (fun N => 0 ≤ ze N 81 3 ∧ ze N 81 3 ≤ ze N 81 2 ∧ zTv N ∧ 0 ≤ ze N 81 14 ∧ ze N 81 14 ≤ 8 ∧ (((1 ≤ ze N 81 7 ∧ zmu N = 0) ∨ (ze N 81 7 = 0 ∧ zmu N < zmu Mz))))) := by
  refine zC_of (L0 := [some (.ref 81), none, none, none, none]) md_M_letLine (Nat.le_of_ble_eq_true rfl) rfl ?_ zQ0
  have hf : zFr [3, 4, 5, 6, 7, 8, 11, 14, 38, 39, 41, 42, 43] [95, 96, 97, 100, 101, 102] Mz Mz := zFr.rf
  have r_2 := ze_r Mz 81 2
  have r_3 := ze_r Mz 81 3
  have r_4 := ze_r Mz 81 4
  have r_5 := ze_r Mz 81 5
  have r_7 := ze_r Mz 81 7
  have r_14 := ze_r Mz 81 14
  have r_26 := ze_r Mz 81 26
  have r_39 := ze_r Mz 81 39
  have gb := p0_.1
  refine zw_aload_n (pc := 0) (n := 0) (x := 81) rfl d_M_letLine_0 ?_
  refine zr_getI (hf.w hW) (pc := 1) f_M_145 rfl d_M_letLine_1 ?_
  refine zw_istore_n (pc := 4) (i := 1) (L2 := [some (.ref 81), some (.int (Int32.ofInt (ze Mz 81 4))), none, none, none]) rfl (by decide) rfl d_M_letLine_4 ?_
  have j_69 : ∀ (N1_ : zMem) (hs2_ : zFr [3, 4, 5, 6, 7, 8, 11] [] Mz N1_) (i3_ : 0 ≤ ze N1_ 81 3) (i4_ : ze N1_ 81 3 ≤ ze N1_ 81 2) (i5_ : zTv N1_) (i6_ : (1 ≤ ze N1_ 81 7 ∧ zmu N1_ = 0) ∨ (ze N1_ 81 7 = 0 ∧ ze N1_ 81 5 = 1 ∧ zmu N1_ < zmu Mz)), zW l m_M_letLine (zn Mz + 0, zw Mz + 0) N1_ 69 [some (.ref 81), some (.int (Int32.ofInt (ze Mz 81 4))), none, none, none] [] (zpV [3, 4, 5, 6, 7, 8, 11, 14, 38, 39, 41, 42, 43] [95, 96, 97, 100, 101, 102] Mz (fun N => 0 ≤ ze N 81 3 ∧ ze N 81 3 ≤ ze N 81 2 ∧ zTv N ∧ 0 ≤ ze N 81 14 ∧ ze N 81 14 ≤ 8 ∧ (((1 ≤ ze N 81 7 ∧ zmu N = 0) ∨ (ze N 81 7 = 0 ∧ zmu N < zmu Mz))))) := by
    intro N1_ hs2_ i3_ i4_ i5_ i6_
    have hf_N1_ : zFr [3, 4, 5, 6, 7, 8, 11, 14, 38, 39, 41, 42, 43] [95, 96, 97, 100, 101, 102] Mz N1_ := hf.tr hs2_ (by decide) (by decide)
    have e2_N1_ : ze N1_ 81 2 = ze Mz 81 2 := hs2_.e (by decide)
    have r3_N1_ := ze_r N1_ 81 3
    have r4_N1_ := ze_r N1_ 81 4
    have r5_N1_ := ze_r N1_ 81 5
    have r7_N1_ := ze_r N1_ 81 7
    have e14_N1_ : ze N1_ 81 14 = ze Mz 81 14 := hs2_.e (by decide)
    have e26_N1_ : ze N1_ 81 26 = ze Mz 81 26 := hs2_.e (by decide)
    have e39_N1_ : ze N1_ 81 39 = ze Mz 81 39 := hs2_.e (by decide)
    have c7_ : zGD N1_ := zGD.fr hs2_ p0_ (by decide) (by decide)
    have zz2_N1_ : ze N1_ 81 2 = ze Mz 81 2 := hf_N1_.e (by decide)
    have zz26_N1_ : ze N1_ 81 26 = ze Mz 81 26 := hf_N1_.e (by decide)
    rcases i6_ with ⟨hl69_0_i6_, hl69_1_i6_⟩ | ⟨hl69_0_i6_, hl69_1_i6_, hl69_2_i6_⟩
    · skip
      refine zw_aload_n (pc := 69) (n := 0) (x := 81) rfl d_M_letLine_69 ?_
      refine zr_getI (hf_N1_.w hW) (pc := 70) f_M_172 rfl d_M_letLine_70 ?_
      refine zr_if_le (pc := 73) (tgt := 77) ⟨(ze_r N1_ 81 7).1, (ze_r N1_ 81 7).2⟩ (by decide) d_M_letLine_73 (fun hc_73 => ?_) (fun hc_73 => ?_)
      · skip
        refine zw_aload_n (pc := 77) (n := 0) (x := 81) rfl d_M_letLine_77 ?_
        refine zr_getJ (hf_N1_.w hW) (pc := 78) f_M_148 rfl d_M_letLine_78 ?_
        have hr8_ := zg_r N1_ 81 11
        refine zw_lstore_n (pc := 81) (i := 2) (L2 := [some (.ref 81), some (.int (Int32.ofInt (ze Mz 81 4))), some (.long (Int64.ofInt (zg N1_ 81 11))), none, none]) rfl (by decide) rfl d_M_letLine_81 ?_
        refine zw_aload_n (pc := 82) (n := 0) (x := 81) rfl d_M_letLine_82 ?_
        refine zr_callV (hf_N1_.w hW) hf_N1_.x (pc := 83) [] [] l_M_193 (c_M_goOn l N1_ (hf_N1_.w hW) (show 0 ≤ ze N1_ 81 3 by first | assumption | omega) (show ze N1_ 81 3 ≤ ze N1_ 81 2 by first | assumption | omega) (show ze N1_ 81 2 ≤ 700 by first | assumption | omega) (show ze N1_ 81 5 ≠ 0 by first | assumption | omega) (show ze N1_ 81 7 = 0 by first | assumption | omega)) rfl rfl rfl (by decide) (Nat.le_of_ble_eq_true rfl) d_M_letLine_83 ?_
        rintro _ N9_ ⟨rfl, hsN9_, ⟨hp0_N9_, hp1_N9_, hp2_N9_, hp3_N9_, hp4_N9_⟩⟩
        have hf_N9_ : zFr [3, 4, 5, 6, 7, 8, 11, 14, 38, 39, 41, 42, 43] [95, 96, 97, 100, 101, 102] Mz N9_ := hf_N1_.tr hsN9_ (by decide) (by decide)
        have e2_N9_ : ze N9_ 81 2 = ze N1_ 81 2 := hsN9_.e (by decide)
        have r3_N9_ := ze_r N9_ 81 3
        have r4_N9_ := ze_r N9_ 81 4
        have r5_N9_ := ze_r N9_ 81 5
        have e7_N9_ : ze N9_ 81 7 = ze N1_ 81 7 := hsN9_.e (by decide)
        have e14_N9_ : ze N9_ 81 14 = ze N1_ 81 14 := hsN9_.e (by decide)
        have e26_N9_ : ze N9_ 81 26 = ze N1_ 81 26 := hsN9_.e (by decide)
        have e39_N9_ : ze N9_ 81 39 = ze N1_ 81 39 := hsN9_.e (by decide)
        have c11_ : zGD N9_ := zGD.fr hsN9_ c7_ (by decide) (by decide)
        show zW l m_M_letLine (zn Mz + 0, zw Mz + 0) N9_ 86 [some (.ref 81), some (.int (Int32.ofInt (ze Mz 81 4))), some (.long (Int64.ofInt (zg N1_ 81 11))), none, none] [] (zpV [3, 4, 5, 6, 7, 8, 11, 14, 38, 39, 41, 42, 43] [95, 96, 97, 100, 101, 102] Mz (fun N => 0 ≤ ze N 81 3 ∧ ze N 81 3 ≤ ze N 81 2 ∧ zTv N ∧ 0 ≤ ze N 81 14 ∧ ze N 81 14 ≤ 8 ∧ (((1 ≤ ze N 81 7 ∧ zmu N = 0) ∨ (ze N 81 7 = 0 ∧ zmu N < zmu Mz)))))
        have j_123 : ∀ (N12_ : zMem) (hs13_ : zFr [3, 4, 5, 6, 7, 8, 11, 38, 39, 41, 42, 43] [95, 96, 97, 100] N9_ N12_) (i14_ : 0 ≤ ze N12_ 81 3) (i15_ : ze N12_ 81 3 ≤ ze N12_ 81 2) (i16_ : zTv N12_) (i17_ : (1 ≤ ze N12_ 81 7 ∧ zmu N12_ = 0) ∨ (ze N12_ 81 7 = 0 ∧ zmu N12_ < zmu Mz)), zW l m_M_letLine (zn Mz + 0, zw Mz + 0) N12_ 123 [some (.ref 81), some (.int (Int32.ofInt (ze Mz 81 4))), some (.long (Int64.ofInt (zg N1_ 81 11))), none, none] [] (zpV [3, 4, 5, 6, 7, 8, 11, 14, 38, 39, 41, 42, 43] [95, 96, 97, 100, 101, 102] Mz (fun N => 0 ≤ ze N 81 3 ∧ ze N 81 3 ≤ ze N 81 2 ∧ zTv N ∧ 0 ≤ ze N 81 14 ∧ ze N 81 14 ≤ 8 ∧ (((1 ≤ ze N 81 7 ∧ zmu N = 0) ∨ (ze N 81 7 = 0 ∧ zmu N < zmu Mz))))) := by
          clear hs2_ i3_ i4_ i5_ i6_ hf_N1_ e2_N1_ r3_N1_ r4_N1_ r5_N1_ r7_N1_ e14_N1_ e26_N1_ e39_N1_ c7_ zz2_N1_ zz26_N1_ hl69_0_i6_ hl69_1_i6_ hc_73 hr8_ hsN9_ hp3_N9_ hp4_N9_ e2_N9_ e7_N9_ e14_N9_ e26_N9_ e39_N9_
          intro N12_ hs13_ i14_ i15_ i16_ i17_
          have hf_N12_ : zFr [3, 4, 5, 6, 7, 8, 11, 14, 38, 39, 41, 42, 43] [95, 96, 97, 100, 101, 102] Mz N12_ := hf_N9_.tr hs13_ (by decide) (by decide)
          have e2_N12_ : ze N12_ 81 2 = ze N9_ 81 2 := hs13_.e (by decide)
          have r3_N12_ := ze_r N12_ 81 3
          have r4_N12_ := ze_r N12_ 81 4
          have r5_N12_ := ze_r N12_ 81 5
          have r7_N12_ := ze_r N12_ 81 7
          have e14_N12_ : ze N12_ 81 14 = ze N9_ 81 14 := hs13_.e (by decide)
          have e26_N12_ : ze N12_ 81 26 = ze N9_ 81 26 := hs13_.e (by decide)
          have r39_N12_ := ze_r N12_ 81 39
          have c18_ : zGD N12_ := zGD.fr hs13_ c11_ (by decide) (by decide)
          have zz2_N12_ : ze N12_ 81 2 = ze Mz 81 2 := hf_N12_.e (by decide)
          have zz26_N12_ : ze N12_ 81 26 = ze Mz 81 26 := hf_N12_.e (by decide)
          rcases i17_ with ⟨hl123_0_i17_, hl123_1_i17_⟩ | ⟨hl123_0_i17_, hl123_1_i17_⟩
          · skip
            refine zw_aload_n (pc := 123) (n := 0) (x := 81) rfl d_M_letLine_123 ?_
            refine zr_getI (hf_N12_.w hW) (pc := 124) f_M_172 rfl d_M_letLine_124 ?_
            refine zr_if_le (pc := 127) (tgt := 131) ⟨(ze_r N12_ 81 7).1, (ze_r N12_ 81 7).2⟩ (by decide) d_M_letLine_127 (fun hc_127 => ?_) (fun hc_127 => ?_)
            · skip
              refine zw_aload_n (pc := 131) (n := 0) (x := 81) rfl d_M_letLine_131 ?_
              refine zr_getF (r := 101) (hf_N12_.w hW) (pc := 132) f_M_75 rfl (zh_101 (hf_N12_.w hW)).1 d_M_letLine_132 ?_
              refine zw_aload_n (pc := 135) (n := 0) (x := 81) rfl d_M_letLine_135 ?_
              refine zr_getI (hf_N12_.w hW) (pc := 136) f_M_299 rfl d_M_letLine_136 ?_
              refine zw_lload_n (pc := 139) (n := 2) (x := Int64.ofInt (zg N1_ 81 11)) rfl d_M_letLine_139 ?_
              refine zr_last (pc := 140) (zh_101 (hf_N12_.w hW)).2 (by decide) (by decide) (by omega) (by omega) d_M_letLine_140 (fun N19_ hN19_ hsN19_ => ?_)
              have hf_N19_ : zFr [3, 4, 5, 6, 7, 8, 11, 14, 38, 39, 41, 42, 43] [95, 96, 97, 100, 101, 102] Mz N19_ := hf_N12_.tr hsN19_ (by decide) (by decide)
              have e2_N19_ : ze N19_ 81 2 = ze N12_ 81 2 := hsN19_.e (by decide)
              have e3_N19_ : ze N19_ 81 3 = ze N12_ 81 3 := hsN19_.e (by decide)
              have e4_N19_ : ze N19_ 81 4 = ze N12_ 81 4 := hsN19_.e (by decide)
              have e5_N19_ : ze N19_ 81 5 = ze N12_ 81 5 := hsN19_.e (by decide)
              have e7_N19_ : ze N19_ 81 7 = ze N12_ 81 7 := hsN19_.e (by decide)
              have e14_N19_ : ze N19_ 81 14 = ze N12_ 81 14 := hsN19_.e (by decide)
              have e26_N19_ : ze N19_ 81 26 = ze N12_ 81 26 := hsN19_.e (by decide)
              have e39_N19_ : ze N19_ 81 39 = ze N12_ 81 39 := hsN19_.e (by decide)
              have qzmu_N19_ : zmu N19_ = zmu N12_ := zmu_f hsN19_ (by decide)
              have c20_ : zGD N19_ := zGD.fr hsN19_ c18_ (by decide) (by decide)
              have c21_ : zTv N19_ := zTv.fr hsN19_ i16_ (by decide) (by decide)
              refine zw_iconst (pc := 141) (v := Int32.ofInt 0) (by decide) d_M_letLine_141 ?_
              refine zw_istore (pc := 142) (i := 4) (L2 := [some (.ref 81), some (.int (Int32.ofInt (ze Mz 81 4))), some (.long (Int64.ofInt (zg N1_ 81 11))), none, some (.int (Int32.ofInt 0))]) (by decide) rfl d_M_letLine_142 ?_
              have lp_144 : ∀ (n : Nat) (u22_ : Int) (hu22_a : -2147483648 ≤ u22_) (hu22_b : u22_ < 2147483648) (N23_ : zMem) (hs24_ : zFr [] [102] N19_ N23_) (i25_ : 0 ≤ u22_), (ze Mz 81 26 - u22_).toNat < n → zW l m_M_letLine (zn Mz + 0, zw Mz + 0) N23_ 144 [some (.ref 81), some (.int (Int32.ofInt (ze Mz 81 4))), some (.long (Int64.ofInt (zg N1_ 81 11))), none, some (.int (Int32.ofInt u22_))] [] (zpV [3, 4, 5, 6, 7, 8, 11, 14, 38, 39, 41, 42, 43] [95, 96, 97, 100, 101, 102] Mz (fun N => 0 ≤ ze N 81 3 ∧ ze N 81 3 ≤ ze N 81 2 ∧ zTv N ∧ 0 ≤ ze N 81 14 ∧ ze N 81 14 ≤ 8 ∧ (((1 ≤ ze N 81 7 ∧ zmu N = 0) ∨ (ze N 81 7 = 0 ∧ zmu N < zmu Mz))))) := by
                clear hp0_N9_ hp1_N9_ hp2_N9_ hf_N9_ r3_N9_ r4_N9_ r5_N9_ c11_ hs13_ i14_ i15_ i16_ i17_ hf_N12_ e2_N12_ r3_N12_ r4_N12_ r5_N12_ r7_N12_ e14_N12_ e26_N12_ r39_N12_ c18_ zz2_N12_ zz26_N12_ hl123_0_i17_ hl123_1_i17_ hc_127 hsN19_ hN19_ e2_N19_ e3_N19_ e4_N19_ e5_N19_ e7_N19_ e14_N19_ e26_N19_ e39_N19_ qzmu_N19_ hf_N23_ e2_N23_ e3_N23_ e4_N23_ e5_N23_ e7_N23_ e14_N23_ e26_N23_ e39_N23_ qzmu_N23_ c25_ c26_ zz2_N23_ zz26_N23_
                intro n
                induction n with
                | zero =>
                  intro u22_ hu22_a hu22_b N23_ hs24_ i25_ h0
                  exact absurd h0 (Nat.not_lt_zero _)
                | succ n ih_144 =>
                  intro u22_ hu22_a hu22_b N23_ hs24_ i25_ hlt_144
                  have hf_N23_ : zFr [3, 4, 5, 6, 7, 8, 11, 14, 38, 39, 41, 42, 43] [95, 96, 97, 100, 101, 102] Mz N23_ := hf_N19_.tr hs24_ (by decide) (by decide)
                  have e2_N23_ : ze N23_ 81 2 = ze N19_ 81 2 := hs24_.e (by decide)
                  have e3_N23_ : ze N23_ 81 3 = ze N19_ 81 3 := hs24_.e (by decide)
                  have e4_N23_ : ze N23_ 81 4 = ze N19_ 81 4 := hs24_.e (by decide)
                  have e5_N23_ : ze N23_ 81 5 = ze N19_ 81 5 := hs24_.e (by decide)
                  have e7_N23_ : ze N23_ 81 7 = ze N19_ 81 7 := hs24_.e (by decide)
                  have e14_N23_ : ze N23_ 81 14 = ze N19_ 81 14 := hs24_.e (by decide)
                  have e26_N23_ : ze N23_ 81 26 = ze N19_ 81 26 := hs24_.e (by decide)
                  have e39_N23_ : ze N23_ 81 39 = ze N19_ 81 39 := hs24_.e (by decide)
                  have qzmu_N23_ : zmu N23_ = zmu N19_ := zmu_f hs24_ (by decide)
                  have c26_ : zGD N23_ := zGD.fr hs24_ c20_ (by decide) (by decide)
                  have c27_ : zTv N23_ := zTv.fr hs24_ c21_ (by decide) (by decide)
                  have zz2_N23_ : ze N23_ 81 2 = ze Mz 81 2 := hf_N23_.e (by decide)
                  have zz26_N23_ : ze N23_ 81 26 = ze Mz 81 26 := hf_N23_.e (by decide)
                  refine zw_iload (pc := 144) (i := 4) (x := Int32.ofInt u22_) rfl d_M_letLine_144 ?_
                  refine zw_aload_n (pc := 146) (n := 0) (x := 81) rfl d_M_letLine_146 ?_
                  refine zr_getI0 hf_N23_ hW (pc := 147) (by decide) f_M_235 rfl d_M_letLine_147 ?_
                  refine zr_icmp_ge (pc := 150) (tgt := 181) ⟨hu22_a, hu22_b⟩ ⟨(ze_r Mz 81 26).1, (ze_r Mz 81 26).2⟩ (by decide) d_M_letLine_150 (fun hc_150 => ?_) (fun hc_150 => ?_)
                  · skip
                    refine zw_aload_n (pc := 181) (n := 0) (x := 81) rfl d_M_letLine_181 ?_
                    refine zw_dup (pc := 182) rfl d_M_letLine_182 ?_
                    refine zr_getI (hf_N23_.w hW) (pc := 183) f_M_299 rfl d_M_letLine_183 ?_
                    refine zw_iconst (pc := 186) (v := Int32.ofInt 1) (by decide) d_M_letLine_186 ?_
                    refine zr_iadd (pc := 187) d_M_letLine_187 ?_
                    refine zr_putI (hf_N23_.w hW) (pc := 188) f_M_299 rfl rfl ⟨by omega, by omega⟩ rfl rfl d_M_letLine_188 (fun N28_ hsN28_ hvN28_ => ?_)
                    have hf_N28_ : zFr [3, 4, 5, 6, 7, 8, 11, 14, 38, 39, 41, 42, 43] [95, 96, 97, 100, 101, 102] Mz N28_ := hf_N23_.tr hsN28_ (by decide) (by decide)
                    have e2_N28_ : ze N28_ 81 2 = ze N23_ 81 2 := hsN28_.e (by decide)
                    have e3_N28_ : ze N28_ 81 3 = ze N23_ 81 3 := hsN28_.e (by decide)
                    have e4_N28_ : ze N28_ 81 4 = ze N23_ 81 4 := hsN28_.e (by decide)
                    have e5_N28_ : ze N28_ 81 5 = ze N23_ 81 5 := hsN28_.e (by decide)
                    have e7_N28_ : ze N28_ 81 7 = ze N23_ 81 7 := hsN28_.e (by decide)
                    have r14_N28_ := ze_r N28_ 81 14
                    have e26_N28_ : ze N28_ 81 26 = ze N23_ 81 26 := hsN28_.e (by decide)
                    have e39_N28_ : ze N28_ 81 39 = ze N23_ 81 39 := hsN28_.e (by decide)
                    have qzmu_N28_ : zmu N28_ = zmu N23_ := zmu_f hsN28_ (by decide)
                    have c29_ : zGD N28_ := zGD.fr hsN28_ c26_ (by decide) (by decide)
                    have c30_ : zTv N28_ := zTv.fr hsN28_ c27_ (by decide) (by decide)
                    have hz0 := zmu_s N28_
                    exact zr_vret (pc := 191) rfl hf_N28_ ⟨(show 0 ≤ ze N28_ 81 3 by first | assumption | omega), (show ze N28_ 81 3 ≤ ze N28_ 81 2 by first | assumption | omega), c30_, (show 0 ≤ ze N28_ 81 14 by first | assumption | omega), (show ze N28_ 81 14 ≤ 8 by first | assumption | omega), (show ((1 ≤ ze N28_ 81 7 ∧ zmu N28_ = 0) ∨ (ze N28_ 81 7 = 0 ∧ zmu N28_ < zmu Mz)) from Or.inl (⟨(show 1 ≤ ze N28_ 81 7 by first | assumption | omega), (show zmu N28_ = 0 by first | assumption | omega)⟩))⟩ d_M_letLine_191
                  · skip
                    refine zw_aload_n (pc := 153) (n := 0) (x := 81) rfl d_M_letLine_153 ?_
                    refine zr_getF (r := 102) (hf_N23_.w hW) (pc := 154) f_M_78 rfl (zh_102 (hf_N23_.w hW)).1 d_M_letLine_154 ?_
                    refine zw_bipush (pc := 157) (v := Int32.ofInt 64) (by decide) d_M_letLine_157 ?_
                    refine zw_aload_n (pc := 159) (n := 0) (x := 81) rfl d_M_letLine_159 ?_
                    refine zr_getI (hf_N23_.w hW) (pc := 160) f_M_299 rfl d_M_letLine_160 ?_
                    refine zr_imul (pc := 163) d_M_letLine_163 ?_
                    refine zw_iload (pc := 164) (i := 4) (x := Int32.ofInt u22_) rfl d_M_letLine_164 ?_
                    refine zr_iadd (pc := 166) d_M_letLine_166 ?_
                    refine zw_aload_n (pc := 167) (n := 0) (x := 81) rfl d_M_letLine_167 ?_
                    refine zr_getF (r := 95) (hf_N23_.w hW) (pc := 168) f_M_56 rfl (zh_95 (hf_N23_.w hW)).1 d_M_letLine_168 ?_
                    refine zw_iload (pc := 171) (i := 4) (x := Int32.ofInt u22_) rfl d_M_letLine_171 ?_
                    refine zr_laldn (pc := 173) (zh_95 (hf_N23_.w hW)).2 (by decide) (by omega) (by omega) d_M_letLine_173 (fun v31_ hv31_ hv31_a hv31_b => ?_)
                    refine zr_last (pc := 174) (zh_102 (hf_N23_.w hW)).2 (by decide) (by decide) (by omega) (by omega) d_M_letLine_174 (fun N32_ hN32_ hsN32_ => ?_)
                    have hf_N32_ : zFr [3, 4, 5, 6, 7, 8, 11, 14, 38, 39, 41, 42, 43] [95, 96, 97, 100, 101, 102] Mz N32_ := hf_N23_.tr hsN32_ (by decide) (by decide)
                    have hb0_N32_ : zFr [] [102] N19_ N32_ := hs24_.tr hsN32_ (by decide) (by decide)
                    have e2_N32_ : ze N32_ 81 2 = ze N23_ 81 2 := hsN32_.e (by decide)
                    have e3_N32_ : ze N32_ 81 3 = ze N23_ 81 3 := hsN32_.e (by decide)
                    have e4_N32_ : ze N32_ 81 4 = ze N23_ 81 4 := hsN32_.e (by decide)
                    have e5_N32_ : ze N32_ 81 5 = ze N23_ 81 5 := hsN32_.e (by decide)
                    have e7_N32_ : ze N32_ 81 7 = ze N23_ 81 7 := hsN32_.e (by decide)
                    have e14_N32_ : ze N32_ 81 14 = ze N23_ 81 14 := hsN32_.e (by decide)
                    have e26_N32_ : ze N32_ 81 26 = ze N23_ 81 26 := hsN32_.e (by decide)
                    have e39_N32_ : ze N32_ 81 39 = ze N23_ 81 39 := hsN32_.e (by decide)
                    have qzmu_N32_ : zmu N32_ = zmu N23_ := zmu_f hsN32_ (by decide)
                    have c33_ : zGD N32_ := zGD.fr hsN32_ c26_ (by decide) (by decide)
                    have c34_ : zTv N32_ := zTv.fr hsN32_ c27_ (by decide) (by decide)
                    refine zr_iinc (pc := 175) (i := 4) (a := u22_) (n := 1) (L2 := [some (.ref 81), some (.int (Int32.ofInt (ze Mz 81 4))), some (.long (Int64.ofInt (zg N1_ 81 11))), none, some (.int (Int32.ofInt (u22_ + 1)))]) rfl (by decide) rfl d_M_letLine_175 ?_
                    refine zw_goto (pc := 178) (tgt := 144) (by decide) d_M_letLine_178 ?_
                    exact ih_144 (u22_ + 1) (by omega) (by omega) N32_ hb0_N32_ (show 0 ≤ (u22_ + 1) by first | assumption | omega) (by omega)
              exact lp_144 _ 0 (by decide) (by decide) N19_ zFr.rf (show 0 ≤ 0 by first | assumption | omega) (Nat.lt_succ_self _)
            · skip
              have hz0 := zmu_s N12_
              exact zr_vret (pc := 130) rfl hf_N12_ ⟨(show 0 ≤ ze N12_ 81 3 by first | assumption | omega), (show ze N12_ 81 3 ≤ ze N12_ 81 2 by first | assumption | omega), i16_, (show 0 ≤ ze N12_ 81 14 by first | assumption | omega), (show ze N12_ 81 14 ≤ 8 by first | assumption | omega), (show ((1 ≤ ze N12_ 81 7 ∧ zmu N12_ = 0) ∨ (ze N12_ 81 7 = 0 ∧ zmu N12_ < zmu Mz)) from Or.inl (⟨(show 1 ≤ ze N12_ 81 7 by first | assumption | omega), (show zmu N12_ = 0 by first | assumption | omega)⟩))⟩ d_M_letLine_130
          · skip
            refine zw_aload_n (pc := 123) (n := 0) (x := 81) rfl d_M_letLine_123 ?_
            refine zr_getI (hf_N12_.w hW) (pc := 124) f_M_172 rfl d_M_letLine_124 ?_
            refine zr_if_le (pc := 127) (tgt := 131) ⟨(ze_r N12_ 81 7).1, (ze_r N12_ 81 7).2⟩ (by decide) d_M_letLine_127 (fun hc_127 => ?_) (fun hc_127 => ?_)
            · skip
              refine zw_aload_n (pc := 131) (n := 0) (x := 81) rfl d_M_letLine_131 ?_
              refine zr_getF (r := 101) (hf_N12_.w hW) (pc := 132) f_M_75 rfl (zh_101 (hf_N12_.w hW)).1 d_M_letLine_132 ?_
              refine zw_aload_n (pc := 135) (n := 0) (x := 81) rfl d_M_letLine_135 ?_
              refine zr_getI (hf_N12_.w hW) (pc := 136) f_M_299 rfl d_M_letLine_136 ?_
              refine zw_lload_n (pc := 139) (n := 2) (x := Int64.ofInt (zg N1_ 81 11)) rfl d_M_letLine_139 ?_
              refine zr_last (pc := 140) (zh_101 (hf_N12_.w hW)).2 (by decide) (by decide) (by omega) (by omega) d_M_letLine_140 (fun N35_ hN35_ hsN35_ => ?_)
              have hf_N35_ : zFr [3, 4, 5, 6, 7, 8, 11, 14, 38, 39, 41, 42, 43] [95, 96, 97, 100, 101, 102] Mz N35_ := hf_N12_.tr hsN35_ (by decide) (by decide)
              have e2_N35_ : ze N35_ 81 2 = ze N12_ 81 2 := hsN35_.e (by decide)
              have e3_N35_ : ze N35_ 81 3 = ze N12_ 81 3 := hsN35_.e (by decide)
              have e4_N35_ : ze N35_ 81 4 = ze N12_ 81 4 := hsN35_.e (by decide)
              have e5_N35_ : ze N35_ 81 5 = ze N12_ 81 5 := hsN35_.e (by decide)
              have e7_N35_ : ze N35_ 81 7 = ze N12_ 81 7 := hsN35_.e (by decide)
              have e14_N35_ : ze N35_ 81 14 = ze N12_ 81 14 := hsN35_.e (by decide)
              have e26_N35_ : ze N35_ 81 26 = ze N12_ 81 26 := hsN35_.e (by decide)
              have e39_N35_ : ze N35_ 81 39 = ze N12_ 81 39 := hsN35_.e (by decide)
              have qzmu_N35_ : zmu N35_ = zmu N12_ := zmu_f hsN35_ (by decide)
              have c36_ : zGD N35_ := zGD.fr hsN35_ c18_ (by decide) (by decide)
              have c37_ : zTv N35_ := zTv.fr hsN35_ i16_ (by decide) (by decide)
              refine zw_iconst (pc := 141) (v := Int32.ofInt 0) (by decide) d_M_letLine_141 ?_
              refine zw_istore (pc := 142) (i := 4) (L2 := [some (.ref 81), some (.int (Int32.ofInt (ze Mz 81 4))), some (.long (Int64.ofInt (zg N1_ 81 11))), none, some (.int (Int32.ofInt 0))]) (by decide) rfl d_M_letLine_142 ?_
              have lp_144 : ∀ (n : Nat) (u38_ : Int) (hu38_a : -2147483648 ≤ u38_) (hu38_b : u38_ < 2147483648) (N39_ : zMem) (hs40_ : zFr [] [102] N35_ N39_) (i41_ : 0 ≤ u38_), (ze Mz 81 26 - u38_).toNat < n → zW l m_M_letLine (zn Mz + 0, zw Mz + 0) N39_ 144 [some (.ref 81), some (.int (Int32.ofInt (ze Mz 81 4))), some (.long (Int64.ofInt (zg N1_ 81 11))), none, some (.int (Int32.ofInt u38_))] [] (zpV [3, 4, 5, 6, 7, 8, 11, 14, 38, 39, 41, 42, 43] [95, 96, 97, 100, 101, 102] Mz (fun N => 0 ≤ ze N 81 3 ∧ ze N 81 3 ≤ ze N 81 2 ∧ zTv N ∧ 0 ≤ ze N 81 14 ∧ ze N 81 14 ≤ 8 ∧ (((1 ≤ ze N 81 7 ∧ zmu N = 0) ∨ (ze N 81 7 = 0 ∧ zmu N < zmu Mz))))) := by
                clear hp0_N9_ hp1_N9_ hp2_N9_ hf_N9_ r3_N9_ r4_N9_ r5_N9_ c11_ hs13_ i14_ i15_ i16_ i17_ hf_N12_ e2_N12_ r3_N12_ r4_N12_ r5_N12_ r7_N12_ e14_N12_ e26_N12_ r39_N12_ c18_ zz2_N12_ zz26_N12_ hl123_0_i17_ hl123_1_i17_ hc_127 hsN35_ hN35_ e2_N35_ e3_N35_ e4_N35_ e5_N35_ e7_N35_ e14_N35_ e26_N35_ e39_N35_ qzmu_N35_ hf_N39_ e2_N39_ e3_N39_ e4_N39_ e5_N39_ e7_N39_ e14_N39_ e26_N39_ e39_N39_ qzmu_N39_ c41_ c42_ zz2_N39_ zz26_N39_
                intro n
                induction n with
                | zero =>
                  intro u38_ hu38_a hu38_b N39_ hs40_ i41_ h0
                  exact absurd h0 (Nat.not_lt_zero _)
                | succ n ih_144 =>
                  intro u38_ hu38_a hu38_b N39_ hs40_ i41_ hlt_144
                  have hf_N39_ : zFr [3, 4, 5, 6, 7, 8, 11, 14, 38, 39, 41, 42, 43] [95, 96, 97, 100, 101, 102] Mz N39_ := hf_N35_.tr hs40_ (by decide) (by decide)
                  have e2_N39_ : ze N39_ 81 2 = ze N35_ 81 2 := hs40_.e (by decide)
                  have e3_N39_ : ze N39_ 81 3 = ze N35_ 81 3 := hs40_.e (by decide)
                  have e4_N39_ : ze N39_ 81 4 = ze N35_ 81 4 := hs40_.e (by decide)
                  have e5_N39_ : ze N39_ 81 5 = ze N35_ 81 5 := hs40_.e (by decide)
                  have e7_N39_ : ze N39_ 81 7 = ze N35_ 81 7 := hs40_.e (by decide)
                  have e14_N39_ : ze N39_ 81 14 = ze N35_ 81 14 := hs40_.e (by decide)
                  have e26_N39_ : ze N39_ 81 26 = ze N35_ 81 26 := hs40_.e (by decide)
                  have e39_N39_ : ze N39_ 81 39 = ze N35_ 81 39 := hs40_.e (by decide)
                  have qzmu_N39_ : zmu N39_ = zmu N35_ := zmu_f hs40_ (by decide)
                  have c42_ : zGD N39_ := zGD.fr hs40_ c36_ (by decide) (by decide)
                  have c43_ : zTv N39_ := zTv.fr hs40_ c37_ (by decide) (by decide)
                  have zz2_N39_ : ze N39_ 81 2 = ze Mz 81 2 := hf_N39_.e (by decide)
                  have zz26_N39_ : ze N39_ 81 26 = ze Mz 81 26 := hf_N39_.e (by decide)
                  refine zw_iload (pc := 144) (i := 4) (x := Int32.ofInt u38_) rfl d_M_letLine_144 ?_
                  refine zw_aload_n (pc := 146) (n := 0) (x := 81) rfl d_M_letLine_146 ?_
                  refine zr_getI0 hf_N39_ hW (pc := 147) (by decide) f_M_235 rfl d_M_letLine_147 ?_
                  refine zr_icmp_ge (pc := 150) (tgt := 181) ⟨hu38_a, hu38_b⟩ ⟨(ze_r Mz 81 26).1, (ze_r Mz 81 26).2⟩ (by decide) d_M_letLine_150 (fun hc_150 => ?_) (fun hc_150 => ?_)
                  · skip
                    refine zw_aload_n (pc := 181) (n := 0) (x := 81) rfl d_M_letLine_181 ?_
                    refine zw_dup (pc := 182) rfl d_M_letLine_182 ?_
                    refine zr_getI (hf_N39_.w hW) (pc := 183) f_M_299 rfl d_M_letLine_183 ?_
                    refine zw_iconst (pc := 186) (v := Int32.ofInt 1) (by decide) d_M_letLine_186 ?_
                    refine zr_iadd (pc := 187) d_M_letLine_187 ?_
                    refine zr_putI (hf_N39_.w hW) (pc := 188) f_M_299 rfl rfl ⟨by omega, by omega⟩ rfl rfl d_M_letLine_188 (fun N44_ hsN44_ hvN44_ => ?_)
                    have hf_N44_ : zFr [3, 4, 5, 6, 7, 8, 11, 14, 38, 39, 41, 42, 43] [95, 96, 97, 100, 101, 102] Mz N44_ := hf_N39_.tr hsN44_ (by decide) (by decide)
                    have e2_N44_ : ze N44_ 81 2 = ze N39_ 81 2 := hsN44_.e (by decide)
                    have e3_N44_ : ze N44_ 81 3 = ze N39_ 81 3 := hsN44_.e (by decide)
                    have e4_N44_ : ze N44_ 81 4 = ze N39_ 81 4 := hsN44_.e (by decide)
                    have e5_N44_ : ze N44_ 81 5 = ze N39_ 81 5 := hsN44_.e (by decide)
                    have e7_N44_ : ze N44_ 81 7 = ze N39_ 81 7 := hsN44_.e (by decide)
                    have r14_N44_ := ze_r N44_ 81 14
                    have e26_N44_ : ze N44_ 81 26 = ze N39_ 81 26 := hsN44_.e (by decide)
                    have e39_N44_ : ze N44_ 81 39 = ze N39_ 81 39 := hsN44_.e (by decide)
                    have qzmu_N44_ : zmu N44_ = zmu N39_ := zmu_f hsN44_ (by decide)
                    have c45_ : zGD N44_ := zGD.fr hsN44_ c42_ (by decide) (by decide)
                    have c46_ : zTv N44_ := zTv.fr hsN44_ c43_ (by decide) (by decide)
                    have hz0 := zmu_s N44_
                    exact zr_vret (pc := 191) rfl hf_N44_ ⟨(show 0 ≤ ze N44_ 81 3 by first | assumption | omega), (show ze N44_ 81 3 ≤ ze N44_ 81 2 by first | assumption | omega), c46_, (show 0 ≤ ze N44_ 81 14 by first | assumption | omega), (show ze N44_ 81 14 ≤ 8 by first | assumption | omega), (show ((1 ≤ ze N44_ 81 7 ∧ zmu N44_ = 0) ∨ (ze N44_ 81 7 = 0 ∧ zmu N44_ < zmu Mz)) from Or.inr (⟨(show ze N44_ 81 7 = 0 by first | assumption | omega), (show zmu N44_ < zmu Mz by first | assumption | omega)⟩))⟩ d_M_letLine_191
                  · skip
                    refine zw_aload_n (pc := 153) (n := 0) (x := 81) rfl d_M_letLine_153 ?_
                    refine zr_getF (r := 102) (hf_N39_.w hW) (pc := 154) f_M_78 rfl (zh_102 (hf_N39_.w hW)).1 d_M_letLine_154 ?_
                    refine zw_bipush (pc := 157) (v := Int32.ofInt 64) (by decide) d_M_letLine_157 ?_
                    refine zw_aload_n (pc := 159) (n := 0) (x := 81) rfl d_M_letLine_159 ?_
                    refine zr_getI (hf_N39_.w hW) (pc := 160) f_M_299 rfl d_M_letLine_160 ?_
                    refine zr_imul (pc := 163) d_M_letLine_163 ?_
                    refine zw_iload (pc := 164) (i := 4) (x := Int32.ofInt u38_) rfl d_M_letLine_164 ?_
                    refine zr_iadd (pc := 166) d_M_letLine_166 ?_
                    refine zw_aload_n (pc := 167) (n := 0) (x := 81) rfl d_M_letLine_167 ?_
                    refine zr_getF (r := 95) (hf_N39_.w hW) (pc := 168) f_M_56 rfl (zh_95 (hf_N39_.w hW)).1 d_M_letLine_168 ?_
                    refine zw_iload (pc := 171) (i := 4) (x := Int32.ofInt u38_) rfl d_M_letLine_171 ?_
                    refine zr_laldn (pc := 173) (zh_95 (hf_N39_.w hW)).2 (by decide) (by omega) (by omega) d_M_letLine_173 (fun v47_ hv47_ hv47_a hv47_b => ?_)
                    refine zr_last (pc := 174) (zh_102 (hf_N39_.w hW)).2 (by decide) (by decide) (by omega) (by omega) d_M_letLine_174 (fun N48_ hN48_ hsN48_ => ?_)
                    have hf_N48_ : zFr [3, 4, 5, 6, 7, 8, 11, 14, 38, 39, 41, 42, 43] [95, 96, 97, 100, 101, 102] Mz N48_ := hf_N39_.tr hsN48_ (by decide) (by decide)
                    have hb0_N48_ : zFr [] [102] N35_ N48_ := hs40_.tr hsN48_ (by decide) (by decide)
                    have e2_N48_ : ze N48_ 81 2 = ze N39_ 81 2 := hsN48_.e (by decide)
                    have e3_N48_ : ze N48_ 81 3 = ze N39_ 81 3 := hsN48_.e (by decide)
                    have e4_N48_ : ze N48_ 81 4 = ze N39_ 81 4 := hsN48_.e (by decide)
                    have e5_N48_ : ze N48_ 81 5 = ze N39_ 81 5 := hsN48_.e (by decide)
                    have e7_N48_ : ze N48_ 81 7 = ze N39_ 81 7 := hsN48_.e (by decide)
                    have e14_N48_ : ze N48_ 81 14 = ze N39_ 81 14 := hsN48_.e (by decide)
                    have e26_N48_ : ze N48_ 81 26 = ze N39_ 81 26 := hsN48_.e (by decide)
                    have e39_N48_ : ze N48_ 81 39 = ze N39_ 81 39 := hsN48_.e (by decide)
                    have qzmu_N48_ : zmu N48_ = zmu N39_ := zmu_f hsN48_ (by decide)
                    have c49_ : zGD N48_ := zGD.fr hsN48_ c42_ (by decide) (by decide)
                    have c50_ : zTv N48_ := zTv.fr hsN48_ c43_ (by decide) (by decide)
                    refine zr_iinc (pc := 175) (i := 4) (a := u38_) (n := 1) (L2 := [some (.ref 81), some (.int (Int32.ofInt (ze Mz 81 4))), some (.long (Int64.ofInt (zg N1_ 81 11))), none, some (.int (Int32.ofInt (u38_ + 1)))]) rfl (by decide) rfl d_M_letLine_175 ?_
                    refine zw_goto (pc := 178) (tgt := 144) (by decide) d_M_letLine_178 ?_
                    exact ih_144 (u38_ + 1) (by omega) (by omega) N48_ hb0_N48_ (show 0 ≤ (u38_ + 1) by first | assumption | omega) (by omega)
              exact lp_144 _ 0 (by decide) (by decide) N35_ zFr.rf (show 0 ≤ 0 by first | assumption | omega) (Nat.lt_succ_self _)
            · skip
              have hz0 := zmu_s N12_
              exact zr_vret (pc := 130) rfl hf_N12_ ⟨(show 0 ≤ ze N12_ 81 3 by first | assumption | omega), (show ze N12_ 81 3 ≤ ze N12_ 81 2 by first | assumption | omega), i16_, (show 0 ≤ ze N12_ 81 14 by first | assumption | omega), (show ze N12_ 81 14 ≤ 8 by first | assumption | omega), (show ((1 ≤ ze N12_ 81 7 ∧ zmu N12_ = 0) ∨ (ze N12_ 81 7 = 0 ∧ zmu N12_ < zmu Mz)) from Or.inr (⟨(show ze N12_ 81 7 = 0 by first | assumption | omega), (show zmu N12_ < zmu Mz by first | assumption | omega)⟩))⟩ d_M_letLine_130
        refine zw_aload_n (pc := 86) (n := 0) (x := 81) rfl d_M_letLine_86 ?_
        refine zw_bipush (pc := 87) (v := Int32.ofInt 61) (by decide) d_M_letLine_87 ?_
        refine zr_callV (hf_N9_.w hW) hf_N9_.x (pc := 89) [.int (Int32.ofInt 61)] [] l_M_355 (c_M_must l N9_ (hf_N9_.w hW) 61 (by decide) (by decide) (show 0 ≤ ze N9_ 81 3 by first | assumption | omega) (show ze N9_ 81 3 ≤ ze N9_ 81 2 by first | assumption | omega) (show ze N9_ 81 2 ≤ 700 by first | assumption | omega) hp2_N9_ (show 0 ≤ ze N9_ 81 7 by first | assumption | omega)) rfl rfl rfl (by decide) (Nat.le_of_ble_eq_true rfl) d_M_letLine_89 ?_
        rintro _ N51_ ⟨rfl, hsN51_, ⟨hp0_N51_, hp1_N51_, hp2_N51_, hp3_N51_⟩⟩
        have hf_N51_ : zFr [3, 4, 5, 6, 7, 8, 11, 14, 38, 39, 41, 42, 43] [95, 96, 97, 100, 101, 102] Mz N51_ := hf_N9_.tr hsN51_ (by decide) (by decide)
        have hb0_N51_ : zFr [3, 4, 5, 6, 7, 8, 11, 38, 39, 41, 42, 43] [95, 96, 97, 100] N9_ N51_ := zFr.rf.tr hsN51_ (by decide) (by decide)
        have e2_N51_ : ze N51_ 81 2 = ze N9_ 81 2 := hsN51_.e (by decide)
        have r3_N51_ := ze_r N51_ 81 3
        have r4_N51_ := ze_r N51_ 81 4
        have r5_N51_ := ze_r N51_ 81 5
        have r7_N51_ := ze_r N51_ 81 7
        have e14_N51_ : ze N51_ 81 14 = ze N9_ 81 14 := hsN51_.e (by decide)
        have e26_N51_ : ze N51_ 81 26 = ze N9_ 81 26 := hsN51_.e (by decide)
        have e39_N51_ : ze N51_ 81 39 = ze N9_ 81 39 := hsN51_.e (by decide)
        have c53_ : zGD N51_ := zGD.fr hsN51_ c11_ (by decide) (by decide)
        rcases hp3_N51_ with ⟨ha89_0_hp3_N51_, ha89_1_hp3_N51_⟩ | ⟨ha89_0_hp3_N51_, ha89_1_hp3_N51_, ha89_2_hp3_N51_⟩
        · skip
          show zW l m_M_letLine (zn Mz + 0, zw Mz + 0) N51_ 92 [some (.ref 81), some (.int (Int32.ofInt (ze Mz 81 4))), some (.long (Int64.ofInt (zg N1_ 81 11))), none, none] [] (zpV [3, 4, 5, 6, 7, 8, 11, 14, 38, 39, 41, 42, 43] [95, 96, 97, 100, 101, 102] Mz (fun N => 0 ≤ ze N 81 3 ∧ ze N 81 3 ≤ ze N 81 2 ∧ zTv N ∧ 0 ≤ ze N 81 14 ∧ ze N 81 14 ≤ 8 ∧ (((1 ≤ ze N 81 7 ∧ zmu N = 0) ∨ (ze N 81 7 = 0 ∧ zmu N < zmu Mz)))))
          refine zw_aload_n (pc := 92) (n := 0) (x := 81) rfl d_M_letLine_92 ?_
          refine zr_callV (hf_N51_.w hW) hf_N51_.x (pc := 93) [] [] l_M_358 (c_M_formula l N51_ (hf_N51_.w hW) c53_ (show 0 ≤ ze N51_ 81 3 by first | assumption | omega) (show ze N51_ 81 3 ≤ ze N51_ 81 2 by first | assumption | omega) (show ze N51_ 81 2 ≤ 700 by first | assumption | omega) hp2_N51_ (show 0 ≤ ze N51_ 81 7 by first | assumption | omega) (show 0 ≤ ze N51_ 81 14 by first | assumption | omega) (show ze N51_ 81 14 ≤ 8 by first | assumption | omega)) rfl rfl rfl (by decide) (Nat.le_of_ble_eq_true rfl) d_M_letLine_93 ?_
          rintro _ N54_ ⟨rfl, hsN54_, ⟨hp0_N54_, hp1_N54_, hp2_N54_, hp3_N54_⟩⟩
          have hf_N54_ : zFr [3, 4, 5, 6, 7, 8, 11, 14, 38, 39, 41, 42, 43] [95, 96, 97, 100, 101, 102] Mz N54_ := hf_N51_.tr hsN54_ (by decide) (by decide)
          have hb0_N54_ : zFr [3, 4, 5, 6, 7, 8, 11, 38, 39, 41, 42, 43] [95, 96, 97, 100] N9_ N54_ := hb0_N51_.tr hsN54_ (by decide) (by decide)
          have e2_N54_ : ze N54_ 81 2 = ze N51_ 81 2 := hsN54_.e (by decide)
          have r3_N54_ := ze_r N54_ 81 3
          have r4_N54_ := ze_r N54_ 81 4
          have r5_N54_ := ze_r N54_ 81 5
          have r7_N54_ := ze_r N54_ 81 7
          have e14_N54_ : ze N54_ 81 14 = ze N51_ 81 14 := hsN54_.e (by decide)
          have e26_N54_ : ze N54_ 81 26 = ze N51_ 81 26 := hsN54_.e (by decide)
          have r39_N54_ := ze_r N54_ 81 39
          have c56_ : zGD N54_ := zGD.fr hsN54_ c53_ (by decide) (by decide)
          rcases hp3_N54_ with ⟨ha93_0_hp3_N54_, ha93_1_hp3_N54_⟩ | ⟨ha93_0_hp3_N54_, ha93_1_hp3_N54_, ha93_2_hp3_N54_⟩
          · skip
            show zW l m_M_letLine (zn Mz + 0, zw Mz + 0) N54_ 96 [some (.ref 81), some (.int (Int32.ofInt (ze Mz 81 4))), some (.long (Int64.ofInt (zg N1_ 81 11))), none, none] [] (zpV [3, 4, 5, 6, 7, 8, 11, 14, 38, 39, 41, 42, 43] [95, 96, 97, 100, 101, 102] Mz (fun N => 0 ≤ ze N 81 3 ∧ ze N 81 3 ≤ ze N 81 2 ∧ zTv N ∧ 0 ≤ ze N 81 14 ∧ ze N 81 14 ≤ 8 ∧ (((1 ≤ ze N 81 7 ∧ zmu N = 0) ∨ (ze N 81 7 = 0 ∧ zmu N < zmu Mz)))))
            refine zw_aload_n (pc := 96) (n := 0) (x := 81) rfl d_M_letLine_96 ?_
            refine zw_bipush (pc := 97) (v := Int32.ofInt 59) (by decide) d_M_letLine_97 ?_
            refine zr_callV (hf_N54_.w hW) hf_N54_.x (pc := 99) [.int (Int32.ofInt 59)] [] l_M_355 (c_M_must l N54_ (hf_N54_.w hW) 59 (by decide) (by decide) (show 0 ≤ ze N54_ 81 3 by first | assumption | omega) (show ze N54_ 81 3 ≤ ze N54_ 81 2 by first | assumption | omega) (show ze N54_ 81 2 ≤ 700 by first | assumption | omega) hp2_N54_ (show 0 ≤ ze N54_ 81 7 by first | assumption | omega)) rfl rfl rfl (by decide) (Nat.le_of_ble_eq_true rfl) d_M_letLine_99 ?_
            rintro _ N57_ ⟨rfl, hsN57_, ⟨hp0_N57_, hp1_N57_, hp2_N57_, hp3_N57_⟩⟩
            have hf_N57_ : zFr [3, 4, 5, 6, 7, 8, 11, 14, 38, 39, 41, 42, 43] [95, 96, 97, 100, 101, 102] Mz N57_ := hf_N54_.tr hsN57_ (by decide) (by decide)
            have hb0_N57_ : zFr [3, 4, 5, 6, 7, 8, 11, 38, 39, 41, 42, 43] [95, 96, 97, 100] N9_ N57_ := hb0_N54_.tr hsN57_ (by decide) (by decide)
            have e2_N57_ : ze N57_ 81 2 = ze N54_ 81 2 := hsN57_.e (by decide)
            have r3_N57_ := ze_r N57_ 81 3
            have r4_N57_ := ze_r N57_ 81 4
            have r5_N57_ := ze_r N57_ 81 5
            have r7_N57_ := ze_r N57_ 81 7
            have e14_N57_ : ze N57_ 81 14 = ze N54_ 81 14 := hsN57_.e (by decide)
            have e26_N57_ : ze N57_ 81 26 = ze N54_ 81 26 := hsN57_.e (by decide)
            have e39_N57_ : ze N57_ 81 39 = ze N54_ 81 39 := hsN57_.e (by decide)
            have c59_ : zGD N57_ := zGD.fr hsN57_ c56_ (by decide) (by decide)
            rcases hp3_N57_ with ⟨ha99_0_hp3_N57_, ha99_1_hp3_N57_⟩ | ⟨ha99_0_hp3_N57_, ha99_1_hp3_N57_, ha99_2_hp3_N57_⟩
            · skip
              show zW l m_M_letLine (zn Mz + 0, zw Mz + 0) N57_ 102 [some (.ref 81), some (.int (Int32.ofInt (ze Mz 81 4))), some (.long (Int64.ofInt (zg N1_ 81 11))), none, none] [] (zpV [3, 4, 5, 6, 7, 8, 11, 14, 38, 39, 41, 42, 43] [95, 96, 97, 100, 101, 102] Mz (fun N => 0 ≤ ze N 81 3 ∧ ze N 81 3 ≤ ze N 81 2 ∧ zTv N ∧ 0 ≤ ze N 81 14 ∧ ze N 81 14 ≤ 8 ∧ (((1 ≤ ze N 81 7 ∧ zmu N = 0) ∨ (ze N 81 7 = 0 ∧ zmu N < zmu Mz)))))
              refine zw_aload_n (pc := 102) (n := 0) (x := 81) rfl d_M_letLine_102 ?_
              refine zr_callV (hf_N57_.w hW) hf_N57_.x (pc := 103) [] [] l_M_183 (c_M_isGood l N57_ (hf_N57_.w hW) ) rfl rfl rfl (by decide) (Nat.le_of_ble_eq_true rfl) d_M_letLine_103 ?_
              rintro _ N60_ ⟨v61_, rfl, ⟨hv61_a, hv61_b⟩, hsN60_, hp0_N60_⟩
              obtain rfl := hsN60_.eq.symm
              replace hp0_N60_ : ((v61_ = 1 ∧ ze N57_ 81 7 = 0) ∨ (v61_ = 0 ∧ ze N57_ 81 7 ≠ 0)) := hp0_N60_
              rcases hp0_N60_ with ⟨rfl, ha103_0_hp0_N60_⟩ | ⟨rfl, ha103_0_hp0_N60_⟩
              · skip
                exfalso; omega
              · skip
                show zW l m_M_letLine (zn Mz + 0, zw Mz + 0) N57_ 106 [some (.ref 81), some (.int (Int32.ofInt (ze Mz 81 4))), some (.long (Int64.ofInt (zg N1_ 81 11))), none, none] [.int (Int32.ofInt 0)] (zpV [3, 4, 5, 6, 7, 8, 11, 14, 38, 39, 41, 42, 43] [95, 96, 97, 100, 101, 102] Mz (fun N => 0 ≤ ze N 81 3 ∧ ze N 81 3 ≤ ze N 81 2 ∧ zTv N ∧ 0 ≤ ze N 81 14 ∧ ze N 81 14 ≤ 8 ∧ (((1 ≤ ze N 81 7 ∧ zmu N = 0) ∨ (ze N 81 7 = 0 ∧ zmu N < zmu Mz)))))
                refine zr_if_eq (pc := 106) (tgt := 123) ⟨(by decide), (by decide)⟩ (by decide) d_M_letLine_106 (fun hc_106 => ?_) (fun hc_106 => ?_)
                · skip
                  exact j_123 N57_ hb0_N57_ (show 0 ≤ ze N57_ 81 3 by first | assumption | omega) (show ze N57_ 81 3 ≤ ze N57_ 81 2 by first | assumption | omega) hp2_N57_ (show (1 ≤ ze N57_ 81 7 ∧ zmu N57_ = 0) ∨ (ze N57_ 81 7 = 0 ∧ zmu N57_ < zmu Mz) from Or.inl (⟨(show 1 ≤ ze N57_ 81 7 by first | assumption | omega), (show zmu N57_ = 0 by first | assumption | omega)⟩))
                · skip
                  exact absurd hc_106 (by decide)
            · skip
              show zW l m_M_letLine (zn Mz + 0, zw Mz + 0) N57_ 102 [some (.ref 81), some (.int (Int32.ofInt (ze Mz 81 4))), some (.long (Int64.ofInt (zg N1_ 81 11))), none, none] [] (zpV [3, 4, 5, 6, 7, 8, 11, 14, 38, 39, 41, 42, 43] [95, 96, 97, 100, 101, 102] Mz (fun N => 0 ≤ ze N 81 3 ∧ ze N 81 3 ≤ ze N 81 2 ∧ zTv N ∧ 0 ≤ ze N 81 14 ∧ ze N 81 14 ≤ 8 ∧ (((1 ≤ ze N 81 7 ∧ zmu N = 0) ∨ (ze N 81 7 = 0 ∧ zmu N < zmu Mz)))))
              refine zw_aload_n (pc := 102) (n := 0) (x := 81) rfl d_M_letLine_102 ?_
              refine zr_callV (hf_N57_.w hW) hf_N57_.x (pc := 103) [] [] l_M_183 (c_M_isGood l N57_ (hf_N57_.w hW) ) rfl rfl rfl (by decide) (Nat.le_of_ble_eq_true rfl) d_M_letLine_103 ?_
              rintro _ N62_ ⟨v63_, rfl, ⟨hv63_a, hv63_b⟩, hsN62_, hp0_N62_⟩
              obtain rfl := hsN62_.eq.symm
              replace hp0_N62_ : ((v63_ = 1 ∧ ze N57_ 81 7 = 0) ∨ (v63_ = 0 ∧ ze N57_ 81 7 ≠ 0)) := hp0_N62_
              rcases hp0_N62_ with ⟨rfl, ha103_0_hp0_N62_⟩ | ⟨rfl, ha103_0_hp0_N62_⟩
              · skip
                show zW l m_M_letLine (zn Mz + 0, zw Mz + 0) N57_ 106 [some (.ref 81), some (.int (Int32.ofInt (ze Mz 81 4))), some (.long (Int64.ofInt (zg N1_ 81 11))), none, none] [.int (Int32.ofInt 1)] (zpV [3, 4, 5, 6, 7, 8, 11, 14, 38, 39, 41, 42, 43] [95, 96, 97, 100, 101, 102] Mz (fun N => 0 ≤ ze N 81 3 ∧ ze N 81 3 ≤ ze N 81 2 ∧ zTv N ∧ 0 ≤ ze N 81 14 ∧ ze N 81 14 ≤ 8 ∧ (((1 ≤ ze N 81 7 ∧ zmu N = 0) ∨ (ze N 81 7 = 0 ∧ zmu N < zmu Mz)))))
                refine zr_if_eq (pc := 106) (tgt := 123) ⟨(by decide), (by decide)⟩ (by decide) d_M_letLine_106 (fun hc_106 => ?_) (fun hc_106 => ?_)
                · skip
                  exact absurd hc_106 (by decide)
                · skip
                  refine zw_aload_n (pc := 109) (n := 0) (x := 81) rfl d_M_letLine_109 ?_
                  refine zr_getI (hf_N57_.w hW) (pc := 110) f_M_275 rfl d_M_letLine_110 ?_
                  refine zr_if_eq (pc := 113) (tgt := 123) ⟨(ze_r N57_ 81 39).1, (ze_r N57_ 81 39).2⟩ (by decide) d_M_letLine_113 (fun hc_113 => ?_) (fun hc_113 => ?_)
                  · skip
                    exact j_123 N57_ hb0_N57_ (show 0 ≤ ze N57_ 81 3 by first | assumption | omega) (show ze N57_ 81 3 ≤ ze N57_ 81 2 by first | assumption | omega) hp2_N57_ (show (1 ≤ ze N57_ 81 7 ∧ zmu N57_ = 0) ∨ (ze N57_ 81 7 = 0 ∧ zmu N57_ < zmu Mz) from Or.inr (⟨(show ze N57_ 81 7 = 0 by first | assumption | omega), (show zmu N57_ < zmu Mz by first | assumption | omega)⟩))
                  · skip
                    refine zw_aload_n (pc := 116) (n := 0) (x := 81) rfl d_M_letLine_116 ?_
                    refine zw_bipush (pc := 117) (v := Int32.ofInt 6) (by decide) d_M_letLine_117 ?_
                    refine zw_iload_n (pc := 119) (n := 1) (x := Int32.ofInt (ze Mz 81 4)) rfl d_M_letLine_119 ?_
                    refine zr_callV (hf_N57_.w hW) hf_N57_.x (pc := 120) [.int (Int32.ofInt 6), .int (Int32.ofInt (ze Mz 81 4))] [] l_M_168 (c_M_wrongAt l N57_ (hf_N57_.w hW) 6 (by decide) (by decide) (ze Mz 81 4) (ze_r Mz 81 4).1 (ze_r Mz 81 4).2 (show ze N57_ 81 7 = 0 by first | assumption | omega) (show 1 ≤ 6 by first | assumption | omega)) rfl rfl rfl (by decide) (Nat.le_of_ble_eq_true rfl) d_M_letLine_120 ?_
                    rintro _ N64_ ⟨rfl, hsN64_, ⟨hp0_N64_, hp1_N64_⟩⟩
                    have hf_N64_ : zFr [3, 4, 5, 6, 7, 8, 11, 14, 38, 39, 41, 42, 43] [95, 96, 97, 100, 101, 102] Mz N64_ := hf_N57_.tr hsN64_ (by decide) (by decide)
                    have hb0_N64_ : zFr [3, 4, 5, 6, 7, 8, 11, 38, 39, 41, 42, 43] [95, 96, 97, 100] N9_ N64_ := hb0_N57_.tr hsN64_ (by decide) (by decide)
                    have e2_N64_ : ze N64_ 81 2 = ze N57_ 81 2 := hsN64_.e (by decide)
                    have e3_N64_ : ze N64_ 81 3 = ze N57_ 81 3 := hsN64_.e (by decide)
                    have e4_N64_ : ze N64_ 81 4 = ze N57_ 81 4 := hsN64_.e (by decide)
                    have e5_N64_ : ze N64_ 81 5 = ze N57_ 81 5 := hsN64_.e (by decide)
                    have r7_N64_ := ze_r N64_ 81 7
                    have e14_N64_ : ze N64_ 81 14 = ze N57_ 81 14 := hsN64_.e (by decide)
                    have e26_N64_ : ze N64_ 81 26 = ze N57_ 81 26 := hsN64_.e (by decide)
                    have e39_N64_ : ze N64_ 81 39 = ze N57_ 81 39 := hsN64_.e (by decide)
                    have c66_ : zGD N64_ := zGD.fr hsN64_ c59_ (by decide) (by decide)
                    have c67_ : zTv N64_ := zTv.fr hsN64_ hp2_N57_ (by decide) (by decide)
                    show zW l m_M_letLine (zn Mz + 0, zw Mz + 0) N64_ 123 [some (.ref 81), some (.int (Int32.ofInt (ze Mz 81 4))), some (.long (Int64.ofInt (zg N1_ 81 11))), none, none] [] (zpV [3, 4, 5, 6, 7, 8, 11, 14, 38, 39, 41, 42, 43] [95, 96, 97, 100, 101, 102] Mz (fun N => 0 ≤ ze N 81 3 ∧ ze N 81 3 ≤ ze N 81 2 ∧ zTv N ∧ 0 ≤ ze N 81 14 ∧ ze N 81 14 ≤ 8 ∧ (((1 ≤ ze N 81 7 ∧ zmu N = 0) ∨ (ze N 81 7 = 0 ∧ zmu N < zmu Mz)))))
                    exact j_123 N64_ hb0_N64_ (show 0 ≤ ze N64_ 81 3 by first | assumption | omega) (show ze N64_ 81 3 ≤ ze N64_ 81 2 by first | assumption | omega) c67_ (show (1 ≤ ze N64_ 81 7 ∧ zmu N64_ = 0) ∨ (ze N64_ 81 7 = 0 ∧ zmu N64_ < zmu Mz) from Or.inl (⟨(show 1 ≤ ze N64_ 81 7 by first | assumption | omega), (show zmu N64_ = 0 by first | assumption | omega)⟩))
              · skip
                exfalso; omega
          · skip
            show zW l m_M_letLine (zn Mz + 0, zw Mz + 0) N54_ 96 [some (.ref 81), some (.int (Int32.ofInt (ze Mz 81 4))), some (.long (Int64.ofInt (zg N1_ 81 11))), none, none] [] (zpV [3, 4, 5, 6, 7, 8, 11, 14, 38, 39, 41, 42, 43] [95, 96, 97, 100, 101, 102] Mz (fun N => 0 ≤ ze N 81 3 ∧ ze N 81 3 ≤ ze N 81 2 ∧ zTv N ∧ 0 ≤ ze N 81 14 ∧ ze N 81 14 ≤ 8 ∧ (((1 ≤ ze N 81 7 ∧ zmu N = 0) ∨ (ze N 81 7 = 0 ∧ zmu N < zmu Mz)))))
            refine zw_aload_n (pc := 96) (n := 0) (x := 81) rfl d_M_letLine_96 ?_
            refine zw_bipush (pc := 97) (v := Int32.ofInt 59) (by decide) d_M_letLine_97 ?_
            refine zr_callV (hf_N54_.w hW) hf_N54_.x (pc := 99) [.int (Int32.ofInt 59)] [] l_M_355 (c_M_must l N54_ (hf_N54_.w hW) 59 (by decide) (by decide) (show 0 ≤ ze N54_ 81 3 by first | assumption | omega) (show ze N54_ 81 3 ≤ ze N54_ 81 2 by first | assumption | omega) (show ze N54_ 81 2 ≤ 700 by first | assumption | omega) hp2_N54_ (show 0 ≤ ze N54_ 81 7 by first | assumption | omega)) rfl rfl rfl (by decide) (Nat.le_of_ble_eq_true rfl) d_M_letLine_99 ?_
            rintro _ N68_ ⟨rfl, hsN68_, ⟨hp0_N68_, hp1_N68_, hp2_N68_, hp3_N68_⟩⟩
            have hf_N68_ : zFr [3, 4, 5, 6, 7, 8, 11, 14, 38, 39, 41, 42, 43] [95, 96, 97, 100, 101, 102] Mz N68_ := hf_N54_.tr hsN68_ (by decide) (by decide)
            have hb0_N68_ : zFr [3, 4, 5, 6, 7, 8, 11, 38, 39, 41, 42, 43] [95, 96, 97, 100] N9_ N68_ := hb0_N54_.tr hsN68_ (by decide) (by decide)
            have e2_N68_ : ze N68_ 81 2 = ze N54_ 81 2 := hsN68_.e (by decide)
            have r3_N68_ := ze_r N68_ 81 3
            have r4_N68_ := ze_r N68_ 81 4
            have r5_N68_ := ze_r N68_ 81 5
            have r7_N68_ := ze_r N68_ 81 7
            have e14_N68_ : ze N68_ 81 14 = ze N54_ 81 14 := hsN68_.e (by decide)
            have e26_N68_ : ze N68_ 81 26 = ze N54_ 81 26 := hsN68_.e (by decide)
            have e39_N68_ : ze N68_ 81 39 = ze N54_ 81 39 := hsN68_.e (by decide)
            have c70_ : zGD N68_ := zGD.fr hsN68_ c56_ (by decide) (by decide)
            rcases hp3_N68_ with ⟨ha99_0_hp3_N68_, ha99_1_hp3_N68_⟩ | ⟨ha99_0_hp3_N68_, ha99_1_hp3_N68_, ha99_2_hp3_N68_⟩
            · skip
              show zW l m_M_letLine (zn Mz + 0, zw Mz + 0) N68_ 102 [some (.ref 81), some (.int (Int32.ofInt (ze Mz 81 4))), some (.long (Int64.ofInt (zg N1_ 81 11))), none, none] [] (zpV [3, 4, 5, 6, 7, 8, 11, 14, 38, 39, 41, 42, 43] [95, 96, 97, 100, 101, 102] Mz (fun N => 0 ≤ ze N 81 3 ∧ ze N 81 3 ≤ ze N 81 2 ∧ zTv N ∧ 0 ≤ ze N 81 14 ∧ ze N 81 14 ≤ 8 ∧ (((1 ≤ ze N 81 7 ∧ zmu N = 0) ∨ (ze N 81 7 = 0 ∧ zmu N < zmu Mz)))))
              refine zw_aload_n (pc := 102) (n := 0) (x := 81) rfl d_M_letLine_102 ?_
              refine zr_callV (hf_N68_.w hW) hf_N68_.x (pc := 103) [] [] l_M_183 (c_M_isGood l N68_ (hf_N68_.w hW) ) rfl rfl rfl (by decide) (Nat.le_of_ble_eq_true rfl) d_M_letLine_103 ?_
              rintro _ N71_ ⟨v72_, rfl, ⟨hv72_a, hv72_b⟩, hsN71_, hp0_N71_⟩
              obtain rfl := hsN71_.eq.symm
              replace hp0_N71_ : ((v72_ = 1 ∧ ze N68_ 81 7 = 0) ∨ (v72_ = 0 ∧ ze N68_ 81 7 ≠ 0)) := hp0_N71_
              rcases hp0_N71_ with ⟨rfl, ha103_0_hp0_N71_⟩ | ⟨rfl, ha103_0_hp0_N71_⟩
              · skip
                exfalso; omega
              · skip
                show zW l m_M_letLine (zn Mz + 0, zw Mz + 0) N68_ 106 [some (.ref 81), some (.int (Int32.ofInt (ze Mz 81 4))), some (.long (Int64.ofInt (zg N1_ 81 11))), none, none] [.int (Int32.ofInt 0)] (zpV [3, 4, 5, 6, 7, 8, 11, 14, 38, 39, 41, 42, 43] [95, 96, 97, 100, 101, 102] Mz (fun N => 0 ≤ ze N 81 3 ∧ ze N 81 3 ≤ ze N 81 2 ∧ zTv N ∧ 0 ≤ ze N 81 14 ∧ ze N 81 14 ≤ 8 ∧ (((1 ≤ ze N 81 7 ∧ zmu N = 0) ∨ (ze N 81 7 = 0 ∧ zmu N < zmu Mz)))))
                refine zr_if_eq (pc := 106) (tgt := 123) ⟨(by decide), (by decide)⟩ (by decide) d_M_letLine_106 (fun hc_106 => ?_) (fun hc_106 => ?_)
                · skip
                  exact j_123 N68_ hb0_N68_ (show 0 ≤ ze N68_ 81 3 by first | assumption | omega) (show ze N68_ 81 3 ≤ ze N68_ 81 2 by first | assumption | omega) hp2_N68_ (show (1 ≤ ze N68_ 81 7 ∧ zmu N68_ = 0) ∨ (ze N68_ 81 7 = 0 ∧ zmu N68_ < zmu Mz) from Or.inl (⟨(show 1 ≤ ze N68_ 81 7 by first | assumption | omega), (show zmu N68_ = 0 by first | assumption | omega)⟩))
                · skip
                  exact absurd hc_106 (by decide)
            · skip
              show zW l m_M_letLine (zn Mz + 0, zw Mz + 0) N68_ 102 [some (.ref 81), some (.int (Int32.ofInt (ze Mz 81 4))), some (.long (Int64.ofInt (zg N1_ 81 11))), none, none] [] (zpV [3, 4, 5, 6, 7, 8, 11, 14, 38, 39, 41, 42, 43] [95, 96, 97, 100, 101, 102] Mz (fun N => 0 ≤ ze N 81 3 ∧ ze N 81 3 ≤ ze N 81 2 ∧ zTv N ∧ 0 ≤ ze N 81 14 ∧ ze N 81 14 ≤ 8 ∧ (((1 ≤ ze N 81 7 ∧ zmu N = 0) ∨ (ze N 81 7 = 0 ∧ zmu N < zmu Mz)))))
              refine zw_aload_n (pc := 102) (n := 0) (x := 81) rfl d_M_letLine_102 ?_
              refine zr_callV (hf_N68_.w hW) hf_N68_.x (pc := 103) [] [] l_M_183 (c_M_isGood l N68_ (hf_N68_.w hW) ) rfl rfl rfl (by decide) (Nat.le_of_ble_eq_true rfl) d_M_letLine_103 ?_
              rintro _ N73_ ⟨v74_, rfl, ⟨hv74_a, hv74_b⟩, hsN73_, hp0_N73_⟩
              obtain rfl := hsN73_.eq.symm
              replace hp0_N73_ : ((v74_ = 1 ∧ ze N68_ 81 7 = 0) ∨ (v74_ = 0 ∧ ze N68_ 81 7 ≠ 0)) := hp0_N73_
              rcases hp0_N73_ with ⟨rfl, ha103_0_hp0_N73_⟩ | ⟨rfl, ha103_0_hp0_N73_⟩
              · skip
                show zW l m_M_letLine (zn Mz + 0, zw Mz + 0) N68_ 106 [some (.ref 81), some (.int (Int32.ofInt (ze Mz 81 4))), some (.long (Int64.ofInt (zg N1_ 81 11))), none, none] [.int (Int32.ofInt 1)] (zpV [3, 4, 5, 6, 7, 8, 11, 14, 38, 39, 41, 42, 43] [95, 96, 97, 100, 101, 102] Mz (fun N => 0 ≤ ze N 81 3 ∧ ze N 81 3 ≤ ze N 81 2 ∧ zTv N ∧ 0 ≤ ze N 81 14 ∧ ze N 81 14 ≤ 8 ∧ (((1 ≤ ze N 81 7 ∧ zmu N = 0) ∨ (ze N 81 7 = 0 ∧ zmu N < zmu Mz)))))
                refine zr_if_eq (pc := 106) (tgt := 123) ⟨(by decide), (by decide)⟩ (by decide) d_M_letLine_106 (fun hc_106 => ?_) (fun hc_106 => ?_)
                · skip
                  exact absurd hc_106 (by decide)
                · skip
                  refine zw_aload_n (pc := 109) (n := 0) (x := 81) rfl d_M_letLine_109 ?_
                  refine zr_getI (hf_N68_.w hW) (pc := 110) f_M_275 rfl d_M_letLine_110 ?_
                  refine zr_if_eq (pc := 113) (tgt := 123) ⟨(ze_r N68_ 81 39).1, (ze_r N68_ 81 39).2⟩ (by decide) d_M_letLine_113 (fun hc_113 => ?_) (fun hc_113 => ?_)
                  · skip
                    exact j_123 N68_ hb0_N68_ (show 0 ≤ ze N68_ 81 3 by first | assumption | omega) (show ze N68_ 81 3 ≤ ze N68_ 81 2 by first | assumption | omega) hp2_N68_ (show (1 ≤ ze N68_ 81 7 ∧ zmu N68_ = 0) ∨ (ze N68_ 81 7 = 0 ∧ zmu N68_ < zmu Mz) from Or.inr (⟨(show ze N68_ 81 7 = 0 by first | assumption | omega), (show zmu N68_ < zmu Mz by first | assumption | omega)⟩))
                  · skip
                    refine zw_aload_n (pc := 116) (n := 0) (x := 81) rfl d_M_letLine_116 ?_
                    refine zw_bipush (pc := 117) (v := Int32.ofInt 6) (by decide) d_M_letLine_117 ?_
                    refine zw_iload_n (pc := 119) (n := 1) (x := Int32.ofInt (ze Mz 81 4)) rfl d_M_letLine_119 ?_
                    refine zr_callV (hf_N68_.w hW) hf_N68_.x (pc := 120) [.int (Int32.ofInt 6), .int (Int32.ofInt (ze Mz 81 4))] [] l_M_168 (c_M_wrongAt l N68_ (hf_N68_.w hW) 6 (by decide) (by decide) (ze Mz 81 4) (ze_r Mz 81 4).1 (ze_r Mz 81 4).2 (show ze N68_ 81 7 = 0 by first | assumption | omega) (show 1 ≤ 6 by first | assumption | omega)) rfl rfl rfl (by decide) (Nat.le_of_ble_eq_true rfl) d_M_letLine_120 ?_
                    rintro _ N75_ ⟨rfl, hsN75_, ⟨hp0_N75_, hp1_N75_⟩⟩
                    have hf_N75_ : zFr [3, 4, 5, 6, 7, 8, 11, 14, 38, 39, 41, 42, 43] [95, 96, 97, 100, 101, 102] Mz N75_ := hf_N68_.tr hsN75_ (by decide) (by decide)
                    have hb0_N75_ : zFr [3, 4, 5, 6, 7, 8, 11, 38, 39, 41, 42, 43] [95, 96, 97, 100] N9_ N75_ := hb0_N68_.tr hsN75_ (by decide) (by decide)
                    have e2_N75_ : ze N75_ 81 2 = ze N68_ 81 2 := hsN75_.e (by decide)
                    have e3_N75_ : ze N75_ 81 3 = ze N68_ 81 3 := hsN75_.e (by decide)
                    have e4_N75_ : ze N75_ 81 4 = ze N68_ 81 4 := hsN75_.e (by decide)
                    have e5_N75_ : ze N75_ 81 5 = ze N68_ 81 5 := hsN75_.e (by decide)
                    have r7_N75_ := ze_r N75_ 81 7
                    have e14_N75_ : ze N75_ 81 14 = ze N68_ 81 14 := hsN75_.e (by decide)
                    have e26_N75_ : ze N75_ 81 26 = ze N68_ 81 26 := hsN75_.e (by decide)
                    have e39_N75_ : ze N75_ 81 39 = ze N68_ 81 39 := hsN75_.e (by decide)
                    have c77_ : zGD N75_ := zGD.fr hsN75_ c70_ (by decide) (by decide)
                    have c78_ : zTv N75_ := zTv.fr hsN75_ hp2_N68_ (by decide) (by decide)
                    show zW l m_M_letLine (zn Mz + 0, zw Mz + 0) N75_ 123 [some (.ref 81), some (.int (Int32.ofInt (ze Mz 81 4))), some (.long (Int64.ofInt (zg N1_ 81 11))), none, none] [] (zpV [3, 4, 5, 6, 7, 8, 11, 14, 38, 39, 41, 42, 43] [95, 96, 97, 100, 101, 102] Mz (fun N => 0 ≤ ze N 81 3 ∧ ze N 81 3 ≤ ze N 81 2 ∧ zTv N ∧ 0 ≤ ze N 81 14 ∧ ze N 81 14 ≤ 8 ∧ (((1 ≤ ze N 81 7 ∧ zmu N = 0) ∨ (ze N 81 7 = 0 ∧ zmu N < zmu Mz)))))
                    exact j_123 N75_ hb0_N75_ (show 0 ≤ ze N75_ 81 3 by first | assumption | omega) (show ze N75_ 81 3 ≤ ze N75_ 81 2 by first | assumption | omega) c78_ (show (1 ≤ ze N75_ 81 7 ∧ zmu N75_ = 0) ∨ (ze N75_ 81 7 = 0 ∧ zmu N75_ < zmu Mz) from Or.inl (⟨(show 1 ≤ ze N75_ 81 7 by first | assumption | omega), (show zmu N75_ = 0 by first | assumption | omega)⟩))
              · skip
                exfalso; omega
        · skip
          show zW l m_M_letLine (zn Mz + 0, zw Mz + 0) N51_ 92 [some (.ref 81), some (.int (Int32.ofInt (ze Mz 81 4))), some (.long (Int64.ofInt (zg N1_ 81 11))), none, none] [] (zpV [3, 4, 5, 6, 7, 8, 11, 14, 38, 39, 41, 42, 43] [95, 96, 97, 100, 101, 102] Mz (fun N => 0 ≤ ze N 81 3 ∧ ze N 81 3 ≤ ze N 81 2 ∧ zTv N ∧ 0 ≤ ze N 81 14 ∧ ze N 81 14 ≤ 8 ∧ (((1 ≤ ze N 81 7 ∧ zmu N = 0) ∨ (ze N 81 7 = 0 ∧ zmu N < zmu Mz)))))
          refine zw_aload_n (pc := 92) (n := 0) (x := 81) rfl d_M_letLine_92 ?_
          refine zr_callV (hf_N51_.w hW) hf_N51_.x (pc := 93) [] [] l_M_358 (c_M_formula l N51_ (hf_N51_.w hW) c53_ (show 0 ≤ ze N51_ 81 3 by first | assumption | omega) (show ze N51_ 81 3 ≤ ze N51_ 81 2 by first | assumption | omega) (show ze N51_ 81 2 ≤ 700 by first | assumption | omega) hp2_N51_ (show 0 ≤ ze N51_ 81 7 by first | assumption | omega) (show 0 ≤ ze N51_ 81 14 by first | assumption | omega) (show ze N51_ 81 14 ≤ 8 by first | assumption | omega)) rfl rfl rfl (by decide) (Nat.le_of_ble_eq_true rfl) d_M_letLine_93 ?_
          rintro _ N79_ ⟨rfl, hsN79_, ⟨hp0_N79_, hp1_N79_, hp2_N79_, hp3_N79_⟩⟩
          have hf_N79_ : zFr [3, 4, 5, 6, 7, 8, 11, 14, 38, 39, 41, 42, 43] [95, 96, 97, 100, 101, 102] Mz N79_ := hf_N51_.tr hsN79_ (by decide) (by decide)
          have hb0_N79_ : zFr [3, 4, 5, 6, 7, 8, 11, 38, 39, 41, 42, 43] [95, 96, 97, 100] N9_ N79_ := hb0_N51_.tr hsN79_ (by decide) (by decide)
          have e2_N79_ : ze N79_ 81 2 = ze N51_ 81 2 := hsN79_.e (by decide)
          have r3_N79_ := ze_r N79_ 81 3
          have r4_N79_ := ze_r N79_ 81 4
          have r5_N79_ := ze_r N79_ 81 5
          have r7_N79_ := ze_r N79_ 81 7
          have e14_N79_ : ze N79_ 81 14 = ze N51_ 81 14 := hsN79_.e (by decide)
          have e26_N79_ : ze N79_ 81 26 = ze N51_ 81 26 := hsN79_.e (by decide)
          have r39_N79_ := ze_r N79_ 81 39
          have c81_ : zGD N79_ := zGD.fr hsN79_ c53_ (by decide) (by decide)
          rcases hp3_N79_ with ⟨ha93_0_hp3_N79_, ha93_1_hp3_N79_⟩ | ⟨ha93_0_hp3_N79_, ha93_1_hp3_N79_, ha93_2_hp3_N79_⟩
          · skip
            show zW l m_M_letLine (zn Mz + 0, zw Mz + 0) N79_ 96 [some (.ref 81), some (.int (Int32.ofInt (ze Mz 81 4))), some (.long (Int64.ofInt (zg N1_ 81 11))), none, none] [] (zpV [3, 4, 5, 6, 7, 8, 11, 14, 38, 39, 41, 42, 43] [95, 96, 97, 100, 101, 102] Mz (fun N => 0 ≤ ze N 81 3 ∧ ze N 81 3 ≤ ze N 81 2 ∧ zTv N ∧ 0 ≤ ze N 81 14 ∧ ze N 81 14 ≤ 8 ∧ (((1 ≤ ze N 81 7 ∧ zmu N = 0) ∨ (ze N 81 7 = 0 ∧ zmu N < zmu Mz)))))
            refine zw_aload_n (pc := 96) (n := 0) (x := 81) rfl d_M_letLine_96 ?_
            refine zw_bipush (pc := 97) (v := Int32.ofInt 59) (by decide) d_M_letLine_97 ?_
            refine zr_callV (hf_N79_.w hW) hf_N79_.x (pc := 99) [.int (Int32.ofInt 59)] [] l_M_355 (c_M_must l N79_ (hf_N79_.w hW) 59 (by decide) (by decide) (show 0 ≤ ze N79_ 81 3 by first | assumption | omega) (show ze N79_ 81 3 ≤ ze N79_ 81 2 by first | assumption | omega) (show ze N79_ 81 2 ≤ 700 by first | assumption | omega) hp2_N79_ (show 0 ≤ ze N79_ 81 7 by first | assumption | omega)) rfl rfl rfl (by decide) (Nat.le_of_ble_eq_true rfl) d_M_letLine_99 ?_
            rintro _ N82_ ⟨rfl, hsN82_, ⟨hp0_N82_, hp1_N82_, hp2_N82_, hp3_N82_⟩⟩
            have hf_N82_ : zFr [3, 4, 5, 6, 7, 8, 11, 14, 38, 39, 41, 42, 43] [95, 96, 97, 100, 101, 102] Mz N82_ := hf_N79_.tr hsN82_ (by decide) (by decide)
            have hb0_N82_ : zFr [3, 4, 5, 6, 7, 8, 11, 38, 39, 41, 42, 43] [95, 96, 97, 100] N9_ N82_ := hb0_N79_.tr hsN82_ (by decide) (by decide)
            have e2_N82_ : ze N82_ 81 2 = ze N79_ 81 2 := hsN82_.e (by decide)
            have r3_N82_ := ze_r N82_ 81 3
            have r4_N82_ := ze_r N82_ 81 4
            have r5_N82_ := ze_r N82_ 81 5
            have r7_N82_ := ze_r N82_ 81 7
            have e14_N82_ : ze N82_ 81 14 = ze N79_ 81 14 := hsN82_.e (by decide)
            have e26_N82_ : ze N82_ 81 26 = ze N79_ 81 26 := hsN82_.e (by decide)
            have e39_N82_ : ze N82_ 81 39 = ze N79_ 81 39 := hsN82_.e (by decide)
            have c84_ : zGD N82_ := zGD.fr hsN82_ c81_ (by decide) (by decide)
            rcases hp3_N82_ with ⟨ha99_0_hp3_N82_, ha99_1_hp3_N82_⟩ | ⟨ha99_0_hp3_N82_, ha99_1_hp3_N82_, ha99_2_hp3_N82_⟩
            · skip
              show zW l m_M_letLine (zn Mz + 0, zw Mz + 0) N82_ 102 [some (.ref 81), some (.int (Int32.ofInt (ze Mz 81 4))), some (.long (Int64.ofInt (zg N1_ 81 11))), none, none] [] (zpV [3, 4, 5, 6, 7, 8, 11, 14, 38, 39, 41, 42, 43] [95, 96, 97, 100, 101, 102] Mz (fun N => 0 ≤ ze N 81 3 ∧ ze N 81 3 ≤ ze N 81 2 ∧ zTv N ∧ 0 ≤ ze N 81 14 ∧ ze N 81 14 ≤ 8 ∧ (((1 ≤ ze N 81 7 ∧ zmu N = 0) ∨ (ze N 81 7 = 0 ∧ zmu N < zmu Mz)))))
              refine zw_aload_n (pc := 102) (n := 0) (x := 81) rfl d_M_letLine_102 ?_
              refine zr_callV (hf_N82_.w hW) hf_N82_.x (pc := 103) [] [] l_M_183 (c_M_isGood l N82_ (hf_N82_.w hW) ) rfl rfl rfl (by decide) (Nat.le_of_ble_eq_true rfl) d_M_letLine_103 ?_
              rintro _ N85_ ⟨v86_, rfl, ⟨hv86_a, hv86_b⟩, hsN85_, hp0_N85_⟩
              obtain rfl := hsN85_.eq.symm
              replace hp0_N85_ : ((v86_ = 1 ∧ ze N82_ 81 7 = 0) ∨ (v86_ = 0 ∧ ze N82_ 81 7 ≠ 0)) := hp0_N85_
              rcases hp0_N85_ with ⟨rfl, ha103_0_hp0_N85_⟩ | ⟨rfl, ha103_0_hp0_N85_⟩
              · skip
                exfalso; omega
              · skip
                show zW l m_M_letLine (zn Mz + 0, zw Mz + 0) N82_ 106 [some (.ref 81), some (.int (Int32.ofInt (ze Mz 81 4))), some (.long (Int64.ofInt (zg N1_ 81 11))), none, none] [.int (Int32.ofInt 0)] (zpV [3, 4, 5, 6, 7, 8, 11, 14, 38, 39, 41, 42, 43] [95, 96, 97, 100, 101, 102] Mz (fun N => 0 ≤ ze N 81 3 ∧ ze N 81 3 ≤ ze N 81 2 ∧ zTv N ∧ 0 ≤ ze N 81 14 ∧ ze N 81 14 ≤ 8 ∧ (((1 ≤ ze N 81 7 ∧ zmu N = 0) ∨ (ze N 81 7 = 0 ∧ zmu N < zmu Mz)))))
                refine zr_if_eq (pc := 106) (tgt := 123) ⟨(by decide), (by decide)⟩ (by decide) d_M_letLine_106 (fun hc_106 => ?_) (fun hc_106 => ?_)
                · skip
                  exact j_123 N82_ hb0_N82_ (show 0 ≤ ze N82_ 81 3 by first | assumption | omega) (show ze N82_ 81 3 ≤ ze N82_ 81 2 by first | assumption | omega) hp2_N82_ (show (1 ≤ ze N82_ 81 7 ∧ zmu N82_ = 0) ∨ (ze N82_ 81 7 = 0 ∧ zmu N82_ < zmu Mz) from Or.inl (⟨(show 1 ≤ ze N82_ 81 7 by first | assumption | omega), (show zmu N82_ = 0 by first | assumption | omega)⟩))
                · skip
                  exact absurd hc_106 (by decide)
            · skip
              show zW l m_M_letLine (zn Mz + 0, zw Mz + 0) N82_ 102 [some (.ref 81), some (.int (Int32.ofInt (ze Mz 81 4))), some (.long (Int64.ofInt (zg N1_ 81 11))), none, none] [] (zpV [3, 4, 5, 6, 7, 8, 11, 14, 38, 39, 41, 42, 43] [95, 96, 97, 100, 101, 102] Mz (fun N => 0 ≤ ze N 81 3 ∧ ze N 81 3 ≤ ze N 81 2 ∧ zTv N ∧ 0 ≤ ze N 81 14 ∧ ze N 81 14 ≤ 8 ∧ (((1 ≤ ze N 81 7 ∧ zmu N = 0) ∨ (ze N 81 7 = 0 ∧ zmu N < zmu Mz)))))
              refine zw_aload_n (pc := 102) (n := 0) (x := 81) rfl d_M_letLine_102 ?_
              refine zr_callV (hf_N82_.w hW) hf_N82_.x (pc := 103) [] [] l_M_183 (c_M_isGood l N82_ (hf_N82_.w hW) ) rfl rfl rfl (by decide) (Nat.le_of_ble_eq_true rfl) d_M_letLine_103 ?_
              rintro _ N87_ ⟨v88_, rfl, ⟨hv88_a, hv88_b⟩, hsN87_, hp0_N87_⟩
              obtain rfl := hsN87_.eq.symm
              replace hp0_N87_ : ((v88_ = 1 ∧ ze N82_ 81 7 = 0) ∨ (v88_ = 0 ∧ ze N82_ 81 7 ≠ 0)) := hp0_N87_
              rcases hp0_N87_ with ⟨rfl, ha103_0_hp0_N87_⟩ | ⟨rfl, ha103_0_hp0_N87_⟩
              · skip
                show zW l m_M_letLine (zn Mz + 0, zw Mz + 0) N82_ 106 [some (.ref 81), some (.int (Int32.ofInt (ze Mz 81 4))), some (.long (Int64.ofInt (zg N1_ 81 11))), none, none] [.int (Int32.ofInt 1)] (zpV [3, 4, 5, 6, 7, 8, 11, 14, 38, 39, 41, 42, 43] [95, 96, 97, 100, 101, 102] Mz (fun N => 0 ≤ ze N 81 3 ∧ ze N 81 3 ≤ ze N 81 2 ∧ zTv N ∧ 0 ≤ ze N 81 14 ∧ ze N 81 14 ≤ 8 ∧ (((1 ≤ ze N 81 7 ∧ zmu N = 0) ∨ (ze N 81 7 = 0 ∧ zmu N < zmu Mz)))))
                refine zr_if_eq (pc := 106) (tgt := 123) ⟨(by decide), (by decide)⟩ (by decide) d_M_letLine_106 (fun hc_106 => ?_) (fun hc_106 => ?_)
                · skip
                  exact absurd hc_106 (by decide)
                · skip
                  refine zw_aload_n (pc := 109) (n := 0) (x := 81) rfl d_M_letLine_109 ?_
                  refine zr_getI (hf_N82_.w hW) (pc := 110) f_M_275 rfl d_M_letLine_110 ?_
                  refine zr_if_eq (pc := 113) (tgt := 123) ⟨(ze_r N82_ 81 39).1, (ze_r N82_ 81 39).2⟩ (by decide) d_M_letLine_113 (fun hc_113 => ?_) (fun hc_113 => ?_)
                  · skip
                    exact j_123 N82_ hb0_N82_ (show 0 ≤ ze N82_ 81 3 by first | assumption | omega) (show ze N82_ 81 3 ≤ ze N82_ 81 2 by first | assumption | omega) hp2_N82_ (show (1 ≤ ze N82_ 81 7 ∧ zmu N82_ = 0) ∨ (ze N82_ 81 7 = 0 ∧ zmu N82_ < zmu Mz) from Or.inr (⟨(show ze N82_ 81 7 = 0 by first | assumption | omega), (show zmu N82_ < zmu Mz by first | assumption | omega)⟩))
                  · skip
                    refine zw_aload_n (pc := 116) (n := 0) (x := 81) rfl d_M_letLine_116 ?_
                    refine zw_bipush (pc := 117) (v := Int32.ofInt 6) (by decide) d_M_letLine_117 ?_
                    refine zw_iload_n (pc := 119) (n := 1) (x := Int32.ofInt (ze Mz 81 4)) rfl d_M_letLine_119 ?_
                    refine zr_callV (hf_N82_.w hW) hf_N82_.x (pc := 120) [.int (Int32.ofInt 6), .int (Int32.ofInt (ze Mz 81 4))] [] l_M_168 (c_M_wrongAt l N82_ (hf_N82_.w hW) 6 (by decide) (by decide) (ze Mz 81 4) (ze_r Mz 81 4).1 (ze_r Mz 81 4).2 (show ze N82_ 81 7 = 0 by first | assumption | omega) (show 1 ≤ 6 by first | assumption | omega)) rfl rfl rfl (by decide) (Nat.le_of_ble_eq_true rfl) d_M_letLine_120 ?_
                    rintro _ N89_ ⟨rfl, hsN89_, ⟨hp0_N89_, hp1_N89_⟩⟩
                    have hf_N89_ : zFr [3, 4, 5, 6, 7, 8, 11, 14, 38, 39, 41, 42, 43] [95, 96, 97, 100, 101, 102] Mz N89_ := hf_N82_.tr hsN89_ (by decide) (by decide)
                    have hb0_N89_ : zFr [3, 4, 5, 6, 7, 8, 11, 38, 39, 41, 42, 43] [95, 96, 97, 100] N9_ N89_ := hb0_N82_.tr hsN89_ (by decide) (by decide)
                    have e2_N89_ : ze N89_ 81 2 = ze N82_ 81 2 := hsN89_.e (by decide)
                    have e3_N89_ : ze N89_ 81 3 = ze N82_ 81 3 := hsN89_.e (by decide)
                    have e4_N89_ : ze N89_ 81 4 = ze N82_ 81 4 := hsN89_.e (by decide)
                    have e5_N89_ : ze N89_ 81 5 = ze N82_ 81 5 := hsN89_.e (by decide)
                    have r7_N89_ := ze_r N89_ 81 7
                    have e14_N89_ : ze N89_ 81 14 = ze N82_ 81 14 := hsN89_.e (by decide)
                    have e26_N89_ : ze N89_ 81 26 = ze N82_ 81 26 := hsN89_.e (by decide)
                    have e39_N89_ : ze N89_ 81 39 = ze N82_ 81 39 := hsN89_.e (by decide)
                    have c91_ : zGD N89_ := zGD.fr hsN89_ c84_ (by decide) (by decide)
                    have c92_ : zTv N89_ := zTv.fr hsN89_ hp2_N82_ (by decide) (by decide)
                    show zW l m_M_letLine (zn Mz + 0, zw Mz + 0) N89_ 123 [some (.ref 81), some (.int (Int32.ofInt (ze Mz 81 4))), some (.long (Int64.ofInt (zg N1_ 81 11))), none, none] [] (zpV [3, 4, 5, 6, 7, 8, 11, 14, 38, 39, 41, 42, 43] [95, 96, 97, 100, 101, 102] Mz (fun N => 0 ≤ ze N 81 3 ∧ ze N 81 3 ≤ ze N 81 2 ∧ zTv N ∧ 0 ≤ ze N 81 14 ∧ ze N 81 14 ≤ 8 ∧ (((1 ≤ ze N 81 7 ∧ zmu N = 0) ∨ (ze N 81 7 = 0 ∧ zmu N < zmu Mz)))))
                    exact j_123 N89_ hb0_N89_ (show 0 ≤ ze N89_ 81 3 by first | assumption | omega) (show ze N89_ 81 3 ≤ ze N89_ 81 2 by first | assumption | omega) c92_ (show (1 ≤ ze N89_ 81 7 ∧ zmu N89_ = 0) ∨ (ze N89_ 81 7 = 0 ∧ zmu N89_ < zmu Mz) from Or.inl (⟨(show 1 ≤ ze N89_ 81 7 by first | assumption | omega), (show zmu N89_ = 0 by first | assumption | omega)⟩))
              · skip
                exfalso; omega
          · skip
            show zW l m_M_letLine (zn Mz + 0, zw Mz + 0) N79_ 96 [some (.ref 81), some (.int (Int32.ofInt (ze Mz 81 4))), some (.long (Int64.ofInt (zg N1_ 81 11))), none, none] [] (zpV [3, 4, 5, 6, 7, 8, 11, 14, 38, 39, 41, 42, 43] [95, 96, 97, 100, 101, 102] Mz (fun N => 0 ≤ ze N 81 3 ∧ ze N 81 3 ≤ ze N 81 2 ∧ zTv N ∧ 0 ≤ ze N 81 14 ∧ ze N 81 14 ≤ 8 ∧ (((1 ≤ ze N 81 7 ∧ zmu N = 0) ∨ (ze N 81 7 = 0 ∧ zmu N < zmu Mz)))))
            refine zw_aload_n (pc := 96) (n := 0) (x := 81) rfl d_M_letLine_96 ?_
            refine zw_bipush (pc := 97) (v := Int32.ofInt 59) (by decide) d_M_letLine_97 ?_
            refine zr_callV (hf_N79_.w hW) hf_N79_.x (pc := 99) [.int (Int32.ofInt 59)] [] l_M_355 (c_M_must l N79_ (hf_N79_.w hW) 59 (by decide) (by decide) (show 0 ≤ ze N79_ 81 3 by first | assumption | omega) (show ze N79_ 81 3 ≤ ze N79_ 81 2 by first | assumption | omega) (show ze N79_ 81 2 ≤ 700 by first | assumption | omega) hp2_N79_ (show 0 ≤ ze N79_ 81 7 by first | assumption | omega)) rfl rfl rfl (by decide) (Nat.le_of_ble_eq_true rfl) d_M_letLine_99 ?_
            rintro _ N93_ ⟨rfl, hsN93_, ⟨hp0_N93_, hp1_N93_, hp2_N93_, hp3_N93_⟩⟩
            have hf_N93_ : zFr [3, 4, 5, 6, 7, 8, 11, 14, 38, 39, 41, 42, 43] [95, 96, 97, 100, 101, 102] Mz N93_ := hf_N79_.tr hsN93_ (by decide) (by decide)
            have hb0_N93_ : zFr [3, 4, 5, 6, 7, 8, 11, 38, 39, 41, 42, 43] [95, 96, 97, 100] N9_ N93_ := hb0_N79_.tr hsN93_ (by decide) (by decide)
            have e2_N93_ : ze N93_ 81 2 = ze N79_ 81 2 := hsN93_.e (by decide)
            have r3_N93_ := ze_r N93_ 81 3
            have r4_N93_ := ze_r N93_ 81 4
            have r5_N93_ := ze_r N93_ 81 5
            have r7_N93_ := ze_r N93_ 81 7
            have e14_N93_ : ze N93_ 81 14 = ze N79_ 81 14 := hsN93_.e (by decide)
            have e26_N93_ : ze N93_ 81 26 = ze N79_ 81 26 := hsN93_.e (by decide)
            have e39_N93_ : ze N93_ 81 39 = ze N79_ 81 39 := hsN93_.e (by decide)
            have c95_ : zGD N93_ := zGD.fr hsN93_ c81_ (by decide) (by decide)
            rcases hp3_N93_ with ⟨ha99_0_hp3_N93_, ha99_1_hp3_N93_⟩ | ⟨ha99_0_hp3_N93_, ha99_1_hp3_N93_, ha99_2_hp3_N93_⟩
            · skip
              show zW l m_M_letLine (zn Mz + 0, zw Mz + 0) N93_ 102 [some (.ref 81), some (.int (Int32.ofInt (ze Mz 81 4))), some (.long (Int64.ofInt (zg N1_ 81 11))), none, none] [] (zpV [3, 4, 5, 6, 7, 8, 11, 14, 38, 39, 41, 42, 43] [95, 96, 97, 100, 101, 102] Mz (fun N => 0 ≤ ze N 81 3 ∧ ze N 81 3 ≤ ze N 81 2 ∧ zTv N ∧ 0 ≤ ze N 81 14 ∧ ze N 81 14 ≤ 8 ∧ (((1 ≤ ze N 81 7 ∧ zmu N = 0) ∨ (ze N 81 7 = 0 ∧ zmu N < zmu Mz)))))
              refine zw_aload_n (pc := 102) (n := 0) (x := 81) rfl d_M_letLine_102 ?_
              refine zr_callV (hf_N93_.w hW) hf_N93_.x (pc := 103) [] [] l_M_183 (c_M_isGood l N93_ (hf_N93_.w hW) ) rfl rfl rfl (by decide) (Nat.le_of_ble_eq_true rfl) d_M_letLine_103 ?_
              rintro _ N96_ ⟨v97_, rfl, ⟨hv97_a, hv97_b⟩, hsN96_, hp0_N96_⟩
              obtain rfl := hsN96_.eq.symm
              replace hp0_N96_ : ((v97_ = 1 ∧ ze N93_ 81 7 = 0) ∨ (v97_ = 0 ∧ ze N93_ 81 7 ≠ 0)) := hp0_N96_
              rcases hp0_N96_ with ⟨rfl, ha103_0_hp0_N96_⟩ | ⟨rfl, ha103_0_hp0_N96_⟩
              · skip
                exfalso; omega
              · skip
                show zW l m_M_letLine (zn Mz + 0, zw Mz + 0) N93_ 106 [some (.ref 81), some (.int (Int32.ofInt (ze Mz 81 4))), some (.long (Int64.ofInt (zg N1_ 81 11))), none, none] [.int (Int32.ofInt 0)] (zpV [3, 4, 5, 6, 7, 8, 11, 14, 38, 39, 41, 42, 43] [95, 96, 97, 100, 101, 102] Mz (fun N => 0 ≤ ze N 81 3 ∧ ze N 81 3 ≤ ze N 81 2 ∧ zTv N ∧ 0 ≤ ze N 81 14 ∧ ze N 81 14 ≤ 8 ∧ (((1 ≤ ze N 81 7 ∧ zmu N = 0) ∨ (ze N 81 7 = 0 ∧ zmu N < zmu Mz)))))
                refine zr_if_eq (pc := 106) (tgt := 123) ⟨(by decide), (by decide)⟩ (by decide) d_M_letLine_106 (fun hc_106 => ?_) (fun hc_106 => ?_)
                · skip
                  exact j_123 N93_ hb0_N93_ (show 0 ≤ ze N93_ 81 3 by first | assumption | omega) (show ze N93_ 81 3 ≤ ze N93_ 81 2 by first | assumption | omega) hp2_N93_ (show (1 ≤ ze N93_ 81 7 ∧ zmu N93_ = 0) ∨ (ze N93_ 81 7 = 0 ∧ zmu N93_ < zmu Mz) from Or.inl (⟨(show 1 ≤ ze N93_ 81 7 by first | assumption | omega), (show zmu N93_ = 0 by first | assumption | omega)⟩))
                · skip
                  exact absurd hc_106 (by decide)
            · skip
              show zW l m_M_letLine (zn Mz + 0, zw Mz + 0) N93_ 102 [some (.ref 81), some (.int (Int32.ofInt (ze Mz 81 4))), some (.long (Int64.ofInt (zg N1_ 81 11))), none, none] [] (zpV [3, 4, 5, 6, 7, 8, 11, 14, 38, 39, 41, 42, 43] [95, 96, 97, 100, 101, 102] Mz (fun N => 0 ≤ ze N 81 3 ∧ ze N 81 3 ≤ ze N 81 2 ∧ zTv N ∧ 0 ≤ ze N 81 14 ∧ ze N 81 14 ≤ 8 ∧ (((1 ≤ ze N 81 7 ∧ zmu N = 0) ∨ (ze N 81 7 = 0 ∧ zmu N < zmu Mz)))))
              refine zw_aload_n (pc := 102) (n := 0) (x := 81) rfl d_M_letLine_102 ?_
              refine zr_callV (hf_N93_.w hW) hf_N93_.x (pc := 103) [] [] l_M_183 (c_M_isGood l N93_ (hf_N93_.w hW) ) rfl rfl rfl (by decide) (Nat.le_of_ble_eq_true rfl) d_M_letLine_103 ?_
              rintro _ N98_ ⟨v99_, rfl, ⟨hv99_a, hv99_b⟩, hsN98_, hp0_N98_⟩
              obtain rfl := hsN98_.eq.symm
              replace hp0_N98_ : ((v99_ = 1 ∧ ze N93_ 81 7 = 0) ∨ (v99_ = 0 ∧ ze N93_ 81 7 ≠ 0)) := hp0_N98_
              rcases hp0_N98_ with ⟨rfl, ha103_0_hp0_N98_⟩ | ⟨rfl, ha103_0_hp0_N98_⟩
              · skip
                show zW l m_M_letLine (zn Mz + 0, zw Mz + 0) N93_ 106 [some (.ref 81), some (.int (Int32.ofInt (ze Mz 81 4))), some (.long (Int64.ofInt (zg N1_ 81 11))), none, none] [.int (Int32.ofInt 1)] (zpV [3, 4, 5, 6, 7, 8, 11, 14, 38, 39, 41, 42, 43] [95, 96, 97, 100, 101, 102] Mz (fun N => 0 ≤ ze N 81 3 ∧ ze N 81 3 ≤ ze N 81 2 ∧ zTv N ∧ 0 ≤ ze N 81 14 ∧ ze N 81 14 ≤ 8 ∧ (((1 ≤ ze N 81 7 ∧ zmu N = 0) ∨ (ze N 81 7 = 0 ∧ zmu N < zmu Mz)))))
                refine zr_if_eq (pc := 106) (tgt := 123) ⟨(by decide), (by decide)⟩ (by decide) d_M_letLine_106 (fun hc_106 => ?_) (fun hc_106 => ?_)
                · skip
                  exact absurd hc_106 (by decide)
                · skip
                  refine zw_aload_n (pc := 109) (n := 0) (x := 81) rfl d_M_letLine_109 ?_
                  refine zr_getI (hf_N93_.w hW) (pc := 110) f_M_275 rfl d_M_letLine_110 ?_
                  refine zr_if_eq (pc := 113) (tgt := 123) ⟨(ze_r N93_ 81 39).1, (ze_r N93_ 81 39).2⟩ (by decide) d_M_letLine_113 (fun hc_113 => ?_) (fun hc_113 => ?_)
                  · skip
                    exact j_123 N93_ hb0_N93_ (show 0 ≤ ze N93_ 81 3 by first | assumption | omega) (show ze N93_ 81 3 ≤ ze N93_ 81 2 by first | assumption | omega) hp2_N93_ (show (1 ≤ ze N93_ 81 7 ∧ zmu N93_ = 0) ∨ (ze N93_ 81 7 = 0 ∧ zmu N93_ < zmu Mz) from Or.inr (⟨(show ze N93_ 81 7 = 0 by first | assumption | omega), (show zmu N93_ < zmu Mz by first | assumption | omega)⟩))
                  · skip
                    refine zw_aload_n (pc := 116) (n := 0) (x := 81) rfl d_M_letLine_116 ?_
                    refine zw_bipush (pc := 117) (v := Int32.ofInt 6) (by decide) d_M_letLine_117 ?_
                    refine zw_iload_n (pc := 119) (n := 1) (x := Int32.ofInt (ze Mz 81 4)) rfl d_M_letLine_119 ?_
                    refine zr_callV (hf_N93_.w hW) hf_N93_.x (pc := 120) [.int (Int32.ofInt 6), .int (Int32.ofInt (ze Mz 81 4))] [] l_M_168 (c_M_wrongAt l N93_ (hf_N93_.w hW) 6 (by decide) (by decide) (ze Mz 81 4) (ze_r Mz 81 4).1 (ze_r Mz 81 4).2 (show ze N93_ 81 7 = 0 by first | assumption | omega) (show 1 ≤ 6 by first | assumption | omega)) rfl rfl rfl (by decide) (Nat.le_of_ble_eq_true rfl) d_M_letLine_120 ?_
                    rintro _ N100_ ⟨rfl, hsN100_, ⟨hp0_N100_, hp1_N100_⟩⟩
                    have hf_N100_ : zFr [3, 4, 5, 6, 7, 8, 11, 14, 38, 39, 41, 42, 43] [95, 96, 97, 100, 101, 102] Mz N100_ := hf_N93_.tr hsN100_ (by decide) (by decide)
                    have hb0_N100_ : zFr [3, 4, 5, 6, 7, 8, 11, 38, 39, 41, 42, 43] [95, 96, 97, 100] N9_ N100_ := hb0_N93_.tr hsN100_ (by decide) (by decide)
                    have e2_N100_ : ze N100_ 81 2 = ze N93_ 81 2 := hsN100_.e (by decide)
                    have e3_N100_ : ze N100_ 81 3 = ze N93_ 81 3 := hsN100_.e (by decide)
                    have e4_N100_ : ze N100_ 81 4 = ze N93_ 81 4 := hsN100_.e (by decide)
                    have e5_N100_ : ze N100_ 81 5 = ze N93_ 81 5 := hsN100_.e (by decide)
                    have r7_N100_ := ze_r N100_ 81 7
                    have e14_N100_ : ze N100_ 81 14 = ze N93_ 81 14 := hsN100_.e (by decide)
                    have e26_N100_ : ze N100_ 81 26 = ze N93_ 81 26 := hsN100_.e (by decide)
                    have e39_N100_ : ze N100_ 81 39 = ze N93_ 81 39 := hsN100_.e (by decide)
                    have c102_ : zGD N100_ := zGD.fr hsN100_ c95_ (by decide) (by decide)
                    have c103_ : zTv N100_ := zTv.fr hsN100_ hp2_N93_ (by decide) (by decide)
                    show zW l m_M_letLine (zn Mz + 0, zw Mz + 0) N100_ 123 [some (.ref 81), some (.int (Int32.ofInt (ze Mz 81 4))), some (.long (Int64.ofInt (zg N1_ 81 11))), none, none] [] (zpV [3, 4, 5, 6, 7, 8, 11, 14, 38, 39, 41, 42, 43] [95, 96, 97, 100, 101, 102] Mz (fun N => 0 ≤ ze N 81 3 ∧ ze N 81 3 ≤ ze N 81 2 ∧ zTv N ∧ 0 ≤ ze N 81 14 ∧ ze N 81 14 ≤ 8 ∧ (((1 ≤ ze N 81 7 ∧ zmu N = 0) ∨ (ze N 81 7 = 0 ∧ zmu N < zmu Mz)))))
                    exact j_123 N100_ hb0_N100_ (show 0 ≤ ze N100_ 81 3 by first | assumption | omega) (show ze N100_ 81 3 ≤ ze N100_ 81 2 by first | assumption | omega) c103_ (show (1 ≤ ze N100_ 81 7 ∧ zmu N100_ = 0) ∨ (ze N100_ 81 7 = 0 ∧ zmu N100_ < zmu Mz) from Or.inl (⟨(show 1 ≤ ze N100_ 81 7 by first | assumption | omega), (show zmu N100_ = 0 by first | assumption | omega)⟩))
              · skip
                exfalso; omega
      · skip
        have hz0 := zmu_s N1_
        exact zr_vret (pc := 76) rfl hf_N1_ ⟨(show 0 ≤ ze N1_ 81 3 by first | assumption | omega), (show ze N1_ 81 3 ≤ ze N1_ 81 2 by first | assumption | omega), i5_, (show 0 ≤ ze N1_ 81 14 by first | assumption | omega), (show ze N1_ 81 14 ≤ 8 by first | assumption | omega), (show ((1 ≤ ze N1_ 81 7 ∧ zmu N1_ = 0) ∨ (ze N1_ 81 7 = 0 ∧ zmu N1_ < zmu Mz)) from Or.inl (⟨(show 1 ≤ ze N1_ 81 7 by first | assumption | omega), (show zmu N1_ = 0 by first | assumption | omega)⟩))⟩ d_M_letLine_76
    · skip
      refine zw_aload_n (pc := 69) (n := 0) (x := 81) rfl d_M_letLine_69 ?_
      refine zr_getI (hf_N1_.w hW) (pc := 70) f_M_172 rfl d_M_letLine_70 ?_
      refine zr_if_le (pc := 73) (tgt := 77) ⟨(ze_r N1_ 81 7).1, (ze_r N1_ 81 7).2⟩ (by decide) d_M_letLine_73 (fun hc_73 => ?_) (fun hc_73 => ?_)
      · skip
        refine zw_aload_n (pc := 77) (n := 0) (x := 81) rfl d_M_letLine_77 ?_
        refine zr_getJ (hf_N1_.w hW) (pc := 78) f_M_148 rfl d_M_letLine_78 ?_
        have hr104_ := zg_r N1_ 81 11
        refine zw_lstore_n (pc := 81) (i := 2) (L2 := [some (.ref 81), some (.int (Int32.ofInt (ze Mz 81 4))), some (.long (Int64.ofInt (zg N1_ 81 11))), none, none]) rfl (by decide) rfl d_M_letLine_81 ?_
        refine zw_aload_n (pc := 82) (n := 0) (x := 81) rfl d_M_letLine_82 ?_
        refine zr_callV (hf_N1_.w hW) hf_N1_.x (pc := 83) [] [] l_M_193 (c_M_goOn l N1_ (hf_N1_.w hW) (show 0 ≤ ze N1_ 81 3 by first | assumption | omega) (show ze N1_ 81 3 ≤ ze N1_ 81 2 by first | assumption | omega) (show ze N1_ 81 2 ≤ 700 by first | assumption | omega) (show ze N1_ 81 5 ≠ 0 by first | assumption | omega) (show ze N1_ 81 7 = 0 by first | assumption | omega)) rfl rfl rfl (by decide) (Nat.le_of_ble_eq_true rfl) d_M_letLine_83 ?_
        rintro _ N105_ ⟨rfl, hsN105_, ⟨hp0_N105_, hp1_N105_, hp2_N105_, hp3_N105_, hp4_N105_⟩⟩
        have hf_N105_ : zFr [3, 4, 5, 6, 7, 8, 11, 14, 38, 39, 41, 42, 43] [95, 96, 97, 100, 101, 102] Mz N105_ := hf_N1_.tr hsN105_ (by decide) (by decide)
        have e2_N105_ : ze N105_ 81 2 = ze N1_ 81 2 := hsN105_.e (by decide)
        have r3_N105_ := ze_r N105_ 81 3
        have r4_N105_ := ze_r N105_ 81 4
        have r5_N105_ := ze_r N105_ 81 5
        have e7_N105_ : ze N105_ 81 7 = ze N1_ 81 7 := hsN105_.e (by decide)
        have e14_N105_ : ze N105_ 81 14 = ze N1_ 81 14 := hsN105_.e (by decide)
        have e26_N105_ : ze N105_ 81 26 = ze N1_ 81 26 := hsN105_.e (by decide)
        have e39_N105_ : ze N105_ 81 39 = ze N1_ 81 39 := hsN105_.e (by decide)
        have c107_ : zGD N105_ := zGD.fr hsN105_ c7_ (by decide) (by decide)
        show zW l m_M_letLine (zn Mz + 0, zw Mz + 0) N105_ 86 [some (.ref 81), some (.int (Int32.ofInt (ze Mz 81 4))), some (.long (Int64.ofInt (zg N1_ 81 11))), none, none] [] (zpV [3, 4, 5, 6, 7, 8, 11, 14, 38, 39, 41, 42, 43] [95, 96, 97, 100, 101, 102] Mz (fun N => 0 ≤ ze N 81 3 ∧ ze N 81 3 ≤ ze N 81 2 ∧ zTv N ∧ 0 ≤ ze N 81 14 ∧ ze N 81 14 ≤ 8 ∧ (((1 ≤ ze N 81 7 ∧ zmu N = 0) ∨ (ze N 81 7 = 0 ∧ zmu N < zmu Mz)))))
        have j_123 : ∀ (N108_ : zMem) (hs109_ : zFr [3, 4, 5, 6, 7, 8, 11, 38, 39, 41, 42, 43] [95, 96, 97, 100] N105_ N108_) (i110_ : 0 ≤ ze N108_ 81 3) (i111_ : ze N108_ 81 3 ≤ ze N108_ 81 2) (i112_ : zTv N108_) (i113_ : (1 ≤ ze N108_ 81 7 ∧ zmu N108_ = 0) ∨ (ze N108_ 81 7 = 0 ∧ zmu N108_ < zmu Mz)), zW l m_M_letLine (zn Mz + 0, zw Mz + 0) N108_ 123 [some (.ref 81), some (.int (Int32.ofInt (ze Mz 81 4))), some (.long (Int64.ofInt (zg N1_ 81 11))), none, none] [] (zpV [3, 4, 5, 6, 7, 8, 11, 14, 38, 39, 41, 42, 43] [95, 96, 97, 100, 101, 102] Mz (fun N => 0 ≤ ze N 81 3 ∧ ze N 81 3 ≤ ze N 81 2 ∧ zTv N ∧ 0 ≤ ze N 81 14 ∧ ze N 81 14 ≤ 8 ∧ (((1 ≤ ze N 81 7 ∧ zmu N = 0) ∨ (ze N 81 7 = 0 ∧ zmu N < zmu Mz))))) := by
          clear hs2_ i3_ i4_ i5_ i6_ hf_N1_ e2_N1_ r3_N1_ r4_N1_ r5_N1_ r7_N1_ e14_N1_ e26_N1_ e39_N1_ c7_ zz2_N1_ zz26_N1_ hl69_0_i6_ hl69_1_i6_ hl69_2_i6_ hc_73 hr104_ hsN105_ hp3_N105_ hp4_N105_ e2_N105_ e7_N105_ e14_N105_ e26_N105_ e39_N105_
          intro N108_ hs109_ i110_ i111_ i112_ i113_
          have hf_N108_ : zFr [3, 4, 5, 6, 7, 8, 11, 14, 38, 39, 41, 42, 43] [95, 96, 97, 100, 101, 102] Mz N108_ := hf_N105_.tr hs109_ (by decide) (by decide)
          have e2_N108_ : ze N108_ 81 2 = ze N105_ 81 2 := hs109_.e (by decide)
          have r3_N108_ := ze_r N108_ 81 3
          have r4_N108_ := ze_r N108_ 81 4
          have r5_N108_ := ze_r N108_ 81 5
          have r7_N108_ := ze_r N108_ 81 7
          have e14_N108_ : ze N108_ 81 14 = ze N105_ 81 14 := hs109_.e (by decide)
          have e26_N108_ : ze N108_ 81 26 = ze N105_ 81 26 := hs109_.e (by decide)
          have r39_N108_ := ze_r N108_ 81 39
          have c114_ : zGD N108_ := zGD.fr hs109_ c107_ (by decide) (by decide)
          have zz2_N108_ : ze N108_ 81 2 = ze Mz 81 2 := hf_N108_.e (by decide)
          have zz26_N108_ : ze N108_ 81 26 = ze Mz 81 26 := hf_N108_.e (by decide)
          rcases i113_ with ⟨hl123_0_i113_, hl123_1_i113_⟩ | ⟨hl123_0_i113_, hl123_1_i113_⟩
          · skip
            refine zw_aload_n (pc := 123) (n := 0) (x := 81) rfl d_M_letLine_123 ?_
            refine zr_getI (hf_N108_.w hW) (pc := 124) f_M_172 rfl d_M_letLine_124 ?_
            refine zr_if_le (pc := 127) (tgt := 131) ⟨(ze_r N108_ 81 7).1, (ze_r N108_ 81 7).2⟩ (by decide) d_M_letLine_127 (fun hc_127 => ?_) (fun hc_127 => ?_)
            · skip
              refine zw_aload_n (pc := 131) (n := 0) (x := 81) rfl d_M_letLine_131 ?_
              refine zr_getF (r := 101) (hf_N108_.w hW) (pc := 132) f_M_75 rfl (zh_101 (hf_N108_.w hW)).1 d_M_letLine_132 ?_
              refine zw_aload_n (pc := 135) (n := 0) (x := 81) rfl d_M_letLine_135 ?_
              refine zr_getI (hf_N108_.w hW) (pc := 136) f_M_299 rfl d_M_letLine_136 ?_
              refine zw_lload_n (pc := 139) (n := 2) (x := Int64.ofInt (zg N1_ 81 11)) rfl d_M_letLine_139 ?_
              refine zr_last (pc := 140) (zh_101 (hf_N108_.w hW)).2 (by decide) (by decide) (by omega) (by omega) d_M_letLine_140 (fun N115_ hN115_ hsN115_ => ?_)
              have hf_N115_ : zFr [3, 4, 5, 6, 7, 8, 11, 14, 38, 39, 41, 42, 43] [95, 96, 97, 100, 101, 102] Mz N115_ := hf_N108_.tr hsN115_ (by decide) (by decide)
              have e2_N115_ : ze N115_ 81 2 = ze N108_ 81 2 := hsN115_.e (by decide)
              have e3_N115_ : ze N115_ 81 3 = ze N108_ 81 3 := hsN115_.e (by decide)
              have e4_N115_ : ze N115_ 81 4 = ze N108_ 81 4 := hsN115_.e (by decide)
              have e5_N115_ : ze N115_ 81 5 = ze N108_ 81 5 := hsN115_.e (by decide)
              have e7_N115_ : ze N115_ 81 7 = ze N108_ 81 7 := hsN115_.e (by decide)
              have e14_N115_ : ze N115_ 81 14 = ze N108_ 81 14 := hsN115_.e (by decide)
              have e26_N115_ : ze N115_ 81 26 = ze N108_ 81 26 := hsN115_.e (by decide)
              have e39_N115_ : ze N115_ 81 39 = ze N108_ 81 39 := hsN115_.e (by decide)
              have qzmu_N115_ : zmu N115_ = zmu N108_ := zmu_f hsN115_ (by decide)
              have c116_ : zGD N115_ := zGD.fr hsN115_ c114_ (by decide) (by decide)
              have c117_ : zTv N115_ := zTv.fr hsN115_ i112_ (by decide) (by decide)
              refine zw_iconst (pc := 141) (v := Int32.ofInt 0) (by decide) d_M_letLine_141 ?_
              refine zw_istore (pc := 142) (i := 4) (L2 := [some (.ref 81), some (.int (Int32.ofInt (ze Mz 81 4))), some (.long (Int64.ofInt (zg N1_ 81 11))), none, some (.int (Int32.ofInt 0))]) (by decide) rfl d_M_letLine_142 ?_
              have lp_144 : ∀ (n : Nat) (u118_ : Int) (hu118_a : -2147483648 ≤ u118_) (hu118_b : u118_ < 2147483648) (N119_ : zMem) (hs120_ : zFr [] [102] N115_ N119_) (i121_ : 0 ≤ u118_), (ze Mz 81 26 - u118_).toNat < n → zW l m_M_letLine (zn Mz + 0, zw Mz + 0) N119_ 144 [some (.ref 81), some (.int (Int32.ofInt (ze Mz 81 4))), some (.long (Int64.ofInt (zg N1_ 81 11))), none, some (.int (Int32.ofInt u118_))] [] (zpV [3, 4, 5, 6, 7, 8, 11, 14, 38, 39, 41, 42, 43] [95, 96, 97, 100, 101, 102] Mz (fun N => 0 ≤ ze N 81 3 ∧ ze N 81 3 ≤ ze N 81 2 ∧ zTv N ∧ 0 ≤ ze N 81 14 ∧ ze N 81 14 ≤ 8 ∧ (((1 ≤ ze N 81 7 ∧ zmu N = 0) ∨ (ze N 81 7 = 0 ∧ zmu N < zmu Mz))))) := by
                clear hp0_N105_ hp1_N105_ hp2_N105_ hf_N105_ r3_N105_ r4_N105_ r5_N105_ c107_ hs109_ i110_ i111_ i112_ i113_ hf_N108_ e2_N108_ r3_N108_ r4_N108_ r5_N108_ r7_N108_ e14_N108_ e26_N108_ r39_N108_ c114_ zz2_N108_ zz26_N108_ hl123_0_i113_ hl123_1_i113_ hc_127 hsN115_ hN115_ e2_N115_ e3_N115_ e4_N115_ e5_N115_ e7_N115_ e14_N115_ e26_N115_ e39_N115_ qzmu_N115_ hf_N119_ e2_N119_ e3_N119_ e4_N119_ e5_N119_ e7_N119_ e14_N119_ e26_N119_ e39_N119_ qzmu_N119_ c121_ c122_ zz2_N119_ zz26_N119_
                intro n
                induction n with
                | zero =>
                  intro u118_ hu118_a hu118_b N119_ hs120_ i121_ h0
                  exact absurd h0 (Nat.not_lt_zero _)
                | succ n ih_144 =>
                  intro u118_ hu118_a hu118_b N119_ hs120_ i121_ hlt_144
                  have hf_N119_ : zFr [3, 4, 5, 6, 7, 8, 11, 14, 38, 39, 41, 42, 43] [95, 96, 97, 100, 101, 102] Mz N119_ := hf_N115_.tr hs120_ (by decide) (by decide)
                  have e2_N119_ : ze N119_ 81 2 = ze N115_ 81 2 := hs120_.e (by decide)
                  have e3_N119_ : ze N119_ 81 3 = ze N115_ 81 3 := hs120_.e (by decide)
                  have e4_N119_ : ze N119_ 81 4 = ze N115_ 81 4 := hs120_.e (by decide)
                  have e5_N119_ : ze N119_ 81 5 = ze N115_ 81 5 := hs120_.e (by decide)
                  have e7_N119_ : ze N119_ 81 7 = ze N115_ 81 7 := hs120_.e (by decide)
                  have e14_N119_ : ze N119_ 81 14 = ze N115_ 81 14 := hs120_.e (by decide)
                  have e26_N119_ : ze N119_ 81 26 = ze N115_ 81 26 := hs120_.e (by decide)
                  have e39_N119_ : ze N119_ 81 39 = ze N115_ 81 39 := hs120_.e (by decide)
                  have qzmu_N119_ : zmu N119_ = zmu N115_ := zmu_f hs120_ (by decide)
                  have c122_ : zGD N119_ := zGD.fr hs120_ c116_ (by decide) (by decide)
                  have c123_ : zTv N119_ := zTv.fr hs120_ c117_ (by decide) (by decide)
                  have zz2_N119_ : ze N119_ 81 2 = ze Mz 81 2 := hf_N119_.e (by decide)
                  have zz26_N119_ : ze N119_ 81 26 = ze Mz 81 26 := hf_N119_.e (by decide)
                  refine zw_iload (pc := 144) (i := 4) (x := Int32.ofInt u118_) rfl d_M_letLine_144 ?_
                  refine zw_aload_n (pc := 146) (n := 0) (x := 81) rfl d_M_letLine_146 ?_
                  refine zr_getI0 hf_N119_ hW (pc := 147) (by decide) f_M_235 rfl d_M_letLine_147 ?_
                  refine zr_icmp_ge (pc := 150) (tgt := 181) ⟨hu118_a, hu118_b⟩ ⟨(ze_r Mz 81 26).1, (ze_r Mz 81 26).2⟩ (by decide) d_M_letLine_150 (fun hc_150 => ?_) (fun hc_150 => ?_)
                  · skip
                    refine zw_aload_n (pc := 181) (n := 0) (x := 81) rfl d_M_letLine_181 ?_
                    refine zw_dup (pc := 182) rfl d_M_letLine_182 ?_
                    refine zr_getI (hf_N119_.w hW) (pc := 183) f_M_299 rfl d_M_letLine_183 ?_
                    refine zw_iconst (pc := 186) (v := Int32.ofInt 1) (by decide) d_M_letLine_186 ?_
                    refine zr_iadd (pc := 187) d_M_letLine_187 ?_
                    refine zr_putI (hf_N119_.w hW) (pc := 188) f_M_299 rfl rfl ⟨by omega, by omega⟩ rfl rfl d_M_letLine_188 (fun N124_ hsN124_ hvN124_ => ?_)
                    have hf_N124_ : zFr [3, 4, 5, 6, 7, 8, 11, 14, 38, 39, 41, 42, 43] [95, 96, 97, 100, 101, 102] Mz N124_ := hf_N119_.tr hsN124_ (by decide) (by decide)
                    have e2_N124_ : ze N124_ 81 2 = ze N119_ 81 2 := hsN124_.e (by decide)
                    have e3_N124_ : ze N124_ 81 3 = ze N119_ 81 3 := hsN124_.e (by decide)
                    have e4_N124_ : ze N124_ 81 4 = ze N119_ 81 4 := hsN124_.e (by decide)
                    have e5_N124_ : ze N124_ 81 5 = ze N119_ 81 5 := hsN124_.e (by decide)
                    have e7_N124_ : ze N124_ 81 7 = ze N119_ 81 7 := hsN124_.e (by decide)
                    have r14_N124_ := ze_r N124_ 81 14
                    have e26_N124_ : ze N124_ 81 26 = ze N119_ 81 26 := hsN124_.e (by decide)
                    have e39_N124_ : ze N124_ 81 39 = ze N119_ 81 39 := hsN124_.e (by decide)
                    have qzmu_N124_ : zmu N124_ = zmu N119_ := zmu_f hsN124_ (by decide)
                    have c125_ : zGD N124_ := zGD.fr hsN124_ c122_ (by decide) (by decide)
                    have c126_ : zTv N124_ := zTv.fr hsN124_ c123_ (by decide) (by decide)
                    have hz0 := zmu_s N124_
                    exact zr_vret (pc := 191) rfl hf_N124_ ⟨(show 0 ≤ ze N124_ 81 3 by first | assumption | omega), (show ze N124_ 81 3 ≤ ze N124_ 81 2 by first | assumption | omega), c126_, (show 0 ≤ ze N124_ 81 14 by first | assumption | omega), (show ze N124_ 81 14 ≤ 8 by first | assumption | omega), (show ((1 ≤ ze N124_ 81 7 ∧ zmu N124_ = 0) ∨ (ze N124_ 81 7 = 0 ∧ zmu N124_ < zmu Mz)) from Or.inl (⟨(show 1 ≤ ze N124_ 81 7 by first | assumption | omega), (show zmu N124_ = 0 by first | assumption | omega)⟩))⟩ d_M_letLine_191
                  · skip
                    refine zw_aload_n (pc := 153) (n := 0) (x := 81) rfl d_M_letLine_153 ?_
                    refine zr_getF (r := 102) (hf_N119_.w hW) (pc := 154) f_M_78 rfl (zh_102 (hf_N119_.w hW)).1 d_M_letLine_154 ?_
                    refine zw_bipush (pc := 157) (v := Int32.ofInt 64) (by decide) d_M_letLine_157 ?_
                    refine zw_aload_n (pc := 159) (n := 0) (x := 81) rfl d_M_letLine_159 ?_
                    refine zr_getI (hf_N119_.w hW) (pc := 160) f_M_299 rfl d_M_letLine_160 ?_
                    refine zr_imul (pc := 163) d_M_letLine_163 ?_
                    refine zw_iload (pc := 164) (i := 4) (x := Int32.ofInt u118_) rfl d_M_letLine_164 ?_
                    refine zr_iadd (pc := 166) d_M_letLine_166 ?_
                    refine zw_aload_n (pc := 167) (n := 0) (x := 81) rfl d_M_letLine_167 ?_
                    refine zr_getF (r := 95) (hf_N119_.w hW) (pc := 168) f_M_56 rfl (zh_95 (hf_N119_.w hW)).1 d_M_letLine_168 ?_
                    refine zw_iload (pc := 171) (i := 4) (x := Int32.ofInt u118_) rfl d_M_letLine_171 ?_
                    refine zr_laldn (pc := 173) (zh_95 (hf_N119_.w hW)).2 (by decide) (by omega) (by omega) d_M_letLine_173 (fun v127_ hv127_ hv127_a hv127_b => ?_)
                    refine zr_last (pc := 174) (zh_102 (hf_N119_.w hW)).2 (by decide) (by decide) (by omega) (by omega) d_M_letLine_174 (fun N128_ hN128_ hsN128_ => ?_)
                    have hf_N128_ : zFr [3, 4, 5, 6, 7, 8, 11, 14, 38, 39, 41, 42, 43] [95, 96, 97, 100, 101, 102] Mz N128_ := hf_N119_.tr hsN128_ (by decide) (by decide)
                    have hb0_N128_ : zFr [] [102] N115_ N128_ := hs120_.tr hsN128_ (by decide) (by decide)
                    have e2_N128_ : ze N128_ 81 2 = ze N119_ 81 2 := hsN128_.e (by decide)
                    have e3_N128_ : ze N128_ 81 3 = ze N119_ 81 3 := hsN128_.e (by decide)
                    have e4_N128_ : ze N128_ 81 4 = ze N119_ 81 4 := hsN128_.e (by decide)
                    have e5_N128_ : ze N128_ 81 5 = ze N119_ 81 5 := hsN128_.e (by decide)
                    have e7_N128_ : ze N128_ 81 7 = ze N119_ 81 7 := hsN128_.e (by decide)
                    have e14_N128_ : ze N128_ 81 14 = ze N119_ 81 14 := hsN128_.e (by decide)
                    have e26_N128_ : ze N128_ 81 26 = ze N119_ 81 26 := hsN128_.e (by decide)
                    have e39_N128_ : ze N128_ 81 39 = ze N119_ 81 39 := hsN128_.e (by decide)
                    have qzmu_N128_ : zmu N128_ = zmu N119_ := zmu_f hsN128_ (by decide)
                    have c129_ : zGD N128_ := zGD.fr hsN128_ c122_ (by decide) (by decide)
                    have c130_ : zTv N128_ := zTv.fr hsN128_ c123_ (by decide) (by decide)
                    refine zr_iinc (pc := 175) (i := 4) (a := u118_) (n := 1) (L2 := [some (.ref 81), some (.int (Int32.ofInt (ze Mz 81 4))), some (.long (Int64.ofInt (zg N1_ 81 11))), none, some (.int (Int32.ofInt (u118_ + 1)))]) rfl (by decide) rfl d_M_letLine_175 ?_
                    refine zw_goto (pc := 178) (tgt := 144) (by decide) d_M_letLine_178 ?_
                    exact ih_144 (u118_ + 1) (by omega) (by omega) N128_ hb0_N128_ (show 0 ≤ (u118_ + 1) by first | assumption | omega) (by omega)
              exact lp_144 _ 0 (by decide) (by decide) N115_ zFr.rf (show 0 ≤ 0 by first | assumption | omega) (Nat.lt_succ_self _)
            · skip
              have hz0 := zmu_s N108_
              exact zr_vret (pc := 130) rfl hf_N108_ ⟨(show 0 ≤ ze N108_ 81 3 by first | assumption | omega), (show ze N108_ 81 3 ≤ ze N108_ 81 2 by first | assumption | omega), i112_, (show 0 ≤ ze N108_ 81 14 by first | assumption | omega), (show ze N108_ 81 14 ≤ 8 by first | assumption | omega), (show ((1 ≤ ze N108_ 81 7 ∧ zmu N108_ = 0) ∨ (ze N108_ 81 7 = 0 ∧ zmu N108_ < zmu Mz)) from Or.inl (⟨(show 1 ≤ ze N108_ 81 7 by first | assumption | omega), (show zmu N108_ = 0 by first | assumption | omega)⟩))⟩ d_M_letLine_130
          · skip
            refine zw_aload_n (pc := 123) (n := 0) (x := 81) rfl d_M_letLine_123 ?_
            refine zr_getI (hf_N108_.w hW) (pc := 124) f_M_172 rfl d_M_letLine_124 ?_
            refine zr_if_le (pc := 127) (tgt := 131) ⟨(ze_r N108_ 81 7).1, (ze_r N108_ 81 7).2⟩ (by decide) d_M_letLine_127 (fun hc_127 => ?_) (fun hc_127 => ?_)
            · skip
              refine zw_aload_n (pc := 131) (n := 0) (x := 81) rfl d_M_letLine_131 ?_
              refine zr_getF (r := 101) (hf_N108_.w hW) (pc := 132) f_M_75 rfl (zh_101 (hf_N108_.w hW)).1 d_M_letLine_132 ?_
              refine zw_aload_n (pc := 135) (n := 0) (x := 81) rfl d_M_letLine_135 ?_
              refine zr_getI (hf_N108_.w hW) (pc := 136) f_M_299 rfl d_M_letLine_136 ?_
              refine zw_lload_n (pc := 139) (n := 2) (x := Int64.ofInt (zg N1_ 81 11)) rfl d_M_letLine_139 ?_
              refine zr_last (pc := 140) (zh_101 (hf_N108_.w hW)).2 (by decide) (by decide) (by omega) (by omega) d_M_letLine_140 (fun N131_ hN131_ hsN131_ => ?_)
              have hf_N131_ : zFr [3, 4, 5, 6, 7, 8, 11, 14, 38, 39, 41, 42, 43] [95, 96, 97, 100, 101, 102] Mz N131_ := hf_N108_.tr hsN131_ (by decide) (by decide)
              have e2_N131_ : ze N131_ 81 2 = ze N108_ 81 2 := hsN131_.e (by decide)
              have e3_N131_ : ze N131_ 81 3 = ze N108_ 81 3 := hsN131_.e (by decide)
              have e4_N131_ : ze N131_ 81 4 = ze N108_ 81 4 := hsN131_.e (by decide)
              have e5_N131_ : ze N131_ 81 5 = ze N108_ 81 5 := hsN131_.e (by decide)
              have e7_N131_ : ze N131_ 81 7 = ze N108_ 81 7 := hsN131_.e (by decide)
              have e14_N131_ : ze N131_ 81 14 = ze N108_ 81 14 := hsN131_.e (by decide)
              have e26_N131_ : ze N131_ 81 26 = ze N108_ 81 26 := hsN131_.e (by decide)
              have e39_N131_ : ze N131_ 81 39 = ze N108_ 81 39 := hsN131_.e (by decide)
              have qzmu_N131_ : zmu N131_ = zmu N108_ := zmu_f hsN131_ (by decide)
              have c132_ : zGD N131_ := zGD.fr hsN131_ c114_ (by decide) (by decide)
              have c133_ : zTv N131_ := zTv.fr hsN131_ i112_ (by decide) (by decide)
              refine zw_iconst (pc := 141) (v := Int32.ofInt 0) (by decide) d_M_letLine_141 ?_
              refine zw_istore (pc := 142) (i := 4) (L2 := [some (.ref 81), some (.int (Int32.ofInt (ze Mz 81 4))), some (.long (Int64.ofInt (zg N1_ 81 11))), none, some (.int (Int32.ofInt 0))]) (by decide) rfl d_M_letLine_142 ?_
              have lp_144 : ∀ (n : Nat) (u134_ : Int) (hu134_a : -2147483648 ≤ u134_) (hu134_b : u134_ < 2147483648) (N135_ : zMem) (hs136_ : zFr [] [102] N131_ N135_) (i137_ : 0 ≤ u134_), (ze Mz 81 26 - u134_).toNat < n → zW l m_M_letLine (zn Mz + 0, zw Mz + 0) N135_ 144 [some (.ref 81), some (.int (Int32.ofInt (ze Mz 81 4))), some (.long (Int64.ofInt (zg N1_ 81 11))), none, some (.int (Int32.ofInt u134_))] [] (zpV [3, 4, 5, 6, 7, 8, 11, 14, 38, 39, 41, 42, 43] [95, 96, 97, 100, 101, 102] Mz (fun N => 0 ≤ ze N 81 3 ∧ ze N 81 3 ≤ ze N 81 2 ∧ zTv N ∧ 0 ≤ ze N 81 14 ∧ ze N 81 14 ≤ 8 ∧ (((1 ≤ ze N 81 7 ∧ zmu N = 0) ∨ (ze N 81 7 = 0 ∧ zmu N < zmu Mz))))) := by
                clear hp0_N105_ hp1_N105_ hp2_N105_ hf_N105_ r3_N105_ r4_N105_ r5_N105_ c107_ hs109_ i110_ i111_ i112_ i113_ hf_N108_ e2_N108_ r3_N108_ r4_N108_ r5_N108_ r7_N108_ e14_N108_ e26_N108_ r39_N108_ c114_ zz2_N108_ zz26_N108_ hl123_0_i113_ hl123_1_i113_ hc_127 hsN131_ hN131_ e2_N131_ e3_N131_ e4_N131_ e5_N131_ e7_N131_ e14_N131_ e26_N131_ e39_N131_ qzmu_N131_ hf_N135_ e2_N135_ e3_N135_ e4_N135_ e5_N135_ e7_N135_ e14_N135_ e26_N135_ e39_N135_ qzmu_N135_ c137_ c138_ zz2_N135_ zz26_N135_
                intro n
                induction n with
                | zero =>
                  intro u134_ hu134_a hu134_b N135_ hs136_ i137_ h0
                  exact absurd h0 (Nat.not_lt_zero _)
                | succ n ih_144 =>
                  intro u134_ hu134_a hu134_b N135_ hs136_ i137_ hlt_144
                  have hf_N135_ : zFr [3, 4, 5, 6, 7, 8, 11, 14, 38, 39, 41, 42, 43] [95, 96, 97, 100, 101, 102] Mz N135_ := hf_N131_.tr hs136_ (by decide) (by decide)
                  have e2_N135_ : ze N135_ 81 2 = ze N131_ 81 2 := hs136_.e (by decide)
                  have e3_N135_ : ze N135_ 81 3 = ze N131_ 81 3 := hs136_.e (by decide)
                  have e4_N135_ : ze N135_ 81 4 = ze N131_ 81 4 := hs136_.e (by decide)
                  have e5_N135_ : ze N135_ 81 5 = ze N131_ 81 5 := hs136_.e (by decide)
                  have e7_N135_ : ze N135_ 81 7 = ze N131_ 81 7 := hs136_.e (by decide)
                  have e14_N135_ : ze N135_ 81 14 = ze N131_ 81 14 := hs136_.e (by decide)
                  have e26_N135_ : ze N135_ 81 26 = ze N131_ 81 26 := hs136_.e (by decide)
                  have e39_N135_ : ze N135_ 81 39 = ze N131_ 81 39 := hs136_.e (by decide)
                  have qzmu_N135_ : zmu N135_ = zmu N131_ := zmu_f hs136_ (by decide)
                  have c138_ : zGD N135_ := zGD.fr hs136_ c132_ (by decide) (by decide)
                  have c139_ : zTv N135_ := zTv.fr hs136_ c133_ (by decide) (by decide)
                  have zz2_N135_ : ze N135_ 81 2 = ze Mz 81 2 := hf_N135_.e (by decide)
                  have zz26_N135_ : ze N135_ 81 26 = ze Mz 81 26 := hf_N135_.e (by decide)
                  refine zw_iload (pc := 144) (i := 4) (x := Int32.ofInt u134_) rfl d_M_letLine_144 ?_
                  refine zw_aload_n (pc := 146) (n := 0) (x := 81) rfl d_M_letLine_146 ?_
                  refine zr_getI0 hf_N135_ hW (pc := 147) (by decide) f_M_235 rfl d_M_letLine_147 ?_
                  refine zr_icmp_ge (pc := 150) (tgt := 181) ⟨hu134_a, hu134_b⟩ ⟨(ze_r Mz 81 26).1, (ze_r Mz 81 26).2⟩ (by decide) d_M_letLine_150 (fun hc_150 => ?_) (fun hc_150 => ?_)
                  · skip
                    refine zw_aload_n (pc := 181) (n := 0) (x := 81) rfl d_M_letLine_181 ?_
                    refine zw_dup (pc := 182) rfl d_M_letLine_182 ?_
                    refine zr_getI (hf_N135_.w hW) (pc := 183) f_M_299 rfl d_M_letLine_183 ?_
                    refine zw_iconst (pc := 186) (v := Int32.ofInt 1) (by decide) d_M_letLine_186 ?_
                    refine zr_iadd (pc := 187) d_M_letLine_187 ?_
                    refine zr_putI (hf_N135_.w hW) (pc := 188) f_M_299 rfl rfl ⟨by omega, by omega⟩ rfl rfl d_M_letLine_188 (fun N140_ hsN140_ hvN140_ => ?_)
                    have hf_N140_ : zFr [3, 4, 5, 6, 7, 8, 11, 14, 38, 39, 41, 42, 43] [95, 96, 97, 100, 101, 102] Mz N140_ := hf_N135_.tr hsN140_ (by decide) (by decide)
                    have e2_N140_ : ze N140_ 81 2 = ze N135_ 81 2 := hsN140_.e (by decide)
                    have e3_N140_ : ze N140_ 81 3 = ze N135_ 81 3 := hsN140_.e (by decide)
                    have e4_N140_ : ze N140_ 81 4 = ze N135_ 81 4 := hsN140_.e (by decide)
                    have e5_N140_ : ze N140_ 81 5 = ze N135_ 81 5 := hsN140_.e (by decide)
                    have e7_N140_ : ze N140_ 81 7 = ze N135_ 81 7 := hsN140_.e (by decide)
                    have r14_N140_ := ze_r N140_ 81 14
                    have e26_N140_ : ze N140_ 81 26 = ze N135_ 81 26 := hsN140_.e (by decide)
                    have e39_N140_ : ze N140_ 81 39 = ze N135_ 81 39 := hsN140_.e (by decide)
                    have qzmu_N140_ : zmu N140_ = zmu N135_ := zmu_f hsN140_ (by decide)
                    have c141_ : zGD N140_ := zGD.fr hsN140_ c138_ (by decide) (by decide)
                    have c142_ : zTv N140_ := zTv.fr hsN140_ c139_ (by decide) (by decide)
                    have hz0 := zmu_s N140_
                    exact zr_vret (pc := 191) rfl hf_N140_ ⟨(show 0 ≤ ze N140_ 81 3 by first | assumption | omega), (show ze N140_ 81 3 ≤ ze N140_ 81 2 by first | assumption | omega), c142_, (show 0 ≤ ze N140_ 81 14 by first | assumption | omega), (show ze N140_ 81 14 ≤ 8 by first | assumption | omega), (show ((1 ≤ ze N140_ 81 7 ∧ zmu N140_ = 0) ∨ (ze N140_ 81 7 = 0 ∧ zmu N140_ < zmu Mz)) from Or.inr (⟨(show ze N140_ 81 7 = 0 by first | assumption | omega), (show zmu N140_ < zmu Mz by first | assumption | omega)⟩))⟩ d_M_letLine_191
                  · skip
                    refine zw_aload_n (pc := 153) (n := 0) (x := 81) rfl d_M_letLine_153 ?_
                    refine zr_getF (r := 102) (hf_N135_.w hW) (pc := 154) f_M_78 rfl (zh_102 (hf_N135_.w hW)).1 d_M_letLine_154 ?_
                    refine zw_bipush (pc := 157) (v := Int32.ofInt 64) (by decide) d_M_letLine_157 ?_
                    refine zw_aload_n (pc := 159) (n := 0) (x := 81) rfl d_M_letLine_159 ?_
                    refine zr_getI (hf_N135_.w hW) (pc := 160) f_M_299 rfl d_M_letLine_160 ?_
                    refine zr_imul (pc := 163) d_M_letLine_163 ?_
                    refine zw_iload (pc := 164) (i := 4) (x := Int32.ofInt u134_) rfl d_M_letLine_164 ?_
                    refine zr_iadd (pc := 166) d_M_letLine_166 ?_
                    refine zw_aload_n (pc := 167) (n := 0) (x := 81) rfl d_M_letLine_167 ?_
                    refine zr_getF (r := 95) (hf_N135_.w hW) (pc := 168) f_M_56 rfl (zh_95 (hf_N135_.w hW)).1 d_M_letLine_168 ?_
                    refine zw_iload (pc := 171) (i := 4) (x := Int32.ofInt u134_) rfl d_M_letLine_171 ?_
                    refine zr_laldn (pc := 173) (zh_95 (hf_N135_.w hW)).2 (by decide) (by omega) (by omega) d_M_letLine_173 (fun v143_ hv143_ hv143_a hv143_b => ?_)
                    refine zr_last (pc := 174) (zh_102 (hf_N135_.w hW)).2 (by decide) (by decide) (by omega) (by omega) d_M_letLine_174 (fun N144_ hN144_ hsN144_ => ?_)
                    have hf_N144_ : zFr [3, 4, 5, 6, 7, 8, 11, 14, 38, 39, 41, 42, 43] [95, 96, 97, 100, 101, 102] Mz N144_ := hf_N135_.tr hsN144_ (by decide) (by decide)
                    have hb0_N144_ : zFr [] [102] N131_ N144_ := hs136_.tr hsN144_ (by decide) (by decide)
                    have e2_N144_ : ze N144_ 81 2 = ze N135_ 81 2 := hsN144_.e (by decide)
                    have e3_N144_ : ze N144_ 81 3 = ze N135_ 81 3 := hsN144_.e (by decide)
                    have e4_N144_ : ze N144_ 81 4 = ze N135_ 81 4 := hsN144_.e (by decide)
                    have e5_N144_ : ze N144_ 81 5 = ze N135_ 81 5 := hsN144_.e (by decide)
                    have e7_N144_ : ze N144_ 81 7 = ze N135_ 81 7 := hsN144_.e (by decide)
                    have e14_N144_ : ze N144_ 81 14 = ze N135_ 81 14 := hsN144_.e (by decide)
                    have e26_N144_ : ze N144_ 81 26 = ze N135_ 81 26 := hsN144_.e (by decide)
                    have e39_N144_ : ze N144_ 81 39 = ze N135_ 81 39 := hsN144_.e (by decide)
                    have qzmu_N144_ : zmu N144_ = zmu N135_ := zmu_f hsN144_ (by decide)
                    have c145_ : zGD N144_ := zGD.fr hsN144_ c138_ (by decide) (by decide)
                    have c146_ : zTv N144_ := zTv.fr hsN144_ c139_ (by decide) (by decide)
                    refine zr_iinc (pc := 175) (i := 4) (a := u134_) (n := 1) (L2 := [some (.ref 81), some (.int (Int32.ofInt (ze Mz 81 4))), some (.long (Int64.ofInt (zg N1_ 81 11))), none, some (.int (Int32.ofInt (u134_ + 1)))]) rfl (by decide) rfl d_M_letLine_175 ?_
                    refine zw_goto (pc := 178) (tgt := 144) (by decide) d_M_letLine_178 ?_
                    exact ih_144 (u134_ + 1) (by omega) (by omega) N144_ hb0_N144_ (show 0 ≤ (u134_ + 1) by first | assumption | omega) (by omega)
              exact lp_144 _ 0 (by decide) (by decide) N131_ zFr.rf (show 0 ≤ 0 by first | assumption | omega) (Nat.lt_succ_self _)
            · skip
              have hz0 := zmu_s N108_
              exact zr_vret (pc := 130) rfl hf_N108_ ⟨(show 0 ≤ ze N108_ 81 3 by first | assumption | omega), (show ze N108_ 81 3 ≤ ze N108_ 81 2 by first | assumption | omega), i112_, (show 0 ≤ ze N108_ 81 14 by first | assumption | omega), (show ze N108_ 81 14 ≤ 8 by first | assumption | omega), (show ((1 ≤ ze N108_ 81 7 ∧ zmu N108_ = 0) ∨ (ze N108_ 81 7 = 0 ∧ zmu N108_ < zmu Mz)) from Or.inr (⟨(show ze N108_ 81 7 = 0 by first | assumption | omega), (show zmu N108_ < zmu Mz by first | assumption | omega)⟩))⟩ d_M_letLine_130
        refine zw_aload_n (pc := 86) (n := 0) (x := 81) rfl d_M_letLine_86 ?_
        refine zw_bipush (pc := 87) (v := Int32.ofInt 61) (by decide) d_M_letLine_87 ?_
        refine zr_callV (hf_N105_.w hW) hf_N105_.x (pc := 89) [.int (Int32.ofInt 61)] [] l_M_355 (c_M_must l N105_ (hf_N105_.w hW) 61 (by decide) (by decide) (show 0 ≤ ze N105_ 81 3 by first | assumption | omega) (show ze N105_ 81 3 ≤ ze N105_ 81 2 by first | assumption | omega) (show ze N105_ 81 2 ≤ 700 by first | assumption | omega) hp2_N105_ (show 0 ≤ ze N105_ 81 7 by first | assumption | omega)) rfl rfl rfl (by decide) (Nat.le_of_ble_eq_true rfl) d_M_letLine_89 ?_
        rintro _ N147_ ⟨rfl, hsN147_, ⟨hp0_N147_, hp1_N147_, hp2_N147_, hp3_N147_⟩⟩
        have hf_N147_ : zFr [3, 4, 5, 6, 7, 8, 11, 14, 38, 39, 41, 42, 43] [95, 96, 97, 100, 101, 102] Mz N147_ := hf_N105_.tr hsN147_ (by decide) (by decide)
        have hb0_N147_ : zFr [3, 4, 5, 6, 7, 8, 11, 38, 39, 41, 42, 43] [95, 96, 97, 100] N105_ N147_ := zFr.rf.tr hsN147_ (by decide) (by decide)
        have e2_N147_ : ze N147_ 81 2 = ze N105_ 81 2 := hsN147_.e (by decide)
        have r3_N147_ := ze_r N147_ 81 3
        have r4_N147_ := ze_r N147_ 81 4
        have r5_N147_ := ze_r N147_ 81 5
        have r7_N147_ := ze_r N147_ 81 7
        have e14_N147_ : ze N147_ 81 14 = ze N105_ 81 14 := hsN147_.e (by decide)
        have e26_N147_ : ze N147_ 81 26 = ze N105_ 81 26 := hsN147_.e (by decide)
        have e39_N147_ : ze N147_ 81 39 = ze N105_ 81 39 := hsN147_.e (by decide)
        have c149_ : zGD N147_ := zGD.fr hsN147_ c107_ (by decide) (by decide)
        rcases hp3_N147_ with ⟨ha89_0_hp3_N147_, ha89_1_hp3_N147_⟩ | ⟨ha89_0_hp3_N147_, ha89_1_hp3_N147_, ha89_2_hp3_N147_⟩
        · skip
          show zW l m_M_letLine (zn Mz + 0, zw Mz + 0) N147_ 92 [some (.ref 81), some (.int (Int32.ofInt (ze Mz 81 4))), some (.long (Int64.ofInt (zg N1_ 81 11))), none, none] [] (zpV [3, 4, 5, 6, 7, 8, 11, 14, 38, 39, 41, 42, 43] [95, 96, 97, 100, 101, 102] Mz (fun N => 0 ≤ ze N 81 3 ∧ ze N 81 3 ≤ ze N 81 2 ∧ zTv N ∧ 0 ≤ ze N 81 14 ∧ ze N 81 14 ≤ 8 ∧ (((1 ≤ ze N 81 7 ∧ zmu N = 0) ∨ (ze N 81 7 = 0 ∧ zmu N < zmu Mz)))))
          refine zw_aload_n (pc := 92) (n := 0) (x := 81) rfl d_M_letLine_92 ?_
          refine zr_callV (hf_N147_.w hW) hf_N147_.x (pc := 93) [] [] l_M_358 (c_M_formula l N147_ (hf_N147_.w hW) c149_ (show 0 ≤ ze N147_ 81 3 by first | assumption | omega) (show ze N147_ 81 3 ≤ ze N147_ 81 2 by first | assumption | omega) (show ze N147_ 81 2 ≤ 700 by first | assumption | omega) hp2_N147_ (show 0 ≤ ze N147_ 81 7 by first | assumption | omega) (show 0 ≤ ze N147_ 81 14 by first | assumption | omega) (show ze N147_ 81 14 ≤ 8 by first | assumption | omega)) rfl rfl rfl (by decide) (Nat.le_of_ble_eq_true rfl) d_M_letLine_93 ?_
          rintro _ N150_ ⟨rfl, hsN150_, ⟨hp0_N150_, hp1_N150_, hp2_N150_, hp3_N150_⟩⟩
          have hf_N150_ : zFr [3, 4, 5, 6, 7, 8, 11, 14, 38, 39, 41, 42, 43] [95, 96, 97, 100, 101, 102] Mz N150_ := hf_N147_.tr hsN150_ (by decide) (by decide)
          have hb0_N150_ : zFr [3, 4, 5, 6, 7, 8, 11, 38, 39, 41, 42, 43] [95, 96, 97, 100] N105_ N150_ := hb0_N147_.tr hsN150_ (by decide) (by decide)
          have e2_N150_ : ze N150_ 81 2 = ze N147_ 81 2 := hsN150_.e (by decide)
          have r3_N150_ := ze_r N150_ 81 3
          have r4_N150_ := ze_r N150_ 81 4
          have r5_N150_ := ze_r N150_ 81 5
          have r7_N150_ := ze_r N150_ 81 7
          have e14_N150_ : ze N150_ 81 14 = ze N147_ 81 14 := hsN150_.e (by decide)
          have e26_N150_ : ze N150_ 81 26 = ze N147_ 81 26 := hsN150_.e (by decide)
          have r39_N150_ := ze_r N150_ 81 39
          have c152_ : zGD N150_ := zGD.fr hsN150_ c149_ (by decide) (by decide)
          rcases hp3_N150_ with ⟨ha93_0_hp3_N150_, ha93_1_hp3_N150_⟩ | ⟨ha93_0_hp3_N150_, ha93_1_hp3_N150_, ha93_2_hp3_N150_⟩
          · skip
            show zW l m_M_letLine (zn Mz + 0, zw Mz + 0) N150_ 96 [some (.ref 81), some (.int (Int32.ofInt (ze Mz 81 4))), some (.long (Int64.ofInt (zg N1_ 81 11))), none, none] [] (zpV [3, 4, 5, 6, 7, 8, 11, 14, 38, 39, 41, 42, 43] [95, 96, 97, 100, 101, 102] Mz (fun N => 0 ≤ ze N 81 3 ∧ ze N 81 3 ≤ ze N 81 2 ∧ zTv N ∧ 0 ≤ ze N 81 14 ∧ ze N 81 14 ≤ 8 ∧ (((1 ≤ ze N 81 7 ∧ zmu N = 0) ∨ (ze N 81 7 = 0 ∧ zmu N < zmu Mz)))))
            refine zw_aload_n (pc := 96) (n := 0) (x := 81) rfl d_M_letLine_96 ?_
            refine zw_bipush (pc := 97) (v := Int32.ofInt 59) (by decide) d_M_letLine_97 ?_
            refine zr_callV (hf_N150_.w hW) hf_N150_.x (pc := 99) [.int (Int32.ofInt 59)] [] l_M_355 (c_M_must l N150_ (hf_N150_.w hW) 59 (by decide) (by decide) (show 0 ≤ ze N150_ 81 3 by first | assumption | omega) (show ze N150_ 81 3 ≤ ze N150_ 81 2 by first | assumption | omega) (show ze N150_ 81 2 ≤ 700 by first | assumption | omega) hp2_N150_ (show 0 ≤ ze N150_ 81 7 by first | assumption | omega)) rfl rfl rfl (by decide) (Nat.le_of_ble_eq_true rfl) d_M_letLine_99 ?_
            rintro _ N153_ ⟨rfl, hsN153_, ⟨hp0_N153_, hp1_N153_, hp2_N153_, hp3_N153_⟩⟩
            have hf_N153_ : zFr [3, 4, 5, 6, 7, 8, 11, 14, 38, 39, 41, 42, 43] [95, 96, 97, 100, 101, 102] Mz N153_ := hf_N150_.tr hsN153_ (by decide) (by decide)
            have hb0_N153_ : zFr [3, 4, 5, 6, 7, 8, 11, 38, 39, 41, 42, 43] [95, 96, 97, 100] N105_ N153_ := hb0_N150_.tr hsN153_ (by decide) (by decide)
            have e2_N153_ : ze N153_ 81 2 = ze N150_ 81 2 := hsN153_.e (by decide)
            have r3_N153_ := ze_r N153_ 81 3
            have r4_N153_ := ze_r N153_ 81 4
            have r5_N153_ := ze_r N153_ 81 5
            have r7_N153_ := ze_r N153_ 81 7
            have e14_N153_ : ze N153_ 81 14 = ze N150_ 81 14 := hsN153_.e (by decide)
            have e26_N153_ : ze N153_ 81 26 = ze N150_ 81 26 := hsN153_.e (by decide)
            have e39_N153_ : ze N153_ 81 39 = ze N150_ 81 39 := hsN153_.e (by decide)
            have c155_ : zGD N153_ := zGD.fr hsN153_ c152_ (by decide) (by decide)
            rcases hp3_N153_ with ⟨ha99_0_hp3_N153_, ha99_1_hp3_N153_⟩ | ⟨ha99_0_hp3_N153_, ha99_1_hp3_N153_, ha99_2_hp3_N153_⟩
            · skip
              show zW l m_M_letLine (zn Mz + 0, zw Mz + 0) N153_ 102 [some (.ref 81), some (.int (Int32.ofInt (ze Mz 81 4))), some (.long (Int64.ofInt (zg N1_ 81 11))), none, none] [] (zpV [3, 4, 5, 6, 7, 8, 11, 14, 38, 39, 41, 42, 43] [95, 96, 97, 100, 101, 102] Mz (fun N => 0 ≤ ze N 81 3 ∧ ze N 81 3 ≤ ze N 81 2 ∧ zTv N ∧ 0 ≤ ze N 81 14 ∧ ze N 81 14 ≤ 8 ∧ (((1 ≤ ze N 81 7 ∧ zmu N = 0) ∨ (ze N 81 7 = 0 ∧ zmu N < zmu Mz)))))
              refine zw_aload_n (pc := 102) (n := 0) (x := 81) rfl d_M_letLine_102 ?_
              refine zr_callV (hf_N153_.w hW) hf_N153_.x (pc := 103) [] [] l_M_183 (c_M_isGood l N153_ (hf_N153_.w hW) ) rfl rfl rfl (by decide) (Nat.le_of_ble_eq_true rfl) d_M_letLine_103 ?_
              rintro _ N156_ ⟨v157_, rfl, ⟨hv157_a, hv157_b⟩, hsN156_, hp0_N156_⟩
              obtain rfl := hsN156_.eq.symm
              replace hp0_N156_ : ((v157_ = 1 ∧ ze N153_ 81 7 = 0) ∨ (v157_ = 0 ∧ ze N153_ 81 7 ≠ 0)) := hp0_N156_
              rcases hp0_N156_ with ⟨rfl, ha103_0_hp0_N156_⟩ | ⟨rfl, ha103_0_hp0_N156_⟩
              · skip
                exfalso; omega
              · skip
                show zW l m_M_letLine (zn Mz + 0, zw Mz + 0) N153_ 106 [some (.ref 81), some (.int (Int32.ofInt (ze Mz 81 4))), some (.long (Int64.ofInt (zg N1_ 81 11))), none, none] [.int (Int32.ofInt 0)] (zpV [3, 4, 5, 6, 7, 8, 11, 14, 38, 39, 41, 42, 43] [95, 96, 97, 100, 101, 102] Mz (fun N => 0 ≤ ze N 81 3 ∧ ze N 81 3 ≤ ze N 81 2 ∧ zTv N ∧ 0 ≤ ze N 81 14 ∧ ze N 81 14 ≤ 8 ∧ (((1 ≤ ze N 81 7 ∧ zmu N = 0) ∨ (ze N 81 7 = 0 ∧ zmu N < zmu Mz)))))
                refine zr_if_eq (pc := 106) (tgt := 123) ⟨(by decide), (by decide)⟩ (by decide) d_M_letLine_106 (fun hc_106 => ?_) (fun hc_106 => ?_)
                · skip
                  exact j_123 N153_ hb0_N153_ (show 0 ≤ ze N153_ 81 3 by first | assumption | omega) (show ze N153_ 81 3 ≤ ze N153_ 81 2 by first | assumption | omega) hp2_N153_ (show (1 ≤ ze N153_ 81 7 ∧ zmu N153_ = 0) ∨ (ze N153_ 81 7 = 0 ∧ zmu N153_ < zmu Mz) from Or.inl (⟨(show 1 ≤ ze N153_ 81 7 by first | assumption | omega), (show zmu N153_ = 0 by first | assumption | omega)⟩))
                · skip
                  exact absurd hc_106 (by decide)
            · skip
              show zW l m_M_letLine (zn Mz + 0, zw Mz + 0) N153_ 102 [some (.ref 81), some (.int (Int32.ofInt (ze Mz 81 4))), some (.long (Int64.ofInt (zg N1_ 81 11))), none, none] [] (zpV [3, 4, 5, 6, 7, 8, 11, 14, 38, 39, 41, 42, 43] [95, 96, 97, 100, 101, 102] Mz (fun N => 0 ≤ ze N 81 3 ∧ ze N 81 3 ≤ ze N 81 2 ∧ zTv N ∧ 0 ≤ ze N 81 14 ∧ ze N 81 14 ≤ 8 ∧ (((1 ≤ ze N 81 7 ∧ zmu N = 0) ∨ (ze N 81 7 = 0 ∧ zmu N < zmu Mz)))))
              refine zw_aload_n (pc := 102) (n := 0) (x := 81) rfl d_M_letLine_102 ?_
              refine zr_callV (hf_N153_.w hW) hf_N153_.x (pc := 103) [] [] l_M_183 (c_M_isGood l N153_ (hf_N153_.w hW) ) rfl rfl rfl (by decide) (Nat.le_of_ble_eq_true rfl) d_M_letLine_103 ?_
              rintro _ N158_ ⟨v159_, rfl, ⟨hv159_a, hv159_b⟩, hsN158_, hp0_N158_⟩
              obtain rfl := hsN158_.eq.symm
              replace hp0_N158_ : ((v159_ = 1 ∧ ze N153_ 81 7 = 0) ∨ (v159_ = 0 ∧ ze N153_ 81 7 ≠ 0)) := hp0_N158_
              rcases hp0_N158_ with ⟨rfl, ha103_0_hp0_N158_⟩ | ⟨rfl, ha103_0_hp0_N158_⟩
              · skip
                show zW l m_M_letLine (zn Mz + 0, zw Mz + 0) N153_ 106 [some (.ref 81), some (.int (Int32.ofInt (ze Mz 81 4))), some (.long (Int64.ofInt (zg N1_ 81 11))), none, none] [.int (Int32.ofInt 1)] (zpV [3, 4, 5, 6, 7, 8, 11, 14, 38, 39, 41, 42, 43] [95, 96, 97, 100, 101, 102] Mz (fun N => 0 ≤ ze N 81 3 ∧ ze N 81 3 ≤ ze N 81 2 ∧ zTv N ∧ 0 ≤ ze N 81 14 ∧ ze N 81 14 ≤ 8 ∧ (((1 ≤ ze N 81 7 ∧ zmu N = 0) ∨ (ze N 81 7 = 0 ∧ zmu N < zmu Mz)))))
                refine zr_if_eq (pc := 106) (tgt := 123) ⟨(by decide), (by decide)⟩ (by decide) d_M_letLine_106 (fun hc_106 => ?_) (fun hc_106 => ?_)
                · skip
                  exact absurd hc_106 (by decide)
                · skip
                  refine zw_aload_n (pc := 109) (n := 0) (x := 81) rfl d_M_letLine_109 ?_
                  refine zr_getI (hf_N153_.w hW) (pc := 110) f_M_275 rfl d_M_letLine_110 ?_
                  refine zr_if_eq (pc := 113) (tgt := 123) ⟨(ze_r N153_ 81 39).1, (ze_r N153_ 81 39).2⟩ (by decide) d_M_letLine_113 (fun hc_113 => ?_) (fun hc_113 => ?_)
                  · skip
                    exact j_123 N153_ hb0_N153_ (show 0 ≤ ze N153_ 81 3 by first | assumption | omega) (show ze N153_ 81 3 ≤ ze N153_ 81 2 by first | assumption | omega) hp2_N153_ (show (1 ≤ ze N153_ 81 7 ∧ zmu N153_ = 0) ∨ (ze N153_ 81 7 = 0 ∧ zmu N153_ < zmu Mz) from Or.inr (⟨(show ze N153_ 81 7 = 0 by first | assumption | omega), (show zmu N153_ < zmu Mz by first | assumption | omega)⟩))
                  · skip
                    refine zw_aload_n (pc := 116) (n := 0) (x := 81) rfl d_M_letLine_116 ?_
                    refine zw_bipush (pc := 117) (v := Int32.ofInt 6) (by decide) d_M_letLine_117 ?_
                    refine zw_iload_n (pc := 119) (n := 1) (x := Int32.ofInt (ze Mz 81 4)) rfl d_M_letLine_119 ?_
                    refine zr_callV (hf_N153_.w hW) hf_N153_.x (pc := 120) [.int (Int32.ofInt 6), .int (Int32.ofInt (ze Mz 81 4))] [] l_M_168 (c_M_wrongAt l N153_ (hf_N153_.w hW) 6 (by decide) (by decide) (ze Mz 81 4) (ze_r Mz 81 4).1 (ze_r Mz 81 4).2 (show ze N153_ 81 7 = 0 by first | assumption | omega) (show 1 ≤ 6 by first | assumption | omega)) rfl rfl rfl (by decide) (Nat.le_of_ble_eq_true rfl) d_M_letLine_120 ?_
                    rintro _ N160_ ⟨rfl, hsN160_, ⟨hp0_N160_, hp1_N160_⟩⟩
                    have hf_N160_ : zFr [3, 4, 5, 6, 7, 8, 11, 14, 38, 39, 41, 42, 43] [95, 96, 97, 100, 101, 102] Mz N160_ := hf_N153_.tr hsN160_ (by decide) (by decide)
                    have hb0_N160_ : zFr [3, 4, 5, 6, 7, 8, 11, 38, 39, 41, 42, 43] [95, 96, 97, 100] N105_ N160_ := hb0_N153_.tr hsN160_ (by decide) (by decide)
                    have e2_N160_ : ze N160_ 81 2 = ze N153_ 81 2 := hsN160_.e (by decide)
                    have e3_N160_ : ze N160_ 81 3 = ze N153_ 81 3 := hsN160_.e (by decide)
                    have e4_N160_ : ze N160_ 81 4 = ze N153_ 81 4 := hsN160_.e (by decide)
                    have e5_N160_ : ze N160_ 81 5 = ze N153_ 81 5 := hsN160_.e (by decide)
                    have r7_N160_ := ze_r N160_ 81 7
                    have e14_N160_ : ze N160_ 81 14 = ze N153_ 81 14 := hsN160_.e (by decide)
                    have e26_N160_ : ze N160_ 81 26 = ze N153_ 81 26 := hsN160_.e (by decide)
                    have e39_N160_ : ze N160_ 81 39 = ze N153_ 81 39 := hsN160_.e (by decide)
                    have c162_ : zGD N160_ := zGD.fr hsN160_ c155_ (by decide) (by decide)
                    have c163_ : zTv N160_ := zTv.fr hsN160_ hp2_N153_ (by decide) (by decide)
                    show zW l m_M_letLine (zn Mz + 0, zw Mz + 0) N160_ 123 [some (.ref 81), some (.int (Int32.ofInt (ze Mz 81 4))), some (.long (Int64.ofInt (zg N1_ 81 11))), none, none] [] (zpV [3, 4, 5, 6, 7, 8, 11, 14, 38, 39, 41, 42, 43] [95, 96, 97, 100, 101, 102] Mz (fun N => 0 ≤ ze N 81 3 ∧ ze N 81 3 ≤ ze N 81 2 ∧ zTv N ∧ 0 ≤ ze N 81 14 ∧ ze N 81 14 ≤ 8 ∧ (((1 ≤ ze N 81 7 ∧ zmu N = 0) ∨ (ze N 81 7 = 0 ∧ zmu N < zmu Mz)))))
                    exact j_123 N160_ hb0_N160_ (show 0 ≤ ze N160_ 81 3 by first | assumption | omega) (show ze N160_ 81 3 ≤ ze N160_ 81 2 by first | assumption | omega) c163_ (show (1 ≤ ze N160_ 81 7 ∧ zmu N160_ = 0) ∨ (ze N160_ 81 7 = 0 ∧ zmu N160_ < zmu Mz) from Or.inl (⟨(show 1 ≤ ze N160_ 81 7 by first | assumption | omega), (show zmu N160_ = 0 by first | assumption | omega)⟩))
              · skip
                exfalso; omega
          · skip
            show zW l m_M_letLine (zn Mz + 0, zw Mz + 0) N150_ 96 [some (.ref 81), some (.int (Int32.ofInt (ze Mz 81 4))), some (.long (Int64.ofInt (zg N1_ 81 11))), none, none] [] (zpV [3, 4, 5, 6, 7, 8, 11, 14, 38, 39, 41, 42, 43] [95, 96, 97, 100, 101, 102] Mz (fun N => 0 ≤ ze N 81 3 ∧ ze N 81 3 ≤ ze N 81 2 ∧ zTv N ∧ 0 ≤ ze N 81 14 ∧ ze N 81 14 ≤ 8 ∧ (((1 ≤ ze N 81 7 ∧ zmu N = 0) ∨ (ze N 81 7 = 0 ∧ zmu N < zmu Mz)))))
            refine zw_aload_n (pc := 96) (n := 0) (x := 81) rfl d_M_letLine_96 ?_
            refine zw_bipush (pc := 97) (v := Int32.ofInt 59) (by decide) d_M_letLine_97 ?_
            refine zr_callV (hf_N150_.w hW) hf_N150_.x (pc := 99) [.int (Int32.ofInt 59)] [] l_M_355 (c_M_must l N150_ (hf_N150_.w hW) 59 (by decide) (by decide) (show 0 ≤ ze N150_ 81 3 by first | assumption | omega) (show ze N150_ 81 3 ≤ ze N150_ 81 2 by first | assumption | omega) (show ze N150_ 81 2 ≤ 700 by first | assumption | omega) hp2_N150_ (show 0 ≤ ze N150_ 81 7 by first | assumption | omega)) rfl rfl rfl (by decide) (Nat.le_of_ble_eq_true rfl) d_M_letLine_99 ?_
            rintro _ N164_ ⟨rfl, hsN164_, ⟨hp0_N164_, hp1_N164_, hp2_N164_, hp3_N164_⟩⟩
            have hf_N164_ : zFr [3, 4, 5, 6, 7, 8, 11, 14, 38, 39, 41, 42, 43] [95, 96, 97, 100, 101, 102] Mz N164_ := hf_N150_.tr hsN164_ (by decide) (by decide)
            have hb0_N164_ : zFr [3, 4, 5, 6, 7, 8, 11, 38, 39, 41, 42, 43] [95, 96, 97, 100] N105_ N164_ := hb0_N150_.tr hsN164_ (by decide) (by decide)
            have e2_N164_ : ze N164_ 81 2 = ze N150_ 81 2 := hsN164_.e (by decide)
            have r3_N164_ := ze_r N164_ 81 3
            have r4_N164_ := ze_r N164_ 81 4
            have r5_N164_ := ze_r N164_ 81 5
            have r7_N164_ := ze_r N164_ 81 7
            have e14_N164_ : ze N164_ 81 14 = ze N150_ 81 14 := hsN164_.e (by decide)
            have e26_N164_ : ze N164_ 81 26 = ze N150_ 81 26 := hsN164_.e (by decide)
            have e39_N164_ : ze N164_ 81 39 = ze N150_ 81 39 := hsN164_.e (by decide)
            have c166_ : zGD N164_ := zGD.fr hsN164_ c152_ (by decide) (by decide)
            rcases hp3_N164_ with ⟨ha99_0_hp3_N164_, ha99_1_hp3_N164_⟩ | ⟨ha99_0_hp3_N164_, ha99_1_hp3_N164_, ha99_2_hp3_N164_⟩
            · skip
              show zW l m_M_letLine (zn Mz + 0, zw Mz + 0) N164_ 102 [some (.ref 81), some (.int (Int32.ofInt (ze Mz 81 4))), some (.long (Int64.ofInt (zg N1_ 81 11))), none, none] [] (zpV [3, 4, 5, 6, 7, 8, 11, 14, 38, 39, 41, 42, 43] [95, 96, 97, 100, 101, 102] Mz (fun N => 0 ≤ ze N 81 3 ∧ ze N 81 3 ≤ ze N 81 2 ∧ zTv N ∧ 0 ≤ ze N 81 14 ∧ ze N 81 14 ≤ 8 ∧ (((1 ≤ ze N 81 7 ∧ zmu N = 0) ∨ (ze N 81 7 = 0 ∧ zmu N < zmu Mz)))))
              refine zw_aload_n (pc := 102) (n := 0) (x := 81) rfl d_M_letLine_102 ?_
              refine zr_callV (hf_N164_.w hW) hf_N164_.x (pc := 103) [] [] l_M_183 (c_M_isGood l N164_ (hf_N164_.w hW) ) rfl rfl rfl (by decide) (Nat.le_of_ble_eq_true rfl) d_M_letLine_103 ?_
              rintro _ N167_ ⟨v168_, rfl, ⟨hv168_a, hv168_b⟩, hsN167_, hp0_N167_⟩
              obtain rfl := hsN167_.eq.symm
              replace hp0_N167_ : ((v168_ = 1 ∧ ze N164_ 81 7 = 0) ∨ (v168_ = 0 ∧ ze N164_ 81 7 ≠ 0)) := hp0_N167_
              rcases hp0_N167_ with ⟨rfl, ha103_0_hp0_N167_⟩ | ⟨rfl, ha103_0_hp0_N167_⟩
              · skip
                exfalso; omega
              · skip
                show zW l m_M_letLine (zn Mz + 0, zw Mz + 0) N164_ 106 [some (.ref 81), some (.int (Int32.ofInt (ze Mz 81 4))), some (.long (Int64.ofInt (zg N1_ 81 11))), none, none] [.int (Int32.ofInt 0)] (zpV [3, 4, 5, 6, 7, 8, 11, 14, 38, 39, 41, 42, 43] [95, 96, 97, 100, 101, 102] Mz (fun N => 0 ≤ ze N 81 3 ∧ ze N 81 3 ≤ ze N 81 2 ∧ zTv N ∧ 0 ≤ ze N 81 14 ∧ ze N 81 14 ≤ 8 ∧ (((1 ≤ ze N 81 7 ∧ zmu N = 0) ∨ (ze N 81 7 = 0 ∧ zmu N < zmu Mz)))))
                refine zr_if_eq (pc := 106) (tgt := 123) ⟨(by decide), (by decide)⟩ (by decide) d_M_letLine_106 (fun hc_106 => ?_) (fun hc_106 => ?_)
                · skip
                  exact j_123 N164_ hb0_N164_ (show 0 ≤ ze N164_ 81 3 by first | assumption | omega) (show ze N164_ 81 3 ≤ ze N164_ 81 2 by first | assumption | omega) hp2_N164_ (show (1 ≤ ze N164_ 81 7 ∧ zmu N164_ = 0) ∨ (ze N164_ 81 7 = 0 ∧ zmu N164_ < zmu Mz) from Or.inl (⟨(show 1 ≤ ze N164_ 81 7 by first | assumption | omega), (show zmu N164_ = 0 by first | assumption | omega)⟩))
                · skip
                  exact absurd hc_106 (by decide)
            · skip
              show zW l m_M_letLine (zn Mz + 0, zw Mz + 0) N164_ 102 [some (.ref 81), some (.int (Int32.ofInt (ze Mz 81 4))), some (.long (Int64.ofInt (zg N1_ 81 11))), none, none] [] (zpV [3, 4, 5, 6, 7, 8, 11, 14, 38, 39, 41, 42, 43] [95, 96, 97, 100, 101, 102] Mz (fun N => 0 ≤ ze N 81 3 ∧ ze N 81 3 ≤ ze N 81 2 ∧ zTv N ∧ 0 ≤ ze N 81 14 ∧ ze N 81 14 ≤ 8 ∧ (((1 ≤ ze N 81 7 ∧ zmu N = 0) ∨ (ze N 81 7 = 0 ∧ zmu N < zmu Mz)))))
              refine zw_aload_n (pc := 102) (n := 0) (x := 81) rfl d_M_letLine_102 ?_
              refine zr_callV (hf_N164_.w hW) hf_N164_.x (pc := 103) [] [] l_M_183 (c_M_isGood l N164_ (hf_N164_.w hW) ) rfl rfl rfl (by decide) (Nat.le_of_ble_eq_true rfl) d_M_letLine_103 ?_
              rintro _ N169_ ⟨v170_, rfl, ⟨hv170_a, hv170_b⟩, hsN169_, hp0_N169_⟩
              obtain rfl := hsN169_.eq.symm
              replace hp0_N169_ : ((v170_ = 1 ∧ ze N164_ 81 7 = 0) ∨ (v170_ = 0 ∧ ze N164_ 81 7 ≠ 0)) := hp0_N169_
              rcases hp0_N169_ with ⟨rfl, ha103_0_hp0_N169_⟩ | ⟨rfl, ha103_0_hp0_N169_⟩
              · skip
                show zW l m_M_letLine (zn Mz + 0, zw Mz + 0) N164_ 106 [some (.ref 81), some (.int (Int32.ofInt (ze Mz 81 4))), some (.long (Int64.ofInt (zg N1_ 81 11))), none, none] [.int (Int32.ofInt 1)] (zpV [3, 4, 5, 6, 7, 8, 11, 14, 38, 39, 41, 42, 43] [95, 96, 97, 100, 101, 102] Mz (fun N => 0 ≤ ze N 81 3 ∧ ze N 81 3 ≤ ze N 81 2 ∧ zTv N ∧ 0 ≤ ze N 81 14 ∧ ze N 81 14 ≤ 8 ∧ (((1 ≤ ze N 81 7 ∧ zmu N = 0) ∨ (ze N 81 7 = 0 ∧ zmu N < zmu Mz)))))
                refine zr_if_eq (pc := 106) (tgt := 123) ⟨(by decide), (by decide)⟩ (by decide) d_M_letLine_106 (fun hc_106 => ?_) (fun hc_106 => ?_)
                · skip
                  exact absurd hc_106 (by decide)
                · skip
                  refine zw_aload_n (pc := 109) (n := 0) (x := 81) rfl d_M_letLine_109 ?_
                  refine zr_getI (hf_N164_.w hW) (pc := 110) f_M_275 rfl d_M_letLine_110 ?_
                  refine zr_if_eq (pc := 113) (tgt := 123) ⟨(ze_r N164_ 81 39).1, (ze_r N164_ 81 39).2⟩ (by decide) d_M_letLine_113 (fun hc_113 => ?_) (fun hc_113 => ?_)
                  · skip
                    exact j_123 N164_ hb0_N164_ (show 0 ≤ ze N164_ 81 3 by first | assumption | omega) (show ze N164_ 81 3 ≤ ze N164_ 81 2 by first | assumption | omega) hp2_N164_ (show (1 ≤ ze N164_ 81 7 ∧ zmu N164_ = 0) ∨ (ze N164_ 81 7 = 0 ∧ zmu N164_ < zmu Mz) from Or.inr (⟨(show ze N164_ 81 7 = 0 by first | assumption | omega), (show zmu N164_ < zmu Mz by first | assumption | omega)⟩))
                  · skip
                    refine zw_aload_n (pc := 116) (n := 0) (x := 81) rfl d_M_letLine_116 ?_
                    refine zw_bipush (pc := 117) (v := Int32.ofInt 6) (by decide) d_M_letLine_117 ?_
                    refine zw_iload_n (pc := 119) (n := 1) (x := Int32.ofInt (ze Mz 81 4)) rfl d_M_letLine_119 ?_
                    refine zr_callV (hf_N164_.w hW) hf_N164_.x (pc := 120) [.int (Int32.ofInt 6), .int (Int32.ofInt (ze Mz 81 4))] [] l_M_168 (c_M_wrongAt l N164_ (hf_N164_.w hW) 6 (by decide) (by decide) (ze Mz 81 4) (ze_r Mz 81 4).1 (ze_r Mz 81 4).2 (show ze N164_ 81 7 = 0 by first | assumption | omega) (show 1 ≤ 6 by first | assumption | omega)) rfl rfl rfl (by decide) (Nat.le_of_ble_eq_true rfl) d_M_letLine_120 ?_
                    rintro _ N171_ ⟨rfl, hsN171_, ⟨hp0_N171_, hp1_N171_⟩⟩
                    have hf_N171_ : zFr [3, 4, 5, 6, 7, 8, 11, 14, 38, 39, 41, 42, 43] [95, 96, 97, 100, 101, 102] Mz N171_ := hf_N164_.tr hsN171_ (by decide) (by decide)
                    have hb0_N171_ : zFr [3, 4, 5, 6, 7, 8, 11, 38, 39, 41, 42, 43] [95, 96, 97, 100] N105_ N171_ := hb0_N164_.tr hsN171_ (by decide) (by decide)
                    have e2_N171_ : ze N171_ 81 2 = ze N164_ 81 2 := hsN171_.e (by decide)
                    have e3_N171_ : ze N171_ 81 3 = ze N164_ 81 3 := hsN171_.e (by decide)
                    have e4_N171_ : ze N171_ 81 4 = ze N164_ 81 4 := hsN171_.e (by decide)
                    have e5_N171_ : ze N171_ 81 5 = ze N164_ 81 5 := hsN171_.e (by decide)
                    have r7_N171_ := ze_r N171_ 81 7
                    have e14_N171_ : ze N171_ 81 14 = ze N164_ 81 14 := hsN171_.e (by decide)
                    have e26_N171_ : ze N171_ 81 26 = ze N164_ 81 26 := hsN171_.e (by decide)
                    have e39_N171_ : ze N171_ 81 39 = ze N164_ 81 39 := hsN171_.e (by decide)
                    have c173_ : zGD N171_ := zGD.fr hsN171_ c166_ (by decide) (by decide)
                    have c174_ : zTv N171_ := zTv.fr hsN171_ hp2_N164_ (by decide) (by decide)
                    show zW l m_M_letLine (zn Mz + 0, zw Mz + 0) N171_ 123 [some (.ref 81), some (.int (Int32.ofInt (ze Mz 81 4))), some (.long (Int64.ofInt (zg N1_ 81 11))), none, none] [] (zpV [3, 4, 5, 6, 7, 8, 11, 14, 38, 39, 41, 42, 43] [95, 96, 97, 100, 101, 102] Mz (fun N => 0 ≤ ze N 81 3 ∧ ze N 81 3 ≤ ze N 81 2 ∧ zTv N ∧ 0 ≤ ze N 81 14 ∧ ze N 81 14 ≤ 8 ∧ (((1 ≤ ze N 81 7 ∧ zmu N = 0) ∨ (ze N 81 7 = 0 ∧ zmu N < zmu Mz)))))
                    exact j_123 N171_ hb0_N171_ (show 0 ≤ ze N171_ 81 3 by first | assumption | omega) (show ze N171_ 81 3 ≤ ze N171_ 81 2 by first | assumption | omega) c174_ (show (1 ≤ ze N171_ 81 7 ∧ zmu N171_ = 0) ∨ (ze N171_ 81 7 = 0 ∧ zmu N171_ < zmu Mz) from Or.inl (⟨(show 1 ≤ ze N171_ 81 7 by first | assumption | omega), (show zmu N171_ = 0 by first | assumption | omega)⟩))
              · skip
                exfalso; omega
        · skip
          show zW l m_M_letLine (zn Mz + 0, zw Mz + 0) N147_ 92 [some (.ref 81), some (.int (Int32.ofInt (ze Mz 81 4))), some (.long (Int64.ofInt (zg N1_ 81 11))), none, none] [] (zpV [3, 4, 5, 6, 7, 8, 11, 14, 38, 39, 41, 42, 43] [95, 96, 97, 100, 101, 102] Mz (fun N => 0 ≤ ze N 81 3 ∧ ze N 81 3 ≤ ze N 81 2 ∧ zTv N ∧ 0 ≤ ze N 81 14 ∧ ze N 81 14 ≤ 8 ∧ (((1 ≤ ze N 81 7 ∧ zmu N = 0) ∨ (ze N 81 7 = 0 ∧ zmu N < zmu Mz)))))
          refine zw_aload_n (pc := 92) (n := 0) (x := 81) rfl d_M_letLine_92 ?_
          refine zr_callV (hf_N147_.w hW) hf_N147_.x (pc := 93) [] [] l_M_358 (c_M_formula l N147_ (hf_N147_.w hW) c149_ (show 0 ≤ ze N147_ 81 3 by first | assumption | omega) (show ze N147_ 81 3 ≤ ze N147_ 81 2 by first | assumption | omega) (show ze N147_ 81 2 ≤ 700 by first | assumption | omega) hp2_N147_ (show 0 ≤ ze N147_ 81 7 by first | assumption | omega) (show 0 ≤ ze N147_ 81 14 by first | assumption | omega) (show ze N147_ 81 14 ≤ 8 by first | assumption | omega)) rfl rfl rfl (by decide) (Nat.le_of_ble_eq_true rfl) d_M_letLine_93 ?_
          rintro _ N175_ ⟨rfl, hsN175_, ⟨hp0_N175_, hp1_N175_, hp2_N175_, hp3_N175_⟩⟩
          have hf_N175_ : zFr [3, 4, 5, 6, 7, 8, 11, 14, 38, 39, 41, 42, 43] [95, 96, 97, 100, 101, 102] Mz N175_ := hf_N147_.tr hsN175_ (by decide) (by decide)
          have hb0_N175_ : zFr [3, 4, 5, 6, 7, 8, 11, 38, 39, 41, 42, 43] [95, 96, 97, 100] N105_ N175_ := hb0_N147_.tr hsN175_ (by decide) (by decide)
          have e2_N175_ : ze N175_ 81 2 = ze N147_ 81 2 := hsN175_.e (by decide)
          have r3_N175_ := ze_r N175_ 81 3
          have r4_N175_ := ze_r N175_ 81 4
          have r5_N175_ := ze_r N175_ 81 5
          have r7_N175_ := ze_r N175_ 81 7
          have e14_N175_ : ze N175_ 81 14 = ze N147_ 81 14 := hsN175_.e (by decide)
          have e26_N175_ : ze N175_ 81 26 = ze N147_ 81 26 := hsN175_.e (by decide)
          have r39_N175_ := ze_r N175_ 81 39
          have c177_ : zGD N175_ := zGD.fr hsN175_ c149_ (by decide) (by decide)
          rcases hp3_N175_ with ⟨ha93_0_hp3_N175_, ha93_1_hp3_N175_⟩ | ⟨ha93_0_hp3_N175_, ha93_1_hp3_N175_, ha93_2_hp3_N175_⟩
          · skip
            show zW l m_M_letLine (zn Mz + 0, zw Mz + 0) N175_ 96 [some (.ref 81), some (.int (Int32.ofInt (ze Mz 81 4))), some (.long (Int64.ofInt (zg N1_ 81 11))), none, none] [] (zpV [3, 4, 5, 6, 7, 8, 11, 14, 38, 39, 41, 42, 43] [95, 96, 97, 100, 101, 102] Mz (fun N => 0 ≤ ze N 81 3 ∧ ze N 81 3 ≤ ze N 81 2 ∧ zTv N ∧ 0 ≤ ze N 81 14 ∧ ze N 81 14 ≤ 8 ∧ (((1 ≤ ze N 81 7 ∧ zmu N = 0) ∨ (ze N 81 7 = 0 ∧ zmu N < zmu Mz)))))
            refine zw_aload_n (pc := 96) (n := 0) (x := 81) rfl d_M_letLine_96 ?_
            refine zw_bipush (pc := 97) (v := Int32.ofInt 59) (by decide) d_M_letLine_97 ?_
            refine zr_callV (hf_N175_.w hW) hf_N175_.x (pc := 99) [.int (Int32.ofInt 59)] [] l_M_355 (c_M_must l N175_ (hf_N175_.w hW) 59 (by decide) (by decide) (show 0 ≤ ze N175_ 81 3 by first | assumption | omega) (show ze N175_ 81 3 ≤ ze N175_ 81 2 by first | assumption | omega) (show ze N175_ 81 2 ≤ 700 by first | assumption | omega) hp2_N175_ (show 0 ≤ ze N175_ 81 7 by first | assumption | omega)) rfl rfl rfl (by decide) (Nat.le_of_ble_eq_true rfl) d_M_letLine_99 ?_
            rintro _ N178_ ⟨rfl, hsN178_, ⟨hp0_N178_, hp1_N178_, hp2_N178_, hp3_N178_⟩⟩
            have hf_N178_ : zFr [3, 4, 5, 6, 7, 8, 11, 14, 38, 39, 41, 42, 43] [95, 96, 97, 100, 101, 102] Mz N178_ := hf_N175_.tr hsN178_ (by decide) (by decide)
            have hb0_N178_ : zFr [3, 4, 5, 6, 7, 8, 11, 38, 39, 41, 42, 43] [95, 96, 97, 100] N105_ N178_ := hb0_N175_.tr hsN178_ (by decide) (by decide)
            have e2_N178_ : ze N178_ 81 2 = ze N175_ 81 2 := hsN178_.e (by decide)
            have r3_N178_ := ze_r N178_ 81 3
            have r4_N178_ := ze_r N178_ 81 4
            have r5_N178_ := ze_r N178_ 81 5
            have r7_N178_ := ze_r N178_ 81 7
            have e14_N178_ : ze N178_ 81 14 = ze N175_ 81 14 := hsN178_.e (by decide)
            have e26_N178_ : ze N178_ 81 26 = ze N175_ 81 26 := hsN178_.e (by decide)
            have e39_N178_ : ze N178_ 81 39 = ze N175_ 81 39 := hsN178_.e (by decide)
            have c180_ : zGD N178_ := zGD.fr hsN178_ c177_ (by decide) (by decide)
            rcases hp3_N178_ with ⟨ha99_0_hp3_N178_, ha99_1_hp3_N178_⟩ | ⟨ha99_0_hp3_N178_, ha99_1_hp3_N178_, ha99_2_hp3_N178_⟩
            · skip
              show zW l m_M_letLine (zn Mz + 0, zw Mz + 0) N178_ 102 [some (.ref 81), some (.int (Int32.ofInt (ze Mz 81 4))), some (.long (Int64.ofInt (zg N1_ 81 11))), none, none] [] (zpV [3, 4, 5, 6, 7, 8, 11, 14, 38, 39, 41, 42, 43] [95, 96, 97, 100, 101, 102] Mz (fun N => 0 ≤ ze N 81 3 ∧ ze N 81 3 ≤ ze N 81 2 ∧ zTv N ∧ 0 ≤ ze N 81 14 ∧ ze N 81 14 ≤ 8 ∧ (((1 ≤ ze N 81 7 ∧ zmu N = 0) ∨ (ze N 81 7 = 0 ∧ zmu N < zmu Mz)))))
              refine zw_aload_n (pc := 102) (n := 0) (x := 81) rfl d_M_letLine_102 ?_
              refine zr_callV (hf_N178_.w hW) hf_N178_.x (pc := 103) [] [] l_M_183 (c_M_isGood l N178_ (hf_N178_.w hW) ) rfl rfl rfl (by decide) (Nat.le_of_ble_eq_true rfl) d_M_letLine_103 ?_
              rintro _ N181_ ⟨v182_, rfl, ⟨hv182_a, hv182_b⟩, hsN181_, hp0_N181_⟩
              obtain rfl := hsN181_.eq.symm
              replace hp0_N181_ : ((v182_ = 1 ∧ ze N178_ 81 7 = 0) ∨ (v182_ = 0 ∧ ze N178_ 81 7 ≠ 0)) := hp0_N181_
              rcases hp0_N181_ with ⟨rfl, ha103_0_hp0_N181_⟩ | ⟨rfl, ha103_0_hp0_N181_⟩
              · skip
                exfalso; omega
              · skip
                show zW l m_M_letLine (zn Mz + 0, zw Mz + 0) N178_ 106 [some (.ref 81), some (.int (Int32.ofInt (ze Mz 81 4))), some (.long (Int64.ofInt (zg N1_ 81 11))), none, none] [.int (Int32.ofInt 0)] (zpV [3, 4, 5, 6, 7, 8, 11, 14, 38, 39, 41, 42, 43] [95, 96, 97, 100, 101, 102] Mz (fun N => 0 ≤ ze N 81 3 ∧ ze N 81 3 ≤ ze N 81 2 ∧ zTv N ∧ 0 ≤ ze N 81 14 ∧ ze N 81 14 ≤ 8 ∧ (((1 ≤ ze N 81 7 ∧ zmu N = 0) ∨ (ze N 81 7 = 0 ∧ zmu N < zmu Mz)))))
                refine zr_if_eq (pc := 106) (tgt := 123) ⟨(by decide), (by decide)⟩ (by decide) d_M_letLine_106 (fun hc_106 => ?_) (fun hc_106 => ?_)
                · skip
                  exact j_123 N178_ hb0_N178_ (show 0 ≤ ze N178_ 81 3 by first | assumption | omega) (show ze N178_ 81 3 ≤ ze N178_ 81 2 by first | assumption | omega) hp2_N178_ (show (1 ≤ ze N178_ 81 7 ∧ zmu N178_ = 0) ∨ (ze N178_ 81 7 = 0 ∧ zmu N178_ < zmu Mz) from Or.inl (⟨(show 1 ≤ ze N178_ 81 7 by first | assumption | omega), (show zmu N178_ = 0 by first | assumption | omega)⟩))
                · skip
                  exact absurd hc_106 (by decide)
            · skip
              show zW l m_M_letLine (zn Mz + 0, zw Mz + 0) N178_ 102 [some (.ref 81), some (.int (Int32.ofInt (ze Mz 81 4))), some (.long (Int64.ofInt (zg N1_ 81 11))), none, none] [] (zpV [3, 4, 5, 6, 7, 8, 11, 14, 38, 39, 41, 42, 43] [95, 96, 97, 100, 101, 102] Mz (fun N => 0 ≤ ze N 81 3 ∧ ze N 81 3 ≤ ze N 81 2 ∧ zTv N ∧ 0 ≤ ze N 81 14 ∧ ze N 81 14 ≤ 8 ∧ (((1 ≤ ze N 81 7 ∧ zmu N = 0) ∨ (ze N 81 7 = 0 ∧ zmu N < zmu Mz)))))
              refine zw_aload_n (pc := 102) (n := 0) (x := 81) rfl d_M_letLine_102 ?_
              refine zr_callV (hf_N178_.w hW) hf_N178_.x (pc := 103) [] [] l_M_183 (c_M_isGood l N178_ (hf_N178_.w hW) ) rfl rfl rfl (by decide) (Nat.le_of_ble_eq_true rfl) d_M_letLine_103 ?_
              rintro _ N183_ ⟨v184_, rfl, ⟨hv184_a, hv184_b⟩, hsN183_, hp0_N183_⟩
              obtain rfl := hsN183_.eq.symm
              replace hp0_N183_ : ((v184_ = 1 ∧ ze N178_ 81 7 = 0) ∨ (v184_ = 0 ∧ ze N178_ 81 7 ≠ 0)) := hp0_N183_
              rcases hp0_N183_ with ⟨rfl, ha103_0_hp0_N183_⟩ | ⟨rfl, ha103_0_hp0_N183_⟩
              · skip
                show zW l m_M_letLine (zn Mz + 0, zw Mz + 0) N178_ 106 [some (.ref 81), some (.int (Int32.ofInt (ze Mz 81 4))), some (.long (Int64.ofInt (zg N1_ 81 11))), none, none] [.int (Int32.ofInt 1)] (zpV [3, 4, 5, 6, 7, 8, 11, 14, 38, 39, 41, 42, 43] [95, 96, 97, 100, 101, 102] Mz (fun N => 0 ≤ ze N 81 3 ∧ ze N 81 3 ≤ ze N 81 2 ∧ zTv N ∧ 0 ≤ ze N 81 14 ∧ ze N 81 14 ≤ 8 ∧ (((1 ≤ ze N 81 7 ∧ zmu N = 0) ∨ (ze N 81 7 = 0 ∧ zmu N < zmu Mz)))))
                refine zr_if_eq (pc := 106) (tgt := 123) ⟨(by decide), (by decide)⟩ (by decide) d_M_letLine_106 (fun hc_106 => ?_) (fun hc_106 => ?_)
                · skip
                  exact absurd hc_106 (by decide)
                · skip
                  refine zw_aload_n (pc := 109) (n := 0) (x := 81) rfl d_M_letLine_109 ?_
                  refine zr_getI (hf_N178_.w hW) (pc := 110) f_M_275 rfl d_M_letLine_110 ?_
                  refine zr_if_eq (pc := 113) (tgt := 123) ⟨(ze_r N178_ 81 39).1, (ze_r N178_ 81 39).2⟩ (by decide) d_M_letLine_113 (fun hc_113 => ?_) (fun hc_113 => ?_)
                  · skip
                    exact j_123 N178_ hb0_N178_ (show 0 ≤ ze N178_ 81 3 by first | assumption | omega) (show ze N178_ 81 3 ≤ ze N178_ 81 2 by first | assumption | omega) hp2_N178_ (show (1 ≤ ze N178_ 81 7 ∧ zmu N178_ = 0) ∨ (ze N178_ 81 7 = 0 ∧ zmu N178_ < zmu Mz) from Or.inr (⟨(show ze N178_ 81 7 = 0 by first | assumption | omega), (show zmu N178_ < zmu Mz by first | assumption | omega)⟩))
                  · skip
                    refine zw_aload_n (pc := 116) (n := 0) (x := 81) rfl d_M_letLine_116 ?_
                    refine zw_bipush (pc := 117) (v := Int32.ofInt 6) (by decide) d_M_letLine_117 ?_
                    refine zw_iload_n (pc := 119) (n := 1) (x := Int32.ofInt (ze Mz 81 4)) rfl d_M_letLine_119 ?_
                    refine zr_callV (hf_N178_.w hW) hf_N178_.x (pc := 120) [.int (Int32.ofInt 6), .int (Int32.ofInt (ze Mz 81 4))] [] l_M_168 (c_M_wrongAt l N178_ (hf_N178_.w hW) 6 (by decide) (by decide) (ze Mz 81 4) (ze_r Mz 81 4).1 (ze_r Mz 81 4).2 (show ze N178_ 81 7 = 0 by first | assumption | omega) (show 1 ≤ 6 by first | assumption | omega)) rfl rfl rfl (by decide) (Nat.le_of_ble_eq_true rfl) d_M_letLine_120 ?_
                    rintro _ N185_ ⟨rfl, hsN185_, ⟨hp0_N185_, hp1_N185_⟩⟩
                    have hf_N185_ : zFr [3, 4, 5, 6, 7, 8, 11, 14, 38, 39, 41, 42, 43] [95, 96, 97, 100, 101, 102] Mz N185_ := hf_N178_.tr hsN185_ (by decide) (by decide)
                    have hb0_N185_ : zFr [3, 4, 5, 6, 7, 8, 11, 38, 39, 41, 42, 43] [95, 96, 97, 100] N105_ N185_ := hb0_N178_.tr hsN185_ (by decide) (by decide)
                    have e2_N185_ : ze N185_ 81 2 = ze N178_ 81 2 := hsN185_.e (by decide)
                    have e3_N185_ : ze N185_ 81 3 = ze N178_ 81 3 := hsN185_.e (by decide)
                    have e4_N185_ : ze N185_ 81 4 = ze N178_ 81 4 := hsN185_.e (by decide)
                    have e5_N185_ : ze N185_ 81 5 = ze N178_ 81 5 := hsN185_.e (by decide)
                    have r7_N185_ := ze_r N185_ 81 7
                    have e14_N185_ : ze N185_ 81 14 = ze N178_ 81 14 := hsN185_.e (by decide)
                    have e26_N185_ : ze N185_ 81 26 = ze N178_ 81 26 := hsN185_.e (by decide)
                    have e39_N185_ : ze N185_ 81 39 = ze N178_ 81 39 := hsN185_.e (by decide)
                    have c187_ : zGD N185_ := zGD.fr hsN185_ c180_ (by decide) (by decide)
                    have c188_ : zTv N185_ := zTv.fr hsN185_ hp2_N178_ (by decide) (by decide)
                    show zW l m_M_letLine (zn Mz + 0, zw Mz + 0) N185_ 123 [some (.ref 81), some (.int (Int32.ofInt (ze Mz 81 4))), some (.long (Int64.ofInt (zg N1_ 81 11))), none, none] [] (zpV [3, 4, 5, 6, 7, 8, 11, 14, 38, 39, 41, 42, 43] [95, 96, 97, 100, 101, 102] Mz (fun N => 0 ≤ ze N 81 3 ∧ ze N 81 3 ≤ ze N 81 2 ∧ zTv N ∧ 0 ≤ ze N 81 14 ∧ ze N 81 14 ≤ 8 ∧ (((1 ≤ ze N 81 7 ∧ zmu N = 0) ∨ (ze N 81 7 = 0 ∧ zmu N < zmu Mz)))))
                    exact j_123 N185_ hb0_N185_ (show 0 ≤ ze N185_ 81 3 by first | assumption | omega) (show ze N185_ 81 3 ≤ ze N185_ 81 2 by first | assumption | omega) c188_ (show (1 ≤ ze N185_ 81 7 ∧ zmu N185_ = 0) ∨ (ze N185_ 81 7 = 0 ∧ zmu N185_ < zmu Mz) from Or.inl (⟨(show 1 ≤ ze N185_ 81 7 by first | assumption | omega), (show zmu N185_ = 0 by first | assumption | omega)⟩))
              · skip
                exfalso; omega
          · skip
            show zW l m_M_letLine (zn Mz + 0, zw Mz + 0) N175_ 96 [some (.ref 81), some (.int (Int32.ofInt (ze Mz 81 4))), some (.long (Int64.ofInt (zg N1_ 81 11))), none, none] [] (zpV [3, 4, 5, 6, 7, 8, 11, 14, 38, 39, 41, 42, 43] [95, 96, 97, 100, 101, 102] Mz (fun N => 0 ≤ ze N 81 3 ∧ ze N 81 3 ≤ ze N 81 2 ∧ zTv N ∧ 0 ≤ ze N 81 14 ∧ ze N 81 14 ≤ 8 ∧ (((1 ≤ ze N 81 7 ∧ zmu N = 0) ∨ (ze N 81 7 = 0 ∧ zmu N < zmu Mz)))))
            refine zw_aload_n (pc := 96) (n := 0) (x := 81) rfl d_M_letLine_96 ?_
            refine zw_bipush (pc := 97) (v := Int32.ofInt 59) (by decide) d_M_letLine_97 ?_
            refine zr_callV (hf_N175_.w hW) hf_N175_.x (pc := 99) [.int (Int32.ofInt 59)] [] l_M_355 (c_M_must l N175_ (hf_N175_.w hW) 59 (by decide) (by decide) (show 0 ≤ ze N175_ 81 3 by first | assumption | omega) (show ze N175_ 81 3 ≤ ze N175_ 81 2 by first | assumption | omega) (show ze N175_ 81 2 ≤ 700 by first | assumption | omega) hp2_N175_ (show 0 ≤ ze N175_ 81 7 by first | assumption | omega)) rfl rfl rfl (by decide) (Nat.le_of_ble_eq_true rfl) d_M_letLine_99 ?_
            rintro _ N189_ ⟨rfl, hsN189_, ⟨hp0_N189_, hp1_N189_, hp2_N189_, hp3_N189_⟩⟩
            have hf_N189_ : zFr [3, 4, 5, 6, 7, 8, 11, 14, 38, 39, 41, 42, 43] [95, 96, 97, 100, 101, 102] Mz N189_ := hf_N175_.tr hsN189_ (by decide) (by decide)
            have hb0_N189_ : zFr [3, 4, 5, 6, 7, 8, 11, 38, 39, 41, 42, 43] [95, 96, 97, 100] N105_ N189_ := hb0_N175_.tr hsN189_ (by decide) (by decide)
            have e2_N189_ : ze N189_ 81 2 = ze N175_ 81 2 := hsN189_.e (by decide)
            have r3_N189_ := ze_r N189_ 81 3
            have r4_N189_ := ze_r N189_ 81 4
            have r5_N189_ := ze_r N189_ 81 5
            have r7_N189_ := ze_r N189_ 81 7
            have e14_N189_ : ze N189_ 81 14 = ze N175_ 81 14 := hsN189_.e (by decide)
            have e26_N189_ : ze N189_ 81 26 = ze N175_ 81 26 := hsN189_.e (by decide)
            have e39_N189_ : ze N189_ 81 39 = ze N175_ 81 39 := hsN189_.e (by decide)
            have c191_ : zGD N189_ := zGD.fr hsN189_ c177_ (by decide) (by decide)
            rcases hp3_N189_ with ⟨ha99_0_hp3_N189_, ha99_1_hp3_N189_⟩ | ⟨ha99_0_hp3_N189_, ha99_1_hp3_N189_, ha99_2_hp3_N189_⟩
            · skip
              show zW l m_M_letLine (zn Mz + 0, zw Mz + 0) N189_ 102 [some (.ref 81), some (.int (Int32.ofInt (ze Mz 81 4))), some (.long (Int64.ofInt (zg N1_ 81 11))), none, none] [] (zpV [3, 4, 5, 6, 7, 8, 11, 14, 38, 39, 41, 42, 43] [95, 96, 97, 100, 101, 102] Mz (fun N => 0 ≤ ze N 81 3 ∧ ze N 81 3 ≤ ze N 81 2 ∧ zTv N ∧ 0 ≤ ze N 81 14 ∧ ze N 81 14 ≤ 8 ∧ (((1 ≤ ze N 81 7 ∧ zmu N = 0) ∨ (ze N 81 7 = 0 ∧ zmu N < zmu Mz)))))
              refine zw_aload_n (pc := 102) (n := 0) (x := 81) rfl d_M_letLine_102 ?_
              refine zr_callV (hf_N189_.w hW) hf_N189_.x (pc := 103) [] [] l_M_183 (c_M_isGood l N189_ (hf_N189_.w hW) ) rfl rfl rfl (by decide) (Nat.le_of_ble_eq_true rfl) d_M_letLine_103 ?_
              rintro _ N192_ ⟨v193_, rfl, ⟨hv193_a, hv193_b⟩, hsN192_, hp0_N192_⟩
              obtain rfl := hsN192_.eq.symm
              replace hp0_N192_ : ((v193_ = 1 ∧ ze N189_ 81 7 = 0) ∨ (v193_ = 0 ∧ ze N189_ 81 7 ≠ 0)) := hp0_N192_
              rcases hp0_N192_ with ⟨rfl, ha103_0_hp0_N192_⟩ | ⟨rfl, ha103_0_hp0_N192_⟩
              · skip
                exfalso; omega
              · skip
                show zW l m_M_letLine (zn Mz + 0, zw Mz + 0) N189_ 106 [some (.ref 81), some (.int (Int32.ofInt (ze Mz 81 4))), some (.long (Int64.ofInt (zg N1_ 81 11))), none, none] [.int (Int32.ofInt 0)] (zpV [3, 4, 5, 6, 7, 8, 11, 14, 38, 39, 41, 42, 43] [95, 96, 97, 100, 101, 102] Mz (fun N => 0 ≤ ze N 81 3 ∧ ze N 81 3 ≤ ze N 81 2 ∧ zTv N ∧ 0 ≤ ze N 81 14 ∧ ze N 81 14 ≤ 8 ∧ (((1 ≤ ze N 81 7 ∧ zmu N = 0) ∨ (ze N 81 7 = 0 ∧ zmu N < zmu Mz)))))
                refine zr_if_eq (pc := 106) (tgt := 123) ⟨(by decide), (by decide)⟩ (by decide) d_M_letLine_106 (fun hc_106 => ?_) (fun hc_106 => ?_)
                · skip
                  exact j_123 N189_ hb0_N189_ (show 0 ≤ ze N189_ 81 3 by first | assumption | omega) (show ze N189_ 81 3 ≤ ze N189_ 81 2 by first | assumption | omega) hp2_N189_ (show (1 ≤ ze N189_ 81 7 ∧ zmu N189_ = 0) ∨ (ze N189_ 81 7 = 0 ∧ zmu N189_ < zmu Mz) from Or.inl (⟨(show 1 ≤ ze N189_ 81 7 by first | assumption | omega), (show zmu N189_ = 0 by first | assumption | omega)⟩))
                · skip
                  exact absurd hc_106 (by decide)
            · skip
              show zW l m_M_letLine (zn Mz + 0, zw Mz + 0) N189_ 102 [some (.ref 81), some (.int (Int32.ofInt (ze Mz 81 4))), some (.long (Int64.ofInt (zg N1_ 81 11))), none, none] [] (zpV [3, 4, 5, 6, 7, 8, 11, 14, 38, 39, 41, 42, 43] [95, 96, 97, 100, 101, 102] Mz (fun N => 0 ≤ ze N 81 3 ∧ ze N 81 3 ≤ ze N 81 2 ∧ zTv N ∧ 0 ≤ ze N 81 14 ∧ ze N 81 14 ≤ 8 ∧ (((1 ≤ ze N 81 7 ∧ zmu N = 0) ∨ (ze N 81 7 = 0 ∧ zmu N < zmu Mz)))))
              refine zw_aload_n (pc := 102) (n := 0) (x := 81) rfl d_M_letLine_102 ?_
              refine zr_callV (hf_N189_.w hW) hf_N189_.x (pc := 103) [] [] l_M_183 (c_M_isGood l N189_ (hf_N189_.w hW) ) rfl rfl rfl (by decide) (Nat.le_of_ble_eq_true rfl) d_M_letLine_103 ?_
              rintro _ N194_ ⟨v195_, rfl, ⟨hv195_a, hv195_b⟩, hsN194_, hp0_N194_⟩
              obtain rfl := hsN194_.eq.symm
              replace hp0_N194_ : ((v195_ = 1 ∧ ze N189_ 81 7 = 0) ∨ (v195_ = 0 ∧ ze N189_ 81 7 ≠ 0)) := hp0_N194_
              rcases hp0_N194_ with ⟨rfl, ha103_0_hp0_N194_⟩ | ⟨rfl, ha103_0_hp0_N194_⟩
              · skip
                show zW l m_M_letLine (zn Mz + 0, zw Mz + 0) N189_ 106 [some (.ref 81), some (.int (Int32.ofInt (ze Mz 81 4))), some (.long (Int64.ofInt (zg N1_ 81 11))), none, none] [.int (Int32.ofInt 1)] (zpV [3, 4, 5, 6, 7, 8, 11, 14, 38, 39, 41, 42, 43] [95, 96, 97, 100, 101, 102] Mz (fun N => 0 ≤ ze N 81 3 ∧ ze N 81 3 ≤ ze N 81 2 ∧ zTv N ∧ 0 ≤ ze N 81 14 ∧ ze N 81 14 ≤ 8 ∧ (((1 ≤ ze N 81 7 ∧ zmu N = 0) ∨ (ze N 81 7 = 0 ∧ zmu N < zmu Mz)))))
                refine zr_if_eq (pc := 106) (tgt := 123) ⟨(by decide), (by decide)⟩ (by decide) d_M_letLine_106 (fun hc_106 => ?_) (fun hc_106 => ?_)
                · skip
                  exact absurd hc_106 (by decide)
                · skip
                  refine zw_aload_n (pc := 109) (n := 0) (x := 81) rfl d_M_letLine_109 ?_
                  refine zr_getI (hf_N189_.w hW) (pc := 110) f_M_275 rfl d_M_letLine_110 ?_
                  refine zr_if_eq (pc := 113) (tgt := 123) ⟨(ze_r N189_ 81 39).1, (ze_r N189_ 81 39).2⟩ (by decide) d_M_letLine_113 (fun hc_113 => ?_) (fun hc_113 => ?_)
                  · skip
                    exact j_123 N189_ hb0_N189_ (show 0 ≤ ze N189_ 81 3 by first | assumption | omega) (show ze N189_ 81 3 ≤ ze N189_ 81 2 by first | assumption | omega) hp2_N189_ (show (1 ≤ ze N189_ 81 7 ∧ zmu N189_ = 0) ∨ (ze N189_ 81 7 = 0 ∧ zmu N189_ < zmu Mz) from Or.inr (⟨(show ze N189_ 81 7 = 0 by first | assumption | omega), (show zmu N189_ < zmu Mz by first | assumption | omega)⟩))
                  · skip
                    refine zw_aload_n (pc := 116) (n := 0) (x := 81) rfl d_M_letLine_116 ?_
                    refine zw_bipush (pc := 117) (v := Int32.ofInt 6) (by decide) d_M_letLine_117 ?_
                    refine zw_iload_n (pc := 119) (n := 1) (x := Int32.ofInt (ze Mz 81 4)) rfl d_M_letLine_119 ?_
                    refine zr_callV (hf_N189_.w hW) hf_N189_.x (pc := 120) [.int (Int32.ofInt 6), .int (Int32.ofInt (ze Mz 81 4))] [] l_M_168 (c_M_wrongAt l N189_ (hf_N189_.w hW) 6 (by decide) (by decide) (ze Mz 81 4) (ze_r Mz 81 4).1 (ze_r Mz 81 4).2 (show ze N189_ 81 7 = 0 by first | assumption | omega) (show 1 ≤ 6 by first | assumption | omega)) rfl rfl rfl (by decide) (Nat.le_of_ble_eq_true rfl) d_M_letLine_120 ?_
                    rintro _ N196_ ⟨rfl, hsN196_, ⟨hp0_N196_, hp1_N196_⟩⟩
                    have hf_N196_ : zFr [3, 4, 5, 6, 7, 8, 11, 14, 38, 39, 41, 42, 43] [95, 96, 97, 100, 101, 102] Mz N196_ := hf_N189_.tr hsN196_ (by decide) (by decide)
                    have hb0_N196_ : zFr [3, 4, 5, 6, 7, 8, 11, 38, 39, 41, 42, 43] [95, 96, 97, 100] N105_ N196_ := hb0_N189_.tr hsN196_ (by decide) (by decide)
                    have e2_N196_ : ze N196_ 81 2 = ze N189_ 81 2 := hsN196_.e (by decide)
                    have e3_N196_ : ze N196_ 81 3 = ze N189_ 81 3 := hsN196_.e (by decide)
                    have e4_N196_ : ze N196_ 81 4 = ze N189_ 81 4 := hsN196_.e (by decide)
                    have e5_N196_ : ze N196_ 81 5 = ze N189_ 81 5 := hsN196_.e (by decide)
                    have r7_N196_ := ze_r N196_ 81 7
                    have e14_N196_ : ze N196_ 81 14 = ze N189_ 81 14 := hsN196_.e (by decide)
                    have e26_N196_ : ze N196_ 81 26 = ze N189_ 81 26 := hsN196_.e (by decide)
                    have e39_N196_ : ze N196_ 81 39 = ze N189_ 81 39 := hsN196_.e (by decide)
                    have c198_ : zGD N196_ := zGD.fr hsN196_ c191_ (by decide) (by decide)
                    have c199_ : zTv N196_ := zTv.fr hsN196_ hp2_N189_ (by decide) (by decide)
                    show zW l m_M_letLine (zn Mz + 0, zw Mz + 0) N196_ 123 [some (.ref 81), some (.int (Int32.ofInt (ze Mz 81 4))), some (.long (Int64.ofInt (zg N1_ 81 11))), none, none] [] (zpV [3, 4, 5, 6, 7, 8, 11, 14, 38, 39, 41, 42, 43] [95, 96, 97, 100, 101, 102] Mz (fun N => 0 ≤ ze N 81 3 ∧ ze N 81 3 ≤ ze N 81 2 ∧ zTv N ∧ 0 ≤ ze N 81 14 ∧ ze N 81 14 ≤ 8 ∧ (((1 ≤ ze N 81 7 ∧ zmu N = 0) ∨ (ze N 81 7 = 0 ∧ zmu N < zmu Mz)))))
                    exact j_123 N196_ hb0_N196_ (show 0 ≤ ze N196_ 81 3 by first | assumption | omega) (show ze N196_ 81 3 ≤ ze N196_ 81 2 by first | assumption | omega) c199_ (show (1 ≤ ze N196_ 81 7 ∧ zmu N196_ = 0) ∨ (ze N196_ 81 7 = 0 ∧ zmu N196_ < zmu Mz) from Or.inl (⟨(show 1 ≤ ze N196_ 81 7 by first | assumption | omega), (show zmu N196_ = 0 by first | assumption | omega)⟩))
              · skip
                exfalso; omega
      · skip
        have hz0 := zmu_s N1_
        exact zr_vret (pc := 76) rfl hf_N1_ ⟨(show 0 ≤ ze N1_ 81 3 by first | assumption | omega), (show ze N1_ 81 3 ≤ ze N1_ 81 2 by first | assumption | omega), i5_, (show 0 ≤ ze N1_ 81 14 by first | assumption | omega), (show ze N1_ 81 14 ≤ 8 by first | assumption | omega), (show ((1 ≤ ze N1_ 81 7 ∧ zmu N1_ = 0) ∨ (ze N1_ 81 7 = 0 ∧ zmu N1_ < zmu Mz)) from Or.inr (⟨(show ze N1_ 81 7 = 0 by first | assumption | omega), (show zmu N1_ < zmu Mz by first | assumption | omega)⟩))⟩ d_M_letLine_76
  refine zw_aload_n (pc := 5) (n := 0) (x := 81) rfl d_M_letLine_5 ?_
  refine zr_getI (hf.w hW) (pc := 6) f_M_299 rfl d_M_letLine_6 ?_
  refine zw_bipush (pc := 9) (v := Int32.ofInt 8) (by decide) d_M_letLine_9 ?_
  refine zr_icmp_ne (pc := 11) (tgt := 19) ⟨(ze_r Mz 81 14).1, (ze_r Mz 81 14).2⟩ ⟨(by decide), (by decide)⟩ (by decide) d_M_letLine_11 (fun hc_11 => ?_) (fun hc_11 => ?_)
  · skip
    refine zw_aload_n (pc := 19) (n := 0) (x := 81) rfl d_M_letLine_19 ?_
    refine zr_callV (hf.w hW) hf.x (pc := 20) [] [] l_M_183 (c_M_isGood l Mz (hf.w hW) ) rfl rfl rfl (by decide) (Nat.le_of_ble_eq_true rfl) d_M_letLine_20 ?_
    rintro _ N200_ ⟨v201_, rfl, ⟨hv201_a, hv201_b⟩, hsN200_, hp0_N200_⟩
    obtain rfl := hsN200_.eq.symm
    replace hp0_N200_ : ((v201_ = 1 ∧ ze Mz 81 7 = 0) ∨ (v201_ = 0 ∧ ze Mz 81 7 ≠ 0)) := hp0_N200_
    rcases hp0_N200_ with ⟨rfl, ha20_0_hp0_N200_⟩ | ⟨rfl, ha20_0_hp0_N200_⟩
    · skip
      show zW l m_M_letLine (zn Mz + 0, zw Mz + 0) Mz 23 [some (.ref 81), some (.int (Int32.ofInt (ze Mz 81 4))), none, none, none] [.int (Int32.ofInt 1)] (zpV [3, 4, 5, 6, 7, 8, 11, 14, 38, 39, 41, 42, 43] [95, 96, 97, 100, 101, 102] Mz (fun N => 0 ≤ ze N 81 3 ∧ ze N 81 3 ≤ ze N 81 2 ∧ zTv N ∧ 0 ≤ ze N 81 14 ∧ ze N 81 14 ≤ 8 ∧ (((1 ≤ ze N 81 7 ∧ zmu N = 0) ∨ (ze N 81 7 = 0 ∧ zmu N < zmu Mz)))))
      refine zr_if_eq (pc := 23) (tgt := 30) ⟨(by decide), (by decide)⟩ (by decide) d_M_letLine_23 (fun hc_23 => ?_) (fun hc_23 => ?_)
      · skip
        exact absurd hc_23 (by decide)
      · skip
        refine zw_aload_n (pc := 26) (n := 0) (x := 81) rfl d_M_letLine_26 ?_
        refine zr_callV (hf.w hW) hf.x (pc := 27) [] [] l_M_193 (c_M_goOn l Mz (hf.w hW) (show 0 ≤ ze Mz 81 3 by first | assumption | omega) (show ze Mz 81 3 ≤ ze Mz 81 2 by first | assumption | omega) (show ze Mz 81 2 ≤ 700 by first | assumption | omega) (show ze Mz 81 5 ≠ 0 by first | assumption | omega) (show ze Mz 81 7 = 0 by first | assumption | omega)) rfl rfl rfl (by decide) (Nat.le_of_ble_eq_true rfl) d_M_letLine_27 ?_
        rintro _ N202_ ⟨rfl, hsN202_, ⟨hp0_N202_, hp1_N202_, hp2_N202_, hp3_N202_, hp4_N202_⟩⟩
        have hf_N202_ : zFr [3, 4, 5, 6, 7, 8, 11, 14, 38, 39, 41, 42, 43] [95, 96, 97, 100, 101, 102] Mz N202_ := hf.tr hsN202_ (by decide) (by decide)
        have hb0_N202_ : zFr [3, 4, 5, 6, 7, 8, 11] [] Mz N202_ := zFr.rf.tr hsN202_ (by decide) (by decide)
        have e2_N202_ : ze N202_ 81 2 = ze Mz 81 2 := hsN202_.e (by decide)
        have r3_N202_ := ze_r N202_ 81 3
        have r4_N202_ := ze_r N202_ 81 4
        have r5_N202_ := ze_r N202_ 81 5
        have e7_N202_ : ze N202_ 81 7 = ze Mz 81 7 := hsN202_.e (by decide)
        have e14_N202_ : ze N202_ 81 14 = ze Mz 81 14 := hsN202_.e (by decide)
        have e26_N202_ : ze N202_ 81 26 = ze Mz 81 26 := hsN202_.e (by decide)
        have e39_N202_ : ze N202_ 81 39 = ze Mz 81 39 := hsN202_.e (by decide)
        have c204_ : zGD N202_ := zGD.fr hsN202_ p0_ (by decide) (by decide)
        show zW l m_M_letLine (zn Mz + 0, zw Mz + 0) N202_ 30 [some (.ref 81), some (.int (Int32.ofInt (ze Mz 81 4))), none, none, none] [] (zpV [3, 4, 5, 6, 7, 8, 11, 14, 38, 39, 41, 42, 43] [95, 96, 97, 100, 101, 102] Mz (fun N => 0 ≤ ze N 81 3 ∧ ze N 81 3 ≤ ze N 81 2 ∧ zTv N ∧ 0 ≤ ze N 81 14 ∧ ze N 81 14 ≤ 8 ∧ (((1 ≤ ze N 81 7 ∧ zmu N = 0) ∨ (ze N 81 7 = 0 ∧ zmu N < zmu Mz)))))
        refine zw_aload_n (pc := 30) (n := 0) (x := 81) rfl d_M_letLine_30 ?_
        refine zr_callV (hf_N202_.w hW) hf_N202_.x (pc := 31) [] [] l_M_183 (c_M_isGood l N202_ (hf_N202_.w hW) ) rfl rfl rfl (by decide) (Nat.le_of_ble_eq_true rfl) d_M_letLine_31 ?_
        rintro _ N205_ ⟨v206_, rfl, ⟨hv206_a, hv206_b⟩, hsN205_, hp0_N205_⟩
        obtain rfl := hsN205_.eq.symm
        replace hp0_N205_ : ((v206_ = 1 ∧ ze N202_ 81 7 = 0) ∨ (v206_ = 0 ∧ ze N202_ 81 7 ≠ 0)) := hp0_N205_
        rcases hp0_N205_ with ⟨rfl, ha31_0_hp0_N205_⟩ | ⟨rfl, ha31_0_hp0_N205_⟩
        · skip
          show zW l m_M_letLine (zn Mz + 0, zw Mz + 0) N202_ 34 [some (.ref 81), some (.int (Int32.ofInt (ze Mz 81 4))), none, none, none] [.int (Int32.ofInt 1)] (zpV [3, 4, 5, 6, 7, 8, 11, 14, 38, 39, 41, 42, 43] [95, 96, 97, 100, 101, 102] Mz (fun N => 0 ≤ ze N 81 3 ∧ ze N 81 3 ≤ ze N 81 2 ∧ zTv N ∧ 0 ≤ ze N 81 14 ∧ ze N 81 14 ≤ 8 ∧ (((1 ≤ ze N 81 7 ∧ zmu N = 0) ∨ (ze N 81 7 = 0 ∧ zmu N < zmu Mz)))))
          refine zr_if_eq (pc := 34) (tgt := 49) ⟨(by decide), (by decide)⟩ (by decide) d_M_letLine_34 (fun hc_34 => ?_) (fun hc_34 => ?_)
          · skip
            exact absurd hc_34 (by decide)
          · skip
            refine zw_aload_n (pc := 37) (n := 0) (x := 81) rfl d_M_letLine_37 ?_
            refine zr_callV (hf_N202_.w hW) hf_N202_.x (pc := 38) [] [] l_M_316 (c_M_isName l N202_ (hf_N202_.w hW) ) rfl rfl rfl (by decide) (Nat.le_of_ble_eq_true rfl) d_M_letLine_38 ?_
            rintro _ N207_ ⟨v208_, rfl, ⟨hv208_a, hv208_b⟩, hsN207_, hp0_N207_⟩
            obtain rfl := hsN207_.eq.symm
            replace hp0_N207_ : ((v208_ = 1 ∧ ze N202_ 81 5 = 1) ∨ (v208_ = 0)) := hp0_N207_
            rcases hp0_N207_ with ⟨rfl, ha38_0_hp0_N207_⟩ | rfl
            · skip
              show zW l m_M_letLine (zn Mz + 0, zw Mz + 0) N202_ 41 [some (.ref 81), some (.int (Int32.ofInt (ze Mz 81 4))), none, none, none] [.int (Int32.ofInt 1)] (zpV [3, 4, 5, 6, 7, 8, 11, 14, 38, 39, 41, 42, 43] [95, 96, 97, 100, 101, 102] Mz (fun N => 0 ≤ ze N 81 3 ∧ ze N 81 3 ≤ ze N 81 2 ∧ zTv N ∧ 0 ≤ ze N 81 14 ∧ ze N 81 14 ≤ 8 ∧ (((1 ≤ ze N 81 7 ∧ zmu N = 0) ∨ (ze N 81 7 = 0 ∧ zmu N < zmu Mz)))))
              refine zr_if_ne (pc := 41) (tgt := 49) ⟨(by decide), (by decide)⟩ (by decide) d_M_letLine_41 (fun hc_41 => ?_) (fun hc_41 => ?_)
              · skip
                refine zw_aload_n (pc := 49) (n := 0) (x := 81) rfl d_M_letLine_49 ?_
                refine zr_callV (hf_N202_.w hW) hf_N202_.x (pc := 50) [] [] l_M_183 (c_M_isGood l N202_ (hf_N202_.w hW) ) rfl rfl rfl (by decide) (Nat.le_of_ble_eq_true rfl) d_M_letLine_50 ?_
                rintro _ N209_ ⟨v210_, rfl, ⟨hv210_a, hv210_b⟩, hsN209_, hp0_N209_⟩
                obtain rfl := hsN209_.eq.symm
                replace hp0_N209_ : ((v210_ = 1 ∧ ze N202_ 81 7 = 0) ∨ (v210_ = 0 ∧ ze N202_ 81 7 ≠ 0)) := hp0_N209_
                rcases hp0_N209_ with ⟨rfl, ha50_0_hp0_N209_⟩ | ⟨rfl, ha50_0_hp0_N209_⟩
                · skip
                  show zW l m_M_letLine (zn Mz + 0, zw Mz + 0) N202_ 53 [some (.ref 81), some (.int (Int32.ofInt (ze Mz 81 4))), none, none, none] [.int (Int32.ofInt 1)] (zpV [3, 4, 5, 6, 7, 8, 11, 14, 38, 39, 41, 42, 43] [95, 96, 97, 100, 101, 102] Mz (fun N => 0 ≤ ze N 81 3 ∧ ze N 81 3 ≤ ze N 81 2 ∧ zTv N ∧ 0 ≤ ze N 81 14 ∧ ze N 81 14 ≤ 8 ∧ (((1 ≤ ze N 81 7 ∧ zmu N = 0) ∨ (ze N 81 7 = 0 ∧ zmu N < zmu Mz)))))
                  refine zr_if_eq (pc := 53) (tgt := 69) ⟨(by decide), (by decide)⟩ (by decide) d_M_letLine_53 (fun hc_53 => ?_) (fun hc_53 => ?_)
                  · skip
                    exact absurd hc_53 (by decide)
                  · skip
                    refine zw_aload_n (pc := 56) (n := 0) (x := 81) rfl d_M_letLine_56 ?_
                    refine zr_callV (hf_N202_.w hW) hf_N202_.x (pc := 57) [] [] l_M_319 (c_M_nameAt l N202_ (hf_N202_.w hW) (show 0 ≤ ze N202_ 81 14 by first | assumption | omega) (show ze N202_ 81 14 ≤ 8 by first | assumption | omega)) rfl rfl rfl (by decide) (Nat.le_of_ble_eq_true rfl) d_M_letLine_57 ?_
                    rintro _ N211_ ⟨v212_, rfl, ⟨hv212_a, hv212_b⟩, hsN211_, ⟨hp0_N211_, hp1_N211_⟩⟩
                    obtain rfl := hsN211_.eq.symm
                    show zW l m_M_letLine (zn Mz + 0, zw Mz + 0) N202_ 60 [some (.ref 81), some (.int (Int32.ofInt (ze Mz 81 4))), none, none, none] [.int (Int32.ofInt v212_)] (zpV [3, 4, 5, 6, 7, 8, 11, 14, 38, 39, 41, 42, 43] [95, 96, 97, 100, 101, 102] Mz (fun N => 0 ≤ ze N 81 3 ∧ ze N 81 3 ≤ ze N 81 2 ∧ zTv N ∧ 0 ≤ ze N 81 14 ∧ ze N 81 14 ≤ 8 ∧ (((1 ≤ ze N 81 7 ∧ zmu N = 0) ∨ (ze N 81 7 = 0 ∧ zmu N < zmu Mz)))))
                    refine zw_iconst (pc := 60) (v := Int32.ofInt (-1)) (by decide) d_M_letLine_60 ?_
                    refine zr_icmp_eq (pc := 61) (tgt := 69) ⟨hv212_a, hv212_b⟩ ⟨(by decide), (by decide)⟩ (by decide) d_M_letLine_61 (fun hc_61 => ?_) (fun hc_61 => ?_)
                    · skip
                      exact j_69 N202_ hb0_N202_ (show 0 ≤ ze N202_ 81 3 by first | assumption | omega) (show ze N202_ 81 3 ≤ ze N202_ 81 2 by first | assumption | omega) hp2_N202_ (show (1 ≤ ze N202_ 81 7 ∧ zmu N202_ = 0) ∨ (ze N202_ 81 7 = 0 ∧ ze N202_ 81 5 = 1 ∧ zmu N202_ < zmu Mz) from Or.inr (⟨(show ze N202_ 81 7 = 0 by first | assumption | omega), (show ze N202_ 81 5 = 1 by first | assumption | omega), (show zmu N202_ < zmu Mz by first | assumption | omega)⟩))
                    · skip
                      refine zw_aload_n (pc := 64) (n := 0) (x := 81) rfl d_M_letLine_64 ?_
                      refine zw_iconst (pc := 65) (v := Int32.ofInt 3) (by decide) d_M_letLine_65 ?_
                      refine zr_callV (hf_N202_.w hW) hf_N202_.x (pc := 66) [.int (Int32.ofInt 3)] [] l_M_190 (c_M_wrong l N202_ (hf_N202_.w hW) 3 (by decide) (by decide) (show ze N202_ 81 7 = 0 by first | assumption | omega) (show 1 ≤ 3 by first | assumption | omega)) rfl rfl rfl (by decide) (Nat.le_of_ble_eq_true rfl) d_M_letLine_66 ?_
                      rintro _ N213_ ⟨rfl, hsN213_, ⟨hp0_N213_, hp1_N213_⟩⟩
                      have hf_N213_ : zFr [3, 4, 5, 6, 7, 8, 11, 14, 38, 39, 41, 42, 43] [95, 96, 97, 100, 101, 102] Mz N213_ := hf_N202_.tr hsN213_ (by decide) (by decide)
                      have hb0_N213_ : zFr [3, 4, 5, 6, 7, 8, 11] [] Mz N213_ := hb0_N202_.tr hsN213_ (by decide) (by decide)
                      have e2_N213_ : ze N213_ 81 2 = ze N202_ 81 2 := hsN213_.e (by decide)
                      have e3_N213_ : ze N213_ 81 3 = ze N202_ 81 3 := hsN213_.e (by decide)
                      have e4_N213_ : ze N213_ 81 4 = ze N202_ 81 4 := hsN213_.e (by decide)
                      have e5_N213_ : ze N213_ 81 5 = ze N202_ 81 5 := hsN213_.e (by decide)
                      have r7_N213_ := ze_r N213_ 81 7
                      have e14_N213_ : ze N213_ 81 14 = ze N202_ 81 14 := hsN213_.e (by decide)
                      have e26_N213_ : ze N213_ 81 26 = ze N202_ 81 26 := hsN213_.e (by decide)
                      have e39_N213_ : ze N213_ 81 39 = ze N202_ 81 39 := hsN213_.e (by decide)
                      have c215_ : zGD N213_ := zGD.fr hsN213_ c204_ (by decide) (by decide)
                      have c216_ : zTv N213_ := zTv.fr hsN213_ hp2_N202_ (by decide) (by decide)
                      show zW l m_M_letLine (zn Mz + 0, zw Mz + 0) N213_ 69 [some (.ref 81), some (.int (Int32.ofInt (ze Mz 81 4))), none, none, none] [] (zpV [3, 4, 5, 6, 7, 8, 11, 14, 38, 39, 41, 42, 43] [95, 96, 97, 100, 101, 102] Mz (fun N => 0 ≤ ze N 81 3 ∧ ze N 81 3 ≤ ze N 81 2 ∧ zTv N ∧ 0 ≤ ze N 81 14 ∧ ze N 81 14 ≤ 8 ∧ (((1 ≤ ze N 81 7 ∧ zmu N = 0) ∨ (ze N 81 7 = 0 ∧ zmu N < zmu Mz)))))
                      exact j_69 N213_ hb0_N213_ (show 0 ≤ ze N213_ 81 3 by first | assumption | omega) (show ze N213_ 81 3 ≤ ze N213_ 81 2 by first | assumption | omega) c216_ (show (1 ≤ ze N213_ 81 7 ∧ zmu N213_ = 0) ∨ (ze N213_ 81 7 = 0 ∧ ze N213_ 81 5 = 1 ∧ zmu N213_ < zmu Mz) from Or.inl (⟨(show 1 ≤ ze N213_ 81 7 by first | assumption | omega), (show zmu N213_ = 0 by first | assumption | omega)⟩))
                · skip
                  exfalso; omega
              · skip
                exact absurd hc_41 (by decide)
            · skip
              show zW l m_M_letLine (zn Mz + 0, zw Mz + 0) N202_ 41 [some (.ref 81), some (.int (Int32.ofInt (ze Mz 81 4))), none, none, none] [.int (Int32.ofInt 0)] (zpV [3, 4, 5, 6, 7, 8, 11, 14, 38, 39, 41, 42, 43] [95, 96, 97, 100, 101, 102] Mz (fun N => 0 ≤ ze N 81 3 ∧ ze N 81 3 ≤ ze N 81 2 ∧ zTv N ∧ 0 ≤ ze N 81 14 ∧ ze N 81 14 ≤ 8 ∧ (((1 ≤ ze N 81 7 ∧ zmu N = 0) ∨ (ze N 81 7 = 0 ∧ zmu N < zmu Mz)))))
              refine zr_if_ne (pc := 41) (tgt := 49) ⟨(by decide), (by decide)⟩ (by decide) d_M_letLine_41 (fun hc_41 => ?_) (fun hc_41 => ?_)
              · skip
                exact absurd hc_41 (by decide)
              · skip
                refine zw_aload_n (pc := 44) (n := 0) (x := 81) rfl d_M_letLine_44 ?_
                refine zw_iconst (pc := 45) (v := Int32.ofInt 2) (by decide) d_M_letLine_45 ?_
                refine zr_callV (hf_N202_.w hW) hf_N202_.x (pc := 46) [.int (Int32.ofInt 2)] [] l_M_190 (c_M_wrong l N202_ (hf_N202_.w hW) 2 (by decide) (by decide) (show ze N202_ 81 7 = 0 by first | assumption | omega) (show 1 ≤ 2 by first | assumption | omega)) rfl rfl rfl (by decide) (Nat.le_of_ble_eq_true rfl) d_M_letLine_46 ?_
                rintro _ N217_ ⟨rfl, hsN217_, ⟨hp0_N217_, hp1_N217_⟩⟩
                have hf_N217_ : zFr [3, 4, 5, 6, 7, 8, 11, 14, 38, 39, 41, 42, 43] [95, 96, 97, 100, 101, 102] Mz N217_ := hf_N202_.tr hsN217_ (by decide) (by decide)
                have hb0_N217_ : zFr [3, 4, 5, 6, 7, 8, 11] [] Mz N217_ := hb0_N202_.tr hsN217_ (by decide) (by decide)
                have e2_N217_ : ze N217_ 81 2 = ze N202_ 81 2 := hsN217_.e (by decide)
                have e3_N217_ : ze N217_ 81 3 = ze N202_ 81 3 := hsN217_.e (by decide)
                have e4_N217_ : ze N217_ 81 4 = ze N202_ 81 4 := hsN217_.e (by decide)
                have e5_N217_ : ze N217_ 81 5 = ze N202_ 81 5 := hsN217_.e (by decide)
                have r7_N217_ := ze_r N217_ 81 7
                have e14_N217_ : ze N217_ 81 14 = ze N202_ 81 14 := hsN217_.e (by decide)
                have e26_N217_ : ze N217_ 81 26 = ze N202_ 81 26 := hsN217_.e (by decide)
                have e39_N217_ : ze N217_ 81 39 = ze N202_ 81 39 := hsN217_.e (by decide)
                have c219_ : zGD N217_ := zGD.fr hsN217_ c204_ (by decide) (by decide)
                have c220_ : zTv N217_ := zTv.fr hsN217_ hp2_N202_ (by decide) (by decide)
                show zW l m_M_letLine (zn Mz + 0, zw Mz + 0) N217_ 49 [some (.ref 81), some (.int (Int32.ofInt (ze Mz 81 4))), none, none, none] [] (zpV [3, 4, 5, 6, 7, 8, 11, 14, 38, 39, 41, 42, 43] [95, 96, 97, 100, 101, 102] Mz (fun N => 0 ≤ ze N 81 3 ∧ ze N 81 3 ≤ ze N 81 2 ∧ zTv N ∧ 0 ≤ ze N 81 14 ∧ ze N 81 14 ≤ 8 ∧ (((1 ≤ ze N 81 7 ∧ zmu N = 0) ∨ (ze N 81 7 = 0 ∧ zmu N < zmu Mz)))))
                refine zw_aload_n (pc := 49) (n := 0) (x := 81) rfl d_M_letLine_49 ?_
                refine zr_callV (hf_N217_.w hW) hf_N217_.x (pc := 50) [] [] l_M_183 (c_M_isGood l N217_ (hf_N217_.w hW) ) rfl rfl rfl (by decide) (Nat.le_of_ble_eq_true rfl) d_M_letLine_50 ?_
                rintro _ N221_ ⟨v222_, rfl, ⟨hv222_a, hv222_b⟩, hsN221_, hp0_N221_⟩
                obtain rfl := hsN221_.eq.symm
                replace hp0_N221_ : ((v222_ = 1 ∧ ze N217_ 81 7 = 0) ∨ (v222_ = 0 ∧ ze N217_ 81 7 ≠ 0)) := hp0_N221_
                rcases hp0_N221_ with ⟨rfl, ha50_0_hp0_N221_⟩ | ⟨rfl, ha50_0_hp0_N221_⟩
                · skip
                  exfalso; omega
                · skip
                  show zW l m_M_letLine (zn Mz + 0, zw Mz + 0) N217_ 53 [some (.ref 81), some (.int (Int32.ofInt (ze Mz 81 4))), none, none, none] [.int (Int32.ofInt 0)] (zpV [3, 4, 5, 6, 7, 8, 11, 14, 38, 39, 41, 42, 43] [95, 96, 97, 100, 101, 102] Mz (fun N => 0 ≤ ze N 81 3 ∧ ze N 81 3 ≤ ze N 81 2 ∧ zTv N ∧ 0 ≤ ze N 81 14 ∧ ze N 81 14 ≤ 8 ∧ (((1 ≤ ze N 81 7 ∧ zmu N = 0) ∨ (ze N 81 7 = 0 ∧ zmu N < zmu Mz)))))
                  refine zr_if_eq (pc := 53) (tgt := 69) ⟨(by decide), (by decide)⟩ (by decide) d_M_letLine_53 (fun hc_53 => ?_) (fun hc_53 => ?_)
                  · skip
                    exact j_69 N217_ hb0_N217_ (show 0 ≤ ze N217_ 81 3 by first | assumption | omega) (show ze N217_ 81 3 ≤ ze N217_ 81 2 by first | assumption | omega) c220_ (show (1 ≤ ze N217_ 81 7 ∧ zmu N217_ = 0) ∨ (ze N217_ 81 7 = 0 ∧ ze N217_ 81 5 = 1 ∧ zmu N217_ < zmu Mz) from Or.inl (⟨(show 1 ≤ ze N217_ 81 7 by first | assumption | omega), (show zmu N217_ = 0 by first | assumption | omega)⟩))
                  · skip
                    exact absurd hc_53 (by decide)
        · skip
          exfalso; omega
    · skip
      show zW l m_M_letLine (zn Mz + 0, zw Mz + 0) Mz 23 [some (.ref 81), some (.int (Int32.ofInt (ze Mz 81 4))), none, none, none] [.int (Int32.ofInt 0)] (zpV [3, 4, 5, 6, 7, 8, 11, 14, 38, 39, 41, 42, 43] [95, 96, 97, 100, 101, 102] Mz (fun N => 0 ≤ ze N 81 3 ∧ ze N 81 3 ≤ ze N 81 2 ∧ zTv N ∧ 0 ≤ ze N 81 14 ∧ ze N 81 14 ≤ 8 ∧ (((1 ≤ ze N 81 7 ∧ zmu N = 0) ∨ (ze N 81 7 = 0 ∧ zmu N < zmu Mz)))))
      refine zr_if_eq (pc := 23) (tgt := 30) ⟨(by decide), (by decide)⟩ (by decide) d_M_letLine_23 (fun hc_23 => ?_) (fun hc_23 => ?_)
      · skip
        refine zw_aload_n (pc := 30) (n := 0) (x := 81) rfl d_M_letLine_30 ?_
        refine zr_callV (hf.w hW) hf.x (pc := 31) [] [] l_M_183 (c_M_isGood l Mz (hf.w hW) ) rfl rfl rfl (by decide) (Nat.le_of_ble_eq_true rfl) d_M_letLine_31 ?_
        rintro _ N223_ ⟨v224_, rfl, ⟨hv224_a, hv224_b⟩, hsN223_, hp0_N223_⟩
        obtain rfl := hsN223_.eq.symm
        replace hp0_N223_ : ((v224_ = 1 ∧ ze Mz 81 7 = 0) ∨ (v224_ = 0 ∧ ze Mz 81 7 ≠ 0)) := hp0_N223_
        rcases hp0_N223_ with ⟨rfl, ha31_0_hp0_N223_⟩ | ⟨rfl, ha31_0_hp0_N223_⟩
        · skip
          exfalso; omega
        · skip
          show zW l m_M_letLine (zn Mz + 0, zw Mz + 0) Mz 34 [some (.ref 81), some (.int (Int32.ofInt (ze Mz 81 4))), none, none, none] [.int (Int32.ofInt 0)] (zpV [3, 4, 5, 6, 7, 8, 11, 14, 38, 39, 41, 42, 43] [95, 96, 97, 100, 101, 102] Mz (fun N => 0 ≤ ze N 81 3 ∧ ze N 81 3 ≤ ze N 81 2 ∧ zTv N ∧ 0 ≤ ze N 81 14 ∧ ze N 81 14 ≤ 8 ∧ (((1 ≤ ze N 81 7 ∧ zmu N = 0) ∨ (ze N 81 7 = 0 ∧ zmu N < zmu Mz)))))
          refine zr_if_eq (pc := 34) (tgt := 49) ⟨(by decide), (by decide)⟩ (by decide) d_M_letLine_34 (fun hc_34 => ?_) (fun hc_34 => ?_)
          · skip
            refine zw_aload_n (pc := 49) (n := 0) (x := 81) rfl d_M_letLine_49 ?_
            refine zr_callV (hf.w hW) hf.x (pc := 50) [] [] l_M_183 (c_M_isGood l Mz (hf.w hW) ) rfl rfl rfl (by decide) (Nat.le_of_ble_eq_true rfl) d_M_letLine_50 ?_
            rintro _ N225_ ⟨v226_, rfl, ⟨hv226_a, hv226_b⟩, hsN225_, hp0_N225_⟩
            obtain rfl := hsN225_.eq.symm
            replace hp0_N225_ : ((v226_ = 1 ∧ ze Mz 81 7 = 0) ∨ (v226_ = 0 ∧ ze Mz 81 7 ≠ 0)) := hp0_N225_
            rcases hp0_N225_ with ⟨rfl, ha50_0_hp0_N225_⟩ | ⟨rfl, ha50_0_hp0_N225_⟩
            · skip
              exfalso; omega
            · skip
              show zW l m_M_letLine (zn Mz + 0, zw Mz + 0) Mz 53 [some (.ref 81), some (.int (Int32.ofInt (ze Mz 81 4))), none, none, none] [.int (Int32.ofInt 0)] (zpV [3, 4, 5, 6, 7, 8, 11, 14, 38, 39, 41, 42, 43] [95, 96, 97, 100, 101, 102] Mz (fun N => 0 ≤ ze N 81 3 ∧ ze N 81 3 ≤ ze N 81 2 ∧ zTv N ∧ 0 ≤ ze N 81 14 ∧ ze N 81 14 ≤ 8 ∧ (((1 ≤ ze N 81 7 ∧ zmu N = 0) ∨ (ze N 81 7 = 0 ∧ zmu N < zmu Mz)))))
              refine zr_if_eq (pc := 53) (tgt := 69) ⟨(by decide), (by decide)⟩ (by decide) d_M_letLine_53 (fun hc_53 => ?_) (fun hc_53 => ?_)
              · skip
                exact j_69 Mz zFr.rf (show 0 ≤ ze Mz 81 3 by first | assumption | omega) (show ze Mz 81 3 ≤ ze Mz 81 2 by first | assumption | omega) p4_ (show (1 ≤ ze Mz 81 7 ∧ zmu Mz = 0) ∨ (ze Mz 81 7 = 0 ∧ ze Mz 81 5 = 1 ∧ zmu Mz < zmu Mz) from Or.inl (⟨(show 1 ≤ ze Mz 81 7 by first | assumption | omega), (show zmu Mz = 0 by first | assumption | omega)⟩))
              · skip
                exact absurd hc_53 (by decide)
          · skip
            exact absurd hc_34 (by decide)
      · skip
        exact absurd hc_23 (by decide)
  · skip
    refine zw_aload_n (pc := 14) (n := 0) (x := 81) rfl d_M_letLine_14 ?_
    refine zw_iconst (pc := 15) (v := Int32.ofInt 5) (by decide) d_M_letLine_15 ?_
    refine zr_callV (hf.w hW) hf.x (pc := 16) [.int (Int32.ofInt 5)] [] l_M_190 (c_M_wrong l Mz (hf.w hW) 5 (by decide) (by decide) (show ze Mz 81 7 = 0 by first | assumption | omega) (show 1 ≤ 5 by first | assumption | omega)) rfl rfl rfl (by decide) (Nat.le_of_ble_eq_true rfl) d_M_letLine_16 ?_
    rintro _ N227_ ⟨rfl, hsN227_, ⟨hp0_N227_, hp1_N227_⟩⟩
    have hf_N227_ : zFr [3, 4, 5, 6, 7, 8, 11, 14, 38, 39, 41, 42, 43] [95, 96, 97, 100, 101, 102] Mz N227_ := hf.tr hsN227_ (by decide) (by decide)
    have hb0_N227_ : zFr [3, 4, 5, 6, 7, 8, 11] [] Mz N227_ := zFr.rf.tr hsN227_ (by decide) (by decide)
    have e2_N227_ : ze N227_ 81 2 = ze Mz 81 2 := hsN227_.e (by decide)
    have e3_N227_ : ze N227_ 81 3 = ze Mz 81 3 := hsN227_.e (by decide)
    have e4_N227_ : ze N227_ 81 4 = ze Mz 81 4 := hsN227_.e (by decide)
    have e5_N227_ : ze N227_ 81 5 = ze Mz 81 5 := hsN227_.e (by decide)
    have r7_N227_ := ze_r N227_ 81 7
    have e14_N227_ : ze N227_ 81 14 = ze Mz 81 14 := hsN227_.e (by decide)
    have e26_N227_ : ze N227_ 81 26 = ze Mz 81 26 := hsN227_.e (by decide)
    have e39_N227_ : ze N227_ 81 39 = ze Mz 81 39 := hsN227_.e (by decide)
    have c229_ : zGD N227_ := zGD.fr hsN227_ p0_ (by decide) (by decide)
    have c230_ : zTv N227_ := zTv.fr hsN227_ p4_ (by decide) (by decide)
    show zW l m_M_letLine (zn Mz + 0, zw Mz + 0) N227_ 19 [some (.ref 81), some (.int (Int32.ofInt (ze Mz 81 4))), none, none, none] [] (zpV [3, 4, 5, 6, 7, 8, 11, 14, 38, 39, 41, 42, 43] [95, 96, 97, 100, 101, 102] Mz (fun N => 0 ≤ ze N 81 3 ∧ ze N 81 3 ≤ ze N 81 2 ∧ zTv N ∧ 0 ≤ ze N 81 14 ∧ ze N 81 14 ≤ 8 ∧ (((1 ≤ ze N 81 7 ∧ zmu N = 0) ∨ (ze N 81 7 = 0 ∧ zmu N < zmu Mz)))))
    refine zw_aload_n (pc := 19) (n := 0) (x := 81) rfl d_M_letLine_19 ?_
    refine zr_callV (hf_N227_.w hW) hf_N227_.x (pc := 20) [] [] l_M_183 (c_M_isGood l N227_ (hf_N227_.w hW) ) rfl rfl rfl (by decide) (Nat.le_of_ble_eq_true rfl) d_M_letLine_20 ?_
    rintro _ N231_ ⟨v232_, rfl, ⟨hv232_a, hv232_b⟩, hsN231_, hp0_N231_⟩
    obtain rfl := hsN231_.eq.symm
    replace hp0_N231_ : ((v232_ = 1 ∧ ze N227_ 81 7 = 0) ∨ (v232_ = 0 ∧ ze N227_ 81 7 ≠ 0)) := hp0_N231_
    rcases hp0_N231_ with ⟨rfl, ha20_0_hp0_N231_⟩ | ⟨rfl, ha20_0_hp0_N231_⟩
    · skip
      exfalso; omega
    · skip
      show zW l m_M_letLine (zn Mz + 0, zw Mz + 0) N227_ 23 [some (.ref 81), some (.int (Int32.ofInt (ze Mz 81 4))), none, none, none] [.int (Int32.ofInt 0)] (zpV [3, 4, 5, 6, 7, 8, 11, 14, 38, 39, 41, 42, 43] [95, 96, 97, 100, 101, 102] Mz (fun N => 0 ≤ ze N 81 3 ∧ ze N 81 3 ≤ ze N 81 2 ∧ zTv N ∧ 0 ≤ ze N 81 14 ∧ ze N 81 14 ≤ 8 ∧ (((1 ≤ ze N 81 7 ∧ zmu N = 0) ∨ (ze N 81 7 = 0 ∧ zmu N < zmu Mz)))))
      refine zr_if_eq (pc := 23) (tgt := 30) ⟨(by decide), (by decide)⟩ (by decide) d_M_letLine_23 (fun hc_23 => ?_) (fun hc_23 => ?_)
      · skip
        refine zw_aload_n (pc := 30) (n := 0) (x := 81) rfl d_M_letLine_30 ?_
        refine zr_callV (hf_N227_.w hW) hf_N227_.x (pc := 31) [] [] l_M_183 (c_M_isGood l N227_ (hf_N227_.w hW) ) rfl rfl rfl (by decide) (Nat.le_of_ble_eq_true rfl) d_M_letLine_31 ?_
        rintro _ N233_ ⟨v234_, rfl, ⟨hv234_a, hv234_b⟩, hsN233_, hp0_N233_⟩
        obtain rfl := hsN233_.eq.symm
        replace hp0_N233_ : ((v234_ = 1 ∧ ze N227_ 81 7 = 0) ∨ (v234_ = 0 ∧ ze N227_ 81 7 ≠ 0)) := hp0_N233_
        rcases hp0_N233_ with ⟨rfl, ha31_0_hp0_N233_⟩ | ⟨rfl, ha31_0_hp0_N233_⟩
        · skip
          exfalso; omega
        · skip
          show zW l m_M_letLine (zn Mz + 0, zw Mz + 0) N227_ 34 [some (.ref 81), some (.int (Int32.ofInt (ze Mz 81 4))), none, none, none] [.int (Int32.ofInt 0)] (zpV [3, 4, 5, 6, 7, 8, 11, 14, 38, 39, 41, 42, 43] [95, 96, 97, 100, 101, 102] Mz (fun N => 0 ≤ ze N 81 3 ∧ ze N 81 3 ≤ ze N 81 2 ∧ zTv N ∧ 0 ≤ ze N 81 14 ∧ ze N 81 14 ≤ 8 ∧ (((1 ≤ ze N 81 7 ∧ zmu N = 0) ∨ (ze N 81 7 = 0 ∧ zmu N < zmu Mz)))))
          refine zr_if_eq (pc := 34) (tgt := 49) ⟨(by decide), (by decide)⟩ (by decide) d_M_letLine_34 (fun hc_34 => ?_) (fun hc_34 => ?_)
          · skip
            refine zw_aload_n (pc := 49) (n := 0) (x := 81) rfl d_M_letLine_49 ?_
            refine zr_callV (hf_N227_.w hW) hf_N227_.x (pc := 50) [] [] l_M_183 (c_M_isGood l N227_ (hf_N227_.w hW) ) rfl rfl rfl (by decide) (Nat.le_of_ble_eq_true rfl) d_M_letLine_50 ?_
            rintro _ N235_ ⟨v236_, rfl, ⟨hv236_a, hv236_b⟩, hsN235_, hp0_N235_⟩
            obtain rfl := hsN235_.eq.symm
            replace hp0_N235_ : ((v236_ = 1 ∧ ze N227_ 81 7 = 0) ∨ (v236_ = 0 ∧ ze N227_ 81 7 ≠ 0)) := hp0_N235_
            rcases hp0_N235_ with ⟨rfl, ha50_0_hp0_N235_⟩ | ⟨rfl, ha50_0_hp0_N235_⟩
            · skip
              exfalso; omega
            · skip
              show zW l m_M_letLine (zn Mz + 0, zw Mz + 0) N227_ 53 [some (.ref 81), some (.int (Int32.ofInt (ze Mz 81 4))), none, none, none] [.int (Int32.ofInt 0)] (zpV [3, 4, 5, 6, 7, 8, 11, 14, 38, 39, 41, 42, 43] [95, 96, 97, 100, 101, 102] Mz (fun N => 0 ≤ ze N 81 3 ∧ ze N 81 3 ≤ ze N 81 2 ∧ zTv N ∧ 0 ≤ ze N 81 14 ∧ ze N 81 14 ≤ 8 ∧ (((1 ≤ ze N 81 7 ∧ zmu N = 0) ∨ (ze N 81 7 = 0 ∧ zmu N < zmu Mz)))))
              refine zr_if_eq (pc := 53) (tgt := 69) ⟨(by decide), (by decide)⟩ (by decide) d_M_letLine_53 (fun hc_53 => ?_) (fun hc_53 => ?_)
              · skip
                exact j_69 N227_ hb0_N227_ (show 0 ≤ ze N227_ 81 3 by first | assumption | omega) (show ze N227_ 81 3 ≤ ze N227_ 81 2 by first | assumption | omega) c230_ (show (1 ≤ ze N227_ 81 7 ∧ zmu N227_ = 0) ∨ (ze N227_ 81 7 = 0 ∧ ze N227_ 81 5 = 1 ∧ zmu N227_ < zmu Mz) from Or.inl (⟨(show 1 ≤ ze N227_ 81 7 by first | assumption | omega), (show zmu N227_ = 0 by first | assumption | omega)⟩))
              · skip
                exact absurd hc_53 (by decide)
          · skip
            exact absurd hc_34 (by decide)
      · skip
        exact absurd hc_23 (by decide)
