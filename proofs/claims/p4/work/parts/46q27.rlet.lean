/-! 27 -/
set_option maxHeartbeats 40000000 in
theorem c_M_letLine (l : Launch) (Mz : zMem) (hW : zMt Mz) (p0_ : zGD Mz) (p1_ : 0 ≤ ze Mz 81 3) (p2_ : ze Mz 81 3 ≤ ze Mz 81 2) (p3_ : ze Mz 81 2 ≤ 700) (p4_ : zTv Mz) (p5_ : ze Mz 81 7 = 0) (p6_ : ze Mz 81 5 = 1) (p7_ : 0 ≤ ze Mz 81 14) (p8_ : ze Mz 81 14 ≤ 8) : zC l m_M_letLine 0 0 [.ref 81] Mz (zpV [3, 4, 5, 6, 7, 8, 11, 14, 38, 39, 41, 42, 43] [95, 96, 97, 100, 101, 102] Mz (fun N => 0 ≤ ze N 81 3 ∧ ze N 81 3 ≤ ze N 81 2 ∧ zTv N ∧ 0 ≤ ze N 81 14 ∧ ze N 81 14 ≤ 8 ∧ (((1 ≤ ze N 81 7 ∧ zmu N = 0) ∨ (ze N 81 7 = 0 ∧ zmu N < zmu Mz))))) := by
  refine zC_of (L0 := [some (.ref 81), none, none, none, none]) md_M_letLine (Nat.le_of_ble_eq_true rfl) rfl ?_ zQ0
  have hf : zFr [3, 4, 5, 6, 7, 8, 11, 14, 38, 39, 41, 42, 43] [95, 96, 97, 100, 101, 102] Mz Mz := zFr.rf
  have r_2 := ze_r Mz 81 2
  have r_3 := ze_r Mz 81 3
  have r_4 := ze_r Mz 81 4
  have r_5 := ze_r Mz 81 5
  have r_7 := ze_r Mz 81 7
  have r_14 := ze_r Mz 81 14
  have r_26 := ze_r Mz 81 26
  have r_39 := ze_r Mz 81 39
  have gb := p0_.1
  refine zw_aload_n (pc := 0) (n := 0) (x := 81) rfl d_M_letLine_0 ?_
  refine zr_getI (hf.w hW) (pc := 1) f_M_145 rfl d_M_letLine_1 ?_
  refine zw_istore_n (pc := 4) (i := 1) (L2 := [some (.ref 81), some (.int (Int32.ofInt (ze Mz 81 4))), none, none, none]) rfl (by decide) rfl d_M_letLine_4 ?_
  have j_69 : ∀ (N1_ : zMem) (hs2_ : zFr [3, 4, 5, 6, 7, 8, 11] [] Mz N1_) (i3_ : 0 ≤ ze N1_ 81 3) (i4_ : ze N1_ 81 3 ≤ ze N1_ 81 2) (i5_ : zTv N1_) (i6_ : ze N1_ 81 14 = ze Mz 81 14) (i7_ : (1 ≤ ze N1_ 81 7 ∧ zmu N1_ = 0) ∨ (ze N1_ 81 7 = 0 ∧ ze N1_ 81 5 = 1 ∧ zmu N1_ < zmu Mz ∧ ze Mz 81 14 ≤ 7)), zW l m_M_letLine (zn Mz + 0, zw Mz + 0) N1_ 69 [some (.ref 81), some (.int (Int32.ofInt (ze Mz 81 4))), none, none, none] [] (zpV [3, 4, 5, 6, 7, 8, 11, 14, 38, 39, 41, 42, 43] [95, 96, 97, 100, 101, 102] Mz (fun N => 0 ≤ ze N 81 3 ∧ ze N 81 3 ≤ ze N 81 2 ∧ zTv N ∧ 0 ≤ ze N 81 14 ∧ ze N 81 14 ≤ 8 ∧ (((1 ≤ ze N 81 7 ∧ zmu N = 0) ∨ (ze N 81 7 = 0 ∧ zmu N < zmu Mz))))) := by
    intro N1_ hs2_ i3_ i4_ i5_ i6_ i7_
    have hf_N1_ : zFr [3, 4, 5, 6, 7, 8, 11, 14, 38, 39, 41, 42, 43] [95, 96, 97, 100, 101, 102] Mz N1_ := hf.tr hs2_ (by decide) (by decide)
    have e2_N1_ : ze N1_ 81 2 = ze Mz 81 2 := hs2_.e (by decide)
    have r3_N1_ := ze_r N1_ 81 3
    have r4_N1_ := ze_r N1_ 81 4
    have r5_N1_ := ze_r N1_ 81 5
    have r7_N1_ := ze_r N1_ 81 7
    have e14_N1_ : ze N1_ 81 14 = ze Mz 81 14 := hs2_.e (by decide)
    have e26_N1_ : ze N1_ 81 26 = ze Mz 81 26 := hs2_.e (by decide)
    have e39_N1_ : ze N1_ 81 39 = ze Mz 81 39 := hs2_.e (by decide)
    have c8_ : zGD N1_ := zGD.fr hs2_ p0_ (by decide) (by decide)
    have zz2_N1_ : ze N1_ 81 2 = ze Mz 81 2 := hf_N1_.e (by decide)
    have zz26_N1_ : ze N1_ 81 26 = ze Mz 81 26 := hf_N1_.e (by decide)
    rcases i7_ with ⟨hl69_0_i7_, hl69_1_i7_⟩ | ⟨hl69_0_i7_, hl69_1_i7_, hl69_2_i7_, hl69_3_i7_⟩
    · skip
      refine zw_aload_n (pc := 69) (n := 0) (x := 81) rfl d_M_letLine_69 ?_
      refine zr_getI (hf_N1_.w hW) (pc := 70) f_M_172 rfl d_M_letLine_70 ?_
      refine zr_if_le (pc := 73) (tgt := 77) ⟨(ze_r N1_ 81 7).1, (ze_r N1_ 81 7).2⟩ (by decide) d_M_letLine_73 (fun hc_73 => ?_) (fun hc_73 => ?_)
      · skip
        exfalso; omega
      · skip
        have hz0 := zmu_s N1_
        exact zr_vret (pc := 76) rfl hf_N1_ ⟨(show 0 ≤ ze N1_ 81 3 by first | assumption | omega), (show ze N1_ 81 3 ≤ ze N1_ 81 2 by first | assumption | omega), i5_, (show 0 ≤ ze N1_ 81 14 by first | assumption | omega), (show ze N1_ 81 14 ≤ 8 by first | assumption | omega), (show ((1 ≤ ze N1_ 81 7 ∧ zmu N1_ = 0) ∨ (ze N1_ 81 7 = 0 ∧ zmu N1_ < zmu Mz)) from Or.inl (⟨(show 1 ≤ ze N1_ 81 7 by first | assumption | omega), (show zmu N1_ = 0 by first | assumption | omega)⟩))⟩ d_M_letLine_76
    · skip
      refine zw_aload_n (pc := 69) (n := 0) (x := 81) rfl d_M_letLine_69 ?_
      refine zr_getI (hf_N1_.w hW) (pc := 70) f_M_172 rfl d_M_letLine_70 ?_
      refine zr_if_le (pc := 73) (tgt := 77) ⟨(ze_r N1_ 81 7).1, (ze_r N1_ 81 7).2⟩ (by decide) d_M_letLine_73 (fun hc_73 => ?_) (fun hc_73 => ?_)
      · skip
        refine zw_aload_n (pc := 77) (n := 0) (x := 81) rfl d_M_letLine_77 ?_
        refine zr_getJ (hf_N1_.w hW) (pc := 78) f_M_148 rfl d_M_letLine_78 ?_
        have hr9_ := zg_r N1_ 81 11
        refine zw_lstore_n (pc := 81) (i := 2) (L2 := [some (.ref 81), some (.int (Int32.ofInt (ze Mz 81 4))), some (.long (Int64.ofInt (zg N1_ 81 11))), none, none]) rfl (by decide) rfl d_M_letLine_81 ?_
        refine zw_aload_n (pc := 82) (n := 0) (x := 81) rfl d_M_letLine_82 ?_
        refine zr_callV (hf_N1_.w hW) hf_N1_.x (pc := 83) [] [] l_M_193 (c_M_goOn l N1_ (hf_N1_.w hW) (show 0 ≤ ze N1_ 81 3 by first | assumption | omega) (show ze N1_ 81 3 ≤ ze N1_ 81 2 by first | assumption | omega) (show ze N1_ 81 2 ≤ 700 by first | assumption | omega) (show ze N1_ 81 5 ≠ 0 by first | assumption | omega) (show ze N1_ 81 7 = 0 by first | assumption | omega)) rfl rfl rfl (by decide) (Nat.le_of_ble_eq_true rfl) d_M_letLine_83 ?_
        rintro _ N10_ ⟨rfl, hsN10_, ⟨hp0_N10_, hp1_N10_, hp2_N10_, hp3_N10_, hp4_N10_⟩⟩
        have hf_N10_ : zFr [3, 4, 5, 6, 7, 8, 11, 14, 38, 39, 41, 42, 43] [95, 96, 97, 100, 101, 102] Mz N10_ := hf_N1_.tr hsN10_ (by decide) (by decide)
        have e2_N10_ : ze N10_ 81 2 = ze N1_ 81 2 := hsN10_.e (by decide)
        have r3_N10_ := ze_r N10_ 81 3
        have r4_N10_ := ze_r N10_ 81 4
        have r5_N10_ := ze_r N10_ 81 5
        have e7_N10_ : ze N10_ 81 7 = ze N1_ 81 7 := hsN10_.e (by decide)
        have e14_N10_ : ze N10_ 81 14 = ze N1_ 81 14 := hsN10_.e (by decide)
        have e26_N10_ : ze N10_ 81 26 = ze N1_ 81 26 := hsN10_.e (by decide)
        have e39_N10_ : ze N10_ 81 39 = ze N1_ 81 39 := hsN10_.e (by decide)
        have c12_ : zGD N10_ := zGD.fr hsN10_ c8_ (by decide) (by decide)
        show zW l m_M_letLine (zn Mz + 0, zw Mz + 0) N10_ 86 [some (.ref 81), some (.int (Int32.ofInt (ze Mz 81 4))), some (.long (Int64.ofInt (zg N1_ 81 11))), none, none] [] (zpV [3, 4, 5, 6, 7, 8, 11, 14, 38, 39, 41, 42, 43] [95, 96, 97, 100, 101, 102] Mz (fun N => 0 ≤ ze N 81 3 ∧ ze N 81 3 ≤ ze N 81 2 ∧ zTv N ∧ 0 ≤ ze N 81 14 ∧ ze N 81 14 ≤ 8 ∧ (((1 ≤ ze N 81 7 ∧ zmu N = 0) ∨ (ze N 81 7 = 0 ∧ zmu N < zmu Mz)))))
        have j_123 : ∀ (N13_ : zMem) (hs14_ : zFr [3, 4, 5, 6, 7, 8, 11, 38, 39, 41, 42, 43] [95, 96, 97, 100] N10_ N13_) (i15_ : 0 ≤ ze N13_ 81 3) (i16_ : ze N13_ 81 3 ≤ ze N13_ 81 2) (i17_ : zTv N13_) (i18_ : ze N13_ 81 14 = ze Mz 81 14) (i19_ : (1 ≤ ze N13_ 81 7 ∧ zmu N13_ = 0) ∨ (ze N13_ 81 7 = 0 ∧ zmu N13_ < zmu Mz)), zW l m_M_letLine (zn Mz + 0, zw Mz + 0) N13_ 123 [some (.ref 81), some (.int (Int32.ofInt (ze Mz 81 4))), some (.long (Int64.ofInt (zg N1_ 81 11))), none, none] [] (zpV [3, 4, 5, 6, 7, 8, 11, 14, 38, 39, 41, 42, 43] [95, 96, 97, 100, 101, 102] Mz (fun N => 0 ≤ ze N 81 3 ∧ ze N 81 3 ≤ ze N 81 2 ∧ zTv N ∧ 0 ≤ ze N 81 14 ∧ ze N 81 14 ≤ 8 ∧ (((1 ≤ ze N 81 7 ∧ zmu N = 0) ∨ (ze N 81 7 = 0 ∧ zmu N < zmu Mz))))) := by
          clear hs2_ i3_ i4_ i5_ i6_ hf_N1_ e2_N1_ r3_N1_ r4_N1_ r5_N1_ r7_N1_ e14_N1_ e26_N1_ e39_N1_ c8_ zz2_N1_ zz26_N1_ hl69_0_i7_ hl69_1_i7_ hl69_2_i7_ hc_73 hr9_ hsN10_ hp3_N10_ hp4_N10_ e2_N10_ e7_N10_ e14_N10_ e26_N10_ e39_N10_
          intro N13_ hs14_ i15_ i16_ i17_ i18_ i19_
          have hf_N13_ : zFr [3, 4, 5, 6, 7, 8, 11, 14, 38, 39, 41, 42, 43] [95, 96, 97, 100, 101, 102] Mz N13_ := hf_N10_.tr hs14_ (by decide) (by decide)
          have e2_N13_ : ze N13_ 81 2 = ze N10_ 81 2 := hs14_.e (by decide)
          have r3_N13_ := ze_r N13_ 81 3
          have r4_N13_ := ze_r N13_ 81 4
          have r5_N13_ := ze_r N13_ 81 5
          have r7_N13_ := ze_r N13_ 81 7
          have e14_N13_ : ze N13_ 81 14 = ze N10_ 81 14 := hs14_.e (by decide)
          have e26_N13_ : ze N13_ 81 26 = ze N10_ 81 26 := hs14_.e (by decide)
          have r39_N13_ := ze_r N13_ 81 39
          have c20_ : zGD N13_ := zGD.fr hs14_ c12_ (by decide) (by decide)
          have zz2_N13_ : ze N13_ 81 2 = ze Mz 81 2 := hf_N13_.e (by decide)
          have zz26_N13_ : ze N13_ 81 26 = ze Mz 81 26 := hf_N13_.e (by decide)
          rcases i19_ with ⟨hl123_0_i19_, hl123_1_i19_⟩ | ⟨hl123_0_i19_, hl123_1_i19_⟩
          · skip
            refine zw_aload_n (pc := 123) (n := 0) (x := 81) rfl d_M_letLine_123 ?_
            refine zr_getI (hf_N13_.w hW) (pc := 124) f_M_172 rfl d_M_letLine_124 ?_
            refine zr_if_le (pc := 127) (tgt := 131) ⟨(ze_r N13_ 81 7).1, (ze_r N13_ 81 7).2⟩ (by decide) d_M_letLine_127 (fun hc_127 => ?_) (fun hc_127 => ?_)
            · skip
              exfalso; omega
            · skip
              have hz0 := zmu_s N13_
              exact zr_vret (pc := 130) rfl hf_N13_ ⟨(show 0 ≤ ze N13_ 81 3 by first | assumption | omega), (show ze N13_ 81 3 ≤ ze N13_ 81 2 by first | assumption | omega), i17_, (show 0 ≤ ze N13_ 81 14 by first | assumption | omega), (show ze N13_ 81 14 ≤ 8 by first | assumption | omega), (show ((1 ≤ ze N13_ 81 7 ∧ zmu N13_ = 0) ∨ (ze N13_ 81 7 = 0 ∧ zmu N13_ < zmu Mz)) from Or.inl (⟨(show 1 ≤ ze N13_ 81 7 by first | assumption | omega), (show zmu N13_ = 0 by first | assumption | omega)⟩))⟩ d_M_letLine_130
          · skip
            refine zw_aload_n (pc := 123) (n := 0) (x := 81) rfl d_M_letLine_123 ?_
            refine zr_getI (hf_N13_.w hW) (pc := 124) f_M_172 rfl d_M_letLine_124 ?_
            refine zr_if_le (pc := 127) (tgt := 131) ⟨(ze_r N13_ 81 7).1, (ze_r N13_ 81 7).2⟩ (by decide) d_M_letLine_127 (fun hc_127 => ?_) (fun hc_127 => ?_)
            · skip
              refine zw_aload_n (pc := 131) (n := 0) (x := 81) rfl d_M_letLine_131 ?_
              refine zr_getF (r := 101) (hf_N13_.w hW) (pc := 132) f_M_75 rfl (zh_101 (hf_N13_.w hW)).1 d_M_letLine_132 ?_
              refine zw_aload_n (pc := 135) (n := 0) (x := 81) rfl d_M_letLine_135 ?_
              refine zr_getI (hf_N13_.w hW) (pc := 136) f_M_299 rfl d_M_letLine_136 ?_
              refine zw_lload_n (pc := 139) (n := 2) (x := Int64.ofInt (zg N1_ 81 11)) rfl d_M_letLine_139 ?_
              refine zr_last (pc := 140) (zh_101 (hf_N13_.w hW)).2 (by decide) (by decide) (by omega) (by omega) d_M_letLine_140 (fun N21_ hN21_ hsN21_ => ?_)
              have hf_N21_ : zFr [3, 4, 5, 6, 7, 8, 11, 14, 38, 39, 41, 42, 43] [95, 96, 97, 100, 101, 102] Mz N21_ := hf_N13_.tr hsN21_ (by decide) (by decide)
              have e2_N21_ : ze N21_ 81 2 = ze N13_ 81 2 := hsN21_.e (by decide)
              have e3_N21_ : ze N21_ 81 3 = ze N13_ 81 3 := hsN21_.e (by decide)
              have e4_N21_ : ze N21_ 81 4 = ze N13_ 81 4 := hsN21_.e (by decide)
              have e5_N21_ : ze N21_ 81 5 = ze N13_ 81 5 := hsN21_.e (by decide)
              have e7_N21_ : ze N21_ 81 7 = ze N13_ 81 7 := hsN21_.e (by decide)
              have e14_N21_ : ze N21_ 81 14 = ze N13_ 81 14 := hsN21_.e (by decide)
              have e26_N21_ : ze N21_ 81 26 = ze N13_ 81 26 := hsN21_.e (by decide)
              have e39_N21_ : ze N21_ 81 39 = ze N13_ 81 39 := hsN21_.e (by decide)
              have qzmu_N21_ : zmu N21_ = zmu N13_ := zmu_f hsN21_ (by decide)
              have c22_ : zGD N21_ := zGD.fr hsN21_ c20_ (by decide) (by decide)
              have c23_ : zTv N21_ := zTv.fr hsN21_ i17_ (by decide) (by decide)
              refine zw_iconst (pc := 141) (v := Int32.ofInt 0) (by decide) d_M_letLine_141 ?_
              refine zw_istore (pc := 142) (i := 4) (L2 := [some (.ref 81), some (.int (Int32.ofInt (ze Mz 81 4))), some (.long (Int64.ofInt (zg N1_ 81 11))), none, some (.int (Int32.ofInt 0))]) (by decide) rfl d_M_letLine_142 ?_
              have lp_144 : ∀ (n : Nat) (u24_ : Int) (hu24_a : -2147483648 ≤ u24_) (hu24_b : u24_ < 2147483648) (N25_ : zMem) (hs26_ : zFr [] [102] N21_ N25_) (i27_ : 0 ≤ u24_), (ze Mz 81 26 - u24_).toNat < n → zW l m_M_letLine (zn Mz + 0, zw Mz + 0) N25_ 144 [some (.ref 81), some (.int (Int32.ofInt (ze Mz 81 4))), some (.long (Int64.ofInt (zg N1_ 81 11))), none, some (.int (Int32.ofInt u24_))] [] (zpV [3, 4, 5, 6, 7, 8, 11, 14, 38, 39, 41, 42, 43] [95, 96, 97, 100, 101, 102] Mz (fun N => 0 ≤ ze N 81 3 ∧ ze N 81 3 ≤ ze N 81 2 ∧ zTv N ∧ 0 ≤ ze N 81 14 ∧ ze N 81 14 ≤ 8 ∧ (((1 ≤ ze N 81 7 ∧ zmu N = 0) ∨ (ze N 81 7 = 0 ∧ zmu N < zmu Mz))))) := by
                intro n
                induction n with
                | zero =>
                  intro u24_ hu24_a hu24_b N25_ hs26_ i27_ h0
                  exact absurd h0 (Nat.not_lt_zero _)
                | succ n ih_144 =>
                  intro u24_ hu24_a hu24_b N25_ hs26_ i27_ hlt_144
                  have hf_N25_ : zFr [3, 4, 5, 6, 7, 8, 11, 14, 38, 39, 41, 42, 43] [95, 96, 97, 100, 101, 102] Mz N25_ := hf_N21_.tr hs26_ (by decide) (by decide)
                  have e2_N25_ : ze N25_ 81 2 = ze N21_ 81 2 := hs26_.e (by decide)
                  have e3_N25_ : ze N25_ 81 3 = ze N21_ 81 3 := hs26_.e (by decide)
                  have e4_N25_ : ze N25_ 81 4 = ze N21_ 81 4 := hs26_.e (by decide)
                  have e5_N25_ : ze N25_ 81 5 = ze N21_ 81 5 := hs26_.e (by decide)
                  have e7_N25_ : ze N25_ 81 7 = ze N21_ 81 7 := hs26_.e (by decide)
                  have e14_N25_ : ze N25_ 81 14 = ze N21_ 81 14 := hs26_.e (by decide)
                  have e26_N25_ : ze N25_ 81 26 = ze N21_ 81 26 := hs26_.e (by decide)
                  have e39_N25_ : ze N25_ 81 39 = ze N21_ 81 39 := hs26_.e (by decide)
                  have qzmu_N25_ : zmu N25_ = zmu N21_ := zmu_f hs26_ (by decide)
                  have c28_ : zGD N25_ := zGD.fr hs26_ c22_ (by decide) (by decide)
                  have c29_ : zTv N25_ := zTv.fr hs26_ c23_ (by decide) (by decide)
                  have zz2_N25_ : ze N25_ 81 2 = ze Mz 81 2 := hf_N25_.e (by decide)
                  have zz26_N25_ : ze N25_ 81 26 = ze Mz 81 26 := hf_N25_.e (by decide)
                  refine zw_iload (pc := 144) (i := 4) (x := Int32.ofInt u24_) rfl d_M_letLine_144 ?_
                  refine zw_aload_n (pc := 146) (n := 0) (x := 81) rfl d_M_letLine_146 ?_
                  refine zr_getI0 hf_N25_ hW (pc := 147) (by decide) f_M_235 rfl d_M_letLine_147 ?_
                  refine zr_icmp_ge (pc := 150) (tgt := 181) ⟨hu24_a, hu24_b⟩ ⟨(ze_r Mz 81 26).1, (ze_r Mz 81 26).2⟩ (by decide) d_M_letLine_150 (fun hc_150 => ?_) (fun hc_150 => ?_)
                  · skip
                    refine zw_aload_n (pc := 181) (n := 0) (x := 81) rfl d_M_letLine_181 ?_
                    refine zw_dup (pc := 182) rfl d_M_letLine_182 ?_
                    refine zr_getI (hf_N25_.w hW) (pc := 183) f_M_299 rfl d_M_letLine_183 ?_
                    refine zw_iconst (pc := 186) (v := Int32.ofInt 1) (by decide) d_M_letLine_186 ?_
                    refine zr_iadd (pc := 187) d_M_letLine_187 ?_
                    refine zr_putI (hf_N25_.w hW) (pc := 188) f_M_299 rfl rfl ⟨by omega, by omega⟩ rfl rfl d_M_letLine_188 (fun N30_ hsN30_ hvN30_ => ?_)
                    have hf_N30_ : zFr [3, 4, 5, 6, 7, 8, 11, 14, 38, 39, 41, 42, 43] [95, 96, 97, 100, 101, 102] Mz N30_ := hf_N25_.tr hsN30_ (by decide) (by decide)
                    have e2_N30_ : ze N30_ 81 2 = ze N25_ 81 2 := hsN30_.e (by decide)
                    have e3_N30_ : ze N30_ 81 3 = ze N25_ 81 3 := hsN30_.e (by decide)
                    have e4_N30_ : ze N30_ 81 4 = ze N25_ 81 4 := hsN30_.e (by decide)
                    have e5_N30_ : ze N30_ 81 5 = ze N25_ 81 5 := hsN30_.e (by decide)
                    have e7_N30_ : ze N30_ 81 7 = ze N25_ 81 7 := hsN30_.e (by decide)
                    have r14_N30_ := ze_r N30_ 81 14
                    have e26_N30_ : ze N30_ 81 26 = ze N25_ 81 26 := hsN30_.e (by decide)
                    have e39_N30_ : ze N30_ 81 39 = ze N25_ 81 39 := hsN30_.e (by decide)
                    have qzmu_N30_ : zmu N30_ = zmu N25_ := zmu_f hsN30_ (by decide)
                    have c31_ : zGD N30_ := zGD.fr hsN30_ c28_ (by decide) (by decide)
                    have c32_ : zTv N30_ := zTv.fr hsN30_ c29_ (by decide) (by decide)
                    have hz0 := zmu_s N30_
                    exact zr_vret (pc := 191) rfl hf_N30_ ⟨(show 0 ≤ ze N30_ 81 3 by first | assumption | omega), (show ze N30_ 81 3 ≤ ze N30_ 81 2 by first | assumption | omega), c32_, (show 0 ≤ ze N30_ 81 14 by first | assumption | omega), (show ze N30_ 81 14 ≤ 8 by first | assumption | omega), (show ((1 ≤ ze N30_ 81 7 ∧ zmu N30_ = 0) ∨ (ze N30_ 81 7 = 0 ∧ zmu N30_ < zmu Mz)) from Or.inr (⟨(show ze N30_ 81 7 = 0 by first | assumption | omega), (show zmu N30_ < zmu Mz by first | assumption | omega)⟩))⟩ d_M_letLine_191
                  · skip
                    refine zw_aload_n (pc := 153) (n := 0) (x := 81) rfl d_M_letLine_153 ?_
                    refine zr_getF (r := 102) (hf_N25_.w hW) (pc := 154) f_M_78 rfl (zh_102 (hf_N25_.w hW)).1 d_M_letLine_154 ?_
                    refine zw_bipush (pc := 157) (v := Int32.ofInt 64) (by decide) d_M_letLine_157 ?_
                    refine zw_aload_n (pc := 159) (n := 0) (x := 81) rfl d_M_letLine_159 ?_
                    refine zr_getI (hf_N25_.w hW) (pc := 160) f_M_299 rfl d_M_letLine_160 ?_
                    refine zr_imul (pc := 163) d_M_letLine_163 ?_
                    refine zw_iload (pc := 164) (i := 4) (x := Int32.ofInt u24_) rfl d_M_letLine_164 ?_
                    refine zr_iadd (pc := 166) d_M_letLine_166 ?_
                    refine zw_aload_n (pc := 167) (n := 0) (x := 81) rfl d_M_letLine_167 ?_
                    refine zr_getF (r := 95) (hf_N25_.w hW) (pc := 168) f_M_56 rfl (zh_95 (hf_N25_.w hW)).1 d_M_letLine_168 ?_
                    refine zw_iload (pc := 171) (i := 4) (x := Int32.ofInt u24_) rfl d_M_letLine_171 ?_
                    refine zr_laldn (pc := 173) (zh_95 (hf_N25_.w hW)).2 (by decide) (by omega) (by omega) d_M_letLine_173 (fun v33_ hv33_ hv33_a hv33_b => ?_)
                    refine zr_last (pc := 174) (zh_102 (hf_N25_.w hW)).2 (by decide) (by decide) (by omega) (by omega) d_M_letLine_174 (fun N34_ hN34_ hsN34_ => ?_)
                    have hf_N34_ : zFr [3, 4, 5, 6, 7, 8, 11, 14, 38, 39, 41, 42, 43] [95, 96, 97, 100, 101, 102] Mz N34_ := hf_N25_.tr hsN34_ (by decide) (by decide)
                    have hb0_N34_ : zFr [] [102] N21_ N34_ := hs26_.tr hsN34_ (by decide) (by decide)
                    have e2_N34_ : ze N34_ 81 2 = ze N25_ 81 2 := hsN34_.e (by decide)
                    have e3_N34_ : ze N34_ 81 3 = ze N25_ 81 3 := hsN34_.e (by decide)
                    have e4_N34_ : ze N34_ 81 4 = ze N25_ 81 4 := hsN34_.e (by decide)
                    have e5_N34_ : ze N34_ 81 5 = ze N25_ 81 5 := hsN34_.e (by decide)
                    have e7_N34_ : ze N34_ 81 7 = ze N25_ 81 7 := hsN34_.e (by decide)
                    have e14_N34_ : ze N34_ 81 14 = ze N25_ 81 14 := hsN34_.e (by decide)
                    have e26_N34_ : ze N34_ 81 26 = ze N25_ 81 26 := hsN34_.e (by decide)
                    have e39_N34_ : ze N34_ 81 39 = ze N25_ 81 39 := hsN34_.e (by decide)
                    have qzmu_N34_ : zmu N34_ = zmu N25_ := zmu_f hsN34_ (by decide)
                    have c35_ : zGD N34_ := zGD.fr hsN34_ c28_ (by decide) (by decide)
                    have c36_ : zTv N34_ := zTv.fr hsN34_ c29_ (by decide) (by decide)
                    refine zr_iinc (pc := 175) (i := 4) (a := u24_) (n := 1) (L2 := [some (.ref 81), some (.int (Int32.ofInt (ze Mz 81 4))), some (.long (Int64.ofInt (zg N1_ 81 11))), none, some (.int (Int32.ofInt (u24_ + 1)))]) rfl (by decide) rfl d_M_letLine_175 ?_
                    refine zw_goto (pc := 178) (tgt := 144) (by decide) d_M_letLine_178 ?_
                    exact ih_144 (u24_ + 1) (by omega) (by omega) N34_ hb0_N34_ (show 0 ≤ (u24_ + 1) by first | assumption | omega) (by omega)
              exact lp_144 _ 0 (by decide) (by decide) N21_ zFr.rf (show 0 ≤ (0 : Int) by first | assumption | omega) (Nat.lt_succ_self _)
            · skip
              exfalso; omega
        refine zw_aload_n (pc := 86) (n := 0) (x := 81) rfl d_M_letLine_86 ?_
        refine zw_bipush (pc := 87) (v := Int32.ofInt 61) (by decide) d_M_letLine_87 ?_
        refine zr_callV (hf_N10_.w hW) hf_N10_.x (pc := 89) [.int (Int32.ofInt 61)] [] l_M_355 (c_M_must l N10_ (hf_N10_.w hW) 61 (by decide) (by decide) (show 0 ≤ ze N10_ 81 3 by first | assumption | omega) (show ze N10_ 81 3 ≤ ze N10_ 81 2 by first | assumption | omega) (show ze N10_ 81 2 ≤ 700 by first | assumption | omega) hp2_N10_ (show 0 ≤ ze N10_ 81 7 by first | assumption | omega)) rfl rfl rfl (by decide) (Nat.le_of_ble_eq_true rfl) d_M_letLine_89 ?_
        rintro _ N37_ ⟨rfl, hsN37_, ⟨hp0_N37_, hp1_N37_, hp2_N37_, hp3_N37_⟩⟩
        have hf_N37_ : zFr [3, 4, 5, 6, 7, 8, 11, 14, 38, 39, 41, 42, 43] [95, 96, 97, 100, 101, 102] Mz N37_ := hf_N10_.tr hsN37_ (by decide) (by decide)
        have hb0_N37_ : zFr [3, 4, 5, 6, 7, 8, 11, 38, 39, 41, 42, 43] [95, 96, 97, 100] N10_ N37_ := zFr.rf.tr hsN37_ (by decide) (by decide)
        have e2_N37_ : ze N37_ 81 2 = ze N10_ 81 2 := hsN37_.e (by decide)
        have r3_N37_ := ze_r N37_ 81 3
        have r4_N37_ := ze_r N37_ 81 4
        have r5_N37_ := ze_r N37_ 81 5
        have r7_N37_ := ze_r N37_ 81 7
        have e14_N37_ : ze N37_ 81 14 = ze N10_ 81 14 := hsN37_.e (by decide)
        have e26_N37_ : ze N37_ 81 26 = ze N10_ 81 26 := hsN37_.e (by decide)
        have e39_N37_ : ze N37_ 81 39 = ze N10_ 81 39 := hsN37_.e (by decide)
        have c39_ : zGD N37_ := zGD.fr hsN37_ c12_ (by decide) (by decide)
        rcases hp3_N37_ with ⟨ha89_0_hp3_N37_, ha89_1_hp3_N37_⟩ | ⟨ha89_0_hp3_N37_, ha89_1_hp3_N37_, ha89_2_hp3_N37_⟩
        · skip
          show zW l m_M_letLine (zn Mz + 0, zw Mz + 0) N37_ 92 [some (.ref 81), some (.int (Int32.ofInt (ze Mz 81 4))), some (.long (Int64.ofInt (zg N1_ 81 11))), none, none] [] (zpV [3, 4, 5, 6, 7, 8, 11, 14, 38, 39, 41, 42, 43] [95, 96, 97, 100, 101, 102] Mz (fun N => 0 ≤ ze N 81 3 ∧ ze N 81 3 ≤ ze N 81 2 ∧ zTv N ∧ 0 ≤ ze N 81 14 ∧ ze N 81 14 ≤ 8 ∧ (((1 ≤ ze N 81 7 ∧ zmu N = 0) ∨ (ze N 81 7 = 0 ∧ zmu N < zmu Mz)))))
          refine zw_aload_n (pc := 92) (n := 0) (x := 81) rfl d_M_letLine_92 ?_
          refine zr_callV (hf_N37_.w hW) hf_N37_.x (pc := 93) [] [] l_M_358 (c_M_formula l N37_ (hf_N37_.w hW) c39_ (show 0 ≤ ze N37_ 81 3 by first | assumption | omega) (show ze N37_ 81 3 ≤ ze N37_ 81 2 by first | assumption | omega) (show ze N37_ 81 2 ≤ 700 by first | assumption | omega) hp2_N37_ (show 0 ≤ ze N37_ 81 7 by first | assumption | omega) (show 0 ≤ ze N37_ 81 14 by first | assumption | omega) (show ze N37_ 81 14 ≤ 8 by first | assumption | omega)) rfl rfl rfl (by decide) (Nat.le_of_ble_eq_true rfl) d_M_letLine_93 ?_
          rintro _ N40_ ⟨rfl, hsN40_, ⟨hp0_N40_, hp1_N40_, hp2_N40_, hp3_N40_⟩⟩
          have hf_N40_ : zFr [3, 4, 5, 6, 7, 8, 11, 14, 38, 39, 41, 42, 43] [95, 96, 97, 100, 101, 102] Mz N40_ := hf_N37_.tr hsN40_ (by decide) (by decide)
          have hb0_N40_ : zFr [3, 4, 5, 6, 7, 8, 11, 38, 39, 41, 42, 43] [95, 96, 97, 100] N10_ N40_ := hb0_N37_.tr hsN40_ (by decide) (by decide)
          have e2_N40_ : ze N40_ 81 2 = ze N37_ 81 2 := hsN40_.e (by decide)
          have r3_N40_ := ze_r N40_ 81 3
          have r4_N40_ := ze_r N40_ 81 4
          have r5_N40_ := ze_r N40_ 81 5
          have r7_N40_ := ze_r N40_ 81 7
          have e14_N40_ : ze N40_ 81 14 = ze N37_ 81 14 := hsN40_.e (by decide)
          have e26_N40_ : ze N40_ 81 26 = ze N37_ 81 26 := hsN40_.e (by decide)
          have r39_N40_ := ze_r N40_ 81 39
          have c42_ : zGD N40_ := zGD.fr hsN40_ c39_ (by decide) (by decide)
          rcases hp3_N40_ with ⟨ha93_0_hp3_N40_, ha93_1_hp3_N40_⟩ | ⟨ha93_0_hp3_N40_, ha93_1_hp3_N40_, ha93_2_hp3_N40_⟩
          · skip
            show zW l m_M_letLine (zn Mz + 0, zw Mz + 0) N40_ 96 [some (.ref 81), some (.int (Int32.ofInt (ze Mz 81 4))), some (.long (Int64.ofInt (zg N1_ 81 11))), none, none] [] (zpV [3, 4, 5, 6, 7, 8, 11, 14, 38, 39, 41, 42, 43] [95, 96, 97, 100, 101, 102] Mz (fun N => 0 ≤ ze N 81 3 ∧ ze N 81 3 ≤ ze N 81 2 ∧ zTv N ∧ 0 ≤ ze N 81 14 ∧ ze N 81 14 ≤ 8 ∧ (((1 ≤ ze N 81 7 ∧ zmu N = 0) ∨ (ze N 81 7 = 0 ∧ zmu N < zmu Mz)))))
            refine zw_aload_n (pc := 96) (n := 0) (x := 81) rfl d_M_letLine_96 ?_
            refine zw_bipush (pc := 97) (v := Int32.ofInt 59) (by decide) d_M_letLine_97 ?_
            refine zr_callV (hf_N40_.w hW) hf_N40_.x (pc := 99) [.int (Int32.ofInt 59)] [] l_M_355 (c_M_must l N40_ (hf_N40_.w hW) 59 (by decide) (by decide) (show 0 ≤ ze N40_ 81 3 by first | assumption | omega) (show ze N40_ 81 3 ≤ ze N40_ 81 2 by first | assumption | omega) (show ze N40_ 81 2 ≤ 700 by first | assumption | omega) hp2_N40_ (show 0 ≤ ze N40_ 81 7 by first | assumption | omega)) rfl rfl rfl (by decide) (Nat.le_of_ble_eq_true rfl) d_M_letLine_99 ?_
            rintro _ N43_ ⟨rfl, hsN43_, ⟨hp0_N43_, hp1_N43_, hp2_N43_, hp3_N43_⟩⟩
            have hf_N43_ : zFr [3, 4, 5, 6, 7, 8, 11, 14, 38, 39, 41, 42, 43] [95, 96, 97, 100, 101, 102] Mz N43_ := hf_N40_.tr hsN43_ (by decide) (by decide)
            have hb0_N43_ : zFr [3, 4, 5, 6, 7, 8, 11, 38, 39, 41, 42, 43] [95, 96, 97, 100] N10_ N43_ := hb0_N40_.tr hsN43_ (by decide) (by decide)
            have e2_N43_ : ze N43_ 81 2 = ze N40_ 81 2 := hsN43_.e (by decide)
            have r3_N43_ := ze_r N43_ 81 3
            have r4_N43_ := ze_r N43_ 81 4
            have r5_N43_ := ze_r N43_ 81 5
            have r7_N43_ := ze_r N43_ 81 7
            have e14_N43_ : ze N43_ 81 14 = ze N40_ 81 14 := hsN43_.e (by decide)
            have e26_N43_ : ze N43_ 81 26 = ze N40_ 81 26 := hsN43_.e (by decide)
            have e39_N43_ : ze N43_ 81 39 = ze N40_ 81 39 := hsN43_.e (by decide)
            have c45_ : zGD N43_ := zGD.fr hsN43_ c42_ (by decide) (by decide)
            rcases hp3_N43_ with ⟨ha99_0_hp3_N43_, ha99_1_hp3_N43_⟩ | ⟨ha99_0_hp3_N43_, ha99_1_hp3_N43_, ha99_2_hp3_N43_⟩
            · skip
              show zW l m_M_letLine (zn Mz + 0, zw Mz + 0) N43_ 102 [some (.ref 81), some (.int (Int32.ofInt (ze Mz 81 4))), some (.long (Int64.ofInt (zg N1_ 81 11))), none, none] [] (zpV [3, 4, 5, 6, 7, 8, 11, 14, 38, 39, 41, 42, 43] [95, 96, 97, 100, 101, 102] Mz (fun N => 0 ≤ ze N 81 3 ∧ ze N 81 3 ≤ ze N 81 2 ∧ zTv N ∧ 0 ≤ ze N 81 14 ∧ ze N 81 14 ≤ 8 ∧ (((1 ≤ ze N 81 7 ∧ zmu N = 0) ∨ (ze N 81 7 = 0 ∧ zmu N < zmu Mz)))))
              refine zw_aload_n (pc := 102) (n := 0) (x := 81) rfl d_M_letLine_102 ?_
              refine zr_callV (hf_N43_.w hW) hf_N43_.x (pc := 103) [] [] l_M_183 (c_M_isGood l N43_ (hf_N43_.w hW) ) rfl rfl rfl (by decide) (Nat.le_of_ble_eq_true rfl) d_M_letLine_103 ?_
              rintro _ N46_ ⟨v47_, rfl, ⟨hv47_a, hv47_b⟩, hsN46_, hp0_N46_⟩
              obtain rfl := hsN46_.eq.symm
              replace hp0_N46_ : ((v47_ = 1 ∧ ze N43_ 81 7 = 0) ∨ (v47_ = 0 ∧ ze N43_ 81 7 ≠ 0)) := hp0_N46_
              rcases hp0_N46_ with ⟨rfl, ha103_0_hp0_N46_⟩ | ⟨rfl, ha103_0_hp0_N46_⟩
              · skip
                exfalso; omega
              · skip
                show zW l m_M_letLine (zn Mz + 0, zw Mz + 0) N43_ 106 [some (.ref 81), some (.int (Int32.ofInt (ze Mz 81 4))), some (.long (Int64.ofInt (zg N1_ 81 11))), none, none] [.int (Int32.ofInt 0)] (zpV [3, 4, 5, 6, 7, 8, 11, 14, 38, 39, 41, 42, 43] [95, 96, 97, 100, 101, 102] Mz (fun N => 0 ≤ ze N 81 3 ∧ ze N 81 3 ≤ ze N 81 2 ∧ zTv N ∧ 0 ≤ ze N 81 14 ∧ ze N 81 14 ≤ 8 ∧ (((1 ≤ ze N 81 7 ∧ zmu N = 0) ∨ (ze N 81 7 = 0 ∧ zmu N < zmu Mz)))))
                refine zr_if_eq (pc := 106) (tgt := 123) ⟨(by decide), (by decide)⟩ (by decide) d_M_letLine_106 (fun hc_106 => ?_) (fun hc_106 => ?_)
                · skip
                  exact j_123 N43_ hb0_N43_ (show 0 ≤ ze N43_ 81 3 by first | assumption | omega) (show ze N43_ 81 3 ≤ ze N43_ 81 2 by first | assumption | omega) hp2_N43_ (show ze N43_ 81 14 = ze Mz 81 14 by first | assumption | omega) (show (1 ≤ ze N43_ 81 7 ∧ zmu N43_ = 0) ∨ (ze N43_ 81 7 = 0 ∧ zmu N43_ < zmu Mz) from Or.inl (⟨(show 1 ≤ ze N43_ 81 7 by first | assumption | omega), (show zmu N43_ = 0 by first | assumption | omega)⟩))
                · skip
                  exact absurd hc_106 (by decide)
            · skip
              show zW l m_M_letLine (zn Mz + 0, zw Mz + 0) N43_ 102 [some (.ref 81), some (.int (Int32.ofInt (ze Mz 81 4))), some (.long (Int64.ofInt (zg N1_ 81 11))), none, none] [] (zpV [3, 4, 5, 6, 7, 8, 11, 14, 38, 39, 41, 42, 43] [95, 96, 97, 100, 101, 102] Mz (fun N => 0 ≤ ze N 81 3 ∧ ze N 81 3 ≤ ze N 81 2 ∧ zTv N ∧ 0 ≤ ze N 81 14 ∧ ze N 81 14 ≤ 8 ∧ (((1 ≤ ze N 81 7 ∧ zmu N = 0) ∨ (ze N 81 7 = 0 ∧ zmu N < zmu Mz)))))
              refine zw_aload_n (pc := 102) (n := 0) (x := 81) rfl d_M_letLine_102 ?_
              refine zr_callV (hf_N43_.w hW) hf_N43_.x (pc := 103) [] [] l_M_183 (c_M_isGood l N43_ (hf_N43_.w hW) ) rfl rfl rfl (by decide) (Nat.le_of_ble_eq_true rfl) d_M_letLine_103 ?_
              rintro _ N48_ ⟨v49_, rfl, ⟨hv49_a, hv49_b⟩, hsN48_, hp0_N48_⟩
              obtain rfl := hsN48_.eq.symm
              replace hp0_N48_ : ((v49_ = 1 ∧ ze N43_ 81 7 = 0) ∨ (v49_ = 0 ∧ ze N43_ 81 7 ≠ 0)) := hp0_N48_
              rcases hp0_N48_ with ⟨rfl, ha103_0_hp0_N48_⟩ | ⟨rfl, ha103_0_hp0_N48_⟩
              · skip
                show zW l m_M_letLine (zn Mz + 0, zw Mz + 0) N43_ 106 [some (.ref 81), some (.int (Int32.ofInt (ze Mz 81 4))), some (.long (Int64.ofInt (zg N1_ 81 11))), none, none] [.int (Int32.ofInt 1)] (zpV [3, 4, 5, 6, 7, 8, 11, 14, 38, 39, 41, 42, 43] [95, 96, 97, 100, 101, 102] Mz (fun N => 0 ≤ ze N 81 3 ∧ ze N 81 3 ≤ ze N 81 2 ∧ zTv N ∧ 0 ≤ ze N 81 14 ∧ ze N 81 14 ≤ 8 ∧ (((1 ≤ ze N 81 7 ∧ zmu N = 0) ∨ (ze N 81 7 = 0 ∧ zmu N < zmu Mz)))))
                refine zr_if_eq (pc := 106) (tgt := 123) ⟨(by decide), (by decide)⟩ (by decide) d_M_letLine_106 (fun hc_106 => ?_) (fun hc_106 => ?_)
                · skip
                  exact absurd hc_106 (by decide)
                · skip
                  refine zw_aload_n (pc := 109) (n := 0) (x := 81) rfl d_M_letLine_109 ?_
                  refine zr_getI (hf_N43_.w hW) (pc := 110) f_M_275 rfl d_M_letLine_110 ?_
                  refine zr_if_eq (pc := 113) (tgt := 123) ⟨(ze_r N43_ 81 39).1, (ze_r N43_ 81 39).2⟩ (by decide) d_M_letLine_113 (fun hc_113 => ?_) (fun hc_113 => ?_)
                  · skip
                    exact j_123 N43_ hb0_N43_ (show 0 ≤ ze N43_ 81 3 by first | assumption | omega) (show ze N43_ 81 3 ≤ ze N43_ 81 2 by first | assumption | omega) hp2_N43_ (show ze N43_ 81 14 = ze Mz 81 14 by first | assumption | omega) (show (1 ≤ ze N43_ 81 7 ∧ zmu N43_ = 0) ∨ (ze N43_ 81 7 = 0 ∧ zmu N43_ < zmu Mz) from Or.inr (⟨(show ze N43_ 81 7 = 0 by first | assumption | omega), (show zmu N43_ < zmu Mz by first | assumption | omega)⟩))
                  · skip
                    refine zw_aload_n (pc := 116) (n := 0) (x := 81) rfl d_M_letLine_116 ?_
                    refine zw_bipush (pc := 117) (v := Int32.ofInt 6) (by decide) d_M_letLine_117 ?_
                    refine zw_iload_n (pc := 119) (n := 1) (x := Int32.ofInt (ze Mz 81 4)) rfl d_M_letLine_119 ?_
                    refine zr_callV (hf_N43_.w hW) hf_N43_.x (pc := 120) [.int (Int32.ofInt 6), .int (Int32.ofInt (ze Mz 81 4))] [] l_M_168 (c_M_wrongAt l N43_ (hf_N43_.w hW) 6 (by decide) (by decide) (ze Mz 81 4) (ze_r Mz 81 4).1 (ze_r Mz 81 4).2 (show ze N43_ 81 7 = 0 by first | assumption | omega) (show 1 ≤ 6 by first | assumption | omega)) rfl rfl rfl (by decide) (Nat.le_of_ble_eq_true rfl) d_M_letLine_120 ?_
                    rintro _ N50_ ⟨rfl, hsN50_, ⟨hp0_N50_, hp1_N50_⟩⟩
                    have hf_N50_ : zFr [3, 4, 5, 6, 7, 8, 11, 14, 38, 39, 41, 42, 43] [95, 96, 97, 100, 101, 102] Mz N50_ := hf_N43_.tr hsN50_ (by decide) (by decide)
                    have hb0_N50_ : zFr [3, 4, 5, 6, 7, 8, 11, 38, 39, 41, 42, 43] [95, 96, 97, 100] N10_ N50_ := hb0_N43_.tr hsN50_ (by decide) (by decide)
                    have e2_N50_ : ze N50_ 81 2 = ze N43_ 81 2 := hsN50_.e (by decide)
                    have e3_N50_ : ze N50_ 81 3 = ze N43_ 81 3 := hsN50_.e (by decide)
                    have e4_N50_ : ze N50_ 81 4 = ze N43_ 81 4 := hsN50_.e (by decide)
                    have e5_N50_ : ze N50_ 81 5 = ze N43_ 81 5 := hsN50_.e (by decide)
                    have r7_N50_ := ze_r N50_ 81 7
                    have e14_N50_ : ze N50_ 81 14 = ze N43_ 81 14 := hsN50_.e (by decide)
                    have e26_N50_ : ze N50_ 81 26 = ze N43_ 81 26 := hsN50_.e (by decide)
                    have e39_N50_ : ze N50_ 81 39 = ze N43_ 81 39 := hsN50_.e (by decide)
                    have c52_ : zGD N50_ := zGD.fr hsN50_ c45_ (by decide) (by decide)
                    have c53_ : zTv N50_ := zTv.fr hsN50_ hp2_N43_ (by decide) (by decide)
                    show zW l m_M_letLine (zn Mz + 0, zw Mz + 0) N50_ 123 [some (.ref 81), some (.int (Int32.ofInt (ze Mz 81 4))), some (.long (Int64.ofInt (zg N1_ 81 11))), none, none] [] (zpV [3, 4, 5, 6, 7, 8, 11, 14, 38, 39, 41, 42, 43] [95, 96, 97, 100, 101, 102] Mz (fun N => 0 ≤ ze N 81 3 ∧ ze N 81 3 ≤ ze N 81 2 ∧ zTv N ∧ 0 ≤ ze N 81 14 ∧ ze N 81 14 ≤ 8 ∧ (((1 ≤ ze N 81 7 ∧ zmu N = 0) ∨ (ze N 81 7 = 0 ∧ zmu N < zmu Mz)))))
                    exact j_123 N50_ hb0_N50_ (show 0 ≤ ze N50_ 81 3 by first | assumption | omega) (show ze N50_ 81 3 ≤ ze N50_ 81 2 by first | assumption | omega) c53_ (show ze N50_ 81 14 = ze Mz 81 14 by first | assumption | omega) (show (1 ≤ ze N50_ 81 7 ∧ zmu N50_ = 0) ∨ (ze N50_ 81 7 = 0 ∧ zmu N50_ < zmu Mz) from Or.inl (⟨(show 1 ≤ ze N50_ 81 7 by first | assumption | omega), (show zmu N50_ = 0 by first | assumption | omega)⟩))
              · skip
                exfalso; omega
          · skip
            show zW l m_M_letLine (zn Mz + 0, zw Mz + 0) N40_ 96 [some (.ref 81), some (.int (Int32.ofInt (ze Mz 81 4))), some (.long (Int64.ofInt (zg N1_ 81 11))), none, none] [] (zpV [3, 4, 5, 6, 7, 8, 11, 14, 38, 39, 41, 42, 43] [95, 96, 97, 100, 101, 102] Mz (fun N => 0 ≤ ze N 81 3 ∧ ze N 81 3 ≤ ze N 81 2 ∧ zTv N ∧ 0 ≤ ze N 81 14 ∧ ze N 81 14 ≤ 8 ∧ (((1 ≤ ze N 81 7 ∧ zmu N = 0) ∨ (ze N 81 7 = 0 ∧ zmu N < zmu Mz)))))
            refine zw_aload_n (pc := 96) (n := 0) (x := 81) rfl d_M_letLine_96 ?_
            refine zw_bipush (pc := 97) (v := Int32.ofInt 59) (by decide) d_M_letLine_97 ?_
            refine zr_callV (hf_N40_.w hW) hf_N40_.x (pc := 99) [.int (Int32.ofInt 59)] [] l_M_355 (c_M_must l N40_ (hf_N40_.w hW) 59 (by decide) (by decide) (show 0 ≤ ze N40_ 81 3 by first | assumption | omega) (show ze N40_ 81 3 ≤ ze N40_ 81 2 by first | assumption | omega) (show ze N40_ 81 2 ≤ 700 by first | assumption | omega) hp2_N40_ (show 0 ≤ ze N40_ 81 7 by first | assumption | omega)) rfl rfl rfl (by decide) (Nat.le_of_ble_eq_true rfl) d_M_letLine_99 ?_
            rintro _ N54_ ⟨rfl, hsN54_, ⟨hp0_N54_, hp1_N54_, hp2_N54_, hp3_N54_⟩⟩
            have hf_N54_ : zFr [3, 4, 5, 6, 7, 8, 11, 14, 38, 39, 41, 42, 43] [95, 96, 97, 100, 101, 102] Mz N54_ := hf_N40_.tr hsN54_ (by decide) (by decide)
            have hb0_N54_ : zFr [3, 4, 5, 6, 7, 8, 11, 38, 39, 41, 42, 43] [95, 96, 97, 100] N10_ N54_ := hb0_N40_.tr hsN54_ (by decide) (by decide)
            have e2_N54_ : ze N54_ 81 2 = ze N40_ 81 2 := hsN54_.e (by decide)
            have r3_N54_ := ze_r N54_ 81 3
            have r4_N54_ := ze_r N54_ 81 4
            have r5_N54_ := ze_r N54_ 81 5
            have r7_N54_ := ze_r N54_ 81 7
            have e14_N54_ : ze N54_ 81 14 = ze N40_ 81 14 := hsN54_.e (by decide)
            have e26_N54_ : ze N54_ 81 26 = ze N40_ 81 26 := hsN54_.e (by decide)
            have e39_N54_ : ze N54_ 81 39 = ze N40_ 81 39 := hsN54_.e (by decide)
            have c56_ : zGD N54_ := zGD.fr hsN54_ c42_ (by decide) (by decide)
            rcases hp3_N54_ with ⟨ha99_0_hp3_N54_, ha99_1_hp3_N54_⟩ | ⟨ha99_0_hp3_N54_, ha99_1_hp3_N54_, ha99_2_hp3_N54_⟩
            · skip
              show zW l m_M_letLine (zn Mz + 0, zw Mz + 0) N54_ 102 [some (.ref 81), some (.int (Int32.ofInt (ze Mz 81 4))), some (.long (Int64.ofInt (zg N1_ 81 11))), none, none] [] (zpV [3, 4, 5, 6, 7, 8, 11, 14, 38, 39, 41, 42, 43] [95, 96, 97, 100, 101, 102] Mz (fun N => 0 ≤ ze N 81 3 ∧ ze N 81 3 ≤ ze N 81 2 ∧ zTv N ∧ 0 ≤ ze N 81 14 ∧ ze N 81 14 ≤ 8 ∧ (((1 ≤ ze N 81 7 ∧ zmu N = 0) ∨ (ze N 81 7 = 0 ∧ zmu N < zmu Mz)))))
              refine zw_aload_n (pc := 102) (n := 0) (x := 81) rfl d_M_letLine_102 ?_
              refine zr_callV (hf_N54_.w hW) hf_N54_.x (pc := 103) [] [] l_M_183 (c_M_isGood l N54_ (hf_N54_.w hW) ) rfl rfl rfl (by decide) (Nat.le_of_ble_eq_true rfl) d_M_letLine_103 ?_
              rintro _ N57_ ⟨v58_, rfl, ⟨hv58_a, hv58_b⟩, hsN57_, hp0_N57_⟩
              obtain rfl := hsN57_.eq.symm
              replace hp0_N57_ : ((v58_ = 1 ∧ ze N54_ 81 7 = 0) ∨ (v58_ = 0 ∧ ze N54_ 81 7 ≠ 0)) := hp0_N57_
              rcases hp0_N57_ with ⟨rfl, ha103_0_hp0_N57_⟩ | ⟨rfl, ha103_0_hp0_N57_⟩
              · skip
                exfalso; omega
              · skip
                show zW l m_M_letLine (zn Mz + 0, zw Mz + 0) N54_ 106 [some (.ref 81), some (.int (Int32.ofInt (ze Mz 81 4))), some (.long (Int64.ofInt (zg N1_ 81 11))), none, none] [.int (Int32.ofInt 0)] (zpV [3, 4, 5, 6, 7, 8, 11, 14, 38, 39, 41, 42, 43] [95, 96, 97, 100, 101, 102] Mz (fun N => 0 ≤ ze N 81 3 ∧ ze N 81 3 ≤ ze N 81 2 ∧ zTv N ∧ 0 ≤ ze N 81 14 ∧ ze N 81 14 ≤ 8 ∧ (((1 ≤ ze N 81 7 ∧ zmu N = 0) ∨ (ze N 81 7 = 0 ∧ zmu N < zmu Mz)))))
                refine zr_if_eq (pc := 106) (tgt := 123) ⟨(by decide), (by decide)⟩ (by decide) d_M_letLine_106 (fun hc_106 => ?_) (fun hc_106 => ?_)
                · skip
                  exact j_123 N54_ hb0_N54_ (show 0 ≤ ze N54_ 81 3 by first | assumption | omega) (show ze N54_ 81 3 ≤ ze N54_ 81 2 by first | assumption | omega) hp2_N54_ (show ze N54_ 81 14 = ze Mz 81 14 by first | assumption | omega) (show (1 ≤ ze N54_ 81 7 ∧ zmu N54_ = 0) ∨ (ze N54_ 81 7 = 0 ∧ zmu N54_ < zmu Mz) from Or.inl (⟨(show 1 ≤ ze N54_ 81 7 by first | assumption | omega), (show zmu N54_ = 0 by first | assumption | omega)⟩))
                · skip
                  exact absurd hc_106 (by decide)
            · skip
              show zW l m_M_letLine (zn Mz + 0, zw Mz + 0) N54_ 102 [some (.ref 81), some (.int (Int32.ofInt (ze Mz 81 4))), some (.long (Int64.ofInt (zg N1_ 81 11))), none, none] [] (zpV [3, 4, 5, 6, 7, 8, 11, 14, 38, 39, 41, 42, 43] [95, 96, 97, 100, 101, 102] Mz (fun N => 0 ≤ ze N 81 3 ∧ ze N 81 3 ≤ ze N 81 2 ∧ zTv N ∧ 0 ≤ ze N 81 14 ∧ ze N 81 14 ≤ 8 ∧ (((1 ≤ ze N 81 7 ∧ zmu N = 0) ∨ (ze N 81 7 = 0 ∧ zmu N < zmu Mz)))))
              refine zw_aload_n (pc := 102) (n := 0) (x := 81) rfl d_M_letLine_102 ?_
              refine zr_callV (hf_N54_.w hW) hf_N54_.x (pc := 103) [] [] l_M_183 (c_M_isGood l N54_ (hf_N54_.w hW) ) rfl rfl rfl (by decide) (Nat.le_of_ble_eq_true rfl) d_M_letLine_103 ?_
              rintro _ N59_ ⟨v60_, rfl, ⟨hv60_a, hv60_b⟩, hsN59_, hp0_N59_⟩
              obtain rfl := hsN59_.eq.symm
              replace hp0_N59_ : ((v60_ = 1 ∧ ze N54_ 81 7 = 0) ∨ (v60_ = 0 ∧ ze N54_ 81 7 ≠ 0)) := hp0_N59_
              rcases hp0_N59_ with ⟨rfl, ha103_0_hp0_N59_⟩ | ⟨rfl, ha103_0_hp0_N59_⟩
              · skip
                show zW l m_M_letLine (zn Mz + 0, zw Mz + 0) N54_ 106 [some (.ref 81), some (.int (Int32.ofInt (ze Mz 81 4))), some (.long (Int64.ofInt (zg N1_ 81 11))), none, none] [.int (Int32.ofInt 1)] (zpV [3, 4, 5, 6, 7, 8, 11, 14, 38, 39, 41, 42, 43] [95, 96, 97, 100, 101, 102] Mz (fun N => 0 ≤ ze N 81 3 ∧ ze N 81 3 ≤ ze N 81 2 ∧ zTv N ∧ 0 ≤ ze N 81 14 ∧ ze N 81 14 ≤ 8 ∧ (((1 ≤ ze N 81 7 ∧ zmu N = 0) ∨ (ze N 81 7 = 0 ∧ zmu N < zmu Mz)))))
                refine zr_if_eq (pc := 106) (tgt := 123) ⟨(by decide), (by decide)⟩ (by decide) d_M_letLine_106 (fun hc_106 => ?_) (fun hc_106 => ?_)
                · skip
                  exact absurd hc_106 (by decide)
                · skip
                  refine zw_aload_n (pc := 109) (n := 0) (x := 81) rfl d_M_letLine_109 ?_
                  refine zr_getI (hf_N54_.w hW) (pc := 110) f_M_275 rfl d_M_letLine_110 ?_
                  refine zr_if_eq (pc := 113) (tgt := 123) ⟨(ze_r N54_ 81 39).1, (ze_r N54_ 81 39).2⟩ (by decide) d_M_letLine_113 (fun hc_113 => ?_) (fun hc_113 => ?_)
                  · skip
                    exact j_123 N54_ hb0_N54_ (show 0 ≤ ze N54_ 81 3 by first | assumption | omega) (show ze N54_ 81 3 ≤ ze N54_ 81 2 by first | assumption | omega) hp2_N54_ (show ze N54_ 81 14 = ze Mz 81 14 by first | assumption | omega) (show (1 ≤ ze N54_ 81 7 ∧ zmu N54_ = 0) ∨ (ze N54_ 81 7 = 0 ∧ zmu N54_ < zmu Mz) from Or.inr (⟨(show ze N54_ 81 7 = 0 by first | assumption | omega), (show zmu N54_ < zmu Mz by first | assumption | omega)⟩))
                  · skip
                    refine zw_aload_n (pc := 116) (n := 0) (x := 81) rfl d_M_letLine_116 ?_
                    refine zw_bipush (pc := 117) (v := Int32.ofInt 6) (by decide) d_M_letLine_117 ?_
                    refine zw_iload_n (pc := 119) (n := 1) (x := Int32.ofInt (ze Mz 81 4)) rfl d_M_letLine_119 ?_
                    refine zr_callV (hf_N54_.w hW) hf_N54_.x (pc := 120) [.int (Int32.ofInt 6), .int (Int32.ofInt (ze Mz 81 4))] [] l_M_168 (c_M_wrongAt l N54_ (hf_N54_.w hW) 6 (by decide) (by decide) (ze Mz 81 4) (ze_r Mz 81 4).1 (ze_r Mz 81 4).2 (show ze N54_ 81 7 = 0 by first | assumption | omega) (show 1 ≤ 6 by first | assumption | omega)) rfl rfl rfl (by decide) (Nat.le_of_ble_eq_true rfl) d_M_letLine_120 ?_
                    rintro _ N61_ ⟨rfl, hsN61_, ⟨hp0_N61_, hp1_N61_⟩⟩
                    have hf_N61_ : zFr [3, 4, 5, 6, 7, 8, 11, 14, 38, 39, 41, 42, 43] [95, 96, 97, 100, 101, 102] Mz N61_ := hf_N54_.tr hsN61_ (by decide) (by decide)
                    have hb0_N61_ : zFr [3, 4, 5, 6, 7, 8, 11, 38, 39, 41, 42, 43] [95, 96, 97, 100] N10_ N61_ := hb0_N54_.tr hsN61_ (by decide) (by decide)
                    have e2_N61_ : ze N61_ 81 2 = ze N54_ 81 2 := hsN61_.e (by decide)
                    have e3_N61_ : ze N61_ 81 3 = ze N54_ 81 3 := hsN61_.e (by decide)
                    have e4_N61_ : ze N61_ 81 4 = ze N54_ 81 4 := hsN61_.e (by decide)
                    have e5_N61_ : ze N61_ 81 5 = ze N54_ 81 5 := hsN61_.e (by decide)
                    have r7_N61_ := ze_r N61_ 81 7
                    have e14_N61_ : ze N61_ 81 14 = ze N54_ 81 14 := hsN61_.e (by decide)
                    have e26_N61_ : ze N61_ 81 26 = ze N54_ 81 26 := hsN61_.e (by decide)
                    have e39_N61_ : ze N61_ 81 39 = ze N54_ 81 39 := hsN61_.e (by decide)
                    have c63_ : zGD N61_ := zGD.fr hsN61_ c56_ (by decide) (by decide)
                    have c64_ : zTv N61_ := zTv.fr hsN61_ hp2_N54_ (by decide) (by decide)
                    show zW l m_M_letLine (zn Mz + 0, zw Mz + 0) N61_ 123 [some (.ref 81), some (.int (Int32.ofInt (ze Mz 81 4))), some (.long (Int64.ofInt (zg N1_ 81 11))), none, none] [] (zpV [3, 4, 5, 6, 7, 8, 11, 14, 38, 39, 41, 42, 43] [95, 96, 97, 100, 101, 102] Mz (fun N => 0 ≤ ze N 81 3 ∧ ze N 81 3 ≤ ze N 81 2 ∧ zTv N ∧ 0 ≤ ze N 81 14 ∧ ze N 81 14 ≤ 8 ∧ (((1 ≤ ze N 81 7 ∧ zmu N = 0) ∨ (ze N 81 7 = 0 ∧ zmu N < zmu Mz)))))
                    exact j_123 N61_ hb0_N61_ (show 0 ≤ ze N61_ 81 3 by first | assumption | omega) (show ze N61_ 81 3 ≤ ze N61_ 81 2 by first | assumption | omega) c64_ (show ze N61_ 81 14 = ze Mz 81 14 by first | assumption | omega) (show (1 ≤ ze N61_ 81 7 ∧ zmu N61_ = 0) ∨ (ze N61_ 81 7 = 0 ∧ zmu N61_ < zmu Mz) from Or.inl (⟨(show 1 ≤ ze N61_ 81 7 by first | assumption | omega), (show zmu N61_ = 0 by first | assumption | omega)⟩))
              · skip
                exfalso; omega
        · skip
          show zW l m_M_letLine (zn Mz + 0, zw Mz + 0) N37_ 92 [some (.ref 81), some (.int (Int32.ofInt (ze Mz 81 4))), some (.long (Int64.ofInt (zg N1_ 81 11))), none, none] [] (zpV [3, 4, 5, 6, 7, 8, 11, 14, 38, 39, 41, 42, 43] [95, 96, 97, 100, 101, 102] Mz (fun N => 0 ≤ ze N 81 3 ∧ ze N 81 3 ≤ ze N 81 2 ∧ zTv N ∧ 0 ≤ ze N 81 14 ∧ ze N 81 14 ≤ 8 ∧ (((1 ≤ ze N 81 7 ∧ zmu N = 0) ∨ (ze N 81 7 = 0 ∧ zmu N < zmu Mz)))))
          refine zw_aload_n (pc := 92) (n := 0) (x := 81) rfl d_M_letLine_92 ?_
          refine zr_callV (hf_N37_.w hW) hf_N37_.x (pc := 93) [] [] l_M_358 (c_M_formula l N37_ (hf_N37_.w hW) c39_ (show 0 ≤ ze N37_ 81 3 by first | assumption | omega) (show ze N37_ 81 3 ≤ ze N37_ 81 2 by first | assumption | omega) (show ze N37_ 81 2 ≤ 700 by first | assumption | omega) hp2_N37_ (show 0 ≤ ze N37_ 81 7 by first | assumption | omega) (show 0 ≤ ze N37_ 81 14 by first | assumption | omega) (show ze N37_ 81 14 ≤ 8 by first | assumption | omega)) rfl rfl rfl (by decide) (Nat.le_of_ble_eq_true rfl) d_M_letLine_93 ?_
          rintro _ N65_ ⟨rfl, hsN65_, ⟨hp0_N65_, hp1_N65_, hp2_N65_, hp3_N65_⟩⟩
          have hf_N65_ : zFr [3, 4, 5, 6, 7, 8, 11, 14, 38, 39, 41, 42, 43] [95, 96, 97, 100, 101, 102] Mz N65_ := hf_N37_.tr hsN65_ (by decide) (by decide)
          have hb0_N65_ : zFr [3, 4, 5, 6, 7, 8, 11, 38, 39, 41, 42, 43] [95, 96, 97, 100] N10_ N65_ := hb0_N37_.tr hsN65_ (by decide) (by decide)
          have e2_N65_ : ze N65_ 81 2 = ze N37_ 81 2 := hsN65_.e (by decide)
          have r3_N65_ := ze_r N65_ 81 3
          have r4_N65_ := ze_r N65_ 81 4
          have r5_N65_ := ze_r N65_ 81 5
          have r7_N65_ := ze_r N65_ 81 7
          have e14_N65_ : ze N65_ 81 14 = ze N37_ 81 14 := hsN65_.e (by decide)
          have e26_N65_ : ze N65_ 81 26 = ze N37_ 81 26 := hsN65_.e (by decide)
          have r39_N65_ := ze_r N65_ 81 39
          have c67_ : zGD N65_ := zGD.fr hsN65_ c39_ (by decide) (by decide)
          rcases hp3_N65_ with ⟨ha93_0_hp3_N65_, ha93_1_hp3_N65_⟩ | ⟨ha93_0_hp3_N65_, ha93_1_hp3_N65_, ha93_2_hp3_N65_⟩
          · skip
            show zW l m_M_letLine (zn Mz + 0, zw Mz + 0) N65_ 96 [some (.ref 81), some (.int (Int32.ofInt (ze Mz 81 4))), some (.long (Int64.ofInt (zg N1_ 81 11))), none, none] [] (zpV [3, 4, 5, 6, 7, 8, 11, 14, 38, 39, 41, 42, 43] [95, 96, 97, 100, 101, 102] Mz (fun N => 0 ≤ ze N 81 3 ∧ ze N 81 3 ≤ ze N 81 2 ∧ zTv N ∧ 0 ≤ ze N 81 14 ∧ ze N 81 14 ≤ 8 ∧ (((1 ≤ ze N 81 7 ∧ zmu N = 0) ∨ (ze N 81 7 = 0 ∧ zmu N < zmu Mz)))))
            refine zw_aload_n (pc := 96) (n := 0) (x := 81) rfl d_M_letLine_96 ?_
            refine zw_bipush (pc := 97) (v := Int32.ofInt 59) (by decide) d_M_letLine_97 ?_
            refine zr_callV (hf_N65_.w hW) hf_N65_.x (pc := 99) [.int (Int32.ofInt 59)] [] l_M_355 (c_M_must l N65_ (hf_N65_.w hW) 59 (by decide) (by decide) (show 0 ≤ ze N65_ 81 3 by first | assumption | omega) (show ze N65_ 81 3 ≤ ze N65_ 81 2 by first | assumption | omega) (show ze N65_ 81 2 ≤ 700 by first | assumption | omega) hp2_N65_ (show 0 ≤ ze N65_ 81 7 by first | assumption | omega)) rfl rfl rfl (by decide) (Nat.le_of_ble_eq_true rfl) d_M_letLine_99 ?_
            rintro _ N68_ ⟨rfl, hsN68_, ⟨hp0_N68_, hp1_N68_, hp2_N68_, hp3_N68_⟩⟩
            have hf_N68_ : zFr [3, 4, 5, 6, 7, 8, 11, 14, 38, 39, 41, 42, 43] [95, 96, 97, 100, 101, 102] Mz N68_ := hf_N65_.tr hsN68_ (by decide) (by decide)
            have hb0_N68_ : zFr [3, 4, 5, 6, 7, 8, 11, 38, 39, 41, 42, 43] [95, 96, 97, 100] N10_ N68_ := hb0_N65_.tr hsN68_ (by decide) (by decide)
            have e2_N68_ : ze N68_ 81 2 = ze N65_ 81 2 := hsN68_.e (by decide)
            have r3_N68_ := ze_r N68_ 81 3
            have r4_N68_ := ze_r N68_ 81 4
            have r5_N68_ := ze_r N68_ 81 5
            have r7_N68_ := ze_r N68_ 81 7
            have e14_N68_ : ze N68_ 81 14 = ze N65_ 81 14 := hsN68_.e (by decide)
            have e26_N68_ : ze N68_ 81 26 = ze N65_ 81 26 := hsN68_.e (by decide)
            have e39_N68_ : ze N68_ 81 39 = ze N65_ 81 39 := hsN68_.e (by decide)
            have c70_ : zGD N68_ := zGD.fr hsN68_ c67_ (by decide) (by decide)
            rcases hp3_N68_ with ⟨ha99_0_hp3_N68_, ha99_1_hp3_N68_⟩ | ⟨ha99_0_hp3_N68_, ha99_1_hp3_N68_, ha99_2_hp3_N68_⟩
            · skip
              show zW l m_M_letLine (zn Mz + 0, zw Mz + 0) N68_ 102 [some (.ref 81), some (.int (Int32.ofInt (ze Mz 81 4))), some (.long (Int64.ofInt (zg N1_ 81 11))), none, none] [] (zpV [3, 4, 5, 6, 7, 8, 11, 14, 38, 39, 41, 42, 43] [95, 96, 97, 100, 101, 102] Mz (fun N => 0 ≤ ze N 81 3 ∧ ze N 81 3 ≤ ze N 81 2 ∧ zTv N ∧ 0 ≤ ze N 81 14 ∧ ze N 81 14 ≤ 8 ∧ (((1 ≤ ze N 81 7 ∧ zmu N = 0) ∨ (ze N 81 7 = 0 ∧ zmu N < zmu Mz)))))
              refine zw_aload_n (pc := 102) (n := 0) (x := 81) rfl d_M_letLine_102 ?_
              refine zr_callV (hf_N68_.w hW) hf_N68_.x (pc := 103) [] [] l_M_183 (c_M_isGood l N68_ (hf_N68_.w hW) ) rfl rfl rfl (by decide) (Nat.le_of_ble_eq_true rfl) d_M_letLine_103 ?_
              rintro _ N71_ ⟨v72_, rfl, ⟨hv72_a, hv72_b⟩, hsN71_, hp0_N71_⟩
              obtain rfl := hsN71_.eq.symm
              replace hp0_N71_ : ((v72_ = 1 ∧ ze N68_ 81 7 = 0) ∨ (v72_ = 0 ∧ ze N68_ 81 7 ≠ 0)) := hp0_N71_
              rcases hp0_N71_ with ⟨rfl, ha103_0_hp0_N71_⟩ | ⟨rfl, ha103_0_hp0_N71_⟩
              · skip
                exfalso; omega
              · skip
                show zW l m_M_letLine (zn Mz + 0, zw Mz + 0) N68_ 106 [some (.ref 81), some (.int (Int32.ofInt (ze Mz 81 4))), some (.long (Int64.ofInt (zg N1_ 81 11))), none, none] [.int (Int32.ofInt 0)] (zpV [3, 4, 5, 6, 7, 8, 11, 14, 38, 39, 41, 42, 43] [95, 96, 97, 100, 101, 102] Mz (fun N => 0 ≤ ze N 81 3 ∧ ze N 81 3 ≤ ze N 81 2 ∧ zTv N ∧ 0 ≤ ze N 81 14 ∧ ze N 81 14 ≤ 8 ∧ (((1 ≤ ze N 81 7 ∧ zmu N = 0) ∨ (ze N 81 7 = 0 ∧ zmu N < zmu Mz)))))
                refine zr_if_eq (pc := 106) (tgt := 123) ⟨(by decide), (by decide)⟩ (by decide) d_M_letLine_106 (fun hc_106 => ?_) (fun hc_106 => ?_)
                · skip
                  exact j_123 N68_ hb0_N68_ (show 0 ≤ ze N68_ 81 3 by first | assumption | omega) (show ze N68_ 81 3 ≤ ze N68_ 81 2 by first | assumption | omega) hp2_N68_ (show ze N68_ 81 14 = ze Mz 81 14 by first | assumption | omega) (show (1 ≤ ze N68_ 81 7 ∧ zmu N68_ = 0) ∨ (ze N68_ 81 7 = 0 ∧ zmu N68_ < zmu Mz) from Or.inl (⟨(show 1 ≤ ze N68_ 81 7 by first | assumption | omega), (show zmu N68_ = 0 by first | assumption | omega)⟩))
                · skip
                  exact absurd hc_106 (by decide)
            · skip
              show zW l m_M_letLine (zn Mz + 0, zw Mz + 0) N68_ 102 [some (.ref 81), some (.int (Int32.ofInt (ze Mz 81 4))), some (.long (Int64.ofInt (zg N1_ 81 11))), none, none] [] (zpV [3, 4, 5, 6, 7, 8, 11, 14, 38, 39, 41, 42, 43] [95, 96, 97, 100, 101, 102] Mz (fun N => 0 ≤ ze N 81 3 ∧ ze N 81 3 ≤ ze N 81 2 ∧ zTv N ∧ 0 ≤ ze N 81 14 ∧ ze N 81 14 ≤ 8 ∧ (((1 ≤ ze N 81 7 ∧ zmu N = 0) ∨ (ze N 81 7 = 0 ∧ zmu N < zmu Mz)))))
              refine zw_aload_n (pc := 102) (n := 0) (x := 81) rfl d_M_letLine_102 ?_
              refine zr_callV (hf_N68_.w hW) hf_N68_.x (pc := 103) [] [] l_M_183 (c_M_isGood l N68_ (hf_N68_.w hW) ) rfl rfl rfl (by decide) (Nat.le_of_ble_eq_true rfl) d_M_letLine_103 ?_
              rintro _ N73_ ⟨v74_, rfl, ⟨hv74_a, hv74_b⟩, hsN73_, hp0_N73_⟩
              obtain rfl := hsN73_.eq.symm
              replace hp0_N73_ : ((v74_ = 1 ∧ ze N68_ 81 7 = 0) ∨ (v74_ = 0 ∧ ze N68_ 81 7 ≠ 0)) := hp0_N73_
              rcases hp0_N73_ with ⟨rfl, ha103_0_hp0_N73_⟩ | ⟨rfl, ha103_0_hp0_N73_⟩
              · skip
                show zW l m_M_letLine (zn Mz + 0, zw Mz + 0) N68_ 106 [some (.ref 81), some (.int (Int32.ofInt (ze Mz 81 4))), some (.long (Int64.ofInt (zg N1_ 81 11))), none, none] [.int (Int32.ofInt 1)] (zpV [3, 4, 5, 6, 7, 8, 11, 14, 38, 39, 41, 42, 43] [95, 96, 97, 100, 101, 102] Mz (fun N => 0 ≤ ze N 81 3 ∧ ze N 81 3 ≤ ze N 81 2 ∧ zTv N ∧ 0 ≤ ze N 81 14 ∧ ze N 81 14 ≤ 8 ∧ (((1 ≤ ze N 81 7 ∧ zmu N = 0) ∨ (ze N 81 7 = 0 ∧ zmu N < zmu Mz)))))
                refine zr_if_eq (pc := 106) (tgt := 123) ⟨(by decide), (by decide)⟩ (by decide) d_M_letLine_106 (fun hc_106 => ?_) (fun hc_106 => ?_)
                · skip
                  exact absurd hc_106 (by decide)
                · skip
                  refine zw_aload_n (pc := 109) (n := 0) (x := 81) rfl d_M_letLine_109 ?_
                  refine zr_getI (hf_N68_.w hW) (pc := 110) f_M_275 rfl d_M_letLine_110 ?_
                  refine zr_if_eq (pc := 113) (tgt := 123) ⟨(ze_r N68_ 81 39).1, (ze_r N68_ 81 39).2⟩ (by decide) d_M_letLine_113 (fun hc_113 => ?_) (fun hc_113 => ?_)
                  · skip
                    exact j_123 N68_ hb0_N68_ (show 0 ≤ ze N68_ 81 3 by first | assumption | omega) (show ze N68_ 81 3 ≤ ze N68_ 81 2 by first | assumption | omega) hp2_N68_ (show ze N68_ 81 14 = ze Mz 81 14 by first | assumption | omega) (show (1 ≤ ze N68_ 81 7 ∧ zmu N68_ = 0) ∨ (ze N68_ 81 7 = 0 ∧ zmu N68_ < zmu Mz) from Or.inr (⟨(show ze N68_ 81 7 = 0 by first | assumption | omega), (show zmu N68_ < zmu Mz by first | assumption | omega)⟩))
                  · skip
                    refine zw_aload_n (pc := 116) (n := 0) (x := 81) rfl d_M_letLine_116 ?_
                    refine zw_bipush (pc := 117) (v := Int32.ofInt 6) (by decide) d_M_letLine_117 ?_
                    refine zw_iload_n (pc := 119) (n := 1) (x := Int32.ofInt (ze Mz 81 4)) rfl d_M_letLine_119 ?_
                    refine zr_callV (hf_N68_.w hW) hf_N68_.x (pc := 120) [.int (Int32.ofInt 6), .int (Int32.ofInt (ze Mz 81 4))] [] l_M_168 (c_M_wrongAt l N68_ (hf_N68_.w hW) 6 (by decide) (by decide) (ze Mz 81 4) (ze_r Mz 81 4).1 (ze_r Mz 81 4).2 (show ze N68_ 81 7 = 0 by first | assumption | omega) (show 1 ≤ 6 by first | assumption | omega)) rfl rfl rfl (by decide) (Nat.le_of_ble_eq_true rfl) d_M_letLine_120 ?_
                    rintro _ N75_ ⟨rfl, hsN75_, ⟨hp0_N75_, hp1_N75_⟩⟩
                    have hf_N75_ : zFr [3, 4, 5, 6, 7, 8, 11, 14, 38, 39, 41, 42, 43] [95, 96, 97, 100, 101, 102] Mz N75_ := hf_N68_.tr hsN75_ (by decide) (by decide)
                    have hb0_N75_ : zFr [3, 4, 5, 6, 7, 8, 11, 38, 39, 41, 42, 43] [95, 96, 97, 100] N10_ N75_ := hb0_N68_.tr hsN75_ (by decide) (by decide)
                    have e2_N75_ : ze N75_ 81 2 = ze N68_ 81 2 := hsN75_.e (by decide)
                    have e3_N75_ : ze N75_ 81 3 = ze N68_ 81 3 := hsN75_.e (by decide)
                    have e4_N75_ : ze N75_ 81 4 = ze N68_ 81 4 := hsN75_.e (by decide)
                    have e5_N75_ : ze N75_ 81 5 = ze N68_ 81 5 := hsN75_.e (by decide)
                    have r7_N75_ := ze_r N75_ 81 7
                    have e14_N75_ : ze N75_ 81 14 = ze N68_ 81 14 := hsN75_.e (by decide)
                    have e26_N75_ : ze N75_ 81 26 = ze N68_ 81 26 := hsN75_.e (by decide)
                    have e39_N75_ : ze N75_ 81 39 = ze N68_ 81 39 := hsN75_.e (by decide)
                    have c77_ : zGD N75_ := zGD.fr hsN75_ c70_ (by decide) (by decide)
                    have c78_ : zTv N75_ := zTv.fr hsN75_ hp2_N68_ (by decide) (by decide)
                    show zW l m_M_letLine (zn Mz + 0, zw Mz + 0) N75_ 123 [some (.ref 81), some (.int (Int32.ofInt (ze Mz 81 4))), some (.long (Int64.ofInt (zg N1_ 81 11))), none, none] [] (zpV [3, 4, 5, 6, 7, 8, 11, 14, 38, 39, 41, 42, 43] [95, 96, 97, 100, 101, 102] Mz (fun N => 0 ≤ ze N 81 3 ∧ ze N 81 3 ≤ ze N 81 2 ∧ zTv N ∧ 0 ≤ ze N 81 14 ∧ ze N 81 14 ≤ 8 ∧ (((1 ≤ ze N 81 7 ∧ zmu N = 0) ∨ (ze N 81 7 = 0 ∧ zmu N < zmu Mz)))))
                    exact j_123 N75_ hb0_N75_ (show 0 ≤ ze N75_ 81 3 by first | assumption | omega) (show ze N75_ 81 3 ≤ ze N75_ 81 2 by first | assumption | omega) c78_ (show ze N75_ 81 14 = ze Mz 81 14 by first | assumption | omega) (show (1 ≤ ze N75_ 81 7 ∧ zmu N75_ = 0) ∨ (ze N75_ 81 7 = 0 ∧ zmu N75_ < zmu Mz) from Or.inl (⟨(show 1 ≤ ze N75_ 81 7 by first | assumption | omega), (show zmu N75_ = 0 by first | assumption | omega)⟩))
              · skip
                exfalso; omega
          · skip
            show zW l m_M_letLine (zn Mz + 0, zw Mz + 0) N65_ 96 [some (.ref 81), some (.int (Int32.ofInt (ze Mz 81 4))), some (.long (Int64.ofInt (zg N1_ 81 11))), none, none] [] (zpV [3, 4, 5, 6, 7, 8, 11, 14, 38, 39, 41, 42, 43] [95, 96, 97, 100, 101, 102] Mz (fun N => 0 ≤ ze N 81 3 ∧ ze N 81 3 ≤ ze N 81 2 ∧ zTv N ∧ 0 ≤ ze N 81 14 ∧ ze N 81 14 ≤ 8 ∧ (((1 ≤ ze N 81 7 ∧ zmu N = 0) ∨ (ze N 81 7 = 0 ∧ zmu N < zmu Mz)))))
            refine zw_aload_n (pc := 96) (n := 0) (x := 81) rfl d_M_letLine_96 ?_
            refine zw_bipush (pc := 97) (v := Int32.ofInt 59) (by decide) d_M_letLine_97 ?_
            refine zr_callV (hf_N65_.w hW) hf_N65_.x (pc := 99) [.int (Int32.ofInt 59)] [] l_M_355 (c_M_must l N65_ (hf_N65_.w hW) 59 (by decide) (by decide) (show 0 ≤ ze N65_ 81 3 by first | assumption | omega) (show ze N65_ 81 3 ≤ ze N65_ 81 2 by first | assumption | omega) (show ze N65_ 81 2 ≤ 700 by first | assumption | omega) hp2_N65_ (show 0 ≤ ze N65_ 81 7 by first | assumption | omega)) rfl rfl rfl (by decide) (Nat.le_of_ble_eq_true rfl) d_M_letLine_99 ?_
            rintro _ N79_ ⟨rfl, hsN79_, ⟨hp0_N79_, hp1_N79_, hp2_N79_, hp3_N79_⟩⟩
            have hf_N79_ : zFr [3, 4, 5, 6, 7, 8, 11, 14, 38, 39, 41, 42, 43] [95, 96, 97, 100, 101, 102] Mz N79_ := hf_N65_.tr hsN79_ (by decide) (by decide)
            have hb0_N79_ : zFr [3, 4, 5, 6, 7, 8, 11, 38, 39, 41, 42, 43] [95, 96, 97, 100] N10_ N79_ := hb0_N65_.tr hsN79_ (by decide) (by decide)
            have e2_N79_ : ze N79_ 81 2 = ze N65_ 81 2 := hsN79_.e (by decide)
            have r3_N79_ := ze_r N79_ 81 3
            have r4_N79_ := ze_r N79_ 81 4
            have r5_N79_ := ze_r N79_ 81 5
            have r7_N79_ := ze_r N79_ 81 7
            have e14_N79_ : ze N79_ 81 14 = ze N65_ 81 14 := hsN79_.e (by decide)
            have e26_N79_ : ze N79_ 81 26 = ze N65_ 81 26 := hsN79_.e (by decide)
            have e39_N79_ : ze N79_ 81 39 = ze N65_ 81 39 := hsN79_.e (by decide)
            have c81_ : zGD N79_ := zGD.fr hsN79_ c67_ (by decide) (by decide)
            rcases hp3_N79_ with ⟨ha99_0_hp3_N79_, ha99_1_hp3_N79_⟩ | ⟨ha99_0_hp3_N79_, ha99_1_hp3_N79_, ha99_2_hp3_N79_⟩
            · skip
              show zW l m_M_letLine (zn Mz + 0, zw Mz + 0) N79_ 102 [some (.ref 81), some (.int (Int32.ofInt (ze Mz 81 4))), some (.long (Int64.ofInt (zg N1_ 81 11))), none, none] [] (zpV [3, 4, 5, 6, 7, 8, 11, 14, 38, 39, 41, 42, 43] [95, 96, 97, 100, 101, 102] Mz (fun N => 0 ≤ ze N 81 3 ∧ ze N 81 3 ≤ ze N 81 2 ∧ zTv N ∧ 0 ≤ ze N 81 14 ∧ ze N 81 14 ≤ 8 ∧ (((1 ≤ ze N 81 7 ∧ zmu N = 0) ∨ (ze N 81 7 = 0 ∧ zmu N < zmu Mz)))))
              refine zw_aload_n (pc := 102) (n := 0) (x := 81) rfl d_M_letLine_102 ?_
              refine zr_callV (hf_N79_.w hW) hf_N79_.x (pc := 103) [] [] l_M_183 (c_M_isGood l N79_ (hf_N79_.w hW) ) rfl rfl rfl (by decide) (Nat.le_of_ble_eq_true rfl) d_M_letLine_103 ?_
              rintro _ N82_ ⟨v83_, rfl, ⟨hv83_a, hv83_b⟩, hsN82_, hp0_N82_⟩
              obtain rfl := hsN82_.eq.symm
              replace hp0_N82_ : ((v83_ = 1 ∧ ze N79_ 81 7 = 0) ∨ (v83_ = 0 ∧ ze N79_ 81 7 ≠ 0)) := hp0_N82_
              rcases hp0_N82_ with ⟨rfl, ha103_0_hp0_N82_⟩ | ⟨rfl, ha103_0_hp0_N82_⟩
              · skip
                exfalso; omega
              · skip
                show zW l m_M_letLine (zn Mz + 0, zw Mz + 0) N79_ 106 [some (.ref 81), some (.int (Int32.ofInt (ze Mz 81 4))), some (.long (Int64.ofInt (zg N1_ 81 11))), none, none] [.int (Int32.ofInt 0)] (zpV [3, 4, 5, 6, 7, 8, 11, 14, 38, 39, 41, 42, 43] [95, 96, 97, 100, 101, 102] Mz (fun N => 0 ≤ ze N 81 3 ∧ ze N 81 3 ≤ ze N 81 2 ∧ zTv N ∧ 0 ≤ ze N 81 14 ∧ ze N 81 14 ≤ 8 ∧ (((1 ≤ ze N 81 7 ∧ zmu N = 0) ∨ (ze N 81 7 = 0 ∧ zmu N < zmu Mz)))))
                refine zr_if_eq (pc := 106) (tgt := 123) ⟨(by decide), (by decide)⟩ (by decide) d_M_letLine_106 (fun hc_106 => ?_) (fun hc_106 => ?_)
                · skip
                  exact j_123 N79_ hb0_N79_ (show 0 ≤ ze N79_ 81 3 by first | assumption | omega) (show ze N79_ 81 3 ≤ ze N79_ 81 2 by first | assumption | omega) hp2_N79_ (show ze N79_ 81 14 = ze Mz 81 14 by first | assumption | omega) (show (1 ≤ ze N79_ 81 7 ∧ zmu N79_ = 0) ∨ (ze N79_ 81 7 = 0 ∧ zmu N79_ < zmu Mz) from Or.inl (⟨(show 1 ≤ ze N79_ 81 7 by first | assumption | omega), (show zmu N79_ = 0 by first | assumption | omega)⟩))
                · skip
                  exact absurd hc_106 (by decide)
            · skip
              show zW l m_M_letLine (zn Mz + 0, zw Mz + 0) N79_ 102 [some (.ref 81), some (.int (Int32.ofInt (ze Mz 81 4))), some (.long (Int64.ofInt (zg N1_ 81 11))), none, none] [] (zpV [3, 4, 5, 6, 7, 8, 11, 14, 38, 39, 41, 42, 43] [95, 96, 97, 100, 101, 102] Mz (fun N => 0 ≤ ze N 81 3 ∧ ze N 81 3 ≤ ze N 81 2 ∧ zTv N ∧ 0 ≤ ze N 81 14 ∧ ze N 81 14 ≤ 8 ∧ (((1 ≤ ze N 81 7 ∧ zmu N = 0) ∨ (ze N 81 7 = 0 ∧ zmu N < zmu Mz)))))
              refine zw_aload_n (pc := 102) (n := 0) (x := 81) rfl d_M_letLine_102 ?_
              refine zr_callV (hf_N79_.w hW) hf_N79_.x (pc := 103) [] [] l_M_183 (c_M_isGood l N79_ (hf_N79_.w hW) ) rfl rfl rfl (by decide) (Nat.le_of_ble_eq_true rfl) d_M_letLine_103 ?_
              rintro _ N84_ ⟨v85_, rfl, ⟨hv85_a, hv85_b⟩, hsN84_, hp0_N84_⟩
              obtain rfl := hsN84_.eq.symm
              replace hp0_N84_ : ((v85_ = 1 ∧ ze N79_ 81 7 = 0) ∨ (v85_ = 0 ∧ ze N79_ 81 7 ≠ 0)) := hp0_N84_
              rcases hp0_N84_ with ⟨rfl, ha103_0_hp0_N84_⟩ | ⟨rfl, ha103_0_hp0_N84_⟩
              · skip
                show zW l m_M_letLine (zn Mz + 0, zw Mz + 0) N79_ 106 [some (.ref 81), some (.int (Int32.ofInt (ze Mz 81 4))), some (.long (Int64.ofInt (zg N1_ 81 11))), none, none] [.int (Int32.ofInt 1)] (zpV [3, 4, 5, 6, 7, 8, 11, 14, 38, 39, 41, 42, 43] [95, 96, 97, 100, 101, 102] Mz (fun N => 0 ≤ ze N 81 3 ∧ ze N 81 3 ≤ ze N 81 2 ∧ zTv N ∧ 0 ≤ ze N 81 14 ∧ ze N 81 14 ≤ 8 ∧ (((1 ≤ ze N 81 7 ∧ zmu N = 0) ∨ (ze N 81 7 = 0 ∧ zmu N < zmu Mz)))))
                refine zr_if_eq (pc := 106) (tgt := 123) ⟨(by decide), (by decide)⟩ (by decide) d_M_letLine_106 (fun hc_106 => ?_) (fun hc_106 => ?_)
                · skip
                  exact absurd hc_106 (by decide)
                · skip
                  refine zw_aload_n (pc := 109) (n := 0) (x := 81) rfl d_M_letLine_109 ?_
                  refine zr_getI (hf_N79_.w hW) (pc := 110) f_M_275 rfl d_M_letLine_110 ?_
                  refine zr_if_eq (pc := 113) (tgt := 123) ⟨(ze_r N79_ 81 39).1, (ze_r N79_ 81 39).2⟩ (by decide) d_M_letLine_113 (fun hc_113 => ?_) (fun hc_113 => ?_)
                  · skip
                    exact j_123 N79_ hb0_N79_ (show 0 ≤ ze N79_ 81 3 by first | assumption | omega) (show ze N79_ 81 3 ≤ ze N79_ 81 2 by first | assumption | omega) hp2_N79_ (show ze N79_ 81 14 = ze Mz 81 14 by first | assumption | omega) (show (1 ≤ ze N79_ 81 7 ∧ zmu N79_ = 0) ∨ (ze N79_ 81 7 = 0 ∧ zmu N79_ < zmu Mz) from Or.inr (⟨(show ze N79_ 81 7 = 0 by first | assumption | omega), (show zmu N79_ < zmu Mz by first | assumption | omega)⟩))
                  · skip
                    refine zw_aload_n (pc := 116) (n := 0) (x := 81) rfl d_M_letLine_116 ?_
                    refine zw_bipush (pc := 117) (v := Int32.ofInt 6) (by decide) d_M_letLine_117 ?_
                    refine zw_iload_n (pc := 119) (n := 1) (x := Int32.ofInt (ze Mz 81 4)) rfl d_M_letLine_119 ?_
                    refine zr_callV (hf_N79_.w hW) hf_N79_.x (pc := 120) [.int (Int32.ofInt 6), .int (Int32.ofInt (ze Mz 81 4))] [] l_M_168 (c_M_wrongAt l N79_ (hf_N79_.w hW) 6 (by decide) (by decide) (ze Mz 81 4) (ze_r Mz 81 4).1 (ze_r Mz 81 4).2 (show ze N79_ 81 7 = 0 by first | assumption | omega) (show 1 ≤ 6 by first | assumption | omega)) rfl rfl rfl (by decide) (Nat.le_of_ble_eq_true rfl) d_M_letLine_120 ?_
                    rintro _ N86_ ⟨rfl, hsN86_, ⟨hp0_N86_, hp1_N86_⟩⟩
                    have hf_N86_ : zFr [3, 4, 5, 6, 7, 8, 11, 14, 38, 39, 41, 42, 43] [95, 96, 97, 100, 101, 102] Mz N86_ := hf_N79_.tr hsN86_ (by decide) (by decide)
                    have hb0_N86_ : zFr [3, 4, 5, 6, 7, 8, 11, 38, 39, 41, 42, 43] [95, 96, 97, 100] N10_ N86_ := hb0_N79_.tr hsN86_ (by decide) (by decide)
                    have e2_N86_ : ze N86_ 81 2 = ze N79_ 81 2 := hsN86_.e (by decide)
                    have e3_N86_ : ze N86_ 81 3 = ze N79_ 81 3 := hsN86_.e (by decide)
                    have e4_N86_ : ze N86_ 81 4 = ze N79_ 81 4 := hsN86_.e (by decide)
                    have e5_N86_ : ze N86_ 81 5 = ze N79_ 81 5 := hsN86_.e (by decide)
                    have r7_N86_ := ze_r N86_ 81 7
                    have e14_N86_ : ze N86_ 81 14 = ze N79_ 81 14 := hsN86_.e (by decide)
                    have e26_N86_ : ze N86_ 81 26 = ze N79_ 81 26 := hsN86_.e (by decide)
                    have e39_N86_ : ze N86_ 81 39 = ze N79_ 81 39 := hsN86_.e (by decide)
                    have c88_ : zGD N86_ := zGD.fr hsN86_ c81_ (by decide) (by decide)
                    have c89_ : zTv N86_ := zTv.fr hsN86_ hp2_N79_ (by decide) (by decide)
                    show zW l m_M_letLine (zn Mz + 0, zw Mz + 0) N86_ 123 [some (.ref 81), some (.int (Int32.ofInt (ze Mz 81 4))), some (.long (Int64.ofInt (zg N1_ 81 11))), none, none] [] (zpV [3, 4, 5, 6, 7, 8, 11, 14, 38, 39, 41, 42, 43] [95, 96, 97, 100, 101, 102] Mz (fun N => 0 ≤ ze N 81 3 ∧ ze N 81 3 ≤ ze N 81 2 ∧ zTv N ∧ 0 ≤ ze N 81 14 ∧ ze N 81 14 ≤ 8 ∧ (((1 ≤ ze N 81 7 ∧ zmu N = 0) ∨ (ze N 81 7 = 0 ∧ zmu N < zmu Mz)))))
                    exact j_123 N86_ hb0_N86_ (show 0 ≤ ze N86_ 81 3 by first | assumption | omega) (show ze N86_ 81 3 ≤ ze N86_ 81 2 by first | assumption | omega) c89_ (show ze N86_ 81 14 = ze Mz 81 14 by first | assumption | omega) (show (1 ≤ ze N86_ 81 7 ∧ zmu N86_ = 0) ∨ (ze N86_ 81 7 = 0 ∧ zmu N86_ < zmu Mz) from Or.inl (⟨(show 1 ≤ ze N86_ 81 7 by first | assumption | omega), (show zmu N86_ = 0 by first | assumption | omega)⟩))
              · skip
                exfalso; omega
      · skip
        exfalso; omega
  refine zw_aload_n (pc := 5) (n := 0) (x := 81) rfl d_M_letLine_5 ?_
  refine zr_getI (hf.w hW) (pc := 6) f_M_299 rfl d_M_letLine_6 ?_
  refine zw_bipush (pc := 9) (v := Int32.ofInt 8) (by decide) d_M_letLine_9 ?_
  refine zr_icmp_ne (pc := 11) (tgt := 19) ⟨(ze_r Mz 81 14).1, (ze_r Mz 81 14).2⟩ ⟨(by decide), (by decide)⟩ (by decide) d_M_letLine_11 (fun hc_11 => ?_) (fun hc_11 => ?_)
  · skip
    refine zw_aload_n (pc := 19) (n := 0) (x := 81) rfl d_M_letLine_19 ?_
    refine zr_callV (hf.w hW) hf.x (pc := 20) [] [] l_M_183 (c_M_isGood l Mz (hf.w hW) ) rfl rfl rfl (by decide) (Nat.le_of_ble_eq_true rfl) d_M_letLine_20 ?_
    rintro _ N90_ ⟨v91_, rfl, ⟨hv91_a, hv91_b⟩, hsN90_, hp0_N90_⟩
    obtain rfl := hsN90_.eq.symm
    replace hp0_N90_ : ((v91_ = 1 ∧ ze Mz 81 7 = 0) ∨ (v91_ = 0 ∧ ze Mz 81 7 ≠ 0)) := hp0_N90_
    rcases hp0_N90_ with ⟨rfl, ha20_0_hp0_N90_⟩ | ⟨rfl, ha20_0_hp0_N90_⟩
    · skip
      show zW l m_M_letLine (zn Mz + 0, zw Mz + 0) Mz 23 [some (.ref 81), some (.int (Int32.ofInt (ze Mz 81 4))), none, none, none] [.int (Int32.ofInt 1)] (zpV [3, 4, 5, 6, 7, 8, 11, 14, 38, 39, 41, 42, 43] [95, 96, 97, 100, 101, 102] Mz (fun N => 0 ≤ ze N 81 3 ∧ ze N 81 3 ≤ ze N 81 2 ∧ zTv N ∧ 0 ≤ ze N 81 14 ∧ ze N 81 14 ≤ 8 ∧ (((1 ≤ ze N 81 7 ∧ zmu N = 0) ∨ (ze N 81 7 = 0 ∧ zmu N < zmu Mz)))))
      refine zr_if_eq (pc := 23) (tgt := 30) ⟨(by decide), (by decide)⟩ (by decide) d_M_letLine_23 (fun hc_23 => ?_) (fun hc_23 => ?_)
      · skip
        exact absurd hc_23 (by decide)
      · skip
        refine zw_aload_n (pc := 26) (n := 0) (x := 81) rfl d_M_letLine_26 ?_
        refine zr_callV (hf.w hW) hf.x (pc := 27) [] [] l_M_193 (c_M_goOn l Mz (hf.w hW) (show 0 ≤ ze Mz 81 3 by first | assumption | omega) (show ze Mz 81 3 ≤ ze Mz 81 2 by first | assumption | omega) (show ze Mz 81 2 ≤ 700 by first | assumption | omega) (show ze Mz 81 5 ≠ 0 by first | assumption | omega) (show ze Mz 81 7 = 0 by first | assumption | omega)) rfl rfl rfl (by decide) (Nat.le_of_ble_eq_true rfl) d_M_letLine_27 ?_
        rintro _ N92_ ⟨rfl, hsN92_, ⟨hp0_N92_, hp1_N92_, hp2_N92_, hp3_N92_, hp4_N92_⟩⟩
        have hf_N92_ : zFr [3, 4, 5, 6, 7, 8, 11, 14, 38, 39, 41, 42, 43] [95, 96, 97, 100, 101, 102] Mz N92_ := hf.tr hsN92_ (by decide) (by decide)
        have hb0_N92_ : zFr [3, 4, 5, 6, 7, 8, 11] [] Mz N92_ := zFr.rf.tr hsN92_ (by decide) (by decide)
        have e2_N92_ : ze N92_ 81 2 = ze Mz 81 2 := hsN92_.e (by decide)
        have r3_N92_ := ze_r N92_ 81 3
        have r4_N92_ := ze_r N92_ 81 4
        have r5_N92_ := ze_r N92_ 81 5
        have e7_N92_ : ze N92_ 81 7 = ze Mz 81 7 := hsN92_.e (by decide)
        have e14_N92_ : ze N92_ 81 14 = ze Mz 81 14 := hsN92_.e (by decide)
        have e26_N92_ : ze N92_ 81 26 = ze Mz 81 26 := hsN92_.e (by decide)
        have e39_N92_ : ze N92_ 81 39 = ze Mz 81 39 := hsN92_.e (by decide)
        have c94_ : zGD N92_ := zGD.fr hsN92_ p0_ (by decide) (by decide)
        show zW l m_M_letLine (zn Mz + 0, zw Mz + 0) N92_ 30 [some (.ref 81), some (.int (Int32.ofInt (ze Mz 81 4))), none, none, none] [] (zpV [3, 4, 5, 6, 7, 8, 11, 14, 38, 39, 41, 42, 43] [95, 96, 97, 100, 101, 102] Mz (fun N => 0 ≤ ze N 81 3 ∧ ze N 81 3 ≤ ze N 81 2 ∧ zTv N ∧ 0 ≤ ze N 81 14 ∧ ze N 81 14 ≤ 8 ∧ (((1 ≤ ze N 81 7 ∧ zmu N = 0) ∨ (ze N 81 7 = 0 ∧ zmu N < zmu Mz)))))
        refine zw_aload_n (pc := 30) (n := 0) (x := 81) rfl d_M_letLine_30 ?_
        refine zr_callV (hf_N92_.w hW) hf_N92_.x (pc := 31) [] [] l_M_183 (c_M_isGood l N92_ (hf_N92_.w hW) ) rfl rfl rfl (by decide) (Nat.le_of_ble_eq_true rfl) d_M_letLine_31 ?_
        rintro _ N95_ ⟨v96_, rfl, ⟨hv96_a, hv96_b⟩, hsN95_, hp0_N95_⟩
        obtain rfl := hsN95_.eq.symm
        replace hp0_N95_ : ((v96_ = 1 ∧ ze N92_ 81 7 = 0) ∨ (v96_ = 0 ∧ ze N92_ 81 7 ≠ 0)) := hp0_N95_
        rcases hp0_N95_ with ⟨rfl, ha31_0_hp0_N95_⟩ | ⟨rfl, ha31_0_hp0_N95_⟩
        · skip
          show zW l m_M_letLine (zn Mz + 0, zw Mz + 0) N92_ 34 [some (.ref 81), some (.int (Int32.ofInt (ze Mz 81 4))), none, none, none] [.int (Int32.ofInt 1)] (zpV [3, 4, 5, 6, 7, 8, 11, 14, 38, 39, 41, 42, 43] [95, 96, 97, 100, 101, 102] Mz (fun N => 0 ≤ ze N 81 3 ∧ ze N 81 3 ≤ ze N 81 2 ∧ zTv N ∧ 0 ≤ ze N 81 14 ∧ ze N 81 14 ≤ 8 ∧ (((1 ≤ ze N 81 7 ∧ zmu N = 0) ∨ (ze N 81 7 = 0 ∧ zmu N < zmu Mz)))))
          refine zr_if_eq (pc := 34) (tgt := 49) ⟨(by decide), (by decide)⟩ (by decide) d_M_letLine_34 (fun hc_34 => ?_) (fun hc_34 => ?_)
          · skip
            exact absurd hc_34 (by decide)
          · skip
            refine zw_aload_n (pc := 37) (n := 0) (x := 81) rfl d_M_letLine_37 ?_
            refine zr_callV (hf_N92_.w hW) hf_N92_.x (pc := 38) [] [] l_M_316 (c_M_isName l N92_ (hf_N92_.w hW) ) rfl rfl rfl (by decide) (Nat.le_of_ble_eq_true rfl) d_M_letLine_38 ?_
            rintro _ N97_ ⟨v98_, rfl, ⟨hv98_a, hv98_b⟩, hsN97_, hp0_N97_⟩
            obtain rfl := hsN97_.eq.symm
            replace hp0_N97_ : ((v98_ = 1 ∧ ze N92_ 81 5 = 1) ∨ (v98_ = 0)) := hp0_N97_
            rcases hp0_N97_ with ⟨rfl, ha38_0_hp0_N97_⟩ | rfl
            · skip
              show zW l m_M_letLine (zn Mz + 0, zw Mz + 0) N92_ 41 [some (.ref 81), some (.int (Int32.ofInt (ze Mz 81 4))), none, none, none] [.int (Int32.ofInt 1)] (zpV [3, 4, 5, 6, 7, 8, 11, 14, 38, 39, 41, 42, 43] [95, 96, 97, 100, 101, 102] Mz (fun N => 0 ≤ ze N 81 3 ∧ ze N 81 3 ≤ ze N 81 2 ∧ zTv N ∧ 0 ≤ ze N 81 14 ∧ ze N 81 14 ≤ 8 ∧ (((1 ≤ ze N 81 7 ∧ zmu N = 0) ∨ (ze N 81 7 = 0 ∧ zmu N < zmu Mz)))))
              refine zr_if_ne (pc := 41) (tgt := 49) ⟨(by decide), (by decide)⟩ (by decide) d_M_letLine_41 (fun hc_41 => ?_) (fun hc_41 => ?_)
              · skip
                refine zw_aload_n (pc := 49) (n := 0) (x := 81) rfl d_M_letLine_49 ?_
                refine zr_callV (hf_N92_.w hW) hf_N92_.x (pc := 50) [] [] l_M_183 (c_M_isGood l N92_ (hf_N92_.w hW) ) rfl rfl rfl (by decide) (Nat.le_of_ble_eq_true rfl) d_M_letLine_50 ?_
                rintro _ N99_ ⟨v100_, rfl, ⟨hv100_a, hv100_b⟩, hsN99_, hp0_N99_⟩
                obtain rfl := hsN99_.eq.symm
                replace hp0_N99_ : ((v100_ = 1 ∧ ze N92_ 81 7 = 0) ∨ (v100_ = 0 ∧ ze N92_ 81 7 ≠ 0)) := hp0_N99_
                rcases hp0_N99_ with ⟨rfl, ha50_0_hp0_N99_⟩ | ⟨rfl, ha50_0_hp0_N99_⟩
                · skip
                  show zW l m_M_letLine (zn Mz + 0, zw Mz + 0) N92_ 53 [some (.ref 81), some (.int (Int32.ofInt (ze Mz 81 4))), none, none, none] [.int (Int32.ofInt 1)] (zpV [3, 4, 5, 6, 7, 8, 11, 14, 38, 39, 41, 42, 43] [95, 96, 97, 100, 101, 102] Mz (fun N => 0 ≤ ze N 81 3 ∧ ze N 81 3 ≤ ze N 81 2 ∧ zTv N ∧ 0 ≤ ze N 81 14 ∧ ze N 81 14 ≤ 8 ∧ (((1 ≤ ze N 81 7 ∧ zmu N = 0) ∨ (ze N 81 7 = 0 ∧ zmu N < zmu Mz)))))
                  refine zr_if_eq (pc := 53) (tgt := 69) ⟨(by decide), (by decide)⟩ (by decide) d_M_letLine_53 (fun hc_53 => ?_) (fun hc_53 => ?_)
                  · skip
                    exact absurd hc_53 (by decide)
                  · skip
                    refine zw_aload_n (pc := 56) (n := 0) (x := 81) rfl d_M_letLine_56 ?_
                    refine zr_callV (hf_N92_.w hW) hf_N92_.x (pc := 57) [] [] l_M_319 (c_M_nameAt l N92_ (hf_N92_.w hW) (show 0 ≤ ze N92_ 81 14 by first | assumption | omega) (show ze N92_ 81 14 ≤ 8 by first | assumption | omega)) rfl rfl rfl (by decide) (Nat.le_of_ble_eq_true rfl) d_M_letLine_57 ?_
                    rintro _ N101_ ⟨v102_, rfl, ⟨hv102_a, hv102_b⟩, hsN101_, ⟨hp0_N101_, hp1_N101_⟩⟩
                    obtain rfl := hsN101_.eq.symm
                    show zW l m_M_letLine (zn Mz + 0, zw Mz + 0) N92_ 60 [some (.ref 81), some (.int (Int32.ofInt (ze Mz 81 4))), none, none, none] [.int (Int32.ofInt v102_)] (zpV [3, 4, 5, 6, 7, 8, 11, 14, 38, 39, 41, 42, 43] [95, 96, 97, 100, 101, 102] Mz (fun N => 0 ≤ ze N 81 3 ∧ ze N 81 3 ≤ ze N 81 2 ∧ zTv N ∧ 0 ≤ ze N 81 14 ∧ ze N 81 14 ≤ 8 ∧ (((1 ≤ ze N 81 7 ∧ zmu N = 0) ∨ (ze N 81 7 = 0 ∧ zmu N < zmu Mz)))))
                    refine zw_iconst (pc := 60) (v := Int32.ofInt (-1)) (by decide) d_M_letLine_60 ?_
                    refine zr_icmp_eq (pc := 61) (tgt := 69) ⟨hv102_a, hv102_b⟩ ⟨(by decide), (by decide)⟩ (by decide) d_M_letLine_61 (fun hc_61 => ?_) (fun hc_61 => ?_)
                    · skip
                      exact j_69 N92_ hb0_N92_ (show 0 ≤ ze N92_ 81 3 by first | assumption | omega) (show ze N92_ 81 3 ≤ ze N92_ 81 2 by first | assumption | omega) hp2_N92_ (show ze N92_ 81 14 = ze Mz 81 14 by first | assumption | omega) (show (1 ≤ ze N92_ 81 7 ∧ zmu N92_ = 0) ∨ (ze N92_ 81 7 = 0 ∧ ze N92_ 81 5 = 1 ∧ zmu N92_ < zmu Mz ∧ ze Mz 81 14 ≤ 7) from Or.inr (⟨(show ze N92_ 81 7 = 0 by first | assumption | omega), (show ze N92_ 81 5 = 1 by first | assumption | omega), (show zmu N92_ < zmu Mz by first | assumption | omega), (show ze Mz 81 14 ≤ 7 by first | assumption | omega)⟩))
                    · skip
                      refine zw_aload_n (pc := 64) (n := 0) (x := 81) rfl d_M_letLine_64 ?_
                      refine zw_iconst (pc := 65) (v := Int32.ofInt 3) (by decide) d_M_letLine_65 ?_
                      refine zr_callV (hf_N92_.w hW) hf_N92_.x (pc := 66) [.int (Int32.ofInt 3)] [] l_M_190 (c_M_wrong l N92_ (hf_N92_.w hW) 3 (by decide) (by decide) (show ze N92_ 81 7 = 0 by first | assumption | omega) (show 1 ≤ 3 by first | assumption | omega)) rfl rfl rfl (by decide) (Nat.le_of_ble_eq_true rfl) d_M_letLine_66 ?_
                      rintro _ N103_ ⟨rfl, hsN103_, ⟨hp0_N103_, hp1_N103_⟩⟩
                      have hf_N103_ : zFr [3, 4, 5, 6, 7, 8, 11, 14, 38, 39, 41, 42, 43] [95, 96, 97, 100, 101, 102] Mz N103_ := hf_N92_.tr hsN103_ (by decide) (by decide)
                      have hb0_N103_ : zFr [3, 4, 5, 6, 7, 8, 11] [] Mz N103_ := hb0_N92_.tr hsN103_ (by decide) (by decide)
                      have e2_N103_ : ze N103_ 81 2 = ze N92_ 81 2 := hsN103_.e (by decide)
                      have e3_N103_ : ze N103_ 81 3 = ze N92_ 81 3 := hsN103_.e (by decide)
                      have e4_N103_ : ze N103_ 81 4 = ze N92_ 81 4 := hsN103_.e (by decide)
                      have e5_N103_ : ze N103_ 81 5 = ze N92_ 81 5 := hsN103_.e (by decide)
                      have r7_N103_ := ze_r N103_ 81 7
                      have e14_N103_ : ze N103_ 81 14 = ze N92_ 81 14 := hsN103_.e (by decide)
                      have e26_N103_ : ze N103_ 81 26 = ze N92_ 81 26 := hsN103_.e (by decide)
                      have e39_N103_ : ze N103_ 81 39 = ze N92_ 81 39 := hsN103_.e (by decide)
                      have c105_ : zGD N103_ := zGD.fr hsN103_ c94_ (by decide) (by decide)
                      have c106_ : zTv N103_ := zTv.fr hsN103_ hp2_N92_ (by decide) (by decide)
                      show zW l m_M_letLine (zn Mz + 0, zw Mz + 0) N103_ 69 [some (.ref 81), some (.int (Int32.ofInt (ze Mz 81 4))), none, none, none] [] (zpV [3, 4, 5, 6, 7, 8, 11, 14, 38, 39, 41, 42, 43] [95, 96, 97, 100, 101, 102] Mz (fun N => 0 ≤ ze N 81 3 ∧ ze N 81 3 ≤ ze N 81 2 ∧ zTv N ∧ 0 ≤ ze N 81 14 ∧ ze N 81 14 ≤ 8 ∧ (((1 ≤ ze N 81 7 ∧ zmu N = 0) ∨ (ze N 81 7 = 0 ∧ zmu N < zmu Mz)))))
                      exact j_69 N103_ hb0_N103_ (show 0 ≤ ze N103_ 81 3 by first | assumption | omega) (show ze N103_ 81 3 ≤ ze N103_ 81 2 by first | assumption | omega) c106_ (show ze N103_ 81 14 = ze Mz 81 14 by first | assumption | omega) (show (1 ≤ ze N103_ 81 7 ∧ zmu N103_ = 0) ∨ (ze N103_ 81 7 = 0 ∧ ze N103_ 81 5 = 1 ∧ zmu N103_ < zmu Mz ∧ ze Mz 81 14 ≤ 7) from Or.inl (⟨(show 1 ≤ ze N103_ 81 7 by first | assumption | omega), (show zmu N103_ = 0 by first | assumption | omega)⟩))
                · skip
                  exfalso; omega
              · skip
                exact absurd hc_41 (by decide)
            · skip
              show zW l m_M_letLine (zn Mz + 0, zw Mz + 0) N92_ 41 [some (.ref 81), some (.int (Int32.ofInt (ze Mz 81 4))), none, none, none] [.int (Int32.ofInt 0)] (zpV [3, 4, 5, 6, 7, 8, 11, 14, 38, 39, 41, 42, 43] [95, 96, 97, 100, 101, 102] Mz (fun N => 0 ≤ ze N 81 3 ∧ ze N 81 3 ≤ ze N 81 2 ∧ zTv N ∧ 0 ≤ ze N 81 14 ∧ ze N 81 14 ≤ 8 ∧ (((1 ≤ ze N 81 7 ∧ zmu N = 0) ∨ (ze N 81 7 = 0 ∧ zmu N < zmu Mz)))))
              refine zr_if_ne (pc := 41) (tgt := 49) ⟨(by decide), (by decide)⟩ (by decide) d_M_letLine_41 (fun hc_41 => ?_) (fun hc_41 => ?_)
              · skip
                exact absurd hc_41 (by decide)
              · skip
                refine zw_aload_n (pc := 44) (n := 0) (x := 81) rfl d_M_letLine_44 ?_
                refine zw_iconst (pc := 45) (v := Int32.ofInt 2) (by decide) d_M_letLine_45 ?_
                refine zr_callV (hf_N92_.w hW) hf_N92_.x (pc := 46) [.int (Int32.ofInt 2)] [] l_M_190 (c_M_wrong l N92_ (hf_N92_.w hW) 2 (by decide) (by decide) (show ze N92_ 81 7 = 0 by first | assumption | omega) (show 1 ≤ 2 by first | assumption | omega)) rfl rfl rfl (by decide) (Nat.le_of_ble_eq_true rfl) d_M_letLine_46 ?_
                rintro _ N107_ ⟨rfl, hsN107_, ⟨hp0_N107_, hp1_N107_⟩⟩
                have hf_N107_ : zFr [3, 4, 5, 6, 7, 8, 11, 14, 38, 39, 41, 42, 43] [95, 96, 97, 100, 101, 102] Mz N107_ := hf_N92_.tr hsN107_ (by decide) (by decide)
                have hb0_N107_ : zFr [3, 4, 5, 6, 7, 8, 11] [] Mz N107_ := hb0_N92_.tr hsN107_ (by decide) (by decide)
                have e2_N107_ : ze N107_ 81 2 = ze N92_ 81 2 := hsN107_.e (by decide)
                have e3_N107_ : ze N107_ 81 3 = ze N92_ 81 3 := hsN107_.e (by decide)
                have e4_N107_ : ze N107_ 81 4 = ze N92_ 81 4 := hsN107_.e (by decide)
                have e5_N107_ : ze N107_ 81 5 = ze N92_ 81 5 := hsN107_.e (by decide)
                have r7_N107_ := ze_r N107_ 81 7
                have e14_N107_ : ze N107_ 81 14 = ze N92_ 81 14 := hsN107_.e (by decide)
                have e26_N107_ : ze N107_ 81 26 = ze N92_ 81 26 := hsN107_.e (by decide)
                have e39_N107_ : ze N107_ 81 39 = ze N92_ 81 39 := hsN107_.e (by decide)
                have c109_ : zGD N107_ := zGD.fr hsN107_ c94_ (by decide) (by decide)
                have c110_ : zTv N107_ := zTv.fr hsN107_ hp2_N92_ (by decide) (by decide)
                show zW l m_M_letLine (zn Mz + 0, zw Mz + 0) N107_ 49 [some (.ref 81), some (.int (Int32.ofInt (ze Mz 81 4))), none, none, none] [] (zpV [3, 4, 5, 6, 7, 8, 11, 14, 38, 39, 41, 42, 43] [95, 96, 97, 100, 101, 102] Mz (fun N => 0 ≤ ze N 81 3 ∧ ze N 81 3 ≤ ze N 81 2 ∧ zTv N ∧ 0 ≤ ze N 81 14 ∧ ze N 81 14 ≤ 8 ∧ (((1 ≤ ze N 81 7 ∧ zmu N = 0) ∨ (ze N 81 7 = 0 ∧ zmu N < zmu Mz)))))
                refine zw_aload_n (pc := 49) (n := 0) (x := 81) rfl d_M_letLine_49 ?_
                refine zr_callV (hf_N107_.w hW) hf_N107_.x (pc := 50) [] [] l_M_183 (c_M_isGood l N107_ (hf_N107_.w hW) ) rfl rfl rfl (by decide) (Nat.le_of_ble_eq_true rfl) d_M_letLine_50 ?_
                rintro _ N111_ ⟨v112_, rfl, ⟨hv112_a, hv112_b⟩, hsN111_, hp0_N111_⟩
                obtain rfl := hsN111_.eq.symm
                replace hp0_N111_ : ((v112_ = 1 ∧ ze N107_ 81 7 = 0) ∨ (v112_ = 0 ∧ ze N107_ 81 7 ≠ 0)) := hp0_N111_
                rcases hp0_N111_ with ⟨rfl, ha50_0_hp0_N111_⟩ | ⟨rfl, ha50_0_hp0_N111_⟩
                · skip
                  exfalso; omega
                · skip
                  show zW l m_M_letLine (zn Mz + 0, zw Mz + 0) N107_ 53 [some (.ref 81), some (.int (Int32.ofInt (ze Mz 81 4))), none, none, none] [.int (Int32.ofInt 0)] (zpV [3, 4, 5, 6, 7, 8, 11, 14, 38, 39, 41, 42, 43] [95, 96, 97, 100, 101, 102] Mz (fun N => 0 ≤ ze N 81 3 ∧ ze N 81 3 ≤ ze N 81 2 ∧ zTv N ∧ 0 ≤ ze N 81 14 ∧ ze N 81 14 ≤ 8 ∧ (((1 ≤ ze N 81 7 ∧ zmu N = 0) ∨ (ze N 81 7 = 0 ∧ zmu N < zmu Mz)))))
                  refine zr_if_eq (pc := 53) (tgt := 69) ⟨(by decide), (by decide)⟩ (by decide) d_M_letLine_53 (fun hc_53 => ?_) (fun hc_53 => ?_)
                  · skip
                    exact j_69 N107_ hb0_N107_ (show 0 ≤ ze N107_ 81 3 by first | assumption | omega) (show ze N107_ 81 3 ≤ ze N107_ 81 2 by first | assumption | omega) c110_ (show ze N107_ 81 14 = ze Mz 81 14 by first | assumption | omega) (show (1 ≤ ze N107_ 81 7 ∧ zmu N107_ = 0) ∨ (ze N107_ 81 7 = 0 ∧ ze N107_ 81 5 = 1 ∧ zmu N107_ < zmu Mz ∧ ze Mz 81 14 ≤ 7) from Or.inl (⟨(show 1 ≤ ze N107_ 81 7 by first | assumption | omega), (show zmu N107_ = 0 by first | assumption | omega)⟩))
                  · skip
                    exact absurd hc_53 (by decide)
        · skip
          exfalso; omega
    · skip
      show zW l m_M_letLine (zn Mz + 0, zw Mz + 0) Mz 23 [some (.ref 81), some (.int (Int32.ofInt (ze Mz 81 4))), none, none, none] [.int (Int32.ofInt 0)] (zpV [3, 4, 5, 6, 7, 8, 11, 14, 38, 39, 41, 42, 43] [95, 96, 97, 100, 101, 102] Mz (fun N => 0 ≤ ze N 81 3 ∧ ze N 81 3 ≤ ze N 81 2 ∧ zTv N ∧ 0 ≤ ze N 81 14 ∧ ze N 81 14 ≤ 8 ∧ (((1 ≤ ze N 81 7 ∧ zmu N = 0) ∨ (ze N 81 7 = 0 ∧ zmu N < zmu Mz)))))
      refine zr_if_eq (pc := 23) (tgt := 30) ⟨(by decide), (by decide)⟩ (by decide) d_M_letLine_23 (fun hc_23 => ?_) (fun hc_23 => ?_)
      · skip
        refine zw_aload_n (pc := 30) (n := 0) (x := 81) rfl d_M_letLine_30 ?_
        refine zr_callV (hf.w hW) hf.x (pc := 31) [] [] l_M_183 (c_M_isGood l Mz (hf.w hW) ) rfl rfl rfl (by decide) (Nat.le_of_ble_eq_true rfl) d_M_letLine_31 ?_
        rintro _ N113_ ⟨v114_, rfl, ⟨hv114_a, hv114_b⟩, hsN113_, hp0_N113_⟩
        obtain rfl := hsN113_.eq.symm
        replace hp0_N113_ : ((v114_ = 1 ∧ ze Mz 81 7 = 0) ∨ (v114_ = 0 ∧ ze Mz 81 7 ≠ 0)) := hp0_N113_
        rcases hp0_N113_ with ⟨rfl, ha31_0_hp0_N113_⟩ | ⟨rfl, ha31_0_hp0_N113_⟩
        · skip
          exfalso; omega
        · skip
          show zW l m_M_letLine (zn Mz + 0, zw Mz + 0) Mz 34 [some (.ref 81), some (.int (Int32.ofInt (ze Mz 81 4))), none, none, none] [.int (Int32.ofInt 0)] (zpV [3, 4, 5, 6, 7, 8, 11, 14, 38, 39, 41, 42, 43] [95, 96, 97, 100, 101, 102] Mz (fun N => 0 ≤ ze N 81 3 ∧ ze N 81 3 ≤ ze N 81 2 ∧ zTv N ∧ 0 ≤ ze N 81 14 ∧ ze N 81 14 ≤ 8 ∧ (((1 ≤ ze N 81 7 ∧ zmu N = 0) ∨ (ze N 81 7 = 0 ∧ zmu N < zmu Mz)))))
          refine zr_if_eq (pc := 34) (tgt := 49) ⟨(by decide), (by decide)⟩ (by decide) d_M_letLine_34 (fun hc_34 => ?_) (fun hc_34 => ?_)
          · skip
            refine zw_aload_n (pc := 49) (n := 0) (x := 81) rfl d_M_letLine_49 ?_
            refine zr_callV (hf.w hW) hf.x (pc := 50) [] [] l_M_183 (c_M_isGood l Mz (hf.w hW) ) rfl rfl rfl (by decide) (Nat.le_of_ble_eq_true rfl) d_M_letLine_50 ?_
            rintro _ N115_ ⟨v116_, rfl, ⟨hv116_a, hv116_b⟩, hsN115_, hp0_N115_⟩
            obtain rfl := hsN115_.eq.symm
            replace hp0_N115_ : ((v116_ = 1 ∧ ze Mz 81 7 = 0) ∨ (v116_ = 0 ∧ ze Mz 81 7 ≠ 0)) := hp0_N115_
            rcases hp0_N115_ with ⟨rfl, ha50_0_hp0_N115_⟩ | ⟨rfl, ha50_0_hp0_N115_⟩
            · skip
              exfalso; omega
            · skip
              show zW l m_M_letLine (zn Mz + 0, zw Mz + 0) Mz 53 [some (.ref 81), some (.int (Int32.ofInt (ze Mz 81 4))), none, none, none] [.int (Int32.ofInt 0)] (zpV [3, 4, 5, 6, 7, 8, 11, 14, 38, 39, 41, 42, 43] [95, 96, 97, 100, 101, 102] Mz (fun N => 0 ≤ ze N 81 3 ∧ ze N 81 3 ≤ ze N 81 2 ∧ zTv N ∧ 0 ≤ ze N 81 14 ∧ ze N 81 14 ≤ 8 ∧ (((1 ≤ ze N 81 7 ∧ zmu N = 0) ∨ (ze N 81 7 = 0 ∧ zmu N < zmu Mz)))))
              refine zr_if_eq (pc := 53) (tgt := 69) ⟨(by decide), (by decide)⟩ (by decide) d_M_letLine_53 (fun hc_53 => ?_) (fun hc_53 => ?_)
              · skip
                exact j_69 Mz zFr.rf (show 0 ≤ ze Mz 81 3 by first | assumption | omega) (show ze Mz 81 3 ≤ ze Mz 81 2 by first | assumption | omega) p4_ (show ze Mz 81 14 = ze Mz 81 14 by first | assumption | omega) (show (1 ≤ ze Mz 81 7 ∧ zmu Mz = 0) ∨ (ze Mz 81 7 = 0 ∧ ze Mz 81 5 = 1 ∧ zmu Mz < zmu Mz ∧ ze Mz 81 14 ≤ 7) from Or.inl (⟨(show 1 ≤ ze Mz 81 7 by first | assumption | omega), (show zmu Mz = 0 by first | assumption | omega)⟩))
              · skip
                exact absurd hc_53 (by decide)
          · skip
            exact absurd hc_34 (by decide)
      · skip
        exact absurd hc_23 (by decide)
  · skip
    refine zw_aload_n (pc := 14) (n := 0) (x := 81) rfl d_M_letLine_14 ?_
    refine zw_iconst (pc := 15) (v := Int32.ofInt 5) (by decide) d_M_letLine_15 ?_
    refine zr_callV (hf.w hW) hf.x (pc := 16) [.int (Int32.ofInt 5)] [] l_M_190 (c_M_wrong l Mz (hf.w hW) 5 (by decide) (by decide) (show ze Mz 81 7 = 0 by first | assumption | omega) (show 1 ≤ 5 by first | assumption | omega)) rfl rfl rfl (by decide) (Nat.le_of_ble_eq_true rfl) d_M_letLine_16 ?_
    rintro _ N117_ ⟨rfl, hsN117_, ⟨hp0_N117_, hp1_N117_⟩⟩
    have hf_N117_ : zFr [3, 4, 5, 6, 7, 8, 11, 14, 38, 39, 41, 42, 43] [95, 96, 97, 100, 101, 102] Mz N117_ := hf.tr hsN117_ (by decide) (by decide)
    have hb0_N117_ : zFr [3, 4, 5, 6, 7, 8, 11] [] Mz N117_ := zFr.rf.tr hsN117_ (by decide) (by decide)
    have e2_N117_ : ze N117_ 81 2 = ze Mz 81 2 := hsN117_.e (by decide)
    have e3_N117_ : ze N117_ 81 3 = ze Mz 81 3 := hsN117_.e (by decide)
    have e4_N117_ : ze N117_ 81 4 = ze Mz 81 4 := hsN117_.e (by decide)
    have e5_N117_ : ze N117_ 81 5 = ze Mz 81 5 := hsN117_.e (by decide)
    have r7_N117_ := ze_r N117_ 81 7
    have e14_N117_ : ze N117_ 81 14 = ze Mz 81 14 := hsN117_.e (by decide)
    have e26_N117_ : ze N117_ 81 26 = ze Mz 81 26 := hsN117_.e (by decide)
    have e39_N117_ : ze N117_ 81 39 = ze Mz 81 39 := hsN117_.e (by decide)
    have c119_ : zGD N117_ := zGD.fr hsN117_ p0_ (by decide) (by decide)
    have c120_ : zTv N117_ := zTv.fr hsN117_ p4_ (by decide) (by decide)
    show zW l m_M_letLine (zn Mz + 0, zw Mz + 0) N117_ 19 [some (.ref 81), some (.int (Int32.ofInt (ze Mz 81 4))), none, none, none] [] (zpV [3, 4, 5, 6, 7, 8, 11, 14, 38, 39, 41, 42, 43] [95, 96, 97, 100, 101, 102] Mz (fun N => 0 ≤ ze N 81 3 ∧ ze N 81 3 ≤ ze N 81 2 ∧ zTv N ∧ 0 ≤ ze N 81 14 ∧ ze N 81 14 ≤ 8 ∧ (((1 ≤ ze N 81 7 ∧ zmu N = 0) ∨ (ze N 81 7 = 0 ∧ zmu N < zmu Mz)))))
    refine zw_aload_n (pc := 19) (n := 0) (x := 81) rfl d_M_letLine_19 ?_
    refine zr_callV (hf_N117_.w hW) hf_N117_.x (pc := 20) [] [] l_M_183 (c_M_isGood l N117_ (hf_N117_.w hW) ) rfl rfl rfl (by decide) (Nat.le_of_ble_eq_true rfl) d_M_letLine_20 ?_
    rintro _ N121_ ⟨v122_, rfl, ⟨hv122_a, hv122_b⟩, hsN121_, hp0_N121_⟩
    obtain rfl := hsN121_.eq.symm
    replace hp0_N121_ : ((v122_ = 1 ∧ ze N117_ 81 7 = 0) ∨ (v122_ = 0 ∧ ze N117_ 81 7 ≠ 0)) := hp0_N121_
    rcases hp0_N121_ with ⟨rfl, ha20_0_hp0_N121_⟩ | ⟨rfl, ha20_0_hp0_N121_⟩
    · skip
      exfalso; omega
    · skip
      show zW l m_M_letLine (zn Mz + 0, zw Mz + 0) N117_ 23 [some (.ref 81), some (.int (Int32.ofInt (ze Mz 81 4))), none, none, none] [.int (Int32.ofInt 0)] (zpV [3, 4, 5, 6, 7, 8, 11, 14, 38, 39, 41, 42, 43] [95, 96, 97, 100, 101, 102] Mz (fun N => 0 ≤ ze N 81 3 ∧ ze N 81 3 ≤ ze N 81 2 ∧ zTv N ∧ 0 ≤ ze N 81 14 ∧ ze N 81 14 ≤ 8 ∧ (((1 ≤ ze N 81 7 ∧ zmu N = 0) ∨ (ze N 81 7 = 0 ∧ zmu N < zmu Mz)))))
      refine zr_if_eq (pc := 23) (tgt := 30) ⟨(by decide), (by decide)⟩ (by decide) d_M_letLine_23 (fun hc_23 => ?_) (fun hc_23 => ?_)
      · skip
        refine zw_aload_n (pc := 30) (n := 0) (x := 81) rfl d_M_letLine_30 ?_
        refine zr_callV (hf_N117_.w hW) hf_N117_.x (pc := 31) [] [] l_M_183 (c_M_isGood l N117_ (hf_N117_.w hW) ) rfl rfl rfl (by decide) (Nat.le_of_ble_eq_true rfl) d_M_letLine_31 ?_
        rintro _ N123_ ⟨v124_, rfl, ⟨hv124_a, hv124_b⟩, hsN123_, hp0_N123_⟩
        obtain rfl := hsN123_.eq.symm
        replace hp0_N123_ : ((v124_ = 1 ∧ ze N117_ 81 7 = 0) ∨ (v124_ = 0 ∧ ze N117_ 81 7 ≠ 0)) := hp0_N123_
        rcases hp0_N123_ with ⟨rfl, ha31_0_hp0_N123_⟩ | ⟨rfl, ha31_0_hp0_N123_⟩
        · skip
          exfalso; omega
        · skip
          show zW l m_M_letLine (zn Mz + 0, zw Mz + 0) N117_ 34 [some (.ref 81), some (.int (Int32.ofInt (ze Mz 81 4))), none, none, none] [.int (Int32.ofInt 0)] (zpV [3, 4, 5, 6, 7, 8, 11, 14, 38, 39, 41, 42, 43] [95, 96, 97, 100, 101, 102] Mz (fun N => 0 ≤ ze N 81 3 ∧ ze N 81 3 ≤ ze N 81 2 ∧ zTv N ∧ 0 ≤ ze N 81 14 ∧ ze N 81 14 ≤ 8 ∧ (((1 ≤ ze N 81 7 ∧ zmu N = 0) ∨ (ze N 81 7 = 0 ∧ zmu N < zmu Mz)))))
          refine zr_if_eq (pc := 34) (tgt := 49) ⟨(by decide), (by decide)⟩ (by decide) d_M_letLine_34 (fun hc_34 => ?_) (fun hc_34 => ?_)
          · skip
            refine zw_aload_n (pc := 49) (n := 0) (x := 81) rfl d_M_letLine_49 ?_
            refine zr_callV (hf_N117_.w hW) hf_N117_.x (pc := 50) [] [] l_M_183 (c_M_isGood l N117_ (hf_N117_.w hW) ) rfl rfl rfl (by decide) (Nat.le_of_ble_eq_true rfl) d_M_letLine_50 ?_
            rintro _ N125_ ⟨v126_, rfl, ⟨hv126_a, hv126_b⟩, hsN125_, hp0_N125_⟩
            obtain rfl := hsN125_.eq.symm
            replace hp0_N125_ : ((v126_ = 1 ∧ ze N117_ 81 7 = 0) ∨ (v126_ = 0 ∧ ze N117_ 81 7 ≠ 0)) := hp0_N125_
            rcases hp0_N125_ with ⟨rfl, ha50_0_hp0_N125_⟩ | ⟨rfl, ha50_0_hp0_N125_⟩
            · skip
              exfalso; omega
            · skip
              show zW l m_M_letLine (zn Mz + 0, zw Mz + 0) N117_ 53 [some (.ref 81), some (.int (Int32.ofInt (ze Mz 81 4))), none, none, none] [.int (Int32.ofInt 0)] (zpV [3, 4, 5, 6, 7, 8, 11, 14, 38, 39, 41, 42, 43] [95, 96, 97, 100, 101, 102] Mz (fun N => 0 ≤ ze N 81 3 ∧ ze N 81 3 ≤ ze N 81 2 ∧ zTv N ∧ 0 ≤ ze N 81 14 ∧ ze N 81 14 ≤ 8 ∧ (((1 ≤ ze N 81 7 ∧ zmu N = 0) ∨ (ze N 81 7 = 0 ∧ zmu N < zmu Mz)))))
              refine zr_if_eq (pc := 53) (tgt := 69) ⟨(by decide), (by decide)⟩ (by decide) d_M_letLine_53 (fun hc_53 => ?_) (fun hc_53 => ?_)
              · skip
                exact j_69 N117_ hb0_N117_ (show 0 ≤ ze N117_ 81 3 by first | assumption | omega) (show ze N117_ 81 3 ≤ ze N117_ 81 2 by first | assumption | omega) c120_ (show ze N117_ 81 14 = ze Mz 81 14 by first | assumption | omega) (show (1 ≤ ze N117_ 81 7 ∧ zmu N117_ = 0) ∨ (ze N117_ 81 7 = 0 ∧ ze N117_ 81 5 = 1 ∧ zmu N117_ < zmu Mz ∧ ze Mz 81 14 ≤ 7) from Or.inl (⟨(show 1 ≤ ze N117_ 81 7 by first | assumption | omega), (show zmu N117_ = 0 by first | assumption | omega)⟩))
              · skip
                exact absurd hc_53 (by decide)
          · skip
            exact absurd hc_34 (by decide)
      · skip
        exact absurd hc_23 (by decide)
