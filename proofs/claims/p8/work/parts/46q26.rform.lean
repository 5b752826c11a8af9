set_option maxHeartbeats 40000000 in
theorem c_M_formula (l : Launch) (Mz : zMem) (hW : zMt Mz) (p0_ : zGD Mz) (p1_ : 0 ≤ ze Mz 81 3) (p2_ : ze Mz 81 3 ≤ ze Mz 81 2) (p3_ : ze Mz 81 2 ≤ 700) (p4_ : zTv Mz) (p5_ : 0 ≤ ze Mz 81 7) (p6_ : 0 ≤ ze Mz 81 14) (p7_ : ze Mz 81 14 ≤ 8) : zC l m_M_formula 0 0 [.ref 81] Mz (zpV [3, 4, 5, 6, 7, 8, 11, 38, 39, 41, 42, 43] [95, 96, 97, 100] Mz (fun N => 0 ≤ ze N 81 3 ∧ ze N 81 3 ≤ ze N 81 2 ∧ zTv N ∧ (((1 ≤ ze N 81 7 ∧ zmu N = 0) ∨ (ze N 81 7 = 0 ∧ ze Mz 81 7 = 0 ∧ zmu N ≤ zmu Mz))))) := by
  refine zC_of (L0 := [some (.ref 81), none]) md_M_formula (Nat.le_of_ble_eq_true rfl) rfl ?_ zQ0
  have hf : zFr [3, 4, 5, 6, 7, 8, 11, 38, 39, 41, 42, 43] [95, 96, 97, 100] Mz Mz := zFr.rf
  have r_2 := ze_r Mz 81 2
  have r_3 := ze_r Mz 81 3
  have r_5 := ze_r Mz 81 5
  have r_6 := ze_r Mz 81 6
  have r_7 := ze_r Mz 81 7
  have r_14 := ze_r Mz 81 14
  have r_38 := ze_r Mz 81 38
  have r_39 := ze_r Mz 81 39
  have r_41 := ze_r Mz 81 41
  have r_42 := ze_r Mz 81 42
  have r_43 := ze_r Mz 81 43
  have hz0 := zmu_s Mz
  refine zw_aload_n (pc := 0) (n := 0) (x := 81) rfl d_M_formula_0 ?_
  refine zw_iconst (pc := 1) (v := Int32.ofInt 0) (by decide) d_M_formula_1 ?_
  refine zr_putI (hf.w hW) (pc := 2) f_M_268 rfl rfl ⟨by omega, by omega⟩ rfl rfl d_M_formula_2 (fun N1_ hsN1_ hvN1_ => ?_)
  have hf_N1_ : zFr [3, 4, 5, 6, 7, 8, 11, 38, 39, 41, 42, 43] [95, 96, 97, 100] Mz N1_ := hf.tr hsN1_ (by decide) (by decide)
  have e2_N1_ : ze N1_ 81 2 = ze Mz 81 2 := hsN1_.e (by decide)
  have e3_N1_ : ze N1_ 81 3 = ze Mz 81 3 := hsN1_.e (by decide)
  have e5_N1_ : ze N1_ 81 5 = ze Mz 81 5 := hsN1_.e (by decide)
  have e6_N1_ : ze N1_ 81 6 = ze Mz 81 6 := hsN1_.e (by decide)
  have e7_N1_ : ze N1_ 81 7 = ze Mz 81 7 := hsN1_.e (by decide)
  have e14_N1_ : ze N1_ 81 14 = ze Mz 81 14 := hsN1_.e (by decide)
  have r38_N1_ := ze_r N1_ 81 38
  have e39_N1_ : ze N1_ 81 39 = ze Mz 81 39 := hsN1_.e (by decide)
  have e41_N1_ : ze N1_ 81 41 = ze Mz 81 41 := hsN1_.e (by decide)
  have e42_N1_ : ze N1_ 81 42 = ze Mz 81 42 := hsN1_.e (by decide)
  have e43_N1_ : ze N1_ 81 43 = ze Mz 81 43 := hsN1_.e (by decide)
  have qzcw_N1_ : zcw N1_ = zcw Mz := zcw_f hsN1_ (by decide)
  have qzmu_N1_ : zmu N1_ = zmu Mz := zmu_f hsN1_ (by decide)
  have c2_ : zGD N1_ := zGD.fr hsN1_ p0_ (by decide) (by decide)
  have c3_ : zTv N1_ := zTv.fr hsN1_ p4_ (by decide) (by decide)
  refine zw_aload_n (pc := 5) (n := 0) (x := 81) rfl d_M_formula_5 ?_
  refine zw_iconst (pc := 6) (v := Int32.ofInt 0) (by decide) d_M_formula_6 ?_
  refine zr_putI (hf_N1_.w hW) (pc := 7) f_M_305 rfl rfl ⟨by omega, by omega⟩ rfl rfl d_M_formula_7 (fun N4_ hsN4_ hvN4_ => ?_)
  have hf_N4_ : zFr [3, 4, 5, 6, 7, 8, 11, 38, 39, 41, 42, 43] [95, 96, 97, 100] Mz N4_ := hf_N1_.tr hsN4_ (by decide) (by decide)
  have e2_N4_ : ze N4_ 81 2 = ze N1_ 81 2 := hsN4_.e (by decide)
  have e3_N4_ : ze N4_ 81 3 = ze N1_ 81 3 := hsN4_.e (by decide)
  have e5_N4_ : ze N4_ 81 5 = ze N1_ 81 5 := hsN4_.e (by decide)
  have e6_N4_ : ze N4_ 81 6 = ze N1_ 81 6 := hsN4_.e (by decide)
  have e7_N4_ : ze N4_ 81 7 = ze N1_ 81 7 := hsN4_.e (by decide)
  have e14_N4_ : ze N4_ 81 14 = ze N1_ 81 14 := hsN4_.e (by decide)
  have e38_N4_ : ze N4_ 81 38 = ze N1_ 81 38 := hsN4_.e (by decide)
  have e39_N4_ : ze N4_ 81 39 = ze N1_ 81 39 := hsN4_.e (by decide)
  have r41_N4_ := ze_r N4_ 81 41
  have e42_N4_ : ze N4_ 81 42 = ze N1_ 81 42 := hsN4_.e (by decide)
  have e43_N4_ : ze N4_ 81 43 = ze N1_ 81 43 := hsN4_.e (by decide)
  have qzmu_N4_ : zmu N4_ = zmu N1_ := zmu_f hsN4_ (by decide)
  have c5_ : zGD N4_ := zGD.fr hsN4_ c2_ (by decide) (by decide)
  have c6_ : zTv N4_ := zTv.fr hsN4_ c3_ (by decide) (by decide)
  refine zw_aload_n (pc := 10) (n := 0) (x := 81) rfl d_M_formula_10 ?_
  refine zw_iconst (pc := 11) (v := Int32.ofInt 0) (by decide) d_M_formula_11 ?_
  refine zr_putI (hf_N4_.w hW) (pc := 12) f_M_296 rfl rfl ⟨by omega, by omega⟩ rfl rfl d_M_formula_12 (fun N7_ hsN7_ hvN7_ => ?_)
  have hf_N7_ : zFr [3, 4, 5, 6, 7, 8, 11, 38, 39, 41, 42, 43] [95, 96, 97, 100] Mz N7_ := hf_N4_.tr hsN7_ (by decide) (by decide)
  have e2_N7_ : ze N7_ 81 2 = ze N4_ 81 2 := hsN7_.e (by decide)
  have e3_N7_ : ze N7_ 81 3 = ze N4_ 81 3 := hsN7_.e (by decide)
  have e5_N7_ : ze N7_ 81 5 = ze N4_ 81 5 := hsN7_.e (by decide)
  have e6_N7_ : ze N7_ 81 6 = ze N4_ 81 6 := hsN7_.e (by decide)
  have e7_N7_ : ze N7_ 81 7 = ze N4_ 81 7 := hsN7_.e (by decide)
  have e14_N7_ : ze N7_ 81 14 = ze N4_ 81 14 := hsN7_.e (by decide)
  have e38_N7_ : ze N7_ 81 38 = ze N4_ 81 38 := hsN7_.e (by decide)
  have e39_N7_ : ze N7_ 81 39 = ze N4_ 81 39 := hsN7_.e (by decide)
  have e41_N7_ : ze N7_ 81 41 = ze N4_ 81 41 := hsN7_.e (by decide)
  have r42_N7_ := ze_r N7_ 81 42
  have e43_N7_ : ze N7_ 81 43 = ze N4_ 81 43 := hsN7_.e (by decide)
  have qzcw_N7_ : zcw N7_ = zcw N4_ := zcw_f hsN7_ (by decide)
  have qzmu_N7_ : zmu N7_ = zmu N4_ := zmu_f hsN7_ (by decide)
  have c8_ : zGD N7_ := zGD.fr hsN7_ c5_ (by decide) (by decide)
  have c9_ : zTv N7_ := zTv.fr hsN7_ c6_ (by decide) (by decide)
  refine zw_aload_n (pc := 15) (n := 0) (x := 81) rfl d_M_formula_15 ?_
  refine zw_iconst (pc := 16) (v := Int32.ofInt 0) (by decide) d_M_formula_16 ?_
  refine zr_putI (hf_N7_.w hW) (pc := 17) f_M_293 rfl rfl ⟨by omega, by omega⟩ rfl rfl d_M_formula_17 (fun N10_ hsN10_ hvN10_ => ?_)
  have hf_N10_ : zFr [3, 4, 5, 6, 7, 8, 11, 38, 39, 41, 42, 43] [95, 96, 97, 100] Mz N10_ := hf_N7_.tr hsN10_ (by decide) (by decide)
  have e2_N10_ : ze N10_ 81 2 = ze N7_ 81 2 := hsN10_.e (by decide)
  have e3_N10_ : ze N10_ 81 3 = ze N7_ 81 3 := hsN10_.e (by decide)
  have e5_N10_ : ze N10_ 81 5 = ze N7_ 81 5 := hsN10_.e (by decide)
  have e6_N10_ : ze N10_ 81 6 = ze N7_ 81 6 := hsN10_.e (by decide)
  have e7_N10_ : ze N10_ 81 7 = ze N7_ 81 7 := hsN10_.e (by decide)
  have e14_N10_ : ze N10_ 81 14 = ze N7_ 81 14 := hsN10_.e (by decide)
  have e38_N10_ : ze N10_ 81 38 = ze N7_ 81 38 := hsN10_.e (by decide)
  have e39_N10_ : ze N10_ 81 39 = ze N7_ 81 39 := hsN10_.e (by decide)
  have e41_N10_ : ze N10_ 81 41 = ze N7_ 81 41 := hsN10_.e (by decide)
  have e42_N10_ : ze N10_ 81 42 = ze N7_ 81 42 := hsN10_.e (by decide)
  have r43_N10_ := ze_r N10_ 81 43
  have qzcw_N10_ : zcw N10_ = zcw N7_ := zcw_f hsN10_ (by decide)
  have qzmu_N10_ : zmu N10_ = zmu N7_ := zmu_f hsN10_ (by decide)
  have c11_ : zGD N10_ := zGD.fr hsN10_ c8_ (by decide) (by decide)
  have c12_ : zTv N10_ := zTv.fr hsN10_ c9_ (by decide) (by decide)
  refine zw_aload_n (pc := 20) (n := 0) (x := 81) rfl d_M_formula_20 ?_
  refine zw_iconst (pc := 21) (v := Int32.ofInt 0) (by decide) d_M_formula_21 ?_
  refine zr_putI (hf_N10_.w hW) (pc := 22) f_M_275 rfl rfl ⟨by omega, by omega⟩ (z_narB (by omega)) (z_fitB (by omega)) d_M_formula_22 (fun N13_ hsN13_ hvN13_ => ?_)
  have hf_N13_ : zFr [3, 4, 5, 6, 7, 8, 11, 38, 39, 41, 42, 43] [95, 96, 97, 100] Mz N13_ := hf_N10_.tr hsN13_ (by decide) (by decide)
  have e2_N13_ : ze N13_ 81 2 = ze N10_ 81 2 := hsN13_.e (by decide)
  have e3_N13_ : ze N13_ 81 3 = ze N10_ 81 3 := hsN13_.e (by decide)
  have e5_N13_ : ze N13_ 81 5 = ze N10_ 81 5 := hsN13_.e (by decide)
  have e6_N13_ : ze N13_ 81 6 = ze N10_ 81 6 := hsN13_.e (by decide)
  have e7_N13_ : ze N13_ 81 7 = ze N10_ 81 7 := hsN13_.e (by decide)
  have e14_N13_ : ze N13_ 81 14 = ze N10_ 81 14 := hsN13_.e (by decide)
  have e38_N13_ : ze N13_ 81 38 = ze N10_ 81 38 := hsN13_.e (by decide)
  have r39_N13_ := ze_r N13_ 81 39
  have e41_N13_ : ze N13_ 81 41 = ze N10_ 81 41 := hsN13_.e (by decide)
  have e42_N13_ : ze N13_ 81 42 = ze N10_ 81 42 := hsN13_.e (by decide)
  have e43_N13_ : ze N13_ 81 43 = ze N10_ 81 43 := hsN13_.e (by decide)
  have qzcw_N13_ : zcw N13_ = zcw N10_ := zcw_f hsN13_ (by decide)
  have qzmu_N13_ : zmu N13_ = zmu N10_ := zmu_f hsN13_ (by decide)
  have c14_ : zGD N13_ := zGD.fr hsN13_ c11_ (by decide) (by decide)
  have c15_ : zTv N13_ := zTv.fr hsN13_ c12_ (by decide) (by decide)
  refine zw_iconst (pc := 25) (v := Int32.ofInt 1) (by decide) d_M_formula_25 ?_
  refine zw_istore_n (pc := 26) (i := 1) (L2 := [some (.ref 81), some (.int (Int32.ofInt 1))]) rfl (by decide) rfl d_M_formula_26 ?_
  have hx_N13_ := zcw_0 N13_ (by omega)
  have lp_27 : ∀ (n : Nat) (u16_ : Int) (hu16_a : -2147483648 ≤ u16_) (hu16_b : u16_ < 2147483648) (hu16_z : u16_ = 0 ∨ u16_ = 1) (N17_ : zMem) (hs18_ : zFr [3, 4, 5, 6, 7, 8, 11, 38, 39, 41, 42, 43] [95, 96, 97, 100] N13_ N17_) (i19_ : 0 ≤ ze N17_ 81 3) (i20_ : ze N17_ 81 3 ≤ ze N17_ 81 2) (i21_ : zmu N17_ ≤ zmu Mz) (i22_ : zTv N17_) (i23_ : (1 ≤ ze N17_ 81 7 ∧ zmu N17_ = 0) ∨ (u16_ = 1 ∧ ze N17_ 81 7 = 0 ∧ ze N17_ 81 38 = zcw N17_ ∧ 0 ≤ ze N17_ 81 41 ∧ ze N17_ 81 41 - zcw N17_ ≤ ze N17_ 81 43 ∧ ze N17_ 81 42 = ze N17_ 81 41 - zcw N17_ ∧ ze N17_ 81 38 ≤ ze N17_ 81 43 ∧ ze N17_ 81 43 ≤ 30) ∨ (u16_ = 0 ∧ ze N17_ 81 7 = 0 ∧ ze N17_ 81 38 = zcw N17_ + 1 ∧ 0 ≤ ze N17_ 81 41 ∧ ze N17_ 81 41 - zcw N17_ ≤ ze N17_ 81 43 ∧ ze N17_ 81 42 = ze N17_ 81 41 - zcw N17_ ∧ ze N17_ 81 38 ≤ ze N17_ 81 43 ∧ ze N17_ 81 43 ≤ 30)), (zmu N17_).toNat < n → zW l m_M_formula (zn Mz + 0, zw Mz + 0) N17_ 27 [some (.ref 81), some (.int (Int32.ofInt u16_))] [] (zpV [3, 4, 5, 6, 7, 8, 11, 38, 39, 41, 42, 43] [95, 96, 97, 100] Mz (fun N => 0 ≤ ze N 81 3 ∧ ze N 81 3 ≤ ze N 81 2 ∧ zTv N ∧ (((1 ≤ ze N 81 7 ∧ zmu N = 0) ∨ (ze N 81 7 = 0 ∧ ze Mz 81 7 = 0 ∧ zmu N ≤ zmu Mz))))) := by
    clear hsN1_ hvN1_ hf_N1_ e2_N1_ e3_N1_ e5_N1_ e6_N1_ e7_N1_ e14_N1_ r38_N1_ e39_N1_ e41_N1_ e42_N1_ e43_N1_ qzcw_N1_ qzmu_N1_ c2_ c3_ hsN4_ hvN4_ hf_N4_ e2_N4_ e3_N4_ e5_N4_ e6_N4_ e7_N4_ e14_N4_ e38_N4_ e39_N4_ r41_N4_ e42_N4_ e43_N4_ qzmu_N4_ c5_ c6_ hsN7_ hvN7_ hf_N7_ e2_N7_ e3_N7_ e5_N7_ e6_N7_ e7_N7_ e14_N7_ e38_N7_ e39_N7_ e41_N7_ r42_N7_ e43_N7_ qzcw_N7_ qzmu_N7_ c8_ c9_ hsN10_ hvN10_ hf_N10_ e2_N10_ e3_N10_ e5_N10_ e6_N10_ e7_N10_ e14_N10_ e38_N10_ e39_N10_ e41_N10_ e42_N10_ r43_N10_ qzcw_N10_ qzmu_N10_ c11_ c12_ hsN13_ e2_N13_ e3_N13_ e5_N13_ e6_N13_ e7_N13_ e14_N13_ e38_N13_ e41_N13_ e42_N13_ e43_N13_ qzcw_N13_ qzmu_N13_
    intro n
    induction n with
    | zero =>
      intro u16_ hu16_a hu16_b hu16_z N17_ hs18_ i19_ i20_ i21_ i22_ i23_ h0
      exact absurd h0 (Nat.not_lt_zero _)
    | succ n ih_27 =>
      intro u16_ hu16_a hu16_b hu16_z N17_ hs18_ i19_ i20_ i21_ i22_ i23_ hlt_27
      have hf_N17_ : zFr [3, 4, 5, 6, 7, 8, 11, 38, 39, 41, 42, 43] [95, 96, 97, 100] Mz N17_ := hf_N13_.tr hs18_ (by decide) (by decide)
      have e2_N17_ : ze N17_ 81 2 = ze N13_ 81 2 := hs18_.e (by decide)
      have r3_N17_ := ze_r N17_ 81 3
      have r5_N17_ := ze_r N17_ 81 5
      have r6_N17_ := ze_r N17_ 81 6
      have r7_N17_ := ze_r N17_ 81 7
      have e14_N17_ : ze N17_ 81 14 = ze N13_ 81 14 := hs18_.e (by decide)
      have r38_N17_ := ze_r N17_ 81 38
      have r39_N17_ := ze_r N17_ 81 39
      have r41_N17_ := ze_r N17_ 81 41
      have r42_N17_ := ze_r N17_ 81 42
      have r43_N17_ := ze_r N17_ 81 43
      have c24_ : zGD N17_ := zGD.fr hs18_ c14_ (by decide) (by decide)
      have zz2_N17_ : ze N17_ 81 2 = ze Mz 81 2 := hf_N17_.e (by decide)
      have zz14_N17_ : ze N17_ 81 14 = ze Mz 81 14 := hf_N17_.e (by decide)
      rcases i23_ with ⟨hl27_0_i23_, hl27_1_i23_⟩ | ⟨rfl, hl27_0_i23_, hl27_1_i23_, hl27_2_i23_, hl27_3_i23_, hl27_4_i23_, hl27_5_i23_, hl27_6_i23_⟩ | ⟨rfl, hl27_0_i23_, hl27_1_i23_, hl27_2_i23_, hl27_3_i23_, hl27_4_i23_, hl27_5_i23_, hl27_6_i23_⟩
      · skip
        refine zw_aload_n (pc := 27) (n := 0) (x := 81) rfl d_M_formula_27 ?_
        refine zr_callV (hf_N17_.w hW) hf_N17_.x (pc := 28) [] [] l_M_183 (c_M_isGood l N17_ (hf_N17_.w hW) ) rfl rfl rfl (by decide) (Nat.le_of_ble_eq_true rfl) d_M_formula_28 ?_
        rintro _ N25_ ⟨v26_, rfl, ⟨hv26_a, hv26_b⟩, hsN25_, hp0_N25_⟩
        obtain rfl := hsN25_.eq.symm
        replace hp0_N25_ : ((v26_ = 1 ∧ ze N17_ 81 7 = 0) ∨ (v26_ = 0 ∧ ze N17_ 81 7 ≠ 0)) := hp0_N25_
        rcases hp0_N25_ with ⟨rfl, ha28_0_hp0_N25_⟩ | ⟨rfl, ha28_0_hp0_N25_⟩
        · skip
          exfalso; omega
        · skip
          show zW l m_M_formula (zn Mz + 0, zw Mz + 0) N17_ 31 [some (.ref 81), some (.int (Int32.ofInt u16_))] [.int (Int32.ofInt 0)] (zpV [3, 4, 5, 6, 7, 8, 11, 38, 39, 41, 42, 43] [95, 96, 97, 100] Mz (fun N => 0 ≤ ze N 81 3 ∧ ze N 81 3 ≤ ze N 81 2 ∧ zTv N ∧ (((1 ≤ ze N 81 7 ∧ zmu N = 0) ∨ (ze N 81 7 = 0 ∧ ze Mz 81 7 = 0 ∧ zmu N ≤ zmu Mz)))))
          refine zr_if_eq (pc := 31) (tgt := 171) ⟨(by decide), (by decide)⟩ (by decide) d_M_formula_31 (fun hc_31 => ?_) (fun hc_31 => ?_)
          · skip
            refine zw_aload_n (pc := 171) (n := 0) (x := 81) rfl d_M_formula_171 ?_
            refine zr_callV (hf_N17_.w hW) hf_N17_.x (pc := 172) [] [] l_M_183 (c_M_isGood l N17_ (hf_N17_.w hW) ) rfl rfl rfl (by decide) (Nat.le_of_ble_eq_true rfl) d_M_formula_172 ?_
            rintro _ N27_ ⟨v28_, rfl, ⟨hv28_a, hv28_b⟩, hsN27_, hp0_N27_⟩
            obtain rfl := hsN27_.eq.symm
            replace hp0_N27_ : ((v28_ = 1 ∧ ze N17_ 81 7 = 0) ∨ (v28_ = 0 ∧ ze N17_ 81 7 ≠ 0)) := hp0_N27_
            rcases hp0_N27_ with ⟨rfl, ha172_0_hp0_N27_⟩ | ⟨rfl, ha172_0_hp0_N27_⟩
            · skip
              exfalso; omega
            · skip
              show zW l m_M_formula (zn Mz + 0, zw Mz + 0) N17_ 175 [some (.ref 81), some (.int (Int32.ofInt u16_))] [.int (Int32.ofInt 0)] (zpV [3, 4, 5, 6, 7, 8, 11, 38, 39, 41, 42, 43] [95, 96, 97, 100] Mz (fun N => 0 ≤ ze N 81 3 ∧ ze N 81 3 ≤ ze N 81 2 ∧ zTv N ∧ (((1 ≤ ze N 81 7 ∧ zmu N = 0) ∨ (ze N 81 7 = 0 ∧ ze Mz 81 7 = 0 ∧ zmu N ≤ zmu Mz)))))
              refine zr_if_eq (pc := 175) (tgt := 190) ⟨(by decide), (by decide)⟩ (by decide) d_M_formula_175 (fun hc_175 => ?_) (fun hc_175 => ?_)
              · skip
                refine zw_aload_n (pc := 190) (n := 0) (x := 81) rfl d_M_formula_190 ?_
                refine zr_callV (hf_N17_.w hW) hf_N17_.x (pc := 191) [] [] l_M_183 (c_M_isGood l N17_ (hf_N17_.w hW) ) rfl rfl rfl (by decide) (Nat.le_of_ble_eq_true rfl) d_M_formula_191 ?_
                rintro _ N29_ ⟨v30_, rfl, ⟨hv30_a, hv30_b⟩, hsN29_, hp0_N29_⟩
                obtain rfl := hsN29_.eq.symm
                replace hp0_N29_ : ((v30_ = 1 ∧ ze N17_ 81 7 = 0) ∨ (v30_ = 0 ∧ ze N17_ 81 7 ≠ 0)) := hp0_N29_
                rcases hp0_N29_ with ⟨rfl, ha191_0_hp0_N29_⟩ | ⟨rfl, ha191_0_hp0_N29_⟩
                · skip
                  exfalso; omega
                · skip
                  show zW l m_M_formula (zn Mz + 0, zw Mz + 0) N17_ 194 [some (.ref 81), some (.int (Int32.ofInt u16_))] [.int (Int32.ofInt 0)] (zpV [3, 4, 5, 6, 7, 8, 11, 38, 39, 41, 42, 43] [95, 96, 97, 100] Mz (fun N => 0 ≤ ze N 81 3 ∧ ze N 81 3 ≤ ze N 81 2 ∧ zTv N ∧ (((1 ≤ ze N 81 7 ∧ zmu N = 0) ∨ (ze N 81 7 = 0 ∧ ze Mz 81 7 = 0 ∧ zmu N ≤ zmu Mz)))))
                  refine zr_if_eq (pc := 194) (tgt := 202) ⟨(by decide), (by decide)⟩ (by decide) d_M_formula_194 (fun hc_194 => ?_) (fun hc_194 => ?_)
                  · skip
                    exact zr_vret (pc := 202) rfl hf_N17_ ⟨(show 0 ≤ ze N17_ 81 3 by first | assumption | omega), (show ze N17_ 81 3 ≤ ze N17_ 81 2 by first | assumption | omega), i22_, (show ((1 ≤ ze N17_ 81 7 ∧ zmu N17_ = 0) ∨ (ze N17_ 81 7 = 0 ∧ ze Mz 81 7 = 0 ∧ zmu N17_ ≤ zmu Mz)) from Or.inl (⟨(show 1 ≤ ze N17_ 81 7 by first | assumption | omega), (show zmu N17_ = 0 by first | assumption | omega)⟩))⟩ d_M_formula_202
                  · skip
                    exact absurd hc_194 (by decide)
              · skip
                exact absurd hc_175 (by decide)
          · skip
            exact absurd hc_31 (by decide)
      · skip
        have hz_N17_ := zmu_p N17_ (by omega) (by omega)
        have hx_N17_ := zcw_b N17_ (by omega)
        refine zw_aload_n (pc := 27) (n := 0) (x := 81) rfl d_M_formula_27 ?_
        refine zr_callV (hf_N17_.w hW) hf_N17_.x (pc := 28) [] [] l_M_183 (c_M_isGood l N17_ (hf_N17_.w hW) ) rfl rfl rfl (by decide) (Nat.le_of_ble_eq_true rfl) d_M_formula_28 ?_
        rintro _ N31_ ⟨v32_, rfl, ⟨hv32_a, hv32_b⟩, hsN31_, hp0_N31_⟩
        obtain rfl := hsN31_.eq.symm
        replace hp0_N31_ : ((v32_ = 1 ∧ ze N17_ 81 7 = 0) ∨ (v32_ = 0 ∧ ze N17_ 81 7 ≠ 0)) := hp0_N31_
        rcases hp0_N31_ with ⟨rfl, ha28_0_hp0_N31_⟩ | ⟨rfl, ha28_0_hp0_N31_⟩
        · skip
          show zW l m_M_formula (zn Mz + 0, zw Mz + 0) N17_ 31 [some (.ref 81), some (.int (Int32.ofInt 1))] [.int (Int32.ofInt 1)] (zpV [3, 4, 5, 6, 7, 8, 11, 38, 39, 41, 42, 43] [95, 96, 97, 100] Mz (fun N => 0 ≤ ze N 81 3 ∧ ze N 81 3 ≤ ze N 81 2 ∧ zTv N ∧ (((1 ≤ ze N 81 7 ∧ zmu N = 0) ∨ (ze N 81 7 = 0 ∧ ze Mz 81 7 = 0 ∧ zmu N ≤ zmu Mz)))))
          refine zr_if_eq (pc := 31) (tgt := 171) ⟨(by decide), (by decide)⟩ (by decide) d_M_formula_31 (fun hc_31 => ?_) (fun hc_31 => ?_)
          · skip
            exact absurd hc_31 (by decide)
          · skip
            refine zw_iload_n (pc := 34) (n := 1) (x := Int32.ofInt 1) rfl d_M_formula_34 ?_
            refine zr_if_eq (pc := 35) (tgt := 171) ⟨(by decide), (by decide)⟩ (by decide) d_M_formula_35 (fun hc_35 => ?_) (fun hc_35 => ?_)
            · skip
              exact absurd hc_35 (by decide)
            · skip
              have lp_38 : ∀ (n : Nat) (u33_ : Int) (hu33_a : -2147483648 ≤ u33_) (hu33_b : u33_ < 2147483648) (hu33_z : u33_ = 0 ∨ u33_ = 1) (N34_ : zMem) (hs35_ : zFr [3, 4, 5, 6, 7, 8, 11, 38, 39, 41, 42, 43] [95, 100] N17_ N34_) (i36_ : 0 ≤ ze N34_ 81 3) (i37_ : ze N34_ 81 3 ≤ ze N34_ 81 2) (i38_ : zmu N34_ ≤ zmu N17_) (i39_ : zTv N34_) (i40_ : (1 ≤ ze N34_ 81 7 ∧ zmu N34_ = 0) ∨ (ze N34_ 81 7 = 0 ∧ ze N34_ 81 38 = zcw N34_ ∧ 0 ≤ ze N34_ 81 41 ∧ ze N34_ 81 41 - zcw N34_ ≤ ze N34_ 81 43 ∧ ze N34_ 81 42 = ze N34_ 81 41 - zcw N34_ ∧ ze N34_ 81 38 ≤ ze N34_ 81 43 ∧ ze N34_ 81 43 ≤ 30)), (zmu N34_).toNat < n → zW l m_M_formula (zn Mz + 0, zw Mz + 0) N34_ 38 [some (.ref 81), some (.int (Int32.ofInt u33_))] [] (zpV [3, 4, 5, 6, 7, 8, 11, 38, 39, 41, 42, 43] [95, 96, 97, 100] Mz (fun N => 0 ≤ ze N 81 3 ∧ ze N 81 3 ≤ ze N 81 2 ∧ zTv N ∧ (((1 ≤ ze N 81 7 ∧ zmu N = 0) ∨ (ze N 81 7 = 0 ∧ ze Mz 81 7 = 0 ∧ zmu N ≤ zmu Mz))))) := by
                clear hu16_a hu16_b hu16_z hv32_a hv32_b hc_31 hc_35
                intro n
                induction n with
                | zero =>
                  intro u33_ hu33_a hu33_b hu33_z N34_ hs35_ i36_ i37_ i38_ i39_ i40_ h0
                  exact absurd h0 (Nat.not_lt_zero _)
                | succ n ih_38 =>
                  intro u33_ hu33_a hu33_b hu33_z N34_ hs35_ i36_ i37_ i38_ i39_ i40_ hlt_38
                  have hf_N34_ : zFr [3, 4, 5, 6, 7, 8, 11, 38, 39, 41, 42, 43] [95, 96, 97, 100] Mz N34_ := hf_N17_.tr hs35_ (by decide) (by decide)
                  have hb0_N34_ : zFr [3, 4, 5, 6, 7, 8, 11, 38, 39, 41, 42, 43] [95, 96, 97, 100] N13_ N34_ := hs18_.tr hs35_ (by decide) (by decide)
                  have e2_N34_ : ze N34_ 81 2 = ze N17_ 81 2 := hs35_.e (by decide)
                  have r3_N34_ := ze_r N34_ 81 3
                  have r5_N34_ := ze_r N34_ 81 5
                  have r6_N34_ := ze_r N34_ 81 6
                  have r7_N34_ := ze_r N34_ 81 7
                  have e14_N34_ : ze N34_ 81 14 = ze N17_ 81 14 := hs35_.e (by decide)
                  have r38_N34_ := ze_r N34_ 81 38
                  have r39_N34_ := ze_r N34_ 81 39
                  have r41_N34_ := ze_r N34_ 81 41
                  have r42_N34_ := ze_r N34_ 81 42
                  have r43_N34_ := ze_r N34_ 81 43
                  have c41_ : zGD N34_ := zGD.fr hs35_ c24_ (by decide) (by decide)
                  have zz2_N34_ : ze N34_ 81 2 = ze Mz 81 2 := hf_N34_.e (by decide)
                  have zz14_N34_ : ze N34_ 81 14 = ze Mz 81 14 := hf_N34_.e (by decide)
                  rcases i40_ with ⟨hl38_0_i40_, hl38_1_i40_⟩ | ⟨hl38_0_i40_, hl38_1_i40_, hl38_2_i40_, hl38_3_i40_, hl38_4_i40_, hl38_5_i40_, hl38_6_i40_⟩
                  · skip
                    refine zw_aload_n (pc := 38) (n := 0) (x := 81) rfl d_M_formula_38 ?_
                    refine zr_callV (hf_N34_.w hW) hf_N34_.x (pc := 39) [] [] l_M_183 (c_M_isGood l N34_ (hf_N34_.w hW) ) rfl rfl rfl (by decide) (Nat.le_of_ble_eq_true rfl) d_M_formula_39 ?_
                    rintro _ N42_ ⟨v43_, rfl, ⟨hv43_a, hv43_b⟩, hsN42_, hp0_N42_⟩
                    obtain rfl := hsN42_.eq.symm
                    replace hp0_N42_ : ((v43_ = 1 ∧ ze N34_ 81 7 = 0) ∨ (v43_ = 0 ∧ ze N34_ 81 7 ≠ 0)) := hp0_N42_
                    rcases hp0_N42_ with ⟨rfl, ha39_0_hp0_N42_⟩ | ⟨rfl, ha39_0_hp0_N42_⟩
                    · skip
                      exfalso; omega
                    · skip
                      show zW l m_M_formula (zn Mz + 0, zw Mz + 0) N34_ 42 [some (.ref 81), some (.int (Int32.ofInt u33_))] [.int (Int32.ofInt 0)] (zpV [3, 4, 5, 6, 7, 8, 11, 38, 39, 41, 42, 43] [95, 96, 97, 100] Mz (fun N => 0 ≤ ze N 81 3 ∧ ze N 81 3 ≤ ze N 81 2 ∧ zTv N ∧ (((1 ≤ ze N 81 7 ∧ zmu N = 0) ∨ (ze N 81 7 = 0 ∧ ze Mz 81 7 = 0 ∧ zmu N ≤ zmu Mz)))))
                      refine zr_if_eq (pc := 42) (tgt := 57) ⟨(by decide), (by decide)⟩ (by decide) d_M_formula_42 (fun hc_42 => ?_) (fun hc_42 => ?_)
                      · skip
                        refine zw_aload_n (pc := 57) (n := 0) (x := 81) rfl d_M_formula_57 ?_
                        refine zr_callV (hf_N34_.w hW) hf_N34_.x (pc := 58) [] [] l_M_183 (c_M_isGood l N34_ (hf_N34_.w hW) ) rfl rfl rfl (by decide) (Nat.le_of_ble_eq_true rfl) d_M_formula_58 ?_
                        rintro _ N44_ ⟨v45_, rfl, ⟨hv45_a, hv45_b⟩, hsN44_, hp0_N44_⟩
                        obtain rfl := hsN44_.eq.symm
                        replace hp0_N44_ : ((v45_ = 1 ∧ ze N34_ 81 7 = 0) ∨ (v45_ = 0 ∧ ze N34_ 81 7 ≠ 0)) := hp0_N44_
                        rcases hp0_N44_ with ⟨rfl, ha58_0_hp0_N44_⟩ | ⟨rfl, ha58_0_hp0_N44_⟩
                        · skip
                          exfalso; omega
                        · skip
                          show zW l m_M_formula (zn Mz + 0, zw Mz + 0) N34_ 61 [some (.ref 81), some (.int (Int32.ofInt u33_))] [.int (Int32.ofInt 0)] (zpV [3, 4, 5, 6, 7, 8, 11, 38, 39, 41, 42, 43] [95, 96, 97, 100] Mz (fun N => 0 ≤ ze N 81 3 ∧ ze N 81 3 ≤ ze N 81 2 ∧ zTv N ∧ (((1 ≤ ze N 81 7 ∧ zmu N = 0) ∨ (ze N 81 7 = 0 ∧ ze Mz 81 7 = 0 ∧ zmu N ≤ zmu Mz)))))
                          refine zr_if_eq (pc := 61) (tgt := 68) ⟨(by decide), (by decide)⟩ (by decide) d_M_formula_61 (fun hc_61 => ?_) (fun hc_61 => ?_)
                          · skip
                            refine zw_aload_n (pc := 68) (n := 0) (x := 81) rfl d_M_formula_68 ?_
                            refine zr_callV (hf_N34_.w hW) hf_N34_.x (pc := 69) [] [] l_M_183 (c_M_isGood l N34_ (hf_N34_.w hW) ) rfl rfl rfl (by decide) (Nat.le_of_ble_eq_true rfl) d_M_formula_69 ?_
                            rintro _ N46_ ⟨v47_, rfl, ⟨hv47_a, hv47_b⟩, hsN46_, hp0_N46_⟩
                            obtain rfl := hsN46_.eq.symm
                            replace hp0_N46_ : ((v47_ = 1 ∧ ze N34_ 81 7 = 0) ∨ (v47_ = 0 ∧ ze N34_ 81 7 ≠ 0)) := hp0_N46_
                            rcases hp0_N46_ with ⟨rfl, ha69_0_hp0_N46_⟩ | ⟨rfl, ha69_0_hp0_N46_⟩
                            · skip
                              exfalso; omega
                            · skip
                              show zW l m_M_formula (zn Mz + 0, zw Mz + 0) N34_ 72 [some (.ref 81), some (.int (Int32.ofInt u33_))] [.int (Int32.ofInt 0)] (zpV [3, 4, 5, 6, 7, 8, 11, 38, 39, 41, 42, 43] [95, 96, 97, 100] Mz (fun N => 0 ≤ ze N 81 3 ∧ ze N 81 3 ≤ ze N 81 2 ∧ zTv N ∧ (((1 ≤ ze N 81 7 ∧ zmu N = 0) ∨ (ze N 81 7 = 0 ∧ ze Mz 81 7 = 0 ∧ zmu N ≤ zmu Mz)))))
                              refine zr_if_eq (pc := 72) (tgt := 86) ⟨(by decide), (by decide)⟩ (by decide) d_M_formula_72 (fun hc_72 => ?_) (fun hc_72 => ?_)
                              · skip
                                refine zw_iconst (pc := 86) (v := Int32.ofInt 0) (by decide) d_M_formula_86 ?_
                                refine zw_istore_n (pc := 87) (i := 1) (L2 := [some (.ref 81), some (.int (Int32.ofInt 0))]) rfl (by decide) rfl d_M_formula_87 ?_
                                have lp_88 : ∀ (n : Nat) (u48_ : Int) (hu48_a : -2147483648 ≤ u48_) (hu48_b : u48_ < 2147483648) (hu48_z : u48_ = 0 ∨ u48_ = 1) (N49_ : zMem) (hs50_ : zFr [3, 4, 5, 6, 7, 8, 11, 38, 39, 41, 42] [95, 96, 97, 100] N34_ N49_) (i51_ : 0 ≤ ze N49_ 81 3) (i52_ : ze N49_ 81 3 ≤ ze N49_ 81 2) (i53_ : zmu N49_ < zmu N17_) (i54_ : zTv N49_) (i55_ : (1 ≤ ze N49_ 81 7 ∧ zmu N49_ = 0) ∨ (u48_ = 1 ∧ ze N49_ 81 7 = 0 ∧ ze N49_ 81 38 = zcw N49_ ∧ 0 ≤ ze N49_ 81 41 ∧ ze N49_ 81 41 - zcw N49_ ≤ ze N49_ 81 43 ∧ ze N49_ 81 42 = ze N49_ 81 41 - zcw N49_ ∧ ze N49_ 81 38 ≤ ze N49_ 81 43 ∧ ze N49_ 81 43 ≤ 30) ∨ (u48_ = 0 ∧ ze N49_ 81 7 = 0 ∧ ze N49_ 81 38 = zcw N49_ + 1 ∧ 0 ≤ ze N49_ 81 41 ∧ ze N49_ 81 41 - zcw N49_ ≤ ze N49_ 81 43 ∧ ze N49_ 81 42 = ze N49_ 81 41 - zcw N49_ ∧ ze N49_ 81 38 ≤ ze N49_ 81 43 ∧ ze N49_ 81 43 ≤ 30)), (zmu N49_).toNat < n → zW l m_M_formula (zn Mz + 0, zw Mz + 0) N49_ 88 [some (.ref 81), some (.int (Int32.ofInt u48_))] [] (zpV [3, 4, 5, 6, 7, 8, 11, 38, 39, 41, 42, 43] [95, 96, 97, 100] Mz (fun N => 0 ≤ ze N 81 3 ∧ ze N 81 3 ≤ ze N 81 2 ∧ zTv N ∧ (((1 ≤ ze N 81 7 ∧ zmu N = 0) ∨ (ze N 81 7 = 0 ∧ ze Mz 81 7 = 0 ∧ zmu N ≤ zmu Mz))))) := by
                                  clear hu33_a hu33_b hu33_z hv43_a hv43_b hc_42 hv45_a hv45_b hc_61 hv47_a hv47_b hc_72
                                  intro n
                                  induction n with
                                  | zero =>
                                    intro u48_ hu48_a hu48_b hu48_z N49_ hs50_ i51_ i52_ i53_ i54_ i55_ h0
                                    exact absurd h0 (Nat.not_lt_zero _)
                                  | succ n ih_88 =>
                                    intro u48_ hu48_a hu48_b hu48_z N49_ hs50_ i51_ i52_ i53_ i54_ i55_ hlt_88
                                    have hf_N49_ : zFr [3, 4, 5, 6, 7, 8, 11, 38, 39, 41, 42, 43] [95, 96, 97, 100] Mz N49_ := hf_N34_.tr hs50_ (by decide) (by decide)
                                    have hb0_N49_ : zFr [3, 4, 5, 6, 7, 8, 11, 38, 39, 41, 42, 43] [95, 96, 97, 100] N13_ N49_ := hb0_N34_.tr hs50_ (by decide) (by decide)
                                    have e2_N49_ : ze N49_ 81 2 = ze N34_ 81 2 := hs50_.e (by decide)
                                    have r3_N49_ := ze_r N49_ 81 3
                                    have r5_N49_ := ze_r N49_ 81 5
                                    have r6_N49_ := ze_r N49_ 81 6
                                    have r7_N49_ := ze_r N49_ 81 7
                                    have e14_N49_ : ze N49_ 81 14 = ze N34_ 81 14 := hs50_.e (by decide)
                                    have r38_N49_ := ze_r N49_ 81 38
                                    have r39_N49_ := ze_r N49_ 81 39
                                    have r41_N49_ := ze_r N49_ 81 41
                                    have r42_N49_ := ze_r N49_ 81 42
                                    have e43_N49_ : ze N49_ 81 43 = ze N34_ 81 43 := hs50_.e (by decide)
                                    have c56_ : zGD N49_ := zGD.fr hs50_ c41_ (by decide) (by decide)
                                    have zz2_N49_ : ze N49_ 81 2 = ze Mz 81 2 := hf_N49_.e (by decide)
                                    have zz14_N49_ : ze N49_ 81 14 = ze Mz 81 14 := hf_N49_.e (by decide)
                                    rcases i55_ with ⟨hl88_0_i55_, hl88_1_i55_⟩ | ⟨rfl, hl88_0_i55_, hl88_1_i55_, hl88_2_i55_, hl88_3_i55_, hl88_4_i55_, hl88_5_i55_, hl88_6_i55_⟩ | ⟨rfl, hl88_0_i55_, hl88_1_i55_, hl88_2_i55_, hl88_3_i55_, hl88_4_i55_, hl88_5_i55_, hl88_6_i55_⟩
                                    · skip
                                      refine zw_aload_n (pc := 88) (n := 0) (x := 81) rfl d_M_formula_88 ?_
                                      refine zr_callV (hf_N49_.w hW) hf_N49_.x (pc := 89) [] [] l_M_183 (c_M_isGood l N49_ (hf_N49_.w hW) ) rfl rfl rfl (by decide) (Nat.le_of_ble_eq_true rfl) d_M_formula_89 ?_
                                      rintro _ N57_ ⟨v58_, rfl, ⟨hv58_a, hv58_b⟩, hsN57_, hp0_N57_⟩
                                      obtain rfl := hsN57_.eq.symm
                                      replace hp0_N57_ : ((v58_ = 1 ∧ ze N49_ 81 7 = 0) ∨ (v58_ = 0 ∧ ze N49_ 81 7 ≠ 0)) := hp0_N57_
                                      rcases hp0_N57_ with ⟨rfl, ha89_0_hp0_N57_⟩ | ⟨rfl, ha89_0_hp0_N57_⟩
                                      · skip
                                        exfalso; omega
                                      · skip
                                        show zW l m_M_formula (zn Mz + 0, zw Mz + 0) N49_ 92 [some (.ref 81), some (.int (Int32.ofInt u48_))] [.int (Int32.ofInt 0)] (zpV [3, 4, 5, 6, 7, 8, 11, 38, 39, 41, 42, 43] [95, 96, 97, 100] Mz (fun N => 0 ≤ ze N 81 3 ∧ ze N 81 3 ≤ ze N 81 2 ∧ zTv N ∧ (((1 ≤ ze N 81 7 ∧ zmu N = 0) ∨ (ze N 81 7 = 0 ∧ ze Mz 81 7 = 0 ∧ zmu N ≤ zmu Mz)))))
                                        refine zr_if_eq (pc := 92) (tgt := 27) ⟨(by decide), (by decide)⟩ (by decide) d_M_formula_92 (fun hc_92 => ?_) (fun hc_92 => ?_)
                                        · skip
                                          exact ih_27 u48_ hu48_a hu48_b (by omega) N49_ hb0_N49_ (show 0 ≤ ze N49_ 81 3 by first | assumption | omega) (show ze N49_ 81 3 ≤ ze N49_ 81 2 by first | assumption | omega) (show zmu N49_ ≤ zmu Mz by first | assumption | omega) i54_ (show (1 ≤ ze N49_ 81 7 ∧ zmu N49_ = 0) ∨ (u48_ = 1 ∧ ze N49_ 81 7 = 0 ∧ ze N49_ 81 38 = zcw N49_ ∧ 0 ≤ ze N49_ 81 41 ∧ ze N49_ 81 41 - zcw N49_ ≤ ze N49_ 81 43 ∧ ze N49_ 81 42 = ze N49_ 81 41 - zcw N49_ ∧ ze N49_ 81 38 ≤ ze N49_ 81 43 ∧ ze N49_ 81 43 ≤ 30) ∨ (u48_ = 0 ∧ ze N49_ 81 7 = 0 ∧ ze N49_ 81 38 = zcw N49_ + 1 ∧ 0 ≤ ze N49_ 81 41 ∧ ze N49_ 81 41 - zcw N49_ ≤ ze N49_ 81 43 ∧ ze N49_ 81 42 = ze N49_ 81 41 - zcw N49_ ∧ ze N49_ 81 38 ≤ ze N49_ 81 43 ∧ ze N49_ 81 43 ≤ 30) from Or.inl (⟨(show 1 ≤ ze N49_ 81 7 by first | assumption | omega), (show zmu N49_ = 0 by first | assumption | omega)⟩)) (by omega)
                                        · skip
                                          exact absurd hc_92 (by decide)
                                    · skip
                                      have hz_N49_ := zmu_p N49_ (by omega) (by omega)
                                      have hx_N49_ := zcw_b N49_ (by omega)
                                      refine zw_aload_n (pc := 88) (n := 0) (x := 81) rfl d_M_formula_88 ?_
                                      refine zr_callV (hf_N49_.w hW) hf_N49_.x (pc := 89) [] [] l_M_183 (c_M_isGood l N49_ (hf_N49_.w hW) ) rfl rfl rfl (by decide) (Nat.le_of_ble_eq_true rfl) d_M_formula_89 ?_
                                      rintro _ N59_ ⟨v60_, rfl, ⟨hv60_a, hv60_b⟩, hsN59_, hp0_N59_⟩
                                      obtain rfl := hsN59_.eq.symm
                                      replace hp0_N59_ : ((v60_ = 1 ∧ ze N49_ 81 7 = 0) ∨ (v60_ = 0 ∧ ze N49_ 81 7 ≠ 0)) := hp0_N59_
                                      rcases hp0_N59_ with ⟨rfl, ha89_0_hp0_N59_⟩ | ⟨rfl, ha89_0_hp0_N59_⟩
                                      · skip
                                        show zW l m_M_formula (zn Mz + 0, zw Mz + 0) N49_ 92 [some (.ref 81), some (.int (Int32.ofInt 1))] [.int (Int32.ofInt 1)] (zpV [3, 4, 5, 6, 7, 8, 11, 38, 39, 41, 42, 43] [95, 96, 97, 100] Mz (fun N => 0 ≤ ze N 81 3 ∧ ze N 81 3 ≤ ze N 81 2 ∧ zTv N ∧ (((1 ≤ ze N 81 7 ∧ zmu N = 0) ∨ (ze N 81 7 = 0 ∧ ze Mz 81 7 = 0 ∧ zmu N ≤ zmu Mz)))))
                                        refine zr_if_eq (pc := 92) (tgt := 27) ⟨(by decide), (by decide)⟩ (by decide) d_M_formula_92 (fun hc_92 => ?_) (fun hc_92 => ?_)
                                        · skip
                                          exact absurd hc_92 (by decide)
                                        · skip
                                          refine zw_iload_n (pc := 95) (n := 1) (x := Int32.ofInt 1) rfl d_M_formula_95 ?_
                                          refine zr_if_ne (pc := 96) (tgt := 27) ⟨(by decide), (by decide)⟩ (by decide) d_M_formula_96 (fun hc_96 => ?_) (fun hc_96 => ?_)
                                          · skip
                                            exact ih_27 1 (by decide) (by decide) (by omega) N49_ hb0_N49_ (show 0 ≤ ze N49_ 81 3 by first | assumption | omega) (show ze N49_ 81 3 ≤ ze N49_ 81 2 by first | assumption | omega) (show zmu N49_ ≤ zmu Mz by first | assumption | omega) i54_ (show (1 ≤ ze N49_ 81 7 ∧ zmu N49_ = 0) ∨ (1 = 1 ∧ ze N49_ 81 7 = 0 ∧ ze N49_ 81 38 = zcw N49_ ∧ 0 ≤ ze N49_ 81 41 ∧ ze N49_ 81 41 - zcw N49_ ≤ ze N49_ 81 43 ∧ ze N49_ 81 42 = ze N49_ 81 41 - zcw N49_ ∧ ze N49_ 81 38 ≤ ze N49_ 81 43 ∧ ze N49_ 81 43 ≤ 30) ∨ (1 = 0 ∧ ze N49_ 81 7 = 0 ∧ ze N49_ 81 38 = zcw N49_ + 1 ∧ 0 ≤ ze N49_ 81 41 ∧ ze N49_ 81 41 - zcw N49_ ≤ ze N49_ 81 43 ∧ ze N49_ 81 42 = ze N49_ 81 41 - zcw N49_ ∧ ze N49_ 81 38 ≤ ze N49_ 81 43 ∧ ze N49_ 81 43 ≤ 30) from Or.inr (Or.inl (⟨(show 1 = 1 by first | assumption | omega), (show ze N49_ 81 7 = 0 by first | assumption | omega), (show ze N49_ 81 38 = zcw N49_ by first | assumption | omega), (show 0 ≤ ze N49_ 81 41 by first | assumption | omega), (show ze N49_ 81 41 - zcw N49_ ≤ ze N49_ 81 43 by first | assumption | omega), (show ze N49_ 81 42 = ze N49_ 81 41 - zcw N49_ by first | assumption | omega), (show ze N49_ 81 38 ≤ ze N49_ 81 43 by first | assumption | omega), (show ze N49_ 81 43 ≤ 30 by first | assumption | omega)⟩))) (by omega)
                                          · skip
                                            exact absurd hc_96 (by decide)
                                      · skip
                                        exfalso; omega
                                    · skip
                                      have hz_N49_ := zmu_p N49_ (by omega) (by omega)
                                      have hx_N49_ := zcw_b N49_ (by omega)
                                      refine zw_aload_n (pc := 88) (n := 0) (x := 81) rfl d_M_formula_88 ?_
                                      refine zr_callV (hf_N49_.w hW) hf_N49_.x (pc := 89) [] [] l_M_183 (c_M_isGood l N49_ (hf_N49_.w hW) ) rfl rfl rfl (by decide) (Nat.le_of_ble_eq_true rfl) d_M_formula_89 ?_
                                      rintro _ N61_ ⟨v62_, rfl, ⟨hv62_a, hv62_b⟩, hsN61_, hp0_N61_⟩
                                      obtain rfl := hsN61_.eq.symm
                                      replace hp0_N61_ : ((v62_ = 1 ∧ ze N49_ 81 7 = 0) ∨ (v62_ = 0 ∧ ze N49_ 81 7 ≠ 0)) := hp0_N61_
                                      rcases hp0_N61_ with ⟨rfl, ha89_0_hp0_N61_⟩ | ⟨rfl, ha89_0_hp0_N61_⟩
                                      · skip
                                        show zW l m_M_formula (zn Mz + 0, zw Mz + 0) N49_ 92 [some (.ref 81), some (.int (Int32.ofInt 0))] [.int (Int32.ofInt 1)] (zpV [3, 4, 5, 6, 7, 8, 11, 38, 39, 41, 42, 43] [95, 96, 97, 100] Mz (fun N => 0 ≤ ze N 81 3 ∧ ze N 81 3 ≤ ze N 81 2 ∧ zTv N ∧ (((1 ≤ ze N 81 7 ∧ zmu N = 0) ∨ (ze N 81 7 = 0 ∧ ze Mz 81 7 = 0 ∧ zmu N ≤ zmu Mz)))))
                                        refine zr_if_eq (pc := 92) (tgt := 27) ⟨(by decide), (by decide)⟩ (by decide) d_M_formula_92 (fun hc_92 => ?_) (fun hc_92 => ?_)
                                        · skip
                                          exact absurd hc_92 (by decide)
                                        · skip
                                          refine zw_iload_n (pc := 95) (n := 1) (x := Int32.ofInt 0) rfl d_M_formula_95 ?_
                                          refine zr_if_ne (pc := 96) (tgt := 27) ⟨(by decide), (by decide)⟩ (by decide) d_M_formula_96 (fun hc_96 => ?_) (fun hc_96 => ?_)
                                          · skip
                                            exact absurd hc_96 (by decide)
                                          · skip
                                            refine zw_aload_n (pc := 99) (n := 0) (x := 81) rfl d_M_formula_99 ?_
                                            refine zw_bipush (pc := 100) (v := Int32.ofInt 41) (by decide) d_M_formula_100 ?_
                                            refine zr_callV (hf_N49_.w hW) hf_N49_.x (pc := 102) [.int (Int32.ofInt 41)] [] l_M_187 (c_M_isSignHere l N49_ (hf_N49_.w hW) 41 (by decide) (by decide)) rfl rfl rfl (by decide) (Nat.le_of_ble_eq_true rfl) d_M_formula_102 ?_
                                            rintro _ N63_ ⟨v64_, rfl, ⟨hv64_a, hv64_b⟩, hsN63_, hp0_N63_⟩
                                            obtain rfl := hsN63_.eq.symm
                                            replace hp0_N63_ : ((v64_ = 1 ∧ ze N49_ 81 7 = 0 ∧ ze N49_ 81 5 = 3 ∧ ze N49_ 81 6 = 41) ∨ (v64_ = 0)) := hp0_N63_
                                            rcases hp0_N63_ with ⟨rfl, ha102_0_hp0_N63_, ha102_1_hp0_N63_, ha102_2_hp0_N63_⟩ | rfl
                                            · skip
                                              show zW l m_M_formula (zn Mz + 0, zw Mz + 0) N49_ 105 [some (.ref 81), some (.int (Int32.ofInt 0))] [.int (Int32.ofInt 1)] (zpV [3, 4, 5, 6, 7, 8, 11, 38, 39, 41, 42, 43] [95, 96, 97, 100] Mz (fun N => 0 ≤ ze N 81 3 ∧ ze N 81 3 ≤ ze N 81 2 ∧ zTv N ∧ (((1 ≤ ze N 81 7 ∧ zmu N = 0) ∨ (ze N 81 7 = 0 ∧ ze Mz 81 7 = 0 ∧ zmu N ≤ zmu Mz)))))
                                              refine zr_if_eq (pc := 105) (tgt := 27) ⟨(by decide), (by decide)⟩ (by decide) d_M_formula_105 (fun hc_105 => ?_) (fun hc_105 => ?_)
                                              · skip
                                                exact absurd hc_105 (by decide)
                                              · skip
                                                refine zw_aload_n (pc := 108) (n := 0) (x := 81) rfl d_M_formula_108 ?_
                                                refine zr_callV (hf_N49_.w hW) hf_N49_.x (pc := 109) [] [] l_M_352 (c_M_isOpen l N49_ (hf_N49_.w hW) (show 0 ≤ ze N49_ 81 41 by first | assumption | omega) (show ze N49_ 81 41 ≤ 80 by first | assumption | omega)) rfl rfl rfl (by decide) (Nat.le_of_ble_eq_true rfl) d_M_formula_109 ?_
                                                rintro _ N65_ ⟨v66_, rfl, ⟨hv66_a, hv66_b⟩, hsN65_, hp0_N65_⟩
                                                obtain rfl := hsN65_.eq.symm
                                                replace hp0_N65_ : ((v66_ = 1 ∧ zcw N49_ ≤ ze N49_ 81 41 - 1) ∨ (v66_ = 0)) := hp0_N65_
                                                rcases hp0_N65_ with ⟨rfl, ha109_0_hp0_N65_⟩ | rfl
                                                · skip
                                                  show zW l m_M_formula (zn Mz + 0, zw Mz + 0) N49_ 112 [some (.ref 81), some (.int (Int32.ofInt 0))] [.int (Int32.ofInt 1)] (zpV [3, 4, 5, 6, 7, 8, 11, 38, 39, 41, 42, 43] [95, 96, 97, 100] Mz (fun N => 0 ≤ ze N 81 3 ∧ ze N 81 3 ≤ ze N 81 2 ∧ zTv N ∧ (((1 ≤ ze N 81 7 ∧ zmu N = 0) ∨ (ze N 81 7 = 0 ∧ ze Mz 81 7 = 0 ∧ zmu N ≤ zmu Mz)))))
                                                  refine zr_if_eq (pc := 112) (tgt := 27) ⟨(by decide), (by decide)⟩ (by decide) d_M_formula_112 (fun hc_112 => ?_) (fun hc_112 => ?_)
                                                  · skip
                                                    exact absurd hc_112 (by decide)
                                                  · skip
                                                    refine zw_aload_n (pc := 115) (n := 0) (x := 81) rfl d_M_formula_115 ?_
                                                    refine zw_iconst (pc := 116) (v := Int32.ofInt 2) (by decide) d_M_formula_116 ?_
                                                    refine zr_callV (hf_N49_.w hW) hf_N49_.x (pc := 117) [.int (Int32.ofInt 2)] [] l_M_337 (c_M_works l N49_ (hf_N49_.w hW) 2 (by decide) (by decide) c56_ (show 2 ≤ 2 by first | assumption | omega) (show 0 ≤ ze N49_ 81 41 by first | assumption | omega) (show ze N49_ 81 41 ≤ 80 by first | assumption | omega) (show ze N49_ 81 38 = zcw N49_ + 1 by first | assumption | omega) (show ze N49_ 81 38 ≤ 40 by first | assumption | omega)) rfl rfl rfl (by decide) (Nat.le_of_ble_eq_true rfl) d_M_formula_117 ?_
                                                    rintro _ N67_ ⟨rfl, hsN67_, ⟨hp0_N67_, hp1_N67_, hp2_N67_, hp3_N67_, hp4_N67_, hp5_N67_⟩⟩
                                                    have hf_N67_ : zFr [3, 4, 5, 6, 7, 8, 11, 38, 39, 41, 42, 43] [95, 96, 97, 100] Mz N67_ := hf_N49_.tr hsN67_ (by decide) (by decide)
                                                    have hb0_N67_ : zFr [3, 4, 5, 6, 7, 8, 11, 38, 39, 41, 42, 43] [95, 96, 97, 100] N13_ N67_ := hb0_N49_.tr hsN67_ (by decide) (by decide)
                                                    have hb1_N67_ : zFr [3, 4, 5, 6, 7, 8, 11, 38, 39, 41, 42] [95, 96, 97, 100] N34_ N67_ := hs50_.tr hsN67_ (by decide) (by decide)
                                                    have e2_N67_ : ze N67_ 81 2 = ze N49_ 81 2 := hsN67_.e (by decide)
                                                    have e3_N67_ : ze N67_ 81 3 = ze N49_ 81 3 := hsN67_.e (by decide)
                                                    have e5_N67_ : ze N67_ 81 5 = ze N49_ 81 5 := hsN67_.e (by decide)
                                                    have e6_N67_ : ze N67_ 81 6 = ze N49_ 81 6 := hsN67_.e (by decide)
                                                    have e7_N67_ : ze N67_ 81 7 = ze N49_ 81 7 := hsN67_.e (by decide)
                                                    have e14_N67_ : ze N67_ 81 14 = ze N49_ 81 14 := hsN67_.e (by decide)
                                                    have r38_N67_ := ze_r N67_ 81 38
                                                    have r39_N67_ := ze_r N67_ 81 39
                                                    have r41_N67_ := ze_r N67_ 81 41
                                                    have e42_N67_ : ze N67_ 81 42 = ze N49_ 81 42 := hsN67_.e (by decide)
                                                    have e43_N67_ : ze N67_ 81 43 = ze N49_ 81 43 := hsN67_.e (by decide)
                                                    have qzmu_N67_ : zmu N67_ = zmu N49_ := zmu_f hsN67_ (by decide)
                                                    have c69_ : zGD N67_ := zGD.fr hsN67_ c56_ (by decide) (by decide)
                                                    have c70_ : zTv N67_ := zTv.fr hsN67_ i54_ (by decide) (by decide)
                                                    show zW l m_M_formula (zn Mz + 0, zw Mz + 0) N67_ 120 [some (.ref 81), some (.int (Int32.ofInt 0))] [] (zpV [3, 4, 5, 6, 7, 8, 11, 38, 39, 41, 42, 43] [95, 96, 97, 100] Mz (fun N => 0 ≤ ze N 81 3 ∧ ze N 81 3 ≤ ze N 81 2 ∧ zTv N ∧ (((1 ≤ ze N 81 7 ∧ zmu N = 0) ∨ (ze N 81 7 = 0 ∧ ze Mz 81 7 = 0 ∧ zmu N ≤ zmu Mz)))))
                                                    have hx_N67_ := zcw_b N67_ (by omega)
                                                    refine zw_aload_n (pc := 120) (n := 0) (x := 81) rfl d_M_formula_120 ?_
                                                    refine zw_dup (pc := 121) rfl d_M_formula_121 ?_
                                                    refine zr_getI (hf_N67_.w hW) (pc := 122) f_M_305 rfl d_M_formula_122 ?_
                                                    refine zw_iconst (pc := 125) (v := Int32.ofInt 1) (by decide) d_M_formula_125 ?_
                                                    refine zr_isub (pc := 126) d_M_formula_126 ?_
                                                    refine zr_putI (hf_N67_.w hW) (pc := 127) f_M_305 rfl rfl ⟨by omega, by omega⟩ rfl rfl d_M_formula_127 (fun N71_ hsN71_ hvN71_ => ?_)
                                                    have hf_N71_ : zFr [3, 4, 5, 6, 7, 8, 11, 38, 39, 41, 42, 43] [95, 96, 97, 100] Mz N71_ := hf_N67_.tr hsN71_ (by decide) (by decide)
                                                    have hb0_N71_ : zFr [3, 4, 5, 6, 7, 8, 11, 38, 39, 41, 42, 43] [95, 96, 97, 100] N13_ N71_ := hb0_N67_.tr hsN71_ (by decide) (by decide)
                                                    have hb1_N71_ : zFr [3, 4, 5, 6, 7, 8, 11, 38, 39, 41, 42] [95, 96, 97, 100] N34_ N71_ := hb1_N67_.tr hsN71_ (by decide) (by decide)
                                                    have e2_N71_ : ze N71_ 81 2 = ze N67_ 81 2 := hsN71_.e (by decide)
                                                    have e3_N71_ : ze N71_ 81 3 = ze N67_ 81 3 := hsN71_.e (by decide)
                                                    have e5_N71_ : ze N71_ 81 5 = ze N67_ 81 5 := hsN71_.e (by decide)
                                                    have e6_N71_ : ze N71_ 81 6 = ze N67_ 81 6 := hsN71_.e (by decide)
                                                    have e7_N71_ : ze N71_ 81 7 = ze N67_ 81 7 := hsN71_.e (by decide)
                                                    have e14_N71_ : ze N71_ 81 14 = ze N67_ 81 14 := hsN71_.e (by decide)
                                                    have e38_N71_ : ze N71_ 81 38 = ze N67_ 81 38 := hsN71_.e (by decide)
                                                    have e39_N71_ : ze N71_ 81 39 = ze N67_ 81 39 := hsN71_.e (by decide)
                                                    have r41_N71_ := ze_r N71_ 81 41
                                                    have e42_N71_ : ze N71_ 81 42 = ze N67_ 81 42 := hsN71_.e (by decide)
                                                    have e43_N71_ : ze N71_ 81 43 = ze N67_ 81 43 := hsN71_.e (by decide)
                                                    have qzmu_N71_ : zmu N71_ = zmu N67_ := zmu_f hsN71_ (by decide)
                                                    have c72_ : zGD N71_ := zGD.fr hsN71_ c69_ (by decide) (by decide)
                                                    have c73_ : zTv N71_ := zTv.fr hsN71_ c70_ (by decide) (by decide)
                                                    have hd_N71_ := zcw_dec hsN71_ hvN71_ (by omega)
                                                    have hy_N71_ := zcw_b N71_ (by omega)
                                                    have hi_N71_ := hsN67_.ie (q := 100) (by decide) (by decide) (ze N67_ 81 41 - 1).toNat
                                                    refine zw_aload_n (pc := 130) (n := 0) (x := 81) rfl d_M_formula_130 ?_
                                                    refine zw_dup (pc := 131) rfl d_M_formula_131 ?_
                                                    refine zr_getI (hf_N71_.w hW) (pc := 132) f_M_296 rfl d_M_formula_132 ?_
                                                    refine zw_iconst (pc := 135) (v := Int32.ofInt 1) (by decide) d_M_formula_135 ?_
                                                    refine zr_isub (pc := 136) d_M_formula_136 ?_
                                                    refine zr_putI (hf_N71_.w hW) (pc := 137) f_M_296 rfl rfl ⟨by omega, by omega⟩ rfl rfl d_M_formula_137 (fun N74_ hsN74_ hvN74_ => ?_)
                                                    have hf_N74_ : zFr [3, 4, 5, 6, 7, 8, 11, 38, 39, 41, 42, 43] [95, 96, 97, 100] Mz N74_ := hf_N71_.tr hsN74_ (by decide) (by decide)
                                                    have hb0_N74_ : zFr [3, 4, 5, 6, 7, 8, 11, 38, 39, 41, 42, 43] [95, 96, 97, 100] N13_ N74_ := hb0_N71_.tr hsN74_ (by decide) (by decide)
                                                    have hb1_N74_ : zFr [3, 4, 5, 6, 7, 8, 11, 38, 39, 41, 42] [95, 96, 97, 100] N34_ N74_ := hb1_N71_.tr hsN74_ (by decide) (by decide)
                                                    have e2_N74_ : ze N74_ 81 2 = ze N71_ 81 2 := hsN74_.e (by decide)
                                                    have e3_N74_ : ze N74_ 81 3 = ze N71_ 81 3 := hsN74_.e (by decide)
                                                    have e5_N74_ : ze N74_ 81 5 = ze N71_ 81 5 := hsN74_.e (by decide)
                                                    have e6_N74_ : ze N74_ 81 6 = ze N71_ 81 6 := hsN74_.e (by decide)
                                                    have e7_N74_ : ze N74_ 81 7 = ze N71_ 81 7 := hsN74_.e (by decide)
                                                    have e14_N74_ : ze N74_ 81 14 = ze N71_ 81 14 := hsN74_.e (by decide)
                                                    have e38_N74_ : ze N74_ 81 38 = ze N71_ 81 38 := hsN74_.e (by decide)
                                                    have e39_N74_ : ze N74_ 81 39 = ze N71_ 81 39 := hsN74_.e (by decide)
                                                    have e41_N74_ : ze N74_ 81 41 = ze N71_ 81 41 := hsN74_.e (by decide)
                                                    have r42_N74_ := ze_r N74_ 81 42
                                                    have e43_N74_ : ze N74_ 81 43 = ze N71_ 81 43 := hsN74_.e (by decide)
                                                    have qzcw_N74_ : zcw N74_ = zcw N71_ := zcw_f hsN74_ (by decide)
                                                    have qzmu_N74_ : zmu N74_ = zmu N71_ := zmu_f hsN74_ (by decide)
                                                    have c75_ : zGD N74_ := zGD.fr hsN74_ c72_ (by decide) (by decide)
                                                    have c76_ : zTv N74_ := zTv.fr hsN74_ c73_ (by decide) (by decide)
                                                    refine zw_aload_n (pc := 140) (n := 0) (x := 81) rfl d_M_formula_140 ?_
                                                    refine zr_callV (hf_N74_.w hW) hf_N74_.x (pc := 141) [] [] l_M_193 (c_M_goOn l N74_ (hf_N74_.w hW) (show 0 ≤ ze N74_ 81 3 by first | assumption | omega) (show ze N74_ 81 3 ≤ ze N74_ 81 2 by first | assumption | omega) (show ze N74_ 81 2 ≤ 700 by first | assumption | omega) (show ze N74_ 81 5 ≠ 0 by first | assumption | omega) (show ze N74_ 81 7 = 0 by first | assumption | omega)) rfl rfl rfl (by decide) (Nat.le_of_ble_eq_true rfl) d_M_formula_141 ?_
                                                    rintro _ N77_ ⟨rfl, hsN77_, ⟨hp0_N77_, hp1_N77_, hp2_N77_, hp3_N77_, hp4_N77_⟩⟩
                                                    have hf_N77_ : zFr [3, 4, 5, 6, 7, 8, 11, 38, 39, 41, 42, 43] [95, 96, 97, 100] Mz N77_ := hf_N74_.tr hsN77_ (by decide) (by decide)
                                                    have hb0_N77_ : zFr [3, 4, 5, 6, 7, 8, 11, 38, 39, 41, 42, 43] [95, 96, 97, 100] N13_ N77_ := hb0_N74_.tr hsN77_ (by decide) (by decide)
                                                    have hb1_N77_ : zFr [3, 4, 5, 6, 7, 8, 11, 38, 39, 41, 42] [95, 96, 97, 100] N34_ N77_ := hb1_N74_.tr hsN77_ (by decide) (by decide)
                                                    have e2_N77_ : ze N77_ 81 2 = ze N74_ 81 2 := hsN77_.e (by decide)
                                                    have r3_N77_ := ze_r N77_ 81 3
                                                    have r5_N77_ := ze_r N77_ 81 5
                                                    have r6_N77_ := ze_r N77_ 81 6
                                                    have e7_N77_ : ze N77_ 81 7 = ze N74_ 81 7 := hsN77_.e (by decide)
                                                    have e14_N77_ : ze N77_ 81 14 = ze N74_ 81 14 := hsN77_.e (by decide)
                                                    have e38_N77_ : ze N77_ 81 38 = ze N74_ 81 38 := hsN77_.e (by decide)
                                                    have e39_N77_ : ze N77_ 81 39 = ze N74_ 81 39 := hsN77_.e (by decide)
                                                    have e41_N77_ : ze N77_ 81 41 = ze N74_ 81 41 := hsN77_.e (by decide)
                                                    have e42_N77_ : ze N77_ 81 42 = ze N74_ 81 42 := hsN77_.e (by decide)
                                                    have e43_N77_ : ze N77_ 81 43 = ze N74_ 81 43 := hsN77_.e (by decide)
                                                    have qzcw_N77_ : zcw N77_ = zcw N74_ := zcw_f hsN77_ (by decide)
                                                    have c79_ : zGD N77_ := zGD.fr hsN77_ c75_ (by decide) (by decide)
                                                    show zW l m_M_formula (zn Mz + 0, zw Mz + 0) N77_ 144 [some (.ref 81), some (.int (Int32.ofInt 0))] [] (zpV [3, 4, 5, 6, 7, 8, 11, 38, 39, 41, 42, 43] [95, 96, 97, 100] Mz (fun N => 0 ≤ ze N 81 3 ∧ ze N 81 3 ≤ ze N 81 2 ∧ zTv N ∧ (((1 ≤ ze N 81 7 ∧ zmu N = 0) ∨ (ze N 81 7 = 0 ∧ ze Mz 81 7 = 0 ∧ zmu N ≤ zmu Mz)))))
                                                    refine zw_aload_n (pc := 144) (n := 0) (x := 81) rfl d_M_formula_144 ?_
                                                    refine zr_callV (hf_N77_.w hW) hf_N77_.x (pc := 145) [] [] l_M_346 (c_M_closes l N77_ (hf_N77_.w hW) c79_ (show 0 ≤ ze N77_ 81 3 by first | assumption | omega) (show ze N77_ 81 3 ≤ ze N77_ 81 2 by first | assumption | omega) (show ze N77_ 81 2 ≤ 700 by first | assumption | omega) hp2_N77_ (show ze N77_ 81 7 = 0 by first | assumption | omega) (show 1 ≤ ze N77_ 81 38 by first | assumption | omega) (show ze N77_ 81 38 ≤ 40 by first | assumption | omega) (show 0 ≤ ze N77_ 81 41 by first | assumption | omega) (show ze N77_ 81 41 ≤ 80 by first | assumption | omega) (show ze N77_ 81 42 = ze N77_ 81 41 - zcw N77_ by first | assumption | omega)) rfl rfl rfl (by decide) (Nat.le_of_ble_eq_true rfl) d_M_formula_145 ?_
                                                    rintro _ N80_ ⟨rfl, hsN80_, ⟨hp0_N80_, hp1_N80_, hp2_N80_, hp3_N80_, hp4_N80_, hp5_N80_, hp6_N80_, hp7_N80_, hp8_N80_⟩⟩
                                                    have hf_N80_ : zFr [3, 4, 5, 6, 7, 8, 11, 38, 39, 41, 42, 43] [95, 96, 97, 100] Mz N80_ := hf_N77_.tr hsN80_ (by decide) (by decide)
                                                    have hb0_N80_ : zFr [3, 4, 5, 6, 7, 8, 11, 38, 39, 41, 42, 43] [95, 96, 97, 100] N13_ N80_ := hb0_N77_.tr hsN80_ (by decide) (by decide)
                                                    have hb1_N80_ : zFr [3, 4, 5, 6, 7, 8, 11, 38, 39, 41, 42] [95, 96, 97, 100] N34_ N80_ := hb1_N77_.tr hsN80_ (by decide) (by decide)
                                                    have e2_N80_ : ze N80_ 81 2 = ze N77_ 81 2 := hsN80_.e (by decide)
                                                    have r3_N80_ := ze_r N80_ 81 3
                                                    have r5_N80_ := ze_r N80_ 81 5
                                                    have r6_N80_ := ze_r N80_ 81 6
                                                    have r7_N80_ := ze_r N80_ 81 7
                                                    have e14_N80_ : ze N80_ 81 14 = ze N77_ 81 14 := hsN80_.e (by decide)
                                                    have e38_N80_ : ze N80_ 81 38 = ze N77_ 81 38 := hsN80_.e (by decide)
                                                    have r39_N80_ := ze_r N80_ 81 39
                                                    have r41_N80_ := ze_r N80_ 81 41
                                                    have r42_N80_ := ze_r N80_ 81 42
                                                    have e43_N80_ : ze N80_ 81 43 = ze N77_ 81 43 := hsN80_.e (by decide)
                                                    have c82_ : zGD N80_ := zGD.fr hsN80_ c79_ (by decide) (by decide)
                                                    rcases hp8_N80_ with ⟨ha145_0_hp8_N80_, ha145_1_hp8_N80_⟩ | ⟨ha145_0_hp8_N80_, ha145_1_hp8_N80_, ha145_2_hp8_N80_⟩
                                                    · skip
                                                      show zW l m_M_formula (zn Mz + 0, zw Mz + 0) N80_ 148 [some (.ref 81), some (.int (Int32.ofInt 0))] [] (zpV [3, 4, 5, 6, 7, 8, 11, 38, 39, 41, 42, 43] [95, 96, 97, 100] Mz (fun N => 0 ≤ ze N 81 3 ∧ ze N 81 3 ≤ ze N 81 2 ∧ zTv N ∧ (((1 ≤ ze N 81 7 ∧ zmu N = 0) ∨ (ze N 81 7 = 0 ∧ ze Mz 81 7 = 0 ∧ zmu N ≤ zmu Mz)))))
                                                      refine zw_aload_n (pc := 148) (n := 0) (x := 81) rfl d_M_formula_148 ?_
                                                      refine zr_callV (hf_N80_.w hW) hf_N80_.x (pc := 149) [] [] l_M_183 (c_M_isGood l N80_ (hf_N80_.w hW) ) rfl rfl rfl (by decide) (Nat.le_of_ble_eq_true rfl) d_M_formula_149 ?_
                                                      rintro _ N83_ ⟨v84_, rfl, ⟨hv84_a, hv84_b⟩, hsN83_, hp0_N83_⟩
                                                      obtain rfl := hsN83_.eq.symm
                                                      replace hp0_N83_ : ((v84_ = 1 ∧ ze N80_ 81 7 = 0) ∨ (v84_ = 0 ∧ ze N80_ 81 7 ≠ 0)) := hp0_N83_
                                                      rcases hp0_N83_ with ⟨rfl, ha149_0_hp0_N83_⟩ | ⟨rfl, ha149_0_hp0_N83_⟩
                                                      · skip
                                                        exfalso; omega
                                                      · skip
                                                        show zW l m_M_formula (zn Mz + 0, zw Mz + 0) N80_ 152 [some (.ref 81), some (.int (Int32.ofInt 0))] [.int (Int32.ofInt 0)] (zpV [3, 4, 5, 6, 7, 8, 11, 38, 39, 41, 42, 43] [95, 96, 97, 100] Mz (fun N => 0 ≤ ze N 81 3 ∧ ze N 81 3 ≤ ze N 81 2 ∧ zTv N ∧ (((1 ≤ ze N 81 7 ∧ zmu N = 0) ∨ (ze N 81 7 = 0 ∧ ze Mz 81 7 = 0 ∧ zmu N ≤ zmu Mz)))))
                                                        refine zr_if_eq (pc := 152) (tgt := 166) ⟨(by decide), (by decide)⟩ (by decide) d_M_formula_152 (fun hc_152 => ?_) (fun hc_152 => ?_)
                                                        · skip
                                                          refine zw_iconst (pc := 166) (v := Int32.ofInt 0) (by decide) d_M_formula_166 ?_
                                                          refine zw_istore_n (pc := 167) (i := 1) (L2 := [some (.ref 81), some (.int (Int32.ofInt 0))]) rfl (by decide) rfl d_M_formula_167 ?_
                                                          refine zw_goto (pc := 168) (tgt := 88) (by decide) d_M_formula_168 ?_
                                                          exact ih_88 0 (by decide) (by decide) (by omega) N80_ hb1_N80_ (show 0 ≤ ze N80_ 81 3 by first | assumption | omega) (show ze N80_ 81 3 ≤ ze N80_ 81 2 by first | assumption | omega) (show zmu N80_ < zmu N17_ by first | assumption | omega) hp2_N80_ (show (1 ≤ ze N80_ 81 7 ∧ zmu N80_ = 0) ∨ (0 = 1 ∧ ze N80_ 81 7 = 0 ∧ ze N80_ 81 38 = zcw N80_ ∧ 0 ≤ ze N80_ 81 41 ∧ ze N80_ 81 41 - zcw N80_ ≤ ze N80_ 81 43 ∧ ze N80_ 81 42 = ze N80_ 81 41 - zcw N80_ ∧ ze N80_ 81 38 ≤ ze N80_ 81 43 ∧ ze N80_ 81 43 ≤ 30) ∨ (0 = 0 ∧ ze N80_ 81 7 = 0 ∧ ze N80_ 81 38 = zcw N80_ + 1 ∧ 0 ≤ ze N80_ 81 41 ∧ ze N80_ 81 41 - zcw N80_ ≤ ze N80_ 81 43 ∧ ze N80_ 81 42 = ze N80_ 81 41 - zcw N80_ ∧ ze N80_ 81 38 ≤ ze N80_ 81 43 ∧ ze N80_ 81 43 ≤ 30) from Or.inl (⟨(show 1 ≤ ze N80_ 81 7 by first | assumption | omega), (show zmu N80_ = 0 by first | assumption | omega)⟩)) (by omega)
                                                        · skip
                                                          exact absurd hc_152 (by decide)
                                                    · skip
                                                      show zW l m_M_formula (zn Mz + 0, zw Mz + 0) N80_ 148 [some (.ref 81), some (.int (Int32.ofInt 0))] [] (zpV [3, 4, 5, 6, 7, 8, 11, 38, 39, 41, 42, 43] [95, 96, 97, 100] Mz (fun N => 0 ≤ ze N 81 3 ∧ ze N 81 3 ≤ ze N 81 2 ∧ zTv N ∧ (((1 ≤ ze N 81 7 ∧ zmu N = 0) ∨ (ze N 81 7 = 0 ∧ ze Mz 81 7 = 0 ∧ zmu N ≤ zmu Mz)))))
                                                      refine zw_aload_n (pc := 148) (n := 0) (x := 81) rfl d_M_formula_148 ?_
                                                      refine zr_callV (hf_N80_.w hW) hf_N80_.x (pc := 149) [] [] l_M_183 (c_M_isGood l N80_ (hf_N80_.w hW) ) rfl rfl rfl (by decide) (Nat.le_of_ble_eq_true rfl) d_M_formula_149 ?_
                                                      rintro _ N85_ ⟨v86_, rfl, ⟨hv86_a, hv86_b⟩, hsN85_, hp0_N85_⟩
                                                      obtain rfl := hsN85_.eq.symm
                                                      replace hp0_N85_ : ((v86_ = 1 ∧ ze N80_ 81 7 = 0) ∨ (v86_ = 0 ∧ ze N80_ 81 7 ≠ 0)) := hp0_N85_
                                                      rcases hp0_N85_ with ⟨rfl, ha149_0_hp0_N85_⟩ | ⟨rfl, ha149_0_hp0_N85_⟩
                                                      · skip
                                                        show zW l m_M_formula (zn Mz + 0, zw Mz + 0) N80_ 152 [some (.ref 81), some (.int (Int32.ofInt 0))] [.int (Int32.ofInt 1)] (zpV [3, 4, 5, 6, 7, 8, 11, 38, 39, 41, 42, 43] [95, 96, 97, 100] Mz (fun N => 0 ≤ ze N 81 3 ∧ ze N 81 3 ≤ ze N 81 2 ∧ zTv N ∧ (((1 ≤ ze N 81 7 ∧ zmu N = 0) ∨ (ze N 81 7 = 0 ∧ ze Mz 81 7 = 0 ∧ zmu N ≤ zmu Mz)))))
                                                        refine zr_if_eq (pc := 152) (tgt := 166) ⟨(by decide), (by decide)⟩ (by decide) d_M_formula_152 (fun hc_152 => ?_) (fun hc_152 => ?_)
                                                        · skip
                                                          exact absurd hc_152 (by decide)
                                                        · skip
                                                          refine zw_aload_n (pc := 155) (n := 0) (x := 81) rfl d_M_formula_155 ?_
                                                          refine zr_callV (hf_N80_.w hW) hf_N80_.x (pc := 156) [] [] l_M_349 (c_M_goesOn l N80_ (hf_N80_.w hW) c82_ (show 0 ≤ ze N80_ 81 3 by first | assumption | omega) (show ze N80_ 81 3 ≤ ze N80_ 81 2 by first | assumption | omega) (show ze N80_ 81 2 ≤ 700 by first | assumption | omega) hp2_N80_ (show ze N80_ 81 7 = 0 by first | assumption | omega) (show 0 ≤ ze N80_ 81 41 by first | assumption | omega) (show ze N80_ 81 41 ≤ 79 by first | assumption | omega) (show ze N80_ 81 38 = zcw N80_ + 1 by first | assumption | omega) (show ze N80_ 81 38 ≤ 40 by first | assumption | omega)) rfl rfl rfl (by decide) (Nat.le_of_ble_eq_true rfl) d_M_formula_156 ?_
                                                          rintro _ N87_ ⟨v88_, rfl, ⟨hv88_a, hv88_b⟩, hsN87_, ⟨hp0_N87_, hp1_N87_, hp2_N87_, hp3_N87_, hp4_N87_, hp5_N87_, hp6_N87_, hp7_N87_⟩⟩
                                                          have hf_N87_ : zFr [3, 4, 5, 6, 7, 8, 11, 38, 39, 41, 42, 43] [95, 96, 97, 100] Mz N87_ := hf_N80_.tr hsN87_ (by decide) (by decide)
                                                          have hb0_N87_ : zFr [3, 4, 5, 6, 7, 8, 11, 38, 39, 41, 42, 43] [95, 96, 97, 100] N13_ N87_ := hb0_N80_.tr hsN87_ (by decide) (by decide)
                                                          have hb1_N87_ : zFr [3, 4, 5, 6, 7, 8, 11, 38, 39, 41, 42] [95, 96, 97, 100] N34_ N87_ := hb1_N80_.tr hsN87_ (by decide) (by decide)
                                                          have e2_N87_ : ze N87_ 81 2 = ze N80_ 81 2 := hsN87_.e (by decide)
                                                          have r3_N87_ := ze_r N87_ 81 3
                                                          have r5_N87_ := ze_r N87_ 81 5
                                                          have r6_N87_ := ze_r N87_ 81 6
                                                          have e7_N87_ : ze N87_ 81 7 = ze N80_ 81 7 := hsN87_.e (by decide)
                                                          have e14_N87_ : ze N87_ 81 14 = ze N80_ 81 14 := hsN87_.e (by decide)
                                                          have r38_N87_ := ze_r N87_ 81 38
                                                          have r39_N87_ := ze_r N87_ 81 39
                                                          have r41_N87_ := ze_r N87_ 81 41
                                                          have e42_N87_ : ze N87_ 81 42 = ze N80_ 81 42 := hsN87_.e (by decide)
                                                          have e43_N87_ : ze N87_ 81 43 = ze N80_ 81 43 := hsN87_.e (by decide)
                                                          have c89_ : zGD N87_ := zGD.fr hsN87_ c82_ (by decide) (by decide)
                                                          rcases hp7_N87_ with ⟨rfl, ha156_0_hp7_N87_, ha156_1_hp7_N87_⟩ | ⟨rfl, ha156_0_hp7_N87_, ha156_1_hp7_N87_⟩
                                                          · skip
                                                            show zW l m_M_formula (zn Mz + 0, zw Mz + 0) N87_ 159 [some (.ref 81), some (.int (Int32.ofInt 0))] [.int (Int32.ofInt 1)] (zpV [3, 4, 5, 6, 7, 8, 11, 38, 39, 41, 42, 43] [95, 96, 97, 100] Mz (fun N => 0 ≤ ze N 81 3 ∧ ze N 81 3 ≤ ze N 81 2 ∧ zTv N ∧ (((1 ≤ ze N 81 7 ∧ zmu N = 0) ∨ (ze N 81 7 = 0 ∧ ze Mz 81 7 = 0 ∧ zmu N ≤ zmu Mz)))))
                                                            refine zr_if_eq (pc := 159) (tgt := 166) ⟨(by decide), (by decide)⟩ (by decide) d_M_formula_159 (fun hc_159 => ?_) (fun hc_159 => ?_)
                                                            · skip
                                                              exact absurd hc_159 (by decide)
                                                            · skip
                                                              refine zw_iconst (pc := 162) (v := Int32.ofInt 1) (by decide) d_M_formula_162 ?_
                                                              refine zw_goto (pc := 163) (tgt := 167) (by decide) d_M_formula_163 ?_
                                                              refine zw_istore_n (pc := 167) (i := 1) (L2 := [some (.ref 81), some (.int (Int32.ofInt 1))]) rfl (by decide) rfl d_M_formula_167 ?_
                                                              refine zw_goto (pc := 168) (tgt := 88) (by decide) d_M_formula_168 ?_
                                                              exact ih_88 1 (by decide) (by decide) (by omega) N87_ hb1_N87_ (show 0 ≤ ze N87_ 81 3 by first | assumption | omega) (show ze N87_ 81 3 ≤ ze N87_ 81 2 by first | assumption | omega) (show zmu N87_ < zmu N17_ by first | assumption | omega) hp2_N87_ (show (1 ≤ ze N87_ 81 7 ∧ zmu N87_ = 0) ∨ (1 = 1 ∧ ze N87_ 81 7 = 0 ∧ ze N87_ 81 38 = zcw N87_ ∧ 0 ≤ ze N87_ 81 41 ∧ ze N87_ 81 41 - zcw N87_ ≤ ze N87_ 81 43 ∧ ze N87_ 81 42 = ze N87_ 81 41 - zcw N87_ ∧ ze N87_ 81 38 ≤ ze N87_ 81 43 ∧ ze N87_ 81 43 ≤ 30) ∨ (1 = 0 ∧ ze N87_ 81 7 = 0 ∧ ze N87_ 81 38 = zcw N87_ + 1 ∧ 0 ≤ ze N87_ 81 41 ∧ ze N87_ 81 41 - zcw N87_ ≤ ze N87_ 81 43 ∧ ze N87_ 81 42 = ze N87_ 81 41 - zcw N87_ ∧ ze N87_ 81 38 ≤ ze N87_ 81 43 ∧ ze N87_ 81 43 ≤ 30) from Or.inr (Or.inl (⟨(show 1 = 1 by first | assumption | omega), (show ze N87_ 81 7 = 0 by first | assumption | omega), (show ze N87_ 81 38 = zcw N87_ by first | assumption | omega), (show 0 ≤ ze N87_ 81 41 by first | assumption | omega), (show ze N87_ 81 41 - zcw N87_ ≤ ze N87_ 81 43 by first | assumption | omega), (show ze N87_ 81 42 = ze N87_ 81 41 - zcw N87_ by first | assumption | omega), (show ze N87_ 81 38 ≤ ze N87_ 81 43 by first | assumption | omega), (show ze N87_ 81 43 ≤ 30 by first | assumption | omega)⟩))) (by omega)
                                                          · skip
                                                            show zW l m_M_formula (zn Mz + 0, zw Mz + 0) N87_ 159 [some (.ref 81), some (.int (Int32.ofInt 0))] [.int (Int32.ofInt 0)] (zpV [3, 4, 5, 6, 7, 8, 11, 38, 39, 41, 42, 43] [95, 96, 97, 100] Mz (fun N => 0 ≤ ze N 81 3 ∧ ze N 81 3 ≤ ze N 81 2 ∧ zTv N ∧ (((1 ≤ ze N 81 7 ∧ zmu N = 0) ∨ (ze N 81 7 = 0 ∧ ze Mz 81 7 = 0 ∧ zmu N ≤ zmu Mz)))))
                                                            refine zr_if_eq (pc := 159) (tgt := 166) ⟨(by decide), (by decide)⟩ (by decide) d_M_formula_159 (fun hc_159 => ?_) (fun hc_159 => ?_)
                                                            · skip
                                                              refine zw_iconst (pc := 166) (v := Int32.ofInt 0) (by decide) d_M_formula_166 ?_
                                                              refine zw_istore_n (pc := 167) (i := 1) (L2 := [some (.ref 81), some (.int (Int32.ofInt 0))]) rfl (by decide) rfl d_M_formula_167 ?_
                                                              refine zw_goto (pc := 168) (tgt := 88) (by decide) d_M_formula_168 ?_
                                                              exact ih_88 0 (by decide) (by decide) (by omega) N87_ hb1_N87_ (show 0 ≤ ze N87_ 81 3 by first | assumption | omega) (show ze N87_ 81 3 ≤ ze N87_ 81 2 by first | assumption | omega) (show zmu N87_ < zmu N17_ by first | assumption | omega) hp2_N87_ (show (1 ≤ ze N87_ 81 7 ∧ zmu N87_ = 0) ∨ (0 = 1 ∧ ze N87_ 81 7 = 0 ∧ ze N87_ 81 38 = zcw N87_ ∧ 0 ≤ ze N87_ 81 41 ∧ ze N87_ 81 41 - zcw N87_ ≤ ze N87_ 81 43 ∧ ze N87_ 81 42 = ze N87_ 81 41 - zcw N87_ ∧ ze N87_ 81 38 ≤ ze N87_ 81 43 ∧ ze N87_ 81 43 ≤ 30) ∨ (0 = 0 ∧ ze N87_ 81 7 = 0 ∧ ze N87_ 81 38 = zcw N87_ + 1 ∧ 0 ≤ ze N87_ 81 41 ∧ ze N87_ 81 41 - zcw N87_ ≤ ze N87_ 81 43 ∧ ze N87_ 81 42 = ze N87_ 81 41 - zcw N87_ ∧ ze N87_ 81 38 ≤ ze N87_ 81 43 ∧ ze N87_ 81 43 ≤ 30) from Or.inr (Or.inr (⟨(show 0 = 0 by first | assumption | omega), (show ze N87_ 81 7 = 0 by first | assumption | omega), (show ze N87_ 81 38 = zcw N87_ + 1 by first | assumption | omega), (show 0 ≤ ze N87_ 81 41 by first | assumption | omega), (show ze N87_ 81 41 - zcw N87_ ≤ ze N87_ 81 43 by first | assumption | omega), (show ze N87_ 81 42 = ze N87_ 81 41 - zcw N87_ by first | assumption | omega), (show ze N87_ 81 38 ≤ ze N87_ 81 43 by first | assumption | omega), (show ze N87_ 81 43 ≤ 30 by first | assumption | omega)⟩))) (by omega)
                                                            · skip
                                                              exact absurd hc_159 (by decide)
                                                      · skip
                                                        exfalso; omega
                                                · skip
                                                  show zW l m_M_formula (zn Mz + 0, zw Mz + 0) N49_ 112 [some (.ref 81), some (.int (Int32.ofInt 0))] [.int (Int32.ofInt 0)] (zpV [3, 4, 5, 6, 7, 8, 11, 38, 39, 41, 42, 43] [95, 96, 97, 100] Mz (fun N => 0 ≤ ze N 81 3 ∧ ze N 81 3 ≤ ze N 81 2 ∧ zTv N ∧ (((1 ≤ ze N 81 7 ∧ zmu N = 0) ∨ (ze N 81 7 = 0 ∧ ze Mz 81 7 = 0 ∧ zmu N ≤ zmu Mz)))))
                                                  refine zr_if_eq (pc := 112) (tgt := 27) ⟨(by decide), (by decide)⟩ (by decide) d_M_formula_112 (fun hc_112 => ?_) (fun hc_112 => ?_)
                                                  · skip
                                                    exact ih_27 0 (by decide) (by decide) (by omega) N49_ hb0_N49_ (show 0 ≤ ze N49_ 81 3 by first | assumption | omega) (show ze N49_ 81 3 ≤ ze N49_ 81 2 by first | assumption | omega) (show zmu N49_ ≤ zmu Mz by first | assumption | omega) i54_ (show (1 ≤ ze N49_ 81 7 ∧ zmu N49_ = 0) ∨ (0 = 1 ∧ ze N49_ 81 7 = 0 ∧ ze N49_ 81 38 = zcw N49_ ∧ 0 ≤ ze N49_ 81 41 ∧ ze N49_ 81 41 - zcw N49_ ≤ ze N49_ 81 43 ∧ ze N49_ 81 42 = ze N49_ 81 41 - zcw N49_ ∧ ze N49_ 81 38 ≤ ze N49_ 81 43 ∧ ze N49_ 81 43 ≤ 30) ∨ (0 = 0 ∧ ze N49_ 81 7 = 0 ∧ ze N49_ 81 38 = zcw N49_ + 1 ∧ 0 ≤ ze N49_ 81 41 ∧ ze N49_ 81 41 - zcw N49_ ≤ ze N49_ 81 43 ∧ ze N49_ 81 42 = ze N49_ 81 41 - zcw N49_ ∧ ze N49_ 81 38 ≤ ze N49_ 81 43 ∧ ze N49_ 81 43 ≤ 30) from Or.inr (Or.inr (⟨(show 0 = 0 by first | assumption | omega), (show ze N49_ 81 7 = 0 by first | assumption | omega), (show ze N49_ 81 38 = zcw N49_ + 1 by first | assumption | omega), (show 0 ≤ ze N49_ 81 41 by first | assumption | omega), (show ze N49_ 81 41 - zcw N49_ ≤ ze N49_ 81 43 by first | assumption | omega), (show ze N49_ 81 42 = ze N49_ 81 41 - zcw N49_ by first | assumption | omega), (show ze N49_ 81 38 ≤ ze N49_ 81 43 by first | assumption | omega), (show ze N49_ 81 43 ≤ 30 by first | assumption | omega)⟩))) (by omega)
                                                  · skip
                                                    exact absurd hc_112 (by decide)
                                            · skip
                                              show zW l m_M_formula (zn Mz + 0, zw Mz + 0) N49_ 105 [some (.ref 81), some (.int (Int32.ofInt 0))] [.int (Int32.ofInt 0)] (zpV [3, 4, 5, 6, 7, 8, 11, 38, 39, 41, 42, 43] [95, 96, 97, 100] Mz (fun N => 0 ≤ ze N 81 3 ∧ ze N 81 3 ≤ ze N 81 2 ∧ zTv N ∧ (((1 ≤ ze N 81 7 ∧ zmu N = 0) ∨ (ze N 81 7 = 0 ∧ ze Mz 81 7 = 0 ∧ zmu N ≤ zmu Mz)))))
                                              refine zr_if_eq (pc := 105) (tgt := 27) ⟨(by decide), (by decide)⟩ (by decide) d_M_formula_105 (fun hc_105 => ?_) (fun hc_105 => ?_)
                                              · skip
                                                exact ih_27 0 (by decide) (by decide) (by omega) N49_ hb0_N49_ (show 0 ≤ ze N49_ 81 3 by first | assumption | omega) (show ze N49_ 81 3 ≤ ze N49_ 81 2 by first | assumption | omega) (show zmu N49_ ≤ zmu Mz by first | assumption | omega) i54_ (show (1 ≤ ze N49_ 81 7 ∧ zmu N49_ = 0) ∨ (0 = 1 ∧ ze N49_ 81 7 = 0 ∧ ze N49_ 81 38 = zcw N49_ ∧ 0 ≤ ze N49_ 81 41 ∧ ze N49_ 81 41 - zcw N49_ ≤ ze N49_ 81 43 ∧ ze N49_ 81 42 = ze N49_ 81 41 - zcw N49_ ∧ ze N49_ 81 38 ≤ ze N49_ 81 43 ∧ ze N49_ 81 43 ≤ 30) ∨ (0 = 0 ∧ ze N49_ 81 7 = 0 ∧ ze N49_ 81 38 = zcw N49_ + 1 ∧ 0 ≤ ze N49_ 81 41 ∧ ze N49_ 81 41 - zcw N49_ ≤ ze N49_ 81 43 ∧ ze N49_ 81 42 = ze N49_ 81 41 - zcw N49_ ∧ ze N49_ 81 38 ≤ ze N49_ 81 43 ∧ ze N49_ 81 43 ≤ 30) from Or.inr (Or.inr (⟨(show 0 = 0 by first | assumption | omega), (show ze N49_ 81 7 = 0 by first | assumption | omega), (show ze N49_ 81 38 = zcw N49_ + 1 by first | assumption | omega), (show 0 ≤ ze N49_ 81 41 by first | assumption | omega), (show ze N49_ 81 41 - zcw N49_ ≤ ze N49_ 81 43 by first | assumption | omega), (show ze N49_ 81 42 = ze N49_ 81 41 - zcw N49_ by first | assumption | omega), (show ze N49_ 81 38 ≤ ze N49_ 81 43 by first | assumption | omega), (show ze N49_ 81 43 ≤ 30 by first | assumption | omega)⟩))) (by omega)
                                              · skip
                                                exact absurd hc_105 (by decide)
                                      · skip
                                        exfalso; omega
                                exact lp_88 _ 0 (by decide) (by decide) (by omega) N34_ zFr.rf (show 0 ≤ ze N34_ 81 3 by first | assumption | omega) (show ze N34_ 81 3 ≤ ze N34_ 81 2 by first | assumption | omega) (show zmu N34_ < zmu N17_ by first | assumption | omega) i39_ (show (1 ≤ ze N34_ 81 7 ∧ zmu N34_ = 0) ∨ (0 = 1 ∧ ze N34_ 81 7 = 0 ∧ ze N34_ 81 38 = zcw N34_ ∧ 0 ≤ ze N34_ 81 41 ∧ ze N34_ 81 41 - zcw N34_ ≤ ze N34_ 81 43 ∧ ze N34_ 81 42 = ze N34_ 81 41 - zcw N34_ ∧ ze N34_ 81 38 ≤ ze N34_ 81 43 ∧ ze N34_ 81 43 ≤ 30) ∨ (0 = 0 ∧ ze N34_ 81 7 = 0 ∧ ze N34_ 81 38 = zcw N34_ + 1 ∧ 0 ≤ ze N34_ 81 41 ∧ ze N34_ 81 41 - zcw N34_ ≤ ze N34_ 81 43 ∧ ze N34_ 81 42 = ze N34_ 81 41 - zcw N34_ ∧ ze N34_ 81 38 ≤ ze N34_ 81 43 ∧ ze N34_ 81 43 ≤ 30) from Or.inl (⟨(show 1 ≤ ze N34_ 81 7 by first | assumption | omega), (show zmu N34_ = 0 by first | assumption | omega)⟩)) (Nat.lt_succ_self _)
                              · skip
                                exact absurd hc_72 (by decide)
                          · skip
                            exact absurd hc_61 (by decide)
                      · skip
                        exact absurd hc_42 (by decide)
                  · skip
                    have hz_N34_ := zmu_p N34_ (by omega) (by omega)
                    have hx_N34_ := zcw_b N34_ (by omega)
                    refine zw_aload_n (pc := 38) (n := 0) (x := 81) rfl d_M_formula_38 ?_
                    refine zr_callV (hf_N34_.w hW) hf_N34_.x (pc := 39) [] [] l_M_183 (c_M_isGood l N34_ (hf_N34_.w hW) ) rfl rfl rfl (by decide) (Nat.le_of_ble_eq_true rfl) d_M_formula_39 ?_
                    rintro _ N90_ ⟨v91_, rfl, ⟨hv91_a, hv91_b⟩, hsN90_, hp0_N90_⟩
                    obtain rfl := hsN90_.eq.symm
                    replace hp0_N90_ : ((v91_ = 1 ∧ ze N34_ 81 7 = 0) ∨ (v91_ = 0 ∧ ze N34_ 81 7 ≠ 0)) := hp0_N90_
                    rcases hp0_N90_ with ⟨rfl, ha39_0_hp0_N90_⟩ | ⟨rfl, ha39_0_hp0_N90_⟩
                    · skip
                      show zW l m_M_formula (zn Mz + 0, zw Mz + 0) N34_ 42 [some (.ref 81), some (.int (Int32.ofInt u33_))] [.int (Int32.ofInt 1)] (zpV [3, 4, 5, 6, 7, 8, 11, 38, 39, 41, 42, 43] [95, 96, 97, 100] Mz (fun N => 0 ≤ ze N 81 3 ∧ ze N 81 3 ≤ ze N 81 2 ∧ zTv N ∧ (((1 ≤ ze N 81 7 ∧ zmu N = 0) ∨ (ze N 81 7 = 0 ∧ ze Mz 81 7 = 0 ∧ zmu N ≤ zmu Mz)))))
                      refine zr_if_eq (pc := 42) (tgt := 57) ⟨(by decide), (by decide)⟩ (by decide) d_M_formula_42 (fun hc_42 => ?_) (fun hc_42 => ?_)
                      · skip
                        exact absurd hc_42 (by decide)
                      · skip
                        refine zw_aload_n (pc := 45) (n := 0) (x := 81) rfl d_M_formula_45 ?_
                        refine zr_callV (hf_N34_.w hW) hf_N34_.x (pc := 46) [] [] l_M_343 (c_M_operand l N34_ (hf_N34_.w hW) c41_ (show 0 ≤ ze N34_ 81 3 by first | assumption | omega) (show ze N34_ 81 3 ≤ ze N34_ 81 2 by first | assumption | omega) (show ze N34_ 81 2 ≤ 700 by first | assumption | omega) i39_ (show ze N34_ 81 7 = 0 by first | assumption | omega) (show ze N34_ 81 38 = zcw N34_ by first | assumption | omega) (show 0 ≤ ze N34_ 81 41 by first | assumption | omega) (show ze N34_ 81 41 - zcw N34_ ≤ ze N34_ 81 43 by first | assumption | omega) (show ze N34_ 81 42 = ze N34_ 81 41 - zcw N34_ by first | assumption | omega) (show ze N34_ 81 38 ≤ ze N34_ 81 43 by first | assumption | omega) (show ze N34_ 81 43 ≤ 30 by first | assumption | omega) (show 0 ≤ ze N34_ 81 14 by first | assumption | omega) (show ze N34_ 81 14 ≤ 8 by first | assumption | omega)) rfl rfl rfl (by decide) (Nat.le_of_ble_eq_true rfl) d_M_formula_46 ?_
                        rintro _ N92_ ⟨v93_, rfl, ⟨hv93_a, hv93_b⟩, hsN92_, ⟨hp0_N92_, hp1_N92_, hp2_N92_, hp3_N92_⟩⟩
                        have hf_N92_ : zFr [3, 4, 5, 6, 7, 8, 11, 38, 39, 41, 42, 43] [95, 96, 97, 100] Mz N92_ := hf_N34_.tr hsN92_ (by decide) (by decide)
                        have hb0_N92_ : zFr [3, 4, 5, 6, 7, 8, 11, 38, 39, 41, 42, 43] [95, 96, 97, 100] N13_ N92_ := hb0_N34_.tr hsN92_ (by decide) (by decide)
                        have hb1_N92_ : zFr [3, 4, 5, 6, 7, 8, 11, 38, 39, 41, 42, 43] [95, 100] N17_ N92_ := hs35_.tr hsN92_ (by decide) (by decide)
                        have e2_N92_ : ze N92_ 81 2 = ze N34_ 81 2 := hsN92_.e (by decide)
                        have r3_N92_ := ze_r N92_ 81 3
                        have r5_N92_ := ze_r N92_ 81 5
                        have r6_N92_ := ze_r N92_ 81 6
                        have r7_N92_ := ze_r N92_ 81 7
                        have e14_N92_ : ze N92_ 81 14 = ze N34_ 81 14 := hsN92_.e (by decide)
                        have r38_N92_ := ze_r N92_ 81 38
                        have r39_N92_ := ze_r N92_ 81 39
                        have r41_N92_ := ze_r N92_ 81 41
                        have r42_N92_ := ze_r N92_ 81 42
                        have r43_N92_ := ze_r N92_ 81 43
                        have c94_ : zGD N92_ := zGD.fr hsN92_ c41_ (by decide) (by decide)
                        rcases hp3_N92_ with ⟨rfl, ha46_0_hp3_N92_, ha46_1_hp3_N92_⟩ | ⟨rfl, ha46_0_hp3_N92_, ha46_1_hp3_N92_, ha46_2_hp3_N92_, ha46_3_hp3_N92_, ha46_4_hp3_N92_, ha46_5_hp3_N92_, ha46_6_hp3_N92_, ha46_7_hp3_N92_⟩ | ⟨rfl, ha46_0_hp3_N92_, ha46_1_hp3_N92_⟩ | ⟨rfl, ha46_0_hp3_N92_, ha46_1_hp3_N92_, ha46_2_hp3_N92_, ha46_3_hp3_N92_, ha46_4_hp3_N92_, ha46_5_hp3_N92_, ha46_6_hp3_N92_, ha46_7_hp3_N92_⟩
                        · skip
                          show zW l m_M_formula (zn Mz + 0, zw Mz + 0) N92_ 49 [some (.ref 81), some (.int (Int32.ofInt u33_))] [.int (Int32.ofInt 0)] (zpV [3, 4, 5, 6, 7, 8, 11, 38, 39, 41, 42, 43] [95, 96, 97, 100] Mz (fun N => 0 ≤ ze N 81 3 ∧ ze N 81 3 ≤ ze N 81 2 ∧ zTv N ∧ (((1 ≤ ze N 81 7 ∧ zmu N = 0) ∨ (ze N 81 7 = 0 ∧ ze Mz 81 7 = 0 ∧ zmu N ≤ zmu Mz)))))
                          refine zr_if_ne (pc := 49) (tgt := 57) ⟨(by decide), (by decide)⟩ (by decide) d_M_formula_49 (fun hc_49 => ?_) (fun hc_49 => ?_)
                          · skip
                            exact absurd hc_49 (by decide)
                          · skip
                            refine zw_iconst (pc := 52) (v := Int32.ofInt 1) (by decide) d_M_formula_52 ?_
                            refine zw_istore_n (pc := 53) (i := 1) (L2 := [some (.ref 81), some (.int (Int32.ofInt 1))]) rfl (by decide) rfl d_M_formula_53 ?_
                            refine zw_goto (pc := 54) (tgt := 38) (by decide) d_M_formula_54 ?_
                            exact ih_38 1 (by decide) (by decide) (by omega) N92_ hb1_N92_ (show 0 ≤ ze N92_ 81 3 by first | assumption | omega) (show ze N92_ 81 3 ≤ ze N92_ 81 2 by first | assumption | omega) (show zmu N92_ ≤ zmu N17_ by first | assumption | omega) hp2_N92_ (show (1 ≤ ze N92_ 81 7 ∧ zmu N92_ = 0) ∨ (ze N92_ 81 7 = 0 ∧ ze N92_ 81 38 = zcw N92_ ∧ 0 ≤ ze N92_ 81 41 ∧ ze N92_ 81 41 - zcw N92_ ≤ ze N92_ 81 43 ∧ ze N92_ 81 42 = ze N92_ 81 41 - zcw N92_ ∧ ze N92_ 81 38 ≤ ze N92_ 81 43 ∧ ze N92_ 81 43 ≤ 30) from Or.inl (⟨(show 1 ≤ ze N92_ 81 7 by first | assumption | omega), (show zmu N92_ = 0 by first | assumption | omega)⟩)) (by omega)
                        · skip
                          show zW l m_M_formula (zn Mz + 0, zw Mz + 0) N92_ 49 [some (.ref 81), some (.int (Int32.ofInt u33_))] [.int (Int32.ofInt 0)] (zpV [3, 4, 5, 6, 7, 8, 11, 38, 39, 41, 42, 43] [95, 96, 97, 100] Mz (fun N => 0 ≤ ze N 81 3 ∧ ze N 81 3 ≤ ze N 81 2 ∧ zTv N ∧ (((1 ≤ ze N 81 7 ∧ zmu N = 0) ∨ (ze N 81 7 = 0 ∧ ze Mz 81 7 = 0 ∧ zmu N ≤ zmu Mz)))))
                          refine zr_if_ne (pc := 49) (tgt := 57) ⟨(by decide), (by decide)⟩ (by decide) d_M_formula_49 (fun hc_49 => ?_) (fun hc_49 => ?_)
                          · skip
                            exact absurd hc_49 (by decide)
                          · skip
                            refine zw_iconst (pc := 52) (v := Int32.ofInt 1) (by decide) d_M_formula_52 ?_
                            refine zw_istore_n (pc := 53) (i := 1) (L2 := [some (.ref 81), some (.int (Int32.ofInt 1))]) rfl (by decide) rfl d_M_formula_53 ?_
                            refine zw_goto (pc := 54) (tgt := 38) (by decide) d_M_formula_54 ?_
                            exact ih_38 1 (by decide) (by decide) (by omega) N92_ hb1_N92_ (show 0 ≤ ze N92_ 81 3 by first | assumption | omega) (show ze N92_ 81 3 ≤ ze N92_ 81 2 by first | assumption | omega) (show zmu N92_ ≤ zmu N17_ by first | assumption | omega) hp2_N92_ (show (1 ≤ ze N92_ 81 7 ∧ zmu N92_ = 0) ∨ (ze N92_ 81 7 = 0 ∧ ze N92_ 81 38 = zcw N92_ ∧ 0 ≤ ze N92_ 81 41 ∧ ze N92_ 81 41 - zcw N92_ ≤ ze N92_ 81 43 ∧ ze N92_ 81 42 = ze N92_ 81 41 - zcw N92_ ∧ ze N92_ 81 38 ≤ ze N92_ 81 43 ∧ ze N92_ 81 43 ≤ 30) from Or.inr (⟨(show ze N92_ 81 7 = 0 by first | assumption | omega), (show ze N92_ 81 38 = zcw N92_ by first | assumption | omega), (show 0 ≤ ze N92_ 81 41 by first | assumption | omega), (show ze N92_ 81 41 - zcw N92_ ≤ ze N92_ 81 43 by first | assumption | omega), (show ze N92_ 81 42 = ze N92_ 81 41 - zcw N92_ by first | assumption | omega), (show ze N92_ 81 38 ≤ ze N92_ 81 43 by first | assumption | omega), (show ze N92_ 81 43 ≤ 30 by first | assumption | omega)⟩)) (by omega)
                        · skip
                          show zW l m_M_formula (zn Mz + 0, zw Mz + 0) N92_ 49 [some (.ref 81), some (.int (Int32.ofInt u33_))] [.int (Int32.ofInt 1)] (zpV [3, 4, 5, 6, 7, 8, 11, 38, 39, 41, 42, 43] [95, 96, 97, 100] Mz (fun N => 0 ≤ ze N 81 3 ∧ ze N 81 3 ≤ ze N 81 2 ∧ zTv N ∧ (((1 ≤ ze N 81 7 ∧ zmu N = 0) ∨ (ze N 81 7 = 0 ∧ ze Mz 81 7 = 0 ∧ zmu N ≤ zmu Mz)))))
                          refine zr_if_ne (pc := 49) (tgt := 57) ⟨(by decide), (by decide)⟩ (by decide) d_M_formula_49 (fun hc_49 => ?_) (fun hc_49 => ?_)
                          · skip
                            refine zw_aload_n (pc := 57) (n := 0) (x := 81) rfl d_M_formula_57 ?_
                            refine zr_callV (hf_N92_.w hW) hf_N92_.x (pc := 58) [] [] l_M_183 (c_M_isGood l N92_ (hf_N92_.w hW) ) rfl rfl rfl (by decide) (Nat.le_of_ble_eq_true rfl) d_M_formula_58 ?_
                            rintro _ N95_ ⟨v96_, rfl, ⟨hv96_a, hv96_b⟩, hsN95_, hp0_N95_⟩
                            obtain rfl := hsN95_.eq.symm
                            replace hp0_N95_ : ((v96_ = 1 ∧ ze N92_ 81 7 = 0) ∨ (v96_ = 0 ∧ ze N92_ 81 7 ≠ 0)) := hp0_N95_
                            rcases hp0_N95_ with ⟨rfl, ha58_0_hp0_N95_⟩ | ⟨rfl, ha58_0_hp0_N95_⟩
                            · skip
                              exfalso; omega
                            · skip
                              show zW l m_M_formula (zn Mz + 0, zw Mz + 0) N92_ 61 [some (.ref 81), some (.int (Int32.ofInt u33_))] [.int (Int32.ofInt 0)] (zpV [3, 4, 5, 6, 7, 8, 11, 38, 39, 41, 42, 43] [95, 96, 97, 100] Mz (fun N => 0 ≤ ze N 81 3 ∧ ze N 81 3 ≤ ze N 81 2 ∧ zTv N ∧ (((1 ≤ ze N 81 7 ∧ zmu N = 0) ∨ (ze N 81 7 = 0 ∧ ze Mz 81 7 = 0 ∧ zmu N ≤ zmu Mz)))))
                              refine zr_if_eq (pc := 61) (tgt := 68) ⟨(by decide), (by decide)⟩ (by decide) d_M_formula_61 (fun hc_61 => ?_) (fun hc_61 => ?_)
                              · skip
                                refine zw_aload_n (pc := 68) (n := 0) (x := 81) rfl d_M_formula_68 ?_
                                refine zr_callV (hf_N92_.w hW) hf_N92_.x (pc := 69) [] [] l_M_183 (c_M_isGood l N92_ (hf_N92_.w hW) ) rfl rfl rfl (by decide) (Nat.le_of_ble_eq_true rfl) d_M_formula_69 ?_
                                rintro _ N97_ ⟨v98_, rfl, ⟨hv98_a, hv98_b⟩, hsN97_, hp0_N97_⟩
                                obtain rfl := hsN97_.eq.symm
                                replace hp0_N97_ : ((v98_ = 1 ∧ ze N92_ 81 7 = 0) ∨ (v98_ = 0 ∧ ze N92_ 81 7 ≠ 0)) := hp0_N97_
                                rcases hp0_N97_ with ⟨rfl, ha69_0_hp0_N97_⟩ | ⟨rfl, ha69_0_hp0_N97_⟩
                                · skip
                                  exfalso; omega
                                · skip
                                  show zW l m_M_formula (zn Mz + 0, zw Mz + 0) N92_ 72 [some (.ref 81), some (.int (Int32.ofInt u33_))] [.int (Int32.ofInt 0)] (zpV [3, 4, 5, 6, 7, 8, 11, 38, 39, 41, 42, 43] [95, 96, 97, 100] Mz (fun N => 0 ≤ ze N 81 3 ∧ ze N 81 3 ≤ ze N 81 2 ∧ zTv N ∧ (((1 ≤ ze N 81 7 ∧ zmu N = 0) ∨ (ze N 81 7 = 0 ∧ ze Mz 81 7 = 0 ∧ zmu N ≤ zmu Mz)))))
                                  refine zr_if_eq (pc := 72) (tgt := 86) ⟨(by decide), (by decide)⟩ (by decide) d_M_formula_72 (fun hc_72 => ?_) (fun hc_72 => ?_)
                                  · skip
                                    refine zw_iconst (pc := 86) (v := Int32.ofInt 0) (by decide) d_M_formula_86 ?_
                                    refine zw_istore_n (pc := 87) (i := 1) (L2 := [some (.ref 81), some (.int (Int32.ofInt 0))]) rfl (by decide) rfl d_M_formula_87 ?_
                                    have lp_88 : ∀ (n : Nat) (u99_ : Int) (hu99_a : -2147483648 ≤ u99_) (hu99_b : u99_ < 2147483648) (hu99_z : u99_ = 0 ∨ u99_ = 1) (N100_ : zMem) (hs101_ : zFr [3, 4, 5, 6, 7, 8, 11, 38, 39, 41, 42] [95, 96, 97, 100] N92_ N100_) (i102_ : 0 ≤ ze N100_ 81 3) (i103_ : ze N100_ 81 3 ≤ ze N100_ 81 2) (i104_ : zmu N100_ < zmu N17_) (i105_ : zTv N100_) (i106_ : (1 ≤ ze N100_ 81 7 ∧ zmu N100_ = 0) ∨ (u99_ = 1 ∧ ze N100_ 81 7 = 0 ∧ ze N100_ 81 38 = zcw N100_ ∧ 0 ≤ ze N100_ 81 41 ∧ ze N100_ 81 41 - zcw N100_ ≤ ze N100_ 81 43 ∧ ze N100_ 81 42 = ze N100_ 81 41 - zcw N100_ ∧ ze N100_ 81 38 ≤ ze N100_ 81 43 ∧ ze N100_ 81 43 ≤ 30) ∨ (u99_ = 0 ∧ ze N100_ 81 7 = 0 ∧ ze N100_ 81 38 = zcw N100_ + 1 ∧ 0 ≤ ze N100_ 81 41 ∧ ze N100_ 81 41 - zcw N100_ ≤ ze N100_ 81 43 ∧ ze N100_ 81 42 = ze N100_ 81 41 - zcw N100_ ∧ ze N100_ 81 38 ≤ ze N100_ 81 43 ∧ ze N100_ 81 43 ≤ 30)), (zmu N100_).toNat < n → zW l m_M_formula (zn Mz + 0, zw Mz + 0) N100_ 88 [some (.ref 81), some (.int (Int32.ofInt u99_))] [] (zpV [3, 4, 5, 6, 7, 8, 11, 38, 39, 41, 42, 43] [95, 96, 97, 100] Mz (fun N => 0 ≤ ze N 81 3 ∧ ze N 81 3 ≤ ze N 81 2 ∧ zTv N ∧ (((1 ≤ ze N 81 7 ∧ zmu N = 0) ∨ (ze N 81 7 = 0 ∧ ze Mz 81 7 = 0 ∧ zmu N ≤ zmu Mz))))) := by
                                      clear hu33_a hu33_b hu33_z hv91_a hv91_b hc_42 hv93_a hv93_b hc_49 hv96_a hv96_b hc_61 hv98_a hv98_b hc_72
                                      intro n
                                      induction n with
                                      | zero =>
                                        intro u99_ hu99_a hu99_b hu99_z N100_ hs101_ i102_ i103_ i104_ i105_ i106_ h0
                                        exact absurd h0 (Nat.not_lt_zero _)
                                      | succ n ih_88 =>
                                        intro u99_ hu99_a hu99_b hu99_z N100_ hs101_ i102_ i103_ i104_ i105_ i106_ hlt_88
                                        have hf_N100_ : zFr [3, 4, 5, 6, 7, 8, 11, 38, 39, 41, 42, 43] [95, 96, 97, 100] Mz N100_ := hf_N92_.tr hs101_ (by decide) (by decide)
                                        have hb0_N100_ : zFr [3, 4, 5, 6, 7, 8, 11, 38, 39, 41, 42, 43] [95, 96, 97, 100] N13_ N100_ := hb0_N92_.tr hs101_ (by decide) (by decide)
                                        have e2_N100_ : ze N100_ 81 2 = ze N92_ 81 2 := hs101_.e (by decide)
                                        have r3_N100_ := ze_r N100_ 81 3
                                        have r5_N100_ := ze_r N100_ 81 5
                                        have r6_N100_ := ze_r N100_ 81 6
                                        have r7_N100_ := ze_r N100_ 81 7
                                        have e14_N100_ : ze N100_ 81 14 = ze N92_ 81 14 := hs101_.e (by decide)
                                        have r38_N100_ := ze_r N100_ 81 38
                                        have r39_N100_ := ze_r N100_ 81 39
                                        have r41_N100_ := ze_r N100_ 81 41
                                        have r42_N100_ := ze_r N100_ 81 42
                                        have e43_N100_ : ze N100_ 81 43 = ze N92_ 81 43 := hs101_.e (by decide)
                                        have c107_ : zGD N100_ := zGD.fr hs101_ c94_ (by decide) (by decide)
                                        have zz2_N100_ : ze N100_ 81 2 = ze Mz 81 2 := hf_N100_.e (by decide)
                                        have zz14_N100_ : ze N100_ 81 14 = ze Mz 81 14 := hf_N100_.e (by decide)
                                        rcases i106_ with ⟨hl88_0_i106_, hl88_1_i106_⟩ | ⟨rfl, hl88_0_i106_, hl88_1_i106_, hl88_2_i106_, hl88_3_i106_, hl88_4_i106_, hl88_5_i106_, hl88_6_i106_⟩ | ⟨rfl, hl88_0_i106_, hl88_1_i106_, hl88_2_i106_, hl88_3_i106_, hl88_4_i106_, hl88_5_i106_, hl88_6_i106_⟩
                                        · skip
                                          refine zw_aload_n (pc := 88) (n := 0) (x := 81) rfl d_M_formula_88 ?_
                                          refine zr_callV (hf_N100_.w hW) hf_N100_.x (pc := 89) [] [] l_M_183 (c_M_isGood l N100_ (hf_N100_.w hW) ) rfl rfl rfl (by decide) (Nat.le_of_ble_eq_true rfl) d_M_formula_89 ?_
                                          rintro _ N108_ ⟨v109_, rfl, ⟨hv109_a, hv109_b⟩, hsN108_, hp0_N108_⟩
                                          obtain rfl := hsN108_.eq.symm
                                          replace hp0_N108_ : ((v109_ = 1 ∧ ze N100_ 81 7 = 0) ∨ (v109_ = 0 ∧ ze N100_ 81 7 ≠ 0)) := hp0_N108_
                                          rcases hp0_N108_ with ⟨rfl, ha89_0_hp0_N108_⟩ | ⟨rfl, ha89_0_hp0_N108_⟩
                                          · skip
                                            exfalso; omega
                                          · skip
                                            show zW l m_M_formula (zn Mz + 0, zw Mz + 0) N100_ 92 [some (.ref 81), some (.int (Int32.ofInt u99_))] [.int (Int32.ofInt 0)] (zpV [3, 4, 5, 6, 7, 8, 11, 38, 39, 41, 42, 43] [95, 96, 97, 100] Mz (fun N => 0 ≤ ze N 81 3 ∧ ze N 81 3 ≤ ze N 81 2 ∧ zTv N ∧ (((1 ≤ ze N 81 7 ∧ zmu N = 0) ∨ (ze N 81 7 = 0 ∧ ze Mz 81 7 = 0 ∧ zmu N ≤ zmu Mz)))))
                                            refine zr_if_eq (pc := 92) (tgt := 27) ⟨(by decide), (by decide)⟩ (by decide) d_M_formula_92 (fun hc_92 => ?_) (fun hc_92 => ?_)
                                            · skip
                                              exact ih_27 u99_ hu99_a hu99_b (by omega) N100_ hb0_N100_ (show 0 ≤ ze N100_ 81 3 by first | assumption | omega) (show ze N100_ 81 3 ≤ ze N100_ 81 2 by first | assumption | omega) (show zmu N100_ ≤ zmu Mz by first | assumption | omega) i105_ (show (1 ≤ ze N100_ 81 7 ∧ zmu N100_ = 0) ∨ (u99_ = 1 ∧ ze N100_ 81 7 = 0 ∧ ze N100_ 81 38 = zcw N100_ ∧ 0 ≤ ze N100_ 81 41 ∧ ze N100_ 81 41 - zcw N100_ ≤ ze N100_ 81 43 ∧ ze N100_ 81 42 = ze N100_ 81 41 - zcw N100_ ∧ ze N100_ 81 38 ≤ ze N100_ 81 43 ∧ ze N100_ 81 43 ≤ 30) ∨ (u99_ = 0 ∧ ze N100_ 81 7 = 0 ∧ ze N100_ 81 38 = zcw N100_ + 1 ∧ 0 ≤ ze N100_ 81 41 ∧ ze N100_ 81 41 - zcw N100_ ≤ ze N100_ 81 43 ∧ ze N100_ 81 42 = ze N100_ 81 41 - zcw N100_ ∧ ze N100_ 81 38 ≤ ze N100_ 81 43 ∧ ze N100_ 81 43 ≤ 30) from Or.inl (⟨(show 1 ≤ ze N100_ 81 7 by first | assumption | omega), (show zmu N100_ = 0 by first | assumption | omega)⟩)) (by omega)
                                            · skip
                                              exact absurd hc_92 (by decide)
                                        · skip
                                          have hz_N100_ := zmu_p N100_ (by omega) (by omega)
                                          have hx_N100_ := zcw_b N100_ (by omega)
                                          refine zw_aload_n (pc := 88) (n := 0) (x := 81) rfl d_M_formula_88 ?_
                                          refine zr_callV (hf_N100_.w hW) hf_N100_.x (pc := 89) [] [] l_M_183 (c_M_isGood l N100_ (hf_N100_.w hW) ) rfl rfl rfl (by decide) (Nat.le_of_ble_eq_true rfl) d_M_formula_89 ?_
                                          rintro _ N110_ ⟨v111_, rfl, ⟨hv111_a, hv111_b⟩, hsN110_, hp0_N110_⟩
                                          obtain rfl := hsN110_.eq.symm
                                          replace hp0_N110_ : ((v111_ = 1 ∧ ze N100_ 81 7 = 0) ∨ (v111_ = 0 ∧ ze N100_ 81 7 ≠ 0)) := hp0_N110_
                                          rcases hp0_N110_ with ⟨rfl, ha89_0_hp0_N110_⟩ | ⟨rfl, ha89_0_hp0_N110_⟩
                                          · skip
                                            show zW l m_M_formula (zn Mz + 0, zw Mz + 0) N100_ 92 [some (.ref 81), some (.int (Int32.ofInt 1))] [.int (Int32.ofInt 1)] (zpV [3, 4, 5, 6, 7, 8, 11, 38, 39, 41, 42, 43] [95, 96, 97, 100] Mz (fun N => 0 ≤ ze N 81 3 ∧ ze N 81 3 ≤ ze N 81 2 ∧ zTv N ∧ (((1 ≤ ze N 81 7 ∧ zmu N = 0) ∨ (ze N 81 7 = 0 ∧ ze Mz 81 7 = 0 ∧ zmu N ≤ zmu Mz)))))
                                            refine zr_if_eq (pc := 92) (tgt := 27) ⟨(by decide), (by decide)⟩ (by decide) d_M_formula_92 (fun hc_92 => ?_) (fun hc_92 => ?_)
                                            · skip
                                              exact absurd hc_92 (by decide)
                                            · skip
                                              refine zw_iload_n (pc := 95) (n := 1) (x := Int32.ofInt 1) rfl d_M_formula_95 ?_
                                              refine zr_if_ne (pc := 96) (tgt := 27) ⟨(by decide), (by decide)⟩ (by decide) d_M_formula_96 (fun hc_96 => ?_) (fun hc_96 => ?_)
                                              · skip
                                                exact ih_27 1 (by decide) (by decide) (by omega) N100_ hb0_N100_ (show 0 ≤ ze N100_ 81 3 by first | assumption | omega) (show ze N100_ 81 3 ≤ ze N100_ 81 2 by first | assumption | omega) (show zmu N100_ ≤ zmu Mz by first | assumption | omega) i105_ (show (1 ≤ ze N100_ 81 7 ∧ zmu N100_ = 0) ∨ (1 = 1 ∧ ze N100_ 81 7 = 0 ∧ ze N100_ 81 38 = zcw N100_ ∧ 0 ≤ ze N100_ 81 41 ∧ ze N100_ 81 41 - zcw N100_ ≤ ze N100_ 81 43 ∧ ze N100_ 81 42 = ze N100_ 81 41 - zcw N100_ ∧ ze N100_ 81 38 ≤ ze N100_ 81 43 ∧ ze N100_ 81 43 ≤ 30) ∨ (1 = 0 ∧ ze N100_ 81 7 = 0 ∧ ze N100_ 81 38 = zcw N100_ + 1 ∧ 0 ≤ ze N100_ 81 41 ∧ ze N100_ 81 41 - zcw N100_ ≤ ze N100_ 81 43 ∧ ze N100_ 81 42 = ze N100_ 81 41 - zcw N100_ ∧ ze N100_ 81 38 ≤ ze N100_ 81 43 ∧ ze N100_ 81 43 ≤ 30) from Or.inr (Or.inl (⟨(show 1 = 1 by first | assumption | omega), (show ze N100_ 81 7 = 0 by first | assumption | omega), (show ze N100_ 81 38 = zcw N100_ by first | assumption | omega), (show 0 ≤ ze N100_ 81 41 by first | assumption | omega), (show ze N100_ 81 41 - zcw N100_ ≤ ze N100_ 81 43 by first | assumption | omega), (show ze N100_ 81 42 = ze N100_ 81 41 - zcw N100_ by first | assumption | omega), (show ze N100_ 81 38 ≤ ze N100_ 81 43 by first | assumption | omega), (show ze N100_ 81 43 ≤ 30 by first | assumption | omega)⟩))) (by omega)
                                              · skip
                                                exact absurd hc_96 (by decide)
                                          · skip
                                            exfalso; omega
                                        · skip
                                          have hz_N100_ := zmu_p N100_ (by omega) (by omega)
                                          have hx_N100_ := zcw_b N100_ (by omega)
                                          refine zw_aload_n (pc := 88) (n := 0) (x := 81) rfl d_M_formula_88 ?_
                                          refine zr_callV (hf_N100_.w hW) hf_N100_.x (pc := 89) [] [] l_M_183 (c_M_isGood l N100_ (hf_N100_.w hW) ) rfl rfl rfl (by decide) (Nat.le_of_ble_eq_true rfl) d_M_formula_89 ?_
                                          rintro _ N112_ ⟨v113_, rfl, ⟨hv113_a, hv113_b⟩, hsN112_, hp0_N112_⟩
                                          obtain rfl := hsN112_.eq.symm
                                          replace hp0_N112_ : ((v113_ = 1 ∧ ze N100_ 81 7 = 0) ∨ (v113_ = 0 ∧ ze N100_ 81 7 ≠ 0)) := hp0_N112_
                                          rcases hp0_N112_ with ⟨rfl, ha89_0_hp0_N112_⟩ | ⟨rfl, ha89_0_hp0_N112_⟩
                                          · skip
                                            show zW l m_M_formula (zn Mz + 0, zw Mz + 0) N100_ 92 [some (.ref 81), some (.int (Int32.ofInt 0))] [.int (Int32.ofInt 1)] (zpV [3, 4, 5, 6, 7, 8, 11, 38, 39, 41, 42, 43] [95, 96, 97, 100] Mz (fun N => 0 ≤ ze N 81 3 ∧ ze N 81 3 ≤ ze N 81 2 ∧ zTv N ∧ (((1 ≤ ze N 81 7 ∧ zmu N = 0) ∨ (ze N 81 7 = 0 ∧ ze Mz 81 7 = 0 ∧ zmu N ≤ zmu Mz)))))
                                            refine zr_if_eq (pc := 92) (tgt := 27) ⟨(by decide), (by decide)⟩ (by decide) d_M_formula_92 (fun hc_92 => ?_) (fun hc_92 => ?_)
                                            · skip
                                              exact absurd hc_92 (by decide)
                                            · skip
                                              refine zw_iload_n (pc := 95) (n := 1) (x := Int32.ofInt 0) rfl d_M_formula_95 ?_
                                              refine zr_if_ne (pc := 96) (tgt := 27) ⟨(by decide), (by decide)⟩ (by decide) d_M_formula_96 (fun hc_96 => ?_) (fun hc_96 => ?_)
                                              · skip
                                                exact absurd hc_96 (by decide)
                                              · skip
                                                refine zw_aload_n (pc := 99) (n := 0) (x := 81) rfl d_M_formula_99 ?_
                                                refine zw_bipush (pc := 100) (v := Int32.ofInt 41) (by decide) d_M_formula_100 ?_
                                                refine zr_callV (hf_N100_.w hW) hf_N100_.x (pc := 102) [.int (Int32.ofInt 41)] [] l_M_187 (c_M_isSignHere l N100_ (hf_N100_.w hW) 41 (by decide) (by decide)) rfl rfl rfl (by decide) (Nat.le_of_ble_eq_true rfl) d_M_formula_102 ?_
                                                rintro _ N114_ ⟨v115_, rfl, ⟨hv115_a, hv115_b⟩, hsN114_, hp0_N114_⟩
                                                obtain rfl := hsN114_.eq.symm
                                                replace hp0_N114_ : ((v115_ = 1 ∧ ze N100_ 81 7 = 0 ∧ ze N100_ 81 5 = 3 ∧ ze N100_ 81 6 = 41) ∨ (v115_ = 0)) := hp0_N114_
                                                rcases hp0_N114_ with ⟨rfl, ha102_0_hp0_N114_, ha102_1_hp0_N114_, ha102_2_hp0_N114_⟩ | rfl
                                                · skip
                                                  show zW l m_M_formula (zn Mz + 0, zw Mz + 0) N100_ 105 [some (.ref 81), some (.int (Int32.ofInt 0))] [.int (Int32.ofInt 1)] (zpV [3, 4, 5, 6, 7, 8, 11, 38, 39, 41, 42, 43] [95, 96, 97, 100] Mz (fun N => 0 ≤ ze N 81 3 ∧ ze N 81 3 ≤ ze N 81 2 ∧ zTv N ∧ (((1 ≤ ze N 81 7 ∧ zmu N = 0) ∨ (ze N 81 7 = 0 ∧ ze Mz 81 7 = 0 ∧ zmu N ≤ zmu Mz)))))
                                                  refine zr_if_eq (pc := 105) (tgt := 27) ⟨(by decide), (by decide)⟩ (by decide) d_M_formula_105 (fun hc_105 => ?_) (fun hc_105 => ?_)
                                                  · skip
                                                    exact absurd hc_105 (by decide)
                                                  · skip
                                                    refine zw_aload_n (pc := 108) (n := 0) (x := 81) rfl d_M_formula_108 ?_
                                                    refine zr_callV (hf_N100_.w hW) hf_N100_.x (pc := 109) [] [] l_M_352 (c_M_isOpen l N100_ (hf_N100_.w hW) (show 0 ≤ ze N100_ 81 41 by first | assumption | omega) (show ze N100_ 81 41 ≤ 80 by first | assumption | omega)) rfl rfl rfl (by decide) (Nat.le_of_ble_eq_true rfl) d_M_formula_109 ?_
                                                    rintro _ N116_ ⟨v117_, rfl, ⟨hv117_a, hv117_b⟩, hsN116_, hp0_N116_⟩
                                                    obtain rfl := hsN116_.eq.symm
                                                    replace hp0_N116_ : ((v117_ = 1 ∧ zcw N100_ ≤ ze N100_ 81 41 - 1) ∨ (v117_ = 0)) := hp0_N116_
                                                    rcases hp0_N116_ with ⟨rfl, ha109_0_hp0_N116_⟩ | rfl
                                                    · skip
                                                      show zW l m_M_formula (zn Mz + 0, zw Mz + 0) N100_ 112 [some (.ref 81), some (.int (Int32.ofInt 0))] [.int (Int32.ofInt 1)] (zpV [3, 4, 5, 6, 7, 8, 11, 38, 39, 41, 42, 43] [95, 96, 97, 100] Mz (fun N => 0 ≤ ze N 81 3 ∧ ze N 81 3 ≤ ze N 81 2 ∧ zTv N ∧ (((1 ≤ ze N 81 7 ∧ zmu N = 0) ∨ (ze N 81 7 = 0 ∧ ze Mz 81 7 = 0 ∧ zmu N ≤ zmu Mz)))))
                                                      refine zr_if_eq (pc := 112) (tgt := 27) ⟨(by decide), (by decide)⟩ (by decide) d_M_formula_112 (fun hc_112 => ?_) (fun hc_112 => ?_)
                                                      · skip
                                                        exact absurd hc_112 (by decide)
                                                      · skip
                                                        refine zw_aload_n (pc := 115) (n := 0) (x := 81) rfl d_M_formula_115 ?_
                                                        refine zw_iconst (pc := 116) (v := Int32.ofInt 2) (by decide) d_M_formula_116 ?_
                                                        refine zr_callV (hf_N100_.w hW) hf_N100_.x (pc := 117) [.int (Int32.ofInt 2)] [] l_M_337 (c_M_works l N100_ (hf_N100_.w hW) 2 (by decide) (by decide) c107_ (show 2 ≤ 2 by first | assumption | omega) (show 0 ≤ ze N100_ 81 41 by first | assumption | omega) (show ze N100_ 81 41 ≤ 80 by first | assumption | omega) (show ze N100_ 81 38 = zcw N100_ + 1 by first | assumption | omega) (show ze N100_ 81 38 ≤ 40 by first | assumption | omega)) rfl rfl rfl (by decide) (Nat.le_of_ble_eq_true rfl) d_M_formula_117 ?_
                                                        rintro _ N118_ ⟨rfl, hsN118_, ⟨hp0_N118_, hp1_N118_, hp2_N118_, hp3_N118_, hp4_N118_, hp5_N118_⟩⟩
                                                        have hf_N118_ : zFr [3, 4, 5, 6, 7, 8, 11, 38, 39, 41, 42, 43] [95, 96, 97, 100] Mz N118_ := hf_N100_.tr hsN118_ (by decide) (by decide)
                                                        have hb0_N118_ : zFr [3, 4, 5, 6, 7, 8, 11, 38, 39, 41, 42, 43] [95, 96, 97, 100] N13_ N118_ := hb0_N100_.tr hsN118_ (by decide) (by decide)
                                                        have hb1_N118_ : zFr [3, 4, 5, 6, 7, 8, 11, 38, 39, 41, 42] [95, 96, 97, 100] N92_ N118_ := hs101_.tr hsN118_ (by decide) (by decide)
                                                        have e2_N118_ : ze N118_ 81 2 = ze N100_ 81 2 := hsN118_.e (by decide)
                                                        have e3_N118_ : ze N118_ 81 3 = ze N100_ 81 3 := hsN118_.e (by decide)
                                                        have e5_N118_ : ze N118_ 81 5 = ze N100_ 81 5 := hsN118_.e (by decide)
                                                        have e6_N118_ : ze N118_ 81 6 = ze N100_ 81 6 := hsN118_.e (by decide)
                                                        have e7_N118_ : ze N118_ 81 7 = ze N100_ 81 7 := hsN118_.e (by decide)
                                                        have e14_N118_ : ze N118_ 81 14 = ze N100_ 81 14 := hsN118_.e (by decide)
                                                        have r38_N118_ := ze_r N118_ 81 38
                                                        have r39_N118_ := ze_r N118_ 81 39
                                                        have r41_N118_ := ze_r N118_ 81 41
                                                        have e42_N118_ : ze N118_ 81 42 = ze N100_ 81 42 := hsN118_.e (by decide)
                                                        have e43_N118_ : ze N118_ 81 43 = ze N100_ 81 43 := hsN118_.e (by decide)
                                                        have qzmu_N118_ : zmu N118_ = zmu N100_ := zmu_f hsN118_ (by decide)
                                                        have c120_ : zGD N118_ := zGD.fr hsN118_ c107_ (by decide) (by decide)
                                                        have c121_ : zTv N118_ := zTv.fr hsN118_ i105_ (by decide) (by decide)
                                                        show zW l m_M_formula (zn Mz + 0, zw Mz + 0) N118_ 120 [some (.ref 81), some (.int (Int32.ofInt 0))] [] (zpV [3, 4, 5, 6, 7, 8, 11, 38, 39, 41, 42, 43] [95, 96, 97, 100] Mz (fun N => 0 ≤ ze N 81 3 ∧ ze N 81 3 ≤ ze N 81 2 ∧ zTv N ∧ (((1 ≤ ze N 81 7 ∧ zmu N = 0) ∨ (ze N 81 7 = 0 ∧ ze Mz 81 7 = 0 ∧ zmu N ≤ zmu Mz)))))
                                                        have hx_N118_ := zcw_b N118_ (by omega)
                                                        refine zw_aload_n (pc := 120) (n := 0) (x := 81) rfl d_M_formula_120 ?_
                                                        refine zw_dup (pc := 121) rfl d_M_formula_121 ?_
                                                        refine zr_getI (hf_N118_.w hW) (pc := 122) f_M_305 rfl d_M_formula_122 ?_
                                                        refine zw_iconst (pc := 125) (v := Int32.ofInt 1) (by decide) d_M_formula_125 ?_
                                                        refine zr_isub (pc := 126) d_M_formula_126 ?_
                                                        refine zr_putI (hf_N118_.w hW) (pc := 127) f_M_305 rfl rfl ⟨by omega, by omega⟩ rfl rfl d_M_formula_127 (fun N122_ hsN122_ hvN122_ => ?_)
                                                        have hf_N122_ : zFr [3, 4, 5, 6, 7, 8, 11, 38, 39, 41, 42, 43] [95, 96, 97, 100] Mz N122_ := hf_N118_.tr hsN122_ (by decide) (by decide)
                                                        have hb0_N122_ : zFr [3, 4, 5, 6, 7, 8, 11, 38, 39, 41, 42, 43] [95, 96, 97, 100] N13_ N122_ := hb0_N118_.tr hsN122_ (by decide) (by decide)
                                                        have hb1_N122_ : zFr [3, 4, 5, 6, 7, 8, 11, 38, 39, 41, 42] [95, 96, 97, 100] N92_ N122_ := hb1_N118_.tr hsN122_ (by decide) (by decide)
                                                        have e2_N122_ : ze N122_ 81 2 = ze N118_ 81 2 := hsN122_.e (by decide)
                                                        have e3_N122_ : ze N122_ 81 3 = ze N118_ 81 3 := hsN122_.e (by decide)
                                                        have e5_N122_ : ze N122_ 81 5 = ze N118_ 81 5 := hsN122_.e (by decide)
                                                        have e6_N122_ : ze N122_ 81 6 = ze N118_ 81 6 := hsN122_.e (by decide)
                                                        have e7_N122_ : ze N122_ 81 7 = ze N118_ 81 7 := hsN122_.e (by decide)
                                                        have e14_N122_ : ze N122_ 81 14 = ze N118_ 81 14 := hsN122_.e (by decide)
                                                        have e38_N122_ : ze N122_ 81 38 = ze N118_ 81 38 := hsN122_.e (by decide)
                                                        have e39_N122_ : ze N122_ 81 39 = ze N118_ 81 39 := hsN122_.e (by decide)
                                                        have r41_N122_ := ze_r N122_ 81 41
                                                        have e42_N122_ : ze N122_ 81 42 = ze N118_ 81 42 := hsN122_.e (by decide)
                                                        have e43_N122_ : ze N122_ 81 43 = ze N118_ 81 43 := hsN122_.e (by decide)
                                                        have qzmu_N122_ : zmu N122_ = zmu N118_ := zmu_f hsN122_ (by decide)
                                                        have c123_ : zGD N122_ := zGD.fr hsN122_ c120_ (by decide) (by decide)
                                                        have c124_ : zTv N122_ := zTv.fr hsN122_ c121_ (by decide) (by decide)
                                                        have hd_N122_ := zcw_dec hsN122_ hvN122_ (by omega)
                                                        have hy_N122_ := zcw_b N122_ (by omega)
                                                        have hi_N122_ := hsN118_.ie (q := 100) (by decide) (by decide) (ze N118_ 81 41 - 1).toNat
                                                        refine zw_aload_n (pc := 130) (n := 0) (x := 81) rfl d_M_formula_130 ?_
                                                        refine zw_dup (pc := 131) rfl d_M_formula_131 ?_
                                                        refine zr_getI (hf_N122_.w hW) (pc := 132) f_M_296 rfl d_M_formula_132 ?_
                                                        refine zw_iconst (pc := 135) (v := Int32.ofInt 1) (by decide) d_M_formula_135 ?_
                                                        refine zr_isub (pc := 136) d_M_formula_136 ?_
                                                        refine zr_putI (hf_N122_.w hW) (pc := 137) f_M_296 rfl rfl ⟨by omega, by omega⟩ rfl rfl d_M_formula_137 (fun N125_ hsN125_ hvN125_ => ?_)
                                                        have hf_N125_ : zFr [3, 4, 5, 6, 7, 8, 11, 38, 39, 41, 42, 43] [95, 96, 97, 100] Mz N125_ := hf_N122_.tr hsN125_ (by decide) (by decide)
                                                        have hb0_N125_ : zFr [3, 4, 5, 6, 7, 8, 11, 38, 39, 41, 42, 43] [95, 96, 97, 100] N13_ N125_ := hb0_N122_.tr hsN125_ (by decide) (by decide)
                                                        have hb1_N125_ : zFr [3, 4, 5, 6, 7, 8, 11, 38, 39, 41, 42] [95, 96, 97, 100] N92_ N125_ := hb1_N122_.tr hsN125_ (by decide) (by decide)
                                                        have e2_N125_ : ze N125_ 81 2 = ze N122_ 81 2 := hsN125_.e (by decide)
                                                        have e3_N125_ : ze N125_ 81 3 = ze N122_ 81 3 := hsN125_.e (by decide)
                                                        have e5_N125_ : ze N125_ 81 5 = ze N122_ 81 5 := hsN125_.e (by decide)
                                                        have e6_N125_ : ze N125_ 81 6 = ze N122_ 81 6 := hsN125_.e (by decide)
                                                        have e7_N125_ : ze N125_ 81 7 = ze N122_ 81 7 := hsN125_.e (by decide)
                                                        have e14_N125_ : ze N125_ 81 14 = ze N122_ 81 14 := hsN125_.e (by decide)
                                                        have e38_N125_ : ze N125_ 81 38 = ze N122_ 81 38 := hsN125_.e (by decide)
                                                        have e39_N125_ : ze N125_ 81 39 = ze N122_ 81 39 := hsN125_.e (by decide)
                                                        have e41_N125_ : ze N125_ 81 41 = ze N122_ 81 41 := hsN125_.e (by decide)
                                                        have r42_N125_ := ze_r N125_ 81 42
                                                        have e43_N125_ : ze N125_ 81 43 = ze N122_ 81 43 := hsN125_.e (by decide)
                                                        have qzcw_N125_ : zcw N125_ = zcw N122_ := zcw_f hsN125_ (by decide)
                                                        have qzmu_N125_ : zmu N125_ = zmu N122_ := zmu_f hsN125_ (by decide)
                                                        have c126_ : zGD N125_ := zGD.fr hsN125_ c123_ (by decide) (by decide)
                                                        have c127_ : zTv N125_ := zTv.fr hsN125_ c124_ (by decide) (by decide)
                                                        refine zw_aload_n (pc := 140) (n := 0) (x := 81) rfl d_M_formula_140 ?_
                                                        refine zr_callV (hf_N125_.w hW) hf_N125_.x (pc := 141) [] [] l_M_193 (c_M_goOn l N125_ (hf_N125_.w hW) (show 0 ≤ ze N125_ 81 3 by first | assumption | omega) (show ze N125_ 81 3 ≤ ze N125_ 81 2 by first | assumption | omega) (show ze N125_ 81 2 ≤ 700 by first | assumption | omega) (show ze N125_ 81 5 ≠ 0 by first | assumption | omega) (show ze N125_ 81 7 = 0 by first | assumption | omega)) rfl rfl rfl (by decide) (Nat.le_of_ble_eq_true rfl) d_M_formula_141 ?_
                                                        rintro _ N128_ ⟨rfl, hsN128_, ⟨hp0_N128_, hp1_N128_, hp2_N128_, hp3_N128_, hp4_N128_⟩⟩
                                                        have hf_N128_ : zFr [3, 4, 5, 6, 7, 8, 11, 38, 39, 41, 42, 43] [95, 96, 97, 100] Mz N128_ := hf_N125_.tr hsN128_ (by decide) (by decide)
                                                        have hb0_N128_ : zFr [3, 4, 5, 6, 7, 8, 11, 38, 39, 41, 42, 43] [95, 96, 97, 100] N13_ N128_ := hb0_N125_.tr hsN128_ (by decide) (by decide)
                                                        have hb1_N128_ : zFr [3, 4, 5, 6, 7, 8, 11, 38, 39, 41, 42] [95, 96, 97, 100] N92_ N128_ := hb1_N125_.tr hsN128_ (by decide) (by decide)
                                                        have e2_N128_ : ze N128_ 81 2 = ze N125_ 81 2 := hsN128_.e (by decide)
                                                        have r3_N128_ := ze_r N128_ 81 3
                                                        have r5_N128_ := ze_r N128_ 81 5
                                                        have r6_N128_ := ze_r N128_ 81 6
                                                        have e7_N128_ : ze N128_ 81 7 = ze N125_ 81 7 := hsN128_.e (by decide)
                                                        have e14_N128_ : ze N128_ 81 14 = ze N125_ 81 14 := hsN128_.e (by decide)
                                                        have e38_N128_ : ze N128_ 81 38 = ze N125_ 81 38 := hsN128_.e (by decide)
                                                        have e39_N128_ : ze N128_ 81 39 = ze N125_ 81 39 := hsN128_.e (by decide)
                                                        have e41_N128_ : ze N128_ 81 41 = ze N125_ 81 41 := hsN128_.e (by decide)
                                                        have e42_N128_ : ze N128_ 81 42 = ze N125_ 81 42 := hsN128_.e (by decide)
                                                        have e43_N128_ : ze N128_ 81 43 = ze N125_ 81 43 := hsN128_.e (by decide)
                                                        have qzcw_N128_ : zcw N128_ = zcw N125_ := zcw_f hsN128_ (by decide)
                                                        have c130_ : zGD N128_ := zGD.fr hsN128_ c126_ (by decide) (by decide)
                                                        show zW l m_M_formula (zn Mz + 0, zw Mz + 0) N128_ 144 [some (.ref 81), some (.int (Int32.ofInt 0))] [] (zpV [3, 4, 5, 6, 7, 8, 11, 38, 39, 41, 42, 43] [95, 96, 97, 100] Mz (fun N => 0 ≤ ze N 81 3 ∧ ze N 81 3 ≤ ze N 81 2 ∧ zTv N ∧ (((1 ≤ ze N 81 7 ∧ zmu N = 0) ∨ (ze N 81 7 = 0 ∧ ze Mz 81 7 = 0 ∧ zmu N ≤ zmu Mz)))))
                                                        refine zw_aload_n (pc := 144) (n := 0) (x := 81) rfl d_M_formula_144 ?_
                                                        refine zr_callV (hf_N128_.w hW) hf_N128_.x (pc := 145) [] [] l_M_346 (c_M_closes l N128_ (hf_N128_.w hW) c130_ (show 0 ≤ ze N128_ 81 3 by first | assumption | omega) (show ze N128_ 81 3 ≤ ze N128_ 81 2 by first | assumption | omega) (show ze N128_ 81 2 ≤ 700 by first | assumption | omega) hp2_N128_ (show ze N128_ 81 7 = 0 by first | assumption | omega) (show 1 ≤ ze N128_ 81 38 by first | assumption | omega) (show ze N128_ 81 38 ≤ 40 by first | assumption | omega) (show 0 ≤ ze N128_ 81 41 by first | assumption | omega) (show ze N128_ 81 41 ≤ 80 by first | assumption | omega) (show ze N128_ 81 42 = ze N128_ 81 41 - zcw N128_ by first | assumption | omega)) rfl rfl rfl (by decide) (Nat.le_of_ble_eq_true rfl) d_M_formula_145 ?_
                                                        rintro _ N131_ ⟨rfl, hsN131_, ⟨hp0_N131_, hp1_N131_, hp2_N131_, hp3_N131_, hp4_N131_, hp5_N131_, hp6_N131_, hp7_N131_, hp8_N131_⟩⟩
                                                        have hf_N131_ : zFr [3, 4, 5, 6, 7, 8, 11, 38, 39, 41, 42, 43] [95, 96, 97, 100] Mz N131_ := hf_N128_.tr hsN131_ (by decide) (by decide)
                                                        have hb0_N131_ : zFr [3, 4, 5, 6, 7, 8, 11, 38, 39, 41, 42, 43] [95, 96, 97, 100] N13_ N131_ := hb0_N128_.tr hsN131_ (by decide) (by decide)
                                                        have hb1_N131_ : zFr [3, 4, 5, 6, 7, 8, 11, 38, 39, 41, 42] [95, 96, 97, 100] N92_ N131_ := hb1_N128_.tr hsN131_ (by decide) (by decide)
                                                        have e2_N131_ : ze N131_ 81 2 = ze N128_ 81 2 := hsN131_.e (by decide)
                                                        have r3_N131_ := ze_r N131_ 81 3
                                                        have r5_N131_ := ze_r N131_ 81 5
                                                        have r6_N131_ := ze_r N131_ 81 6
                                                        have r7_N131_ := ze_r N131_ 81 7
                                                        have e14_N131_ : ze N131_ 81 14 = ze N128_ 81 14 := hsN131_.e (by decide)
                                                        have e38_N131_ : ze N131_ 81 38 = ze N128_ 81 38 := hsN131_.e (by decide)
                                                        have r39_N131_ := ze_r N131_ 81 39
                                                        have r41_N131_ := ze_r N131_ 81 41
                                                        have r42_N131_ := ze_r N131_ 81 42
                                                        have e43_N131_ : ze N131_ 81 43 = ze N128_ 81 43 := hsN131_.e (by decide)
                                                        have c133_ : zGD N131_ := zGD.fr hsN131_ c130_ (by decide) (by decide)
                                                        rcases hp8_N131_ with ⟨ha145_0_hp8_N131_, ha145_1_hp8_N131_⟩ | ⟨ha145_0_hp8_N131_, ha145_1_hp8_N131_, ha145_2_hp8_N131_⟩
                                                        · skip
                                                          show zW l m_M_formula (zn Mz + 0, zw Mz + 0) N131_ 148 [some (.ref 81), some (.int (Int32.ofInt 0))] [] (zpV [3, 4, 5, 6, 7, 8, 11, 38, 39, 41, 42, 43] [95, 96, 97, 100] Mz (fun N => 0 ≤ ze N 81 3 ∧ ze N 81 3 ≤ ze N 81 2 ∧ zTv N ∧ (((1 ≤ ze N 81 7 ∧ zmu N = 0) ∨ (ze N 81 7 = 0 ∧ ze Mz 81 7 = 0 ∧ zmu N ≤ zmu Mz)))))
                                                          refine zw_aload_n (pc := 148) (n := 0) (x := 81) rfl d_M_formula_148 ?_
                                                          refine zr_callV (hf_N131_.w hW) hf_N131_.x (pc := 149) [] [] l_M_183 (c_M_isGood l N131_ (hf_N131_.w hW) ) rfl rfl rfl (by decide) (Nat.le_of_ble_eq_true rfl) d_M_formula_149 ?_
                                                          rintro _ N134_ ⟨v135_, rfl, ⟨hv135_a, hv135_b⟩, hsN134_, hp0_N134_⟩
                                                          obtain rfl := hsN134_.eq.symm
                                                          replace hp0_N134_ : ((v135_ = 1 ∧ ze N131_ 81 7 = 0) ∨ (v135_ = 0 ∧ ze N131_ 81 7 ≠ 0)) := hp0_N134_
                                                          rcases hp0_N134_ with ⟨rfl, ha149_0_hp0_N134_⟩ | ⟨rfl, ha149_0_hp0_N134_⟩
                                                          · skip
                                                            exfalso; omega
                                                          · skip
                                                            show zW l m_M_formula (zn Mz + 0, zw Mz + 0) N131_ 152 [some (.ref 81), some (.int (Int32.ofInt 0))] [.int (Int32.ofInt 0)] (zpV [3, 4, 5, 6, 7, 8, 11, 38, 39, 41, 42, 43] [95, 96, 97, 100] Mz (fun N => 0 ≤ ze N 81 3 ∧ ze N 81 3 ≤ ze N 81 2 ∧ zTv N ∧ (((1 ≤ ze N 81 7 ∧ zmu N = 0) ∨ (ze N 81 7 = 0 ∧ ze Mz 81 7 = 0 ∧ zmu N ≤ zmu Mz)))))
                                                            refine zr_if_eq (pc := 152) (tgt := 166) ⟨(by decide), (by decide)⟩ (by decide) d_M_formula_152 (fun hc_152 => ?_) (fun hc_152 => ?_)
                                                            · skip
                                                              refine zw_iconst (pc := 166) (v := Int32.ofInt 0) (by decide) d_M_formula_166 ?_
                                                              refine zw_istore_n (pc := 167) (i := 1) (L2 := [some (.ref 81), some (.int (Int32.ofInt 0))]) rfl (by decide) rfl d_M_formula_167 ?_
                                                              refine zw_goto (pc := 168) (tgt := 88) (by decide) d_M_formula_168 ?_
                                                              exact ih_88 0 (by decide) (by decide) (by omega) N131_ hb1_N131_ (show 0 ≤ ze N131_ 81 3 by first | assumption | omega) (show ze N131_ 81 3 ≤ ze N131_ 81 2 by first | assumption | omega) (show zmu N131_ < zmu N17_ by first | assumption | omega) hp2_N131_ (show (1 ≤ ze N131_ 81 7 ∧ zmu N131_ = 0) ∨ (0 = 1 ∧ ze N131_ 81 7 = 0 ∧ ze N131_ 81 38 = zcw N131_ ∧ 0 ≤ ze N131_ 81 41 ∧ ze N131_ 81 41 - zcw N131_ ≤ ze N131_ 81 43 ∧ ze N131_ 81 42 = ze N131_ 81 41 - zcw N131_ ∧ ze N131_ 81 38 ≤ ze N131_ 81 43 ∧ ze N131_ 81 43 ≤ 30) ∨ (0 = 0 ∧ ze N131_ 81 7 = 0 ∧ ze N131_ 81 38 = zcw N131_ + 1 ∧ 0 ≤ ze N131_ 81 41 ∧ ze N131_ 81 41 - zcw N131_ ≤ ze N131_ 81 43 ∧ ze N131_ 81 42 = ze N131_ 81 41 - zcw N131_ ∧ ze N131_ 81 38 ≤ ze N131_ 81 43 ∧ ze N131_ 81 43 ≤ 30) from Or.inl (⟨(show 1 ≤ ze N131_ 81 7 by first | assumption | omega), (show zmu N131_ = 0 by first | assumption | omega)⟩)) (by omega)
                                                            · skip
                                                              exact absurd hc_152 (by decide)
                                                        · skip
                                                          show zW l m_M_formula (zn Mz + 0, zw Mz + 0) N131_ 148 [some (.ref 81), some (.int (Int32.ofInt 0))] [] (zpV [3, 4, 5, 6, 7, 8, 11, 38, 39, 41, 42, 43] [95, 96, 97, 100] Mz (fun N => 0 ≤ ze N 81 3 ∧ ze N 81 3 ≤ ze N 81 2 ∧ zTv N ∧ (((1 ≤ ze N 81 7 ∧ zmu N = 0) ∨ (ze N 81 7 = 0 ∧ ze Mz 81 7 = 0 ∧ zmu N ≤ zmu Mz)))))
                                                          refine zw_aload_n (pc := 148) (n := 0) (x := 81) rfl d_M_formula_148 ?_
                                                          refine zr_callV (hf_N131_.w hW) hf_N131_.x (pc := 149) [] [] l_M_183 (c_M_isGood l N131_ (hf_N131_.w hW) ) rfl rfl rfl (by decide) (Nat.le_of_ble_eq_true rfl) d_M_formula_149 ?_
                                                          rintro _ N136_ ⟨v137_, rfl, ⟨hv137_a, hv137_b⟩, hsN136_, hp0_N136_⟩
                                                          obtain rfl := hsN136_.eq.symm
                                                          replace hp0_N136_ : ((v137_ = 1 ∧ ze N131_ 81 7 = 0) ∨ (v137_ = 0 ∧ ze N131_ 81 7 ≠ 0)) := hp0_N136_
                                                          rcases hp0_N136_ with ⟨rfl, ha149_0_hp0_N136_⟩ | ⟨rfl, ha149_0_hp0_N136_⟩
                                                          · skip
                                                            show zW l m_M_formula (zn Mz + 0, zw Mz + 0) N131_ 152 [some (.ref 81), some (.int (Int32.ofInt 0))] [.int (Int32.ofInt 1)] (zpV [3, 4, 5, 6, 7, 8, 11, 38, 39, 41, 42, 43] [95, 96, 97, 100] Mz (fun N => 0 ≤ ze N 81 3 ∧ ze N 81 3 ≤ ze N 81 2 ∧ zTv N ∧ (((1 ≤ ze N 81 7 ∧ zmu N = 0) ∨ (ze N 81 7 = 0 ∧ ze Mz 81 7 = 0 ∧ zmu N ≤ zmu Mz)))))
                                                            refine zr_if_eq (pc := 152) (tgt := 166) ⟨(by decide), (by decide)⟩ (by decide) d_M_formula_152 (fun hc_152 => ?_) (fun hc_152 => ?_)
                                                            · skip
                                                              exact absurd hc_152 (by decide)
                                                            · skip
                                                              refine zw_aload_n (pc := 155) (n := 0) (x := 81) rfl d_M_formula_155 ?_
                                                              refine zr_callV (hf_N131_.w hW) hf_N131_.x (pc := 156) [] [] l_M_349 (c_M_goesOn l N131_ (hf_N131_.w hW) c133_ (show 0 ≤ ze N131_ 81 3 by first | assumption | omega) (show ze N131_ 81 3 ≤ ze N131_ 81 2 by first | assumption | omega) (show ze N131_ 81 2 ≤ 700 by first | assumption | omega) hp2_N131_ (show ze N131_ 81 7 = 0 by first | assumption | omega) (show 0 ≤ ze N131_ 81 41 by first | assumption | omega) (show ze N131_ 81 41 ≤ 79 by first | assumption | omega) (show ze N131_ 81 38 = zcw N131_ + 1 by first | assumption | omega) (show ze N131_ 81 38 ≤ 40 by first | assumption | omega)) rfl rfl rfl (by decide) (Nat.le_of_ble_eq_true rfl) d_M_formula_156 ?_
                                                              rintro _ N138_ ⟨v139_, rfl, ⟨hv139_a, hv139_b⟩, hsN138_, ⟨hp0_N138_, hp1_N138_, hp2_N138_, hp3_N138_, hp4_N138_, hp5_N138_, hp6_N138_, hp7_N138_⟩⟩
                                                              have hf_N138_ : zFr [3, 4, 5, 6, 7, 8, 11, 38, 39, 41, 42, 43] [95, 96, 97, 100] Mz N138_ := hf_N131_.tr hsN138_ (by decide) (by decide)
                                                              have hb0_N138_ : zFr [3, 4, 5, 6, 7, 8, 11, 38, 39, 41, 42, 43] [95, 96, 97, 100] N13_ N138_ := hb0_N131_.tr hsN138_ (by decide) (by decide)
                                                              have hb1_N138_ : zFr [3, 4, 5, 6, 7, 8, 11, 38, 39, 41, 42] [95, 96, 97, 100] N92_ N138_ := hb1_N131_.tr hsN138_ (by decide) (by decide)
                                                              have e2_N138_ : ze N138_ 81 2 = ze N131_ 81 2 := hsN138_.e (by decide)
                                                              have r3_N138_ := ze_r N138_ 81 3
                                                              have r5_N138_ := ze_r N138_ 81 5
                                                              have r6_N138_ := ze_r N138_ 81 6
                                                              have e7_N138_ : ze N138_ 81 7 = ze N131_ 81 7 := hsN138_.e (by decide)
                                                              have e14_N138_ : ze N138_ 81 14 = ze N131_ 81 14 := hsN138_.e (by decide)
                                                              have r38_N138_ := ze_r N138_ 81 38
                                                              have r39_N138_ := ze_r N138_ 81 39
                                                              have r41_N138_ := ze_r N138_ 81 41
                                                              have e42_N138_ : ze N138_ 81 42 = ze N131_ 81 42 := hsN138_.e (by decide)
                                                              have e43_N138_ : ze N138_ 81 43 = ze N131_ 81 43 := hsN138_.e (by decide)
                                                              have c140_ : zGD N138_ := zGD.fr hsN138_ c133_ (by decide) (by decide)
                                                              rcases hp7_N138_ with ⟨rfl, ha156_0_hp7_N138_, ha156_1_hp7_N138_⟩ | ⟨rfl, ha156_0_hp7_N138_, ha156_1_hp7_N138_⟩
                                                              · skip
                                                                show zW l m_M_formula (zn Mz + 0, zw Mz + 0) N138_ 159 [some (.ref 81), some (.int (Int32.ofInt 0))] [.int (Int32.ofInt 1)] (zpV [3, 4, 5, 6, 7, 8, 11, 38, 39, 41, 42, 43] [95, 96, 97, 100] Mz (fun N => 0 ≤ ze N 81 3 ∧ ze N 81 3 ≤ ze N 81 2 ∧ zTv N ∧ (((1 ≤ ze N 81 7 ∧ zmu N = 0) ∨ (ze N 81 7 = 0 ∧ ze Mz 81 7 = 0 ∧ zmu N ≤ zmu Mz)))))
                                                                refine zr_if_eq (pc := 159) (tgt := 166) ⟨(by decide), (by decide)⟩ (by decide) d_M_formula_159 (fun hc_159 => ?_) (fun hc_159 => ?_)
                                                                · skip
                                                                  exact absurd hc_159 (by decide)
                                                                · skip
                                                                  refine zw_iconst (pc := 162) (v := Int32.ofInt 1) (by decide) d_M_formula_162 ?_
                                                                  refine zw_goto (pc := 163) (tgt := 167) (by decide) d_M_formula_163 ?_
                                                                  refine zw_istore_n (pc := 167) (i := 1) (L2 := [some (.ref 81), some (.int (Int32.ofInt 1))]) rfl (by decide) rfl d_M_formula_167 ?_
                                                                  refine zw_goto (pc := 168) (tgt := 88) (by decide) d_M_formula_168 ?_
                                                                  exact ih_88 1 (by decide) (by decide) (by omega) N138_ hb1_N138_ (show 0 ≤ ze N138_ 81 3 by first | assumption | omega) (show ze N138_ 81 3 ≤ ze N138_ 81 2 by first | assumption | omega) (show zmu N138_ < zmu N17_ by first | assumption | omega) hp2_N138_ (show (1 ≤ ze N138_ 81 7 ∧ zmu N138_ = 0) ∨ (1 = 1 ∧ ze N138_ 81 7 = 0 ∧ ze N138_ 81 38 = zcw N138_ ∧ 0 ≤ ze N138_ 81 41 ∧ ze N138_ 81 41 - zcw N138_ ≤ ze N138_ 81 43 ∧ ze N138_ 81 42 = ze N138_ 81 41 - zcw N138_ ∧ ze N138_ 81 38 ≤ ze N138_ 81 43 ∧ ze N138_ 81 43 ≤ 30) ∨ (1 = 0 ∧ ze N138_ 81 7 = 0 ∧ ze N138_ 81 38 = zcw N138_ + 1 ∧ 0 ≤ ze N138_ 81 41 ∧ ze N138_ 81 41 - zcw N138_ ≤ ze N138_ 81 43 ∧ ze N138_ 81 42 = ze N138_ 81 41 - zcw N138_ ∧ ze N138_ 81 38 ≤ ze N138_ 81 43 ∧ ze N138_ 81 43 ≤ 30) from Or.inr (Or.inl (⟨(show 1 = 1 by first | assumption | omega), (show ze N138_ 81 7 = 0 by first | assumption | omega), (show ze N138_ 81 38 = zcw N138_ by first | assumption | omega), (show 0 ≤ ze N138_ 81 41 by first | assumption | omega), (show ze N138_ 81 41 - zcw N138_ ≤ ze N138_ 81 43 by first | assumption | omega), (show ze N138_ 81 42 = ze N138_ 81 41 - zcw N138_ by first | assumption | omega), (show ze N138_ 81 38 ≤ ze N138_ 81 43 by first | assumption | omega), (show ze N138_ 81 43 ≤ 30 by first | assumption | omega)⟩))) (by omega)
                                                              · skip
                                                                show zW l m_M_formula (zn Mz + 0, zw Mz + 0) N138_ 159 [some (.ref 81), some (.int (Int32.ofInt 0))] [.int (Int32.ofInt 0)] (zpV [3, 4, 5, 6, 7, 8, 11, 38, 39, 41, 42, 43] [95, 96, 97, 100] Mz (fun N => 0 ≤ ze N 81 3 ∧ ze N 81 3 ≤ ze N 81 2 ∧ zTv N ∧ (((1 ≤ ze N 81 7 ∧ zmu N = 0) ∨ (ze N 81 7 = 0 ∧ ze Mz 81 7 = 0 ∧ zmu N ≤ zmu Mz)))))
                                                                refine zr_if_eq (pc := 159) (tgt := 166) ⟨(by decide), (by decide)⟩ (by decide) d_M_formula_159 (fun hc_159 => ?_) (fun hc_159 => ?_)
                                                                · skip
                                                                  refine zw_iconst (pc := 166) (v := Int32.ofInt 0) (by decide) d_M_formula_166 ?_
                                                                  refine zw_istore_n (pc := 167) (i := 1) (L2 := [some (.ref 81), some (.int (Int32.ofInt 0))]) rfl (by decide) rfl d_M_formula_167 ?_
                                                                  refine zw_goto (pc := 168) (tgt := 88) (by decide) d_M_formula_168 ?_
                                                                  exact ih_88 0 (by decide) (by decide) (by omega) N138_ hb1_N138_ (show 0 ≤ ze N138_ 81 3 by first | assumption | omega) (show ze N138_ 81 3 ≤ ze N138_ 81 2 by first | assumption | omega) (show zmu N138_ < zmu N17_ by first | assumption | omega) hp2_N138_ (show (1 ≤ ze N138_ 81 7 ∧ zmu N138_ = 0) ∨ (0 = 1 ∧ ze N138_ 81 7 = 0 ∧ ze N138_ 81 38 = zcw N138_ ∧ 0 ≤ ze N138_ 81 41 ∧ ze N138_ 81 41 - zcw N138_ ≤ ze N138_ 81 43 ∧ ze N138_ 81 42 = ze N138_ 81 41 - zcw N138_ ∧ ze N138_ 81 38 ≤ ze N138_ 81 43 ∧ ze N138_ 81 43 ≤ 30) ∨ (0 = 0 ∧ ze N138_ 81 7 = 0 ∧ ze N138_ 81 38 = zcw N138_ + 1 ∧ 0 ≤ ze N138_ 81 41 ∧ ze N138_ 81 41 - zcw N138_ ≤ ze N138_ 81 43 ∧ ze N138_ 81 42 = ze N138_ 81 41 - zcw N138_ ∧ ze N138_ 81 38 ≤ ze N138_ 81 43 ∧ ze N138_ 81 43 ≤ 30) from Or.inr (Or.inr (⟨(show 0 = 0 by first | assumption | omega), (show ze N138_ 81 7 = 0 by first | assumption | omega), (show ze N138_ 81 38 = zcw N138_ + 1 by first | assumption | omega), (show 0 ≤ ze N138_ 81 41 by first | assumption | omega), (show ze N138_ 81 41 - zcw N138_ ≤ ze N138_ 81 43 by first | assumption | omega), (show ze N138_ 81 42 = ze N138_ 81 41 - zcw N138_ by first | assumption | omega), (show ze N138_ 81 38 ≤ ze N138_ 81 43 by first | assumption | omega), (show ze N138_ 81 43 ≤ 30 by first | assumption | omega)⟩))) (by omega)
                                                                · skip
                                                                  exact absurd hc_159 (by decide)
                                                          · skip
                                                            exfalso; omega
                                                    · skip
                                                      show zW l m_M_formula (zn Mz + 0, zw Mz + 0) N100_ 112 [some (.ref 81), some (.int (Int32.ofInt 0))] [.int (Int32.ofInt 0)] (zpV [3, 4, 5, 6, 7, 8, 11, 38, 39, 41, 42, 43] [95, 96, 97, 100] Mz (fun N => 0 ≤ ze N 81 3 ∧ ze N 81 3 ≤ ze N 81 2 ∧ zTv N ∧ (((1 ≤ ze N 81 7 ∧ zmu N = 0) ∨ (ze N 81 7 = 0 ∧ ze Mz 81 7 = 0 ∧ zmu N ≤ zmu Mz)))))
                                                      refine zr_if_eq (pc := 112) (tgt := 27) ⟨(by decide), (by decide)⟩ (by decide) d_M_formula_112 (fun hc_112 => ?_) (fun hc_112 => ?_)
                                                      · skip
                                                        exact ih_27 0 (by decide) (by decide) (by omega) N100_ hb0_N100_ (show 0 ≤ ze N100_ 81 3 by first | assumption | omega) (show ze N100_ 81 3 ≤ ze N100_ 81 2 by first | assumption | omega) (show zmu N100_ ≤ zmu Mz by first | assumption | omega) i105_ (show (1 ≤ ze N100_ 81 7 ∧ zmu N100_ = 0) ∨ (0 = 1 ∧ ze N100_ 81 7 = 0 ∧ ze N100_ 81 38 = zcw N100_ ∧ 0 ≤ ze N100_ 81 41 ∧ ze N100_ 81 41 - zcw N100_ ≤ ze N100_ 81 43 ∧ ze N100_ 81 42 = ze N100_ 81 41 - zcw N100_ ∧ ze N100_ 81 38 ≤ ze N100_ 81 43 ∧ ze N100_ 81 43 ≤ 30) ∨ (0 = 0 ∧ ze N100_ 81 7 = 0 ∧ ze N100_ 81 38 = zcw N100_ + 1 ∧ 0 ≤ ze N100_ 81 41 ∧ ze N100_ 81 41 - zcw N100_ ≤ ze N100_ 81 43 ∧ ze N100_ 81 42 = ze N100_ 81 41 - zcw N100_ ∧ ze N100_ 81 38 ≤ ze N100_ 81 43 ∧ ze N100_ 81 43 ≤ 30) from Or.inr (Or.inr (⟨(show 0 = 0 by first | assumption | omega), (show ze N100_ 81 7 = 0 by first | assumption | omega), (show ze N100_ 81 38 = zcw N100_ + 1 by first | assumption | omega), (show 0 ≤ ze N100_ 81 41 by first | assumption | omega), (show ze N100_ 81 41 - zcw N100_ ≤ ze N100_ 81 43 by first | assumption | omega), (show ze N100_ 81 42 = ze N100_ 81 41 - zcw N100_ by first | assumption | omega), (show ze N100_ 81 38 ≤ ze N100_ 81 43 by first | assumption | omega), (show ze N100_ 81 43 ≤ 30 by first | assumption | omega)⟩))) (by omega)
                                                      · skip
                                                        exact absurd hc_112 (by decide)
                                                · skip
                                                  show zW l m_M_formula (zn Mz + 0, zw Mz + 0) N100_ 105 [some (.ref 81), some (.int (Int32.ofInt 0))] [.int (Int32.ofInt 0)] (zpV [3, 4, 5, 6, 7, 8, 11, 38, 39, 41, 42, 43] [95, 96, 97, 100] Mz (fun N => 0 ≤ ze N 81 3 ∧ ze N 81 3 ≤ ze N 81 2 ∧ zTv N ∧ (((1 ≤ ze N 81 7 ∧ zmu N = 0) ∨ (ze N 81 7 = 0 ∧ ze Mz 81 7 = 0 ∧ zmu N ≤ zmu Mz)))))
                                                  refine zr_if_eq (pc := 105) (tgt := 27) ⟨(by decide), (by decide)⟩ (by decide) d_M_formula_105 (fun hc_105 => ?_) (fun hc_105 => ?_)
                                                  · skip
                                                    exact ih_27 0 (by decide) (by decide) (by omega) N100_ hb0_N100_ (show 0 ≤ ze N100_ 81 3 by first | assumption | omega) (show ze N100_ 81 3 ≤ ze N100_ 81 2 by first | assumption | omega) (show zmu N100_ ≤ zmu Mz by first | assumption | omega) i105_ (show (1 ≤ ze N100_ 81 7 ∧ zmu N100_ = 0) ∨ (0 = 1 ∧ ze N100_ 81 7 = 0 ∧ ze N100_ 81 38 = zcw N100_ ∧ 0 ≤ ze N100_ 81 41 ∧ ze N100_ 81 41 - zcw N100_ ≤ ze N100_ 81 43 ∧ ze N100_ 81 42 = ze N100_ 81 41 - zcw N100_ ∧ ze N100_ 81 38 ≤ ze N100_ 81 43 ∧ ze N100_ 81 43 ≤ 30) ∨ (0 = 0 ∧ ze N100_ 81 7 = 0 ∧ ze N100_ 81 38 = zcw N100_ + 1 ∧ 0 ≤ ze N100_ 81 41 ∧ ze N100_ 81 41 - zcw N100_ ≤ ze N100_ 81 43 ∧ ze N100_ 81 42 = ze N100_ 81 41 - zcw N100_ ∧ ze N100_ 81 38 ≤ ze N100_ 81 43 ∧ ze N100_ 81 43 ≤ 30) from Or.inr (Or.inr (⟨(show 0 = 0 by first | assumption | omega), (show ze N100_ 81 7 = 0 by first | assumption | omega), (show ze N100_ 81 38 = zcw N100_ + 1 by first | assumption | omega), (show 0 ≤ ze N100_ 81 41 by first | assumption | omega), (show ze N100_ 81 41 - zcw N100_ ≤ ze N100_ 81 43 by first | assumption | omega), (show ze N100_ 81 42 = ze N100_ 81 41 - zcw N100_ by first | assumption | omega), (show ze N100_ 81 38 ≤ ze N100_ 81 43 by first | assumption | omega), (show ze N100_ 81 43 ≤ 30 by first | assumption | omega)⟩))) (by omega)
                                                  · skip
                                                    exact absurd hc_105 (by decide)
                                          · skip
                                            exfalso; omega
                                    exact lp_88 _ 0 (by decide) (by decide) (by omega) N92_ zFr.rf (show 0 ≤ ze N92_ 81 3 by first | assumption | omega) (show ze N92_ 81 3 ≤ ze N92_ 81 2 by first | assumption | omega) (show zmu N92_ < zmu N17_ by first | assumption | omega) hp2_N92_ (show (1 ≤ ze N92_ 81 7 ∧ zmu N92_ = 0) ∨ (0 = 1 ∧ ze N92_ 81 7 = 0 ∧ ze N92_ 81 38 = zcw N92_ ∧ 0 ≤ ze N92_ 81 41 ∧ ze N92_ 81 41 - zcw N92_ ≤ ze N92_ 81 43 ∧ ze N92_ 81 42 = ze N92_ 81 41 - zcw N92_ ∧ ze N92_ 81 38 ≤ ze N92_ 81 43 ∧ ze N92_ 81 43 ≤ 30) ∨ (0 = 0 ∧ ze N92_ 81 7 = 0 ∧ ze N92_ 81 38 = zcw N92_ + 1 ∧ 0 ≤ ze N92_ 81 41 ∧ ze N92_ 81 41 - zcw N92_ ≤ ze N92_ 81 43 ∧ ze N92_ 81 42 = ze N92_ 81 41 - zcw N92_ ∧ ze N92_ 81 38 ≤ ze N92_ 81 43 ∧ ze N92_ 81 43 ≤ 30) from Or.inl (⟨(show 1 ≤ ze N92_ 81 7 by first | assumption | omega), (show zmu N92_ = 0 by first | assumption | omega)⟩)) (Nat.lt_succ_self _)
                                  · skip
                                    exact absurd hc_72 (by decide)
                              · skip
                                exact absurd hc_61 (by decide)
                          · skip
                            exact absurd hc_49 (by decide)
                        · skip
                          have hx_N92_ := zcw_b N92_ (by omega)
                          show zW l m_M_formula (zn Mz + 0, zw Mz + 0) N92_ 49 [some (.ref 81), some (.int (Int32.ofInt u33_))] [.int (Int32.ofInt 1)] (zpV [3, 4, 5, 6, 7, 8, 11, 38, 39, 41, 42, 43] [95, 96, 97, 100] Mz (fun N => 0 ≤ ze N 81 3 ∧ ze N 81 3 ≤ ze N 81 2 ∧ zTv N ∧ (((1 ≤ ze N 81 7 ∧ zmu N = 0) ∨ (ze N 81 7 = 0 ∧ ze Mz 81 7 = 0 ∧ zmu N ≤ zmu Mz)))))
                          refine zr_if_ne (pc := 49) (tgt := 57) ⟨(by decide), (by decide)⟩ (by decide) d_M_formula_49 (fun hc_49 => ?_) (fun hc_49 => ?_)
                          · skip
                            refine zw_aload_n (pc := 57) (n := 0) (x := 81) rfl d_M_formula_57 ?_
                            refine zr_callV (hf_N92_.w hW) hf_N92_.x (pc := 58) [] [] l_M_183 (c_M_isGood l N92_ (hf_N92_.w hW) ) rfl rfl rfl (by decide) (Nat.le_of_ble_eq_true rfl) d_M_formula_58 ?_
                            rintro _ N141_ ⟨v142_, rfl, ⟨hv142_a, hv142_b⟩, hsN141_, hp0_N141_⟩
                            obtain rfl := hsN141_.eq.symm
                            replace hp0_N141_ : ((v142_ = 1 ∧ ze N92_ 81 7 = 0) ∨ (v142_ = 0 ∧ ze N92_ 81 7 ≠ 0)) := hp0_N141_
                            rcases hp0_N141_ with ⟨rfl, ha58_0_hp0_N141_⟩ | ⟨rfl, ha58_0_hp0_N141_⟩
                            · skip
                              show zW l m_M_formula (zn Mz + 0, zw Mz + 0) N92_ 61 [some (.ref 81), some (.int (Int32.ofInt u33_))] [.int (Int32.ofInt 1)] (zpV [3, 4, 5, 6, 7, 8, 11, 38, 39, 41, 42, 43] [95, 96, 97, 100] Mz (fun N => 0 ≤ ze N 81 3 ∧ ze N 81 3 ≤ ze N 81 2 ∧ zTv N ∧ (((1 ≤ ze N 81 7 ∧ zmu N = 0) ∨ (ze N 81 7 = 0 ∧ ze Mz 81 7 = 0 ∧ zmu N ≤ zmu Mz)))))
                              refine zr_if_eq (pc := 61) (tgt := 68) ⟨(by decide), (by decide)⟩ (by decide) d_M_formula_61 (fun hc_61 => ?_) (fun hc_61 => ?_)
                              · skip
                                exact absurd hc_61 (by decide)
                              · skip
                                refine zw_aload_n (pc := 64) (n := 0) (x := 81) rfl d_M_formula_64 ?_
                                refine zr_callV (hf_N92_.w hW) hf_N92_.x (pc := 65) [] [] l_M_346 (c_M_closes l N92_ (hf_N92_.w hW) c94_ (show 0 ≤ ze N92_ 81 3 by first | assumption | omega) (show ze N92_ 81 3 ≤ ze N92_ 81 2 by first | assumption | omega) (show ze N92_ 81 2 ≤ 700 by first | assumption | omega) hp2_N92_ (show ze N92_ 81 7 = 0 by first | assumption | omega) (show 1 ≤ ze N92_ 81 38 by first | assumption | omega) (show ze N92_ 81 38 ≤ 40 by first | assumption | omega) (show 0 ≤ ze N92_ 81 41 by first | assumption | omega) (show ze N92_ 81 41 ≤ 80 by first | assumption | omega) (show ze N92_ 81 42 = ze N92_ 81 41 - zcw N92_ by first | assumption | omega)) rfl rfl rfl (by decide) (Nat.le_of_ble_eq_true rfl) d_M_formula_65 ?_
                                rintro _ N143_ ⟨rfl, hsN143_, ⟨hp0_N143_, hp1_N143_, hp2_N143_, hp3_N143_, hp4_N143_, hp5_N143_, hp6_N143_, hp7_N143_, hp8_N143_⟩⟩
                                have hf_N143_ : zFr [3, 4, 5, 6, 7, 8, 11, 38, 39, 41, 42, 43] [95, 96, 97, 100] Mz N143_ := hf_N92_.tr hsN143_ (by decide) (by decide)
                                have hb0_N143_ : zFr [3, 4, 5, 6, 7, 8, 11, 38, 39, 41, 42, 43] [95, 96, 97, 100] N13_ N143_ := hb0_N92_.tr hsN143_ (by decide) (by decide)
                                have e2_N143_ : ze N143_ 81 2 = ze N92_ 81 2 := hsN143_.e (by decide)
                                have r3_N143_ := ze_r N143_ 81 3
                                have r5_N143_ := ze_r N143_ 81 5
                                have r6_N143_ := ze_r N143_ 81 6
                                have r7_N143_ := ze_r N143_ 81 7
                                have e14_N143_ : ze N143_ 81 14 = ze N92_ 81 14 := hsN143_.e (by decide)
                                have e38_N143_ : ze N143_ 81 38 = ze N92_ 81 38 := hsN143_.e (by decide)
                                have r39_N143_ := ze_r N143_ 81 39
                                have r41_N143_ := ze_r N143_ 81 41
                                have r42_N143_ := ze_r N143_ 81 42
                                have e43_N143_ : ze N143_ 81 43 = ze N92_ 81 43 := hsN143_.e (by decide)
                                have c145_ : zGD N143_ := zGD.fr hsN143_ c94_ (by decide) (by decide)
                                rcases hp8_N143_ with ⟨ha65_0_hp8_N143_, ha65_1_hp8_N143_⟩ | ⟨ha65_0_hp8_N143_, ha65_1_hp8_N143_, ha65_2_hp8_N143_⟩
                                · skip
                                  show zW l m_M_formula (zn Mz + 0, zw Mz + 0) N143_ 68 [some (.ref 81), some (.int (Int32.ofInt u33_))] [] (zpV [3, 4, 5, 6, 7, 8, 11, 38, 39, 41, 42, 43] [95, 96, 97, 100] Mz (fun N => 0 ≤ ze N 81 3 ∧ ze N 81 3 ≤ ze N 81 2 ∧ zTv N ∧ (((1 ≤ ze N 81 7 ∧ zmu N = 0) ∨ (ze N 81 7 = 0 ∧ ze Mz 81 7 = 0 ∧ zmu N ≤ zmu Mz)))))
                                  refine zw_aload_n (pc := 68) (n := 0) (x := 81) rfl d_M_formula_68 ?_
                                  refine zr_callV (hf_N143_.w hW) hf_N143_.x (pc := 69) [] [] l_M_183 (c_M_isGood l N143_ (hf_N143_.w hW) ) rfl rfl rfl (by decide) (Nat.le_of_ble_eq_true rfl) d_M_formula_69 ?_
                                  rintro _ N146_ ⟨v147_, rfl, ⟨hv147_a, hv147_b⟩, hsN146_, hp0_N146_⟩
                                  obtain rfl := hsN146_.eq.symm
                                  replace hp0_N146_ : ((v147_ = 1 ∧ ze N143_ 81 7 = 0) ∨ (v147_ = 0 ∧ ze N143_ 81 7 ≠ 0)) := hp0_N146_
                                  rcases hp0_N146_ with ⟨rfl, ha69_0_hp0_N146_⟩ | ⟨rfl, ha69_0_hp0_N146_⟩
                                  · skip
                                    exfalso; omega
                                  · skip
                                    show zW l m_M_formula (zn Mz + 0, zw Mz + 0) N143_ 72 [some (.ref 81), some (.int (Int32.ofInt u33_))] [.int (Int32.ofInt 0)] (zpV [3, 4, 5, 6, 7, 8, 11, 38, 39, 41, 42, 43] [95, 96, 97, 100] Mz (fun N => 0 ≤ ze N 81 3 ∧ ze N 81 3 ≤ ze N 81 2 ∧ zTv N ∧ (((1 ≤ ze N 81 7 ∧ zmu N = 0) ∨ (ze N 81 7 = 0 ∧ ze Mz 81 7 = 0 ∧ zmu N ≤ zmu Mz)))))
                                    refine zr_if_eq (pc := 72) (tgt := 86) ⟨(by decide), (by decide)⟩ (by decide) d_M_formula_72 (fun hc_72 => ?_) (fun hc_72 => ?_)
                                    · skip
                                      refine zw_iconst (pc := 86) (v := Int32.ofInt 0) (by decide) d_M_formula_86 ?_
                                      refine zw_istore_n (pc := 87) (i := 1) (L2 := [some (.ref 81), some (.int (Int32.ofInt 0))]) rfl (by decide) rfl d_M_formula_87 ?_
                                      have lp_88 : ∀ (n : Nat) (u148_ : Int) (hu148_a : -2147483648 ≤ u148_) (hu148_b : u148_ < 2147483648) (hu148_z : u148_ = 0 ∨ u148_ = 1) (N149_ : zMem) (hs150_ : zFr [3, 4, 5, 6, 7, 8, 11, 38, 39, 41, 42] [95, 96, 97, 100] N143_ N149_) (i151_ : 0 ≤ ze N149_ 81 3) (i152_ : ze N149_ 81 3 ≤ ze N149_ 81 2) (i153_ : zmu N149_ < zmu N17_) (i154_ : zTv N149_) (i155_ : (1 ≤ ze N149_ 81 7 ∧ zmu N149_ = 0) ∨ (u148_ = 1 ∧ ze N149_ 81 7 = 0 ∧ ze N149_ 81 38 = zcw N149_ ∧ 0 ≤ ze N149_ 81 41 ∧ ze N149_ 81 41 - zcw N149_ ≤ ze N149_ 81 43 ∧ ze N149_ 81 42 = ze N149_ 81 41 - zcw N149_ ∧ ze N149_ 81 38 ≤ ze N149_ 81 43 ∧ ze N149_ 81 43 ≤ 30) ∨ (u148_ = 0 ∧ ze N149_ 81 7 = 0 ∧ ze N149_ 81 38 = zcw N149_ + 1 ∧ 0 ≤ ze N149_ 81 41 ∧ ze N149_ 81 41 - zcw N149_ ≤ ze N149_ 81 43 ∧ ze N149_ 81 42 = ze N149_ 81 41 - zcw N149_ ∧ ze N149_ 81 38 ≤ ze N149_ 81 43 ∧ ze N149_ 81 43 ≤ 30)), (zmu N149_).toNat < n → zW l m_M_formula (zn Mz + 0, zw Mz + 0) N149_ 88 [some (.ref 81), some (.int (Int32.ofInt u148_))] [] (zpV [3, 4, 5, 6, 7, 8, 11, 38, 39, 41, 42, 43] [95, 96, 97, 100] Mz (fun N => 0 ≤ ze N 81 3 ∧ ze N 81 3 ≤ ze N 81 2 ∧ zTv N ∧ (((1 ≤ ze N 81 7 ∧ zmu N = 0) ∨ (ze N 81 7 = 0 ∧ ze Mz 81 7 = 0 ∧ zmu N ≤ zmu Mz))))) := by
                                        clear hu33_a hu33_b hu33_z hv91_a hv91_b hc_42 hsN92_ hv93_a hv93_b hp0_N92_ hp1_N92_ hp2_N92_ hf_N92_ hb0_N92_ hb1_N92_ e2_N92_ r3_N92_ r5_N92_ r6_N92_ r7_N92_ e14_N92_ r38_N92_ r39_N92_ r41_N92_ r42_N92_ r43_N92_ c94_ ha46_0_hp3_N92_ ha46_1_hp3_N92_ ha46_2_hp3_N92_ ha46_3_hp3_N92_ ha46_4_hp3_N92_ ha46_5_hp3_N92_ ha46_6_hp3_N92_ ha46_7_hp3_N92_ hc_49 hv142_a hv142_b ha58_0_hp0_N141_ hc_61 hsN143_ hp3_N143_ hp5_N143_ hp6_N143_ e2_N143_ e14_N143_ e38_N143_ e43_N143_ hv147_a hv147_b hc_72
                                        intro n
                                        induction n with
                                        | zero =>
                                          intro u148_ hu148_a hu148_b hu148_z N149_ hs150_ i151_ i152_ i153_ i154_ i155_ h0
                                          exact absurd h0 (Nat.not_lt_zero _)
                                        | succ n ih_88 =>
                                          intro u148_ hu148_a hu148_b hu148_z N149_ hs150_ i151_ i152_ i153_ i154_ i155_ hlt_88
                                          have hf_N149_ : zFr [3, 4, 5, 6, 7, 8, 11, 38, 39, 41, 42, 43] [95, 96, 97, 100] Mz N149_ := hf_N143_.tr hs150_ (by decide) (by decide)
                                          have hb0_N149_ : zFr [3, 4, 5, 6, 7, 8, 11, 38, 39, 41, 42, 43] [95, 96, 97, 100] N13_ N149_ := hb0_N143_.tr hs150_ (by decide) (by decide)
                                          have e2_N149_ : ze N149_ 81 2 = ze N143_ 81 2 := hs150_.e (by decide)
                                          have r3_N149_ := ze_r N149_ 81 3
                                          have r5_N149_ := ze_r N149_ 81 5
                                          have r6_N149_ := ze_r N149_ 81 6
                                          have r7_N149_ := ze_r N149_ 81 7
                                          have e14_N149_ : ze N149_ 81 14 = ze N143_ 81 14 := hs150_.e (by decide)
                                          have r38_N149_ := ze_r N149_ 81 38
                                          have r39_N149_ := ze_r N149_ 81 39
                                          have r41_N149_ := ze_r N149_ 81 41
                                          have r42_N149_ := ze_r N149_ 81 42
                                          have e43_N149_ : ze N149_ 81 43 = ze N143_ 81 43 := hs150_.e (by decide)
                                          have c156_ : zGD N149_ := zGD.fr hs150_ c145_ (by decide) (by decide)
                                          have zz2_N149_ : ze N149_ 81 2 = ze Mz 81 2 := hf_N149_.e (by decide)
                                          have zz14_N149_ : ze N149_ 81 14 = ze Mz 81 14 := hf_N149_.e (by decide)
                                          rcases i155_ with ⟨hl88_0_i155_, hl88_1_i155_⟩ | ⟨rfl, hl88_0_i155_, hl88_1_i155_, hl88_2_i155_, hl88_3_i155_, hl88_4_i155_, hl88_5_i155_, hl88_6_i155_⟩ | ⟨rfl, hl88_0_i155_, hl88_1_i155_, hl88_2_i155_, hl88_3_i155_, hl88_4_i155_, hl88_5_i155_, hl88_6_i155_⟩
                                          · skip
                                            refine zw_aload_n (pc := 88) (n := 0) (x := 81) rfl d_M_formula_88 ?_
                                            refine zr_callV (hf_N149_.w hW) hf_N149_.x (pc := 89) [] [] l_M_183 (c_M_isGood l N149_ (hf_N149_.w hW) ) rfl rfl rfl (by decide) (Nat.le_of_ble_eq_true rfl) d_M_formula_89 ?_
                                            rintro _ N157_ ⟨v158_, rfl, ⟨hv158_a, hv158_b⟩, hsN157_, hp0_N157_⟩
                                            obtain rfl := hsN157_.eq.symm
                                            replace hp0_N157_ : ((v158_ = 1 ∧ ze N149_ 81 7 = 0) ∨ (v158_ = 0 ∧ ze N149_ 81 7 ≠ 0)) := hp0_N157_
                                            rcases hp0_N157_ with ⟨rfl, ha89_0_hp0_N157_⟩ | ⟨rfl, ha89_0_hp0_N157_⟩
                                            · skip
                                              exfalso; omega
                                            · skip
                                              show zW l m_M_formula (zn Mz + 0, zw Mz + 0) N149_ 92 [some (.ref 81), some (.int (Int32.ofInt u148_))] [.int (Int32.ofInt 0)] (zpV [3, 4, 5, 6, 7, 8, 11, 38, 39, 41, 42, 43] [95, 96, 97, 100] Mz (fun N => 0 ≤ ze N 81 3 ∧ ze N 81 3 ≤ ze N 81 2 ∧ zTv N ∧ (((1 ≤ ze N 81 7 ∧ zmu N = 0) ∨ (ze N 81 7 = 0 ∧ ze Mz 81 7 = 0 ∧ zmu N ≤ zmu Mz)))))
                                              refine zr_if_eq (pc := 92) (tgt := 27) ⟨(by decide), (by decide)⟩ (by decide) d_M_formula_92 (fun hc_92 => ?_) (fun hc_92 => ?_)
                                              · skip
                                                exact ih_27 u148_ hu148_a hu148_b (by omega) N149_ hb0_N149_ (show 0 ≤ ze N149_ 81 3 by first | assumption | omega) (show ze N149_ 81 3 ≤ ze N149_ 81 2 by first | assumption | omega) (show zmu N149_ ≤ zmu Mz by first | assumption | omega) i154_ (show (1 ≤ ze N149_ 81 7 ∧ zmu N149_ = 0) ∨ (u148_ = 1 ∧ ze N149_ 81 7 = 0 ∧ ze N149_ 81 38 = zcw N149_ ∧ 0 ≤ ze N149_ 81 41 ∧ ze N149_ 81 41 - zcw N149_ ≤ ze N149_ 81 43 ∧ ze N149_ 81 42 = ze N149_ 81 41 - zcw N149_ ∧ ze N149_ 81 38 ≤ ze N149_ 81 43 ∧ ze N149_ 81 43 ≤ 30) ∨ (u148_ = 0 ∧ ze N149_ 81 7 = 0 ∧ ze N149_ 81 38 = zcw N149_ + 1 ∧ 0 ≤ ze N149_ 81 41 ∧ ze N149_ 81 41 - zcw N149_ ≤ ze N149_ 81 43 ∧ ze N149_ 81 42 = ze N149_ 81 41 - zcw N149_ ∧ ze N149_ 81 38 ≤ ze N149_ 81 43 ∧ ze N149_ 81 43 ≤ 30) from Or.inl (⟨(show 1 ≤ ze N149_ 81 7 by first | assumption | omega), (show zmu N149_ = 0 by first | assumption | omega)⟩)) (by omega)
                                              · skip
                                                exact absurd hc_92 (by decide)
                                          · skip
                                            have hz_N149_ := zmu_p N149_ (by omega) (by omega)
                                            have hx_N149_ := zcw_b N149_ (by omega)
                                            refine zw_aload_n (pc := 88) (n := 0) (x := 81) rfl d_M_formula_88 ?_
                                            refine zr_callV (hf_N149_.w hW) hf_N149_.x (pc := 89) [] [] l_M_183 (c_M_isGood l N149_ (hf_N149_.w hW) ) rfl rfl rfl (by decide) (Nat.le_of_ble_eq_true rfl) d_M_formula_89 ?_
                                            rintro _ N159_ ⟨v160_, rfl, ⟨hv160_a, hv160_b⟩, hsN159_, hp0_N159_⟩
                                            obtain rfl := hsN159_.eq.symm
                                            replace hp0_N159_ : ((v160_ = 1 ∧ ze N149_ 81 7 = 0) ∨ (v160_ = 0 ∧ ze N149_ 81 7 ≠ 0)) := hp0_N159_
                                            rcases hp0_N159_ with ⟨rfl, ha89_0_hp0_N159_⟩ | ⟨rfl, ha89_0_hp0_N159_⟩
                                            · skip
                                              show zW l m_M_formula (zn Mz + 0, zw Mz + 0) N149_ 92 [some (.ref 81), some (.int (Int32.ofInt 1))] [.int (Int32.ofInt 1)] (zpV [3, 4, 5, 6, 7, 8, 11, 38, 39, 41, 42, 43] [95, 96, 97, 100] Mz (fun N => 0 ≤ ze N 81 3 ∧ ze N 81 3 ≤ ze N 81 2 ∧ zTv N ∧ (((1 ≤ ze N 81 7 ∧ zmu N = 0) ∨ (ze N 81 7 = 0 ∧ ze Mz 81 7 = 0 ∧ zmu N ≤ zmu Mz)))))
                                              refine zr_if_eq (pc := 92) (tgt := 27) ⟨(by decide), (by decide)⟩ (by decide) d_M_formula_92 (fun hc_92 => ?_) (fun hc_92 => ?_)
                                              · skip
                                                exact absurd hc_92 (by decide)
                                              · skip
                                                refine zw_iload_n (pc := 95) (n := 1) (x := Int32.ofInt 1) rfl d_M_formula_95 ?_
                                                refine zr_if_ne (pc := 96) (tgt := 27) ⟨(by decide), (by decide)⟩ (by decide) d_M_formula_96 (fun hc_96 => ?_) (fun hc_96 => ?_)
                                                · skip
                                                  exact ih_27 1 (by decide) (by decide) (by omega) N149_ hb0_N149_ (show 0 ≤ ze N149_ 81 3 by first | assumption | omega) (show ze N149_ 81 3 ≤ ze N149_ 81 2 by first | assumption | omega) (show zmu N149_ ≤ zmu Mz by first | assumption | omega) i154_ (show (1 ≤ ze N149_ 81 7 ∧ zmu N149_ = 0) ∨ (1 = 1 ∧ ze N149_ 81 7 = 0 ∧ ze N149_ 81 38 = zcw N149_ ∧ 0 ≤ ze N149_ 81 41 ∧ ze N149_ 81 41 - zcw N149_ ≤ ze N149_ 81 43 ∧ ze N149_ 81 42 = ze N149_ 81 41 - zcw N149_ ∧ ze N149_ 81 38 ≤ ze N149_ 81 43 ∧ ze N149_ 81 43 ≤ 30) ∨ (1 = 0 ∧ ze N149_ 81 7 = 0 ∧ ze N149_ 81 38 = zcw N149_ + 1 ∧ 0 ≤ ze N149_ 81 41 ∧ ze N149_ 81 41 - zcw N149_ ≤ ze N149_ 81 43 ∧ ze N149_ 81 42 = ze N149_ 81 41 - zcw N149_ ∧ ze N149_ 81 38 ≤ ze N149_ 81 43 ∧ ze N149_ 81 43 ≤ 30) from Or.inr (Or.inl (⟨(show 1 = 1 by first | assumption | omega), (show ze N149_ 81 7 = 0 by first | assumption | omega), (show ze N149_ 81 38 = zcw N149_ by first | assumption | omega), (show 0 ≤ ze N149_ 81 41 by first | assumption | omega), (show ze N149_ 81 41 - zcw N149_ ≤ ze N149_ 81 43 by first | assumption | omega), (show ze N149_ 81 42 = ze N149_ 81 41 - zcw N149_ by first | assumption | omega), (show ze N149_ 81 38 ≤ ze N149_ 81 43 by first | assumption | omega), (show ze N149_ 81 43 ≤ 30 by first | assumption | omega)⟩))) (by omega)
                                                · skip
                                                  exact absurd hc_96 (by decide)
                                            · skip
                                              exfalso; omega
                                          · skip
                                            have hz_N149_ := zmu_p N149_ (by omega) (by omega)
                                            have hx_N149_ := zcw_b N149_ (by omega)
                                            refine zw_aload_n (pc := 88) (n := 0) (x := 81) rfl d_M_formula_88 ?_
                                            refine zr_callV (hf_N149_.w hW) hf_N149_.x (pc := 89) [] [] l_M_183 (c_M_isGood l N149_ (hf_N149_.w hW) ) rfl rfl rfl (by decide) (Nat.le_of_ble_eq_true rfl) d_M_formula_89 ?_
                                            rintro _ N161_ ⟨v162_, rfl, ⟨hv162_a, hv162_b⟩, hsN161_, hp0_N161_⟩
                                            obtain rfl := hsN161_.eq.symm
                                            replace hp0_N161_ : ((v162_ = 1 ∧ ze N149_ 81 7 = 0) ∨ (v162_ = 0 ∧ ze N149_ 81 7 ≠ 0)) := hp0_N161_
                                            rcases hp0_N161_ with ⟨rfl, ha89_0_hp0_N161_⟩ | ⟨rfl, ha89_0_hp0_N161_⟩
                                            · skip
                                              show zW l m_M_formula (zn Mz + 0, zw Mz + 0) N149_ 92 [some (.ref 81), some (.int (Int32.ofInt 0))] [.int (Int32.ofInt 1)] (zpV [3, 4, 5, 6, 7, 8, 11, 38, 39, 41, 42, 43] [95, 96, 97, 100] Mz (fun N => 0 ≤ ze N 81 3 ∧ ze N 81 3 ≤ ze N 81 2 ∧ zTv N ∧ (((1 ≤ ze N 81 7 ∧ zmu N = 0) ∨ (ze N 81 7 = 0 ∧ ze Mz 81 7 = 0 ∧ zmu N ≤ zmu Mz)))))
                                              refine zr_if_eq (pc := 92) (tgt := 27) ⟨(by decide), (by decide)⟩ (by decide) d_M_formula_92 (fun hc_92 => ?_) (fun hc_92 => ?_)
                                              · skip
                                                exact absurd hc_92 (by decide)
                                              · skip
                                                refine zw_iload_n (pc := 95) (n := 1) (x := Int32.ofInt 0) rfl d_M_formula_95 ?_
                                                refine zr_if_ne (pc := 96) (tgt := 27) ⟨(by decide), (by decide)⟩ (by decide) d_M_formula_96 (fun hc_96 => ?_) (fun hc_96 => ?_)
                                                · skip
                                                  exact absurd hc_96 (by decide)
                                                · skip
                                                  refine zw_aload_n (pc := 99) (n := 0) (x := 81) rfl d_M_formula_99 ?_
                                                  refine zw_bipush (pc := 100) (v := Int32.ofInt 41) (by decide) d_M_formula_100 ?_
                                                  refine zr_callV (hf_N149_.w hW) hf_N149_.x (pc := 102) [.int (Int32.ofInt 41)] [] l_M_187 (c_M_isSignHere l N149_ (hf_N149_.w hW) 41 (by decide) (by decide)) rfl rfl rfl (by decide) (Nat.le_of_ble_eq_true rfl) d_M_formula_102 ?_
                                                  rintro _ N163_ ⟨v164_, rfl, ⟨hv164_a, hv164_b⟩, hsN163_, hp0_N163_⟩
                                                  obtain rfl := hsN163_.eq.symm
                                                  replace hp0_N163_ : ((v164_ = 1 ∧ ze N149_ 81 7 = 0 ∧ ze N149_ 81 5 = 3 ∧ ze N149_ 81 6 = 41) ∨ (v164_ = 0)) := hp0_N163_
                                                  rcases hp0_N163_ with ⟨rfl, ha102_0_hp0_N163_, ha102_1_hp0_N163_, ha102_2_hp0_N163_⟩ | rfl
                                                  · skip
                                                    show zW l m_M_formula (zn Mz + 0, zw Mz + 0) N149_ 105 [some (.ref 81), some (.int (Int32.ofInt 0))] [.int (Int32.ofInt 1)] (zpV [3, 4, 5, 6, 7, 8, 11, 38, 39, 41, 42, 43] [95, 96, 97, 100] Mz (fun N => 0 ≤ ze N 81 3 ∧ ze N 81 3 ≤ ze N 81 2 ∧ zTv N ∧ (((1 ≤ ze N 81 7 ∧ zmu N = 0) ∨ (ze N 81 7 = 0 ∧ ze Mz 81 7 = 0 ∧ zmu N ≤ zmu Mz)))))
                                                    refine zr_if_eq (pc := 105) (tgt := 27) ⟨(by decide), (by decide)⟩ (by decide) d_M_formula_105 (fun hc_105 => ?_) (fun hc_105 => ?_)
                                                    · skip
                                                      exact absurd hc_105 (by decide)
                                                    · skip
                                                      refine zw_aload_n (pc := 108) (n := 0) (x := 81) rfl d_M_formula_108 ?_
                                                      refine zr_callV (hf_N149_.w hW) hf_N149_.x (pc := 109) [] [] l_M_352 (c_M_isOpen l N149_ (hf_N149_.w hW) (show 0 ≤ ze N149_ 81 41 by first | assumption | omega) (show ze N149_ 81 41 ≤ 80 by first | assumption | omega)) rfl rfl rfl (by decide) (Nat.le_of_ble_eq_true rfl) d_M_formula_109 ?_
                                                      rintro _ N165_ ⟨v166_, rfl, ⟨hv166_a, hv166_b⟩, hsN165_, hp0_N165_⟩
                                                      obtain rfl := hsN165_.eq.symm
                                                      replace hp0_N165_ : ((v166_ = 1 ∧ zcw N149_ ≤ ze N149_ 81 41 - 1) ∨ (v166_ = 0)) := hp0_N165_
                                                      rcases hp0_N165_ with ⟨rfl, ha109_0_hp0_N165_⟩ | rfl
                                                      · skip
                                                        show zW l m_M_formula (zn Mz + 0, zw Mz + 0) N149_ 112 [some (.ref 81), some (.int (Int32.ofInt 0))] [.int (Int32.ofInt 1)] (zpV [3, 4, 5, 6, 7, 8, 11, 38, 39, 41, 42, 43] [95, 96, 97, 100] Mz (fun N => 0 ≤ ze N 81 3 ∧ ze N 81 3 ≤ ze N 81 2 ∧ zTv N ∧ (((1 ≤ ze N 81 7 ∧ zmu N = 0) ∨ (ze N 81 7 = 0 ∧ ze Mz 81 7 = 0 ∧ zmu N ≤ zmu Mz)))))
                                                        refine zr_if_eq (pc := 112) (tgt := 27) ⟨(by decide), (by decide)⟩ (by decide) d_M_formula_112 (fun hc_112 => ?_) (fun hc_112 => ?_)
                                                        · skip
                                                          exact absurd hc_112 (by decide)
                                                        · skip
                                                          refine zw_aload_n (pc := 115) (n := 0) (x := 81) rfl d_M_formula_115 ?_
                                                          refine zw_iconst (pc := 116) (v := Int32.ofInt 2) (by decide) d_M_formula_116 ?_
                                                          refine zr_callV (hf_N149_.w hW) hf_N149_.x (pc := 117) [.int (Int32.ofInt 2)] [] l_M_337 (c_M_works l N149_ (hf_N149_.w hW) 2 (by decide) (by decide) c156_ (show 2 ≤ 2 by first | assumption | omega) (show 0 ≤ ze N149_ 81 41 by first | assumption | omega) (show ze N149_ 81 41 ≤ 80 by first | assumption | omega) (show ze N149_ 81 38 = zcw N149_ + 1 by first | assumption | omega) (show ze N149_ 81 38 ≤ 40 by first | assumption | omega)) rfl rfl rfl (by decide) (Nat.le_of_ble_eq_true rfl) d_M_formula_117 ?_
                                                          rintro _ N167_ ⟨rfl, hsN167_, ⟨hp0_N167_, hp1_N167_, hp2_N167_, hp3_N167_, hp4_N167_, hp5_N167_⟩⟩
                                                          have hf_N167_ : zFr [3, 4, 5, 6, 7, 8, 11, 38, 39, 41, 42, 43] [95, 96, 97, 100] Mz N167_ := hf_N149_.tr hsN167_ (by decide) (by decide)
                                                          have hb0_N167_ : zFr [3, 4, 5, 6, 7, 8, 11, 38, 39, 41, 42, 43] [95, 96, 97, 100] N13_ N167_ := hb0_N149_.tr hsN167_ (by decide) (by decide)
                                                          have hb1_N167_ : zFr [3, 4, 5, 6, 7, 8, 11, 38, 39, 41, 42] [95, 96, 97, 100] N143_ N167_ := hs150_.tr hsN167_ (by decide) (by decide)
                                                          have e2_N167_ : ze N167_ 81 2 = ze N149_ 81 2 := hsN167_.e (by decide)
                                                          have e3_N167_ : ze N167_ 81 3 = ze N149_ 81 3 := hsN167_.e (by decide)
                                                          have e5_N167_ : ze N167_ 81 5 = ze N149_ 81 5 := hsN167_.e (by decide)
                                                          have e6_N167_ : ze N167_ 81 6 = ze N149_ 81 6 := hsN167_.e (by decide)
                                                          have e7_N167_ : ze N167_ 81 7 = ze N149_ 81 7 := hsN167_.e (by decide)
                                                          have e14_N167_ : ze N167_ 81 14 = ze N149_ 81 14 := hsN167_.e (by decide)
                                                          have r38_N167_ := ze_r N167_ 81 38
                                                          have r39_N167_ := ze_r N167_ 81 39
                                                          have r41_N167_ := ze_r N167_ 81 41
                                                          have e42_N167_ : ze N167_ 81 42 = ze N149_ 81 42 := hsN167_.e (by decide)
                                                          have e43_N167_ : ze N167_ 81 43 = ze N149_ 81 43 := hsN167_.e (by decide)
                                                          have qzmu_N167_ : zmu N167_ = zmu N149_ := zmu_f hsN167_ (by decide)
                                                          have c169_ : zGD N167_ := zGD.fr hsN167_ c156_ (by decide) (by decide)
                                                          have c170_ : zTv N167_ := zTv.fr hsN167_ i154_ (by decide) (by decide)
                                                          show zW l m_M_formula (zn Mz + 0, zw Mz + 0) N167_ 120 [some (.ref 81), some (.int (Int32.ofInt 0))] [] (zpV [3, 4, 5, 6, 7, 8, 11, 38, 39, 41, 42, 43] [95, 96, 97, 100] Mz (fun N => 0 ≤ ze N 81 3 ∧ ze N 81 3 ≤ ze N 81 2 ∧ zTv N ∧ (((1 ≤ ze N 81 7 ∧ zmu N = 0) ∨ (ze N 81 7 = 0 ∧ ze Mz 81 7 = 0 ∧ zmu N ≤ zmu Mz)))))
                                                          have hx_N167_ := zcw_b N167_ (by omega)
                                                          refine zw_aload_n (pc := 120) (n := 0) (x := 81) rfl d_M_formula_120 ?_
                                                          refine zw_dup (pc := 121) rfl d_M_formula_121 ?_
                                                          refine zr_getI (hf_N167_.w hW) (pc := 122) f_M_305 rfl d_M_formula_122 ?_
                                                          refine zw_iconst (pc := 125) (v := Int32.ofInt 1) (by decide) d_M_formula_125 ?_
                                                          refine zr_isub (pc := 126) d_M_formula_126 ?_
                                                          refine zr_putI (hf_N167_.w hW) (pc := 127) f_M_305 rfl rfl ⟨by omega, by omega⟩ rfl rfl d_M_formula_127 (fun N171_ hsN171_ hvN171_ => ?_)
                                                          have hf_N171_ : zFr [3, 4, 5, 6, 7, 8, 11, 38, 39, 41, 42, 43] [95, 96, 97, 100] Mz N171_ := hf_N167_.tr hsN171_ (by decide) (by decide)
                                                          have hb0_N171_ : zFr [3, 4, 5, 6, 7, 8, 11, 38, 39, 41, 42, 43] [95, 96, 97, 100] N13_ N171_ := hb0_N167_.tr hsN171_ (by decide) (by decide)
                                                          have hb1_N171_ : zFr [3, 4, 5, 6, 7, 8, 11, 38, 39, 41, 42] [95, 96, 97, 100] N143_ N171_ := hb1_N167_.tr hsN171_ (by decide) (by decide)
                                                          have e2_N171_ : ze N171_ 81 2 = ze N167_ 81 2 := hsN171_.e (by decide)
                                                          have e3_N171_ : ze N171_ 81 3 = ze N167_ 81 3 := hsN171_.e (by decide)
                                                          have e5_N171_ : ze N171_ 81 5 = ze N167_ 81 5 := hsN171_.e (by decide)
                                                          have e6_N171_ : ze N171_ 81 6 = ze N167_ 81 6 := hsN171_.e (by decide)
                                                          have e7_N171_ : ze N171_ 81 7 = ze N167_ 81 7 := hsN171_.e (by decide)
                                                          have e14_N171_ : ze N171_ 81 14 = ze N167_ 81 14 := hsN171_.e (by decide)
                                                          have e38_N171_ : ze N171_ 81 38 = ze N167_ 81 38 := hsN171_.e (by decide)
                                                          have e39_N171_ : ze N171_ 81 39 = ze N167_ 81 39 := hsN171_.e (by decide)
                                                          have r41_N171_ := ze_r N171_ 81 41
                                                          have e42_N171_ : ze N171_ 81 42 = ze N167_ 81 42 := hsN171_.e (by decide)
                                                          have e43_N171_ : ze N171_ 81 43 = ze N167_ 81 43 := hsN171_.e (by decide)
                                                          have qzmu_N171_ : zmu N171_ = zmu N167_ := zmu_f hsN171_ (by decide)
                                                          have c172_ : zGD N171_ := zGD.fr hsN171_ c169_ (by decide) (by decide)
                                                          have c173_ : zTv N171_ := zTv.fr hsN171_ c170_ (by decide) (by decide)
                                                          have hd_N171_ := zcw_dec hsN171_ hvN171_ (by omega)
                                                          have hy_N171_ := zcw_b N171_ (by omega)
                                                          have hi_N171_ := hsN167_.ie (q := 100) (by decide) (by decide) (ze N167_ 81 41 - 1).toNat
                                                          refine zw_aload_n (pc := 130) (n := 0) (x := 81) rfl d_M_formula_130 ?_
                                                          refine zw_dup (pc := 131) rfl d_M_formula_131 ?_
                                                          refine zr_getI (hf_N171_.w hW) (pc := 132) f_M_296 rfl d_M_formula_132 ?_
                                                          refine zw_iconst (pc := 135) (v := Int32.ofInt 1) (by decide) d_M_formula_135 ?_
                                                          refine zr_isub (pc := 136) d_M_formula_136 ?_
                                                          refine zr_putI (hf_N171_.w hW) (pc := 137) f_M_296 rfl rfl ⟨by omega, by omega⟩ rfl rfl d_M_formula_137 (fun N174_ hsN174_ hvN174_ => ?_)
                                                          have hf_N174_ : zFr [3, 4, 5, 6, 7, 8, 11, 38, 39, 41, 42, 43] [95, 96, 97, 100] Mz N174_ := hf_N171_.tr hsN174_ (by decide) (by decide)
                                                          have hb0_N174_ : zFr [3, 4, 5, 6, 7, 8, 11, 38, 39, 41, 42, 43] [95, 96, 97, 100] N13_ N174_ := hb0_N171_.tr hsN174_ (by decide) (by decide)
                                                          have hb1_N174_ : zFr [3, 4, 5, 6, 7, 8, 11, 38, 39, 41, 42] [95, 96, 97, 100] N143_ N174_ := hb1_N171_.tr hsN174_ (by decide) (by decide)
                                                          have e2_N174_ : ze N174_ 81 2 = ze N171_ 81 2 := hsN174_.e (by decide)
                                                          have e3_N174_ : ze N174_ 81 3 = ze N171_ 81 3 := hsN174_.e (by decide)
                                                          have e5_N174_ : ze N174_ 81 5 = ze N171_ 81 5 := hsN174_.e (by decide)
                                                          have e6_N174_ : ze N174_ 81 6 = ze N171_ 81 6 := hsN174_.e (by decide)
                                                          have e7_N174_ : ze N174_ 81 7 = ze N171_ 81 7 := hsN174_.e (by decide)
                                                          have e14_N174_ : ze N174_ 81 14 = ze N171_ 81 14 := hsN174_.e (by decide)
                                                          have e38_N174_ : ze N174_ 81 38 = ze N171_ 81 38 := hsN174_.e (by decide)
                                                          have e39_N174_ : ze N174_ 81 39 = ze N171_ 81 39 := hsN174_.e (by decide)
                                                          have e41_N174_ : ze N174_ 81 41 = ze N171_ 81 41 := hsN174_.e (by decide)
                                                          have r42_N174_ := ze_r N174_ 81 42
                                                          have e43_N174_ : ze N174_ 81 43 = ze N171_ 81 43 := hsN174_.e (by decide)
                                                          have qzcw_N174_ : zcw N174_ = zcw N171_ := zcw_f hsN174_ (by decide)
                                                          have qzmu_N174_ : zmu N174_ = zmu N171_ := zmu_f hsN174_ (by decide)
                                                          have c175_ : zGD N174_ := zGD.fr hsN174_ c172_ (by decide) (by decide)
                                                          have c176_ : zTv N174_ := zTv.fr hsN174_ c173_ (by decide) (by decide)
                                                          refine zw_aload_n (pc := 140) (n := 0) (x := 81) rfl d_M_formula_140 ?_
                                                          refine zr_callV (hf_N174_.w hW) hf_N174_.x (pc := 141) [] [] l_M_193 (c_M_goOn l N174_ (hf_N174_.w hW) (show 0 ≤ ze N174_ 81 3 by first | assumption | omega) (show ze N174_ 81 3 ≤ ze N174_ 81 2 by first | assumption | omega) (show ze N174_ 81 2 ≤ 700 by first | assumption | omega) (show ze N174_ 81 5 ≠ 0 by first | assumption | omega) (show ze N174_ 81 7 = 0 by first | assumption | omega)) rfl rfl rfl (by decide) (Nat.le_of_ble_eq_true rfl) d_M_formula_141 ?_
                                                          rintro _ N177_ ⟨rfl, hsN177_, ⟨hp0_N177_, hp1_N177_, hp2_N177_, hp3_N177_, hp4_N177_⟩⟩
                                                          have hf_N177_ : zFr [3, 4, 5, 6, 7, 8, 11, 38, 39, 41, 42, 43] [95, 96, 97, 100] Mz N177_ := hf_N174_.tr hsN177_ (by decide) (by decide)
                                                          have hb0_N177_ : zFr [3, 4, 5, 6, 7, 8, 11, 38, 39, 41, 42, 43] [95, 96, 97, 100] N13_ N177_ := hb0_N174_.tr hsN177_ (by decide) (by decide)
                                                          have hb1_N177_ : zFr [3, 4, 5, 6, 7, 8, 11, 38, 39, 41, 42] [95, 96, 97, 100] N143_ N177_ := hb1_N174_.tr hsN177_ (by decide) (by decide)
                                                          have e2_N177_ : ze N177_ 81 2 = ze N174_ 81 2 := hsN177_.e (by decide)
                                                          have r3_N177_ := ze_r N177_ 81 3
                                                          have r5_N177_ := ze_r N177_ 81 5
                                                          have r6_N177_ := ze_r N177_ 81 6
                                                          have e7_N177_ : ze N177_ 81 7 = ze N174_ 81 7 := hsN177_.e (by decide)
                                                          have e14_N177_ : ze N177_ 81 14 = ze N174_ 81 14 := hsN177_.e (by decide)
                                                          have e38_N177_ : ze N177_ 81 38 = ze N174_ 81 38 := hsN177_.e (by decide)
                                                          have e39_N177_ : ze N177_ 81 39 = ze N174_ 81 39 := hsN177_.e (by decide)
                                                          have e41_N177_ : ze N177_ 81 41 = ze N174_ 81 41 := hsN177_.e (by decide)
                                                          have e42_N177_ : ze N177_ 81 42 = ze N174_ 81 42 := hsN177_.e (by decide)
                                                          have e43_N177_ : ze N177_ 81 43 = ze N174_ 81 43 := hsN177_.e (by decide)
                                                          have qzcw_N177_ : zcw N177_ = zcw N174_ := zcw_f hsN177_ (by decide)
                                                          have c179_ : zGD N177_ := zGD.fr hsN177_ c175_ (by decide) (by decide)
                                                          show zW l m_M_formula (zn Mz + 0, zw Mz + 0) N177_ 144 [some (.ref 81), some (.int (Int32.ofInt 0))] [] (zpV [3, 4, 5, 6, 7, 8, 11, 38, 39, 41, 42, 43] [95, 96, 97, 100] Mz (fun N => 0 ≤ ze N 81 3 ∧ ze N 81 3 ≤ ze N 81 2 ∧ zTv N ∧ (((1 ≤ ze N 81 7 ∧ zmu N = 0) ∨ (ze N 81 7 = 0 ∧ ze Mz 81 7 = 0 ∧ zmu N ≤ zmu Mz)))))
                                                          refine zw_aload_n (pc := 144) (n := 0) (x := 81) rfl d_M_formula_144 ?_
                                                          refine zr_callV (hf_N177_.w hW) hf_N177_.x (pc := 145) [] [] l_M_346 (c_M_closes l N177_ (hf_N177_.w hW) c179_ (show 0 ≤ ze N177_ 81 3 by first | assumption | omega) (show ze N177_ 81 3 ≤ ze N177_ 81 2 by first | assumption | omega) (show ze N177_ 81 2 ≤ 700 by first | assumption | omega) hp2_N177_ (show ze N177_ 81 7 = 0 by first | assumption | omega) (show 1 ≤ ze N177_ 81 38 by first | assumption | omega) (show ze N177_ 81 38 ≤ 40 by first | assumption | omega) (show 0 ≤ ze N177_ 81 41 by first | assumption | omega) (show ze N177_ 81 41 ≤ 80 by first | assumption | omega) (show ze N177_ 81 42 = ze N177_ 81 41 - zcw N177_ by first | assumption | omega)) rfl rfl rfl (by decide) (Nat.le_of_ble_eq_true rfl) d_M_formula_145 ?_
                                                          rintro _ N180_ ⟨rfl, hsN180_, ⟨hp0_N180_, hp1_N180_, hp2_N180_, hp3_N180_, hp4_N180_, hp5_N180_, hp6_N180_, hp7_N180_, hp8_N180_⟩⟩
                                                          have hf_N180_ : zFr [3, 4, 5, 6, 7, 8, 11, 38, 39, 41, 42, 43] [95, 96, 97, 100] Mz N180_ := hf_N177_.tr hsN180_ (by decide) (by decide)
                                                          have hb0_N180_ : zFr [3, 4, 5, 6, 7, 8, 11, 38, 39, 41, 42, 43] [95, 96, 97, 100] N13_ N180_ := hb0_N177_.tr hsN180_ (by decide) (by decide)
                                                          have hb1_N180_ : zFr [3, 4, 5, 6, 7, 8, 11, 38, 39, 41, 42] [95, 96, 97, 100] N143_ N180_ := hb1_N177_.tr hsN180_ (by decide) (by decide)
                                                          have e2_N180_ : ze N180_ 81 2 = ze N177_ 81 2 := hsN180_.e (by decide)
                                                          have r3_N180_ := ze_r N180_ 81 3
                                                          have r5_N180_ := ze_r N180_ 81 5
                                                          have r6_N180_ := ze_r N180_ 81 6
                                                          have r7_N180_ := ze_r N180_ 81 7
                                                          have e14_N180_ : ze N180_ 81 14 = ze N177_ 81 14 := hsN180_.e (by decide)
                                                          have e38_N180_ : ze N180_ 81 38 = ze N177_ 81 38 := hsN180_.e (by decide)
                                                          have r39_N180_ := ze_r N180_ 81 39
                                                          have r41_N180_ := ze_r N180_ 81 41
                                                          have r42_N180_ := ze_r N180_ 81 42
                                                          have e43_N180_ : ze N180_ 81 43 = ze N177_ 81 43 := hsN180_.e (by decide)
                                                          have c182_ : zGD N180_ := zGD.fr hsN180_ c179_ (by decide) (by decide)
                                                          rcases hp8_N180_ with ⟨ha145_0_hp8_N180_, ha145_1_hp8_N180_⟩ | ⟨ha145_0_hp8_N180_, ha145_1_hp8_N180_, ha145_2_hp8_N180_⟩
                                                          · skip
                                                            show zW l m_M_formula (zn Mz + 0, zw Mz + 0) N180_ 148 [some (.ref 81), some (.int (Int32.ofInt 0))] [] (zpV [3, 4, 5, 6, 7, 8, 11, 38, 39, 41, 42, 43] [95, 96, 97, 100] Mz (fun N => 0 ≤ ze N 81 3 ∧ ze N 81 3 ≤ ze N 81 2 ∧ zTv N ∧ (((1 ≤ ze N 81 7 ∧ zmu N = 0) ∨ (ze N 81 7 = 0 ∧ ze Mz 81 7 = 0 ∧ zmu N ≤ zmu Mz)))))
                                                            refine zw_aload_n (pc := 148) (n := 0) (x := 81) rfl d_M_formula_148 ?_
                                                            refine zr_callV (hf_N180_.w hW) hf_N180_.x (pc := 149) [] [] l_M_183 (c_M_isGood l N180_ (hf_N180_.w hW) ) rfl rfl rfl (by decide) (Nat.le_of_ble_eq_true rfl) d_M_formula_149 ?_
                                                            rintro _ N183_ ⟨v184_, rfl, ⟨hv184_a, hv184_b⟩, hsN183_, hp0_N183_⟩
                                                            obtain rfl := hsN183_.eq.symm
                                                            replace hp0_N183_ : ((v184_ = 1 ∧ ze N180_ 81 7 = 0) ∨ (v184_ = 0 ∧ ze N180_ 81 7 ≠ 0)) := hp0_N183_
                                                            rcases hp0_N183_ with ⟨rfl, ha149_0_hp0_N183_⟩ | ⟨rfl, ha149_0_hp0_N183_⟩
                                                            · skip
                                                              exfalso; omega
                                                            · skip
                                                              show zW l m_M_formula (zn Mz + 0, zw Mz + 0) N180_ 152 [some (.ref 81), some (.int (Int32.ofInt 0))] [.int (Int32.ofInt 0)] (zpV [3, 4, 5, 6, 7, 8, 11, 38, 39, 41, 42, 43] [95, 96, 97, 100] Mz (fun N => 0 ≤ ze N 81 3 ∧ ze N 81 3 ≤ ze N 81 2 ∧ zTv N ∧ (((1 ≤ ze N 81 7 ∧ zmu N = 0) ∨ (ze N 81 7 = 0 ∧ ze Mz 81 7 = 0 ∧ zmu N ≤ zmu Mz)))))
                                                              refine zr_if_eq (pc := 152) (tgt := 166) ⟨(by decide), (by decide)⟩ (by decide) d_M_formula_152 (fun hc_152 => ?_) (fun hc_152 => ?_)
                                                              · skip
                                                                refine zw_iconst (pc := 166) (v := Int32.ofInt 0) (by decide) d_M_formula_166 ?_
                                                                refine zw_istore_n (pc := 167) (i := 1) (L2 := [some (.ref 81), some (.int (Int32.ofInt 0))]) rfl (by decide) rfl d_M_formula_167 ?_
                                                                refine zw_goto (pc := 168) (tgt := 88) (by decide) d_M_formula_168 ?_
                                                                exact ih_88 0 (by decide) (by decide) (by omega) N180_ hb1_N180_ (show 0 ≤ ze N180_ 81 3 by first | assumption | omega) (show ze N180_ 81 3 ≤ ze N180_ 81 2 by first | assumption | omega) (show zmu N180_ < zmu N17_ by first | assumption | omega) hp2_N180_ (show (1 ≤ ze N180_ 81 7 ∧ zmu N180_ = 0) ∨ (0 = 1 ∧ ze N180_ 81 7 = 0 ∧ ze N180_ 81 38 = zcw N180_ ∧ 0 ≤ ze N180_ 81 41 ∧ ze N180_ 81 41 - zcw N180_ ≤ ze N180_ 81 43 ∧ ze N180_ 81 42 = ze N180_ 81 41 - zcw N180_ ∧ ze N180_ 81 38 ≤ ze N180_ 81 43 ∧ ze N180_ 81 43 ≤ 30) ∨ (0 = 0 ∧ ze N180_ 81 7 = 0 ∧ ze N180_ 81 38 = zcw N180_ + 1 ∧ 0 ≤ ze N180_ 81 41 ∧ ze N180_ 81 41 - zcw N180_ ≤ ze N180_ 81 43 ∧ ze N180_ 81 42 = ze N180_ 81 41 - zcw N180_ ∧ ze N180_ 81 38 ≤ ze N180_ 81 43 ∧ ze N180_ 81 43 ≤ 30) from Or.inl (⟨(show 1 ≤ ze N180_ 81 7 by first | assumption | omega), (show zmu N180_ = 0 by first | assumption | omega)⟩)) (by omega)
                                                              · skip
                                                                exact absurd hc_152 (by decide)
                                                          · skip
                                                            show zW l m_M_formula (zn Mz + 0, zw Mz + 0) N180_ 148 [some (.ref 81), some (.int (Int32.ofInt 0))] [] (zpV [3, 4, 5, 6, 7, 8, 11, 38, 39, 41, 42, 43] [95, 96, 97, 100] Mz (fun N => 0 ≤ ze N 81 3 ∧ ze N 81 3 ≤ ze N 81 2 ∧ zTv N ∧ (((1 ≤ ze N 81 7 ∧ zmu N = 0) ∨ (ze N 81 7 = 0 ∧ ze Mz 81 7 = 0 ∧ zmu N ≤ zmu Mz)))))
                                                            refine zw_aload_n (pc := 148) (n := 0) (x := 81) rfl d_M_formula_148 ?_
                                                            refine zr_callV (hf_N180_.w hW) hf_N180_.x (pc := 149) [] [] l_M_183 (c_M_isGood l N180_ (hf_N180_.w hW) ) rfl rfl rfl (by decide) (Nat.le_of_ble_eq_true rfl) d_M_formula_149 ?_
                                                            rintro _ N185_ ⟨v186_, rfl, ⟨hv186_a, hv186_b⟩, hsN185_, hp0_N185_⟩
                                                            obtain rfl := hsN185_.eq.symm
                                                            replace hp0_N185_ : ((v186_ = 1 ∧ ze N180_ 81 7 = 0) ∨ (v186_ = 0 ∧ ze N180_ 81 7 ≠ 0)) := hp0_N185_
                                                            rcases hp0_N185_ with ⟨rfl, ha149_0_hp0_N185_⟩ | ⟨rfl, ha149_0_hp0_N185_⟩
                                                            · skip
                                                              show zW l m_M_formula (zn Mz + 0, zw Mz + 0) N180_ 152 [some (.ref 81), some (.int (Int32.ofInt 0))] [.int (Int32.ofInt 1)] (zpV [3, 4, 5, 6, 7, 8, 11, 38, 39, 41, 42, 43] [95, 96, 97, 100] Mz (fun N => 0 ≤ ze N 81 3 ∧ ze N 81 3 ≤ ze N 81 2 ∧ zTv N ∧ (((1 ≤ ze N 81 7 ∧ zmu N = 0) ∨ (ze N 81 7 = 0 ∧ ze Mz 81 7 = 0 ∧ zmu N ≤ zmu Mz)))))
                                                              refine zr_if_eq (pc := 152) (tgt := 166) ⟨(by decide), (by decide)⟩ (by decide) d_M_formula_152 (fun hc_152 => ?_) (fun hc_152 => ?_)
                                                              · skip
                                                                exact absurd hc_152 (by decide)
                                                              · skip
                                                                refine zw_aload_n (pc := 155) (n := 0) (x := 81) rfl d_M_formula_155 ?_
                                                                refine zr_callV (hf_N180_.w hW) hf_N180_.x (pc := 156) [] [] l_M_349 (c_M_goesOn l N180_ (hf_N180_.w hW) c182_ (show 0 ≤ ze N180_ 81 3 by first | assumption | omega) (show ze N180_ 81 3 ≤ ze N180_ 81 2 by first | assumption | omega) (show ze N180_ 81 2 ≤ 700 by first | assumption | omega) hp2_N180_ (show ze N180_ 81 7 = 0 by first | assumption | omega) (show 0 ≤ ze N180_ 81 41 by first | assumption | omega) (show ze N180_ 81 41 ≤ 79 by first | assumption | omega) (show ze N180_ 81 38 = zcw N180_ + 1 by first | assumption | omega) (show ze N180_ 81 38 ≤ 40 by first | assumption | omega)) rfl rfl rfl (by decide) (Nat.le_of_ble_eq_true rfl) d_M_formula_156 ?_
                                                                rintro _ N187_ ⟨v188_, rfl, ⟨hv188_a, hv188_b⟩, hsN187_, ⟨hp0_N187_, hp1_N187_, hp2_N187_, hp3_N187_, hp4_N187_, hp5_N187_, hp6_N187_, hp7_N187_⟩⟩
                                                                have hf_N187_ : zFr [3, 4, 5, 6, 7, 8, 11, 38, 39, 41, 42, 43] [95, 96, 97, 100] Mz N187_ := hf_N180_.tr hsN187_ (by decide) (by decide)
                                                                have hb0_N187_ : zFr [3, 4, 5, 6, 7, 8, 11, 38, 39, 41, 42, 43] [95, 96, 97, 100] N13_ N187_ := hb0_N180_.tr hsN187_ (by decide) (by decide)
                                                                have hb1_N187_ : zFr [3, 4, 5, 6, 7, 8, 11, 38, 39, 41, 42] [95, 96, 97, 100] N143_ N187_ := hb1_N180_.tr hsN187_ (by decide) (by decide)
                                                                have e2_N187_ : ze N187_ 81 2 = ze N180_ 81 2 := hsN187_.e (by decide)
                                                                have r3_N187_ := ze_r N187_ 81 3
                                                                have r5_N187_ := ze_r N187_ 81 5
                                                                have r6_N187_ := ze_r N187_ 81 6
                                                                have e7_N187_ : ze N187_ 81 7 = ze N180_ 81 7 := hsN187_.e (by decide)
                                                                have e14_N187_ : ze N187_ 81 14 = ze N180_ 81 14 := hsN187_.e (by decide)
                                                                have r38_N187_ := ze_r N187_ 81 38
                                                                have r39_N187_ := ze_r N187_ 81 39
                                                                have r41_N187_ := ze_r N187_ 81 41
                                                                have e42_N187_ : ze N187_ 81 42 = ze N180_ 81 42 := hsN187_.e (by decide)
                                                                have e43_N187_ : ze N187_ 81 43 = ze N180_ 81 43 := hsN187_.e (by decide)
                                                                have c189_ : zGD N187_ := zGD.fr hsN187_ c182_ (by decide) (by decide)
                                                                rcases hp7_N187_ with ⟨rfl, ha156_0_hp7_N187_, ha156_1_hp7_N187_⟩ | ⟨rfl, ha156_0_hp7_N187_, ha156_1_hp7_N187_⟩
                                                                · skip
                                                                  show zW l m_M_formula (zn Mz + 0, zw Mz + 0) N187_ 159 [some (.ref 81), some (.int (Int32.ofInt 0))] [.int (Int32.ofInt 1)] (zpV [3, 4, 5, 6, 7, 8, 11, 38, 39, 41, 42, 43] [95, 96, 97, 100] Mz (fun N => 0 ≤ ze N 81 3 ∧ ze N 81 3 ≤ ze N 81 2 ∧ zTv N ∧ (((1 ≤ ze N 81 7 ∧ zmu N = 0) ∨ (ze N 81 7 = 0 ∧ ze Mz 81 7 = 0 ∧ zmu N ≤ zmu Mz)))))
                                                                  refine zr_if_eq (pc := 159) (tgt := 166) ⟨(by decide), (by decide)⟩ (by decide) d_M_formula_159 (fun hc_159 => ?_) (fun hc_159 => ?_)
                                                                  · skip
                                                                    exact absurd hc_159 (by decide)
                                                                  · skip
                                                                    refine zw_iconst (pc := 162) (v := Int32.ofInt 1) (by decide) d_M_formula_162 ?_
                                                                    refine zw_goto (pc := 163) (tgt := 167) (by decide) d_M_formula_163 ?_
                                                                    refine zw_istore_n (pc := 167) (i := 1) (L2 := [some (.ref 81), some (.int (Int32.ofInt 1))]) rfl (by decide) rfl d_M_formula_167 ?_
                                                                    refine zw_goto (pc := 168) (tgt := 88) (by decide) d_M_formula_168 ?_
                                                                    exact ih_88 1 (by decide) (by decide) (by omega) N187_ hb1_N187_ (show 0 ≤ ze N187_ 81 3 by first | assumption | omega) (show ze N187_ 81 3 ≤ ze N187_ 81 2 by first | assumption | omega) (show zmu N187_ < zmu N17_ by first | assumption | omega) hp2_N187_ (show (1 ≤ ze N187_ 81 7 ∧ zmu N187_ = 0) ∨ (1 = 1 ∧ ze N187_ 81 7 = 0 ∧ ze N187_ 81 38 = zcw N187_ ∧ 0 ≤ ze N187_ 81 41 ∧ ze N187_ 81 41 - zcw N187_ ≤ ze N187_ 81 43 ∧ ze N187_ 81 42 = ze N187_ 81 41 - zcw N187_ ∧ ze N187_ 81 38 ≤ ze N187_ 81 43 ∧ ze N187_ 81 43 ≤ 30) ∨ (1 = 0 ∧ ze N187_ 81 7 = 0 ∧ ze N187_ 81 38 = zcw N187_ + 1 ∧ 0 ≤ ze N187_ 81 41 ∧ ze N187_ 81 41 - zcw N187_ ≤ ze N187_ 81 43 ∧ ze N187_ 81 42 = ze N187_ 81 41 - zcw N187_ ∧ ze N187_ 81 38 ≤ ze N187_ 81 43 ∧ ze N187_ 81 43 ≤ 30) from Or.inr (Or.inl (⟨(show 1 = 1 by first | assumption | omega), (show ze N187_ 81 7 = 0 by first | assumption | omega), (show ze N187_ 81 38 = zcw N187_ by first | assumption | omega), (show 0 ≤ ze N187_ 81 41 by first | assumption | omega), (show ze N187_ 81 41 - zcw N187_ ≤ ze N187_ 81 43 by first | assumption | omega), (show ze N187_ 81 42 = ze N187_ 81 41 - zcw N187_ by first | assumption | omega), (show ze N187_ 81 38 ≤ ze N187_ 81 43 by first | assumption | omega), (show ze N187_ 81 43 ≤ 30 by first | assumption | omega)⟩))) (by omega)
                                                                · skip
                                                                  show zW l m_M_formula (zn Mz + 0, zw Mz + 0) N187_ 159 [some (.ref 81), some (.int (Int32.ofInt 0))] [.int (Int32.ofInt 0)] (zpV [3, 4, 5, 6, 7, 8, 11, 38, 39, 41, 42, 43] [95, 96, 97, 100] Mz (fun N => 0 ≤ ze N 81 3 ∧ ze N 81 3 ≤ ze N 81 2 ∧ zTv N ∧ (((1 ≤ ze N 81 7 ∧ zmu N = 0) ∨ (ze N 81 7 = 0 ∧ ze Mz 81 7 = 0 ∧ zmu N ≤ zmu Mz)))))
                                                                  refine zr_if_eq (pc := 159) (tgt := 166) ⟨(by decide), (by decide)⟩ (by decide) d_M_formula_159 (fun hc_159 => ?_) (fun hc_159 => ?_)
                                                                  · skip
                                                                    refine zw_iconst (pc := 166) (v := Int32.ofInt 0) (by decide) d_M_formula_166 ?_
                                                                    refine zw_istore_n (pc := 167) (i := 1) (L2 := [some (.ref 81), some (.int (Int32.ofInt 0))]) rfl (by decide) rfl d_M_formula_167 ?_
                                                                    refine zw_goto (pc := 168) (tgt := 88) (by decide) d_M_formula_168 ?_
                                                                    exact ih_88 0 (by decide) (by decide) (by omega) N187_ hb1_N187_ (show 0 ≤ ze N187_ 81 3 by first | assumption | omega) (show ze N187_ 81 3 ≤ ze N187_ 81 2 by first | assumption | omega) (show zmu N187_ < zmu N17_ by first | assumption | omega) hp2_N187_ (show (1 ≤ ze N187_ 81 7 ∧ zmu N187_ = 0) ∨ (0 = 1 ∧ ze N187_ 81 7 = 0 ∧ ze N187_ 81 38 = zcw N187_ ∧ 0 ≤ ze N187_ 81 41 ∧ ze N187_ 81 41 - zcw N187_ ≤ ze N187_ 81 43 ∧ ze N187_ 81 42 = ze N187_ 81 41 - zcw N187_ ∧ ze N187_ 81 38 ≤ ze N187_ 81 43 ∧ ze N187_ 81 43 ≤ 30) ∨ (0 = 0 ∧ ze N187_ 81 7 = 0 ∧ ze N187_ 81 38 = zcw N187_ + 1 ∧ 0 ≤ ze N187_ 81 41 ∧ ze N187_ 81 41 - zcw N187_ ≤ ze N187_ 81 43 ∧ ze N187_ 81 42 = ze N187_ 81 41 - zcw N187_ ∧ ze N187_ 81 38 ≤ ze N187_ 81 43 ∧ ze N187_ 81 43 ≤ 30) from Or.inr (Or.inr (⟨(show 0 = 0 by first | assumption | omega), (show ze N187_ 81 7 = 0 by first | assumption | omega), (show ze N187_ 81 38 = zcw N187_ + 1 by first | assumption | omega), (show 0 ≤ ze N187_ 81 41 by first | assumption | omega), (show ze N187_ 81 41 - zcw N187_ ≤ ze N187_ 81 43 by first | assumption | omega), (show ze N187_ 81 42 = ze N187_ 81 41 - zcw N187_ by first | assumption | omega), (show ze N187_ 81 38 ≤ ze N187_ 81 43 by first | assumption | omega), (show ze N187_ 81 43 ≤ 30 by first | assumption | omega)⟩))) (by omega)
                                                                  · skip
                                                                    exact absurd hc_159 (by decide)
                                                            · skip
                                                              exfalso; omega
                                                      · skip
                                                        show zW l m_M_formula (zn Mz + 0, zw Mz + 0) N149_ 112 [some (.ref 81), some (.int (Int32.ofInt 0))] [.int (Int32.ofInt 0)] (zpV [3, 4, 5, 6, 7, 8, 11, 38, 39, 41, 42, 43] [95, 96, 97, 100] Mz (fun N => 0 ≤ ze N 81 3 ∧ ze N 81 3 ≤ ze N 81 2 ∧ zTv N ∧ (((1 ≤ ze N 81 7 ∧ zmu N = 0) ∨ (ze N 81 7 = 0 ∧ ze Mz 81 7 = 0 ∧ zmu N ≤ zmu Mz)))))
                                                        refine zr_if_eq (pc := 112) (tgt := 27) ⟨(by decide), (by decide)⟩ (by decide) d_M_formula_112 (fun hc_112 => ?_) (fun hc_112 => ?_)
                                                        · skip
                                                          exact ih_27 0 (by decide) (by decide) (by omega) N149_ hb0_N149_ (show 0 ≤ ze N149_ 81 3 by first | assumption | omega) (show ze N149_ 81 3 ≤ ze N149_ 81 2 by first | assumption | omega) (show zmu N149_ ≤ zmu Mz by first | assumption | omega) i154_ (show (1 ≤ ze N149_ 81 7 ∧ zmu N149_ = 0) ∨ (0 = 1 ∧ ze N149_ 81 7 = 0 ∧ ze N149_ 81 38 = zcw N149_ ∧ 0 ≤ ze N149_ 81 41 ∧ ze N149_ 81 41 - zcw N149_ ≤ ze N149_ 81 43 ∧ ze N149_ 81 42 = ze N149_ 81 41 - zcw N149_ ∧ ze N149_ 81 38 ≤ ze N149_ 81 43 ∧ ze N149_ 81 43 ≤ 30) ∨ (0 = 0 ∧ ze N149_ 81 7 = 0 ∧ ze N149_ 81 38 = zcw N149_ + 1 ∧ 0 ≤ ze N149_ 81 41 ∧ ze N149_ 81 41 - zcw N149_ ≤ ze N149_ 81 43 ∧ ze N149_ 81 42 = ze N149_ 81 41 - zcw N149_ ∧ ze N149_ 81 38 ≤ ze N149_ 81 43 ∧ ze N149_ 81 43 ≤ 30) from Or.inr (Or.inr (⟨(show 0 = 0 by first | assumption | omega), (show ze N149_ 81 7 = 0 by first | assumption | omega), (show ze N149_ 81 38 = zcw N149_ + 1 by first | assumption | omega), (show 0 ≤ ze N149_ 81 41 by first | assumption | omega), (show ze N149_ 81 41 - zcw N149_ ≤ ze N149_ 81 43 by first | assumption | omega), (show ze N149_ 81 42 = ze N149_ 81 41 - zcw N149_ by first | assumption | omega), (show ze N149_ 81 38 ≤ ze N149_ 81 43 by first | assumption | omega), (show ze N149_ 81 43 ≤ 30 by first | assumption | omega)⟩))) (by omega)
                                                        · skip
                                                          exact absurd hc_112 (by decide)
                                                  · skip
                                                    show zW l m_M_formula (zn Mz + 0, zw Mz + 0) N149_ 105 [some (.ref 81), some (.int (Int32.ofInt 0))] [.int (Int32.ofInt 0)] (zpV [3, 4, 5, 6, 7, 8, 11, 38, 39, 41, 42, 43] [95, 96, 97, 100] Mz (fun N => 0 ≤ ze N 81 3 ∧ ze N 81 3 ≤ ze N 81 2 ∧ zTv N ∧ (((1 ≤ ze N 81 7 ∧ zmu N = 0) ∨ (ze N 81 7 = 0 ∧ ze Mz 81 7 = 0 ∧ zmu N ≤ zmu Mz)))))
                                                    refine zr_if_eq (pc := 105) (tgt := 27) ⟨(by decide), (by decide)⟩ (by decide) d_M_formula_105 (fun hc_105 => ?_) (fun hc_105 => ?_)
                                                    · skip
                                                      exact ih_27 0 (by decide) (by decide) (by omega) N149_ hb0_N149_ (show 0 ≤ ze N149_ 81 3 by first | assumption | omega) (show ze N149_ 81 3 ≤ ze N149_ 81 2 by first | assumption | omega) (show zmu N149_ ≤ zmu Mz by first | assumption | omega) i154_ (show (1 ≤ ze N149_ 81 7 ∧ zmu N149_ = 0) ∨ (0 = 1 ∧ ze N149_ 81 7 = 0 ∧ ze N149_ 81 38 = zcw N149_ ∧ 0 ≤ ze N149_ 81 41 ∧ ze N149_ 81 41 - zcw N149_ ≤ ze N149_ 81 43 ∧ ze N149_ 81 42 = ze N149_ 81 41 - zcw N149_ ∧ ze N149_ 81 38 ≤ ze N149_ 81 43 ∧ ze N149_ 81 43 ≤ 30) ∨ (0 = 0 ∧ ze N149_ 81 7 = 0 ∧ ze N149_ 81 38 = zcw N149_ + 1 ∧ 0 ≤ ze N149_ 81 41 ∧ ze N149_ 81 41 - zcw N149_ ≤ ze N149_ 81 43 ∧ ze N149_ 81 42 = ze N149_ 81 41 - zcw N149_ ∧ ze N149_ 81 38 ≤ ze N149_ 81 43 ∧ ze N149_ 81 43 ≤ 30) from Or.inr (Or.inr (⟨(show 0 = 0 by first | assumption | omega), (show ze N149_ 81 7 = 0 by first | assumption | omega), (show ze N149_ 81 38 = zcw N149_ + 1 by first | assumption | omega), (show 0 ≤ ze N149_ 81 41 by first | assumption | omega), (show ze N149_ 81 41 - zcw N149_ ≤ ze N149_ 81 43 by first | assumption | omega), (show ze N149_ 81 42 = ze N149_ 81 41 - zcw N149_ by first | assumption | omega), (show ze N149_ 81 38 ≤ ze N149_ 81 43 by first | assumption | omega), (show ze N149_ 81 43 ≤ 30 by first | assumption | omega)⟩))) (by omega)
                                                    · skip
                                                      exact absurd hc_105 (by decide)
                                            · skip
                                              exfalso; omega
                                      exact lp_88 _ 0 (by decide) (by decide) (by omega) N143_ zFr.rf (show 0 ≤ ze N143_ 81 3 by first | assumption | omega) (show ze N143_ 81 3 ≤ ze N143_ 81 2 by first | assumption | omega) (show zmu N143_ < zmu N17_ by first | assumption | omega) hp2_N143_ (show (1 ≤ ze N143_ 81 7 ∧ zmu N143_ = 0) ∨ (0 = 1 ∧ ze N143_ 81 7 = 0 ∧ ze N143_ 81 38 = zcw N143_ ∧ 0 ≤ ze N143_ 81 41 ∧ ze N143_ 81 41 - zcw N143_ ≤ ze N143_ 81 43 ∧ ze N143_ 81 42 = ze N143_ 81 41 - zcw N143_ ∧ ze N143_ 81 38 ≤ ze N143_ 81 43 ∧ ze N143_ 81 43 ≤ 30) ∨ (0 = 0 ∧ ze N143_ 81 7 = 0 ∧ ze N143_ 81 38 = zcw N143_ + 1 ∧ 0 ≤ ze N143_ 81 41 ∧ ze N143_ 81 41 - zcw N143_ ≤ ze N143_ 81 43 ∧ ze N143_ 81 42 = ze N143_ 81 41 - zcw N143_ ∧ ze N143_ 81 38 ≤ ze N143_ 81 43 ∧ ze N143_ 81 43 ≤ 30) from Or.inl (⟨(show 1 ≤ ze N143_ 81 7 by first | assumption | omega), (show zmu N143_ = 0 by first | assumption | omega)⟩)) (Nat.lt_succ_self _)
                                    · skip
                                      exact absurd hc_72 (by decide)
                                · skip
                                  show zW l m_M_formula (zn Mz + 0, zw Mz + 0) N143_ 68 [some (.ref 81), some (.int (Int32.ofInt u33_))] [] (zpV [3, 4, 5, 6, 7, 8, 11, 38, 39, 41, 42, 43] [95, 96, 97, 100] Mz (fun N => 0 ≤ ze N 81 3 ∧ ze N 81 3 ≤ ze N 81 2 ∧ zTv N ∧ (((1 ≤ ze N 81 7 ∧ zmu N = 0) ∨ (ze N 81 7 = 0 ∧ ze Mz 81 7 = 0 ∧ zmu N ≤ zmu Mz)))))
                                  refine zw_aload_n (pc := 68) (n := 0) (x := 81) rfl d_M_formula_68 ?_
                                  refine zr_callV (hf_N143_.w hW) hf_N143_.x (pc := 69) [] [] l_M_183 (c_M_isGood l N143_ (hf_N143_.w hW) ) rfl rfl rfl (by decide) (Nat.le_of_ble_eq_true rfl) d_M_formula_69 ?_
                                  rintro _ N190_ ⟨v191_, rfl, ⟨hv191_a, hv191_b⟩, hsN190_, hp0_N190_⟩
                                  obtain rfl := hsN190_.eq.symm
                                  replace hp0_N190_ : ((v191_ = 1 ∧ ze N143_ 81 7 = 0) ∨ (v191_ = 0 ∧ ze N143_ 81 7 ≠ 0)) := hp0_N190_
                                  rcases hp0_N190_ with ⟨rfl, ha69_0_hp0_N190_⟩ | ⟨rfl, ha69_0_hp0_N190_⟩
                                  · skip
                                    show zW l m_M_formula (zn Mz + 0, zw Mz + 0) N143_ 72 [some (.ref 81), some (.int (Int32.ofInt u33_))] [.int (Int32.ofInt 1)] (zpV [3, 4, 5, 6, 7, 8, 11, 38, 39, 41, 42, 43] [95, 96, 97, 100] Mz (fun N => 0 ≤ ze N 81 3 ∧ ze N 81 3 ≤ ze N 81 2 ∧ zTv N ∧ (((1 ≤ ze N 81 7 ∧ zmu N = 0) ∨ (ze N 81 7 = 0 ∧ ze Mz 81 7 = 0 ∧ zmu N ≤ zmu Mz)))))
                                    refine zr_if_eq (pc := 72) (tgt := 86) ⟨(by decide), (by decide)⟩ (by decide) d_M_formula_72 (fun hc_72 => ?_) (fun hc_72 => ?_)
                                    · skip
                                      exact absurd hc_72 (by decide)
                                    · skip
                                      refine zw_aload_n (pc := 75) (n := 0) (x := 81) rfl d_M_formula_75 ?_
                                      refine zr_callV (hf_N143_.w hW) hf_N143_.x (pc := 76) [] [] l_M_349 (c_M_goesOn l N143_ (hf_N143_.w hW) c145_ (show 0 ≤ ze N143_ 81 3 by first | assumption | omega) (show ze N143_ 81 3 ≤ ze N143_ 81 2 by first | assumption | omega) (show ze N143_ 81 2 ≤ 700 by first | assumption | omega) hp2_N143_ (show ze N143_ 81 7 = 0 by first | assumption | omega) (show 0 ≤ ze N143_ 81 41 by first | assumption | omega) (show ze N143_ 81 41 ≤ 79 by first | assumption | omega) (show ze N143_ 81 38 = zcw N143_ + 1 by first | assumption | omega) (show ze N143_ 81 38 ≤ 40 by first | assumption | omega)) rfl rfl rfl (by decide) (Nat.le_of_ble_eq_true rfl) d_M_formula_76 ?_
                                      rintro _ N192_ ⟨v193_, rfl, ⟨hv193_a, hv193_b⟩, hsN192_, ⟨hp0_N192_, hp1_N192_, hp2_N192_, hp3_N192_, hp4_N192_, hp5_N192_, hp6_N192_, hp7_N192_⟩⟩
                                      have hf_N192_ : zFr [3, 4, 5, 6, 7, 8, 11, 38, 39, 41, 42, 43] [95, 96, 97, 100] Mz N192_ := hf_N143_.tr hsN192_ (by decide) (by decide)
                                      have hb0_N192_ : zFr [3, 4, 5, 6, 7, 8, 11, 38, 39, 41, 42, 43] [95, 96, 97, 100] N13_ N192_ := hb0_N143_.tr hsN192_ (by decide) (by decide)
                                      have e2_N192_ : ze N192_ 81 2 = ze N143_ 81 2 := hsN192_.e (by decide)
                                      have r3_N192_ := ze_r N192_ 81 3
                                      have r5_N192_ := ze_r N192_ 81 5
                                      have r6_N192_ := ze_r N192_ 81 6
                                      have e7_N192_ : ze N192_ 81 7 = ze N143_ 81 7 := hsN192_.e (by decide)
                                      have e14_N192_ : ze N192_ 81 14 = ze N143_ 81 14 := hsN192_.e (by decide)
                                      have r38_N192_ := ze_r N192_ 81 38
                                      have r39_N192_ := ze_r N192_ 81 39
                                      have r41_N192_ := ze_r N192_ 81 41
                                      have e42_N192_ : ze N192_ 81 42 = ze N143_ 81 42 := hsN192_.e (by decide)
                                      have e43_N192_ : ze N192_ 81 43 = ze N143_ 81 43 := hsN192_.e (by decide)
                                      have c194_ : zGD N192_ := zGD.fr hsN192_ c145_ (by decide) (by decide)
                                      rcases hp7_N192_ with ⟨rfl, ha76_0_hp7_N192_, ha76_1_hp7_N192_⟩ | ⟨rfl, ha76_0_hp7_N192_, ha76_1_hp7_N192_⟩
                                      · skip
                                        show zW l m_M_formula (zn Mz + 0, zw Mz + 0) N192_ 79 [some (.ref 81), some (.int (Int32.ofInt u33_))] [.int (Int32.ofInt 1)] (zpV [3, 4, 5, 6, 7, 8, 11, 38, 39, 41, 42, 43] [95, 96, 97, 100] Mz (fun N => 0 ≤ ze N 81 3 ∧ ze N 81 3 ≤ ze N 81 2 ∧ zTv N ∧ (((1 ≤ ze N 81 7 ∧ zmu N = 0) ∨ (ze N 81 7 = 0 ∧ ze Mz 81 7 = 0 ∧ zmu N ≤ zmu Mz)))))
                                        refine zr_if_eq (pc := 79) (tgt := 86) ⟨(by decide), (by decide)⟩ (by decide) d_M_formula_79 (fun hc_79 => ?_) (fun hc_79 => ?_)
                                        · skip
                                          exact absurd hc_79 (by decide)
                                        · skip
                                          refine zw_iconst (pc := 82) (v := Int32.ofInt 1) (by decide) d_M_formula_82 ?_
                                          refine zw_goto (pc := 83) (tgt := 87) (by decide) d_M_formula_83 ?_
                                          refine zw_istore_n (pc := 87) (i := 1) (L2 := [some (.ref 81), some (.int (Int32.ofInt 1))]) rfl (by decide) rfl d_M_formula_87 ?_
                                          have lp_88 : ∀ (n : Nat) (u195_ : Int) (hu195_a : -2147483648 ≤ u195_) (hu195_b : u195_ < 2147483648) (hu195_z : u195_ = 0 ∨ u195_ = 1) (N196_ : zMem) (hs197_ : zFr [3, 4, 5, 6, 7, 8, 11, 38, 39, 41, 42] [95, 96, 97, 100] N192_ N196_) (i198_ : 0 ≤ ze N196_ 81 3) (i199_ : ze N196_ 81 3 ≤ ze N196_ 81 2) (i200_ : zmu N196_ < zmu N17_) (i201_ : zTv N196_) (i202_ : (1 ≤ ze N196_ 81 7 ∧ zmu N196_ = 0) ∨ (u195_ = 1 ∧ ze N196_ 81 7 = 0 ∧ ze N196_ 81 38 = zcw N196_ ∧ 0 ≤ ze N196_ 81 41 ∧ ze N196_ 81 41 - zcw N196_ ≤ ze N196_ 81 43 ∧ ze N196_ 81 42 = ze N196_ 81 41 - zcw N196_ ∧ ze N196_ 81 38 ≤ ze N196_ 81 43 ∧ ze N196_ 81 43 ≤ 30) ∨ (u195_ = 0 ∧ ze N196_ 81 7 = 0 ∧ ze N196_ 81 38 = zcw N196_ + 1 ∧ 0 ≤ ze N196_ 81 41 ∧ ze N196_ 81 41 - zcw N196_ ≤ ze N196_ 81 43 ∧ ze N196_ 81 42 = ze N196_ 81 41 - zcw N196_ ∧ ze N196_ 81 38 ≤ ze N196_ 81 43 ∧ ze N196_ 81 43 ≤ 30)), (zmu N196_).toNat < n → zW l m_M_formula (zn Mz + 0, zw Mz + 0) N196_ 88 [some (.ref 81), some (.int (Int32.ofInt u195_))] [] (zpV [3, 4, 5, 6, 7, 8, 11, 38, 39, 41, 42, 43] [95, 96, 97, 100] Mz (fun N => 0 ≤ ze N 81 3 ∧ ze N 81 3 ≤ ze N 81 2 ∧ zTv N ∧ (((1 ≤ ze N 81 7 ∧ zmu N = 0) ∨ (ze N 81 7 = 0 ∧ ze Mz 81 7 = 0 ∧ zmu N ≤ zmu Mz))))) := by
                                            clear hu33_a hu33_b hu33_z hv91_a hv91_b hc_42 hsN92_ hv93_a hv93_b hp0_N92_ hp1_N92_ hp2_N92_ hf_N92_ hb0_N92_ hb1_N92_ e2_N92_ r3_N92_ r5_N92_ r6_N92_ r7_N92_ e14_N92_ r38_N92_ r39_N92_ r41_N92_ r42_N92_ r43_N92_ c94_ ha46_0_hp3_N92_ ha46_1_hp3_N92_ ha46_2_hp3_N92_ ha46_3_hp3_N92_ ha46_4_hp3_N92_ ha46_5_hp3_N92_ ha46_6_hp3_N92_ ha46_7_hp3_N92_ hc_49 hv142_a hv142_b ha58_0_hp0_N141_ hc_61 hsN143_ hp0_N143_ hp1_N143_ hp2_N143_ hp3_N143_ hp4_N143_ hp5_N143_ hp6_N143_ hp7_N143_ hf_N143_ hb0_N143_ e2_N143_ r3_N143_ r5_N143_ r6_N143_ r7_N143_ e14_N143_ e38_N143_ r39_N143_ r41_N143_ r42_N143_ e43_N143_ c145_ ha65_0_hp8_N143_ ha65_1_hp8_N143_ ha65_2_hp8_N143_ hv191_a hv191_b ha69_0_hp0_N190_ hc_72 hsN192_ hv193_a hv193_b hp3_N192_ hp4_N192_ hp5_N192_ e2_N192_ e7_N192_ e14_N192_ e42_N192_ e43_N192_ ha76_1_hp7_N192_ hc_79
                                            intro n
                                            induction n with
                                            | zero =>
                                              intro u195_ hu195_a hu195_b hu195_z N196_ hs197_ i198_ i199_ i200_ i201_ i202_ h0
                                              exact absurd h0 (Nat.not_lt_zero _)
                                            | succ n ih_88 =>
                                              intro u195_ hu195_a hu195_b hu195_z N196_ hs197_ i198_ i199_ i200_ i201_ i202_ hlt_88
                                              have hf_N196_ : zFr [3, 4, 5, 6, 7, 8, 11, 38, 39, 41, 42, 43] [95, 96, 97, 100] Mz N196_ := hf_N192_.tr hs197_ (by decide) (by decide)
                                              have hb0_N196_ : zFr [3, 4, 5, 6, 7, 8, 11, 38, 39, 41, 42, 43] [95, 96, 97, 100] N13_ N196_ := hb0_N192_.tr hs197_ (by decide) (by decide)
                                              have e2_N196_ : ze N196_ 81 2 = ze N192_ 81 2 := hs197_.e (by decide)
                                              have r3_N196_ := ze_r N196_ 81 3
                                              have r5_N196_ := ze_r N196_ 81 5
                                              have r6_N196_ := ze_r N196_ 81 6
                                              have r7_N196_ := ze_r N196_ 81 7
                                              have e14_N196_ : ze N196_ 81 14 = ze N192_ 81 14 := hs197_.e (by decide)
                                              have r38_N196_ := ze_r N196_ 81 38
                                              have r39_N196_ := ze_r N196_ 81 39
                                              have r41_N196_ := ze_r N196_ 81 41
                                              have r42_N196_ := ze_r N196_ 81 42
                                              have e43_N196_ : ze N196_ 81 43 = ze N192_ 81 43 := hs197_.e (by decide)
                                              have c203_ : zGD N196_ := zGD.fr hs197_ c194_ (by decide) (by decide)
                                              have zz2_N196_ : ze N196_ 81 2 = ze Mz 81 2 := hf_N196_.e (by decide)
                                              have zz14_N196_ : ze N196_ 81 14 = ze Mz 81 14 := hf_N196_.e (by decide)
                                              rcases i202_ with ⟨hl88_0_i202_, hl88_1_i202_⟩ | ⟨rfl, hl88_0_i202_, hl88_1_i202_, hl88_2_i202_, hl88_3_i202_, hl88_4_i202_, hl88_5_i202_, hl88_6_i202_⟩ | ⟨rfl, hl88_0_i202_, hl88_1_i202_, hl88_2_i202_, hl88_3_i202_, hl88_4_i202_, hl88_5_i202_, hl88_6_i202_⟩
                                              · skip
                                                refine zw_aload_n (pc := 88) (n := 0) (x := 81) rfl d_M_formula_88 ?_
                                                refine zr_callV (hf_N196_.w hW) hf_N196_.x (pc := 89) [] [] l_M_183 (c_M_isGood l N196_ (hf_N196_.w hW) ) rfl rfl rfl (by decide) (Nat.le_of_ble_eq_true rfl) d_M_formula_89 ?_
                                                rintro _ N204_ ⟨v205_, rfl, ⟨hv205_a, hv205_b⟩, hsN204_, hp0_N204_⟩
                                                obtain rfl := hsN204_.eq.symm
                                                replace hp0_N204_ : ((v205_ = 1 ∧ ze N196_ 81 7 = 0) ∨ (v205_ = 0 ∧ ze N196_ 81 7 ≠ 0)) := hp0_N204_
                                                rcases hp0_N204_ with ⟨rfl, ha89_0_hp0_N204_⟩ | ⟨rfl, ha89_0_hp0_N204_⟩
                                                · skip
                                                  exfalso; omega
                                                · skip
                                                  show zW l m_M_formula (zn Mz + 0, zw Mz + 0) N196_ 92 [some (.ref 81), some (.int (Int32.ofInt u195_))] [.int (Int32.ofInt 0)] (zpV [3, 4, 5, 6, 7, 8, 11, 38, 39, 41, 42, 43] [95, 96, 97, 100] Mz (fun N => 0 ≤ ze N 81 3 ∧ ze N 81 3 ≤ ze N 81 2 ∧ zTv N ∧ (((1 ≤ ze N 81 7 ∧ zmu N = 0) ∨ (ze N 81 7 = 0 ∧ ze Mz 81 7 = 0 ∧ zmu N ≤ zmu Mz)))))
                                                  refine zr_if_eq (pc := 92) (tgt := 27) ⟨(by decide), (by decide)⟩ (by decide) d_M_formula_92 (fun hc_92 => ?_) (fun hc_92 => ?_)
                                                  · skip
                                                    exact ih_27 u195_ hu195_a hu195_b (by omega) N196_ hb0_N196_ (show 0 ≤ ze N196_ 81 3 by first | assumption | omega) (show ze N196_ 81 3 ≤ ze N196_ 81 2 by first | assumption | omega) (show zmu N196_ ≤ zmu Mz by first | assumption | omega) i201_ (show (1 ≤ ze N196_ 81 7 ∧ zmu N196_ = 0) ∨ (u195_ = 1 ∧ ze N196_ 81 7 = 0 ∧ ze N196_ 81 38 = zcw N196_ ∧ 0 ≤ ze N196_ 81 41 ∧ ze N196_ 81 41 - zcw N196_ ≤ ze N196_ 81 43 ∧ ze N196_ 81 42 = ze N196_ 81 41 - zcw N196_ ∧ ze N196_ 81 38 ≤ ze N196_ 81 43 ∧ ze N196_ 81 43 ≤ 30) ∨ (u195_ = 0 ∧ ze N196_ 81 7 = 0 ∧ ze N196_ 81 38 = zcw N196_ + 1 ∧ 0 ≤ ze N196_ 81 41 ∧ ze N196_ 81 41 - zcw N196_ ≤ ze N196_ 81 43 ∧ ze N196_ 81 42 = ze N196_ 81 41 - zcw N196_ ∧ ze N196_ 81 38 ≤ ze N196_ 81 43 ∧ ze N196_ 81 43 ≤ 30) from Or.inl (⟨(show 1 ≤ ze N196_ 81 7 by first | assumption | omega), (show zmu N196_ = 0 by first | assumption | omega)⟩)) (by omega)
                                                  · skip
                                                    exact absurd hc_92 (by decide)
                                              · skip
                                                have hz_N196_ := zmu_p N196_ (by omega) (by omega)
                                                have hx_N196_ := zcw_b N196_ (by omega)
                                                refine zw_aload_n (pc := 88) (n := 0) (x := 81) rfl d_M_formula_88 ?_
                                                refine zr_callV (hf_N196_.w hW) hf_N196_.x (pc := 89) [] [] l_M_183 (c_M_isGood l N196_ (hf_N196_.w hW) ) rfl rfl rfl (by decide) (Nat.le_of_ble_eq_true rfl) d_M_formula_89 ?_
                                                rintro _ N206_ ⟨v207_, rfl, ⟨hv207_a, hv207_b⟩, hsN206_, hp0_N206_⟩
                                                obtain rfl := hsN206_.eq.symm
                                                replace hp0_N206_ : ((v207_ = 1 ∧ ze N196_ 81 7 = 0) ∨ (v207_ = 0 ∧ ze N196_ 81 7 ≠ 0)) := hp0_N206_
                                                rcases hp0_N206_ with ⟨rfl, ha89_0_hp0_N206_⟩ | ⟨rfl, ha89_0_hp0_N206_⟩
                                                · skip
                                                  show zW l m_M_formula (zn Mz + 0, zw Mz + 0) N196_ 92 [some (.ref 81), some (.int (Int32.ofInt 1))] [.int (Int32.ofInt 1)] (zpV [3, 4, 5, 6, 7, 8, 11, 38, 39, 41, 42, 43] [95, 96, 97, 100] Mz (fun N => 0 ≤ ze N 81 3 ∧ ze N 81 3 ≤ ze N 81 2 ∧ zTv N ∧ (((1 ≤ ze N 81 7 ∧ zmu N = 0) ∨ (ze N 81 7 = 0 ∧ ze Mz 81 7 = 0 ∧ zmu N ≤ zmu Mz)))))
                                                  refine zr_if_eq (pc := 92) (tgt := 27) ⟨(by decide), (by decide)⟩ (by decide) d_M_formula_92 (fun hc_92 => ?_) (fun hc_92 => ?_)
                                                  · skip
                                                    exact absurd hc_92 (by decide)
                                                  · skip
                                                    refine zw_iload_n (pc := 95) (n := 1) (x := Int32.ofInt 1) rfl d_M_formula_95 ?_
                                                    refine zr_if_ne (pc := 96) (tgt := 27) ⟨(by decide), (by decide)⟩ (by decide) d_M_formula_96 (fun hc_96 => ?_) (fun hc_96 => ?_)
                                                    · skip
                                                      exact ih_27 1 (by decide) (by decide) (by omega) N196_ hb0_N196_ (show 0 ≤ ze N196_ 81 3 by first | assumption | omega) (show ze N196_ 81 3 ≤ ze N196_ 81 2 by first | assumption | omega) (show zmu N196_ ≤ zmu Mz by first | assumption | omega) i201_ (show (1 ≤ ze N196_ 81 7 ∧ zmu N196_ = 0) ∨ (1 = 1 ∧ ze N196_ 81 7 = 0 ∧ ze N196_ 81 38 = zcw N196_ ∧ 0 ≤ ze N196_ 81 41 ∧ ze N196_ 81 41 - zcw N196_ ≤ ze N196_ 81 43 ∧ ze N196_ 81 42 = ze N196_ 81 41 - zcw N196_ ∧ ze N196_ 81 38 ≤ ze N196_ 81 43 ∧ ze N196_ 81 43 ≤ 30) ∨ (1 = 0 ∧ ze N196_ 81 7 = 0 ∧ ze N196_ 81 38 = zcw N196_ + 1 ∧ 0 ≤ ze N196_ 81 41 ∧ ze N196_ 81 41 - zcw N196_ ≤ ze N196_ 81 43 ∧ ze N196_ 81 42 = ze N196_ 81 41 - zcw N196_ ∧ ze N196_ 81 38 ≤ ze N196_ 81 43 ∧ ze N196_ 81 43 ≤ 30) from Or.inr (Or.inl (⟨(show 1 = 1 by first | assumption | omega), (show ze N196_ 81 7 = 0 by first | assumption | omega), (show ze N196_ 81 38 = zcw N196_ by first | assumption | omega), (show 0 ≤ ze N196_ 81 41 by first | assumption | omega), (show ze N196_ 81 41 - zcw N196_ ≤ ze N196_ 81 43 by first | assumption | omega), (show ze N196_ 81 42 = ze N196_ 81 41 - zcw N196_ by first | assumption | omega), (show ze N196_ 81 38 ≤ ze N196_ 81 43 by first | assumption | omega), (show ze N196_ 81 43 ≤ 30 by first | assumption | omega)⟩))) (by omega)
                                                    · skip
                                                      exact absurd hc_96 (by decide)
                                                · skip
                                                  exfalso; omega
                                              · skip
                                                have hz_N196_ := zmu_p N196_ (by omega) (by omega)
                                                have hx_N196_ := zcw_b N196_ (by omega)
                                                refine zw_aload_n (pc := 88) (n := 0) (x := 81) rfl d_M_formula_88 ?_
                                                refine zr_callV (hf_N196_.w hW) hf_N196_.x (pc := 89) [] [] l_M_183 (c_M_isGood l N196_ (hf_N196_.w hW) ) rfl rfl rfl (by decide) (Nat.le_of_ble_eq_true rfl) d_M_formula_89 ?_
                                                rintro _ N208_ ⟨v209_, rfl, ⟨hv209_a, hv209_b⟩, hsN208_, hp0_N208_⟩
                                                obtain rfl := hsN208_.eq.symm
                                                replace hp0_N208_ : ((v209_ = 1 ∧ ze N196_ 81 7 = 0) ∨ (v209_ = 0 ∧ ze N196_ 81 7 ≠ 0)) := hp0_N208_
                                                rcases hp0_N208_ with ⟨rfl, ha89_0_hp0_N208_⟩ | ⟨rfl, ha89_0_hp0_N208_⟩
                                                · skip
                                                  show zW l m_M_formula (zn Mz + 0, zw Mz + 0) N196_ 92 [some (.ref 81), some (.int (Int32.ofInt 0))] [.int (Int32.ofInt 1)] (zpV [3, 4, 5, 6, 7, 8, 11, 38, 39, 41, 42, 43] [95, 96, 97, 100] Mz (fun N => 0 ≤ ze N 81 3 ∧ ze N 81 3 ≤ ze N 81 2 ∧ zTv N ∧ (((1 ≤ ze N 81 7 ∧ zmu N = 0) ∨ (ze N 81 7 = 0 ∧ ze Mz 81 7 = 0 ∧ zmu N ≤ zmu Mz)))))
                                                  refine zr_if_eq (pc := 92) (tgt := 27) ⟨(by decide), (by decide)⟩ (by decide) d_M_formula_92 (fun hc_92 => ?_) (fun hc_92 => ?_)
                                                  · skip
                                                    exact absurd hc_92 (by decide)
                                                  · skip
                                                    refine zw_iload_n (pc := 95) (n := 1) (x := Int32.ofInt 0) rfl d_M_formula_95 ?_
                                                    refine zr_if_ne (pc := 96) (tgt := 27) ⟨(by decide), (by decide)⟩ (by decide) d_M_formula_96 (fun hc_96 => ?_) (fun hc_96 => ?_)
                                                    · skip
                                                      exact absurd hc_96 (by decide)
                                                    · skip
                                                      refine zw_aload_n (pc := 99) (n := 0) (x := 81) rfl d_M_formula_99 ?_
                                                      refine zw_bipush (pc := 100) (v := Int32.ofInt 41) (by decide) d_M_formula_100 ?_
                                                      refine zr_callV (hf_N196_.w hW) hf_N196_.x (pc := 102) [.int (Int32.ofInt 41)] [] l_M_187 (c_M_isSignHere l N196_ (hf_N196_.w hW) 41 (by decide) (by decide)) rfl rfl rfl (by decide) (Nat.le_of_ble_eq_true rfl) d_M_formula_102 ?_
                                                      rintro _ N210_ ⟨v211_, rfl, ⟨hv211_a, hv211_b⟩, hsN210_, hp0_N210_⟩
                                                      obtain rfl := hsN210_.eq.symm
                                                      replace hp0_N210_ : ((v211_ = 1 ∧ ze N196_ 81 7 = 0 ∧ ze N196_ 81 5 = 3 ∧ ze N196_ 81 6 = 41) ∨ (v211_ = 0)) := hp0_N210_
                                                      rcases hp0_N210_ with ⟨rfl, ha102_0_hp0_N210_, ha102_1_hp0_N210_, ha102_2_hp0_N210_⟩ | rfl
                                                      · skip
                                                        show zW l m_M_formula (zn Mz + 0, zw Mz + 0) N196_ 105 [some (.ref 81), some (.int (Int32.ofInt 0))] [.int (Int32.ofInt 1)] (zpV [3, 4, 5, 6, 7, 8, 11, 38, 39, 41, 42, 43] [95, 96, 97, 100] Mz (fun N => 0 ≤ ze N 81 3 ∧ ze N 81 3 ≤ ze N 81 2 ∧ zTv N ∧ (((1 ≤ ze N 81 7 ∧ zmu N = 0) ∨ (ze N 81 7 = 0 ∧ ze Mz 81 7 = 0 ∧ zmu N ≤ zmu Mz)))))
                                                        refine zr_if_eq (pc := 105) (tgt := 27) ⟨(by decide), (by decide)⟩ (by decide) d_M_formula_105 (fun hc_105 => ?_) (fun hc_105 => ?_)
                                                        · skip
                                                          exact absurd hc_105 (by decide)
                                                        · skip
                                                          refine zw_aload_n (pc := 108) (n := 0) (x := 81) rfl d_M_formula_108 ?_
                                                          refine zr_callV (hf_N196_.w hW) hf_N196_.x (pc := 109) [] [] l_M_352 (c_M_isOpen l N196_ (hf_N196_.w hW) (show 0 ≤ ze N196_ 81 41 by first | assumption | omega) (show ze N196_ 81 41 ≤ 80 by first | assumption | omega)) rfl rfl rfl (by decide) (Nat.le_of_ble_eq_true rfl) d_M_formula_109 ?_
                                                          rintro _ N212_ ⟨v213_, rfl, ⟨hv213_a, hv213_b⟩, hsN212_, hp0_N212_⟩
                                                          obtain rfl := hsN212_.eq.symm
                                                          replace hp0_N212_ : ((v213_ = 1 ∧ zcw N196_ ≤ ze N196_ 81 41 - 1) ∨ (v213_ = 0)) := hp0_N212_
                                                          rcases hp0_N212_ with ⟨rfl, ha109_0_hp0_N212_⟩ | rfl
                                                          · skip
                                                            show zW l m_M_formula (zn Mz + 0, zw Mz + 0) N196_ 112 [some (.ref 81), some (.int (Int32.ofInt 0))] [.int (Int32.ofInt 1)] (zpV [3, 4, 5, 6, 7, 8, 11, 38, 39, 41, 42, 43] [95, 96, 97, 100] Mz (fun N => 0 ≤ ze N 81 3 ∧ ze N 81 3 ≤ ze N 81 2 ∧ zTv N ∧ (((1 ≤ ze N 81 7 ∧ zmu N = 0) ∨ (ze N 81 7 = 0 ∧ ze Mz 81 7 = 0 ∧ zmu N ≤ zmu Mz)))))
                                                            refine zr_if_eq (pc := 112) (tgt := 27) ⟨(by decide), (by decide)⟩ (by decide) d_M_formula_112 (fun hc_112 => ?_) (fun hc_112 => ?_)
                                                            · skip
                                                              exact absurd hc_112 (by decide)
                                                            · skip
                                                              refine zw_aload_n (pc := 115) (n := 0) (x := 81) rfl d_M_formula_115 ?_
                                                              refine zw_iconst (pc := 116) (v := Int32.ofInt 2) (by decide) d_M_formula_116 ?_
                                                              refine zr_callV (hf_N196_.w hW) hf_N196_.x (pc := 117) [.int (Int32.ofInt 2)] [] l_M_337 (c_M_works l N196_ (hf_N196_.w hW) 2 (by decide) (by decide) c203_ (show 2 ≤ 2 by first | assumption | omega) (show 0 ≤ ze N196_ 81 41 by first | assumption | omega) (show ze N196_ 81 41 ≤ 80 by first | assumption | omega) (show ze N196_ 81 38 = zcw N196_ + 1 by first | assumption | omega) (show ze N196_ 81 38 ≤ 40 by first | assumption | omega)) rfl rfl rfl (by decide) (Nat.le_of_ble_eq_true rfl) d_M_formula_117 ?_
                                                              rintro _ N214_ ⟨rfl, hsN214_, ⟨hp0_N214_, hp1_N214_, hp2_N214_, hp3_N214_, hp4_N214_, hp5_N214_⟩⟩
                                                              have hf_N214_ : zFr [3, 4, 5, 6, 7, 8, 11, 38, 39, 41, 42, 43] [95, 96, 97, 100] Mz N214_ := hf_N196_.tr hsN214_ (by decide) (by decide)
                                                              have hb0_N214_ : zFr [3, 4, 5, 6, 7, 8, 11, 38, 39, 41, 42, 43] [95, 96, 97, 100] N13_ N214_ := hb0_N196_.tr hsN214_ (by decide) (by decide)
                                                              have hb1_N214_ : zFr [3, 4, 5, 6, 7, 8, 11, 38, 39, 41, 42] [95, 96, 97, 100] N192_ N214_ := hs197_.tr hsN214_ (by decide) (by decide)
                                                              have e2_N214_ : ze N214_ 81 2 = ze N196_ 81 2 := hsN214_.e (by decide)
                                                              have e3_N214_ : ze N214_ 81 3 = ze N196_ 81 3 := hsN214_.e (by decide)
                                                              have e5_N214_ : ze N214_ 81 5 = ze N196_ 81 5 := hsN214_.e (by decide)
                                                              have e6_N214_ : ze N214_ 81 6 = ze N196_ 81 6 := hsN214_.e (by decide)
                                                              have e7_N214_ : ze N214_ 81 7 = ze N196_ 81 7 := hsN214_.e (by decide)
                                                              have e14_N214_ : ze N214_ 81 14 = ze N196_ 81 14 := hsN214_.e (by decide)
                                                              have r38_N214_ := ze_r N214_ 81 38
                                                              have r39_N214_ := ze_r N214_ 81 39
                                                              have r41_N214_ := ze_r N214_ 81 41
                                                              have e42_N214_ : ze N214_ 81 42 = ze N196_ 81 42 := hsN214_.e (by decide)
                                                              have e43_N214_ : ze N214_ 81 43 = ze N196_ 81 43 := hsN214_.e (by decide)
                                                              have qzmu_N214_ : zmu N214_ = zmu N196_ := zmu_f hsN214_ (by decide)
                                                              have c216_ : zGD N214_ := zGD.fr hsN214_ c203_ (by decide) (by decide)
                                                              have c217_ : zTv N214_ := zTv.fr hsN214_ i201_ (by decide) (by decide)
                                                              show zW l m_M_formula (zn Mz + 0, zw Mz + 0) N214_ 120 [some (.ref 81), some (.int (Int32.ofInt 0))] [] (zpV [3, 4, 5, 6, 7, 8, 11, 38, 39, 41, 42, 43] [95, 96, 97, 100] Mz (fun N => 0 ≤ ze N 81 3 ∧ ze N 81 3 ≤ ze N 81 2 ∧ zTv N ∧ (((1 ≤ ze N 81 7 ∧ zmu N = 0) ∨ (ze N 81 7 = 0 ∧ ze Mz 81 7 = 0 ∧ zmu N ≤ zmu Mz)))))
                                                              have hx_N214_ := zcw_b N214_ (by omega)
                                                              refine zw_aload_n (pc := 120) (n := 0) (x := 81) rfl d_M_formula_120 ?_
                                                              refine zw_dup (pc := 121) rfl d_M_formula_121 ?_
                                                              refine zr_getI (hf_N214_.w hW) (pc := 122) f_M_305 rfl d_M_formula_122 ?_
                                                              refine zw_iconst (pc := 125) (v := Int32.ofInt 1) (by decide) d_M_formula_125 ?_
                                                              refine zr_isub (pc := 126) d_M_formula_126 ?_
                                                              refine zr_putI (hf_N214_.w hW) (pc := 127) f_M_305 rfl rfl ⟨by omega, by omega⟩ rfl rfl d_M_formula_127 (fun N218_ hsN218_ hvN218_ => ?_)
                                                              have hf_N218_ : zFr [3, 4, 5, 6, 7, 8, 11, 38, 39, 41, 42, 43] [95, 96, 97, 100] Mz N218_ := hf_N214_.tr hsN218_ (by decide) (by decide)
                                                              have hb0_N218_ : zFr [3, 4, 5, 6, 7, 8, 11, 38, 39, 41, 42, 43] [95, 96, 97, 100] N13_ N218_ := hb0_N214_.tr hsN218_ (by decide) (by decide)
                                                              have hb1_N218_ : zFr [3, 4, 5, 6, 7, 8, 11, 38, 39, 41, 42] [95, 96, 97, 100] N192_ N218_ := hb1_N214_.tr hsN218_ (by decide) (by decide)
                                                              have e2_N218_ : ze N218_ 81 2 = ze N214_ 81 2 := hsN218_.e (by decide)
                                                              have e3_N218_ : ze N218_ 81 3 = ze N214_ 81 3 := hsN218_.e (by decide)
                                                              have e5_N218_ : ze N218_ 81 5 = ze N214_ 81 5 := hsN218_.e (by decide)
                                                              have e6_N218_ : ze N218_ 81 6 = ze N214_ 81 6 := hsN218_.e (by decide)
                                                              have e7_N218_ : ze N218_ 81 7 = ze N214_ 81 7 := hsN218_.e (by decide)
                                                              have e14_N218_ : ze N218_ 81 14 = ze N214_ 81 14 := hsN218_.e (by decide)
                                                              have e38_N218_ : ze N218_ 81 38 = ze N214_ 81 38 := hsN218_.e (by decide)
                                                              have e39_N218_ : ze N218_ 81 39 = ze N214_ 81 39 := hsN218_.e (by decide)
                                                              have r41_N218_ := ze_r N218_ 81 41
                                                              have e42_N218_ : ze N218_ 81 42 = ze N214_ 81 42 := hsN218_.e (by decide)
                                                              have e43_N218_ : ze N218_ 81 43 = ze N214_ 81 43 := hsN218_.e (by decide)
                                                              have qzmu_N218_ : zmu N218_ = zmu N214_ := zmu_f hsN218_ (by decide)
                                                              have c219_ : zGD N218_ := zGD.fr hsN218_ c216_ (by decide) (by decide)
                                                              have c220_ : zTv N218_ := zTv.fr hsN218_ c217_ (by decide) (by decide)
                                                              have hd_N218_ := zcw_dec hsN218_ hvN218_ (by omega)
                                                              have hy_N218_ := zcw_b N218_ (by omega)
                                                              have hi_N218_ := hsN214_.ie (q := 100) (by decide) (by decide) (ze N214_ 81 41 - 1).toNat
                                                              refine zw_aload_n (pc := 130) (n := 0) (x := 81) rfl d_M_formula_130 ?_
                                                              refine zw_dup (pc := 131) rfl d_M_formula_131 ?_
                                                              refine zr_getI (hf_N218_.w hW) (pc := 132) f_M_296 rfl d_M_formula_132 ?_
                                                              refine zw_iconst (pc := 135) (v := Int32.ofInt 1) (by decide) d_M_formula_135 ?_
                                                              refine zr_isub (pc := 136) d_M_formula_136 ?_
                                                              refine zr_putI (hf_N218_.w hW) (pc := 137) f_M_296 rfl rfl ⟨by omega, by omega⟩ rfl rfl d_M_formula_137 (fun N221_ hsN221_ hvN221_ => ?_)
                                                              have hf_N221_ : zFr [3, 4, 5, 6, 7, 8, 11, 38, 39, 41, 42, 43] [95, 96, 97, 100] Mz N221_ := hf_N218_.tr hsN221_ (by decide) (by decide)
                                                              have hb0_N221_ : zFr [3, 4, 5, 6, 7, 8, 11, 38, 39, 41, 42, 43] [95, 96, 97, 100] N13_ N221_ := hb0_N218_.tr hsN221_ (by decide) (by decide)
                                                              have hb1_N221_ : zFr [3, 4, 5, 6, 7, 8, 11, 38, 39, 41, 42] [95, 96, 97, 100] N192_ N221_ := hb1_N218_.tr hsN221_ (by decide) (by decide)
                                                              have e2_N221_ : ze N221_ 81 2 = ze N218_ 81 2 := hsN221_.e (by decide)
                                                              have e3_N221_ : ze N221_ 81 3 = ze N218_ 81 3 := hsN221_.e (by decide)
                                                              have e5_N221_ : ze N221_ 81 5 = ze N218_ 81 5 := hsN221_.e (by decide)
                                                              have e6_N221_ : ze N221_ 81 6 = ze N218_ 81 6 := hsN221_.e (by decide)
                                                              have e7_N221_ : ze N221_ 81 7 = ze N218_ 81 7 := hsN221_.e (by decide)
                                                              have e14_N221_ : ze N221_ 81 14 = ze N218_ 81 14 := hsN221_.e (by decide)
                                                              have e38_N221_ : ze N221_ 81 38 = ze N218_ 81 38 := hsN221_.e (by decide)
                                                              have e39_N221_ : ze N221_ 81 39 = ze N218_ 81 39 := hsN221_.e (by decide)
                                                              have e41_N221_ : ze N221_ 81 41 = ze N218_ 81 41 := hsN221_.e (by decide)
                                                              have r42_N221_ := ze_r N221_ 81 42
                                                              have e43_N221_ : ze N221_ 81 43 = ze N218_ 81 43 := hsN221_.e (by decide)
                                                              have qzcw_N221_ : zcw N221_ = zcw N218_ := zcw_f hsN221_ (by decide)
                                                              have qzmu_N221_ : zmu N221_ = zmu N218_ := zmu_f hsN221_ (by decide)
                                                              have c222_ : zGD N221_ := zGD.fr hsN221_ c219_ (by decide) (by decide)
                                                              have c223_ : zTv N221_ := zTv.fr hsN221_ c220_ (by decide) (by decide)
                                                              refine zw_aload_n (pc := 140) (n := 0) (x := 81) rfl d_M_formula_140 ?_
                                                              refine zr_callV (hf_N221_.w hW) hf_N221_.x (pc := 141) [] [] l_M_193 (c_M_goOn l N221_ (hf_N221_.w hW) (show 0 ≤ ze N221_ 81 3 by first | assumption | omega) (show ze N221_ 81 3 ≤ ze N221_ 81 2 by first | assumption | omega) (show ze N221_ 81 2 ≤ 700 by first | assumption | omega) (show ze N221_ 81 5 ≠ 0 by first | assumption | omega) (show ze N221_ 81 7 = 0 by first | assumption | omega)) rfl rfl rfl (by decide) (Nat.le_of_ble_eq_true rfl) d_M_formula_141 ?_
                                                              rintro _ N224_ ⟨rfl, hsN224_, ⟨hp0_N224_, hp1_N224_, hp2_N224_, hp3_N224_, hp4_N224_⟩⟩
                                                              have hf_N224_ : zFr [3, 4, 5, 6, 7, 8, 11, 38, 39, 41, 42, 43] [95, 96, 97, 100] Mz N224_ := hf_N221_.tr hsN224_ (by decide) (by decide)
                                                              have hb0_N224_ : zFr [3, 4, 5, 6, 7, 8, 11, 38, 39, 41, 42, 43] [95, 96, 97, 100] N13_ N224_ := hb0_N221_.tr hsN224_ (by decide) (by decide)
                                                              have hb1_N224_ : zFr [3, 4, 5, 6, 7, 8, 11, 38, 39, 41, 42] [95, 96, 97, 100] N192_ N224_ := hb1_N221_.tr hsN224_ (by decide) (by decide)
                                                              have e2_N224_ : ze N224_ 81 2 = ze N221_ 81 2 := hsN224_.e (by decide)
                                                              have r3_N224_ := ze_r N224_ 81 3
                                                              have r5_N224_ := ze_r N224_ 81 5
                                                              have r6_N224_ := ze_r N224_ 81 6
                                                              have e7_N224_ : ze N224_ 81 7 = ze N221_ 81 7 := hsN224_.e (by decide)
                                                              have e14_N224_ : ze N224_ 81 14 = ze N221_ 81 14 := hsN224_.e (by decide)
                                                              have e38_N224_ : ze N224_ 81 38 = ze N221_ 81 38 := hsN224_.e (by decide)
                                                              have e39_N224_ : ze N224_ 81 39 = ze N221_ 81 39 := hsN224_.e (by decide)
                                                              have e41_N224_ : ze N224_ 81 41 = ze N221_ 81 41 := hsN224_.e (by decide)
                                                              have e42_N224_ : ze N224_ 81 42 = ze N221_ 81 42 := hsN224_.e (by decide)
                                                              have e43_N224_ : ze N224_ 81 43 = ze N221_ 81 43 := hsN224_.e (by decide)
                                                              have qzcw_N224_ : zcw N224_ = zcw N221_ := zcw_f hsN224_ (by decide)
                                                              have c226_ : zGD N224_ := zGD.fr hsN224_ c222_ (by decide) (by decide)
                                                              show zW l m_M_formula (zn Mz + 0, zw Mz + 0) N224_ 144 [some (.ref 81), some (.int (Int32.ofInt 0))] [] (zpV [3, 4, 5, 6, 7, 8, 11, 38, 39, 41, 42, 43] [95, 96, 97, 100] Mz (fun N => 0 ≤ ze N 81 3 ∧ ze N 81 3 ≤ ze N 81 2 ∧ zTv N ∧ (((1 ≤ ze N 81 7 ∧ zmu N = 0) ∨ (ze N 81 7 = 0 ∧ ze Mz 81 7 = 0 ∧ zmu N ≤ zmu Mz)))))
                                                              refine zw_aload_n (pc := 144) (n := 0) (x := 81) rfl d_M_formula_144 ?_
                                                              refine zr_callV (hf_N224_.w hW) hf_N224_.x (pc := 145) [] [] l_M_346 (c_M_closes l N224_ (hf_N224_.w hW) c226_ (show 0 ≤ ze N224_ 81 3 by first | assumption | omega) (show ze N224_ 81 3 ≤ ze N224_ 81 2 by first | assumption | omega) (show ze N224_ 81 2 ≤ 700 by first | assumption | omega) hp2_N224_ (show ze N224_ 81 7 = 0 by first | assumption | omega) (show 1 ≤ ze N224_ 81 38 by first | assumption | omega) (show ze N224_ 81 38 ≤ 40 by first | assumption | omega) (show 0 ≤ ze N224_ 81 41 by first | assumption | omega) (show ze N224_ 81 41 ≤ 80 by first | assumption | omega) (show ze N224_ 81 42 = ze N224_ 81 41 - zcw N224_ by first | assumption | omega)) rfl rfl rfl (by decide) (Nat.le_of_ble_eq_true rfl) d_M_formula_145 ?_
                                                              rintro _ N227_ ⟨rfl, hsN227_, ⟨hp0_N227_, hp1_N227_, hp2_N227_, hp3_N227_, hp4_N227_, hp5_N227_, hp6_N227_, hp7_N227_, hp8_N227_⟩⟩
                                                              have hf_N227_ : zFr [3, 4, 5, 6, 7, 8, 11, 38, 39, 41, 42, 43] [95, 96, 97, 100] Mz N227_ := hf_N224_.tr hsN227_ (by decide) (by decide)
                                                              have hb0_N227_ : zFr [3, 4, 5, 6, 7, 8, 11, 38, 39, 41, 42, 43] [95, 96, 97, 100] N13_ N227_ := hb0_N224_.tr hsN227_ (by decide) (by decide)
                                                              have hb1_N227_ : zFr [3, 4, 5, 6, 7, 8, 11, 38, 39, 41, 42] [95, 96, 97, 100] N192_ N227_ := hb1_N224_.tr hsN227_ (by decide) (by decide)
                                                              have e2_N227_ : ze N227_ 81 2 = ze N224_ 81 2 := hsN227_.e (by decide)
                                                              have r3_N227_ := ze_r N227_ 81 3
                                                              have r5_N227_ := ze_r N227_ 81 5
                                                              have r6_N227_ := ze_r N227_ 81 6
                                                              have r7_N227_ := ze_r N227_ 81 7
                                                              have e14_N227_ : ze N227_ 81 14 = ze N224_ 81 14 := hsN227_.e (by decide)
                                                              have e38_N227_ : ze N227_ 81 38 = ze N224_ 81 38 := hsN227_.e (by decide)
                                                              have r39_N227_ := ze_r N227_ 81 39
                                                              have r41_N227_ := ze_r N227_ 81 41
                                                              have r42_N227_ := ze_r N227_ 81 42
                                                              have e43_N227_ : ze N227_ 81 43 = ze N224_ 81 43 := hsN227_.e (by decide)
                                                              have c229_ : zGD N227_ := zGD.fr hsN227_ c226_ (by decide) (by decide)
                                                              rcases hp8_N227_ with ⟨ha145_0_hp8_N227_, ha145_1_hp8_N227_⟩ | ⟨ha145_0_hp8_N227_, ha145_1_hp8_N227_, ha145_2_hp8_N227_⟩
                                                              · skip
                                                                show zW l m_M_formula (zn Mz + 0, zw Mz + 0) N227_ 148 [some (.ref 81), some (.int (Int32.ofInt 0))] [] (zpV [3, 4, 5, 6, 7, 8, 11, 38, 39, 41, 42, 43] [95, 96, 97, 100] Mz (fun N => 0 ≤ ze N 81 3 ∧ ze N 81 3 ≤ ze N 81 2 ∧ zTv N ∧ (((1 ≤ ze N 81 7 ∧ zmu N = 0) ∨ (ze N 81 7 = 0 ∧ ze Mz 81 7 = 0 ∧ zmu N ≤ zmu Mz)))))
                                                                refine zw_aload_n (pc := 148) (n := 0) (x := 81) rfl d_M_formula_148 ?_
                                                                refine zr_callV (hf_N227_.w hW) hf_N227_.x (pc := 149) [] [] l_M_183 (c_M_isGood l N227_ (hf_N227_.w hW) ) rfl rfl rfl (by decide) (Nat.le_of_ble_eq_true rfl) d_M_formula_149 ?_
                                                                rintro _ N230_ ⟨v231_, rfl, ⟨hv231_a, hv231_b⟩, hsN230_, hp0_N230_⟩
                                                                obtain rfl := hsN230_.eq.symm
                                                                replace hp0_N230_ : ((v231_ = 1 ∧ ze N227_ 81 7 = 0) ∨ (v231_ = 0 ∧ ze N227_ 81 7 ≠ 0)) := hp0_N230_
                                                                rcases hp0_N230_ with ⟨rfl, ha149_0_hp0_N230_⟩ | ⟨rfl, ha149_0_hp0_N230_⟩
                                                                · skip
                                                                  exfalso; omega
                                                                · skip
                                                                  show zW l m_M_formula (zn Mz + 0, zw Mz + 0) N227_ 152 [some (.ref 81), some (.int (Int32.ofInt 0))] [.int (Int32.ofInt 0)] (zpV [3, 4, 5, 6, 7, 8, 11, 38, 39, 41, 42, 43] [95, 96, 97, 100] Mz (fun N => 0 ≤ ze N 81 3 ∧ ze N 81 3 ≤ ze N 81 2 ∧ zTv N ∧ (((1 ≤ ze N 81 7 ∧ zmu N = 0) ∨ (ze N 81 7 = 0 ∧ ze Mz 81 7 = 0 ∧ zmu N ≤ zmu Mz)))))
                                                                  refine zr_if_eq (pc := 152) (tgt := 166) ⟨(by decide), (by decide)⟩ (by decide) d_M_formula_152 (fun hc_152 => ?_) (fun hc_152 => ?_)
                                                                  · skip
                                                                    refine zw_iconst (pc := 166) (v := Int32.ofInt 0) (by decide) d_M_formula_166 ?_
                                                                    refine zw_istore_n (pc := 167) (i := 1) (L2 := [some (.ref 81), some (.int (Int32.ofInt 0))]) rfl (by decide) rfl d_M_formula_167 ?_
                                                                    refine zw_goto (pc := 168) (tgt := 88) (by decide) d_M_formula_168 ?_
                                                                    exact ih_88 0 (by decide) (by decide) (by omega) N227_ hb1_N227_ (show 0 ≤ ze N227_ 81 3 by first | assumption | omega) (show ze N227_ 81 3 ≤ ze N227_ 81 2 by first | assumption | omega) (show zmu N227_ < zmu N17_ by first | assumption | omega) hp2_N227_ (show (1 ≤ ze N227_ 81 7 ∧ zmu N227_ = 0) ∨ (0 = 1 ∧ ze N227_ 81 7 = 0 ∧ ze N227_ 81 38 = zcw N227_ ∧ 0 ≤ ze N227_ 81 41 ∧ ze N227_ 81 41 - zcw N227_ ≤ ze N227_ 81 43 ∧ ze N227_ 81 42 = ze N227_ 81 41 - zcw N227_ ∧ ze N227_ 81 38 ≤ ze N227_ 81 43 ∧ ze N227_ 81 43 ≤ 30) ∨ (0 = 0 ∧ ze N227_ 81 7 = 0 ∧ ze N227_ 81 38 = zcw N227_ + 1 ∧ 0 ≤ ze N227_ 81 41 ∧ ze N227_ 81 41 - zcw N227_ ≤ ze N227_ 81 43 ∧ ze N227_ 81 42 = ze N227_ 81 41 - zcw N227_ ∧ ze N227_ 81 38 ≤ ze N227_ 81 43 ∧ ze N227_ 81 43 ≤ 30) from Or.inl (⟨(show 1 ≤ ze N227_ 81 7 by first | assumption | omega), (show zmu N227_ = 0 by first | assumption | omega)⟩)) (by omega)
                                                                  · skip
                                                                    exact absurd hc_152 (by decide)
                                                              · skip
                                                                show zW l m_M_formula (zn Mz + 0, zw Mz + 0) N227_ 148 [some (.ref 81), some (.int (Int32.ofInt 0))] [] (zpV [3, 4, 5, 6, 7, 8, 11, 38, 39, 41, 42, 43] [95, 96, 97, 100] Mz (fun N => 0 ≤ ze N 81 3 ∧ ze N 81 3 ≤ ze N 81 2 ∧ zTv N ∧ (((1 ≤ ze N 81 7 ∧ zmu N = 0) ∨ (ze N 81 7 = 0 ∧ ze Mz 81 7 = 0 ∧ zmu N ≤ zmu Mz)))))
                                                                refine zw_aload_n (pc := 148) (n := 0) (x := 81) rfl d_M_formula_148 ?_
                                                                refine zr_callV (hf_N227_.w hW) hf_N227_.x (pc := 149) [] [] l_M_183 (c_M_isGood l N227_ (hf_N227_.w hW) ) rfl rfl rfl (by decide) (Nat.le_of_ble_eq_true rfl) d_M_formula_149 ?_
                                                                rintro _ N232_ ⟨v233_, rfl, ⟨hv233_a, hv233_b⟩, hsN232_, hp0_N232_⟩
                                                                obtain rfl := hsN232_.eq.symm
                                                                replace hp0_N232_ : ((v233_ = 1 ∧ ze N227_ 81 7 = 0) ∨ (v233_ = 0 ∧ ze N227_ 81 7 ≠ 0)) := hp0_N232_
                                                                rcases hp0_N232_ with ⟨rfl, ha149_0_hp0_N232_⟩ | ⟨rfl, ha149_0_hp0_N232_⟩
                                                                · skip
                                                                  show zW l m_M_formula (zn Mz + 0, zw Mz + 0) N227_ 152 [some (.ref 81), some (.int (Int32.ofInt 0))] [.int (Int32.ofInt 1)] (zpV [3, 4, 5, 6, 7, 8, 11, 38, 39, 41, 42, 43] [95, 96, 97, 100] Mz (fun N => 0 ≤ ze N 81 3 ∧ ze N 81 3 ≤ ze N 81 2 ∧ zTv N ∧ (((1 ≤ ze N 81 7 ∧ zmu N = 0) ∨ (ze N 81 7 = 0 ∧ ze Mz 81 7 = 0 ∧ zmu N ≤ zmu Mz)))))
                                                                  refine zr_if_eq (pc := 152) (tgt := 166) ⟨(by decide), (by decide)⟩ (by decide) d_M_formula_152 (fun hc_152 => ?_) (fun hc_152 => ?_)
                                                                  · skip
                                                                    exact absurd hc_152 (by decide)
                                                                  · skip
                                                                    refine zw_aload_n (pc := 155) (n := 0) (x := 81) rfl d_M_formula_155 ?_
                                                                    refine zr_callV (hf_N227_.w hW) hf_N227_.x (pc := 156) [] [] l_M_349 (c_M_goesOn l N227_ (hf_N227_.w hW) c229_ (show 0 ≤ ze N227_ 81 3 by first | assumption | omega) (show ze N227_ 81 3 ≤ ze N227_ 81 2 by first | assumption | omega) (show ze N227_ 81 2 ≤ 700 by first | assumption | omega) hp2_N227_ (show ze N227_ 81 7 = 0 by first | assumption | omega) (show 0 ≤ ze N227_ 81 41 by first | assumption | omega) (show ze N227_ 81 41 ≤ 79 by first | assumption | omega) (show ze N227_ 81 38 = zcw N227_ + 1 by first | assumption | omega) (show ze N227_ 81 38 ≤ 40 by first | assumption | omega)) rfl rfl rfl (by decide) (Nat.le_of_ble_eq_true rfl) d_M_formula_156 ?_
                                                                    rintro _ N234_ ⟨v235_, rfl, ⟨hv235_a, hv235_b⟩, hsN234_, ⟨hp0_N234_, hp1_N234_, hp2_N234_, hp3_N234_, hp4_N234_, hp5_N234_, hp6_N234_, hp7_N234_⟩⟩
                                                                    have hf_N234_ : zFr [3, 4, 5, 6, 7, 8, 11, 38, 39, 41, 42, 43] [95, 96, 97, 100] Mz N234_ := hf_N227_.tr hsN234_ (by decide) (by decide)
                                                                    have hb0_N234_ : zFr [3, 4, 5, 6, 7, 8, 11, 38, 39, 41, 42, 43] [95, 96, 97, 100] N13_ N234_ := hb0_N227_.tr hsN234_ (by decide) (by decide)
                                                                    have hb1_N234_ : zFr [3, 4, 5, 6, 7, 8, 11, 38, 39, 41, 42] [95, 96, 97, 100] N192_ N234_ := hb1_N227_.tr hsN234_ (by decide) (by decide)
                                                                    have e2_N234_ : ze N234_ 81 2 = ze N227_ 81 2 := hsN234_.e (by decide)
                                                                    have r3_N234_ := ze_r N234_ 81 3
                                                                    have r5_N234_ := ze_r N234_ 81 5
                                                                    have r6_N234_ := ze_r N234_ 81 6
                                                                    have e7_N234_ : ze N234_ 81 7 = ze N227_ 81 7 := hsN234_.e (by decide)
                                                                    have e14_N234_ : ze N234_ 81 14 = ze N227_ 81 14 := hsN234_.e (by decide)
                                                                    have r38_N234_ := ze_r N234_ 81 38
                                                                    have r39_N234_ := ze_r N234_ 81 39
                                                                    have r41_N234_ := ze_r N234_ 81 41
                                                                    have e42_N234_ : ze N234_ 81 42 = ze N227_ 81 42 := hsN234_.e (by decide)
                                                                    have e43_N234_ : ze N234_ 81 43 = ze N227_ 81 43 := hsN234_.e (by decide)
                                                                    have c236_ : zGD N234_ := zGD.fr hsN234_ c229_ (by decide) (by decide)
                                                                    rcases hp7_N234_ with ⟨rfl, ha156_0_hp7_N234_, ha156_1_hp7_N234_⟩ | ⟨rfl, ha156_0_hp7_N234_, ha156_1_hp7_N234_⟩
                                                                    · skip
                                                                      show zW l m_M_formula (zn Mz + 0, zw Mz + 0) N234_ 159 [some (.ref 81), some (.int (Int32.ofInt 0))] [.int (Int32.ofInt 1)] (zpV [3, 4, 5, 6, 7, 8, 11, 38, 39, 41, 42, 43] [95, 96, 97, 100] Mz (fun N => 0 ≤ ze N 81 3 ∧ ze N 81 3 ≤ ze N 81 2 ∧ zTv N ∧ (((1 ≤ ze N 81 7 ∧ zmu N = 0) ∨ (ze N 81 7 = 0 ∧ ze Mz 81 7 = 0 ∧ zmu N ≤ zmu Mz)))))
                                                                      refine zr_if_eq (pc := 159) (tgt := 166) ⟨(by decide), (by decide)⟩ (by decide) d_M_formula_159 (fun hc_159 => ?_) (fun hc_159 => ?_)
                                                                      · skip
                                                                        exact absurd hc_159 (by decide)
                                                                      · skip
                                                                        refine zw_iconst (pc := 162) (v := Int32.ofInt 1) (by decide) d_M_formula_162 ?_
                                                                        refine zw_goto (pc := 163) (tgt := 167) (by decide) d_M_formula_163 ?_
                                                                        refine zw_istore_n (pc := 167) (i := 1) (L2 := [some (.ref 81), some (.int (Int32.ofInt 1))]) rfl (by decide) rfl d_M_formula_167 ?_
                                                                        refine zw_goto (pc := 168) (tgt := 88) (by decide) d_M_formula_168 ?_
                                                                        exact ih_88 1 (by decide) (by decide) (by omega) N234_ hb1_N234_ (show 0 ≤ ze N234_ 81 3 by first | assumption | omega) (show ze N234_ 81 3 ≤ ze N234_ 81 2 by first | assumption | omega) (show zmu N234_ < zmu N17_ by first | assumption | omega) hp2_N234_ (show (1 ≤ ze N234_ 81 7 ∧ zmu N234_ = 0) ∨ (1 = 1 ∧ ze N234_ 81 7 = 0 ∧ ze N234_ 81 38 = zcw N234_ ∧ 0 ≤ ze N234_ 81 41 ∧ ze N234_ 81 41 - zcw N234_ ≤ ze N234_ 81 43 ∧ ze N234_ 81 42 = ze N234_ 81 41 - zcw N234_ ∧ ze N234_ 81 38 ≤ ze N234_ 81 43 ∧ ze N234_ 81 43 ≤ 30) ∨ (1 = 0 ∧ ze N234_ 81 7 = 0 ∧ ze N234_ 81 38 = zcw N234_ + 1 ∧ 0 ≤ ze N234_ 81 41 ∧ ze N234_ 81 41 - zcw N234_ ≤ ze N234_ 81 43 ∧ ze N234_ 81 42 = ze N234_ 81 41 - zcw N234_ ∧ ze N234_ 81 38 ≤ ze N234_ 81 43 ∧ ze N234_ 81 43 ≤ 30) from Or.inr (Or.inl (⟨(show 1 = 1 by first | assumption | omega), (show ze N234_ 81 7 = 0 by first | assumption | omega), (show ze N234_ 81 38 = zcw N234_ by first | assumption | omega), (show 0 ≤ ze N234_ 81 41 by first | assumption | omega), (show ze N234_ 81 41 - zcw N234_ ≤ ze N234_ 81 43 by first | assumption | omega), (show ze N234_ 81 42 = ze N234_ 81 41 - zcw N234_ by first | assumption | omega), (show ze N234_ 81 38 ≤ ze N234_ 81 43 by first | assumption | omega), (show ze N234_ 81 43 ≤ 30 by first | assumption | omega)⟩))) (by omega)
                                                                    · skip
                                                                      show zW l m_M_formula (zn Mz + 0, zw Mz + 0) N234_ 159 [some (.ref 81), some (.int (Int32.ofInt 0))] [.int (Int32.ofInt 0)] (zpV [3, 4, 5, 6, 7, 8, 11, 38, 39, 41, 42, 43] [95, 96, 97, 100] Mz (fun N => 0 ≤ ze N 81 3 ∧ ze N 81 3 ≤ ze N 81 2 ∧ zTv N ∧ (((1 ≤ ze N 81 7 ∧ zmu N = 0) ∨ (ze N 81 7 = 0 ∧ ze Mz 81 7 = 0 ∧ zmu N ≤ zmu Mz)))))
                                                                      refine zr_if_eq (pc := 159) (tgt := 166) ⟨(by decide), (by decide)⟩ (by decide) d_M_formula_159 (fun hc_159 => ?_) (fun hc_159 => ?_)
                                                                      · skip
                                                                        refine zw_iconst (pc := 166) (v := Int32.ofInt 0) (by decide) d_M_formula_166 ?_
                                                                        refine zw_istore_n (pc := 167) (i := 1) (L2 := [some (.ref 81), some (.int (Int32.ofInt 0))]) rfl (by decide) rfl d_M_formula_167 ?_
                                                                        refine zw_goto (pc := 168) (tgt := 88) (by decide) d_M_formula_168 ?_
                                                                        exact ih_88 0 (by decide) (by decide) (by omega) N234_ hb1_N234_ (show 0 ≤ ze N234_ 81 3 by first | assumption | omega) (show ze N234_ 81 3 ≤ ze N234_ 81 2 by first | assumption | omega) (show zmu N234_ < zmu N17_ by first | assumption | omega) hp2_N234_ (show (1 ≤ ze N234_ 81 7 ∧ zmu N234_ = 0) ∨ (0 = 1 ∧ ze N234_ 81 7 = 0 ∧ ze N234_ 81 38 = zcw N234_ ∧ 0 ≤ ze N234_ 81 41 ∧ ze N234_ 81 41 - zcw N234_ ≤ ze N234_ 81 43 ∧ ze N234_ 81 42 = ze N234_ 81 41 - zcw N234_ ∧ ze N234_ 81 38 ≤ ze N234_ 81 43 ∧ ze N234_ 81 43 ≤ 30) ∨ (0 = 0 ∧ ze N234_ 81 7 = 0 ∧ ze N234_ 81 38 = zcw N234_ + 1 ∧ 0 ≤ ze N234_ 81 41 ∧ ze N234_ 81 41 - zcw N234_ ≤ ze N234_ 81 43 ∧ ze N234_ 81 42 = ze N234_ 81 41 - zcw N234_ ∧ ze N234_ 81 38 ≤ ze N234_ 81 43 ∧ ze N234_ 81 43 ≤ 30) from Or.inr (Or.inr (⟨(show 0 = 0 by first | assumption | omega), (show ze N234_ 81 7 = 0 by first | assumption | omega), (show ze N234_ 81 38 = zcw N234_ + 1 by first | assumption | omega), (show 0 ≤ ze N234_ 81 41 by first | assumption | omega), (show ze N234_ 81 41 - zcw N234_ ≤ ze N234_ 81 43 by first | assumption | omega), (show ze N234_ 81 42 = ze N234_ 81 41 - zcw N234_ by first | assumption | omega), (show ze N234_ 81 38 ≤ ze N234_ 81 43 by first | assumption | omega), (show ze N234_ 81 43 ≤ 30 by first | assumption | omega)⟩))) (by omega)
                                                                      · skip
                                                                        exact absurd hc_159 (by decide)
                                                                · skip
                                                                  exfalso; omega
                                                          · skip
                                                            show zW l m_M_formula (zn Mz + 0, zw Mz + 0) N196_ 112 [some (.ref 81), some (.int (Int32.ofInt 0))] [.int (Int32.ofInt 0)] (zpV [3, 4, 5, 6, 7, 8, 11, 38, 39, 41, 42, 43] [95, 96, 97, 100] Mz (fun N => 0 ≤ ze N 81 3 ∧ ze N 81 3 ≤ ze N 81 2 ∧ zTv N ∧ (((1 ≤ ze N 81 7 ∧ zmu N = 0) ∨ (ze N 81 7 = 0 ∧ ze Mz 81 7 = 0 ∧ zmu N ≤ zmu Mz)))))
                                                            refine zr_if_eq (pc := 112) (tgt := 27) ⟨(by decide), (by decide)⟩ (by decide) d_M_formula_112 (fun hc_112 => ?_) (fun hc_112 => ?_)
                                                            · skip
                                                              exact ih_27 0 (by decide) (by decide) (by omega) N196_ hb0_N196_ (show 0 ≤ ze N196_ 81 3 by first | assumption | omega) (show ze N196_ 81 3 ≤ ze N196_ 81 2 by first | assumption | omega) (show zmu N196_ ≤ zmu Mz by first | assumption | omega) i201_ (show (1 ≤ ze N196_ 81 7 ∧ zmu N196_ = 0) ∨ (0 = 1 ∧ ze N196_ 81 7 = 0 ∧ ze N196_ 81 38 = zcw N196_ ∧ 0 ≤ ze N196_ 81 41 ∧ ze N196_ 81 41 - zcw N196_ ≤ ze N196_ 81 43 ∧ ze N196_ 81 42 = ze N196_ 81 41 - zcw N196_ ∧ ze N196_ 81 38 ≤ ze N196_ 81 43 ∧ ze N196_ 81 43 ≤ 30) ∨ (0 = 0 ∧ ze N196_ 81 7 = 0 ∧ ze N196_ 81 38 = zcw N196_ + 1 ∧ 0 ≤ ze N196_ 81 41 ∧ ze N196_ 81 41 - zcw N196_ ≤ ze N196_ 81 43 ∧ ze N196_ 81 42 = ze N196_ 81 41 - zcw N196_ ∧ ze N196_ 81 38 ≤ ze N196_ 81 43 ∧ ze N196_ 81 43 ≤ 30) from Or.inr (Or.inr (⟨(show 0 = 0 by first | assumption | omega), (show ze N196_ 81 7 = 0 by first | assumption | omega), (show ze N196_ 81 38 = zcw N196_ + 1 by first | assumption | omega), (show 0 ≤ ze N196_ 81 41 by first | assumption | omega), (show ze N196_ 81 41 - zcw N196_ ≤ ze N196_ 81 43 by first | assumption | omega), (show ze N196_ 81 42 = ze N196_ 81 41 - zcw N196_ by first | assumption | omega), (show ze N196_ 81 38 ≤ ze N196_ 81 43 by first | assumption | omega), (show ze N196_ 81 43 ≤ 30 by first | assumption | omega)⟩))) (by omega)
                                                            · skip
                                                              exact absurd hc_112 (by decide)
                                                      · skip
                                                        show zW l m_M_formula (zn Mz + 0, zw Mz + 0) N196_ 105 [some (.ref 81), some (.int (Int32.ofInt 0))] [.int (Int32.ofInt 0)] (zpV [3, 4, 5, 6, 7, 8, 11, 38, 39, 41, 42, 43] [95, 96, 97, 100] Mz (fun N => 0 ≤ ze N 81 3 ∧ ze N 81 3 ≤ ze N 81 2 ∧ zTv N ∧ (((1 ≤ ze N 81 7 ∧ zmu N = 0) ∨ (ze N 81 7 = 0 ∧ ze Mz 81 7 = 0 ∧ zmu N ≤ zmu Mz)))))
                                                        refine zr_if_eq (pc := 105) (tgt := 27) ⟨(by decide), (by decide)⟩ (by decide) d_M_formula_105 (fun hc_105 => ?_) (fun hc_105 => ?_)
                                                        · skip
                                                          exact ih_27 0 (by decide) (by decide) (by omega) N196_ hb0_N196_ (show 0 ≤ ze N196_ 81 3 by first | assumption | omega) (show ze N196_ 81 3 ≤ ze N196_ 81 2 by first | assumption | omega) (show zmu N196_ ≤ zmu Mz by first | assumption | omega) i201_ (show (1 ≤ ze N196_ 81 7 ∧ zmu N196_ = 0) ∨ (0 = 1 ∧ ze N196_ 81 7 = 0 ∧ ze N196_ 81 38 = zcw N196_ ∧ 0 ≤ ze N196_ 81 41 ∧ ze N196_ 81 41 - zcw N196_ ≤ ze N196_ 81 43 ∧ ze N196_ 81 42 = ze N196_ 81 41 - zcw N196_ ∧ ze N196_ 81 38 ≤ ze N196_ 81 43 ∧ ze N196_ 81 43 ≤ 30) ∨ (0 = 0 ∧ ze N196_ 81 7 = 0 ∧ ze N196_ 81 38 = zcw N196_ + 1 ∧ 0 ≤ ze N196_ 81 41 ∧ ze N196_ 81 41 - zcw N196_ ≤ ze N196_ 81 43 ∧ ze N196_ 81 42 = ze N196_ 81 41 - zcw N196_ ∧ ze N196_ 81 38 ≤ ze N196_ 81 43 ∧ ze N196_ 81 43 ≤ 30) from Or.inr (Or.inr (⟨(show 0 = 0 by first | assumption | omega), (show ze N196_ 81 7 = 0 by first | assumption | omega), (show ze N196_ 81 38 = zcw N196_ + 1 by first | assumption | omega), (show 0 ≤ ze N196_ 81 41 by first | assumption | omega), (show ze N196_ 81 41 - zcw N196_ ≤ ze N196_ 81 43 by first | assumption | omega), (show ze N196_ 81 42 = ze N196_ 81 41 - zcw N196_ by first | assumption | omega), (show ze N196_ 81 38 ≤ ze N196_ 81 43 by first | assumption | omega), (show ze N196_ 81 43 ≤ 30 by first | assumption | omega)⟩))) (by omega)
                                                        · skip
                                                          exact absurd hc_105 (by decide)
                                                · skip
                                                  exfalso; omega
                                          exact lp_88 _ 1 (by decide) (by decide) (by omega) N192_ zFr.rf (show 0 ≤ ze N192_ 81 3 by first | assumption | omega) (show ze N192_ 81 3 ≤ ze N192_ 81 2 by first | assumption | omega) (show zmu N192_ < zmu N17_ by first | assumption | omega) hp2_N192_ (show (1 ≤ ze N192_ 81 7 ∧ zmu N192_ = 0) ∨ (1 = 1 ∧ ze N192_ 81 7 = 0 ∧ ze N192_ 81 38 = zcw N192_ ∧ 0 ≤ ze N192_ 81 41 ∧ ze N192_ 81 41 - zcw N192_ ≤ ze N192_ 81 43 ∧ ze N192_ 81 42 = ze N192_ 81 41 - zcw N192_ ∧ ze N192_ 81 38 ≤ ze N192_ 81 43 ∧ ze N192_ 81 43 ≤ 30) ∨ (1 = 0 ∧ ze N192_ 81 7 = 0 ∧ ze N192_ 81 38 = zcw N192_ + 1 ∧ 0 ≤ ze N192_ 81 41 ∧ ze N192_ 81 41 - zcw N192_ ≤ ze N192_ 81 43 ∧ ze N192_ 81 42 = ze N192_ 81 41 - zcw N192_ ∧ ze N192_ 81 38 ≤ ze N192_ 81 43 ∧ ze N192_ 81 43 ≤ 30) from Or.inr (Or.inl (⟨(show 1 = 1 by first | assumption | omega), (show ze N192_ 81 7 = 0 by first | assumption | omega), (show ze N192_ 81 38 = zcw N192_ by first | assumption | omega), (show 0 ≤ ze N192_ 81 41 by first | assumption | omega), (show ze N192_ 81 41 - zcw N192_ ≤ ze N192_ 81 43 by first | assumption | omega), (show ze N192_ 81 42 = ze N192_ 81 41 - zcw N192_ by first | assumption | omega), (show ze N192_ 81 38 ≤ ze N192_ 81 43 by first | assumption | omega), (show ze N192_ 81 43 ≤ 30 by first | assumption | omega)⟩))) (Nat.lt_succ_self _)
                                      · skip
                                        show zW l m_M_formula (zn Mz + 0, zw Mz + 0) N192_ 79 [some (.ref 81), some (.int (Int32.ofInt u33_))] [.int (Int32.ofInt 0)] (zpV [3, 4, 5, 6, 7, 8, 11, 38, 39, 41, 42, 43] [95, 96, 97, 100] Mz (fun N => 0 ≤ ze N 81 3 ∧ ze N 81 3 ≤ ze N 81 2 ∧ zTv N ∧ (((1 ≤ ze N 81 7 ∧ zmu N = 0) ∨ (ze N 81 7 = 0 ∧ ze Mz 81 7 = 0 ∧ zmu N ≤ zmu Mz)))))
                                        refine zr_if_eq (pc := 79) (tgt := 86) ⟨(by decide), (by decide)⟩ (by decide) d_M_formula_79 (fun hc_79 => ?_) (fun hc_79 => ?_)
                                        · skip
                                          refine zw_iconst (pc := 86) (v := Int32.ofInt 0) (by decide) d_M_formula_86 ?_
                                          refine zw_istore_n (pc := 87) (i := 1) (L2 := [some (.ref 81), some (.int (Int32.ofInt 0))]) rfl (by decide) rfl d_M_formula_87 ?_
                                          have lp_88 : ∀ (n : Nat) (u237_ : Int) (hu237_a : -2147483648 ≤ u237_) (hu237_b : u237_ < 2147483648) (hu237_z : u237_ = 0 ∨ u237_ = 1) (N238_ : zMem) (hs239_ : zFr [3, 4, 5, 6, 7, 8, 11, 38, 39, 41, 42] [95, 96, 97, 100] N192_ N238_) (i240_ : 0 ≤ ze N238_ 81 3) (i241_ : ze N238_ 81 3 ≤ ze N238_ 81 2) (i242_ : zmu N238_ < zmu N17_) (i243_ : zTv N238_) (i244_ : (1 ≤ ze N238_ 81 7 ∧ zmu N238_ = 0) ∨ (u237_ = 1 ∧ ze N238_ 81 7 = 0 ∧ ze N238_ 81 38 = zcw N238_ ∧ 0 ≤ ze N238_ 81 41 ∧ ze N238_ 81 41 - zcw N238_ ≤ ze N238_ 81 43 ∧ ze N238_ 81 42 = ze N238_ 81 41 - zcw N238_ ∧ ze N238_ 81 38 ≤ ze N238_ 81 43 ∧ ze N238_ 81 43 ≤ 30) ∨ (u237_ = 0 ∧ ze N238_ 81 7 = 0 ∧ ze N238_ 81 38 = zcw N238_ + 1 ∧ 0 ≤ ze N238_ 81 41 ∧ ze N238_ 81 41 - zcw N238_ ≤ ze N238_ 81 43 ∧ ze N238_ 81 42 = ze N238_ 81 41 - zcw N238_ ∧ ze N238_ 81 38 ≤ ze N238_ 81 43 ∧ ze N238_ 81 43 ≤ 30)), (zmu N238_).toNat < n → zW l m_M_formula (zn Mz + 0, zw Mz + 0) N238_ 88 [some (.ref 81), some (.int (Int32.ofInt u237_))] [] (zpV [3, 4, 5, 6, 7, 8, 11, 38, 39, 41, 42, 43] [95, 96, 97, 100] Mz (fun N => 0 ≤ ze N 81 3 ∧ ze N 81 3 ≤ ze N 81 2 ∧ zTv N ∧ (((1 ≤ ze N 81 7 ∧ zmu N = 0) ∨ (ze N 81 7 = 0 ∧ ze Mz 81 7 = 0 ∧ zmu N ≤ zmu Mz))))) := by
                                            clear hu33_a hu33_b hu33_z hv91_a hv91_b hc_42 hsN92_ hv93_a hv93_b hp0_N92_ hp1_N92_ hp2_N92_ hf_N92_ hb0_N92_ hb1_N92_ e2_N92_ r3_N92_ r5_N92_ r6_N92_ r7_N92_ e14_N92_ r38_N92_ r39_N92_ r41_N92_ r42_N92_ r43_N92_ c94_ ha46_0_hp3_N92_ ha46_1_hp3_N92_ ha46_2_hp3_N92_ ha46_3_hp3_N92_ ha46_4_hp3_N92_ ha46_5_hp3_N92_ ha46_6_hp3_N92_ ha46_7_hp3_N92_ hc_49 hv142_a hv142_b ha58_0_hp0_N141_ hc_61 hsN143_ hp0_N143_ hp1_N143_ hp2_N143_ hp3_N143_ hp4_N143_ hp5_N143_ hp6_N143_ hp7_N143_ hf_N143_ hb0_N143_ e2_N143_ r3_N143_ r5_N143_ r6_N143_ r7_N143_ e14_N143_ e38_N143_ r39_N143_ r41_N143_ r42_N143_ e43_N143_ c145_ ha65_0_hp8_N143_ ha65_1_hp8_N143_ ha65_2_hp8_N143_ hv191_a hv191_b ha69_0_hp0_N190_ hc_72 hsN192_ hv193_a hv193_b hp3_N192_ hp4_N192_ hp5_N192_ e2_N192_ e7_N192_ e14_N192_ e42_N192_ e43_N192_ ha76_1_hp7_N192_ hc_79
                                            intro n
                                            induction n with
                                            | zero =>
                                              intro u237_ hu237_a hu237_b hu237_z N238_ hs239_ i240_ i241_ i242_ i243_ i244_ h0
                                              exact absurd h0 (Nat.not_lt_zero _)
                                            | succ n ih_88 =>
                                              intro u237_ hu237_a hu237_b hu237_z N238_ hs239_ i240_ i241_ i242_ i243_ i244_ hlt_88
                                              have hf_N238_ : zFr [3, 4, 5, 6, 7, 8, 11, 38, 39, 41, 42, 43] [95, 96, 97, 100] Mz N238_ := hf_N192_.tr hs239_ (by decide) (by decide)
                                              have hb0_N238_ : zFr [3, 4, 5, 6, 7, 8, 11, 38, 39, 41, 42, 43] [95, 96, 97, 100] N13_ N238_ := hb0_N192_.tr hs239_ (by decide) (by decide)
                                              have e2_N238_ : ze N238_ 81 2 = ze N192_ 81 2 := hs239_.e (by decide)
                                              have r3_N238_ := ze_r N238_ 81 3
                                              have r5_N238_ := ze_r N238_ 81 5
                                              have r6_N238_ := ze_r N238_ 81 6
                                              have r7_N238_ := ze_r N238_ 81 7
                                              have e14_N238_ : ze N238_ 81 14 = ze N192_ 81 14 := hs239_.e (by decide)
                                              have r38_N238_ := ze_r N238_ 81 38
                                              have r39_N238_ := ze_r N238_ 81 39
                                              have r41_N238_ := ze_r N238_ 81 41
                                              have r42_N238_ := ze_r N238_ 81 42
                                              have e43_N238_ : ze N238_ 81 43 = ze N192_ 81 43 := hs239_.e (by decide)
                                              have c245_ : zGD N238_ := zGD.fr hs239_ c194_ (by decide) (by decide)
                                              have zz2_N238_ : ze N238_ 81 2 = ze Mz 81 2 := hf_N238_.e (by decide)
                                              have zz14_N238_ : ze N238_ 81 14 = ze Mz 81 14 := hf_N238_.e (by decide)
                                              rcases i244_ with ⟨hl88_0_i244_, hl88_1_i244_⟩ | ⟨rfl, hl88_0_i244_, hl88_1_i244_, hl88_2_i244_, hl88_3_i244_, hl88_4_i244_, hl88_5_i244_, hl88_6_i244_⟩ | ⟨rfl, hl88_0_i244_, hl88_1_i244_, hl88_2_i244_, hl88_3_i244_, hl88_4_i244_, hl88_5_i244_, hl88_6_i244_⟩
                                              · skip
                                                refine zw_aload_n (pc := 88) (n := 0) (x := 81) rfl d_M_formula_88 ?_
                                                refine zr_callV (hf_N238_.w hW) hf_N238_.x (pc := 89) [] [] l_M_183 (c_M_isGood l N238_ (hf_N238_.w hW) ) rfl rfl rfl (by decide) (Nat.le_of_ble_eq_true rfl) d_M_formula_89 ?_
                                                rintro _ N246_ ⟨v247_, rfl, ⟨hv247_a, hv247_b⟩, hsN246_, hp0_N246_⟩
                                                obtain rfl := hsN246_.eq.symm
                                                replace hp0_N246_ : ((v247_ = 1 ∧ ze N238_ 81 7 = 0) ∨ (v247_ = 0 ∧ ze N238_ 81 7 ≠ 0)) := hp0_N246_
                                                rcases hp0_N246_ with ⟨rfl, ha89_0_hp0_N246_⟩ | ⟨rfl, ha89_0_hp0_N246_⟩
                                                · skip
                                                  exfalso; omega
                                                · skip
                                                  show zW l m_M_formula (zn Mz + 0, zw Mz + 0) N238_ 92 [some (.ref 81), some (.int (Int32.ofInt u237_))] [.int (Int32.ofInt 0)] (zpV [3, 4, 5, 6, 7, 8, 11, 38, 39, 41, 42, 43] [95, 96, 97, 100] Mz (fun N => 0 ≤ ze N 81 3 ∧ ze N 81 3 ≤ ze N 81 2 ∧ zTv N ∧ (((1 ≤ ze N 81 7 ∧ zmu N = 0) ∨ (ze N 81 7 = 0 ∧ ze Mz 81 7 = 0 ∧ zmu N ≤ zmu Mz)))))
                                                  refine zr_if_eq (pc := 92) (tgt := 27) ⟨(by decide), (by decide)⟩ (by decide) d_M_formula_92 (fun hc_92 => ?_) (fun hc_92 => ?_)
                                                  · skip
                                                    exact ih_27 u237_ hu237_a hu237_b (by omega) N238_ hb0_N238_ (show 0 ≤ ze N238_ 81 3 by first | assumption | omega) (show ze N238_ 81 3 ≤ ze N238_ 81 2 by first | assumption | omega) (show zmu N238_ ≤ zmu Mz by first | assumption | omega) i243_ (show (1 ≤ ze N238_ 81 7 ∧ zmu N238_ = 0) ∨ (u237_ = 1 ∧ ze N238_ 81 7 = 0 ∧ ze N238_ 81 38 = zcw N238_ ∧ 0 ≤ ze N238_ 81 41 ∧ ze N238_ 81 41 - zcw N238_ ≤ ze N238_ 81 43 ∧ ze N238_ 81 42 = ze N238_ 81 41 - zcw N238_ ∧ ze N238_ 81 38 ≤ ze N238_ 81 43 ∧ ze N238_ 81 43 ≤ 30) ∨ (u237_ = 0 ∧ ze N238_ 81 7 = 0 ∧ ze N238_ 81 38 = zcw N238_ + 1 ∧ 0 ≤ ze N238_ 81 41 ∧ ze N238_ 81 41 - zcw N238_ ≤ ze N238_ 81 43 ∧ ze N238_ 81 42 = ze N238_ 81 41 - zcw N238_ ∧ ze N238_ 81 38 ≤ ze N238_ 81 43 ∧ ze N238_ 81 43 ≤ 30) from Or.inl (⟨(show 1 ≤ ze N238_ 81 7 by first | assumption | omega), (show zmu N238_ = 0 by first | assumption | omega)⟩)) (by omega)
                                                  · skip
                                                    exact absurd hc_92 (by decide)
                                              · skip
                                                have hz_N238_ := zmu_p N238_ (by omega) (by omega)
                                                have hx_N238_ := zcw_b N238_ (by omega)
                                                refine zw_aload_n (pc := 88) (n := 0) (x := 81) rfl d_M_formula_88 ?_
                                                refine zr_callV (hf_N238_.w hW) hf_N238_.x (pc := 89) [] [] l_M_183 (c_M_isGood l N238_ (hf_N238_.w hW) ) rfl rfl rfl (by decide) (Nat.le_of_ble_eq_true rfl) d_M_formula_89 ?_
                                                rintro _ N248_ ⟨v249_, rfl, ⟨hv249_a, hv249_b⟩, hsN248_, hp0_N248_⟩
                                                obtain rfl := hsN248_.eq.symm
                                                replace hp0_N248_ : ((v249_ = 1 ∧ ze N238_ 81 7 = 0) ∨ (v249_ = 0 ∧ ze N238_ 81 7 ≠ 0)) := hp0_N248_
                                                rcases hp0_N248_ with ⟨rfl, ha89_0_hp0_N248_⟩ | ⟨rfl, ha89_0_hp0_N248_⟩
                                                · skip
                                                  show zW l m_M_formula (zn Mz + 0, zw Mz + 0) N238_ 92 [some (.ref 81), some (.int (Int32.ofInt 1))] [.int (Int32.ofInt 1)] (zpV [3, 4, 5, 6, 7, 8, 11, 38, 39, 41, 42, 43] [95, 96, 97, 100] Mz (fun N => 0 ≤ ze N 81 3 ∧ ze N 81 3 ≤ ze N 81 2 ∧ zTv N ∧ (((1 ≤ ze N 81 7 ∧ zmu N = 0) ∨ (ze N 81 7 = 0 ∧ ze Mz 81 7 = 0 ∧ zmu N ≤ zmu Mz)))))
                                                  refine zr_if_eq (pc := 92) (tgt := 27) ⟨(by decide), (by decide)⟩ (by decide) d_M_formula_92 (fun hc_92 => ?_) (fun hc_92 => ?_)
                                                  · skip
                                                    exact absurd hc_92 (by decide)
                                                  · skip
                                                    refine zw_iload_n (pc := 95) (n := 1) (x := Int32.ofInt 1) rfl d_M_formula_95 ?_
                                                    refine zr_if_ne (pc := 96) (tgt := 27) ⟨(by decide), (by decide)⟩ (by decide) d_M_formula_96 (fun hc_96 => ?_) (fun hc_96 => ?_)
                                                    · skip
                                                      exact ih_27 1 (by decide) (by decide) (by omega) N238_ hb0_N238_ (show 0 ≤ ze N238_ 81 3 by first | assumption | omega) (show ze N238_ 81 3 ≤ ze N238_ 81 2 by first | assumption | omega) (show zmu N238_ ≤ zmu Mz by first | assumption | omega) i243_ (show (1 ≤ ze N238_ 81 7 ∧ zmu N238_ = 0) ∨ (1 = 1 ∧ ze N238_ 81 7 = 0 ∧ ze N238_ 81 38 = zcw N238_ ∧ 0 ≤ ze N238_ 81 41 ∧ ze N238_ 81 41 - zcw N238_ ≤ ze N238_ 81 43 ∧ ze N238_ 81 42 = ze N238_ 81 41 - zcw N238_ ∧ ze N238_ 81 38 ≤ ze N238_ 81 43 ∧ ze N238_ 81 43 ≤ 30) ∨ (1 = 0 ∧ ze N238_ 81 7 = 0 ∧ ze N238_ 81 38 = zcw N238_ + 1 ∧ 0 ≤ ze N238_ 81 41 ∧ ze N238_ 81 41 - zcw N238_ ≤ ze N238_ 81 43 ∧ ze N238_ 81 42 = ze N238_ 81 41 - zcw N238_ ∧ ze N238_ 81 38 ≤ ze N238_ 81 43 ∧ ze N238_ 81 43 ≤ 30) from Or.inr (Or.inl (⟨(show 1 = 1 by first | assumption | omega), (show ze N238_ 81 7 = 0 by first | assumption | omega), (show ze N238_ 81 38 = zcw N238_ by first | assumption | omega), (show 0 ≤ ze N238_ 81 41 by first | assumption | omega), (show ze N238_ 81 41 - zcw N238_ ≤ ze N238_ 81 43 by first | assumption | omega), (show ze N238_ 81 42 = ze N238_ 81 41 - zcw N238_ by first | assumption | omega), (show ze N238_ 81 38 ≤ ze N238_ 81 43 by first | assumption | omega), (show ze N238_ 81 43 ≤ 30 by first | assumption | omega)⟩))) (by omega)
                                                    · skip
                                                      exact absurd hc_96 (by decide)
                                                · skip
                                                  exfalso; omega
                                              · skip
                                                have hz_N238_ := zmu_p N238_ (by omega) (by omega)
                                                have hx_N238_ := zcw_b N238_ (by omega)
                                                refine zw_aload_n (pc := 88) (n := 0) (x := 81) rfl d_M_formula_88 ?_
                                                refine zr_callV (hf_N238_.w hW) hf_N238_.x (pc := 89) [] [] l_M_183 (c_M_isGood l N238_ (hf_N238_.w hW) ) rfl rfl rfl (by decide) (Nat.le_of_ble_eq_true rfl) d_M_formula_89 ?_
                                                rintro _ N250_ ⟨v251_, rfl, ⟨hv251_a, hv251_b⟩, hsN250_, hp0_N250_⟩
                                                obtain rfl := hsN250_.eq.symm
                                                replace hp0_N250_ : ((v251_ = 1 ∧ ze N238_ 81 7 = 0) ∨ (v251_ = 0 ∧ ze N238_ 81 7 ≠ 0)) := hp0_N250_
                                                rcases hp0_N250_ with ⟨rfl, ha89_0_hp0_N250_⟩ | ⟨rfl, ha89_0_hp0_N250_⟩
                                                · skip
                                                  show zW l m_M_formula (zn Mz + 0, zw Mz + 0) N238_ 92 [some (.ref 81), some (.int (Int32.ofInt 0))] [.int (Int32.ofInt 1)] (zpV [3, 4, 5, 6, 7, 8, 11, 38, 39, 41, 42, 43] [95, 96, 97, 100] Mz (fun N => 0 ≤ ze N 81 3 ∧ ze N 81 3 ≤ ze N 81 2 ∧ zTv N ∧ (((1 ≤ ze N 81 7 ∧ zmu N = 0) ∨ (ze N 81 7 = 0 ∧ ze Mz 81 7 = 0 ∧ zmu N ≤ zmu Mz)))))
                                                  refine zr_if_eq (pc := 92) (tgt := 27) ⟨(by decide), (by decide)⟩ (by decide) d_M_formula_92 (fun hc_92 => ?_) (fun hc_92 => ?_)
                                                  · skip
                                                    exact absurd hc_92 (by decide)
                                                  · skip
                                                    refine zw_iload_n (pc := 95) (n := 1) (x := Int32.ofInt 0) rfl d_M_formula_95 ?_
                                                    refine zr_if_ne (pc := 96) (tgt := 27) ⟨(by decide), (by decide)⟩ (by decide) d_M_formula_96 (fun hc_96 => ?_) (fun hc_96 => ?_)
                                                    · skip
                                                      exact absurd hc_96 (by decide)
                                                    · skip
                                                      refine zw_aload_n (pc := 99) (n := 0) (x := 81) rfl d_M_formula_99 ?_
                                                      refine zw_bipush (pc := 100) (v := Int32.ofInt 41) (by decide) d_M_formula_100 ?_
                                                      refine zr_callV (hf_N238_.w hW) hf_N238_.x (pc := 102) [.int (Int32.ofInt 41)] [] l_M_187 (c_M_isSignHere l N238_ (hf_N238_.w hW) 41 (by decide) (by decide)) rfl rfl rfl (by decide) (Nat.le_of_ble_eq_true rfl) d_M_formula_102 ?_
                                                      rintro _ N252_ ⟨v253_, rfl, ⟨hv253_a, hv253_b⟩, hsN252_, hp0_N252_⟩
                                                      obtain rfl := hsN252_.eq.symm
                                                      replace hp0_N252_ : ((v253_ = 1 ∧ ze N238_ 81 7 = 0 ∧ ze N238_ 81 5 = 3 ∧ ze N238_ 81 6 = 41) ∨ (v253_ = 0)) := hp0_N252_
                                                      rcases hp0_N252_ with ⟨rfl, ha102_0_hp0_N252_, ha102_1_hp0_N252_, ha102_2_hp0_N252_⟩ | rfl
                                                      · skip
                                                        show zW l m_M_formula (zn Mz + 0, zw Mz + 0) N238_ 105 [some (.ref 81), some (.int (Int32.ofInt 0))] [.int (Int32.ofInt 1)] (zpV [3, 4, 5, 6, 7, 8, 11, 38, 39, 41, 42, 43] [95, 96, 97, 100] Mz (fun N => 0 ≤ ze N 81 3 ∧ ze N 81 3 ≤ ze N 81 2 ∧ zTv N ∧ (((1 ≤ ze N 81 7 ∧ zmu N = 0) ∨ (ze N 81 7 = 0 ∧ ze Mz 81 7 = 0 ∧ zmu N ≤ zmu Mz)))))
                                                        refine zr_if_eq (pc := 105) (tgt := 27) ⟨(by decide), (by decide)⟩ (by decide) d_M_formula_105 (fun hc_105 => ?_) (fun hc_105 => ?_)
                                                        · skip
                                                          exact absurd hc_105 (by decide)
                                                        · skip
                                                          refine zw_aload_n (pc := 108) (n := 0) (x := 81) rfl d_M_formula_108 ?_
                                                          refine zr_callV (hf_N238_.w hW) hf_N238_.x (pc := 109) [] [] l_M_352 (c_M_isOpen l N238_ (hf_N238_.w hW) (show 0 ≤ ze N238_ 81 41 by first | assumption | omega) (show ze N238_ 81 41 ≤ 80 by first | assumption | omega)) rfl rfl rfl (by decide) (Nat.le_of_ble_eq_true rfl) d_M_formula_109 ?_
                                                          rintro _ N254_ ⟨v255_, rfl, ⟨hv255_a, hv255_b⟩, hsN254_, hp0_N254_⟩
                                                          obtain rfl := hsN254_.eq.symm
                                                          replace hp0_N254_ : ((v255_ = 1 ∧ zcw N238_ ≤ ze N238_ 81 41 - 1) ∨ (v255_ = 0)) := hp0_N254_
                                                          rcases hp0_N254_ with ⟨rfl, ha109_0_hp0_N254_⟩ | rfl
                                                          · skip
                                                            show zW l m_M_formula (zn Mz + 0, zw Mz + 0) N238_ 112 [some (.ref 81), some (.int (Int32.ofInt 0))] [.int (Int32.ofInt 1)] (zpV [3, 4, 5, 6, 7, 8, 11, 38, 39, 41, 42, 43] [95, 96, 97, 100] Mz (fun N => 0 ≤ ze N 81 3 ∧ ze N 81 3 ≤ ze N 81 2 ∧ zTv N ∧ (((1 ≤ ze N 81 7 ∧ zmu N = 0) ∨ (ze N 81 7 = 0 ∧ ze Mz 81 7 = 0 ∧ zmu N ≤ zmu Mz)))))
                                                            refine zr_if_eq (pc := 112) (tgt := 27) ⟨(by decide), (by decide)⟩ (by decide) d_M_formula_112 (fun hc_112 => ?_) (fun hc_112 => ?_)
                                                            · skip
                                                              exact absurd hc_112 (by decide)
                                                            · skip
                                                              refine zw_aload_n (pc := 115) (n := 0) (x := 81) rfl d_M_formula_115 ?_
                                                              refine zw_iconst (pc := 116) (v := Int32.ofInt 2) (by decide) d_M_formula_116 ?_
                                                              refine zr_callV (hf_N238_.w hW) hf_N238_.x (pc := 117) [.int (Int32.ofInt 2)] [] l_M_337 (c_M_works l N238_ (hf_N238_.w hW) 2 (by decide) (by decide) c245_ (show 2 ≤ 2 by first | assumption | omega) (show 0 ≤ ze N238_ 81 41 by first | assumption | omega) (show ze N238_ 81 41 ≤ 80 by first | assumption | omega) (show ze N238_ 81 38 = zcw N238_ + 1 by first | assumption | omega) (show ze N238_ 81 38 ≤ 40 by first | assumption | omega)) rfl rfl rfl (by decide) (Nat.le_of_ble_eq_true rfl) d_M_formula_117 ?_
                                                              rintro _ N256_ ⟨rfl, hsN256_, ⟨hp0_N256_, hp1_N256_, hp2_N256_, hp3_N256_, hp4_N256_, hp5_N256_⟩⟩
                                                              have hf_N256_ : zFr [3, 4, 5, 6, 7, 8, 11, 38, 39, 41, 42, 43] [95, 96, 97, 100] Mz N256_ := hf_N238_.tr hsN256_ (by decide) (by decide)
                                                              have hb0_N256_ : zFr [3, 4, 5, 6, 7, 8, 11, 38, 39, 41, 42, 43] [95, 96, 97, 100] N13_ N256_ := hb0_N238_.tr hsN256_ (by decide) (by decide)
                                                              have hb1_N256_ : zFr [3, 4, 5, 6, 7, 8, 11, 38, 39, 41, 42] [95, 96, 97, 100] N192_ N256_ := hs239_.tr hsN256_ (by decide) (by decide)
                                                              have e2_N256_ : ze N256_ 81 2 = ze N238_ 81 2 := hsN256_.e (by decide)
                                                              have e3_N256_ : ze N256_ 81 3 = ze N238_ 81 3 := hsN256_.e (by decide)
                                                              have e5_N256_ : ze N256_ 81 5 = ze N238_ 81 5 := hsN256_.e (by decide)
                                                              have e6_N256_ : ze N256_ 81 6 = ze N238_ 81 6 := hsN256_.e (by decide)
                                                              have e7_N256_ : ze N256_ 81 7 = ze N238_ 81 7 := hsN256_.e (by decide)
                                                              have e14_N256_ : ze N256_ 81 14 = ze N238_ 81 14 := hsN256_.e (by decide)
                                                              have r38_N256_ := ze_r N256_ 81 38
                                                              have r39_N256_ := ze_r N256_ 81 39
                                                              have r41_N256_ := ze_r N256_ 81 41
                                                              have e42_N256_ : ze N256_ 81 42 = ze N238_ 81 42 := hsN256_.e (by decide)
                                                              have e43_N256_ : ze N256_ 81 43 = ze N238_ 81 43 := hsN256_.e (by decide)
                                                              have qzmu_N256_ : zmu N256_ = zmu N238_ := zmu_f hsN256_ (by decide)
                                                              have c258_ : zGD N256_ := zGD.fr hsN256_ c245_ (by decide) (by decide)
                                                              have c259_ : zTv N256_ := zTv.fr hsN256_ i243_ (by decide) (by decide)
                                                              show zW l m_M_formula (zn Mz + 0, zw Mz + 0) N256_ 120 [some (.ref 81), some (.int (Int32.ofInt 0))] [] (zpV [3, 4, 5, 6, 7, 8, 11, 38, 39, 41, 42, 43] [95, 96, 97, 100] Mz (fun N => 0 ≤ ze N 81 3 ∧ ze N 81 3 ≤ ze N 81 2 ∧ zTv N ∧ (((1 ≤ ze N 81 7 ∧ zmu N = 0) ∨ (ze N 81 7 = 0 ∧ ze Mz 81 7 = 0 ∧ zmu N ≤ zmu Mz)))))
                                                              have hx_N256_ := zcw_b N256_ (by omega)
                                                              refine zw_aload_n (pc := 120) (n := 0) (x := 81) rfl d_M_formula_120 ?_
                                                              refine zw_dup (pc := 121) rfl d_M_formula_121 ?_
                                                              refine zr_getI (hf_N256_.w hW) (pc := 122) f_M_305 rfl d_M_formula_122 ?_
                                                              refine zw_iconst (pc := 125) (v := Int32.ofInt 1) (by decide) d_M_formula_125 ?_
                                                              refine zr_isub (pc := 126) d_M_formula_126 ?_
                                                              refine zr_putI (hf_N256_.w hW) (pc := 127) f_M_305 rfl rfl ⟨by omega, by omega⟩ rfl rfl d_M_formula_127 (fun N260_ hsN260_ hvN260_ => ?_)
                                                              have hf_N260_ : zFr [3, 4, 5, 6, 7, 8, 11, 38, 39, 41, 42, 43] [95, 96, 97, 100] Mz N260_ := hf_N256_.tr hsN260_ (by decide) (by decide)
                                                              have hb0_N260_ : zFr [3, 4, 5, 6, 7, 8, 11, 38, 39, 41, 42, 43] [95, 96, 97, 100] N13_ N260_ := hb0_N256_.tr hsN260_ (by decide) (by decide)
                                                              have hb1_N260_ : zFr [3, 4, 5, 6, 7, 8, 11, 38, 39, 41, 42] [95, 96, 97, 100] N192_ N260_ := hb1_N256_.tr hsN260_ (by decide) (by decide)
                                                              have e2_N260_ : ze N260_ 81 2 = ze N256_ 81 2 := hsN260_.e (by decide)
                                                              have e3_N260_ : ze N260_ 81 3 = ze N256_ 81 3 := hsN260_.e (by decide)
                                                              have e5_N260_ : ze N260_ 81 5 = ze N256_ 81 5 := hsN260_.e (by decide)
                                                              have e6_N260_ : ze N260_ 81 6 = ze N256_ 81 6 := hsN260_.e (by decide)
                                                              have e7_N260_ : ze N260_ 81 7 = ze N256_ 81 7 := hsN260_.e (by decide)
                                                              have e14_N260_ : ze N260_ 81 14 = ze N256_ 81 14 := hsN260_.e (by decide)
                                                              have e38_N260_ : ze N260_ 81 38 = ze N256_ 81 38 := hsN260_.e (by decide)
                                                              have e39_N260_ : ze N260_ 81 39 = ze N256_ 81 39 := hsN260_.e (by decide)
                                                              have r41_N260_ := ze_r N260_ 81 41
                                                              have e42_N260_ : ze N260_ 81 42 = ze N256_ 81 42 := hsN260_.e (by decide)
                                                              have e43_N260_ : ze N260_ 81 43 = ze N256_ 81 43 := hsN260_.e (by decide)
                                                              have qzmu_N260_ : zmu N260_ = zmu N256_ := zmu_f hsN260_ (by decide)
                                                              have c261_ : zGD N260_ := zGD.fr hsN260_ c258_ (by decide) (by decide)
                                                              have c262_ : zTv N260_ := zTv.fr hsN260_ c259_ (by decide) (by decide)
                                                              have hd_N260_ := zcw_dec hsN260_ hvN260_ (by omega)
                                                              have hy_N260_ := zcw_b N260_ (by omega)
                                                              have hi_N260_ := hsN256_.ie (q := 100) (by decide) (by decide) (ze N256_ 81 41 - 1).toNat
                                                              refine zw_aload_n (pc := 130) (n := 0) (x := 81) rfl d_M_formula_130 ?_
                                                              refine zw_dup (pc := 131) rfl d_M_formula_131 ?_
                                                              refine zr_getI (hf_N260_.w hW) (pc := 132) f_M_296 rfl d_M_formula_132 ?_
                                                              refine zw_iconst (pc := 135) (v := Int32.ofInt 1) (by decide) d_M_formula_135 ?_
                                                              refine zr_isub (pc := 136) d_M_formula_136 ?_
                                                              refine zr_putI (hf_N260_.w hW) (pc := 137) f_M_296 rfl rfl ⟨by omega, by omega⟩ rfl rfl d_M_formula_137 (fun N263_ hsN263_ hvN263_ => ?_)
                                                              have hf_N263_ : zFr [3, 4, 5, 6, 7, 8, 11, 38, 39, 41, 42, 43] [95, 96, 97, 100] Mz N263_ := hf_N260_.tr hsN263_ (by decide) (by decide)
                                                              have hb0_N263_ : zFr [3, 4, 5, 6, 7, 8, 11, 38, 39, 41, 42, 43] [95, 96, 97, 100] N13_ N263_ := hb0_N260_.tr hsN263_ (by decide) (by decide)
                                                              have hb1_N263_ : zFr [3, 4, 5, 6, 7, 8, 11, 38, 39, 41, 42] [95, 96, 97, 100] N192_ N263_ := hb1_N260_.tr hsN263_ (by decide) (by decide)
                                                              have e2_N263_ : ze N263_ 81 2 = ze N260_ 81 2 := hsN263_.e (by decide)
                                                              have e3_N263_ : ze N263_ 81 3 = ze N260_ 81 3 := hsN263_.e (by decide)
                                                              have e5_N263_ : ze N263_ 81 5 = ze N260_ 81 5 := hsN263_.e (by decide)
                                                              have e6_N263_ : ze N263_ 81 6 = ze N260_ 81 6 := hsN263_.e (by decide)
                                                              have e7_N263_ : ze N263_ 81 7 = ze N260_ 81 7 := hsN263_.e (by decide)
                                                              have e14_N263_ : ze N263_ 81 14 = ze N260_ 81 14 := hsN263_.e (by decide)
                                                              have e38_N263_ : ze N263_ 81 38 = ze N260_ 81 38 := hsN263_.e (by decide)
                                                              have e39_N263_ : ze N263_ 81 39 = ze N260_ 81 39 := hsN263_.e (by decide)
                                                              have e41_N263_ : ze N263_ 81 41 = ze N260_ 81 41 := hsN263_.e (by decide)
                                                              have r42_N263_ := ze_r N263_ 81 42
                                                              have e43_N263_ : ze N263_ 81 43 = ze N260_ 81 43 := hsN263_.e (by decide)
                                                              have qzcw_N263_ : zcw N263_ = zcw N260_ := zcw_f hsN263_ (by decide)
                                                              have qzmu_N263_ : zmu N263_ = zmu N260_ := zmu_f hsN263_ (by decide)
                                                              have c264_ : zGD N263_ := zGD.fr hsN263_ c261_ (by decide) (by decide)
                                                              have c265_ : zTv N263_ := zTv.fr hsN263_ c262_ (by decide) (by decide)
                                                              refine zw_aload_n (pc := 140) (n := 0) (x := 81) rfl d_M_formula_140 ?_
                                                              refine zr_callV (hf_N263_.w hW) hf_N263_.x (pc := 141) [] [] l_M_193 (c_M_goOn l N263_ (hf_N263_.w hW) (show 0 ≤ ze N263_ 81 3 by first | assumption | omega) (show ze N263_ 81 3 ≤ ze N263_ 81 2 by first | assumption | omega) (show ze N263_ 81 2 ≤ 700 by first | assumption | omega) (show ze N263_ 81 5 ≠ 0 by first | assumption | omega) (show ze N263_ 81 7 = 0 by first | assumption | omega)) rfl rfl rfl (by decide) (Nat.le_of_ble_eq_true rfl) d_M_formula_141 ?_
                                                              rintro _ N266_ ⟨rfl, hsN266_, ⟨hp0_N266_, hp1_N266_, hp2_N266_, hp3_N266_, hp4_N266_⟩⟩
                                                              have hf_N266_ : zFr [3, 4, 5, 6, 7, 8, 11, 38, 39, 41, 42, 43] [95, 96, 97, 100] Mz N266_ := hf_N263_.tr hsN266_ (by decide) (by decide)
                                                              have hb0_N266_ : zFr [3, 4, 5, 6, 7, 8, 11, 38, 39, 41, 42, 43] [95, 96, 97, 100] N13_ N266_ := hb0_N263_.tr hsN266_ (by decide) (by decide)
                                                              have hb1_N266_ : zFr [3, 4, 5, 6, 7, 8, 11, 38, 39, 41, 42] [95, 96, 97, 100] N192_ N266_ := hb1_N263_.tr hsN266_ (by decide) (by decide)
                                                              have e2_N266_ : ze N266_ 81 2 = ze N263_ 81 2 := hsN266_.e (by decide)
                                                              have r3_N266_ := ze_r N266_ 81 3
                                                              have r5_N266_ := ze_r N266_ 81 5
                                                              have r6_N266_ := ze_r N266_ 81 6
                                                              have e7_N266_ : ze N266_ 81 7 = ze N263_ 81 7 := hsN266_.e (by decide)
                                                              have e14_N266_ : ze N266_ 81 14 = ze N263_ 81 14 := hsN266_.e (by decide)
                                                              have e38_N266_ : ze N266_ 81 38 = ze N263_ 81 38 := hsN266_.e (by decide)
                                                              have e39_N266_ : ze N266_ 81 39 = ze N263_ 81 39 := hsN266_.e (by decide)
                                                              have e41_N266_ : ze N266_ 81 41 = ze N263_ 81 41 := hsN266_.e (by decide)
                                                              have e42_N266_ : ze N266_ 81 42 = ze N263_ 81 42 := hsN266_.e (by decide)
                                                              have e43_N266_ : ze N266_ 81 43 = ze N263_ 81 43 := hsN266_.e (by decide)
                                                              have qzcw_N266_ : zcw N266_ = zcw N263_ := zcw_f hsN266_ (by decide)
                                                              have c268_ : zGD N266_ := zGD.fr hsN266_ c264_ (by decide) (by decide)
                                                              show zW l m_M_formula (zn Mz + 0, zw Mz + 0) N266_ 144 [some (.ref 81), some (.int (Int32.ofInt 0))] [] (zpV [3, 4, 5, 6, 7, 8, 11, 38, 39, 41, 42, 43] [95, 96, 97, 100] Mz (fun N => 0 ≤ ze N 81 3 ∧ ze N 81 3 ≤ ze N 81 2 ∧ zTv N ∧ (((1 ≤ ze N 81 7 ∧ zmu N = 0) ∨ (ze N 81 7 = 0 ∧ ze Mz 81 7 = 0 ∧ zmu N ≤ zmu Mz)))))
                                                              refine zw_aload_n (pc := 144) (n := 0) (x := 81) rfl d_M_formula_144 ?_
                                                              refine zr_callV (hf_N266_.w hW) hf_N266_.x (pc := 145) [] [] l_M_346 (c_M_closes l N266_ (hf_N266_.w hW) c268_ (show 0 ≤ ze N266_ 81 3 by first | assumption | omega) (show ze N266_ 81 3 ≤ ze N266_ 81 2 by first | assumption | omega) (show ze N266_ 81 2 ≤ 700 by first | assumption | omega) hp2_N266_ (show ze N266_ 81 7 = 0 by first | assumption | omega) (show 1 ≤ ze N266_ 81 38 by first | assumption | omega) (show ze N266_ 81 38 ≤ 40 by first | assumption | omega) (show 0 ≤ ze N266_ 81 41 by first | assumption | omega) (show ze N266_ 81 41 ≤ 80 by first | assumption | omega) (show ze N266_ 81 42 = ze N266_ 81 41 - zcw N266_ by first | assumption | omega)) rfl rfl rfl (by decide) (Nat.le_of_ble_eq_true rfl) d_M_formula_145 ?_
                                                              rintro _ N269_ ⟨rfl, hsN269_, ⟨hp0_N269_, hp1_N269_, hp2_N269_, hp3_N269_, hp4_N269_, hp5_N269_, hp6_N269_, hp7_N269_, hp8_N269_⟩⟩
                                                              have hf_N269_ : zFr [3, 4, 5, 6, 7, 8, 11, 38, 39, 41, 42, 43] [95, 96, 97, 100] Mz N269_ := hf_N266_.tr hsN269_ (by decide) (by decide)
                                                              have hb0_N269_ : zFr [3, 4, 5, 6, 7, 8, 11, 38, 39, 41, 42, 43] [95, 96, 97, 100] N13_ N269_ := hb0_N266_.tr hsN269_ (by decide) (by decide)
                                                              have hb1_N269_ : zFr [3, 4, 5, 6, 7, 8, 11, 38, 39, 41, 42] [95, 96, 97, 100] N192_ N269_ := hb1_N266_.tr hsN269_ (by decide) (by decide)
                                                              have e2_N269_ : ze N269_ 81 2 = ze N266_ 81 2 := hsN269_.e (by decide)
                                                              have r3_N269_ := ze_r N269_ 81 3
                                                              have r5_N269_ := ze_r N269_ 81 5
                                                              have r6_N269_ := ze_r N269_ 81 6
                                                              have r7_N269_ := ze_r N269_ 81 7
                                                              have e14_N269_ : ze N269_ 81 14 = ze N266_ 81 14 := hsN269_.e (by decide)
                                                              have e38_N269_ : ze N269_ 81 38 = ze N266_ 81 38 := hsN269_.e (by decide)
                                                              have r39_N269_ := ze_r N269_ 81 39
                                                              have r41_N269_ := ze_r N269_ 81 41
                                                              have r42_N269_ := ze_r N269_ 81 42
                                                              have e43_N269_ : ze N269_ 81 43 = ze N266_ 81 43 := hsN269_.e (by decide)
                                                              have c271_ : zGD N269_ := zGD.fr hsN269_ c268_ (by decide) (by decide)
                                                              rcases hp8_N269_ with ⟨ha145_0_hp8_N269_, ha145_1_hp8_N269_⟩ | ⟨ha145_0_hp8_N269_, ha145_1_hp8_N269_, ha145_2_hp8_N269_⟩
                                                              · skip
                                                                show zW l m_M_formula (zn Mz + 0, zw Mz + 0) N269_ 148 [some (.ref 81), some (.int (Int32.ofInt 0))] [] (zpV [3, 4, 5, 6, 7, 8, 11, 38, 39, 41, 42, 43] [95, 96, 97, 100] Mz (fun N => 0 ≤ ze N 81 3 ∧ ze N 81 3 ≤ ze N 81 2 ∧ zTv N ∧ (((1 ≤ ze N 81 7 ∧ zmu N = 0) ∨ (ze N 81 7 = 0 ∧ ze Mz 81 7 = 0 ∧ zmu N ≤ zmu Mz)))))
                                                                refine zw_aload_n (pc := 148) (n := 0) (x := 81) rfl d_M_formula_148 ?_
                                                                refine zr_callV (hf_N269_.w hW) hf_N269_.x (pc := 149) [] [] l_M_183 (c_M_isGood l N269_ (hf_N269_.w hW) ) rfl rfl rfl (by decide) (Nat.le_of_ble_eq_true rfl) d_M_formula_149 ?_
                                                                rintro _ N272_ ⟨v273_, rfl, ⟨hv273_a, hv273_b⟩, hsN272_, hp0_N272_⟩
                                                                obtain rfl := hsN272_.eq.symm
                                                                replace hp0_N272_ : ((v273_ = 1 ∧ ze N269_ 81 7 = 0) ∨ (v273_ = 0 ∧ ze N269_ 81 7 ≠ 0)) := hp0_N272_
                                                                rcases hp0_N272_ with ⟨rfl, ha149_0_hp0_N272_⟩ | ⟨rfl, ha149_0_hp0_N272_⟩
                                                                · skip
                                                                  exfalso; omega
                                                                · skip
                                                                  show zW l m_M_formula (zn Mz + 0, zw Mz + 0) N269_ 152 [some (.ref 81), some (.int (Int32.ofInt 0))] [.int (Int32.ofInt 0)] (zpV [3, 4, 5, 6, 7, 8, 11, 38, 39, 41, 42, 43] [95, 96, 97, 100] Mz (fun N => 0 ≤ ze N 81 3 ∧ ze N 81 3 ≤ ze N 81 2 ∧ zTv N ∧ (((1 ≤ ze N 81 7 ∧ zmu N = 0) ∨ (ze N 81 7 = 0 ∧ ze Mz 81 7 = 0 ∧ zmu N ≤ zmu Mz)))))
                                                                  refine zr_if_eq (pc := 152) (tgt := 166) ⟨(by decide), (by decide)⟩ (by decide) d_M_formula_152 (fun hc_152 => ?_) (fun hc_152 => ?_)
                                                                  · skip
                                                                    refine zw_iconst (pc := 166) (v := Int32.ofInt 0) (by decide) d_M_formula_166 ?_
                                                                    refine zw_istore_n (pc := 167) (i := 1) (L2 := [some (.ref 81), some (.int (Int32.ofInt 0))]) rfl (by decide) rfl d_M_formula_167 ?_
                                                                    refine zw_goto (pc := 168) (tgt := 88) (by decide) d_M_formula_168 ?_
                                                                    exact ih_88 0 (by decide) (by decide) (by omega) N269_ hb1_N269_ (show 0 ≤ ze N269_ 81 3 by first | assumption | omega) (show ze N269_ 81 3 ≤ ze N269_ 81 2 by first | assumption | omega) (show zmu N269_ < zmu N17_ by first | assumption | omega) hp2_N269_ (show (1 ≤ ze N269_ 81 7 ∧ zmu N269_ = 0) ∨ (0 = 1 ∧ ze N269_ 81 7 = 0 ∧ ze N269_ 81 38 = zcw N269_ ∧ 0 ≤ ze N269_ 81 41 ∧ ze N269_ 81 41 - zcw N269_ ≤ ze N269_ 81 43 ∧ ze N269_ 81 42 = ze N269_ 81 41 - zcw N269_ ∧ ze N269_ 81 38 ≤ ze N269_ 81 43 ∧ ze N269_ 81 43 ≤ 30) ∨ (0 = 0 ∧ ze N269_ 81 7 = 0 ∧ ze N269_ 81 38 = zcw N269_ + 1 ∧ 0 ≤ ze N269_ 81 41 ∧ ze N269_ 81 41 - zcw N269_ ≤ ze N269_ 81 43 ∧ ze N269_ 81 42 = ze N269_ 81 41 - zcw N269_ ∧ ze N269_ 81 38 ≤ ze N269_ 81 43 ∧ ze N269_ 81 43 ≤ 30) from Or.inl (⟨(show 1 ≤ ze N269_ 81 7 by first | assumption | omega), (show zmu N269_ = 0 by first | assumption | omega)⟩)) (by omega)
                                                                  · skip
                                                                    exact absurd hc_152 (by decide)
                                                              · skip
                                                                show zW l m_M_formula (zn Mz + 0, zw Mz + 0) N269_ 148 [some (.ref 81), some (.int (Int32.ofInt 0))] [] (zpV [3, 4, 5, 6, 7, 8, 11, 38, 39, 41, 42, 43] [95, 96, 97, 100] Mz (fun N => 0 ≤ ze N 81 3 ∧ ze N 81 3 ≤ ze N 81 2 ∧ zTv N ∧ (((1 ≤ ze N 81 7 ∧ zmu N = 0) ∨ (ze N 81 7 = 0 ∧ ze Mz 81 7 = 0 ∧ zmu N ≤ zmu Mz)))))
                                                                refine zw_aload_n (pc := 148) (n := 0) (x := 81) rfl d_M_formula_148 ?_
                                                                refine zr_callV (hf_N269_.w hW) hf_N269_.x (pc := 149) [] [] l_M_183 (c_M_isGood l N269_ (hf_N269_.w hW) ) rfl rfl rfl (by decide) (Nat.le_of_ble_eq_true rfl) d_M_formula_149 ?_
                                                                rintro _ N274_ ⟨v275_, rfl, ⟨hv275_a, hv275_b⟩, hsN274_, hp0_N274_⟩
                                                                obtain rfl := hsN274_.eq.symm
                                                                replace hp0_N274_ : ((v275_ = 1 ∧ ze N269_ 81 7 = 0) ∨ (v275_ = 0 ∧ ze N269_ 81 7 ≠ 0)) := hp0_N274_
                                                                rcases hp0_N274_ with ⟨rfl, ha149_0_hp0_N274_⟩ | ⟨rfl, ha149_0_hp0_N274_⟩
                                                                · skip
                                                                  show zW l m_M_formula (zn Mz + 0, zw Mz + 0) N269_ 152 [some (.ref 81), some (.int (Int32.ofInt 0))] [.int (Int32.ofInt 1)] (zpV [3, 4, 5, 6, 7, 8, 11, 38, 39, 41, 42, 43] [95, 96, 97, 100] Mz (fun N => 0 ≤ ze N 81 3 ∧ ze N 81 3 ≤ ze N 81 2 ∧ zTv N ∧ (((1 ≤ ze N 81 7 ∧ zmu N = 0) ∨ (ze N 81 7 = 0 ∧ ze Mz 81 7 = 0 ∧ zmu N ≤ zmu Mz)))))
                                                                  refine zr_if_eq (pc := 152) (tgt := 166) ⟨(by decide), (by decide)⟩ (by decide) d_M_formula_152 (fun hc_152 => ?_) (fun hc_152 => ?_)
                                                                  · skip
                                                                    exact absurd hc_152 (by decide)
                                                                  · skip
                                                                    refine zw_aload_n (pc := 155) (n := 0) (x := 81) rfl d_M_formula_155 ?_
                                                                    refine zr_callV (hf_N269_.w hW) hf_N269_.x (pc := 156) [] [] l_M_349 (c_M_goesOn l N269_ (hf_N269_.w hW) c271_ (show 0 ≤ ze N269_ 81 3 by first | assumption | omega) (show ze N269_ 81 3 ≤ ze N269_ 81 2 by first | assumption | omega) (show ze N269_ 81 2 ≤ 700 by first | assumption | omega) hp2_N269_ (show ze N269_ 81 7 = 0 by first | assumption | omega) (show 0 ≤ ze N269_ 81 41 by first | assumption | omega) (show ze N269_ 81 41 ≤ 79 by first | assumption | omega) (show ze N269_ 81 38 = zcw N269_ + 1 by first | assumption | omega) (show ze N269_ 81 38 ≤ 40 by first | assumption | omega)) rfl rfl rfl (by decide) (Nat.le_of_ble_eq_true rfl) d_M_formula_156 ?_
                                                                    rintro _ N276_ ⟨v277_, rfl, ⟨hv277_a, hv277_b⟩, hsN276_, ⟨hp0_N276_, hp1_N276_, hp2_N276_, hp3_N276_, hp4_N276_, hp5_N276_, hp6_N276_, hp7_N276_⟩⟩
                                                                    have hf_N276_ : zFr [3, 4, 5, 6, 7, 8, 11, 38, 39, 41, 42, 43] [95, 96, 97, 100] Mz N276_ := hf_N269_.tr hsN276_ (by decide) (by decide)
                                                                    have hb0_N276_ : zFr [3, 4, 5, 6, 7, 8, 11, 38, 39, 41, 42, 43] [95, 96, 97, 100] N13_ N276_ := hb0_N269_.tr hsN276_ (by decide) (by decide)
                                                                    have hb1_N276_ : zFr [3, 4, 5, 6, 7, 8, 11, 38, 39, 41, 42] [95, 96, 97, 100] N192_ N276_ := hb1_N269_.tr hsN276_ (by decide) (by decide)
                                                                    have e2_N276_ : ze N276_ 81 2 = ze N269_ 81 2 := hsN276_.e (by decide)
                                                                    have r3_N276_ := ze_r N276_ 81 3
                                                                    have r5_N276_ := ze_r N276_ 81 5
                                                                    have r6_N276_ := ze_r N276_ 81 6
                                                                    have e7_N276_ : ze N276_ 81 7 = ze N269_ 81 7 := hsN276_.e (by decide)
                                                                    have e14_N276_ : ze N276_ 81 14 = ze N269_ 81 14 := hsN276_.e (by decide)
                                                                    have r38_N276_ := ze_r N276_ 81 38
                                                                    have r39_N276_ := ze_r N276_ 81 39
                                                                    have r41_N276_ := ze_r N276_ 81 41
                                                                    have e42_N276_ : ze N276_ 81 42 = ze N269_ 81 42 := hsN276_.e (by decide)
                                                                    have e43_N276_ : ze N276_ 81 43 = ze N269_ 81 43 := hsN276_.e (by decide)
                                                                    have c278_ : zGD N276_ := zGD.fr hsN276_ c271_ (by decide) (by decide)
                                                                    rcases hp7_N276_ with ⟨rfl, ha156_0_hp7_N276_, ha156_1_hp7_N276_⟩ | ⟨rfl, ha156_0_hp7_N276_, ha156_1_hp7_N276_⟩
                                                                    · skip
                                                                      show zW l m_M_formula (zn Mz + 0, zw Mz + 0) N276_ 159 [some (.ref 81), some (.int (Int32.ofInt 0))] [.int (Int32.ofInt 1)] (zpV [3, 4, 5, 6, 7, 8, 11, 38, 39, 41, 42, 43] [95, 96, 97, 100] Mz (fun N => 0 ≤ ze N 81 3 ∧ ze N 81 3 ≤ ze N 81 2 ∧ zTv N ∧ (((1 ≤ ze N 81 7 ∧ zmu N = 0) ∨ (ze N 81 7 = 0 ∧ ze Mz 81 7 = 0 ∧ zmu N ≤ zmu Mz)))))
                                                                      refine zr_if_eq (pc := 159) (tgt := 166) ⟨(by decide), (by decide)⟩ (by decide) d_M_formula_159 (fun hc_159 => ?_) (fun hc_159 => ?_)
                                                                      · skip
                                                                        exact absurd hc_159 (by decide)
                                                                      · skip
                                                                        refine zw_iconst (pc := 162) (v := Int32.ofInt 1) (by decide) d_M_formula_162 ?_
                                                                        refine zw_goto (pc := 163) (tgt := 167) (by decide) d_M_formula_163 ?_
                                                                        refine zw_istore_n (pc := 167) (i := 1) (L2 := [some (.ref 81), some (.int (Int32.ofInt 1))]) rfl (by decide) rfl d_M_formula_167 ?_
                                                                        refine zw_goto (pc := 168) (tgt := 88) (by decide) d_M_formula_168 ?_
                                                                        exact ih_88 1 (by decide) (by decide) (by omega) N276_ hb1_N276_ (show 0 ≤ ze N276_ 81 3 by first | assumption | omega) (show ze N276_ 81 3 ≤ ze N276_ 81 2 by first | assumption | omega) (show zmu N276_ < zmu N17_ by first | assumption | omega) hp2_N276_ (show (1 ≤ ze N276_ 81 7 ∧ zmu N276_ = 0) ∨ (1 = 1 ∧ ze N276_ 81 7 = 0 ∧ ze N276_ 81 38 = zcw N276_ ∧ 0 ≤ ze N276_ 81 41 ∧ ze N276_ 81 41 - zcw N276_ ≤ ze N276_ 81 43 ∧ ze N276_ 81 42 = ze N276_ 81 41 - zcw N276_ ∧ ze N276_ 81 38 ≤ ze N276_ 81 43 ∧ ze N276_ 81 43 ≤ 30) ∨ (1 = 0 ∧ ze N276_ 81 7 = 0 ∧ ze N276_ 81 38 = zcw N276_ + 1 ∧ 0 ≤ ze N276_ 81 41 ∧ ze N276_ 81 41 - zcw N276_ ≤ ze N276_ 81 43 ∧ ze N276_ 81 42 = ze N276_ 81 41 - zcw N276_ ∧ ze N276_ 81 38 ≤ ze N276_ 81 43 ∧ ze N276_ 81 43 ≤ 30) from Or.inr (Or.inl (⟨(show 1 = 1 by first | assumption | omega), (show ze N276_ 81 7 = 0 by first | assumption | omega), (show ze N276_ 81 38 = zcw N276_ by first | assumption | omega), (show 0 ≤ ze N276_ 81 41 by first | assumption | omega), (show ze N276_ 81 41 - zcw N276_ ≤ ze N276_ 81 43 by first | assumption | omega), (show ze N276_ 81 42 = ze N276_ 81 41 - zcw N276_ by first | assumption | omega), (show ze N276_ 81 38 ≤ ze N276_ 81 43 by first | assumption | omega), (show ze N276_ 81 43 ≤ 30 by first | assumption | omega)⟩))) (by omega)
                                                                    · skip
                                                                      show zW l m_M_formula (zn Mz + 0, zw Mz + 0) N276_ 159 [some (.ref 81), some (.int (Int32.ofInt 0))] [.int (Int32.ofInt 0)] (zpV [3, 4, 5, 6, 7, 8, 11, 38, 39, 41, 42, 43] [95, 96, 97, 100] Mz (fun N => 0 ≤ ze N 81 3 ∧ ze N 81 3 ≤ ze N 81 2 ∧ zTv N ∧ (((1 ≤ ze N 81 7 ∧ zmu N = 0) ∨ (ze N 81 7 = 0 ∧ ze Mz 81 7 = 0 ∧ zmu N ≤ zmu Mz)))))
                                                                      refine zr_if_eq (pc := 159) (tgt := 166) ⟨(by decide), (by decide)⟩ (by decide) d_M_formula_159 (fun hc_159 => ?_) (fun hc_159 => ?_)
                                                                      · skip
                                                                        refine zw_iconst (pc := 166) (v := Int32.ofInt 0) (by decide) d_M_formula_166 ?_
                                                                        refine zw_istore_n (pc := 167) (i := 1) (L2 := [some (.ref 81), some (.int (Int32.ofInt 0))]) rfl (by decide) rfl d_M_formula_167 ?_
                                                                        refine zw_goto (pc := 168) (tgt := 88) (by decide) d_M_formula_168 ?_
                                                                        exact ih_88 0 (by decide) (by decide) (by omega) N276_ hb1_N276_ (show 0 ≤ ze N276_ 81 3 by first | assumption | omega) (show ze N276_ 81 3 ≤ ze N276_ 81 2 by first | assumption | omega) (show zmu N276_ < zmu N17_ by first | assumption | omega) hp2_N276_ (show (1 ≤ ze N276_ 81 7 ∧ zmu N276_ = 0) ∨ (0 = 1 ∧ ze N276_ 81 7 = 0 ∧ ze N276_ 81 38 = zcw N276_ ∧ 0 ≤ ze N276_ 81 41 ∧ ze N276_ 81 41 - zcw N276_ ≤ ze N276_ 81 43 ∧ ze N276_ 81 42 = ze N276_ 81 41 - zcw N276_ ∧ ze N276_ 81 38 ≤ ze N276_ 81 43 ∧ ze N276_ 81 43 ≤ 30) ∨ (0 = 0 ∧ ze N276_ 81 7 = 0 ∧ ze N276_ 81 38 = zcw N276_ + 1 ∧ 0 ≤ ze N276_ 81 41 ∧ ze N276_ 81 41 - zcw N276_ ≤ ze N276_ 81 43 ∧ ze N276_ 81 42 = ze N276_ 81 41 - zcw N276_ ∧ ze N276_ 81 38 ≤ ze N276_ 81 43 ∧ ze N276_ 81 43 ≤ 30) from Or.inr (Or.inr (⟨(show 0 = 0 by first | assumption | omega), (show ze N276_ 81 7 = 0 by first | assumption | omega), (show ze N276_ 81 38 = zcw N276_ + 1 by first | assumption | omega), (show 0 ≤ ze N276_ 81 41 by first | assumption | omega), (show ze N276_ 81 41 - zcw N276_ ≤ ze N276_ 81 43 by first | assumption | omega), (show ze N276_ 81 42 = ze N276_ 81 41 - zcw N276_ by first | assumption | omega), (show ze N276_ 81 38 ≤ ze N276_ 81 43 by first | assumption | omega), (show ze N276_ 81 43 ≤ 30 by first | assumption | omega)⟩))) (by omega)
                                                                      · skip
                                                                        exact absurd hc_159 (by decide)
                                                                · skip
                                                                  exfalso; omega
                                                          · skip
                                                            show zW l m_M_formula (zn Mz + 0, zw Mz + 0) N238_ 112 [some (.ref 81), some (.int (Int32.ofInt 0))] [.int (Int32.ofInt 0)] (zpV [3, 4, 5, 6, 7, 8, 11, 38, 39, 41, 42, 43] [95, 96, 97, 100] Mz (fun N => 0 ≤ ze N 81 3 ∧ ze N 81 3 ≤ ze N 81 2 ∧ zTv N ∧ (((1 ≤ ze N 81 7 ∧ zmu N = 0) ∨ (ze N 81 7 = 0 ∧ ze Mz 81 7 = 0 ∧ zmu N ≤ zmu Mz)))))
                                                            refine zr_if_eq (pc := 112) (tgt := 27) ⟨(by decide), (by decide)⟩ (by decide) d_M_formula_112 (fun hc_112 => ?_) (fun hc_112 => ?_)
                                                            · skip
                                                              exact ih_27 0 (by decide) (by decide) (by omega) N238_ hb0_N238_ (show 0 ≤ ze N238_ 81 3 by first | assumption | omega) (show ze N238_ 81 3 ≤ ze N238_ 81 2 by first | assumption | omega) (show zmu N238_ ≤ zmu Mz by first | assumption | omega) i243_ (show (1 ≤ ze N238_ 81 7 ∧ zmu N238_ = 0) ∨ (0 = 1 ∧ ze N238_ 81 7 = 0 ∧ ze N238_ 81 38 = zcw N238_ ∧ 0 ≤ ze N238_ 81 41 ∧ ze N238_ 81 41 - zcw N238_ ≤ ze N238_ 81 43 ∧ ze N238_ 81 42 = ze N238_ 81 41 - zcw N238_ ∧ ze N238_ 81 38 ≤ ze N238_ 81 43 ∧ ze N238_ 81 43 ≤ 30) ∨ (0 = 0 ∧ ze N238_ 81 7 = 0 ∧ ze N238_ 81 38 = zcw N238_ + 1 ∧ 0 ≤ ze N238_ 81 41 ∧ ze N238_ 81 41 - zcw N238_ ≤ ze N238_ 81 43 ∧ ze N238_ 81 42 = ze N238_ 81 41 - zcw N238_ ∧ ze N238_ 81 38 ≤ ze N238_ 81 43 ∧ ze N238_ 81 43 ≤ 30) from Or.inr (Or.inr (⟨(show 0 = 0 by first | assumption | omega), (show ze N238_ 81 7 = 0 by first | assumption | omega), (show ze N238_ 81 38 = zcw N238_ + 1 by first | assumption | omega), (show 0 ≤ ze N238_ 81 41 by first | assumption | omega), (show ze N238_ 81 41 - zcw N238_ ≤ ze N238_ 81 43 by first | assumption | omega), (show ze N238_ 81 42 = ze N238_ 81 41 - zcw N238_ by first | assumption | omega), (show ze N238_ 81 38 ≤ ze N238_ 81 43 by first | assumption | omega), (show ze N238_ 81 43 ≤ 30 by first | assumption | omega)⟩))) (by omega)
                                                            · skip
                                                              exact absurd hc_112 (by decide)
                                                      · skip
                                                        show zW l m_M_formula (zn Mz + 0, zw Mz + 0) N238_ 105 [some (.ref 81), some (.int (Int32.ofInt 0))] [.int (Int32.ofInt 0)] (zpV [3, 4, 5, 6, 7, 8, 11, 38, 39, 41, 42, 43] [95, 96, 97, 100] Mz (fun N => 0 ≤ ze N 81 3 ∧ ze N 81 3 ≤ ze N 81 2 ∧ zTv N ∧ (((1 ≤ ze N 81 7 ∧ zmu N = 0) ∨ (ze N 81 7 = 0 ∧ ze Mz 81 7 = 0 ∧ zmu N ≤ zmu Mz)))))
                                                        refine zr_if_eq (pc := 105) (tgt := 27) ⟨(by decide), (by decide)⟩ (by decide) d_M_formula_105 (fun hc_105 => ?_) (fun hc_105 => ?_)
                                                        · skip
                                                          exact ih_27 0 (by decide) (by decide) (by omega) N238_ hb0_N238_ (show 0 ≤ ze N238_ 81 3 by first | assumption | omega) (show ze N238_ 81 3 ≤ ze N238_ 81 2 by first | assumption | omega) (show zmu N238_ ≤ zmu Mz by first | assumption | omega) i243_ (show (1 ≤ ze N238_ 81 7 ∧ zmu N238_ = 0) ∨ (0 = 1 ∧ ze N238_ 81 7 = 0 ∧ ze N238_ 81 38 = zcw N238_ ∧ 0 ≤ ze N238_ 81 41 ∧ ze N238_ 81 41 - zcw N238_ ≤ ze N238_ 81 43 ∧ ze N238_ 81 42 = ze N238_ 81 41 - zcw N238_ ∧ ze N238_ 81 38 ≤ ze N238_ 81 43 ∧ ze N238_ 81 43 ≤ 30) ∨ (0 = 0 ∧ ze N238_ 81 7 = 0 ∧ ze N238_ 81 38 = zcw N238_ + 1 ∧ 0 ≤ ze N238_ 81 41 ∧ ze N238_ 81 41 - zcw N238_ ≤ ze N238_ 81 43 ∧ ze N238_ 81 42 = ze N238_ 81 41 - zcw N238_ ∧ ze N238_ 81 38 ≤ ze N238_ 81 43 ∧ ze N238_ 81 43 ≤ 30) from Or.inr (Or.inr (⟨(show 0 = 0 by first | assumption | omega), (show ze N238_ 81 7 = 0 by first | assumption | omega), (show ze N238_ 81 38 = zcw N238_ + 1 by first | assumption | omega), (show 0 ≤ ze N238_ 81 41 by first | assumption | omega), (show ze N238_ 81 41 - zcw N238_ ≤ ze N238_ 81 43 by first | assumption | omega), (show ze N238_ 81 42 = ze N238_ 81 41 - zcw N238_ by first | assumption | omega), (show ze N238_ 81 38 ≤ ze N238_ 81 43 by first | assumption | omega), (show ze N238_ 81 43 ≤ 30 by first | assumption | omega)⟩))) (by omega)
                                                        · skip
                                                          exact absurd hc_105 (by decide)
                                                · skip
                                                  exfalso; omega
                                          exact lp_88 _ 0 (by decide) (by decide) (by omega) N192_ zFr.rf (show 0 ≤ ze N192_ 81 3 by first | assumption | omega) (show ze N192_ 81 3 ≤ ze N192_ 81 2 by first | assumption | omega) (show zmu N192_ < zmu N17_ by first | assumption | omega) hp2_N192_ (show (1 ≤ ze N192_ 81 7 ∧ zmu N192_ = 0) ∨ (0 = 1 ∧ ze N192_ 81 7 = 0 ∧ ze N192_ 81 38 = zcw N192_ ∧ 0 ≤ ze N192_ 81 41 ∧ ze N192_ 81 41 - zcw N192_ ≤ ze N192_ 81 43 ∧ ze N192_ 81 42 = ze N192_ 81 41 - zcw N192_ ∧ ze N192_ 81 38 ≤ ze N192_ 81 43 ∧ ze N192_ 81 43 ≤ 30) ∨ (0 = 0 ∧ ze N192_ 81 7 = 0 ∧ ze N192_ 81 38 = zcw N192_ + 1 ∧ 0 ≤ ze N192_ 81 41 ∧ ze N192_ 81 41 - zcw N192_ ≤ ze N192_ 81 43 ∧ ze N192_ 81 42 = ze N192_ 81 41 - zcw N192_ ∧ ze N192_ 81 38 ≤ ze N192_ 81 43 ∧ ze N192_ 81 43 ≤ 30) from Or.inr (Or.inr (⟨(show 0 = 0 by first | assumption | omega), (show ze N192_ 81 7 = 0 by first | assumption | omega), (show ze N192_ 81 38 = zcw N192_ + 1 by first | assumption | omega), (show 0 ≤ ze N192_ 81 41 by first | assumption | omega), (show ze N192_ 81 41 - zcw N192_ ≤ ze N192_ 81 43 by first | assumption | omega), (show ze N192_ 81 42 = ze N192_ 81 41 - zcw N192_ by first | assumption | omega), (show ze N192_ 81 38 ≤ ze N192_ 81 43 by first | assumption | omega), (show ze N192_ 81 43 ≤ 30 by first | assumption | omega)⟩))) (Nat.lt_succ_self _)
                                        · skip
                                          exact absurd hc_79 (by decide)
                                  · skip
                                    exfalso; omega
                            · skip
                              exfalso; omega
                          · skip
                            exact absurd hc_49 (by decide)
                    · skip
                      exfalso; omega
              exact lp_38 _ 1 (by decide) (by decide) (by omega) N17_ zFr.rf (show 0 ≤ ze N17_ 81 3 by first | assumption | omega) (show ze N17_ 81 3 ≤ ze N17_ 81 2 by first | assumption | omega) (show zmu N17_ ≤ zmu N17_ by first | assumption | omega) i22_ (show (1 ≤ ze N17_ 81 7 ∧ zmu N17_ = 0) ∨ (ze N17_ 81 7 = 0 ∧ ze N17_ 81 38 = zcw N17_ ∧ 0 ≤ ze N17_ 81 41 ∧ ze N17_ 81 41 - zcw N17_ ≤ ze N17_ 81 43 ∧ ze N17_ 81 42 = ze N17_ 81 41 - zcw N17_ ∧ ze N17_ 81 38 ≤ ze N17_ 81 43 ∧ ze N17_ 81 43 ≤ 30) from Or.inr (⟨(show ze N17_ 81 7 = 0 by first | assumption | omega), (show ze N17_ 81 38 = zcw N17_ by first | assumption | omega), (show 0 ≤ ze N17_ 81 41 by first | assumption | omega), (show ze N17_ 81 41 - zcw N17_ ≤ ze N17_ 81 43 by first | assumption | omega), (show ze N17_ 81 42 = ze N17_ 81 41 - zcw N17_ by first | assumption | omega), (show ze N17_ 81 38 ≤ ze N17_ 81 43 by first | assumption | omega), (show ze N17_ 81 43 ≤ 30 by first | assumption | omega)⟩)) (Nat.lt_succ_self _)
        · skip
          exfalso; omega
      · skip
        have hz_N17_ := zmu_p N17_ (by omega) (by omega)
        have hx_N17_ := zcw_b N17_ (by omega)
        refine zw_aload_n (pc := 27) (n := 0) (x := 81) rfl d_M_formula_27 ?_
        refine zr_callV (hf_N17_.w hW) hf_N17_.x (pc := 28) [] [] l_M_183 (c_M_isGood l N17_ (hf_N17_.w hW) ) rfl rfl rfl (by decide) (Nat.le_of_ble_eq_true rfl) d_M_formula_28 ?_
        rintro _ N279_ ⟨v280_, rfl, ⟨hv280_a, hv280_b⟩, hsN279_, hp0_N279_⟩
        obtain rfl := hsN279_.eq.symm
        replace hp0_N279_ : ((v280_ = 1 ∧ ze N17_ 81 7 = 0) ∨ (v280_ = 0 ∧ ze N17_ 81 7 ≠ 0)) := hp0_N279_
        rcases hp0_N279_ with ⟨rfl, ha28_0_hp0_N279_⟩ | ⟨rfl, ha28_0_hp0_N279_⟩
        · skip
          show zW l m_M_formula (zn Mz + 0, zw Mz + 0) N17_ 31 [some (.ref 81), some (.int (Int32.ofInt 0))] [.int (Int32.ofInt 1)] (zpV [3, 4, 5, 6, 7, 8, 11, 38, 39, 41, 42, 43] [95, 96, 97, 100] Mz (fun N => 0 ≤ ze N 81 3 ∧ ze N 81 3 ≤ ze N 81 2 ∧ zTv N ∧ (((1 ≤ ze N 81 7 ∧ zmu N = 0) ∨ (ze N 81 7 = 0 ∧ ze Mz 81 7 = 0 ∧ zmu N ≤ zmu Mz)))))
          refine zr_if_eq (pc := 31) (tgt := 171) ⟨(by decide), (by decide)⟩ (by decide) d_M_formula_31 (fun hc_31 => ?_) (fun hc_31 => ?_)
          · skip
            exact absurd hc_31 (by decide)
          · skip
            refine zw_iload_n (pc := 34) (n := 1) (x := Int32.ofInt 0) rfl d_M_formula_34 ?_
            refine zr_if_eq (pc := 35) (tgt := 171) ⟨(by decide), (by decide)⟩ (by decide) d_M_formula_35 (fun hc_35 => ?_) (fun hc_35 => ?_)
            · skip
              refine zw_aload_n (pc := 171) (n := 0) (x := 81) rfl d_M_formula_171 ?_
              refine zr_callV (hf_N17_.w hW) hf_N17_.x (pc := 172) [] [] l_M_183 (c_M_isGood l N17_ (hf_N17_.w hW) ) rfl rfl rfl (by decide) (Nat.le_of_ble_eq_true rfl) d_M_formula_172 ?_
              rintro _ N281_ ⟨v282_, rfl, ⟨hv282_a, hv282_b⟩, hsN281_, hp0_N281_⟩
              obtain rfl := hsN281_.eq.symm
              replace hp0_N281_ : ((v282_ = 1 ∧ ze N17_ 81 7 = 0) ∨ (v282_ = 0 ∧ ze N17_ 81 7 ≠ 0)) := hp0_N281_
              rcases hp0_N281_ with ⟨rfl, ha172_0_hp0_N281_⟩ | ⟨rfl, ha172_0_hp0_N281_⟩
              · skip
                show zW l m_M_formula (zn Mz + 0, zw Mz + 0) N17_ 175 [some (.ref 81), some (.int (Int32.ofInt 0))] [.int (Int32.ofInt 1)] (zpV [3, 4, 5, 6, 7, 8, 11, 38, 39, 41, 42, 43] [95, 96, 97, 100] Mz (fun N => 0 ≤ ze N 81 3 ∧ ze N 81 3 ≤ ze N 81 2 ∧ zTv N ∧ (((1 ≤ ze N 81 7 ∧ zmu N = 0) ∨ (ze N 81 7 = 0 ∧ ze Mz 81 7 = 0 ∧ zmu N ≤ zmu Mz)))))
                refine zr_if_eq (pc := 175) (tgt := 190) ⟨(by decide), (by decide)⟩ (by decide) d_M_formula_175 (fun hc_175 => ?_) (fun hc_175 => ?_)
                · skip
                  exact absurd hc_175 (by decide)
                · skip
                  refine zw_aload_n (pc := 178) (n := 0) (x := 81) rfl d_M_formula_178 ?_
                  refine zr_callV (hf_N17_.w hW) hf_N17_.x (pc := 179) [] [] l_M_352 (c_M_isOpen l N17_ (hf_N17_.w hW) (show 0 ≤ ze N17_ 81 41 by first | assumption | omega) (show ze N17_ 81 41 ≤ 80 by first | assumption | omega)) rfl rfl rfl (by decide) (Nat.le_of_ble_eq_true rfl) d_M_formula_179 ?_
                  rintro _ N283_ ⟨v284_, rfl, ⟨hv284_a, hv284_b⟩, hsN283_, hp0_N283_⟩
                  obtain rfl := hsN283_.eq.symm
                  replace hp0_N283_ : ((v284_ = 1 ∧ zcw N17_ ≤ ze N17_ 81 41 - 1) ∨ (v284_ = 0)) := hp0_N283_
                  rcases hp0_N283_ with ⟨rfl, ha179_0_hp0_N283_⟩ | rfl
                  · skip
                    show zW l m_M_formula (zn Mz + 0, zw Mz + 0) N17_ 182 [some (.ref 81), some (.int (Int32.ofInt 0))] [.int (Int32.ofInt 1)] (zpV [3, 4, 5, 6, 7, 8, 11, 38, 39, 41, 42, 43] [95, 96, 97, 100] Mz (fun N => 0 ≤ ze N 81 3 ∧ ze N 81 3 ≤ ze N 81 2 ∧ zTv N ∧ (((1 ≤ ze N 81 7 ∧ zmu N = 0) ∨ (ze N 81 7 = 0 ∧ ze Mz 81 7 = 0 ∧ zmu N ≤ zmu Mz)))))
                    refine zr_if_eq (pc := 182) (tgt := 190) ⟨(by decide), (by decide)⟩ (by decide) d_M_formula_182 (fun hc_182 => ?_) (fun hc_182 => ?_)
                    · skip
                      exact absurd hc_182 (by decide)
                    · skip
                      refine zw_aload_n (pc := 185) (n := 0) (x := 81) rfl d_M_formula_185 ?_
                      refine zw_iconst (pc := 186) (v := Int32.ofInt 2) (by decide) d_M_formula_186 ?_
                      refine zr_callV (hf_N17_.w hW) hf_N17_.x (pc := 187) [.int (Int32.ofInt 2)] [] l_M_190 (c_M_wrong l N17_ (hf_N17_.w hW) 2 (by decide) (by decide) (show ze N17_ 81 7 = 0 by first | assumption | omega) (show 1 ≤ 2 by first | assumption | omega)) rfl rfl rfl (by decide) (Nat.le_of_ble_eq_true rfl) d_M_formula_187 ?_
                      rintro _ N285_ ⟨rfl, hsN285_, ⟨hp0_N285_, hp1_N285_⟩⟩
                      have hf_N285_ : zFr [3, 4, 5, 6, 7, 8, 11, 38, 39, 41, 42, 43] [95, 96, 97, 100] Mz N285_ := hf_N17_.tr hsN285_ (by decide) (by decide)
                      have e2_N285_ : ze N285_ 81 2 = ze N17_ 81 2 := hsN285_.e (by decide)
                      have e3_N285_ : ze N285_ 81 3 = ze N17_ 81 3 := hsN285_.e (by decide)
                      have e5_N285_ : ze N285_ 81 5 = ze N17_ 81 5 := hsN285_.e (by decide)
                      have e6_N285_ : ze N285_ 81 6 = ze N17_ 81 6 := hsN285_.e (by decide)
                      have r7_N285_ := ze_r N285_ 81 7
                      have e14_N285_ : ze N285_ 81 14 = ze N17_ 81 14 := hsN285_.e (by decide)
                      have e38_N285_ : ze N285_ 81 38 = ze N17_ 81 38 := hsN285_.e (by decide)
                      have e39_N285_ : ze N285_ 81 39 = ze N17_ 81 39 := hsN285_.e (by decide)
                      have e41_N285_ : ze N285_ 81 41 = ze N17_ 81 41 := hsN285_.e (by decide)
                      have e42_N285_ : ze N285_ 81 42 = ze N17_ 81 42 := hsN285_.e (by decide)
                      have e43_N285_ : ze N285_ 81 43 = ze N17_ 81 43 := hsN285_.e (by decide)
                      have qzcw_N285_ : zcw N285_ = zcw N17_ := zcw_f hsN285_ (by decide)
                      have c287_ : zGD N285_ := zGD.fr hsN285_ c24_ (by decide) (by decide)
                      have c288_ : zTv N285_ := zTv.fr hsN285_ i22_ (by decide) (by decide)
                      show zW l m_M_formula (zn Mz + 0, zw Mz + 0) N285_ 190 [some (.ref 81), some (.int (Int32.ofInt 0))] [] (zpV [3, 4, 5, 6, 7, 8, 11, 38, 39, 41, 42, 43] [95, 96, 97, 100] Mz (fun N => 0 ≤ ze N 81 3 ∧ ze N 81 3 ≤ ze N 81 2 ∧ zTv N ∧ (((1 ≤ ze N 81 7 ∧ zmu N = 0) ∨ (ze N 81 7 = 0 ∧ ze Mz 81 7 = 0 ∧ zmu N ≤ zmu Mz)))))
                      refine zw_aload_n (pc := 190) (n := 0) (x := 81) rfl d_M_formula_190 ?_
                      refine zr_callV (hf_N285_.w hW) hf_N285_.x (pc := 191) [] [] l_M_183 (c_M_isGood l N285_ (hf_N285_.w hW) ) rfl rfl rfl (by decide) (Nat.le_of_ble_eq_true rfl) d_M_formula_191 ?_
                      rintro _ N289_ ⟨v290_, rfl, ⟨hv290_a, hv290_b⟩, hsN289_, hp0_N289_⟩
                      obtain rfl := hsN289_.eq.symm
                      replace hp0_N289_ : ((v290_ = 1 ∧ ze N285_ 81 7 = 0) ∨ (v290_ = 0 ∧ ze N285_ 81 7 ≠ 0)) := hp0_N289_
                      rcases hp0_N289_ with ⟨rfl, ha191_0_hp0_N289_⟩ | ⟨rfl, ha191_0_hp0_N289_⟩
                      · skip
                        exfalso; omega
                      · skip
                        show zW l m_M_formula (zn Mz + 0, zw Mz + 0) N285_ 194 [some (.ref 81), some (.int (Int32.ofInt 0))] [.int (Int32.ofInt 0)] (zpV [3, 4, 5, 6, 7, 8, 11, 38, 39, 41, 42, 43] [95, 96, 97, 100] Mz (fun N => 0 ≤ ze N 81 3 ∧ ze N 81 3 ≤ ze N 81 2 ∧ zTv N ∧ (((1 ≤ ze N 81 7 ∧ zmu N = 0) ∨ (ze N 81 7 = 0 ∧ ze Mz 81 7 = 0 ∧ zmu N ≤ zmu Mz)))))
                        refine zr_if_eq (pc := 194) (tgt := 202) ⟨(by decide), (by decide)⟩ (by decide) d_M_formula_194 (fun hc_194 => ?_) (fun hc_194 => ?_)
                        · skip
                          exact zr_vret (pc := 202) rfl hf_N285_ ⟨(show 0 ≤ ze N285_ 81 3 by first | assumption | omega), (show ze N285_ 81 3 ≤ ze N285_ 81 2 by first | assumption | omega), c288_, (show ((1 ≤ ze N285_ 81 7 ∧ zmu N285_ = 0) ∨ (ze N285_ 81 7 = 0 ∧ ze Mz 81 7 = 0 ∧ zmu N285_ ≤ zmu Mz)) from Or.inl (⟨(show 1 ≤ ze N285_ 81 7 by first | assumption | omega), (show zmu N285_ = 0 by first | assumption | omega)⟩))⟩ d_M_formula_202
                        · skip
                          exact absurd hc_194 (by decide)
                  · skip
                    show zW l m_M_formula (zn Mz + 0, zw Mz + 0) N17_ 182 [some (.ref 81), some (.int (Int32.ofInt 0))] [.int (Int32.ofInt 0)] (zpV [3, 4, 5, 6, 7, 8, 11, 38, 39, 41, 42, 43] [95, 96, 97, 100] Mz (fun N => 0 ≤ ze N 81 3 ∧ ze N 81 3 ≤ ze N 81 2 ∧ zTv N ∧ (((1 ≤ ze N 81 7 ∧ zmu N = 0) ∨ (ze N 81 7 = 0 ∧ ze Mz 81 7 = 0 ∧ zmu N ≤ zmu Mz)))))
                    refine zr_if_eq (pc := 182) (tgt := 190) ⟨(by decide), (by decide)⟩ (by decide) d_M_formula_182 (fun hc_182 => ?_) (fun hc_182 => ?_)
                    · skip
                      refine zw_aload_n (pc := 190) (n := 0) (x := 81) rfl d_M_formula_190 ?_
                      refine zr_callV (hf_N17_.w hW) hf_N17_.x (pc := 191) [] [] l_M_183 (c_M_isGood l N17_ (hf_N17_.w hW) ) rfl rfl rfl (by decide) (Nat.le_of_ble_eq_true rfl) d_M_formula_191 ?_
                      rintro _ N291_ ⟨v292_, rfl, ⟨hv292_a, hv292_b⟩, hsN291_, hp0_N291_⟩
                      obtain rfl := hsN291_.eq.symm
                      replace hp0_N291_ : ((v292_ = 1 ∧ ze N17_ 81 7 = 0) ∨ (v292_ = 0 ∧ ze N17_ 81 7 ≠ 0)) := hp0_N291_
                      rcases hp0_N291_ with ⟨rfl, ha191_0_hp0_N291_⟩ | ⟨rfl, ha191_0_hp0_N291_⟩
                      · skip
                        show zW l m_M_formula (zn Mz + 0, zw Mz + 0) N17_ 194 [some (.ref 81), some (.int (Int32.ofInt 0))] [.int (Int32.ofInt 1)] (zpV [3, 4, 5, 6, 7, 8, 11, 38, 39, 41, 42, 43] [95, 96, 97, 100] Mz (fun N => 0 ≤ ze N 81 3 ∧ ze N 81 3 ≤ ze N 81 2 ∧ zTv N ∧ (((1 ≤ ze N 81 7 ∧ zmu N = 0) ∨ (ze N 81 7 = 0 ∧ ze Mz 81 7 = 0 ∧ zmu N ≤ zmu Mz)))))
                        refine zr_if_eq (pc := 194) (tgt := 202) ⟨(by decide), (by decide)⟩ (by decide) d_M_formula_194 (fun hc_194 => ?_) (fun hc_194 => ?_)
                        · skip
                          exact absurd hc_194 (by decide)
                        · skip
                          refine zw_aload_n (pc := 197) (n := 0) (x := 81) rfl d_M_formula_197 ?_
                          refine zw_iconst (pc := 198) (v := Int32.ofInt 2) (by decide) d_M_formula_198 ?_
                          refine zr_callV (hf_N17_.w hW) hf_N17_.x (pc := 199) [.int (Int32.ofInt 2)] [] l_M_337 (c_M_works l N17_ (hf_N17_.w hW) 2 (by decide) (by decide) c24_ (show 2 ≤ 2 by first | assumption | omega) (show 0 ≤ ze N17_ 81 41 by first | assumption | omega) (show ze N17_ 81 41 ≤ 80 by first | assumption | omega) (show ze N17_ 81 38 = zcw N17_ + 1 by first | assumption | omega) (show ze N17_ 81 38 ≤ 40 by first | assumption | omega)) rfl rfl rfl (by decide) (Nat.le_of_ble_eq_true rfl) d_M_formula_199 ?_
                          rintro _ N293_ ⟨rfl, hsN293_, ⟨hp0_N293_, hp1_N293_, hp2_N293_, hp3_N293_, hp4_N293_, hp5_N293_⟩⟩
                          have hf_N293_ : zFr [3, 4, 5, 6, 7, 8, 11, 38, 39, 41, 42, 43] [95, 96, 97, 100] Mz N293_ := hf_N17_.tr hsN293_ (by decide) (by decide)
                          have e2_N293_ : ze N293_ 81 2 = ze N17_ 81 2 := hsN293_.e (by decide)
                          have e3_N293_ : ze N293_ 81 3 = ze N17_ 81 3 := hsN293_.e (by decide)
                          have e5_N293_ : ze N293_ 81 5 = ze N17_ 81 5 := hsN293_.e (by decide)
                          have e6_N293_ : ze N293_ 81 6 = ze N17_ 81 6 := hsN293_.e (by decide)
                          have e7_N293_ : ze N293_ 81 7 = ze N17_ 81 7 := hsN293_.e (by decide)
                          have e14_N293_ : ze N293_ 81 14 = ze N17_ 81 14 := hsN293_.e (by decide)
                          have r38_N293_ := ze_r N293_ 81 38
                          have r39_N293_ := ze_r N293_ 81 39
                          have r41_N293_ := ze_r N293_ 81 41
                          have e42_N293_ : ze N293_ 81 42 = ze N17_ 81 42 := hsN293_.e (by decide)
                          have e43_N293_ : ze N293_ 81 43 = ze N17_ 81 43 := hsN293_.e (by decide)
                          have qzmu_N293_ : zmu N293_ = zmu N17_ := zmu_f hsN293_ (by decide)
                          have c295_ : zGD N293_ := zGD.fr hsN293_ c24_ (by decide) (by decide)
                          have c296_ : zTv N293_ := zTv.fr hsN293_ i22_ (by decide) (by decide)
                          show zW l m_M_formula (zn Mz + 0, zw Mz + 0) N293_ 202 [some (.ref 81), some (.int (Int32.ofInt 0))] [] (zpV [3, 4, 5, 6, 7, 8, 11, 38, 39, 41, 42, 43] [95, 96, 97, 100] Mz (fun N => 0 ≤ ze N 81 3 ∧ ze N 81 3 ≤ ze N 81 2 ∧ zTv N ∧ (((1 ≤ ze N 81 7 ∧ zmu N = 0) ∨ (ze N 81 7 = 0 ∧ ze Mz 81 7 = 0 ∧ zmu N ≤ zmu Mz)))))
                          exact zr_vret (pc := 202) rfl hf_N293_ ⟨(show 0 ≤ ze N293_ 81 3 by first | assumption | omega), (show ze N293_ 81 3 ≤ ze N293_ 81 2 by first | assumption | omega), c296_, (show ((1 ≤ ze N293_ 81 7 ∧ zmu N293_ = 0) ∨ (ze N293_ 81 7 = 0 ∧ ze Mz 81 7 = 0 ∧ zmu N293_ ≤ zmu Mz)) from Or.inr (⟨(show ze N293_ 81 7 = 0 by first | assumption | omega), (show ze Mz 81 7 = 0 by first | assumption | omega), (show zmu N293_ ≤ zmu Mz by first | assumption | omega)⟩))⟩ d_M_formula_202
                      · skip
                        exfalso; omega
                    · skip
                      exact absurd hc_182 (by decide)
              · skip
                exfalso; omega
            · skip
              exact absurd hc_35 (by decide)
        · skip
          exfalso; omega
  exact lp_27 _ 1 (by decide) (by decide) (by omega) N13_ zFr.rf (show 0 ≤ ze N13_ 81 3 by first | assumption | omega) (show ze N13_ 81 3 ≤ ze N13_ 81 2 by first | assumption | omega) (show zmu N13_ ≤ zmu Mz by first | assumption | omega) c15_ (show (1 ≤ ze N13_ 81 7 ∧ zmu N13_ = 0) ∨ (1 = 1 ∧ ze N13_ 81 7 = 0 ∧ ze N13_ 81 38 = zcw N13_ ∧ 0 ≤ ze N13_ 81 41 ∧ ze N13_ 81 41 - zcw N13_ ≤ ze N13_ 81 43 ∧ ze N13_ 81 42 = ze N13_ 81 41 - zcw N13_ ∧ ze N13_ 81 38 ≤ ze N13_ 81 43 ∧ ze N13_ 81 43 ≤ 30) ∨ (1 = 0 ∧ ze N13_ 81 7 = 0 ∧ ze N13_ 81 38 = zcw N13_ + 1 ∧ 0 ≤ ze N13_ 81 41 ∧ ze N13_ 81 41 - zcw N13_ ≤ ze N13_ 81 43 ∧ ze N13_ 81 42 = ze N13_ 81 41 - zcw N13_ ∧ ze N13_ 81 38 ≤ ze N13_ 81 43 ∧ ze N13_ 81 43 ≤ 30) by first | assumption | omega) (Nat.lt_succ_self _)
