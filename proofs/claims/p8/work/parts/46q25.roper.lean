set_option maxHeartbeats 4000000 in
theorem c_M_operand (l : Launch) (Mz : zMem) (hW : zMt Mz) (p0_ : zGD Mz) (p1_ : 0 ≤ ze Mz 81 3) (p2_ : ze Mz 81 3 ≤ ze Mz 81 2) (p3_ : ze Mz 81 2 ≤ 700) (p4_ : zTv Mz) (p5_ : ze Mz 81 7 = 0) (p6_ : ze Mz 81 38 = zcw Mz) (p7_ : 0 ≤ ze Mz 81 41) (p8_ : ze Mz 81 41 - zcw Mz ≤ ze Mz 81 43) (p9_ : ze Mz 81 42 = ze Mz 81 41 - zcw Mz) (p10_ : ze Mz 81 38 ≤ ze Mz 81 43) (p11_ : ze Mz 81 43 ≤ 30) (p12_ : 0 ≤ ze Mz 81 14) (p13_ : ze Mz 81 14 ≤ 8) : zC l m_M_operand 0 0 [.ref 81] Mz (zpI [3, 4, 5, 6, 7, 8, 11, 38, 39, 41, 42, 43] [95, 100] Mz (fun v N => 0 ≤ ze N 81 3 ∧ ze N 81 3 ≤ ze N 81 2 ∧ zTv N ∧ (((v = 0 ∧ 1 ≤ ze N 81 7 ∧ zmu N = 0) ∨ (v = 0 ∧ ze N 81 7 = 0 ∧ zmu N < zmu Mz ∧ ze N 81 38 = zcw N ∧ 0 ≤ ze N 81 41 ∧ ze N 81 41 - zcw N ≤ ze N 81 43 ∧ ze N 81 42 = ze N 81 41 - zcw N ∧ ze N 81 38 ≤ ze N 81 43 ∧ ze N 81 43 ≤ 30) ∨ (v = 1 ∧ 1 ≤ ze N 81 7 ∧ zmu N = 0) ∨ (v = 1 ∧ ze N 81 7 = 0 ∧ zmu N < zmu Mz ∧ ze N 81 38 = zcw N + 1 ∧ 0 ≤ ze N 81 41 ∧ ze N 81 41 - zcw N ≤ ze N 81 43 ∧ ze N 81 42 = ze N 81 41 - zcw N ∧ ze N 81 38 ≤ ze N 81 43 ∧ ze N 81 43 ≤ 30))))) := by
  refine zC_of (L0 := [some (.ref 81), none, none]) md_M_operand (Nat.le_of_ble_eq_true rfl) rfl ?_ zQ0
  have hf : zFr [3, 4, 5, 6, 7, 8, 11, 38, 39, 41, 42, 43] [95, 100] Mz Mz := zFr.rf
  have r_2 := ze_r Mz 81 2
  have r_3 := ze_r Mz 81 3
  have r_5 := ze_r Mz 81 5
  have r_6 := ze_r Mz 81 6
  have r_7 := ze_r Mz 81 7
  have r_14 := ze_r Mz 81 14
  have r_26 := ze_r Mz 81 26
  have r_38 := ze_r Mz 81 38
  have r_41 := ze_r Mz 81 41
  have r_42 := ze_r Mz 81 42
  have r_43 := ze_r Mz 81 43
  have gb := p0_.1
  have hx := zcw_b Mz (by omega)
  refine zw_aload_n (pc := 0) (n := 0) (x := 81) rfl d_M_operand_0 ?_
  refine zw_bipush (pc := 1) (v := Int32.ofInt 45) (by decide) d_M_operand_1 ?_
  refine zr_callV (hf.w hW) hf.x (pc := 3) [.int (Int32.ofInt 45)] [] l_M_187 (c_M_isSignHere l Mz (hf.w hW) 45 (by decide) (by decide)) rfl rfl rfl (by decide) (Nat.le_of_ble_eq_true rfl) d_M_operand_3 ?_
  rintro _ N1_ ⟨v2_, rfl, ⟨hv2_a, hv2_b⟩, hsN1_, hp0_N1_⟩
  obtain rfl := hsN1_.eq.symm
  replace hp0_N1_ : ((v2_ = 1 ∧ ze Mz 81 7 = 0 ∧ ze Mz 81 5 = 3 ∧ ze Mz 81 6 = 45) ∨ (v2_ = 0)) := hp0_N1_
  rcases hp0_N1_ with ⟨rfl, ha3_0_hp0_N1_, ha3_1_hp0_N1_, ha3_2_hp0_N1_⟩ | rfl
  · skip
    show zW l m_M_operand (zn Mz + 0, zw Mz + 0) Mz 6 [some (.ref 81), none, none] [.int (Int32.ofInt 1)] (zpI [3, 4, 5, 6, 7, 8, 11, 38, 39, 41, 42, 43] [95, 100] Mz (fun v N => 0 ≤ ze N 81 3 ∧ ze N 81 3 ≤ ze N 81 2 ∧ zTv N ∧ (((v = 0 ∧ 1 ≤ ze N 81 7 ∧ zmu N = 0) ∨ (v = 0 ∧ ze N 81 7 = 0 ∧ zmu N < zmu Mz ∧ ze N 81 38 = zcw N ∧ 0 ≤ ze N 81 41 ∧ ze N 81 41 - zcw N ≤ ze N 81 43 ∧ ze N 81 42 = ze N 81 41 - zcw N ∧ ze N 81 38 ≤ ze N 81 43 ∧ ze N 81 43 ≤ 30) ∨ (v = 1 ∧ 1 ≤ ze N 81 7 ∧ zmu N = 0) ∨ (v = 1 ∧ ze N 81 7 = 0 ∧ zmu N < zmu Mz ∧ ze N 81 38 = zcw N + 1 ∧ 0 ≤ ze N 81 41 ∧ ze N 81 41 - zcw N ≤ ze N 81 43 ∧ ze N 81 42 = ze N 81 41 - zcw N ∧ ze N 81 38 ≤ ze N 81 43 ∧ ze N 81 43 ≤ 30)))))
    refine zr_if_ne (pc := 6) (tgt := 18) ⟨(by decide), (by decide)⟩ (by decide) d_M_operand_6 (fun hc_6 => ?_) (fun hc_6 => ?_)
    · skip
      refine zw_aload_n (pc := 18) (n := 0) (x := 81) rfl d_M_operand_18 ?_
      refine zr_getI (hf.w hW) (pc := 19) f_M_152 rfl d_M_operand_19 ?_
      refine zw_bipush (pc := 22) (v := Int32.ofInt 40) (by decide) d_M_operand_22 ?_
      refine zr_icmp_ne (pc := 24) (tgt := 31) ⟨(ze_r Mz 81 6).1, (ze_r Mz 81 6).2⟩ ⟨(by decide), (by decide)⟩ (by decide) d_M_operand_24 (fun hc_24 => ?_) (fun hc_24 => ?_)
      · skip
        refine zw_iconst (pc := 31) (v := Int32.ofInt 0) (by decide) d_M_operand_31 ?_
        refine zw_istore_n (pc := 32) (i := 1) (L2 := [some (.ref 81), some (.int (Int32.ofInt 0)), none]) rfl (by decide) rfl d_M_operand_32 ?_
        refine zw_aload_n (pc := 33) (n := 0) (x := 81) rfl d_M_operand_33 ?_
        refine zr_callV (hf.w hW) hf.x (pc := 34) [] [] l_M_302 (c_M_countsUnit l Mz (hf.w hW) (show 0 ≤ ze Mz 81 7 by first | assumption | omega) (show 0 ≤ ze Mz 81 43 by first | assumption | omega) (show ze Mz 81 43 ≤ 1000 by first | assumption | omega)) rfl rfl rfl (by decide) (Nat.le_of_ble_eq_true rfl) d_M_operand_34 ?_
        rintro _ N3_ ⟨rfl, hsN3_, ⟨hp0_N3_, hp1_N3_⟩⟩
        have hf_N3_ : zFr [3, 4, 5, 6, 7, 8, 11, 38, 39, 41, 42, 43] [95, 100] Mz N3_ := hf.tr hsN3_ (by decide) (by decide)
        have e2_N3_ : ze N3_ 81 2 = ze Mz 81 2 := hsN3_.e (by decide)
        have e3_N3_ : ze N3_ 81 3 = ze Mz 81 3 := hsN3_.e (by decide)
        have e5_N3_ : ze N3_ 81 5 = ze Mz 81 5 := hsN3_.e (by decide)
        have e6_N3_ : ze N3_ 81 6 = ze Mz 81 6 := hsN3_.e (by decide)
        have r7_N3_ := ze_r N3_ 81 7
        have e14_N3_ : ze N3_ 81 14 = ze Mz 81 14 := hsN3_.e (by decide)
        have e26_N3_ : ze N3_ 81 26 = ze Mz 81 26 := hsN3_.e (by decide)
        have e38_N3_ : ze N3_ 81 38 = ze Mz 81 38 := hsN3_.e (by decide)
        have e41_N3_ : ze N3_ 81 41 = ze Mz 81 41 := hsN3_.e (by decide)
        have e42_N3_ : ze N3_ 81 42 = ze Mz 81 42 := hsN3_.e (by decide)
        have r43_N3_ := ze_r N3_ 81 43
        have qzcw_N3_ : zcw N3_ = zcw Mz := zcw_f hsN3_ (by decide)
        have c5_ : zGD N3_ := zGD.fr hsN3_ p0_ (by decide) (by decide)
        have c6_ : zTv N3_ := zTv.fr hsN3_ p4_ (by decide) (by decide)
        rcases hp1_N3_ with ⟨ha34_0_hp1_N3_, ha34_1_hp1_N3_⟩ | ⟨ha34_0_hp1_N3_, ha34_1_hp1_N3_, ha34_2_hp1_N3_, ha34_3_hp1_N3_⟩
        · skip
          show zW l m_M_operand (zn Mz + 0, zw Mz + 0) N3_ 37 [some (.ref 81), some (.int (Int32.ofInt 0)), none] [] (zpI [3, 4, 5, 6, 7, 8, 11, 38, 39, 41, 42, 43] [95, 100] Mz (fun v N => 0 ≤ ze N 81 3 ∧ ze N 81 3 ≤ ze N 81 2 ∧ zTv N ∧ (((v = 0 ∧ 1 ≤ ze N 81 7 ∧ zmu N = 0) ∨ (v = 0 ∧ ze N 81 7 = 0 ∧ zmu N < zmu Mz ∧ ze N 81 38 = zcw N ∧ 0 ≤ ze N 81 41 ∧ ze N 81 41 - zcw N ≤ ze N 81 43 ∧ ze N 81 42 = ze N 81 41 - zcw N ∧ ze N 81 38 ≤ ze N 81 43 ∧ ze N 81 43 ≤ 30) ∨ (v = 1 ∧ 1 ≤ ze N 81 7 ∧ zmu N = 0) ∨ (v = 1 ∧ ze N 81 7 = 0 ∧ zmu N < zmu Mz ∧ ze N 81 38 = zcw N + 1 ∧ 0 ≤ ze N 81 41 ∧ ze N 81 41 - zcw N ≤ ze N 81 43 ∧ ze N 81 42 = ze N 81 41 - zcw N ∧ ze N 81 38 ≤ ze N 81 43 ∧ ze N 81 43 ≤ 30)))))
          refine zw_aload_n (pc := 37) (n := 0) (x := 81) rfl d_M_operand_37 ?_
          refine zr_getF (r := 100) (hf_N3_.w hW) (pc := 38) f_M_72 rfl (zh_100 (hf_N3_.w hW)).1 d_M_operand_38 ?_
          refine zw_aload_n (pc := 41) (n := 0) (x := 81) rfl d_M_operand_41 ?_
          refine zr_getI (hf_N3_.w hW) (pc := 42) f_M_305 rfl d_M_operand_42 ?_
          refine zw_iload_n (pc := 45) (n := 1) (x := Int32.ofInt 0) rfl d_M_operand_45 ?_
          refine zr_if_eq (pc := 46) (tgt := 53) ⟨(by decide), (by decide)⟩ (by decide) d_M_operand_46 (fun hc_46 => ?_) (fun hc_46 => ?_)
          · skip
            refine zw_iconst (pc := 53) (v := Int32.ofInt 1) (by decide) d_M_operand_53 ?_
            refine zr_iast (pc := 54) (zh_100 (hf_N3_.w hW)).2 (by decide) (by decide) (by omega) (by omega) d_M_operand_54 (fun N7_ hN7_ hsN7_ => ?_)
            have hf_N7_ : zFr [3, 4, 5, 6, 7, 8, 11, 38, 39, 41, 42, 43] [95, 100] Mz N7_ := hf_N3_.tr hsN7_ (by decide) (by decide)
            have e2_N7_ : ze N7_ 81 2 = ze N3_ 81 2 := hsN7_.e (by decide)
            have e3_N7_ : ze N7_ 81 3 = ze N3_ 81 3 := hsN7_.e (by decide)
            have e5_N7_ : ze N7_ 81 5 = ze N3_ 81 5 := hsN7_.e (by decide)
            have e6_N7_ : ze N7_ 81 6 = ze N3_ 81 6 := hsN7_.e (by decide)
            have e7_N7_ : ze N7_ 81 7 = ze N3_ 81 7 := hsN7_.e (by decide)
            have e14_N7_ : ze N7_ 81 14 = ze N3_ 81 14 := hsN7_.e (by decide)
            have e26_N7_ : ze N7_ 81 26 = ze N3_ 81 26 := hsN7_.e (by decide)
            have e38_N7_ : ze N7_ 81 38 = ze N3_ 81 38 := hsN7_.e (by decide)
            have e41_N7_ : ze N7_ 81 41 = ze N3_ 81 41 := hsN7_.e (by decide)
            have e42_N7_ : ze N7_ 81 42 = ze N3_ 81 42 := hsN7_.e (by decide)
            have e43_N7_ : ze N7_ 81 43 = ze N3_ 81 43 := hsN7_.e (by decide)
            have qzmu_N7_ : zmu N7_ = zmu N3_ := zmu_f hsN7_ (by decide)
            have c8_ : zGD N7_ := zGD.fr hsN7_ c5_ (by decide) (by decide)
            have c9_ : zTv N7_ := zTv.fr hsN7_ c6_ (by decide) (by decide)
            refine zw_aload_n (pc := 55) (n := 0) (x := 81) rfl d_M_operand_55 ?_
            refine zw_dup (pc := 56) rfl d_M_operand_56 ?_
            refine zr_getI (hf_N7_.w hW) (pc := 57) f_M_305 rfl d_M_operand_57 ?_
            refine zw_iconst (pc := 60) (v := Int32.ofInt 1) (by decide) d_M_operand_60 ?_
            refine zr_iadd (pc := 61) d_M_operand_61 ?_
            refine zr_putI (hf_N7_.w hW) (pc := 62) f_M_305 rfl rfl ⟨by omega, by omega⟩ rfl rfl d_M_operand_62 (fun N10_ hsN10_ hvN10_ => ?_)
            have hf_N10_ : zFr [3, 4, 5, 6, 7, 8, 11, 38, 39, 41, 42, 43] [95, 100] Mz N10_ := hf_N7_.tr hsN10_ (by decide) (by decide)
            have e2_N10_ : ze N10_ 81 2 = ze N7_ 81 2 := hsN10_.e (by decide)
            have e3_N10_ : ze N10_ 81 3 = ze N7_ 81 3 := hsN10_.e (by decide)
            have e5_N10_ : ze N10_ 81 5 = ze N7_ 81 5 := hsN10_.e (by decide)
            have e6_N10_ : ze N10_ 81 6 = ze N7_ 81 6 := hsN10_.e (by decide)
            have e7_N10_ : ze N10_ 81 7 = ze N7_ 81 7 := hsN10_.e (by decide)
            have e14_N10_ : ze N10_ 81 14 = ze N7_ 81 14 := hsN10_.e (by decide)
            have e26_N10_ : ze N10_ 81 26 = ze N7_ 81 26 := hsN10_.e (by decide)
            have e38_N10_ : ze N10_ 81 38 = ze N7_ 81 38 := hsN10_.e (by decide)
            have r41_N10_ := ze_r N10_ 81 41
            have e42_N10_ : ze N10_ 81 42 = ze N7_ 81 42 := hsN10_.e (by decide)
            have e43_N10_ : ze N10_ 81 43 = ze N7_ 81 43 := hsN10_.e (by decide)
            have qzmu_N10_ : zmu N10_ = zmu N7_ := zmu_f hsN10_ (by decide)
            have c11_ : zGD N10_ := zGD.fr hsN10_ c8_ (by decide) (by decide)
            have c12_ : zTv N10_ := zTv.fr hsN10_ c9_ (by decide) (by decide)
            have hp_N10_ := zcw_push hN7_ hsN10_ hvN10_ (by omega) ⟨by omega, by omega⟩
            refine zw_aload_n (pc := 65) (n := 0) (x := 81) rfl d_M_operand_65 ?_
            refine zw_dup (pc := 66) rfl d_M_operand_66 ?_
            refine zr_getI (hf_N10_.w hW) (pc := 67) f_M_296 rfl d_M_operand_67 ?_
            refine zw_iconst (pc := 70) (v := Int32.ofInt 1) (by decide) d_M_operand_70 ?_
            refine zr_iadd (pc := 71) d_M_operand_71 ?_
            refine zr_putI (hf_N10_.w hW) (pc := 72) f_M_296 rfl rfl ⟨by omega, by omega⟩ rfl rfl d_M_operand_72 (fun N13_ hsN13_ hvN13_ => ?_)
            have hf_N13_ : zFr [3, 4, 5, 6, 7, 8, 11, 38, 39, 41, 42, 43] [95, 100] Mz N13_ := hf_N10_.tr hsN13_ (by decide) (by decide)
            have e2_N13_ : ze N13_ 81 2 = ze N10_ 81 2 := hsN13_.e (by decide)
            have e3_N13_ : ze N13_ 81 3 = ze N10_ 81 3 := hsN13_.e (by decide)
            have e5_N13_ : ze N13_ 81 5 = ze N10_ 81 5 := hsN13_.e (by decide)
            have e6_N13_ : ze N13_ 81 6 = ze N10_ 81 6 := hsN13_.e (by decide)
            have e7_N13_ : ze N13_ 81 7 = ze N10_ 81 7 := hsN13_.e (by decide)
            have e14_N13_ : ze N13_ 81 14 = ze N10_ 81 14 := hsN13_.e (by decide)
            have e26_N13_ : ze N13_ 81 26 = ze N10_ 81 26 := hsN13_.e (by decide)
            have e38_N13_ : ze N13_ 81 38 = ze N10_ 81 38 := hsN13_.e (by decide)
            have e41_N13_ : ze N13_ 81 41 = ze N10_ 81 41 := hsN13_.e (by decide)
            have r42_N13_ := ze_r N13_ 81 42
            have e43_N13_ : ze N13_ 81 43 = ze N10_ 81 43 := hsN13_.e (by decide)
            have qzcw_N13_ : zcw N13_ = zcw N10_ := zcw_f hsN13_ (by decide)
            have qzmu_N13_ : zmu N13_ = zmu N10_ := zmu_f hsN13_ (by decide)
            have c14_ : zGD N13_ := zGD.fr hsN13_ c11_ (by decide) (by decide)
            have c15_ : zTv N13_ := zTv.fr hsN13_ c12_ (by decide) (by decide)
            refine zw_aload_n (pc := 75) (n := 0) (x := 81) rfl d_M_operand_75 ?_
            refine zr_callV (hf_N13_.w hW) hf_N13_.x (pc := 76) [] [] l_M_183 (c_M_isGood l N13_ (hf_N13_.w hW) ) rfl rfl rfl (by decide) (Nat.le_of_ble_eq_true rfl) d_M_operand_76 ?_
            rintro _ N16_ ⟨v17_, rfl, ⟨hv17_a, hv17_b⟩, hsN16_, hp0_N16_⟩
            obtain rfl := hsN16_.eq.symm
            replace hp0_N16_ : ((v17_ = 1 ∧ ze N13_ 81 7 = 0) ∨ (v17_ = 0 ∧ ze N13_ 81 7 ≠ 0)) := hp0_N16_
            rcases hp0_N16_ with ⟨rfl, ha76_0_hp0_N16_⟩ | ⟨rfl, ha76_0_hp0_N16_⟩
            · skip
              exfalso; omega
            · skip
              show zW l m_M_operand (zn Mz + 0, zw Mz + 0) N13_ 79 [some (.ref 81), some (.int (Int32.ofInt 0)), none] [.int (Int32.ofInt 0)] (zpI [3, 4, 5, 6, 7, 8, 11, 38, 39, 41, 42, 43] [95, 100] Mz (fun v N => 0 ≤ ze N 81 3 ∧ ze N 81 3 ≤ ze N 81 2 ∧ zTv N ∧ (((v = 0 ∧ 1 ≤ ze N 81 7 ∧ zmu N = 0) ∨ (v = 0 ∧ ze N 81 7 = 0 ∧ zmu N < zmu Mz ∧ ze N 81 38 = zcw N ∧ 0 ≤ ze N 81 41 ∧ ze N 81 41 - zcw N ≤ ze N 81 43 ∧ ze N 81 42 = ze N 81 41 - zcw N ∧ ze N 81 38 ≤ ze N 81 43 ∧ ze N 81 43 ≤ 30) ∨ (v = 1 ∧ 1 ≤ ze N 81 7 ∧ zmu N = 0) ∨ (v = 1 ∧ ze N 81 7 = 0 ∧ zmu N < zmu Mz ∧ ze N 81 38 = zcw N + 1 ∧ 0 ≤ ze N 81 41 ∧ ze N 81 41 - zcw N ≤ ze N 81 43 ∧ ze N 81 42 = ze N 81 41 - zcw N ∧ ze N 81 38 ≤ ze N 81 43 ∧ ze N 81 43 ≤ 30)))))
              refine zr_if_eq (pc := 79) (tgt := 86) ⟨(by decide), (by decide)⟩ (by decide) d_M_operand_79 (fun hc_79 => ?_) (fun hc_79 => ?_)
              · skip
                refine zw_iconst (pc := 86) (v := Int32.ofInt 0) (by decide) d_M_operand_86 ?_
                have hz0 := zmu_s N13_
                exact zr_iret (pc := 87) (ty := .boolean) rfl (z_narB (by omega)) ⟨by omega, by omega⟩ hf_N13_ ⟨(show 0 ≤ ze N13_ 81 3 by first | assumption | omega), (show ze N13_ 81 3 ≤ ze N13_ 81 2 by first | assumption | omega), c15_, (show ((0 = 0 ∧ 1 ≤ ze N13_ 81 7 ∧ zmu N13_ = 0) ∨ (0 = 0 ∧ ze N13_ 81 7 = 0 ∧ zmu N13_ < zmu Mz ∧ ze N13_ 81 38 = zcw N13_ ∧ 0 ≤ ze N13_ 81 41 ∧ ze N13_ 81 41 - zcw N13_ ≤ ze N13_ 81 43 ∧ ze N13_ 81 42 = ze N13_ 81 41 - zcw N13_ ∧ ze N13_ 81 38 ≤ ze N13_ 81 43 ∧ ze N13_ 81 43 ≤ 30) ∨ (0 = 1 ∧ 1 ≤ ze N13_ 81 7 ∧ zmu N13_ = 0) ∨ (0 = 1 ∧ ze N13_ 81 7 = 0 ∧ zmu N13_ < zmu Mz ∧ ze N13_ 81 38 = zcw N13_ + 1 ∧ 0 ≤ ze N13_ 81 41 ∧ ze N13_ 81 41 - zcw N13_ ≤ ze N13_ 81 43 ∧ ze N13_ 81 42 = ze N13_ 81 41 - zcw N13_ ∧ ze N13_ 81 38 ≤ ze N13_ 81 43 ∧ ze N13_ 81 43 ≤ 30)) from Or.inl (⟨(show 0 = 0 by first | assumption | omega), (show 1 ≤ ze N13_ 81 7 by first | assumption | omega), (show zmu N13_ = 0 by first | assumption | omega)⟩))⟩ d_M_operand_87
              · skip
                exact absurd hc_79 (by decide)
          · skip
            exact absurd hc_46 (by decide)
        · skip
          show zW l m_M_operand (zn Mz + 0, zw Mz + 0) N3_ 37 [some (.ref 81), some (.int (Int32.ofInt 0)), none] [] (zpI [3, 4, 5, 6, 7, 8, 11, 38, 39, 41, 42, 43] [95, 100] Mz (fun v N => 0 ≤ ze N 81 3 ∧ ze N 81 3 ≤ ze N 81 2 ∧ zTv N ∧ (((v = 0 ∧ 1 ≤ ze N 81 7 ∧ zmu N = 0) ∨ (v = 0 ∧ ze N 81 7 = 0 ∧ zmu N < zmu Mz ∧ ze N 81 38 = zcw N ∧ 0 ≤ ze N 81 41 ∧ ze N 81 41 - zcw N ≤ ze N 81 43 ∧ ze N 81 42 = ze N 81 41 - zcw N ∧ ze N 81 38 ≤ ze N 81 43 ∧ ze N 81 43 ≤ 30) ∨ (v = 1 ∧ 1 ≤ ze N 81 7 ∧ zmu N = 0) ∨ (v = 1 ∧ ze N 81 7 = 0 ∧ zmu N < zmu Mz ∧ ze N 81 38 = zcw N + 1 ∧ 0 ≤ ze N 81 41 ∧ ze N 81 41 - zcw N ≤ ze N 81 43 ∧ ze N 81 42 = ze N 81 41 - zcw N ∧ ze N 81 38 ≤ ze N 81 43 ∧ ze N 81 43 ≤ 30)))))
          refine zw_aload_n (pc := 37) (n := 0) (x := 81) rfl d_M_operand_37 ?_
          refine zr_getF (r := 100) (hf_N3_.w hW) (pc := 38) f_M_72 rfl (zh_100 (hf_N3_.w hW)).1 d_M_operand_38 ?_
          refine zw_aload_n (pc := 41) (n := 0) (x := 81) rfl d_M_operand_41 ?_
          refine zr_getI (hf_N3_.w hW) (pc := 42) f_M_305 rfl d_M_operand_42 ?_
          refine zw_iload_n (pc := 45) (n := 1) (x := Int32.ofInt 0) rfl d_M_operand_45 ?_
          refine zr_if_eq (pc := 46) (tgt := 53) ⟨(by decide), (by decide)⟩ (by decide) d_M_operand_46 (fun hc_46 => ?_) (fun hc_46 => ?_)
          · skip
            refine zw_iconst (pc := 53) (v := Int32.ofInt 1) (by decide) d_M_operand_53 ?_
            refine zr_iast (pc := 54) (zh_100 (hf_N3_.w hW)).2 (by decide) (by decide) (by omega) (by omega) d_M_operand_54 (fun N18_ hN18_ hsN18_ => ?_)
            have hf_N18_ : zFr [3, 4, 5, 6, 7, 8, 11, 38, 39, 41, 42, 43] [95, 100] Mz N18_ := hf_N3_.tr hsN18_ (by decide) (by decide)
            have e2_N18_ : ze N18_ 81 2 = ze N3_ 81 2 := hsN18_.e (by decide)
            have e3_N18_ : ze N18_ 81 3 = ze N3_ 81 3 := hsN18_.e (by decide)
            have e5_N18_ : ze N18_ 81 5 = ze N3_ 81 5 := hsN18_.e (by decide)
            have e6_N18_ : ze N18_ 81 6 = ze N3_ 81 6 := hsN18_.e (by decide)
            have e7_N18_ : ze N18_ 81 7 = ze N3_ 81 7 := hsN18_.e (by decide)
            have e14_N18_ : ze N18_ 81 14 = ze N3_ 81 14 := hsN18_.e (by decide)
            have e26_N18_ : ze N18_ 81 26 = ze N3_ 81 26 := hsN18_.e (by decide)
            have e38_N18_ : ze N18_ 81 38 = ze N3_ 81 38 := hsN18_.e (by decide)
            have e41_N18_ : ze N18_ 81 41 = ze N3_ 81 41 := hsN18_.e (by decide)
            have e42_N18_ : ze N18_ 81 42 = ze N3_ 81 42 := hsN18_.e (by decide)
            have e43_N18_ : ze N18_ 81 43 = ze N3_ 81 43 := hsN18_.e (by decide)
            have qzmu_N18_ : zmu N18_ = zmu N3_ := zmu_f hsN18_ (by decide)
            have c19_ : zGD N18_ := zGD.fr hsN18_ c5_ (by decide) (by decide)
            have c20_ : zTv N18_ := zTv.fr hsN18_ c6_ (by decide) (by decide)
            refine zw_aload_n (pc := 55) (n := 0) (x := 81) rfl d_M_operand_55 ?_
            refine zw_dup (pc := 56) rfl d_M_operand_56 ?_
            refine zr_getI (hf_N18_.w hW) (pc := 57) f_M_305 rfl d_M_operand_57 ?_
            refine zw_iconst (pc := 60) (v := Int32.ofInt 1) (by decide) d_M_operand_60 ?_
            refine zr_iadd (pc := 61) d_M_operand_61 ?_
            refine zr_putI (hf_N18_.w hW) (pc := 62) f_M_305 rfl rfl ⟨by omega, by omega⟩ rfl rfl d_M_operand_62 (fun N21_ hsN21_ hvN21_ => ?_)
            have hf_N21_ : zFr [3, 4, 5, 6, 7, 8, 11, 38, 39, 41, 42, 43] [95, 100] Mz N21_ := hf_N18_.tr hsN21_ (by decide) (by decide)
            have e2_N21_ : ze N21_ 81 2 = ze N18_ 81 2 := hsN21_.e (by decide)
            have e3_N21_ : ze N21_ 81 3 = ze N18_ 81 3 := hsN21_.e (by decide)
            have e5_N21_ : ze N21_ 81 5 = ze N18_ 81 5 := hsN21_.e (by decide)
            have e6_N21_ : ze N21_ 81 6 = ze N18_ 81 6 := hsN21_.e (by decide)
            have e7_N21_ : ze N21_ 81 7 = ze N18_ 81 7 := hsN21_.e (by decide)
            have e14_N21_ : ze N21_ 81 14 = ze N18_ 81 14 := hsN21_.e (by decide)
            have e26_N21_ : ze N21_ 81 26 = ze N18_ 81 26 := hsN21_.e (by decide)
            have e38_N21_ : ze N21_ 81 38 = ze N18_ 81 38 := hsN21_.e (by decide)
            have r41_N21_ := ze_r N21_ 81 41
            have e42_N21_ : ze N21_ 81 42 = ze N18_ 81 42 := hsN21_.e (by decide)
            have e43_N21_ : ze N21_ 81 43 = ze N18_ 81 43 := hsN21_.e (by decide)
            have qzmu_N21_ : zmu N21_ = zmu N18_ := zmu_f hsN21_ (by decide)
            have c22_ : zGD N21_ := zGD.fr hsN21_ c19_ (by decide) (by decide)
            have c23_ : zTv N21_ := zTv.fr hsN21_ c20_ (by decide) (by decide)
            have hp_N21_ := zcw_push hN18_ hsN21_ hvN21_ (by omega) ⟨by omega, by omega⟩
            refine zw_aload_n (pc := 65) (n := 0) (x := 81) rfl d_M_operand_65 ?_
            refine zw_dup (pc := 66) rfl d_M_operand_66 ?_
            refine zr_getI (hf_N21_.w hW) (pc := 67) f_M_296 rfl d_M_operand_67 ?_
            refine zw_iconst (pc := 70) (v := Int32.ofInt 1) (by decide) d_M_operand_70 ?_
            refine zr_iadd (pc := 71) d_M_operand_71 ?_
            refine zr_putI (hf_N21_.w hW) (pc := 72) f_M_296 rfl rfl ⟨by omega, by omega⟩ rfl rfl d_M_operand_72 (fun N24_ hsN24_ hvN24_ => ?_)
            have hf_N24_ : zFr [3, 4, 5, 6, 7, 8, 11, 38, 39, 41, 42, 43] [95, 100] Mz N24_ := hf_N21_.tr hsN24_ (by decide) (by decide)
            have e2_N24_ : ze N24_ 81 2 = ze N21_ 81 2 := hsN24_.e (by decide)
            have e3_N24_ : ze N24_ 81 3 = ze N21_ 81 3 := hsN24_.e (by decide)
            have e5_N24_ : ze N24_ 81 5 = ze N21_ 81 5 := hsN24_.e (by decide)
            have e6_N24_ : ze N24_ 81 6 = ze N21_ 81 6 := hsN24_.e (by decide)
            have e7_N24_ : ze N24_ 81 7 = ze N21_ 81 7 := hsN24_.e (by decide)
            have e14_N24_ : ze N24_ 81 14 = ze N21_ 81 14 := hsN24_.e (by decide)
            have e26_N24_ : ze N24_ 81 26 = ze N21_ 81 26 := hsN24_.e (by decide)
            have e38_N24_ : ze N24_ 81 38 = ze N21_ 81 38 := hsN24_.e (by decide)
            have e41_N24_ : ze N24_ 81 41 = ze N21_ 81 41 := hsN24_.e (by decide)
            have r42_N24_ := ze_r N24_ 81 42
            have e43_N24_ : ze N24_ 81 43 = ze N21_ 81 43 := hsN24_.e (by decide)
            have qzcw_N24_ : zcw N24_ = zcw N21_ := zcw_f hsN24_ (by decide)
            have qzmu_N24_ : zmu N24_ = zmu N21_ := zmu_f hsN24_ (by decide)
            have c25_ : zGD N24_ := zGD.fr hsN24_ c22_ (by decide) (by decide)
            have c26_ : zTv N24_ := zTv.fr hsN24_ c23_ (by decide) (by decide)
            refine zw_aload_n (pc := 75) (n := 0) (x := 81) rfl d_M_operand_75 ?_
            refine zr_callV (hf_N24_.w hW) hf_N24_.x (pc := 76) [] [] l_M_183 (c_M_isGood l N24_ (hf_N24_.w hW) ) rfl rfl rfl (by decide) (Nat.le_of_ble_eq_true rfl) d_M_operand_76 ?_
            rintro _ N27_ ⟨v28_, rfl, ⟨hv28_a, hv28_b⟩, hsN27_, hp0_N27_⟩
            obtain rfl := hsN27_.eq.symm
            replace hp0_N27_ : ((v28_ = 1 ∧ ze N24_ 81 7 = 0) ∨ (v28_ = 0 ∧ ze N24_ 81 7 ≠ 0)) := hp0_N27_
            rcases hp0_N27_ with ⟨rfl, ha76_0_hp0_N27_⟩ | ⟨rfl, ha76_0_hp0_N27_⟩
            · skip
              show zW l m_M_operand (zn Mz + 0, zw Mz + 0) N24_ 79 [some (.ref 81), some (.int (Int32.ofInt 0)), none] [.int (Int32.ofInt 1)] (zpI [3, 4, 5, 6, 7, 8, 11, 38, 39, 41, 42, 43] [95, 100] Mz (fun v N => 0 ≤ ze N 81 3 ∧ ze N 81 3 ≤ ze N 81 2 ∧ zTv N ∧ (((v = 0 ∧ 1 ≤ ze N 81 7 ∧ zmu N = 0) ∨ (v = 0 ∧ ze N 81 7 = 0 ∧ zmu N < zmu Mz ∧ ze N 81 38 = zcw N ∧ 0 ≤ ze N 81 41 ∧ ze N 81 41 - zcw N ≤ ze N 81 43 ∧ ze N 81 42 = ze N 81 41 - zcw N ∧ ze N 81 38 ≤ ze N 81 43 ∧ ze N 81 43 ≤ 30) ∨ (v = 1 ∧ 1 ≤ ze N 81 7 ∧ zmu N = 0) ∨ (v = 1 ∧ ze N 81 7 = 0 ∧ zmu N < zmu Mz ∧ ze N 81 38 = zcw N + 1 ∧ 0 ≤ ze N 81 41 ∧ ze N 81 41 - zcw N ≤ ze N 81 43 ∧ ze N 81 42 = ze N 81 41 - zcw N ∧ ze N 81 38 ≤ ze N 81 43 ∧ ze N 81 43 ≤ 30)))))
              refine zr_if_eq (pc := 79) (tgt := 86) ⟨(by decide), (by decide)⟩ (by decide) d_M_operand_79 (fun hc_79 => ?_) (fun hc_79 => ?_)
              · skip
                exact absurd hc_79 (by decide)
              · skip
                refine zw_aload_n (pc := 82) (n := 0) (x := 81) rfl d_M_operand_82 ?_
                refine zr_callV (hf_N24_.w hW) hf_N24_.x (pc := 83) [] [] l_M_193 (c_M_goOn l N24_ (hf_N24_.w hW) (show 0 ≤ ze N24_ 81 3 by first | assumption | omega) (show ze N24_ 81 3 ≤ ze N24_ 81 2 by first | assumption | omega) (show ze N24_ 81 2 ≤ 700 by first | assumption | omega) (show ze N24_ 81 5 ≠ 0 by first | assumption | omega) (show ze N24_ 81 7 = 0 by first | assumption | omega)) rfl rfl rfl (by decide) (Nat.le_of_ble_eq_true rfl) d_M_operand_83 ?_
                rintro _ N29_ ⟨rfl, hsN29_, ⟨hp0_N29_, hp1_N29_, hp2_N29_, hp3_N29_, hp4_N29_⟩⟩
                have hf_N29_ : zFr [3, 4, 5, 6, 7, 8, 11, 38, 39, 41, 42, 43] [95, 100] Mz N29_ := hf_N24_.tr hsN29_ (by decide) (by decide)
                have e2_N29_ : ze N29_ 81 2 = ze N24_ 81 2 := hsN29_.e (by decide)
                have r3_N29_ := ze_r N29_ 81 3
                have r5_N29_ := ze_r N29_ 81 5
                have r6_N29_ := ze_r N29_ 81 6
                have e7_N29_ : ze N29_ 81 7 = ze N24_ 81 7 := hsN29_.e (by decide)
                have e14_N29_ : ze N29_ 81 14 = ze N24_ 81 14 := hsN29_.e (by decide)
                have e26_N29_ : ze N29_ 81 26 = ze N24_ 81 26 := hsN29_.e (by decide)
                have e38_N29_ : ze N29_ 81 38 = ze N24_ 81 38 := hsN29_.e (by decide)
                have e41_N29_ : ze N29_ 81 41 = ze N24_ 81 41 := hsN29_.e (by decide)
                have e42_N29_ : ze N29_ 81 42 = ze N24_ 81 42 := hsN29_.e (by decide)
                have e43_N29_ : ze N29_ 81 43 = ze N24_ 81 43 := hsN29_.e (by decide)
                have qzcw_N29_ : zcw N29_ = zcw N24_ := zcw_f hsN29_ (by decide)
                have c31_ : zGD N29_ := zGD.fr hsN29_ c25_ (by decide) (by decide)
                show zW l m_M_operand (zn Mz + 0, zw Mz + 0) N29_ 86 [some (.ref 81), some (.int (Int32.ofInt 0)), none] [] (zpI [3, 4, 5, 6, 7, 8, 11, 38, 39, 41, 42, 43] [95, 100] Mz (fun v N => 0 ≤ ze N 81 3 ∧ ze N 81 3 ≤ ze N 81 2 ∧ zTv N ∧ (((v = 0 ∧ 1 ≤ ze N 81 7 ∧ zmu N = 0) ∨ (v = 0 ∧ ze N 81 7 = 0 ∧ zmu N < zmu Mz ∧ ze N 81 38 = zcw N ∧ 0 ≤ ze N 81 41 ∧ ze N 81 41 - zcw N ≤ ze N 81 43 ∧ ze N 81 42 = ze N 81 41 - zcw N ∧ ze N 81 38 ≤ ze N 81 43 ∧ ze N 81 43 ≤ 30) ∨ (v = 1 ∧ 1 ≤ ze N 81 7 ∧ zmu N = 0) ∨ (v = 1 ∧ ze N 81 7 = 0 ∧ zmu N < zmu Mz ∧ ze N 81 38 = zcw N + 1 ∧ 0 ≤ ze N 81 41 ∧ ze N 81 41 - zcw N ≤ ze N 81 43 ∧ ze N 81 42 = ze N 81 41 - zcw N ∧ ze N 81 38 ≤ ze N 81 43 ∧ ze N 81 43 ≤ 30)))))
                refine zw_iconst (pc := 86) (v := Int32.ofInt 0) (by decide) d_M_operand_86 ?_
                have hz0 := zmu_s N29_
                exact zr_iret (pc := 87) (ty := .boolean) rfl (z_narB (by omega)) ⟨by omega, by omega⟩ hf_N29_ ⟨(show 0 ≤ ze N29_ 81 3 by first | assumption | omega), (show ze N29_ 81 3 ≤ ze N29_ 81 2 by first | assumption | omega), hp2_N29_, (show ((0 = 0 ∧ 1 ≤ ze N29_ 81 7 ∧ zmu N29_ = 0) ∨ (0 = 0 ∧ ze N29_ 81 7 = 0 ∧ zmu N29_ < zmu Mz ∧ ze N29_ 81 38 = zcw N29_ ∧ 0 ≤ ze N29_ 81 41 ∧ ze N29_ 81 41 - zcw N29_ ≤ ze N29_ 81 43 ∧ ze N29_ 81 42 = ze N29_ 81 41 - zcw N29_ ∧ ze N29_ 81 38 ≤ ze N29_ 81 43 ∧ ze N29_ 81 43 ≤ 30) ∨ (0 = 1 ∧ 1 ≤ ze N29_ 81 7 ∧ zmu N29_ = 0) ∨ (0 = 1 ∧ ze N29_ 81 7 = 0 ∧ zmu N29_ < zmu Mz ∧ ze N29_ 81 38 = zcw N29_ + 1 ∧ 0 ≤ ze N29_ 81 41 ∧ ze N29_ 81 41 - zcw N29_ ≤ ze N29_ 81 43 ∧ ze N29_ 81 42 = ze N29_ 81 41 - zcw N29_ ∧ ze N29_ 81 38 ≤ ze N29_ 81 43 ∧ ze N29_ 81 43 ≤ 30)) from Or.inr (Or.inl (⟨(show 0 = 0 by first | assumption | omega), (show ze N29_ 81 7 = 0 by first | assumption | omega), (show zmu N29_ < zmu Mz by first | assumption | omega), (show ze N29_ 81 38 = zcw N29_ by first | assumption | omega), (show 0 ≤ ze N29_ 81 41 by first | assumption | omega), (show ze N29_ 81 41 - zcw N29_ ≤ ze N29_ 81 43 by first | assumption | omega), (show ze N29_ 81 42 = ze N29_ 81 41 - zcw N29_ by first | assumption | omega), (show ze N29_ 81 38 ≤ ze N29_ 81 43 by first | assumption | omega), (show ze N29_ 81 43 ≤ 30 by first | assumption | omega)⟩)))⟩ d_M_operand_87
            · skip
              exfalso; omega
          · skip
            exact absurd hc_46 (by decide)
      · skip
        refine zw_iconst (pc := 27) (v := Int32.ofInt 1) (by decide) d_M_operand_27 ?_
        refine zw_goto (pc := 28) (tgt := 32) (by decide) d_M_operand_28 ?_
        refine zw_istore_n (pc := 32) (i := 1) (L2 := [some (.ref 81), some (.int (Int32.ofInt 1)), none]) rfl (by decide) rfl d_M_operand_32 ?_
        refine zw_aload_n (pc := 33) (n := 0) (x := 81) rfl d_M_operand_33 ?_
        refine zr_callV (hf.w hW) hf.x (pc := 34) [] [] l_M_302 (c_M_countsUnit l Mz (hf.w hW) (show 0 ≤ ze Mz 81 7 by first | assumption | omega) (show 0 ≤ ze Mz 81 43 by first | assumption | omega) (show ze Mz 81 43 ≤ 1000 by first | assumption | omega)) rfl rfl rfl (by decide) (Nat.le_of_ble_eq_true rfl) d_M_operand_34 ?_
        rintro _ N32_ ⟨rfl, hsN32_, ⟨hp0_N32_, hp1_N32_⟩⟩
        have hf_N32_ : zFr [3, 4, 5, 6, 7, 8, 11, 38, 39, 41, 42, 43] [95, 100] Mz N32_ := hf.tr hsN32_ (by decide) (by decide)
        have e2_N32_ : ze N32_ 81 2 = ze Mz 81 2 := hsN32_.e (by decide)
        have e3_N32_ : ze N32_ 81 3 = ze Mz 81 3 := hsN32_.e (by decide)
        have e5_N32_ : ze N32_ 81 5 = ze Mz 81 5 := hsN32_.e (by decide)
        have e6_N32_ : ze N32_ 81 6 = ze Mz 81 6 := hsN32_.e (by decide)
        have r7_N32_ := ze_r N32_ 81 7
        have e14_N32_ : ze N32_ 81 14 = ze Mz 81 14 := hsN32_.e (by decide)
        have e26_N32_ : ze N32_ 81 26 = ze Mz 81 26 := hsN32_.e (by decide)
        have e38_N32_ : ze N32_ 81 38 = ze Mz 81 38 := hsN32_.e (by decide)
        have e41_N32_ : ze N32_ 81 41 = ze Mz 81 41 := hsN32_.e (by decide)
        have e42_N32_ : ze N32_ 81 42 = ze Mz 81 42 := hsN32_.e (by decide)
        have r43_N32_ := ze_r N32_ 81 43
        have qzcw_N32_ : zcw N32_ = zcw Mz := zcw_f hsN32_ (by decide)
        have c34_ : zGD N32_ := zGD.fr hsN32_ p0_ (by decide) (by decide)
        have c35_ : zTv N32_ := zTv.fr hsN32_ p4_ (by decide) (by decide)
        rcases hp1_N32_ with ⟨ha34_0_hp1_N32_, ha34_1_hp1_N32_⟩ | ⟨ha34_0_hp1_N32_, ha34_1_hp1_N32_, ha34_2_hp1_N32_, ha34_3_hp1_N32_⟩
        · skip
          show zW l m_M_operand (zn Mz + 0, zw Mz + 0) N32_ 37 [some (.ref 81), some (.int (Int32.ofInt 1)), none] [] (zpI [3, 4, 5, 6, 7, 8, 11, 38, 39, 41, 42, 43] [95, 100] Mz (fun v N => 0 ≤ ze N 81 3 ∧ ze N 81 3 ≤ ze N 81 2 ∧ zTv N ∧ (((v = 0 ∧ 1 ≤ ze N 81 7 ∧ zmu N = 0) ∨ (v = 0 ∧ ze N 81 7 = 0 ∧ zmu N < zmu Mz ∧ ze N 81 38 = zcw N ∧ 0 ≤ ze N 81 41 ∧ ze N 81 41 - zcw N ≤ ze N 81 43 ∧ ze N 81 42 = ze N 81 41 - zcw N ∧ ze N 81 38 ≤ ze N 81 43 ∧ ze N 81 43 ≤ 30) ∨ (v = 1 ∧ 1 ≤ ze N 81 7 ∧ zmu N = 0) ∨ (v = 1 ∧ ze N 81 7 = 0 ∧ zmu N < zmu Mz ∧ ze N 81 38 = zcw N + 1 ∧ 0 ≤ ze N 81 41 ∧ ze N 81 41 - zcw N ≤ ze N 81 43 ∧ ze N 81 42 = ze N 81 41 - zcw N ∧ ze N 81 38 ≤ ze N 81 43 ∧ ze N 81 43 ≤ 30)))))
          refine zw_aload_n (pc := 37) (n := 0) (x := 81) rfl d_M_operand_37 ?_
          refine zr_getF (r := 100) (hf_N32_.w hW) (pc := 38) f_M_72 rfl (zh_100 (hf_N32_.w hW)).1 d_M_operand_38 ?_
          refine zw_aload_n (pc := 41) (n := 0) (x := 81) rfl d_M_operand_41 ?_
          refine zr_getI (hf_N32_.w hW) (pc := 42) f_M_305 rfl d_M_operand_42 ?_
          refine zw_iload_n (pc := 45) (n := 1) (x := Int32.ofInt 1) rfl d_M_operand_45 ?_
          refine zr_if_eq (pc := 46) (tgt := 53) ⟨(by decide), (by decide)⟩ (by decide) d_M_operand_46 (fun hc_46 => ?_) (fun hc_46 => ?_)
          · skip
            exact absurd hc_46 (by decide)
          · skip
            refine zw_iconst (pc := 49) (v := Int32.ofInt 0) (by decide) d_M_operand_49 ?_
            refine zw_goto (pc := 50) (tgt := 54) (by decide) d_M_operand_50 ?_
            refine zr_iast (pc := 54) (zh_100 (hf_N32_.w hW)).2 (by decide) (by decide) (by omega) (by omega) d_M_operand_54 (fun N36_ hN36_ hsN36_ => ?_)
            have hf_N36_ : zFr [3, 4, 5, 6, 7, 8, 11, 38, 39, 41, 42, 43] [95, 100] Mz N36_ := hf_N32_.tr hsN36_ (by decide) (by decide)
            have e2_N36_ : ze N36_ 81 2 = ze N32_ 81 2 := hsN36_.e (by decide)
            have e3_N36_ : ze N36_ 81 3 = ze N32_ 81 3 := hsN36_.e (by decide)
            have e5_N36_ : ze N36_ 81 5 = ze N32_ 81 5 := hsN36_.e (by decide)
            have e6_N36_ : ze N36_ 81 6 = ze N32_ 81 6 := hsN36_.e (by decide)
            have e7_N36_ : ze N36_ 81 7 = ze N32_ 81 7 := hsN36_.e (by decide)
            have e14_N36_ : ze N36_ 81 14 = ze N32_ 81 14 := hsN36_.e (by decide)
            have e26_N36_ : ze N36_ 81 26 = ze N32_ 81 26 := hsN36_.e (by decide)
            have e38_N36_ : ze N36_ 81 38 = ze N32_ 81 38 := hsN36_.e (by decide)
            have e41_N36_ : ze N36_ 81 41 = ze N32_ 81 41 := hsN36_.e (by decide)
            have e42_N36_ : ze N36_ 81 42 = ze N32_ 81 42 := hsN36_.e (by decide)
            have e43_N36_ : ze N36_ 81 43 = ze N32_ 81 43 := hsN36_.e (by decide)
            have qzmu_N36_ : zmu N36_ = zmu N32_ := zmu_f hsN36_ (by decide)
            have c37_ : zGD N36_ := zGD.fr hsN36_ c34_ (by decide) (by decide)
            have c38_ : zTv N36_ := zTv.fr hsN36_ c35_ (by decide) (by decide)
            refine zw_aload_n (pc := 55) (n := 0) (x := 81) rfl d_M_operand_55 ?_
            refine zw_dup (pc := 56) rfl d_M_operand_56 ?_
            refine zr_getI (hf_N36_.w hW) (pc := 57) f_M_305 rfl d_M_operand_57 ?_
            refine zw_iconst (pc := 60) (v := Int32.ofInt 1) (by decide) d_M_operand_60 ?_
            refine zr_iadd (pc := 61) d_M_operand_61 ?_
            refine zr_putI (hf_N36_.w hW) (pc := 62) f_M_305 rfl rfl ⟨by omega, by omega⟩ rfl rfl d_M_operand_62 (fun N39_ hsN39_ hvN39_ => ?_)
            have hf_N39_ : zFr [3, 4, 5, 6, 7, 8, 11, 38, 39, 41, 42, 43] [95, 100] Mz N39_ := hf_N36_.tr hsN39_ (by decide) (by decide)
            have e2_N39_ : ze N39_ 81 2 = ze N36_ 81 2 := hsN39_.e (by decide)
            have e3_N39_ : ze N39_ 81 3 = ze N36_ 81 3 := hsN39_.e (by decide)
            have e5_N39_ : ze N39_ 81 5 = ze N36_ 81 5 := hsN39_.e (by decide)
            have e6_N39_ : ze N39_ 81 6 = ze N36_ 81 6 := hsN39_.e (by decide)
            have e7_N39_ : ze N39_ 81 7 = ze N36_ 81 7 := hsN39_.e (by decide)
            have e14_N39_ : ze N39_ 81 14 = ze N36_ 81 14 := hsN39_.e (by decide)
            have e26_N39_ : ze N39_ 81 26 = ze N36_ 81 26 := hsN39_.e (by decide)
            have e38_N39_ : ze N39_ 81 38 = ze N36_ 81 38 := hsN39_.e (by decide)
            have r41_N39_ := ze_r N39_ 81 41
            have e42_N39_ : ze N39_ 81 42 = ze N36_ 81 42 := hsN39_.e (by decide)
            have e43_N39_ : ze N39_ 81 43 = ze N36_ 81 43 := hsN39_.e (by decide)
            have qzmu_N39_ : zmu N39_ = zmu N36_ := zmu_f hsN39_ (by decide)
            have c40_ : zGD N39_ := zGD.fr hsN39_ c37_ (by decide) (by decide)
            have c41_ : zTv N39_ := zTv.fr hsN39_ c38_ (by decide) (by decide)
            have hp_N39_ := zcw_push hN36_ hsN39_ hvN39_ (by omega) ⟨by omega, by omega⟩
            refine zw_aload_n (pc := 65) (n := 0) (x := 81) rfl d_M_operand_65 ?_
            refine zw_dup (pc := 66) rfl d_M_operand_66 ?_
            refine zr_getI (hf_N39_.w hW) (pc := 67) f_M_296 rfl d_M_operand_67 ?_
            refine zw_iconst (pc := 70) (v := Int32.ofInt 1) (by decide) d_M_operand_70 ?_
            refine zr_iadd (pc := 71) d_M_operand_71 ?_
            refine zr_putI (hf_N39_.w hW) (pc := 72) f_M_296 rfl rfl ⟨by omega, by omega⟩ rfl rfl d_M_operand_72 (fun N42_ hsN42_ hvN42_ => ?_)
            have hf_N42_ : zFr [3, 4, 5, 6, 7, 8, 11, 38, 39, 41, 42, 43] [95, 100] Mz N42_ := hf_N39_.tr hsN42_ (by decide) (by decide)
            have e2_N42_ : ze N42_ 81 2 = ze N39_ 81 2 := hsN42_.e (by decide)
            have e3_N42_ : ze N42_ 81 3 = ze N39_ 81 3 := hsN42_.e (by decide)
            have e5_N42_ : ze N42_ 81 5 = ze N39_ 81 5 := hsN42_.e (by decide)
            have e6_N42_ : ze N42_ 81 6 = ze N39_ 81 6 := hsN42_.e (by decide)
            have e7_N42_ : ze N42_ 81 7 = ze N39_ 81 7 := hsN42_.e (by decide)
            have e14_N42_ : ze N42_ 81 14 = ze N39_ 81 14 := hsN42_.e (by decide)
            have e26_N42_ : ze N42_ 81 26 = ze N39_ 81 26 := hsN42_.e (by decide)
            have e38_N42_ : ze N42_ 81 38 = ze N39_ 81 38 := hsN42_.e (by decide)
            have e41_N42_ : ze N42_ 81 41 = ze N39_ 81 41 := hsN42_.e (by decide)
            have r42_N42_ := ze_r N42_ 81 42
            have e43_N42_ : ze N42_ 81 43 = ze N39_ 81 43 := hsN42_.e (by decide)
            have qzcw_N42_ : zcw N42_ = zcw N39_ := zcw_f hsN42_ (by decide)
            have qzmu_N42_ : zmu N42_ = zmu N39_ := zmu_f hsN42_ (by decide)
            have c43_ : zGD N42_ := zGD.fr hsN42_ c40_ (by decide) (by decide)
            have c44_ : zTv N42_ := zTv.fr hsN42_ c41_ (by decide) (by decide)
            refine zw_aload_n (pc := 75) (n := 0) (x := 81) rfl d_M_operand_75 ?_
            refine zr_callV (hf_N42_.w hW) hf_N42_.x (pc := 76) [] [] l_M_183 (c_M_isGood l N42_ (hf_N42_.w hW) ) rfl rfl rfl (by decide) (Nat.le_of_ble_eq_true rfl) d_M_operand_76 ?_
            rintro _ N45_ ⟨v46_, rfl, ⟨hv46_a, hv46_b⟩, hsN45_, hp0_N45_⟩
            obtain rfl := hsN45_.eq.symm
            replace hp0_N45_ : ((v46_ = 1 ∧ ze N42_ 81 7 = 0) ∨ (v46_ = 0 ∧ ze N42_ 81 7 ≠ 0)) := hp0_N45_
            rcases hp0_N45_ with ⟨rfl, ha76_0_hp0_N45_⟩ | ⟨rfl, ha76_0_hp0_N45_⟩
            · skip
              exfalso; omega
            · skip
              show zW l m_M_operand (zn Mz + 0, zw Mz + 0) N42_ 79 [some (.ref 81), some (.int (Int32.ofInt 1)), none] [.int (Int32.ofInt 0)] (zpI [3, 4, 5, 6, 7, 8, 11, 38, 39, 41, 42, 43] [95, 100] Mz (fun v N => 0 ≤ ze N 81 3 ∧ ze N 81 3 ≤ ze N 81 2 ∧ zTv N ∧ (((v = 0 ∧ 1 ≤ ze N 81 7 ∧ zmu N = 0) ∨ (v = 0 ∧ ze N 81 7 = 0 ∧ zmu N < zmu Mz ∧ ze N 81 38 = zcw N ∧ 0 ≤ ze N 81 41 ∧ ze N 81 41 - zcw N ≤ ze N 81 43 ∧ ze N 81 42 = ze N 81 41 - zcw N ∧ ze N 81 38 ≤ ze N 81 43 ∧ ze N 81 43 ≤ 30) ∨ (v = 1 ∧ 1 ≤ ze N 81 7 ∧ zmu N = 0) ∨ (v = 1 ∧ ze N 81 7 = 0 ∧ zmu N < zmu Mz ∧ ze N 81 38 = zcw N + 1 ∧ 0 ≤ ze N 81 41 ∧ ze N 81 41 - zcw N ≤ ze N 81 43 ∧ ze N 81 42 = ze N 81 41 - zcw N ∧ ze N 81 38 ≤ ze N 81 43 ∧ ze N 81 43 ≤ 30)))))
              refine zr_if_eq (pc := 79) (tgt := 86) ⟨(by decide), (by decide)⟩ (by decide) d_M_operand_79 (fun hc_79 => ?_) (fun hc_79 => ?_)
              · skip
                refine zw_iconst (pc := 86) (v := Int32.ofInt 0) (by decide) d_M_operand_86 ?_
                have hz0 := zmu_s N42_
                exact zr_iret (pc := 87) (ty := .boolean) rfl (z_narB (by omega)) ⟨by omega, by omega⟩ hf_N42_ ⟨(show 0 ≤ ze N42_ 81 3 by first | assumption | omega), (show ze N42_ 81 3 ≤ ze N42_ 81 2 by first | assumption | omega), c44_, (show ((0 = 0 ∧ 1 ≤ ze N42_ 81 7 ∧ zmu N42_ = 0) ∨ (0 = 0 ∧ ze N42_ 81 7 = 0 ∧ zmu N42_ < zmu Mz ∧ ze N42_ 81 38 = zcw N42_ ∧ 0 ≤ ze N42_ 81 41 ∧ ze N42_ 81 41 - zcw N42_ ≤ ze N42_ 81 43 ∧ ze N42_ 81 42 = ze N42_ 81 41 - zcw N42_ ∧ ze N42_ 81 38 ≤ ze N42_ 81 43 ∧ ze N42_ 81 43 ≤ 30) ∨ (0 = 1 ∧ 1 ≤ ze N42_ 81 7 ∧ zmu N42_ = 0) ∨ (0 = 1 ∧ ze N42_ 81 7 = 0 ∧ zmu N42_ < zmu Mz ∧ ze N42_ 81 38 = zcw N42_ + 1 ∧ 0 ≤ ze N42_ 81 41 ∧ ze N42_ 81 41 - zcw N42_ ≤ ze N42_ 81 43 ∧ ze N42_ 81 42 = ze N42_ 81 41 - zcw N42_ ∧ ze N42_ 81 38 ≤ ze N42_ 81 43 ∧ ze N42_ 81 43 ≤ 30)) from Or.inl (⟨(show 0 = 0 by first | assumption | omega), (show 1 ≤ ze N42_ 81 7 by first | assumption | omega), (show zmu N42_ = 0 by first | assumption | omega)⟩))⟩ d_M_operand_87
              · skip
                exact absurd hc_79 (by decide)
        · skip
          show zW l m_M_operand (zn Mz + 0, zw Mz + 0) N32_ 37 [some (.ref 81), some (.int (Int32.ofInt 1)), none] [] (zpI [3, 4, 5, 6, 7, 8, 11, 38, 39, 41, 42, 43] [95, 100] Mz (fun v N => 0 ≤ ze N 81 3 ∧ ze N 81 3 ≤ ze N 81 2 ∧ zTv N ∧ (((v = 0 ∧ 1 ≤ ze N 81 7 ∧ zmu N = 0) ∨ (v = 0 ∧ ze N 81 7 = 0 ∧ zmu N < zmu Mz ∧ ze N 81 38 = zcw N ∧ 0 ≤ ze N 81 41 ∧ ze N 81 41 - zcw N ≤ ze N 81 43 ∧ ze N 81 42 = ze N 81 41 - zcw N ∧ ze N 81 38 ≤ ze N 81 43 ∧ ze N 81 43 ≤ 30) ∨ (v = 1 ∧ 1 ≤ ze N 81 7 ∧ zmu N = 0) ∨ (v = 1 ∧ ze N 81 7 = 0 ∧ zmu N < zmu Mz ∧ ze N 81 38 = zcw N + 1 ∧ 0 ≤ ze N 81 41 ∧ ze N 81 41 - zcw N ≤ ze N 81 43 ∧ ze N 81 42 = ze N 81 41 - zcw N ∧ ze N 81 38 ≤ ze N 81 43 ∧ ze N 81 43 ≤ 30)))))
          refine zw_aload_n (pc := 37) (n := 0) (x := 81) rfl d_M_operand_37 ?_
          refine zr_getF (r := 100) (hf_N32_.w hW) (pc := 38) f_M_72 rfl (zh_100 (hf_N32_.w hW)).1 d_M_operand_38 ?_
          refine zw_aload_n (pc := 41) (n := 0) (x := 81) rfl d_M_operand_41 ?_
          refine zr_getI (hf_N32_.w hW) (pc := 42) f_M_305 rfl d_M_operand_42 ?_
          refine zw_iload_n (pc := 45) (n := 1) (x := Int32.ofInt 1) rfl d_M_operand_45 ?_
          refine zr_if_eq (pc := 46) (tgt := 53) ⟨(by decide), (by decide)⟩ (by decide) d_M_operand_46 (fun hc_46 => ?_) (fun hc_46 => ?_)
          · skip
            exact absurd hc_46 (by decide)
          · skip
            refine zw_iconst (pc := 49) (v := Int32.ofInt 0) (by decide) d_M_operand_49 ?_
            refine zw_goto (pc := 50) (tgt := 54) (by decide) d_M_operand_50 ?_
            refine zr_iast (pc := 54) (zh_100 (hf_N32_.w hW)).2 (by decide) (by decide) (by omega) (by omega) d_M_operand_54 (fun N47_ hN47_ hsN47_ => ?_)
            have hf_N47_ : zFr [3, 4, 5, 6, 7, 8, 11, 38, 39, 41, 42, 43] [95, 100] Mz N47_ := hf_N32_.tr hsN47_ (by decide) (by decide)
            have e2_N47_ : ze N47_ 81 2 = ze N32_ 81 2 := hsN47_.e (by decide)
            have e3_N47_ : ze N47_ 81 3 = ze N32_ 81 3 := hsN47_.e (by decide)
            have e5_N47_ : ze N47_ 81 5 = ze N32_ 81 5 := hsN47_.e (by decide)
            have e6_N47_ : ze N47_ 81 6 = ze N32_ 81 6 := hsN47_.e (by decide)
            have e7_N47_ : ze N47_ 81 7 = ze N32_ 81 7 := hsN47_.e (by decide)
            have e14_N47_ : ze N47_ 81 14 = ze N32_ 81 14 := hsN47_.e (by decide)
            have e26_N47_ : ze N47_ 81 26 = ze N32_ 81 26 := hsN47_.e (by decide)
            have e38_N47_ : ze N47_ 81 38 = ze N32_ 81 38 := hsN47_.e (by decide)
            have e41_N47_ : ze N47_ 81 41 = ze N32_ 81 41 := hsN47_.e (by decide)
            have e42_N47_ : ze N47_ 81 42 = ze N32_ 81 42 := hsN47_.e (by decide)
            have e43_N47_ : ze N47_ 81 43 = ze N32_ 81 43 := hsN47_.e (by decide)
            have qzmu_N47_ : zmu N47_ = zmu N32_ := zmu_f hsN47_ (by decide)
            have c48_ : zGD N47_ := zGD.fr hsN47_ c34_ (by decide) (by decide)
            have c49_ : zTv N47_ := zTv.fr hsN47_ c35_ (by decide) (by decide)
            refine zw_aload_n (pc := 55) (n := 0) (x := 81) rfl d_M_operand_55 ?_
            refine zw_dup (pc := 56) rfl d_M_operand_56 ?_
            refine zr_getI (hf_N47_.w hW) (pc := 57) f_M_305 rfl d_M_operand_57 ?_
            refine zw_iconst (pc := 60) (v := Int32.ofInt 1) (by decide) d_M_operand_60 ?_
            refine zr_iadd (pc := 61) d_M_operand_61 ?_
            refine zr_putI (hf_N47_.w hW) (pc := 62) f_M_305 rfl rfl ⟨by omega, by omega⟩ rfl rfl d_M_operand_62 (fun N50_ hsN50_ hvN50_ => ?_)
            have hf_N50_ : zFr [3, 4, 5, 6, 7, 8, 11, 38, 39, 41, 42, 43] [95, 100] Mz N50_ := hf_N47_.tr hsN50_ (by decide) (by decide)
            have e2_N50_ : ze N50_ 81 2 = ze N47_ 81 2 := hsN50_.e (by decide)
            have e3_N50_ : ze N50_ 81 3 = ze N47_ 81 3 := hsN50_.e (by decide)
            have e5_N50_ : ze N50_ 81 5 = ze N47_ 81 5 := hsN50_.e (by decide)
            have e6_N50_ : ze N50_ 81 6 = ze N47_ 81 6 := hsN50_.e (by decide)
            have e7_N50_ : ze N50_ 81 7 = ze N47_ 81 7 := hsN50_.e (by decide)
            have e14_N50_ : ze N50_ 81 14 = ze N47_ 81 14 := hsN50_.e (by decide)
            have e26_N50_ : ze N50_ 81 26 = ze N47_ 81 26 := hsN50_.e (by decide)
            have e38_N50_ : ze N50_ 81 38 = ze N47_ 81 38 := hsN50_.e (by decide)
            have r41_N50_ := ze_r N50_ 81 41
            have e42_N50_ : ze N50_ 81 42 = ze N47_ 81 42 := hsN50_.e (by decide)
            have e43_N50_ : ze N50_ 81 43 = ze N47_ 81 43 := hsN50_.e (by decide)
            have qzmu_N50_ : zmu N50_ = zmu N47_ := zmu_f hsN50_ (by decide)
            have c51_ : zGD N50_ := zGD.fr hsN50_ c48_ (by decide) (by decide)
            have c52_ : zTv N50_ := zTv.fr hsN50_ c49_ (by decide) (by decide)
            have hp_N50_ := zcw_push hN47_ hsN50_ hvN50_ (by omega) ⟨by omega, by omega⟩
            refine zw_aload_n (pc := 65) (n := 0) (x := 81) rfl d_M_operand_65 ?_
            refine zw_dup (pc := 66) rfl d_M_operand_66 ?_
            refine zr_getI (hf_N50_.w hW) (pc := 67) f_M_296 rfl d_M_operand_67 ?_
            refine zw_iconst (pc := 70) (v := Int32.ofInt 1) (by decide) d_M_operand_70 ?_
            refine zr_iadd (pc := 71) d_M_operand_71 ?_
            refine zr_putI (hf_N50_.w hW) (pc := 72) f_M_296 rfl rfl ⟨by omega, by omega⟩ rfl rfl d_M_operand_72 (fun N53_ hsN53_ hvN53_ => ?_)
            have hf_N53_ : zFr [3, 4, 5, 6, 7, 8, 11, 38, 39, 41, 42, 43] [95, 100] Mz N53_ := hf_N50_.tr hsN53_ (by decide) (by decide)
            have e2_N53_ : ze N53_ 81 2 = ze N50_ 81 2 := hsN53_.e (by decide)
            have e3_N53_ : ze N53_ 81 3 = ze N50_ 81 3 := hsN53_.e (by decide)
            have e5_N53_ : ze N53_ 81 5 = ze N50_ 81 5 := hsN53_.e (by decide)
            have e6_N53_ : ze N53_ 81 6 = ze N50_ 81 6 := hsN53_.e (by decide)
            have e7_N53_ : ze N53_ 81 7 = ze N50_ 81 7 := hsN53_.e (by decide)
            have e14_N53_ : ze N53_ 81 14 = ze N50_ 81 14 := hsN53_.e (by decide)
            have e26_N53_ : ze N53_ 81 26 = ze N50_ 81 26 := hsN53_.e (by decide)
            have e38_N53_ : ze N53_ 81 38 = ze N50_ 81 38 := hsN53_.e (by decide)
            have e41_N53_ : ze N53_ 81 41 = ze N50_ 81 41 := hsN53_.e (by decide)
            have r42_N53_ := ze_r N53_ 81 42
            have e43_N53_ : ze N53_ 81 43 = ze N50_ 81 43 := hsN53_.e (by decide)
            have qzcw_N53_ : zcw N53_ = zcw N50_ := zcw_f hsN53_ (by decide)
            have qzmu_N53_ : zmu N53_ = zmu N50_ := zmu_f hsN53_ (by decide)
            have c54_ : zGD N53_ := zGD.fr hsN53_ c51_ (by decide) (by decide)
            have c55_ : zTv N53_ := zTv.fr hsN53_ c52_ (by decide) (by decide)
            refine zw_aload_n (pc := 75) (n := 0) (x := 81) rfl d_M_operand_75 ?_
            refine zr_callV (hf_N53_.w hW) hf_N53_.x (pc := 76) [] [] l_M_183 (c_M_isGood l N53_ (hf_N53_.w hW) ) rfl rfl rfl (by decide) (Nat.le_of_ble_eq_true rfl) d_M_operand_76 ?_
            rintro _ N56_ ⟨v57_, rfl, ⟨hv57_a, hv57_b⟩, hsN56_, hp0_N56_⟩
            obtain rfl := hsN56_.eq.symm
            replace hp0_N56_ : ((v57_ = 1 ∧ ze N53_ 81 7 = 0) ∨ (v57_ = 0 ∧ ze N53_ 81 7 ≠ 0)) := hp0_N56_
            rcases hp0_N56_ with ⟨rfl, ha76_0_hp0_N56_⟩ | ⟨rfl, ha76_0_hp0_N56_⟩
            · skip
              show zW l m_M_operand (zn Mz + 0, zw Mz + 0) N53_ 79 [some (.ref 81), some (.int (Int32.ofInt 1)), none] [.int (Int32.ofInt 1)] (zpI [3, 4, 5, 6, 7, 8, 11, 38, 39, 41, 42, 43] [95, 100] Mz (fun v N => 0 ≤ ze N 81 3 ∧ ze N 81 3 ≤ ze N 81 2 ∧ zTv N ∧ (((v = 0 ∧ 1 ≤ ze N 81 7 ∧ zmu N = 0) ∨ (v = 0 ∧ ze N 81 7 = 0 ∧ zmu N < zmu Mz ∧ ze N 81 38 = zcw N ∧ 0 ≤ ze N 81 41 ∧ ze N 81 41 - zcw N ≤ ze N 81 43 ∧ ze N 81 42 = ze N 81 41 - zcw N ∧ ze N 81 38 ≤ ze N 81 43 ∧ ze N 81 43 ≤ 30) ∨ (v = 1 ∧ 1 ≤ ze N 81 7 ∧ zmu N = 0) ∨ (v = 1 ∧ ze N 81 7 = 0 ∧ zmu N < zmu Mz ∧ ze N 81 38 = zcw N + 1 ∧ 0 ≤ ze N 81 41 ∧ ze N 81 41 - zcw N ≤ ze N 81 43 ∧ ze N 81 42 = ze N 81 41 - zcw N ∧ ze N 81 38 ≤ ze N 81 43 ∧ ze N 81 43 ≤ 30)))))
              refine zr_if_eq (pc := 79) (tgt := 86) ⟨(by decide), (by decide)⟩ (by decide) d_M_operand_79 (fun hc_79 => ?_) (fun hc_79 => ?_)
              · skip
                exact absurd hc_79 (by decide)
              · skip
                refine zw_aload_n (pc := 82) (n := 0) (x := 81) rfl d_M_operand_82 ?_
                refine zr_callV (hf_N53_.w hW) hf_N53_.x (pc := 83) [] [] l_M_193 (c_M_goOn l N53_ (hf_N53_.w hW) (show 0 ≤ ze N53_ 81 3 by first | assumption | omega) (show ze N53_ 81 3 ≤ ze N53_ 81 2 by first | assumption | omega) (show ze N53_ 81 2 ≤ 700 by first | assumption | omega) (show ze N53_ 81 5 ≠ 0 by first | assumption | omega) (show ze N53_ 81 7 = 0 by first | assumption | omega)) rfl rfl rfl (by decide) (Nat.le_of_ble_eq_true rfl) d_M_operand_83 ?_
                rintro _ N58_ ⟨rfl, hsN58_, ⟨hp0_N58_, hp1_N58_, hp2_N58_, hp3_N58_, hp4_N58_⟩⟩
                have hf_N58_ : zFr [3, 4, 5, 6, 7, 8, 11, 38, 39, 41, 42, 43] [95, 100] Mz N58_ := hf_N53_.tr hsN58_ (by decide) (by decide)
                have e2_N58_ : ze N58_ 81 2 = ze N53_ 81 2 := hsN58_.e (by decide)
                have r3_N58_ := ze_r N58_ 81 3
                have r5_N58_ := ze_r N58_ 81 5
                have r6_N58_ := ze_r N58_ 81 6
                have e7_N58_ : ze N58_ 81 7 = ze N53_ 81 7 := hsN58_.e (by decide)
                have e14_N58_ : ze N58_ 81 14 = ze N53_ 81 14 := hsN58_.e (by decide)
                have e26_N58_ : ze N58_ 81 26 = ze N53_ 81 26 := hsN58_.e (by decide)
                have e38_N58_ : ze N58_ 81 38 = ze N53_ 81 38 := hsN58_.e (by decide)
                have e41_N58_ : ze N58_ 81 41 = ze N53_ 81 41 := hsN58_.e (by decide)
                have e42_N58_ : ze N58_ 81 42 = ze N53_ 81 42 := hsN58_.e (by decide)
                have e43_N58_ : ze N58_ 81 43 = ze N53_ 81 43 := hsN58_.e (by decide)
                have qzcw_N58_ : zcw N58_ = zcw N53_ := zcw_f hsN58_ (by decide)
                have c60_ : zGD N58_ := zGD.fr hsN58_ c54_ (by decide) (by decide)
                show zW l m_M_operand (zn Mz + 0, zw Mz + 0) N58_ 86 [some (.ref 81), some (.int (Int32.ofInt 1)), none] [] (zpI [3, 4, 5, 6, 7, 8, 11, 38, 39, 41, 42, 43] [95, 100] Mz (fun v N => 0 ≤ ze N 81 3 ∧ ze N 81 3 ≤ ze N 81 2 ∧ zTv N ∧ (((v = 0 ∧ 1 ≤ ze N 81 7 ∧ zmu N = 0) ∨ (v = 0 ∧ ze N 81 7 = 0 ∧ zmu N < zmu Mz ∧ ze N 81 38 = zcw N ∧ 0 ≤ ze N 81 41 ∧ ze N 81 41 - zcw N ≤ ze N 81 43 ∧ ze N 81 42 = ze N 81 41 - zcw N ∧ ze N 81 38 ≤ ze N 81 43 ∧ ze N 81 43 ≤ 30) ∨ (v = 1 ∧ 1 ≤ ze N 81 7 ∧ zmu N = 0) ∨ (v = 1 ∧ ze N 81 7 = 0 ∧ zmu N < zmu Mz ∧ ze N 81 38 = zcw N + 1 ∧ 0 ≤ ze N 81 41 ∧ ze N 81 41 - zcw N ≤ ze N 81 43 ∧ ze N 81 42 = ze N 81 41 - zcw N ∧ ze N 81 38 ≤ ze N 81 43 ∧ ze N 81 43 ≤ 30)))))
                refine zw_iconst (pc := 86) (v := Int32.ofInt 0) (by decide) d_M_operand_86 ?_
                have hz0 := zmu_s N58_
                exact zr_iret (pc := 87) (ty := .boolean) rfl (z_narB (by omega)) ⟨by omega, by omega⟩ hf_N58_ ⟨(show 0 ≤ ze N58_ 81 3 by first | assumption | omega), (show ze N58_ 81 3 ≤ ze N58_ 81 2 by first | assumption | omega), hp2_N58_, (show ((0 = 0 ∧ 1 ≤ ze N58_ 81 7 ∧ zmu N58_ = 0) ∨ (0 = 0 ∧ ze N58_ 81 7 = 0 ∧ zmu N58_ < zmu Mz ∧ ze N58_ 81 38 = zcw N58_ ∧ 0 ≤ ze N58_ 81 41 ∧ ze N58_ 81 41 - zcw N58_ ≤ ze N58_ 81 43 ∧ ze N58_ 81 42 = ze N58_ 81 41 - zcw N58_ ∧ ze N58_ 81 38 ≤ ze N58_ 81 43 ∧ ze N58_ 81 43 ≤ 30) ∨ (0 = 1 ∧ 1 ≤ ze N58_ 81 7 ∧ zmu N58_ = 0) ∨ (0 = 1 ∧ ze N58_ 81 7 = 0 ∧ zmu N58_ < zmu Mz ∧ ze N58_ 81 38 = zcw N58_ + 1 ∧ 0 ≤ ze N58_ 81 41 ∧ ze N58_ 81 41 - zcw N58_ ≤ ze N58_ 81 43 ∧ ze N58_ 81 42 = ze N58_ 81 41 - zcw N58_ ∧ ze N58_ 81 38 ≤ ze N58_ 81 43 ∧ ze N58_ 81 43 ≤ 30)) from Or.inr (Or.inl (⟨(show 0 = 0 by first | assumption | omega), (show ze N58_ 81 7 = 0 by first | assumption | omega), (show zmu N58_ < zmu Mz by first | assumption | omega), (show ze N58_ 81 38 = zcw N58_ by first | assumption | omega), (show 0 ≤ ze N58_ 81 41 by first | assumption | omega), (show ze N58_ 81 41 - zcw N58_ ≤ ze N58_ 81 43 by first | assumption | omega), (show ze N58_ 81 42 = ze N58_ 81 41 - zcw N58_ by first | assumption | omega), (show ze N58_ 81 38 ≤ ze N58_ 81 43 by first | assumption | omega), (show ze N58_ 81 43 ≤ 30 by first | assumption | omega)⟩)))⟩ d_M_operand_87
            · skip
              exfalso; omega
    · skip
      exact absurd hc_6 (by decide)
  · skip
    show zW l m_M_operand (zn Mz + 0, zw Mz + 0) Mz 6 [some (.ref 81), none, none] [.int (Int32.ofInt 0)] (zpI [3, 4, 5, 6, 7, 8, 11, 38, 39, 41, 42, 43] [95, 100] Mz (fun v N => 0 ≤ ze N 81 3 ∧ ze N 81 3 ≤ ze N 81 2 ∧ zTv N ∧ (((v = 0 ∧ 1 ≤ ze N 81 7 ∧ zmu N = 0) ∨ (v = 0 ∧ ze N 81 7 = 0 ∧ zmu N < zmu Mz ∧ ze N 81 38 = zcw N ∧ 0 ≤ ze N 81 41 ∧ ze N 81 41 - zcw N ≤ ze N 81 43 ∧ ze N 81 42 = ze N 81 41 - zcw N ∧ ze N 81 38 ≤ ze N 81 43 ∧ ze N 81 43 ≤ 30) ∨ (v = 1 ∧ 1 ≤ ze N 81 7 ∧ zmu N = 0) ∨ (v = 1 ∧ ze N 81 7 = 0 ∧ zmu N < zmu Mz ∧ ze N 81 38 = zcw N + 1 ∧ 0 ≤ ze N 81 41 ∧ ze N 81 41 - zcw N ≤ ze N 81 43 ∧ ze N 81 42 = ze N 81 41 - zcw N ∧ ze N 81 38 ≤ ze N 81 43 ∧ ze N 81 43 ≤ 30)))))
    refine zr_if_ne (pc := 6) (tgt := 18) ⟨(by decide), (by decide)⟩ (by decide) d_M_operand_6 (fun hc_6 => ?_) (fun hc_6 => ?_)
    · skip
      exact absurd hc_6 (by decide)
    · skip
      refine zw_aload_n (pc := 9) (n := 0) (x := 81) rfl d_M_operand_9 ?_
      refine zw_bipush (pc := 10) (v := Int32.ofInt 40) (by decide) d_M_operand_10 ?_
      refine zr_callV (hf.w hW) hf.x (pc := 12) [.int (Int32.ofInt 40)] [] l_M_187 (c_M_isSignHere l Mz (hf.w hW) 40 (by decide) (by decide)) rfl rfl rfl (by decide) (Nat.le_of_ble_eq_true rfl) d_M_operand_12 ?_
      rintro _ N61_ ⟨v62_, rfl, ⟨hv62_a, hv62_b⟩, hsN61_, hp0_N61_⟩
      obtain rfl := hsN61_.eq.symm
      replace hp0_N61_ : ((v62_ = 1 ∧ ze Mz 81 7 = 0 ∧ ze Mz 81 5 = 3 ∧ ze Mz 81 6 = 40) ∨ (v62_ = 0)) := hp0_N61_
      rcases hp0_N61_ with ⟨rfl, ha12_0_hp0_N61_, ha12_1_hp0_N61_, ha12_2_hp0_N61_⟩ | rfl
      · skip
        show zW l m_M_operand (zn Mz + 0, zw Mz + 0) Mz 15 [some (.ref 81), none, none] [.int (Int32.ofInt 1)] (zpI [3, 4, 5, 6, 7, 8, 11, 38, 39, 41, 42, 43] [95, 100] Mz (fun v N => 0 ≤ ze N 81 3 ∧ ze N 81 3 ≤ ze N 81 2 ∧ zTv N ∧ (((v = 0 ∧ 1 ≤ ze N 81 7 ∧ zmu N = 0) ∨ (v = 0 ∧ ze N 81 7 = 0 ∧ zmu N < zmu Mz ∧ ze N 81 38 = zcw N ∧ 0 ≤ ze N 81 41 ∧ ze N 81 41 - zcw N ≤ ze N 81 43 ∧ ze N 81 42 = ze N 81 41 - zcw N ∧ ze N 81 38 ≤ ze N 81 43 ∧ ze N 81 43 ≤ 30) ∨ (v = 1 ∧ 1 ≤ ze N 81 7 ∧ zmu N = 0) ∨ (v = 1 ∧ ze N 81 7 = 0 ∧ zmu N < zmu Mz ∧ ze N 81 38 = zcw N + 1 ∧ 0 ≤ ze N 81 41 ∧ ze N 81 41 - zcw N ≤ ze N 81 43 ∧ ze N 81 42 = ze N 81 41 - zcw N ∧ ze N 81 38 ≤ ze N 81 43 ∧ ze N 81 43 ≤ 30)))))
        refine zr_if_eq (pc := 15) (tgt := 88) ⟨(by decide), (by decide)⟩ (by decide) d_M_operand_15 (fun hc_15 => ?_) (fun hc_15 => ?_)
        · skip
          exact absurd hc_15 (by decide)
        · skip
          refine zw_aload_n (pc := 18) (n := 0) (x := 81) rfl d_M_operand_18 ?_
          refine zr_getI (hf.w hW) (pc := 19) f_M_152 rfl d_M_operand_19 ?_
          refine zw_bipush (pc := 22) (v := Int32.ofInt 40) (by decide) d_M_operand_22 ?_
          refine zr_icmp_ne (pc := 24) (tgt := 31) ⟨(ze_r Mz 81 6).1, (ze_r Mz 81 6).2⟩ ⟨(by decide), (by decide)⟩ (by decide) d_M_operand_24 (fun hc_24 => ?_) (fun hc_24 => ?_)
          · skip
            refine zw_iconst (pc := 31) (v := Int32.ofInt 0) (by decide) d_M_operand_31 ?_
            refine zw_istore_n (pc := 32) (i := 1) (L2 := [some (.ref 81), some (.int (Int32.ofInt 0)), none]) rfl (by decide) rfl d_M_operand_32 ?_
            refine zw_aload_n (pc := 33) (n := 0) (x := 81) rfl d_M_operand_33 ?_
            refine zr_callV (hf.w hW) hf.x (pc := 34) [] [] l_M_302 (c_M_countsUnit l Mz (hf.w hW) (show 0 ≤ ze Mz 81 7 by first | assumption | omega) (show 0 ≤ ze Mz 81 43 by first | assumption | omega) (show ze Mz 81 43 ≤ 1000 by first | assumption | omega)) rfl rfl rfl (by decide) (Nat.le_of_ble_eq_true rfl) d_M_operand_34 ?_
            rintro _ N63_ ⟨rfl, hsN63_, ⟨hp0_N63_, hp1_N63_⟩⟩
            have hf_N63_ : zFr [3, 4, 5, 6, 7, 8, 11, 38, 39, 41, 42, 43] [95, 100] Mz N63_ := hf.tr hsN63_ (by decide) (by decide)
            have e2_N63_ : ze N63_ 81 2 = ze Mz 81 2 := hsN63_.e (by decide)
            have e3_N63_ : ze N63_ 81 3 = ze Mz 81 3 := hsN63_.e (by decide)
            have e5_N63_ : ze N63_ 81 5 = ze Mz 81 5 := hsN63_.e (by decide)
            have e6_N63_ : ze N63_ 81 6 = ze Mz 81 6 := hsN63_.e (by decide)
            have r7_N63_ := ze_r N63_ 81 7
            have e14_N63_ : ze N63_ 81 14 = ze Mz 81 14 := hsN63_.e (by decide)
            have e26_N63_ : ze N63_ 81 26 = ze Mz 81 26 := hsN63_.e (by decide)
            have e38_N63_ : ze N63_ 81 38 = ze Mz 81 38 := hsN63_.e (by decide)
            have e41_N63_ : ze N63_ 81 41 = ze Mz 81 41 := hsN63_.e (by decide)
            have e42_N63_ : ze N63_ 81 42 = ze Mz 81 42 := hsN63_.e (by decide)
            have r43_N63_ := ze_r N63_ 81 43
            have qzcw_N63_ : zcw N63_ = zcw Mz := zcw_f hsN63_ (by decide)
            have c65_ : zGD N63_ := zGD.fr hsN63_ p0_ (by decide) (by decide)
            have c66_ : zTv N63_ := zTv.fr hsN63_ p4_ (by decide) (by decide)
            rcases hp1_N63_ with ⟨ha34_0_hp1_N63_, ha34_1_hp1_N63_⟩ | ⟨ha34_0_hp1_N63_, ha34_1_hp1_N63_, ha34_2_hp1_N63_, ha34_3_hp1_N63_⟩
            · skip
              show zW l m_M_operand (zn Mz + 0, zw Mz + 0) N63_ 37 [some (.ref 81), some (.int (Int32.ofInt 0)), none] [] (zpI [3, 4, 5, 6, 7, 8, 11, 38, 39, 41, 42, 43] [95, 100] Mz (fun v N => 0 ≤ ze N 81 3 ∧ ze N 81 3 ≤ ze N 81 2 ∧ zTv N ∧ (((v = 0 ∧ 1 ≤ ze N 81 7 ∧ zmu N = 0) ∨ (v = 0 ∧ ze N 81 7 = 0 ∧ zmu N < zmu Mz ∧ ze N 81 38 = zcw N ∧ 0 ≤ ze N 81 41 ∧ ze N 81 41 - zcw N ≤ ze N 81 43 ∧ ze N 81 42 = ze N 81 41 - zcw N ∧ ze N 81 38 ≤ ze N 81 43 ∧ ze N 81 43 ≤ 30) ∨ (v = 1 ∧ 1 ≤ ze N 81 7 ∧ zmu N = 0) ∨ (v = 1 ∧ ze N 81 7 = 0 ∧ zmu N < zmu Mz ∧ ze N 81 38 = zcw N + 1 ∧ 0 ≤ ze N 81 41 ∧ ze N 81 41 - zcw N ≤ ze N 81 43 ∧ ze N 81 42 = ze N 81 41 - zcw N ∧ ze N 81 38 ≤ ze N 81 43 ∧ ze N 81 43 ≤ 30)))))
              refine zw_aload_n (pc := 37) (n := 0) (x := 81) rfl d_M_operand_37 ?_
              refine zr_getF (r := 100) (hf_N63_.w hW) (pc := 38) f_M_72 rfl (zh_100 (hf_N63_.w hW)).1 d_M_operand_38 ?_
              refine zw_aload_n (pc := 41) (n := 0) (x := 81) rfl d_M_operand_41 ?_
              refine zr_getI (hf_N63_.w hW) (pc := 42) f_M_305 rfl d_M_operand_42 ?_
              refine zw_iload_n (pc := 45) (n := 1) (x := Int32.ofInt 0) rfl d_M_operand_45 ?_
              refine zr_if_eq (pc := 46) (tgt := 53) ⟨(by decide), (by decide)⟩ (by decide) d_M_operand_46 (fun hc_46 => ?_) (fun hc_46 => ?_)
              · skip
                refine zw_iconst (pc := 53) (v := Int32.ofInt 1) (by decide) d_M_operand_53 ?_
                refine zr_iast (pc := 54) (zh_100 (hf_N63_.w hW)).2 (by decide) (by decide) (by omega) (by omega) d_M_operand_54 (fun N67_ hN67_ hsN67_ => ?_)
                have hf_N67_ : zFr [3, 4, 5, 6, 7, 8, 11, 38, 39, 41, 42, 43] [95, 100] Mz N67_ := hf_N63_.tr hsN67_ (by decide) (by decide)
                have e2_N67_ : ze N67_ 81 2 = ze N63_ 81 2 := hsN67_.e (by decide)
                have e3_N67_ : ze N67_ 81 3 = ze N63_ 81 3 := hsN67_.e (by decide)
                have e5_N67_ : ze N67_ 81 5 = ze N63_ 81 5 := hsN67_.e (by decide)
                have e6_N67_ : ze N67_ 81 6 = ze N63_ 81 6 := hsN67_.e (by decide)
                have e7_N67_ : ze N67_ 81 7 = ze N63_ 81 7 := hsN67_.e (by decide)
                have e14_N67_ : ze N67_ 81 14 = ze N63_ 81 14 := hsN67_.e (by decide)
                have e26_N67_ : ze N67_ 81 26 = ze N63_ 81 26 := hsN67_.e (by decide)
                have e38_N67_ : ze N67_ 81 38 = ze N63_ 81 38 := hsN67_.e (by decide)
                have e41_N67_ : ze N67_ 81 41 = ze N63_ 81 41 := hsN67_.e (by decide)
                have e42_N67_ : ze N67_ 81 42 = ze N63_ 81 42 := hsN67_.e (by decide)
                have e43_N67_ : ze N67_ 81 43 = ze N63_ 81 43 := hsN67_.e (by decide)
                have qzmu_N67_ : zmu N67_ = zmu N63_ := zmu_f hsN67_ (by decide)
                have c68_ : zGD N67_ := zGD.fr hsN67_ c65_ (by decide) (by decide)
                have c69_ : zTv N67_ := zTv.fr hsN67_ c66_ (by decide) (by decide)
                refine zw_aload_n (pc := 55) (n := 0) (x := 81) rfl d_M_operand_55 ?_
                refine zw_dup (pc := 56) rfl d_M_operand_56 ?_
                refine zr_getI (hf_N67_.w hW) (pc := 57) f_M_305 rfl d_M_operand_57 ?_
                refine zw_iconst (pc := 60) (v := Int32.ofInt 1) (by decide) d_M_operand_60 ?_
                refine zr_iadd (pc := 61) d_M_operand_61 ?_
                refine zr_putI (hf_N67_.w hW) (pc := 62) f_M_305 rfl rfl ⟨by omega, by omega⟩ rfl rfl d_M_operand_62 (fun N70_ hsN70_ hvN70_ => ?_)
                have hf_N70_ : zFr [3, 4, 5, 6, 7, 8, 11, 38, 39, 41, 42, 43] [95, 100] Mz N70_ := hf_N67_.tr hsN70_ (by decide) (by decide)
                have e2_N70_ : ze N70_ 81 2 = ze N67_ 81 2 := hsN70_.e (by decide)
                have e3_N70_ : ze N70_ 81 3 = ze N67_ 81 3 := hsN70_.e (by decide)
                have e5_N70_ : ze N70_ 81 5 = ze N67_ 81 5 := hsN70_.e (by decide)
                have e6_N70_ : ze N70_ 81 6 = ze N67_ 81 6 := hsN70_.e (by decide)
                have e7_N70_ : ze N70_ 81 7 = ze N67_ 81 7 := hsN70_.e (by decide)
                have e14_N70_ : ze N70_ 81 14 = ze N67_ 81 14 := hsN70_.e (by decide)
                have e26_N70_ : ze N70_ 81 26 = ze N67_ 81 26 := hsN70_.e (by decide)
                have e38_N70_ : ze N70_ 81 38 = ze N67_ 81 38 := hsN70_.e (by decide)
                have r41_N70_ := ze_r N70_ 81 41
                have e42_N70_ : ze N70_ 81 42 = ze N67_ 81 42 := hsN70_.e (by decide)
                have e43_N70_ : ze N70_ 81 43 = ze N67_ 81 43 := hsN70_.e (by decide)
                have qzmu_N70_ : zmu N70_ = zmu N67_ := zmu_f hsN70_ (by decide)
                have c71_ : zGD N70_ := zGD.fr hsN70_ c68_ (by decide) (by decide)
                have c72_ : zTv N70_ := zTv.fr hsN70_ c69_ (by decide) (by decide)
                have hp_N70_ := zcw_push hN67_ hsN70_ hvN70_ (by omega) ⟨by omega, by omega⟩
                refine zw_aload_n (pc := 65) (n := 0) (x := 81) rfl d_M_operand_65 ?_
                refine zw_dup (pc := 66) rfl d_M_operand_66 ?_
                refine zr_getI (hf_N70_.w hW) (pc := 67) f_M_296 rfl d_M_operand_67 ?_
                refine zw_iconst (pc := 70) (v := Int32.ofInt 1) (by decide) d_M_operand_70 ?_
                refine zr_iadd (pc := 71) d_M_operand_71 ?_
                refine zr_putI (hf_N70_.w hW) (pc := 72) f_M_296 rfl rfl ⟨by omega, by omega⟩ rfl rfl d_M_operand_72 (fun N73_ hsN73_ hvN73_ => ?_)
                have hf_N73_ : zFr [3, 4, 5, 6, 7, 8, 11, 38, 39, 41, 42, 43] [95, 100] Mz N73_ := hf_N70_.tr hsN73_ (by decide) (by decide)
                have e2_N73_ : ze N73_ 81 2 = ze N70_ 81 2 := hsN73_.e (by decide)
                have e3_N73_ : ze N73_ 81 3 = ze N70_ 81 3 := hsN73_.e (by decide)
                have e5_N73_ : ze N73_ 81 5 = ze N70_ 81 5 := hsN73_.e (by decide)
                have e6_N73_ : ze N73_ 81 6 = ze N70_ 81 6 := hsN73_.e (by decide)
                have e7_N73_ : ze N73_ 81 7 = ze N70_ 81 7 := hsN73_.e (by decide)
                have e14_N73_ : ze N73_ 81 14 = ze N70_ 81 14 := hsN73_.e (by decide)
                have e26_N73_ : ze N73_ 81 26 = ze N70_ 81 26 := hsN73_.e (by decide)
                have e38_N73_ : ze N73_ 81 38 = ze N70_ 81 38 := hsN73_.e (by decide)
                have e41_N73_ : ze N73_ 81 41 = ze N70_ 81 41 := hsN73_.e (by decide)
                have r42_N73_ := ze_r N73_ 81 42
                have e43_N73_ : ze N73_ 81 43 = ze N70_ 81 43 := hsN73_.e (by decide)
                have qzcw_N73_ : zcw N73_ = zcw N70_ := zcw_f hsN73_ (by decide)
                have qzmu_N73_ : zmu N73_ = zmu N70_ := zmu_f hsN73_ (by decide)
                have c74_ : zGD N73_ := zGD.fr hsN73_ c71_ (by decide) (by decide)
                have c75_ : zTv N73_ := zTv.fr hsN73_ c72_ (by decide) (by decide)
                refine zw_aload_n (pc := 75) (n := 0) (x := 81) rfl d_M_operand_75 ?_
                refine zr_callV (hf_N73_.w hW) hf_N73_.x (pc := 76) [] [] l_M_183 (c_M_isGood l N73_ (hf_N73_.w hW) ) rfl rfl rfl (by decide) (Nat.le_of_ble_eq_true rfl) d_M_operand_76 ?_
                rintro _ N76_ ⟨v77_, rfl, ⟨hv77_a, hv77_b⟩, hsN76_, hp0_N76_⟩
                obtain rfl := hsN76_.eq.symm
                replace hp0_N76_ : ((v77_ = 1 ∧ ze N73_ 81 7 = 0) ∨ (v77_ = 0 ∧ ze N73_ 81 7 ≠ 0)) := hp0_N76_
                rcases hp0_N76_ with ⟨rfl, ha76_0_hp0_N76_⟩ | ⟨rfl, ha76_0_hp0_N76_⟩
                · skip
                  exfalso; omega
                · skip
                  show zW l m_M_operand (zn Mz + 0, zw Mz + 0) N73_ 79 [some (.ref 81), some (.int (Int32.ofInt 0)), none] [.int (Int32.ofInt 0)] (zpI [3, 4, 5, 6, 7, 8, 11, 38, 39, 41, 42, 43] [95, 100] Mz (fun v N => 0 ≤ ze N 81 3 ∧ ze N 81 3 ≤ ze N 81 2 ∧ zTv N ∧ (((v = 0 ∧ 1 ≤ ze N 81 7 ∧ zmu N = 0) ∨ (v = 0 ∧ ze N 81 7 = 0 ∧ zmu N < zmu Mz ∧ ze N 81 38 = zcw N ∧ 0 ≤ ze N 81 41 ∧ ze N 81 41 - zcw N ≤ ze N 81 43 ∧ ze N 81 42 = ze N 81 41 - zcw N ∧ ze N 81 38 ≤ ze N 81 43 ∧ ze N 81 43 ≤ 30) ∨ (v = 1 ∧ 1 ≤ ze N 81 7 ∧ zmu N = 0) ∨ (v = 1 ∧ ze N 81 7 = 0 ∧ zmu N < zmu Mz ∧ ze N 81 38 = zcw N + 1 ∧ 0 ≤ ze N 81 41 ∧ ze N 81 41 - zcw N ≤ ze N 81 43 ∧ ze N 81 42 = ze N 81 41 - zcw N ∧ ze N 81 38 ≤ ze N 81 43 ∧ ze N 81 43 ≤ 30)))))
                  refine zr_if_eq (pc := 79) (tgt := 86) ⟨(by decide), (by decide)⟩ (by decide) d_M_operand_79 (fun hc_79 => ?_) (fun hc_79 => ?_)
                  · skip
                    refine zw_iconst (pc := 86) (v := Int32.ofInt 0) (by decide) d_M_operand_86 ?_
                    have hz0 := zmu_s N73_
                    exact zr_iret (pc := 87) (ty := .boolean) rfl (z_narB (by omega)) ⟨by omega, by omega⟩ hf_N73_ ⟨(show 0 ≤ ze N73_ 81 3 by first | assumption | omega), (show ze N73_ 81 3 ≤ ze N73_ 81 2 by first | assumption | omega), c75_, (show ((0 = 0 ∧ 1 ≤ ze N73_ 81 7 ∧ zmu N73_ = 0) ∨ (0 = 0 ∧ ze N73_ 81 7 = 0 ∧ zmu N73_ < zmu Mz ∧ ze N73_ 81 38 = zcw N73_ ∧ 0 ≤ ze N73_ 81 41 ∧ ze N73_ 81 41 - zcw N73_ ≤ ze N73_ 81 43 ∧ ze N73_ 81 42 = ze N73_ 81 41 - zcw N73_ ∧ ze N73_ 81 38 ≤ ze N73_ 81 43 ∧ ze N73_ 81 43 ≤ 30) ∨ (0 = 1 ∧ 1 ≤ ze N73_ 81 7 ∧ zmu N73_ = 0) ∨ (0 = 1 ∧ ze N73_ 81 7 = 0 ∧ zmu N73_ < zmu Mz ∧ ze N73_ 81 38 = zcw N73_ + 1 ∧ 0 ≤ ze N73_ 81 41 ∧ ze N73_ 81 41 - zcw N73_ ≤ ze N73_ 81 43 ∧ ze N73_ 81 42 = ze N73_ 81 41 - zcw N73_ ∧ ze N73_ 81 38 ≤ ze N73_ 81 43 ∧ ze N73_ 81 43 ≤ 30)) from Or.inl (⟨(show 0 = 0 by first | assumption | omega), (show 1 ≤ ze N73_ 81 7 by first | assumption | omega), (show zmu N73_ = 0 by first | assumption | omega)⟩))⟩ d_M_operand_87
                  · skip
                    exact absurd hc_79 (by decide)
              · skip
                exact absurd hc_46 (by decide)
            · skip
              show zW l m_M_operand (zn Mz + 0, zw Mz + 0) N63_ 37 [some (.ref 81), some (.int (Int32.ofInt 0)), none] [] (zpI [3, 4, 5, 6, 7, 8, 11, 38, 39, 41, 42, 43] [95, 100] Mz (fun v N => 0 ≤ ze N 81 3 ∧ ze N 81 3 ≤ ze N 81 2 ∧ zTv N ∧ (((v = 0 ∧ 1 ≤ ze N 81 7 ∧ zmu N = 0) ∨ (v = 0 ∧ ze N 81 7 = 0 ∧ zmu N < zmu Mz ∧ ze N 81 38 = zcw N ∧ 0 ≤ ze N 81 41 ∧ ze N 81 41 - zcw N ≤ ze N 81 43 ∧ ze N 81 42 = ze N 81 41 - zcw N ∧ ze N 81 38 ≤ ze N 81 43 ∧ ze N 81 43 ≤ 30) ∨ (v = 1 ∧ 1 ≤ ze N 81 7 ∧ zmu N = 0) ∨ (v = 1 ∧ ze N 81 7 = 0 ∧ zmu N < zmu Mz ∧ ze N 81 38 = zcw N + 1 ∧ 0 ≤ ze N 81 41 ∧ ze N 81 41 - zcw N ≤ ze N 81 43 ∧ ze N 81 42 = ze N 81 41 - zcw N ∧ ze N 81 38 ≤ ze N 81 43 ∧ ze N 81 43 ≤ 30)))))
              refine zw_aload_n (pc := 37) (n := 0) (x := 81) rfl d_M_operand_37 ?_
              refine zr_getF (r := 100) (hf_N63_.w hW) (pc := 38) f_M_72 rfl (zh_100 (hf_N63_.w hW)).1 d_M_operand_38 ?_
              refine zw_aload_n (pc := 41) (n := 0) (x := 81) rfl d_M_operand_41 ?_
              refine zr_getI (hf_N63_.w hW) (pc := 42) f_M_305 rfl d_M_operand_42 ?_
              refine zw_iload_n (pc := 45) (n := 1) (x := Int32.ofInt 0) rfl d_M_operand_45 ?_
              refine zr_if_eq (pc := 46) (tgt := 53) ⟨(by decide), (by decide)⟩ (by decide) d_M_operand_46 (fun hc_46 => ?_) (fun hc_46 => ?_)
              · skip
                refine zw_iconst (pc := 53) (v := Int32.ofInt 1) (by decide) d_M_operand_53 ?_
                refine zr_iast (pc := 54) (zh_100 (hf_N63_.w hW)).2 (by decide) (by decide) (by omega) (by omega) d_M_operand_54 (fun N78_ hN78_ hsN78_ => ?_)
                have hf_N78_ : zFr [3, 4, 5, 6, 7, 8, 11, 38, 39, 41, 42, 43] [95, 100] Mz N78_ := hf_N63_.tr hsN78_ (by decide) (by decide)
                have e2_N78_ : ze N78_ 81 2 = ze N63_ 81 2 := hsN78_.e (by decide)
                have e3_N78_ : ze N78_ 81 3 = ze N63_ 81 3 := hsN78_.e (by decide)
                have e5_N78_ : ze N78_ 81 5 = ze N63_ 81 5 := hsN78_.e (by decide)
                have e6_N78_ : ze N78_ 81 6 = ze N63_ 81 6 := hsN78_.e (by decide)
                have e7_N78_ : ze N78_ 81 7 = ze N63_ 81 7 := hsN78_.e (by decide)
                have e14_N78_ : ze N78_ 81 14 = ze N63_ 81 14 := hsN78_.e (by decide)
                have e26_N78_ : ze N78_ 81 26 = ze N63_ 81 26 := hsN78_.e (by decide)
                have e38_N78_ : ze N78_ 81 38 = ze N63_ 81 38 := hsN78_.e (by decide)
                have e41_N78_ : ze N78_ 81 41 = ze N63_ 81 41 := hsN78_.e (by decide)
                have e42_N78_ : ze N78_ 81 42 = ze N63_ 81 42 := hsN78_.e (by decide)
                have e43_N78_ : ze N78_ 81 43 = ze N63_ 81 43 := hsN78_.e (by decide)
                have qzmu_N78_ : zmu N78_ = zmu N63_ := zmu_f hsN78_ (by decide)
                have c79_ : zGD N78_ := zGD.fr hsN78_ c65_ (by decide) (by decide)
                have c80_ : zTv N78_ := zTv.fr hsN78_ c66_ (by decide) (by decide)
                refine zw_aload_n (pc := 55) (n := 0) (x := 81) rfl d_M_operand_55 ?_
                refine zw_dup (pc := 56) rfl d_M_operand_56 ?_
                refine zr_getI (hf_N78_.w hW) (pc := 57) f_M_305 rfl d_M_operand_57 ?_
                refine zw_iconst (pc := 60) (v := Int32.ofInt 1) (by decide) d_M_operand_60 ?_
                refine zr_iadd (pc := 61) d_M_operand_61 ?_
                refine zr_putI (hf_N78_.w hW) (pc := 62) f_M_305 rfl rfl ⟨by omega, by omega⟩ rfl rfl d_M_operand_62 (fun N81_ hsN81_ hvN81_ => ?_)
                have hf_N81_ : zFr [3, 4, 5, 6, 7, 8, 11, 38, 39, 41, 42, 43] [95, 100] Mz N81_ := hf_N78_.tr hsN81_ (by decide) (by decide)
                have e2_N81_ : ze N81_ 81 2 = ze N78_ 81 2 := hsN81_.e (by decide)
                have e3_N81_ : ze N81_ 81 3 = ze N78_ 81 3 := hsN81_.e (by decide)
                have e5_N81_ : ze N81_ 81 5 = ze N78_ 81 5 := hsN81_.e (by decide)
                have e6_N81_ : ze N81_ 81 6 = ze N78_ 81 6 := hsN81_.e (by decide)
                have e7_N81_ : ze N81_ 81 7 = ze N78_ 81 7 := hsN81_.e (by decide)
                have e14_N81_ : ze N81_ 81 14 = ze N78_ 81 14 := hsN81_.e (by decide)
                have e26_N81_ : ze N81_ 81 26 = ze N78_ 81 26 := hsN81_.e (by decide)
                have e38_N81_ : ze N81_ 81 38 = ze N78_ 81 38 := hsN81_.e (by decide)
                have r41_N81_ := ze_r N81_ 81 41
                have e42_N81_ : ze N81_ 81 42 = ze N78_ 81 42 := hsN81_.e (by decide)
                have e43_N81_ : ze N81_ 81 43 = ze N78_ 81 43 := hsN81_.e (by decide)
                have qzmu_N81_ : zmu N81_ = zmu N78_ := zmu_f hsN81_ (by decide)
                have c82_ : zGD N81_ := zGD.fr hsN81_ c79_ (by decide) (by decide)
                have c83_ : zTv N81_ := zTv.fr hsN81_ c80_ (by decide) (by decide)
                have hp_N81_ := zcw_push hN78_ hsN81_ hvN81_ (by omega) ⟨by omega, by omega⟩
                refine zw_aload_n (pc := 65) (n := 0) (x := 81) rfl d_M_operand_65 ?_
                refine zw_dup (pc := 66) rfl d_M_operand_66 ?_
                refine zr_getI (hf_N81_.w hW) (pc := 67) f_M_296 rfl d_M_operand_67 ?_
                refine zw_iconst (pc := 70) (v := Int32.ofInt 1) (by decide) d_M_operand_70 ?_
                refine zr_iadd (pc := 71) d_M_operand_71 ?_
                refine zr_putI (hf_N81_.w hW) (pc := 72) f_M_296 rfl rfl ⟨by omega, by omega⟩ rfl rfl d_M_operand_72 (fun N84_ hsN84_ hvN84_ => ?_)
                have hf_N84_ : zFr [3, 4, 5, 6, 7, 8, 11, 38, 39, 41, 42, 43] [95, 100] Mz N84_ := hf_N81_.tr hsN84_ (by decide) (by decide)
                have e2_N84_ : ze N84_ 81 2 = ze N81_ 81 2 := hsN84_.e (by decide)
                have e3_N84_ : ze N84_ 81 3 = ze N81_ 81 3 := hsN84_.e (by decide)
                have e5_N84_ : ze N84_ 81 5 = ze N81_ 81 5 := hsN84_.e (by decide)
                have e6_N84_ : ze N84_ 81 6 = ze N81_ 81 6 := hsN84_.e (by decide)
                have e7_N84_ : ze N84_ 81 7 = ze N81_ 81 7 := hsN84_.e (by decide)
                have e14_N84_ : ze N84_ 81 14 = ze N81_ 81 14 := hsN84_.e (by decide)
                have e26_N84_ : ze N84_ 81 26 = ze N81_ 81 26 := hsN84_.e (by decide)
                have e38_N84_ : ze N84_ 81 38 = ze N81_ 81 38 := hsN84_.e (by decide)
                have e41_N84_ : ze N84_ 81 41 = ze N81_ 81 41 := hsN84_.e (by decide)
                have r42_N84_ := ze_r N84_ 81 42
                have e43_N84_ : ze N84_ 81 43 = ze N81_ 81 43 := hsN84_.e (by decide)
                have qzcw_N84_ : zcw N84_ = zcw N81_ := zcw_f hsN84_ (by decide)
                have qzmu_N84_ : zmu N84_ = zmu N81_ := zmu_f hsN84_ (by decide)
                have c85_ : zGD N84_ := zGD.fr hsN84_ c82_ (by decide) (by decide)
                have c86_ : zTv N84_ := zTv.fr hsN84_ c83_ (by decide) (by decide)
                refine zw_aload_n (pc := 75) (n := 0) (x := 81) rfl d_M_operand_75 ?_
                refine zr_callV (hf_N84_.w hW) hf_N84_.x (pc := 76) [] [] l_M_183 (c_M_isGood l N84_ (hf_N84_.w hW) ) rfl rfl rfl (by decide) (Nat.le_of_ble_eq_true rfl) d_M_operand_76 ?_
                rintro _ N87_ ⟨v88_, rfl, ⟨hv88_a, hv88_b⟩, hsN87_, hp0_N87_⟩
                obtain rfl := hsN87_.eq.symm
                replace hp0_N87_ : ((v88_ = 1 ∧ ze N84_ 81 7 = 0) ∨ (v88_ = 0 ∧ ze N84_ 81 7 ≠ 0)) := hp0_N87_
                rcases hp0_N87_ with ⟨rfl, ha76_0_hp0_N87_⟩ | ⟨rfl, ha76_0_hp0_N87_⟩
                · skip
                  show zW l m_M_operand (zn Mz + 0, zw Mz + 0) N84_ 79 [some (.ref 81), some (.int (Int32.ofInt 0)), none] [.int (Int32.ofInt 1)] (zpI [3, 4, 5, 6, 7, 8, 11, 38, 39, 41, 42, 43] [95, 100] Mz (fun v N => 0 ≤ ze N 81 3 ∧ ze N 81 3 ≤ ze N 81 2 ∧ zTv N ∧ (((v = 0 ∧ 1 ≤ ze N 81 7 ∧ zmu N = 0) ∨ (v = 0 ∧ ze N 81 7 = 0 ∧ zmu N < zmu Mz ∧ ze N 81 38 = zcw N ∧ 0 ≤ ze N 81 41 ∧ ze N 81 41 - zcw N ≤ ze N 81 43 ∧ ze N 81 42 = ze N 81 41 - zcw N ∧ ze N 81 38 ≤ ze N 81 43 ∧ ze N 81 43 ≤ 30) ∨ (v = 1 ∧ 1 ≤ ze N 81 7 ∧ zmu N = 0) ∨ (v = 1 ∧ ze N 81 7 = 0 ∧ zmu N < zmu Mz ∧ ze N 81 38 = zcw N + 1 ∧ 0 ≤ ze N 81 41 ∧ ze N 81 41 - zcw N ≤ ze N 81 43 ∧ ze N 81 42 = ze N 81 41 - zcw N ∧ ze N 81 38 ≤ ze N 81 43 ∧ ze N 81 43 ≤ 30)))))
                  refine zr_if_eq (pc := 79) (tgt := 86) ⟨(by decide), (by decide)⟩ (by decide) d_M_operand_79 (fun hc_79 => ?_) (fun hc_79 => ?_)
                  · skip
                    exact absurd hc_79 (by decide)
                  · skip
                    refine zw_aload_n (pc := 82) (n := 0) (x := 81) rfl d_M_operand_82 ?_
                    refine zr_callV (hf_N84_.w hW) hf_N84_.x (pc := 83) [] [] l_M_193 (c_M_goOn l N84_ (hf_N84_.w hW) (show 0 ≤ ze N84_ 81 3 by first | assumption | omega) (show ze N84_ 81 3 ≤ ze N84_ 81 2 by first | assumption | omega) (show ze N84_ 81 2 ≤ 700 by first | assumption | omega) (show ze N84_ 81 5 ≠ 0 by first | assumption | omega) (show ze N84_ 81 7 = 0 by first | assumption | omega)) rfl rfl rfl (by decide) (Nat.le_of_ble_eq_true rfl) d_M_operand_83 ?_
                    rintro _ N89_ ⟨rfl, hsN89_, ⟨hp0_N89_, hp1_N89_, hp2_N89_, hp3_N89_, hp4_N89_⟩⟩
                    have hf_N89_ : zFr [3, 4, 5, 6, 7, 8, 11, 38, 39, 41, 42, 43] [95, 100] Mz N89_ := hf_N84_.tr hsN89_ (by decide) (by decide)
                    have e2_N89_ : ze N89_ 81 2 = ze N84_ 81 2 := hsN89_.e (by decide)
                    have r3_N89_ := ze_r N89_ 81 3
                    have r5_N89_ := ze_r N89_ 81 5
                    have r6_N89_ := ze_r N89_ 81 6
                    have e7_N89_ : ze N89_ 81 7 = ze N84_ 81 7 := hsN89_.e (by decide)
                    have e14_N89_ : ze N89_ 81 14 = ze N84_ 81 14 := hsN89_.e (by decide)
                    have e26_N89_ : ze N89_ 81 26 = ze N84_ 81 26 := hsN89_.e (by decide)
                    have e38_N89_ : ze N89_ 81 38 = ze N84_ 81 38 := hsN89_.e (by decide)
                    have e41_N89_ : ze N89_ 81 41 = ze N84_ 81 41 := hsN89_.e (by decide)
                    have e42_N89_ : ze N89_ 81 42 = ze N84_ 81 42 := hsN89_.e (by decide)
                    have e43_N89_ : ze N89_ 81 43 = ze N84_ 81 43 := hsN89_.e (by decide)
                    have qzcw_N89_ : zcw N89_ = zcw N84_ := zcw_f hsN89_ (by decide)
                    have c91_ : zGD N89_ := zGD.fr hsN89_ c85_ (by decide) (by decide)
                    show zW l m_M_operand (zn Mz + 0, zw Mz + 0) N89_ 86 [some (.ref 81), some (.int (Int32.ofInt 0)), none] [] (zpI [3, 4, 5, 6, 7, 8, 11, 38, 39, 41, 42, 43] [95, 100] Mz (fun v N => 0 ≤ ze N 81 3 ∧ ze N 81 3 ≤ ze N 81 2 ∧ zTv N ∧ (((v = 0 ∧ 1 ≤ ze N 81 7 ∧ zmu N = 0) ∨ (v = 0 ∧ ze N 81 7 = 0 ∧ zmu N < zmu Mz ∧ ze N 81 38 = zcw N ∧ 0 ≤ ze N 81 41 ∧ ze N 81 41 - zcw N ≤ ze N 81 43 ∧ ze N 81 42 = ze N 81 41 - zcw N ∧ ze N 81 38 ≤ ze N 81 43 ∧ ze N 81 43 ≤ 30) ∨ (v = 1 ∧ 1 ≤ ze N 81 7 ∧ zmu N = 0) ∨ (v = 1 ∧ ze N 81 7 = 0 ∧ zmu N < zmu Mz ∧ ze N 81 38 = zcw N + 1 ∧ 0 ≤ ze N 81 41 ∧ ze N 81 41 - zcw N ≤ ze N 81 43 ∧ ze N 81 42 = ze N 81 41 - zcw N ∧ ze N 81 38 ≤ ze N 81 43 ∧ ze N 81 43 ≤ 30)))))
                    refine zw_iconst (pc := 86) (v := Int32.ofInt 0) (by decide) d_M_operand_86 ?_
                    have hz0 := zmu_s N89_
                    exact zr_iret (pc := 87) (ty := .boolean) rfl (z_narB (by omega)) ⟨by omega, by omega⟩ hf_N89_ ⟨(show 0 ≤ ze N89_ 81 3 by first | assumption | omega), (show ze N89_ 81 3 ≤ ze N89_ 81 2 by first | assumption | omega), hp2_N89_, (show ((0 = 0 ∧ 1 ≤ ze N89_ 81 7 ∧ zmu N89_ = 0) ∨ (0 = 0 ∧ ze N89_ 81 7 = 0 ∧ zmu N89_ < zmu Mz ∧ ze N89_ 81 38 = zcw N89_ ∧ 0 ≤ ze N89_ 81 41 ∧ ze N89_ 81 41 - zcw N89_ ≤ ze N89_ 81 43 ∧ ze N89_ 81 42 = ze N89_ 81 41 - zcw N89_ ∧ ze N89_ 81 38 ≤ ze N89_ 81 43 ∧ ze N89_ 81 43 ≤ 30) ∨ (0 = 1 ∧ 1 ≤ ze N89_ 81 7 ∧ zmu N89_ = 0) ∨ (0 = 1 ∧ ze N89_ 81 7 = 0 ∧ zmu N89_ < zmu Mz ∧ ze N89_ 81 38 = zcw N89_ + 1 ∧ 0 ≤ ze N89_ 81 41 ∧ ze N89_ 81 41 - zcw N89_ ≤ ze N89_ 81 43 ∧ ze N89_ 81 42 = ze N89_ 81 41 - zcw N89_ ∧ ze N89_ 81 38 ≤ ze N89_ 81 43 ∧ ze N89_ 81 43 ≤ 30)) from Or.inr (Or.inl (⟨(show 0 = 0 by first | assumption | omega), (show ze N89_ 81 7 = 0 by first | assumption | omega), (show zmu N89_ < zmu Mz by first | assumption | omega), (show ze N89_ 81 38 = zcw N89_ by first | assumption | omega), (show 0 ≤ ze N89_ 81 41 by first | assumption | omega), (show ze N89_ 81 41 - zcw N89_ ≤ ze N89_ 81 43 by first | assumption | omega), (show ze N89_ 81 42 = ze N89_ 81 41 - zcw N89_ by first | assumption | omega), (show ze N89_ 81 38 ≤ ze N89_ 81 43 by first | assumption | omega), (show ze N89_ 81 43 ≤ 30 by first | assumption | omega)⟩)))⟩ d_M_operand_87
                · skip
                  exfalso; omega
              · skip
                exact absurd hc_46 (by decide)
          · skip
            refine zw_iconst (pc := 27) (v := Int32.ofInt 1) (by decide) d_M_operand_27 ?_
            refine zw_goto (pc := 28) (tgt := 32) (by decide) d_M_operand_28 ?_
            refine zw_istore_n (pc := 32) (i := 1) (L2 := [some (.ref 81), some (.int (Int32.ofInt 1)), none]) rfl (by decide) rfl d_M_operand_32 ?_
            refine zw_aload_n (pc := 33) (n := 0) (x := 81) rfl d_M_operand_33 ?_
            refine zr_callV (hf.w hW) hf.x (pc := 34) [] [] l_M_302 (c_M_countsUnit l Mz (hf.w hW) (show 0 ≤ ze Mz 81 7 by first | assumption | omega) (show 0 ≤ ze Mz 81 43 by first | assumption | omega) (show ze Mz 81 43 ≤ 1000 by first | assumption | omega)) rfl rfl rfl (by decide) (Nat.le_of_ble_eq_true rfl) d_M_operand_34 ?_
            rintro _ N92_ ⟨rfl, hsN92_, ⟨hp0_N92_, hp1_N92_⟩⟩
            have hf_N92_ : zFr [3, 4, 5, 6, 7, 8, 11, 38, 39, 41, 42, 43] [95, 100] Mz N92_ := hf.tr hsN92_ (by decide) (by decide)
            have e2_N92_ : ze N92_ 81 2 = ze Mz 81 2 := hsN92_.e (by decide)
            have e3_N92_ : ze N92_ 81 3 = ze Mz 81 3 := hsN92_.e (by decide)
            have e5_N92_ : ze N92_ 81 5 = ze Mz 81 5 := hsN92_.e (by decide)
            have e6_N92_ : ze N92_ 81 6 = ze Mz 81 6 := hsN92_.e (by decide)
            have r7_N92_ := ze_r N92_ 81 7
            have e14_N92_ : ze N92_ 81 14 = ze Mz 81 14 := hsN92_.e (by decide)
            have e26_N92_ : ze N92_ 81 26 = ze Mz 81 26 := hsN92_.e (by decide)
            have e38_N92_ : ze N92_ 81 38 = ze Mz 81 38 := hsN92_.e (by decide)
            have e41_N92_ : ze N92_ 81 41 = ze Mz 81 41 := hsN92_.e (by decide)
            have e42_N92_ : ze N92_ 81 42 = ze Mz 81 42 := hsN92_.e (by decide)
            have r43_N92_ := ze_r N92_ 81 43
            have qzcw_N92_ : zcw N92_ = zcw Mz := zcw_f hsN92_ (by decide)
            have c94_ : zGD N92_ := zGD.fr hsN92_ p0_ (by decide) (by decide)
            have c95_ : zTv N92_ := zTv.fr hsN92_ p4_ (by decide) (by decide)
            rcases hp1_N92_ with ⟨ha34_0_hp1_N92_, ha34_1_hp1_N92_⟩ | ⟨ha34_0_hp1_N92_, ha34_1_hp1_N92_, ha34_2_hp1_N92_, ha34_3_hp1_N92_⟩
            · skip
              show zW l m_M_operand (zn Mz + 0, zw Mz + 0) N92_ 37 [some (.ref 81), some (.int (Int32.ofInt 1)), none] [] (zpI [3, 4, 5, 6, 7, 8, 11, 38, 39, 41, 42, 43] [95, 100] Mz (fun v N => 0 ≤ ze N 81 3 ∧ ze N 81 3 ≤ ze N 81 2 ∧ zTv N ∧ (((v = 0 ∧ 1 ≤ ze N 81 7 ∧ zmu N = 0) ∨ (v = 0 ∧ ze N 81 7 = 0 ∧ zmu N < zmu Mz ∧ ze N 81 38 = zcw N ∧ 0 ≤ ze N 81 41 ∧ ze N 81 41 - zcw N ≤ ze N 81 43 ∧ ze N 81 42 = ze N 81 41 - zcw N ∧ ze N 81 38 ≤ ze N 81 43 ∧ ze N 81 43 ≤ 30) ∨ (v = 1 ∧ 1 ≤ ze N 81 7 ∧ zmu N = 0) ∨ (v = 1 ∧ ze N 81 7 = 0 ∧ zmu N < zmu Mz ∧ ze N 81 38 = zcw N + 1 ∧ 0 ≤ ze N 81 41 ∧ ze N 81 41 - zcw N ≤ ze N 81 43 ∧ ze N 81 42 = ze N 81 41 - zcw N ∧ ze N 81 38 ≤ ze N 81 43 ∧ ze N 81 43 ≤ 30)))))
              refine zw_aload_n (pc := 37) (n := 0) (x := 81) rfl d_M_operand_37 ?_
              refine zr_getF (r := 100) (hf_N92_.w hW) (pc := 38) f_M_72 rfl (zh_100 (hf_N92_.w hW)).1 d_M_operand_38 ?_
              refine zw_aload_n (pc := 41) (n := 0) (x := 81) rfl d_M_operand_41 ?_
              refine zr_getI (hf_N92_.w hW) (pc := 42) f_M_305 rfl d_M_operand_42 ?_
              refine zw_iload_n (pc := 45) (n := 1) (x := Int32.ofInt 1) rfl d_M_operand_45 ?_
              refine zr_if_eq (pc := 46) (tgt := 53) ⟨(by decide), (by decide)⟩ (by decide) d_M_operand_46 (fun hc_46 => ?_) (fun hc_46 => ?_)
              · skip
                exact absurd hc_46 (by decide)
              · skip
                refine zw_iconst (pc := 49) (v := Int32.ofInt 0) (by decide) d_M_operand_49 ?_
                refine zw_goto (pc := 50) (tgt := 54) (by decide) d_M_operand_50 ?_
                refine zr_iast (pc := 54) (zh_100 (hf_N92_.w hW)).2 (by decide) (by decide) (by omega) (by omega) d_M_operand_54 (fun N96_ hN96_ hsN96_ => ?_)
                have hf_N96_ : zFr [3, 4, 5, 6, 7, 8, 11, 38, 39, 41, 42, 43] [95, 100] Mz N96_ := hf_N92_.tr hsN96_ (by decide) (by decide)
                have e2_N96_ : ze N96_ 81 2 = ze N92_ 81 2 := hsN96_.e (by decide)
                have e3_N96_ : ze N96_ 81 3 = ze N92_ 81 3 := hsN96_.e (by decide)
                have e5_N96_ : ze N96_ 81 5 = ze N92_ 81 5 := hsN96_.e (by decide)
                have e6_N96_ : ze N96_ 81 6 = ze N92_ 81 6 := hsN96_.e (by decide)
                have e7_N96_ : ze N96_ 81 7 = ze N92_ 81 7 := hsN96_.e (by decide)
                have e14_N96_ : ze N96_ 81 14 = ze N92_ 81 14 := hsN96_.e (by decide)
                have e26_N96_ : ze N96_ 81 26 = ze N92_ 81 26 := hsN96_.e (by decide)
                have e38_N96_ : ze N96_ 81 38 = ze N92_ 81 38 := hsN96_.e (by decide)
                have e41_N96_ : ze N96_ 81 41 = ze N92_ 81 41 := hsN96_.e (by decide)
                have e42_N96_ : ze N96_ 81 42 = ze N92_ 81 42 := hsN96_.e (by decide)
                have e43_N96_ : ze N96_ 81 43 = ze N92_ 81 43 := hsN96_.e (by decide)
                have qzmu_N96_ : zmu N96_ = zmu N92_ := zmu_f hsN96_ (by decide)
                have c97_ : zGD N96_ := zGD.fr hsN96_ c94_ (by decide) (by decide)
                have c98_ : zTv N96_ := zTv.fr hsN96_ c95_ (by decide) (by decide)
                refine zw_aload_n (pc := 55) (n := 0) (x := 81) rfl d_M_operand_55 ?_
                refine zw_dup (pc := 56) rfl d_M_operand_56 ?_
                refine zr_getI (hf_N96_.w hW) (pc := 57) f_M_305 rfl d_M_operand_57 ?_
                refine zw_iconst (pc := 60) (v := Int32.ofInt 1) (by decide) d_M_operand_60 ?_
                refine zr_iadd (pc := 61) d_M_operand_61 ?_
                refine zr_putI (hf_N96_.w hW) (pc := 62) f_M_305 rfl rfl ⟨by omega, by omega⟩ rfl rfl d_M_operand_62 (fun N99_ hsN99_ hvN99_ => ?_)
                have hf_N99_ : zFr [3, 4, 5, 6, 7, 8, 11, 38, 39, 41, 42, 43] [95, 100] Mz N99_ := hf_N96_.tr hsN99_ (by decide) (by decide)
                have e2_N99_ : ze N99_ 81 2 = ze N96_ 81 2 := hsN99_.e (by decide)
                have e3_N99_ : ze N99_ 81 3 = ze N96_ 81 3 := hsN99_.e (by decide)
                have e5_N99_ : ze N99_ 81 5 = ze N96_ 81 5 := hsN99_.e (by decide)
                have e6_N99_ : ze N99_ 81 6 = ze N96_ 81 6 := hsN99_.e (by decide)
                have e7_N99_ : ze N99_ 81 7 = ze N96_ 81 7 := hsN99_.e (by decide)
                have e14_N99_ : ze N99_ 81 14 = ze N96_ 81 14 := hsN99_.e (by decide)
                have e26_N99_ : ze N99_ 81 26 = ze N96_ 81 26 := hsN99_.e (by decide)
                have e38_N99_ : ze N99_ 81 38 = ze N96_ 81 38 := hsN99_.e (by decide)
                have r41_N99_ := ze_r N99_ 81 41
                have e42_N99_ : ze N99_ 81 42 = ze N96_ 81 42 := hsN99_.e (by decide)
                have e43_N99_ : ze N99_ 81 43 = ze N96_ 81 43 := hsN99_.e (by decide)
                have qzmu_N99_ : zmu N99_ = zmu N96_ := zmu_f hsN99_ (by decide)
                have c100_ : zGD N99_ := zGD.fr hsN99_ c97_ (by decide) (by decide)
                have c101_ : zTv N99_ := zTv.fr hsN99_ c98_ (by decide) (by decide)
                have hp_N99_ := zcw_push hN96_ hsN99_ hvN99_ (by omega) ⟨by omega, by omega⟩
                refine zw_aload_n (pc := 65) (n := 0) (x := 81) rfl d_M_operand_65 ?_
                refine zw_dup (pc := 66) rfl d_M_operand_66 ?_
                refine zr_getI (hf_N99_.w hW) (pc := 67) f_M_296 rfl d_M_operand_67 ?_
                refine zw_iconst (pc := 70) (v := Int32.ofInt 1) (by decide) d_M_operand_70 ?_
                refine zr_iadd (pc := 71) d_M_operand_71 ?_
                refine zr_putI (hf_N99_.w hW) (pc := 72) f_M_296 rfl rfl ⟨by omega, by omega⟩ rfl rfl d_M_operand_72 (fun N102_ hsN102_ hvN102_ => ?_)
                have hf_N102_ : zFr [3, 4, 5, 6, 7, 8, 11, 38, 39, 41, 42, 43] [95, 100] Mz N102_ := hf_N99_.tr hsN102_ (by decide) (by decide)
                have e2_N102_ : ze N102_ 81 2 = ze N99_ 81 2 := hsN102_.e (by decide)
                have e3_N102_ : ze N102_ 81 3 = ze N99_ 81 3 := hsN102_.e (by decide)
                have e5_N102_ : ze N102_ 81 5 = ze N99_ 81 5 := hsN102_.e (by decide)
                have e6_N102_ : ze N102_ 81 6 = ze N99_ 81 6 := hsN102_.e (by decide)
                have e7_N102_ : ze N102_ 81 7 = ze N99_ 81 7 := hsN102_.e (by decide)
                have e14_N102_ : ze N102_ 81 14 = ze N99_ 81 14 := hsN102_.e (by decide)
                have e26_N102_ : ze N102_ 81 26 = ze N99_ 81 26 := hsN102_.e (by decide)
                have e38_N102_ : ze N102_ 81 38 = ze N99_ 81 38 := hsN102_.e (by decide)
                have e41_N102_ : ze N102_ 81 41 = ze N99_ 81 41 := hsN102_.e (by decide)
                have r42_N102_ := ze_r N102_ 81 42
                have e43_N102_ : ze N102_ 81 43 = ze N99_ 81 43 := hsN102_.e (by decide)
                have qzcw_N102_ : zcw N102_ = zcw N99_ := zcw_f hsN102_ (by decide)
                have qzmu_N102_ : zmu N102_ = zmu N99_ := zmu_f hsN102_ (by decide)
                have c103_ : zGD N102_ := zGD.fr hsN102_ c100_ (by decide) (by decide)
                have c104_ : zTv N102_ := zTv.fr hsN102_ c101_ (by decide) (by decide)
                refine zw_aload_n (pc := 75) (n := 0) (x := 81) rfl d_M_operand_75 ?_
                refine zr_callV (hf_N102_.w hW) hf_N102_.x (pc := 76) [] [] l_M_183 (c_M_isGood l N102_ (hf_N102_.w hW) ) rfl rfl rfl (by decide) (Nat.le_of_ble_eq_true rfl) d_M_operand_76 ?_
                rintro _ N105_ ⟨v106_, rfl, ⟨hv106_a, hv106_b⟩, hsN105_, hp0_N105_⟩
                obtain rfl := hsN105_.eq.symm
                replace hp0_N105_ : ((v106_ = 1 ∧ ze N102_ 81 7 = 0) ∨ (v106_ = 0 ∧ ze N102_ 81 7 ≠ 0)) := hp0_N105_
                rcases hp0_N105_ with ⟨rfl, ha76_0_hp0_N105_⟩ | ⟨rfl, ha76_0_hp0_N105_⟩
                · skip
                  exfalso; omega
                · skip
                  show zW l m_M_operand (zn Mz + 0, zw Mz + 0) N102_ 79 [some (.ref 81), some (.int (Int32.ofInt 1)), none] [.int (Int32.ofInt 0)] (zpI [3, 4, 5, 6, 7, 8, 11, 38, 39, 41, 42, 43] [95, 100] Mz (fun v N => 0 ≤ ze N 81 3 ∧ ze N 81 3 ≤ ze N 81 2 ∧ zTv N ∧ (((v = 0 ∧ 1 ≤ ze N 81 7 ∧ zmu N = 0) ∨ (v = 0 ∧ ze N 81 7 = 0 ∧ zmu N < zmu Mz ∧ ze N 81 38 = zcw N ∧ 0 ≤ ze N 81 41 ∧ ze N 81 41 - zcw N ≤ ze N 81 43 ∧ ze N 81 42 = ze N 81 41 - zcw N ∧ ze N 81 38 ≤ ze N 81 43 ∧ ze N 81 43 ≤ 30) ∨ (v = 1 ∧ 1 ≤ ze N 81 7 ∧ zmu N = 0) ∨ (v = 1 ∧ ze N 81 7 = 0 ∧ zmu N < zmu Mz ∧ ze N 81 38 = zcw N + 1 ∧ 0 ≤ ze N 81 41 ∧ ze N 81 41 - zcw N ≤ ze N 81 43 ∧ ze N 81 42 = ze N 81 41 - zcw N ∧ ze N 81 38 ≤ ze N 81 43 ∧ ze N 81 43 ≤ 30)))))
                  refine zr_if_eq (pc := 79) (tgt := 86) ⟨(by decide), (by decide)⟩ (by decide) d_M_operand_79 (fun hc_79 => ?_) (fun hc_79 => ?_)
                  · skip
                    refine zw_iconst (pc := 86) (v := Int32.ofInt 0) (by decide) d_M_operand_86 ?_
                    have hz0 := zmu_s N102_
                    exact zr_iret (pc := 87) (ty := .boolean) rfl (z_narB (by omega)) ⟨by omega, by omega⟩ hf_N102_ ⟨(show 0 ≤ ze N102_ 81 3 by first | assumption | omega), (show ze N102_ 81 3 ≤ ze N102_ 81 2 by first | assumption | omega), c104_, (show ((0 = 0 ∧ 1 ≤ ze N102_ 81 7 ∧ zmu N102_ = 0) ∨ (0 = 0 ∧ ze N102_ 81 7 = 0 ∧ zmu N102_ < zmu Mz ∧ ze N102_ 81 38 = zcw N102_ ∧ 0 ≤ ze N102_ 81 41 ∧ ze N102_ 81 41 - zcw N102_ ≤ ze N102_ 81 43 ∧ ze N102_ 81 42 = ze N102_ 81 41 - zcw N102_ ∧ ze N102_ 81 38 ≤ ze N102_ 81 43 ∧ ze N102_ 81 43 ≤ 30) ∨ (0 = 1 ∧ 1 ≤ ze N102_ 81 7 ∧ zmu N102_ = 0) ∨ (0 = 1 ∧ ze N102_ 81 7 = 0 ∧ zmu N102_ < zmu Mz ∧ ze N102_ 81 38 = zcw N102_ + 1 ∧ 0 ≤ ze N102_ 81 41 ∧ ze N102_ 81 41 - zcw N102_ ≤ ze N102_ 81 43 ∧ ze N102_ 81 42 = ze N102_ 81 41 - zcw N102_ ∧ ze N102_ 81 38 ≤ ze N102_ 81 43 ∧ ze N102_ 81 43 ≤ 30)) from Or.inl (⟨(show 0 = 0 by first | assumption | omega), (show 1 ≤ ze N102_ 81 7 by first | assumption | omega), (show zmu N102_ = 0 by first | assumption | omega)⟩))⟩ d_M_operand_87
                  · skip
                    exact absurd hc_79 (by decide)
            · skip
              show zW l m_M_operand (zn Mz + 0, zw Mz + 0) N92_ 37 [some (.ref 81), some (.int (Int32.ofInt 1)), none] [] (zpI [3, 4, 5, 6, 7, 8, 11, 38, 39, 41, 42, 43] [95, 100] Mz (fun v N => 0 ≤ ze N 81 3 ∧ ze N 81 3 ≤ ze N 81 2 ∧ zTv N ∧ (((v = 0 ∧ 1 ≤ ze N 81 7 ∧ zmu N = 0) ∨ (v = 0 ∧ ze N 81 7 = 0 ∧ zmu N < zmu Mz ∧ ze N 81 38 = zcw N ∧ 0 ≤ ze N 81 41 ∧ ze N 81 41 - zcw N ≤ ze N 81 43 ∧ ze N 81 42 = ze N 81 41 - zcw N ∧ ze N 81 38 ≤ ze N 81 43 ∧ ze N 81 43 ≤ 30) ∨ (v = 1 ∧ 1 ≤ ze N 81 7 ∧ zmu N = 0) ∨ (v = 1 ∧ ze N 81 7 = 0 ∧ zmu N < zmu Mz ∧ ze N 81 38 = zcw N + 1 ∧ 0 ≤ ze N 81 41 ∧ ze N 81 41 - zcw N ≤ ze N 81 43 ∧ ze N 81 42 = ze N 81 41 - zcw N ∧ ze N 81 38 ≤ ze N 81 43 ∧ ze N 81 43 ≤ 30)))))
              refine zw_aload_n (pc := 37) (n := 0) (x := 81) rfl d_M_operand_37 ?_
              refine zr_getF (r := 100) (hf_N92_.w hW) (pc := 38) f_M_72 rfl (zh_100 (hf_N92_.w hW)).1 d_M_operand_38 ?_
              refine zw_aload_n (pc := 41) (n := 0) (x := 81) rfl d_M_operand_41 ?_
              refine zr_getI (hf_N92_.w hW) (pc := 42) f_M_305 rfl d_M_operand_42 ?_
              refine zw_iload_n (pc := 45) (n := 1) (x := Int32.ofInt 1) rfl d_M_operand_45 ?_
              refine zr_if_eq (pc := 46) (tgt := 53) ⟨(by decide), (by decide)⟩ (by decide) d_M_operand_46 (fun hc_46 => ?_) (fun hc_46 => ?_)
              · skip
                exact absurd hc_46 (by decide)
              · skip
                refine zw_iconst (pc := 49) (v := Int32.ofInt 0) (by decide) d_M_operand_49 ?_
                refine zw_goto (pc := 50) (tgt := 54) (by decide) d_M_operand_50 ?_
                refine zr_iast (pc := 54) (zh_100 (hf_N92_.w hW)).2 (by decide) (by decide) (by omega) (by omega) d_M_operand_54 (fun N107_ hN107_ hsN107_ => ?_)
                have hf_N107_ : zFr [3, 4, 5, 6, 7, 8, 11, 38, 39, 41, 42, 43] [95, 100] Mz N107_ := hf_N92_.tr hsN107_ (by decide) (by decide)
                have e2_N107_ : ze N107_ 81 2 = ze N92_ 81 2 := hsN107_.e (by decide)
                have e3_N107_ : ze N107_ 81 3 = ze N92_ 81 3 := hsN107_.e (by decide)
                have e5_N107_ : ze N107_ 81 5 = ze N92_ 81 5 := hsN107_.e (by decide)
                have e6_N107_ : ze N107_ 81 6 = ze N92_ 81 6 := hsN107_.e (by decide)
                have e7_N107_ : ze N107_ 81 7 = ze N92_ 81 7 := hsN107_.e (by decide)
                have e14_N107_ : ze N107_ 81 14 = ze N92_ 81 14 := hsN107_.e (by decide)
                have e26_N107_ : ze N107_ 81 26 = ze N92_ 81 26 := hsN107_.e (by decide)
                have e38_N107_ : ze N107_ 81 38 = ze N92_ 81 38 := hsN107_.e (by decide)
                have e41_N107_ : ze N107_ 81 41 = ze N92_ 81 41 := hsN107_.e (by decide)
                have e42_N107_ : ze N107_ 81 42 = ze N92_ 81 42 := hsN107_.e (by decide)
                have e43_N107_ : ze N107_ 81 43 = ze N92_ 81 43 := hsN107_.e (by decide)
                have qzmu_N107_ : zmu N107_ = zmu N92_ := zmu_f hsN107_ (by decide)
                have c108_ : zGD N107_ := zGD.fr hsN107_ c94_ (by decide) (by decide)
                have c109_ : zTv N107_ := zTv.fr hsN107_ c95_ (by decide) (by decide)
                refine zw_aload_n (pc := 55) (n := 0) (x := 81) rfl d_M_operand_55 ?_
                refine zw_dup (pc := 56) rfl d_M_operand_56 ?_
                refine zr_getI (hf_N107_.w hW) (pc := 57) f_M_305 rfl d_M_operand_57 ?_
                refine zw_iconst (pc := 60) (v := Int32.ofInt 1) (by decide) d_M_operand_60 ?_
                refine zr_iadd (pc := 61) d_M_operand_61 ?_
                refine zr_putI (hf_N107_.w hW) (pc := 62) f_M_305 rfl rfl ⟨by omega, by omega⟩ rfl rfl d_M_operand_62 (fun N110_ hsN110_ hvN110_ => ?_)
                have hf_N110_ : zFr [3, 4, 5, 6, 7, 8, 11, 38, 39, 41, 42, 43] [95, 100] Mz N110_ := hf_N107_.tr hsN110_ (by decide) (by decide)
                have e2_N110_ : ze N110_ 81 2 = ze N107_ 81 2 := hsN110_.e (by decide)
                have e3_N110_ : ze N110_ 81 3 = ze N107_ 81 3 := hsN110_.e (by decide)
                have e5_N110_ : ze N110_ 81 5 = ze N107_ 81 5 := hsN110_.e (by decide)
                have e6_N110_ : ze N110_ 81 6 = ze N107_ 81 6 := hsN110_.e (by decide)
                have e7_N110_ : ze N110_ 81 7 = ze N107_ 81 7 := hsN110_.e (by decide)
                have e14_N110_ : ze N110_ 81 14 = ze N107_ 81 14 := hsN110_.e (by decide)
                have e26_N110_ : ze N110_ 81 26 = ze N107_ 81 26 := hsN110_.e (by decide)
                have e38_N110_ : ze N110_ 81 38 = ze N107_ 81 38 := hsN110_.e (by decide)
                have r41_N110_ := ze_r N110_ 81 41
                have e42_N110_ : ze N110_ 81 42 = ze N107_ 81 42 := hsN110_.e (by decide)
                have e43_N110_ : ze N110_ 81 43 = ze N107_ 81 43 := hsN110_.e (by decide)
                have qzmu_N110_ : zmu N110_ = zmu N107_ := zmu_f hsN110_ (by decide)
                have c111_ : zGD N110_ := zGD.fr hsN110_ c108_ (by decide) (by decide)
                have c112_ : zTv N110_ := zTv.fr hsN110_ c109_ (by decide) (by decide)
                have hp_N110_ := zcw_push hN107_ hsN110_ hvN110_ (by omega) ⟨by omega, by omega⟩
                refine zw_aload_n (pc := 65) (n := 0) (x := 81) rfl d_M_operand_65 ?_
                refine zw_dup (pc := 66) rfl d_M_operand_66 ?_
                refine zr_getI (hf_N110_.w hW) (pc := 67) f_M_296 rfl d_M_operand_67 ?_
                refine zw_iconst (pc := 70) (v := Int32.ofInt 1) (by decide) d_M_operand_70 ?_
                refine zr_iadd (pc := 71) d_M_operand_71 ?_
                refine zr_putI (hf_N110_.w hW) (pc := 72) f_M_296 rfl rfl ⟨by omega, by omega⟩ rfl rfl d_M_operand_72 (fun N113_ hsN113_ hvN113_ => ?_)
                have hf_N113_ : zFr [3, 4, 5, 6, 7, 8, 11, 38, 39, 41, 42, 43] [95, 100] Mz N113_ := hf_N110_.tr hsN113_ (by decide) (by decide)
                have e2_N113_ : ze N113_ 81 2 = ze N110_ 81 2 := hsN113_.e (by decide)
                have e3_N113_ : ze N113_ 81 3 = ze N110_ 81 3 := hsN113_.e (by decide)
                have e5_N113_ : ze N113_ 81 5 = ze N110_ 81 5 := hsN113_.e (by decide)
                have e6_N113_ : ze N113_ 81 6 = ze N110_ 81 6 := hsN113_.e (by decide)
                have e7_N113_ : ze N113_ 81 7 = ze N110_ 81 7 := hsN113_.e (by decide)
                have e14_N113_ : ze N113_ 81 14 = ze N110_ 81 14 := hsN113_.e (by decide)
                have e26_N113_ : ze N113_ 81 26 = ze N110_ 81 26 := hsN113_.e (by decide)
                have e38_N113_ : ze N113_ 81 38 = ze N110_ 81 38 := hsN113_.e (by decide)
                have e41_N113_ : ze N113_ 81 41 = ze N110_ 81 41 := hsN113_.e (by decide)
                have r42_N113_ := ze_r N113_ 81 42
                have e43_N113_ : ze N113_ 81 43 = ze N110_ 81 43 := hsN113_.e (by decide)
                have qzcw_N113_ : zcw N113_ = zcw N110_ := zcw_f hsN113_ (by decide)
                have qzmu_N113_ : zmu N113_ = zmu N110_ := zmu_f hsN113_ (by decide)
                have c114_ : zGD N113_ := zGD.fr hsN113_ c111_ (by decide) (by decide)
                have c115_ : zTv N113_ := zTv.fr hsN113_ c112_ (by decide) (by decide)
                refine zw_aload_n (pc := 75) (n := 0) (x := 81) rfl d_M_operand_75 ?_
                refine zr_callV (hf_N113_.w hW) hf_N113_.x (pc := 76) [] [] l_M_183 (c_M_isGood l N113_ (hf_N113_.w hW) ) rfl rfl rfl (by decide) (Nat.le_of_ble_eq_true rfl) d_M_operand_76 ?_
                rintro _ N116_ ⟨v117_, rfl, ⟨hv117_a, hv117_b⟩, hsN116_, hp0_N116_⟩
                obtain rfl := hsN116_.eq.symm
                replace hp0_N116_ : ((v117_ = 1 ∧ ze N113_ 81 7 = 0) ∨ (v117_ = 0 ∧ ze N113_ 81 7 ≠ 0)) := hp0_N116_
                rcases hp0_N116_ with ⟨rfl, ha76_0_hp0_N116_⟩ | ⟨rfl, ha76_0_hp0_N116_⟩
                · skip
                  show zW l m_M_operand (zn Mz + 0, zw Mz + 0) N113_ 79 [some (.ref 81), some (.int (Int32.ofInt 1)), none] [.int (Int32.ofInt 1)] (zpI [3, 4, 5, 6, 7, 8, 11, 38, 39, 41, 42, 43] [95, 100] Mz (fun v N => 0 ≤ ze N 81 3 ∧ ze N 81 3 ≤ ze N 81 2 ∧ zTv N ∧ (((v = 0 ∧ 1 ≤ ze N 81 7 ∧ zmu N = 0) ∨ (v = 0 ∧ ze N 81 7 = 0 ∧ zmu N < zmu Mz ∧ ze N 81 38 = zcw N ∧ 0 ≤ ze N 81 41 ∧ ze N 81 41 - zcw N ≤ ze N 81 43 ∧ ze N 81 42 = ze N 81 41 - zcw N ∧ ze N 81 38 ≤ ze N 81 43 ∧ ze N 81 43 ≤ 30) ∨ (v = 1 ∧ 1 ≤ ze N 81 7 ∧ zmu N = 0) ∨ (v = 1 ∧ ze N 81 7 = 0 ∧ zmu N < zmu Mz ∧ ze N 81 38 = zcw N + 1 ∧ 0 ≤ ze N 81 41 ∧ ze N 81 41 - zcw N ≤ ze N 81 43 ∧ ze N 81 42 = ze N 81 41 - zcw N ∧ ze N 81 38 ≤ ze N 81 43 ∧ ze N 81 43 ≤ 30)))))
                  refine zr_if_eq (pc := 79) (tgt := 86) ⟨(by decide), (by decide)⟩ (by decide) d_M_operand_79 (fun hc_79 => ?_) (fun hc_79 => ?_)
                  · skip
                    exact absurd hc_79 (by decide)
                  · skip
                    refine zw_aload_n (pc := 82) (n := 0) (x := 81) rfl d_M_operand_82 ?_
                    refine zr_callV (hf_N113_.w hW) hf_N113_.x (pc := 83) [] [] l_M_193 (c_M_goOn l N113_ (hf_N113_.w hW) (show 0 ≤ ze N113_ 81 3 by first | assumption | omega) (show ze N113_ 81 3 ≤ ze N113_ 81 2 by first | assumption | omega) (show ze N113_ 81 2 ≤ 700 by first | assumption | omega) (show ze N113_ 81 5 ≠ 0 by first | assumption | omega) (show ze N113_ 81 7 = 0 by first | assumption | omega)) rfl rfl rfl (by decide) (Nat.le_of_ble_eq_true rfl) d_M_operand_83 ?_
                    rintro _ N118_ ⟨rfl, hsN118_, ⟨hp0_N118_, hp1_N118_, hp2_N118_, hp3_N118_, hp4_N118_⟩⟩
                    have hf_N118_ : zFr [3, 4, 5, 6, 7, 8, 11, 38, 39, 41, 42, 43] [95, 100] Mz N118_ := hf_N113_.tr hsN118_ (by decide) (by decide)
                    have e2_N118_ : ze N118_ 81 2 = ze N113_ 81 2 := hsN118_.e (by decide)
                    have r3_N118_ := ze_r N118_ 81 3
                    have r5_N118_ := ze_r N118_ 81 5
                    have r6_N118_ := ze_r N118_ 81 6
                    have e7_N118_ : ze N118_ 81 7 = ze N113_ 81 7 := hsN118_.e (by decide)
                    have e14_N118_ : ze N118_ 81 14 = ze N113_ 81 14 := hsN118_.e (by decide)
                    have e26_N118_ : ze N118_ 81 26 = ze N113_ 81 26 := hsN118_.e (by decide)
                    have e38_N118_ : ze N118_ 81 38 = ze N113_ 81 38 := hsN118_.e (by decide)
                    have e41_N118_ : ze N118_ 81 41 = ze N113_ 81 41 := hsN118_.e (by decide)
                    have e42_N118_ : ze N118_ 81 42 = ze N113_ 81 42 := hsN118_.e (by decide)
                    have e43_N118_ : ze N118_ 81 43 = ze N113_ 81 43 := hsN118_.e (by decide)
                    have qzcw_N118_ : zcw N118_ = zcw N113_ := zcw_f hsN118_ (by decide)
                    have c120_ : zGD N118_ := zGD.fr hsN118_ c114_ (by decide) (by decide)
                    show zW l m_M_operand (zn Mz + 0, zw Mz + 0) N118_ 86 [some (.ref 81), some (.int (Int32.ofInt 1)), none] [] (zpI [3, 4, 5, 6, 7, 8, 11, 38, 39, 41, 42, 43] [95, 100] Mz (fun v N => 0 ≤ ze N 81 3 ∧ ze N 81 3 ≤ ze N 81 2 ∧ zTv N ∧ (((v = 0 ∧ 1 ≤ ze N 81 7 ∧ zmu N = 0) ∨ (v = 0 ∧ ze N 81 7 = 0 ∧ zmu N < zmu Mz ∧ ze N 81 38 = zcw N ∧ 0 ≤ ze N 81 41 ∧ ze N 81 41 - zcw N ≤ ze N 81 43 ∧ ze N 81 42 = ze N 81 41 - zcw N ∧ ze N 81 38 ≤ ze N 81 43 ∧ ze N 81 43 ≤ 30) ∨ (v = 1 ∧ 1 ≤ ze N 81 7 ∧ zmu N = 0) ∨ (v = 1 ∧ ze N 81 7 = 0 ∧ zmu N < zmu Mz ∧ ze N 81 38 = zcw N + 1 ∧ 0 ≤ ze N 81 41 ∧ ze N 81 41 - zcw N ≤ ze N 81 43 ∧ ze N 81 42 = ze N 81 41 - zcw N ∧ ze N 81 38 ≤ ze N 81 43 ∧ ze N 81 43 ≤ 30)))))
                    refine zw_iconst (pc := 86) (v := Int32.ofInt 0) (by decide) d_M_operand_86 ?_
                    have hz0 := zmu_s N118_
                    exact zr_iret (pc := 87) (ty := .boolean) rfl (z_narB (by omega)) ⟨by omega, by omega⟩ hf_N118_ ⟨(show 0 ≤ ze N118_ 81 3 by first | assumption | omega), (show ze N118_ 81 3 ≤ ze N118_ 81 2 by first | assumption | omega), hp2_N118_, (show ((0 = 0 ∧ 1 ≤ ze N118_ 81 7 ∧ zmu N118_ = 0) ∨ (0 = 0 ∧ ze N118_ 81 7 = 0 ∧ zmu N118_ < zmu Mz ∧ ze N118_ 81 38 = zcw N118_ ∧ 0 ≤ ze N118_ 81 41 ∧ ze N118_ 81 41 - zcw N118_ ≤ ze N118_ 81 43 ∧ ze N118_ 81 42 = ze N118_ 81 41 - zcw N118_ ∧ ze N118_ 81 38 ≤ ze N118_ 81 43 ∧ ze N118_ 81 43 ≤ 30) ∨ (0 = 1 ∧ 1 ≤ ze N118_ 81 7 ∧ zmu N118_ = 0) ∨ (0 = 1 ∧ ze N118_ 81 7 = 0 ∧ zmu N118_ < zmu Mz ∧ ze N118_ 81 38 = zcw N118_ + 1 ∧ 0 ≤ ze N118_ 81 41 ∧ ze N118_ 81 41 - zcw N118_ ≤ ze N118_ 81 43 ∧ ze N118_ 81 42 = ze N118_ 81 41 - zcw N118_ ∧ ze N118_ 81 38 ≤ ze N118_ 81 43 ∧ ze N118_ 81 43 ≤ 30)) from Or.inr (Or.inl (⟨(show 0 = 0 by first | assumption | omega), (show ze N118_ 81 7 = 0 by first | assumption | omega), (show zmu N118_ < zmu Mz by first | assumption | omega), (show ze N118_ 81 38 = zcw N118_ by first | assumption | omega), (show 0 ≤ ze N118_ 81 41 by first | assumption | omega), (show ze N118_ 81 41 - zcw N118_ ≤ ze N118_ 81 43 by first | assumption | omega), (show ze N118_ 81 42 = ze N118_ 81 41 - zcw N118_ by first | assumption | omega), (show ze N118_ 81 38 ≤ ze N118_ 81 43 by first | assumption | omega), (show ze N118_ 81 43 ≤ 30 by first | assumption | omega)⟩)))⟩ d_M_operand_87
                · skip
                  exfalso; omega
      · skip
        show zW l m_M_operand (zn Mz + 0, zw Mz + 0) Mz 15 [some (.ref 81), none, none] [.int (Int32.ofInt 0)] (zpI [3, 4, 5, 6, 7, 8, 11, 38, 39, 41, 42, 43] [95, 100] Mz (fun v N => 0 ≤ ze N 81 3 ∧ ze N 81 3 ≤ ze N 81 2 ∧ zTv N ∧ (((v = 0 ∧ 1 ≤ ze N 81 7 ∧ zmu N = 0) ∨ (v = 0 ∧ ze N 81 7 = 0 ∧ zmu N < zmu Mz ∧ ze N 81 38 = zcw N ∧ 0 ≤ ze N 81 41 ∧ ze N 81 41 - zcw N ≤ ze N 81 43 ∧ ze N 81 42 = ze N 81 41 - zcw N ∧ ze N 81 38 ≤ ze N 81 43 ∧ ze N 81 43 ≤ 30) ∨ (v = 1 ∧ 1 ≤ ze N 81 7 ∧ zmu N = 0) ∨ (v = 1 ∧ ze N 81 7 = 0 ∧ zmu N < zmu Mz ∧ ze N 81 38 = zcw N + 1 ∧ 0 ≤ ze N 81 41 ∧ ze N 81 41 - zcw N ≤ ze N 81 43 ∧ ze N 81 42 = ze N 81 41 - zcw N ∧ ze N 81 38 ≤ ze N 81 43 ∧ ze N 81 43 ≤ 30)))))
        refine zr_if_eq (pc := 15) (tgt := 88) ⟨(by decide), (by decide)⟩ (by decide) d_M_operand_15 (fun hc_15 => ?_) (fun hc_15 => ?_)
        · skip
          refine zw_aload_n (pc := 88) (n := 0) (x := 81) rfl d_M_operand_88 ?_
          refine zr_callV (hf.w hW) hf.x (pc := 89) [] [] l_M_183 (c_M_isGood l Mz (hf.w hW) ) rfl rfl rfl (by decide) (Nat.le_of_ble_eq_true rfl) d_M_operand_89 ?_
          rintro _ N121_ ⟨v122_, rfl, ⟨hv122_a, hv122_b⟩, hsN121_, hp0_N121_⟩
          obtain rfl := hsN121_.eq.symm
          replace hp0_N121_ : ((v122_ = 1 ∧ ze Mz 81 7 = 0) ∨ (v122_ = 0 ∧ ze Mz 81 7 ≠ 0)) := hp0_N121_
          rcases hp0_N121_ with ⟨rfl, ha89_0_hp0_N121_⟩ | ⟨rfl, ha89_0_hp0_N121_⟩
          · skip
            show zW l m_M_operand (zn Mz + 0, zw Mz + 0) Mz 92 [some (.ref 81), none, none] [.int (Int32.ofInt 1)] (zpI [3, 4, 5, 6, 7, 8, 11, 38, 39, 41, 42, 43] [95, 100] Mz (fun v N => 0 ≤ ze N 81 3 ∧ ze N 81 3 ≤ ze N 81 2 ∧ zTv N ∧ (((v = 0 ∧ 1 ≤ ze N 81 7 ∧ zmu N = 0) ∨ (v = 0 ∧ ze N 81 7 = 0 ∧ zmu N < zmu Mz ∧ ze N 81 38 = zcw N ∧ 0 ≤ ze N 81 41 ∧ ze N 81 41 - zcw N ≤ ze N 81 43 ∧ ze N 81 42 = ze N 81 41 - zcw N ∧ ze N 81 38 ≤ ze N 81 43 ∧ ze N 81 43 ≤ 30) ∨ (v = 1 ∧ 1 ≤ ze N 81 7 ∧ zmu N = 0) ∨ (v = 1 ∧ ze N 81 7 = 0 ∧ zmu N < zmu Mz ∧ ze N 81 38 = zcw N + 1 ∧ 0 ≤ ze N 81 41 ∧ ze N 81 41 - zcw N ≤ ze N 81 43 ∧ ze N 81 42 = ze N 81 41 - zcw N ∧ ze N 81 38 ≤ ze N 81 43 ∧ ze N 81 43 ≤ 30)))))
            refine zr_if_eq (pc := 92) (tgt := 125) ⟨(by decide), (by decide)⟩ (by decide) d_M_operand_92 (fun hc_92 => ?_) (fun hc_92 => ?_)
            · skip
              exact absurd hc_92 (by decide)
            · skip
              refine zw_aload_n (pc := 95) (n := 0) (x := 81) rfl d_M_operand_95 ?_
              refine zr_getI (hf.w hW) (pc := 96) f_M_155 rfl d_M_operand_96 ?_
              refine zw_iconst (pc := 99) (v := Int32.ofInt 2) (by decide) d_M_operand_99 ?_
              refine zr_icmp_ne (pc := 100) (tgt := 125) ⟨(ze_r Mz 81 5).1, (ze_r Mz 81 5).2⟩ ⟨(by decide), (by decide)⟩ (by decide) d_M_operand_100 (fun hc_100 => ?_) (fun hc_100 => ?_)
              · skip
                refine zw_aload_n (pc := 125) (n := 0) (x := 81) rfl d_M_operand_125 ?_
                refine zr_ldc2 (pc := 126) (n := 1936683636) (by decide) k_M_181 d_M_operand_126 ?_
                refine zr_callV (hf.w hW) hf.x (pc := 129) [.long (Int64.ofInt 1936683636)] [] l_M_312 (c_M_isWord l Mz (hf.w hW) 1936683636 (by decide) (by decide)) rfl rfl rfl (by decide) (Nat.le_of_ble_eq_true rfl) d_M_operand_129 ?_
                rintro _ N123_ ⟨v124_, rfl, ⟨hv124_a, hv124_b⟩, hsN123_, hp0_N123_⟩
                obtain rfl := hsN123_.eq.symm
                replace hp0_N123_ : ((v124_ = 1 ∧ ze Mz 81 7 = 0 ∧ ze Mz 81 5 = 1) ∨ (v124_ = 0)) := hp0_N123_
                rcases hp0_N123_ with ⟨rfl, ha129_0_hp0_N123_, ha129_1_hp0_N123_⟩ | rfl
                · skip
                  show zW l m_M_operand (zn Mz + 0, zw Mz + 0) Mz 132 [some (.ref 81), none, none] [.int (Int32.ofInt 1)] (zpI [3, 4, 5, 6, 7, 8, 11, 38, 39, 41, 42, 43] [95, 100] Mz (fun v N => 0 ≤ ze N 81 3 ∧ ze N 81 3 ≤ ze N 81 2 ∧ zTv N ∧ (((v = 0 ∧ 1 ≤ ze N 81 7 ∧ zmu N = 0) ∨ (v = 0 ∧ ze N 81 7 = 0 ∧ zmu N < zmu Mz ∧ ze N 81 38 = zcw N ∧ 0 ≤ ze N 81 41 ∧ ze N 81 41 - zcw N ≤ ze N 81 43 ∧ ze N 81 42 = ze N 81 41 - zcw N ∧ ze N 81 38 ≤ ze N 81 43 ∧ ze N 81 43 ≤ 30) ∨ (v = 1 ∧ 1 ≤ ze N 81 7 ∧ zmu N = 0) ∨ (v = 1 ∧ ze N 81 7 = 0 ∧ zmu N < zmu Mz ∧ ze N 81 38 = zcw N + 1 ∧ 0 ≤ ze N 81 41 ∧ ze N 81 41 - zcw N ≤ ze N 81 43 ∧ ze N 81 42 = ze N 81 41 - zcw N ∧ ze N 81 38 ≤ ze N 81 43 ∧ ze N 81 43 ≤ 30)))))
                  refine zr_if_eq (pc := 132) (tgt := 212) ⟨(by decide), (by decide)⟩ (by decide) d_M_operand_132 (fun hc_132 => ?_) (fun hc_132 => ?_)
                  · skip
                    exact absurd hc_132 (by decide)
                  · skip
                    refine zw_aload_n (pc := 135) (n := 0) (x := 81) rfl d_M_operand_135 ?_
                    refine zr_callV (hf.w hW) hf.x (pc := 136) [] [] l_M_302 (c_M_countsUnit l Mz (hf.w hW) (show 0 ≤ ze Mz 81 7 by first | assumption | omega) (show 0 ≤ ze Mz 81 43 by first | assumption | omega) (show ze Mz 81 43 ≤ 1000 by first | assumption | omega)) rfl rfl rfl (by decide) (Nat.le_of_ble_eq_true rfl) d_M_operand_136 ?_
                    rintro _ N125_ ⟨rfl, hsN125_, ⟨hp0_N125_, hp1_N125_⟩⟩
                    have hf_N125_ : zFr [3, 4, 5, 6, 7, 8, 11, 38, 39, 41, 42, 43] [95, 100] Mz N125_ := hf.tr hsN125_ (by decide) (by decide)
                    have e2_N125_ : ze N125_ 81 2 = ze Mz 81 2 := hsN125_.e (by decide)
                    have e3_N125_ : ze N125_ 81 3 = ze Mz 81 3 := hsN125_.e (by decide)
                    have e5_N125_ : ze N125_ 81 5 = ze Mz 81 5 := hsN125_.e (by decide)
                    have e6_N125_ : ze N125_ 81 6 = ze Mz 81 6 := hsN125_.e (by decide)
                    have r7_N125_ := ze_r N125_ 81 7
                    have e14_N125_ : ze N125_ 81 14 = ze Mz 81 14 := hsN125_.e (by decide)
                    have e26_N125_ : ze N125_ 81 26 = ze Mz 81 26 := hsN125_.e (by decide)
                    have e38_N125_ : ze N125_ 81 38 = ze Mz 81 38 := hsN125_.e (by decide)
                    have e41_N125_ : ze N125_ 81 41 = ze Mz 81 41 := hsN125_.e (by decide)
                    have e42_N125_ : ze N125_ 81 42 = ze Mz 81 42 := hsN125_.e (by decide)
                    have r43_N125_ := ze_r N125_ 81 43
                    have qzcw_N125_ : zcw N125_ = zcw Mz := zcw_f hsN125_ (by decide)
                    have c127_ : zGD N125_ := zGD.fr hsN125_ p0_ (by decide) (by decide)
                    have c128_ : zTv N125_ := zTv.fr hsN125_ p4_ (by decide) (by decide)
                    rcases hp1_N125_ with ⟨ha136_0_hp1_N125_, ha136_1_hp1_N125_⟩ | ⟨ha136_0_hp1_N125_, ha136_1_hp1_N125_, ha136_2_hp1_N125_, ha136_3_hp1_N125_⟩
                    · skip
                      show zW l m_M_operand (zn Mz + 0, zw Mz + 0) N125_ 139 [some (.ref 81), none, none] [] (zpI [3, 4, 5, 6, 7, 8, 11, 38, 39, 41, 42, 43] [95, 100] Mz (fun v N => 0 ≤ ze N 81 3 ∧ ze N 81 3 ≤ ze N 81 2 ∧ zTv N ∧ (((v = 0 ∧ 1 ≤ ze N 81 7 ∧ zmu N = 0) ∨ (v = 0 ∧ ze N 81 7 = 0 ∧ zmu N < zmu Mz ∧ ze N 81 38 = zcw N ∧ 0 ≤ ze N 81 41 ∧ ze N 81 41 - zcw N ≤ ze N 81 43 ∧ ze N 81 42 = ze N 81 41 - zcw N ∧ ze N 81 38 ≤ ze N 81 43 ∧ ze N 81 43 ≤ 30) ∨ (v = 1 ∧ 1 ≤ ze N 81 7 ∧ zmu N = 0) ∨ (v = 1 ∧ ze N 81 7 = 0 ∧ zmu N < zmu Mz ∧ ze N 81 38 = zcw N + 1 ∧ 0 ≤ ze N 81 41 ∧ ze N 81 41 - zcw N ≤ ze N 81 43 ∧ ze N 81 42 = ze N 81 41 - zcw N ∧ ze N 81 38 ≤ ze N 81 43 ∧ ze N 81 43 ≤ 30)))))
                      refine zw_aload_n (pc := 139) (n := 0) (x := 81) rfl d_M_operand_139 ?_
                      refine zr_callV (hf_N125_.w hW) hf_N125_.x (pc := 140) [] [] l_M_183 (c_M_isGood l N125_ (hf_N125_.w hW) ) rfl rfl rfl (by decide) (Nat.le_of_ble_eq_true rfl) d_M_operand_140 ?_
                      rintro _ N129_ ⟨v130_, rfl, ⟨hv130_a, hv130_b⟩, hsN129_, hp0_N129_⟩
                      obtain rfl := hsN129_.eq.symm
                      replace hp0_N129_ : ((v130_ = 1 ∧ ze N125_ 81 7 = 0) ∨ (v130_ = 0 ∧ ze N125_ 81 7 ≠ 0)) := hp0_N129_
                      rcases hp0_N129_ with ⟨rfl, ha140_0_hp0_N129_⟩ | ⟨rfl, ha140_0_hp0_N129_⟩
                      · skip
                        exfalso; omega
                      · skip
                        show zW l m_M_operand (zn Mz + 0, zw Mz + 0) N125_ 143 [some (.ref 81), none, none] [.int (Int32.ofInt 0)] (zpI [3, 4, 5, 6, 7, 8, 11, 38, 39, 41, 42, 43] [95, 100] Mz (fun v N => 0 ≤ ze N 81 3 ∧ ze N 81 3 ≤ ze N 81 2 ∧ zTv N ∧ (((v = 0 ∧ 1 ≤ ze N 81 7 ∧ zmu N = 0) ∨ (v = 0 ∧ ze N 81 7 = 0 ∧ zmu N < zmu Mz ∧ ze N 81 38 = zcw N ∧ 0 ≤ ze N 81 41 ∧ ze N 81 41 - zcw N ≤ ze N 81 43 ∧ ze N 81 42 = ze N 81 41 - zcw N ∧ ze N 81 38 ≤ ze N 81 43 ∧ ze N 81 43 ≤ 30) ∨ (v = 1 ∧ 1 ≤ ze N 81 7 ∧ zmu N = 0) ∨ (v = 1 ∧ ze N 81 7 = 0 ∧ zmu N < zmu Mz ∧ ze N 81 38 = zcw N + 1 ∧ 0 ≤ ze N 81 41 ∧ ze N 81 41 - zcw N ≤ ze N 81 43 ∧ ze N 81 42 = ze N 81 41 - zcw N ∧ ze N 81 38 ≤ ze N 81 43 ∧ ze N 81 43 ≤ 30)))))
                        refine zr_if_eq (pc := 143) (tgt := 150) ⟨(by decide), (by decide)⟩ (by decide) d_M_operand_143 (fun hc_143 => ?_) (fun hc_143 => ?_)
                        · skip
                          refine zw_aload_n (pc := 150) (n := 0) (x := 81) rfl d_M_operand_150 ?_
                          refine zr_callV (hf_N125_.w hW) hf_N125_.x (pc := 151) [] [] l_M_183 (c_M_isGood l N125_ (hf_N125_.w hW) ) rfl rfl rfl (by decide) (Nat.le_of_ble_eq_true rfl) d_M_operand_151 ?_
                          rintro _ N131_ ⟨v132_, rfl, ⟨hv132_a, hv132_b⟩, hsN131_, hp0_N131_⟩
                          obtain rfl := hsN131_.eq.symm
                          replace hp0_N131_ : ((v132_ = 1 ∧ ze N125_ 81 7 = 0) ∨ (v132_ = 0 ∧ ze N125_ 81 7 ≠ 0)) := hp0_N131_
                          rcases hp0_N131_ with ⟨rfl, ha151_0_hp0_N131_⟩ | ⟨rfl, ha151_0_hp0_N131_⟩
                          · skip
                            exfalso; omega
                          · skip
                            show zW l m_M_operand (zn Mz + 0, zw Mz + 0) N125_ 154 [some (.ref 81), none, none] [.int (Int32.ofInt 0)] (zpI [3, 4, 5, 6, 7, 8, 11, 38, 39, 41, 42, 43] [95, 100] Mz (fun v N => 0 ≤ ze N 81 3 ∧ ze N 81 3 ≤ ze N 81 2 ∧ zTv N ∧ (((v = 0 ∧ 1 ≤ ze N 81 7 ∧ zmu N = 0) ∨ (v = 0 ∧ ze N 81 7 = 0 ∧ zmu N < zmu Mz ∧ ze N 81 38 = zcw N ∧ 0 ≤ ze N 81 41 ∧ ze N 81 41 - zcw N ≤ ze N 81 43 ∧ ze N 81 42 = ze N 81 41 - zcw N ∧ ze N 81 38 ≤ ze N 81 43 ∧ ze N 81 43 ≤ 30) ∨ (v = 1 ∧ 1 ≤ ze N 81 7 ∧ zmu N = 0) ∨ (v = 1 ∧ ze N 81 7 = 0 ∧ zmu N < zmu Mz ∧ ze N 81 38 = zcw N + 1 ∧ 0 ≤ ze N 81 41 ∧ ze N 81 41 - zcw N ≤ ze N 81 43 ∧ ze N 81 42 = ze N 81 41 - zcw N ∧ ze N 81 38 ≤ ze N 81 43 ∧ ze N 81 43 ≤ 30)))))
                            refine zr_if_eq (pc := 154) (tgt := 170) ⟨(by decide), (by decide)⟩ (by decide) d_M_operand_154 (fun hc_154 => ?_) (fun hc_154 => ?_)
                            · skip
                              refine zw_aload_n (pc := 170) (n := 0) (x := 81) rfl d_M_operand_170 ?_
                              refine zr_callV (hf_N125_.w hW) hf_N125_.x (pc := 171) [] [] l_M_183 (c_M_isGood l N125_ (hf_N125_.w hW) ) rfl rfl rfl (by decide) (Nat.le_of_ble_eq_true rfl) d_M_operand_171 ?_
                              rintro _ N133_ ⟨v134_, rfl, ⟨hv134_a, hv134_b⟩, hsN133_, hp0_N133_⟩
                              obtain rfl := hsN133_.eq.symm
                              replace hp0_N133_ : ((v134_ = 1 ∧ ze N125_ 81 7 = 0) ∨ (v134_ = 0 ∧ ze N125_ 81 7 ≠ 0)) := hp0_N133_
                              rcases hp0_N133_ with ⟨rfl, ha171_0_hp0_N133_⟩ | ⟨rfl, ha171_0_hp0_N133_⟩
                              · skip
                                exfalso; omega
                              · skip
                                show zW l m_M_operand (zn Mz + 0, zw Mz + 0) N125_ 174 [some (.ref 81), none, none] [.int (Int32.ofInt 0)] (zpI [3, 4, 5, 6, 7, 8, 11, 38, 39, 41, 42, 43] [95, 100] Mz (fun v N => 0 ≤ ze N 81 3 ∧ ze N 81 3 ≤ ze N 81 2 ∧ zTv N ∧ (((v = 0 ∧ 1 ≤ ze N 81 7 ∧ zmu N = 0) ∨ (v = 0 ∧ ze N 81 7 = 0 ∧ zmu N < zmu Mz ∧ ze N 81 38 = zcw N ∧ 0 ≤ ze N 81 41 ∧ ze N 81 41 - zcw N ≤ ze N 81 43 ∧ ze N 81 42 = ze N 81 41 - zcw N ∧ ze N 81 38 ≤ ze N 81 43 ∧ ze N 81 43 ≤ 30) ∨ (v = 1 ∧ 1 ≤ ze N 81 7 ∧ zmu N = 0) ∨ (v = 1 ∧ ze N 81 7 = 0 ∧ zmu N < zmu Mz ∧ ze N 81 38 = zcw N + 1 ∧ 0 ≤ ze N 81 41 ∧ ze N 81 41 - zcw N ≤ ze N 81 43 ∧ ze N 81 42 = ze N 81 41 - zcw N ∧ ze N 81 38 ≤ ze N 81 43 ∧ ze N 81 43 ≤ 30)))))
                                refine zr_if_eq (pc := 174) (tgt := 193) ⟨(by decide), (by decide)⟩ (by decide) d_M_operand_174 (fun hc_174 => ?_) (fun hc_174 => ?_)
                                · skip
                                  refine zw_aload_n (pc := 193) (n := 0) (x := 81) rfl d_M_operand_193 ?_
                                  refine zr_callV (hf_N125_.w hW) hf_N125_.x (pc := 194) [] [] l_M_183 (c_M_isGood l N125_ (hf_N125_.w hW) ) rfl rfl rfl (by decide) (Nat.le_of_ble_eq_true rfl) d_M_operand_194 ?_
                                  rintro _ N135_ ⟨v136_, rfl, ⟨hv136_a, hv136_b⟩, hsN135_, hp0_N135_⟩
                                  obtain rfl := hsN135_.eq.symm
                                  replace hp0_N135_ : ((v136_ = 1 ∧ ze N125_ 81 7 = 0) ∨ (v136_ = 0 ∧ ze N125_ 81 7 ≠ 0)) := hp0_N135_
                                  rcases hp0_N135_ with ⟨rfl, ha194_0_hp0_N135_⟩ | ⟨rfl, ha194_0_hp0_N135_⟩
                                  · skip
                                    exfalso; omega
                                  · skip
                                    show zW l m_M_operand (zn Mz + 0, zw Mz + 0) N125_ 197 [some (.ref 81), none, none] [.int (Int32.ofInt 0)] (zpI [3, 4, 5, 6, 7, 8, 11, 38, 39, 41, 42, 43] [95, 100] Mz (fun v N => 0 ≤ ze N 81 3 ∧ ze N 81 3 ≤ ze N 81 2 ∧ zTv N ∧ (((v = 0 ∧ 1 ≤ ze N 81 7 ∧ zmu N = 0) ∨ (v = 0 ∧ ze N 81 7 = 0 ∧ zmu N < zmu Mz ∧ ze N 81 38 = zcw N ∧ 0 ≤ ze N 81 41 ∧ ze N 81 41 - zcw N ≤ ze N 81 43 ∧ ze N 81 42 = ze N 81 41 - zcw N ∧ ze N 81 38 ≤ ze N 81 43 ∧ ze N 81 43 ≤ 30) ∨ (v = 1 ∧ 1 ≤ ze N 81 7 ∧ zmu N = 0) ∨ (v = 1 ∧ ze N 81 7 = 0 ∧ zmu N < zmu Mz ∧ ze N 81 38 = zcw N + 1 ∧ 0 ≤ ze N 81 41 ∧ ze N 81 41 - zcw N ≤ ze N 81 43 ∧ ze N 81 42 = ze N 81 41 - zcw N ∧ ze N 81 38 ≤ ze N 81 43 ∧ ze N 81 43 ≤ 30)))))
                                    refine zr_if_eq (pc := 197) (tgt := 311) ⟨(by decide), (by decide)⟩ (by decide) d_M_operand_197 (fun hc_197 => ?_) (fun hc_197 => ?_)
                                    · skip
                                      refine zw_aload_n (pc := 311) (n := 0) (x := 81) rfl d_M_operand_311 ?_
                                      refine zr_callV (hf_N125_.w hW) hf_N125_.x (pc := 312) [] [] l_M_183 (c_M_isGood l N125_ (hf_N125_.w hW) ) rfl rfl rfl (by decide) (Nat.le_of_ble_eq_true rfl) d_M_operand_312 ?_
                                      rintro _ N137_ ⟨v138_, rfl, ⟨hv138_a, hv138_b⟩, hsN137_, hp0_N137_⟩
                                      obtain rfl := hsN137_.eq.symm
                                      replace hp0_N137_ : ((v138_ = 1 ∧ ze N125_ 81 7 = 0) ∨ (v138_ = 0 ∧ ze N125_ 81 7 ≠ 0)) := hp0_N137_
                                      rcases hp0_N137_ with ⟨rfl, ha312_0_hp0_N137_⟩ | ⟨rfl, ha312_0_hp0_N137_⟩
                                      · skip
                                        exfalso; omega
                                      · skip
                                        show zW l m_M_operand (zn Mz + 0, zw Mz + 0) N125_ 315 [some (.ref 81), none, none] [.int (Int32.ofInt 0)] (zpI [3, 4, 5, 6, 7, 8, 11, 38, 39, 41, 42, 43] [95, 100] Mz (fun v N => 0 ≤ ze N 81 3 ∧ ze N 81 3 ≤ ze N 81 2 ∧ zTv N ∧ (((v = 0 ∧ 1 ≤ ze N 81 7 ∧ zmu N = 0) ∨ (v = 0 ∧ ze N 81 7 = 0 ∧ zmu N < zmu Mz ∧ ze N 81 38 = zcw N ∧ 0 ≤ ze N 81 41 ∧ ze N 81 41 - zcw N ≤ ze N 81 43 ∧ ze N 81 42 = ze N 81 41 - zcw N ∧ ze N 81 38 ≤ ze N 81 43 ∧ ze N 81 43 ≤ 30) ∨ (v = 1 ∧ 1 ≤ ze N 81 7 ∧ zmu N = 0) ∨ (v = 1 ∧ ze N 81 7 = 0 ∧ zmu N < zmu Mz ∧ ze N 81 38 = zcw N + 1 ∧ 0 ≤ ze N 81 41 ∧ ze N 81 41 - zcw N ≤ ze N 81 43 ∧ ze N 81 42 = ze N 81 41 - zcw N ∧ ze N 81 38 ≤ ze N 81 43 ∧ ze N 81 43 ≤ 30)))))
                                        refine zr_if_eq (pc := 315) (tgt := 322) ⟨(by decide), (by decide)⟩ (by decide) d_M_operand_315 (fun hc_315 => ?_) (fun hc_315 => ?_)
                                        · skip
                                          refine zw_iconst (pc := 322) (v := Int32.ofInt 1) (by decide) d_M_operand_322 ?_
                                          have hz0 := zmu_s N125_
                                          exact zr_iret (pc := 323) (ty := .boolean) rfl (z_narB (by omega)) ⟨by omega, by omega⟩ hf_N125_ ⟨(show 0 ≤ ze N125_ 81 3 by first | assumption | omega), (show ze N125_ 81 3 ≤ ze N125_ 81 2 by first | assumption | omega), c128_, (show ((1 = 0 ∧ 1 ≤ ze N125_ 81 7 ∧ zmu N125_ = 0) ∨ (1 = 0 ∧ ze N125_ 81 7 = 0 ∧ zmu N125_ < zmu Mz ∧ ze N125_ 81 38 = zcw N125_ ∧ 0 ≤ ze N125_ 81 41 ∧ ze N125_ 81 41 - zcw N125_ ≤ ze N125_ 81 43 ∧ ze N125_ 81 42 = ze N125_ 81 41 - zcw N125_ ∧ ze N125_ 81 38 ≤ ze N125_ 81 43 ∧ ze N125_ 81 43 ≤ 30) ∨ (1 = 1 ∧ 1 ≤ ze N125_ 81 7 ∧ zmu N125_ = 0) ∨ (1 = 1 ∧ ze N125_ 81 7 = 0 ∧ zmu N125_ < zmu Mz ∧ ze N125_ 81 38 = zcw N125_ + 1 ∧ 0 ≤ ze N125_ 81 41 ∧ ze N125_ 81 41 - zcw N125_ ≤ ze N125_ 81 43 ∧ ze N125_ 81 42 = ze N125_ 81 41 - zcw N125_ ∧ ze N125_ 81 38 ≤ ze N125_ 81 43 ∧ ze N125_ 81 43 ≤ 30)) from Or.inr (Or.inr (Or.inl (⟨(show 1 = 1 by first | assumption | omega), (show 1 ≤ ze N125_ 81 7 by first | assumption | omega), (show zmu N125_ = 0 by first | assumption | omega)⟩))))⟩ d_M_operand_323
                                        · skip
                                          exact absurd hc_315 (by decide)
                                    · skip
                                      exact absurd hc_197 (by decide)
                                · skip
                                  exact absurd hc_174 (by decide)
                            · skip
                              exact absurd hc_154 (by decide)
                        · skip
                          exact absurd hc_143 (by decide)
                    · skip
                      show zW l m_M_operand (zn Mz + 0, zw Mz + 0) N125_ 139 [some (.ref 81), none, none] [] (zpI [3, 4, 5, 6, 7, 8, 11, 38, 39, 41, 42, 43] [95, 100] Mz (fun v N => 0 ≤ ze N 81 3 ∧ ze N 81 3 ≤ ze N 81 2 ∧ zTv N ∧ (((v = 0 ∧ 1 ≤ ze N 81 7 ∧ zmu N = 0) ∨ (v = 0 ∧ ze N 81 7 = 0 ∧ zmu N < zmu Mz ∧ ze N 81 38 = zcw N ∧ 0 ≤ ze N 81 41 ∧ ze N 81 41 - zcw N ≤ ze N 81 43 ∧ ze N 81 42 = ze N 81 41 - zcw N ∧ ze N 81 38 ≤ ze N 81 43 ∧ ze N 81 43 ≤ 30) ∨ (v = 1 ∧ 1 ≤ ze N 81 7 ∧ zmu N = 0) ∨ (v = 1 ∧ ze N 81 7 = 0 ∧ zmu N < zmu Mz ∧ ze N 81 38 = zcw N + 1 ∧ 0 ≤ ze N 81 41 ∧ ze N 81 41 - zcw N ≤ ze N 81 43 ∧ ze N 81 42 = ze N 81 41 - zcw N ∧ ze N 81 38 ≤ ze N 81 43 ∧ ze N 81 43 ≤ 30)))))
                      refine zw_aload_n (pc := 139) (n := 0) (x := 81) rfl d_M_operand_139 ?_
                      refine zr_callV (hf_N125_.w hW) hf_N125_.x (pc := 140) [] [] l_M_183 (c_M_isGood l N125_ (hf_N125_.w hW) ) rfl rfl rfl (by decide) (Nat.le_of_ble_eq_true rfl) d_M_operand_140 ?_
                      rintro _ N139_ ⟨v140_, rfl, ⟨hv140_a, hv140_b⟩, hsN139_, hp0_N139_⟩
                      obtain rfl := hsN139_.eq.symm
                      replace hp0_N139_ : ((v140_ = 1 ∧ ze N125_ 81 7 = 0) ∨ (v140_ = 0 ∧ ze N125_ 81 7 ≠ 0)) := hp0_N139_
                      rcases hp0_N139_ with ⟨rfl, ha140_0_hp0_N139_⟩ | ⟨rfl, ha140_0_hp0_N139_⟩
                      · skip
                        show zW l m_M_operand (zn Mz + 0, zw Mz + 0) N125_ 143 [some (.ref 81), none, none] [.int (Int32.ofInt 1)] (zpI [3, 4, 5, 6, 7, 8, 11, 38, 39, 41, 42, 43] [95, 100] Mz (fun v N => 0 ≤ ze N 81 3 ∧ ze N 81 3 ≤ ze N 81 2 ∧ zTv N ∧ (((v = 0 ∧ 1 ≤ ze N 81 7 ∧ zmu N = 0) ∨ (v = 0 ∧ ze N 81 7 = 0 ∧ zmu N < zmu Mz ∧ ze N 81 38 = zcw N ∧ 0 ≤ ze N 81 41 ∧ ze N 81 41 - zcw N ≤ ze N 81 43 ∧ ze N 81 42 = ze N 81 41 - zcw N ∧ ze N 81 38 ≤ ze N 81 43 ∧ ze N 81 43 ≤ 30) ∨ (v = 1 ∧ 1 ≤ ze N 81 7 ∧ zmu N = 0) ∨ (v = 1 ∧ ze N 81 7 = 0 ∧ zmu N < zmu Mz ∧ ze N 81 38 = zcw N + 1 ∧ 0 ≤ ze N 81 41 ∧ ze N 81 41 - zcw N ≤ ze N 81 43 ∧ ze N 81 42 = ze N 81 41 - zcw N ∧ ze N 81 38 ≤ ze N 81 43 ∧ ze N 81 43 ≤ 30)))))
                        refine zr_if_eq (pc := 143) (tgt := 150) ⟨(by decide), (by decide)⟩ (by decide) d_M_operand_143 (fun hc_143 => ?_) (fun hc_143 => ?_)
                        · skip
                          exact absurd hc_143 (by decide)
                        · skip
                          refine zw_aload_n (pc := 146) (n := 0) (x := 81) rfl d_M_operand_146 ?_
                          refine zr_callV (hf_N125_.w hW) hf_N125_.x (pc := 147) [] [] l_M_193 (c_M_goOn l N125_ (hf_N125_.w hW) (show 0 ≤ ze N125_ 81 3 by first | assumption | omega) (show ze N125_ 81 3 ≤ ze N125_ 81 2 by first | assumption | omega) (show ze N125_ 81 2 ≤ 700 by first | assumption | omega) (show ze N125_ 81 5 ≠ 0 by first | assumption | omega) (show ze N125_ 81 7 = 0 by first | assumption | omega)) rfl rfl rfl (by decide) (Nat.le_of_ble_eq_true rfl) d_M_operand_147 ?_
                          rintro _ N141_ ⟨rfl, hsN141_, ⟨hp0_N141_, hp1_N141_, hp2_N141_, hp3_N141_, hp4_N141_⟩⟩
                          have hf_N141_ : zFr [3, 4, 5, 6, 7, 8, 11, 38, 39, 41, 42, 43] [95, 100] Mz N141_ := hf_N125_.tr hsN141_ (by decide) (by decide)
                          have e2_N141_ : ze N141_ 81 2 = ze N125_ 81 2 := hsN141_.e (by decide)
                          have r3_N141_ := ze_r N141_ 81 3
                          have r5_N141_ := ze_r N141_ 81 5
                          have r6_N141_ := ze_r N141_ 81 6
                          have e7_N141_ : ze N141_ 81 7 = ze N125_ 81 7 := hsN141_.e (by decide)
                          have e14_N141_ : ze N141_ 81 14 = ze N125_ 81 14 := hsN141_.e (by decide)
                          have e26_N141_ : ze N141_ 81 26 = ze N125_ 81 26 := hsN141_.e (by decide)
                          have e38_N141_ : ze N141_ 81 38 = ze N125_ 81 38 := hsN141_.e (by decide)
                          have e41_N141_ : ze N141_ 81 41 = ze N125_ 81 41 := hsN141_.e (by decide)
                          have e42_N141_ : ze N141_ 81 42 = ze N125_ 81 42 := hsN141_.e (by decide)
                          have e43_N141_ : ze N141_ 81 43 = ze N125_ 81 43 := hsN141_.e (by decide)
                          have qzcw_N141_ : zcw N141_ = zcw N125_ := zcw_f hsN141_ (by decide)
                          have c143_ : zGD N141_ := zGD.fr hsN141_ c127_ (by decide) (by decide)
                          show zW l m_M_operand (zn Mz + 0, zw Mz + 0) N141_ 150 [some (.ref 81), none, none] [] (zpI [3, 4, 5, 6, 7, 8, 11, 38, 39, 41, 42, 43] [95, 100] Mz (fun v N => 0 ≤ ze N 81 3 ∧ ze N 81 3 ≤ ze N 81 2 ∧ zTv N ∧ (((v = 0 ∧ 1 ≤ ze N 81 7 ∧ zmu N = 0) ∨ (v = 0 ∧ ze N 81 7 = 0 ∧ zmu N < zmu Mz ∧ ze N 81 38 = zcw N ∧ 0 ≤ ze N 81 41 ∧ ze N 81 41 - zcw N ≤ ze N 81 43 ∧ ze N 81 42 = ze N 81 41 - zcw N ∧ ze N 81 38 ≤ ze N 81 43 ∧ ze N 81 43 ≤ 30) ∨ (v = 1 ∧ 1 ≤ ze N 81 7 ∧ zmu N = 0) ∨ (v = 1 ∧ ze N 81 7 = 0 ∧ zmu N < zmu Mz ∧ ze N 81 38 = zcw N + 1 ∧ 0 ≤ ze N 81 41 ∧ ze N 81 41 - zcw N ≤ ze N 81 43 ∧ ze N 81 42 = ze N 81 41 - zcw N ∧ ze N 81 38 ≤ ze N 81 43 ∧ ze N 81 43 ≤ 30)))))
                          refine zw_aload_n (pc := 150) (n := 0) (x := 81) rfl d_M_operand_150 ?_
                          refine zr_callV (hf_N141_.w hW) hf_N141_.x (pc := 151) [] [] l_M_183 (c_M_isGood l N141_ (hf_N141_.w hW) ) rfl rfl rfl (by decide) (Nat.le_of_ble_eq_true rfl) d_M_operand_151 ?_
                          rintro _ N144_ ⟨v145_, rfl, ⟨hv145_a, hv145_b⟩, hsN144_, hp0_N144_⟩
                          obtain rfl := hsN144_.eq.symm
                          replace hp0_N144_ : ((v145_ = 1 ∧ ze N141_ 81 7 = 0) ∨ (v145_ = 0 ∧ ze N141_ 81 7 ≠ 0)) := hp0_N144_
                          rcases hp0_N144_ with ⟨rfl, ha151_0_hp0_N144_⟩ | ⟨rfl, ha151_0_hp0_N144_⟩
                          · skip
                            show zW l m_M_operand (zn Mz + 0, zw Mz + 0) N141_ 154 [some (.ref 81), none, none] [.int (Int32.ofInt 1)] (zpI [3, 4, 5, 6, 7, 8, 11, 38, 39, 41, 42, 43] [95, 100] Mz (fun v N => 0 ≤ ze N 81 3 ∧ ze N 81 3 ≤ ze N 81 2 ∧ zTv N ∧ (((v = 0 ∧ 1 ≤ ze N 81 7 ∧ zmu N = 0) ∨ (v = 0 ∧ ze N 81 7 = 0 ∧ zmu N < zmu Mz ∧ ze N 81 38 = zcw N ∧ 0 ≤ ze N 81 41 ∧ ze N 81 41 - zcw N ≤ ze N 81 43 ∧ ze N 81 42 = ze N 81 41 - zcw N ∧ ze N 81 38 ≤ ze N 81 43 ∧ ze N 81 43 ≤ 30) ∨ (v = 1 ∧ 1 ≤ ze N 81 7 ∧ zmu N = 0) ∨ (v = 1 ∧ ze N 81 7 = 0 ∧ zmu N < zmu Mz ∧ ze N 81 38 = zcw N + 1 ∧ 0 ≤ ze N 81 41 ∧ ze N 81 41 - zcw N ≤ ze N 81 43 ∧ ze N 81 42 = ze N 81 41 - zcw N ∧ ze N 81 38 ≤ ze N 81 43 ∧ ze N 81 43 ≤ 30)))))
                            refine zr_if_eq (pc := 154) (tgt := 170) ⟨(by decide), (by decide)⟩ (by decide) d_M_operand_154 (fun hc_154 => ?_) (fun hc_154 => ?_)
                            · skip
                              exact absurd hc_154 (by decide)
                            · skip
                              refine zw_aload_n (pc := 157) (n := 0) (x := 81) rfl d_M_operand_157 ?_
                              refine zr_getI (hf_N141_.w hW) (pc := 158) f_M_155 rfl d_M_operand_158 ?_
                              refine zw_iconst (pc := 161) (v := Int32.ofInt 2) (by decide) d_M_operand_161 ?_
                              refine zr_icmp_eq (pc := 162) (tgt := 170) ⟨(ze_r N141_ 81 5).1, (ze_r N141_ 81 5).2⟩ ⟨(by decide), (by decide)⟩ (by decide) d_M_operand_162 (fun hc_162 => ?_) (fun hc_162 => ?_)
                              · skip
                                refine zw_aload_n (pc := 170) (n := 0) (x := 81) rfl d_M_operand_170 ?_
                                refine zr_callV (hf_N141_.w hW) hf_N141_.x (pc := 171) [] [] l_M_183 (c_M_isGood l N141_ (hf_N141_.w hW) ) rfl rfl rfl (by decide) (Nat.le_of_ble_eq_true rfl) d_M_operand_171 ?_
                                rintro _ N146_ ⟨v147_, rfl, ⟨hv147_a, hv147_b⟩, hsN146_, hp0_N146_⟩
                                obtain rfl := hsN146_.eq.symm
                                replace hp0_N146_ : ((v147_ = 1 ∧ ze N141_ 81 7 = 0) ∨ (v147_ = 0 ∧ ze N141_ 81 7 ≠ 0)) := hp0_N146_
                                rcases hp0_N146_ with ⟨rfl, ha171_0_hp0_N146_⟩ | ⟨rfl, ha171_0_hp0_N146_⟩
                                · skip
                                  show zW l m_M_operand (zn Mz + 0, zw Mz + 0) N141_ 174 [some (.ref 81), none, none] [.int (Int32.ofInt 1)] (zpI [3, 4, 5, 6, 7, 8, 11, 38, 39, 41, 42, 43] [95, 100] Mz (fun v N => 0 ≤ ze N 81 3 ∧ ze N 81 3 ≤ ze N 81 2 ∧ zTv N ∧ (((v = 0 ∧ 1 ≤ ze N 81 7 ∧ zmu N = 0) ∨ (v = 0 ∧ ze N 81 7 = 0 ∧ zmu N < zmu Mz ∧ ze N 81 38 = zcw N ∧ 0 ≤ ze N 81 41 ∧ ze N 81 41 - zcw N ≤ ze N 81 43 ∧ ze N 81 42 = ze N 81 41 - zcw N ∧ ze N 81 38 ≤ ze N 81 43 ∧ ze N 81 43 ≤ 30) ∨ (v = 1 ∧ 1 ≤ ze N 81 7 ∧ zmu N = 0) ∨ (v = 1 ∧ ze N 81 7 = 0 ∧ zmu N < zmu Mz ∧ ze N 81 38 = zcw N + 1 ∧ 0 ≤ ze N 81 41 ∧ ze N 81 41 - zcw N ≤ ze N 81 43 ∧ ze N 81 42 = ze N 81 41 - zcw N ∧ ze N 81 38 ≤ ze N 81 43 ∧ ze N 81 43 ≤ 30)))))
                                  refine zr_if_eq (pc := 174) (tgt := 193) ⟨(by decide), (by decide)⟩ (by decide) d_M_operand_174 (fun hc_174 => ?_) (fun hc_174 => ?_)
                                  · skip
                                    exact absurd hc_174 (by decide)
                                  · skip
                                    refine zw_aload_n (pc := 177) (n := 0) (x := 81) rfl d_M_operand_177 ?_
                                    refine zr_getI (hf_N141_.w hW) (pc := 178) f_M_152 rfl d_M_operand_178 ?_
                                    refine zw_aload_n (pc := 181) (n := 0) (x := 81) rfl d_M_operand_181 ?_
                                    refine zr_getI0 hf_N141_ hW (pc := 182) (by decide) f_M_235 rfl d_M_operand_182 ?_
                                    refine zr_icmp_lt (pc := 185) (tgt := 193) ⟨(ze_r N141_ 81 6).1, (ze_r N141_ 81 6).2⟩ ⟨(ze_r Mz 81 26).1, (ze_r Mz 81 26).2⟩ (by decide) d_M_operand_185 (fun hc_185 => ?_) (fun hc_185 => ?_)
                                    · skip
                                      refine zw_aload_n (pc := 193) (n := 0) (x := 81) rfl d_M_operand_193 ?_
                                      refine zr_callV (hf_N141_.w hW) hf_N141_.x (pc := 194) [] [] l_M_183 (c_M_isGood l N141_ (hf_N141_.w hW) ) rfl rfl rfl (by decide) (Nat.le_of_ble_eq_true rfl) d_M_operand_194 ?_
                                      rintro _ N148_ ⟨v149_, rfl, ⟨hv149_a, hv149_b⟩, hsN148_, hp0_N148_⟩
                                      obtain rfl := hsN148_.eq.symm
                                      replace hp0_N148_ : ((v149_ = 1 ∧ ze N141_ 81 7 = 0) ∨ (v149_ = 0 ∧ ze N141_ 81 7 ≠ 0)) := hp0_N148_
                                      rcases hp0_N148_ with ⟨rfl, ha194_0_hp0_N148_⟩ | ⟨rfl, ha194_0_hp0_N148_⟩
                                      · skip
                                        show zW l m_M_operand (zn Mz + 0, zw Mz + 0) N141_ 197 [some (.ref 81), none, none] [.int (Int32.ofInt 1)] (zpI [3, 4, 5, 6, 7, 8, 11, 38, 39, 41, 42, 43] [95, 100] Mz (fun v N => 0 ≤ ze N 81 3 ∧ ze N 81 3 ≤ ze N 81 2 ∧ zTv N ∧ (((v = 0 ∧ 1 ≤ ze N 81 7 ∧ zmu N = 0) ∨ (v = 0 ∧ ze N 81 7 = 0 ∧ zmu N < zmu Mz ∧ ze N 81 38 = zcw N ∧ 0 ≤ ze N 81 41 ∧ ze N 81 41 - zcw N ≤ ze N 81 43 ∧ ze N 81 42 = ze N 81 41 - zcw N ∧ ze N 81 38 ≤ ze N 81 43 ∧ ze N 81 43 ≤ 30) ∨ (v = 1 ∧ 1 ≤ ze N 81 7 ∧ zmu N = 0) ∨ (v = 1 ∧ ze N 81 7 = 0 ∧ zmu N < zmu Mz ∧ ze N 81 38 = zcw N + 1 ∧ 0 ≤ ze N 81 41 ∧ ze N 81 41 - zcw N ≤ ze N 81 43 ∧ ze N 81 42 = ze N 81 41 - zcw N ∧ ze N 81 38 ≤ ze N 81 43 ∧ ze N 81 43 ≤ 30)))))
                                        refine zr_if_eq (pc := 197) (tgt := 311) ⟨(by decide), (by decide)⟩ (by decide) d_M_operand_197 (fun hc_197 => ?_) (fun hc_197 => ?_)
                                        · skip
                                          exact absurd hc_197 (by decide)
                                        · skip
                                          refine zw_aload_n (pc := 200) (n := 0) (x := 81) rfl d_M_operand_200 ?_
                                          refine zw_aload_n (pc := 201) (n := 0) (x := 81) rfl d_M_operand_201 ?_
                                          refine zr_getI (hf_N141_.w hW) (pc := 202) f_M_152 rfl d_M_operand_202 ?_
                                          refine zw_lconst (pc := 205) (v := Int64.ofInt 1) (by decide) d_M_operand_205 ?_
                                          refine zr_callV (hf_N141_.w hW) hf_N141_.x (pc := 206) [.int (Int32.ofInt (ze N141_ 81 6)), .long (Int64.ofInt 1)] [] l_M_308 (c_M_lays l N141_ (hf_N141_.w hW) (ze N141_ 81 6) (ze_r N141_ 81 6).1 (ze_r N141_ 81 6).2 1 (by decide) (by decide) c143_ (show 0 ≤ ze N141_ 81 38 by first | assumption | omega) (show ze N141_ 81 38 ≤ 39 by first | assumption | omega)) rfl rfl rfl (by decide) (Nat.le_of_ble_eq_true rfl) d_M_operand_206 ?_
                                          rintro _ N150_ ⟨rfl, hsN150_, hp0_N150_⟩
                                          replace hp0_N150_ : ze N150_ 81 38 = ze N141_ 81 38 + 1 := hp0_N150_
                                          have hf_N150_ : zFr [3, 4, 5, 6, 7, 8, 11, 38, 39, 41, 42, 43] [95, 100] Mz N150_ := hf_N141_.tr hsN150_ (by decide) (by decide)
                                          have e2_N150_ : ze N150_ 81 2 = ze N141_ 81 2 := hsN150_.e (by decide)
                                          have e3_N150_ : ze N150_ 81 3 = ze N141_ 81 3 := hsN150_.e (by decide)
                                          have e5_N150_ : ze N150_ 81 5 = ze N141_ 81 5 := hsN150_.e (by decide)
                                          have e6_N150_ : ze N150_ 81 6 = ze N141_ 81 6 := hsN150_.e (by decide)
                                          have e7_N150_ : ze N150_ 81 7 = ze N141_ 81 7 := hsN150_.e (by decide)
                                          have e14_N150_ : ze N150_ 81 14 = ze N141_ 81 14 := hsN150_.e (by decide)
                                          have e26_N150_ : ze N150_ 81 26 = ze N141_ 81 26 := hsN150_.e (by decide)
                                          have r38_N150_ := ze_r N150_ 81 38
                                          have e41_N150_ : ze N150_ 81 41 = ze N141_ 81 41 := hsN150_.e (by decide)
                                          have e42_N150_ : ze N150_ 81 42 = ze N141_ 81 42 := hsN150_.e (by decide)
                                          have e43_N150_ : ze N150_ 81 43 = ze N141_ 81 43 := hsN150_.e (by decide)
                                          have qzcw_N150_ : zcw N150_ = zcw N141_ := zcw_f hsN150_ (by decide)
                                          have qzmu_N150_ : zmu N150_ = zmu N141_ := zmu_f hsN150_ (by decide)
                                          have c152_ : zGD N150_ := zGD.fr hsN150_ c143_ (by decide) (by decide)
                                          have c153_ : zTv N150_ := zTv.fr hsN150_ hp2_N141_ (by decide) (by decide)
                                          show zW l m_M_operand (zn Mz + 0, zw Mz + 0) N150_ 209 [some (.ref 81), none, none] [] (zpI [3, 4, 5, 6, 7, 8, 11, 38, 39, 41, 42, 43] [95, 100] Mz (fun v N => 0 ≤ ze N 81 3 ∧ ze N 81 3 ≤ ze N 81 2 ∧ zTv N ∧ (((v = 0 ∧ 1 ≤ ze N 81 7 ∧ zmu N = 0) ∨ (v = 0 ∧ ze N 81 7 = 0 ∧ zmu N < zmu Mz ∧ ze N 81 38 = zcw N ∧ 0 ≤ ze N 81 41 ∧ ze N 81 41 - zcw N ≤ ze N 81 43 ∧ ze N 81 42 = ze N 81 41 - zcw N ∧ ze N 81 38 ≤ ze N 81 43 ∧ ze N 81 43 ≤ 30) ∨ (v = 1 ∧ 1 ≤ ze N 81 7 ∧ zmu N = 0) ∨ (v = 1 ∧ ze N 81 7 = 0 ∧ zmu N < zmu Mz ∧ ze N 81 38 = zcw N + 1 ∧ 0 ≤ ze N 81 41 ∧ ze N 81 41 - zcw N ≤ ze N 81 43 ∧ ze N 81 42 = ze N 81 41 - zcw N ∧ ze N 81 38 ≤ ze N 81 43 ∧ ze N 81 43 ≤ 30)))))
                                          refine zw_goto (pc := 209) (tgt := 311) (by decide) d_M_operand_209 ?_
                                          refine zw_aload_n (pc := 311) (n := 0) (x := 81) rfl d_M_operand_311 ?_
                                          refine zr_callV (hf_N150_.w hW) hf_N150_.x (pc := 312) [] [] l_M_183 (c_M_isGood l N150_ (hf_N150_.w hW) ) rfl rfl rfl (by decide) (Nat.le_of_ble_eq_true rfl) d_M_operand_312 ?_
                                          rintro _ N154_ ⟨v155_, rfl, ⟨hv155_a, hv155_b⟩, hsN154_, hp0_N154_⟩
                                          obtain rfl := hsN154_.eq.symm
                                          replace hp0_N154_ : ((v155_ = 1 ∧ ze N150_ 81 7 = 0) ∨ (v155_ = 0 ∧ ze N150_ 81 7 ≠ 0)) := hp0_N154_
                                          rcases hp0_N154_ with ⟨rfl, ha312_0_hp0_N154_⟩ | ⟨rfl, ha312_0_hp0_N154_⟩
                                          · skip
                                            show zW l m_M_operand (zn Mz + 0, zw Mz + 0) N150_ 315 [some (.ref 81), none, none] [.int (Int32.ofInt 1)] (zpI [3, 4, 5, 6, 7, 8, 11, 38, 39, 41, 42, 43] [95, 100] Mz (fun v N => 0 ≤ ze N 81 3 ∧ ze N 81 3 ≤ ze N 81 2 ∧ zTv N ∧ (((v = 0 ∧ 1 ≤ ze N 81 7 ∧ zmu N = 0) ∨ (v = 0 ∧ ze N 81 7 = 0 ∧ zmu N < zmu Mz ∧ ze N 81 38 = zcw N ∧ 0 ≤ ze N 81 41 ∧ ze N 81 41 - zcw N ≤ ze N 81 43 ∧ ze N 81 42 = ze N 81 41 - zcw N ∧ ze N 81 38 ≤ ze N 81 43 ∧ ze N 81 43 ≤ 30) ∨ (v = 1 ∧ 1 ≤ ze N 81 7 ∧ zmu N = 0) ∨ (v = 1 ∧ ze N 81 7 = 0 ∧ zmu N < zmu Mz ∧ ze N 81 38 = zcw N + 1 ∧ 0 ≤ ze N 81 41 ∧ ze N 81 41 - zcw N ≤ ze N 81 43 ∧ ze N 81 42 = ze N 81 41 - zcw N ∧ ze N 81 38 ≤ ze N 81 43 ∧ ze N 81 43 ≤ 30)))))
                                            refine zr_if_eq (pc := 315) (tgt := 322) ⟨(by decide), (by decide)⟩ (by decide) d_M_operand_315 (fun hc_315 => ?_) (fun hc_315 => ?_)
                                            · skip
                                              exact absurd hc_315 (by decide)
                                            · skip
                                              refine zw_aload_n (pc := 318) (n := 0) (x := 81) rfl d_M_operand_318 ?_
                                              refine zr_callV (hf_N150_.w hW) hf_N150_.x (pc := 319) [] [] l_M_193 (c_M_goOn l N150_ (hf_N150_.w hW) (show 0 ≤ ze N150_ 81 3 by first | assumption | omega) (show ze N150_ 81 3 ≤ ze N150_ 81 2 by first | assumption | omega) (show ze N150_ 81 2 ≤ 700 by first | assumption | omega) (show ze N150_ 81 5 ≠ 0 by first | assumption | omega) (show ze N150_ 81 7 = 0 by first | assumption | omega)) rfl rfl rfl (by decide) (Nat.le_of_ble_eq_true rfl) d_M_operand_319 ?_
                                              rintro _ N156_ ⟨rfl, hsN156_, ⟨hp0_N156_, hp1_N156_, hp2_N156_, hp3_N156_, hp4_N156_⟩⟩
                                              have hf_N156_ : zFr [3, 4, 5, 6, 7, 8, 11, 38, 39, 41, 42, 43] [95, 100] Mz N156_ := hf_N150_.tr hsN156_ (by decide) (by decide)
                                              have e2_N156_ : ze N156_ 81 2 = ze N150_ 81 2 := hsN156_.e (by decide)
                                              have r3_N156_ := ze_r N156_ 81 3
                                              have r5_N156_ := ze_r N156_ 81 5
                                              have r6_N156_ := ze_r N156_ 81 6
                                              have e7_N156_ : ze N156_ 81 7 = ze N150_ 81 7 := hsN156_.e (by decide)
                                              have e14_N156_ : ze N156_ 81 14 = ze N150_ 81 14 := hsN156_.e (by decide)
                                              have e26_N156_ : ze N156_ 81 26 = ze N150_ 81 26 := hsN156_.e (by decide)
                                              have e38_N156_ : ze N156_ 81 38 = ze N150_ 81 38 := hsN156_.e (by decide)
                                              have e41_N156_ : ze N156_ 81 41 = ze N150_ 81 41 := hsN156_.e (by decide)
                                              have e42_N156_ : ze N156_ 81 42 = ze N150_ 81 42 := hsN156_.e (by decide)
                                              have e43_N156_ : ze N156_ 81 43 = ze N150_ 81 43 := hsN156_.e (by decide)
                                              have qzcw_N156_ : zcw N156_ = zcw N150_ := zcw_f hsN156_ (by decide)
                                              have c158_ : zGD N156_ := zGD.fr hsN156_ c152_ (by decide) (by decide)
                                              show zW l m_M_operand (zn Mz + 0, zw Mz + 0) N156_ 322 [some (.ref 81), none, none] [] (zpI [3, 4, 5, 6, 7, 8, 11, 38, 39, 41, 42, 43] [95, 100] Mz (fun v N => 0 ≤ ze N 81 3 ∧ ze N 81 3 ≤ ze N 81 2 ∧ zTv N ∧ (((v = 0 ∧ 1 ≤ ze N 81 7 ∧ zmu N = 0) ∨ (v = 0 ∧ ze N 81 7 = 0 ∧ zmu N < zmu Mz ∧ ze N 81 38 = zcw N ∧ 0 ≤ ze N 81 41 ∧ ze N 81 41 - zcw N ≤ ze N 81 43 ∧ ze N 81 42 = ze N 81 41 - zcw N ∧ ze N 81 38 ≤ ze N 81 43 ∧ ze N 81 43 ≤ 30) ∨ (v = 1 ∧ 1 ≤ ze N 81 7 ∧ zmu N = 0) ∨ (v = 1 ∧ ze N 81 7 = 0 ∧ zmu N < zmu Mz ∧ ze N 81 38 = zcw N + 1 ∧ 0 ≤ ze N 81 41 ∧ ze N 81 41 - zcw N ≤ ze N 81 43 ∧ ze N 81 42 = ze N 81 41 - zcw N ∧ ze N 81 38 ≤ ze N 81 43 ∧ ze N 81 43 ≤ 30)))))
                                              refine zw_iconst (pc := 322) (v := Int32.ofInt 1) (by decide) d_M_operand_322 ?_
                                              have hz0 := zmu_s N156_
                                              exact zr_iret (pc := 323) (ty := .boolean) rfl (z_narB (by omega)) ⟨by omega, by omega⟩ hf_N156_ ⟨(show 0 ≤ ze N156_ 81 3 by first | assumption | omega), (show ze N156_ 81 3 ≤ ze N156_ 81 2 by first | assumption | omega), hp2_N156_, (show ((1 = 0 ∧ 1 ≤ ze N156_ 81 7 ∧ zmu N156_ = 0) ∨ (1 = 0 ∧ ze N156_ 81 7 = 0 ∧ zmu N156_ < zmu Mz ∧ ze N156_ 81 38 = zcw N156_ ∧ 0 ≤ ze N156_ 81 41 ∧ ze N156_ 81 41 - zcw N156_ ≤ ze N156_ 81 43 ∧ ze N156_ 81 42 = ze N156_ 81 41 - zcw N156_ ∧ ze N156_ 81 38 ≤ ze N156_ 81 43 ∧ ze N156_ 81 43 ≤ 30) ∨ (1 = 1 ∧ 1 ≤ ze N156_ 81 7 ∧ zmu N156_ = 0) ∨ (1 = 1 ∧ ze N156_ 81 7 = 0 ∧ zmu N156_ < zmu Mz ∧ ze N156_ 81 38 = zcw N156_ + 1 ∧ 0 ≤ ze N156_ 81 41 ∧ ze N156_ 81 41 - zcw N156_ ≤ ze N156_ 81 43 ∧ ze N156_ 81 42 = ze N156_ 81 41 - zcw N156_ ∧ ze N156_ 81 38 ≤ ze N156_ 81 43 ∧ ze N156_ 81 43 ≤ 30)) from Or.inr (Or.inr (Or.inr (⟨(show 1 = 1 by first | assumption | omega), (show ze N156_ 81 7 = 0 by first | assumption | omega), (show zmu N156_ < zmu Mz by first | assumption | omega), (show ze N156_ 81 38 = zcw N156_ + 1 by first | assumption | omega), (show 0 ≤ ze N156_ 81 41 by first | assumption | omega), (show ze N156_ 81 41 - zcw N156_ ≤ ze N156_ 81 43 by first | assumption | omega), (show ze N156_ 81 42 = ze N156_ 81 41 - zcw N156_ by first | assumption | omega), (show ze N156_ 81 38 ≤ ze N156_ 81 43 by first | assumption | omega), (show ze N156_ 81 43 ≤ 30 by first | assumption | omega)⟩))))⟩ d_M_operand_323
                                          · skip
                                            exfalso; omega
                                      · skip
                                        exfalso; omega
                                    · skip
                                      refine zw_aload_n (pc := 188) (n := 0) (x := 81) rfl d_M_operand_188 ?_
                                      refine zw_iconst (pc := 189) (v := Int32.ofInt 4) (by decide) d_M_operand_189 ?_
                                      refine zr_callV (hf_N141_.w hW) hf_N141_.x (pc := 190) [.int (Int32.ofInt 4)] [] l_M_190 (c_M_wrong l N141_ (hf_N141_.w hW) 4 (by decide) (by decide) (show ze N141_ 81 7 = 0 by first | assumption | omega) (show 1 ≤ 4 by first | assumption | omega)) rfl rfl rfl (by decide) (Nat.le_of_ble_eq_true rfl) d_M_operand_190 ?_
                                      rintro _ N159_ ⟨rfl, hsN159_, ⟨hp0_N159_, hp1_N159_⟩⟩
                                      have hf_N159_ : zFr [3, 4, 5, 6, 7, 8, 11, 38, 39, 41, 42, 43] [95, 100] Mz N159_ := hf_N141_.tr hsN159_ (by decide) (by decide)
                                      have e2_N159_ : ze N159_ 81 2 = ze N141_ 81 2 := hsN159_.e (by decide)
                                      have e3_N159_ : ze N159_ 81 3 = ze N141_ 81 3 := hsN159_.e (by decide)
                                      have e5_N159_ : ze N159_ 81 5 = ze N141_ 81 5 := hsN159_.e (by decide)
                                      have e6_N159_ : ze N159_ 81 6 = ze N141_ 81 6 := hsN159_.e (by decide)
                                      have r7_N159_ := ze_r N159_ 81 7
                                      have e14_N159_ : ze N159_ 81 14 = ze N141_ 81 14 := hsN159_.e (by decide)
                                      have e26_N159_ : ze N159_ 81 26 = ze N141_ 81 26 := hsN159_.e (by decide)
                                      have e38_N159_ : ze N159_ 81 38 = ze N141_ 81 38 := hsN159_.e (by decide)
                                      have e41_N159_ : ze N159_ 81 41 = ze N141_ 81 41 := hsN159_.e (by decide)
                                      have e42_N159_ : ze N159_ 81 42 = ze N141_ 81 42 := hsN159_.e (by decide)
                                      have e43_N159_ : ze N159_ 81 43 = ze N141_ 81 43 := hsN159_.e (by decide)
                                      have qzcw_N159_ : zcw N159_ = zcw N141_ := zcw_f hsN159_ (by decide)
                                      have c161_ : zGD N159_ := zGD.fr hsN159_ c143_ (by decide) (by decide)
                                      have c162_ : zTv N159_ := zTv.fr hsN159_ hp2_N141_ (by decide) (by decide)
                                      show zW l m_M_operand (zn Mz + 0, zw Mz + 0) N159_ 193 [some (.ref 81), none, none] [] (zpI [3, 4, 5, 6, 7, 8, 11, 38, 39, 41, 42, 43] [95, 100] Mz (fun v N => 0 ≤ ze N 81 3 ∧ ze N 81 3 ≤ ze N 81 2 ∧ zTv N ∧ (((v = 0 ∧ 1 ≤ ze N 81 7 ∧ zmu N = 0) ∨ (v = 0 ∧ ze N 81 7 = 0 ∧ zmu N < zmu Mz ∧ ze N 81 38 = zcw N ∧ 0 ≤ ze N 81 41 ∧ ze N 81 41 - zcw N ≤ ze N 81 43 ∧ ze N 81 42 = ze N 81 41 - zcw N ∧ ze N 81 38 ≤ ze N 81 43 ∧ ze N 81 43 ≤ 30) ∨ (v = 1 ∧ 1 ≤ ze N 81 7 ∧ zmu N = 0) ∨ (v = 1 ∧ ze N 81 7 = 0 ∧ zmu N < zmu Mz ∧ ze N 81 38 = zcw N + 1 ∧ 0 ≤ ze N 81 41 ∧ ze N 81 41 - zcw N ≤ ze N 81 43 ∧ ze N 81 42 = ze N 81 41 - zcw N ∧ ze N 81 38 ≤ ze N 81 43 ∧ ze N 81 43 ≤ 30)))))
                                      refine zw_aload_n (pc := 193) (n := 0) (x := 81) rfl d_M_operand_193 ?_
                                      refine zr_callV (hf_N159_.w hW) hf_N159_.x (pc := 194) [] [] l_M_183 (c_M_isGood l N159_ (hf_N159_.w hW) ) rfl rfl rfl (by decide) (Nat.le_of_ble_eq_true rfl) d_M_operand_194 ?_
                                      rintro _ N163_ ⟨v164_, rfl, ⟨hv164_a, hv164_b⟩, hsN163_, hp0_N163_⟩
                                      obtain rfl := hsN163_.eq.symm
                                      replace hp0_N163_ : ((v164_ = 1 ∧ ze N159_ 81 7 = 0) ∨ (v164_ = 0 ∧ ze N159_ 81 7 ≠ 0)) := hp0_N163_
                                      rcases hp0_N163_ with ⟨rfl, ha194_0_hp0_N163_⟩ | ⟨rfl, ha194_0_hp0_N163_⟩
                                      · skip
                                        exfalso; omega
                                      · skip
                                        show zW l m_M_operand (zn Mz + 0, zw Mz + 0) N159_ 197 [some (.ref 81), none, none] [.int (Int32.ofInt 0)] (zpI [3, 4, 5, 6, 7, 8, 11, 38, 39, 41, 42, 43] [95, 100] Mz (fun v N => 0 ≤ ze N 81 3 ∧ ze N 81 3 ≤ ze N 81 2 ∧ zTv N ∧ (((v = 0 ∧ 1 ≤ ze N 81 7 ∧ zmu N = 0) ∨ (v = 0 ∧ ze N 81 7 = 0 ∧ zmu N < zmu Mz ∧ ze N 81 38 = zcw N ∧ 0 ≤ ze N 81 41 ∧ ze N 81 41 - zcw N ≤ ze N 81 43 ∧ ze N 81 42 = ze N 81 41 - zcw N ∧ ze N 81 38 ≤ ze N 81 43 ∧ ze N 81 43 ≤ 30) ∨ (v = 1 ∧ 1 ≤ ze N 81 7 ∧ zmu N = 0) ∨ (v = 1 ∧ ze N 81 7 = 0 ∧ zmu N < zmu Mz ∧ ze N 81 38 = zcw N + 1 ∧ 0 ≤ ze N 81 41 ∧ ze N 81 41 - zcw N ≤ ze N 81 43 ∧ ze N 81 42 = ze N 81 41 - zcw N ∧ ze N 81 38 ≤ ze N 81 43 ∧ ze N 81 43 ≤ 30)))))
                                        refine zr_if_eq (pc := 197) (tgt := 311) ⟨(by decide), (by decide)⟩ (by decide) d_M_operand_197 (fun hc_197 => ?_) (fun hc_197 => ?_)
                                        · skip
                                          refine zw_aload_n (pc := 311) (n := 0) (x := 81) rfl d_M_operand_311 ?_
                                          refine zr_callV (hf_N159_.w hW) hf_N159_.x (pc := 312) [] [] l_M_183 (c_M_isGood l N159_ (hf_N159_.w hW) ) rfl rfl rfl (by decide) (Nat.le_of_ble_eq_true rfl) d_M_operand_312 ?_
                                          rintro _ N165_ ⟨v166_, rfl, ⟨hv166_a, hv166_b⟩, hsN165_, hp0_N165_⟩
                                          obtain rfl := hsN165_.eq.symm
                                          replace hp0_N165_ : ((v166_ = 1 ∧ ze N159_ 81 7 = 0) ∨ (v166_ = 0 ∧ ze N159_ 81 7 ≠ 0)) := hp0_N165_
                                          rcases hp0_N165_ with ⟨rfl, ha312_0_hp0_N165_⟩ | ⟨rfl, ha312_0_hp0_N165_⟩
                                          · skip
                                            exfalso; omega
                                          · skip
                                            show zW l m_M_operand (zn Mz + 0, zw Mz + 0) N159_ 315 [some (.ref 81), none, none] [.int (Int32.ofInt 0)] (zpI [3, 4, 5, 6, 7, 8, 11, 38, 39, 41, 42, 43] [95, 100] Mz (fun v N => 0 ≤ ze N 81 3 ∧ ze N 81 3 ≤ ze N 81 2 ∧ zTv N ∧ (((v = 0 ∧ 1 ≤ ze N 81 7 ∧ zmu N = 0) ∨ (v = 0 ∧ ze N 81 7 = 0 ∧ zmu N < zmu Mz ∧ ze N 81 38 = zcw N ∧ 0 ≤ ze N 81 41 ∧ ze N 81 41 - zcw N ≤ ze N 81 43 ∧ ze N 81 42 = ze N 81 41 - zcw N ∧ ze N 81 38 ≤ ze N 81 43 ∧ ze N 81 43 ≤ 30) ∨ (v = 1 ∧ 1 ≤ ze N 81 7 ∧ zmu N = 0) ∨ (v = 1 ∧ ze N 81 7 = 0 ∧ zmu N < zmu Mz ∧ ze N 81 38 = zcw N + 1 ∧ 0 ≤ ze N 81 41 ∧ ze N 81 41 - zcw N ≤ ze N 81 43 ∧ ze N 81 42 = ze N 81 41 - zcw N ∧ ze N 81 38 ≤ ze N 81 43 ∧ ze N 81 43 ≤ 30)))))
                                            refine zr_if_eq (pc := 315) (tgt := 322) ⟨(by decide), (by decide)⟩ (by decide) d_M_operand_315 (fun hc_315 => ?_) (fun hc_315 => ?_)
                                            · skip
                                              refine zw_iconst (pc := 322) (v := Int32.ofInt 1) (by decide) d_M_operand_322 ?_
                                              have hz0 := zmu_s N159_
                                              exact zr_iret (pc := 323) (ty := .boolean) rfl (z_narB (by omega)) ⟨by omega, by omega⟩ hf_N159_ ⟨(show 0 ≤ ze N159_ 81 3 by first | assumption | omega), (show ze N159_ 81 3 ≤ ze N159_ 81 2 by first | assumption | omega), c162_, (show ((1 = 0 ∧ 1 ≤ ze N159_ 81 7 ∧ zmu N159_ = 0) ∨ (1 = 0 ∧ ze N159_ 81 7 = 0 ∧ zmu N159_ < zmu Mz ∧ ze N159_ 81 38 = zcw N159_ ∧ 0 ≤ ze N159_ 81 41 ∧ ze N159_ 81 41 - zcw N159_ ≤ ze N159_ 81 43 ∧ ze N159_ 81 42 = ze N159_ 81 41 - zcw N159_ ∧ ze N159_ 81 38 ≤ ze N159_ 81 43 ∧ ze N159_ 81 43 ≤ 30) ∨ (1 = 1 ∧ 1 ≤ ze N159_ 81 7 ∧ zmu N159_ = 0) ∨ (1 = 1 ∧ ze N159_ 81 7 = 0 ∧ zmu N159_ < zmu Mz ∧ ze N159_ 81 38 = zcw N159_ + 1 ∧ 0 ≤ ze N159_ 81 41 ∧ ze N159_ 81 41 - zcw N159_ ≤ ze N159_ 81 43 ∧ ze N159_ 81 42 = ze N159_ 81 41 - zcw N159_ ∧ ze N159_ 81 38 ≤ ze N159_ 81 43 ∧ ze N159_ 81 43 ≤ 30)) from Or.inr (Or.inr (Or.inl (⟨(show 1 = 1 by first | assumption | omega), (show 1 ≤ ze N159_ 81 7 by first | assumption | omega), (show zmu N159_ = 0 by first | assumption | omega)⟩))))⟩ d_M_operand_323
                                            · skip
                                              exact absurd hc_315 (by decide)
                                        · skip
                                          exact absurd hc_197 (by decide)
                                · skip
                                  exfalso; omega
                              · skip
                                refine zw_aload_n (pc := 165) (n := 0) (x := 81) rfl d_M_operand_165 ?_
                                refine zw_iconst (pc := 166) (v := Int32.ofInt 2) (by decide) d_M_operand_166 ?_
                                refine zr_callV (hf_N141_.w hW) hf_N141_.x (pc := 167) [.int (Int32.ofInt 2)] [] l_M_190 (c_M_wrong l N141_ (hf_N141_.w hW) 2 (by decide) (by decide) (show ze N141_ 81 7 = 0 by first | assumption | omega) (show 1 ≤ 2 by first | assumption | omega)) rfl rfl rfl (by decide) (Nat.le_of_ble_eq_true rfl) d_M_operand_167 ?_
                                rintro _ N167_ ⟨rfl, hsN167_, ⟨hp0_N167_, hp1_N167_⟩⟩
                                have hf_N167_ : zFr [3, 4, 5, 6, 7, 8, 11, 38, 39, 41, 42, 43] [95, 100] Mz N167_ := hf_N141_.tr hsN167_ (by decide) (by decide)
                                have e2_N167_ : ze N167_ 81 2 = ze N141_ 81 2 := hsN167_.e (by decide)
                                have e3_N167_ : ze N167_ 81 3 = ze N141_ 81 3 := hsN167_.e (by decide)
                                have e5_N167_ : ze N167_ 81 5 = ze N141_ 81 5 := hsN167_.e (by decide)
                                have e6_N167_ : ze N167_ 81 6 = ze N141_ 81 6 := hsN167_.e (by decide)
                                have r7_N167_ := ze_r N167_ 81 7
                                have e14_N167_ : ze N167_ 81 14 = ze N141_ 81 14 := hsN167_.e (by decide)
                                have e26_N167_ : ze N167_ 81 26 = ze N141_ 81 26 := hsN167_.e (by decide)
                                have e38_N167_ : ze N167_ 81 38 = ze N141_ 81 38 := hsN167_.e (by decide)
                                have e41_N167_ : ze N167_ 81 41 = ze N141_ 81 41 := hsN167_.e (by decide)
                                have e42_N167_ : ze N167_ 81 42 = ze N141_ 81 42 := hsN167_.e (by decide)
                                have e43_N167_ : ze N167_ 81 43 = ze N141_ 81 43 := hsN167_.e (by decide)
                                have qzcw_N167_ : zcw N167_ = zcw N141_ := zcw_f hsN167_ (by decide)
                                have c169_ : zGD N167_ := zGD.fr hsN167_ c143_ (by decide) (by decide)
                                have c170_ : zTv N167_ := zTv.fr hsN167_ hp2_N141_ (by decide) (by decide)
                                show zW l m_M_operand (zn Mz + 0, zw Mz + 0) N167_ 170 [some (.ref 81), none, none] [] (zpI [3, 4, 5, 6, 7, 8, 11, 38, 39, 41, 42, 43] [95, 100] Mz (fun v N => 0 ≤ ze N 81 3 ∧ ze N 81 3 ≤ ze N 81 2 ∧ zTv N ∧ (((v = 0 ∧ 1 ≤ ze N 81 7 ∧ zmu N = 0) ∨ (v = 0 ∧ ze N 81 7 = 0 ∧ zmu N < zmu Mz ∧ ze N 81 38 = zcw N ∧ 0 ≤ ze N 81 41 ∧ ze N 81 41 - zcw N ≤ ze N 81 43 ∧ ze N 81 42 = ze N 81 41 - zcw N ∧ ze N 81 38 ≤ ze N 81 43 ∧ ze N 81 43 ≤ 30) ∨ (v = 1 ∧ 1 ≤ ze N 81 7 ∧ zmu N = 0) ∨ (v = 1 ∧ ze N 81 7 = 0 ∧ zmu N < zmu Mz ∧ ze N 81 38 = zcw N + 1 ∧ 0 ≤ ze N 81 41 ∧ ze N 81 41 - zcw N ≤ ze N 81 43 ∧ ze N 81 42 = ze N 81 41 - zcw N ∧ ze N 81 38 ≤ ze N 81 43 ∧ ze N 81 43 ≤ 30)))))
                                refine zw_aload_n (pc := 170) (n := 0) (x := 81) rfl d_M_operand_170 ?_
                                refine zr_callV (hf_N167_.w hW) hf_N167_.x (pc := 171) [] [] l_M_183 (c_M_isGood l N167_ (hf_N167_.w hW) ) rfl rfl rfl (by decide) (Nat.le_of_ble_eq_true rfl) d_M_operand_171 ?_
                                rintro _ N171_ ⟨v172_, rfl, ⟨hv172_a, hv172_b⟩, hsN171_, hp0_N171_⟩
                                obtain rfl := hsN171_.eq.symm
                                replace hp0_N171_ : ((v172_ = 1 ∧ ze N167_ 81 7 = 0) ∨ (v172_ = 0 ∧ ze N167_ 81 7 ≠ 0)) := hp0_N171_
                                rcases hp0_N171_ with ⟨rfl, ha171_0_hp0_N171_⟩ | ⟨rfl, ha171_0_hp0_N171_⟩
                                · skip
                                  exfalso; omega
                                · skip
                                  show zW l m_M_operand (zn Mz + 0, zw Mz + 0) N167_ 174 [some (.ref 81), none, none] [.int (Int32.ofInt 0)] (zpI [3, 4, 5, 6, 7, 8, 11, 38, 39, 41, 42, 43] [95, 100] Mz (fun v N => 0 ≤ ze N 81 3 ∧ ze N 81 3 ≤ ze N 81 2 ∧ zTv N ∧ (((v = 0 ∧ 1 ≤ ze N 81 7 ∧ zmu N = 0) ∨ (v = 0 ∧ ze N 81 7 = 0 ∧ zmu N < zmu Mz ∧ ze N 81 38 = zcw N ∧ 0 ≤ ze N 81 41 ∧ ze N 81 41 - zcw N ≤ ze N 81 43 ∧ ze N 81 42 = ze N 81 41 - zcw N ∧ ze N 81 38 ≤ ze N 81 43 ∧ ze N 81 43 ≤ 30) ∨ (v = 1 ∧ 1 ≤ ze N 81 7 ∧ zmu N = 0) ∨ (v = 1 ∧ ze N 81 7 = 0 ∧ zmu N < zmu Mz ∧ ze N 81 38 = zcw N + 1 ∧ 0 ≤ ze N 81 41 ∧ ze N 81 41 - zcw N ≤ ze N 81 43 ∧ ze N 81 42 = ze N 81 41 - zcw N ∧ ze N 81 38 ≤ ze N 81 43 ∧ ze N 81 43 ≤ 30)))))
                                  refine zr_if_eq (pc := 174) (tgt := 193) ⟨(by decide), (by decide)⟩ (by decide) d_M_operand_174 (fun hc_174 => ?_) (fun hc_174 => ?_)
                                  · skip
                                    refine zw_aload_n (pc := 193) (n := 0) (x := 81) rfl d_M_operand_193 ?_
                                    refine zr_callV (hf_N167_.w hW) hf_N167_.x (pc := 194) [] [] l_M_183 (c_M_isGood l N167_ (hf_N167_.w hW) ) rfl rfl rfl (by decide) (Nat.le_of_ble_eq_true rfl) d_M_operand_194 ?_
                                    rintro _ N173_ ⟨v174_, rfl, ⟨hv174_a, hv174_b⟩, hsN173_, hp0_N173_⟩
                                    obtain rfl := hsN173_.eq.symm
                                    replace hp0_N173_ : ((v174_ = 1 ∧ ze N167_ 81 7 = 0) ∨ (v174_ = 0 ∧ ze N167_ 81 7 ≠ 0)) := hp0_N173_
                                    rcases hp0_N173_ with ⟨rfl, ha194_0_hp0_N173_⟩ | ⟨rfl, ha194_0_hp0_N173_⟩
                                    · skip
                                      exfalso; omega
                                    · skip
                                      show zW l m_M_operand (zn Mz + 0, zw Mz + 0) N167_ 197 [some (.ref 81), none, none] [.int (Int32.ofInt 0)] (zpI [3, 4, 5, 6, 7, 8, 11, 38, 39, 41, 42, 43] [95, 100] Mz (fun v N => 0 ≤ ze N 81 3 ∧ ze N 81 3 ≤ ze N 81 2 ∧ zTv N ∧ (((v = 0 ∧ 1 ≤ ze N 81 7 ∧ zmu N = 0) ∨ (v = 0 ∧ ze N 81 7 = 0 ∧ zmu N < zmu Mz ∧ ze N 81 38 = zcw N ∧ 0 ≤ ze N 81 41 ∧ ze N 81 41 - zcw N ≤ ze N 81 43 ∧ ze N 81 42 = ze N 81 41 - zcw N ∧ ze N 81 38 ≤ ze N 81 43 ∧ ze N 81 43 ≤ 30) ∨ (v = 1 ∧ 1 ≤ ze N 81 7 ∧ zmu N = 0) ∨ (v = 1 ∧ ze N 81 7 = 0 ∧ zmu N < zmu Mz ∧ ze N 81 38 = zcw N + 1 ∧ 0 ≤ ze N 81 41 ∧ ze N 81 41 - zcw N ≤ ze N 81 43 ∧ ze N 81 42 = ze N 81 41 - zcw N ∧ ze N 81 38 ≤ ze N 81 43 ∧ ze N 81 43 ≤ 30)))))
                                      refine zr_if_eq (pc := 197) (tgt := 311) ⟨(by decide), (by decide)⟩ (by decide) d_M_operand_197 (fun hc_197 => ?_) (fun hc_197 => ?_)
                                      · skip
                                        refine zw_aload_n (pc := 311) (n := 0) (x := 81) rfl d_M_operand_311 ?_
                                        refine zr_callV (hf_N167_.w hW) hf_N167_.x (pc := 312) [] [] l_M_183 (c_M_isGood l N167_ (hf_N167_.w hW) ) rfl rfl rfl (by decide) (Nat.le_of_ble_eq_true rfl) d_M_operand_312 ?_
                                        rintro _ N175_ ⟨v176_, rfl, ⟨hv176_a, hv176_b⟩, hsN175_, hp0_N175_⟩
                                        obtain rfl := hsN175_.eq.symm
                                        replace hp0_N175_ : ((v176_ = 1 ∧ ze N167_ 81 7 = 0) ∨ (v176_ = 0 ∧ ze N167_ 81 7 ≠ 0)) := hp0_N175_
                                        rcases hp0_N175_ with ⟨rfl, ha312_0_hp0_N175_⟩ | ⟨rfl, ha312_0_hp0_N175_⟩
                                        · skip
                                          exfalso; omega
                                        · skip
                                          show zW l m_M_operand (zn Mz + 0, zw Mz + 0) N167_ 315 [some (.ref 81), none, none] [.int (Int32.ofInt 0)] (zpI [3, 4, 5, 6, 7, 8, 11, 38, 39, 41, 42, 43] [95, 100] Mz (fun v N => 0 ≤ ze N 81 3 ∧ ze N 81 3 ≤ ze N 81 2 ∧ zTv N ∧ (((v = 0 ∧ 1 ≤ ze N 81 7 ∧ zmu N = 0) ∨ (v = 0 ∧ ze N 81 7 = 0 ∧ zmu N < zmu Mz ∧ ze N 81 38 = zcw N ∧ 0 ≤ ze N 81 41 ∧ ze N 81 41 - zcw N ≤ ze N 81 43 ∧ ze N 81 42 = ze N 81 41 - zcw N ∧ ze N 81 38 ≤ ze N 81 43 ∧ ze N 81 43 ≤ 30) ∨ (v = 1 ∧ 1 ≤ ze N 81 7 ∧ zmu N = 0) ∨ (v = 1 ∧ ze N 81 7 = 0 ∧ zmu N < zmu Mz ∧ ze N 81 38 = zcw N + 1 ∧ 0 ≤ ze N 81 41 ∧ ze N 81 41 - zcw N ≤ ze N 81 43 ∧ ze N 81 42 = ze N 81 41 - zcw N ∧ ze N 81 38 ≤ ze N 81 43 ∧ ze N 81 43 ≤ 30)))))
                                          refine zr_if_eq (pc := 315) (tgt := 322) ⟨(by decide), (by decide)⟩ (by decide) d_M_operand_315 (fun hc_315 => ?_) (fun hc_315 => ?_)
                                          · skip
                                            refine zw_iconst (pc := 322) (v := Int32.ofInt 1) (by decide) d_M_operand_322 ?_
                                            have hz0 := zmu_s N167_
                                            exact zr_iret (pc := 323) (ty := .boolean) rfl (z_narB (by omega)) ⟨by omega, by omega⟩ hf_N167_ ⟨(show 0 ≤ ze N167_ 81 3 by first | assumption | omega), (show ze N167_ 81 3 ≤ ze N167_ 81 2 by first | assumption | omega), c170_, (show ((1 = 0 ∧ 1 ≤ ze N167_ 81 7 ∧ zmu N167_ = 0) ∨ (1 = 0 ∧ ze N167_ 81 7 = 0 ∧ zmu N167_ < zmu Mz ∧ ze N167_ 81 38 = zcw N167_ ∧ 0 ≤ ze N167_ 81 41 ∧ ze N167_ 81 41 - zcw N167_ ≤ ze N167_ 81 43 ∧ ze N167_ 81 42 = ze N167_ 81 41 - zcw N167_ ∧ ze N167_ 81 38 ≤ ze N167_ 81 43 ∧ ze N167_ 81 43 ≤ 30) ∨ (1 = 1 ∧ 1 ≤ ze N167_ 81 7 ∧ zmu N167_ = 0) ∨ (1 = 1 ∧ ze N167_ 81 7 = 0 ∧ zmu N167_ < zmu Mz ∧ ze N167_ 81 38 = zcw N167_ + 1 ∧ 0 ≤ ze N167_ 81 41 ∧ ze N167_ 81 41 - zcw N167_ ≤ ze N167_ 81 43 ∧ ze N167_ 81 42 = ze N167_ 81 41 - zcw N167_ ∧ ze N167_ 81 38 ≤ ze N167_ 81 43 ∧ ze N167_ 81 43 ≤ 30)) from Or.inr (Or.inr (Or.inl (⟨(show 1 = 1 by first | assumption | omega), (show 1 ≤ ze N167_ 81 7 by first | assumption | omega), (show zmu N167_ = 0 by first | assumption | omega)⟩))))⟩ d_M_operand_323
                                          · skip
                                            exact absurd hc_315 (by decide)
                                      · skip
                                        exact absurd hc_197 (by decide)
                                  · skip
                                    exact absurd hc_174 (by decide)
                          · skip
                            exfalso; omega
                      · skip
                        exfalso; omega
                · skip
                  show zW l m_M_operand (zn Mz + 0, zw Mz + 0) Mz 132 [some (.ref 81), none, none] [.int (Int32.ofInt 0)] (zpI [3, 4, 5, 6, 7, 8, 11, 38, 39, 41, 42, 43] [95, 100] Mz (fun v N => 0 ≤ ze N 81 3 ∧ ze N 81 3 ≤ ze N 81 2 ∧ zTv N ∧ (((v = 0 ∧ 1 ≤ ze N 81 7 ∧ zmu N = 0) ∨ (v = 0 ∧ ze N 81 7 = 0 ∧ zmu N < zmu Mz ∧ ze N 81 38 = zcw N ∧ 0 ≤ ze N 81 41 ∧ ze N 81 41 - zcw N ≤ ze N 81 43 ∧ ze N 81 42 = ze N 81 41 - zcw N ∧ ze N 81 38 ≤ ze N 81 43 ∧ ze N 81 43 ≤ 30) ∨ (v = 1 ∧ 1 ≤ ze N 81 7 ∧ zmu N = 0) ∨ (v = 1 ∧ ze N 81 7 = 0 ∧ zmu N < zmu Mz ∧ ze N 81 38 = zcw N + 1 ∧ 0 ≤ ze N 81 41 ∧ ze N 81 41 - zcw N ≤ ze N 81 43 ∧ ze N 81 42 = ze N 81 41 - zcw N ∧ ze N 81 38 ≤ ze N 81 43 ∧ ze N 81 43 ≤ 30)))))
                  refine zr_if_eq (pc := 132) (tgt := 212) ⟨(by decide), (by decide)⟩ (by decide) d_M_operand_132 (fun hc_132 => ?_) (fun hc_132 => ?_)
                  · skip
                    refine zw_aload_n (pc := 212) (n := 0) (x := 81) rfl d_M_operand_212 ?_
                    refine zr_callV (hf.w hW) hf.x (pc := 213) [] [] l_M_183 (c_M_isGood l Mz (hf.w hW) ) rfl rfl rfl (by decide) (Nat.le_of_ble_eq_true rfl) d_M_operand_213 ?_
                    rintro _ N177_ ⟨v178_, rfl, ⟨hv178_a, hv178_b⟩, hsN177_, hp0_N177_⟩
                    obtain rfl := hsN177_.eq.symm
                    replace hp0_N177_ : ((v178_ = 1 ∧ ze Mz 81 7 = 0) ∨ (v178_ = 0 ∧ ze Mz 81 7 ≠ 0)) := hp0_N177_
                    rcases hp0_N177_ with ⟨rfl, ha213_0_hp0_N177_⟩ | ⟨rfl, ha213_0_hp0_N177_⟩
                    · skip
                      show zW l m_M_operand (zn Mz + 0, zw Mz + 0) Mz 216 [some (.ref 81), none, none] [.int (Int32.ofInt 1)] (zpI [3, 4, 5, 6, 7, 8, 11, 38, 39, 41, 42, 43] [95, 100] Mz (fun v N => 0 ≤ ze N 81 3 ∧ ze N 81 3 ≤ ze N 81 2 ∧ zTv N ∧ (((v = 0 ∧ 1 ≤ ze N 81 7 ∧ zmu N = 0) ∨ (v = 0 ∧ ze N 81 7 = 0 ∧ zmu N < zmu Mz ∧ ze N 81 38 = zcw N ∧ 0 ≤ ze N 81 41 ∧ ze N 81 41 - zcw N ≤ ze N 81 43 ∧ ze N 81 42 = ze N 81 41 - zcw N ∧ ze N 81 38 ≤ ze N 81 43 ∧ ze N 81 43 ≤ 30) ∨ (v = 1 ∧ 1 ≤ ze N 81 7 ∧ zmu N = 0) ∨ (v = 1 ∧ ze N 81 7 = 0 ∧ zmu N < zmu Mz ∧ ze N 81 38 = zcw N + 1 ∧ 0 ≤ ze N 81 41 ∧ ze N 81 41 - zcw N ≤ ze N 81 43 ∧ ze N 81 42 = ze N 81 41 - zcw N ∧ ze N 81 38 ≤ ze N 81 43 ∧ ze N 81 43 ≤ 30)))))
                      refine zr_if_eq (pc := 216) (tgt := 306) ⟨(by decide), (by decide)⟩ (by decide) d_M_operand_216 (fun hc_216 => ?_) (fun hc_216 => ?_)
                      · skip
                        exact absurd hc_216 (by decide)
                      · skip
                        refine zw_aload_n (pc := 219) (n := 0) (x := 81) rfl d_M_operand_219 ?_
                        refine zr_callV (hf.w hW) hf.x (pc := 220) [] [] l_M_316 (c_M_isName l Mz (hf.w hW) ) rfl rfl rfl (by decide) (Nat.le_of_ble_eq_true rfl) d_M_operand_220 ?_
                        rintro _ N179_ ⟨v180_, rfl, ⟨hv180_a, hv180_b⟩, hsN179_, hp0_N179_⟩
                        obtain rfl := hsN179_.eq.symm
                        replace hp0_N179_ : ((v180_ = 1 ∧ ze Mz 81 5 = 1) ∨ (v180_ = 0)) := hp0_N179_
                        rcases hp0_N179_ with ⟨rfl, ha220_0_hp0_N179_⟩ | rfl
                        · skip
                          show zW l m_M_operand (zn Mz + 0, zw Mz + 0) Mz 223 [some (.ref 81), none, none] [.int (Int32.ofInt 1)] (zpI [3, 4, 5, 6, 7, 8, 11, 38, 39, 41, 42, 43] [95, 100] Mz (fun v N => 0 ≤ ze N 81 3 ∧ ze N 81 3 ≤ ze N 81 2 ∧ zTv N ∧ (((v = 0 ∧ 1 ≤ ze N 81 7 ∧ zmu N = 0) ∨ (v = 0 ∧ ze N 81 7 = 0 ∧ zmu N < zmu Mz ∧ ze N 81 38 = zcw N ∧ 0 ≤ ze N 81 41 ∧ ze N 81 41 - zcw N ≤ ze N 81 43 ∧ ze N 81 42 = ze N 81 41 - zcw N ∧ ze N 81 38 ≤ ze N 81 43 ∧ ze N 81 43 ≤ 30) ∨ (v = 1 ∧ 1 ≤ ze N 81 7 ∧ zmu N = 0) ∨ (v = 1 ∧ ze N 81 7 = 0 ∧ zmu N < zmu Mz ∧ ze N 81 38 = zcw N + 1 ∧ 0 ≤ ze N 81 41 ∧ ze N 81 41 - zcw N ≤ ze N 81 43 ∧ ze N 81 42 = ze N 81 41 - zcw N ∧ ze N 81 38 ≤ ze N 81 43 ∧ ze N 81 43 ≤ 30)))))
                          refine zr_if_eq (pc := 223) (tgt := 306) ⟨(by decide), (by decide)⟩ (by decide) d_M_operand_223 (fun hc_223 => ?_) (fun hc_223 => ?_)
                          · skip
                            exact absurd hc_223 (by decide)
                          · skip
                            refine zw_aload_n (pc := 226) (n := 0) (x := 81) rfl d_M_operand_226 ?_
                            refine zr_callV (hf.w hW) hf.x (pc := 227) [] [] l_M_319 (c_M_nameAt l Mz (hf.w hW) (show 0 ≤ ze Mz 81 14 by first | assumption | omega) (show ze Mz 81 14 ≤ 8 by first | assumption | omega)) rfl rfl rfl (by decide) (Nat.le_of_ble_eq_true rfl) d_M_operand_227 ?_
                            rintro _ N181_ ⟨v182_, rfl, ⟨hv182_a, hv182_b⟩, hsN181_, ⟨hp0_N181_, hp1_N181_⟩⟩
                            obtain rfl := hsN181_.eq.symm
                            show zW l m_M_operand (zn Mz + 0, zw Mz + 0) Mz 230 [some (.ref 81), none, none] [.int (Int32.ofInt v182_)] (zpI [3, 4, 5, 6, 7, 8, 11, 38, 39, 41, 42, 43] [95, 100] Mz (fun v N => 0 ≤ ze N 81 3 ∧ ze N 81 3 ≤ ze N 81 2 ∧ zTv N ∧ (((v = 0 ∧ 1 ≤ ze N 81 7 ∧ zmu N = 0) ∨ (v = 0 ∧ ze N 81 7 = 0 ∧ zmu N < zmu Mz ∧ ze N 81 38 = zcw N ∧ 0 ≤ ze N 81 41 ∧ ze N 81 41 - zcw N ≤ ze N 81 43 ∧ ze N 81 42 = ze N 81 41 - zcw N ∧ ze N 81 38 ≤ ze N 81 43 ∧ ze N 81 43 ≤ 30) ∨ (v = 1 ∧ 1 ≤ ze N 81 7 ∧ zmu N = 0) ∨ (v = 1 ∧ ze N 81 7 = 0 ∧ zmu N < zmu Mz ∧ ze N 81 38 = zcw N + 1 ∧ 0 ≤ ze N 81 41 ∧ ze N 81 41 - zcw N ≤ ze N 81 43 ∧ ze N 81 42 = ze N 81 41 - zcw N ∧ ze N 81 38 ≤ ze N 81 43 ∧ ze N 81 43 ≤ 30)))))
                            refine zw_istore_n (pc := 230) (i := 1) (L2 := [some (.ref 81), some (.int (Int32.ofInt v182_)), none]) rfl (by decide) rfl d_M_operand_230 ?_
                            refine zw_iload_n (pc := 231) (n := 1) (x := Int32.ofInt v182_) rfl d_M_operand_231 ?_
                            refine zw_iconst (pc := 232) (v := Int32.ofInt (-1)) (by decide) d_M_operand_232 ?_
                            refine zr_icmp_ne (pc := 233) (tgt := 241) ⟨hv182_a, hv182_b⟩ ⟨(by decide), (by decide)⟩ (by decide) d_M_operand_233 (fun hc_233 => ?_) (fun hc_233 => ?_)
                            · skip
                              refine zw_aload_n (pc := 241) (n := 0) (x := 81) rfl d_M_operand_241 ?_
                              refine zr_callV (hf.w hW) hf.x (pc := 242) [] [] l_M_302 (c_M_countsUnit l Mz (hf.w hW) (show 0 ≤ ze Mz 81 7 by first | assumption | omega) (show 0 ≤ ze Mz 81 43 by first | assumption | omega) (show ze Mz 81 43 ≤ 1000 by first | assumption | omega)) rfl rfl rfl (by decide) (Nat.le_of_ble_eq_true rfl) d_M_operand_242 ?_
                              rintro _ N183_ ⟨rfl, hsN183_, ⟨hp0_N183_, hp1_N183_⟩⟩
                              have hf_N183_ : zFr [3, 4, 5, 6, 7, 8, 11, 38, 39, 41, 42, 43] [95, 100] Mz N183_ := hf.tr hsN183_ (by decide) (by decide)
                              have e2_N183_ : ze N183_ 81 2 = ze Mz 81 2 := hsN183_.e (by decide)
                              have e3_N183_ : ze N183_ 81 3 = ze Mz 81 3 := hsN183_.e (by decide)
                              have e5_N183_ : ze N183_ 81 5 = ze Mz 81 5 := hsN183_.e (by decide)
                              have e6_N183_ : ze N183_ 81 6 = ze Mz 81 6 := hsN183_.e (by decide)
                              have r7_N183_ := ze_r N183_ 81 7
                              have e14_N183_ : ze N183_ 81 14 = ze Mz 81 14 := hsN183_.e (by decide)
                              have e26_N183_ : ze N183_ 81 26 = ze Mz 81 26 := hsN183_.e (by decide)
                              have e38_N183_ : ze N183_ 81 38 = ze Mz 81 38 := hsN183_.e (by decide)
                              have e41_N183_ : ze N183_ 81 41 = ze Mz 81 41 := hsN183_.e (by decide)
                              have e42_N183_ : ze N183_ 81 42 = ze Mz 81 42 := hsN183_.e (by decide)
                              have r43_N183_ := ze_r N183_ 81 43
                              have qzcw_N183_ : zcw N183_ = zcw Mz := zcw_f hsN183_ (by decide)
                              have c185_ : zGD N183_ := zGD.fr hsN183_ p0_ (by decide) (by decide)
                              have c186_ : zTv N183_ := zTv.fr hsN183_ p4_ (by decide) (by decide)
                              rcases hp1_N183_ with ⟨ha242_0_hp1_N183_, ha242_1_hp1_N183_⟩ | ⟨ha242_0_hp1_N183_, ha242_1_hp1_N183_, ha242_2_hp1_N183_, ha242_3_hp1_N183_⟩
                              · skip
                                show zW l m_M_operand (zn Mz + 0, zw Mz + 0) N183_ 245 [some (.ref 81), some (.int (Int32.ofInt v182_)), none] [] (zpI [3, 4, 5, 6, 7, 8, 11, 38, 39, 41, 42, 43] [95, 100] Mz (fun v N => 0 ≤ ze N 81 3 ∧ ze N 81 3 ≤ ze N 81 2 ∧ zTv N ∧ (((v = 0 ∧ 1 ≤ ze N 81 7 ∧ zmu N = 0) ∨ (v = 0 ∧ ze N 81 7 = 0 ∧ zmu N < zmu Mz ∧ ze N 81 38 = zcw N ∧ 0 ≤ ze N 81 41 ∧ ze N 81 41 - zcw N ≤ ze N 81 43 ∧ ze N 81 42 = ze N 81 41 - zcw N ∧ ze N 81 38 ≤ ze N 81 43 ∧ ze N 81 43 ≤ 30) ∨ (v = 1 ∧ 1 ≤ ze N 81 7 ∧ zmu N = 0) ∨ (v = 1 ∧ ze N 81 7 = 0 ∧ zmu N < zmu Mz ∧ ze N 81 38 = zcw N + 1 ∧ 0 ≤ ze N 81 41 ∧ ze N 81 41 - zcw N ≤ ze N 81 43 ∧ ze N 81 42 = ze N 81 41 - zcw N ∧ ze N 81 38 ≤ ze N 81 43 ∧ ze N 81 43 ≤ 30)))))
                                refine zw_aload_n (pc := 245) (n := 0) (x := 81) rfl d_M_operand_245 ?_
                                refine zr_callV (hf_N183_.w hW) hf_N183_.x (pc := 246) [] [] l_M_183 (c_M_isGood l N183_ (hf_N183_.w hW) ) rfl rfl rfl (by decide) (Nat.le_of_ble_eq_true rfl) d_M_operand_246 ?_
                                rintro _ N187_ ⟨v188_, rfl, ⟨hv188_a, hv188_b⟩, hsN187_, hp0_N187_⟩
                                obtain rfl := hsN187_.eq.symm
                                replace hp0_N187_ : ((v188_ = 1 ∧ ze N183_ 81 7 = 0) ∨ (v188_ = 0 ∧ ze N183_ 81 7 ≠ 0)) := hp0_N187_
                                rcases hp0_N187_ with ⟨rfl, ha246_0_hp0_N187_⟩ | ⟨rfl, ha246_0_hp0_N187_⟩
                                · skip
                                  exfalso; omega
                                · skip
                                  show zW l m_M_operand (zn Mz + 0, zw Mz + 0) N183_ 249 [some (.ref 81), some (.int (Int32.ofInt v182_)), none] [.int (Int32.ofInt 0)] (zpI [3, 4, 5, 6, 7, 8, 11, 38, 39, 41, 42, 43] [95, 100] Mz (fun v N => 0 ≤ ze N 81 3 ∧ ze N 81 3 ≤ ze N 81 2 ∧ zTv N ∧ (((v = 0 ∧ 1 ≤ ze N 81 7 ∧ zmu N = 0) ∨ (v = 0 ∧ ze N 81 7 = 0 ∧ zmu N < zmu Mz ∧ ze N 81 38 = zcw N ∧ 0 ≤ ze N 81 41 ∧ ze N 81 41 - zcw N ≤ ze N 81 43 ∧ ze N 81 42 = ze N 81 41 - zcw N ∧ ze N 81 38 ≤ ze N 81 43 ∧ ze N 81 43 ≤ 30) ∨ (v = 1 ∧ 1 ≤ ze N 81 7 ∧ zmu N = 0) ∨ (v = 1 ∧ ze N 81 7 = 0 ∧ zmu N < zmu Mz ∧ ze N 81 38 = zcw N + 1 ∧ 0 ≤ ze N 81 41 ∧ ze N 81 41 - zcw N ≤ ze N 81 43 ∧ ze N 81 42 = ze N 81 41 - zcw N ∧ ze N 81 38 ≤ ze N 81 43 ∧ ze N 81 43 ≤ 30)))))
                                  refine zr_if_eq (pc := 249) (tgt := 303) ⟨(by decide), (by decide)⟩ (by decide) d_M_operand_249 (fun hc_249 => ?_) (fun hc_249 => ?_)
                                  · skip
                                    refine zw_goto (pc := 303) (tgt := 311) (by decide) d_M_operand_303 ?_
                                    refine zw_aload_n (pc := 311) (n := 0) (x := 81) rfl d_M_operand_311 ?_
                                    refine zr_callV (hf_N183_.w hW) hf_N183_.x (pc := 312) [] [] l_M_183 (c_M_isGood l N183_ (hf_N183_.w hW) ) rfl rfl rfl (by decide) (Nat.le_of_ble_eq_true rfl) d_M_operand_312 ?_
                                    rintro _ N189_ ⟨v190_, rfl, ⟨hv190_a, hv190_b⟩, hsN189_, hp0_N189_⟩
                                    obtain rfl := hsN189_.eq.symm
                                    replace hp0_N189_ : ((v190_ = 1 ∧ ze N183_ 81 7 = 0) ∨ (v190_ = 0 ∧ ze N183_ 81 7 ≠ 0)) := hp0_N189_
                                    rcases hp0_N189_ with ⟨rfl, ha312_0_hp0_N189_⟩ | ⟨rfl, ha312_0_hp0_N189_⟩
                                    · skip
                                      exfalso; omega
                                    · skip
                                      show zW l m_M_operand (zn Mz + 0, zw Mz + 0) N183_ 315 [some (.ref 81), some (.int (Int32.ofInt v182_)), none] [.int (Int32.ofInt 0)] (zpI [3, 4, 5, 6, 7, 8, 11, 38, 39, 41, 42, 43] [95, 100] Mz (fun v N => 0 ≤ ze N 81 3 ∧ ze N 81 3 ≤ ze N 81 2 ∧ zTv N ∧ (((v = 0 ∧ 1 ≤ ze N 81 7 ∧ zmu N = 0) ∨ (v = 0 ∧ ze N 81 7 = 0 ∧ zmu N < zmu Mz ∧ ze N 81 38 = zcw N ∧ 0 ≤ ze N 81 41 ∧ ze N 81 41 - zcw N ≤ ze N 81 43 ∧ ze N 81 42 = ze N 81 41 - zcw N ∧ ze N 81 38 ≤ ze N 81 43 ∧ ze N 81 43 ≤ 30) ∨ (v = 1 ∧ 1 ≤ ze N 81 7 ∧ zmu N = 0) ∨ (v = 1 ∧ ze N 81 7 = 0 ∧ zmu N < zmu Mz ∧ ze N 81 38 = zcw N + 1 ∧ 0 ≤ ze N 81 41 ∧ ze N 81 41 - zcw N ≤ ze N 81 43 ∧ ze N 81 42 = ze N 81 41 - zcw N ∧ ze N 81 38 ≤ ze N 81 43 ∧ ze N 81 43 ≤ 30)))))
                                      refine zr_if_eq (pc := 315) (tgt := 322) ⟨(by decide), (by decide)⟩ (by decide) d_M_operand_315 (fun hc_315 => ?_) (fun hc_315 => ?_)
                                      · skip
                                        refine zw_iconst (pc := 322) (v := Int32.ofInt 1) (by decide) d_M_operand_322 ?_
                                        have hz0 := zmu_s N183_
                                        exact zr_iret (pc := 323) (ty := .boolean) rfl (z_narB (by omega)) ⟨by omega, by omega⟩ hf_N183_ ⟨(show 0 ≤ ze N183_ 81 3 by first | assumption | omega), (show ze N183_ 81 3 ≤ ze N183_ 81 2 by first | assumption | omega), c186_, (show ((1 = 0 ∧ 1 ≤ ze N183_ 81 7 ∧ zmu N183_ = 0) ∨ (1 = 0 ∧ ze N183_ 81 7 = 0 ∧ zmu N183_ < zmu Mz ∧ ze N183_ 81 38 = zcw N183_ ∧ 0 ≤ ze N183_ 81 41 ∧ ze N183_ 81 41 - zcw N183_ ≤ ze N183_ 81 43 ∧ ze N183_ 81 42 = ze N183_ 81 41 - zcw N183_ ∧ ze N183_ 81 38 ≤ ze N183_ 81 43 ∧ ze N183_ 81 43 ≤ 30) ∨ (1 = 1 ∧ 1 ≤ ze N183_ 81 7 ∧ zmu N183_ = 0) ∨ (1 = 1 ∧ ze N183_ 81 7 = 0 ∧ zmu N183_ < zmu Mz ∧ ze N183_ 81 38 = zcw N183_ + 1 ∧ 0 ≤ ze N183_ 81 41 ∧ ze N183_ 81 41 - zcw N183_ ≤ ze N183_ 81 43 ∧ ze N183_ 81 42 = ze N183_ 81 41 - zcw N183_ ∧ ze N183_ 81 38 ≤ ze N183_ 81 43 ∧ ze N183_ 81 43 ≤ 30)) from Or.inr (Or.inr (Or.inl (⟨(show 1 = 1 by first | assumption | omega), (show 1 ≤ ze N183_ 81 7 by first | assumption | omega), (show zmu N183_ = 0 by first | assumption | omega)⟩))))⟩ d_M_operand_323
                                      · skip
                                        exact absurd hc_315 (by decide)
                                  · skip
                                    exact absurd hc_249 (by decide)
                              · skip
                                show zW l m_M_operand (zn Mz + 0, zw Mz + 0) N183_ 245 [some (.ref 81), some (.int (Int32.ofInt v182_)), none] [] (zpI [3, 4, 5, 6, 7, 8, 11, 38, 39, 41, 42, 43] [95, 100] Mz (fun v N => 0 ≤ ze N 81 3 ∧ ze N 81 3 ≤ ze N 81 2 ∧ zTv N ∧ (((v = 0 ∧ 1 ≤ ze N 81 7 ∧ zmu N = 0) ∨ (v = 0 ∧ ze N 81 7 = 0 ∧ zmu N < zmu Mz ∧ ze N 81 38 = zcw N ∧ 0 ≤ ze N 81 41 ∧ ze N 81 41 - zcw N ≤ ze N 81 43 ∧ ze N 81 42 = ze N 81 41 - zcw N ∧ ze N 81 38 ≤ ze N 81 43 ∧ ze N 81 43 ≤ 30) ∨ (v = 1 ∧ 1 ≤ ze N 81 7 ∧ zmu N = 0) ∨ (v = 1 ∧ ze N 81 7 = 0 ∧ zmu N < zmu Mz ∧ ze N 81 38 = zcw N + 1 ∧ 0 ≤ ze N 81 41 ∧ ze N 81 41 - zcw N ≤ ze N 81 43 ∧ ze N 81 42 = ze N 81 41 - zcw N ∧ ze N 81 38 ≤ ze N 81 43 ∧ ze N 81 43 ≤ 30)))))
                                refine zw_aload_n (pc := 245) (n := 0) (x := 81) rfl d_M_operand_245 ?_
                                refine zr_callV (hf_N183_.w hW) hf_N183_.x (pc := 246) [] [] l_M_183 (c_M_isGood l N183_ (hf_N183_.w hW) ) rfl rfl rfl (by decide) (Nat.le_of_ble_eq_true rfl) d_M_operand_246 ?_
                                rintro _ N191_ ⟨v192_, rfl, ⟨hv192_a, hv192_b⟩, hsN191_, hp0_N191_⟩
                                obtain rfl := hsN191_.eq.symm
                                replace hp0_N191_ : ((v192_ = 1 ∧ ze N183_ 81 7 = 0) ∨ (v192_ = 0 ∧ ze N183_ 81 7 ≠ 0)) := hp0_N191_
                                rcases hp0_N191_ with ⟨rfl, ha246_0_hp0_N191_⟩ | ⟨rfl, ha246_0_hp0_N191_⟩
                                · skip
                                  show zW l m_M_operand (zn Mz + 0, zw Mz + 0) N183_ 249 [some (.ref 81), some (.int (Int32.ofInt v182_)), none] [.int (Int32.ofInt 1)] (zpI [3, 4, 5, 6, 7, 8, 11, 38, 39, 41, 42, 43] [95, 100] Mz (fun v N => 0 ≤ ze N 81 3 ∧ ze N 81 3 ≤ ze N 81 2 ∧ zTv N ∧ (((v = 0 ∧ 1 ≤ ze N 81 7 ∧ zmu N = 0) ∨ (v = 0 ∧ ze N 81 7 = 0 ∧ zmu N < zmu Mz ∧ ze N 81 38 = zcw N ∧ 0 ≤ ze N 81 41 ∧ ze N 81 41 - zcw N ≤ ze N 81 43 ∧ ze N 81 42 = ze N 81 41 - zcw N ∧ ze N 81 38 ≤ ze N 81 43 ∧ ze N 81 43 ≤ 30) ∨ (v = 1 ∧ 1 ≤ ze N 81 7 ∧ zmu N = 0) ∨ (v = 1 ∧ ze N 81 7 = 0 ∧ zmu N < zmu Mz ∧ ze N 81 38 = zcw N + 1 ∧ 0 ≤ ze N 81 41 ∧ ze N 81 41 - zcw N ≤ ze N 81 43 ∧ ze N 81 42 = ze N 81 41 - zcw N ∧ ze N 81 38 ≤ ze N 81 43 ∧ ze N 81 43 ≤ 30)))))
                                  refine zr_if_eq (pc := 249) (tgt := 303) ⟨(by decide), (by decide)⟩ (by decide) d_M_operand_249 (fun hc_249 => ?_) (fun hc_249 => ?_)
                                  · skip
                                    exact absurd hc_249 (by decide)
                                  · skip
                                    refine zw_iconst (pc := 252) (v := Int32.ofInt 0) (by decide) d_M_operand_252 ?_
                                    refine zw_istore_n (pc := 253) (i := 2) (L2 := [some (.ref 81), some (.int (Int32.ofInt v182_)), some (.int (Int32.ofInt 0))]) rfl (by decide) rfl d_M_operand_253 ?_
                                    have lp_254 : ∀ (n : Nat) (u193_ : Int) (hu193_a : -2147483648 ≤ u193_) (hu193_b : u193_ < 2147483648) (N194_ : zMem) (hs195_ : zFr [] [95] N183_ N194_) (i196_ : 0 ≤ u193_), (ze Mz 81 26 - u193_).toNat < n → zW l m_M_operand (zn Mz + 0, zw Mz + 0) N194_ 254 [some (.ref 81), some (.int (Int32.ofInt v182_)), some (.int (Int32.ofInt u193_))] [] (zpI [3, 4, 5, 6, 7, 8, 11, 38, 39, 41, 42, 43] [95, 100] Mz (fun v N => 0 ≤ ze N 81 3 ∧ ze N 81 3 ≤ ze N 81 2 ∧ zTv N ∧ (((v = 0 ∧ 1 ≤ ze N 81 7 ∧ zmu N = 0) ∨ (v = 0 ∧ ze N 81 7 = 0 ∧ zmu N < zmu Mz ∧ ze N 81 38 = zcw N ∧ 0 ≤ ze N 81 41 ∧ ze N 81 41 - zcw N ≤ ze N 81 43 ∧ ze N 81 42 = ze N 81 41 - zcw N ∧ ze N 81 38 ≤ ze N 81 43 ∧ ze N 81 43 ≤ 30) ∨ (v = 1 ∧ 1 ≤ ze N 81 7 ∧ zmu N = 0) ∨ (v = 1 ∧ ze N 81 7 = 0 ∧ zmu N < zmu Mz ∧ ze N 81 38 = zcw N + 1 ∧ 0 ≤ ze N 81 41 ∧ ze N 81 41 - zcw N ≤ ze N 81 43 ∧ ze N 81 42 = ze N 81 41 - zcw N ∧ ze N 81 38 ≤ ze N 81 43 ∧ ze N 81 43 ≤ 30))))) := by
                                      intro n
                                      induction n with
                                      | zero =>
                                        intro u193_ hu193_a hu193_b N194_ hs195_ i196_ h0
                                        exact absurd h0 (Nat.not_lt_zero _)
                                      | succ n ih_254 =>
                                        intro u193_ hu193_a hu193_b N194_ hs195_ i196_ hlt_254
                                        have hf_N194_ : zFr [3, 4, 5, 6, 7, 8, 11, 38, 39, 41, 42, 43] [95, 100] Mz N194_ := hf_N183_.tr hs195_ (by decide) (by decide)
                                        have e2_N194_ : ze N194_ 81 2 = ze N183_ 81 2 := hs195_.e (by decide)
                                        have e3_N194_ : ze N194_ 81 3 = ze N183_ 81 3 := hs195_.e (by decide)
                                        have e5_N194_ : ze N194_ 81 5 = ze N183_ 81 5 := hs195_.e (by decide)
                                        have e6_N194_ : ze N194_ 81 6 = ze N183_ 81 6 := hs195_.e (by decide)
                                        have e7_N194_ : ze N194_ 81 7 = ze N183_ 81 7 := hs195_.e (by decide)
                                        have e14_N194_ : ze N194_ 81 14 = ze N183_ 81 14 := hs195_.e (by decide)
                                        have e26_N194_ : ze N194_ 81 26 = ze N183_ 81 26 := hs195_.e (by decide)
                                        have e38_N194_ : ze N194_ 81 38 = ze N183_ 81 38 := hs195_.e (by decide)
                                        have e41_N194_ : ze N194_ 81 41 = ze N183_ 81 41 := hs195_.e (by decide)
                                        have e42_N194_ : ze N194_ 81 42 = ze N183_ 81 42 := hs195_.e (by decide)
                                        have e43_N194_ : ze N194_ 81 43 = ze N183_ 81 43 := hs195_.e (by decide)
                                        have qzcw_N194_ : zcw N194_ = zcw N183_ := zcw_f hs195_ (by decide)
                                        have qzmu_N194_ : zmu N194_ = zmu N183_ := zmu_f hs195_ (by decide)
                                        have c197_ : zGD N194_ := zGD.fr hs195_ c185_ (by decide) (by decide)
                                        have c198_ : zTv N194_ := zTv.fr hs195_ c186_ (by decide) (by decide)
                                        refine zw_iload_n (pc := 254) (n := 2) (x := Int32.ofInt u193_) rfl d_M_operand_254 ?_
                                        refine zw_aload_n (pc := 255) (n := 0) (x := 81) rfl d_M_operand_255 ?_
                                        refine zr_getI0 hf_N194_ hW (pc := 256) (by decide) f_M_235 rfl d_M_operand_256 ?_
                                        refine zr_icmp_ge (pc := 259) (tgt := 293) ⟨hu193_a, hu193_b⟩ ⟨(ze_r Mz 81 26).1, (ze_r Mz 81 26).2⟩ (by decide) d_M_operand_259 (fun hc_259 => ?_) (fun hc_259 => ?_)
                                        · skip
                                          refine zw_aload_n (pc := 293) (n := 0) (x := 81) rfl d_M_operand_293 ?_
                                          refine zw_dup (pc := 294) rfl d_M_operand_294 ?_
                                          refine zr_getI (hf_N194_.w hW) (pc := 295) f_M_268 rfl d_M_operand_295 ?_
                                          refine zw_iconst (pc := 298) (v := Int32.ofInt 1) (by decide) d_M_operand_298 ?_
                                          refine zr_iadd (pc := 299) d_M_operand_299 ?_
                                          refine zr_putI (hf_N194_.w hW) (pc := 300) f_M_268 rfl rfl ⟨by omega, by omega⟩ rfl rfl d_M_operand_300 (fun N199_ hsN199_ hvN199_ => ?_)
                                          have hf_N199_ : zFr [3, 4, 5, 6, 7, 8, 11, 38, 39, 41, 42, 43] [95, 100] Mz N199_ := hf_N194_.tr hsN199_ (by decide) (by decide)
                                          have e2_N199_ : ze N199_ 81 2 = ze N194_ 81 2 := hsN199_.e (by decide)
                                          have e3_N199_ : ze N199_ 81 3 = ze N194_ 81 3 := hsN199_.e (by decide)
                                          have e5_N199_ : ze N199_ 81 5 = ze N194_ 81 5 := hsN199_.e (by decide)
                                          have e6_N199_ : ze N199_ 81 6 = ze N194_ 81 6 := hsN199_.e (by decide)
                                          have e7_N199_ : ze N199_ 81 7 = ze N194_ 81 7 := hsN199_.e (by decide)
                                          have e14_N199_ : ze N199_ 81 14 = ze N194_ 81 14 := hsN199_.e (by decide)
                                          have e26_N199_ : ze N199_ 81 26 = ze N194_ 81 26 := hsN199_.e (by decide)
                                          have r38_N199_ := ze_r N199_ 81 38
                                          have e41_N199_ : ze N199_ 81 41 = ze N194_ 81 41 := hsN199_.e (by decide)
                                          have e42_N199_ : ze N199_ 81 42 = ze N194_ 81 42 := hsN199_.e (by decide)
                                          have e43_N199_ : ze N199_ 81 43 = ze N194_ 81 43 := hsN199_.e (by decide)
                                          have qzcw_N199_ : zcw N199_ = zcw N194_ := zcw_f hsN199_ (by decide)
                                          have qzmu_N199_ : zmu N199_ = zmu N194_ := zmu_f hsN199_ (by decide)
                                          have c200_ : zGD N199_ := zGD.fr hsN199_ c197_ (by decide) (by decide)
                                          have c201_ : zTv N199_ := zTv.fr hsN199_ c198_ (by decide) (by decide)
                                          refine zw_goto (pc := 303) (tgt := 311) (by decide) d_M_operand_303 ?_
                                          refine zw_aload_n (pc := 311) (n := 0) (x := 81) rfl d_M_operand_311 ?_
                                          refine zr_callV (hf_N199_.w hW) hf_N199_.x (pc := 312) [] [] l_M_183 (c_M_isGood l N199_ (hf_N199_.w hW) ) rfl rfl rfl (by decide) (Nat.le_of_ble_eq_true rfl) d_M_operand_312 ?_
                                          rintro _ N202_ ⟨v203_, rfl, ⟨hv203_a, hv203_b⟩, hsN202_, hp0_N202_⟩
                                          obtain rfl := hsN202_.eq.symm
                                          replace hp0_N202_ : ((v203_ = 1 ∧ ze N199_ 81 7 = 0) ∨ (v203_ = 0 ∧ ze N199_ 81 7 ≠ 0)) := hp0_N202_
                                          rcases hp0_N202_ with ⟨rfl, ha312_0_hp0_N202_⟩ | ⟨rfl, ha312_0_hp0_N202_⟩
                                          · skip
                                            show zW l m_M_operand (zn Mz + 0, zw Mz + 0) N199_ 315 [some (.ref 81), some (.int (Int32.ofInt v182_)), some (.int (Int32.ofInt u193_))] [.int (Int32.ofInt 1)] (zpI [3, 4, 5, 6, 7, 8, 11, 38, 39, 41, 42, 43] [95, 100] Mz (fun v N => 0 ≤ ze N 81 3 ∧ ze N 81 3 ≤ ze N 81 2 ∧ zTv N ∧ (((v = 0 ∧ 1 ≤ ze N 81 7 ∧ zmu N = 0) ∨ (v = 0 ∧ ze N 81 7 = 0 ∧ zmu N < zmu Mz ∧ ze N 81 38 = zcw N ∧ 0 ≤ ze N 81 41 ∧ ze N 81 41 - zcw N ≤ ze N 81 43 ∧ ze N 81 42 = ze N 81 41 - zcw N ∧ ze N 81 38 ≤ ze N 81 43 ∧ ze N 81 43 ≤ 30) ∨ (v = 1 ∧ 1 ≤ ze N 81 7 ∧ zmu N = 0) ∨ (v = 1 ∧ ze N 81 7 = 0 ∧ zmu N < zmu Mz ∧ ze N 81 38 = zcw N + 1 ∧ 0 ≤ ze N 81 41 ∧ ze N 81 41 - zcw N ≤ ze N 81 43 ∧ ze N 81 42 = ze N 81 41 - zcw N ∧ ze N 81 38 ≤ ze N 81 43 ∧ ze N 81 43 ≤ 30)))))
                                            refine zr_if_eq (pc := 315) (tgt := 322) ⟨(by decide), (by decide)⟩ (by decide) d_M_operand_315 (fun hc_315 => ?_) (fun hc_315 => ?_)
                                            · skip
                                              exact absurd hc_315 (by decide)
                                            · skip
                                              refine zw_aload_n (pc := 318) (n := 0) (x := 81) rfl d_M_operand_318 ?_
                                              refine zr_callV (hf_N199_.w hW) hf_N199_.x (pc := 319) [] [] l_M_193 (c_M_goOn l N199_ (hf_N199_.w hW) (show 0 ≤ ze N199_ 81 3 by first | assumption | omega) (show ze N199_ 81 3 ≤ ze N199_ 81 2 by first | assumption | omega) (show ze N199_ 81 2 ≤ 700 by first | assumption | omega) (show ze N199_ 81 5 ≠ 0 by first | assumption | omega) (show ze N199_ 81 7 = 0 by first | assumption | omega)) rfl rfl rfl (by decide) (Nat.le_of_ble_eq_true rfl) d_M_operand_319 ?_
                                              rintro _ N204_ ⟨rfl, hsN204_, ⟨hp0_N204_, hp1_N204_, hp2_N204_, hp3_N204_, hp4_N204_⟩⟩
                                              have hf_N204_ : zFr [3, 4, 5, 6, 7, 8, 11, 38, 39, 41, 42, 43] [95, 100] Mz N204_ := hf_N199_.tr hsN204_ (by decide) (by decide)
                                              have e2_N204_ : ze N204_ 81 2 = ze N199_ 81 2 := hsN204_.e (by decide)
                                              have r3_N204_ := ze_r N204_ 81 3
                                              have r5_N204_ := ze_r N204_ 81 5
                                              have r6_N204_ := ze_r N204_ 81 6
                                              have e7_N204_ : ze N204_ 81 7 = ze N199_ 81 7 := hsN204_.e (by decide)
                                              have e14_N204_ : ze N204_ 81 14 = ze N199_ 81 14 := hsN204_.e (by decide)
                                              have e26_N204_ : ze N204_ 81 26 = ze N199_ 81 26 := hsN204_.e (by decide)
                                              have e38_N204_ : ze N204_ 81 38 = ze N199_ 81 38 := hsN204_.e (by decide)
                                              have e41_N204_ : ze N204_ 81 41 = ze N199_ 81 41 := hsN204_.e (by decide)
                                              have e42_N204_ : ze N204_ 81 42 = ze N199_ 81 42 := hsN204_.e (by decide)
                                              have e43_N204_ : ze N204_ 81 43 = ze N199_ 81 43 := hsN204_.e (by decide)
                                              have qzcw_N204_ : zcw N204_ = zcw N199_ := zcw_f hsN204_ (by decide)
                                              have c206_ : zGD N204_ := zGD.fr hsN204_ c200_ (by decide) (by decide)
                                              show zW l m_M_operand (zn Mz + 0, zw Mz + 0) N204_ 322 [some (.ref 81), some (.int (Int32.ofInt v182_)), some (.int (Int32.ofInt u193_))] [] (zpI [3, 4, 5, 6, 7, 8, 11, 38, 39, 41, 42, 43] [95, 100] Mz (fun v N => 0 ≤ ze N 81 3 ∧ ze N 81 3 ≤ ze N 81 2 ∧ zTv N ∧ (((v = 0 ∧ 1 ≤ ze N 81 7 ∧ zmu N = 0) ∨ (v = 0 ∧ ze N 81 7 = 0 ∧ zmu N < zmu Mz ∧ ze N 81 38 = zcw N ∧ 0 ≤ ze N 81 41 ∧ ze N 81 41 - zcw N ≤ ze N 81 43 ∧ ze N 81 42 = ze N 81 41 - zcw N ∧ ze N 81 38 ≤ ze N 81 43 ∧ ze N 81 43 ≤ 30) ∨ (v = 1 ∧ 1 ≤ ze N 81 7 ∧ zmu N = 0) ∨ (v = 1 ∧ ze N 81 7 = 0 ∧ zmu N < zmu Mz ∧ ze N 81 38 = zcw N + 1 ∧ 0 ≤ ze N 81 41 ∧ ze N 81 41 - zcw N ≤ ze N 81 43 ∧ ze N 81 42 = ze N 81 41 - zcw N ∧ ze N 81 38 ≤ ze N 81 43 ∧ ze N 81 43 ≤ 30)))))
                                              refine zw_iconst (pc := 322) (v := Int32.ofInt 1) (by decide) d_M_operand_322 ?_
                                              have hz0 := zmu_s N204_
                                              exact zr_iret (pc := 323) (ty := .boolean) rfl (z_narB (by omega)) ⟨by omega, by omega⟩ hf_N204_ ⟨(show 0 ≤ ze N204_ 81 3 by first | assumption | omega), (show ze N204_ 81 3 ≤ ze N204_ 81 2 by first | assumption | omega), hp2_N204_, (show ((1 = 0 ∧ 1 ≤ ze N204_ 81 7 ∧ zmu N204_ = 0) ∨ (1 = 0 ∧ ze N204_ 81 7 = 0 ∧ zmu N204_ < zmu Mz ∧ ze N204_ 81 38 = zcw N204_ ∧ 0 ≤ ze N204_ 81 41 ∧ ze N204_ 81 41 - zcw N204_ ≤ ze N204_ 81 43 ∧ ze N204_ 81 42 = ze N204_ 81 41 - zcw N204_ ∧ ze N204_ 81 38 ≤ ze N204_ 81 43 ∧ ze N204_ 81 43 ≤ 30) ∨ (1 = 1 ∧ 1 ≤ ze N204_ 81 7 ∧ zmu N204_ = 0) ∨ (1 = 1 ∧ ze N204_ 81 7 = 0 ∧ zmu N204_ < zmu Mz ∧ ze N204_ 81 38 = zcw N204_ + 1 ∧ 0 ≤ ze N204_ 81 41 ∧ ze N204_ 81 41 - zcw N204_ ≤ ze N204_ 81 43 ∧ ze N204_ 81 42 = ze N204_ 81 41 - zcw N204_ ∧ ze N204_ 81 38 ≤ ze N204_ 81 43 ∧ ze N204_ 81 43 ≤ 30)) from Or.inr (Or.inr (Or.inr (⟨(show 1 = 1 by first | assumption | omega), (show ze N204_ 81 7 = 0 by first | assumption | omega), (show zmu N204_ < zmu Mz by first | assumption | omega), (show ze N204_ 81 38 = zcw N204_ + 1 by first | assumption | omega), (show 0 ≤ ze N204_ 81 41 by first | assumption | omega), (show ze N204_ 81 41 - zcw N204_ ≤ ze N204_ 81 43 by first | assumption | omega), (show ze N204_ 81 42 = ze N204_ 81 41 - zcw N204_ by first | assumption | omega), (show ze N204_ 81 38 ≤ ze N204_ 81 43 by first | assumption | omega), (show ze N204_ 81 43 ≤ 30 by first | assumption | omega)⟩))))⟩ d_M_operand_323
                                          · skip
                                            exfalso; omega
                                        · skip
                                          refine zw_aload_n (pc := 262) (n := 0) (x := 81) rfl d_M_operand_262 ?_
                                          refine zr_getF (r := 95) (hf_N194_.w hW) (pc := 263) f_M_56 rfl (zh_95 (hf_N194_.w hW)).1 d_M_operand_263 ?_
                                          refine zw_bipush (pc := 266) (v := Int32.ofInt 64) (by decide) d_M_operand_266 ?_
                                          refine zw_aload_n (pc := 268) (n := 0) (x := 81) rfl d_M_operand_268 ?_
                                          refine zr_getI (hf_N194_.w hW) (pc := 269) f_M_268 rfl d_M_operand_269 ?_
                                          refine zr_imul (pc := 272) d_M_operand_272 ?_
                                          refine zw_iload_n (pc := 273) (n := 2) (x := Int32.ofInt u193_) rfl d_M_operand_273 ?_
                                          refine zr_iadd (pc := 274) d_M_operand_274 ?_
                                          refine zw_aload_n (pc := 275) (n := 0) (x := 81) rfl d_M_operand_275 ?_
                                          refine zr_getF (r := 102) (hf_N194_.w hW) (pc := 276) f_M_78 rfl (zh_102 (hf_N194_.w hW)).1 d_M_operand_276 ?_
                                          refine zw_bipush (pc := 279) (v := Int32.ofInt 64) (by decide) d_M_operand_279 ?_
                                          refine zw_iload_n (pc := 281) (n := 1) (x := Int32.ofInt v182_) rfl d_M_operand_281 ?_
                                          refine zr_imul (pc := 282) d_M_operand_282 ?_
                                          refine zw_iload_n (pc := 283) (n := 2) (x := Int32.ofInt u193_) rfl d_M_operand_283 ?_
                                          refine zr_iadd (pc := 284) d_M_operand_284 ?_
                                          refine zr_laldn (pc := 285) (zh_102 (hf_N194_.w hW)).2 (by decide) (by omega) (by omega) d_M_operand_285 (fun v207_ hv207_ hv207_a hv207_b => ?_)
                                          rw [hf_N194_.jg (by decide) (by decide)] at hv207_
                                          refine zr_last (pc := 286) (zh_95 (hf_N194_.w hW)).2 (by decide) (by decide) (by omega) (by omega) d_M_operand_286 (fun N208_ hN208_ hsN208_ => ?_)
                                          have hf_N208_ : zFr [3, 4, 5, 6, 7, 8, 11, 38, 39, 41, 42, 43] [95, 100] Mz N208_ := hf_N194_.tr hsN208_ (by decide) (by decide)
                                          have hb0_N208_ : zFr [] [95] N183_ N208_ := hs195_.tr hsN208_ (by decide) (by decide)
                                          have e2_N208_ : ze N208_ 81 2 = ze N194_ 81 2 := hsN208_.e (by decide)
                                          have e3_N208_ : ze N208_ 81 3 = ze N194_ 81 3 := hsN208_.e (by decide)
                                          have e5_N208_ : ze N208_ 81 5 = ze N194_ 81 5 := hsN208_.e (by decide)
                                          have e6_N208_ : ze N208_ 81 6 = ze N194_ 81 6 := hsN208_.e (by decide)
                                          have e7_N208_ : ze N208_ 81 7 = ze N194_ 81 7 := hsN208_.e (by decide)
                                          have e14_N208_ : ze N208_ 81 14 = ze N194_ 81 14 := hsN208_.e (by decide)
                                          have e26_N208_ : ze N208_ 81 26 = ze N194_ 81 26 := hsN208_.e (by decide)
                                          have e38_N208_ : ze N208_ 81 38 = ze N194_ 81 38 := hsN208_.e (by decide)
                                          have e41_N208_ : ze N208_ 81 41 = ze N194_ 81 41 := hsN208_.e (by decide)
                                          have e42_N208_ : ze N208_ 81 42 = ze N194_ 81 42 := hsN208_.e (by decide)
                                          have e43_N208_ : ze N208_ 81 43 = ze N194_ 81 43 := hsN208_.e (by decide)
                                          have qzcw_N208_ : zcw N208_ = zcw N194_ := zcw_f hsN208_ (by decide)
                                          have qzmu_N208_ : zmu N208_ = zmu N194_ := zmu_f hsN208_ (by decide)
                                          have c209_ : zGD N208_ := zGD.fr hsN208_ c197_ (by decide) (by decide)
                                          have c210_ : zTv N208_ := zTv.fr hsN208_ c198_ (by decide) (by decide)
                                          refine zr_iinc (pc := 287) (i := 2) (a := u193_) (n := 1) (L2 := [some (.ref 81), some (.int (Int32.ofInt v182_)), some (.int (Int32.ofInt (u193_ + 1)))]) rfl (by decide) rfl d_M_operand_287 ?_
                                          refine zw_goto (pc := 290) (tgt := 254) (by decide) d_M_operand_290 ?_
                                          exact ih_254 (u193_ + 1) (by omega) (by omega) N208_ hb0_N208_ (show 0 ≤ (u193_ + 1) by first | assumption | omega) (by omega)
                                    exact lp_254 _ 0 (by decide) (by decide) N183_ zFr.rf (show 0 ≤ 0 by first | assumption | omega) (Nat.lt_succ_self _)
                                · skip
                                  exfalso; omega
                            · skip
                              refine zw_aload_n (pc := 236) (n := 0) (x := 81) rfl d_M_operand_236 ?_
                              refine zw_iconst (pc := 237) (v := Int32.ofInt 3) (by decide) d_M_operand_237 ?_
                              refine zr_callV (hf.w hW) hf.x (pc := 238) [.int (Int32.ofInt 3)] [] l_M_190 (c_M_wrong l Mz (hf.w hW) 3 (by decide) (by decide) (show ze Mz 81 7 = 0 by first | assumption | omega) (show 1 ≤ 3 by first | assumption | omega)) rfl rfl rfl (by decide) (Nat.le_of_ble_eq_true rfl) d_M_operand_238 ?_
                              rintro _ N211_ ⟨rfl, hsN211_, ⟨hp0_N211_, hp1_N211_⟩⟩
                              have hf_N211_ : zFr [3, 4, 5, 6, 7, 8, 11, 38, 39, 41, 42, 43] [95, 100] Mz N211_ := hf.tr hsN211_ (by decide) (by decide)
                              have e2_N211_ : ze N211_ 81 2 = ze Mz 81 2 := hsN211_.e (by decide)
                              have e3_N211_ : ze N211_ 81 3 = ze Mz 81 3 := hsN211_.e (by decide)
                              have e5_N211_ : ze N211_ 81 5 = ze Mz 81 5 := hsN211_.e (by decide)
                              have e6_N211_ : ze N211_ 81 6 = ze Mz 81 6 := hsN211_.e (by decide)
                              have r7_N211_ := ze_r N211_ 81 7
                              have e14_N211_ : ze N211_ 81 14 = ze Mz 81 14 := hsN211_.e (by decide)
                              have e26_N211_ : ze N211_ 81 26 = ze Mz 81 26 := hsN211_.e (by decide)
                              have e38_N211_ : ze N211_ 81 38 = ze Mz 81 38 := hsN211_.e (by decide)
                              have e41_N211_ : ze N211_ 81 41 = ze Mz 81 41 := hsN211_.e (by decide)
                              have e42_N211_ : ze N211_ 81 42 = ze Mz 81 42 := hsN211_.e (by decide)
                              have e43_N211_ : ze N211_ 81 43 = ze Mz 81 43 := hsN211_.e (by decide)
                              have qzcw_N211_ : zcw N211_ = zcw Mz := zcw_f hsN211_ (by decide)
                              have c213_ : zGD N211_ := zGD.fr hsN211_ p0_ (by decide) (by decide)
                              have c214_ : zTv N211_ := zTv.fr hsN211_ p4_ (by decide) (by decide)
                              show zW l m_M_operand (zn Mz + 0, zw Mz + 0) N211_ 241 [some (.ref 81), some (.int (Int32.ofInt v182_)), none] [] (zpI [3, 4, 5, 6, 7, 8, 11, 38, 39, 41, 42, 43] [95, 100] Mz (fun v N => 0 ≤ ze N 81 3 ∧ ze N 81 3 ≤ ze N 81 2 ∧ zTv N ∧ (((v = 0 ∧ 1 ≤ ze N 81 7 ∧ zmu N = 0) ∨ (v = 0 ∧ ze N 81 7 = 0 ∧ zmu N < zmu Mz ∧ ze N 81 38 = zcw N ∧ 0 ≤ ze N 81 41 ∧ ze N 81 41 - zcw N ≤ ze N 81 43 ∧ ze N 81 42 = ze N 81 41 - zcw N ∧ ze N 81 38 ≤ ze N 81 43 ∧ ze N 81 43 ≤ 30) ∨ (v = 1 ∧ 1 ≤ ze N 81 7 ∧ zmu N = 0) ∨ (v = 1 ∧ ze N 81 7 = 0 ∧ zmu N < zmu Mz ∧ ze N 81 38 = zcw N + 1 ∧ 0 ≤ ze N 81 41 ∧ ze N 81 41 - zcw N ≤ ze N 81 43 ∧ ze N 81 42 = ze N 81 41 - zcw N ∧ ze N 81 38 ≤ ze N 81 43 ∧ ze N 81 43 ≤ 30)))))
                              refine zw_aload_n (pc := 241) (n := 0) (x := 81) rfl d_M_operand_241 ?_
                              refine zr_callV (hf_N211_.w hW) hf_N211_.x (pc := 242) [] [] l_M_302 (c_M_countsUnit l N211_ (hf_N211_.w hW) (show 0 ≤ ze N211_ 81 7 by first | assumption | omega) (show 0 ≤ ze N211_ 81 43 by first | assumption | omega) (show ze N211_ 81 43 ≤ 1000 by first | assumption | omega)) rfl rfl rfl (by decide) (Nat.le_of_ble_eq_true rfl) d_M_operand_242 ?_
                              rintro _ N215_ ⟨rfl, hsN215_, ⟨hp0_N215_, hp1_N215_⟩⟩
                              have hf_N215_ : zFr [3, 4, 5, 6, 7, 8, 11, 38, 39, 41, 42, 43] [95, 100] Mz N215_ := hf_N211_.tr hsN215_ (by decide) (by decide)
                              have e2_N215_ : ze N215_ 81 2 = ze N211_ 81 2 := hsN215_.e (by decide)
                              have e3_N215_ : ze N215_ 81 3 = ze N211_ 81 3 := hsN215_.e (by decide)
                              have e5_N215_ : ze N215_ 81 5 = ze N211_ 81 5 := hsN215_.e (by decide)
                              have e6_N215_ : ze N215_ 81 6 = ze N211_ 81 6 := hsN215_.e (by decide)
                              have r7_N215_ := ze_r N215_ 81 7
                              have e14_N215_ : ze N215_ 81 14 = ze N211_ 81 14 := hsN215_.e (by decide)
                              have e26_N215_ : ze N215_ 81 26 = ze N211_ 81 26 := hsN215_.e (by decide)
                              have e38_N215_ : ze N215_ 81 38 = ze N211_ 81 38 := hsN215_.e (by decide)
                              have e41_N215_ : ze N215_ 81 41 = ze N211_ 81 41 := hsN215_.e (by decide)
                              have e42_N215_ : ze N215_ 81 42 = ze N211_ 81 42 := hsN215_.e (by decide)
                              have r43_N215_ := ze_r N215_ 81 43
                              have qzcw_N215_ : zcw N215_ = zcw N211_ := zcw_f hsN215_ (by decide)
                              have c217_ : zGD N215_ := zGD.fr hsN215_ c213_ (by decide) (by decide)
                              have c218_ : zTv N215_ := zTv.fr hsN215_ c214_ (by decide) (by decide)
                              rcases hp1_N215_ with ⟨ha242_0_hp1_N215_, ha242_1_hp1_N215_⟩ | ⟨ha242_0_hp1_N215_, ha242_1_hp1_N215_, ha242_2_hp1_N215_, ha242_3_hp1_N215_⟩
                              · skip
                                show zW l m_M_operand (zn Mz + 0, zw Mz + 0) N215_ 245 [some (.ref 81), some (.int (Int32.ofInt v182_)), none] [] (zpI [3, 4, 5, 6, 7, 8, 11, 38, 39, 41, 42, 43] [95, 100] Mz (fun v N => 0 ≤ ze N 81 3 ∧ ze N 81 3 ≤ ze N 81 2 ∧ zTv N ∧ (((v = 0 ∧ 1 ≤ ze N 81 7 ∧ zmu N = 0) ∨ (v = 0 ∧ ze N 81 7 = 0 ∧ zmu N < zmu Mz ∧ ze N 81 38 = zcw N ∧ 0 ≤ ze N 81 41 ∧ ze N 81 41 - zcw N ≤ ze N 81 43 ∧ ze N 81 42 = ze N 81 41 - zcw N ∧ ze N 81 38 ≤ ze N 81 43 ∧ ze N 81 43 ≤ 30) ∨ (v = 1 ∧ 1 ≤ ze N 81 7 ∧ zmu N = 0) ∨ (v = 1 ∧ ze N 81 7 = 0 ∧ zmu N < zmu Mz ∧ ze N 81 38 = zcw N + 1 ∧ 0 ≤ ze N 81 41 ∧ ze N 81 41 - zcw N ≤ ze N 81 43 ∧ ze N 81 42 = ze N 81 41 - zcw N ∧ ze N 81 38 ≤ ze N 81 43 ∧ ze N 81 43 ≤ 30)))))
                                refine zw_aload_n (pc := 245) (n := 0) (x := 81) rfl d_M_operand_245 ?_
                                refine zr_callV (hf_N215_.w hW) hf_N215_.x (pc := 246) [] [] l_M_183 (c_M_isGood l N215_ (hf_N215_.w hW) ) rfl rfl rfl (by decide) (Nat.le_of_ble_eq_true rfl) d_M_operand_246 ?_
                                rintro _ N219_ ⟨v220_, rfl, ⟨hv220_a, hv220_b⟩, hsN219_, hp0_N219_⟩
                                obtain rfl := hsN219_.eq.symm
                                replace hp0_N219_ : ((v220_ = 1 ∧ ze N215_ 81 7 = 0) ∨ (v220_ = 0 ∧ ze N215_ 81 7 ≠ 0)) := hp0_N219_
                                rcases hp0_N219_ with ⟨rfl, ha246_0_hp0_N219_⟩ | ⟨rfl, ha246_0_hp0_N219_⟩
                                · skip
                                  exfalso; omega
                                · skip
                                  show zW l m_M_operand (zn Mz + 0, zw Mz + 0) N215_ 249 [some (.ref 81), some (.int (Int32.ofInt v182_)), none] [.int (Int32.ofInt 0)] (zpI [3, 4, 5, 6, 7, 8, 11, 38, 39, 41, 42, 43] [95, 100] Mz (fun v N => 0 ≤ ze N 81 3 ∧ ze N 81 3 ≤ ze N 81 2 ∧ zTv N ∧ (((v = 0 ∧ 1 ≤ ze N 81 7 ∧ zmu N = 0) ∨ (v = 0 ∧ ze N 81 7 = 0 ∧ zmu N < zmu Mz ∧ ze N 81 38 = zcw N ∧ 0 ≤ ze N 81 41 ∧ ze N 81 41 - zcw N ≤ ze N 81 43 ∧ ze N 81 42 = ze N 81 41 - zcw N ∧ ze N 81 38 ≤ ze N 81 43 ∧ ze N 81 43 ≤ 30) ∨ (v = 1 ∧ 1 ≤ ze N 81 7 ∧ zmu N = 0) ∨ (v = 1 ∧ ze N 81 7 = 0 ∧ zmu N < zmu Mz ∧ ze N 81 38 = zcw N + 1 ∧ 0 ≤ ze N 81 41 ∧ ze N 81 41 - zcw N ≤ ze N 81 43 ∧ ze N 81 42 = ze N 81 41 - zcw N ∧ ze N 81 38 ≤ ze N 81 43 ∧ ze N 81 43 ≤ 30)))))
                                  refine zr_if_eq (pc := 249) (tgt := 303) ⟨(by decide), (by decide)⟩ (by decide) d_M_operand_249 (fun hc_249 => ?_) (fun hc_249 => ?_)
                                  · skip
                                    refine zw_goto (pc := 303) (tgt := 311) (by decide) d_M_operand_303 ?_
                                    refine zw_aload_n (pc := 311) (n := 0) (x := 81) rfl d_M_operand_311 ?_
                                    refine zr_callV (hf_N215_.w hW) hf_N215_.x (pc := 312) [] [] l_M_183 (c_M_isGood l N215_ (hf_N215_.w hW) ) rfl rfl rfl (by decide) (Nat.le_of_ble_eq_true rfl) d_M_operand_312 ?_
                                    rintro _ N221_ ⟨v222_, rfl, ⟨hv222_a, hv222_b⟩, hsN221_, hp0_N221_⟩
                                    obtain rfl := hsN221_.eq.symm
                                    replace hp0_N221_ : ((v222_ = 1 ∧ ze N215_ 81 7 = 0) ∨ (v222_ = 0 ∧ ze N215_ 81 7 ≠ 0)) := hp0_N221_
                                    rcases hp0_N221_ with ⟨rfl, ha312_0_hp0_N221_⟩ | ⟨rfl, ha312_0_hp0_N221_⟩
                                    · skip
                                      exfalso; omega
                                    · skip
                                      show zW l m_M_operand (zn Mz + 0, zw Mz + 0) N215_ 315 [some (.ref 81), some (.int (Int32.ofInt v182_)), none] [.int (Int32.ofInt 0)] (zpI [3, 4, 5, 6, 7, 8, 11, 38, 39, 41, 42, 43] [95, 100] Mz (fun v N => 0 ≤ ze N 81 3 ∧ ze N 81 3 ≤ ze N 81 2 ∧ zTv N ∧ (((v = 0 ∧ 1 ≤ ze N 81 7 ∧ zmu N = 0) ∨ (v = 0 ∧ ze N 81 7 = 0 ∧ zmu N < zmu Mz ∧ ze N 81 38 = zcw N ∧ 0 ≤ ze N 81 41 ∧ ze N 81 41 - zcw N ≤ ze N 81 43 ∧ ze N 81 42 = ze N 81 41 - zcw N ∧ ze N 81 38 ≤ ze N 81 43 ∧ ze N 81 43 ≤ 30) ∨ (v = 1 ∧ 1 ≤ ze N 81 7 ∧ zmu N = 0) ∨ (v = 1 ∧ ze N 81 7 = 0 ∧ zmu N < zmu Mz ∧ ze N 81 38 = zcw N + 1 ∧ 0 ≤ ze N 81 41 ∧ ze N 81 41 - zcw N ≤ ze N 81 43 ∧ ze N 81 42 = ze N 81 41 - zcw N ∧ ze N 81 38 ≤ ze N 81 43 ∧ ze N 81 43 ≤ 30)))))
                                      refine zr_if_eq (pc := 315) (tgt := 322) ⟨(by decide), (by decide)⟩ (by decide) d_M_operand_315 (fun hc_315 => ?_) (fun hc_315 => ?_)
                                      · skip
                                        refine zw_iconst (pc := 322) (v := Int32.ofInt 1) (by decide) d_M_operand_322 ?_
                                        have hz0 := zmu_s N215_
                                        exact zr_iret (pc := 323) (ty := .boolean) rfl (z_narB (by omega)) ⟨by omega, by omega⟩ hf_N215_ ⟨(show 0 ≤ ze N215_ 81 3 by first | assumption | omega), (show ze N215_ 81 3 ≤ ze N215_ 81 2 by first | assumption | omega), c218_, (show ((1 = 0 ∧ 1 ≤ ze N215_ 81 7 ∧ zmu N215_ = 0) ∨ (1 = 0 ∧ ze N215_ 81 7 = 0 ∧ zmu N215_ < zmu Mz ∧ ze N215_ 81 38 = zcw N215_ ∧ 0 ≤ ze N215_ 81 41 ∧ ze N215_ 81 41 - zcw N215_ ≤ ze N215_ 81 43 ∧ ze N215_ 81 42 = ze N215_ 81 41 - zcw N215_ ∧ ze N215_ 81 38 ≤ ze N215_ 81 43 ∧ ze N215_ 81 43 ≤ 30) ∨ (1 = 1 ∧ 1 ≤ ze N215_ 81 7 ∧ zmu N215_ = 0) ∨ (1 = 1 ∧ ze N215_ 81 7 = 0 ∧ zmu N215_ < zmu Mz ∧ ze N215_ 81 38 = zcw N215_ + 1 ∧ 0 ≤ ze N215_ 81 41 ∧ ze N215_ 81 41 - zcw N215_ ≤ ze N215_ 81 43 ∧ ze N215_ 81 42 = ze N215_ 81 41 - zcw N215_ ∧ ze N215_ 81 38 ≤ ze N215_ 81 43 ∧ ze N215_ 81 43 ≤ 30)) from Or.inr (Or.inr (Or.inl (⟨(show 1 = 1 by first | assumption | omega), (show 1 ≤ ze N215_ 81 7 by first | assumption | omega), (show zmu N215_ = 0 by first | assumption | omega)⟩))))⟩ d_M_operand_323
                                      · skip
                                        exact absurd hc_315 (by decide)
                                  · skip
                                    exact absurd hc_249 (by decide)
                              · skip
                                show zW l m_M_operand (zn Mz + 0, zw Mz + 0) N215_ 245 [some (.ref 81), some (.int (Int32.ofInt v182_)), none] [] (zpI [3, 4, 5, 6, 7, 8, 11, 38, 39, 41, 42, 43] [95, 100] Mz (fun v N => 0 ≤ ze N 81 3 ∧ ze N 81 3 ≤ ze N 81 2 ∧ zTv N ∧ (((v = 0 ∧ 1 ≤ ze N 81 7 ∧ zmu N = 0) ∨ (v = 0 ∧ ze N 81 7 = 0 ∧ zmu N < zmu Mz ∧ ze N 81 38 = zcw N ∧ 0 ≤ ze N 81 41 ∧ ze N 81 41 - zcw N ≤ ze N 81 43 ∧ ze N 81 42 = ze N 81 41 - zcw N ∧ ze N 81 38 ≤ ze N 81 43 ∧ ze N 81 43 ≤ 30) ∨ (v = 1 ∧ 1 ≤ ze N 81 7 ∧ zmu N = 0) ∨ (v = 1 ∧ ze N 81 7 = 0 ∧ zmu N < zmu Mz ∧ ze N 81 38 = zcw N + 1 ∧ 0 ≤ ze N 81 41 ∧ ze N 81 41 - zcw N ≤ ze N 81 43 ∧ ze N 81 42 = ze N 81 41 - zcw N ∧ ze N 81 38 ≤ ze N 81 43 ∧ ze N 81 43 ≤ 30)))))
                                refine zw_aload_n (pc := 245) (n := 0) (x := 81) rfl d_M_operand_245 ?_
                                refine zr_callV (hf_N215_.w hW) hf_N215_.x (pc := 246) [] [] l_M_183 (c_M_isGood l N215_ (hf_N215_.w hW) ) rfl rfl rfl (by decide) (Nat.le_of_ble_eq_true rfl) d_M_operand_246 ?_
                                rintro _ N223_ ⟨v224_, rfl, ⟨hv224_a, hv224_b⟩, hsN223_, hp0_N223_⟩
                                obtain rfl := hsN223_.eq.symm
                                replace hp0_N223_ : ((v224_ = 1 ∧ ze N215_ 81 7 = 0) ∨ (v224_ = 0 ∧ ze N215_ 81 7 ≠ 0)) := hp0_N223_
                                rcases hp0_N223_ with ⟨rfl, ha246_0_hp0_N223_⟩ | ⟨rfl, ha246_0_hp0_N223_⟩
                                · skip
                                  show zW l m_M_operand (zn Mz + 0, zw Mz + 0) N215_ 249 [some (.ref 81), some (.int (Int32.ofInt v182_)), none] [.int (Int32.ofInt 1)] (zpI [3, 4, 5, 6, 7, 8, 11, 38, 39, 41, 42, 43] [95, 100] Mz (fun v N => 0 ≤ ze N 81 3 ∧ ze N 81 3 ≤ ze N 81 2 ∧ zTv N ∧ (((v = 0 ∧ 1 ≤ ze N 81 7 ∧ zmu N = 0) ∨ (v = 0 ∧ ze N 81 7 = 0 ∧ zmu N < zmu Mz ∧ ze N 81 38 = zcw N ∧ 0 ≤ ze N 81 41 ∧ ze N 81 41 - zcw N ≤ ze N 81 43 ∧ ze N 81 42 = ze N 81 41 - zcw N ∧ ze N 81 38 ≤ ze N 81 43 ∧ ze N 81 43 ≤ 30) ∨ (v = 1 ∧ 1 ≤ ze N 81 7 ∧ zmu N = 0) ∨ (v = 1 ∧ ze N 81 7 = 0 ∧ zmu N < zmu Mz ∧ ze N 81 38 = zcw N + 1 ∧ 0 ≤ ze N 81 41 ∧ ze N 81 41 - zcw N ≤ ze N 81 43 ∧ ze N 81 42 = ze N 81 41 - zcw N ∧ ze N 81 38 ≤ ze N 81 43 ∧ ze N 81 43 ≤ 30)))))
                                  refine zr_if_eq (pc := 249) (tgt := 303) ⟨(by decide), (by decide)⟩ (by decide) d_M_operand_249 (fun hc_249 => ?_) (fun hc_249 => ?_)
                                  · skip
                                    exact absurd hc_249 (by decide)
                                  · skip
                                    refine zw_iconst (pc := 252) (v := Int32.ofInt 0) (by decide) d_M_operand_252 ?_
                                    refine zw_istore_n (pc := 253) (i := 2) (L2 := [some (.ref 81), some (.int (Int32.ofInt v182_)), some (.int (Int32.ofInt 0))]) rfl (by decide) rfl d_M_operand_253 ?_
                                    have lp_254 : ∀ (n : Nat) (u225_ : Int) (hu225_a : -2147483648 ≤ u225_) (hu225_b : u225_ < 2147483648) (N226_ : zMem) (hs227_ : zFr [] [95] N215_ N226_) (i228_ : 0 ≤ u225_), (ze Mz 81 26 - u225_).toNat < n → zW l m_M_operand (zn Mz + 0, zw Mz + 0) N226_ 254 [some (.ref 81), some (.int (Int32.ofInt v182_)), some (.int (Int32.ofInt u225_))] [] (zpI [3, 4, 5, 6, 7, 8, 11, 38, 39, 41, 42, 43] [95, 100] Mz (fun v N => 0 ≤ ze N 81 3 ∧ ze N 81 3 ≤ ze N 81 2 ∧ zTv N ∧ (((v = 0 ∧ 1 ≤ ze N 81 7 ∧ zmu N = 0) ∨ (v = 0 ∧ ze N 81 7 = 0 ∧ zmu N < zmu Mz ∧ ze N 81 38 = zcw N ∧ 0 ≤ ze N 81 41 ∧ ze N 81 41 - zcw N ≤ ze N 81 43 ∧ ze N 81 42 = ze N 81 41 - zcw N ∧ ze N 81 38 ≤ ze N 81 43 ∧ ze N 81 43 ≤ 30) ∨ (v = 1 ∧ 1 ≤ ze N 81 7 ∧ zmu N = 0) ∨ (v = 1 ∧ ze N 81 7 = 0 ∧ zmu N < zmu Mz ∧ ze N 81 38 = zcw N + 1 ∧ 0 ≤ ze N 81 41 ∧ ze N 81 41 - zcw N ≤ ze N 81 43 ∧ ze N 81 42 = ze N 81 41 - zcw N ∧ ze N 81 38 ≤ ze N 81 43 ∧ ze N 81 43 ≤ 30))))) := by
                                      intro n
                                      induction n with
                                      | zero =>
                                        intro u225_ hu225_a hu225_b N226_ hs227_ i228_ h0
                                        exact absurd h0 (Nat.not_lt_zero _)
                                      | succ n ih_254 =>
                                        intro u225_ hu225_a hu225_b N226_ hs227_ i228_ hlt_254
                                        have hf_N226_ : zFr [3, 4, 5, 6, 7, 8, 11, 38, 39, 41, 42, 43] [95, 100] Mz N226_ := hf_N215_.tr hs227_ (by decide) (by decide)
                                        have e2_N226_ : ze N226_ 81 2 = ze N215_ 81 2 := hs227_.e (by decide)
                                        have e3_N226_ : ze N226_ 81 3 = ze N215_ 81 3 := hs227_.e (by decide)
                                        have e5_N226_ : ze N226_ 81 5 = ze N215_ 81 5 := hs227_.e (by decide)
                                        have e6_N226_ : ze N226_ 81 6 = ze N215_ 81 6 := hs227_.e (by decide)
                                        have e7_N226_ : ze N226_ 81 7 = ze N215_ 81 7 := hs227_.e (by decide)
                                        have e14_N226_ : ze N226_ 81 14 = ze N215_ 81 14 := hs227_.e (by decide)
                                        have e26_N226_ : ze N226_ 81 26 = ze N215_ 81 26 := hs227_.e (by decide)
                                        have e38_N226_ : ze N226_ 81 38 = ze N215_ 81 38 := hs227_.e (by decide)
                                        have e41_N226_ : ze N226_ 81 41 = ze N215_ 81 41 := hs227_.e (by decide)
                                        have e42_N226_ : ze N226_ 81 42 = ze N215_ 81 42 := hs227_.e (by decide)
                                        have e43_N226_ : ze N226_ 81 43 = ze N215_ 81 43 := hs227_.e (by decide)
                                        have qzcw_N226_ : zcw N226_ = zcw N215_ := zcw_f hs227_ (by decide)
                                        have qzmu_N226_ : zmu N226_ = zmu N215_ := zmu_f hs227_ (by decide)
                                        have c229_ : zGD N226_ := zGD.fr hs227_ c217_ (by decide) (by decide)
                                        have c230_ : zTv N226_ := zTv.fr hs227_ c218_ (by decide) (by decide)
                                        refine zw_iload_n (pc := 254) (n := 2) (x := Int32.ofInt u225_) rfl d_M_operand_254 ?_
                                        refine zw_aload_n (pc := 255) (n := 0) (x := 81) rfl d_M_operand_255 ?_
                                        refine zr_getI0 hf_N226_ hW (pc := 256) (by decide) f_M_235 rfl d_M_operand_256 ?_
                                        refine zr_icmp_ge (pc := 259) (tgt := 293) ⟨hu225_a, hu225_b⟩ ⟨(ze_r Mz 81 26).1, (ze_r Mz 81 26).2⟩ (by decide) d_M_operand_259 (fun hc_259 => ?_) (fun hc_259 => ?_)
                                        · skip
                                          refine zw_aload_n (pc := 293) (n := 0) (x := 81) rfl d_M_operand_293 ?_
                                          refine zw_dup (pc := 294) rfl d_M_operand_294 ?_
                                          refine zr_getI (hf_N226_.w hW) (pc := 295) f_M_268 rfl d_M_operand_295 ?_
                                          refine zw_iconst (pc := 298) (v := Int32.ofInt 1) (by decide) d_M_operand_298 ?_
                                          refine zr_iadd (pc := 299) d_M_operand_299 ?_
                                          refine zr_putI (hf_N226_.w hW) (pc := 300) f_M_268 rfl rfl ⟨by omega, by omega⟩ rfl rfl d_M_operand_300 (fun N231_ hsN231_ hvN231_ => ?_)
                                          have hf_N231_ : zFr [3, 4, 5, 6, 7, 8, 11, 38, 39, 41, 42, 43] [95, 100] Mz N231_ := hf_N226_.tr hsN231_ (by decide) (by decide)
                                          have e2_N231_ : ze N231_ 81 2 = ze N226_ 81 2 := hsN231_.e (by decide)
                                          have e3_N231_ : ze N231_ 81 3 = ze N226_ 81 3 := hsN231_.e (by decide)
                                          have e5_N231_ : ze N231_ 81 5 = ze N226_ 81 5 := hsN231_.e (by decide)
                                          have e6_N231_ : ze N231_ 81 6 = ze N226_ 81 6 := hsN231_.e (by decide)
                                          have e7_N231_ : ze N231_ 81 7 = ze N226_ 81 7 := hsN231_.e (by decide)
                                          have e14_N231_ : ze N231_ 81 14 = ze N226_ 81 14 := hsN231_.e (by decide)
                                          have e26_N231_ : ze N231_ 81 26 = ze N226_ 81 26 := hsN231_.e (by decide)
                                          have r38_N231_ := ze_r N231_ 81 38
                                          have e41_N231_ : ze N231_ 81 41 = ze N226_ 81 41 := hsN231_.e (by decide)
                                          have e42_N231_ : ze N231_ 81 42 = ze N226_ 81 42 := hsN231_.e (by decide)
                                          have e43_N231_ : ze N231_ 81 43 = ze N226_ 81 43 := hsN231_.e (by decide)
                                          have qzcw_N231_ : zcw N231_ = zcw N226_ := zcw_f hsN231_ (by decide)
                                          have qzmu_N231_ : zmu N231_ = zmu N226_ := zmu_f hsN231_ (by decide)
                                          have c232_ : zGD N231_ := zGD.fr hsN231_ c229_ (by decide) (by decide)
                                          have c233_ : zTv N231_ := zTv.fr hsN231_ c230_ (by decide) (by decide)
                                          refine zw_goto (pc := 303) (tgt := 311) (by decide) d_M_operand_303 ?_
                                          refine zw_aload_n (pc := 311) (n := 0) (x := 81) rfl d_M_operand_311 ?_
                                          refine zr_callV (hf_N231_.w hW) hf_N231_.x (pc := 312) [] [] l_M_183 (c_M_isGood l N231_ (hf_N231_.w hW) ) rfl rfl rfl (by decide) (Nat.le_of_ble_eq_true rfl) d_M_operand_312 ?_
                                          rintro _ N234_ ⟨v235_, rfl, ⟨hv235_a, hv235_b⟩, hsN234_, hp0_N234_⟩
                                          obtain rfl := hsN234_.eq.symm
                                          replace hp0_N234_ : ((v235_ = 1 ∧ ze N231_ 81 7 = 0) ∨ (v235_ = 0 ∧ ze N231_ 81 7 ≠ 0)) := hp0_N234_
                                          rcases hp0_N234_ with ⟨rfl, ha312_0_hp0_N234_⟩ | ⟨rfl, ha312_0_hp0_N234_⟩
                                          · skip
                                            show zW l m_M_operand (zn Mz + 0, zw Mz + 0) N231_ 315 [some (.ref 81), some (.int (Int32.ofInt v182_)), some (.int (Int32.ofInt u225_))] [.int (Int32.ofInt 1)] (zpI [3, 4, 5, 6, 7, 8, 11, 38, 39, 41, 42, 43] [95, 100] Mz (fun v N => 0 ≤ ze N 81 3 ∧ ze N 81 3 ≤ ze N 81 2 ∧ zTv N ∧ (((v = 0 ∧ 1 ≤ ze N 81 7 ∧ zmu N = 0) ∨ (v = 0 ∧ ze N 81 7 = 0 ∧ zmu N < zmu Mz ∧ ze N 81 38 = zcw N ∧ 0 ≤ ze N 81 41 ∧ ze N 81 41 - zcw N ≤ ze N 81 43 ∧ ze N 81 42 = ze N 81 41 - zcw N ∧ ze N 81 38 ≤ ze N 81 43 ∧ ze N 81 43 ≤ 30) ∨ (v = 1 ∧ 1 ≤ ze N 81 7 ∧ zmu N = 0) ∨ (v = 1 ∧ ze N 81 7 = 0 ∧ zmu N < zmu Mz ∧ ze N 81 38 = zcw N + 1 ∧ 0 ≤ ze N 81 41 ∧ ze N 81 41 - zcw N ≤ ze N 81 43 ∧ ze N 81 42 = ze N 81 41 - zcw N ∧ ze N 81 38 ≤ ze N 81 43 ∧ ze N 81 43 ≤ 30)))))
                                            refine zr_if_eq (pc := 315) (tgt := 322) ⟨(by decide), (by decide)⟩ (by decide) d_M_operand_315 (fun hc_315 => ?_) (fun hc_315 => ?_)
                                            · skip
                                              exact absurd hc_315 (by decide)
                                            · skip
                                              refine zw_aload_n (pc := 318) (n := 0) (x := 81) rfl d_M_operand_318 ?_
                                              refine zr_callV (hf_N231_.w hW) hf_N231_.x (pc := 319) [] [] l_M_193 (c_M_goOn l N231_ (hf_N231_.w hW) (show 0 ≤ ze N231_ 81 3 by first | assumption | omega) (show ze N231_ 81 3 ≤ ze N231_ 81 2 by first | assumption | omega) (show ze N231_ 81 2 ≤ 700 by first | assumption | omega) (show ze N231_ 81 5 ≠ 0 by first | assumption | omega) (show ze N231_ 81 7 = 0 by first | assumption | omega)) rfl rfl rfl (by decide) (Nat.le_of_ble_eq_true rfl) d_M_operand_319 ?_
                                              rintro _ N236_ ⟨rfl, hsN236_, ⟨hp0_N236_, hp1_N236_, hp2_N236_, hp3_N236_, hp4_N236_⟩⟩
                                              have hf_N236_ : zFr [3, 4, 5, 6, 7, 8, 11, 38, 39, 41, 42, 43] [95, 100] Mz N236_ := hf_N231_.tr hsN236_ (by decide) (by decide)
                                              have e2_N236_ : ze N236_ 81 2 = ze N231_ 81 2 := hsN236_.e (by decide)
                                              have r3_N236_ := ze_r N236_ 81 3
                                              have r5_N236_ := ze_r N236_ 81 5
                                              have r6_N236_ := ze_r N236_ 81 6
                                              have e7_N236_ : ze N236_ 81 7 = ze N231_ 81 7 := hsN236_.e (by decide)
                                              have e14_N236_ : ze N236_ 81 14 = ze N231_ 81 14 := hsN236_.e (by decide)
                                              have e26_N236_ : ze N236_ 81 26 = ze N231_ 81 26 := hsN236_.e (by decide)
                                              have e38_N236_ : ze N236_ 81 38 = ze N231_ 81 38 := hsN236_.e (by decide)
                                              have e41_N236_ : ze N236_ 81 41 = ze N231_ 81 41 := hsN236_.e (by decide)
                                              have e42_N236_ : ze N236_ 81 42 = ze N231_ 81 42 := hsN236_.e (by decide)
                                              have e43_N236_ : ze N236_ 81 43 = ze N231_ 81 43 := hsN236_.e (by decide)
                                              have qzcw_N236_ : zcw N236_ = zcw N231_ := zcw_f hsN236_ (by decide)
                                              have c238_ : zGD N236_ := zGD.fr hsN236_ c232_ (by decide) (by decide)
                                              show zW l m_M_operand (zn Mz + 0, zw Mz + 0) N236_ 322 [some (.ref 81), some (.int (Int32.ofInt v182_)), some (.int (Int32.ofInt u225_))] [] (zpI [3, 4, 5, 6, 7, 8, 11, 38, 39, 41, 42, 43] [95, 100] Mz (fun v N => 0 ≤ ze N 81 3 ∧ ze N 81 3 ≤ ze N 81 2 ∧ zTv N ∧ (((v = 0 ∧ 1 ≤ ze N 81 7 ∧ zmu N = 0) ∨ (v = 0 ∧ ze N 81 7 = 0 ∧ zmu N < zmu Mz ∧ ze N 81 38 = zcw N ∧ 0 ≤ ze N 81 41 ∧ ze N 81 41 - zcw N ≤ ze N 81 43 ∧ ze N 81 42 = ze N 81 41 - zcw N ∧ ze N 81 38 ≤ ze N 81 43 ∧ ze N 81 43 ≤ 30) ∨ (v = 1 ∧ 1 ≤ ze N 81 7 ∧ zmu N = 0) ∨ (v = 1 ∧ ze N 81 7 = 0 ∧ zmu N < zmu Mz ∧ ze N 81 38 = zcw N + 1 ∧ 0 ≤ ze N 81 41 ∧ ze N 81 41 - zcw N ≤ ze N 81 43 ∧ ze N 81 42 = ze N 81 41 - zcw N ∧ ze N 81 38 ≤ ze N 81 43 ∧ ze N 81 43 ≤ 30)))))
                                              refine zw_iconst (pc := 322) (v := Int32.ofInt 1) (by decide) d_M_operand_322 ?_
                                              have hz0 := zmu_s N236_
                                              exact zr_iret (pc := 323) (ty := .boolean) rfl (z_narB (by omega)) ⟨by omega, by omega⟩ hf_N236_ ⟨(show 0 ≤ ze N236_ 81 3 by first | assumption | omega), (show ze N236_ 81 3 ≤ ze N236_ 81 2 by first | assumption | omega), hp2_N236_, (show ((1 = 0 ∧ 1 ≤ ze N236_ 81 7 ∧ zmu N236_ = 0) ∨ (1 = 0 ∧ ze N236_ 81 7 = 0 ∧ zmu N236_ < zmu Mz ∧ ze N236_ 81 38 = zcw N236_ ∧ 0 ≤ ze N236_ 81 41 ∧ ze N236_ 81 41 - zcw N236_ ≤ ze N236_ 81 43 ∧ ze N236_ 81 42 = ze N236_ 81 41 - zcw N236_ ∧ ze N236_ 81 38 ≤ ze N236_ 81 43 ∧ ze N236_ 81 43 ≤ 30) ∨ (1 = 1 ∧ 1 ≤ ze N236_ 81 7 ∧ zmu N236_ = 0) ∨ (1 = 1 ∧ ze N236_ 81 7 = 0 ∧ zmu N236_ < zmu Mz ∧ ze N236_ 81 38 = zcw N236_ + 1 ∧ 0 ≤ ze N236_ 81 41 ∧ ze N236_ 81 41 - zcw N236_ ≤ ze N236_ 81 43 ∧ ze N236_ 81 42 = ze N236_ 81 41 - zcw N236_ ∧ ze N236_ 81 38 ≤ ze N236_ 81 43 ∧ ze N236_ 81 43 ≤ 30)) from Or.inr (Or.inr (Or.inr (⟨(show 1 = 1 by first | assumption | omega), (show ze N236_ 81 7 = 0 by first | assumption | omega), (show zmu N236_ < zmu Mz by first | assumption | omega), (show ze N236_ 81 38 = zcw N236_ + 1 by first | assumption | omega), (show 0 ≤ ze N236_ 81 41 by first | assumption | omega), (show ze N236_ 81 41 - zcw N236_ ≤ ze N236_ 81 43 by first | assumption | omega), (show ze N236_ 81 42 = ze N236_ 81 41 - zcw N236_ by first | assumption | omega), (show ze N236_ 81 38 ≤ ze N236_ 81 43 by first | assumption | omega), (show ze N236_ 81 43 ≤ 30 by first | assumption | omega)⟩))))⟩ d_M_operand_323
                                          · skip
                                            exfalso; omega
                                        · skip
                                          refine zw_aload_n (pc := 262) (n := 0) (x := 81) rfl d_M_operand_262 ?_
                                          refine zr_getF (r := 95) (hf_N226_.w hW) (pc := 263) f_M_56 rfl (zh_95 (hf_N226_.w hW)).1 d_M_operand_263 ?_
                                          refine zw_bipush (pc := 266) (v := Int32.ofInt 64) (by decide) d_M_operand_266 ?_
                                          refine zw_aload_n (pc := 268) (n := 0) (x := 81) rfl d_M_operand_268 ?_
                                          refine zr_getI (hf_N226_.w hW) (pc := 269) f_M_268 rfl d_M_operand_269 ?_
                                          refine zr_imul (pc := 272) d_M_operand_272 ?_
                                          refine zw_iload_n (pc := 273) (n := 2) (x := Int32.ofInt u225_) rfl d_M_operand_273 ?_
                                          refine zr_iadd (pc := 274) d_M_operand_274 ?_
                                          refine zw_aload_n (pc := 275) (n := 0) (x := 81) rfl d_M_operand_275 ?_
                                          refine zr_getF (r := 102) (hf_N226_.w hW) (pc := 276) f_M_78 rfl (zh_102 (hf_N226_.w hW)).1 d_M_operand_276 ?_
                                          refine zw_bipush (pc := 279) (v := Int32.ofInt 64) (by decide) d_M_operand_279 ?_
                                          refine zw_iload_n (pc := 281) (n := 1) (x := Int32.ofInt v182_) rfl d_M_operand_281 ?_
                                          refine zr_imul (pc := 282) d_M_operand_282 ?_
                                          refine zw_iload_n (pc := 283) (n := 2) (x := Int32.ofInt u225_) rfl d_M_operand_283 ?_
                                          refine zr_iadd (pc := 284) d_M_operand_284 ?_
                                          refine zr_laldn (pc := 285) (zh_102 (hf_N226_.w hW)).2 (by decide) (by omega) (by omega) d_M_operand_285 (fun v239_ hv239_ hv239_a hv239_b => ?_)
                                          rw [hf_N226_.jg (by decide) (by decide)] at hv239_
                                          refine zr_last (pc := 286) (zh_95 (hf_N226_.w hW)).2 (by decide) (by decide) (by omega) (by omega) d_M_operand_286 (fun N240_ hN240_ hsN240_ => ?_)
                                          have hf_N240_ : zFr [3, 4, 5, 6, 7, 8, 11, 38, 39, 41, 42, 43] [95, 100] Mz N240_ := hf_N226_.tr hsN240_ (by decide) (by decide)
                                          have hb0_N240_ : zFr [] [95] N215_ N240_ := hs227_.tr hsN240_ (by decide) (by decide)
                                          have e2_N240_ : ze N240_ 81 2 = ze N226_ 81 2 := hsN240_.e (by decide)
                                          have e3_N240_ : ze N240_ 81 3 = ze N226_ 81 3 := hsN240_.e (by decide)
                                          have e5_N240_ : ze N240_ 81 5 = ze N226_ 81 5 := hsN240_.e (by decide)
                                          have e6_N240_ : ze N240_ 81 6 = ze N226_ 81 6 := hsN240_.e (by decide)
                                          have e7_N240_ : ze N240_ 81 7 = ze N226_ 81 7 := hsN240_.e (by decide)
                                          have e14_N240_ : ze N240_ 81 14 = ze N226_ 81 14 := hsN240_.e (by decide)
                                          have e26_N240_ : ze N240_ 81 26 = ze N226_ 81 26 := hsN240_.e (by decide)
                                          have e38_N240_ : ze N240_ 81 38 = ze N226_ 81 38 := hsN240_.e (by decide)
                                          have e41_N240_ : ze N240_ 81 41 = ze N226_ 81 41 := hsN240_.e (by decide)
                                          have e42_N240_ : ze N240_ 81 42 = ze N226_ 81 42 := hsN240_.e (by decide)
                                          have e43_N240_ : ze N240_ 81 43 = ze N226_ 81 43 := hsN240_.e (by decide)
                                          have qzcw_N240_ : zcw N240_ = zcw N226_ := zcw_f hsN240_ (by decide)
                                          have qzmu_N240_ : zmu N240_ = zmu N226_ := zmu_f hsN240_ (by decide)
                                          have c241_ : zGD N240_ := zGD.fr hsN240_ c229_ (by decide) (by decide)
                                          have c242_ : zTv N240_ := zTv.fr hsN240_ c230_ (by decide) (by decide)
                                          refine zr_iinc (pc := 287) (i := 2) (a := u225_) (n := 1) (L2 := [some (.ref 81), some (.int (Int32.ofInt v182_)), some (.int (Int32.ofInt (u225_ + 1)))]) rfl (by decide) rfl d_M_operand_287 ?_
                                          refine zw_goto (pc := 290) (tgt := 254) (by decide) d_M_operand_290 ?_
                                          exact ih_254 (u225_ + 1) (by omega) (by omega) N240_ hb0_N240_ (show 0 ≤ (u225_ + 1) by first | assumption | omega) (by omega)
                                    exact lp_254 _ 0 (by decide) (by decide) N215_ zFr.rf (show 0 ≤ 0 by first | assumption | omega) (Nat.lt_succ_self _)
                                · skip
                                  exfalso; omega
                        · skip
                          show zW l m_M_operand (zn Mz + 0, zw Mz + 0) Mz 223 [some (.ref 81), none, none] [.int (Int32.ofInt 0)] (zpI [3, 4, 5, 6, 7, 8, 11, 38, 39, 41, 42, 43] [95, 100] Mz (fun v N => 0 ≤ ze N 81 3 ∧ ze N 81 3 ≤ ze N 81 2 ∧ zTv N ∧ (((v = 0 ∧ 1 ≤ ze N 81 7 ∧ zmu N = 0) ∨ (v = 0 ∧ ze N 81 7 = 0 ∧ zmu N < zmu Mz ∧ ze N 81 38 = zcw N ∧ 0 ≤ ze N 81 41 ∧ ze N 81 41 - zcw N ≤ ze N 81 43 ∧ ze N 81 42 = ze N 81 41 - zcw N ∧ ze N 81 38 ≤ ze N 81 43 ∧ ze N 81 43 ≤ 30) ∨ (v = 1 ∧ 1 ≤ ze N 81 7 ∧ zmu N = 0) ∨ (v = 1 ∧ ze N 81 7 = 0 ∧ zmu N < zmu Mz ∧ ze N 81 38 = zcw N + 1 ∧ 0 ≤ ze N 81 41 ∧ ze N 81 41 - zcw N ≤ ze N 81 43 ∧ ze N 81 42 = ze N 81 41 - zcw N ∧ ze N 81 38 ≤ ze N 81 43 ∧ ze N 81 43 ≤ 30)))))
                          refine zr_if_eq (pc := 223) (tgt := 306) ⟨(by decide), (by decide)⟩ (by decide) d_M_operand_223 (fun hc_223 => ?_) (fun hc_223 => ?_)
                          · skip
                            refine zw_aload_n (pc := 306) (n := 0) (x := 81) rfl d_M_operand_306 ?_
                            refine zw_iconst (pc := 307) (v := Int32.ofInt 2) (by decide) d_M_operand_307 ?_
                            refine zr_callV (hf.w hW) hf.x (pc := 308) [.int (Int32.ofInt 2)] [] l_M_190 (c_M_wrong l Mz (hf.w hW) 2 (by decide) (by decide) (show ze Mz 81 7 = 0 by first | assumption | omega) (show 1 ≤ 2 by first | assumption | omega)) rfl rfl rfl (by decide) (Nat.le_of_ble_eq_true rfl) d_M_operand_308 ?_
                            rintro _ N243_ ⟨rfl, hsN243_, ⟨hp0_N243_, hp1_N243_⟩⟩
                            have hf_N243_ : zFr [3, 4, 5, 6, 7, 8, 11, 38, 39, 41, 42, 43] [95, 100] Mz N243_ := hf.tr hsN243_ (by decide) (by decide)
                            have e2_N243_ : ze N243_ 81 2 = ze Mz 81 2 := hsN243_.e (by decide)
                            have e3_N243_ : ze N243_ 81 3 = ze Mz 81 3 := hsN243_.e (by decide)
                            have e5_N243_ : ze N243_ 81 5 = ze Mz 81 5 := hsN243_.e (by decide)
                            have e6_N243_ : ze N243_ 81 6 = ze Mz 81 6 := hsN243_.e (by decide)
                            have r7_N243_ := ze_r N243_ 81 7
                            have e14_N243_ : ze N243_ 81 14 = ze Mz 81 14 := hsN243_.e (by decide)
                            have e26_N243_ : ze N243_ 81 26 = ze Mz 81 26 := hsN243_.e (by decide)
                            have e38_N243_ : ze N243_ 81 38 = ze Mz 81 38 := hsN243_.e (by decide)
                            have e41_N243_ : ze N243_ 81 41 = ze Mz 81 41 := hsN243_.e (by decide)
                            have e42_N243_ : ze N243_ 81 42 = ze Mz 81 42 := hsN243_.e (by decide)
                            have e43_N243_ : ze N243_ 81 43 = ze Mz 81 43 := hsN243_.e (by decide)
                            have qzcw_N243_ : zcw N243_ = zcw Mz := zcw_f hsN243_ (by decide)
                            have c245_ : zGD N243_ := zGD.fr hsN243_ p0_ (by decide) (by decide)
                            have c246_ : zTv N243_ := zTv.fr hsN243_ p4_ (by decide) (by decide)
                            show zW l m_M_operand (zn Mz + 0, zw Mz + 0) N243_ 311 [some (.ref 81), none, none] [] (zpI [3, 4, 5, 6, 7, 8, 11, 38, 39, 41, 42, 43] [95, 100] Mz (fun v N => 0 ≤ ze N 81 3 ∧ ze N 81 3 ≤ ze N 81 2 ∧ zTv N ∧ (((v = 0 ∧ 1 ≤ ze N 81 7 ∧ zmu N = 0) ∨ (v = 0 ∧ ze N 81 7 = 0 ∧ zmu N < zmu Mz ∧ ze N 81 38 = zcw N ∧ 0 ≤ ze N 81 41 ∧ ze N 81 41 - zcw N ≤ ze N 81 43 ∧ ze N 81 42 = ze N 81 41 - zcw N ∧ ze N 81 38 ≤ ze N 81 43 ∧ ze N 81 43 ≤ 30) ∨ (v = 1 ∧ 1 ≤ ze N 81 7 ∧ zmu N = 0) ∨ (v = 1 ∧ ze N 81 7 = 0 ∧ zmu N < zmu Mz ∧ ze N 81 38 = zcw N + 1 ∧ 0 ≤ ze N 81 41 ∧ ze N 81 41 - zcw N ≤ ze N 81 43 ∧ ze N 81 42 = ze N 81 41 - zcw N ∧ ze N 81 38 ≤ ze N 81 43 ∧ ze N 81 43 ≤ 30)))))
                            refine zw_aload_n (pc := 311) (n := 0) (x := 81) rfl d_M_operand_311 ?_
                            refine zr_callV (hf_N243_.w hW) hf_N243_.x (pc := 312) [] [] l_M_183 (c_M_isGood l N243_ (hf_N243_.w hW) ) rfl rfl rfl (by decide) (Nat.le_of_ble_eq_true rfl) d_M_operand_312 ?_
                            rintro _ N247_ ⟨v248_, rfl, ⟨hv248_a, hv248_b⟩, hsN247_, hp0_N247_⟩
                            obtain rfl := hsN247_.eq.symm
                            replace hp0_N247_ : ((v248_ = 1 ∧ ze N243_ 81 7 = 0) ∨ (v248_ = 0 ∧ ze N243_ 81 7 ≠ 0)) := hp0_N247_
                            rcases hp0_N247_ with ⟨rfl, ha312_0_hp0_N247_⟩ | ⟨rfl, ha312_0_hp0_N247_⟩
                            · skip
                              exfalso; omega
                            · skip
                              show zW l m_M_operand (zn Mz + 0, zw Mz + 0) N243_ 315 [some (.ref 81), none, none] [.int (Int32.ofInt 0)] (zpI [3, 4, 5, 6, 7, 8, 11, 38, 39, 41, 42, 43] [95, 100] Mz (fun v N => 0 ≤ ze N 81 3 ∧ ze N 81 3 ≤ ze N 81 2 ∧ zTv N ∧ (((v = 0 ∧ 1 ≤ ze N 81 7 ∧ zmu N = 0) ∨ (v = 0 ∧ ze N 81 7 = 0 ∧ zmu N < zmu Mz ∧ ze N 81 38 = zcw N ∧ 0 ≤ ze N 81 41 ∧ ze N 81 41 - zcw N ≤ ze N 81 43 ∧ ze N 81 42 = ze N 81 41 - zcw N ∧ ze N 81 38 ≤ ze N 81 43 ∧ ze N 81 43 ≤ 30) ∨ (v = 1 ∧ 1 ≤ ze N 81 7 ∧ zmu N = 0) ∨ (v = 1 ∧ ze N 81 7 = 0 ∧ zmu N < zmu Mz ∧ ze N 81 38 = zcw N + 1 ∧ 0 ≤ ze N 81 41 ∧ ze N 81 41 - zcw N ≤ ze N 81 43 ∧ ze N 81 42 = ze N 81 41 - zcw N ∧ ze N 81 38 ≤ ze N 81 43 ∧ ze N 81 43 ≤ 30)))))
                              refine zr_if_eq (pc := 315) (tgt := 322) ⟨(by decide), (by decide)⟩ (by decide) d_M_operand_315 (fun hc_315 => ?_) (fun hc_315 => ?_)
                              · skip
                                refine zw_iconst (pc := 322) (v := Int32.ofInt 1) (by decide) d_M_operand_322 ?_
                                have hz0 := zmu_s N243_
                                exact zr_iret (pc := 323) (ty := .boolean) rfl (z_narB (by omega)) ⟨by omega, by omega⟩ hf_N243_ ⟨(show 0 ≤ ze N243_ 81 3 by first | assumption | omega), (show ze N243_ 81 3 ≤ ze N243_ 81 2 by first | assumption | omega), c246_, (show ((1 = 0 ∧ 1 ≤ ze N243_ 81 7 ∧ zmu N243_ = 0) ∨ (1 = 0 ∧ ze N243_ 81 7 = 0 ∧ zmu N243_ < zmu Mz ∧ ze N243_ 81 38 = zcw N243_ ∧ 0 ≤ ze N243_ 81 41 ∧ ze N243_ 81 41 - zcw N243_ ≤ ze N243_ 81 43 ∧ ze N243_ 81 42 = ze N243_ 81 41 - zcw N243_ ∧ ze N243_ 81 38 ≤ ze N243_ 81 43 ∧ ze N243_ 81 43 ≤ 30) ∨ (1 = 1 ∧ 1 ≤ ze N243_ 81 7 ∧ zmu N243_ = 0) ∨ (1 = 1 ∧ ze N243_ 81 7 = 0 ∧ zmu N243_ < zmu Mz ∧ ze N243_ 81 38 = zcw N243_ + 1 ∧ 0 ≤ ze N243_ 81 41 ∧ ze N243_ 81 41 - zcw N243_ ≤ ze N243_ 81 43 ∧ ze N243_ 81 42 = ze N243_ 81 41 - zcw N243_ ∧ ze N243_ 81 38 ≤ ze N243_ 81 43 ∧ ze N243_ 81 43 ≤ 30)) from Or.inr (Or.inr (Or.inl (⟨(show 1 = 1 by first | assumption | omega), (show 1 ≤ ze N243_ 81 7 by first | assumption | omega), (show zmu N243_ = 0 by first | assumption | omega)⟩))))⟩ d_M_operand_323
                              · skip
                                exact absurd hc_315 (by decide)
                          · skip
                            exact absurd hc_223 (by decide)
                    · skip
                      exfalso; omega
                  · skip
                    exact absurd hc_132 (by decide)
              · skip
                refine zw_aload_n (pc := 103) (n := 0) (x := 81) rfl d_M_operand_103 ?_
                refine zr_callV (hf.w hW) hf.x (pc := 104) [] [] l_M_302 (c_M_countsUnit l Mz (hf.w hW) (show 0 ≤ ze Mz 81 7 by first | assumption | omega) (show 0 ≤ ze Mz 81 43 by first | assumption | omega) (show ze Mz 81 43 ≤ 1000 by first | assumption | omega)) rfl rfl rfl (by decide) (Nat.le_of_ble_eq_true rfl) d_M_operand_104 ?_
                rintro _ N249_ ⟨rfl, hsN249_, ⟨hp0_N249_, hp1_N249_⟩⟩
                have hf_N249_ : zFr [3, 4, 5, 6, 7, 8, 11, 38, 39, 41, 42, 43] [95, 100] Mz N249_ := hf.tr hsN249_ (by decide) (by decide)
                have e2_N249_ : ze N249_ 81 2 = ze Mz 81 2 := hsN249_.e (by decide)
                have e3_N249_ : ze N249_ 81 3 = ze Mz 81 3 := hsN249_.e (by decide)
                have e5_N249_ : ze N249_ 81 5 = ze Mz 81 5 := hsN249_.e (by decide)
                have e6_N249_ : ze N249_ 81 6 = ze Mz 81 6 := hsN249_.e (by decide)
                have r7_N249_ := ze_r N249_ 81 7
                have e14_N249_ : ze N249_ 81 14 = ze Mz 81 14 := hsN249_.e (by decide)
                have e26_N249_ : ze N249_ 81 26 = ze Mz 81 26 := hsN249_.e (by decide)
                have e38_N249_ : ze N249_ 81 38 = ze Mz 81 38 := hsN249_.e (by decide)
                have e41_N249_ : ze N249_ 81 41 = ze Mz 81 41 := hsN249_.e (by decide)
                have e42_N249_ : ze N249_ 81 42 = ze Mz 81 42 := hsN249_.e (by decide)
                have r43_N249_ := ze_r N249_ 81 43
                have qzcw_N249_ : zcw N249_ = zcw Mz := zcw_f hsN249_ (by decide)
                have c251_ : zGD N249_ := zGD.fr hsN249_ p0_ (by decide) (by decide)
                have c252_ : zTv N249_ := zTv.fr hsN249_ p4_ (by decide) (by decide)
                rcases hp1_N249_ with ⟨ha104_0_hp1_N249_, ha104_1_hp1_N249_⟩ | ⟨ha104_0_hp1_N249_, ha104_1_hp1_N249_, ha104_2_hp1_N249_, ha104_3_hp1_N249_⟩
                · skip
                  show zW l m_M_operand (zn Mz + 0, zw Mz + 0) N249_ 107 [some (.ref 81), none, none] [] (zpI [3, 4, 5, 6, 7, 8, 11, 38, 39, 41, 42, 43] [95, 100] Mz (fun v N => 0 ≤ ze N 81 3 ∧ ze N 81 3 ≤ ze N 81 2 ∧ zTv N ∧ (((v = 0 ∧ 1 ≤ ze N 81 7 ∧ zmu N = 0) ∨ (v = 0 ∧ ze N 81 7 = 0 ∧ zmu N < zmu Mz ∧ ze N 81 38 = zcw N ∧ 0 ≤ ze N 81 41 ∧ ze N 81 41 - zcw N ≤ ze N 81 43 ∧ ze N 81 42 = ze N 81 41 - zcw N ∧ ze N 81 38 ≤ ze N 81 43 ∧ ze N 81 43 ≤ 30) ∨ (v = 1 ∧ 1 ≤ ze N 81 7 ∧ zmu N = 0) ∨ (v = 1 ∧ ze N 81 7 = 0 ∧ zmu N < zmu Mz ∧ ze N 81 38 = zcw N + 1 ∧ 0 ≤ ze N 81 41 ∧ ze N 81 41 - zcw N ≤ ze N 81 43 ∧ ze N 81 42 = ze N 81 41 - zcw N ∧ ze N 81 38 ≤ ze N 81 43 ∧ ze N 81 43 ≤ 30)))))
                  refine zw_aload_n (pc := 107) (n := 0) (x := 81) rfl d_M_operand_107 ?_
                  refine zw_aload_n (pc := 108) (n := 0) (x := 81) rfl d_M_operand_108 ?_
                  refine zr_getI0 hf_N249_ hW (pc := 109) (by decide) f_M_235 rfl d_M_operand_109 ?_
                  refine zw_iconst (pc := 112) (v := Int32.ofInt 1) (by decide) d_M_operand_112 ?_
                  refine zr_isub (pc := 113) d_M_operand_113 ?_
                  refine zw_aload_n (pc := 114) (n := 0) (x := 81) rfl d_M_operand_114 ?_
                  refine zr_getI (hf_N249_.w hW) (pc := 115) f_M_152 rfl d_M_operand_115 ?_
                  refine zr_i2l (pc := 118) ⟨(ze_r N249_ 81 6).1, (ze_r N249_ 81 6).2⟩ d_M_operand_118 ?_
                  refine zr_callV (hf_N249_.w hW) hf_N249_.x (pc := 119) [.int (Int32.ofInt ((ze Mz 81 26) - 1)), .long (Int64.ofInt (ze N249_ 81 6))] [] l_M_308 (c_M_lays l N249_ (hf_N249_.w hW) ((ze Mz 81 26) - 1) (by omega) (by omega) (ze N249_ 81 6) (by omega) (by omega) c251_ (show 0 ≤ ze N249_ 81 38 by first | assumption | omega) (show ze N249_ 81 38 ≤ 39 by first | assumption | omega)) rfl rfl rfl (by decide) (Nat.le_of_ble_eq_true rfl) d_M_operand_119 ?_
                  rintro _ N253_ ⟨rfl, hsN253_, hp0_N253_⟩
                  replace hp0_N253_ : ze N253_ 81 38 = ze N249_ 81 38 + 1 := hp0_N253_
                  have hf_N253_ : zFr [3, 4, 5, 6, 7, 8, 11, 38, 39, 41, 42, 43] [95, 100] Mz N253_ := hf_N249_.tr hsN253_ (by decide) (by decide)
                  have e2_N253_ : ze N253_ 81 2 = ze N249_ 81 2 := hsN253_.e (by decide)
                  have e3_N253_ : ze N253_ 81 3 = ze N249_ 81 3 := hsN253_.e (by decide)
                  have e5_N253_ : ze N253_ 81 5 = ze N249_ 81 5 := hsN253_.e (by decide)
                  have e6_N253_ : ze N253_ 81 6 = ze N249_ 81 6 := hsN253_.e (by decide)
                  have e7_N253_ : ze N253_ 81 7 = ze N249_ 81 7 := hsN253_.e (by decide)
                  have e14_N253_ : ze N253_ 81 14 = ze N249_ 81 14 := hsN253_.e (by decide)
                  have e26_N253_ : ze N253_ 81 26 = ze N249_ 81 26 := hsN253_.e (by decide)
                  have r38_N253_ := ze_r N253_ 81 38
                  have e41_N253_ : ze N253_ 81 41 = ze N249_ 81 41 := hsN253_.e (by decide)
                  have e42_N253_ : ze N253_ 81 42 = ze N249_ 81 42 := hsN253_.e (by decide)
                  have e43_N253_ : ze N253_ 81 43 = ze N249_ 81 43 := hsN253_.e (by decide)
                  have qzcw_N253_ : zcw N253_ = zcw N249_ := zcw_f hsN253_ (by decide)
                  have qzmu_N253_ : zmu N253_ = zmu N249_ := zmu_f hsN253_ (by decide)
                  have c255_ : zGD N253_ := zGD.fr hsN253_ c251_ (by decide) (by decide)
                  have c256_ : zTv N253_ := zTv.fr hsN253_ c252_ (by decide) (by decide)
                  show zW l m_M_operand (zn Mz + 0, zw Mz + 0) N253_ 122 [some (.ref 81), none, none] [] (zpI [3, 4, 5, 6, 7, 8, 11, 38, 39, 41, 42, 43] [95, 100] Mz (fun v N => 0 ≤ ze N 81 3 ∧ ze N 81 3 ≤ ze N 81 2 ∧ zTv N ∧ (((v = 0 ∧ 1 ≤ ze N 81 7 ∧ zmu N = 0) ∨ (v = 0 ∧ ze N 81 7 = 0 ∧ zmu N < zmu Mz ∧ ze N 81 38 = zcw N ∧ 0 ≤ ze N 81 41 ∧ ze N 81 41 - zcw N ≤ ze N 81 43 ∧ ze N 81 42 = ze N 81 41 - zcw N ∧ ze N 81 38 ≤ ze N 81 43 ∧ ze N 81 43 ≤ 30) ∨ (v = 1 ∧ 1 ≤ ze N 81 7 ∧ zmu N = 0) ∨ (v = 1 ∧ ze N 81 7 = 0 ∧ zmu N < zmu Mz ∧ ze N 81 38 = zcw N + 1 ∧ 0 ≤ ze N 81 41 ∧ ze N 81 41 - zcw N ≤ ze N 81 43 ∧ ze N 81 42 = ze N 81 41 - zcw N ∧ ze N 81 38 ≤ ze N 81 43 ∧ ze N 81 43 ≤ 30)))))
                  refine zw_goto (pc := 122) (tgt := 311) (by decide) d_M_operand_122 ?_
                  refine zw_aload_n (pc := 311) (n := 0) (x := 81) rfl d_M_operand_311 ?_
                  refine zr_callV (hf_N253_.w hW) hf_N253_.x (pc := 312) [] [] l_M_183 (c_M_isGood l N253_ (hf_N253_.w hW) ) rfl rfl rfl (by decide) (Nat.le_of_ble_eq_true rfl) d_M_operand_312 ?_
                  rintro _ N257_ ⟨v258_, rfl, ⟨hv258_a, hv258_b⟩, hsN257_, hp0_N257_⟩
                  obtain rfl := hsN257_.eq.symm
                  replace hp0_N257_ : ((v258_ = 1 ∧ ze N253_ 81 7 = 0) ∨ (v258_ = 0 ∧ ze N253_ 81 7 ≠ 0)) := hp0_N257_
                  rcases hp0_N257_ with ⟨rfl, ha312_0_hp0_N257_⟩ | ⟨rfl, ha312_0_hp0_N257_⟩
                  · skip
                    exfalso; omega
                  · skip
                    show zW l m_M_operand (zn Mz + 0, zw Mz + 0) N253_ 315 [some (.ref 81), none, none] [.int (Int32.ofInt 0)] (zpI [3, 4, 5, 6, 7, 8, 11, 38, 39, 41, 42, 43] [95, 100] Mz (fun v N => 0 ≤ ze N 81 3 ∧ ze N 81 3 ≤ ze N 81 2 ∧ zTv N ∧ (((v = 0 ∧ 1 ≤ ze N 81 7 ∧ zmu N = 0) ∨ (v = 0 ∧ ze N 81 7 = 0 ∧ zmu N < zmu Mz ∧ ze N 81 38 = zcw N ∧ 0 ≤ ze N 81 41 ∧ ze N 81 41 - zcw N ≤ ze N 81 43 ∧ ze N 81 42 = ze N 81 41 - zcw N ∧ ze N 81 38 ≤ ze N 81 43 ∧ ze N 81 43 ≤ 30) ∨ (v = 1 ∧ 1 ≤ ze N 81 7 ∧ zmu N = 0) ∨ (v = 1 ∧ ze N 81 7 = 0 ∧ zmu N < zmu Mz ∧ ze N 81 38 = zcw N + 1 ∧ 0 ≤ ze N 81 41 ∧ ze N 81 41 - zcw N ≤ ze N 81 43 ∧ ze N 81 42 = ze N 81 41 - zcw N ∧ ze N 81 38 ≤ ze N 81 43 ∧ ze N 81 43 ≤ 30)))))
                    refine zr_if_eq (pc := 315) (tgt := 322) ⟨(by decide), (by decide)⟩ (by decide) d_M_operand_315 (fun hc_315 => ?_) (fun hc_315 => ?_)
                    · skip
                      refine zw_iconst (pc := 322) (v := Int32.ofInt 1) (by decide) d_M_operand_322 ?_
                      have hz0 := zmu_s N253_
                      exact zr_iret (pc := 323) (ty := .boolean) rfl (z_narB (by omega)) ⟨by omega, by omega⟩ hf_N253_ ⟨(show 0 ≤ ze N253_ 81 3 by first | assumption | omega), (show ze N253_ 81 3 ≤ ze N253_ 81 2 by first | assumption | omega), c256_, (show ((1 = 0 ∧ 1 ≤ ze N253_ 81 7 ∧ zmu N253_ = 0) ∨ (1 = 0 ∧ ze N253_ 81 7 = 0 ∧ zmu N253_ < zmu Mz ∧ ze N253_ 81 38 = zcw N253_ ∧ 0 ≤ ze N253_ 81 41 ∧ ze N253_ 81 41 - zcw N253_ ≤ ze N253_ 81 43 ∧ ze N253_ 81 42 = ze N253_ 81 41 - zcw N253_ ∧ ze N253_ 81 38 ≤ ze N253_ 81 43 ∧ ze N253_ 81 43 ≤ 30) ∨ (1 = 1 ∧ 1 ≤ ze N253_ 81 7 ∧ zmu N253_ = 0) ∨ (1 = 1 ∧ ze N253_ 81 7 = 0 ∧ zmu N253_ < zmu Mz ∧ ze N253_ 81 38 = zcw N253_ + 1 ∧ 0 ≤ ze N253_ 81 41 ∧ ze N253_ 81 41 - zcw N253_ ≤ ze N253_ 81 43 ∧ ze N253_ 81 42 = ze N253_ 81 41 - zcw N253_ ∧ ze N253_ 81 38 ≤ ze N253_ 81 43 ∧ ze N253_ 81 43 ≤ 30)) from Or.inr (Or.inr (Or.inl (⟨(show 1 = 1 by first | assumption | omega), (show 1 ≤ ze N253_ 81 7 by first | assumption | omega), (show zmu N253_ = 0 by first | assumption | omega)⟩))))⟩ d_M_operand_323
                    · skip
                      exact absurd hc_315 (by decide)
                · skip
                  show zW l m_M_operand (zn Mz + 0, zw Mz + 0) N249_ 107 [some (.ref 81), none, none] [] (zpI [3, 4, 5, 6, 7, 8, 11, 38, 39, 41, 42, 43] [95, 100] Mz (fun v N => 0 ≤ ze N 81 3 ∧ ze N 81 3 ≤ ze N 81 2 ∧ zTv N ∧ (((v = 0 ∧ 1 ≤ ze N 81 7 ∧ zmu N = 0) ∨ (v = 0 ∧ ze N 81 7 = 0 ∧ zmu N < zmu Mz ∧ ze N 81 38 = zcw N ∧ 0 ≤ ze N 81 41 ∧ ze N 81 41 - zcw N ≤ ze N 81 43 ∧ ze N 81 42 = ze N 81 41 - zcw N ∧ ze N 81 38 ≤ ze N 81 43 ∧ ze N 81 43 ≤ 30) ∨ (v = 1 ∧ 1 ≤ ze N 81 7 ∧ zmu N = 0) ∨ (v = 1 ∧ ze N 81 7 = 0 ∧ zmu N < zmu Mz ∧ ze N 81 38 = zcw N + 1 ∧ 0 ≤ ze N 81 41 ∧ ze N 81 41 - zcw N ≤ ze N 81 43 ∧ ze N 81 42 = ze N 81 41 - zcw N ∧ ze N 81 38 ≤ ze N 81 43 ∧ ze N 81 43 ≤ 30)))))
                  refine zw_aload_n (pc := 107) (n := 0) (x := 81) rfl d_M_operand_107 ?_
                  refine zw_aload_n (pc := 108) (n := 0) (x := 81) rfl d_M_operand_108 ?_
                  refine zr_getI0 hf_N249_ hW (pc := 109) (by decide) f_M_235 rfl d_M_operand_109 ?_
                  refine zw_iconst (pc := 112) (v := Int32.ofInt 1) (by decide) d_M_operand_112 ?_
                  refine zr_isub (pc := 113) d_M_operand_113 ?_
                  refine zw_aload_n (pc := 114) (n := 0) (x := 81) rfl d_M_operand_114 ?_
                  refine zr_getI (hf_N249_.w hW) (pc := 115) f_M_152 rfl d_M_operand_115 ?_
                  refine zr_i2l (pc := 118) ⟨(ze_r N249_ 81 6).1, (ze_r N249_ 81 6).2⟩ d_M_operand_118 ?_
                  refine zr_callV (hf_N249_.w hW) hf_N249_.x (pc := 119) [.int (Int32.ofInt ((ze Mz 81 26) - 1)), .long (Int64.ofInt (ze N249_ 81 6))] [] l_M_308 (c_M_lays l N249_ (hf_N249_.w hW) ((ze Mz 81 26) - 1) (by omega) (by omega) (ze N249_ 81 6) (by omega) (by omega) c251_ (show 0 ≤ ze N249_ 81 38 by first | assumption | omega) (show ze N249_ 81 38 ≤ 39 by first | assumption | omega)) rfl rfl rfl (by decide) (Nat.le_of_ble_eq_true rfl) d_M_operand_119 ?_
                  rintro _ N259_ ⟨rfl, hsN259_, hp0_N259_⟩
                  replace hp0_N259_ : ze N259_ 81 38 = ze N249_ 81 38 + 1 := hp0_N259_
                  have hf_N259_ : zFr [3, 4, 5, 6, 7, 8, 11, 38, 39, 41, 42, 43] [95, 100] Mz N259_ := hf_N249_.tr hsN259_ (by decide) (by decide)
                  have e2_N259_ : ze N259_ 81 2 = ze N249_ 81 2 := hsN259_.e (by decide)
                  have e3_N259_ : ze N259_ 81 3 = ze N249_ 81 3 := hsN259_.e (by decide)
                  have e5_N259_ : ze N259_ 81 5 = ze N249_ 81 5 := hsN259_.e (by decide)
                  have e6_N259_ : ze N259_ 81 6 = ze N249_ 81 6 := hsN259_.e (by decide)
                  have e7_N259_ : ze N259_ 81 7 = ze N249_ 81 7 := hsN259_.e (by decide)
                  have e14_N259_ : ze N259_ 81 14 = ze N249_ 81 14 := hsN259_.e (by decide)
                  have e26_N259_ : ze N259_ 81 26 = ze N249_ 81 26 := hsN259_.e (by decide)
                  have r38_N259_ := ze_r N259_ 81 38
                  have e41_N259_ : ze N259_ 81 41 = ze N249_ 81 41 := hsN259_.e (by decide)
                  have e42_N259_ : ze N259_ 81 42 = ze N249_ 81 42 := hsN259_.e (by decide)
                  have e43_N259_ : ze N259_ 81 43 = ze N249_ 81 43 := hsN259_.e (by decide)
                  have qzcw_N259_ : zcw N259_ = zcw N249_ := zcw_f hsN259_ (by decide)
                  have qzmu_N259_ : zmu N259_ = zmu N249_ := zmu_f hsN259_ (by decide)
                  have c261_ : zGD N259_ := zGD.fr hsN259_ c251_ (by decide) (by decide)
                  have c262_ : zTv N259_ := zTv.fr hsN259_ c252_ (by decide) (by decide)
                  show zW l m_M_operand (zn Mz + 0, zw Mz + 0) N259_ 122 [some (.ref 81), none, none] [] (zpI [3, 4, 5, 6, 7, 8, 11, 38, 39, 41, 42, 43] [95, 100] Mz (fun v N => 0 ≤ ze N 81 3 ∧ ze N 81 3 ≤ ze N 81 2 ∧ zTv N ∧ (((v = 0 ∧ 1 ≤ ze N 81 7 ∧ zmu N = 0) ∨ (v = 0 ∧ ze N 81 7 = 0 ∧ zmu N < zmu Mz ∧ ze N 81 38 = zcw N ∧ 0 ≤ ze N 81 41 ∧ ze N 81 41 - zcw N ≤ ze N 81 43 ∧ ze N 81 42 = ze N 81 41 - zcw N ∧ ze N 81 38 ≤ ze N 81 43 ∧ ze N 81 43 ≤ 30) ∨ (v = 1 ∧ 1 ≤ ze N 81 7 ∧ zmu N = 0) ∨ (v = 1 ∧ ze N 81 7 = 0 ∧ zmu N < zmu Mz ∧ ze N 81 38 = zcw N + 1 ∧ 0 ≤ ze N 81 41 ∧ ze N 81 41 - zcw N ≤ ze N 81 43 ∧ ze N 81 42 = ze N 81 41 - zcw N ∧ ze N 81 38 ≤ ze N 81 43 ∧ ze N 81 43 ≤ 30)))))
                  refine zw_goto (pc := 122) (tgt := 311) (by decide) d_M_operand_122 ?_
                  refine zw_aload_n (pc := 311) (n := 0) (x := 81) rfl d_M_operand_311 ?_
                  refine zr_callV (hf_N259_.w hW) hf_N259_.x (pc := 312) [] [] l_M_183 (c_M_isGood l N259_ (hf_N259_.w hW) ) rfl rfl rfl (by decide) (Nat.le_of_ble_eq_true rfl) d_M_operand_312 ?_
                  rintro _ N263_ ⟨v264_, rfl, ⟨hv264_a, hv264_b⟩, hsN263_, hp0_N263_⟩
                  obtain rfl := hsN263_.eq.symm
                  replace hp0_N263_ : ((v264_ = 1 ∧ ze N259_ 81 7 = 0) ∨ (v264_ = 0 ∧ ze N259_ 81 7 ≠ 0)) := hp0_N263_
                  rcases hp0_N263_ with ⟨rfl, ha312_0_hp0_N263_⟩ | ⟨rfl, ha312_0_hp0_N263_⟩
                  · skip
                    show zW l m_M_operand (zn Mz + 0, zw Mz + 0) N259_ 315 [some (.ref 81), none, none] [.int (Int32.ofInt 1)] (zpI [3, 4, 5, 6, 7, 8, 11, 38, 39, 41, 42, 43] [95, 100] Mz (fun v N => 0 ≤ ze N 81 3 ∧ ze N 81 3 ≤ ze N 81 2 ∧ zTv N ∧ (((v = 0 ∧ 1 ≤ ze N 81 7 ∧ zmu N = 0) ∨ (v = 0 ∧ ze N 81 7 = 0 ∧ zmu N < zmu Mz ∧ ze N 81 38 = zcw N ∧ 0 ≤ ze N 81 41 ∧ ze N 81 41 - zcw N ≤ ze N 81 43 ∧ ze N 81 42 = ze N 81 41 - zcw N ∧ ze N 81 38 ≤ ze N 81 43 ∧ ze N 81 43 ≤ 30) ∨ (v = 1 ∧ 1 ≤ ze N 81 7 ∧ zmu N = 0) ∨ (v = 1 ∧ ze N 81 7 = 0 ∧ zmu N < zmu Mz ∧ ze N 81 38 = zcw N + 1 ∧ 0 ≤ ze N 81 41 ∧ ze N 81 41 - zcw N ≤ ze N 81 43 ∧ ze N 81 42 = ze N 81 41 - zcw N ∧ ze N 81 38 ≤ ze N 81 43 ∧ ze N 81 43 ≤ 30)))))
                    refine zr_if_eq (pc := 315) (tgt := 322) ⟨(by decide), (by decide)⟩ (by decide) d_M_operand_315 (fun hc_315 => ?_) (fun hc_315 => ?_)
                    · skip
                      exact absurd hc_315 (by decide)
                    · skip
                      refine zw_aload_n (pc := 318) (n := 0) (x := 81) rfl d_M_operand_318 ?_
                      refine zr_callV (hf_N259_.w hW) hf_N259_.x (pc := 319) [] [] l_M_193 (c_M_goOn l N259_ (hf_N259_.w hW) (show 0 ≤ ze N259_ 81 3 by first | assumption | omega) (show ze N259_ 81 3 ≤ ze N259_ 81 2 by first | assumption | omega) (show ze N259_ 81 2 ≤ 700 by first | assumption | omega) (show ze N259_ 81 5 ≠ 0 by first | assumption | omega) (show ze N259_ 81 7 = 0 by first | assumption | omega)) rfl rfl rfl (by decide) (Nat.le_of_ble_eq_true rfl) d_M_operand_319 ?_
                      rintro _ N265_ ⟨rfl, hsN265_, ⟨hp0_N265_, hp1_N265_, hp2_N265_, hp3_N265_, hp4_N265_⟩⟩
                      have hf_N265_ : zFr [3, 4, 5, 6, 7, 8, 11, 38, 39, 41, 42, 43] [95, 100] Mz N265_ := hf_N259_.tr hsN265_ (by decide) (by decide)
                      have e2_N265_ : ze N265_ 81 2 = ze N259_ 81 2 := hsN265_.e (by decide)
                      have r3_N265_ := ze_r N265_ 81 3
                      have r5_N265_ := ze_r N265_ 81 5
                      have r6_N265_ := ze_r N265_ 81 6
                      have e7_N265_ : ze N265_ 81 7 = ze N259_ 81 7 := hsN265_.e (by decide)
                      have e14_N265_ : ze N265_ 81 14 = ze N259_ 81 14 := hsN265_.e (by decide)
                      have e26_N265_ : ze N265_ 81 26 = ze N259_ 81 26 := hsN265_.e (by decide)
                      have e38_N265_ : ze N265_ 81 38 = ze N259_ 81 38 := hsN265_.e (by decide)
                      have e41_N265_ : ze N265_ 81 41 = ze N259_ 81 41 := hsN265_.e (by decide)
                      have e42_N265_ : ze N265_ 81 42 = ze N259_ 81 42 := hsN265_.e (by decide)
                      have e43_N265_ : ze N265_ 81 43 = ze N259_ 81 43 := hsN265_.e (by decide)
                      have qzcw_N265_ : zcw N265_ = zcw N259_ := zcw_f hsN265_ (by decide)
                      have c267_ : zGD N265_ := zGD.fr hsN265_ c261_ (by decide) (by decide)
                      show zW l m_M_operand (zn Mz + 0, zw Mz + 0) N265_ 322 [some (.ref 81), none, none] [] (zpI [3, 4, 5, 6, 7, 8, 11, 38, 39, 41, 42, 43] [95, 100] Mz (fun v N => 0 ≤ ze N 81 3 ∧ ze N 81 3 ≤ ze N 81 2 ∧ zTv N ∧ (((v = 0 ∧ 1 ≤ ze N 81 7 ∧ zmu N = 0) ∨ (v = 0 ∧ ze N 81 7 = 0 ∧ zmu N < zmu Mz ∧ ze N 81 38 = zcw N ∧ 0 ≤ ze N 81 41 ∧ ze N 81 41 - zcw N ≤ ze N 81 43 ∧ ze N 81 42 = ze N 81 41 - zcw N ∧ ze N 81 38 ≤ ze N 81 43 ∧ ze N 81 43 ≤ 30) ∨ (v = 1 ∧ 1 ≤ ze N 81 7 ∧ zmu N = 0) ∨ (v = 1 ∧ ze N 81 7 = 0 ∧ zmu N < zmu Mz ∧ ze N 81 38 = zcw N + 1 ∧ 0 ≤ ze N 81 41 ∧ ze N 81 41 - zcw N ≤ ze N 81 43 ∧ ze N 81 42 = ze N 81 41 - zcw N ∧ ze N 81 38 ≤ ze N 81 43 ∧ ze N 81 43 ≤ 30)))))
                      refine zw_iconst (pc := 322) (v := Int32.ofInt 1) (by decide) d_M_operand_322 ?_
                      have hz0 := zmu_s N265_
                      exact zr_iret (pc := 323) (ty := .boolean) rfl (z_narB (by omega)) ⟨by omega, by omega⟩ hf_N265_ ⟨(show 0 ≤ ze N265_ 81 3 by first | assumption | omega), (show ze N265_ 81 3 ≤ ze N265_ 81 2 by first | assumption | omega), hp2_N265_, (show ((1 = 0 ∧ 1 ≤ ze N265_ 81 7 ∧ zmu N265_ = 0) ∨ (1 = 0 ∧ ze N265_ 81 7 = 0 ∧ zmu N265_ < zmu Mz ∧ ze N265_ 81 38 = zcw N265_ ∧ 0 ≤ ze N265_ 81 41 ∧ ze N265_ 81 41 - zcw N265_ ≤ ze N265_ 81 43 ∧ ze N265_ 81 42 = ze N265_ 81 41 - zcw N265_ ∧ ze N265_ 81 38 ≤ ze N265_ 81 43 ∧ ze N265_ 81 43 ≤ 30) ∨ (1 = 1 ∧ 1 ≤ ze N265_ 81 7 ∧ zmu N265_ = 0) ∨ (1 = 1 ∧ ze N265_ 81 7 = 0 ∧ zmu N265_ < zmu Mz ∧ ze N265_ 81 38 = zcw N265_ + 1 ∧ 0 ≤ ze N265_ 81 41 ∧ ze N265_ 81 41 - zcw N265_ ≤ ze N265_ 81 43 ∧ ze N265_ 81 42 = ze N265_ 81 41 - zcw N265_ ∧ ze N265_ 81 38 ≤ ze N265_ 81 43 ∧ ze N265_ 81 43 ≤ 30)) from Or.inr (Or.inr (Or.inr (⟨(show 1 = 1 by first | assumption | omega), (show ze N265_ 81 7 = 0 by first | assumption | omega), (show zmu N265_ < zmu Mz by first | assumption | omega), (show ze N265_ 81 38 = zcw N265_ + 1 by first | assumption | omega), (show 0 ≤ ze N265_ 81 41 by first | assumption | omega), (show ze N265_ 81 41 - zcw N265_ ≤ ze N265_ 81 43 by first | assumption | omega), (show ze N265_ 81 42 = ze N265_ 81 41 - zcw N265_ by first | assumption | omega), (show ze N265_ 81 38 ≤ ze N265_ 81 43 by first | assumption | omega), (show ze N265_ 81 43 ≤ 30 by first | assumption | omega)⟩))))⟩ d_M_operand_323
                  · skip
                    exfalso; omega
          · skip
            show zW l m_M_operand (zn Mz + 0, zw Mz + 0) Mz 92 [some (.ref 81), none, none] [.int (Int32.ofInt 0)] (zpI [3, 4, 5, 6, 7, 8, 11, 38, 39, 41, 42, 43] [95, 100] Mz (fun v N => 0 ≤ ze N 81 3 ∧ ze N 81 3 ≤ ze N 81 2 ∧ zTv N ∧ (((v = 0 ∧ 1 ≤ ze N 81 7 ∧ zmu N = 0) ∨ (v = 0 ∧ ze N 81 7 = 0 ∧ zmu N < zmu Mz ∧ ze N 81 38 = zcw N ∧ 0 ≤ ze N 81 41 ∧ ze N 81 41 - zcw N ≤ ze N 81 43 ∧ ze N 81 42 = ze N 81 41 - zcw N ∧ ze N 81 38 ≤ ze N 81 43 ∧ ze N 81 43 ≤ 30) ∨ (v = 1 ∧ 1 ≤ ze N 81 7 ∧ zmu N = 0) ∨ (v = 1 ∧ ze N 81 7 = 0 ∧ zmu N < zmu Mz ∧ ze N 81 38 = zcw N + 1 ∧ 0 ≤ ze N 81 41 ∧ ze N 81 41 - zcw N ≤ ze N 81 43 ∧ ze N 81 42 = ze N 81 41 - zcw N ∧ ze N 81 38 ≤ ze N 81 43 ∧ ze N 81 43 ≤ 30)))))
            refine zr_if_eq (pc := 92) (tgt := 125) ⟨(by decide), (by decide)⟩ (by decide) d_M_operand_92 (fun hc_92 => ?_) (fun hc_92 => ?_)
            · skip
              refine zw_aload_n (pc := 125) (n := 0) (x := 81) rfl d_M_operand_125 ?_
              refine zr_ldc2 (pc := 126) (n := 1936683636) (by decide) k_M_181 d_M_operand_126 ?_
              refine zr_callV (hf.w hW) hf.x (pc := 129) [.long (Int64.ofInt 1936683636)] [] l_M_312 (c_M_isWord l Mz (hf.w hW) 1936683636 (by decide) (by decide)) rfl rfl rfl (by decide) (Nat.le_of_ble_eq_true rfl) d_M_operand_129 ?_
              rintro _ N268_ ⟨v269_, rfl, ⟨hv269_a, hv269_b⟩, hsN268_, hp0_N268_⟩
              obtain rfl := hsN268_.eq.symm
              replace hp0_N268_ : ((v269_ = 1 ∧ ze Mz 81 7 = 0 ∧ ze Mz 81 5 = 1) ∨ (v269_ = 0)) := hp0_N268_
              rcases hp0_N268_ with ⟨rfl, ha129_0_hp0_N268_, ha129_1_hp0_N268_⟩ | rfl
              · skip
                exfalso; omega
              · skip
                show zW l m_M_operand (zn Mz + 0, zw Mz + 0) Mz 132 [some (.ref 81), none, none] [.int (Int32.ofInt 0)] (zpI [3, 4, 5, 6, 7, 8, 11, 38, 39, 41, 42, 43] [95, 100] Mz (fun v N => 0 ≤ ze N 81 3 ∧ ze N 81 3 ≤ ze N 81 2 ∧ zTv N ∧ (((v = 0 ∧ 1 ≤ ze N 81 7 ∧ zmu N = 0) ∨ (v = 0 ∧ ze N 81 7 = 0 ∧ zmu N < zmu Mz ∧ ze N 81 38 = zcw N ∧ 0 ≤ ze N 81 41 ∧ ze N 81 41 - zcw N ≤ ze N 81 43 ∧ ze N 81 42 = ze N 81 41 - zcw N ∧ ze N 81 38 ≤ ze N 81 43 ∧ ze N 81 43 ≤ 30) ∨ (v = 1 ∧ 1 ≤ ze N 81 7 ∧ zmu N = 0) ∨ (v = 1 ∧ ze N 81 7 = 0 ∧ zmu N < zmu Mz ∧ ze N 81 38 = zcw N + 1 ∧ 0 ≤ ze N 81 41 ∧ ze N 81 41 - zcw N ≤ ze N 81 43 ∧ ze N 81 42 = ze N 81 41 - zcw N ∧ ze N 81 38 ≤ ze N 81 43 ∧ ze N 81 43 ≤ 30)))))
                refine zr_if_eq (pc := 132) (tgt := 212) ⟨(by decide), (by decide)⟩ (by decide) d_M_operand_132 (fun hc_132 => ?_) (fun hc_132 => ?_)
                · skip
                  refine zw_aload_n (pc := 212) (n := 0) (x := 81) rfl d_M_operand_212 ?_
                  refine zr_callV (hf.w hW) hf.x (pc := 213) [] [] l_M_183 (c_M_isGood l Mz (hf.w hW) ) rfl rfl rfl (by decide) (Nat.le_of_ble_eq_true rfl) d_M_operand_213 ?_
                  rintro _ N270_ ⟨v271_, rfl, ⟨hv271_a, hv271_b⟩, hsN270_, hp0_N270_⟩
                  obtain rfl := hsN270_.eq.symm
                  replace hp0_N270_ : ((v271_ = 1 ∧ ze Mz 81 7 = 0) ∨ (v271_ = 0 ∧ ze Mz 81 7 ≠ 0)) := hp0_N270_
                  rcases hp0_N270_ with ⟨rfl, ha213_0_hp0_N270_⟩ | ⟨rfl, ha213_0_hp0_N270_⟩
                  · skip
                    exfalso; omega
                  · skip
                    show zW l m_M_operand (zn Mz + 0, zw Mz + 0) Mz 216 [some (.ref 81), none, none] [.int (Int32.ofInt 0)] (zpI [3, 4, 5, 6, 7, 8, 11, 38, 39, 41, 42, 43] [95, 100] Mz (fun v N => 0 ≤ ze N 81 3 ∧ ze N 81 3 ≤ ze N 81 2 ∧ zTv N ∧ (((v = 0 ∧ 1 ≤ ze N 81 7 ∧ zmu N = 0) ∨ (v = 0 ∧ ze N 81 7 = 0 ∧ zmu N < zmu Mz ∧ ze N 81 38 = zcw N ∧ 0 ≤ ze N 81 41 ∧ ze N 81 41 - zcw N ≤ ze N 81 43 ∧ ze N 81 42 = ze N 81 41 - zcw N ∧ ze N 81 38 ≤ ze N 81 43 ∧ ze N 81 43 ≤ 30) ∨ (v = 1 ∧ 1 ≤ ze N 81 7 ∧ zmu N = 0) ∨ (v = 1 ∧ ze N 81 7 = 0 ∧ zmu N < zmu Mz ∧ ze N 81 38 = zcw N + 1 ∧ 0 ≤ ze N 81 41 ∧ ze N 81 41 - zcw N ≤ ze N 81 43 ∧ ze N 81 42 = ze N 81 41 - zcw N ∧ ze N 81 38 ≤ ze N 81 43 ∧ ze N 81 43 ≤ 30)))))
                    refine zr_if_eq (pc := 216) (tgt := 306) ⟨(by decide), (by decide)⟩ (by decide) d_M_operand_216 (fun hc_216 => ?_) (fun hc_216 => ?_)
                    · skip
                      refine zw_aload_n (pc := 306) (n := 0) (x := 81) rfl d_M_operand_306 ?_
                      refine zw_iconst (pc := 307) (v := Int32.ofInt 2) (by decide) d_M_operand_307 ?_
                      refine zr_callV (hf.w hW) hf.x (pc := 308) [.int (Int32.ofInt 2)] [] l_M_190 (c_M_wrong l Mz (hf.w hW) 2 (by decide) (by decide) (show ze Mz 81 7 = 0 by first | assumption | omega) (show 1 ≤ 2 by first | assumption | omega)) rfl rfl rfl (by decide) (Nat.le_of_ble_eq_true rfl) d_M_operand_308 ?_
                      rintro _ N272_ ⟨rfl, hsN272_, ⟨hp0_N272_, hp1_N272_⟩⟩
                      have hf_N272_ : zFr [3, 4, 5, 6, 7, 8, 11, 38, 39, 41, 42, 43] [95, 100] Mz N272_ := hf.tr hsN272_ (by decide) (by decide)
                      have e2_N272_ : ze N272_ 81 2 = ze Mz 81 2 := hsN272_.e (by decide)
                      have e3_N272_ : ze N272_ 81 3 = ze Mz 81 3 := hsN272_.e (by decide)
                      have e5_N272_ : ze N272_ 81 5 = ze Mz 81 5 := hsN272_.e (by decide)
                      have e6_N272_ : ze N272_ 81 6 = ze Mz 81 6 := hsN272_.e (by decide)
                      have r7_N272_ := ze_r N272_ 81 7
                      have e14_N272_ : ze N272_ 81 14 = ze Mz 81 14 := hsN272_.e (by decide)
                      have e26_N272_ : ze N272_ 81 26 = ze Mz 81 26 := hsN272_.e (by decide)
                      have e38_N272_ : ze N272_ 81 38 = ze Mz 81 38 := hsN272_.e (by decide)
                      have e41_N272_ : ze N272_ 81 41 = ze Mz 81 41 := hsN272_.e (by decide)
                      have e42_N272_ : ze N272_ 81 42 = ze Mz 81 42 := hsN272_.e (by decide)
                      have e43_N272_ : ze N272_ 81 43 = ze Mz 81 43 := hsN272_.e (by decide)
                      have qzcw_N272_ : zcw N272_ = zcw Mz := zcw_f hsN272_ (by decide)
                      have c274_ : zGD N272_ := zGD.fr hsN272_ p0_ (by decide) (by decide)
                      have c275_ : zTv N272_ := zTv.fr hsN272_ p4_ (by decide) (by decide)
                      show zW l m_M_operand (zn Mz + 0, zw Mz + 0) N272_ 311 [some (.ref 81), none, none] [] (zpI [3, 4, 5, 6, 7, 8, 11, 38, 39, 41, 42, 43] [95, 100] Mz (fun v N => 0 ≤ ze N 81 3 ∧ ze N 81 3 ≤ ze N 81 2 ∧ zTv N ∧ (((v = 0 ∧ 1 ≤ ze N 81 7 ∧ zmu N = 0) ∨ (v = 0 ∧ ze N 81 7 = 0 ∧ zmu N < zmu Mz ∧ ze N 81 38 = zcw N ∧ 0 ≤ ze N 81 41 ∧ ze N 81 41 - zcw N ≤ ze N 81 43 ∧ ze N 81 42 = ze N 81 41 - zcw N ∧ ze N 81 38 ≤ ze N 81 43 ∧ ze N 81 43 ≤ 30) ∨ (v = 1 ∧ 1 ≤ ze N 81 7 ∧ zmu N = 0) ∨ (v = 1 ∧ ze N 81 7 = 0 ∧ zmu N < zmu Mz ∧ ze N 81 38 = zcw N + 1 ∧ 0 ≤ ze N 81 41 ∧ ze N 81 41 - zcw N ≤ ze N 81 43 ∧ ze N 81 42 = ze N 81 41 - zcw N ∧ ze N 81 38 ≤ ze N 81 43 ∧ ze N 81 43 ≤ 30)))))
                      refine zw_aload_n (pc := 311) (n := 0) (x := 81) rfl d_M_operand_311 ?_
                      refine zr_callV (hf_N272_.w hW) hf_N272_.x (pc := 312) [] [] l_M_183 (c_M_isGood l N272_ (hf_N272_.w hW) ) rfl rfl rfl (by decide) (Nat.le_of_ble_eq_true rfl) d_M_operand_312 ?_
                      rintro _ N276_ ⟨v277_, rfl, ⟨hv277_a, hv277_b⟩, hsN276_, hp0_N276_⟩
                      obtain rfl := hsN276_.eq.symm
                      replace hp0_N276_ : ((v277_ = 1 ∧ ze N272_ 81 7 = 0) ∨ (v277_ = 0 ∧ ze N272_ 81 7 ≠ 0)) := hp0_N276_
                      rcases hp0_N276_ with ⟨rfl, ha312_0_hp0_N276_⟩ | ⟨rfl, ha312_0_hp0_N276_⟩
                      · skip
                        exfalso; omega
                      · skip
                        show zW l m_M_operand (zn Mz + 0, zw Mz + 0) N272_ 315 [some (.ref 81), none, none] [.int (Int32.ofInt 0)] (zpI [3, 4, 5, 6, 7, 8, 11, 38, 39, 41, 42, 43] [95, 100] Mz (fun v N => 0 ≤ ze N 81 3 ∧ ze N 81 3 ≤ ze N 81 2 ∧ zTv N ∧ (((v = 0 ∧ 1 ≤ ze N 81 7 ∧ zmu N = 0) ∨ (v = 0 ∧ ze N 81 7 = 0 ∧ zmu N < zmu Mz ∧ ze N 81 38 = zcw N ∧ 0 ≤ ze N 81 41 ∧ ze N 81 41 - zcw N ≤ ze N 81 43 ∧ ze N 81 42 = ze N 81 41 - zcw N ∧ ze N 81 38 ≤ ze N 81 43 ∧ ze N 81 43 ≤ 30) ∨ (v = 1 ∧ 1 ≤ ze N 81 7 ∧ zmu N = 0) ∨ (v = 1 ∧ ze N 81 7 = 0 ∧ zmu N < zmu Mz ∧ ze N 81 38 = zcw N + 1 ∧ 0 ≤ ze N 81 41 ∧ ze N 81 41 - zcw N ≤ ze N 81 43 ∧ ze N 81 42 = ze N 81 41 - zcw N ∧ ze N 81 38 ≤ ze N 81 43 ∧ ze N 81 43 ≤ 30)))))
                        refine zr_if_eq (pc := 315) (tgt := 322) ⟨(by decide), (by decide)⟩ (by decide) d_M_operand_315 (fun hc_315 => ?_) (fun hc_315 => ?_)
                        · skip
                          refine zw_iconst (pc := 322) (v := Int32.ofInt 1) (by decide) d_M_operand_322 ?_
                          have hz0 := zmu_s N272_
                          exact zr_iret (pc := 323) (ty := .boolean) rfl (z_narB (by omega)) ⟨by omega, by omega⟩ hf_N272_ ⟨(show 0 ≤ ze N272_ 81 3 by first | assumption | omega), (show ze N272_ 81 3 ≤ ze N272_ 81 2 by first | assumption | omega), c275_, (show ((1 = 0 ∧ 1 ≤ ze N272_ 81 7 ∧ zmu N272_ = 0) ∨ (1 = 0 ∧ ze N272_ 81 7 = 0 ∧ zmu N272_ < zmu Mz ∧ ze N272_ 81 38 = zcw N272_ ∧ 0 ≤ ze N272_ 81 41 ∧ ze N272_ 81 41 - zcw N272_ ≤ ze N272_ 81 43 ∧ ze N272_ 81 42 = ze N272_ 81 41 - zcw N272_ ∧ ze N272_ 81 38 ≤ ze N272_ 81 43 ∧ ze N272_ 81 43 ≤ 30) ∨ (1 = 1 ∧ 1 ≤ ze N272_ 81 7 ∧ zmu N272_ = 0) ∨ (1 = 1 ∧ ze N272_ 81 7 = 0 ∧ zmu N272_ < zmu Mz ∧ ze N272_ 81 38 = zcw N272_ + 1 ∧ 0 ≤ ze N272_ 81 41 ∧ ze N272_ 81 41 - zcw N272_ ≤ ze N272_ 81 43 ∧ ze N272_ 81 42 = ze N272_ 81 41 - zcw N272_ ∧ ze N272_ 81 38 ≤ ze N272_ 81 43 ∧ ze N272_ 81 43 ≤ 30)) from Or.inr (Or.inr (Or.inl (⟨(show 1 = 1 by first | assumption | omega), (show 1 ≤ ze N272_ 81 7 by first | assumption | omega), (show zmu N272_ = 0 by first | assumption | omega)⟩))))⟩ d_M_operand_323
                        · skip
                          exact absurd hc_315 (by decide)
                    · skip
                      exact absurd hc_216 (by decide)
                · skip
                  exact absurd hc_132 (by decide)
            · skip
              exact absurd hc_92 (by decide)
        · skip
          exact absurd hc_15 (by decide)
