/-! 45 -/
set_option maxHeartbeats 4000000 in
theorem c_M_inForce (l : Launch) (Mz : zMem) (hW : zMt Mz) (p0_ : 1 ≤ ze Mz 81 12) (p1_ : ze Mz 81 12 ≤ 6) (p2_ : 0 ≤ ze Mz 81 13) (p3_ : ze Mz 81 13 ≤ 4) (p4_ : zPm Mz) (p5_ : zFin Mz) (p6_ : zB 83 24 0 5 Mz) (p7_ : 0 ≤ ze Mz 81 14) (p8_ : ze Mz 81 14 ≤ 8) : zC l m_M_inForce 0 0 [.ref 81] Mz (zpV [16, 17, 18, 58, 60] [84, 98, 103, 104] Mz (fun N => zIF N ∧ ze N 81 60 = 0 ∧ 0 ≤ ze N 81 18 ∧ ze N 81 18 ≤ 8)) := by
  refine zC_of (L0 := [some (.ref 81), none]) md_M_inForce (Nat.le_of_ble_eq_true rfl) rfl ?_ zQ0
  have hf : zFr [16, 17, 18, 58, 60] [84, 98, 103, 104] Mz Mz := zFr.rf
  have r_12 := ze_r Mz 81 12
  have r_13 := ze_r Mz 81 13
  have r_14 := ze_r Mz 81 14
  have r_16 := ze_r Mz 81 16
  have r_17 := ze_r Mz 81 17
  have r_18 := ze_r Mz 81 18
  have r_58 := ze_r Mz 81 58
  have r_60 := ze_r Mz 81 60
  refine zw_aload_n (pc := 0) (n := 0) (x := 81) rfl d_M_inForce_0 ?_
  refine zw_aload_n (pc := 1) (n := 0) (x := 81) rfl d_M_inForce_1 ?_
  refine zr_getI0 hf hW (pc := 2) (by decide) f_M_115 rfl d_M_inForce_2 ?_
  refine zr_putI (hf.w hW) (pc := 5) f_M_382 rfl rfl ⟨by omega, by omega⟩ rfl rfl d_M_inForce_5 (fun N1_ hsN1_ hvN1_ => ?_)
  have hf_N1_ : zFr [16, 17, 18, 58, 60] [84, 98, 103, 104] Mz N1_ := hf.tr hsN1_ (by decide) (by decide)
  have e12_N1_ : ze N1_ 81 12 = ze Mz 81 12 := hsN1_.e (by decide)
  have e13_N1_ : ze N1_ 81 13 = ze Mz 81 13 := hsN1_.e (by decide)
  have e14_N1_ : ze N1_ 81 14 = ze Mz 81 14 := hsN1_.e (by decide)
  have r16_N1_ := ze_r N1_ 81 16
  have e17_N1_ : ze N1_ 81 17 = ze Mz 81 17 := hsN1_.e (by decide)
  have e18_N1_ : ze N1_ 81 18 = ze Mz 81 18 := hsN1_.e (by decide)
  have e58_N1_ : ze N1_ 81 58 = ze Mz 81 58 := hsN1_.e (by decide)
  have e60_N1_ : ze N1_ 81 60 = ze Mz 81 60 := hsN1_.e (by decide)
  have c2_ : zPm N1_ := zPm.fr hsN1_ p4_ (by decide) (by decide)
  have c3_ : zFin N1_ := zFin.fr hsN1_ p5_ (by decide) (by decide)
  have c4_ : zB 83 24 0 5 N1_ := zB.fr hsN1_ p6_ (by decide) (by decide)
  refine zw_aload_n (pc := 8) (n := 0) (x := 81) rfl d_M_inForce_8 ?_
  refine zw_aload_n (pc := 9) (n := 0) (x := 81) rfl d_M_inForce_9 ?_
  refine zr_getI0 hf_N1_ hW (pc := 10) (by decide) f_M_199 rfl d_M_inForce_10 ?_
  refine zr_putI (hf_N1_.w hW) (pc := 13) f_M_385 rfl rfl ⟨by omega, by omega⟩ rfl rfl d_M_inForce_13 (fun N5_ hsN5_ hvN5_ => ?_)
  have hf_N5_ : zFr [16, 17, 18, 58, 60] [84, 98, 103, 104] Mz N5_ := hf_N1_.tr hsN5_ (by decide) (by decide)
  have e12_N5_ : ze N5_ 81 12 = ze N1_ 81 12 := hsN5_.e (by decide)
  have e13_N5_ : ze N5_ 81 13 = ze N1_ 81 13 := hsN5_.e (by decide)
  have e14_N5_ : ze N5_ 81 14 = ze N1_ 81 14 := hsN5_.e (by decide)
  have e16_N5_ : ze N5_ 81 16 = ze N1_ 81 16 := hsN5_.e (by decide)
  have r17_N5_ := ze_r N5_ 81 17
  have e18_N5_ : ze N5_ 81 18 = ze N1_ 81 18 := hsN5_.e (by decide)
  have e58_N5_ : ze N5_ 81 58 = ze N1_ 81 58 := hsN5_.e (by decide)
  have e60_N5_ : ze N5_ 81 60 = ze N1_ 81 60 := hsN5_.e (by decide)
  have c6_ : zPm N5_ := zPm.fr hsN5_ c2_ (by decide) (by decide)
  have c7_ : zFin N5_ := zFin.fr hsN5_ c3_ (by decide) (by decide)
  have c8_ : zB 83 24 0 5 N5_ := zB.fr hsN5_ c4_ (by decide) (by decide)
  refine zw_aload_n (pc := 16) (n := 0) (x := 81) rfl d_M_inForce_16 ?_
  refine zw_aload_n (pc := 17) (n := 0) (x := 81) rfl d_M_inForce_17 ?_
  refine zr_getI0 hf_N5_ hW (pc := 18) (by decide) f_M_299 rfl d_M_inForce_18 ?_
  refine zr_putI (hf_N5_.w hW) (pc := 21) f_M_388 rfl rfl ⟨by omega, by omega⟩ rfl rfl d_M_inForce_21 (fun N9_ hsN9_ hvN9_ => ?_)
  have hf_N9_ : zFr [16, 17, 18, 58, 60] [84, 98, 103, 104] Mz N9_ := hf_N5_.tr hsN9_ (by decide) (by decide)
  have e12_N9_ : ze N9_ 81 12 = ze N5_ 81 12 := hsN9_.e (by decide)
  have e13_N9_ : ze N9_ 81 13 = ze N5_ 81 13 := hsN9_.e (by decide)
  have e14_N9_ : ze N9_ 81 14 = ze N5_ 81 14 := hsN9_.e (by decide)
  have e16_N9_ : ze N9_ 81 16 = ze N5_ 81 16 := hsN9_.e (by decide)
  have e17_N9_ : ze N9_ 81 17 = ze N5_ 81 17 := hsN9_.e (by decide)
  have r18_N9_ := ze_r N9_ 81 18
  have e58_N9_ : ze N9_ 81 58 = ze N5_ 81 58 := hsN9_.e (by decide)
  have e60_N9_ : ze N9_ 81 60 = ze N5_ 81 60 := hsN9_.e (by decide)
  have c10_ : zPm N9_ := zPm.fr hsN9_ c6_ (by decide) (by decide)
  have c11_ : zFin N9_ := zFin.fr hsN9_ c7_ (by decide) (by decide)
  have c12_ : zB 83 24 0 5 N9_ := zB.fr hsN9_ c8_ (by decide) (by decide)
  refine zw_iconst (pc := 24) (v := Int32.ofInt 0) (by decide) d_M_inForce_24 ?_
  refine zw_istore_n (pc := 25) (i := 1) (L2 := [some (.ref 81), some (.int (Int32.ofInt 0))]) rfl (by decide) rfl d_M_inForce_25 ?_
  have lp_26 : ∀ (n : Nat) (u13_ : Int) (hu13_a : -2147483648 ≤ u13_) (hu13_b : u13_ < 2147483648) (N14_ : zMem) (hs15_ : zFr [] [84] N9_ N14_) (i16_ : 0 ≤ u13_) (i17_ : zCp 83 84 Mz N14_ u13_), (24 - u13_).toNat < n → zW l m_M_inForce (zn Mz + 0, zw Mz + 0) N14_ 26 [some (.ref 81), some (.int (Int32.ofInt u13_))] [] (zpV [16, 17, 18, 58, 60] [84, 98, 103, 104] Mz (fun N => zIF N ∧ ze N 81 60 = 0 ∧ 0 ≤ ze N 81 18 ∧ ze N 81 18 ≤ 8)) := by
    intro n
    induction n with
    | zero =>
      intro u13_ hu13_a hu13_b N14_ hs15_ i16_ i17_ h0
      exact absurd h0 (Nat.not_lt_zero _)
    | succ n ih_26 =>
      intro u13_ hu13_a hu13_b N14_ hs15_ i16_ i17_ hlt_26
      have hf_N14_ : zFr [16, 17, 18, 58, 60] [84, 98, 103, 104] Mz N14_ := hf_N9_.tr hs15_ (by decide) (by decide)
      have e12_N14_ : ze N14_ 81 12 = ze N9_ 81 12 := hs15_.e (by decide)
      have e13_N14_ : ze N14_ 81 13 = ze N9_ 81 13 := hs15_.e (by decide)
      have e14_N14_ : ze N14_ 81 14 = ze N9_ 81 14 := hs15_.e (by decide)
      have e16_N14_ : ze N14_ 81 16 = ze N9_ 81 16 := hs15_.e (by decide)
      have e17_N14_ : ze N14_ 81 17 = ze N9_ 81 17 := hs15_.e (by decide)
      have e18_N14_ : ze N14_ 81 18 = ze N9_ 81 18 := hs15_.e (by decide)
      have e58_N14_ : ze N14_ 81 58 = ze N9_ 81 58 := hs15_.e (by decide)
      have e60_N14_ : ze N14_ 81 60 = ze N9_ 81 60 := hs15_.e (by decide)
      have c18_ : zPm N14_ := zPm.fr hs15_ c10_ (by decide) (by decide)
      have c19_ : zFin N14_ := zFin.fr hs15_ c11_ (by decide) (by decide)
      have c20_ : zB 83 24 0 5 N14_ := zB.fr hs15_ c12_ (by decide) (by decide)
      refine zw_iload_n (pc := 26) (n := 1) (x := Int32.ofInt u13_) rfl d_M_inForce_26 ?_
      refine zw_bipush (pc := 27) (v := Int32.ofInt 24) (by decide) d_M_inForce_27 ?_
      refine zr_icmp_ge (pc := 29) (tgt := 50) ⟨hu13_a, hu13_b⟩ ⟨(by decide), (by decide)⟩ (by decide) d_M_inForce_29 (fun hc_29 => ?_) (fun hc_29 => ?_)
      · skip
        have hI_ : zIF N14_ := zIF_i (by omega) (show zCp 83 84 Mz N14_ u13_ by assumption) (fun j => hf_N14_.ie (by decide) (by decide) j) (by omega) (by omega) (by omega) (by omega) (by omega) (by omega) c18_ c19_ c20_
        refine zw_iconst (pc := 50) (v := Int32.ofInt 0) (by decide) d_M_inForce_50 ?_
        refine zw_istore_n (pc := 51) (i := 1) (L2 := [some (.ref 81), some (.int (Int32.ofInt 0))]) rfl (by decide) rfl d_M_inForce_51 ?_
        have lp_52 : ∀ (n : Nat) (u21_ : Int) (hu21_a : -2147483648 ≤ u21_) (hu21_b : u21_ < 2147483648) (N22_ : zMem) (hs23_ : zFr [] [103] N14_ N22_) (i24_ : 0 ≤ u21_), (8 - u21_).toNat < n → zW l m_M_inForce (zn Mz + 0, zw Mz + 0) N22_ 52 [some (.ref 81), some (.int (Int32.ofInt u21_))] [] (zpV [16, 17, 18, 58, 60] [84, 98, 103, 104] Mz (fun N => zIF N ∧ ze N 81 60 = 0 ∧ 0 ≤ ze N 81 18 ∧ ze N 81 18 ≤ 8)) := by
          intro n
          induction n with
          | zero =>
            intro u21_ hu21_a hu21_b N22_ hs23_ i24_ h0
            exact absurd h0 (Nat.not_lt_zero _)
          | succ n ih_52 =>
            intro u21_ hu21_a hu21_b N22_ hs23_ i24_ hlt_52
            have hf_N22_ : zFr [16, 17, 18, 58, 60] [84, 98, 103, 104] Mz N22_ := hf_N14_.tr hs23_ (by decide) (by decide)
            have e12_N22_ : ze N22_ 81 12 = ze N14_ 81 12 := hs23_.e (by decide)
            have e13_N22_ : ze N22_ 81 13 = ze N14_ 81 13 := hs23_.e (by decide)
            have e14_N22_ : ze N22_ 81 14 = ze N14_ 81 14 := hs23_.e (by decide)
            have e16_N22_ : ze N22_ 81 16 = ze N14_ 81 16 := hs23_.e (by decide)
            have e17_N22_ : ze N22_ 81 17 = ze N14_ 81 17 := hs23_.e (by decide)
            have e18_N22_ : ze N22_ 81 18 = ze N14_ 81 18 := hs23_.e (by decide)
            have e58_N22_ : ze N22_ 81 58 = ze N14_ 81 58 := hs23_.e (by decide)
            have e60_N22_ : ze N22_ 81 60 = ze N14_ 81 60 := hs23_.e (by decide)
            have c25_ : zPm N22_ := zPm.fr hs23_ c18_ (by decide) (by decide)
            have c26_ : zFin N22_ := zFin.fr hs23_ c19_ (by decide) (by decide)
            have c27_ : zB 83 24 0 5 N22_ := zB.fr hs23_ c20_ (by decide) (by decide)
            have c28_ : zIF N22_ := zIF.fr hs23_ hI_ (by decide) (by decide)
            refine zw_iload_n (pc := 52) (n := 1) (x := Int32.ofInt u21_) rfl d_M_inForce_52 ?_
            refine zw_bipush (pc := 53) (v := Int32.ofInt 8) (by decide) d_M_inForce_53 ?_
            refine zr_icmp_ge (pc := 55) (tgt := 76) ⟨hu21_a, hu21_b⟩ ⟨(by decide), (by decide)⟩ (by decide) d_M_inForce_55 (fun hc_55 => ?_) (fun hc_55 => ?_)
            · skip
              refine zw_iconst (pc := 76) (v := Int32.ofInt 0) (by decide) d_M_inForce_76 ?_
              refine zw_istore_n (pc := 77) (i := 1) (L2 := [some (.ref 81), some (.int (Int32.ofInt 0))]) rfl (by decide) rfl d_M_inForce_77 ?_
              have lp_78 : ∀ (n : Nat) (u29_ : Int) (hu29_a : -2147483648 ≤ u29_) (hu29_b : u29_ < 2147483648) (N30_ : zMem) (hs31_ : zFr [] [104] N22_ N30_) (i32_ : 0 ≤ u29_), (512 - u29_).toNat < n → zW l m_M_inForce (zn Mz + 0, zw Mz + 0) N30_ 78 [some (.ref 81), some (.int (Int32.ofInt u29_))] [] (zpV [16, 17, 18, 58, 60] [84, 98, 103, 104] Mz (fun N => zIF N ∧ ze N 81 60 = 0 ∧ 0 ≤ ze N 81 18 ∧ ze N 81 18 ≤ 8)) := by
                intro n
                induction n with
                | zero =>
                  intro u29_ hu29_a hu29_b N30_ hs31_ i32_ h0
                  exact absurd h0 (Nat.not_lt_zero _)
                | succ n ih_78 =>
                  intro u29_ hu29_a hu29_b N30_ hs31_ i32_ hlt_78
                  have hf_N30_ : zFr [16, 17, 18, 58, 60] [84, 98, 103, 104] Mz N30_ := hf_N22_.tr hs31_ (by decide) (by decide)
                  have e12_N30_ : ze N30_ 81 12 = ze N22_ 81 12 := hs31_.e (by decide)
                  have e13_N30_ : ze N30_ 81 13 = ze N22_ 81 13 := hs31_.e (by decide)
                  have e14_N30_ : ze N30_ 81 14 = ze N22_ 81 14 := hs31_.e (by decide)
                  have e16_N30_ : ze N30_ 81 16 = ze N22_ 81 16 := hs31_.e (by decide)
                  have e17_N30_ : ze N30_ 81 17 = ze N22_ 81 17 := hs31_.e (by decide)
                  have e18_N30_ : ze N30_ 81 18 = ze N22_ 81 18 := hs31_.e (by decide)
                  have e58_N30_ : ze N30_ 81 58 = ze N22_ 81 58 := hs31_.e (by decide)
                  have e60_N30_ : ze N30_ 81 60 = ze N22_ 81 60 := hs31_.e (by decide)
                  have c33_ : zPm N30_ := zPm.fr hs31_ c25_ (by decide) (by decide)
                  have c34_ : zFin N30_ := zFin.fr hs31_ c26_ (by decide) (by decide)
                  have c35_ : zB 83 24 0 5 N30_ := zB.fr hs31_ c27_ (by decide) (by decide)
                  have c36_ : zIF N30_ := zIF.fr hs31_ c28_ (by decide) (by decide)
                  refine zw_iload_n (pc := 78) (n := 1) (x := Int32.ofInt u29_) rfl d_M_inForce_78 ?_
                  refine zw_sipush (pc := 79) (v := Int32.ofInt 512) (by decide) d_M_inForce_79 ?_
                  refine zr_icmp_ge (pc := 82) (tgt := 103) ⟨hu29_a, hu29_b⟩ ⟨(by decide), (by decide)⟩ (by decide) d_M_inForce_82 (fun hc_82 => ?_) (fun hc_82 => ?_)
                  · skip
                    refine zw_iconst (pc := 103) (v := Int32.ofInt 0) (by decide) d_M_inForce_103 ?_
                    refine zw_istore_n (pc := 104) (i := 1) (L2 := [some (.ref 81), some (.int (Int32.ofInt 0))]) rfl (by decide) rfl d_M_inForce_104 ?_
                    have lp_105 : ∀ (n : Nat) (u37_ : Int) (hu37_a : -2147483648 ≤ u37_) (hu37_b : u37_ < 2147483648) (N38_ : zMem) (hs39_ : zFr [] [98] N30_ N38_) (i40_ : 0 ≤ u37_), (64 - u37_).toNat < n → zW l m_M_inForce (zn Mz + 0, zw Mz + 0) N38_ 105 [some (.ref 81), some (.int (Int32.ofInt u37_))] [] (zpV [16, 17, 18, 58, 60] [84, 98, 103, 104] Mz (fun N => zIF N ∧ ze N 81 60 = 0 ∧ 0 ≤ ze N 81 18 ∧ ze N 81 18 ≤ 8)) := by
                      intro n
                      induction n with
                      | zero =>
                        intro u37_ hu37_a hu37_b N38_ hs39_ i40_ h0
                        exact absurd h0 (Nat.not_lt_zero _)
                      | succ n ih_105 =>
                        intro u37_ hu37_a hu37_b N38_ hs39_ i40_ hlt_105
                        have hf_N38_ : zFr [16, 17, 18, 58, 60] [84, 98, 103, 104] Mz N38_ := hf_N30_.tr hs39_ (by decide) (by decide)
                        have e12_N38_ : ze N38_ 81 12 = ze N30_ 81 12 := hs39_.e (by decide)
                        have e13_N38_ : ze N38_ 81 13 = ze N30_ 81 13 := hs39_.e (by decide)
                        have e14_N38_ : ze N38_ 81 14 = ze N30_ 81 14 := hs39_.e (by decide)
                        have e16_N38_ : ze N38_ 81 16 = ze N30_ 81 16 := hs39_.e (by decide)
                        have e17_N38_ : ze N38_ 81 17 = ze N30_ 81 17 := hs39_.e (by decide)
                        have e18_N38_ : ze N38_ 81 18 = ze N30_ 81 18 := hs39_.e (by decide)
                        have e58_N38_ : ze N38_ 81 58 = ze N30_ 81 58 := hs39_.e (by decide)
                        have e60_N38_ : ze N38_ 81 60 = ze N30_ 81 60 := hs39_.e (by decide)
                        have c41_ : zPm N38_ := zPm.fr hs39_ c33_ (by decide) (by decide)
                        have c42_ : zFin N38_ := zFin.fr hs39_ c34_ (by decide) (by decide)
                        have c43_ : zB 83 24 0 5 N38_ := zB.fr hs39_ c35_ (by decide) (by decide)
                        have c44_ : zIF N38_ := zIF.fr hs39_ c36_ (by decide) (by decide)
                        refine zw_iload_n (pc := 105) (n := 1) (x := Int32.ofInt u37_) rfl d_M_inForce_105 ?_
                        refine zw_bipush (pc := 106) (v := Int32.ofInt 64) (by decide) d_M_inForce_106 ?_
                        refine zr_icmp_ge (pc := 108) (tgt := 124) ⟨hu37_a, hu37_b⟩ ⟨(by decide), (by decide)⟩ (by decide) d_M_inForce_108 (fun hc_108 => ?_) (fun hc_108 => ?_)
                        · skip
                          refine zw_aload_n (pc := 124) (n := 0) (x := 81) rfl d_M_inForce_124 ?_
                          refine zw_iconst (pc := 125) (v := Int32.ofInt 0) (by decide) d_M_inForce_125 ?_
                          refine zr_putI (hf_N38_.w hW) (pc := 126) f_M_391 rfl rfl ⟨by omega, by omega⟩ rfl rfl d_M_inForce_126 (fun N45_ hsN45_ hvN45_ => ?_)
                          have hf_N45_ : zFr [16, 17, 18, 58, 60] [84, 98, 103, 104] Mz N45_ := hf_N38_.tr hsN45_ (by decide) (by decide)
                          have e12_N45_ : ze N45_ 81 12 = ze N38_ 81 12 := hsN45_.e (by decide)
                          have e13_N45_ : ze N45_ 81 13 = ze N38_ 81 13 := hsN45_.e (by decide)
                          have e14_N45_ : ze N45_ 81 14 = ze N38_ 81 14 := hsN45_.e (by decide)
                          have e16_N45_ : ze N45_ 81 16 = ze N38_ 81 16 := hsN45_.e (by decide)
                          have e17_N45_ : ze N45_ 81 17 = ze N38_ 81 17 := hsN45_.e (by decide)
                          have e18_N45_ : ze N45_ 81 18 = ze N38_ 81 18 := hsN45_.e (by decide)
                          have e58_N45_ : ze N45_ 81 58 = ze N38_ 81 58 := hsN45_.e (by decide)
                          have r60_N45_ := ze_r N45_ 81 60
                          have c46_ : zPm N45_ := zPm.fr hsN45_ c41_ (by decide) (by decide)
                          have c47_ : zFin N45_ := zFin.fr hsN45_ c42_ (by decide) (by decide)
                          have c48_ : zB 83 24 0 5 N45_ := zB.fr hsN45_ c43_ (by decide) (by decide)
                          have c49_ : zIF N45_ := zIF.fr hsN45_ c44_ (by decide) (by decide)
                          refine zw_aload_n (pc := 129) (n := 0) (x := 81) rfl d_M_inForce_129 ?_
                          refine zw_iconst (pc := 130) (v := Int32.ofInt 0) (by decide) d_M_inForce_130 ?_
                          refine zr_putI (hf_N45_.w hW) (pc := 131) f_M_394 rfl rfl ⟨by omega, by omega⟩ (z_narB (by omega)) (z_fitB (by omega)) d_M_inForce_131 (fun N50_ hsN50_ hvN50_ => ?_)
                          have hf_N50_ : zFr [16, 17, 18, 58, 60] [84, 98, 103, 104] Mz N50_ := hf_N45_.tr hsN50_ (by decide) (by decide)
                          have e12_N50_ : ze N50_ 81 12 = ze N45_ 81 12 := hsN50_.e (by decide)
                          have e13_N50_ : ze N50_ 81 13 = ze N45_ 81 13 := hsN50_.e (by decide)
                          have e14_N50_ : ze N50_ 81 14 = ze N45_ 81 14 := hsN50_.e (by decide)
                          have e16_N50_ : ze N50_ 81 16 = ze N45_ 81 16 := hsN50_.e (by decide)
                          have e17_N50_ : ze N50_ 81 17 = ze N45_ 81 17 := hsN50_.e (by decide)
                          have e18_N50_ : ze N50_ 81 18 = ze N45_ 81 18 := hsN50_.e (by decide)
                          have r58_N50_ := ze_r N50_ 81 58
                          have e60_N50_ : ze N50_ 81 60 = ze N45_ 81 60 := hsN50_.e (by decide)
                          have c51_ : zPm N50_ := zPm.fr hsN50_ c46_ (by decide) (by decide)
                          have c52_ : zFin N50_ := zFin.fr hsN50_ c47_ (by decide) (by decide)
                          have c53_ : zB 83 24 0 5 N50_ := zB.fr hsN50_ c48_ (by decide) (by decide)
                          have c54_ : zIF N50_ := zIF.fr hsN50_ c49_ (by decide) (by decide)
                          exact zr_vret (pc := 134) rfl hf_N50_ ⟨c54_, (show ze N50_ 81 60 = 0 by first | assumption | omega), (show 0 ≤ ze N50_ 81 18 by first | assumption | omega), (show ze N50_ 81 18 ≤ 8 by first | assumption | omega)⟩ d_M_inForce_134
                        · skip
                          refine zw_aload_n (pc := 111) (n := 0) (x := 81) rfl d_M_inForce_111 ?_
                          refine zr_getF (r := 98) (hf_N38_.w hW) (pc := 112) f_M_66 rfl (zh_98 (hf_N38_.w hW)).1 d_M_inForce_112 ?_
                          refine zw_iload_n (pc := 115) (n := 1) (x := Int32.ofInt u37_) rfl d_M_inForce_115 ?_
                          refine zw_lconst (pc := 116) (v := Int64.ofInt 0) (by decide) d_M_inForce_116 ?_
                          refine zr_last (pc := 117) (zh_98 (hf_N38_.w hW)).2 (by decide) (by decide) (by omega) (by omega) d_M_inForce_117 (fun N55_ hN55_ hsN55_ => ?_)
                          have hf_N55_ : zFr [16, 17, 18, 58, 60] [84, 98, 103, 104] Mz N55_ := hf_N38_.tr hsN55_ (by decide) (by decide)
                          have hb0_N55_ : zFr [] [98] N30_ N55_ := hs39_.tr hsN55_ (by decide) (by decide)
                          have e12_N55_ : ze N55_ 81 12 = ze N38_ 81 12 := hsN55_.e (by decide)
                          have e13_N55_ : ze N55_ 81 13 = ze N38_ 81 13 := hsN55_.e (by decide)
                          have e14_N55_ : ze N55_ 81 14 = ze N38_ 81 14 := hsN55_.e (by decide)
                          have e16_N55_ : ze N55_ 81 16 = ze N38_ 81 16 := hsN55_.e (by decide)
                          have e17_N55_ : ze N55_ 81 17 = ze N38_ 81 17 := hsN55_.e (by decide)
                          have e18_N55_ : ze N55_ 81 18 = ze N38_ 81 18 := hsN55_.e (by decide)
                          have e58_N55_ : ze N55_ 81 58 = ze N38_ 81 58 := hsN55_.e (by decide)
                          have e60_N55_ : ze N55_ 81 60 = ze N38_ 81 60 := hsN55_.e (by decide)
                          have c56_ : zPm N55_ := zPm.fr hsN55_ c41_ (by decide) (by decide)
                          have c57_ : zFin N55_ := zFin.fr hsN55_ c42_ (by decide) (by decide)
                          have c58_ : zB 83 24 0 5 N55_ := zB.fr hsN55_ c43_ (by decide) (by decide)
                          have c59_ : zIF N55_ := zIF.fr hsN55_ c44_ (by decide) (by decide)
                          refine zr_iinc (pc := 118) (i := 1) (a := u37_) (n := 1) (L2 := [some (.ref 81), some (.int (Int32.ofInt (u37_ + 1)))]) rfl (by decide) rfl d_M_inForce_118 ?_
                          refine zw_goto (pc := 121) (tgt := 105) (by decide) d_M_inForce_121 ?_
                          exact ih_105 (u37_ + 1) (by omega) (by omega) N55_ hb0_N55_ (show 0 ≤ (u37_ + 1) by first | assumption | omega) (by omega)
                    exact lp_105 _ 0 (by decide) (by decide) N30_ zFr.rf (show 0 ≤ (0 : Int) by first | assumption | omega) (Nat.lt_succ_self _)
                  · skip
                    refine zw_aload_n (pc := 85) (n := 0) (x := 81) rfl d_M_inForce_85 ?_
                    refine zr_getF (r := 104) (hf_N30_.w hW) (pc := 86) f_M_84 rfl (zh_104 (hf_N30_.w hW)).1 d_M_inForce_86 ?_
                    refine zw_iload_n (pc := 89) (n := 1) (x := Int32.ofInt u29_) rfl d_M_inForce_89 ?_
                    refine zw_aload_n (pc := 90) (n := 0) (x := 81) rfl d_M_inForce_90 ?_
                    refine zr_getF (r := 102) (hf_N30_.w hW) (pc := 91) f_M_78 rfl (zh_102 (hf_N30_.w hW)).1 d_M_inForce_91 ?_
                    refine zw_iload_n (pc := 94) (n := 1) (x := Int32.ofInt u29_) rfl d_M_inForce_94 ?_
                    refine zr_laldn (pc := 95) (zh_102 (hf_N30_.w hW)).2 (by decide) (by omega) (by omega) d_M_inForce_95 (fun v60_ hv60_ hv60_a hv60_b => ?_)
                    rw [hf_N30_.jg (by decide) (by decide)] at hv60_
                    refine zr_last (pc := 96) (zh_104 (hf_N30_.w hW)).2 (by decide) (by decide) (by omega) (by omega) d_M_inForce_96 (fun N61_ hN61_ hsN61_ => ?_)
                    have hf_N61_ : zFr [16, 17, 18, 58, 60] [84, 98, 103, 104] Mz N61_ := hf_N30_.tr hsN61_ (by decide) (by decide)
                    have hb0_N61_ : zFr [] [104] N22_ N61_ := hs31_.tr hsN61_ (by decide) (by decide)
                    have e12_N61_ : ze N61_ 81 12 = ze N30_ 81 12 := hsN61_.e (by decide)
                    have e13_N61_ : ze N61_ 81 13 = ze N30_ 81 13 := hsN61_.e (by decide)
                    have e14_N61_ : ze N61_ 81 14 = ze N30_ 81 14 := hsN61_.e (by decide)
                    have e16_N61_ : ze N61_ 81 16 = ze N30_ 81 16 := hsN61_.e (by decide)
                    have e17_N61_ : ze N61_ 81 17 = ze N30_ 81 17 := hsN61_.e (by decide)
                    have e18_N61_ : ze N61_ 81 18 = ze N30_ 81 18 := hsN61_.e (by decide)
                    have e58_N61_ : ze N61_ 81 58 = ze N30_ 81 58 := hsN61_.e (by decide)
                    have e60_N61_ : ze N61_ 81 60 = ze N30_ 81 60 := hsN61_.e (by decide)
                    have c62_ : zPm N61_ := zPm.fr hsN61_ c33_ (by decide) (by decide)
                    have c63_ : zFin N61_ := zFin.fr hsN61_ c34_ (by decide) (by decide)
                    have c64_ : zB 83 24 0 5 N61_ := zB.fr hsN61_ c35_ (by decide) (by decide)
                    have c65_ : zIF N61_ := zIF.fr hsN61_ c36_ (by decide) (by decide)
                    refine zr_iinc (pc := 97) (i := 1) (a := u29_) (n := 1) (L2 := [some (.ref 81), some (.int (Int32.ofInt (u29_ + 1)))]) rfl (by decide) rfl d_M_inForce_97 ?_
                    refine zw_goto (pc := 100) (tgt := 78) (by decide) d_M_inForce_100 ?_
                    exact ih_78 (u29_ + 1) (by omega) (by omega) N61_ hb0_N61_ (show 0 ≤ (u29_ + 1) by first | assumption | omega) (by omega)
              exact lp_78 _ 0 (by decide) (by decide) N22_ zFr.rf (show 0 ≤ (0 : Int) by first | assumption | omega) (Nat.lt_succ_self _)
            · skip
              refine zw_aload_n (pc := 58) (n := 0) (x := 81) rfl d_M_inForce_58 ?_
              refine zr_getF (r := 103) (hf_N22_.w hW) (pc := 59) f_M_81 rfl (zh_103 (hf_N22_.w hW)).1 d_M_inForce_59 ?_
              refine zw_iload_n (pc := 62) (n := 1) (x := Int32.ofInt u21_) rfl d_M_inForce_62 ?_
              refine zw_aload_n (pc := 63) (n := 0) (x := 81) rfl d_M_inForce_63 ?_
              refine zr_getF (r := 101) (hf_N22_.w hW) (pc := 64) f_M_75 rfl (zh_101 (hf_N22_.w hW)).1 d_M_inForce_64 ?_
              refine zw_iload_n (pc := 67) (n := 1) (x := Int32.ofInt u21_) rfl d_M_inForce_67 ?_
              refine zr_laldn (pc := 68) (zh_101 (hf_N22_.w hW)).2 (by decide) (by omega) (by omega) d_M_inForce_68 (fun v66_ hv66_ hv66_a hv66_b => ?_)
              rw [hf_N22_.jg (by decide) (by decide)] at hv66_
              refine zr_last (pc := 69) (zh_103 (hf_N22_.w hW)).2 (by decide) (by decide) (by omega) (by omega) d_M_inForce_69 (fun N67_ hN67_ hsN67_ => ?_)
              have hf_N67_ : zFr [16, 17, 18, 58, 60] [84, 98, 103, 104] Mz N67_ := hf_N22_.tr hsN67_ (by decide) (by decide)
              have hb0_N67_ : zFr [] [103] N14_ N67_ := hs23_.tr hsN67_ (by decide) (by decide)
              have e12_N67_ : ze N67_ 81 12 = ze N22_ 81 12 := hsN67_.e (by decide)
              have e13_N67_ : ze N67_ 81 13 = ze N22_ 81 13 := hsN67_.e (by decide)
              have e14_N67_ : ze N67_ 81 14 = ze N22_ 81 14 := hsN67_.e (by decide)
              have e16_N67_ : ze N67_ 81 16 = ze N22_ 81 16 := hsN67_.e (by decide)
              have e17_N67_ : ze N67_ 81 17 = ze N22_ 81 17 := hsN67_.e (by decide)
              have e18_N67_ : ze N67_ 81 18 = ze N22_ 81 18 := hsN67_.e (by decide)
              have e58_N67_ : ze N67_ 81 58 = ze N22_ 81 58 := hsN67_.e (by decide)
              have e60_N67_ : ze N67_ 81 60 = ze N22_ 81 60 := hsN67_.e (by decide)
              have c68_ : zPm N67_ := zPm.fr hsN67_ c25_ (by decide) (by decide)
              have c69_ : zFin N67_ := zFin.fr hsN67_ c26_ (by decide) (by decide)
              have c70_ : zB 83 24 0 5 N67_ := zB.fr hsN67_ c27_ (by decide) (by decide)
              have c71_ : zIF N67_ := zIF.fr hsN67_ c28_ (by decide) (by decide)
              refine zr_iinc (pc := 70) (i := 1) (a := u21_) (n := 1) (L2 := [some (.ref 81), some (.int (Int32.ofInt (u21_ + 1)))]) rfl (by decide) rfl d_M_inForce_70 ?_
              refine zw_goto (pc := 73) (tgt := 52) (by decide) d_M_inForce_73 ?_
              exact ih_52 (u21_ + 1) (by omega) (by omega) N67_ hb0_N67_ (show 0 ≤ (u21_ + 1) by first | assumption | omega) (by omega)
        exact lp_52 _ 0 (by decide) (by decide) N14_ zFr.rf (show 0 ≤ (0 : Int) by first | assumption | omega) (Nat.lt_succ_self _)
      · skip
        refine zw_aload_n (pc := 32) (n := 0) (x := 81) rfl d_M_inForce_32 ?_
        refine zr_getF (r := 84) (hf_N14_.w hW) (pc := 33) f_M_23 rfl (zh_84 (hf_N14_.w hW)).1 d_M_inForce_33 ?_
        refine zw_iload_n (pc := 36) (n := 1) (x := Int32.ofInt u13_) rfl d_M_inForce_36 ?_
        refine zw_aload_n (pc := 37) (n := 0) (x := 81) rfl d_M_inForce_37 ?_
        refine zr_getF (r := 83) (hf_N14_.w hW) (pc := 38) f_M_20 rfl (zh_83 (hf_N14_.w hW)).1 d_M_inForce_38 ?_
        refine zw_iload_n (pc := 41) (n := 1) (x := Int32.ofInt u13_) rfl d_M_inForce_41 ?_
        refine zr_ialdn (pc := 42) (zh_83 (hf_N14_.w hW)).2 (by decide) (by omega) (by omega) d_M_inForce_42 (fun v72_ hv72_ hv72_a hv72_b => ?_)
        have hr73_ := c20_.g (e := u13_) (by omega) (by omega)
        rw [← hv72_] at hr73_
        rw [hf_N14_.ie (by decide) (by decide)] at hv72_
        refine zr_iast (pc := 43) (zh_84 (hf_N14_.w hW)).2 (by decide) (by decide) (by omega) (by omega) d_M_inForce_43 (fun N74_ hN74_ hsN74_ => ?_)
        have hf_N74_ : zFr [16, 17, 18, 58, 60] [84, 98, 103, 104] Mz N74_ := hf_N14_.tr hsN74_ (by decide) (by decide)
        have hb0_N74_ : zFr [] [84] N9_ N74_ := hs15_.tr hsN74_ (by decide) (by decide)
        have e12_N74_ : ze N74_ 81 12 = ze N14_ 81 12 := hsN74_.e (by decide)
        have e13_N74_ : ze N74_ 81 13 = ze N14_ 81 13 := hsN74_.e (by decide)
        have e14_N74_ : ze N74_ 81 14 = ze N14_ 81 14 := hsN74_.e (by decide)
        have e16_N74_ : ze N74_ 81 16 = ze N14_ 81 16 := hsN74_.e (by decide)
        have e17_N74_ : ze N74_ 81 17 = ze N14_ 81 17 := hsN74_.e (by decide)
        have e18_N74_ : ze N74_ 81 18 = ze N14_ 81 18 := hsN74_.e (by decide)
        have e58_N74_ : ze N74_ 81 58 = ze N14_ 81 58 := hsN74_.e (by decide)
        have e60_N74_ : ze N74_ 81 60 = ze N14_ 81 60 := hsN74_.e (by decide)
        have c75_ : zPm N74_ := zPm.fr hsN74_ c18_ (by decide) (by decide)
        have c76_ : zFin N74_ := zFin.fr hsN74_ c19_ (by decide) (by decide)
        have c77_ : zB 83 24 0 5 N74_ := zB.fr hsN74_ c20_ (by decide) (by decide)
        have hC1_ := zCp_s (by omega) (show zCp 83 84 Mz N14_ u13_ by assumption) (by assumption) hN74_
        refine zr_iinc (pc := 44) (i := 1) (a := u13_) (n := 1) (L2 := [some (.ref 81), some (.int (Int32.ofInt (u13_ + 1)))]) rfl (by decide) rfl d_M_inForce_44 ?_
        refine zw_goto (pc := 47) (tgt := 26) (by decide) d_M_inForce_47 ?_
        exact ih_26 (u13_ + 1) (by omega) (by omega) N74_ hb0_N74_ (show 0 ≤ (u13_ + 1) by first | assumption | omega) (show zCp 83 84 Mz N74_ (u13_ + 1) by exact hC1_) (by omega)
  exact lp_26 _ 0 (by decide) (by decide) N9_ zFr.rf (show 0 ≤ (0 : Int) by first | assumption | omega) (show zCp 83 84 Mz N9_ (0 : Int) by exact zCp_0) (Nat.lt_succ_self _)
set_option maxHeartbeats 4000000 in
theorem c_M_goesBack (l : Launch) (Mz : zMem) (hW : zMt Mz) (p0_ : zIF Mz) (p1_ : 0 ≤ ze Mz 81 18) (p2_ : ze Mz 81 18 ≤ 8) (p3_ : zB 83 24 0 5 Mz) (p4_ : zB 85 144 0 5 Mz) : zC l m_M_goesBack 0 0 [.ref 81] Mz (zpV [12, 13, 14, 20, 25, 26, 58] [83, 85, 86, 87, 88, 89, 90, 91, 92, 93, 94, 101, 102] Mz (fun N => (∃ T : zGT, T ∈ gTabs ∧ zGB T N) ∧ 0 ≤ ze N 81 14 ∧ ze N 81 14 ≤ 8 ∧ zIF N ∧ zB 83 24 0 5 N)) := by
  refine zC_of (L0 := [some (.ref 81), none]) md_M_goesBack (Nat.le_of_ble_eq_true rfl) rfl ?_ zQ0
  have hf : zFr [12, 13, 14, 20, 25, 26, 58] [83, 85, 86, 87, 88, 89, 90, 91, 92, 93, 94, 101, 102] Mz Mz := zFr.rf
  have r_12 := ze_r Mz 81 12
  have r_13 := ze_r Mz 81 13
  have r_14 := ze_r Mz 81 14
  have r_16 := ze_r Mz 81 16
  have r_17 := ze_r Mz 81 17
  have r_18 := ze_r Mz 81 18
  have r_58 := ze_r Mz 81 58
  have hi_ := p0_.1
  refine zw_aload_n (pc := 0) (n := 0) (x := 81) rfl d_M_goesBack_0 ?_
  refine zw_aload_n (pc := 1) (n := 0) (x := 81) rfl d_M_goesBack_1 ?_
  refine zr_getI0 hf hW (pc := 2) (by decide) f_M_382 rfl d_M_goesBack_2 ?_
  refine zr_putI (hf.w hW) (pc := 5) f_M_115 rfl rfl ⟨by omega, by omega⟩ rfl rfl d_M_goesBack_5 (fun N1_ hsN1_ hvN1_ => ?_)
  have hf_N1_ : zFr [12, 13, 14, 20, 25, 26, 58] [83, 85, 86, 87, 88, 89, 90, 91, 92, 93, 94, 101, 102] Mz N1_ := hf.tr hsN1_ (by decide) (by decide)
  have r12_N1_ := ze_r N1_ 81 12
  have e13_N1_ : ze N1_ 81 13 = ze Mz 81 13 := hsN1_.e (by decide)
  have e14_N1_ : ze N1_ 81 14 = ze Mz 81 14 := hsN1_.e (by decide)
  have e16_N1_ : ze N1_ 81 16 = ze Mz 81 16 := hsN1_.e (by decide)
  have e17_N1_ : ze N1_ 81 17 = ze Mz 81 17 := hsN1_.e (by decide)
  have e18_N1_ : ze N1_ 81 18 = ze Mz 81 18 := hsN1_.e (by decide)
  have e58_N1_ : ze N1_ 81 58 = ze Mz 81 58 := hsN1_.e (by decide)
  have c2_ : zIF N1_ := zIF.fr hsN1_ p0_ (by decide) (by decide)
  have c3_ : zB 83 24 0 5 N1_ := zB.fr hsN1_ p3_ (by decide) (by decide)
  have c4_ : zB 85 144 0 5 N1_ := zB.fr hsN1_ p4_ (by decide) (by decide)
  refine zw_aload_n (pc := 8) (n := 0) (x := 81) rfl d_M_goesBack_8 ?_
  refine zw_aload_n (pc := 9) (n := 0) (x := 81) rfl d_M_goesBack_9 ?_
  refine zr_getI0 hf_N1_ hW (pc := 10) (by decide) f_M_385 rfl d_M_goesBack_10 ?_
  refine zr_putI (hf_N1_.w hW) (pc := 13) f_M_199 rfl rfl ⟨by omega, by omega⟩ rfl rfl d_M_goesBack_13 (fun N5_ hsN5_ hvN5_ => ?_)
  have hf_N5_ : zFr [12, 13, 14, 20, 25, 26, 58] [83, 85, 86, 87, 88, 89, 90, 91, 92, 93, 94, 101, 102] Mz N5_ := hf_N1_.tr hsN5_ (by decide) (by decide)
  have e12_N5_ : ze N5_ 81 12 = ze N1_ 81 12 := hsN5_.e (by decide)
  have r13_N5_ := ze_r N5_ 81 13
  have e14_N5_ : ze N5_ 81 14 = ze N1_ 81 14 := hsN5_.e (by decide)
  have e16_N5_ : ze N5_ 81 16 = ze N1_ 81 16 := hsN5_.e (by decide)
  have e17_N5_ : ze N5_ 81 17 = ze N1_ 81 17 := hsN5_.e (by decide)
  have e18_N5_ : ze N5_ 81 18 = ze N1_ 81 18 := hsN5_.e (by decide)
  have e58_N5_ : ze N5_ 81 58 = ze N1_ 81 58 := hsN5_.e (by decide)
  have c6_ : zIF N5_ := zIF.fr hsN5_ c2_ (by decide) (by decide)
  have c7_ : zB 83 24 0 5 N5_ := zB.fr hsN5_ c3_ (by decide) (by decide)
  have c8_ : zB 85 144 0 5 N5_ := zB.fr hsN5_ c4_ (by decide) (by decide)
  refine zw_aload_n (pc := 16) (n := 0) (x := 81) rfl d_M_goesBack_16 ?_
  refine zw_aload_n (pc := 17) (n := 0) (x := 81) rfl d_M_goesBack_17 ?_
  refine zr_getI0 hf_N5_ hW (pc := 18) (by decide) f_M_388 rfl d_M_goesBack_18 ?_
  refine zr_putI (hf_N5_.w hW) (pc := 21) f_M_299 rfl rfl ⟨by omega, by omega⟩ rfl rfl d_M_goesBack_21 (fun N9_ hsN9_ hvN9_ => ?_)
  have hf_N9_ : zFr [12, 13, 14, 20, 25, 26, 58] [83, 85, 86, 87, 88, 89, 90, 91, 92, 93, 94, 101, 102] Mz N9_ := hf_N5_.tr hsN9_ (by decide) (by decide)
  have e12_N9_ : ze N9_ 81 12 = ze N5_ 81 12 := hsN9_.e (by decide)
  have e13_N9_ : ze N9_ 81 13 = ze N5_ 81 13 := hsN9_.e (by decide)
  have r14_N9_ := ze_r N9_ 81 14
  have e16_N9_ : ze N9_ 81 16 = ze N5_ 81 16 := hsN9_.e (by decide)
  have e17_N9_ : ze N9_ 81 17 = ze N5_ 81 17 := hsN9_.e (by decide)
  have e18_N9_ : ze N9_ 81 18 = ze N5_ 81 18 := hsN9_.e (by decide)
  have e58_N9_ : ze N9_ 81 58 = ze N5_ 81 58 := hsN9_.e (by decide)
  have c10_ : zIF N9_ := zIF.fr hsN9_ c6_ (by decide) (by decide)
  have c11_ : zB 83 24 0 5 N9_ := zB.fr hsN9_ c7_ (by decide) (by decide)
  have c12_ : zB 85 144 0 5 N9_ := zB.fr hsN9_ c8_ (by decide) (by decide)
  refine zw_iconst (pc := 24) (v := Int32.ofInt 0) (by decide) d_M_goesBack_24 ?_
  refine zw_istore_n (pc := 25) (i := 1) (L2 := [some (.ref 81), some (.int (Int32.ofInt 0))]) rfl (by decide) rfl d_M_goesBack_25 ?_
  have lp_26 : ∀ (n : Nat) (u13_ : Int) (hu13_a : -2147483648 ≤ u13_) (hu13_b : u13_ < 2147483648) (N14_ : zMem) (hs15_ : zFr [] [83] N9_ N14_) (i16_ : 0 ≤ u13_) (i17_ : zCp 84 83 Mz N14_ u13_) (i18_ : zB 83 24 0 5 N14_), (24 - u13_).toNat < n → zW l m_M_goesBack (zn Mz + 0, zw Mz + 0) N14_ 26 [some (.ref 81), some (.int (Int32.ofInt u13_))] [] (zpV [12, 13, 14, 20, 25, 26, 58] [83, 85, 86, 87, 88, 89, 90, 91, 92, 93, 94, 101, 102] Mz (fun N => (∃ T : zGT, T ∈ gTabs ∧ zGB T N) ∧ 0 ≤ ze N 81 14 ∧ ze N 81 14 ≤ 8 ∧ zIF N ∧ zB 83 24 0 5 N)) := by
    intro n
    induction n with
    | zero =>
      intro u13_ hu13_a hu13_b N14_ hs15_ i16_ i17_ i18_ h0
      exact absurd h0 (Nat.not_lt_zero _)
    | succ n ih_26 =>
      intro u13_ hu13_a hu13_b N14_ hs15_ i16_ i17_ i18_ hlt_26
      have hf_N14_ : zFr [12, 13, 14, 20, 25, 26, 58] [83, 85, 86, 87, 88, 89, 90, 91, 92, 93, 94, 101, 102] Mz N14_ := hf_N9_.tr hs15_ (by decide) (by decide)
      have e12_N14_ : ze N14_ 81 12 = ze N9_ 81 12 := hs15_.e (by decide)
      have e13_N14_ : ze N14_ 81 13 = ze N9_ 81 13 := hs15_.e (by decide)
      have e14_N14_ : ze N14_ 81 14 = ze N9_ 81 14 := hs15_.e (by decide)
      have e16_N14_ : ze N14_ 81 16 = ze N9_ 81 16 := hs15_.e (by decide)
      have e17_N14_ : ze N14_ 81 17 = ze N9_ 81 17 := hs15_.e (by decide)
      have e18_N14_ : ze N14_ 81 18 = ze N9_ 81 18 := hs15_.e (by decide)
      have e58_N14_ : ze N14_ 81 58 = ze N9_ 81 58 := hs15_.e (by decide)
      have c19_ : zIF N14_ := zIF.fr hs15_ c10_ (by decide) (by decide)
      have c20_ : zB 85 144 0 5 N14_ := zB.fr hs15_ c12_ (by decide) (by decide)
      refine zw_iload_n (pc := 26) (n := 1) (x := Int32.ofInt u13_) rfl d_M_goesBack_26 ?_
      refine zw_bipush (pc := 27) (v := Int32.ofInt 24) (by decide) d_M_goesBack_27 ?_
      refine zr_icmp_ge (pc := 29) (tgt := 50) ⟨hu13_a, hu13_b⟩ ⟨(by decide), (by decide)⟩ (by decide) d_M_goesBack_29 (fun hc_29 => ?_) (fun hc_29 => ?_)
      · skip
        have hI_ := zIF_b (by omega) (show zCp 84 83 Mz N14_ u13_ by assumption) (fun j => hf_N14_.ie (by decide) (by decide) j) c19_ (by omega) (by omega)
        have hIp_ := hI_.1
        have hIf_ := hI_.2.1
        refine zw_iconst (pc := 50) (v := Int32.ofInt 0) (by decide) d_M_goesBack_50 ?_
        refine zw_istore_n (pc := 51) (i := 1) (L2 := [some (.ref 81), some (.int (Int32.ofInt 0))]) rfl (by decide) rfl d_M_goesBack_51 ?_
        have lp_52 : ∀ (n : Nat) (u21_ : Int) (hu21_a : -2147483648 ≤ u21_) (hu21_b : u21_ < 2147483648) (N22_ : zMem) (hs23_ : zFr [] [101] N14_ N22_) (i24_ : 0 ≤ u21_), (8 - u21_).toNat < n → zW l m_M_goesBack (zn Mz + 0, zw Mz + 0) N22_ 52 [some (.ref 81), some (.int (Int32.ofInt u21_))] [] (zpV [12, 13, 14, 20, 25, 26, 58] [83, 85, 86, 87, 88, 89, 90, 91, 92, 93, 94, 101, 102] Mz (fun N => (∃ T : zGT, T ∈ gTabs ∧ zGB T N) ∧ 0 ≤ ze N 81 14 ∧ ze N 81 14 ≤ 8 ∧ zIF N ∧ zB 83 24 0 5 N)) := by
          intro n
          induction n with
          | zero =>
            intro u21_ hu21_a hu21_b N22_ hs23_ i24_ h0
            exact absurd h0 (Nat.not_lt_zero _)
          | succ n ih_52 =>
            intro u21_ hu21_a hu21_b N22_ hs23_ i24_ hlt_52
            have hf_N22_ : zFr [12, 13, 14, 20, 25, 26, 58] [83, 85, 86, 87, 88, 89, 90, 91, 92, 93, 94, 101, 102] Mz N22_ := hf_N14_.tr hs23_ (by decide) (by decide)
            have e12_N22_ : ze N22_ 81 12 = ze N14_ 81 12 := hs23_.e (by decide)
            have e13_N22_ : ze N22_ 81 13 = ze N14_ 81 13 := hs23_.e (by decide)
            have e14_N22_ : ze N22_ 81 14 = ze N14_ 81 14 := hs23_.e (by decide)
            have e16_N22_ : ze N22_ 81 16 = ze N14_ 81 16 := hs23_.e (by decide)
            have e17_N22_ : ze N22_ 81 17 = ze N14_ 81 17 := hs23_.e (by decide)
            have e18_N22_ : ze N22_ 81 18 = ze N14_ 81 18 := hs23_.e (by decide)
            have e58_N22_ : ze N22_ 81 58 = ze N14_ 81 58 := hs23_.e (by decide)
            have c25_ : zIF N22_ := zIF.fr hs23_ c19_ (by decide) (by decide)
            have c26_ : zB 85 144 0 5 N22_ := zB.fr hs23_ c20_ (by decide) (by decide)
            have c27_ : zB 83 24 0 5 N22_ := zB.fr hs23_ i18_ (by decide) (by decide)
            have c28_ : zPm N22_ := zPm.fr hs23_ hIp_ (by decide) (by decide)
            have c29_ : zFin N22_ := zFin.fr hs23_ hIf_ (by decide) (by decide)
            refine zw_iload_n (pc := 52) (n := 1) (x := Int32.ofInt u21_) rfl d_M_goesBack_52 ?_
            refine zw_bipush (pc := 53) (v := Int32.ofInt 8) (by decide) d_M_goesBack_53 ?_
            refine zr_icmp_ge (pc := 55) (tgt := 76) ⟨hu21_a, hu21_b⟩ ⟨(by decide), (by decide)⟩ (by decide) d_M_goesBack_55 (fun hc_55 => ?_) (fun hc_55 => ?_)
            · skip
              refine zw_iconst (pc := 76) (v := Int32.ofInt 0) (by decide) d_M_goesBack_76 ?_
              refine zw_istore_n (pc := 77) (i := 1) (L2 := [some (.ref 81), some (.int (Int32.ofInt 0))]) rfl (by decide) rfl d_M_goesBack_77 ?_
              have lp_78 : ∀ (n : Nat) (u30_ : Int) (hu30_a : -2147483648 ≤ u30_) (hu30_b : u30_ < 2147483648) (N31_ : zMem) (hs32_ : zFr [] [102] N22_ N31_) (i33_ : 0 ≤ u30_), (512 - u30_).toNat < n → zW l m_M_goesBack (zn Mz + 0, zw Mz + 0) N31_ 78 [some (.ref 81), some (.int (Int32.ofInt u30_))] [] (zpV [12, 13, 14, 20, 25, 26, 58] [83, 85, 86, 87, 88, 89, 90, 91, 92, 93, 94, 101, 102] Mz (fun N => (∃ T : zGT, T ∈ gTabs ∧ zGB T N) ∧ 0 ≤ ze N 81 14 ∧ ze N 81 14 ≤ 8 ∧ zIF N ∧ zB 83 24 0 5 N)) := by
                intro n
                induction n with
                | zero =>
                  intro u30_ hu30_a hu30_b N31_ hs32_ i33_ h0
                  exact absurd h0 (Nat.not_lt_zero _)
                | succ n ih_78 =>
                  intro u30_ hu30_a hu30_b N31_ hs32_ i33_ hlt_78
                  have hf_N31_ : zFr [12, 13, 14, 20, 25, 26, 58] [83, 85, 86, 87, 88, 89, 90, 91, 92, 93, 94, 101, 102] Mz N31_ := hf_N22_.tr hs32_ (by decide) (by decide)
                  have e12_N31_ : ze N31_ 81 12 = ze N22_ 81 12 := hs32_.e (by decide)
                  have e13_N31_ : ze N31_ 81 13 = ze N22_ 81 13 := hs32_.e (by decide)
                  have e14_N31_ : ze N31_ 81 14 = ze N22_ 81 14 := hs32_.e (by decide)
                  have e16_N31_ : ze N31_ 81 16 = ze N22_ 81 16 := hs32_.e (by decide)
                  have e17_N31_ : ze N31_ 81 17 = ze N22_ 81 17 := hs32_.e (by decide)
                  have e18_N31_ : ze N31_ 81 18 = ze N22_ 81 18 := hs32_.e (by decide)
                  have e58_N31_ : ze N31_ 81 58 = ze N22_ 81 58 := hs32_.e (by decide)
                  have c34_ : zIF N31_ := zIF.fr hs32_ c25_ (by decide) (by decide)
                  have c35_ : zB 85 144 0 5 N31_ := zB.fr hs32_ c26_ (by decide) (by decide)
                  have c36_ : zB 83 24 0 5 N31_ := zB.fr hs32_ c27_ (by decide) (by decide)
                  have c37_ : zPm N31_ := zPm.fr hs32_ c28_ (by decide) (by decide)
                  have c38_ : zFin N31_ := zFin.fr hs32_ c29_ (by decide) (by decide)
                  refine zw_iload_n (pc := 78) (n := 1) (x := Int32.ofInt u30_) rfl d_M_goesBack_78 ?_
                  refine zw_sipush (pc := 79) (v := Int32.ofInt 512) (by decide) d_M_goesBack_79 ?_
                  refine zr_icmp_ge (pc := 82) (tgt := 103) ⟨hu30_a, hu30_b⟩ ⟨(by decide), (by decide)⟩ (by decide) d_M_goesBack_82 (fun hc_82 => ?_) (fun hc_82 => ?_)
                  · skip
                    refine zw_aload_n (pc := 103) (n := 0) (x := 81) rfl d_M_goesBack_103 ?_
                    refine zr_callV (hf_N31_.w hW) hf_N31_.x (pc := 104) [] [] l_M_118 (c_M_builds l N31_ (hf_N31_.w hW) (show 1 ≤ ze N31_ 81 12 by first | assumption | omega) (show ze N31_ 81 12 ≤ 6 by first | assumption | omega) (show 0 ≤ ze N31_ 81 13 by first | assumption | omega) (show ze N31_ 81 13 ≤ 4 by first | assumption | omega) c37_ c38_ c36_ c35_) rfl rfl rfl (by decide) (Nat.le_of_ble_eq_true rfl) d_M_goesBack_104 ?_
                    rintro _ N39_ ⟨rfl, hsN39_, hp0_N39_⟩
                    replace hp0_N39_ : ∃ T : zGT, T ∈ gTabs ∧ zGB T N39_ := hp0_N39_
                    have hf_N39_ : zFr [12, 13, 14, 20, 25, 26, 58] [83, 85, 86, 87, 88, 89, 90, 91, 92, 93, 94, 101, 102] Mz N39_ := hf_N31_.tr hsN39_ (by decide) (by decide)
                    have e12_N39_ : ze N39_ 81 12 = ze N31_ 81 12 := hsN39_.e (by decide)
                    have e13_N39_ : ze N39_ 81 13 = ze N31_ 81 13 := hsN39_.e (by decide)
                    have e14_N39_ : ze N39_ 81 14 = ze N31_ 81 14 := hsN39_.e (by decide)
                    have e16_N39_ : ze N39_ 81 16 = ze N31_ 81 16 := hsN39_.e (by decide)
                    have e17_N39_ : ze N39_ 81 17 = ze N31_ 81 17 := hsN39_.e (by decide)
                    have e18_N39_ : ze N39_ 81 18 = ze N31_ 81 18 := hsN39_.e (by decide)
                    have e58_N39_ : ze N39_ 81 58 = ze N31_ 81 58 := hsN39_.e (by decide)
                    have c41_ : zIF N39_ := zIF.fr hsN39_ c34_ (by decide) (by decide)
                    have c42_ : zB 83 24 0 5 N39_ := zB.fr hsN39_ c36_ (by decide) (by decide)
                    have c43_ : zPm N39_ := zPm.fr hsN39_ c37_ (by decide) (by decide)
                    have c44_ : zFin N39_ := zFin.fr hsN39_ c38_ (by decide) (by decide)
                    show zW l m_M_goesBack (zn Mz + 0, zw Mz + 0) N39_ 107 [some (.ref 81), some (.int (Int32.ofInt u30_))] [] (zpV [12, 13, 14, 20, 25, 26, 58] [83, 85, 86, 87, 88, 89, 90, 91, 92, 93, 94, 101, 102] Mz (fun N => (∃ T : zGT, T ∈ gTabs ∧ zGB T N) ∧ 0 ≤ ze N 81 14 ∧ ze N 81 14 ≤ 8 ∧ zIF N ∧ zB 83 24 0 5 N))
                    obtain ⟨T, hTt, hGB⟩ := id hp0_N39_
                    refine zw_aload_n (pc := 107) (n := 0) (x := 81) rfl d_M_goesBack_107 ?_
                    refine zw_iconst (pc := 108) (v := Int32.ofInt 0) (by decide) d_M_goesBack_108 ?_
                    refine zr_putI (hf_N39_.w hW) (pc := 109) f_M_394 rfl rfl ⟨by omega, by omega⟩ (z_narB (by omega)) (z_fitB (by omega)) d_M_goesBack_109 (fun N45_ hsN45_ hvN45_ => ?_)
                    have hf_N45_ : zFr [12, 13, 14, 20, 25, 26, 58] [83, 85, 86, 87, 88, 89, 90, 91, 92, 93, 94, 101, 102] Mz N45_ := hf_N39_.tr hsN45_ (by decide) (by decide)
                    have e12_N45_ : ze N45_ 81 12 = ze N39_ 81 12 := hsN45_.e (by decide)
                    have e13_N45_ : ze N45_ 81 13 = ze N39_ 81 13 := hsN45_.e (by decide)
                    have e14_N45_ : ze N45_ 81 14 = ze N39_ 81 14 := hsN45_.e (by decide)
                    have e16_N45_ : ze N45_ 81 16 = ze N39_ 81 16 := hsN45_.e (by decide)
                    have e17_N45_ : ze N45_ 81 17 = ze N39_ 81 17 := hsN45_.e (by decide)
                    have e18_N45_ : ze N45_ 81 18 = ze N39_ 81 18 := hsN45_.e (by decide)
                    have r58_N45_ := ze_r N45_ 81 58
                    have c46_ : zIF N45_ := zIF.fr hsN45_ c41_ (by decide) (by decide)
                    have c47_ : zB 83 24 0 5 N45_ := zB.fr hsN45_ c42_ (by decide) (by decide)
                    have c48_ : zPm N45_ := zPm.fr hsN45_ c43_ (by decide) (by decide)
                    have c49_ : zFin N45_ := zFin.fr hsN45_ c44_ (by decide) (by decide)
                    have c50_ : zGB T N45_ := zGB.fr hsN45_ hGB (by decide) (by decide)
                    exact zr_vret (pc := 112) rfl hf_N45_ ⟨(show (∃ T : zGT, T ∈ gTabs ∧ zGB T N45_) by exact ⟨T, hTt, c50_⟩), (show 0 ≤ ze N45_ 81 14 by first | assumption | omega), (show ze N45_ 81 14 ≤ 8 by first | assumption | omega), c46_, c47_⟩ d_M_goesBack_112
                  · skip
                    refine zw_aload_n (pc := 85) (n := 0) (x := 81) rfl d_M_goesBack_85 ?_
                    refine zr_getF (r := 102) (hf_N31_.w hW) (pc := 86) f_M_78 rfl (zh_102 (hf_N31_.w hW)).1 d_M_goesBack_86 ?_
                    refine zw_iload_n (pc := 89) (n := 1) (x := Int32.ofInt u30_) rfl d_M_goesBack_89 ?_
                    refine zw_aload_n (pc := 90) (n := 0) (x := 81) rfl d_M_goesBack_90 ?_
                    refine zr_getF (r := 104) (hf_N31_.w hW) (pc := 91) f_M_84 rfl (zh_104 (hf_N31_.w hW)).1 d_M_goesBack_91 ?_
                    refine zw_iload_n (pc := 94) (n := 1) (x := Int32.ofInt u30_) rfl d_M_goesBack_94 ?_
                    refine zr_laldn (pc := 95) (zh_104 (hf_N31_.w hW)).2 (by decide) (by omega) (by omega) d_M_goesBack_95 (fun v51_ hv51_ hv51_a hv51_b => ?_)
                    rw [hf_N31_.jg (by decide) (by decide)] at hv51_
                    refine zr_last (pc := 96) (zh_102 (hf_N31_.w hW)).2 (by decide) (by decide) (by omega) (by omega) d_M_goesBack_96 (fun N52_ hN52_ hsN52_ => ?_)
                    have hf_N52_ : zFr [12, 13, 14, 20, 25, 26, 58] [83, 85, 86, 87, 88, 89, 90, 91, 92, 93, 94, 101, 102] Mz N52_ := hf_N31_.tr hsN52_ (by decide) (by decide)
                    have hb0_N52_ : zFr [] [102] N22_ N52_ := hs32_.tr hsN52_ (by decide) (by decide)
                    have e12_N52_ : ze N52_ 81 12 = ze N31_ 81 12 := hsN52_.e (by decide)
                    have e13_N52_ : ze N52_ 81 13 = ze N31_ 81 13 := hsN52_.e (by decide)
                    have e14_N52_ : ze N52_ 81 14 = ze N31_ 81 14 := hsN52_.e (by decide)
                    have e16_N52_ : ze N52_ 81 16 = ze N31_ 81 16 := hsN52_.e (by decide)
                    have e17_N52_ : ze N52_ 81 17 = ze N31_ 81 17 := hsN52_.e (by decide)
                    have e18_N52_ : ze N52_ 81 18 = ze N31_ 81 18 := hsN52_.e (by decide)
                    have e58_N52_ : ze N52_ 81 58 = ze N31_ 81 58 := hsN52_.e (by decide)
                    have c53_ : zIF N52_ := zIF.fr hsN52_ c34_ (by decide) (by decide)
                    have c54_ : zB 85 144 0 5 N52_ := zB.fr hsN52_ c35_ (by decide) (by decide)
                    have c55_ : zB 83 24 0 5 N52_ := zB.fr hsN52_ c36_ (by decide) (by decide)
                    have c56_ : zPm N52_ := zPm.fr hsN52_ c37_ (by decide) (by decide)
                    have c57_ : zFin N52_ := zFin.fr hsN52_ c38_ (by decide) (by decide)
                    refine zr_iinc (pc := 97) (i := 1) (a := u30_) (n := 1) (L2 := [some (.ref 81), some (.int (Int32.ofInt (u30_ + 1)))]) rfl (by decide) rfl d_M_goesBack_97 ?_
                    refine zw_goto (pc := 100) (tgt := 78) (by decide) d_M_goesBack_100 ?_
                    exact ih_78 (u30_ + 1) (by omega) (by omega) N52_ hb0_N52_ (show 0 ≤ (u30_ + 1) by first | assumption | omega) (by omega)
              exact lp_78 _ 0 (by decide) (by decide) N22_ zFr.rf (show 0 ≤ (0 : Int) by first | assumption | omega) (Nat.lt_succ_self _)
            · skip
              refine zw_aload_n (pc := 58) (n := 0) (x := 81) rfl d_M_goesBack_58 ?_
              refine zr_getF (r := 101) (hf_N22_.w hW) (pc := 59) f_M_75 rfl (zh_101 (hf_N22_.w hW)).1 d_M_goesBack_59 ?_
              refine zw_iload_n (pc := 62) (n := 1) (x := Int32.ofInt u21_) rfl d_M_goesBack_62 ?_
              refine zw_aload_n (pc := 63) (n := 0) (x := 81) rfl d_M_goesBack_63 ?_
              refine zr_getF (r := 103) (hf_N22_.w hW) (pc := 64) f_M_81 rfl (zh_103 (hf_N22_.w hW)).1 d_M_goesBack_64 ?_
              refine zw_iload_n (pc := 67) (n := 1) (x := Int32.ofInt u21_) rfl d_M_goesBack_67 ?_
              refine zr_laldn (pc := 68) (zh_103 (hf_N22_.w hW)).2 (by decide) (by omega) (by omega) d_M_goesBack_68 (fun v58_ hv58_ hv58_a hv58_b => ?_)
              rw [hf_N22_.jg (by decide) (by decide)] at hv58_
              refine zr_last (pc := 69) (zh_101 (hf_N22_.w hW)).2 (by decide) (by decide) (by omega) (by omega) d_M_goesBack_69 (fun N59_ hN59_ hsN59_ => ?_)
              have hf_N59_ : zFr [12, 13, 14, 20, 25, 26, 58] [83, 85, 86, 87, 88, 89, 90, 91, 92, 93, 94, 101, 102] Mz N59_ := hf_N22_.tr hsN59_ (by decide) (by decide)
              have hb0_N59_ : zFr [] [101] N14_ N59_ := hs23_.tr hsN59_ (by decide) (by decide)
              have e12_N59_ : ze N59_ 81 12 = ze N22_ 81 12 := hsN59_.e (by decide)
              have e13_N59_ : ze N59_ 81 13 = ze N22_ 81 13 := hsN59_.e (by decide)
              have e14_N59_ : ze N59_ 81 14 = ze N22_ 81 14 := hsN59_.e (by decide)
              have e16_N59_ : ze N59_ 81 16 = ze N22_ 81 16 := hsN59_.e (by decide)
              have e17_N59_ : ze N59_ 81 17 = ze N22_ 81 17 := hsN59_.e (by decide)
              have e18_N59_ : ze N59_ 81 18 = ze N22_ 81 18 := hsN59_.e (by decide)
              have e58_N59_ : ze N59_ 81 58 = ze N22_ 81 58 := hsN59_.e (by decide)
              have c60_ : zIF N59_ := zIF.fr hsN59_ c25_ (by decide) (by decide)
              have c61_ : zB 85 144 0 5 N59_ := zB.fr hsN59_ c26_ (by decide) (by decide)
              have c62_ : zB 83 24 0 5 N59_ := zB.fr hsN59_ c27_ (by decide) (by decide)
              have c63_ : zPm N59_ := zPm.fr hsN59_ c28_ (by decide) (by decide)
              have c64_ : zFin N59_ := zFin.fr hsN59_ c29_ (by decide) (by decide)
              refine zr_iinc (pc := 70) (i := 1) (a := u21_) (n := 1) (L2 := [some (.ref 81), some (.int (Int32.ofInt (u21_ + 1)))]) rfl (by decide) rfl d_M_goesBack_70 ?_
              refine zw_goto (pc := 73) (tgt := 52) (by decide) d_M_goesBack_73 ?_
              exact ih_52 (u21_ + 1) (by omega) (by omega) N59_ hb0_N59_ (show 0 ≤ (u21_ + 1) by first | assumption | omega) (by omega)
        exact lp_52 _ 0 (by decide) (by decide) N14_ zFr.rf (show 0 ≤ (0 : Int) by first | assumption | omega) (Nat.lt_succ_self _)
      · skip
        refine zw_aload_n (pc := 32) (n := 0) (x := 81) rfl d_M_goesBack_32 ?_
        refine zr_getF (r := 83) (hf_N14_.w hW) (pc := 33) f_M_20 rfl (zh_83 (hf_N14_.w hW)).1 d_M_goesBack_33 ?_
        refine zw_iload_n (pc := 36) (n := 1) (x := Int32.ofInt u13_) rfl d_M_goesBack_36 ?_
        refine zw_aload_n (pc := 37) (n := 0) (x := 81) rfl d_M_goesBack_37 ?_
        refine zr_getF (r := 84) (hf_N14_.w hW) (pc := 38) f_M_23 rfl (zh_84 (hf_N14_.w hW)).1 d_M_goesBack_38 ?_
        refine zw_iload_n (pc := 41) (n := 1) (x := Int32.ofInt u13_) rfl d_M_goesBack_41 ?_
        refine zr_ialdn (pc := 42) (zh_84 (hf_N14_.w hW)).2 (by decide) (by omega) (by omega) d_M_goesBack_42 (fun v65_ hv65_ hv65_a hv65_b => ?_)
        rw [hf_N14_.ie (by decide) (by decide)] at hv65_
        have hb84_ := p0_.2.1 (u13_).toNat (by omega)
        refine zr_iast (pc := 43) (zh_83 (hf_N14_.w hW)).2 (by decide) (by decide) (by omega) (by omega) d_M_goesBack_43 (fun N66_ hN66_ hsN66_ => ?_)
        have hf_N66_ : zFr [12, 13, 14, 20, 25, 26, 58] [83, 85, 86, 87, 88, 89, 90, 91, 92, 93, 94, 101, 102] Mz N66_ := hf_N14_.tr hsN66_ (by decide) (by decide)
        have hb0_N66_ : zFr [] [83] N9_ N66_ := hs15_.tr hsN66_ (by decide) (by decide)
        have e12_N66_ : ze N66_ 81 12 = ze N14_ 81 12 := hsN66_.e (by decide)
        have e13_N66_ : ze N66_ 81 13 = ze N14_ 81 13 := hsN66_.e (by decide)
        have e14_N66_ : ze N66_ 81 14 = ze N14_ 81 14 := hsN66_.e (by decide)
        have e16_N66_ : ze N66_ 81 16 = ze N14_ 81 16 := hsN66_.e (by decide)
        have e17_N66_ : ze N66_ 81 17 = ze N14_ 81 17 := hsN66_.e (by decide)
        have e18_N66_ : ze N66_ 81 18 = ze N14_ 81 18 := hsN66_.e (by decide)
        have e58_N66_ : ze N66_ 81 58 = ze N14_ 81 58 := hsN66_.e (by decide)
        have c67_ : zIF N66_ := zIF.fr hsN66_ c19_ (by decide) (by decide)
        have c68_ : zB 85 144 0 5 N66_ := zB.fr hsN66_ c20_ (by decide) (by decide)
        have c69_ : zB 83 24 0 5 N66_ := zB.s i18_ hN66_ (by omega) (by omega) (by decide) (by decide)
        have hC1_ := zCp_s (by omega) (show zCp 84 83 Mz N14_ u13_ by assumption) (by assumption) hN66_
        refine zr_iinc (pc := 44) (i := 1) (a := u13_) (n := 1) (L2 := [some (.ref 81), some (.int (Int32.ofInt (u13_ + 1)))]) rfl (by decide) rfl d_M_goesBack_44 ?_
        refine zw_goto (pc := 47) (tgt := 26) (by decide) d_M_goesBack_47 ?_
        exact ih_26 (u13_ + 1) (by omega) (by omega) N66_ hb0_N66_ (show 0 ≤ (u13_ + 1) by first | assumption | omega) (show zCp 84 83 Mz N66_ (u13_ + 1) by exact hC1_) c69_ (by omega)
  exact lp_26 _ 0 (by decide) (by decide) N9_ zFr.rf (show 0 ≤ (0 : Int) by first | assumption | omega) (show zCp 84 83 Mz N9_ (0 : Int) by exact zCp_0) c11_ (Nat.lt_succ_self _)
set_option maxHeartbeats 20000000 in
theorem c_M_makes (l : Launch) (Mz : zMem) (hW : zMt Mz) (T : zGT) (hO : gOK T) (p0_ : zGB T Mz) (p1_ : 0 ≤ ze Mz 81 1) (p2_ : ze Mz 81 1 ≤ 700) (p3_ : 0 ≤ ze Mz 81 14) (p4_ : ze Mz 81 14 ≤ 8) (p5_ : 0 ≤ ze Mz 81 60) (p6_ : ze Mz 81 60 ≤ 12) : zC l m_M_makes 0 0 [.ref 81] Mz (zpI [1, 2, 3, 4, 5, 6, 7, 8, 9, 10, 11, 38, 39, 41, 42, 43, 60] [95, 96, 97, 98, 100, 111] Mz (fun v N => ze N 81 1 = 0 ∧ 0 ≤ ze N 81 60 ∧ ze N 81 60 ≤ 12)) := by
  refine zC_of (L0 := [some (.ref 81), none]) md_M_makes (Nat.le_of_ble_eq_true rfl) rfl ?_ zQ0
  have hf : zFr [1, 2, 3, 4, 5, 6, 7, 8, 9, 10, 11, 38, 39, 41, 42, 43, 60] [95, 96, 97, 98, 100, 111] Mz Mz := zFr.rf
  have r_1 := ze_r Mz 81 1
  have r_2 := ze_r Mz 81 2
  have r_3 := ze_r Mz 81 3
  have r_5 := ze_r Mz 81 5
  have r_7 := ze_r Mz 81 7
  have r_14 := ze_r Mz 81 14
  have r_26 := ze_r Mz 81 26
  have r_39 := ze_r Mz 81 39
  have r_60 := ze_r Mz 81 60
  have hG := hO.1
  have g24 := hG.2.1
  have g1 := hG.1
  have dv0 : zTab T Mz := p0_.1
  have dv1 : zB 85 144 0 5 Mz := p0_.2.1
  have dv2 : zJX T Mz := p0_.2.2.1
  have dv3 : zFirs T Mz := p0_.2.2.2.1
  have dv4 : zSSm T Mz := p0_.2.2.2.2.1
  have dv5 : zGD Mz := zGB.d hO p0_
  have gb := dv5.1
  have gn := dv0.1
  refine zw_aload_n (pc := 0) (n := 0) (x := 81) rfl d_M_makes_0 ?_
  refine zr_callV (hf.w hW) hf.x (pc := 1) [] [] l_M_367 (c_M_begins l Mz (hf.w hW) (show 0 ≤ ze Mz 81 1 by first | assumption | omega) (show ze Mz 81 1 ≤ 700 by first | assumption | omega)) rfl rfl rfl (by decide) (Nat.le_of_ble_eq_true rfl) d_M_makes_1 ?_
  rintro _ N1_ ⟨rfl, hsN1_, ⟨hp0_N1_, hp1_N1_, hp2_N1_, hp3_N1_, hp4_N1_, hp5_N1_, hp6_N1_⟩⟩
  have hf_N1_ : zFr [1, 2, 3, 4, 5, 6, 7, 8, 9, 10, 11, 38, 39, 41, 42, 43, 60] [95, 96, 97, 98, 100, 111] Mz N1_ := hf.tr hsN1_ (by decide) (by decide)
  have r1_N1_ := ze_r N1_ 81 1
  have r2_N1_ := ze_r N1_ 81 2
  have r3_N1_ := ze_r N1_ 81 3
  have r5_N1_ := ze_r N1_ 81 5
  have r7_N1_ := ze_r N1_ 81 7
  have e14_N1_ : ze N1_ 81 14 = ze Mz 81 14 := hsN1_.e (by decide)
  have e26_N1_ : ze N1_ 81 26 = ze Mz 81 26 := hsN1_.e (by decide)
  have e39_N1_ : ze N1_ 81 39 = ze Mz 81 39 := hsN1_.e (by decide)
  have e60_N1_ : ze N1_ 81 60 = ze Mz 81 60 := hsN1_.e (by decide)
  have c3_ : zGB T N1_ := zGB.fr hsN1_ p0_ (by decide) (by decide)
  have c4_ : zTab T N1_ := zTab.fr hsN1_ dv0 (by decide) (by decide)
  have c5_ : zB 85 144 0 5 N1_ := zB.fr hsN1_ dv1 (by decide) (by decide)
  have c6_ : zJX T N1_ := zJX.fr hsN1_ dv2 (by decide) (by decide)
  have c7_ : zFirs T N1_ := zFirs.fr hsN1_ dv3 (by decide) (by decide)
  have c8_ : zSSm T N1_ := zSSm.fr hsN1_ dv4 (by decide) (by decide)
  have c9_ : zGD N1_ := zGD.fr hsN1_ dv5 (by decide) (by decide)
  show zW l m_M_makes (zn Mz + 0, zw Mz + 0) N1_ 4 [some (.ref 81), none] [] (zpI [1, 2, 3, 4, 5, 6, 7, 8, 9, 10, 11, 38, 39, 41, 42, 43, 60] [95, 96, 97, 98, 100, 111] Mz (fun v N => ze N 81 1 = 0 ∧ 0 ≤ ze N 81 60 ∧ ze N 81 60 ≤ 12))
  refine zw_aload_n (pc := 4) (n := 0) (x := 81) rfl d_M_makes_4 ?_
  refine zr_callV (hf_N1_.w hW) hf_N1_.x (pc := 5) [] [] l_M_358 (c_M_formula l N1_ (hf_N1_.w hW) c9_ (show 0 ≤ ze N1_ 81 3 by first | assumption | omega) (show ze N1_ 81 3 ≤ ze N1_ 81 2 by first | assumption | omega) (show ze N1_ 81 2 ≤ 700 by first | assumption | omega) hp2_N1_ (show 0 ≤ ze N1_ 81 7 by first | assumption | omega) (show 0 ≤ ze N1_ 81 14 by first | assumption | omega) (show ze N1_ 81 14 ≤ 8 by first | assumption | omega)) rfl rfl rfl (by decide) (Nat.le_of_ble_eq_true rfl) d_M_makes_5 ?_
  rintro _ N10_ ⟨rfl, hsN10_, ⟨hp0_N10_, hp1_N10_, hp2_N10_, hp3_N10_⟩⟩
  have hf_N10_ : zFr [1, 2, 3, 4, 5, 6, 7, 8, 9, 10, 11, 38, 39, 41, 42, 43, 60] [95, 96, 97, 98, 100, 111] Mz N10_ := hf_N1_.tr hsN10_ (by decide) (by decide)
  have e1_N10_ : ze N10_ 81 1 = ze N1_ 81 1 := hsN10_.e (by decide)
  have e2_N10_ : ze N10_ 81 2 = ze N1_ 81 2 := hsN10_.e (by decide)
  have r3_N10_ := ze_r N10_ 81 3
  have r5_N10_ := ze_r N10_ 81 5
  have r7_N10_ := ze_r N10_ 81 7
  have e14_N10_ : ze N10_ 81 14 = ze N1_ 81 14 := hsN10_.e (by decide)
  have e26_N10_ : ze N10_ 81 26 = ze N1_ 81 26 := hsN10_.e (by decide)
  have r39_N10_ := ze_r N10_ 81 39
  have e60_N10_ : ze N10_ 81 60 = ze N1_ 81 60 := hsN10_.e (by decide)
  have c12_ : zGB T N10_ := zGB.fr hsN10_ c3_ (by decide) (by decide)
  have c13_ : zTab T N10_ := zTab.fr hsN10_ c4_ (by decide) (by decide)
  have c14_ : zB 85 144 0 5 N10_ := zB.fr hsN10_ c5_ (by decide) (by decide)
  have c15_ : zJX T N10_ := zJX.fr hsN10_ c6_ (by decide) (by decide)
  have c16_ : zFirs T N10_ := zFirs.fr hsN10_ c7_ (by decide) (by decide)
  have c17_ : zSSm T N10_ := zSSm.fr hsN10_ c8_ (by decide) (by decide)
  have c18_ : zGD N10_ := zGD.fr hsN10_ c9_ (by decide) (by decide)
  rcases hp3_N10_ with ⟨ha5_0_hp3_N10_, ha5_1_hp3_N10_⟩ | ⟨ha5_0_hp3_N10_, ha5_1_hp3_N10_, ha5_2_hp3_N10_⟩
  · skip
    show zW l m_M_makes (zn Mz + 0, zw Mz + 0) N10_ 8 [some (.ref 81), none] [] (zpI [1, 2, 3, 4, 5, 6, 7, 8, 9, 10, 11, 38, 39, 41, 42, 43, 60] [95, 96, 97, 98, 100, 111] Mz (fun v N => ze N 81 1 = 0 ∧ 0 ≤ ze N 81 60 ∧ ze N 81 60 ≤ 12))
    refine zw_aload_n (pc := 8) (n := 0) (x := 81) rfl d_M_makes_8 ?_
    refine zr_callV (hf_N10_.w hW) hf_N10_.x (pc := 9) [] [] l_M_183 (c_M_isGood l N10_ (hf_N10_.w hW) ) rfl rfl rfl (by decide) (Nat.le_of_ble_eq_true rfl) d_M_makes_9 ?_
    rintro _ N19_ ⟨v20_, rfl, ⟨hv20_a, hv20_b⟩, hsN19_, hp0_N19_⟩
    obtain rfl := hsN19_.eq.symm
    replace hp0_N19_ : ((v20_ = 1 ∧ ze N10_ 81 7 = 0) ∨ (v20_ = 0 ∧ ze N10_ 81 7 ≠ 0)) := hp0_N19_
    rcases hp0_N19_ with ⟨rfl, ha9_0_hp0_N19_⟩ | ⟨rfl, ha9_0_hp0_N19_⟩
    · skip
      exfalso; omega
    · skip
      show zW l m_M_makes (zn Mz + 0, zw Mz + 0) N10_ 12 [some (.ref 81), none] [.int (Int32.ofInt 0)] (zpI [1, 2, 3, 4, 5, 6, 7, 8, 9, 10, 11, 38, 39, 41, 42, 43, 60] [95, 96, 97, 98, 100, 111] Mz (fun v N => ze N 81 1 = 0 ∧ 0 ≤ ze N 81 60 ∧ ze N 81 60 ≤ 12))
      refine zr_if_eq (pc := 12) (tgt := 27) ⟨(by decide), (by decide)⟩ (by decide) d_M_makes_12 (fun hc_12 => ?_) (fun hc_12 => ?_)
      · skip
        refine zw_aload_n (pc := 27) (n := 0) (x := 81) rfl d_M_makes_27 ?_
        refine zr_callV (hf_N10_.w hW) hf_N10_.x (pc := 28) [] [] l_M_183 (c_M_isGood l N10_ (hf_N10_.w hW) ) rfl rfl rfl (by decide) (Nat.le_of_ble_eq_true rfl) d_M_makes_28 ?_
        rintro _ N21_ ⟨v22_, rfl, ⟨hv22_a, hv22_b⟩, hsN21_, hp0_N21_⟩
        obtain rfl := hsN21_.eq.symm
        replace hp0_N21_ : ((v22_ = 1 ∧ ze N10_ 81 7 = 0) ∨ (v22_ = 0 ∧ ze N10_ 81 7 ≠ 0)) := hp0_N21_
        rcases hp0_N21_ with ⟨rfl, ha28_0_hp0_N21_⟩ | ⟨rfl, ha28_0_hp0_N21_⟩
        · skip
          exfalso; omega
        · skip
          show zW l m_M_makes (zn Mz + 0, zw Mz + 0) N10_ 31 [some (.ref 81), none] [.int (Int32.ofInt 0)] (zpI [1, 2, 3, 4, 5, 6, 7, 8, 9, 10, 11, 38, 39, 41, 42, 43, 60] [95, 96, 97, 98, 100, 111] Mz (fun v N => ze N 81 1 = 0 ∧ 0 ≤ ze N 81 60 ∧ ze N 81 60 ≤ 12))
          refine zr_if_eq (pc := 31) (tgt := 48) ⟨(by decide), (by decide)⟩ (by decide) d_M_makes_31 (fun hc_31 => ?_) (fun hc_31 => ?_)
          · skip
            refine zw_aload_n (pc := 48) (n := 0) (x := 81) rfl d_M_makes_48 ?_
            refine zr_callV (hf_N10_.w hW) hf_N10_.x (pc := 49) [] [] l_M_373 (c_M_tells l N10_ (hf_N10_.w hW) ) rfl rfl rfl (by decide) (Nat.le_of_ble_eq_true rfl) d_M_makes_49 ?_
            rintro _ N23_ ⟨rfl, hsN23_, -⟩
            have hf_N23_ : zFr [1, 2, 3, 4, 5, 6, 7, 8, 9, 10, 11, 38, 39, 41, 42, 43, 60] [95, 96, 97, 98, 100, 111] Mz N23_ := hf_N10_.tr hsN23_ (by decide) (by decide)
            have e1_N23_ : ze N23_ 81 1 = ze N10_ 81 1 := hsN23_.e (by decide)
            have e2_N23_ : ze N23_ 81 2 = ze N10_ 81 2 := hsN23_.e (by decide)
            have e3_N23_ : ze N23_ 81 3 = ze N10_ 81 3 := hsN23_.e (by decide)
            have e5_N23_ : ze N23_ 81 5 = ze N10_ 81 5 := hsN23_.e (by decide)
            have e7_N23_ : ze N23_ 81 7 = ze N10_ 81 7 := hsN23_.e (by decide)
            have e14_N23_ : ze N23_ 81 14 = ze N10_ 81 14 := hsN23_.e (by decide)
            have e26_N23_ : ze N23_ 81 26 = ze N10_ 81 26 := hsN23_.e (by decide)
            have e39_N23_ : ze N23_ 81 39 = ze N10_ 81 39 := hsN23_.e (by decide)
            have e60_N23_ : ze N23_ 81 60 = ze N10_ 81 60 := hsN23_.e (by decide)
            have c25_ : zGB T N23_ := zGB.fr hsN23_ c12_ (by decide) (by decide)
            have c26_ : zTab T N23_ := zTab.fr hsN23_ c13_ (by decide) (by decide)
            have c27_ : zB 85 144 0 5 N23_ := zB.fr hsN23_ c14_ (by decide) (by decide)
            have c28_ : zJX T N23_ := zJX.fr hsN23_ c15_ (by decide) (by decide)
            have c29_ : zFirs T N23_ := zFirs.fr hsN23_ c16_ (by decide) (by decide)
            have c30_ : zSSm T N23_ := zSSm.fr hsN23_ c17_ (by decide) (by decide)
            have c31_ : zGD N23_ := zGD.fr hsN23_ c18_ (by decide) (by decide)
            have c32_ : zTv N23_ := zTv.fr hsN23_ hp2_N10_ (by decide) (by decide)
            show zW l m_M_makes (zn Mz + 0, zw Mz + 0) N23_ 52 [some (.ref 81), none] [] (zpI [1, 2, 3, 4, 5, 6, 7, 8, 9, 10, 11, 38, 39, 41, 42, 43, 60] [95, 96, 97, 98, 100, 111] Mz (fun v N => ze N 81 1 = 0 ∧ 0 ≤ ze N 81 60 ∧ ze N 81 60 ≤ 12))
            refine zw_aload_n (pc := 52) (n := 0) (x := 81) rfl d_M_makes_52 ?_
            refine zr_getI (hf_N23_.w hW) (pc := 53) f_M_172 rfl d_M_makes_53 ?_
            refine zr_if_le (pc := 56) (tgt := 61) ⟨(ze_r N23_ 81 7).1, (ze_r N23_ 81 7).2⟩ (by decide) d_M_makes_56 (fun hc_56 => ?_) (fun hc_56 => ?_)
            · skip
              exfalso; omega
            · skip
              refine zw_iconst (pc := 59) (v := Int32.ofInt (-1)) (by decide) d_M_makes_59 ?_
              exact zr_iret (pc := 60) (ty := .int) rfl rfl ⟨by omega, by omega⟩ hf_N23_ ⟨(show ze N23_ 81 1 = 0 by first | assumption | omega), (show 0 ≤ ze N23_ 81 60 by first | assumption | omega), (show ze N23_ 81 60 ≤ 12 by first | assumption | omega)⟩ d_M_makes_60
          · skip
            exact absurd hc_31 (by decide)
      · skip
        exact absurd hc_12 (by decide)
  · skip
    show zW l m_M_makes (zn Mz + 0, zw Mz + 0) N10_ 8 [some (.ref 81), none] [] (zpI [1, 2, 3, 4, 5, 6, 7, 8, 9, 10, 11, 38, 39, 41, 42, 43, 60] [95, 96, 97, 98, 100, 111] Mz (fun v N => ze N 81 1 = 0 ∧ 0 ≤ ze N 81 60 ∧ ze N 81 60 ≤ 12))
    refine zw_aload_n (pc := 8) (n := 0) (x := 81) rfl d_M_makes_8 ?_
    refine zr_callV (hf_N10_.w hW) hf_N10_.x (pc := 9) [] [] l_M_183 (c_M_isGood l N10_ (hf_N10_.w hW) ) rfl rfl rfl (by decide) (Nat.le_of_ble_eq_true rfl) d_M_makes_9 ?_
    rintro _ N33_ ⟨v34_, rfl, ⟨hv34_a, hv34_b⟩, hsN33_, hp0_N33_⟩
    obtain rfl := hsN33_.eq.symm
    replace hp0_N33_ : ((v34_ = 1 ∧ ze N10_ 81 7 = 0) ∨ (v34_ = 0 ∧ ze N10_ 81 7 ≠ 0)) := hp0_N33_
    rcases hp0_N33_ with ⟨rfl, ha9_0_hp0_N33_⟩ | ⟨rfl, ha9_0_hp0_N33_⟩
    · skip
      show zW l m_M_makes (zn Mz + 0, zw Mz + 0) N10_ 12 [some (.ref 81), none] [.int (Int32.ofInt 1)] (zpI [1, 2, 3, 4, 5, 6, 7, 8, 9, 10, 11, 38, 39, 41, 42, 43, 60] [95, 96, 97, 98, 100, 111] Mz (fun v N => ze N 81 1 = 0 ∧ 0 ≤ ze N 81 60 ∧ ze N 81 60 ≤ 12))
      refine zr_if_eq (pc := 12) (tgt := 27) ⟨(by decide), (by decide)⟩ (by decide) d_M_makes_12 (fun hc_12 => ?_) (fun hc_12 => ?_)
      · skip
        exact absurd hc_12 (by decide)
      · skip
        refine zw_aload_n (pc := 15) (n := 0) (x := 81) rfl d_M_makes_15 ?_
        refine zr_getI (hf_N10_.w hW) (pc := 16) f_M_155 rfl d_M_makes_16 ?_
        refine zr_if_eq (pc := 19) (tgt := 27) ⟨(ze_r N10_ 81 5).1, (ze_r N10_ 81 5).2⟩ (by decide) d_M_makes_19 (fun hc_19 => ?_) (fun hc_19 => ?_)
        · skip
          refine zw_aload_n (pc := 27) (n := 0) (x := 81) rfl d_M_makes_27 ?_
          refine zr_callV (hf_N10_.w hW) hf_N10_.x (pc := 28) [] [] l_M_183 (c_M_isGood l N10_ (hf_N10_.w hW) ) rfl rfl rfl (by decide) (Nat.le_of_ble_eq_true rfl) d_M_makes_28 ?_
          rintro _ N35_ ⟨v36_, rfl, ⟨hv36_a, hv36_b⟩, hsN35_, hp0_N35_⟩
          obtain rfl := hsN35_.eq.symm
          replace hp0_N35_ : ((v36_ = 1 ∧ ze N10_ 81 7 = 0) ∨ (v36_ = 0 ∧ ze N10_ 81 7 ≠ 0)) := hp0_N35_
          rcases hp0_N35_ with ⟨rfl, ha28_0_hp0_N35_⟩ | ⟨rfl, ha28_0_hp0_N35_⟩
          · skip
            show zW l m_M_makes (zn Mz + 0, zw Mz + 0) N10_ 31 [some (.ref 81), none] [.int (Int32.ofInt 1)] (zpI [1, 2, 3, 4, 5, 6, 7, 8, 9, 10, 11, 38, 39, 41, 42, 43, 60] [95, 96, 97, 98, 100, 111] Mz (fun v N => ze N 81 1 = 0 ∧ 0 ≤ ze N 81 60 ∧ ze N 81 60 ≤ 12))
            refine zr_if_eq (pc := 31) (tgt := 48) ⟨(by decide), (by decide)⟩ (by decide) d_M_makes_31 (fun hc_31 => ?_) (fun hc_31 => ?_)
            · skip
              exact absurd hc_31 (by decide)
            · skip
              refine zw_aload_n (pc := 34) (n := 0) (x := 81) rfl d_M_makes_34 ?_
              refine zr_getI (hf_N10_.w hW) (pc := 35) f_M_275 rfl d_M_makes_35 ?_
              refine zr_if_eq (pc := 38) (tgt := 48) ⟨(ze_r N10_ 81 39).1, (ze_r N10_ 81 39).2⟩ (by decide) d_M_makes_38 (fun hc_38 => ?_) (fun hc_38 => ?_)
              · skip
                refine zw_aload_n (pc := 48) (n := 0) (x := 81) rfl d_M_makes_48 ?_
                refine zr_callV (hf_N10_.w hW) hf_N10_.x (pc := 49) [] [] l_M_373 (c_M_tells l N10_ (hf_N10_.w hW) ) rfl rfl rfl (by decide) (Nat.le_of_ble_eq_true rfl) d_M_makes_49 ?_
                rintro _ N37_ ⟨rfl, hsN37_, -⟩
                have hf_N37_ : zFr [1, 2, 3, 4, 5, 6, 7, 8, 9, 10, 11, 38, 39, 41, 42, 43, 60] [95, 96, 97, 98, 100, 111] Mz N37_ := hf_N10_.tr hsN37_ (by decide) (by decide)
                have e1_N37_ : ze N37_ 81 1 = ze N10_ 81 1 := hsN37_.e (by decide)
                have e2_N37_ : ze N37_ 81 2 = ze N10_ 81 2 := hsN37_.e (by decide)
                have e3_N37_ : ze N37_ 81 3 = ze N10_ 81 3 := hsN37_.e (by decide)
                have e5_N37_ : ze N37_ 81 5 = ze N10_ 81 5 := hsN37_.e (by decide)
                have e7_N37_ : ze N37_ 81 7 = ze N10_ 81 7 := hsN37_.e (by decide)
                have e14_N37_ : ze N37_ 81 14 = ze N10_ 81 14 := hsN37_.e (by decide)
                have e26_N37_ : ze N37_ 81 26 = ze N10_ 81 26 := hsN37_.e (by decide)
                have e39_N37_ : ze N37_ 81 39 = ze N10_ 81 39 := hsN37_.e (by decide)
                have e60_N37_ : ze N37_ 81 60 = ze N10_ 81 60 := hsN37_.e (by decide)
                have c39_ : zGB T N37_ := zGB.fr hsN37_ c12_ (by decide) (by decide)
                have c40_ : zTab T N37_ := zTab.fr hsN37_ c13_ (by decide) (by decide)
                have c41_ : zB 85 144 0 5 N37_ := zB.fr hsN37_ c14_ (by decide) (by decide)
                have c42_ : zJX T N37_ := zJX.fr hsN37_ c15_ (by decide) (by decide)
                have c43_ : zFirs T N37_ := zFirs.fr hsN37_ c16_ (by decide) (by decide)
                have c44_ : zSSm T N37_ := zSSm.fr hsN37_ c17_ (by decide) (by decide)
                have c45_ : zGD N37_ := zGD.fr hsN37_ c18_ (by decide) (by decide)
                have c46_ : zTv N37_ := zTv.fr hsN37_ hp2_N10_ (by decide) (by decide)
                show zW l m_M_makes (zn Mz + 0, zw Mz + 0) N37_ 52 [some (.ref 81), none] [] (zpI [1, 2, 3, 4, 5, 6, 7, 8, 9, 10, 11, 38, 39, 41, 42, 43, 60] [95, 96, 97, 98, 100, 111] Mz (fun v N => ze N 81 1 = 0 ∧ 0 ≤ ze N 81 60 ∧ ze N 81 60 ≤ 12))
                refine zw_aload_n (pc := 52) (n := 0) (x := 81) rfl d_M_makes_52 ?_
                refine zr_getI (hf_N37_.w hW) (pc := 53) f_M_172 rfl d_M_makes_53 ?_
                refine zr_if_le (pc := 56) (tgt := 61) ⟨(ze_r N37_ 81 7).1, (ze_r N37_ 81 7).2⟩ (by decide) d_M_makes_56 (fun hc_56 => ?_) (fun hc_56 => ?_)
                · skip
                  refine zw_aload_n (pc := 61) (n := 0) (x := 81) rfl d_M_makes_61 ?_
                  refine zr_callV (hf_N37_.w hW) hf_N37_.x (pc := 62) [] [] l_M_481 (c_M_act l N37_ (hf_N37_.w hW) (show 0 ≤ ze N37_ 81 60 by first | assumption | omega) (show ze N37_ 81 60 ≤ 12 by first | assumption | omega)) rfl rfl rfl (by decide) (Nat.le_of_ble_eq_true rfl) d_M_makes_62 ?_
                  rintro _ N47_ ⟨rfl, hsN47_, ⟨hp0_N47_, hp1_N47_⟩⟩
                  have hf_N47_ : zFr [1, 2, 3, 4, 5, 6, 7, 8, 9, 10, 11, 38, 39, 41, 42, 43, 60] [95, 96, 97, 98, 100, 111] Mz N47_ := hf_N37_.tr hsN47_ (by decide) (by decide)
                  have e1_N47_ : ze N47_ 81 1 = ze N37_ 81 1 := hsN47_.e (by decide)
                  have e2_N47_ : ze N47_ 81 2 = ze N37_ 81 2 := hsN47_.e (by decide)
                  have e3_N47_ : ze N47_ 81 3 = ze N37_ 81 3 := hsN47_.e (by decide)
                  have e5_N47_ : ze N47_ 81 5 = ze N37_ 81 5 := hsN47_.e (by decide)
                  have e7_N47_ : ze N47_ 81 7 = ze N37_ 81 7 := hsN47_.e (by decide)
                  have e14_N47_ : ze N47_ 81 14 = ze N37_ 81 14 := hsN47_.e (by decide)
                  have e26_N47_ : ze N47_ 81 26 = ze N37_ 81 26 := hsN47_.e (by decide)
                  have e39_N47_ : ze N47_ 81 39 = ze N37_ 81 39 := hsN47_.e (by decide)
                  have r60_N47_ := ze_r N47_ 81 60
                  have c49_ : zGB T N47_ := zGB.fr hsN47_ c39_ (by decide) (by decide)
                  have c50_ : zTab T N47_ := zTab.fr hsN47_ c40_ (by decide) (by decide)
                  have c51_ : zB 85 144 0 5 N47_ := zB.fr hsN47_ c41_ (by decide) (by decide)
                  have c52_ : zJX T N47_ := zJX.fr hsN47_ c42_ (by decide) (by decide)
                  have c53_ : zFirs T N47_ := zFirs.fr hsN47_ c43_ (by decide) (by decide)
                  have c54_ : zSSm T N47_ := zSSm.fr hsN47_ c44_ (by decide) (by decide)
                  have c55_ : zGD N47_ := zGD.fr hsN47_ c45_ (by decide) (by decide)
                  have c56_ : zTv N47_ := zTv.fr hsN47_ c46_ (by decide) (by decide)
                  show zW l m_M_makes (zn Mz + 0, zw Mz + 0) N47_ 65 [some (.ref 81), none] [] (zpI [1, 2, 3, 4, 5, 6, 7, 8, 9, 10, 11, 38, 39, 41, 42, 43, 60] [95, 96, 97, 98, 100, 111] Mz (fun v N => ze N 81 1 = 0 ∧ 0 ≤ ze N 81 60 ∧ ze N 81 60 ≤ 12))
                  refine zw_iconst (pc := 65) (v := Int32.ofInt 0) (by decide) d_M_makes_65 ?_
                  refine zw_istore_n (pc := 66) (i := 1) (L2 := [some (.ref 81), some (.int (Int32.ofInt 0))]) rfl (by decide) rfl d_M_makes_66 ?_
                  have lp_67 : ∀ (n : Nat) (u57_ : Int) (hu57_a : -2147483648 ≤ u57_) (hu57_b : u57_ < 2147483648) (N58_ : zMem) (hs59_ : zFr [] [98] N47_ N58_) (i60_ : 0 ≤ u57_), (ze Mz 81 26 - u57_).toNat < n → zW l m_M_makes (zn Mz + 0, zw Mz + 0) N58_ 67 [some (.ref 81), some (.int (Int32.ofInt u57_))] [] (zpI [1, 2, 3, 4, 5, 6, 7, 8, 9, 10, 11, 38, 39, 41, 42, 43, 60] [95, 96, 97, 98, 100, 111] Mz (fun v N => ze N 81 1 = 0 ∧ 0 ≤ ze N 81 60 ∧ ze N 81 60 ≤ 12)) := by
                    intro n
                    induction n with
                    | zero =>
                      intro u57_ hu57_a hu57_b N58_ hs59_ i60_ h0
                      exact absurd h0 (Nat.not_lt_zero _)
                    | succ n ih_67 =>
                      intro u57_ hu57_a hu57_b N58_ hs59_ i60_ hlt_67
                      have hf_N58_ : zFr [1, 2, 3, 4, 5, 6, 7, 8, 9, 10, 11, 38, 39, 41, 42, 43, 60] [95, 96, 97, 98, 100, 111] Mz N58_ := hf_N47_.tr hs59_ (by decide) (by decide)
                      have e1_N58_ : ze N58_ 81 1 = ze N47_ 81 1 := hs59_.e (by decide)
                      have e2_N58_ : ze N58_ 81 2 = ze N47_ 81 2 := hs59_.e (by decide)
                      have e3_N58_ : ze N58_ 81 3 = ze N47_ 81 3 := hs59_.e (by decide)
                      have e5_N58_ : ze N58_ 81 5 = ze N47_ 81 5 := hs59_.e (by decide)
                      have e7_N58_ : ze N58_ 81 7 = ze N47_ 81 7 := hs59_.e (by decide)
                      have e14_N58_ : ze N58_ 81 14 = ze N47_ 81 14 := hs59_.e (by decide)
                      have e26_N58_ : ze N58_ 81 26 = ze N47_ 81 26 := hs59_.e (by decide)
                      have e39_N58_ : ze N58_ 81 39 = ze N47_ 81 39 := hs59_.e (by decide)
                      have e60_N58_ : ze N58_ 81 60 = ze N47_ 81 60 := hs59_.e (by decide)
                      have c61_ : zGB T N58_ := zGB.fr hs59_ c49_ (by decide) (by decide)
                      have c62_ : zTab T N58_ := zTab.fr hs59_ c50_ (by decide) (by decide)
                      have c63_ : zB 85 144 0 5 N58_ := zB.fr hs59_ c51_ (by decide) (by decide)
                      have c64_ : zJX T N58_ := zJX.fr hs59_ c52_ (by decide) (by decide)
                      have c65_ : zFirs T N58_ := zFirs.fr hs59_ c53_ (by decide) (by decide)
                      have c66_ : zSSm T N58_ := zSSm.fr hs59_ c54_ (by decide) (by decide)
                      have c67_ : zGD N58_ := zGD.fr hs59_ c55_ (by decide) (by decide)
                      have c68_ : zTv N58_ := zTv.fr hs59_ c56_ (by decide) (by decide)
                      refine zw_iload_n (pc := 67) (n := 1) (x := Int32.ofInt u57_) rfl d_M_makes_67 ?_
                      refine zw_aload_n (pc := 68) (n := 0) (x := 81) rfl d_M_makes_68 ?_
                      refine zr_getI0 hf_N58_ hW (pc := 69) (by decide) f_M_235 rfl d_M_makes_69 ?_
                      refine zr_icmp_ge (pc := 72) (tgt := 93) ⟨hu57_a, hu57_b⟩ ⟨(ze_r Mz 81 26).1, (ze_r Mz 81 26).2⟩ (by decide) d_M_makes_72 (fun hc_72 => ?_) (fun hc_72 => ?_)
                      · skip
                        refine zw_aload_n (pc := 93) (n := 0) (x := 81) rfl d_M_makes_93 ?_
                        refine zr_callV (hf_N58_.w hW) hf_N58_.x (pc := 94) [] [] l_M_484 (c_M_parts l N58_ (hf_N58_.w hW) T hO c61_) rfl rfl rfl (by decide) (Nat.le_of_ble_eq_true rfl) d_M_makes_94 ?_
                        rintro _ N69_ ⟨v70_, rfl, ⟨hv70_a, hv70_b⟩, hsN69_, -⟩
                        obtain rfl := hsN69_.eq.symm
                        show zW l m_M_makes (zn Mz + 0, zw Mz + 0) N58_ 97 [some (.ref 81), some (.int (Int32.ofInt u57_))] [.int (Int32.ofInt v70_)] (zpI [1, 2, 3, 4, 5, 6, 7, 8, 9, 10, 11, 38, 39, 41, 42, 43, 60] [95, 96, 97, 98, 100, 111] Mz (fun v N => ze N 81 1 = 0 ∧ 0 ≤ ze N 81 60 ∧ ze N 81 60 ≤ 12))
                        exact zr_iret (pc := 97) (ty := .int) rfl rfl ⟨by omega, by omega⟩ hf_N58_ ⟨(show ze N58_ 81 1 = 0 by first | assumption | omega), (show 0 ≤ ze N58_ 81 60 by first | assumption | omega), (show ze N58_ 81 60 ≤ 12 by first | assumption | omega)⟩ d_M_makes_97
                      · skip
                        refine zw_aload_n (pc := 75) (n := 0) (x := 81) rfl d_M_makes_75 ?_
                        refine zr_getF (r := 98) (hf_N58_.w hW) (pc := 76) f_M_66 rfl (zh_98 (hf_N58_.w hW)).1 d_M_makes_76 ?_
                        refine zw_iload_n (pc := 79) (n := 1) (x := Int32.ofInt u57_) rfl d_M_makes_79 ?_
                        refine zw_aload_n (pc := 80) (n := 0) (x := 81) rfl d_M_makes_80 ?_
                        refine zr_getF (r := 95) (hf_N58_.w hW) (pc := 81) f_M_56 rfl (zh_95 (hf_N58_.w hW)).1 d_M_makes_81 ?_
                        refine zw_iload_n (pc := 84) (n := 1) (x := Int32.ofInt u57_) rfl d_M_makes_84 ?_
                        refine zr_laldn (pc := 85) (zh_95 (hf_N58_.w hW)).2 (by decide) (by omega) (by omega) d_M_makes_85 (fun v71_ hv71_ hv71_a hv71_b => ?_)
                        refine zr_last (pc := 86) (zh_98 (hf_N58_.w hW)).2 (by decide) (by decide) (by omega) (by omega) d_M_makes_86 (fun N72_ hN72_ hsN72_ => ?_)
                        have hf_N72_ : zFr [1, 2, 3, 4, 5, 6, 7, 8, 9, 10, 11, 38, 39, 41, 42, 43, 60] [95, 96, 97, 98, 100, 111] Mz N72_ := hf_N58_.tr hsN72_ (by decide) (by decide)
                        have hb0_N72_ : zFr [] [98] N47_ N72_ := hs59_.tr hsN72_ (by decide) (by decide)
                        have e1_N72_ : ze N72_ 81 1 = ze N58_ 81 1 := hsN72_.e (by decide)
                        have e2_N72_ : ze N72_ 81 2 = ze N58_ 81 2 := hsN72_.e (by decide)
                        have e3_N72_ : ze N72_ 81 3 = ze N58_ 81 3 := hsN72_.e (by decide)
                        have e5_N72_ : ze N72_ 81 5 = ze N58_ 81 5 := hsN72_.e (by decide)
                        have e7_N72_ : ze N72_ 81 7 = ze N58_ 81 7 := hsN72_.e (by decide)
                        have e14_N72_ : ze N72_ 81 14 = ze N58_ 81 14 := hsN72_.e (by decide)
                        have e26_N72_ : ze N72_ 81 26 = ze N58_ 81 26 := hsN72_.e (by decide)
                        have e39_N72_ : ze N72_ 81 39 = ze N58_ 81 39 := hsN72_.e (by decide)
                        have e60_N72_ : ze N72_ 81 60 = ze N58_ 81 60 := hsN72_.e (by decide)
                        have c73_ : zGB T N72_ := zGB.fr hsN72_ c61_ (by decide) (by decide)
                        have c74_ : zTab T N72_ := zTab.fr hsN72_ c62_ (by decide) (by decide)
                        have c75_ : zB 85 144 0 5 N72_ := zB.fr hsN72_ c63_ (by decide) (by decide)
                        have c76_ : zJX T N72_ := zJX.fr hsN72_ c64_ (by decide) (by decide)
                        have c77_ : zFirs T N72_ := zFirs.fr hsN72_ c65_ (by decide) (by decide)
                        have c78_ : zSSm T N72_ := zSSm.fr hsN72_ c66_ (by decide) (by decide)
                        have c79_ : zGD N72_ := zGD.fr hsN72_ c67_ (by decide) (by decide)
                        have c80_ : zTv N72_ := zTv.fr hsN72_ c68_ (by decide) (by decide)
                        refine zr_iinc (pc := 87) (i := 1) (a := u57_) (n := 1) (L2 := [some (.ref 81), some (.int (Int32.ofInt (u57_ + 1)))]) rfl (by decide) rfl d_M_makes_87 ?_
                        refine zw_goto (pc := 90) (tgt := 67) (by decide) d_M_makes_90 ?_
                        exact ih_67 (u57_ + 1) (by omega) (by omega) N72_ hb0_N72_ (show 0 ≤ (u57_ + 1) by first | assumption | omega) (by omega)
                  exact lp_67 _ 0 (by decide) (by decide) N47_ zFr.rf (show 0 ≤ (0 : Int) by first | assumption | omega) (Nat.lt_succ_self _)
                · skip
                  exfalso; omega
              · skip
                refine zw_aload_n (pc := 41) (n := 0) (x := 81) rfl d_M_makes_41 ?_
                refine zw_bipush (pc := 42) (v := Int32.ofInt 6) (by decide) d_M_makes_42 ?_
                refine zw_iconst (pc := 44) (v := Int32.ofInt 0) (by decide) d_M_makes_44 ?_
                refine zr_callV (hf_N10_.w hW) hf_N10_.x (pc := 45) [.int (Int32.ofInt 6), .int (Int32.ofInt 0)] [] l_M_168 (c_M_wrongAt l N10_ (hf_N10_.w hW) 6 (by decide) (by decide) 0 (by decide) (by decide) (show ze N10_ 81 7 = 0 by first | assumption | omega) (show 1 ≤ 6 by first | assumption | omega)) rfl rfl rfl (by decide) (Nat.le_of_ble_eq_true rfl) d_M_makes_45 ?_
                rintro _ N81_ ⟨rfl, hsN81_, ⟨hp0_N81_, hp1_N81_⟩⟩
                have hf_N81_ : zFr [1, 2, 3, 4, 5, 6, 7, 8, 9, 10, 11, 38, 39, 41, 42, 43, 60] [95, 96, 97, 98, 100, 111] Mz N81_ := hf_N10_.tr hsN81_ (by decide) (by decide)
                have e1_N81_ : ze N81_ 81 1 = ze N10_ 81 1 := hsN81_.e (by decide)
                have e2_N81_ : ze N81_ 81 2 = ze N10_ 81 2 := hsN81_.e (by decide)
                have e3_N81_ : ze N81_ 81 3 = ze N10_ 81 3 := hsN81_.e (by decide)
                have e5_N81_ : ze N81_ 81 5 = ze N10_ 81 5 := hsN81_.e (by decide)
                have r7_N81_ := ze_r N81_ 81 7
                have e14_N81_ : ze N81_ 81 14 = ze N10_ 81 14 := hsN81_.e (by decide)
                have e26_N81_ : ze N81_ 81 26 = ze N10_ 81 26 := hsN81_.e (by decide)
                have e39_N81_ : ze N81_ 81 39 = ze N10_ 81 39 := hsN81_.e (by decide)
                have e60_N81_ : ze N81_ 81 60 = ze N10_ 81 60 := hsN81_.e (by decide)
                have c83_ : zGB T N81_ := zGB.fr hsN81_ c12_ (by decide) (by decide)
                have c84_ : zTab T N81_ := zTab.fr hsN81_ c13_ (by decide) (by decide)
                have c85_ : zB 85 144 0 5 N81_ := zB.fr hsN81_ c14_ (by decide) (by decide)
                have c86_ : zJX T N81_ := zJX.fr hsN81_ c15_ (by decide) (by decide)
                have c87_ : zFirs T N81_ := zFirs.fr hsN81_ c16_ (by decide) (by decide)
                have c88_ : zSSm T N81_ := zSSm.fr hsN81_ c17_ (by decide) (by decide)
                have c89_ : zGD N81_ := zGD.fr hsN81_ c18_ (by decide) (by decide)
                have c90_ : zTv N81_ := zTv.fr hsN81_ hp2_N10_ (by decide) (by decide)
                show zW l m_M_makes (zn Mz + 0, zw Mz + 0) N81_ 48 [some (.ref 81), none] [] (zpI [1, 2, 3, 4, 5, 6, 7, 8, 9, 10, 11, 38, 39, 41, 42, 43, 60] [95, 96, 97, 98, 100, 111] Mz (fun v N => ze N 81 1 = 0 ∧ 0 ≤ ze N 81 60 ∧ ze N 81 60 ≤ 12))
                refine zw_aload_n (pc := 48) (n := 0) (x := 81) rfl d_M_makes_48 ?_
                refine zr_callV (hf_N81_.w hW) hf_N81_.x (pc := 49) [] [] l_M_373 (c_M_tells l N81_ (hf_N81_.w hW) ) rfl rfl rfl (by decide) (Nat.le_of_ble_eq_true rfl) d_M_makes_49 ?_
                rintro _ N91_ ⟨rfl, hsN91_, -⟩
                have hf_N91_ : zFr [1, 2, 3, 4, 5, 6, 7, 8, 9, 10, 11, 38, 39, 41, 42, 43, 60] [95, 96, 97, 98, 100, 111] Mz N91_ := hf_N81_.tr hsN91_ (by decide) (by decide)
                have e1_N91_ : ze N91_ 81 1 = ze N81_ 81 1 := hsN91_.e (by decide)
                have e2_N91_ : ze N91_ 81 2 = ze N81_ 81 2 := hsN91_.e (by decide)
                have e3_N91_ : ze N91_ 81 3 = ze N81_ 81 3 := hsN91_.e (by decide)
                have e5_N91_ : ze N91_ 81 5 = ze N81_ 81 5 := hsN91_.e (by decide)
                have e7_N91_ : ze N91_ 81 7 = ze N81_ 81 7 := hsN91_.e (by decide)
                have e14_N91_ : ze N91_ 81 14 = ze N81_ 81 14 := hsN91_.e (by decide)
                have e26_N91_ : ze N91_ 81 26 = ze N81_ 81 26 := hsN91_.e (by decide)
                have e39_N91_ : ze N91_ 81 39 = ze N81_ 81 39 := hsN91_.e (by decide)
                have e60_N91_ : ze N91_ 81 60 = ze N81_ 81 60 := hsN91_.e (by decide)
                have c93_ : zGB T N91_ := zGB.fr hsN91_ c83_ (by decide) (by decide)
                have c94_ : zTab T N91_ := zTab.fr hsN91_ c84_ (by decide) (by decide)
                have c95_ : zB 85 144 0 5 N91_ := zB.fr hsN91_ c85_ (by decide) (by decide)
                have c96_ : zJX T N91_ := zJX.fr hsN91_ c86_ (by decide) (by decide)
                have c97_ : zFirs T N91_ := zFirs.fr hsN91_ c87_ (by decide) (by decide)
                have c98_ : zSSm T N91_ := zSSm.fr hsN91_ c88_ (by decide) (by decide)
                have c99_ : zGD N91_ := zGD.fr hsN91_ c89_ (by decide) (by decide)
                have c100_ : zTv N91_ := zTv.fr hsN91_ c90_ (by decide) (by decide)
                show zW l m_M_makes (zn Mz + 0, zw Mz + 0) N91_ 52 [some (.ref 81), none] [] (zpI [1, 2, 3, 4, 5, 6, 7, 8, 9, 10, 11, 38, 39, 41, 42, 43, 60] [95, 96, 97, 98, 100, 111] Mz (fun v N => ze N 81 1 = 0 ∧ 0 ≤ ze N 81 60 ∧ ze N 81 60 ≤ 12))
                refine zw_aload_n (pc := 52) (n := 0) (x := 81) rfl d_M_makes_52 ?_
                refine zr_getI (hf_N91_.w hW) (pc := 53) f_M_172 rfl d_M_makes_53 ?_
                refine zr_if_le (pc := 56) (tgt := 61) ⟨(ze_r N91_ 81 7).1, (ze_r N91_ 81 7).2⟩ (by decide) d_M_makes_56 (fun hc_56 => ?_) (fun hc_56 => ?_)
                · skip
                  exfalso; omega
                · skip
                  refine zw_iconst (pc := 59) (v := Int32.ofInt (-1)) (by decide) d_M_makes_59 ?_
                  exact zr_iret (pc := 60) (ty := .int) rfl rfl ⟨by omega, by omega⟩ hf_N91_ ⟨(show ze N91_ 81 1 = 0 by first | assumption | omega), (show 0 ≤ ze N91_ 81 60 by first | assumption | omega), (show ze N91_ 81 60 ≤ 12 by first | assumption | omega)⟩ d_M_makes_60
          · skip
            exfalso; omega
        · skip
          refine zw_aload_n (pc := 22) (n := 0) (x := 81) rfl d_M_makes_22 ?_
          refine zw_iconst (pc := 23) (v := Int32.ofInt 2) (by decide) d_M_makes_23 ?_
          refine zr_callV (hf_N10_.w hW) hf_N10_.x (pc := 24) [.int (Int32.ofInt 2)] [] l_M_190 (c_M_wrong l N10_ (hf_N10_.w hW) 2 (by decide) (by decide) (show ze N10_ 81 7 = 0 by first | assumption | omega) (show 1 ≤ 2 by first | assumption | omega)) rfl rfl rfl (by decide) (Nat.le_of_ble_eq_true rfl) d_M_makes_24 ?_
          rintro _ N101_ ⟨rfl, hsN101_, ⟨hp0_N101_, hp1_N101_⟩⟩
          have hf_N101_ : zFr [1, 2, 3, 4, 5, 6, 7, 8, 9, 10, 11, 38, 39, 41, 42, 43, 60] [95, 96, 97, 98, 100, 111] Mz N101_ := hf_N10_.tr hsN101_ (by decide) (by decide)
          have e1_N101_ : ze N101_ 81 1 = ze N10_ 81 1 := hsN101_.e (by decide)
          have e2_N101_ : ze N101_ 81 2 = ze N10_ 81 2 := hsN101_.e (by decide)
          have e3_N101_ : ze N101_ 81 3 = ze N10_ 81 3 := hsN101_.e (by decide)
          have e5_N101_ : ze N101_ 81 5 = ze N10_ 81 5 := hsN101_.e (by decide)
          have r7_N101_ := ze_r N101_ 81 7
          have e14_N101_ : ze N101_ 81 14 = ze N10_ 81 14 := hsN101_.e (by decide)
          have e26_N101_ : ze N101_ 81 26 = ze N10_ 81 26 := hsN101_.e (by decide)
          have e39_N101_ : ze N101_ 81 39 = ze N10_ 81 39 := hsN101_.e (by decide)
          have e60_N101_ : ze N101_ 81 60 = ze N10_ 81 60 := hsN101_.e (by decide)
          have c103_ : zGB T N101_ := zGB.fr hsN101_ c12_ (by decide) (by decide)
          have c104_ : zTab T N101_ := zTab.fr hsN101_ c13_ (by decide) (by decide)
          have c105_ : zB 85 144 0 5 N101_ := zB.fr hsN101_ c14_ (by decide) (by decide)
          have c106_ : zJX T N101_ := zJX.fr hsN101_ c15_ (by decide) (by decide)
          have c107_ : zFirs T N101_ := zFirs.fr hsN101_ c16_ (by decide) (by decide)
          have c108_ : zSSm T N101_ := zSSm.fr hsN101_ c17_ (by decide) (by decide)
          have c109_ : zGD N101_ := zGD.fr hsN101_ c18_ (by decide) (by decide)
          have c110_ : zTv N101_ := zTv.fr hsN101_ hp2_N10_ (by decide) (by decide)
          show zW l m_M_makes (zn Mz + 0, zw Mz + 0) N101_ 27 [some (.ref 81), none] [] (zpI [1, 2, 3, 4, 5, 6, 7, 8, 9, 10, 11, 38, 39, 41, 42, 43, 60] [95, 96, 97, 98, 100, 111] Mz (fun v N => ze N 81 1 = 0 ∧ 0 ≤ ze N 81 60 ∧ ze N 81 60 ≤ 12))
          refine zw_aload_n (pc := 27) (n := 0) (x := 81) rfl d_M_makes_27 ?_
          refine zr_callV (hf_N101_.w hW) hf_N101_.x (pc := 28) [] [] l_M_183 (c_M_isGood l N101_ (hf_N101_.w hW) ) rfl rfl rfl (by decide) (Nat.le_of_ble_eq_true rfl) d_M_makes_28 ?_
          rintro _ N111_ ⟨v112_, rfl, ⟨hv112_a, hv112_b⟩, hsN111_, hp0_N111_⟩
          obtain rfl := hsN111_.eq.symm
          replace hp0_N111_ : ((v112_ = 1 ∧ ze N101_ 81 7 = 0) ∨ (v112_ = 0 ∧ ze N101_ 81 7 ≠ 0)) := hp0_N111_
          rcases hp0_N111_ with ⟨rfl, ha28_0_hp0_N111_⟩ | ⟨rfl, ha28_0_hp0_N111_⟩
          · skip
            exfalso; omega
          · skip
            show zW l m_M_makes (zn Mz + 0, zw Mz + 0) N101_ 31 [some (.ref 81), none] [.int (Int32.ofInt 0)] (zpI [1, 2, 3, 4, 5, 6, 7, 8, 9, 10, 11, 38, 39, 41, 42, 43, 60] [95, 96, 97, 98, 100, 111] Mz (fun v N => ze N 81 1 = 0 ∧ 0 ≤ ze N 81 60 ∧ ze N 81 60 ≤ 12))
            refine zr_if_eq (pc := 31) (tgt := 48) ⟨(by decide), (by decide)⟩ (by decide) d_M_makes_31 (fun hc_31 => ?_) (fun hc_31 => ?_)
            · skip
              refine zw_aload_n (pc := 48) (n := 0) (x := 81) rfl d_M_makes_48 ?_
              refine zr_callV (hf_N101_.w hW) hf_N101_.x (pc := 49) [] [] l_M_373 (c_M_tells l N101_ (hf_N101_.w hW) ) rfl rfl rfl (by decide) (Nat.le_of_ble_eq_true rfl) d_M_makes_49 ?_
              rintro _ N113_ ⟨rfl, hsN113_, -⟩
              have hf_N113_ : zFr [1, 2, 3, 4, 5, 6, 7, 8, 9, 10, 11, 38, 39, 41, 42, 43, 60] [95, 96, 97, 98, 100, 111] Mz N113_ := hf_N101_.tr hsN113_ (by decide) (by decide)
              have e1_N113_ : ze N113_ 81 1 = ze N101_ 81 1 := hsN113_.e (by decide)
              have e2_N113_ : ze N113_ 81 2 = ze N101_ 81 2 := hsN113_.e (by decide)
              have e3_N113_ : ze N113_ 81 3 = ze N101_ 81 3 := hsN113_.e (by decide)
              have e5_N113_ : ze N113_ 81 5 = ze N101_ 81 5 := hsN113_.e (by decide)
              have e7_N113_ : ze N113_ 81 7 = ze N101_ 81 7 := hsN113_.e (by decide)
              have e14_N113_ : ze N113_ 81 14 = ze N101_ 81 14 := hsN113_.e (by decide)
              have e26_N113_ : ze N113_ 81 26 = ze N101_ 81 26 := hsN113_.e (by decide)
              have e39_N113_ : ze N113_ 81 39 = ze N101_ 81 39 := hsN113_.e (by decide)
              have e60_N113_ : ze N113_ 81 60 = ze N101_ 81 60 := hsN113_.e (by decide)
              have c115_ : zGB T N113_ := zGB.fr hsN113_ c103_ (by decide) (by decide)
              have c116_ : zTab T N113_ := zTab.fr hsN113_ c104_ (by decide) (by decide)
              have c117_ : zB 85 144 0 5 N113_ := zB.fr hsN113_ c105_ (by decide) (by decide)
              have c118_ : zJX T N113_ := zJX.fr hsN113_ c106_ (by decide) (by decide)
              have c119_ : zFirs T N113_ := zFirs.fr hsN113_ c107_ (by decide) (by decide)
              have c120_ : zSSm T N113_ := zSSm.fr hsN113_ c108_ (by decide) (by decide)
              have c121_ : zGD N113_ := zGD.fr hsN113_ c109_ (by decide) (by decide)
              have c122_ : zTv N113_ := zTv.fr hsN113_ c110_ (by decide) (by decide)
              show zW l m_M_makes (zn Mz + 0, zw Mz + 0) N113_ 52 [some (.ref 81), none] [] (zpI [1, 2, 3, 4, 5, 6, 7, 8, 9, 10, 11, 38, 39, 41, 42, 43, 60] [95, 96, 97, 98, 100, 111] Mz (fun v N => ze N 81 1 = 0 ∧ 0 ≤ ze N 81 60 ∧ ze N 81 60 ≤ 12))
              refine zw_aload_n (pc := 52) (n := 0) (x := 81) rfl d_M_makes_52 ?_
              refine zr_getI (hf_N113_.w hW) (pc := 53) f_M_172 rfl d_M_makes_53 ?_
              refine zr_if_le (pc := 56) (tgt := 61) ⟨(ze_r N113_ 81 7).1, (ze_r N113_ 81 7).2⟩ (by decide) d_M_makes_56 (fun hc_56 => ?_) (fun hc_56 => ?_)
              · skip
                exfalso; omega
              · skip
                refine zw_iconst (pc := 59) (v := Int32.ofInt (-1)) (by decide) d_M_makes_59 ?_
                exact zr_iret (pc := 60) (ty := .int) rfl rfl ⟨by omega, by omega⟩ hf_N113_ ⟨(show ze N113_ 81 1 = 0 by first | assumption | omega), (show 0 ≤ ze N113_ 81 60 by first | assumption | omega), (show ze N113_ 81 60 ≤ 12 by first | assumption | omega)⟩ d_M_makes_60
            · skip
              exact absurd hc_31 (by decide)
    · skip
      exfalso; omega
