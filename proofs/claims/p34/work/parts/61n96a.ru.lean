set_option maxHeartbeats 40000000 in
theorem c_M_inForceU (l : Launch) (Mz : zMem) (hW : zMt Mz) (mv_ : List Nat) (b_ : Nat → Int) (n_ : Nat) (F_ : Nat) (K_ : Nat → Nat → Int) (hF64_ : F_ ≤ 64) (nm_ : List (Int × (Nat → Int))) (p0_ : 1 ≤ ze Mz 81 12) (p1_ : ze Mz 81 12 ≤ 6) (p2_ : 0 ≤ ze Mz 81 13) (p3_ : ze Mz 81 13 ≤ 4) (p4_ : zPm Mz) (p5_ : zFin Mz) (p6_ : zB 83 24 0 5 Mz) (p7_ : 0 ≤ ze Mz 81 14) (p8_ : ze Mz 81 14 ≤ 8) (p9_ : zMvt mv_ Mz) (p10_ : zRNm nm_ F_ K_ b_ n_ Mz) : zC l m_M_inForce 0 0 [.ref 81] Mz (zpV [16, 17, 18, 58, 60] [84, 98, 103, 104] Mz (fun N => zIF N ∧ ze N 81 60 = 0 ∧ 0 ≤ ze N 81 18 ∧ ze N 81 18 ≤ 8 ∧ zMvq mv_ N ∧ ze N 81 16 = ze Mz 81 12 ∧ zRNi nm_ F_ K_ N ∧ zZrJ 98 64 N ∧ ze N 81 58 = 0)) := by
  refine zC_of (L0 := [some (.ref 81), none]) md_M_inForce (Nat.le_of_ble_eq_true rfl) rfl ?_ zQ0
  have hf : zFr [16, 17, 18, 58, 60] [84, 98, 103, 104] Mz Mz := zFr.rf
  have r_12 := ze_r Mz 81 12
  have r_13 := ze_r Mz 81 13
  have r_14 := ze_r Mz 81 14
  have r_16 := ze_r Mz 81 16
  have r_17 := ze_r Mz 81 17
  have r_18 := ze_r Mz 81 18
  have r_58 := ze_r Mz 81 58
  have r_60 := ze_r Mz 81 60
  refine zw_aload_n (pc := 0) (n := 0) (x := 81) rfl (zdal_p dlC_M_inForce_48 (i := 0) rfl) ?_
  refine zw_aload_n (pc := 1) (n := 0) (x := 81) rfl (zdal_p dlC_M_inForce_48 (i := 1) rfl) ?_
  refine zr_getI0 hf hW (pc := 2) (by decide) f_M_115 rfl (zdal_p dlC_M_inForce_48 (i := 2) rfl) ?_
  refine zr_putI (hf.w hW) (pc := 5) f_M_382 rfl rfl ⟨by omega, by omega⟩ rfl rfl (zdal_p dlC_M_inForce_48 (i := 3) rfl) (fun N1_ hsN1_ hvN1_ => ?_)
  have hf_N1_ : zFr [16, 17, 18, 58, 60] [84, 98, 103, 104] Mz N1_ := hf.tr hsN1_ (by decide) (by decide)
  have e12_N1_ : ze N1_ 81 12 = ze Mz 81 12 := hsN1_.e (by decide)
  have e13_N1_ : ze N1_ 81 13 = ze Mz 81 13 := hsN1_.e (by decide)
  have e14_N1_ : ze N1_ 81 14 = ze Mz 81 14 := hsN1_.e (by decide)
  have r16_N1_ := ze_r N1_ 81 16
  have e17_N1_ : ze N1_ 81 17 = ze Mz 81 17 := hsN1_.e (by decide)
  have e18_N1_ : ze N1_ 81 18 = ze Mz 81 18 := hsN1_.e (by decide)
  have e58_N1_ : ze N1_ 81 58 = ze Mz 81 58 := hsN1_.e (by decide)
  have e60_N1_ : ze N1_ 81 60 = ze Mz 81 60 := hsN1_.e (by decide)
  have c2_ : zPm N1_ := zPm.fr hsN1_ p4_ (by decide) (by decide)
  have c3_ : zFin N1_ := zFin.fr hsN1_ p5_ (by decide) (by decide)
  have c4_ : zB 83 24 0 5 N1_ := zB.fr hsN1_ p6_ (by decide) (by decide)
  have c5_ : zMvt mv_ N1_ := zMvt.fr hsN1_ p9_ (by decide) (by decide)
  have c6_ : zRNm nm_ F_ K_ b_ n_ N1_ := zRNm.fr hsN1_ p10_ (by decide) (by decide)
  refine zw_aload_n (pc := 8) (n := 0) (x := 81) rfl (zdal_p dlC_M_inForce_48 (i := 4) rfl) ?_
  refine zw_aload_n (pc := 9) (n := 0) (x := 81) rfl (zdal_p dlC_M_inForce_48 (i := 5) rfl) ?_
  refine zr_getI0 hf_N1_ hW (pc := 10) (by decide) f_M_199 rfl (zdal_p dlC_M_inForce_48 (i := 6) rfl) ?_
  refine zr_putI (hf_N1_.w hW) (pc := 13) f_M_385 rfl rfl ⟨by omega, by omega⟩ rfl rfl (zdal_p dlC_M_inForce_48 (i := 7) rfl) (fun N7_ hsN7_ hvN7_ => ?_)
  have hf_N7_ : zFr [16, 17, 18, 58, 60] [84, 98, 103, 104] Mz N7_ := hf_N1_.tr hsN7_ (by decide) (by decide)
  have e12_N7_ : ze N7_ 81 12 = ze N1_ 81 12 := hsN7_.e (by decide)
  have e13_N7_ : ze N7_ 81 13 = ze N1_ 81 13 := hsN7_.e (by decide)
  have e14_N7_ : ze N7_ 81 14 = ze N1_ 81 14 := hsN7_.e (by decide)
  have e16_N7_ : ze N7_ 81 16 = ze N1_ 81 16 := hsN7_.e (by decide)
  have r17_N7_ := ze_r N7_ 81 17
  have e18_N7_ : ze N7_ 81 18 = ze N1_ 81 18 := hsN7_.e (by decide)
  have e58_N7_ : ze N7_ 81 58 = ze N1_ 81 58 := hsN7_.e (by decide)
  have e60_N7_ : ze N7_ 81 60 = ze N1_ 81 60 := hsN7_.e (by decide)
  have c8_ : zPm N7_ := zPm.fr hsN7_ c2_ (by decide) (by decide)
  have c9_ : zFin N7_ := zFin.fr hsN7_ c3_ (by decide) (by decide)
  have c10_ : zB 83 24 0 5 N7_ := zB.fr hsN7_ c4_ (by decide) (by decide)
  have c11_ : zMvt mv_ N7_ := zMvt.fr hsN7_ c5_ (by decide) (by decide)
  have c12_ : zRNm nm_ F_ K_ b_ n_ N7_ := zRNm.fr hsN7_ c6_ (by decide) (by decide)
  refine zw_aload_n (pc := 16) (n := 0) (x := 81) rfl (zdal_p dlC_M_inForce_48 (i := 8) rfl) ?_
  refine zw_aload_n (pc := 17) (n := 0) (x := 81) rfl (zdal_p dlC_M_inForce_48 (i := 9) rfl) ?_
  refine zr_getI0 hf_N7_ hW (pc := 18) (by decide) f_M_299 rfl (zdal_p dlC_M_inForce_48 (i := 10) rfl) ?_
  refine zr_putI (hf_N7_.w hW) (pc := 21) f_M_388 rfl rfl ⟨by omega, by omega⟩ rfl rfl (zdal_p dlC_M_inForce_48 (i := 11) rfl) (fun N13_ hsN13_ hvN13_ => ?_)
  have hf_N13_ : zFr [16, 17, 18, 58, 60] [84, 98, 103, 104] Mz N13_ := hf_N7_.tr hsN13_ (by decide) (by decide)
  have e12_N13_ : ze N13_ 81 12 = ze N7_ 81 12 := hsN13_.e (by decide)
  have e13_N13_ : ze N13_ 81 13 = ze N7_ 81 13 := hsN13_.e (by decide)
  have e14_N13_ : ze N13_ 81 14 = ze N7_ 81 14 := hsN13_.e (by decide)
  have e16_N13_ : ze N13_ 81 16 = ze N7_ 81 16 := hsN13_.e (by decide)
  have e17_N13_ : ze N13_ 81 17 = ze N7_ 81 17 := hsN13_.e (by decide)
  have r18_N13_ := ze_r N13_ 81 18
  have e58_N13_ : ze N13_ 81 58 = ze N7_ 81 58 := hsN13_.e (by decide)
  have e60_N13_ : ze N13_ 81 60 = ze N7_ 81 60 := hsN13_.e (by decide)
  have c14_ : zPm N13_ := zPm.fr hsN13_ c8_ (by decide) (by decide)
  have c15_ : zFin N13_ := zFin.fr hsN13_ c9_ (by decide) (by decide)
  have c16_ : zB 83 24 0 5 N13_ := zB.fr hsN13_ c10_ (by decide) (by decide)
  have c17_ : zMvt mv_ N13_ := zMvt.fr hsN13_ c11_ (by decide) (by decide)
  have c18_ : zRNm nm_ F_ K_ b_ n_ N13_ := zRNm.fr hsN13_ c12_ (by decide) (by decide)
  refine zw_iconst (pc := 24) (v := Int32.ofInt 0) (by decide) (zdal_p dlC_M_inForce_48 (i := 12) rfl) ?_
  refine zw_istore_n (pc := 25) (i := 1) (L2 := [some (.ref 81), some (.int (Int32.ofInt 0))]) rfl (by decide) rfl (zdal_p dlC_M_inForce_48 (i := 13) rfl) ?_
  have lp_26 : ∀ (n : Nat) (u19_ : Int) (hu19_a : -2147483648 ≤ u19_) (hu19_b : u19_ < 2147483648) (N20_ : zMem) (hs21_ : zFr [] [84] N13_ N20_) (i22_ : 0 ≤ u19_) (i23_ : zCp 83 84 Mz N20_ u19_), (24 - u19_).toNat < n → zW l m_M_inForce (zn Mz + 0, zw Mz + 0) N20_ 26 [some (.ref 81), some (.int (Int32.ofInt u19_))] [] (zpV [16, 17, 18, 58, 60] [84, 98, 103, 104] Mz (fun N => zIF N ∧ ze N 81 60 = 0 ∧ 0 ≤ ze N 81 18 ∧ ze N 81 18 ≤ 8 ∧ zMvq mv_ N ∧ ze N 81 16 = ze Mz 81 12 ∧ zRNi nm_ F_ K_ N ∧ zZrJ 98 64 N ∧ ze N 81 58 = 0)) := by
    intro n
    induction n with
    | zero =>
      intro u19_ hu19_a hu19_b N20_ hs21_ i22_ i23_ h0
      exact absurd h0 (Nat.not_lt_zero _)
    | succ n ih_26 =>
      intro u19_ hu19_a hu19_b N20_ hs21_ i22_ i23_ hlt_26
      have hf_N20_ : zFr [16, 17, 18, 58, 60] [84, 98, 103, 104] Mz N20_ := hf_N13_.tr hs21_ (by decide) (by decide)
      have e12_N20_ : ze N20_ 81 12 = ze N13_ 81 12 := hs21_.e (by decide)
      have e13_N20_ : ze N20_ 81 13 = ze N13_ 81 13 := hs21_.e (by decide)
      have e14_N20_ : ze N20_ 81 14 = ze N13_ 81 14 := hs21_.e (by decide)
      have e16_N20_ : ze N20_ 81 16 = ze N13_ 81 16 := hs21_.e (by decide)
      have e17_N20_ : ze N20_ 81 17 = ze N13_ 81 17 := hs21_.e (by decide)
      have e18_N20_ : ze N20_ 81 18 = ze N13_ 81 18 := hs21_.e (by decide)
      have e58_N20_ : ze N20_ 81 58 = ze N13_ 81 58 := hs21_.e (by decide)
      have e60_N20_ : ze N20_ 81 60 = ze N13_ 81 60 := hs21_.e (by decide)
      have c24_ : zPm N20_ := zPm.fr hs21_ c14_ (by decide) (by decide)
      have c25_ : zFin N20_ := zFin.fr hs21_ c15_ (by decide) (by decide)
      have c26_ : zB 83 24 0 5 N20_ := zB.fr hs21_ c16_ (by decide) (by decide)
      have c27_ : zMvt mv_ N20_ := zMvt.fr hs21_ c17_ (by decide) (by decide)
      have c28_ : zRNm nm_ F_ K_ b_ n_ N20_ := zRNm.fr hs21_ c18_ (by decide) (by decide)
      refine zw_iload_n (pc := 26) (n := 1) (x := Int32.ofInt u19_) rfl (zdal_p dlC_M_inForce_48 (i := 14) rfl) ?_
      refine zw_bipush (pc := 27) (v := Int32.ofInt 24) (by decide) (zdal_p dlC_M_inForce_48 (i := 15) rfl) ?_
      refine zr_icmp_ge (pc := 29) (tgt := 50) ⟨hu19_a, hu19_b⟩ ⟨(by decide), (by decide)⟩ (by decide) (zdal_p dlC_M_inForce_48 (i := 16) rfl) (fun hc_29 => ?_) (fun hc_29 => ?_)
      · skip
        have hI_ : zIF N20_ := zIF_i (by omega) (show zCp 83 84 Mz N20_ u19_ by first | with_reducible assumption | assumption) (fun j => hf_N20_.ie (by decide) (by decide) j) (by omega) (by omega) (by omega) (by omega) (by omega) (by omega) c24_ c25_ c26_
        have hMq_ : zMvq mv_ N20_ := (zMvF_i (by omega) (show zCp 83 84 Mz N20_ u19_ by first | with_reducible assumption | assumption) (fun j => hf_N20_.ie (by decide) (by decide) j) (by omega) (by omega) (by omega) (by omega) (by omega)).trans c27_
        refine zw_iconst (pc := 50) (v := Int32.ofInt 0) (by decide) (zdal_p dlC_M_inForce_49 (i := 3) rfl) ?_
        refine zw_istore_n (pc := 51) (i := 1) (L2 := [some (.ref 81), some (.int (Int32.ofInt 0))]) rfl (by decide) rfl (zdal_p dlC_M_inForce_49 (i := 4) rfl) ?_
        have lp_52 : ∀ (n : Nat) (u29_ : Int) (hu29_a : -2147483648 ≤ u29_) (hu29_b : u29_ < 2147483648) (N30_ : zMem) (hs31_ : zFr [] [103] N20_ N30_) (i32_ : 0 ≤ u29_) (i33_ : zCpJ 101 103 Mz u29_ N30_), (8 - u29_).toNat < n → zW l m_M_inForce (zn Mz + 0, zw Mz + 0) N30_ 52 [some (.ref 81), some (.int (Int32.ofInt u29_))] [] (zpV [16, 17, 18, 58, 60] [84, 98, 103, 104] Mz (fun N => zIF N ∧ ze N 81 60 = 0 ∧ 0 ≤ ze N 81 18 ∧ ze N 81 18 ≤ 8 ∧ zMvq mv_ N ∧ ze N 81 16 = ze Mz 81 12 ∧ zRNi nm_ F_ K_ N ∧ zZrJ 98 64 N ∧ ze N 81 58 = 0)) := by
          intro n
          induction n with
          | zero =>
            intro u29_ hu29_a hu29_b N30_ hs31_ i32_ i33_ h0
            exact absurd h0 (Nat.not_lt_zero _)
          | succ n ih_52 =>
            intro u29_ hu29_a hu29_b N30_ hs31_ i32_ i33_ hlt_52
            have hf_N30_ : zFr [16, 17, 18, 58, 60] [84, 98, 103, 104] Mz N30_ := hf_N20_.tr hs31_ (by decide) (by decide)
            have e12_N30_ : ze N30_ 81 12 = ze N20_ 81 12 := hs31_.e (by decide)
            have e13_N30_ : ze N30_ 81 13 = ze N20_ 81 13 := hs31_.e (by decide)
            have e14_N30_ : ze N30_ 81 14 = ze N20_ 81 14 := hs31_.e (by decide)
            have e16_N30_ : ze N30_ 81 16 = ze N20_ 81 16 := hs31_.e (by decide)
            have e17_N30_ : ze N30_ 81 17 = ze N20_ 81 17 := hs31_.e (by decide)
            have e18_N30_ : ze N30_ 81 18 = ze N20_ 81 18 := hs31_.e (by decide)
            have e58_N30_ : ze N30_ 81 58 = ze N20_ 81 58 := hs31_.e (by decide)
            have e60_N30_ : ze N30_ 81 60 = ze N20_ 81 60 := hs31_.e (by decide)
            have c34_ : zPm N30_ := zPm.fr hs31_ c24_ (by decide) (by decide)
            have c35_ : zFin N30_ := zFin.fr hs31_ c25_ (by decide) (by decide)
            have c36_ : zB 83 24 0 5 N30_ := zB.fr hs31_ c26_ (by decide) (by decide)
            have c37_ : zMvt mv_ N30_ := zMvt.fr hs31_ c27_ (by decide) (by decide)
            have c38_ : zRNm nm_ F_ K_ b_ n_ N30_ := zRNm.fr hs31_ c28_ (by decide) (by decide)
            have c39_ : zIF N30_ := zIF.fr hs31_ hI_ (by decide) (by decide)
            have c40_ : zMvq mv_ N30_ := zMvq.fr hs31_ hMq_ (by decide) (by decide)
            refine zw_iload_n (pc := 52) (n := 1) (x := Int32.ofInt u29_) rfl (zdal_p dlC_M_inForce_49 (i := 5) rfl) ?_
            refine zw_bipush (pc := 53) (v := Int32.ofInt 8) (by decide) (zdal_p dlC_M_inForce_49 (i := 6) rfl) ?_
            refine zr_icmp_ge (pc := 55) (tgt := 76) ⟨hu29_a, hu29_b⟩ ⟨(by decide), (by decide)⟩ (by decide) (zdal_p dlC_M_inForce_49 (i := 7) rfl) (fun hc_55 => ?_) (fun hc_55 => ?_)
            · skip
              have hc1_ := (show zCpJ 101 103 Mz u29_ N30_ by first | with_reducible assumption | assumption).le (n := 8) (by omega)
              refine zw_iconst (pc := 76) (v := Int32.ofInt 0) (by decide) (zdal_p dlC_M_inForce_49 (i := 18) rfl) ?_
              refine zw_istore_n (pc := 77) (i := 1) (L2 := [some (.ref 81), some (.int (Int32.ofInt 0))]) rfl (by decide) rfl (zdal_p dlC_M_inForce_49 (i := 19) rfl) ?_
              have lp_78 : ∀ (n : Nat) (u41_ : Int) (hu41_a : -2147483648 ≤ u41_) (hu41_b : u41_ < 2147483648) (N42_ : zMem) (hs43_ : zFr [] [104] N30_ N42_) (i44_ : 0 ≤ u41_) (i45_ : zCpJ 102 104 Mz u41_ N42_), (512 - u41_).toNat < n → zW l m_M_inForce (zn Mz + 0, zw Mz + 0) N42_ 78 [some (.ref 81), some (.int (Int32.ofInt u41_))] [] (zpV [16, 17, 18, 58, 60] [84, 98, 103, 104] Mz (fun N => zIF N ∧ ze N 81 60 = 0 ∧ 0 ≤ ze N 81 18 ∧ ze N 81 18 ≤ 8 ∧ zMvq mv_ N ∧ ze N 81 16 = ze Mz 81 12 ∧ zRNi nm_ F_ K_ N ∧ zZrJ 98 64 N ∧ ze N 81 58 = 0)) := by
                intro n
                induction n with
                | zero =>
                  intro u41_ hu41_a hu41_b N42_ hs43_ i44_ i45_ h0
                  exact absurd h0 (Nat.not_lt_zero _)
                | succ n ih_78 =>
                  intro u41_ hu41_a hu41_b N42_ hs43_ i44_ i45_ hlt_78
                  have hf_N42_ : zFr [16, 17, 18, 58, 60] [84, 98, 103, 104] Mz N42_ := hf_N30_.tr hs43_ (by decide) (by decide)
                  have e12_N42_ : ze N42_ 81 12 = ze N30_ 81 12 := hs43_.e (by decide)
                  have e13_N42_ : ze N42_ 81 13 = ze N30_ 81 13 := hs43_.e (by decide)
                  have e14_N42_ : ze N42_ 81 14 = ze N30_ 81 14 := hs43_.e (by decide)
                  have e16_N42_ : ze N42_ 81 16 = ze N30_ 81 16 := hs43_.e (by decide)
                  have e17_N42_ : ze N42_ 81 17 = ze N30_ 81 17 := hs43_.e (by decide)
                  have e18_N42_ : ze N42_ 81 18 = ze N30_ 81 18 := hs43_.e (by decide)
                  have e58_N42_ : ze N42_ 81 58 = ze N30_ 81 58 := hs43_.e (by decide)
                  have e60_N42_ : ze N42_ 81 60 = ze N30_ 81 60 := hs43_.e (by decide)
                  have c46_ : zPm N42_ := zPm.fr hs43_ c34_ (by decide) (by decide)
                  have c47_ : zFin N42_ := zFin.fr hs43_ c35_ (by decide) (by decide)
                  have c48_ : zB 83 24 0 5 N42_ := zB.fr hs43_ c36_ (by decide) (by decide)
                  have c49_ : zMvt mv_ N42_ := zMvt.fr hs43_ c37_ (by decide) (by decide)
                  have c50_ : zRNm nm_ F_ K_ b_ n_ N42_ := zRNm.fr hs43_ c38_ (by decide) (by decide)
                  have c51_ : zIF N42_ := zIF.fr hs43_ c39_ (by decide) (by decide)
                  have c52_ : zMvq mv_ N42_ := zMvq.fr hs43_ c40_ (by decide) (by decide)
                  have c53_ : zCpJ 101 103 Mz 8 N42_ := zCpJ.fr hs43_ hc1_ (by decide) (by decide)
                  refine zw_iload_n (pc := 78) (n := 1) (x := Int32.ofInt u41_) rfl (zdal_p dlC_M_inForce_49 (i := 20) rfl) ?_
                  refine zw_sipush (pc := 79) (v := Int32.ofInt 512) (by decide) (zdal_p dlC_M_inForce_49 (i := 21) rfl) ?_
                  refine zr_icmp_ge (pc := 82) (tgt := 103) ⟨hu41_a, hu41_b⟩ ⟨(by decide), (by decide)⟩ (by decide) (zdal_p dlC_M_inForce_49 (i := 22) rfl) (fun hc_82 => ?_) (fun hc_82 => ?_)
                  · skip
                    have hc2_ := (show zCpJ 102 104 Mz u41_ N42_ by first | with_reducible assumption | assumption).le (n := 512) (by omega)
                    refine zw_iconst (pc := 103) (v := Int32.ofInt 0) (by decide) (zdal_p dlC_M_inForce_50 (i := 9) rfl) ?_
                    refine zw_istore_n (pc := 104) (i := 1) (L2 := [some (.ref 81), some (.int (Int32.ofInt 0))]) rfl (by decide) rfl (zdal_p dlC_M_inForce_50 (i := 10) rfl) ?_
                    have lp_105 : ∀ (n : Nat) (u54_ : Int) (hu54_a : -2147483648 ≤ u54_) (hu54_b : u54_ < 2147483648) (N55_ : zMem) (hs56_ : zFr [] [98] N42_ N55_) (i57_ : 0 ≤ u54_) (i58_ : zZrJ 98 u54_ N55_), (64 - u54_).toNat < n → zW l m_M_inForce (zn Mz + 0, zw Mz + 0) N55_ 105 [some (.ref 81), some (.int (Int32.ofInt u54_))] [] (zpV [16, 17, 18, 58, 60] [84, 98, 103, 104] Mz (fun N => zIF N ∧ ze N 81 60 = 0 ∧ 0 ≤ ze N 81 18 ∧ ze N 81 18 ≤ 8 ∧ zMvq mv_ N ∧ ze N 81 16 = ze Mz 81 12 ∧ zRNi nm_ F_ K_ N ∧ zZrJ 98 64 N ∧ ze N 81 58 = 0)) := by
                      intro n
                      induction n with
                      | zero =>
                        intro u54_ hu54_a hu54_b N55_ hs56_ i57_ i58_ h0
                        exact absurd h0 (Nat.not_lt_zero _)
                      | succ n ih_105 =>
                        intro u54_ hu54_a hu54_b N55_ hs56_ i57_ i58_ hlt_105
                        have hf_N55_ : zFr [16, 17, 18, 58, 60] [84, 98, 103, 104] Mz N55_ := hf_N42_.tr hs56_ (by decide) (by decide)
                        have e12_N55_ : ze N55_ 81 12 = ze N42_ 81 12 := hs56_.e (by decide)
                        have e13_N55_ : ze N55_ 81 13 = ze N42_ 81 13 := hs56_.e (by decide)
                        have e14_N55_ : ze N55_ 81 14 = ze N42_ 81 14 := hs56_.e (by decide)
                        have e16_N55_ : ze N55_ 81 16 = ze N42_ 81 16 := hs56_.e (by decide)
                        have e17_N55_ : ze N55_ 81 17 = ze N42_ 81 17 := hs56_.e (by decide)
                        have e18_N55_ : ze N55_ 81 18 = ze N42_ 81 18 := hs56_.e (by decide)
                        have e58_N55_ : ze N55_ 81 58 = ze N42_ 81 58 := hs56_.e (by decide)
                        have e60_N55_ : ze N55_ 81 60 = ze N42_ 81 60 := hs56_.e (by decide)
                        have c59_ : zPm N55_ := zPm.fr hs56_ c46_ (by decide) (by decide)
                        have c60_ : zFin N55_ := zFin.fr hs56_ c47_ (by decide) (by decide)
                        have c61_ : zB 83 24 0 5 N55_ := zB.fr hs56_ c48_ (by decide) (by decide)
                        have c62_ : zMvt mv_ N55_ := zMvt.fr hs56_ c49_ (by decide) (by decide)
                        have c63_ : zRNm nm_ F_ K_ b_ n_ N55_ := zRNm.fr hs56_ c50_ (by decide) (by decide)
                        have c64_ : zIF N55_ := zIF.fr hs56_ c51_ (by decide) (by decide)
                        have c65_ : zMvq mv_ N55_ := zMvq.fr hs56_ c52_ (by decide) (by decide)
                        have c66_ : zCpJ 101 103 Mz 8 N55_ := zCpJ.fr hs56_ c53_ (by decide) (by decide)
                        have c67_ : zCpJ 102 104 Mz 512 N55_ := zCpJ.fr hs56_ hc2_ (by decide) (by decide)
                        refine zw_iload_n (pc := 105) (n := 1) (x := Int32.ofInt u54_) rfl (zdal_p dlC_M_inForce_50 (i := 11) rfl) ?_
                        refine zw_bipush (pc := 106) (v := Int32.ofInt 64) (by decide) (zdal_p dlC_M_inForce_50 (i := 12) rfl) ?_
                        refine zr_icmp_ge (pc := 108) (tgt := 124) ⟨hu54_a, hu54_b⟩ ⟨(by decide), (by decide)⟩ (by decide) (zdal_p dlC_M_inForce_50 (i := 13) rfl) (fun hc_108 => ?_) (fun hc_108 => ?_)
                        · skip
                          have hz_ := (show zZrJ 98 u54_ N55_ by first | with_reducible assumption | assumption).le (n := 64) (by omega)
                          have hni_ : zRNi nm_ F_ K_ N55_ := zRNi_i hF64_ p10_ (by omega) c66_ c67_
                          refine zw_aload_n (pc := 124) (n := 0) (x := 81) rfl (zdal_p dlC_M_inForce_50 (i := 21) rfl) ?_
                          refine zw_iconst (pc := 125) (v := Int32.ofInt 0) (by decide) (zdal_p dlC_M_inForce_50 (i := 22) rfl) ?_
                          refine zr_putI (hf_N55_.w hW) (pc := 126) f_M_391 rfl rfl ⟨by omega, by omega⟩ rfl rfl (zdal_p dlC_M_inForce_50 (i := 23) rfl) (fun N68_ hsN68_ hvN68_ => ?_)
                          have hf_N68_ : zFr [16, 17, 18, 58, 60] [84, 98, 103, 104] Mz N68_ := hf_N55_.tr hsN68_ (by decide) (by decide)
                          have e12_N68_ : ze N68_ 81 12 = ze N55_ 81 12 := hsN68_.e (by decide)
                          have e13_N68_ : ze N68_ 81 13 = ze N55_ 81 13 := hsN68_.e (by decide)
                          have e14_N68_ : ze N68_ 81 14 = ze N55_ 81 14 := hsN68_.e (by decide)
                          have e16_N68_ : ze N68_ 81 16 = ze N55_ 81 16 := hsN68_.e (by decide)
                          have e17_N68_ : ze N68_ 81 17 = ze N55_ 81 17 := hsN68_.e (by decide)
                          have e18_N68_ : ze N68_ 81 18 = ze N55_ 81 18 := hsN68_.e (by decide)
                          have e58_N68_ : ze N68_ 81 58 = ze N55_ 81 58 := hsN68_.e (by decide)
                          have r60_N68_ := ze_r N68_ 81 60
                          have c69_ : zPm N68_ := zPm.fr hsN68_ c59_ (by decide) (by decide)
                          have c70_ : zFin N68_ := zFin.fr hsN68_ c60_ (by decide) (by decide)
                          have c71_ : zB 83 24 0 5 N68_ := zB.fr hsN68_ c61_ (by decide) (by decide)
                          have c72_ : zMvt mv_ N68_ := zMvt.fr hsN68_ c62_ (by decide) (by decide)
                          have c73_ : zRNm nm_ F_ K_ b_ n_ N68_ := zRNm.fr hsN68_ c63_ (by decide) (by decide)
                          have c74_ : zIF N68_ := zIF.fr hsN68_ c64_ (by decide) (by decide)
                          have c75_ : zMvq mv_ N68_ := zMvq.fr hsN68_ c65_ (by decide) (by decide)
                          have c76_ : zCpJ 101 103 Mz 8 N68_ := zCpJ.fr hsN68_ c66_ (by decide) (by decide)
                          have c77_ : zCpJ 102 104 Mz 512 N68_ := zCpJ.fr hsN68_ c67_ (by decide) (by decide)
                          have c78_ : zZrJ 98 64 N68_ := zZrJ.fr hsN68_ hz_ (by decide) (by decide)
                          have c79_ : zRNi nm_ F_ K_ N68_ := zRNi.fr hsN68_ hni_ (by decide) (by decide)
                          refine zw_aload_n (pc := 129) (n := 0) (x := 81) rfl (zdal_p dlC_M_inForce_51 (i := 0) rfl) ?_
                          refine zw_iconst (pc := 130) (v := Int32.ofInt 0) (by decide) (zdal_p dlC_M_inForce_51 (i := 1) rfl) ?_
                          refine zr_putI (hf_N68_.w hW) (pc := 131) f_M_394 rfl rfl ⟨by omega, by omega⟩ (z_narB (by omega)) (z_fitB (by omega)) (zdal_p dlC_M_inForce_51 (i := 2) rfl) (fun N80_ hsN80_ hvN80_ => ?_)
                          have hf_N80_ : zFr [16, 17, 18, 58, 60] [84, 98, 103, 104] Mz N80_ := hf_N68_.tr hsN80_ (by decide) (by decide)
                          have e12_N80_ : ze N80_ 81 12 = ze N68_ 81 12 := hsN80_.e (by decide)
                          have e13_N80_ : ze N80_ 81 13 = ze N68_ 81 13 := hsN80_.e (by decide)
                          have e14_N80_ : ze N80_ 81 14 = ze N68_ 81 14 := hsN80_.e (by decide)
                          have e16_N80_ : ze N80_ 81 16 = ze N68_ 81 16 := hsN80_.e (by decide)
                          have e17_N80_ : ze N80_ 81 17 = ze N68_ 81 17 := hsN80_.e (by decide)
                          have e18_N80_ : ze N80_ 81 18 = ze N68_ 81 18 := hsN80_.e (by decide)
                          have r58_N80_ := ze_r N80_ 81 58
                          have e60_N80_ : ze N80_ 81 60 = ze N68_ 81 60 := hsN80_.e (by decide)
                          have c81_ : zPm N80_ := zPm.fr hsN80_ c69_ (by decide) (by decide)
                          have c82_ : zFin N80_ := zFin.fr hsN80_ c70_ (by decide) (by decide)
                          have c83_ : zB 83 24 0 5 N80_ := zB.fr hsN80_ c71_ (by decide) (by decide)
                          have c84_ : zMvt mv_ N80_ := zMvt.fr hsN80_ c72_ (by decide) (by decide)
                          have c85_ : zRNm nm_ F_ K_ b_ n_ N80_ := zRNm.fr hsN80_ c73_ (by decide) (by decide)
                          have c86_ : zIF N80_ := zIF.fr hsN80_ c74_ (by decide) (by decide)
                          have c87_ : zMvq mv_ N80_ := zMvq.fr hsN80_ c75_ (by decide) (by decide)
                          have c88_ : zCpJ 101 103 Mz 8 N80_ := zCpJ.fr hsN80_ c76_ (by decide) (by decide)
                          have c89_ : zCpJ 102 104 Mz 512 N80_ := zCpJ.fr hsN80_ c77_ (by decide) (by decide)
                          have c90_ : zZrJ 98 64 N80_ := zZrJ.fr hsN80_ c78_ (by decide) (by decide)
                          have c91_ : zRNi nm_ F_ K_ N80_ := zRNi.fr hsN80_ c79_ (by decide) (by decide)
                          exact zr_vret (pc := 134) rfl hf_N80_ ⟨c86_, (show ze N80_ 81 60 = 0 by first | with_reducible assumption | assumption | omega), (show 0 ≤ ze N80_ 81 18 by first | with_reducible assumption | assumption | omega), (show ze N80_ 81 18 ≤ 8 by first | with_reducible assumption | assumption | omega), c87_, (show ze N80_ 81 16 = ze Mz 81 12 by first | with_reducible assumption | assumption | omega), c91_, c90_, (show ze N80_ 81 58 = 0 by first | with_reducible assumption | assumption | omega)⟩ (zdal_p dlC_M_inForce_51 (i := 3) rfl)
                        · skip
                          refine zw_aload_n (pc := 111) (n := 0) (x := 81) rfl (zdal_p dlC_M_inForce_50 (i := 14) rfl) ?_
                          refine zr_getF (r := 98) (hf_N55_.w hW) (pc := 112) f_M_66 rfl (zh_98 (hf_N55_.w hW)).1 (zdal_p dlC_M_inForce_50 (i := 15) rfl) ?_
                          refine zw_iload_n (pc := 115) (n := 1) (x := Int32.ofInt u54_) rfl (zdal_p dlC_M_inForce_50 (i := 16) rfl) ?_
                          refine zw_lconst (pc := 116) (v := Int64.ofInt 0) (by decide) (zdal_p dlC_M_inForce_50 (i := 17) rfl) ?_
                          refine zr_last (pc := 117) (zh_98 (hf_N55_.w hW)).2 (by decide) (by decide) (by omega) (by omega) (zdal_p dlC_M_inForce_50 (i := 18) rfl) (fun N92_ hN92_ hsN92_ => ?_)
                          have hf_N92_ : zFr [16, 17, 18, 58, 60] [84, 98, 103, 104] Mz N92_ := hf_N55_.tr hsN92_ (by decide) (by decide)
                          have hb0_N92_ : zFr [] [98] N42_ N92_ := hs56_.tr hsN92_ (by decide) (by decide)
                          have e12_N92_ : ze N92_ 81 12 = ze N55_ 81 12 := hsN92_.e (by decide)
                          have e13_N92_ : ze N92_ 81 13 = ze N55_ 81 13 := hsN92_.e (by decide)
                          have e14_N92_ : ze N92_ 81 14 = ze N55_ 81 14 := hsN92_.e (by decide)
                          have e16_N92_ : ze N92_ 81 16 = ze N55_ 81 16 := hsN92_.e (by decide)
                          have e17_N92_ : ze N92_ 81 17 = ze N55_ 81 17 := hsN92_.e (by decide)
                          have e18_N92_ : ze N92_ 81 18 = ze N55_ 81 18 := hsN92_.e (by decide)
                          have e58_N92_ : ze N92_ 81 58 = ze N55_ 81 58 := hsN92_.e (by decide)
                          have e60_N92_ : ze N92_ 81 60 = ze N55_ 81 60 := hsN92_.e (by decide)
                          have c93_ : zPm N92_ := zPm.fr hsN92_ c59_ (by decide) (by decide)
                          have c94_ : zFin N92_ := zFin.fr hsN92_ c60_ (by decide) (by decide)
                          have c95_ : zB 83 24 0 5 N92_ := zB.fr hsN92_ c61_ (by decide) (by decide)
                          have c96_ : zMvt mv_ N92_ := zMvt.fr hsN92_ c62_ (by decide) (by decide)
                          have c97_ : zRNm nm_ F_ K_ b_ n_ N92_ := zRNm.fr hsN92_ c63_ (by decide) (by decide)
                          have c98_ : zIF N92_ := zIF.fr hsN92_ c64_ (by decide) (by decide)
                          have c99_ : zMvq mv_ N92_ := zMvq.fr hsN92_ c65_ (by decide) (by decide)
                          have c100_ : zCpJ 101 103 Mz 8 N92_ := zCpJ.fr hsN92_ c66_ (by decide) (by decide)
                          have c101_ : zCpJ 102 104 Mz 512 N92_ := zCpJ.fr hsN92_ c67_ (by decide) (by decide)
                          have hJ3_ := zZrJ_s (by omega) (show zZrJ 98 u54_ N55_ by first | with_reducible assumption | assumption) hN92_
                          refine zr_iinc (pc := 118) (i := 1) (a := u54_) (n := 1) (L2 := [some (.ref 81), some (.int (Int32.ofInt (u54_ + 1)))]) rfl (by decide) rfl (zdal_p dlC_M_inForce_50 (i := 19) rfl) ?_
                          refine zw_goto (pc := 121) (tgt := 105) (by decide) (zdal_p dlC_M_inForce_50 (i := 20) rfl) ?_
                          exact ih_105 (u54_ + 1) (by omega) (by omega) N92_ hb0_N92_ (show 0 ≤ (u54_ + 1) by first | with_reducible assumption | assumption | omega) (show zZrJ 98 (u54_ + 1) N92_ by exact hJ3_) (by omega)
                    exact lp_105 _ 0 (by decide) (by decide) N42_ zFr.rf (show 0 ≤ (0 : Int) by first | with_reducible assumption | assumption | omega) (show zZrJ 98 (0 : Int) N42_ by exact zZrJ_0) (Nat.lt_succ_self _)
                  · skip
                    refine zw_aload_n (pc := 85) (n := 0) (x := 81) rfl (zdal_p dlC_M_inForce_49 (i := 23) rfl) ?_
                    refine zr_getF (r := 104) (hf_N42_.w hW) (pc := 86) f_M_84 rfl (zh_104 (hf_N42_.w hW)).1 (zdal_p dlC_M_inForce_50 (i := 0) rfl) ?_
                    refine zw_iload_n (pc := 89) (n := 1) (x := Int32.ofInt u41_) rfl (zdal_p dlC_M_inForce_50 (i := 1) rfl) ?_
                    refine zw_aload_n (pc := 90) (n := 0) (x := 81) rfl (zdal_p dlC_M_inForce_50 (i := 2) rfl) ?_
                    refine zr_getF (r := 102) (hf_N42_.w hW) (pc := 91) f_M_78 rfl (zh_102 (hf_N42_.w hW)).1 (zdal_p dlC_M_inForce_50 (i := 3) rfl) ?_
                    refine zw_iload_n (pc := 94) (n := 1) (x := Int32.ofInt u41_) rfl (zdal_p dlC_M_inForce_50 (i := 4) rfl) ?_
                    refine zr_laldn (pc := 95) (zh_102 (hf_N42_.w hW)).2 (by decide) (by omega) (by omega) (zdal_p dlC_M_inForce_50 (i := 5) rfl) (fun v102_ hv102_ hv102_a hv102_b => ?_)
                    rw [hf_N42_.jg (by decide) (by decide)] at hv102_
                    refine zr_last (pc := 96) (zh_104 (hf_N42_.w hW)).2 (by decide) (by decide) (by omega) (by omega) (zdal_p dlC_M_inForce_50 (i := 6) rfl) (fun N103_ hN103_ hsN103_ => ?_)
                    have hf_N103_ : zFr [16, 17, 18, 58, 60] [84, 98, 103, 104] Mz N103_ := hf_N42_.tr hsN103_ (by decide) (by decide)
                    have hb0_N103_ : zFr [] [104] N30_ N103_ := hs43_.tr hsN103_ (by decide) (by decide)
                    have e12_N103_ : ze N103_ 81 12 = ze N42_ 81 12 := hsN103_.e (by decide)
                    have e13_N103_ : ze N103_ 81 13 = ze N42_ 81 13 := hsN103_.e (by decide)
                    have e14_N103_ : ze N103_ 81 14 = ze N42_ 81 14 := hsN103_.e (by decide)
                    have e16_N103_ : ze N103_ 81 16 = ze N42_ 81 16 := hsN103_.e (by decide)
                    have e17_N103_ : ze N103_ 81 17 = ze N42_ 81 17 := hsN103_.e (by decide)
                    have e18_N103_ : ze N103_ 81 18 = ze N42_ 81 18 := hsN103_.e (by decide)
                    have e58_N103_ : ze N103_ 81 58 = ze N42_ 81 58 := hsN103_.e (by decide)
                    have e60_N103_ : ze N103_ 81 60 = ze N42_ 81 60 := hsN103_.e (by decide)
                    have c104_ : zPm N103_ := zPm.fr hsN103_ c46_ (by decide) (by decide)
                    have c105_ : zFin N103_ := zFin.fr hsN103_ c47_ (by decide) (by decide)
                    have c106_ : zB 83 24 0 5 N103_ := zB.fr hsN103_ c48_ (by decide) (by decide)
                    have c107_ : zMvt mv_ N103_ := zMvt.fr hsN103_ c49_ (by decide) (by decide)
                    have c108_ : zRNm nm_ F_ K_ b_ n_ N103_ := zRNm.fr hsN103_ c50_ (by decide) (by decide)
                    have c109_ : zIF N103_ := zIF.fr hsN103_ c51_ (by decide) (by decide)
                    have c110_ : zMvq mv_ N103_ := zMvq.fr hsN103_ c52_ (by decide) (by decide)
                    have c111_ : zCpJ 101 103 Mz 8 N103_ := zCpJ.fr hsN103_ c53_ (by decide) (by decide)
                    have hJ2_ := zCpJ_s (by omega) (show zCpJ 102 104 Mz u41_ N42_ by first | with_reducible assumption | assumption) (by first | with_reducible assumption | assumption) hN103_
                    refine zr_iinc (pc := 97) (i := 1) (a := u41_) (n := 1) (L2 := [some (.ref 81), some (.int (Int32.ofInt (u41_ + 1)))]) rfl (by decide) rfl (zdal_p dlC_M_inForce_50 (i := 7) rfl) ?_
                    refine zw_goto (pc := 100) (tgt := 78) (by decide) (zdal_p dlC_M_inForce_50 (i := 8) rfl) ?_
                    exact ih_78 (u41_ + 1) (by omega) (by omega) N103_ hb0_N103_ (show 0 ≤ (u41_ + 1) by first | with_reducible assumption | assumption | omega) (show zCpJ 102 104 Mz (u41_ + 1) N103_ by exact hJ2_) (by omega)
              exact lp_78 _ 0 (by decide) (by decide) N30_ zFr.rf (show 0 ≤ (0 : Int) by first | with_reducible assumption | assumption | omega) (show zCpJ 102 104 Mz (0 : Int) N30_ by exact zCpJ_0) (Nat.lt_succ_self _)
            · skip
              refine zw_aload_n (pc := 58) (n := 0) (x := 81) rfl (zdal_p dlC_M_inForce_49 (i := 8) rfl) ?_
              refine zr_getF (r := 103) (hf_N30_.w hW) (pc := 59) f_M_81 rfl (zh_103 (hf_N30_.w hW)).1 (zdal_p dlC_M_inForce_49 (i := 9) rfl) ?_
              refine zw_iload_n (pc := 62) (n := 1) (x := Int32.ofInt u29_) rfl (zdal_p dlC_M_inForce_49 (i := 10) rfl) ?_
              refine zw_aload_n (pc := 63) (n := 0) (x := 81) rfl (zdal_p dlC_M_inForce_49 (i := 11) rfl) ?_
              refine zr_getF (r := 101) (hf_N30_.w hW) (pc := 64) f_M_75 rfl (zh_101 (hf_N30_.w hW)).1 (zdal_p dlC_M_inForce_49 (i := 12) rfl) ?_
              refine zw_iload_n (pc := 67) (n := 1) (x := Int32.ofInt u29_) rfl (zdal_p dlC_M_inForce_49 (i := 13) rfl) ?_
              refine zr_laldn (pc := 68) (zh_101 (hf_N30_.w hW)).2 (by decide) (by omega) (by omega) (zdal_p dlC_M_inForce_49 (i := 14) rfl) (fun v112_ hv112_ hv112_a hv112_b => ?_)
              rw [hf_N30_.jg (by decide) (by decide)] at hv112_
              refine zr_last (pc := 69) (zh_103 (hf_N30_.w hW)).2 (by decide) (by decide) (by omega) (by omega) (zdal_p dlC_M_inForce_49 (i := 15) rfl) (fun N113_ hN113_ hsN113_ => ?_)
              have hf_N113_ : zFr [16, 17, 18, 58, 60] [84, 98, 103, 104] Mz N113_ := hf_N30_.tr hsN113_ (by decide) (by decide)
              have hb0_N113_ : zFr [] [103] N20_ N113_ := hs31_.tr hsN113_ (by decide) (by decide)
              have e12_N113_ : ze N113_ 81 12 = ze N30_ 81 12 := hsN113_.e (by decide)
              have e13_N113_ : ze N113_ 81 13 = ze N30_ 81 13 := hsN113_.e (by decide)
              have e14_N113_ : ze N113_ 81 14 = ze N30_ 81 14 := hsN113_.e (by decide)
              have e16_N113_ : ze N113_ 81 16 = ze N30_ 81 16 := hsN113_.e (by decide)
              have e17_N113_ : ze N113_ 81 17 = ze N30_ 81 17 := hsN113_.e (by decide)
              have e18_N113_ : ze N113_ 81 18 = ze N30_ 81 18 := hsN113_.e (by decide)
              have e58_N113_ : ze N113_ 81 58 = ze N30_ 81 58 := hsN113_.e (by decide)
              have e60_N113_ : ze N113_ 81 60 = ze N30_ 81 60 := hsN113_.e (by decide)
              have c114_ : zPm N113_ := zPm.fr hsN113_ c34_ (by decide) (by decide)
              have c115_ : zFin N113_ := zFin.fr hsN113_ c35_ (by decide) (by decide)
              have c116_ : zB 83 24 0 5 N113_ := zB.fr hsN113_ c36_ (by decide) (by decide)
              have c117_ : zMvt mv_ N113_ := zMvt.fr hsN113_ c37_ (by decide) (by decide)
              have c118_ : zRNm nm_ F_ K_ b_ n_ N113_ := zRNm.fr hsN113_ c38_ (by decide) (by decide)
              have c119_ : zIF N113_ := zIF.fr hsN113_ c39_ (by decide) (by decide)
              have c120_ : zMvq mv_ N113_ := zMvq.fr hsN113_ c40_ (by decide) (by decide)
              have hJ1_ := zCpJ_s (by omega) (show zCpJ 101 103 Mz u29_ N30_ by first | with_reducible assumption | assumption) (by first | with_reducible assumption | assumption) hN113_
              refine zr_iinc (pc := 70) (i := 1) (a := u29_) (n := 1) (L2 := [some (.ref 81), some (.int (Int32.ofInt (u29_ + 1)))]) rfl (by decide) rfl (zdal_p dlC_M_inForce_49 (i := 16) rfl) ?_
              refine zw_goto (pc := 73) (tgt := 52) (by decide) (zdal_p dlC_M_inForce_49 (i := 17) rfl) ?_
              exact ih_52 (u29_ + 1) (by omega) (by omega) N113_ hb0_N113_ (show 0 ≤ (u29_ + 1) by first | with_reducible assumption | assumption | omega) (show zCpJ 101 103 Mz (u29_ + 1) N113_ by exact hJ1_) (by omega)
        exact lp_52 _ 0 (by decide) (by decide) N20_ zFr.rf (show 0 ≤ (0 : Int) by first | with_reducible assumption | assumption | omega) (show zCpJ 101 103 Mz (0 : Int) N20_ by exact zCpJ_0) (Nat.lt_succ_self _)
      · skip
        refine zw_aload_n (pc := 32) (n := 0) (x := 81) rfl (zdal_p dlC_M_inForce_48 (i := 17) rfl) ?_
        refine zr_getF (r := 84) (hf_N20_.w hW) (pc := 33) f_M_23 rfl (zh_84 (hf_N20_.w hW)).1 (zdal_p dlC_M_inForce_48 (i := 18) rfl) ?_
        refine zw_iload_n (pc := 36) (n := 1) (x := Int32.ofInt u19_) rfl (zdal_p dlC_M_inForce_48 (i := 19) rfl) ?_
        refine zw_aload_n (pc := 37) (n := 0) (x := 81) rfl (zdal_p dlC_M_inForce_48 (i := 20) rfl) ?_
        refine zr_getF (r := 83) (hf_N20_.w hW) (pc := 38) f_M_20 rfl (zh_83 (hf_N20_.w hW)).1 (zdal_p dlC_M_inForce_48 (i := 21) rfl) ?_
        refine zw_iload_n (pc := 41) (n := 1) (x := Int32.ofInt u19_) rfl (zdal_p dlC_M_inForce_48 (i := 22) rfl) ?_
        refine zr_ialdn (pc := 42) (zh_83 (hf_N20_.w hW)).2 (by decide) (by omega) (by omega) (zdal_p dlC_M_inForce_48 (i := 23) rfl) (fun v121_ hv121_ hv121_a hv121_b => ?_)
        have hr122_ := c26_.g (e := u19_) (by omega) (by omega)
        rw [← hv121_] at hr122_
        rw [hf_N20_.ie (by decide) (by decide)] at hv121_
        refine zr_iast (pc := 43) (zh_84 (hf_N20_.w hW)).2 (by decide) (by decide) (by omega) (by omega) (zdal_p dlC_M_inForce_49 (i := 0) rfl) (fun N123_ hN123_ hsN123_ => ?_)
        have hf_N123_ : zFr [16, 17, 18, 58, 60] [84, 98, 103, 104] Mz N123_ := hf_N20_.tr hsN123_ (by decide) (by decide)
        have hb0_N123_ : zFr [] [84] N13_ N123_ := hs21_.tr hsN123_ (by decide) (by decide)
        have e12_N123_ : ze N123_ 81 12 = ze N20_ 81 12 := hsN123_.e (by decide)
        have e13_N123_ : ze N123_ 81 13 = ze N20_ 81 13 := hsN123_.e (by decide)
        have e14_N123_ : ze N123_ 81 14 = ze N20_ 81 14 := hsN123_.e (by decide)
        have e16_N123_ : ze N123_ 81 16 = ze N20_ 81 16 := hsN123_.e (by decide)
        have e17_N123_ : ze N123_ 81 17 = ze N20_ 81 17 := hsN123_.e (by decide)
        have e18_N123_ : ze N123_ 81 18 = ze N20_ 81 18 := hsN123_.e (by decide)
        have e58_N123_ : ze N123_ 81 58 = ze N20_ 81 58 := hsN123_.e (by decide)
        have e60_N123_ : ze N123_ 81 60 = ze N20_ 81 60 := hsN123_.e (by decide)
        have c124_ : zPm N123_ := zPm.fr hsN123_ c24_ (by decide) (by decide)
        have c125_ : zFin N123_ := zFin.fr hsN123_ c25_ (by decide) (by decide)
        have c126_ : zB 83 24 0 5 N123_ := zB.fr hsN123_ c26_ (by decide) (by decide)
        have c127_ : zMvt mv_ N123_ := zMvt.fr hsN123_ c27_ (by decide) (by decide)
        have c128_ : zRNm nm_ F_ K_ b_ n_ N123_ := zRNm.fr hsN123_ c28_ (by decide) (by decide)
        have hC1_ := zCp_s (by omega) (show zCp 83 84 Mz N20_ u19_ by first | with_reducible assumption | assumption) (by first | with_reducible assumption | assumption) hN123_
        refine zr_iinc (pc := 44) (i := 1) (a := u19_) (n := 1) (L2 := [some (.ref 81), some (.int (Int32.ofInt (u19_ + 1)))]) rfl (by decide) rfl (zdal_p dlC_M_inForce_49 (i := 1) rfl) ?_
        refine zw_goto (pc := 47) (tgt := 26) (by decide) (zdal_p dlC_M_inForce_49 (i := 2) rfl) ?_
        exact ih_26 (u19_ + 1) (by omega) (by omega) N123_ hb0_N123_ (show 0 ≤ (u19_ + 1) by first | with_reducible assumption | assumption | omega) (show zCp 83 84 Mz N123_ (u19_ + 1) by exact hC1_) (by omega)
  exact lp_26 _ 0 (by decide) (by decide) N13_ zFr.rf (show 0 ≤ (0 : Int) by first | with_reducible assumption | assumption | omega) (show zCp 83 84 Mz N13_ (0 : Int) by exact zCp_0) (Nat.lt_succ_self _)
set_option maxHeartbeats 40000000 in
theorem c_M_goesBackU (l : Launch) (Mz : zMem) (hW : zMt Mz) (mv_ : List Nat) (b_ : Nat → Int) (n_ : Nat) (F_ : Nat) (K_ : Nat → Nat → Int) (hF64_ : F_ ≤ 64) (nm_ : List (Int × (Nat → Int))) (p0_ : zIF Mz) (p1_ : 0 ≤ ze Mz 81 18) (p2_ : ze Mz 81 18 ≤ 8) (p3_ : zB 83 24 0 5 Mz) (p4_ : zB 85 144 0 5 Mz) (p5_ : zMvq mv_ Mz) (p6_ : zRNi nm_ F_ K_ Mz) : zC l m_M_goesBack 0 0 [.ref 81] Mz (zpV [12, 13, 14, 20, 25, 26, 58] [83, 85, 86, 87, 88, 89, 90, 91, 92, 93, 94, 101, 102] Mz (fun N => (∃ T : zGT, T ∈ gTabs ∧ zGB T N ∧ zTm mv_ T ∧ zCdS (ze Mz 81 16) mv_ T N) ∧ 0 ≤ ze N 81 14 ∧ ze N 81 14 ≤ 8 ∧ zIF N ∧ zB 83 24 0 5 N ∧ zMvq mv_ N ∧ zRNm nm_ F_ K_ b_ n_ N ∧ zRNi nm_ F_ K_ N ∧ ze N 81 58 = 0)) := by
  refine zC_of (L0 := [some (.ref 81), none]) md_M_goesBack (Nat.le_of_ble_eq_true rfl) rfl ?_ zQ0
  have hf : zFr [12, 13, 14, 20, 25, 26, 58] [83, 85, 86, 87, 88, 89, 90, 91, 92, 93, 94, 101, 102] Mz Mz := zFr.rf
  have r_12 := ze_r Mz 81 12
  have r_13 := ze_r Mz 81 13
  have r_14 := ze_r Mz 81 14
  have r_16 := ze_r Mz 81 16
  have r_17 := ze_r Mz 81 17
  have r_18 := ze_r Mz 81 18
  have r_58 := ze_r Mz 81 58
  have hi_ := p0_.1
  refine zw_aload_n (pc := 0) (n := 0) (x := 81) rfl (zdal_p dlC_M_goesBack_142 (i := 0) rfl) ?_
  refine zw_aload_n (pc := 1) (n := 0) (x := 81) rfl (zdal_p dlC_M_goesBack_142 (i := 1) rfl) ?_
  refine zr_getI0 hf hW (pc := 2) (by decide) f_M_382 rfl (zdal_p dlC_M_goesBack_142 (i := 2) rfl) ?_
  refine zr_putI (hf.w hW) (pc := 5) f_M_115 rfl rfl ⟨by omega, by omega⟩ rfl rfl (zdal_p dlC_M_goesBack_142 (i := 3) rfl) (fun N1_ hsN1_ hvN1_ => ?_)
  have hf_N1_ : zFr [12, 13, 14, 20, 25, 26, 58] [83, 85, 86, 87, 88, 89, 90, 91, 92, 93, 94, 101, 102] Mz N1_ := hf.tr hsN1_ (by decide) (by decide)
  have r12_N1_ := ze_r N1_ 81 12
  have e13_N1_ : ze N1_ 81 13 = ze Mz 81 13 := hsN1_.e (by decide)
  have e14_N1_ : ze N1_ 81 14 = ze Mz 81 14 := hsN1_.e (by decide)
  have e16_N1_ : ze N1_ 81 16 = ze Mz 81 16 := hsN1_.e (by decide)
  have e17_N1_ : ze N1_ 81 17 = ze Mz 81 17 := hsN1_.e (by decide)
  have e18_N1_ : ze N1_ 81 18 = ze Mz 81 18 := hsN1_.e (by decide)
  have e58_N1_ : ze N1_ 81 58 = ze Mz 81 58 := hsN1_.e (by decide)
  have c2_ : zIF N1_ := zIF.fr hsN1_ p0_ (by decide) (by decide)
  have c3_ : zB 83 24 0 5 N1_ := zB.fr hsN1_ p3_ (by decide) (by decide)
  have c4_ : zB 85 144 0 5 N1_ := zB.fr hsN1_ p4_ (by decide) (by decide)
  have c5_ : zMvq mv_ N1_ := zMvq.fr hsN1_ p5_ (by decide) (by decide)
  have c6_ : zRNi nm_ F_ K_ N1_ := zRNi.fr hsN1_ p6_ (by decide) (by decide)
  refine zw_aload_n (pc := 8) (n := 0) (x := 81) rfl (zdal_p dlC_M_goesBack_142 (i := 4) rfl) ?_
  refine zw_aload_n (pc := 9) (n := 0) (x := 81) rfl (zdal_p dlC_M_goesBack_142 (i := 5) rfl) ?_
  refine zr_getI0 hf_N1_ hW (pc := 10) (by decide) f_M_385 rfl (zdal_p dlC_M_goesBack_142 (i := 6) rfl) ?_
  refine zr_putI (hf_N1_.w hW) (pc := 13) f_M_199 rfl rfl ⟨by omega, by omega⟩ rfl rfl (zdal_p dlC_M_goesBack_142 (i := 7) rfl) (fun N7_ hsN7_ hvN7_ => ?_)
  have hf_N7_ : zFr [12, 13, 14, 20, 25, 26, 58] [83, 85, 86, 87, 88, 89, 90, 91, 92, 93, 94, 101, 102] Mz N7_ := hf_N1_.tr hsN7_ (by decide) (by decide)
  have e12_N7_ : ze N7_ 81 12 = ze N1_ 81 12 := hsN7_.e (by decide)
  have r13_N7_ := ze_r N7_ 81 13
  have e14_N7_ : ze N7_ 81 14 = ze N1_ 81 14 := hsN7_.e (by decide)
  have e16_N7_ : ze N7_ 81 16 = ze N1_ 81 16 := hsN7_.e (by decide)
  have e17_N7_ : ze N7_ 81 17 = ze N1_ 81 17 := hsN7_.e (by decide)
  have e18_N7_ : ze N7_ 81 18 = ze N1_ 81 18 := hsN7_.e (by decide)
  have e58_N7_ : ze N7_ 81 58 = ze N1_ 81 58 := hsN7_.e (by decide)
  have c8_ : zIF N7_ := zIF.fr hsN7_ c2_ (by decide) (by decide)
  have c9_ : zB 83 24 0 5 N7_ := zB.fr hsN7_ c3_ (by decide) (by decide)
  have c10_ : zB 85 144 0 5 N7_ := zB.fr hsN7_ c4_ (by decide) (by decide)
  have c11_ : zMvq mv_ N7_ := zMvq.fr hsN7_ c5_ (by decide) (by decide)
  have c12_ : zRNi nm_ F_ K_ N7_ := zRNi.fr hsN7_ c6_ (by decide) (by decide)
  refine zw_aload_n (pc := 16) (n := 0) (x := 81) rfl (zdal_p dlC_M_goesBack_142 (i := 8) rfl) ?_
  refine zw_aload_n (pc := 17) (n := 0) (x := 81) rfl (zdal_p dlC_M_goesBack_142 (i := 9) rfl) ?_
  refine zr_getI0 hf_N7_ hW (pc := 18) (by decide) f_M_388 rfl (zdal_p dlC_M_goesBack_142 (i := 10) rfl) ?_
  refine zr_putI (hf_N7_.w hW) (pc := 21) f_M_299 rfl rfl ⟨by omega, by omega⟩ rfl rfl (zdal_p dlC_M_goesBack_142 (i := 11) rfl) (fun N13_ hsN13_ hvN13_ => ?_)
  have hf_N13_ : zFr [12, 13, 14, 20, 25, 26, 58] [83, 85, 86, 87, 88, 89, 90, 91, 92, 93, 94, 101, 102] Mz N13_ := hf_N7_.tr hsN13_ (by decide) (by decide)
  have e12_N13_ : ze N13_ 81 12 = ze N7_ 81 12 := hsN13_.e (by decide)
  have e13_N13_ : ze N13_ 81 13 = ze N7_ 81 13 := hsN13_.e (by decide)
  have r14_N13_ := ze_r N13_ 81 14
  have e16_N13_ : ze N13_ 81 16 = ze N7_ 81 16 := hsN13_.e (by decide)
  have e17_N13_ : ze N13_ 81 17 = ze N7_ 81 17 := hsN13_.e (by decide)
  have e18_N13_ : ze N13_ 81 18 = ze N7_ 81 18 := hsN13_.e (by decide)
  have e58_N13_ : ze N13_ 81 58 = ze N7_ 81 58 := hsN13_.e (by decide)
  have c14_ : zIF N13_ := zIF.fr hsN13_ c8_ (by decide) (by decide)
  have c15_ : zB 83 24 0 5 N13_ := zB.fr hsN13_ c9_ (by decide) (by decide)
  have c16_ : zB 85 144 0 5 N13_ := zB.fr hsN13_ c10_ (by decide) (by decide)
  have c17_ : zMvq mv_ N13_ := zMvq.fr hsN13_ c11_ (by decide) (by decide)
  have c18_ : zRNi nm_ F_ K_ N13_ := zRNi.fr hsN13_ c12_ (by decide) (by decide)
  refine zw_iconst (pc := 24) (v := Int32.ofInt 0) (by decide) (zdal_p dlC_M_goesBack_142 (i := 12) rfl) ?_
  refine zw_istore_n (pc := 25) (i := 1) (L2 := [some (.ref 81), some (.int (Int32.ofInt 0))]) rfl (by decide) rfl (zdal_p dlC_M_goesBack_142 (i := 13) rfl) ?_
  have lp_26 : ∀ (n : Nat) (u19_ : Int) (hu19_a : -2147483648 ≤ u19_) (hu19_b : u19_ < 2147483648) (N20_ : zMem) (hs21_ : zFr [] [83] N13_ N20_) (i22_ : 0 ≤ u19_) (i23_ : zCp 84 83 Mz N20_ u19_) (i24_ : zB 83 24 0 5 N20_), (24 - u19_).toNat < n → zW l m_M_goesBack (zn Mz + 0, zw Mz + 0) N20_ 26 [some (.ref 81), some (.int (Int32.ofInt u19_))] [] (zpV [12, 13, 14, 20, 25, 26, 58] [83, 85, 86, 87, 88, 89, 90, 91, 92, 93, 94, 101, 102] Mz (fun N => (∃ T : zGT, T ∈ gTabs ∧ zGB T N ∧ zTm mv_ T ∧ zCdS (ze Mz 81 16) mv_ T N) ∧ 0 ≤ ze N 81 14 ∧ ze N 81 14 ≤ 8 ∧ zIF N ∧ zB 83 24 0 5 N ∧ zMvq mv_ N ∧ zRNm nm_ F_ K_ b_ n_ N ∧ zRNi nm_ F_ K_ N ∧ ze N 81 58 = 0)) := by
    intro n
    induction n with
    | zero =>
      intro u19_ hu19_a hu19_b N20_ hs21_ i22_ i23_ i24_ h0
      exact absurd h0 (Nat.not_lt_zero _)
    | succ n ih_26 =>
      intro u19_ hu19_a hu19_b N20_ hs21_ i22_ i23_ i24_ hlt_26
      have hf_N20_ : zFr [12, 13, 14, 20, 25, 26, 58] [83, 85, 86, 87, 88, 89, 90, 91, 92, 93, 94, 101, 102] Mz N20_ := hf_N13_.tr hs21_ (by decide) (by decide)
      have e12_N20_ : ze N20_ 81 12 = ze N13_ 81 12 := hs21_.e (by decide)
      have e13_N20_ : ze N20_ 81 13 = ze N13_ 81 13 := hs21_.e (by decide)
      have e14_N20_ : ze N20_ 81 14 = ze N13_ 81 14 := hs21_.e (by decide)
      have e16_N20_ : ze N20_ 81 16 = ze N13_ 81 16 := hs21_.e (by decide)
      have e17_N20_ : ze N20_ 81 17 = ze N13_ 81 17 := hs21_.e (by decide)
      have e18_N20_ : ze N20_ 81 18 = ze N13_ 81 18 := hs21_.e (by decide)
      have e58_N20_ : ze N20_ 81 58 = ze N13_ 81 58 := hs21_.e (by decide)
      have c25_ : zIF N20_ := zIF.fr hs21_ c14_ (by decide) (by decide)
      have c26_ : zB 85 144 0 5 N20_ := zB.fr hs21_ c16_ (by decide) (by decide)
      have c27_ : zMvq mv_ N20_ := zMvq.fr hs21_ c17_ (by decide) (by decide)
      have c28_ : zRNi nm_ F_ K_ N20_ := zRNi.fr hs21_ c18_ (by decide) (by decide)
      refine zw_iload_n (pc := 26) (n := 1) (x := Int32.ofInt u19_) rfl (zdal_p dlC_M_goesBack_142 (i := 14) rfl) ?_
      refine zw_bipush (pc := 27) (v := Int32.ofInt 24) (by decide) (zdal_p dlC_M_goesBack_142 (i := 15) rfl) ?_
      refine zr_icmp_ge (pc := 29) (tgt := 50) ⟨hu19_a, hu19_b⟩ ⟨(by decide), (by decide)⟩ (by decide) (zdal_p dlC_M_goesBack_142 (i := 16) rfl) (fun hc_29 => ?_) (fun hc_29 => ?_)
      · skip
        have hI_ := zIF_b (by omega) (show zCp 84 83 Mz N20_ u19_ by first | with_reducible assumption | assumption) (fun j => hf_N20_.ie (by decide) (by decide) j) c25_ (by omega) (by omega)
        have hIp_ := hI_.1
        have hIf_ := hI_.2.1
        have hMs_ : zMvt mv_ N20_ := (zMvF_b (by omega) (show zCp 84 83 Mz N20_ u19_ by first | with_reducible assumption | assumption) (fun j => hf_N20_.ie (by decide) (by decide) j) c25_ (by omega) (by omega)).trans c27_
        refine zw_iconst (pc := 50) (v := Int32.ofInt 0) (by decide) (zdal_p dlC_M_goesBack_143 (i := 3) rfl) ?_
        refine zw_istore_n (pc := 51) (i := 1) (L2 := [some (.ref 81), some (.int (Int32.ofInt 0))]) rfl (by decide) rfl (zdal_p dlC_M_goesBack_143 (i := 4) rfl) ?_
        have lp_52 : ∀ (n : Nat) (u29_ : Int) (hu29_a : -2147483648 ≤ u29_) (hu29_b : u29_ < 2147483648) (N30_ : zMem) (hs31_ : zFr [] [101] N20_ N30_) (i32_ : 0 ≤ u29_) (i33_ : zCpJ 103 101 Mz u29_ N30_), (8 - u29_).toNat < n → zW l m_M_goesBack (zn Mz + 0, zw Mz + 0) N30_ 52 [some (.ref 81), some (.int (Int32.ofInt u29_))] [] (zpV [12, 13, 14, 20, 25, 26, 58] [83, 85, 86, 87, 88, 89, 90, 91, 92, 93, 94, 101, 102] Mz (fun N => (∃ T : zGT, T ∈ gTabs ∧ zGB T N ∧ zTm mv_ T ∧ zCdS (ze Mz 81 16) mv_ T N) ∧ 0 ≤ ze N 81 14 ∧ ze N 81 14 ≤ 8 ∧ zIF N ∧ zB 83 24 0 5 N ∧ zMvq mv_ N ∧ zRNm nm_ F_ K_ b_ n_ N ∧ zRNi nm_ F_ K_ N ∧ ze N 81 58 = 0)) := by
          intro n
          induction n with
          | zero =>
            intro u29_ hu29_a hu29_b N30_ hs31_ i32_ i33_ h0
            exact absurd h0 (Nat.not_lt_zero _)
          | succ n ih_52 =>
            intro u29_ hu29_a hu29_b N30_ hs31_ i32_ i33_ hlt_52
            have hf_N30_ : zFr [12, 13, 14, 20, 25, 26, 58] [83, 85, 86, 87, 88, 89, 90, 91, 92, 93, 94, 101, 102] Mz N30_ := hf_N20_.tr hs31_ (by decide) (by decide)
            have e12_N30_ : ze N30_ 81 12 = ze N20_ 81 12 := hs31_.e (by decide)
            have e13_N30_ : ze N30_ 81 13 = ze N20_ 81 13 := hs31_.e (by decide)
            have e14_N30_ : ze N30_ 81 14 = ze N20_ 81 14 := hs31_.e (by decide)
            have e16_N30_ : ze N30_ 81 16 = ze N20_ 81 16 := hs31_.e (by decide)
            have e17_N30_ : ze N30_ 81 17 = ze N20_ 81 17 := hs31_.e (by decide)
            have e18_N30_ : ze N30_ 81 18 = ze N20_ 81 18 := hs31_.e (by decide)
            have e58_N30_ : ze N30_ 81 58 = ze N20_ 81 58 := hs31_.e (by decide)
            have c34_ : zIF N30_ := zIF.fr hs31_ c25_ (by decide) (by decide)
            have c35_ : zB 85 144 0 5 N30_ := zB.fr hs31_ c26_ (by decide) (by decide)
            have c36_ : zMvq mv_ N30_ := zMvq.fr hs31_ c27_ (by decide) (by decide)
            have c37_ : zRNi nm_ F_ K_ N30_ := zRNi.fr hs31_ c28_ (by decide) (by decide)
            have c38_ : zB 83 24 0 5 N30_ := zB.fr hs31_ i24_ (by decide) (by decide)
            have c39_ : zPm N30_ := zPm.fr hs31_ hIp_ (by decide) (by decide)
            have c40_ : zFin N30_ := zFin.fr hs31_ hIf_ (by decide) (by decide)
            have c41_ : zMvt mv_ N30_ := zMvt.fr hs31_ hMs_ (by decide) (by decide)
            refine zw_iload_n (pc := 52) (n := 1) (x := Int32.ofInt u29_) rfl (zdal_p dlC_M_goesBack_143 (i := 5) rfl) ?_
            refine zw_bipush (pc := 53) (v := Int32.ofInt 8) (by decide) (zdal_p dlC_M_goesBack_143 (i := 6) rfl) ?_
            refine zr_icmp_ge (pc := 55) (tgt := 76) ⟨hu29_a, hu29_b⟩ ⟨(by decide), (by decide)⟩ (by decide) (zdal_p dlC_M_goesBack_143 (i := 7) rfl) (fun hc_55 => ?_) (fun hc_55 => ?_)
            · skip
              have hc1_ := (show zCpJ 103 101 Mz u29_ N30_ by first | with_reducible assumption | assumption).le (n := 8) (by omega)
              refine zw_iconst (pc := 76) (v := Int32.ofInt 0) (by decide) (zdal_p dlC_M_goesBack_143 (i := 18) rfl) ?_
              refine zw_istore_n (pc := 77) (i := 1) (L2 := [some (.ref 81), some (.int (Int32.ofInt 0))]) rfl (by decide) rfl (zdal_p dlC_M_goesBack_143 (i := 19) rfl) ?_
              have lp_78 : ∀ (n : Nat) (u42_ : Int) (hu42_a : -2147483648 ≤ u42_) (hu42_b : u42_ < 2147483648) (N43_ : zMem) (hs44_ : zFr [] [102] N30_ N43_) (i45_ : 0 ≤ u42_) (i46_ : zCpJ 104 102 Mz u42_ N43_), (512 - u42_).toNat < n → zW l m_M_goesBack (zn Mz + 0, zw Mz + 0) N43_ 78 [some (.ref 81), some (.int (Int32.ofInt u42_))] [] (zpV [12, 13, 14, 20, 25, 26, 58] [83, 85, 86, 87, 88, 89, 90, 91, 92, 93, 94, 101, 102] Mz (fun N => (∃ T : zGT, T ∈ gTabs ∧ zGB T N ∧ zTm mv_ T ∧ zCdS (ze Mz 81 16) mv_ T N) ∧ 0 ≤ ze N 81 14 ∧ ze N 81 14 ≤ 8 ∧ zIF N ∧ zB 83 24 0 5 N ∧ zMvq mv_ N ∧ zRNm nm_ F_ K_ b_ n_ N ∧ zRNi nm_ F_ K_ N ∧ ze N 81 58 = 0)) := by
                intro n
                induction n with
                | zero =>
                  intro u42_ hu42_a hu42_b N43_ hs44_ i45_ i46_ h0
                  exact absurd h0 (Nat.not_lt_zero _)
                | succ n ih_78 =>
                  intro u42_ hu42_a hu42_b N43_ hs44_ i45_ i46_ hlt_78
                  have hf_N43_ : zFr [12, 13, 14, 20, 25, 26, 58] [83, 85, 86, 87, 88, 89, 90, 91, 92, 93, 94, 101, 102] Mz N43_ := hf_N30_.tr hs44_ (by decide) (by decide)
                  have e12_N43_ : ze N43_ 81 12 = ze N30_ 81 12 := hs44_.e (by decide)
                  have e13_N43_ : ze N43_ 81 13 = ze N30_ 81 13 := hs44_.e (by decide)
                  have e14_N43_ : ze N43_ 81 14 = ze N30_ 81 14 := hs44_.e (by decide)
                  have e16_N43_ : ze N43_ 81 16 = ze N30_ 81 16 := hs44_.e (by decide)
                  have e17_N43_ : ze N43_ 81 17 = ze N30_ 81 17 := hs44_.e (by decide)
                  have e18_N43_ : ze N43_ 81 18 = ze N30_ 81 18 := hs44_.e (by decide)
                  have e58_N43_ : ze N43_ 81 58 = ze N30_ 81 58 := hs44_.e (by decide)
                  have c47_ : zIF N43_ := zIF.fr hs44_ c34_ (by decide) (by decide)
                  have c48_ : zB 85 144 0 5 N43_ := zB.fr hs44_ c35_ (by decide) (by decide)
                  have c49_ : zMvq mv_ N43_ := zMvq.fr hs44_ c36_ (by decide) (by decide)
                  have c50_ : zRNi nm_ F_ K_ N43_ := zRNi.fr hs44_ c37_ (by decide) (by decide)
                  have c51_ : zB 83 24 0 5 N43_ := zB.fr hs44_ c38_ (by decide) (by decide)
                  have c52_ : zPm N43_ := zPm.fr hs44_ c39_ (by decide) (by decide)
                  have c53_ : zFin N43_ := zFin.fr hs44_ c40_ (by decide) (by decide)
                  have c54_ : zMvt mv_ N43_ := zMvt.fr hs44_ c41_ (by decide) (by decide)
                  have c55_ : zCpJ 103 101 Mz 8 N43_ := zCpJ.fr hs44_ hc1_ (by decide) (by decide)
                  refine zw_iload_n (pc := 78) (n := 1) (x := Int32.ofInt u42_) rfl (zdal_p dlC_M_goesBack_143 (i := 20) rfl) ?_
                  refine zw_sipush (pc := 79) (v := Int32.ofInt 512) (by decide) (zdal_p dlC_M_goesBack_143 (i := 21) rfl) ?_
                  refine zr_icmp_ge (pc := 82) (tgt := 103) ⟨hu42_a, hu42_b⟩ ⟨(by decide), (by decide)⟩ (by decide) (zdal_p dlC_M_goesBack_143 (i := 22) rfl) (fun hc_82 => ?_) (fun hc_82 => ?_)
                  · skip
                    have hc2_ := (show zCpJ 104 102 Mz u42_ N43_ by first | with_reducible assumption | assumption).le (n := 512) (by omega)
                    have hnr_ : zRNm nm_ F_ K_ b_ n_ N43_ := zRNm_i hF64_ p6_ (by omega) c55_ hc2_
                    refine zw_aload_n (pc := 103) (n := 0) (x := 81) rfl (zdal_p dlC_M_goesBack_144 (i := 9) rfl) ?_
                    refine zr_callV (hf_N43_.w hW) hf_N43_.x (pc := 104) [] [] l_M_118 (c_M_buildsF l N43_ (hf_N43_.w hW) (show 1 ≤ ze N43_ 81 12 by first | with_reducible assumption | assumption | omega) (show ze N43_ 81 12 ≤ 6 by first | with_reducible assumption | assumption | omega) (show 0 ≤ ze N43_ 81 13 by first | with_reducible assumption | assumption | omega) (show ze N43_ 81 13 ≤ 4 by first | with_reducible assumption | assumption | omega) c52_ c53_ c51_ c48_) rfl rfl rfl (by decide) (Nat.le_of_ble_eq_true rfl) (zdal_p dlC_M_goesBack_144 (i := 10) rfl) ?_
                    rintro _ N56_ ⟨rfl, hsN56_, hp0_N56_⟩
                    replace hp0_N56_ : ∃ T : zGT, T ∈ gTabs ∧ zGB T N56_ ∧ zTm (zMvs N43_) T ∧ zCdS (ze N43_ 81 12) (zMvs N43_) T N56_ := hp0_N56_
                    have hf_N56_ : zFr [12, 13, 14, 20, 25, 26, 58] [83, 85, 86, 87, 88, 89, 90, 91, 92, 93, 94, 101, 102] Mz N56_ := hf_N43_.tr hsN56_ (by decide) (by decide)
                    have e12_N56_ : ze N56_ 81 12 = ze N43_ 81 12 := hsN56_.e (by decide)
                    have e13_N56_ : ze N56_ 81 13 = ze N43_ 81 13 := hsN56_.e (by decide)
                    have e14_N56_ : ze N56_ 81 14 = ze N43_ 81 14 := hsN56_.e (by decide)
                    have e16_N56_ : ze N56_ 81 16 = ze N43_ 81 16 := hsN56_.e (by decide)
                    have e17_N56_ : ze N56_ 81 17 = ze N43_ 81 17 := hsN56_.e (by decide)
                    have e18_N56_ : ze N56_ 81 18 = ze N43_ 81 18 := hsN56_.e (by decide)
                    have e58_N56_ : ze N56_ 81 58 = ze N43_ 81 58 := hsN56_.e (by decide)
                    have c58_ : zIF N56_ := zIF.fr hsN56_ c47_ (by decide) (by decide)
                    have c59_ : zMvq mv_ N56_ := zMvq.fr hsN56_ c49_ (by decide) (by decide)
                    have c60_ : zRNi nm_ F_ K_ N56_ := zRNi.fr hsN56_ c50_ (by decide) (by decide)
                    have c61_ : zB 83 24 0 5 N56_ := zB.fr hsN56_ c51_ (by decide) (by decide)
                    have c62_ : zPm N56_ := zPm.fr hsN56_ c52_ (by decide) (by decide)
                    have c63_ : zFin N56_ := zFin.fr hsN56_ c53_ (by decide) (by decide)
                    have c64_ : zMvt mv_ N56_ := zMvt.fr hsN56_ c54_ (by decide) (by decide)
                    have c65_ : zCpJ 103 101 Mz 8 N56_ := zCpJ.fr hsN56_ c55_ (by decide) (by decide)
                    have c66_ : zCpJ 104 102 Mz 512 N56_ := zCpJ.fr hsN56_ hc2_ (by decide) (by decide)
                    have c67_ : zRNm nm_ F_ K_ b_ n_ N56_ := zRNm.fr hsN56_ hnr_ (by decide) (by decide)
                    show zW l m_M_goesBack (zn Mz + 0, zw Mz + 0) N56_ 107 [some (.ref 81), some (.int (Int32.ofInt u42_))] [] _
                    obtain ⟨T, hTt, hGB, hTm_, hCd_⟩ := id hp0_N56_
                    have hmz_ : zMvs N43_ = mv_ := by have h_ := c64_; unfold zMvt at h_; rw [← h_, zMvs_f hsN56_ (by decide) (by decide)]
                    rw [hmz_] at hTm_ hCd_
                    have hTm2_ : zTm mv_ T := hTm_
                    have hCd2_ : zCdS (ze Mz 81 16) mv_ T N56_ := hCd_.p (by omega)
                    refine zw_aload_n (pc := 107) (n := 0) (x := 81) rfl (zdal_p dlC_M_goesBack_144 (i := 11) rfl) ?_
                    refine zw_iconst (pc := 108) (v := Int32.ofInt 0) (by decide) (zdal_p dlC_M_goesBack_144 (i := 12) rfl) ?_
                    refine zr_putI (hf_N56_.w hW) (pc := 109) f_M_394 rfl rfl ⟨by omega, by omega⟩ (z_narB (by omega)) (z_fitB (by omega)) (zdal_p dlC_M_goesBack_144 (i := 13) rfl) (fun N68_ hsN68_ hvN68_ => ?_)
                    have hf_N68_ : zFr [12, 13, 14, 20, 25, 26, 58] [83, 85, 86, 87, 88, 89, 90, 91, 92, 93, 94, 101, 102] Mz N68_ := hf_N56_.tr hsN68_ (by decide) (by decide)
                    have e12_N68_ : ze N68_ 81 12 = ze N56_ 81 12 := hsN68_.e (by decide)
                    have e13_N68_ : ze N68_ 81 13 = ze N56_ 81 13 := hsN68_.e (by decide)
                    have e14_N68_ : ze N68_ 81 14 = ze N56_ 81 14 := hsN68_.e (by decide)
                    have e16_N68_ : ze N68_ 81 16 = ze N56_ 81 16 := hsN68_.e (by decide)
                    have e17_N68_ : ze N68_ 81 17 = ze N56_ 81 17 := hsN68_.e (by decide)
                    have e18_N68_ : ze N68_ 81 18 = ze N56_ 81 18 := hsN68_.e (by decide)
                    have r58_N68_ := ze_r N68_ 81 58
                    have c69_ : zIF N68_ := zIF.fr hsN68_ c58_ (by decide) (by decide)
                    have c70_ : zMvq mv_ N68_ := zMvq.fr hsN68_ c59_ (by decide) (by decide)
                    have c71_ : zRNi nm_ F_ K_ N68_ := zRNi.fr hsN68_ c60_ (by decide) (by decide)
                    have c72_ : zB 83 24 0 5 N68_ := zB.fr hsN68_ c61_ (by decide) (by decide)
                    have c73_ : zPm N68_ := zPm.fr hsN68_ c62_ (by decide) (by decide)
                    have c74_ : zFin N68_ := zFin.fr hsN68_ c63_ (by decide) (by decide)
                    have c75_ : zMvt mv_ N68_ := zMvt.fr hsN68_ c64_ (by decide) (by decide)
                    have c76_ : zCpJ 103 101 Mz 8 N68_ := zCpJ.fr hsN68_ c65_ (by decide) (by decide)
                    have c77_ : zCpJ 104 102 Mz 512 N68_ := zCpJ.fr hsN68_ c66_ (by decide) (by decide)
                    have c78_ : zRNm nm_ F_ K_ b_ n_ N68_ := zRNm.fr hsN68_ c67_ (by decide) (by decide)
                    have c79_ : zGB T N68_ := zGB.fr hsN68_ hGB (by decide) (by decide)
                    have c80_ : zCdS (ze Mz 81 16) mv_ T N68_ := zCdS.fr hsN68_ hCd2_ (by decide) (by decide)
                    exact zr_vret (pc := 112) rfl hf_N68_ ⟨(show (∃ T : zGT, T ∈ gTabs ∧ zGB T N68_ ∧ zTm mv_ T ∧ zCdS (ze Mz 81 16) mv_ T N68_) by exact ⟨T, hTt, c79_, hTm2_, c80_⟩), (show 0 ≤ ze N68_ 81 14 by first | with_reducible assumption | assumption | omega), (show ze N68_ 81 14 ≤ 8 by first | with_reducible assumption | assumption | omega), c69_, c72_, c70_, c78_, c71_, (show ze N68_ 81 58 = 0 by first | with_reducible assumption | assumption | omega)⟩ (zdal_p dlC_M_goesBack_144 (i := 14) rfl)
                  · skip
                    refine zw_aload_n (pc := 85) (n := 0) (x := 81) rfl (zdal_p dlC_M_goesBack_143 (i := 23) rfl) ?_
                    refine zr_getF (r := 102) (hf_N43_.w hW) (pc := 86) f_M_78 rfl (zh_102 (hf_N43_.w hW)).1 (zdal_p dlC_M_goesBack_144 (i := 0) rfl) ?_
                    refine zw_iload_n (pc := 89) (n := 1) (x := Int32.ofInt u42_) rfl (zdal_p dlC_M_goesBack_144 (i := 1) rfl) ?_
                    refine zw_aload_n (pc := 90) (n := 0) (x := 81) rfl (zdal_p dlC_M_goesBack_144 (i := 2) rfl) ?_
                    refine zr_getF (r := 104) (hf_N43_.w hW) (pc := 91) f_M_84 rfl (zh_104 (hf_N43_.w hW)).1 (zdal_p dlC_M_goesBack_144 (i := 3) rfl) ?_
                    refine zw_iload_n (pc := 94) (n := 1) (x := Int32.ofInt u42_) rfl (zdal_p dlC_M_goesBack_144 (i := 4) rfl) ?_
                    refine zr_laldn (pc := 95) (zh_104 (hf_N43_.w hW)).2 (by decide) (by omega) (by omega) (zdal_p dlC_M_goesBack_144 (i := 5) rfl) (fun v81_ hv81_ hv81_a hv81_b => ?_)
                    rw [hf_N43_.jg (by decide) (by decide)] at hv81_
                    refine zr_last (pc := 96) (zh_102 (hf_N43_.w hW)).2 (by decide) (by decide) (by omega) (by omega) (zdal_p dlC_M_goesBack_144 (i := 6) rfl) (fun N82_ hN82_ hsN82_ => ?_)
                    have hf_N82_ : zFr [12, 13, 14, 20, 25, 26, 58] [83, 85, 86, 87, 88, 89, 90, 91, 92, 93, 94, 101, 102] Mz N82_ := hf_N43_.tr hsN82_ (by decide) (by decide)
                    have hb0_N82_ : zFr [] [102] N30_ N82_ := hs44_.tr hsN82_ (by decide) (by decide)
                    have e12_N82_ : ze N82_ 81 12 = ze N43_ 81 12 := hsN82_.e (by decide)
                    have e13_N82_ : ze N82_ 81 13 = ze N43_ 81 13 := hsN82_.e (by decide)
                    have e14_N82_ : ze N82_ 81 14 = ze N43_ 81 14 := hsN82_.e (by decide)
                    have e16_N82_ : ze N82_ 81 16 = ze N43_ 81 16 := hsN82_.e (by decide)
                    have e17_N82_ : ze N82_ 81 17 = ze N43_ 81 17 := hsN82_.e (by decide)
                    have e18_N82_ : ze N82_ 81 18 = ze N43_ 81 18 := hsN82_.e (by decide)
                    have e58_N82_ : ze N82_ 81 58 = ze N43_ 81 58 := hsN82_.e (by decide)
                    have c83_ : zIF N82_ := zIF.fr hsN82_ c47_ (by decide) (by decide)
                    have c84_ : zB 85 144 0 5 N82_ := zB.fr hsN82_ c48_ (by decide) (by decide)
                    have c85_ : zMvq mv_ N82_ := zMvq.fr hsN82_ c49_ (by decide) (by decide)
                    have c86_ : zRNi nm_ F_ K_ N82_ := zRNi.fr hsN82_ c50_ (by decide) (by decide)
                    have c87_ : zB 83 24 0 5 N82_ := zB.fr hsN82_ c51_ (by decide) (by decide)
                    have c88_ : zPm N82_ := zPm.fr hsN82_ c52_ (by decide) (by decide)
                    have c89_ : zFin N82_ := zFin.fr hsN82_ c53_ (by decide) (by decide)
                    have c90_ : zMvt mv_ N82_ := zMvt.fr hsN82_ c54_ (by decide) (by decide)
                    have c91_ : zCpJ 103 101 Mz 8 N82_ := zCpJ.fr hsN82_ c55_ (by decide) (by decide)
                    have hJ2_ := zCpJ_s (by omega) (show zCpJ 104 102 Mz u42_ N43_ by first | with_reducible assumption | assumption) (by first | with_reducible assumption | assumption) hN82_
                    refine zr_iinc (pc := 97) (i := 1) (a := u42_) (n := 1) (L2 := [some (.ref 81), some (.int (Int32.ofInt (u42_ + 1)))]) rfl (by decide) rfl (zdal_p dlC_M_goesBack_144 (i := 7) rfl) ?_
                    refine zw_goto (pc := 100) (tgt := 78) (by decide) (zdal_p dlC_M_goesBack_144 (i := 8) rfl) ?_
                    exact ih_78 (u42_ + 1) (by omega) (by omega) N82_ hb0_N82_ (show 0 ≤ (u42_ + 1) by first | with_reducible assumption | assumption | omega) (show zCpJ 104 102 Mz (u42_ + 1) N82_ by exact hJ2_) (by omega)
              exact lp_78 _ 0 (by decide) (by decide) N30_ zFr.rf (show 0 ≤ (0 : Int) by first | with_reducible assumption | assumption | omega) (show zCpJ 104 102 Mz (0 : Int) N30_ by exact zCpJ_0) (Nat.lt_succ_self _)
            · skip
              refine zw_aload_n (pc := 58) (n := 0) (x := 81) rfl (zdal_p dlC_M_goesBack_143 (i := 8) rfl) ?_
              refine zr_getF (r := 101) (hf_N30_.w hW) (pc := 59) f_M_75 rfl (zh_101 (hf_N30_.w hW)).1 (zdal_p dlC_M_goesBack_143 (i := 9) rfl) ?_
              refine zw_iload_n (pc := 62) (n := 1) (x := Int32.ofInt u29_) rfl (zdal_p dlC_M_goesBack_143 (i := 10) rfl) ?_
              refine zw_aload_n (pc := 63) (n := 0) (x := 81) rfl (zdal_p dlC_M_goesBack_143 (i := 11) rfl) ?_
              refine zr_getF (r := 103) (hf_N30_.w hW) (pc := 64) f_M_81 rfl (zh_103 (hf_N30_.w hW)).1 (zdal_p dlC_M_goesBack_143 (i := 12) rfl) ?_
              refine zw_iload_n (pc := 67) (n := 1) (x := Int32.ofInt u29_) rfl (zdal_p dlC_M_goesBack_143 (i := 13) rfl) ?_
              refine zr_laldn (pc := 68) (zh_103 (hf_N30_.w hW)).2 (by decide) (by omega) (by omega) (zdal_p dlC_M_goesBack_143 (i := 14) rfl) (fun v92_ hv92_ hv92_a hv92_b => ?_)
              rw [hf_N30_.jg (by decide) (by decide)] at hv92_
              refine zr_last (pc := 69) (zh_101 (hf_N30_.w hW)).2 (by decide) (by decide) (by omega) (by omega) (zdal_p dlC_M_goesBack_143 (i := 15) rfl) (fun N93_ hN93_ hsN93_ => ?_)
              have hf_N93_ : zFr [12, 13, 14, 20, 25, 26, 58] [83, 85, 86, 87, 88, 89, 90, 91, 92, 93, 94, 101, 102] Mz N93_ := hf_N30_.tr hsN93_ (by decide) (by decide)
              have hb0_N93_ : zFr [] [101] N20_ N93_ := hs31_.tr hsN93_ (by decide) (by decide)
              have e12_N93_ : ze N93_ 81 12 = ze N30_ 81 12 := hsN93_.e (by decide)
              have e13_N93_ : ze N93_ 81 13 = ze N30_ 81 13 := hsN93_.e (by decide)
              have e14_N93_ : ze N93_ 81 14 = ze N30_ 81 14 := hsN93_.e (by decide)
              have e16_N93_ : ze N93_ 81 16 = ze N30_ 81 16 := hsN93_.e (by decide)
              have e17_N93_ : ze N93_ 81 17 = ze N30_ 81 17 := hsN93_.e (by decide)
              have e18_N93_ : ze N93_ 81 18 = ze N30_ 81 18 := hsN93_.e (by decide)
              have e58_N93_ : ze N93_ 81 58 = ze N30_ 81 58 := hsN93_.e (by decide)
              have c94_ : zIF N93_ := zIF.fr hsN93_ c34_ (by decide) (by decide)
              have c95_ : zB 85 144 0 5 N93_ := zB.fr hsN93_ c35_ (by decide) (by decide)
              have c96_ : zMvq mv_ N93_ := zMvq.fr hsN93_ c36_ (by decide) (by decide)
              have c97_ : zRNi nm_ F_ K_ N93_ := zRNi.fr hsN93_ c37_ (by decide) (by decide)
              have c98_ : zB 83 24 0 5 N93_ := zB.fr hsN93_ c38_ (by decide) (by decide)
              have c99_ : zPm N93_ := zPm.fr hsN93_ c39_ (by decide) (by decide)
              have c100_ : zFin N93_ := zFin.fr hsN93_ c40_ (by decide) (by decide)
              have c101_ : zMvt mv_ N93_ := zMvt.fr hsN93_ c41_ (by decide) (by decide)
              have hJ1_ := zCpJ_s (by omega) (show zCpJ 103 101 Mz u29_ N30_ by first | with_reducible assumption | assumption) (by first | with_reducible assumption | assumption) hN93_
              refine zr_iinc (pc := 70) (i := 1) (a := u29_) (n := 1) (L2 := [some (.ref 81), some (.int (Int32.ofInt (u29_ + 1)))]) rfl (by decide) rfl (zdal_p dlC_M_goesBack_143 (i := 16) rfl) ?_
              refine zw_goto (pc := 73) (tgt := 52) (by decide) (zdal_p dlC_M_goesBack_143 (i := 17) rfl) ?_
              exact ih_52 (u29_ + 1) (by omega) (by omega) N93_ hb0_N93_ (show 0 ≤ (u29_ + 1) by first | with_reducible assumption | assumption | omega) (show zCpJ 103 101 Mz (u29_ + 1) N93_ by exact hJ1_) (by omega)
        exact lp_52 _ 0 (by decide) (by decide) N20_ zFr.rf (show 0 ≤ (0 : Int) by first | with_reducible assumption | assumption | omega) (show zCpJ 103 101 Mz (0 : Int) N20_ by exact zCpJ_0) (Nat.lt_succ_self _)
      · skip
        refine zw_aload_n (pc := 32) (n := 0) (x := 81) rfl (zdal_p dlC_M_goesBack_142 (i := 17) rfl) ?_
        refine zr_getF (r := 83) (hf_N20_.w hW) (pc := 33) f_M_20 rfl (zh_83 (hf_N20_.w hW)).1 (zdal_p dlC_M_goesBack_142 (i := 18) rfl) ?_
        refine zw_iload_n (pc := 36) (n := 1) (x := Int32.ofInt u19_) rfl (zdal_p dlC_M_goesBack_142 (i := 19) rfl) ?_
        refine zw_aload_n (pc := 37) (n := 0) (x := 81) rfl (zdal_p dlC_M_goesBack_142 (i := 20) rfl) ?_
        refine zr_getF (r := 84) (hf_N20_.w hW) (pc := 38) f_M_23 rfl (zh_84 (hf_N20_.w hW)).1 (zdal_p dlC_M_goesBack_142 (i := 21) rfl) ?_
        refine zw_iload_n (pc := 41) (n := 1) (x := Int32.ofInt u19_) rfl (zdal_p dlC_M_goesBack_142 (i := 22) rfl) ?_
        refine zr_ialdn (pc := 42) (zh_84 (hf_N20_.w hW)).2 (by decide) (by omega) (by omega) (zdal_p dlC_M_goesBack_142 (i := 23) rfl) (fun v102_ hv102_ hv102_a hv102_b => ?_)
        rw [hf_N20_.ie (by decide) (by decide)] at hv102_
        have hb84_ := p0_.2.1 (u19_).toNat (by omega)
        refine zr_iast (pc := 43) (zh_83 (hf_N20_.w hW)).2 (by decide) (by decide) (by omega) (by omega) (zdal_p dlC_M_goesBack_143 (i := 0) rfl) (fun N103_ hN103_ hsN103_ => ?_)
        have hf_N103_ : zFr [12, 13, 14, 20, 25, 26, 58] [83, 85, 86, 87, 88, 89, 90, 91, 92, 93, 94, 101, 102] Mz N103_ := hf_N20_.tr hsN103_ (by decide) (by decide)
        have hb0_N103_ : zFr [] [83] N13_ N103_ := hs21_.tr hsN103_ (by decide) (by decide)
        have e12_N103_ : ze N103_ 81 12 = ze N20_ 81 12 := hsN103_.e (by decide)
        have e13_N103_ : ze N103_ 81 13 = ze N20_ 81 13 := hsN103_.e (by decide)
        have e14_N103_ : ze N103_ 81 14 = ze N20_ 81 14 := hsN103_.e (by decide)
        have e16_N103_ : ze N103_ 81 16 = ze N20_ 81 16 := hsN103_.e (by decide)
        have e17_N103_ : ze N103_ 81 17 = ze N20_ 81 17 := hsN103_.e (by decide)
        have e18_N103_ : ze N103_ 81 18 = ze N20_ 81 18 := hsN103_.e (by decide)
        have e58_N103_ : ze N103_ 81 58 = ze N20_ 81 58 := hsN103_.e (by decide)
        have c104_ : zIF N103_ := zIF.fr hsN103_ c25_ (by decide) (by decide)
        have c105_ : zB 85 144 0 5 N103_ := zB.fr hsN103_ c26_ (by decide) (by decide)
        have c106_ : zMvq mv_ N103_ := zMvq.fr hsN103_ c27_ (by decide) (by decide)
        have c107_ : zRNi nm_ F_ K_ N103_ := zRNi.fr hsN103_ c28_ (by decide) (by decide)
        have c108_ : zB 83 24 0 5 N103_ := zB.s i24_ hN103_ (by omega) (by omega) (by decide) (by decide)
        have hC1_ := zCp_s (by omega) (show zCp 84 83 Mz N20_ u19_ by first | with_reducible assumption | assumption) (by first | with_reducible assumption | assumption) hN103_
        refine zr_iinc (pc := 44) (i := 1) (a := u19_) (n := 1) (L2 := [some (.ref 81), some (.int (Int32.ofInt (u19_ + 1)))]) rfl (by decide) rfl (zdal_p dlC_M_goesBack_143 (i := 1) rfl) ?_
        refine zw_goto (pc := 47) (tgt := 26) (by decide) (zdal_p dlC_M_goesBack_143 (i := 2) rfl) ?_
        exact ih_26 (u19_ + 1) (by omega) (by omega) N103_ hb0_N103_ (show 0 ≤ (u19_ + 1) by first | with_reducible assumption | assumption | omega) (show zCp 84 83 Mz N103_ (u19_ + 1) by exact hC1_) c108_ (by omega)
  exact lp_26 _ 0 (by decide) (by decide) N13_ zFr.rf (show 0 ≤ (0 : Int) by first | with_reducible assumption | assumption | omega) (show zCp 84 83 Mz N13_ (0 : Int) by exact zCp_0) c15_ (Nat.lt_succ_self _)
set_option maxHeartbeats 40000000 in
theorem c_M_troupeU (l : Launch) (Mz : zMem) (hW : zMt Mz) (b_ : Nat → Int) (n_ : Nat) (mv0_ : List Nat) (F0_ : Nat) (K0_ : Nat → Nat → Int) (hF0_ : F0_ ≤ 64) (nm0_ : List (Int × (Nat → Int))) (p0_ : zRp b_ n_ Mz) (p1_ : zIF Mz) (p2_ : 0 ≤ ze Mz 81 18) (p3_ : ze Mz 81 18 ≤ 8) (p4_ : zB 83 24 0 5 Mz) (p5_ : zB 85 144 0 5 Mz) (p6_ : 0 ≤ ze Mz 81 60) (p7_ : ze Mz 81 60 ≤ 12) (p8_ : zMvq mv0_ Mz) (p9_ : zRNi nm0_ F0_ K0_ Mz) : zC l m_M_troupe 0 0 [.ref 81] Mz (zpI [1, 2, 3, 4, 5, 6, 7, 8, 9, 10, 11, 12, 13, 14, 16, 17, 18, 20, 25, 26, 38, 39, 41, 42, 43, 58, 60] [83, 84, 85, 86, 87, 88, 89, 90, 91, 92, 93, 94, 95, 96, 97, 98, 100, 101, 102, 103, 104] Mz (fun v N => ze N 81 1 = 0 ∧ 0 ≤ ze N 81 14 ∧ ze N 81 14 ≤ 8 ∧ 0 ≤ ze N 81 18 ∧ ze N 81 18 ≤ 8 ∧ 0 ≤ ze N 81 60 ∧ ze N 81 60 ≤ 12 ∧ zIF N ∧ zB 83 24 0 5 N ∧ (∃ T : zGT, T ∈ gTabs ∧ zGB T N) ∧ (((v = -1 ∧ zTrB b_ n_ (zru zpB b_ n_ 0) ∧ (∃ T : zGT, T ∈ gTabs ∧ zGB T N ∧ zTm mv0_ T ∧ zCdS (ze Mz 81 16) mv0_ T N) ∧ zMvq mv0_ N ∧ ze N 81 16 = ze Mz 81 16 ∧ zRNm nm0_ F0_ K0_ b_ n_ N ∧ zRNi nm0_ F0_ K0_ N ∧ (∀ j : Nat, zg N 98 j = zg Mz 98 j) ∧ ze N 81 60 = ze Mz 81 60) ∨ ∃ P : Nat, ∃ mv : List Nat, ∃ T : zGT, ∃ nm : List (Int × (Nat → Int)), zTrN b_ n_ (zru zpB b_ n_ 0) P mv T nm ∧ v = (gN T : Int) ∧ zGB T N ∧ zMvq mv N ∧ ze N 81 16 = (P : Int) ∧ zCdS (P : Int) mv T N ∧ zRNm nm (gF T).length (gmkI T) b_ n_ N ∧ zRNi nm (gF T).length (gmkI T) N ∧ zZrJ 98 64 N ∧ ze N 81 60 = 0)) ∧ ze N 81 58 = 0)) := by
  refine zC_of (L0 := [some (.ref 81)]) md_M_troupe (Nat.le_of_ble_eq_true rfl) rfl ?_ zQ0
  have hf : zFr [1, 2, 3, 4, 5, 6, 7, 8, 9, 10, 11, 12, 13, 14, 16, 17, 18, 20, 25, 26, 38, 39, 41, 42, 43, 58, 60] [83, 84, 85, 86, 87, 88, 89, 90, 91, 92, 93, 94, 95, 96, 97, 98, 100, 101, 102, 103, 104] Mz Mz := zFr.rf
  have r_1 := ze_r Mz 81 1
  have r_4 := ze_r Mz 81 4
  have r_7 := ze_r Mz 81 7
  have r_12 := ze_r Mz 81 12
  have r_13 := ze_r Mz 81 13
  have r_14 := ze_r Mz 81 14
  have r_16 := ze_r Mz 81 16
  have r_18 := ze_r Mz 81 18
  have r_20 := ze_r Mz 81 20
  have r_58 := ze_r Mz 81 58
  have r_60 := ze_r Mz 81 60
  refine zw_aload_n (pc := 0) (n := 0) (x := 81) rfl (zdal_p dlC_M_troupe_57 (i := 0) rfl) ?_
  refine zw_iconst (pc := 1) (v := Int32.ofInt 1) (by decide) (zdal_p dlC_M_troupe_57 (i := 1) rfl) ?_
  refine zr_putI (hf.w hW) (pc := 2) f_M_115 rfl rfl ⟨by omega, by omega⟩ rfl rfl (zdal_p dlC_M_troupe_57 (i := 2) rfl) (fun N1_ hsN1_ hvN1_ => ?_)
  have hf_N1_ : zFr [1, 2, 3, 4, 5, 6, 7, 8, 9, 10, 11, 12, 13, 14, 16, 17, 18, 20, 25, 26, 38, 39, 41, 42, 43, 58, 60] [83, 84, 85, 86, 87, 88, 89, 90, 91, 92, 93, 94, 95, 96, 97, 98, 100, 101, 102, 103, 104] Mz N1_ := hf.tr hsN1_ (by decide) (by decide)
  have e1_N1_ : ze N1_ 81 1 = ze Mz 81 1 := hsN1_.e (by decide)
  have e4_N1_ : ze N1_ 81 4 = ze Mz 81 4 := hsN1_.e (by decide)
  have e7_N1_ : ze N1_ 81 7 = ze Mz 81 7 := hsN1_.e (by decide)
  have r12_N1_ := ze_r N1_ 81 12
  have e13_N1_ : ze N1_ 81 13 = ze Mz 81 13 := hsN1_.e (by decide)
  have e14_N1_ : ze N1_ 81 14 = ze Mz 81 14 := hsN1_.e (by decide)
  have e16_N1_ : ze N1_ 81 16 = ze Mz 81 16 := hsN1_.e (by decide)
  have e18_N1_ : ze N1_ 81 18 = ze Mz 81 18 := hsN1_.e (by decide)
  have e20_N1_ : ze N1_ 81 20 = ze Mz 81 20 := hsN1_.e (by decide)
  have e58_N1_ : ze N1_ 81 58 = ze Mz 81 58 := hsN1_.e (by decide)
  have e60_N1_ : ze N1_ 81 60 = ze Mz 81 60 := hsN1_.e (by decide)
  have qzr98_N1_ : zr98 N1_ = zr98 Mz := zr98_f hsN1_ (by decide)
  have c2_ : zRp b_ n_ N1_ := zRp.fr hsN1_ p0_ (by decide) (by decide)
  have c3_ : zIF N1_ := zIF.fr hsN1_ p1_ (by decide) (by decide)
  have c4_ : zB 83 24 0 5 N1_ := zB.fr hsN1_ p4_ (by decide) (by decide)
  have c5_ : zB 85 144 0 5 N1_ := zB.fr hsN1_ p5_ (by decide) (by decide)
  have c6_ : zMvq mv0_ N1_ := zMvq.fr hsN1_ p8_ (by decide) (by decide)
  have c7_ : zRNi nm0_ F0_ K0_ N1_ := zRNi.fr hsN1_ p9_ (by decide) (by decide)
  refine zw_aload_n (pc := 5) (n := 0) (x := 81) rfl (zdal_p dlC_M_troupe_57 (i := 3) rfl) ?_
  refine zw_iconst (pc := 6) (v := Int32.ofInt 0) (by decide) (zdal_p dlC_M_troupe_57 (i := 4) rfl) ?_
  refine zr_putI (hf_N1_.w hW) (pc := 7) f_M_199 rfl rfl ⟨by omega, by omega⟩ rfl rfl (zdal_p dlC_M_troupe_57 (i := 5) rfl) (fun N8_ hsN8_ hvN8_ => ?_)
  have hf_N8_ : zFr [1, 2, 3, 4, 5, 6, 7, 8, 9, 10, 11, 12, 13, 14, 16, 17, 18, 20, 25, 26, 38, 39, 41, 42, 43, 58, 60] [83, 84, 85, 86, 87, 88, 89, 90, 91, 92, 93, 94, 95, 96, 97, 98, 100, 101, 102, 103, 104] Mz N8_ := hf_N1_.tr hsN8_ (by decide) (by decide)
  have e1_N8_ : ze N8_ 81 1 = ze N1_ 81 1 := hsN8_.e (by decide)
  have e4_N8_ : ze N8_ 81 4 = ze N1_ 81 4 := hsN8_.e (by decide)
  have e7_N8_ : ze N8_ 81 7 = ze N1_ 81 7 := hsN8_.e (by decide)
  have e12_N8_ : ze N8_ 81 12 = ze N1_ 81 12 := hsN8_.e (by decide)
  have r13_N8_ := ze_r N8_ 81 13
  have e14_N8_ : ze N8_ 81 14 = ze N1_ 81 14 := hsN8_.e (by decide)
  have e16_N8_ : ze N8_ 81 16 = ze N1_ 81 16 := hsN8_.e (by decide)
  have e18_N8_ : ze N8_ 81 18 = ze N1_ 81 18 := hsN8_.e (by decide)
  have e20_N8_ : ze N8_ 81 20 = ze N1_ 81 20 := hsN8_.e (by decide)
  have e58_N8_ : ze N8_ 81 58 = ze N1_ 81 58 := hsN8_.e (by decide)
  have e60_N8_ : ze N8_ 81 60 = ze N1_ 81 60 := hsN8_.e (by decide)
  have qzr98_N8_ : zr98 N8_ = zr98 N1_ := zr98_f hsN8_ (by decide)
  have c9_ : zRp b_ n_ N8_ := zRp.fr hsN8_ c2_ (by decide) (by decide)
  have c10_ : zIF N8_ := zIF.fr hsN8_ c3_ (by decide) (by decide)
  have c11_ : zB 83 24 0 5 N8_ := zB.fr hsN8_ c4_ (by decide) (by decide)
  have c12_ : zB 85 144 0 5 N8_ := zB.fr hsN8_ c5_ (by decide) (by decide)
  have c13_ : zMvq mv0_ N8_ := zMvq.fr hsN8_ c6_ (by decide) (by decide)
  have c14_ : zRNi nm0_ F0_ K0_ N8_ := zRNi.fr hsN8_ c7_ (by decide) (by decide)
  refine zw_aload_n (pc := 10) (n := 0) (x := 81) rfl (zdal_p dlC_M_troupe_57 (i := 6) rfl) ?_
  refine zw_iconst (pc := 11) (v := Int32.ofInt 0) (by decide) (zdal_p dlC_M_troupe_57 (i := 7) rfl) ?_
  refine zr_putI (hf_N8_.w hW) (pc := 12) f_M_299 rfl rfl ⟨by omega, by omega⟩ rfl rfl (zdal_p dlC_M_troupe_57 (i := 8) rfl) (fun N15_ hsN15_ hvN15_ => ?_)
  have hf_N15_ : zFr [1, 2, 3, 4, 5, 6, 7, 8, 9, 10, 11, 12, 13, 14, 16, 17, 18, 20, 25, 26, 38, 39, 41, 42, 43, 58, 60] [83, 84, 85, 86, 87, 88, 89, 90, 91, 92, 93, 94, 95, 96, 97, 98, 100, 101, 102, 103, 104] Mz N15_ := hf_N8_.tr hsN15_ (by decide) (by decide)
  have e1_N15_ : ze N15_ 81 1 = ze N8_ 81 1 := hsN15_.e (by decide)
  have e4_N15_ : ze N15_ 81 4 = ze N8_ 81 4 := hsN15_.e (by decide)
  have e7_N15_ : ze N15_ 81 7 = ze N8_ 81 7 := hsN15_.e (by decide)
  have e12_N15_ : ze N15_ 81 12 = ze N8_ 81 12 := hsN15_.e (by decide)
  have e13_N15_ : ze N15_ 81 13 = ze N8_ 81 13 := hsN15_.e (by decide)
  have r14_N15_ := ze_r N15_ 81 14
  have e16_N15_ : ze N15_ 81 16 = ze N8_ 81 16 := hsN15_.e (by decide)
  have e18_N15_ : ze N15_ 81 18 = ze N8_ 81 18 := hsN15_.e (by decide)
  have e20_N15_ : ze N15_ 81 20 = ze N8_ 81 20 := hsN15_.e (by decide)
  have e58_N15_ : ze N15_ 81 58 = ze N8_ 81 58 := hsN15_.e (by decide)
  have e60_N15_ : ze N15_ 81 60 = ze N8_ 81 60 := hsN15_.e (by decide)
  have qzr98_N15_ : zr98 N15_ = zr98 N8_ := zr98_f hsN15_ (by decide)
  have c16_ : zRp b_ n_ N15_ := zRp.fr hsN15_ c9_ (by decide) (by decide)
  have c17_ : zIF N15_ := zIF.fr hsN15_ c10_ (by decide) (by decide)
  have c18_ : zB 83 24 0 5 N15_ := zB.fr hsN15_ c11_ (by decide) (by decide)
  have c19_ : zB 85 144 0 5 N15_ := zB.fr hsN15_ c12_ (by decide) (by decide)
  have c20_ : zMvq mv0_ N15_ := zMvq.fr hsN15_ c13_ (by decide) (by decide)
  have c21_ : zRNi nm0_ F0_ K0_ N15_ := zRNi.fr hsN15_ c14_ (by decide) (by decide)
  refine zw_aload_n (pc := 15) (n := 0) (x := 81) rfl (zdal_p dlC_M_troupe_57 (i := 9) rfl) ?_
  refine zr_callV (hf_N15_.w hW) hf_N15_.x (pc := 16) [] [] l_M_367 (c_M_beginsF l N15_ (hf_N15_.w hW) b_ n_ c16_) rfl rfl rfl (by decide) (Nat.le_of_ble_eq_true rfl) (zdal_p dlC_M_troupe_57 (i := 10) rfl) ?_
  rintro _ N22_ ⟨rfl, hsN22_, ⟨hp0_N22_, hp1_N22_, hp2_N22_, hp3_N22_, hp4_N22_⟩⟩
  have hf_N22_ : zFr [1, 2, 3, 4, 5, 6, 7, 8, 9, 10, 11, 12, 13, 14, 16, 17, 18, 20, 25, 26, 38, 39, 41, 42, 43, 58, 60] [83, 84, 85, 86, 87, 88, 89, 90, 91, 92, 93, 94, 95, 96, 97, 98, 100, 101, 102, 103, 104] Mz N22_ := hf_N15_.tr hsN22_ (by decide) (by decide)
  have r1_N22_ := ze_r N22_ 81 1
  have r4_N22_ := ze_r N22_ 81 4
  have r7_N22_ := ze_r N22_ 81 7
  have e12_N22_ : ze N22_ 81 12 = ze N15_ 81 12 := hsN22_.e (by decide)
  have e13_N22_ : ze N22_ 81 13 = ze N15_ 81 13 := hsN22_.e (by decide)
  have e14_N22_ : ze N22_ 81 14 = ze N15_ 81 14 := hsN22_.e (by decide)
  have e16_N22_ : ze N22_ 81 16 = ze N15_ 81 16 := hsN22_.e (by decide)
  have e18_N22_ : ze N22_ 81 18 = ze N15_ 81 18 := hsN22_.e (by decide)
  have e20_N22_ : ze N22_ 81 20 = ze N15_ 81 20 := hsN22_.e (by decide)
  have e58_N22_ : ze N22_ 81 58 = ze N15_ 81 58 := hsN22_.e (by decide)
  have e60_N22_ : ze N22_ 81 60 = ze N15_ 81 60 := hsN22_.e (by decide)
  have qzr98_N22_ : zr98 N22_ = zr98 N15_ := zr98_f hsN22_ (by decide)
  have c24_ : zIF N22_ := zIF.fr hsN22_ c17_ (by decide) (by decide)
  have c25_ : zB 83 24 0 5 N22_ := zB.fr hsN22_ c18_ (by decide) (by decide)
  have c26_ : zB 85 144 0 5 N22_ := zB.fr hsN22_ c19_ (by decide) (by decide)
  have c27_ : zMvq mv0_ N22_ := zMvq.fr hsN22_ c20_ (by decide) (by decide)
  have c28_ : zRNi nm0_ F0_ K0_ N22_ := zRNi.fr hsN22_ c21_ (by decide) (by decide)
  show zW l m_M_troupe (zn Mz + 0, zw Mz + 0) N22_ 19 [some (.ref 81)] [] _
  have hs0_ : (ze N22_ 81 4).toNat = (zru zpB b_ n_ 0) := by omega
  refine zw_aload_n (pc := 19) (n := 0) (x := 81) rfl (zdal_p dlC_M_troupe_57 (i := 11) rfl) ?_
  refine zr_callV (hf_N22_.w hW) hf_N22_.x (pc := 20) [] [] l_M_370 (c_M_readsN l N22_ (hf_N22_.w hW) b_ n_ hp0_N22_ hp1_N22_ (show ze N22_ 81 7 = 0 by first | with_reducible assumption | assumption | omega) (show ze N22_ 81 13 = 0 by first | with_reducible assumption | assumption | omega) (show ze N22_ 81 14 = 0 by first | with_reducible assumption | assumption | omega) c25_ c26_) rfl rfl rfl (by decide) (Nat.le_of_ble_eq_true rfl) (zdal_p dlC_M_troupe_57 (i := 12) rfl) ?_
  rintro _ N29_ ⟨rfl, hsN29_, ⟨hp0_N29_, hp1_N29_, hp2_N29_, hp3_N29_, hp4_N29_, hp5_N29_, hp6_N29_, hp7_N29_⟩⟩
  have hf_N29_ : zFr [1, 2, 3, 4, 5, 6, 7, 8, 9, 10, 11, 12, 13, 14, 16, 17, 18, 20, 25, 26, 38, 39, 41, 42, 43, 58, 60] [83, 84, 85, 86, 87, 88, 89, 90, 91, 92, 93, 94, 95, 96, 97, 98, 100, 101, 102, 103, 104] Mz N29_ := hf_N22_.tr hsN29_ (by decide) (by decide)
  have e1_N29_ : ze N29_ 81 1 = ze N22_ 81 1 := hsN29_.e (by decide)
  have r4_N29_ := ze_r N29_ 81 4
  have r7_N29_ := ze_r N29_ 81 7
  have r12_N29_ := ze_r N29_ 81 12
  have r13_N29_ := ze_r N29_ 81 13
  have r14_N29_ := ze_r N29_ 81 14
  have e16_N29_ : ze N29_ 81 16 = ze N22_ 81 16 := hsN29_.e (by decide)
  have e18_N29_ : ze N29_ 81 18 = ze N22_ 81 18 := hsN29_.e (by decide)
  have r20_N29_ := ze_r N29_ 81 20
  have e58_N29_ : ze N29_ 81 58 = ze N22_ 81 58 := hsN29_.e (by decide)
  have e60_N29_ : ze N29_ 81 60 = ze N22_ 81 60 := hsN29_.e (by decide)
  have qzr98_N29_ : zr98 N29_ = zr98 N22_ := zr98_f hsN29_ (by decide)
  have c31_ : zIF N29_ := zIF.fr hsN29_ c24_ (by decide) (by decide)
  have c32_ : zMvq mv0_ N29_ := zMvq.fr hsN29_ c27_ (by decide) (by decide)
  have c33_ : zRNi nm0_ F0_ K0_ N29_ := zRNi.fr hsN29_ c28_ (by decide) (by decide)
  have c34_ : zRb b_ n_ N29_ := zRb.fr hsN29_ hp0_N22_ (by decide) (by decide)
  rcases hp7_N29_ with ⟨ha20_0_hp7_N29_, ha20_1_hp7_N29_⟩ | ⟨ha20_0_hp7_N29_, ha20_1_hp7_N29_, ha20_2_hp7_N29_, ha20_3_hp7_N29_, ha20_4_hp7_N29_, ha20_5_hp7_N29_⟩
  · skip
    have hB_ := ha20_1_hp7_N29_
    rw [hs0_] at hB_
    show zW l m_M_troupe (zn Mz + 0, zw Mz + 0) N29_ 23 [some (.ref 81)] [] _
    refine zw_aload_n (pc := 23) (n := 0) (x := 81) rfl (zdal_p dlC_M_troupe_57 (i := 13) rfl) ?_
    refine zr_callV (hf_N29_.w hW) hf_N29_.x (pc := 24) [] [] l_M_373 (c_M_tells l N29_ (hf_N29_.w hW) ) rfl rfl rfl (by decide) (Nat.le_of_ble_eq_true rfl) (zdal_p dlC_M_troupe_57 (i := 14) rfl) ?_
    rintro _ N35_ ⟨rfl, hsN35_, -⟩
    have hf_N35_ : zFr [1, 2, 3, 4, 5, 6, 7, 8, 9, 10, 11, 12, 13, 14, 16, 17, 18, 20, 25, 26, 38, 39, 41, 42, 43, 58, 60] [83, 84, 85, 86, 87, 88, 89, 90, 91, 92, 93, 94, 95, 96, 97, 98, 100, 101, 102, 103, 104] Mz N35_ := hf_N29_.tr hsN35_ (by decide) (by decide)
    have e1_N35_ : ze N35_ 81 1 = ze N29_ 81 1 := hsN35_.e (by decide)
    have e4_N35_ : ze N35_ 81 4 = ze N29_ 81 4 := hsN35_.e (by decide)
    have e7_N35_ : ze N35_ 81 7 = ze N29_ 81 7 := hsN35_.e (by decide)
    have e12_N35_ : ze N35_ 81 12 = ze N29_ 81 12 := hsN35_.e (by decide)
    have e13_N35_ : ze N35_ 81 13 = ze N29_ 81 13 := hsN35_.e (by decide)
    have e14_N35_ : ze N35_ 81 14 = ze N29_ 81 14 := hsN35_.e (by decide)
    have e16_N35_ : ze N35_ 81 16 = ze N29_ 81 16 := hsN35_.e (by decide)
    have e18_N35_ : ze N35_ 81 18 = ze N29_ 81 18 := hsN35_.e (by decide)
    have e20_N35_ : ze N35_ 81 20 = ze N29_ 81 20 := hsN35_.e (by decide)
    have e58_N35_ : ze N35_ 81 58 = ze N29_ 81 58 := hsN35_.e (by decide)
    have e60_N35_ : ze N35_ 81 60 = ze N29_ 81 60 := hsN35_.e (by decide)
    have qzr98_N35_ : zr98 N35_ = zr98 N29_ := zr98_f hsN35_ (by decide)
    have c37_ : zIF N35_ := zIF.fr hsN35_ c31_ (by decide) (by decide)
    have c38_ : zMvq mv0_ N35_ := zMvq.fr hsN35_ c32_ (by decide) (by decide)
    have c39_ : zRNi nm0_ F0_ K0_ N35_ := zRNi.fr hsN35_ c33_ (by decide) (by decide)
    have c40_ : zRb b_ n_ N35_ := zRb.fr hsN35_ c34_ (by decide) (by decide)
    have c41_ : zRt b_ n_ N35_ := zRt.fr hsN35_ hp0_N29_ (by decide) (by decide)
    have c42_ : zB 83 24 0 5 N35_ := zB.fr hsN35_ hp5_N29_ (by decide) (by decide)
    have c43_ : zB 85 144 0 5 N35_ := zB.fr hsN35_ hp6_N29_ (by decide) (by decide)
    show zW l m_M_troupe (zn Mz + 0, zw Mz + 0) N35_ 27 [some (.ref 81)] [] _
    refine zw_aload_n (pc := 27) (n := 0) (x := 81) rfl (zdal_p dlC_M_troupe_57 (i := 15) rfl) ?_
    refine zr_getI (hf_N35_.w hW) (pc := 28) f_M_172 rfl (zdal_p dlC_M_troupe_57 (i := 16) rfl) ?_
    refine zr_if_le (pc := 31) (tgt := 40) ⟨(ze_r N35_ 81 7).1, (ze_r N35_ 81 7).2⟩ (by decide) (zdal_p dlC_M_troupe_57 (i := 17) rfl) (fun hc_31 => ?_) (fun hc_31 => ?_)
    · skip
      exfalso; omega
    · skip
      refine zw_aload_n (pc := 34) (n := 0) (x := 81) rfl (zdal_p dlC_M_troupe_57 (i := 18) rfl) ?_
      refine zr_callV (hf_N35_.w hW) hf_N35_.x (pc := 35) [] [] l_M_376 (c_M_goesBackU l N35_ (hf_N35_.w hW) mv0_ b_ n_ F0_ K0_ hF0_ nm0_ c37_ (show 0 ≤ ze N35_ 81 18 by first | with_reducible assumption | assumption | omega) (show ze N35_ 81 18 ≤ 8 by first | with_reducible assumption | assumption | omega) c42_ c43_ c38_ c39_) rfl rfl rfl (by decide) (Nat.le_of_ble_eq_true rfl) (zdal_p dlC_M_troupe_57 (i := 19) rfl) ?_
      rintro _ N44_ ⟨rfl, hsN44_, ⟨hp0_N44_, hp1_N44_, hp2_N44_, hp3_N44_, hp4_N44_, hp5_N44_, hp6_N44_, hp7_N44_, hp8_N44_⟩⟩
      have hf_N44_ : zFr [1, 2, 3, 4, 5, 6, 7, 8, 9, 10, 11, 12, 13, 14, 16, 17, 18, 20, 25, 26, 38, 39, 41, 42, 43, 58, 60] [83, 84, 85, 86, 87, 88, 89, 90, 91, 92, 93, 94, 95, 96, 97, 98, 100, 101, 102, 103, 104] Mz N44_ := hf_N35_.tr hsN44_ (by decide) (by decide)
      have e1_N44_ : ze N44_ 81 1 = ze N35_ 81 1 := hsN44_.e (by decide)
      have e4_N44_ : ze N44_ 81 4 = ze N35_ 81 4 := hsN44_.e (by decide)
      have e7_N44_ : ze N44_ 81 7 = ze N35_ 81 7 := hsN44_.e (by decide)
      have r12_N44_ := ze_r N44_ 81 12
      have r13_N44_ := ze_r N44_ 81 13
      have r14_N44_ := ze_r N44_ 81 14
      have e16_N44_ : ze N44_ 81 16 = ze N35_ 81 16 := hsN44_.e (by decide)
      have e18_N44_ : ze N44_ 81 18 = ze N35_ 81 18 := hsN44_.e (by decide)
      have r20_N44_ := ze_r N44_ 81 20
      have r58_N44_ := ze_r N44_ 81 58
      have e60_N44_ : ze N44_ 81 60 = ze N35_ 81 60 := hsN44_.e (by decide)
      have qzr98_N44_ : zr98 N44_ = zr98 N35_ := zr98_f hsN44_ (by decide)
      have c46_ : zIF N44_ := zIF.fr hsN44_ c37_ (by decide) (by decide)
      have c47_ : zMvq mv0_ N44_ := zMvq.fr hsN44_ c38_ (by decide) (by decide)
      have c48_ : zRNi nm0_ F0_ K0_ N44_ := zRNi.fr hsN44_ c39_ (by decide) (by decide)
      have c49_ : zRb b_ n_ N44_ := zRb.fr hsN44_ c40_ (by decide) (by decide)
      have c50_ : zRt b_ n_ N44_ := zRt.fr hsN44_ c41_ (by decide) (by decide)
      show zW l m_M_troupe (zn Mz + 0, zw Mz + 0) N44_ 38 [some (.ref 81)] [] _
      have hEx_ : (∃ T : zGT, T ∈ gTabs ∧ zGB T N44_) := by obtain ⟨T, hTt, hGB, -⟩ := id hp0_N44_; exact ⟨T, hTt, hGB⟩
      have hq0_ : ∃ T : zGT, T ∈ gTabs ∧ zGB T N44_ ∧ zTm mv0_ T ∧ zCdS (ze Mz 81 16) mv0_ T N44_ := by obtain ⟨T, h1_, h2_, h3_, h4_⟩ := id hp0_N44_; exact ⟨T, h1_, h2_, h3_, h4_.p (by omega)⟩
      have h98_ := qzr98_N44_.trans (qzr98_N35_.trans (qzr98_N29_.trans (qzr98_N22_.trans (qzr98_N15_.trans (qzr98_N8_.trans (qzr98_N1_))))))
      have hres_ : (((-1 : Int) = -1 ∧ zTrB b_ n_ (zru zpB b_ n_ 0) ∧ (∃ T : zGT, T ∈ gTabs ∧ zGB T N44_ ∧ zTm mv0_ T ∧ zCdS (ze Mz 81 16) mv0_ T N44_) ∧ zMvq mv0_ N44_ ∧ ze N44_ 81 16 = ze Mz 81 16 ∧ zRNm nm0_ F0_ K0_ b_ n_ N44_ ∧ zRNi nm0_ F0_ K0_ N44_ ∧ (∀ j : Nat, zg N44_ 98 j = zg Mz 98 j) ∧ ze N44_ 81 60 = ze Mz 81 60) ∨ ∃ P : Nat, ∃ mv : List Nat, ∃ T : zGT, ∃ nm : List (Int × (Nat → Int)), zTrN b_ n_ (zru zpB b_ n_ 0) P mv T nm ∧ (-1 : Int) = (gN T : Int) ∧ zGB T N44_ ∧ zMvq mv N44_ ∧ ze N44_ 81 16 = (P : Int) ∧ zCdS (P : Int) mv T N44_ ∧ zRNm nm (gF T).length (gmkI T) b_ n_ N44_ ∧ zRNi nm (gF T).length (gmkI T) N44_ ∧ zZrJ 98 64 N44_ ∧ ze N44_ 81 60 = 0) := Or.inl ⟨rfl, hB_, hq0_, hp5_N44_, by omega, hp6_N44_, hp7_N44_, fun j => congrFun h98_ j, by omega⟩
      refine zw_iconst (pc := 38) (v := Int32.ofInt (-1)) (by decide) (zdal_p dlC_M_troupe_57 (i := 20) rfl) ?_
      exact zr_iret (pc := 39) (ty := .int) rfl rfl ⟨by omega, by omega⟩ hf_N44_ ⟨(show ze N44_ 81 1 = 0 by first | with_reducible assumption | assumption | omega), (show 0 ≤ ze N44_ 81 14 by first | with_reducible assumption | assumption | omega), (show ze N44_ 81 14 ≤ 8 by first | with_reducible assumption | assumption | omega), (show 0 ≤ ze N44_ 81 18 by first | with_reducible assumption | assumption | omega), (show ze N44_ 81 18 ≤ 8 by first | with_reducible assumption | assumption | omega), (show 0 ≤ ze N44_ 81 60 by first | with_reducible assumption | assumption | omega), (show ze N44_ 81 60 ≤ 12 by first | with_reducible assumption | assumption | omega), hp3_N44_, hp4_N44_, (show (∃ T : zGT, T ∈ gTabs ∧ zGB T N44_) by exact hEx_), (show ((((-1)) = -1 ∧ zTrB b_ n_ (zru zpB b_ n_ 0) ∧ (∃ T : zGT, T ∈ gTabs ∧ zGB T N44_ ∧ zTm mv0_ T ∧ zCdS (ze Mz 81 16) mv0_ T N44_) ∧ zMvq mv0_ N44_ ∧ ze N44_ 81 16 = ze Mz 81 16 ∧ zRNm nm0_ F0_ K0_ b_ n_ N44_ ∧ zRNi nm0_ F0_ K0_ N44_ ∧ (∀ j : Nat, zg N44_ 98 j = zg Mz 98 j) ∧ ze N44_ 81 60 = ze Mz 81 60) ∨ ∃ P : Nat, ∃ mv : List Nat, ∃ T : zGT, ∃ nm : List (Int × (Nat → Int)), zTrN b_ n_ (zru zpB b_ n_ 0) P mv T nm ∧ ((-1)) = (gN T : Int) ∧ zGB T N44_ ∧ zMvq mv N44_ ∧ ze N44_ 81 16 = (P : Int) ∧ zCdS (P : Int) mv T N44_ ∧ zRNm nm (gF T).length (gmkI T) b_ n_ N44_ ∧ zRNi nm (gF T).length (gmkI T) N44_ ∧ zZrJ 98 64 N44_ ∧ ze N44_ 81 60 = 0) by exact hres_), (show ze N44_ 81 58 = 0 by first | with_reducible assumption | assumption | omega)⟩ (zdal_p dlC_M_troupe_57 (i := 21) rfl)
  · skip
    obtain ⟨T, mv_, P_, nmt_, hTt, hGB, hG_, hMs_, hPq_, hCd_, hnm_⟩ := id ha20_5_hp7_N29_
    rw [hs0_] at hG_
    show zW l m_M_troupe (zn Mz + 0, zw Mz + 0) N29_ 23 [some (.ref 81)] [] _
    refine zw_aload_n (pc := 23) (n := 0) (x := 81) rfl (zdal_p dlC_M_troupe_57 (i := 13) rfl) ?_
    refine zr_callV (hf_N29_.w hW) hf_N29_.x (pc := 24) [] [] l_M_373 (c_M_tells l N29_ (hf_N29_.w hW) ) rfl rfl rfl (by decide) (Nat.le_of_ble_eq_true rfl) (zdal_p dlC_M_troupe_57 (i := 14) rfl) ?_
    rintro _ N51_ ⟨rfl, hsN51_, -⟩
    have hf_N51_ : zFr [1, 2, 3, 4, 5, 6, 7, 8, 9, 10, 11, 12, 13, 14, 16, 17, 18, 20, 25, 26, 38, 39, 41, 42, 43, 58, 60] [83, 84, 85, 86, 87, 88, 89, 90, 91, 92, 93, 94, 95, 96, 97, 98, 100, 101, 102, 103, 104] Mz N51_ := hf_N29_.tr hsN51_ (by decide) (by decide)
    have e1_N51_ : ze N51_ 81 1 = ze N29_ 81 1 := hsN51_.e (by decide)
    have e4_N51_ : ze N51_ 81 4 = ze N29_ 81 4 := hsN51_.e (by decide)
    have e7_N51_ : ze N51_ 81 7 = ze N29_ 81 7 := hsN51_.e (by decide)
    have e12_N51_ : ze N51_ 81 12 = ze N29_ 81 12 := hsN51_.e (by decide)
    have e13_N51_ : ze N51_ 81 13 = ze N29_ 81 13 := hsN51_.e (by decide)
    have e14_N51_ : ze N51_ 81 14 = ze N29_ 81 14 := hsN51_.e (by decide)
    have e16_N51_ : ze N51_ 81 16 = ze N29_ 81 16 := hsN51_.e (by decide)
    have e18_N51_ : ze N51_ 81 18 = ze N29_ 81 18 := hsN51_.e (by decide)
    have e20_N51_ : ze N51_ 81 20 = ze N29_ 81 20 := hsN51_.e (by decide)
    have e58_N51_ : ze N51_ 81 58 = ze N29_ 81 58 := hsN51_.e (by decide)
    have e60_N51_ : ze N51_ 81 60 = ze N29_ 81 60 := hsN51_.e (by decide)
    have qzr98_N51_ : zr98 N51_ = zr98 N29_ := zr98_f hsN51_ (by decide)
    have c53_ : zIF N51_ := zIF.fr hsN51_ c31_ (by decide) (by decide)
    have c54_ : zMvq mv0_ N51_ := zMvq.fr hsN51_ c32_ (by decide) (by decide)
    have c55_ : zRNi nm0_ F0_ K0_ N51_ := zRNi.fr hsN51_ c33_ (by decide) (by decide)
    have c56_ : zRb b_ n_ N51_ := zRb.fr hsN51_ c34_ (by decide) (by decide)
    have c57_ : zRt b_ n_ N51_ := zRt.fr hsN51_ hp0_N29_ (by decide) (by decide)
    have c58_ : zB 83 24 0 5 N51_ := zB.fr hsN51_ hp5_N29_ (by decide) (by decide)
    have c59_ : zB 85 144 0 5 N51_ := zB.fr hsN51_ hp6_N29_ (by decide) (by decide)
    have c60_ : zPm N51_ := zPm.fr hsN51_ ha20_3_hp7_N29_ (by decide) (by decide)
    have c61_ : zFin N51_ := zFin.fr hsN51_ ha20_4_hp7_N29_ (by decide) (by decide)
    have c62_ : zGB T N51_ := zGB.fr hsN51_ hGB (by decide) (by decide)
    have c63_ : zMvt mv_ N51_ := zMvt.fr hsN51_ hMs_ (by decide) (by decide)
    have c64_ : zCdS (P_ : Int) mv_ T N51_ := zCdS.fr hsN51_ hCd_ (by decide) (by decide)
    have c65_ : zRNm nmt_ (gF T).length (gmkI T) b_ n_ N51_ := zRNm.fr hsN51_ hnm_ (by decide) (by decide)
    show zW l m_M_troupe (zn Mz + 0, zw Mz + 0) N51_ 27 [some (.ref 81)] [] _
    refine zw_aload_n (pc := 27) (n := 0) (x := 81) rfl (zdal_p dlC_M_troupe_57 (i := 15) rfl) ?_
    refine zr_getI (hf_N51_.w hW) (pc := 28) f_M_172 rfl (zdal_p dlC_M_troupe_57 (i := 16) rfl) ?_
    refine zr_if_le (pc := 31) (tgt := 40) ⟨(ze_r N51_ 81 7).1, (ze_r N51_ 81 7).2⟩ (by decide) (zdal_p dlC_M_troupe_57 (i := 17) rfl) (fun hc_31 => ?_) (fun hc_31 => ?_)
    · skip
      refine zw_aload_n (pc := 40) (n := 0) (x := 81) rfl (zdal_p dlC_M_troupe_57 (i := 22) rfl) ?_
      refine zr_callV (hf_N51_.w hW) hf_N51_.x (pc := 41) [] [] l_M_121 (c_M_inForceU l N51_ (hf_N51_.w hW) mv_ b_ n_ (gF T).length (gmkI T) (show (gF T).length ≤ 64 by have h_ := (gT_zTA hTt).1.2; omega) nmt_ (show 1 ≤ ze N51_ 81 12 by first | with_reducible assumption | assumption | omega) (show ze N51_ 81 12 ≤ 6 by first | with_reducible assumption | assumption | omega) (show 0 ≤ ze N51_ 81 13 by first | with_reducible assumption | assumption | omega) (show ze N51_ 81 13 ≤ 4 by first | with_reducible assumption | assumption | omega) c60_ c61_ c58_ (show 0 ≤ ze N51_ 81 14 by first | with_reducible assumption | assumption | omega) (show ze N51_ 81 14 ≤ 8 by first | with_reducible assumption | assumption | omega) c63_ c65_) rfl rfl rfl (by decide) (Nat.le_of_ble_eq_true rfl) (zdal_p dlC_M_troupe_57 (i := 23) rfl) ?_
      rintro _ N66_ ⟨rfl, hsN66_, ⟨hp0_N66_, hp1_N66_, hp2_N66_, hp3_N66_, hp4_N66_, hp5_N66_, hp6_N66_, hp7_N66_, hp8_N66_⟩⟩
      have hf_N66_ : zFr [1, 2, 3, 4, 5, 6, 7, 8, 9, 10, 11, 12, 13, 14, 16, 17, 18, 20, 25, 26, 38, 39, 41, 42, 43, 58, 60] [83, 84, 85, 86, 87, 88, 89, 90, 91, 92, 93, 94, 95, 96, 97, 98, 100, 101, 102, 103, 104] Mz N66_ := hf_N51_.tr hsN66_ (by decide) (by decide)
      have e1_N66_ : ze N66_ 81 1 = ze N51_ 81 1 := hsN66_.e (by decide)
      have e4_N66_ : ze N66_ 81 4 = ze N51_ 81 4 := hsN66_.e (by decide)
      have e7_N66_ : ze N66_ 81 7 = ze N51_ 81 7 := hsN66_.e (by decide)
      have e12_N66_ : ze N66_ 81 12 = ze N51_ 81 12 := hsN66_.e (by decide)
      have e13_N66_ : ze N66_ 81 13 = ze N51_ 81 13 := hsN66_.e (by decide)
      have e14_N66_ : ze N66_ 81 14 = ze N51_ 81 14 := hsN66_.e (by decide)
      have r16_N66_ := ze_r N66_ 81 16
      have r18_N66_ := ze_r N66_ 81 18
      have e20_N66_ : ze N66_ 81 20 = ze N51_ 81 20 := hsN66_.e (by decide)
      have r58_N66_ := ze_r N66_ 81 58
      have r60_N66_ := ze_r N66_ 81 60
      have c68_ : zRb b_ n_ N66_ := zRb.fr hsN66_ c56_ (by decide) (by decide)
      have c69_ : zRt b_ n_ N66_ := zRt.fr hsN66_ c57_ (by decide) (by decide)
      have c70_ : zB 83 24 0 5 N66_ := zB.fr hsN66_ c58_ (by decide) (by decide)
      have c71_ : zB 85 144 0 5 N66_ := zB.fr hsN66_ c59_ (by decide) (by decide)
      have c72_ : zPm N66_ := zPm.fr hsN66_ c60_ (by decide) (by decide)
      have c73_ : zFin N66_ := zFin.fr hsN66_ c61_ (by decide) (by decide)
      have c74_ : zGB T N66_ := zGB.fr hsN66_ c62_ (by decide) (by decide)
      have c75_ : zMvt mv_ N66_ := zMvt.fr hsN66_ c63_ (by decide) (by decide)
      have c76_ : zCdS (P_ : Int) mv_ T N66_ := zCdS.fr hsN66_ c64_ (by decide) (by decide)
      have c77_ : zRNm nmt_ (gF T).length (gmkI T) b_ n_ N66_ := zRNm.fr hsN66_ c65_ (by decide) (by decide)
      show zW l m_M_troupe (zn Mz + 0, zw Mz + 0) N66_ 44 [some (.ref 81)] [] _
      have hGB2_ : zGB T N66_ := c74_
      have hEx_ : (∃ T : zGT, T ∈ gTabs ∧ zGB T N66_) := ⟨T, hTt, hGB2_⟩
      have h20_ := hGB2_.1.1
      have hres_ : (((ze N66_ 81 20) = -1 ∧ zTrB b_ n_ (zru zpB b_ n_ 0) ∧ (∃ T : zGT, T ∈ gTabs ∧ zGB T N66_ ∧ zTm mv0_ T ∧ zCdS (ze Mz 81 16) mv0_ T N66_) ∧ zMvq mv0_ N66_ ∧ ze N66_ 81 16 = ze Mz 81 16 ∧ zRNm nm0_ F0_ K0_ b_ n_ N66_ ∧ zRNi nm0_ F0_ K0_ N66_ ∧ (∀ j : Nat, zg N66_ 98 j = zg Mz 98 j) ∧ ze N66_ 81 60 = ze Mz 81 60) ∨ ∃ P : Nat, ∃ mv : List Nat, ∃ T : zGT, ∃ nm : List (Int × (Nat → Int)), zTrN b_ n_ (zru zpB b_ n_ 0) P mv T nm ∧ (ze N66_ 81 20) = (gN T : Int) ∧ zGB T N66_ ∧ zMvq mv N66_ ∧ ze N66_ 81 16 = (P : Int) ∧ zCdS (P : Int) mv T N66_ ∧ zRNm nm (gF T).length (gmkI T) b_ n_ N66_ ∧ zRNi nm (gF T).length (gmkI T) N66_ ∧ zZrJ 98 64 N66_ ∧ ze N66_ 81 60 = 0) := Or.inr ⟨P_, mv_, T, nmt_, hG_, h20_, hGB2_, hp4_N66_, by omega, c76_, c77_, hp6_N66_, hp7_N66_, by omega⟩
      refine zw_aload_n (pc := 44) (n := 0) (x := 81) rfl (zdal_p dlC_M_troupe_58 (i := 0) rfl) ?_
      refine zr_getI (hf_N66_.w hW) (pc := 45) f_M_196 rfl (zdal_p dlC_M_troupe_58 (i := 1) rfl) ?_
      exact zr_iret (pc := 48) (ty := .int) rfl rfl ⟨by omega, by omega⟩ hf_N66_ ⟨(show ze N66_ 81 1 = 0 by first | with_reducible assumption | assumption | omega), (show 0 ≤ ze N66_ 81 14 by first | with_reducible assumption | assumption | omega), (show ze N66_ 81 14 ≤ 8 by first | with_reducible assumption | assumption | omega), (show 0 ≤ ze N66_ 81 18 by first | with_reducible assumption | assumption | omega), (show ze N66_ 81 18 ≤ 8 by first | with_reducible assumption | assumption | omega), (show 0 ≤ ze N66_ 81 60 by first | with_reducible assumption | assumption | omega), (show ze N66_ 81 60 ≤ 12 by first | with_reducible assumption | assumption | omega), hp0_N66_, c70_, (show (∃ T : zGT, T ∈ gTabs ∧ zGB T N66_) by exact hEx_), (show (((ze N66_ 81 20) = -1 ∧ zTrB b_ n_ (zru zpB b_ n_ 0) ∧ (∃ T : zGT, T ∈ gTabs ∧ zGB T N66_ ∧ zTm mv0_ T ∧ zCdS (ze Mz 81 16) mv0_ T N66_) ∧ zMvq mv0_ N66_ ∧ ze N66_ 81 16 = ze Mz 81 16 ∧ zRNm nm0_ F0_ K0_ b_ n_ N66_ ∧ zRNi nm0_ F0_ K0_ N66_ ∧ (∀ j : Nat, zg N66_ 98 j = zg Mz 98 j) ∧ ze N66_ 81 60 = ze Mz 81 60) ∨ ∃ P : Nat, ∃ mv : List Nat, ∃ T : zGT, ∃ nm : List (Int × (Nat → Int)), zTrN b_ n_ (zru zpB b_ n_ 0) P mv T nm ∧ (ze N66_ 81 20) = (gN T : Int) ∧ zGB T N66_ ∧ zMvq mv N66_ ∧ ze N66_ 81 16 = (P : Int) ∧ zCdS (P : Int) mv T N66_ ∧ zRNm nm (gF T).length (gmkI T) b_ n_ N66_ ∧ zRNi nm (gF T).length (gmkI T) N66_ ∧ zZrJ 98 64 N66_ ∧ ze N66_ 81 60 = 0) by exact hres_), (show ze N66_ 81 58 = 0 by first | with_reducible assumption | assumption | omega)⟩ (zdal_p dlC_M_troupe_58 (i := 2) rfl)
    · skip
      exfalso; omega
