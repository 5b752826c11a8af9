set_option maxHeartbeats 4000000 in
theorem c_M_laysUnitsS (l : Launch) (Mz : zMem) (hW : zMt Mz) (T : zGT) (hO : gOK T) (hX : gEx T) (hT : T ∈ gTabs) (hGr : gGr T) (p0_ : zGB T Mz) (p1_ : zB 110 65536 0 2147483647 Mz) (p2_ : 0 ≤ ze Mz 81 57) (p3_ : ze Mz 81 57 ≤ 65536) (p4_ : zyW T Mz) : zC l m_M_laysUnits 0 0 [.ref 81] Mz (zpV [55, 57, 58] [109, 110] Mz (fun N => zB 110 65536 0 2147483647 N ∧ 0 ≤ ze N 81 57 ∧ ze N 81 57 ≤ 65536 ∧ ze N 81 58 = 1 ∧ (zyO T N (gF T).length (ze N 81 57)))) := by
  refine zC_of (L0 := [some (.ref 81), none, none, none, none, none]) md_M_laysUnits (Nat.le_of_ble_eq_true rfl) rfl ?_ zQ0
  have hf : zFr [55, 57, 58] [109, 110] Mz Mz := zFr.rf
  have r_26 := ze_r Mz 81 26
  have r_55 := ze_r Mz 81 55
  have r_57 := ze_r Mz 81 57
  have r_58 := ze_r Mz 81 58
  have hG := hO.1
  have g24 := hG.2.1
  have g1 := hG.1
  have dv0 : zTab T Mz := p0_.1
  have dv1 : zB 85 144 0 5 Mz := p0_.2.1
  have dv2 : zJX T Mz := p0_.2.2.1
  have dv3 : zFirs T Mz := p0_.2.2.2.1
  have dv4 : zSSm T Mz := p0_.2.2.2.2.1
  have dv5 : zGD Mz := zGB.d hO p0_
  have gb := dv5.1
  have gn := dv0.1
  have gfl := dv3.1
  have gf6 := gF_pos hO
  have gxl := hX.2.1
  have hyw_ : ze Mz 81 58 = 0 ∨ (ze Mz 81 58 = 1 ∧ (0 ≤ ze Mz 81 57 ∧ ze Mz 81 57 ≤ 65536) ∧ zyO T Mz (gF T).length (ze Mz 81 57)) := p4_
  refine zw_aload_n (pc := 0) (n := 0) (x := 81) rfl (zdal_p dlD_M_laysUnits_76 (i := 0) rfl) ?_
  refine zr_getI (hf.w hW) (pc := 1) f_M_394 rfl (zdal_p dlD_M_laysUnits_76 (i := 1) rfl) ?_
  refine zr_if_eq (pc := 4) (tgt := 8) ⟨(ze_r Mz 81 58).1, (ze_r Mz 81 58).2⟩ (by decide) (zdal_p dlD_M_laysUnits_76 (i := 2) rfl) (fun hc_4 => ?_) (fun hc_4 => ?_)
  · skip
    refine zw_aload_n (pc := 8) (n := 0) (x := 81) rfl (zdal_p dlD_M_laysUnits_76 (i := 4) rfl) ?_
    refine zw_iconst (pc := 9) (v := Int32.ofInt 1) (by decide) (zdal_p dlD_M_laysUnits_76 (i := 5) rfl) ?_
    refine zr_putI (hf.w hW) (pc := 10) f_M_394 rfl rfl ⟨by omega, by omega⟩ (z_narB (by omega)) (z_fitB (by omega)) (zdal_p dlD_M_laysUnits_76 (i := 6) rfl) (fun N1_ hsN1_ hvN1_ => ?_)
    have hf_N1_ : zFr [55, 57, 58] [109, 110] Mz N1_ := hf.tr hsN1_ (by decide) (by decide)
    have e26_N1_ : ze N1_ 81 26 = ze Mz 81 26 := hsN1_.e (by decide)
    have e55_N1_ : ze N1_ 81 55 = ze Mz 81 55 := hsN1_.e (by decide)
    have e57_N1_ : ze N1_ 81 57 = ze Mz 81 57 := hsN1_.e (by decide)
    have r58_N1_ := ze_r N1_ 81 58
    have c2_ : zGB T N1_ := zGB.fr hsN1_ p0_ (by decide) (by decide)
    have c3_ : zB 110 65536 0 2147483647 N1_ := zB.fr hsN1_ p1_ (by decide) (by decide)
    have c4_ : zTab T N1_ := zTab.fr hsN1_ dv0 (by decide) (by decide)
    have c5_ : zB 85 144 0 5 N1_ := zB.fr hsN1_ dv1 (by decide) (by decide)
    have c6_ : zJX T N1_ := zJX.fr hsN1_ dv2 (by decide) (by decide)
    have c7_ : zFirs T N1_ := zFirs.fr hsN1_ dv3 (by decide) (by decide)
    have c8_ : zSSm T N1_ := zSSm.fr hsN1_ dv4 (by decide) (by decide)
    have c9_ : zGD N1_ := zGD.fr hsN1_ dv5 (by decide) (by decide)
    refine zw_aload_n (pc := 13) (n := 0) (x := 81) rfl (zdal_p dlD_M_laysUnits_76 (i := 7) rfl) ?_
    refine zw_iconst (pc := 14) (v := Int32.ofInt 1) (by decide) (zdal_p dlD_M_laysUnits_76 (i := 8) rfl) ?_
    refine zr_putI (hf_N1_.w hW) (pc := 15) f_M_459 rfl rfl ⟨by omega, by omega⟩ rfl rfl (zdal_p dlD_M_laysUnits_76 (i := 9) rfl) (fun N10_ hsN10_ hvN10_ => ?_)
    have hf_N10_ : zFr [55, 57, 58] [109, 110] Mz N10_ := hf_N1_.tr hsN10_ (by decide) (by decide)
    have e26_N10_ : ze N10_ 81 26 = ze N1_ 81 26 := hsN10_.e (by decide)
    have e55_N10_ : ze N10_ 81 55 = ze N1_ 81 55 := hsN10_.e (by decide)
    have r57_N10_ := ze_r N10_ 81 57
    have e58_N10_ : ze N10_ 81 58 = ze N1_ 81 58 := hsN10_.e (by decide)
    have c11_ : zGB T N10_ := zGB.fr hsN10_ c2_ (by decide) (by decide)
    have c12_ : zB 110 65536 0 2147483647 N10_ := zB.fr hsN10_ c3_ (by decide) (by decide)
    have c13_ : zTab T N10_ := zTab.fr hsN10_ c4_ (by decide) (by decide)
    have c14_ : zB 85 144 0 5 N10_ := zB.fr hsN10_ c5_ (by decide) (by decide)
    have c15_ : zJX T N10_ := zJX.fr hsN10_ c6_ (by decide) (by decide)
    have c16_ : zFirs T N10_ := zFirs.fr hsN10_ c7_ (by decide) (by decide)
    have c17_ : zSSm T N10_ := zSSm.fr hsN10_ c8_ (by decide) (by decide)
    have c18_ : zGD N10_ := zGD.fr hsN10_ c9_ (by decide) (by decide)
    refine zw_aload_n (pc := 18) (n := 0) (x := 81) rfl (zdal_p dlD_M_laysUnits_76 (i := 10) rfl) ?_
    refine zr_getF (r := 110) (hf_N10_.w hW) (pc := 19) f_M_103 rfl (zh_110 (hf_N10_.w hW)).1 (zdal_p dlD_M_laysUnits_76 (i := 11) rfl) ?_
    refine zw_iconst (pc := 22) (v := Int32.ofInt 0) (by decide) (zdal_p dlD_M_laysUnits_76 (i := 12) rfl) ?_
    refine zw_iconst (pc := 23) (v := Int32.ofInt 0) (by decide) (zdal_p dlD_M_laysUnits_76 (i := 13) rfl) ?_
    refine zr_iast (pc := 24) (zh_110 (hf_N10_.w hW)).2 (by decide) (by decide) (by omega) (by omega) (zdal_p dlD_M_laysUnits_76 (i := 14) rfl) (fun N19_ hN19_ hsN19_ => ?_)
    have hf_N19_ : zFr [55, 57, 58] [109, 110] Mz N19_ := hf_N10_.tr hsN19_ (by decide) (by decide)
    have e26_N19_ : ze N19_ 81 26 = ze N10_ 81 26 := hsN19_.e (by decide)
    have e55_N19_ : ze N19_ 81 55 = ze N10_ 81 55 := hsN19_.e (by decide)
    have e57_N19_ : ze N19_ 81 57 = ze N10_ 81 57 := hsN19_.e (by decide)
    have e58_N19_ : ze N19_ 81 58 = ze N10_ 81 58 := hsN19_.e (by decide)
    have c20_ : zGB T N19_ := zGB.fr hsN19_ c11_ (by decide) (by decide)
    have c21_ : zB 110 65536 0 2147483647 N19_ := zB.s c12_ hN19_ (by omega) (by omega) (by decide) (by decide)
    have c22_ : zTab T N19_ := zTab.fr hsN19_ c13_ (by decide) (by decide)
    have c23_ : zB 85 144 0 5 N19_ := zB.fr hsN19_ c14_ (by decide) (by decide)
    have c24_ : zJX T N19_ := zJX.fr hsN19_ c15_ (by decide) (by decide)
    have c25_ : zFirs T N19_ := zFirs.fr hsN19_ c16_ (by decide) (by decide)
    have c26_ : zSSm T N19_ := zSSm.fr hsN19_ c17_ (by decide) (by decide)
    have c27_ : zGD N19_ := zGD.fr hsN19_ c18_ (by decide) (by decide)
    have hz0_ : ze N19_ 110 0 = 0 := zs_get hN19_ ⟨by decide, by decide⟩
    refine zw_aload_n (pc := 25) (n := 0) (x := 81) rfl (zdal_p dlD_M_laysUnits_76 (i := 15) rfl) ?_
    refine zr_getI0 hf_N19_ hW (pc := 26) (by decide) f_M_235 rfl (zdal_p dlD_M_laysUnits_76 (i := 16) rfl) ?_
    refine zw_iconst (pc := 29) (v := Int32.ofInt 1) (by decide) (zdal_p dlD_M_laysUnits_76 (i := 17) rfl) ?_
    refine zr_isub (pc := 30) (zdal_p dlD_M_laysUnits_76 (i := 18) rfl) ?_
    refine zw_istore_n (pc := 31) (i := 1) (L2 := [some (.ref 81), some (.int (Int32.ofInt ((ze Mz 81 26) - 1))), none, none, none, none]) rfl (by decide) rfl (zdal_p dlD_M_laysUnits_76 (i := 19) rfl) ?_
    have lp_32 : ∀ (n : Nat) (u28_ : Int) (hu28_a : -2147483648 ≤ u28_) (hu28_b : u28_ < 2147483648) (N29_ : zMem) (hs30_ : zFr [55, 57] [109, 110] N19_ N29_) (i31_ : -1 ≤ u28_) (i32_ : u28_ ≤ ze Mz 81 26 - 1) (i33_ : zUo T N29_ (ze Mz 81 26 - 1 - u28_).toNat (ze N29_ 81 57)) (i34_ : 0 ≤ ze N29_ 81 57) (i35_ : ze N29_ 81 57 ≤ 65536) (i36_ : zyO T N29_ (ze Mz 81 26 - 1 - u28_).toNat (ze N29_ 81 57)) (i37_ : ze N29_ 81 58 = 1) (i38_ : zB 110 65536 0 2147483647 N29_), (u28_ + 1).toNat < n → zW l m_M_laysUnits (zn Mz + 0, zw Mz + 0) N29_ 32 [some (.ref 81), some (.int (Int32.ofInt u28_)), none, none, none, none] [] (zpV [55, 57, 58] [109, 110] Mz (fun N => zB 110 65536 0 2147483647 N ∧ 0 ≤ ze N 81 57 ∧ ze N 81 57 ≤ 65536 ∧ ze N 81 58 = 1 ∧ (zyO T N (gF T).length (ze N 81 57)))) := by
      intro n
      induction n with
      | zero =>
        intro u28_ hu28_a hu28_b N29_ hs30_ i31_ i32_ i33_ i34_ i35_ i36_ i37_ i38_ h0
        exact absurd h0 (Nat.not_lt_zero _)
      | succ n ih_32 =>
        intro u28_ hu28_a hu28_b N29_ hs30_ i31_ i32_ i33_ i34_ i35_ i36_ i37_ i38_ hlt_32
        have hf_N29_ : zFr [55, 57, 58] [109, 110] Mz N29_ := hf_N19_.tr hs30_ (by decide) (by decide)
        have e26_N29_ : ze N29_ 81 26 = ze N19_ 81 26 := hs30_.e (by decide)
        have r55_N29_ := ze_r N29_ 81 55
        have r57_N29_ := ze_r N29_ 81 57
        have e58_N29_ : ze N29_ 81 58 = ze N19_ 81 58 := hs30_.e (by decide)
        have c39_ : zGB T N29_ := zGB.fr hs30_ c20_ (by decide) (by decide)
        have c40_ : zTab T N29_ := zTab.fr hs30_ c22_ (by decide) (by decide)
        have c41_ : zB 85 144 0 5 N29_ := zB.fr hs30_ c23_ (by decide) (by decide)
        have c42_ : zJX T N29_ := zJX.fr hs30_ c24_ (by decide) (by decide)
        have c43_ : zFirs T N29_ := zFirs.fr hs30_ c25_ (by decide) (by decide)
        have c44_ : zSSm T N29_ := zSSm.fr hs30_ c26_ (by decide) (by decide)
        have c45_ : zGD N29_ := zGD.fr hs30_ c27_ (by decide) (by decide)
        have hyo_ := (show zyO T N29_ (ze Mz 81 26 - 1 - u28_).toNat (ze N29_ 81 57) by first | with_reducible assumption | assumption)
        refine zw_iload_n (pc := 32) (n := 1) (x := Int32.ofInt u28_) rfl (zdal_p dlD_M_laysUnits_76 (i := 20) rfl) ?_
        refine zr_if_lt (pc := 33) (tgt := 215) ⟨hu28_a, hu28_b⟩ (by decide) (zdal_p dlD_M_laysUnits_76 (i := 21) rfl) (fun hc_33 => ?_) (fun hc_33 => ?_)
        · skip
          exact zr_vret (pc := 215) rfl hf_N29_ ⟨i38_, (show 0 ≤ ze N29_ 81 57 by first | with_reducible assumption | assumption | omega), (show ze N29_ 81 57 ≤ 65536 by first | with_reducible assumption | assumption | omega), (show ze N29_ 81 58 = 1 by first | with_reducible assumption | assumption | omega), (show (zyO T N29_ (gF T).length (ze N29_ 81 57)) by rw [show (gF T).length = (ze Mz 81 26 - 1 - u28_).toNat by omega]; exact hyo_)⟩ (zdal_p dlD_M_laysUnits_80 (i := 21) rfl)
        · skip
          refine zw_aload_n (pc := 36) (n := 0) (x := 81) rfl (zdal_p dlD_M_laysUnits_76 (i := 22) rfl) ?_
          refine zw_iload_n (pc := 37) (n := 1) (x := Int32.ofInt u28_) rfl (zdal_p dlD_M_laysUnits_76 (i := 23) rfl) ?_
          refine zr_callV (hf_N29_.w hW) hf_N29_.x (pc := 38) [.int (Int32.ofInt u28_)] [] l_M_456 (c_M_laysMadeS l N29_ (hf_N29_.w hW) u28_ hu28_a hu28_b T hO hX c39_ (show 0 ≤ u28_ by first | with_reducible assumption | assumption | omega) (show u28_ < ze N29_ 81 26 by first | with_reducible assumption | assumption | omega)) rfl rfl rfl (by decide) (Nat.le_of_ble_eq_true rfl) (zdal_p dlD_M_laysUnits_77 (i := 0) rfl) ?_
          rintro _ N46_ ⟨rfl, hsN46_, ⟨hp0_N46_, hp1_N46_, hp2_N46_, hp3_N46_⟩⟩
          have hf_N46_ : zFr [55, 57, 58] [109, 110] Mz N46_ := hf_N29_.tr hsN46_ (by decide) (by decide)
          have hb0_N46_ : zFr [55, 57] [109, 110] N19_ N46_ := hs30_.tr hsN46_ (by decide) (by decide)
          have e26_N46_ : ze N46_ 81 26 = ze N29_ 81 26 := hsN46_.e (by decide)
          have r55_N46_ := ze_r N46_ 81 55
          have e57_N46_ : ze N46_ 81 57 = ze N29_ 81 57 := hsN46_.e (by decide)
          have e58_N46_ : ze N46_ 81 58 = ze N29_ 81 58 := hsN46_.e (by decide)
          have c48_ : zGB T N46_ := zGB.fr hsN46_ c39_ (by decide) (by decide)
          have c49_ : zTab T N46_ := zTab.fr hsN46_ c40_ (by decide) (by decide)
          have c50_ : zB 85 144 0 5 N46_ := zB.fr hsN46_ c41_ (by decide) (by decide)
          have c51_ : zJX T N46_ := zJX.fr hsN46_ c42_ (by decide) (by decide)
          have c52_ : zFirs T N46_ := zFirs.fr hsN46_ c43_ (by decide) (by decide)
          have c53_ : zSSm T N46_ := zSSm.fr hsN46_ c44_ (by decide) (by decide)
          have c54_ : zGD N46_ := zGD.fr hsN46_ c45_ (by decide) (by decide)
          have c55_ : zB 110 65536 0 2147483647 N46_ := zB.fr hsN46_ i38_ (by decide) (by decide)
          show zW l m_M_laysUnits (zn Mz + 0, zw Mz + 0) N46_ 41 [some (.ref 81), some (.int (Int32.ofInt u28_)), none, none, none, none] [] _
          have hUo_ : zUo T N46_ (ze Mz 81 26 - 1 - u28_).toNat (ze N46_ 81 57) := by rw [show ze N46_ 81 57 = ze N29_ 81 57 by omega]; exact zUo.fr hsN46_ (by first | with_reducible assumption | assumption) (by decide)
          have hbd_ := zUo_b hX (by omega) hUo_
          have hUa_ := zUa_0 hUo_.1 hUo_.2.2
          have hug_ := hUo_.2.1
          have h2d_ := gp30 (d := (ze Mz 81 26 - 1 - u28_).toNat) (by omega)
          have hym_ : zMsN T (u28_).toNat N46_ := hp3_N46_
          have hyo2_ : zyO T N46_ (ze Mz 81 26 - 1 - u28_).toNat (ze N46_ 81 57) := by rw [show ze N46_ 81 57 = ze N29_ 81 57 by omega]; exact zyO_c hyo_ (fun i_ => hsN46_.ie (by decide) (by decide) i_)
          refine zw_iconst (pc := 41) (v := Int32.ofInt 1) (by decide) (zdal_p dlD_M_laysUnits_77 (i := 1) rfl) ?_
          refine zw_aload_n (pc := 42) (n := 0) (x := 81) rfl (zdal_p dlD_M_laysUnits_77 (i := 2) rfl) ?_
          refine zr_getI0 hf_N46_ hW (pc := 43) (by decide) f_M_235 rfl (zdal_p dlD_M_laysUnits_77 (i := 3) rfl) ?_
          refine zw_iconst (pc := 46) (v := Int32.ofInt 1) (by decide) (zdal_p dlD_M_laysUnits_77 (i := 4) rfl) ?_
          refine zr_isub (pc := 47) (zdal_p dlD_M_laysUnits_77 (i := 5) rfl) ?_
          refine zw_iload_n (pc := 48) (n := 1) (x := Int32.ofInt u28_) rfl (zdal_p dlD_M_laysUnits_77 (i := 6) rfl) ?_
          refine zr_isub (pc := 49) (zdal_p dlD_M_laysUnits_77 (i := 7) rfl) ?_
          refine zr_ishl (pc := 50) (zdal_p dlD_M_laysUnits_77 (i := 8) rfl) ?_
          have hr56_ := zshl_r 1 (((ze Mz 81 26) - 1) - u28_)
          have hbit_ : (zshl 1 (((ze Mz 81 26) - 1) - u28_)) = zshl 1 (((ze Mz 81 26 - 1 - u28_).toNat : Nat) : Int) := by rw [show (((ze Mz 81 26 - 1 - u28_).toNat : Nat) : Int) = ze Mz 81 26 - 1 - u28_ by omega]
          have hbp_ := zshl_p (k := ze Mz 81 26 - 1 - u28_) (by omega) (by omega)
          refine zw_istore_n (pc := 51) (i := 2) (L2 := [some (.ref 81), some (.int (Int32.ofInt u28_)), some (.int (Int32.ofInt (zshl 1 (((ze Mz 81 26) - 1) - u28_)))), none, none, none]) rfl (by decide) rfl (zdal_p dlD_M_laysUnits_77 (i := 9) rfl) ?_
          refine zw_iconst (pc := 52) (v := Int32.ofInt 0) (by decide) (zdal_p dlD_M_laysUnits_77 (i := 10) rfl) ?_
          refine zw_istore_n (pc := 53) (i := 3) (L2 := [some (.ref 81), some (.int (Int32.ofInt u28_)), some (.int (Int32.ofInt (zshl 1 (((ze Mz 81 26) - 1) - u28_)))), some (.int (Int32.ofInt 0)), none, none]) rfl (by decide) rfl (zdal_p dlD_M_laysUnits_77 (i := 11) rfl) ?_
          refine zw_aload_n (pc := 54) (n := 0) (x := 81) rfl (zdal_p dlD_M_laysUnits_77 (i := 12) rfl) ?_
          refine zr_getI (hf_N46_.w hW) (pc := 55) f_M_459 rfl (zdal_p dlD_M_laysUnits_77 (i := 13) rfl) ?_
          refine zw_istore (pc := 58) (i := 4) (L2 := [some (.ref 81), some (.int (Int32.ofInt u28_)), some (.int (Int32.ofInt (zshl 1 (((ze Mz 81 26) - 1) - u28_)))), some (.int (Int32.ofInt 0)), some (.int (Int32.ofInt (ze N46_ 81 57))), none]) (by decide) rfl (zdal_p dlD_M_laysUnits_77 (i := 14) rfl) ?_
          refine zw_iconst (pc := 60) (v := Int32.ofInt 0) (by decide) (zdal_p dlD_M_laysUnits_77 (i := 15) rfl) ?_
          refine zw_istore (pc := 61) (i := 5) (L2 := [some (.ref 81), some (.int (Int32.ofInt u28_)), some (.int (Int32.ofInt (zshl 1 (((ze Mz 81 26) - 1) - u28_)))), some (.int (Int32.ofInt 0)), some (.int (Int32.ofInt (ze N46_ 81 57))), some (.int (Int32.ofInt 0))]) (by decide) rfl (zdal_p dlD_M_laysUnits_77 (i := 16) rfl) ?_
          have lp_63 : ∀ (n : Nat) (u57_ : Int) (hu57_a : -2147483648 ≤ u57_) (hu57_b : u57_ < 2147483648) (u58_ : Int) (hu58_a : -2147483648 ≤ u58_) (hu58_b : u58_ < 2147483648) (N59_ : zMem) (hs60_ : zFr [] [110] N46_ N59_) (i61_ : zUa N59_ (ze Mz 81 26 - 1 - u28_).toNat (ze N59_ 81 57) u57_ u58_) (i62_ : zMq T u28_ N59_) (i63_ : ze N59_ 81 57 ≤ 32768) (i64_ : ze N59_ 81 57 ≤ ((2 ^ gcu T (ze Mz 81 26 - 1 - u28_).toNat : Nat) : Int)) (i65_ : 0 ≤ u58_) (i66_ : u58_ ≤ ze N59_ 81 57) (i67_ : ze N59_ 81 57 ≤ u57_) (i68_ : u57_ ≤ ze N59_ 81 57 + u58_) (i69_ : zyA T N59_ (ze Mz 81 26 - 1 - u28_).toNat (ze N59_ 81 57) u57_ u58_) (i70_ : zMsN T (u28_).toNat N59_) (i71_ : zB 110 65536 0 2147483647 N59_), (ze N59_ 81 57 - u58_).toNat < n → zW l m_M_laysUnits (zn Mz + 0, zw Mz + 0) N59_ 63 [some (.ref 81), some (.int (Int32.ofInt u28_)), some (.int (Int32.ofInt (zshl 1 (((ze Mz 81 26) - 1) - u28_)))), some (.int (Int32.ofInt 0)), some (.int (Int32.ofInt u57_)), some (.int (Int32.ofInt u58_))] [] (zpV [55, 57, 58] [109, 110] Mz (fun N => zB 110 65536 0 2147483647 N ∧ 0 ≤ ze N 81 57 ∧ ze N 81 57 ≤ 65536 ∧ ze N 81 58 = 1 ∧ (zyO T N (gF T).length (ze N 81 57)))) := by
            intro n
            induction n with
            | zero =>
              intro u57_ hu57_a hu57_b u58_ hu58_a hu58_b N59_ hs60_ i61_ i62_ i63_ i64_ i65_ i66_ i67_ i68_ i69_ i70_ i71_ h0
              exact absurd h0 (Nat.not_lt_zero _)
            | succ n ih_63 =>
              intro u57_ hu57_a hu57_b u58_ hu58_a hu58_b N59_ hs60_ i61_ i62_ i63_ i64_ i65_ i66_ i67_ i68_ i69_ i70_ i71_ hlt_63
              have hf_N59_ : zFr [55, 57, 58] [109, 110] Mz N59_ := hf_N46_.tr hs60_ (by decide) (by decide)
              have hb0_N59_ : zFr [55, 57] [109, 110] N19_ N59_ := hb0_N46_.tr hs60_ (by decide) (by decide)
              have e26_N59_ : ze N59_ 81 26 = ze N46_ 81 26 := hs60_.e (by decide)
              have e55_N59_ : ze N59_ 81 55 = ze N46_ 81 55 := hs60_.e (by decide)
              have e57_N59_ : ze N59_ 81 57 = ze N46_ 81 57 := hs60_.e (by decide)
              have e58_N59_ : ze N59_ 81 58 = ze N46_ 81 58 := hs60_.e (by decide)
              have c72_ : zGB T N59_ := zGB.fr hs60_ c48_ (by decide) (by decide)
              have c73_ : zTab T N59_ := zTab.fr hs60_ c49_ (by decide) (by decide)
              have c74_ : zB 85 144 0 5 N59_ := zB.fr hs60_ c50_ (by decide) (by decide)
              have c75_ : zJX T N59_ := zJX.fr hs60_ c51_ (by decide) (by decide)
              have c76_ : zFirs T N59_ := zFirs.fr hs60_ c52_ (by decide) (by decide)
              have c77_ : zSSm T N59_ := zSSm.fr hs60_ c53_ (by decide) (by decide)
              have c78_ : zGD N59_ := zGD.fr hs60_ c54_ (by decide) (by decide)
              have hya_ := (show zyA T N59_ (ze Mz 81 26 - 1 - u28_).toNat (ze N59_ 81 57) u57_ u58_ by first | with_reducible assumption | assumption)
              have hms_ := (show zMsN T (u28_).toNat N59_ by first | with_reducible assumption | assumption)
              refine zw_iload (pc := 63) (i := 5) (x := Int32.ofInt u58_) rfl (zdal_p dlD_M_laysUnits_77 (i := 17) rfl) ?_
              refine zw_aload_n (pc := 65) (n := 0) (x := 81) rfl (zdal_p dlD_M_laysUnits_77 (i := 18) rfl) ?_
              refine zr_getI (hf_N59_.w hW) (pc := 66) f_M_459 rfl (zdal_p dlD_M_laysUnits_77 (i := 19) rfl) ?_
              refine zr_icmp_ge (pc := 69) (tgt := 117) ⟨hu58_a, hu58_b⟩ ⟨(ze_r N59_ 81 57).1, (ze_r N59_ 81 57).2⟩ (by decide) (zdal_p dlD_M_laysUnits_77 (i := 20) rfl) (fun hc_69 => ?_) (fun hc_69 => ?_)
              · skip
                obtain ⟨um_, hum_⟩ : ∃ u : Int, u = ze N59_ 81 57 := ⟨_, rfl⟩
                obtain ⟨g_, hg_⟩ : ∃ g : Nat → Nat, ∀ i, zuw N59_ i = g i := ⟨_, fun _ => rfl⟩
                have hyz_ := hya_
                rw [show u58_ = um_ by omega, ← hum_] at hyz_
                have hG_ := zyG_0 hyz_ hg_
                refine zw_iconst (pc := 117) (v := Int32.ofInt 0) (by decide) (zdal_p dlD_M_laysUnits_78 (i := 21) rfl) ?_
                refine zw_istore (pc := 118) (i := 5) (L2 := [some (.ref 81), some (.int (Int32.ofInt u28_)), some (.int (Int32.ofInt (zshl 1 (((ze Mz 81 26) - 1) - u28_)))), some (.int (Int32.ofInt 0)), some (.int (Int32.ofInt u57_)), some (.int (Int32.ofInt 0))]) (by decide) rfl (zdal_p dlD_M_laysUnits_78 (i := 22) rfl) ?_
                have lp_120 : ∀ (n : Nat) (u79_ : Int) (hu79_a : -2147483648 ≤ u79_) (hu79_b : u79_ < 2147483648) (u80_ : Int) (hu80_a : -2147483648 ≤ u80_) (hu80_b : u80_ < 2147483648) (N81_ : zMem) (hs82_ : zFr [] [110] N59_ N81_) (i83_ : zUb N81_ (ze Mz 81 26 - 1 - u28_).toNat (ze N81_ 81 57) u57_ u79_ u80_) (i84_ : zMq T u28_ N81_) (i85_ : ze N81_ 81 57 ≤ 32768) (i86_ : ze N81_ 81 57 ≤ ((2 ^ gcu T (ze Mz 81 26 - 1 - u28_).toNat : Nat) : Int)) (i87_ : 0 ≤ u79_) (i88_ : u79_ ≤ u80_) (i89_ : u80_ ≤ ze N81_ 81 57) (i90_ : ze N81_ 81 57 ≤ u57_) (i91_ : u57_ ≤ 2 * ze N81_ 81 57) (i92_ : zyB T g_ N81_ (ze Mz 81 26 - 1 - u28_).toNat u79_ u80_) (i93_ : zMsN T (u28_).toNat N81_) (i94_ : zB 110 65536 0 2147483647 N81_), (ze N81_ 81 57 - u80_).toNat < n → zW l m_M_laysUnits (zn Mz + 0, zw Mz + 0) N81_ 120 [some (.ref 81), some (.int (Int32.ofInt u28_)), some (.int (Int32.ofInt (zshl 1 (((ze Mz 81 26) - 1) - u28_)))), some (.int (Int32.ofInt u79_)), some (.int (Int32.ofInt u57_)), some (.int (Int32.ofInt u80_))] [] (zpV [55, 57, 58] [109, 110] Mz (fun N => zB 110 65536 0 2147483647 N ∧ 0 ≤ ze N 81 57 ∧ ze N 81 57 ≤ 65536 ∧ ze N 81 58 = 1 ∧ (zyO T N (gF T).length (ze N 81 57)))) := by
                  intro n
                  induction n with
                  | zero =>
                    intro u79_ hu79_a hu79_b u80_ hu80_a hu80_b N81_ hs82_ i83_ i84_ i85_ i86_ i87_ i88_ i89_ i90_ i91_ i92_ i93_ i94_ h0
                    exact absurd h0 (Nat.not_lt_zero _)
                  | succ n ih_120 =>
                    intro u79_ hu79_a hu79_b u80_ hu80_a hu80_b N81_ hs82_ i83_ i84_ i85_ i86_ i87_ i88_ i89_ i90_ i91_ i92_ i93_ i94_ hlt_120
                    have hf_N81_ : zFr [55, 57, 58] [109, 110] Mz N81_ := hf_N59_.tr hs82_ (by decide) (by decide)
                    have hb0_N81_ : zFr [55, 57] [109, 110] N19_ N81_ := hb0_N59_.tr hs82_ (by decide) (by decide)
                    have e26_N81_ : ze N81_ 81 26 = ze N59_ 81 26 := hs82_.e (by decide)
                    have e55_N81_ : ze N81_ 81 55 = ze N59_ 81 55 := hs82_.e (by decide)
                    have e57_N81_ : ze N81_ 81 57 = ze N59_ 81 57 := hs82_.e (by decide)
                    have e58_N81_ : ze N81_ 81 58 = ze N59_ 81 58 := hs82_.e (by decide)
                    have c95_ : zGB T N81_ := zGB.fr hs82_ c72_ (by decide) (by decide)
                    have c96_ : zTab T N81_ := zTab.fr hs82_ c73_ (by decide) (by decide)
                    have c97_ : zB 85 144 0 5 N81_ := zB.fr hs82_ c74_ (by decide) (by decide)
                    have c98_ : zJX T N81_ := zJX.fr hs82_ c75_ (by decide) (by decide)
                    have c99_ : zFirs T N81_ := zFirs.fr hs82_ c76_ (by decide) (by decide)
                    have c100_ : zSSm T N81_ := zSSm.fr hs82_ c77_ (by decide) (by decide)
                    have c101_ : zGD N81_ := zGD.fr hs82_ c78_ (by decide) (by decide)
                    have hyb_ := (show zyB T g_ N81_ (ze Mz 81 26 - 1 - u28_).toNat u79_ u80_ by first | with_reducible assumption | assumption)
                    have hms_ := (show zMsN T (u28_).toNat N81_ by first | with_reducible assumption | assumption)
                    refine zw_iload (pc := 120) (i := 5) (x := Int32.ofInt u80_) rfl (zdal_p dlD_M_laysUnits_78 (i := 23) rfl) ?_
                    refine zw_aload_n (pc := 122) (n := 0) (x := 81) rfl (zdal_p dlD_M_laysUnits_79 (i := 0) rfl) ?_
                    refine zr_getI (hf_N81_.w hW) (pc := 123) f_M_459 rfl (zdal_p dlD_M_laysUnits_79 (i := 1) rfl) ?_
                    refine zr_icmp_ge (pc := 126) (tgt := 169) ⟨hu80_a, hu80_b⟩ ⟨(ze_r N81_ 81 57).1, (ze_r N81_ 81 57).2⟩ (by decide) (zdal_p dlD_M_laysUnits_79 (i := 2) rfl) (fun hc_126 => ?_) (fun hc_126 => ?_)
                    · skip
                      have hyb2_ := hyb_
                      rw [show u80_ = um_ by omega] at hyb2_
                      refine zw_aload_n (pc := 169) (n := 0) (x := 81) rfl (zdal_p dlD_M_laysUnits_79 (i := 23) rfl) ?_
                      refine zr_getI (hf_N81_.w hW) (pc := 170) f_M_459 rfl (zdal_p dlD_M_laysUnits_80 (i := 0) rfl) ?_
                      refine zw_istore (pc := 173) (i := 5) (L2 := [some (.ref 81), some (.int (Int32.ofInt u28_)), some (.int (Int32.ofInt (zshl 1 (((ze Mz 81 26) - 1) - u28_)))), some (.int (Int32.ofInt u79_)), some (.int (Int32.ofInt u57_)), some (.int (Int32.ofInt (ze N81_ 81 57)))]) (by decide) rfl (zdal_p dlD_M_laysUnits_80 (i := 1) rfl) ?_
                      have lp_175 : ∀ (n : Nat) (u102_ : Int) (hu102_a : -2147483648 ≤ u102_) (hu102_b : u102_ < 2147483648) (u103_ : Int) (hu103_a : -2147483648 ≤ u103_) (hu103_b : u103_ < 2147483648) (N104_ : zMem) (hs105_ : zFr [] [110] N81_ N104_) (i106_ : zUc N104_ (ze Mz 81 26 - 1 - u28_).toNat (ze N104_ 81 57) u57_ u102_ u103_) (i107_ : zMq T u28_ N104_) (i108_ : ze N104_ 81 57 ≤ 32768) (i109_ : ze N104_ 81 57 ≤ ((2 ^ gcu T (ze Mz 81 26 - 1 - u28_).toNat : Nat) : Int)) (i110_ : 0 ≤ u102_) (i111_ : u102_ ≤ u103_) (i112_ : ze N104_ 81 57 ≤ u103_) (i113_ : u103_ ≤ u57_) (i114_ : u57_ ≤ 2 * ze N104_ 81 57) (i115_ : zyD T g_ N104_ (ze Mz 81 26 - 1 - u28_).toNat um_ u102_ u103_) (i116_ : zB 110 65536 0 2147483647 N104_), (u57_ - u103_).toNat < n → zW l m_M_laysUnits (zn Mz + 0, zw Mz + 0) N104_ 175 [some (.ref 81), some (.int (Int32.ofInt u28_)), some (.int (Int32.ofInt (zshl 1 (((ze Mz 81 26) - 1) - u28_)))), some (.int (Int32.ofInt u102_)), some (.int (Int32.ofInt u57_)), some (.int (Int32.ofInt u103_))] [] (zpV [55, 57, 58] [109, 110] Mz (fun N => zB 110 65536 0 2147483647 N ∧ 0 ≤ ze N 81 57 ∧ ze N 81 57 ≤ 65536 ∧ ze N 81 58 = 1 ∧ (zyO T N (gF T).length (ze N 81 57)))) := by
                        intro n
                        induction n with
                        | zero =>
                          intro u102_ hu102_a hu102_b u103_ hu103_a hu103_b N104_ hs105_ i106_ i107_ i108_ i109_ i110_ i111_ i112_ i113_ i114_ i115_ i116_ h0
                          exact absurd h0 (Nat.not_lt_zero _)
                        | succ n ih_175 =>
                          intro u102_ hu102_a hu102_b u103_ hu103_a hu103_b N104_ hs105_ i106_ i107_ i108_ i109_ i110_ i111_ i112_ i113_ i114_ i115_ i116_ hlt_175
                          have hf_N104_ : zFr [55, 57, 58] [109, 110] Mz N104_ := hf_N81_.tr hs105_ (by decide) (by decide)
                          have hb0_N104_ : zFr [55, 57] [109, 110] N19_ N104_ := hb0_N81_.tr hs105_ (by decide) (by decide)
                          have e26_N104_ : ze N104_ 81 26 = ze N81_ 81 26 := hs105_.e (by decide)
                          have e55_N104_ : ze N104_ 81 55 = ze N81_ 81 55 := hs105_.e (by decide)
                          have e57_N104_ : ze N104_ 81 57 = ze N81_ 81 57 := hs105_.e (by decide)
                          have e58_N104_ : ze N104_ 81 58 = ze N81_ 81 58 := hs105_.e (by decide)
                          have c117_ : zGB T N104_ := zGB.fr hs105_ c95_ (by decide) (by decide)
                          have c118_ : zTab T N104_ := zTab.fr hs105_ c96_ (by decide) (by decide)
                          have c119_ : zB 85 144 0 5 N104_ := zB.fr hs105_ c97_ (by decide) (by decide)
                          have c120_ : zJX T N104_ := zJX.fr hs105_ c98_ (by decide) (by decide)
                          have c121_ : zFirs T N104_ := zFirs.fr hs105_ c99_ (by decide) (by decide)
                          have c122_ : zSSm T N104_ := zSSm.fr hs105_ c100_ (by decide) (by decide)
                          have c123_ : zGD N104_ := zGD.fr hs105_ c101_ (by decide) (by decide)
                          have hyd_ := (show zyD T g_ N104_ (ze Mz 81 26 - 1 - u28_).toNat um_ u102_ u103_ by first | with_reducible assumption | assumption)
                          refine zw_iload (pc := 175) (i := 5) (x := Int32.ofInt u103_) rfl (zdal_p dlD_M_laysUnits_80 (i := 2) rfl) ?_
                          refine zw_iload (pc := 177) (i := 4) (x := Int32.ofInt u57_) rfl (zdal_p dlD_M_laysUnits_80 (i := 3) rfl) ?_
                          refine zr_icmp_ge (pc := 179) (tgt := 204) ⟨hu103_a, hu103_b⟩ ⟨hu57_a, hu57_b⟩ (by decide) (zdal_p dlD_M_laysUnits_80 (i := 4) rfl) (fun hc_179 => ?_) (fun hc_179 => ?_)
                          · skip
                            refine zw_aload_n (pc := 204) (n := 0) (x := 81) rfl (zdal_p dlD_M_laysUnits_80 (i := 16) rfl) ?_
                            refine zw_iload_n (pc := 205) (n := 3) (x := Int32.ofInt u102_) rfl (zdal_p dlD_M_laysUnits_80 (i := 17) rfl) ?_
                            refine zr_putI (hf_N104_.w hW) (pc := 206) f_M_459 rfl rfl ⟨by omega, by omega⟩ rfl rfl (zdal_p dlD_M_laysUnits_80 (i := 18) rfl) (fun N124_ hsN124_ hvN124_ => ?_)
                            have hf_N124_ : zFr [55, 57, 58] [109, 110] Mz N124_ := hf_N104_.tr hsN124_ (by decide) (by decide)
                            have hb0_N124_ : zFr [55, 57] [109, 110] N19_ N124_ := hb0_N104_.tr hsN124_ (by decide) (by decide)
                            have e26_N124_ : ze N124_ 81 26 = ze N104_ 81 26 := hsN124_.e (by decide)
                            have e55_N124_ : ze N124_ 81 55 = ze N104_ 81 55 := hsN124_.e (by decide)
                            have r57_N124_ := ze_r N124_ 81 57
                            have e58_N124_ : ze N124_ 81 58 = ze N104_ 81 58 := hsN124_.e (by decide)
                            have c125_ : zGB T N124_ := zGB.fr hsN124_ c117_ (by decide) (by decide)
                            have c126_ : zTab T N124_ := zTab.fr hsN124_ c118_ (by decide) (by decide)
                            have c127_ : zB 85 144 0 5 N124_ := zB.fr hsN124_ c119_ (by decide) (by decide)
                            have c128_ : zJX T N124_ := zJX.fr hsN124_ c120_ (by decide) (by decide)
                            have c129_ : zFirs T N124_ := zFirs.fr hsN124_ c121_ (by decide) (by decide)
                            have c130_ : zSSm T N124_ := zSSm.fr hsN124_ c122_ (by decide) (by decide)
                            have c131_ : zGD N124_ := zGD.fr hsN124_ c123_ (by decide) (by decide)
                            have c132_ : zB 110 65536 0 2147483647 N124_ := zB.fr hsN124_ i116_ (by decide) (by decide)
                            have hUn_ := zUo_s (d := (ze Mz 81 26 - 1 - u28_).toNat) (j := u28_) (by omega) (by omega) (show ze N104_ 81 57 ≤ ((2 ^ gcu T (ze Mz 81 26 - 1 - u28_).toNat : Nat) : Int) by first | with_reducible assumption | assumption) (show zMq T u28_ N104_ by first | with_reducible assumption | assumption) (show zUc N104_ (ze Mz 81 26 - 1 - u28_).toNat (ze N104_ 81 57) u57_ u102_ u103_ by first | with_reducible assumption | assumption) (by omega) (fun i => hsN124_.ie (by decide) (by decide) i)
                            have hUm_ : zUo T N124_ (ze Mz 81 26 - 1 - (u28_ + (-1))).toNat (ze N124_ 81 57) := by rw [show (ze Mz 81 26 - 1 - (u28_ + (-1))).toNat = (ze Mz 81 26 - 1 - u28_).toNat + 1 by omega, show ze N124_ 81 57 = u102_ by omega]; exact hUn_
                            have hyd2_ := hyd_
                            rw [show u103_ = u57_ by omega] at hyd2_
                            have hyO_ := zyO_s hT hGr (d := (ze Mz 81 26 - 1 - u28_).toNat) (by omega) hG_ ⟨by omega, by omega⟩ hyd2_
                            have hyP_ : zyO T N124_ (ze Mz 81 26 - 1 - (u28_ + (-1))).toNat (ze N124_ 81 57) := by rw [show (ze Mz 81 26 - 1 - (u28_ + (-1))).toNat = (ze Mz 81 26 - 1 - u28_).toNat + 1 by omega, show ze N124_ 81 57 = u102_ by omega]; exact zyO_c hyO_ (fun i_ => hsN124_.ie (by decide) (by decide) i_)
                            refine zr_iinc (pc := 209) (i := 1) (a := u28_) (n := -1) (L2 := [some (.ref 81), some (.int (Int32.ofInt (u28_ + (-1)))), some (.int (Int32.ofInt (zshl 1 (((ze Mz 81 26) - 1) - u28_)))), some (.int (Int32.ofInt u102_)), some (.int (Int32.ofInt u57_)), some (.int (Int32.ofInt u103_))]) rfl (by decide) rfl (zdal_p dlD_M_laysUnits_80 (i := 19) rfl) ?_
                            refine zw_goto (pc := 212) (tgt := 32) (by decide) (zdal_p dlD_M_laysUnits_80 (i := 20) rfl) ?_
                            refine zW_le [some (.ref 81), some (.int (Int32.ofInt (u28_ + (-1)))), none, none, none, none] (⟨rfl, rfl, trivial⟩) ?_
                            exact ih_32 (u28_ + (-1)) (by omega) (by omega) N124_ hb0_N124_ (show -1 ≤ (u28_ + (-1)) by first | with_reducible assumption | assumption | omega) (show (u28_ + (-1)) ≤ ze Mz 81 26 - 1 by first | with_reducible assumption | assumption | omega) (show zUo T N124_ (ze Mz 81 26 - 1 - (u28_ + (-1))).toNat (ze N124_ 81 57) by exact hUm_) (show 0 ≤ ze N124_ 81 57 by first | with_reducible assumption | assumption | omega) (show ze N124_ 81 57 ≤ 65536 by first | with_reducible assumption | assumption | omega) (show zyO T N124_ (ze Mz 81 26 - 1 - (u28_ + (-1))).toNat (ze N124_ 81 57) by exact hyP_) (show ze N124_ 81 58 = 1 by first | with_reducible assumption | assumption | omega) c132_ (by omega)
                          · skip
                            refine zw_aload_n (pc := 182) (n := 0) (x := 81) rfl (zdal_p dlD_M_laysUnits_80 (i := 5) rfl) ?_
                            refine zr_getF (r := 110) (hf_N104_.w hW) (pc := 183) f_M_103 rfl (zh_110 (hf_N104_.w hW)).1 (zdal_p dlD_M_laysUnits_80 (i := 6) rfl) ?_
                            refine zw_iload_n (pc := 186) (n := 3) (x := Int32.ofInt u102_) rfl (zdal_p dlD_M_laysUnits_80 (i := 7) rfl) ?_
                            refine zw_aload_n (pc := 187) (n := 0) (x := 81) rfl (zdal_p dlD_M_laysUnits_80 (i := 8) rfl) ?_
                            refine zr_getF (r := 110) (hf_N104_.w hW) (pc := 188) f_M_103 rfl (zh_110 (hf_N104_.w hW)).1 (zdal_p dlD_M_laysUnits_80 (i := 9) rfl) ?_
                            refine zw_iload (pc := 191) (i := 5) (x := Int32.ofInt u103_) rfl (zdal_p dlD_M_laysUnits_80 (i := 10) rfl) ?_
                            refine zr_ialdn (pc := 193) (zh_110 (hf_N104_.w hW)).2 (by decide) (by omega) (by omega) (zdal_p dlD_M_laysUnits_80 (i := 11) rfl) (fun v133_ hv133_ hv133_a hv133_b => ?_)
                            have hr134_ := i116_.g (e := u103_) (by omega) (by omega)
                            rw [← hv133_] at hr134_
                            have hUi_N104_ := (show zUc N104_ (ze Mz 81 26 - 1 - u28_).toNat (ze N104_ 81 57) u57_ u102_ u103_ by first | with_reducible assumption | assumption).2.1 (u103_).toNat (by omega)
                            refine zr_toI (show v133_ = ze N104_ 110 (u103_).toNat by omega) ?_
                            refine zr_iast (pc := 194) (zh_110 (hf_N104_.w hW)).2 (by decide) (by decide) (by omega) (by omega) (zdal_p dlD_M_laysUnits_80 (i := 12) rfl) (fun N135_ hN135_ hsN135_ => ?_)
                            have hf_N135_ : zFr [55, 57, 58] [109, 110] Mz N135_ := hf_N104_.tr hsN135_ (by decide) (by decide)
                            have hb0_N135_ : zFr [55, 57] [109, 110] N19_ N135_ := hb0_N104_.tr hsN135_ (by decide) (by decide)
                            have hb1_N135_ : zFr [] [110] N81_ N135_ := hs105_.tr hsN135_ (by decide) (by decide)
                            have e26_N135_ : ze N135_ 81 26 = ze N104_ 81 26 := hsN135_.e (by decide)
                            have e55_N135_ : ze N135_ 81 55 = ze N104_ 81 55 := hsN135_.e (by decide)
                            have e57_N135_ : ze N135_ 81 57 = ze N104_ 81 57 := hsN135_.e (by decide)
                            have e58_N135_ : ze N135_ 81 58 = ze N104_ 81 58 := hsN135_.e (by decide)
                            have c136_ : zGB T N135_ := zGB.fr hsN135_ c117_ (by decide) (by decide)
                            have c137_ : zTab T N135_ := zTab.fr hsN135_ c118_ (by decide) (by decide)
                            have c138_ : zB 85 144 0 5 N135_ := zB.fr hsN135_ c119_ (by decide) (by decide)
                            have c139_ : zJX T N135_ := zJX.fr hsN135_ c120_ (by decide) (by decide)
                            have c140_ : zFirs T N135_ := zFirs.fr hsN135_ c121_ (by decide) (by decide)
                            have c141_ : zSSm T N135_ := zSSm.fr hsN135_ c122_ (by decide) (by decide)
                            have c142_ : zGD N135_ := zGD.fr hsN135_ c123_ (by decide) (by decide)
                            have c143_ : zB 110 65536 0 2147483647 N135_ := zB.s i116_ hN135_ (by omega) (by omega) (by decide) (by decide)
                            have hUv_ := zUc_s (d := (ze Mz 81 26 - 1 - u28_).toNat) (by omega) (show zUc N104_ (ze Mz 81 26 - 1 - u28_).toNat (ze N104_ 81 57) u57_ u102_ u103_ by first | with_reducible assumption | assumption) (by omega) rfl hN135_
                            have hyD_ := zyD_s hG_ hyd_ ⟨by omega, by omega⟩ (by omega) ⟨by omega, by omega⟩ hN135_ ⟨by omega, by omega⟩ rfl
                            refine zr_iinc (pc := 195) (i := 3) (a := u102_) (n := 1) (L2 := [some (.ref 81), some (.int (Int32.ofInt u28_)), some (.int (Int32.ofInt (zshl 1 (((ze Mz 81 26) - 1) - u28_)))), some (.int (Int32.ofInt (u102_ + 1))), some (.int (Int32.ofInt u57_)), some (.int (Int32.ofInt u103_))]) rfl (by decide) rfl (zdal_p dlD_M_laysUnits_80 (i := 13) rfl) ?_
                            refine zr_iinc (pc := 198) (i := 5) (a := u103_) (n := 1) (L2 := [some (.ref 81), some (.int (Int32.ofInt u28_)), some (.int (Int32.ofInt (zshl 1 (((ze Mz 81 26) - 1) - u28_)))), some (.int (Int32.ofInt (u102_ + 1))), some (.int (Int32.ofInt u57_)), some (.int (Int32.ofInt (u103_ + 1)))]) rfl (by decide) rfl (zdal_p dlD_M_laysUnits_80 (i := 14) rfl) ?_
                            refine zw_goto (pc := 201) (tgt := 175) (by decide) (zdal_p dlD_M_laysUnits_80 (i := 15) rfl) ?_
                            have hMb_ : zMq T u28_ N135_ := by first | with_reducible assumption | exact zMq.fr hsN135_ (by first | with_reducible assumption | assumption) (by decide) (by decide) | assumption
                            have hUb_ : zUc N135_ (ze Mz 81 26 - 1 - u28_).toNat (ze N135_ 81 57) u57_ (u102_ + 1) (u103_ + 1) := by (rw [show ze N135_ 81 57 = ze N104_ 81 57 by omega]; exact hUv_)
                            exact ih_175 (u102_ + 1) (by omega) (by omega) (u103_ + 1) (by omega) (by omega) N135_ hb1_N135_ (show zUc N135_ (ze Mz 81 26 - 1 - u28_).toNat (ze N135_ 81 57) u57_ (u102_ + 1) (u103_ + 1) by exact hUb_) (show zMq T u28_ N135_ by first | with_reducible assumption | assumption | omega) (show ze N135_ 81 57 ≤ 32768 by first | with_reducible assumption | assumption | omega) (show ze N135_ 81 57 ≤ ((2 ^ gcu T (ze Mz 81 26 - 1 - u28_).toNat : Nat) : Int) by first | with_reducible assumption | assumption | omega) (show 0 ≤ (u102_ + 1) by first | with_reducible assumption | assumption | omega) (show (u102_ + 1) ≤ (u103_ + 1) by first | with_reducible assumption | assumption | omega) (show ze N135_ 81 57 ≤ (u103_ + 1) by first | with_reducible assumption | assumption | omega) (show (u103_ + 1) ≤ u57_ by first | with_reducible assumption | assumption | omega) (show u57_ ≤ 2 * ze N135_ 81 57 by first | with_reducible assumption | assumption | omega) (show zyD T g_ N135_ (ze Mz 81 26 - 1 - u28_).toNat um_ (u102_ + 1) (u103_ + 1) by exact hyD_) c143_ (by omega)
                      exact lp_175 _ u79_ hu79_a hu79_b (ze N81_ 81 57) (ze_r N81_ 81 57).1 (ze_r N81_ 81 57).2 N81_ zFr.rf (show zUc N81_ (ze Mz 81 26 - 1 - u28_).toNat (ze N81_ 81 57) u57_ u79_ (ze N81_ 81 57) by exact zUc_0 (by first | with_reducible assumption | assumption) (by omega)) (show zMq T u28_ N81_ by first | with_reducible assumption | assumption | omega) (show ze N81_ 81 57 ≤ 32768 by first | with_reducible assumption | assumption | omega) (show ze N81_ 81 57 ≤ ((2 ^ gcu T (ze Mz 81 26 - 1 - u28_).toNat : Nat) : Int) by first | with_reducible assumption | assumption | omega) (show 0 ≤ u79_ by first | with_reducible assumption | assumption | omega) (show u79_ ≤ (ze N81_ 81 57) by first | with_reducible assumption | assumption | omega) (show ze N81_ 81 57 ≤ (ze N81_ 81 57) by first | with_reducible assumption | assumption | omega) (show (ze N81_ 81 57) ≤ u57_ by first | with_reducible assumption | assumption | omega) (show u57_ ≤ 2 * ze N81_ 81 57 by first | with_reducible assumption | assumption | omega) (show zyD T g_ N81_ (ze Mz 81 26 - 1 - u28_).toNat um_ u79_ (ze N81_ 81 57) by rw [show (ze N81_ 81 57) = um_ by omega]; exact zyD_0 hyb2_) i94_ (Nat.lt_succ_self _)
                    · skip
                      refine zw_aload_n (pc := 129) (n := 0) (x := 81) rfl (zdal_p dlD_M_laysUnits_79 (i := 3) rfl) ?_
                      refine zw_aload_n (pc := 130) (n := 0) (x := 81) rfl (zdal_p dlD_M_laysUnits_79 (i := 4) rfl) ?_
                      refine zr_getF (r := 110) (hf_N81_.w hW) (pc := 131) f_M_103 rfl (zh_110 (hf_N81_.w hW)).1 (zdal_p dlD_M_laysUnits_79 (i := 5) rfl) ?_
                      refine zw_iload (pc := 134) (i := 5) (x := Int32.ofInt u80_) rfl (zdal_p dlD_M_laysUnits_79 (i := 6) rfl) ?_
                      refine zr_ialdn (pc := 136) (zh_110 (hf_N81_.w hW)).2 (by decide) (by omega) (by omega) (zdal_p dlD_M_laysUnits_79 (i := 7) rfl) (fun v144_ hv144_ hv144_a hv144_b => ?_)
                      have hr145_ := i94_.g (e := u80_) (by omega) (by omega)
                      rw [← hv144_] at hr145_
                      have hUi_N81_ := (show zUb N81_ (ze Mz 81 26 - 1 - u28_).toNat (ze N81_ 81 57) u57_ u79_ u80_ by first | with_reducible assumption | assumption).2.1 (u80_).toNat (by omega)
                      refine zr_toI (show v144_ = ze N81_ 110 (u80_).toNat by omega) ?_
                      refine zw_iload_n (pc := 137) (n := 1) (x := Int32.ofInt u28_) rfl (zdal_p dlD_M_laysUnits_79 (i := 8) rfl) ?_
                      refine zr_callV (hf_N81_.w hW) hf_N81_.x (pc := 138) [.int (Int32.ofInt (ze N81_ 110 (u80_).toNat)), .int (Int32.ofInt u28_)] [] l_M_462 (c_M_isUnitAt l N81_ (hf_N81_.w hW) (ze N81_ 110 (u80_).toNat) (by omega) (by omega) u28_ hu28_a hu28_b T hO hX c95_ (show 0 ≤ (ze N81_ 110 (u80_).toNat) by first | with_reducible assumption | assumption | omega) (show zMq T u28_ N81_ by first | with_reducible assumption | assumption | omega)) rfl rfl rfl (by decide) (Nat.le_of_ble_eq_true rfl) (zdal_p dlD_M_laysUnits_79 (i := 9) rfl) ?_
                      rintro _ N146_ ⟨v147_, rfl, ⟨hv147_a, hv147_b⟩, hsN146_, hp0_N146_⟩
                      obtain rfl := hsN146_.eq.symm
                      replace hp0_N146_ : ((v147_ = 1 ∧ zuk N81_ (ze N81_ 110 (u80_).toNat)) ∨ (v147_ = 0 ∧ ¬ zuk N81_ (ze N81_ 110 (u80_).toNat))) := hp0_N146_
                      rcases hp0_N146_ with ⟨rfl, ha138_0_hp0_N146_⟩ | ⟨rfl, ha138_0_hp0_N146_⟩
                      · skip
                        have hzk_ := ha138_0_hp0_N146_
                        have hyr_ := (zuk_z (T := T) (j := u28_) (by omega) (by first | with_reducible assumption | assumption) hms_).mp hzk_
                        show zW l m_M_laysUnits (zn Mz + 0, zw Mz + 0) N81_ 141 [some (.ref 81), some (.int (Int32.ofInt u28_)), some (.int (Int32.ofInt (zshl 1 (((ze Mz 81 26) - 1) - u28_)))), some (.int (Int32.ofInt u79_)), some (.int (Int32.ofInt u57_)), some (.int (Int32.ofInt u80_))] [.int (Int32.ofInt 1)] _
                        refine zr_if_ne (pc := 141) (tgt := 147) ⟨(by decide), (by decide)⟩ (by decide) (zdal_p dlD_M_laysUnits_79 (i := 10) rfl) (fun hc_141 => ?_) (fun hc_141 => ?_)
                        · skip
                          refine zw_aload_n (pc := 147) (n := 0) (x := 81) rfl (zdal_p dlD_M_laysUnits_79 (i := 12) rfl) ?_
                          refine zr_getF (r := 110) (hf_N81_.w hW) (pc := 148) f_M_103 rfl (zh_110 (hf_N81_.w hW)).1 (zdal_p dlD_M_laysUnits_79 (i := 13) rfl) ?_
                          refine zw_iload_n (pc := 151) (n := 3) (x := Int32.ofInt u79_) rfl (zdal_p dlD_M_laysUnits_79 (i := 14) rfl) ?_
                          refine zw_aload_n (pc := 152) (n := 0) (x := 81) rfl (zdal_p dlD_M_laysUnits_79 (i := 15) rfl) ?_
                          refine zr_getF (r := 110) (hf_N81_.w hW) (pc := 153) f_M_103 rfl (zh_110 (hf_N81_.w hW)).1 (zdal_p dlD_M_laysUnits_79 (i := 16) rfl) ?_
                          refine zw_iload (pc := 156) (i := 5) (x := Int32.ofInt u80_) rfl (zdal_p dlD_M_laysUnits_79 (i := 17) rfl) ?_
                          refine zr_ialdn (pc := 158) (zh_110 (hf_N81_.w hW)).2 (by decide) (by omega) (by omega) (zdal_p dlD_M_laysUnits_79 (i := 18) rfl) (fun v148_ hv148_ hv148_a hv148_b => ?_)
                          have hr149_ := i94_.g (e := u80_) (by omega) (by omega)
                          rw [← hv148_] at hr149_
                          refine zr_toI (show v148_ = ze N81_ 110 (u80_).toNat by omega) ?_
                          refine zr_iast (pc := 159) (zh_110 (hf_N81_.w hW)).2 (by decide) (by decide) (by omega) (by omega) (zdal_p dlD_M_laysUnits_79 (i := 19) rfl) (fun N150_ hN150_ hsN150_ => ?_)
                          have hf_N150_ : zFr [55, 57, 58] [109, 110] Mz N150_ := hf_N81_.tr hsN150_ (by decide) (by decide)
                          have hb0_N150_ : zFr [55, 57] [109, 110] N19_ N150_ := hb0_N81_.tr hsN150_ (by decide) (by decide)
                          have hb1_N150_ : zFr [] [110] N59_ N150_ := hs82_.tr hsN150_ (by decide) (by decide)
                          have e26_N150_ : ze N150_ 81 26 = ze N81_ 81 26 := hsN150_.e (by decide)
                          have e55_N150_ : ze N150_ 81 55 = ze N81_ 81 55 := hsN150_.e (by decide)
                          have e57_N150_ : ze N150_ 81 57 = ze N81_ 81 57 := hsN150_.e (by decide)
                          have e58_N150_ : ze N150_ 81 58 = ze N81_ 81 58 := hsN150_.e (by decide)
                          have c151_ : zGB T N150_ := zGB.fr hsN150_ c95_ (by decide) (by decide)
                          have c152_ : zTab T N150_ := zTab.fr hsN150_ c96_ (by decide) (by decide)
                          have c153_ : zB 85 144 0 5 N150_ := zB.fr hsN150_ c97_ (by decide) (by decide)
                          have c154_ : zJX T N150_ := zJX.fr hsN150_ c98_ (by decide) (by decide)
                          have c155_ : zFirs T N150_ := zFirs.fr hsN150_ c99_ (by decide) (by decide)
                          have c156_ : zSSm T N150_ := zSSm.fr hsN150_ c100_ (by decide) (by decide)
                          have c157_ : zGD N150_ := zGD.fr hsN150_ c101_ (by decide) (by decide)
                          have c158_ : zB 110 65536 0 2147483647 N150_ := zB.s i94_ hN150_ (by omega) (by omega) (by decide) (by decide)
                          have hUt_ := zUb_s1 (d := (ze Mz 81 26 - 1 - u28_).toNat) (by omega) (show zUb N81_ (ze Mz 81 26 - 1 - u28_).toNat (ze N81_ 81 57) u57_ u79_ u80_ by first | with_reducible assumption | assumption) (by omega) rfl hzk_ hN150_
                          have hyB_ := zyB_s hG_ hyb_ (by omega) (by omega) ⟨by omega, by omega⟩ (by rw [(show (gF T).length - 1 - (ze Mz 81 26 - 1 - u28_).toNat = (u28_).toNat by omega)]; exact hyr_) hN150_ ⟨by omega, by omega⟩ rfl
                          refine zr_iinc (pc := 160) (i := 3) (a := u79_) (n := 1) (L2 := [some (.ref 81), some (.int (Int32.ofInt u28_)), some (.int (Int32.ofInt (zshl 1 (((ze Mz 81 26) - 1) - u28_)))), some (.int (Int32.ofInt (u79_ + 1))), some (.int (Int32.ofInt u57_)), some (.int (Int32.ofInt u80_))]) rfl (by decide) rfl (zdal_p dlD_M_laysUnits_79 (i := 20) rfl) ?_
                          refine zr_iinc (pc := 163) (i := 5) (a := u80_) (n := 1) (L2 := [some (.ref 81), some (.int (Int32.ofInt u28_)), some (.int (Int32.ofInt (zshl 1 (((ze Mz 81 26) - 1) - u28_)))), some (.int (Int32.ofInt (u79_ + 1))), some (.int (Int32.ofInt u57_)), some (.int (Int32.ofInt (u80_ + 1)))]) rfl (by decide) rfl (zdal_p dlD_M_laysUnits_79 (i := 21) rfl) ?_
                          refine zw_goto (pc := 166) (tgt := 120) (by decide) (zdal_p dlD_M_laysUnits_79 (i := 22) rfl) ?_
                          have hMb_ : zMq T u28_ N150_ := by first | with_reducible assumption | exact zMq.fr hsN150_ (by first | with_reducible assumption | assumption) (by decide) (by decide) | assumption
                          have hUb_ : zUb N150_ (ze Mz 81 26 - 1 - u28_).toNat (ze N150_ 81 57) u57_ (u79_ + 1) (u80_ + 1) := by first | exact zUb_s0 (by first | with_reducible assumption | assumption) (by omega) | (rw [show ze N150_ 81 57 = ze N81_ 81 57 by omega]; exact hUt_)
                          have hmsb_ : zMsN T (u28_).toNat N150_ := by first | with_reducible assumption | exact zMsN.fr hsN150_ hms_ (by decide) (by decide) | assumption
                          have hyx_ : zyB T g_ N150_ (ze Mz 81 26 - 1 - u28_).toNat (u79_ + 1) (u80_ + 1) := by first | exact zyB_n hyb_ (by omega) (by rw [(show (gF T).length - 1 - (ze Mz 81 26 - 1 - u28_).toNat = (u28_).toNat by omega)]; exact hyn0_) | exact hyB_
                          exact ih_120 (u79_ + 1) (by omega) (by omega) (u80_ + 1) (by omega) (by omega) N150_ hb1_N150_ (show zUb N150_ (ze Mz 81 26 - 1 - u28_).toNat (ze N150_ 81 57) u57_ (u79_ + 1) (u80_ + 1) by exact hUb_) (show zMq T u28_ N150_ by first | with_reducible assumption | assumption | omega) (show ze N150_ 81 57 ≤ 32768 by first | with_reducible assumption | assumption | omega) (show ze N150_ 81 57 ≤ ((2 ^ gcu T (ze Mz 81 26 - 1 - u28_).toNat : Nat) : Int) by first | with_reducible assumption | assumption | omega) (show 0 ≤ (u79_ + 1) by first | with_reducible assumption | assumption | omega) (show (u79_ + 1) ≤ (u80_ + 1) by first | with_reducible assumption | assumption | omega) (show (u80_ + 1) ≤ ze N150_ 81 57 by first | with_reducible assumption | assumption | omega) (show ze N150_ 81 57 ≤ u57_ by first | with_reducible assumption | assumption | omega) (show u57_ ≤ 2 * ze N150_ 81 57 by first | with_reducible assumption | assumption | omega) (show zyB T g_ N150_ (ze Mz 81 26 - 1 - u28_).toNat (u79_ + 1) (u80_ + 1) by exact hyx_) (show zMsN T (u28_).toNat N150_ by exact hmsb_) c158_ (by omega)
                        · skip
                          exact absurd hc_141 (by decide)
                      · skip
                        have hyn0_ := fun q_ => ha138_0_hp0_N146_ ((zuk_z (T := T) (j := u28_) (by omega) (by first | with_reducible assumption | assumption) hms_).mpr q_)
                        show zW l m_M_laysUnits (zn Mz + 0, zw Mz + 0) N81_ 141 [some (.ref 81), some (.int (Int32.ofInt u28_)), some (.int (Int32.ofInt (zshl 1 (((ze Mz 81 26) - 1) - u28_)))), some (.int (Int32.ofInt u79_)), some (.int (Int32.ofInt u57_)), some (.int (Int32.ofInt u80_))] [.int (Int32.ofInt 0)] _
                        refine zr_if_ne (pc := 141) (tgt := 147) ⟨(by decide), (by decide)⟩ (by decide) (zdal_p dlD_M_laysUnits_79 (i := 10) rfl) (fun hc_141 => ?_) (fun hc_141 => ?_)
                        · skip
                          exact absurd hc_141 (by decide)
                        · skip
                          refine zw_goto (pc := 144) (tgt := 163) (by decide) (zdal_p dlD_M_laysUnits_79 (i := 11) rfl) ?_
                          refine zr_iinc (pc := 163) (i := 5) (a := u80_) (n := 1) (L2 := [some (.ref 81), some (.int (Int32.ofInt u28_)), some (.int (Int32.ofInt (zshl 1 (((ze Mz 81 26) - 1) - u28_)))), some (.int (Int32.ofInt u79_)), some (.int (Int32.ofInt u57_)), some (.int (Int32.ofInt (u80_ + 1)))]) rfl (by decide) rfl (zdal_p dlD_M_laysUnits_79 (i := 21) rfl) ?_
                          refine zw_goto (pc := 166) (tgt := 120) (by decide) (zdal_p dlD_M_laysUnits_79 (i := 22) rfl) ?_
                          have hMb_ : zMq T u28_ N81_ := by first | with_reducible assumption | exact zMq.fr hsN81_ (by first | with_reducible assumption | assumption) (by decide) (by decide) | assumption
                          have hUb_ : zUb N81_ (ze Mz 81 26 - 1 - u28_).toNat (ze N81_ 81 57) u57_ u79_ (u80_ + 1) := by first | exact zUb_s0 (by first | with_reducible assumption | assumption) (by omega) | (rw [show ze N81_ 81 57 = ze N59_ 81 57 by omega]; exact hUt_)
                          have hmsb_ : zMsN T (u28_).toNat N81_ := by first | with_reducible assumption | exact zMsN.fr hsN81_ hms_ (by decide) (by decide) | assumption
                          have hyx_ : zyB T g_ N81_ (ze Mz 81 26 - 1 - u28_).toNat u79_ (u80_ + 1) := by first | exact zyB_n hyb_ (by omega) (by rw [(show (gF T).length - 1 - (ze Mz 81 26 - 1 - u28_).toNat = (u28_).toNat by omega)]; exact hyn0_) | exact hyB_
                          exact ih_120 u79_ hu79_a hu79_b (u80_ + 1) (by omega) (by omega) N81_ hs82_ (show zUb N81_ (ze Mz 81 26 - 1 - u28_).toNat (ze N81_ 81 57) u57_ u79_ (u80_ + 1) by exact hUb_) (show zMq T u28_ N81_ by first | with_reducible assumption | assumption | omega) (show ze N81_ 81 57 ≤ 32768 by first | with_reducible assumption | assumption | omega) (show ze N81_ 81 57 ≤ ((2 ^ gcu T (ze Mz 81 26 - 1 - u28_).toNat : Nat) : Int) by first | with_reducible assumption | assumption | omega) (show 0 ≤ u79_ by first | with_reducible assumption | assumption | omega) (show u79_ ≤ (u80_ + 1) by first | with_reducible assumption | assumption | omega) (show (u80_ + 1) ≤ ze N81_ 81 57 by first | with_reducible assumption | assumption | omega) (show ze N81_ 81 57 ≤ u57_ by first | with_reducible assumption | assumption | omega) (show u57_ ≤ 2 * ze N81_ 81 57 by first | with_reducible assumption | assumption | omega) (show zyB T g_ N81_ (ze Mz 81 26 - 1 - u28_).toNat u79_ (u80_ + 1) by exact hyx_) (show zMsN T (u28_).toNat N81_ by exact hmsb_) i94_ (by omega)
                exact lp_120 _ 0 (by decide) (by decide) 0 (by decide) (by decide) N59_ zFr.rf (show zUb N59_ (ze Mz 81 26 - 1 - u28_).toNat (ze N59_ 81 57) u57_ (0 : Int) (0 : Int) by exact zUb_0 (by first | with_reducible assumption | assumption) (by omega)) (show zMq T u28_ N59_ by first | with_reducible assumption | assumption | omega) (show ze N59_ 81 57 ≤ 32768 by first | with_reducible assumption | assumption | omega) (show ze N59_ 81 57 ≤ ((2 ^ gcu T (ze Mz 81 26 - 1 - u28_).toNat : Nat) : Int) by first | with_reducible assumption | assumption | omega) (show 0 ≤ (0 : Int) by first | with_reducible assumption | assumption | omega) (show (0 : Int) ≤ (0 : Int) by first | with_reducible assumption | assumption | omega) (show (0 : Int) ≤ ze N59_ 81 57 by first | with_reducible assumption | assumption | omega) (show ze N59_ 81 57 ≤ u57_ by first | with_reducible assumption | assumption | omega) (show u57_ ≤ 2 * ze N59_ 81 57 by first | with_reducible assumption | assumption | omega) (show zyB T g_ N59_ (ze Mz 81 26 - 1 - u28_).toNat (0 : Int) (0 : Int) by exact zyB_0 hg_) (show zMsN T (u28_).toNat N59_ by exact hms_) i71_ (Nat.lt_succ_self _)
              · skip
                refine zw_aload_n (pc := 72) (n := 0) (x := 81) rfl (zdal_p dlD_M_laysUnits_77 (i := 21) rfl) ?_
                refine zw_aload_n (pc := 73) (n := 0) (x := 81) rfl (zdal_p dlD_M_laysUnits_77 (i := 22) rfl) ?_
                refine zr_getF (r := 110) (hf_N59_.w hW) (pc := 74) f_M_103 rfl (zh_110 (hf_N59_.w hW)).1 (zdal_p dlD_M_laysUnits_77 (i := 23) rfl) ?_
                refine zw_iload (pc := 77) (i := 5) (x := Int32.ofInt u58_) rfl (zdal_p dlD_M_laysUnits_78 (i := 0) rfl) ?_
                refine zr_ialdn (pc := 79) (zh_110 (hf_N59_.w hW)).2 (by decide) (by omega) (by omega) (zdal_p dlD_M_laysUnits_78 (i := 1) rfl) (fun v159_ hv159_ hv159_a hv159_b => ?_)
                have hr160_ := i71_.g (e := u58_) (by omega) (by omega)
                rw [← hv159_] at hr160_
                have hUi_N59_ := (show zUa N59_ (ze Mz 81 26 - 1 - u28_).toNat (ze N59_ 81 57) u57_ u58_ by first | with_reducible assumption | assumption).2.1 (u58_).toNat (by omega)
                refine zr_toI (show v159_ = ze N59_ 110 (u58_).toNat by omega) ?_
                refine zw_iload_n (pc := 80) (n := 2) (x := Int32.ofInt (zshl 1 (((ze Mz 81 26) - 1) - u28_))) rfl (zdal_p dlD_M_laysUnits_78 (i := 2) rfl) ?_
                refine zr_ior (pc := 81) (zdal_p dlD_M_laysUnits_78 (i := 3) rfl) ?_
                have hr161_ := zor_r (ze N59_ 110 (u58_).toNat) (zshl 1 (((ze Mz 81 26) - 1) - u28_))
                have hbo_N59_ : 0 ≤ (zor (ze N59_ 110 (u58_).toNat) (zshl 1 (((ze Mz 81 26) - 1) - u28_))) := (zbor (by omega) (by omega) (by omega) hbit_).2
                refine zw_iload_n (pc := 82) (n := 1) (x := Int32.ofInt u28_) rfl (zdal_p dlD_M_laysUnits_78 (i := 4) rfl) ?_
                refine zr_callV (hf_N59_.w hW) hf_N59_.x (pc := 83) [.int (Int32.ofInt (zor (ze N59_ 110 (u58_).toNat) (zshl 1 (((ze Mz 81 26) - 1) - u28_)))), .int (Int32.ofInt u28_)] [] l_M_462 (c_M_isUnitAt l N59_ (hf_N59_.w hW) (zor (ze N59_ 110 (u58_).toNat) (zshl 1 (((ze Mz 81 26) - 1) - u28_))) (by omega) (by omega) u28_ hu28_a hu28_b T hO hX c72_ (show 0 ≤ (zor (ze N59_ 110 (u58_).toNat) (zshl 1 (((ze Mz 81 26) - 1) - u28_))) by first | with_reducible assumption | assumption | omega) (show zMq T u28_ N59_ by first | with_reducible assumption | assumption | omega)) rfl rfl rfl (by decide) (Nat.le_of_ble_eq_true rfl) (zdal_p dlD_M_laysUnits_78 (i := 5) rfl) ?_
                rintro _ N162_ ⟨v163_, rfl, ⟨hv163_a, hv163_b⟩, hsN162_, hp0_N162_⟩
                obtain rfl := hsN162_.eq.symm
                replace hp0_N162_ : ((v163_ = 1 ∧ zuk N59_ (zor (ze N59_ 110 (u58_).toNat) (zshl 1 (((ze Mz 81 26) - 1) - u28_)))) ∨ (v163_ = 0 ∧ ¬ zuk N59_ (zor (ze N59_ 110 (u58_).toNat) (zshl 1 (((ze Mz 81 26) - 1) - u28_))))) := hp0_N162_
                rcases hp0_N162_ with ⟨rfl, ha83_0_hp0_N162_⟩ | ⟨rfl, ha83_0_hp0_N162_⟩
                · skip
                  have hzk_ := ha83_0_hp0_N162_
                  have hyr_ := (zuk_z (T := T) (j := u28_) (by omega) (by first | with_reducible assumption | assumption) hms_).mp hzk_
                  rw [(zbor (d := (ze Mz 81 26 - 1 - u28_).toNat) (by omega) (by omega) (by omega) hbit_).1] at hyr_
                  show zW l m_M_laysUnits (zn Mz + 0, zw Mz + 0) N59_ 86 [some (.ref 81), some (.int (Int32.ofInt u28_)), some (.int (Int32.ofInt (zshl 1 (((ze Mz 81 26) - 1) - u28_)))), some (.int (Int32.ofInt 0)), some (.int (Int32.ofInt u57_)), some (.int (Int32.ofInt u58_))] [.int (Int32.ofInt 1)] _
                  refine zr_if_ne (pc := 86) (tgt := 92) ⟨(by decide), (by decide)⟩ (by decide) (zdal_p dlD_M_laysUnits_78 (i := 6) rfl) (fun hc_86 => ?_) (fun hc_86 => ?_)
                  · skip
                    refine zw_aload_n (pc := 92) (n := 0) (x := 81) rfl (zdal_p dlD_M_laysUnits_78 (i := 8) rfl) ?_
                    refine zr_getF (r := 110) (hf_N59_.w hW) (pc := 93) f_M_103 rfl (zh_110 (hf_N59_.w hW)).1 (zdal_p dlD_M_laysUnits_78 (i := 9) rfl) ?_
                    refine zw_iload (pc := 96) (i := 4) (x := Int32.ofInt u57_) rfl (zdal_p dlD_M_laysUnits_78 (i := 10) rfl) ?_
                    refine zw_aload_n (pc := 98) (n := 0) (x := 81) rfl (zdal_p dlD_M_laysUnits_78 (i := 11) rfl) ?_
                    refine zr_getF (r := 110) (hf_N59_.w hW) (pc := 99) f_M_103 rfl (zh_110 (hf_N59_.w hW)).1 (zdal_p dlD_M_laysUnits_78 (i := 12) rfl) ?_
                    refine zw_iload (pc := 102) (i := 5) (x := Int32.ofInt u58_) rfl (zdal_p dlD_M_laysUnits_78 (i := 13) rfl) ?_
                    refine zr_ialdn (pc := 104) (zh_110 (hf_N59_.w hW)).2 (by decide) (by omega) (by omega) (zdal_p dlD_M_laysUnits_78 (i := 14) rfl) (fun v164_ hv164_ hv164_a hv164_b => ?_)
                    have hr165_ := i71_.g (e := u58_) (by omega) (by omega)
                    rw [← hv164_] at hr165_
                    refine zr_toI (show v164_ = ze N59_ 110 (u58_).toNat by omega) ?_
                    refine zw_iload_n (pc := 105) (n := 2) (x := Int32.ofInt (zshl 1 (((ze Mz 81 26) - 1) - u28_))) rfl (zdal_p dlD_M_laysUnits_78 (i := 15) rfl) ?_
                    refine zr_ior (pc := 106) (zdal_p dlD_M_laysUnits_78 (i := 16) rfl) ?_
                    have hr166_ := zor_r (ze N59_ 110 (u58_).toNat) (zshl 1 (((ze Mz 81 26) - 1) - u28_))
                    refine zr_iast (pc := 107) (zh_110 (hf_N59_.w hW)).2 (by decide) (by decide) (by omega) (by omega) (zdal_p dlD_M_laysUnits_78 (i := 17) rfl) (fun N167_ hN167_ hsN167_ => ?_)
                    have hf_N167_ : zFr [55, 57, 58] [109, 110] Mz N167_ := hf_N59_.tr hsN167_ (by decide) (by decide)
                    have hb0_N167_ : zFr [55, 57] [109, 110] N19_ N167_ := hb0_N59_.tr hsN167_ (by decide) (by decide)
                    have hb1_N167_ : zFr [] [110] N46_ N167_ := hs60_.tr hsN167_ (by decide) (by decide)
                    have e26_N167_ : ze N167_ 81 26 = ze N59_ 81 26 := hsN167_.e (by decide)
                    have e55_N167_ : ze N167_ 81 55 = ze N59_ 81 55 := hsN167_.e (by decide)
                    have e57_N167_ : ze N167_ 81 57 = ze N59_ 81 57 := hsN167_.e (by decide)
                    have e58_N167_ : ze N167_ 81 58 = ze N59_ 81 58 := hsN167_.e (by decide)
                    have c168_ : zGB T N167_ := zGB.fr hsN167_ c72_ (by decide) (by decide)
                    have c169_ : zTab T N167_ := zTab.fr hsN167_ c73_ (by decide) (by decide)
                    have c170_ : zB 85 144 0 5 N167_ := zB.fr hsN167_ c74_ (by decide) (by decide)
                    have c171_ : zJX T N167_ := zJX.fr hsN167_ c75_ (by decide) (by decide)
                    have c172_ : zFirs T N167_ := zFirs.fr hsN167_ c76_ (by decide) (by decide)
                    have c173_ : zSSm T N167_ := zSSm.fr hsN167_ c77_ (by decide) (by decide)
                    have c174_ : zGD N167_ := zGD.fr hsN167_ c78_ (by decide) (by decide)
                    have c175_ : zB 110 65536 0 2147483647 N167_ := zB.s i71_ hN167_ (by omega) (by omega) (by decide) (by decide)
                    have hUs_ := zUa_s1 (T := T) (d := (ze Mz 81 26 - 1 - u28_).toNat) (j := u28_) (by omega) (by omega) (by omega) (show zMq T u28_ N59_ by first | with_reducible assumption | assumption) hbit_ (show zUa N59_ (ze Mz 81 26 - 1 - u28_).toNat (ze N59_ 81 57) u57_ u58_ by first | with_reducible assumption | assumption) (by omega) rfl hzk_ rfl hN167_
                    have hyA_ := zyA_s hya_ (by omega) (by omega) (by omega) (by rw [(show (gF T).length - 1 - (ze Mz 81 26 - 1 - u28_).toNat = (u28_).toNat by omega)]; exact hyr_) hN167_ ⟨by omega, by omega⟩ (zbor (d := (ze Mz 81 26 - 1 - u28_).toNat) (by omega) (by omega) (by omega) hbit_).1
                    refine zr_iinc (pc := 108) (i := 4) (a := u57_) (n := 1) (L2 := [some (.ref 81), some (.int (Int32.ofInt u28_)), some (.int (Int32.ofInt (zshl 1 (((ze Mz 81 26) - 1) - u28_)))), some (.int (Int32.ofInt 0)), some (.int (Int32.ofInt (u57_ + 1))), some (.int (Int32.ofInt u58_))]) rfl (by decide) rfl (zdal_p dlD_M_laysUnits_78 (i := 18) rfl) ?_
                    refine zr_iinc (pc := 111) (i := 5) (a := u58_) (n := 1) (L2 := [some (.ref 81), some (.int (Int32.ofInt u28_)), some (.int (Int32.ofInt (zshl 1 (((ze Mz 81 26) - 1) - u28_)))), some (.int (Int32.ofInt 0)), some (.int (Int32.ofInt (u57_ + 1))), some (.int (Int32.ofInt (u58_ + 1)))]) rfl (by decide) rfl (zdal_p dlD_M_laysUnits_78 (i := 19) rfl) ?_
                    refine zw_goto (pc := 114) (tgt := 63) (by decide) (zdal_p dlD_M_laysUnits_78 (i := 20) rfl) ?_
                    have hMb_ : zMq T u28_ N167_ := by first | with_reducible assumption | exact zMq.fr hsN167_ (by first | with_reducible assumption | assumption) (by decide) (by decide) | assumption
                    have hUb_ : zUa N167_ (ze Mz 81 26 - 1 - u28_).toNat (ze N167_ 81 57) (u57_ + 1) (u58_ + 1) := by first | exact zUa_s0 (by first | with_reducible assumption | assumption) (by omega) | (rw [show ze N167_ 81 57 = ze N59_ 81 57 by omega]; exact hUs_)
                    have hmsb_ : zMsN T (u28_).toNat N167_ := by first | with_reducible assumption | exact zMsN.fr hsN167_ hms_ (by decide) (by decide) | assumption
                    have hyx_ : zyA T N167_ (ze Mz 81 26 - 1 - u28_).toNat (ze N167_ 81 57) (u57_ + 1) (u58_ + 1) := by first | exact zyA_n hya_ (by omega) (by rw [(show (gF T).length - 1 - (ze Mz 81 26 - 1 - u28_).toNat = (u28_).toNat by omega)]; exact hyn0_) | (rw [show ze N167_ 81 57 = ze N59_ 81 57 by omega]; exact hyA_)
                    exact ih_63 (u57_ + 1) (by omega) (by omega) (u58_ + 1) (by omega) (by omega) N167_ hb1_N167_ (show zUa N167_ (ze Mz 81 26 - 1 - u28_).toNat (ze N167_ 81 57) (u57_ + 1) (u58_ + 1) by exact hUb_) (show zMq T u28_ N167_ by first | with_reducible assumption | assumption | omega) (show ze N167_ 81 57 ≤ 32768 by first | with_reducible assumption | assumption | omega) (show ze N167_ 81 57 ≤ ((2 ^ gcu T (ze Mz 81 26 - 1 - u28_).toNat : Nat) : Int) by first | with_reducible assumption | assumption | omega) (show 0 ≤ (u58_ + 1) by first | with_reducible assumption | assumption | omega) (show (u58_ + 1) ≤ ze N167_ 81 57 by first | with_reducible assumption | assumption | omega) (show ze N167_ 81 57 ≤ (u57_ + 1) by first | with_reducible assumption | assumption | omega) (show (u57_ + 1) ≤ ze N167_ 81 57 + (u58_ + 1) by first | with_reducible assumption | assumption | omega) (show zyA T N167_ (ze Mz 81 26 - 1 - u28_).toNat (ze N167_ 81 57) (u57_ + 1) (u58_ + 1) by exact hyx_) (show zMsN T (u28_).toNat N167_ by exact hmsb_) c175_ (by omega)
                  · skip
                    exact absurd hc_86 (by decide)
                · skip
                  have hyn0_ := fun q_ => ha83_0_hp0_N162_ ((zuk_z (T := T) (j := u28_) (by omega) (by first | with_reducible assumption | assumption) hms_).mpr q_)
                  rw [(zbor (d := (ze Mz 81 26 - 1 - u28_).toNat) (by omega) (by omega) (by omega) hbit_).1] at hyn0_
                  show zW l m_M_laysUnits (zn Mz + 0, zw Mz + 0) N59_ 86 [some (.ref 81), some (.int (Int32.ofInt u28_)), some (.int (Int32.ofInt (zshl 1 (((ze Mz 81 26) - 1) - u28_)))), some (.int (Int32.ofInt 0)), some (.int (Int32.ofInt u57_)), some (.int (Int32.ofInt u58_))] [.int (Int32.ofInt 0)] _
                  refine zr_if_ne (pc := 86) (tgt := 92) ⟨(by decide), (by decide)⟩ (by decide) (zdal_p dlD_M_laysUnits_78 (i := 6) rfl) (fun hc_86 => ?_) (fun hc_86 => ?_)
                  · skip
                    exact absurd hc_86 (by decide)
                  · skip
                    refine zw_goto (pc := 89) (tgt := 111) (by decide) (zdal_p dlD_M_laysUnits_78 (i := 7) rfl) ?_
                    refine zr_iinc (pc := 111) (i := 5) (a := u58_) (n := 1) (L2 := [some (.ref 81), some (.int (Int32.ofInt u28_)), some (.int (Int32.ofInt (zshl 1 (((ze Mz 81 26) - 1) - u28_)))), some (.int (Int32.ofInt 0)), some (.int (Int32.ofInt u57_)), some (.int (Int32.ofInt (u58_ + 1)))]) rfl (by decide) rfl (zdal_p dlD_M_laysUnits_78 (i := 19) rfl) ?_
                    refine zw_goto (pc := 114) (tgt := 63) (by decide) (zdal_p dlD_M_laysUnits_78 (i := 20) rfl) ?_
                    have hMb_ : zMq T u28_ N59_ := by first | with_reducible assumption | exact zMq.fr hsN59_ (by first | with_reducible assumption | assumption) (by decide) (by decide) | assumption
                    have hUb_ : zUa N59_ (ze Mz 81 26 - 1 - u28_).toNat (ze N59_ 81 57) u57_ (u58_ + 1) := by first | exact zUa_s0 (by first | with_reducible assumption | assumption) (by omega) | (rw [show ze N59_ 81 57 = ze N46_ 81 57 by omega]; exact hUs_)
                    have hmsb_ : zMsN T (u28_).toNat N59_ := by first | with_reducible assumption | exact zMsN.fr hsN59_ hms_ (by decide) (by decide) | assumption
                    have hyx_ : zyA T N59_ (ze Mz 81 26 - 1 - u28_).toNat (ze N59_ 81 57) u57_ (u58_ + 1) := by first | exact zyA_n hya_ (by omega) (by rw [(show (gF T).length - 1 - (ze Mz 81 26 - 1 - u28_).toNat = (u28_).toNat by omega)]; exact hyn0_) | (rw [show ze N59_ 81 57 = ze N46_ 81 57 by omega]; exact hyA_)
                    exact ih_63 u57_ hu57_a hu57_b (u58_ + 1) (by omega) (by omega) N59_ hs60_ (show zUa N59_ (ze Mz 81 26 - 1 - u28_).toNat (ze N59_ 81 57) u57_ (u58_ + 1) by exact hUb_) (show zMq T u28_ N59_ by first | with_reducible assumption | assumption | omega) (show ze N59_ 81 57 ≤ 32768 by first | with_reducible assumption | assumption | omega) (show ze N59_ 81 57 ≤ ((2 ^ gcu T (ze Mz 81 26 - 1 - u28_).toNat : Nat) : Int) by first | with_reducible assumption | assumption | omega) (show 0 ≤ (u58_ + 1) by first | with_reducible assumption | assumption | omega) (show (u58_ + 1) ≤ ze N59_ 81 57 by first | with_reducible assumption | assumption | omega) (show ze N59_ 81 57 ≤ u57_ by first | with_reducible assumption | assumption | omega) (show u57_ ≤ ze N59_ 81 57 + (u58_ + 1) by first | with_reducible assumption | assumption | omega) (show zyA T N59_ (ze Mz 81 26 - 1 - u28_).toNat (ze N59_ 81 57) u57_ (u58_ + 1) by exact hyx_) (show zMsN T (u28_).toNat N59_ by exact hmsb_) i71_ (by omega)
          exact lp_63 _ (ze N46_ 81 57) (ze_r N46_ 81 57).1 (ze_r N46_ 81 57).2 0 (by decide) (by decide) N46_ zFr.rf (show zUa N46_ (ze Mz 81 26 - 1 - u28_).toNat (ze N46_ 81 57) (ze N46_ 81 57) (0 : Int) by exact hUa_) (show zMq T u28_ N46_ by first | with_reducible assumption | assumption | omega) (show ze N46_ 81 57 ≤ 32768 by first | with_reducible assumption | assumption | omega) (show ze N46_ 81 57 ≤ ((2 ^ gcu T (ze Mz 81 26 - 1 - u28_).toNat : Nat) : Int) by first | with_reducible assumption | assumption | omega) (show 0 ≤ (0 : Int) by first | with_reducible assumption | assumption | omega) (show (0 : Int) ≤ ze N46_ 81 57 by first | with_reducible assumption | assumption | omega) (show ze N46_ 81 57 ≤ (ze N46_ 81 57) by first | with_reducible assumption | assumption | omega) (show (ze N46_ 81 57) ≤ ze N46_ 81 57 + (0 : Int) by first | with_reducible assumption | assumption | omega) (show zyA T N46_ (ze Mz 81 26 - 1 - u28_).toNat (ze N46_ 81 57) (ze N46_ 81 57) (0 : Int) by exact zyA_0 hyo2_) (show zMsN T (u28_).toNat N46_ by exact hym_) c55_ (Nat.lt_succ_self _)
    exact lp_32 _ ((ze Mz 81 26) - 1) (by omega) (by omega) N19_ zFr.rf (show -1 ≤ ((ze Mz 81 26) - 1) by first | with_reducible assumption | assumption | omega) (show ((ze Mz 81 26) - 1) ≤ ze Mz 81 26 - 1 by first | with_reducible assumption | assumption | omega) (show zUo T N19_ (ze Mz 81 26 - 1 - ((ze Mz 81 26) - 1)).toNat (ze N19_ 81 57) by rw [show (ze Mz 81 26 - 1 - ((ze Mz 81 26) - 1)).toNat = 0 by omega, show ze N19_ 81 57 = 1 by omega]; exact zUo_0 hz0_) (show 0 ≤ ze N19_ 81 57 by first | with_reducible assumption | assumption | omega) (show ze N19_ 81 57 ≤ 65536 by first | with_reducible assumption | assumption | omega) (show zyO T N19_ (ze Mz 81 26 - 1 - ((ze Mz 81 26) - 1)).toNat (ze N19_ 81 57) by rw [show (ze Mz 81 26 - 1 - ((ze Mz 81 26) - 1)).toNat = 0 by omega, show ze N19_ 81 57 = 1 by omega]; exact zyO_0 hz0_) (show ze N19_ 81 58 = 1 by first | with_reducible assumption | assumption | omega) c21_ (Nat.lt_succ_self _)
  · skip
    exact zr_vret (pc := 7) rfl hf ⟨p1_, (show 0 ≤ ze Mz 81 57 by first | with_reducible assumption | assumption | omega), (show ze Mz 81 57 ≤ 65536 by first | with_reducible assumption | assumption | omega), (show ze Mz 81 58 = 1 by omega), (show (zyO T Mz (gF T).length (ze Mz 81 57)) by rcases hyw_ with q_ | q_; (exfalso; omega); exact q_.2.2)⟩ (zdal_p dlD_M_laysUnits_76 (i := 3) rfl)
