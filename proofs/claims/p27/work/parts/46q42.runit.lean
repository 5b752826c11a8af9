set_option maxHeartbeats 40000000 in
theorem c_M_laysUnits (l : Launch) (Mz : zMem) (hW : zMt Mz) (T : zGT) (hO : gOK T) (hX : gEx T) (p0_ : zGB T Mz) (p1_ : zB 110 65536 0 2147483647 Mz) (p2_ : 0 ≤ ze Mz 81 57) (p3_ : ze Mz 81 57 ≤ 65536) : zC l m_M_laysUnits 0 0 [.ref 81] Mz (zpV [55, 57, 58] [109, 110] Mz (fun N => zB 110 65536 0 2147483647 N ∧ 0 ≤ ze N 81 57 ∧ ze N 81 57 ≤ 65536)) := by
  refine zC_of (L0 := [some (.ref 81), none, none, none, none, none]) md_M_laysUnits (Nat.le_of_ble_eq_true rfl) rfl ?_ zQ0
  have hf : zFr [55, 57, 58] [109, 110] Mz Mz := zFr.rf
  have r_26 := ze_r Mz 81 26
  have r_55 := ze_r Mz 81 55
  have r_57 := ze_r Mz 81 57
  have r_58 := ze_r Mz 81 58
  have hG := hO.1
  have g24 := hG.2.1
  have g1 := hG.1
  have dv0 : zTab T Mz := p0_.1
  have dv1 : zB 85 144 0 5 Mz := p0_.2.1
  have dv2 : zJX T Mz := p0_.2.2.1
  have dv3 : zFirs T Mz := p0_.2.2.2.1
  have dv4 : zSSm T Mz := p0_.2.2.2.2.1
  have dv5 : zGD Mz := zGB.d hO p0_
  have gb := dv5.1
  have gn := dv0.1
  have gfl := dv3.1
  have gf6 := gF_pos hO
  have gxl := hX.2.1
  refine zw_aload_n (pc := 0) (n := 0) (x := 81) rfl (zdal_p dlD_M_laysUnits_76 (i := 0) rfl) ?_
  refine zr_getI (hf.w hW) (pc := 1) f_M_394 rfl (zdal_p dlD_M_laysUnits_76 (i := 1) rfl) ?_
  refine zr_if_eq (pc := 4) (tgt := 8) ⟨(ze_r Mz 81 58).1, (ze_r Mz 81 58).2⟩ (by decide) (zdal_p dlD_M_laysUnits_76 (i := 2) rfl) (fun hc_4 => ?_) (fun hc_4 => ?_)
  · skip
    refine zw_aload_n (pc := 8) (n := 0) (x := 81) rfl (zdal_p dlD_M_laysUnits_76 (i := 4) rfl) ?_
    refine zw_iconst (pc := 9) (v := Int32.ofInt 1) (by decide) (zdal_p dlD_M_laysUnits_76 (i := 5) rfl) ?_
    refine zr_putI (hf.w hW) (pc := 10) f_M_394 rfl rfl ⟨by (decide), by (decide)⟩ (z_narB (by (decide))) (z_fitB (by (decide))) (zdal_p dlD_M_laysUnits_76 (i := 6) rfl) (fun N1_ hsN1_ hvN1_ => ?_)
    have hf_N1_ : zFr [55, 57, 58] [109, 110] Mz N1_ := hf.tr hsN1_ (by decide) (by decide)
    have e26_N1_ : ze N1_ 81 26 = ze Mz 81 26 := hsN1_.e (by decide)
    have e55_N1_ : ze N1_ 81 55 = ze Mz 81 55 := hsN1_.e (by decide)
    have e57_N1_ : ze N1_ 81 57 = ze Mz 81 57 := hsN1_.e (by decide)
    have r58_N1_ := ze_r N1_ 81 58
    have c2_ : zGB T N1_ := zGB.fr hsN1_ p0_ (by decide) (by decide)
    have c3_ : zB 110 65536 0 2147483647 N1_ := zB.fr hsN1_ p1_ (by decide) (by decide)
    have c4_ : zTab T N1_ := zTab.fr hsN1_ dv0 (by decide) (by decide)
    have c5_ : zB 85 144 0 5 N1_ := zB.fr hsN1_ dv1 (by decide) (by decide)
    have c6_ : zJX T N1_ := zJX.fr hsN1_ dv2 (by decide) (by decide)
    have c7_ : zFirs T N1_ := zFirs.fr hsN1_ dv3 (by decide) (by decide)
    have c8_ : zSSm T N1_ := zSSm.fr hsN1_ dv4 (by decide) (by decide)
    have c9_ : zGD N1_ := zGD.fr hsN1_ dv5 (by decide) (by decide)
    refine zw_aload_n (pc := 13) (n := 0) (x := 81) rfl (zdal_p dlD_M_laysUnits_76 (i := 7) rfl) ?_
    refine zw_iconst (pc := 14) (v := Int32.ofInt 1) (by decide) (zdal_p dlD_M_laysUnits_76 (i := 8) rfl) ?_
    refine zr_putI (hf_N1_.w hW) (pc := 15) f_M_459 rfl rfl ⟨by (decide), by (decide)⟩ rfl rfl (zdal_p dlD_M_laysUnits_76 (i := 9) rfl) (fun N10_ hsN10_ hvN10_ => ?_)
    have hf_N10_ : zFr [55, 57, 58] [109, 110] Mz N10_ := hf_N1_.tr hsN10_ (by decide) (by decide)
    have e26_N10_ : ze N10_ 81 26 = ze N1_ 81 26 := hsN10_.e (by decide)
    have e55_N10_ : ze N10_ 81 55 = ze N1_ 81 55 := hsN10_.e (by decide)
    have r57_N10_ := ze_r N10_ 81 57
    have e58_N10_ : ze N10_ 81 58 = ze N1_ 81 58 := hsN10_.e (by decide)
    have c11_ : zGB T N10_ := zGB.fr hsN10_ c2_ (by decide) (by decide)
    have c12_ : zB 110 65536 0 2147483647 N10_ := zB.fr hsN10_ c3_ (by decide) (by decide)
    have c13_ : zTab T N10_ := zTab.fr hsN10_ c4_ (by decide) (by decide)
    have c14_ : zB 85 144 0 5 N10_ := zB.fr hsN10_ c5_ (by decide) (by decide)
    have c15_ : zJX T N10_ := zJX.fr hsN10_ c6_ (by decide) (by decide)
    have c16_ : zFirs T N10_ := zFirs.fr hsN10_ c7_ (by decide) (by decide)
    have c17_ : zSSm T N10_ := zSSm.fr hsN10_ c8_ (by decide) (by decide)
    have c18_ : zGD N10_ := zGD.fr hsN10_ c9_ (by decide) (by decide)
    refine zw_aload_n (pc := 18) (n := 0) (x := 81) rfl (zdal_p dlD_M_laysUnits_76 (i := 10) rfl) ?_
    refine zr_getF (r := 110) (hf_N10_.w hW) (pc := 19) f_M_103 rfl (zh_110 (hf_N10_.w hW)).1 (zdal_p dlD_M_laysUnits_76 (i := 11) rfl) ?_
    refine zw_iconst (pc := 22) (v := Int32.ofInt 0) (by decide) (zdal_p dlD_M_laysUnits_76 (i := 12) rfl) ?_
    refine zw_iconst (pc := 23) (v := Int32.ofInt 0) (by decide) (zdal_p dlD_M_laysUnits_76 (i := 13) rfl) ?_
    refine zr_iast (pc := 24) (zh_110 (hf_N10_.w hW)).2 (by decide) (by decide) (by (decide)) (by (decide)) (zdal_p dlD_M_laysUnits_76 (i := 14) rfl) (fun N19_ hN19_ hsN19_ => ?_)
    have hf_N19_ : zFr [55, 57, 58] [109, 110] Mz N19_ := hf_N10_.tr hsN19_ (by decide) (by decide)
    have e26_N19_ : ze N19_ 81 26 = ze N10_ 81 26 := hsN19_.e (by decide)
    have e55_N19_ : ze N19_ 81 55 = ze N10_ 81 55 := hsN19_.e (by decide)
    have e57_N19_ : ze N19_ 81 57 = ze N10_ 81 57 := hsN19_.e (by decide)
    have e58_N19_ : ze N19_ 81 58 = ze N10_ 81 58 := hsN19_.e (by decide)
    have c20_ : zGB T N19_ := zGB.fr hsN19_ c11_ (by decide) (by decide)
    have c21_ : zB 110 65536 0 2147483647 N19_ := zB.s c12_ hN19_ (by (decide)) (by (decide)) (by decide) (by decide)
    have c22_ : zTab T N19_ := zTab.fr hsN19_ c13_ (by decide) (by decide)
    have c23_ : zB 85 144 0 5 N19_ := zB.fr hsN19_ c14_ (by decide) (by decide)
    have c24_ : zJX T N19_ := zJX.fr hsN19_ c15_ (by decide) (by decide)
    have c25_ : zFirs T N19_ := zFirs.fr hsN19_ c16_ (by decide) (by decide)
    have c26_ : zSSm T N19_ := zSSm.fr hsN19_ c17_ (by decide) (by decide)
    have c27_ : zGD N19_ := zGD.fr hsN19_ c18_ (by decide) (by decide)
    have hz0_ : ze N19_ 110 0 = 0 := zs_get hN19_ ⟨by decide, by decide⟩
    refine zw_aload_n (pc := 25) (n := 0) (x := 81) rfl (zdal_p dlD_M_laysUnits_76 (i := 15) rfl) ?_
    refine zr_getI0 hf_N19_ hW (pc := 26) (by decide) f_M_235 rfl (zdal_p dlD_M_laysUnits_76 (i := 16) rfl) ?_
    refine zw_iconst (pc := 29) (v := Int32.ofInt 1) (by decide) (zdal_p dlD_M_laysUnits_76 (i := 17) rfl) ?_
    refine zr_isub (pc := 30) (zdal_p dlD_M_laysUnits_76 (i := 18) rfl) ?_
    refine zw_istore_n (pc := 31) (i := 1) (L2 := [some (.ref 81), some (.int (Int32.ofInt ((ze Mz 81 26) - 1))), none, none, none, none]) rfl (by decide) rfl (zdal_p dlD_M_laysUnits_76 (i := 19) rfl) ?_
    have lp_32 : ∀ (n : Nat) (u28_ : Int) (hu28_a : -2147483648 ≤ u28_) (hu28_b : u28_ < 2147483648) (N29_ : zMem) (hs30_ : zFr [55, 57] [109, 110] N19_ N29_) (i31_ : -1 ≤ u28_) (i32_ : u28_ ≤ ze Mz 81 26 - 1) (i33_ : zUo T N29_ (ze Mz 81 26 - 1 - u28_).toNat (ze N29_ 81 57)) (i34_ : 0 ≤ ze N29_ 81 57) (i35_ : ze N29_ 81 57 ≤ 65536) (i36_ : zB 110 65536 0 2147483647 N29_), (u28_ + 1).toNat < n → zW l m_M_laysUnits (zn Mz + 0, zw Mz + 0) N29_ 32 [some (.ref 81), some (.int (Int32.ofInt u28_)), none, none, none, none] [] (zpV [55, 57, 58] [109, 110] Mz (fun N => zB 110 65536 0 2147483647 N ∧ 0 ≤ ze N 81 57 ∧ ze N 81 57 ≤ 65536)) := by
      intro n
      induction n with
      | zero =>
        intro u28_ hu28_a hu28_b N29_ hs30_ i31_ i32_ i33_ i34_ i35_ i36_ h0
        exact absurd h0 (Nat.not_lt_zero _)
      | succ n ih_32 =>
        intro u28_ hu28_a hu28_b N29_ hs30_ i31_ i32_ i33_ i34_ i35_ i36_ hlt_32
        have hf_N29_ : zFr [55, 57, 58] [109, 110] Mz N29_ := hf_N19_.tr hs30_ (by decide) (by decide)
        have e26_N29_ : ze N29_ 81 26 = ze N19_ 81 26 := hs30_.e (by decide)
        have r55_N29_ := ze_r N29_ 81 55
        have r57_N29_ := ze_r N29_ 81 57
        have e58_N29_ : ze N29_ 81 58 = ze N19_ 81 58 := hs30_.e (by decide)
        have c37_ : zGB T N29_ := zGB.fr hs30_ c20_ (by decide) (by decide)
        have c38_ : zTab T N29_ := zTab.fr hs30_ c22_ (by decide) (by decide)
        have c39_ : zB 85 144 0 5 N29_ := zB.fr hs30_ c23_ (by decide) (by decide)
        have c40_ : zJX T N29_ := zJX.fr hs30_ c24_ (by decide) (by decide)
        have c41_ : zFirs T N29_ := zFirs.fr hs30_ c25_ (by decide) (by decide)
        have c42_ : zSSm T N29_ := zSSm.fr hs30_ c26_ (by decide) (by decide)
        have c43_ : zGD N29_ := zGD.fr hs30_ c27_ (by decide) (by decide)
        refine zw_iload_n (pc := 32) (n := 1) (x := Int32.ofInt u28_) rfl (zdal_p dlD_M_laysUnits_76 (i := 20) rfl) ?_
        refine zr_if_lt (pc := 33) (tgt := 215) ⟨hu28_a, hu28_b⟩ (by decide) (zdal_p dlD_M_laysUnits_76 (i := 21) rfl) (fun hc_33 => ?_) (fun hc_33 => ?_)
        · skip
          exact zr_vret (pc := 215) rfl hf_N29_ ⟨i36_, (show 0 ≤ ze N29_ 81 57 by first | assumption | omega), (show ze N29_ 81 57 ≤ 65536 by first | assumption | omega)⟩ (zdal_p dlD_M_laysUnits_80 (i := 21) rfl)
        · skip
          refine zw_aload_n (pc := 36) (n := 0) (x := 81) rfl (zdal_p dlD_M_laysUnits_76 (i := 22) rfl) ?_
          refine zw_iload_n (pc := 37) (n := 1) (x := Int32.ofInt u28_) rfl (zdal_p dlD_M_laysUnits_76 (i := 23) rfl) ?_
          refine zr_callV (hf_N29_.w hW) hf_N29_.x (pc := 38) [.int (Int32.ofInt u28_)] [] l_M_456 (c_M_laysMade l N29_ (hf_N29_.w hW) u28_ hu28_a hu28_b T hO hX c37_ (show 0 ≤ u28_ by first | assumption | omega) (show u28_ < ze N29_ 81 26 by first | assumption | (exact zo_930 e26_N10_ e26_N19_ e26_N1_ e26_N29_ i32_))) rfl rfl rfl (by decide) (Nat.le_of_ble_eq_true rfl) (zdal_p dlD_M_laysUnits_77 (i := 0) rfl) ?_
          rintro _ N44_ ⟨rfl, hsN44_, ⟨hp0_N44_, hp1_N44_, hp2_N44_⟩⟩
          have hf_N44_ : zFr [55, 57, 58] [109, 110] Mz N44_ := hf_N29_.tr hsN44_ (by decide) (by decide)
          have hb0_N44_ : zFr [55, 57] [109, 110] N19_ N44_ := hs30_.tr hsN44_ (by decide) (by decide)
          have e26_N44_ : ze N44_ 81 26 = ze N29_ 81 26 := hsN44_.e (by decide)
          have r55_N44_ := ze_r N44_ 81 55
          have e57_N44_ : ze N44_ 81 57 = ze N29_ 81 57 := hsN44_.e (by decide)
          have e58_N44_ : ze N44_ 81 58 = ze N29_ 81 58 := hsN44_.e (by decide)
          have c46_ : zGB T N44_ := zGB.fr hsN44_ c37_ (by decide) (by decide)
          have c47_ : zTab T N44_ := zTab.fr hsN44_ c38_ (by decide) (by decide)
          have c48_ : zB 85 144 0 5 N44_ := zB.fr hsN44_ c39_ (by decide) (by decide)
          have c49_ : zJX T N44_ := zJX.fr hsN44_ c40_ (by decide) (by decide)
          have c50_ : zFirs T N44_ := zFirs.fr hsN44_ c41_ (by decide) (by decide)
          have c51_ : zSSm T N44_ := zSSm.fr hsN44_ c42_ (by decide) (by decide)
          have c52_ : zGD N44_ := zGD.fr hsN44_ c43_ (by decide) (by decide)
          have c53_ : zB 110 65536 0 2147483647 N44_ := zB.fr hsN44_ i36_ (by decide) (by decide)
          show zW l m_M_laysUnits (zn Mz + 0, zw Mz + 0) N44_ 41 [some (.ref 81), some (.int (Int32.ofInt u28_)), none, none, none, none] [] _
          have hUo_ : zUo T N44_ (ze Mz 81 26 - 1 - u28_).toNat (ze N44_ 81 57) := by rw [show ze N44_ 81 57 = ze N29_ 81 57 by (exact e57_N44_)]; exact zUo.fr hsN44_ (by assumption) (by decide)
          have hbd_ := zUo_b hX (by (exact zo_931 gb.2.2.2.2.2 gfl hc_33 i32_)) hUo_
          have hUa_ := zUa_0 hUo_.1 hUo_.2.2
          have hug_ := hUo_.2.1
          have h2d_ := gp30 (d := (ze Mz 81 26 - 1 - u28_).toNat) (by (exact zo_932 gb.2.2.2.2.2 gfl gxl hc_33 i32_))
          refine zw_iconst (pc := 41) (v := Int32.ofInt 1) (by decide) (zdal_p dlD_M_laysUnits_77 (i := 1) rfl) ?_
          refine zw_aload_n (pc := 42) (n := 0) (x := 81) rfl (zdal_p dlD_M_laysUnits_77 (i := 2) rfl) ?_
          refine zr_getI0 hf_N44_ hW (pc := 43) (by decide) f_M_235 rfl (zdal_p dlD_M_laysUnits_77 (i := 3) rfl) ?_
          refine zw_iconst (pc := 46) (v := Int32.ofInt 1) (by decide) (zdal_p dlD_M_laysUnits_77 (i := 4) rfl) ?_
          refine zr_isub (pc := 47) (zdal_p dlD_M_laysUnits_77 (i := 5) rfl) ?_
          refine zw_iload_n (pc := 48) (n := 1) (x := Int32.ofInt u28_) rfl (zdal_p dlD_M_laysUnits_77 (i := 6) rfl) ?_
          refine zr_isub (pc := 49) (zdal_p dlD_M_laysUnits_77 (i := 7) rfl) ?_
          refine zr_ishl (pc := 50) (zdal_p dlD_M_laysUnits_77 (i := 8) rfl) ?_
          have hr54_ := zshl_r 1 (((ze Mz 81 26) - 1) - u28_)
          have hbit_ : (zshl 1 (((ze Mz 81 26) - 1) - u28_)) = zshl 1 (((ze Mz 81 26 - 1 - u28_).toNat : Nat) : Int) := by rw [show (((ze Mz 81 26 - 1 - u28_).toNat : Nat) : Int) = ze Mz 81 26 - 1 - u28_ by (exact zo_933 i32_)]
          have hbp_ := zshl_p (k := ze Mz 81 26 - 1 - u28_) (by (exact zo_934 i32_)) (by (exact zo_935 gb.2.2.2.2.2 gfl gxl hc_33))
          refine zw_istore_n (pc := 51) (i := 2) (L2 := [some (.ref 81), some (.int (Int32.ofInt u28_)), some (.int (Int32.ofInt (zshl 1 (((ze Mz 81 26) - 1) - u28_)))), none, none, none]) rfl (by decide) rfl (zdal_p dlD_M_laysUnits_77 (i := 9) rfl) ?_
          refine zw_iconst (pc := 52) (v := Int32.ofInt 0) (by decide) (zdal_p dlD_M_laysUnits_77 (i := 10) rfl) ?_
          refine zw_istore_n (pc := 53) (i := 3) (L2 := [some (.ref 81), some (.int (Int32.ofInt u28_)), some (.int (Int32.ofInt (zshl 1 (((ze Mz 81 26) - 1) - u28_)))), some (.int (Int32.ofInt 0)), none, none]) rfl (by decide) rfl (zdal_p dlD_M_laysUnits_77 (i := 11) rfl) ?_
          refine zw_aload_n (pc := 54) (n := 0) (x := 81) rfl (zdal_p dlD_M_laysUnits_77 (i := 12) rfl) ?_
          refine zr_getI (hf_N44_.w hW) (pc := 55) f_M_459 rfl (zdal_p dlD_M_laysUnits_77 (i := 13) rfl) ?_
          refine zw_istore (pc := 58) (i := 4) (L2 := [some (.ref 81), some (.int (Int32.ofInt u28_)), some (.int (Int32.ofInt (zshl 1 (((ze Mz 81 26) - 1) - u28_)))), some (.int (Int32.ofInt 0)), some (.int (Int32.ofInt (ze N44_ 81 57))), none]) (by decide) rfl (zdal_p dlD_M_laysUnits_77 (i := 14) rfl) ?_
          refine zw_iconst (pc := 60) (v := Int32.ofInt 0) (by decide) (zdal_p dlD_M_laysUnits_77 (i := 15) rfl) ?_
          refine zw_istore (pc := 61) (i := 5) (L2 := [some (.ref 81), some (.int (Int32.ofInt u28_)), some (.int (Int32.ofInt (zshl 1 (((ze Mz 81 26) - 1) - u28_)))), some (.int (Int32.ofInt 0)), some (.int (Int32.ofInt (ze N44_ 81 57))), some (.int (Int32.ofInt 0))]) (by decide) rfl (zdal_p dlD_M_laysUnits_77 (i := 16) rfl) ?_
          have lp_63 : ∀ (n : Nat) (u55_ : Int) (hu55_a : -2147483648 ≤ u55_) (hu55_b : u55_ < 2147483648) (u56_ : Int) (hu56_a : -2147483648 ≤ u56_) (hu56_b : u56_ < 2147483648) (N57_ : zMem) (hs58_ : zFr [] [110] N44_ N57_) (i59_ : zUa N57_ (ze Mz 81 26 - 1 - u28_).toNat (ze N57_ 81 57) u55_ u56_) (i60_ : zMq T u28_ N57_) (i61_ : ze N57_ 81 57 ≤ 32768) (i62_ : ze N57_ 81 57 ≤ ((2 ^ gcu T (ze Mz 81 26 - 1 - u28_).toNat : Nat) : Int)) (i63_ : 0 ≤ u56_) (i64_ : u56_ ≤ ze N57_ 81 57) (i65_ : ze N57_ 81 57 ≤ u55_) (i66_ : u55_ ≤ ze N57_ 81 57 + u56_) (i67_ : zB 110 65536 0 2147483647 N57_), (ze N57_ 81 57 - u56_).toNat < n → zW l m_M_laysUnits (zn Mz + 0, zw Mz + 0) N57_ 63 [some (.ref 81), some (.int (Int32.ofInt u28_)), some (.int (Int32.ofInt (zshl 1 (((ze Mz 81 26) - 1) - u28_)))), some (.int (Int32.ofInt 0)), some (.int (Int32.ofInt u55_)), some (.int (Int32.ofInt u56_))] [] (zpV [55, 57, 58] [109, 110] Mz (fun N => zB 110 65536 0 2147483647 N ∧ 0 ≤ ze N 81 57 ∧ ze N 81 57 ≤ 65536)) := by
            intro n
            induction n with
            | zero =>
              intro u55_ hu55_a hu55_b u56_ hu56_a hu56_b N57_ hs58_ i59_ i60_ i61_ i62_ i63_ i64_ i65_ i66_ i67_ h0
              exact absurd h0 (Nat.not_lt_zero _)
            | succ n ih_63 =>
              intro u55_ hu55_a hu55_b u56_ hu56_a hu56_b N57_ hs58_ i59_ i60_ i61_ i62_ i63_ i64_ i65_ i66_ i67_ hlt_63
              have hf_N57_ : zFr [55, 57, 58] [109, 110] Mz N57_ := hf_N44_.tr hs58_ (by decide) (by decide)
              have hb0_N57_ : zFr [55, 57] [109, 110] N19_ N57_ := hb0_N44_.tr hs58_ (by decide) (by decide)
              have e26_N57_ : ze N57_ 81 26 = ze N44_ 81 26 := hs58_.e (by decide)
              have e55_N57_ : ze N57_ 81 55 = ze N44_ 81 55 := hs58_.e (by decide)
              have e57_N57_ : ze N57_ 81 57 = ze N44_ 81 57 := hs58_.e (by decide)
              have e58_N57_ : ze N57_ 81 58 = ze N44_ 81 58 := hs58_.e (by decide)
              have c68_ : zGB T N57_ := zGB.fr hs58_ c46_ (by decide) (by decide)
              have c69_ : zTab T N57_ := zTab.fr hs58_ c47_ (by decide) (by decide)
              have c70_ : zB 85 144 0 5 N57_ := zB.fr hs58_ c48_ (by decide) (by decide)
              have c71_ : zJX T N57_ := zJX.fr hs58_ c49_ (by decide) (by decide)
              have c72_ : zFirs T N57_ := zFirs.fr hs58_ c50_ (by decide) (by decide)
              have c73_ : zSSm T N57_ := zSSm.fr hs58_ c51_ (by decide) (by decide)
              have c74_ : zGD N57_ := zGD.fr hs58_ c52_ (by decide) (by decide)
              refine zw_iload (pc := 63) (i := 5) (x := Int32.ofInt u56_) rfl (zdal_p dlD_M_laysUnits_77 (i := 17) rfl) ?_
              refine zw_aload_n (pc := 65) (n := 0) (x := 81) rfl (zdal_p dlD_M_laysUnits_77 (i := 18) rfl) ?_
              refine zr_getI (hf_N57_.w hW) (pc := 66) f_M_459 rfl (zdal_p dlD_M_laysUnits_77 (i := 19) rfl) ?_
              refine zr_icmp_ge (pc := 69) (tgt := 117) ⟨hu56_a, hu56_b⟩ ⟨(ze_r N57_ 81 57).1, (ze_r N57_ 81 57).2⟩ (by decide) (zdal_p dlD_M_laysUnits_77 (i := 20) rfl) (fun hc_69 => ?_) (fun hc_69 => ?_)
              · skip
                refine zw_iconst (pc := 117) (v := Int32.ofInt 0) (by decide) (zdal_p dlD_M_laysUnits_78 (i := 21) rfl) ?_
                refine zw_istore (pc := 118) (i := 5) (L2 := [some (.ref 81), some (.int (Int32.ofInt u28_)), some (.int (Int32.ofInt (zshl 1 (((ze Mz 81 26) - 1) - u28_)))), some (.int (Int32.ofInt 0)), some (.int (Int32.ofInt u55_)), some (.int (Int32.ofInt 0))]) (by decide) rfl (zdal_p dlD_M_laysUnits_78 (i := 22) rfl) ?_
                have lp_120 : ∀ (n : Nat) (u75_ : Int) (hu75_a : -2147483648 ≤ u75_) (hu75_b : u75_ < 2147483648) (u76_ : Int) (hu76_a : -2147483648 ≤ u76_) (hu76_b : u76_ < 2147483648) (N77_ : zMem) (hs78_ : zFr [] [110] N57_ N77_) (i79_ : zUb N77_ (ze Mz 81 26 - 1 - u28_).toNat (ze N77_ 81 57) u55_ u75_ u76_) (i80_ : zMq T u28_ N77_) (i81_ : ze N77_ 81 57 ≤ 32768) (i82_ : ze N77_ 81 57 ≤ ((2 ^ gcu T (ze Mz 81 26 - 1 - u28_).toNat : Nat) : Int)) (i83_ : 0 ≤ u75_) (i84_ : u75_ ≤ u76_) (i85_ : u76_ ≤ ze N77_ 81 57) (i86_ : ze N77_ 81 57 ≤ u55_) (i87_ : u55_ ≤ 2 * ze N77_ 81 57) (i88_ : zB 110 65536 0 2147483647 N77_), (ze N77_ 81 57 - u76_).toNat < n → zW l m_M_laysUnits (zn Mz + 0, zw Mz + 0) N77_ 120 [some (.ref 81), some (.int (Int32.ofInt u28_)), some (.int (Int32.ofInt (zshl 1 (((ze Mz 81 26) - 1) - u28_)))), some (.int (Int32.ofInt u75_)), some (.int (Int32.ofInt u55_)), some (.int (Int32.ofInt u76_))] [] (zpV [55, 57, 58] [109, 110] Mz (fun N => zB 110 65536 0 2147483647 N ∧ 0 ≤ ze N 81 57 ∧ ze N 81 57 ≤ 65536)) := by
                  intro n
                  induction n with
                  | zero =>
                    intro u75_ hu75_a hu75_b u76_ hu76_a hu76_b N77_ hs78_ i79_ i80_ i81_ i82_ i83_ i84_ i85_ i86_ i87_ i88_ h0
                    exact absurd h0 (Nat.not_lt_zero _)
                  | succ n ih_120 =>
                    intro u75_ hu75_a hu75_b u76_ hu76_a hu76_b N77_ hs78_ i79_ i80_ i81_ i82_ i83_ i84_ i85_ i86_ i87_ i88_ hlt_120
                    have hf_N77_ : zFr [55, 57, 58] [109, 110] Mz N77_ := hf_N57_.tr hs78_ (by decide) (by decide)
                    have hb0_N77_ : zFr [55, 57] [109, 110] N19_ N77_ := hb0_N57_.tr hs78_ (by decide) (by decide)
                    have e26_N77_ : ze N77_ 81 26 = ze N57_ 81 26 := hs78_.e (by decide)
                    have e55_N77_ : ze N77_ 81 55 = ze N57_ 81 55 := hs78_.e (by decide)
                    have e57_N77_ : ze N77_ 81 57 = ze N57_ 81 57 := hs78_.e (by decide)
                    have e58_N77_ : ze N77_ 81 58 = ze N57_ 81 58 := hs78_.e (by decide)
                    have c89_ : zGB T N77_ := zGB.fr hs78_ c68_ (by decide) (by decide)
                    have c90_ : zTab T N77_ := zTab.fr hs78_ c69_ (by decide) (by decide)
                    have c91_ : zB 85 144 0 5 N77_ := zB.fr hs78_ c70_ (by decide) (by decide)
                    have c92_ : zJX T N77_ := zJX.fr hs78_ c71_ (by decide) (by decide)
                    have c93_ : zFirs T N77_ := zFirs.fr hs78_ c72_ (by decide) (by decide)
                    have c94_ : zSSm T N77_ := zSSm.fr hs78_ c73_ (by decide) (by decide)
                    have c95_ : zGD N77_ := zGD.fr hs78_ c74_ (by decide) (by decide)
                    refine zw_iload (pc := 120) (i := 5) (x := Int32.ofInt u76_) rfl (zdal_p dlD_M_laysUnits_78 (i := 23) rfl) ?_
                    refine zw_aload_n (pc := 122) (n := 0) (x := 81) rfl (zdal_p dlD_M_laysUnits_79 (i := 0) rfl) ?_
                    refine zr_getI (hf_N77_.w hW) (pc := 123) f_M_459 rfl (zdal_p dlD_M_laysUnits_79 (i := 1) rfl) ?_
                    refine zr_icmp_ge (pc := 126) (tgt := 169) ⟨hu76_a, hu76_b⟩ ⟨(ze_r N77_ 81 57).1, (ze_r N77_ 81 57).2⟩ (by decide) (zdal_p dlD_M_laysUnits_79 (i := 2) rfl) (fun hc_126 => ?_) (fun hc_126 => ?_)
                    · skip
                      refine zw_aload_n (pc := 169) (n := 0) (x := 81) rfl (zdal_p dlD_M_laysUnits_79 (i := 23) rfl) ?_
                      refine zr_getI (hf_N77_.w hW) (pc := 170) f_M_459 rfl (zdal_p dlD_M_laysUnits_80 (i := 0) rfl) ?_
                      refine zw_istore (pc := 173) (i := 5) (L2 := [some (.ref 81), some (.int (Int32.ofInt u28_)), some (.int (Int32.ofInt (zshl 1 (((ze Mz 81 26) - 1) - u28_)))), some (.int (Int32.ofInt u75_)), some (.int (Int32.ofInt u55_)), some (.int (Int32.ofInt (ze N77_ 81 57)))]) (by decide) rfl (zdal_p dlD_M_laysUnits_80 (i := 1) rfl) ?_
                      have lp_175 : ∀ (n : Nat) (u96_ : Int) (hu96_a : -2147483648 ≤ u96_) (hu96_b : u96_ < 2147483648) (u97_ : Int) (hu97_a : -2147483648 ≤ u97_) (hu97_b : u97_ < 2147483648) (N98_ : zMem) (hs99_ : zFr [] [110] N77_ N98_) (i100_ : zUc N98_ (ze Mz 81 26 - 1 - u28_).toNat (ze N98_ 81 57) u55_ u96_ u97_) (i101_ : zMq T u28_ N98_) (i102_ : ze N98_ 81 57 ≤ 32768) (i103_ : ze N98_ 81 57 ≤ ((2 ^ gcu T (ze Mz 81 26 - 1 - u28_).toNat : Nat) : Int)) (i104_ : 0 ≤ u96_) (i105_ : u96_ ≤ u97_) (i106_ : ze N98_ 81 57 ≤ u97_) (i107_ : u97_ ≤ u55_) (i108_ : u55_ ≤ 2 * ze N98_ 81 57) (i109_ : zB 110 65536 0 2147483647 N98_), (u55_ - u97_).toNat < n → zW l m_M_laysUnits (zn Mz + 0, zw Mz + 0) N98_ 175 [some (.ref 81), some (.int (Int32.ofInt u28_)), some (.int (Int32.ofInt (zshl 1 (((ze Mz 81 26) - 1) - u28_)))), some (.int (Int32.ofInt u96_)), some (.int (Int32.ofInt u55_)), some (.int (Int32.ofInt u97_))] [] (zpV [55, 57, 58] [109, 110] Mz (fun N => zB 110 65536 0 2147483647 N ∧ 0 ≤ ze N 81 57 ∧ ze N 81 57 ≤ 65536)) := by
                        intro n
                        induction n with
                        | zero =>
                          intro u96_ hu96_a hu96_b u97_ hu97_a hu97_b N98_ hs99_ i100_ i101_ i102_ i103_ i104_ i105_ i106_ i107_ i108_ i109_ h0
                          exact absurd h0 (Nat.not_lt_zero _)
                        | succ n ih_175 =>
                          intro u96_ hu96_a hu96_b u97_ hu97_a hu97_b N98_ hs99_ i100_ i101_ i102_ i103_ i104_ i105_ i106_ i107_ i108_ i109_ hlt_175
                          have hf_N98_ : zFr [55, 57, 58] [109, 110] Mz N98_ := hf_N77_.tr hs99_ (by decide) (by decide)
                          have hb0_N98_ : zFr [55, 57] [109, 110] N19_ N98_ := hb0_N77_.tr hs99_ (by decide) (by decide)
                          have e26_N98_ : ze N98_ 81 26 = ze N77_ 81 26 := hs99_.e (by decide)
                          have e55_N98_ : ze N98_ 81 55 = ze N77_ 81 55 := hs99_.e (by decide)
                          have e57_N98_ : ze N98_ 81 57 = ze N77_ 81 57 := hs99_.e (by decide)
                          have e58_N98_ : ze N98_ 81 58 = ze N77_ 81 58 := hs99_.e (by decide)
                          have c110_ : zGB T N98_ := zGB.fr hs99_ c89_ (by decide) (by decide)
                          have c111_ : zTab T N98_ := zTab.fr hs99_ c90_ (by decide) (by decide)
                          have c112_ : zB 85 144 0 5 N98_ := zB.fr hs99_ c91_ (by decide) (by decide)
                          have c113_ : zJX T N98_ := zJX.fr hs99_ c92_ (by decide) (by decide)
                          have c114_ : zFirs T N98_ := zFirs.fr hs99_ c93_ (by decide) (by decide)
                          have c115_ : zSSm T N98_ := zSSm.fr hs99_ c94_ (by decide) (by decide)
                          have c116_ : zGD N98_ := zGD.fr hs99_ c95_ (by decide) (by decide)
                          refine zw_iload (pc := 175) (i := 5) (x := Int32.ofInt u97_) rfl (zdal_p dlD_M_laysUnits_80 (i := 2) rfl) ?_
                          refine zw_iload (pc := 177) (i := 4) (x := Int32.ofInt u55_) rfl (zdal_p dlD_M_laysUnits_80 (i := 3) rfl) ?_
                          refine zr_icmp_ge (pc := 179) (tgt := 204) ⟨hu97_a, hu97_b⟩ ⟨hu55_a, hu55_b⟩ (by decide) (zdal_p dlD_M_laysUnits_80 (i := 4) rfl) (fun hc_179 => ?_) (fun hc_179 => ?_)
                          · skip
                            refine zw_aload_n (pc := 204) (n := 0) (x := 81) rfl (zdal_p dlD_M_laysUnits_80 (i := 16) rfl) ?_
                            refine zw_iload_n (pc := 205) (n := 3) (x := Int32.ofInt u96_) rfl (zdal_p dlD_M_laysUnits_80 (i := 17) rfl) ?_
                            refine zr_putI (hf_N98_.w hW) (pc := 206) f_M_459 rfl rfl ⟨by (exact hu96_a), by (exact hu96_b)⟩ rfl rfl (zdal_p dlD_M_laysUnits_80 (i := 18) rfl) (fun N117_ hsN117_ hvN117_ => ?_)
                            have hf_N117_ : zFr [55, 57, 58] [109, 110] Mz N117_ := hf_N98_.tr hsN117_ (by decide) (by decide)
                            have hb0_N117_ : zFr [55, 57] [109, 110] N19_ N117_ := hb0_N98_.tr hsN117_ (by decide) (by decide)
                            have e26_N117_ : ze N117_ 81 26 = ze N98_ 81 26 := hsN117_.e (by decide)
                            have e55_N117_ : ze N117_ 81 55 = ze N98_ 81 55 := hsN117_.e (by decide)
                            have r57_N117_ := ze_r N117_ 81 57
                            have e58_N117_ : ze N117_ 81 58 = ze N98_ 81 58 := hsN117_.e (by decide)
                            have c118_ : zGB T N117_ := zGB.fr hsN117_ c110_ (by decide) (by decide)
                            have c119_ : zTab T N117_ := zTab.fr hsN117_ c111_ (by decide) (by decide)
                            have c120_ : zB 85 144 0 5 N117_ := zB.fr hsN117_ c112_ (by decide) (by decide)
                            have c121_ : zJX T N117_ := zJX.fr hsN117_ c113_ (by decide) (by decide)
                            have c122_ : zFirs T N117_ := zFirs.fr hsN117_ c114_ (by decide) (by decide)
                            have c123_ : zSSm T N117_ := zSSm.fr hsN117_ c115_ (by decide) (by decide)
                            have c124_ : zGD N117_ := zGD.fr hsN117_ c116_ (by decide) (by decide)
                            have c125_ : zB 110 65536 0 2147483647 N117_ := zB.fr hsN117_ i109_ (by decide) (by decide)
                            have hUn_ := zUo_s (d := (ze Mz 81 26 - 1 - u28_).toNat) (j := u28_) (by (exact zo_936 gb.2.2.2.2.2 gfl gxl hc_33 i32_)) (by (exact hc_33)) (show ze N98_ 81 57 ≤ ((2 ^ gcu T (ze Mz 81 26 - 1 - u28_).toNat : Nat) : Int) by assumption) (show zMq T u28_ N98_ by assumption) (show zUc N98_ (ze Mz 81 26 - 1 - u28_).toNat (ze N98_ 81 57) u55_ u96_ u97_ by assumption) (by (exact hc_179)) (fun i => hsN117_.ie (by decide) (by decide) i)
                            have hUm_ : zUo T N117_ (ze Mz 81 26 - 1 - (u28_ + (-1))).toNat (ze N117_ 81 57) := by rw [show (ze Mz 81 26 - 1 - (u28_ + (-1))).toNat = (ze Mz 81 26 - 1 - u28_).toNat + 1 by (exact zo_937 i32_), show ze N117_ 81 57 = u96_ by (exact hvN117_)]; exact hUn_
                            refine zr_iinc (pc := 209) (i := 1) (a := u28_) (n := -1) (L2 := [some (.ref 81), some (.int (Int32.ofInt (u28_ + (-1)))), some (.int (Int32.ofInt (zshl 1 (((ze Mz 81 26) - 1) - u28_)))), some (.int (Int32.ofInt u96_)), some (.int (Int32.ofInt u55_)), some (.int (Int32.ofInt u97_))]) rfl (by decide) rfl (zdal_p dlD_M_laysUnits_80 (i := 19) rfl) ?_
                            refine zw_goto (pc := 212) (tgt := 32) (by decide) (zdal_p dlD_M_laysUnits_80 (i := 20) rfl) ?_
                            refine zW_le [some (.ref 81), some (.int (Int32.ofInt (u28_ + (-1)))), none, none, none, none] (⟨rfl, rfl, trivial⟩) ?_
                            exact ih_32 (u28_ + (-1)) (by (exact zo_892 hc_33)) (by (exact zo_893 hu28_b)) N117_ hb0_N117_ (show -1 ≤ (u28_ + (-1)) by first | assumption | (exact zo_938 hc_33)) (show (u28_ + (-1)) ≤ ze Mz 81 26 - 1 by first | assumption | (exact zo_894 i32_)) (show zUo T N117_ (ze Mz 81 26 - 1 - (u28_ + (-1))).toNat (ze N117_ 81 57) by exact hUm_) (show 0 ≤ ze N117_ 81 57 by first | assumption | (exact zo_939 hvN117_ i104_ r57_N117_.1)) (show ze N117_ 81 57 ≤ 65536 by first | assumption | (exact zo_940 hvN117_ i105_ i107_ i81_ i87_ r57_N117_.2)) c125_ (by (exact zo_896 hc_33 hlt_32 hu28_b))
                          · skip
                            refine zw_aload_n (pc := 182) (n := 0) (x := 81) rfl (zdal_p dlD_M_laysUnits_80 (i := 5) rfl) ?_
                            refine zr_getF (r := 110) (hf_N98_.w hW) (pc := 183) f_M_103 rfl (zh_110 (hf_N98_.w hW)).1 (zdal_p dlD_M_laysUnits_80 (i := 6) rfl) ?_
                            refine zw_iload_n (pc := 186) (n := 3) (x := Int32.ofInt u96_) rfl (zdal_p dlD_M_laysUnits_80 (i := 7) rfl) ?_
                            refine zw_aload_n (pc := 187) (n := 0) (x := 81) rfl (zdal_p dlD_M_laysUnits_80 (i := 8) rfl) ?_
                            refine zr_getF (r := 110) (hf_N98_.w hW) (pc := 188) f_M_103 rfl (zh_110 (hf_N98_.w hW)).1 (zdal_p dlD_M_laysUnits_80 (i := 9) rfl) ?_
                            refine zw_iload (pc := 191) (i := 5) (x := Int32.ofInt u97_) rfl (zdal_p dlD_M_laysUnits_80 (i := 10) rfl) ?_
                            refine zr_ialdn (pc := 193) (zh_110 (hf_N98_.w hW)).2 (by decide) (by (exact zo_941 hu97_a i104_ i105_)) (by (exact zo_942 hc_179 i81_ i87_)) (zdal_p dlD_M_laysUnits_80 (i := 11) rfl) (fun v126_ hv126_ hv126_a hv126_b => ?_)
                            have hr127_ := i109_.g (e := u97_) (by (exact zo_941 hu97_a i104_ i105_)) (by (exact zo_942 hc_179 i81_ i87_))
                            rw [← hv126_] at hr127_
                            have hUi_N98_ := (show zUc N98_ (ze Mz 81 26 - 1 - u28_).toNat (ze N98_ 81 57) u55_ u96_ u97_ by assumption).2.1 (u97_).toNat (by (exact zo_943 hc_179 hu97_a i104_ i105_))
                            refine zr_toI (show v126_ = ze N98_ 110 (u97_).toNat by (exact hv126_)) ?_
                            refine zr_iast (pc := 194) (zh_110 (hf_N98_.w hW)).2 (by decide) (by decide) (by (exact i104_)) (by (exact zo_944 hc_179 i105_ i81_ i87_)) (zdal_p dlD_M_laysUnits_80 (i := 12) rfl) (fun N128_ hN128_ hsN128_ => ?_)
                            have hf_N128_ : zFr [55, 57, 58] [109, 110] Mz N128_ := hf_N98_.tr hsN128_ (by decide) (by decide)
                            have hb0_N128_ : zFr [55, 57] [109, 110] N19_ N128_ := hb0_N98_.tr hsN128_ (by decide) (by decide)
                            have hb1_N128_ : zFr [] [110] N77_ N128_ := hs99_.tr hsN128_ (by decide) (by decide)
                            have e26_N128_ : ze N128_ 81 26 = ze N98_ 81 26 := hsN128_.e (by decide)
                            have e55_N128_ : ze N128_ 81 55 = ze N98_ 81 55 := hsN128_.e (by decide)
                            have e57_N128_ : ze N128_ 81 57 = ze N98_ 81 57 := hsN128_.e (by decide)
                            have e58_N128_ : ze N128_ 81 58 = ze N98_ 81 58 := hsN128_.e (by decide)
                            have c129_ : zGB T N128_ := zGB.fr hsN128_ c110_ (by decide) (by decide)
                            have c130_ : zTab T N128_ := zTab.fr hsN128_ c111_ (by decide) (by decide)
                            have c131_ : zB 85 144 0 5 N128_ := zB.fr hsN128_ c112_ (by decide) (by decide)
                            have c132_ : zJX T N128_ := zJX.fr hsN128_ c113_ (by decide) (by decide)
                            have c133_ : zFirs T N128_ := zFirs.fr hsN128_ c114_ (by decide) (by decide)
                            have c134_ : zSSm T N128_ := zSSm.fr hsN128_ c115_ (by decide) (by decide)
                            have c135_ : zGD N128_ := zGD.fr hsN128_ c116_ (by decide) (by decide)
                            have c136_ : zB 110 65536 0 2147483647 N128_ := zB.s i109_ hN128_ (by (exact zo_57 hUi_N98_.1)) (by (exact zo_945 hv126_ hv126_b)) (by decide) (by decide)
                            have hUv_ := zUc_s (d := (ze Mz 81 26 - 1 - u28_).toNat) (by (exact zo_946 gb.2.2.2.2.2 gfl gxl hc_33 i32_)) (show zUc N98_ (ze Mz 81 26 - 1 - u28_).toNat (ze N98_ 81 57) u55_ u96_ u97_ by assumption) (by (exact hc_179)) rfl hN128_
                            refine zr_iinc (pc := 195) (i := 3) (a := u96_) (n := 1) (L2 := [some (.ref 81), some (.int (Int32.ofInt u28_)), some (.int (Int32.ofInt (zshl 1 (((ze Mz 81 26) - 1) - u28_)))), some (.int (Int32.ofInt (u96_ + 1))), some (.int (Int32.ofInt u55_)), some (.int (Int32.ofInt u97_))]) rfl (by decide) rfl (zdal_p dlD_M_laysUnits_80 (i := 13) rfl) ?_
                            refine zr_iinc (pc := 198) (i := 5) (a := u97_) (n := 1) (L2 := [some (.ref 81), some (.int (Int32.ofInt u28_)), some (.int (Int32.ofInt (zshl 1 (((ze Mz 81 26) - 1) - u28_)))), some (.int (Int32.ofInt (u96_ + 1))), some (.int (Int32.ofInt u55_)), some (.int (Int32.ofInt (u97_ + 1)))]) rfl (by decide) rfl (zdal_p dlD_M_laysUnits_80 (i := 14) rfl) ?_
                            refine zw_goto (pc := 201) (tgt := 175) (by decide) (zdal_p dlD_M_laysUnits_80 (i := 15) rfl) ?_
                            have hMb_ : zMq T u28_ N128_ := by first | assumption | exact zMq.fr hsN128_ (by assumption) (by decide) (by decide)
                            have hUb_ : zUc N128_ (ze Mz 81 26 - 1 - u28_).toNat (ze N128_ 81 57) u55_ (u96_ + 1) (u97_ + 1) := by (rw [show ze N128_ 81 57 = ze N98_ 81 57 by (exact e57_N128_)]; exact hUv_)
                            exact ih_175 (u96_ + 1) (by (exact zo_74 i104_)) (by (exact zo_947 hc_179 hu55_b hu96_b i105_)) (u97_ + 1) (by (exact zo_679 hu97_a)) (by (exact zo_948 hc_179 hu55_b hu97_b)) N128_ hb1_N128_ (show zUc N128_ (ze Mz 81 26 - 1 - u28_).toNat (ze N128_ 81 57) u55_ (u96_ + 1) (u97_ + 1) by exact hUb_) (show zMq T u28_ N128_ by first | assumption | omega) (show ze N128_ 81 57 ≤ 32768 by first | assumption | (exact zo_949 e57_N128_ i102_)) (show ze N128_ 81 57 ≤ ((2 ^ gcu T (ze Mz 81 26 - 1 - u28_).toNat : Nat) : Int) by first | assumption | (exact zo_950 e57_N128_ i102_ i103_)) (show 0 ≤ (u96_ + 1) by first | assumption | (exact zo_76 i104_)) (show (u96_ + 1) ≤ (u97_ + 1) by first | assumption | (exact zo_951 i105_)) (show ze N128_ 81 57 ≤ (u97_ + 1) by first | assumption | (exact zo_952 e57_N128_ i106_)) (show (u97_ + 1) ≤ u55_ by first | assumption | omega) (show u55_ ≤ 2 * ze N128_ 81 57 by first | assumption | (exact zo_953 e57_N128_ i108_)) c136_ (by (exact zo_147 hc_179 hlt_175))
                      exact lp_175 _ u75_ hu75_a hu75_b (ze N77_ 81 57) (ze_r N77_ 81 57).1 (ze_r N77_ 81 57).2 N77_ zFr.rf (show zUc N77_ (ze Mz 81 26 - 1 - u28_).toNat (ze N77_ 81 57) u55_ u75_ (ze N77_ 81 57) by exact zUc_0 (by assumption) (by (exact hc_126))) (show zMq T u28_ N77_ by first | assumption | omega) (show ze N77_ 81 57 ≤ 32768 by first | assumption | omega) (show ze N77_ 81 57 ≤ ((2 ^ gcu T (ze Mz 81 26 - 1 - u28_).toNat : Nat) : Int) by first | assumption | omega) (show 0 ≤ u75_ by first | assumption | omega) (show u75_ ≤ (ze N77_ 81 57) by first | assumption | (exact zo_954 i84_ i85_)) (show ze N77_ 81 57 ≤ (ze N77_ 81 57) by first | assumption | (exact zo_628)) (show (ze N77_ 81 57) ≤ u55_ by first | assumption | omega) (show u55_ ≤ 2 * ze N77_ 81 57 by first | assumption | omega) i88_ (Nat.lt_succ_self _)
                    · skip
                      refine zw_aload_n (pc := 129) (n := 0) (x := 81) rfl (zdal_p dlD_M_laysUnits_79 (i := 3) rfl) ?_
                      refine zw_aload_n (pc := 130) (n := 0) (x := 81) rfl (zdal_p dlD_M_laysUnits_79 (i := 4) rfl) ?_
                      refine zr_getF (r := 110) (hf_N77_.w hW) (pc := 131) f_M_103 rfl (zh_110 (hf_N77_.w hW)).1 (zdal_p dlD_M_laysUnits_79 (i := 5) rfl) ?_
                      refine zw_iload (pc := 134) (i := 5) (x := Int32.ofInt u76_) rfl (zdal_p dlD_M_laysUnits_79 (i := 6) rfl) ?_
                      refine zr_ialdn (pc := 136) (zh_110 (hf_N77_.w hW)).2 (by decide) (by (exact zo_941 hu76_a i83_ i84_)) (by (exact zo_955 hc_126 i81_)) (zdal_p dlD_M_laysUnits_79 (i := 7) rfl) (fun v137_ hv137_ hv137_a hv137_b => ?_)
                      have hr138_ := i88_.g (e := u76_) (by (exact zo_941 hu76_a i83_ i84_)) (by (exact zo_955 hc_126 i81_))
                      rw [← hv137_] at hr138_
                      have hUi_N77_ := (show zUb N77_ (ze Mz 81 26 - 1 - u28_).toNat (ze N77_ 81 57) u55_ u75_ u76_ by assumption).2.1 (u76_).toNat (by (exact zo_956 hc_126 hu76_a i83_ i84_ i86_))
                      refine zr_toI (show v137_ = ze N77_ 110 (u76_).toNat by (exact hv137_)) ?_
                      refine zw_iload_n (pc := 137) (n := 1) (x := Int32.ofInt u28_) rfl (zdal_p dlD_M_laysUnits_79 (i := 8) rfl) ?_
                      refine zr_callV (hf_N77_.w hW) hf_N77_.x (pc := 138) [.int (Int32.ofInt (ze N77_ 110 (u76_).toNat)), .int (Int32.ofInt u28_)] [] l_M_462 (c_M_isUnitAt l N77_ (hf_N77_.w hW) (ze N77_ 110 (u76_).toNat) (by (exact zo_168 hUi_N77_.1)) (by (exact zo_550 hv137_ hv137_b)) u28_ hu28_a hu28_b T hO hX c89_ (show 0 ≤ (ze N77_ 110 (u76_).toNat) by first | assumption | (exact zo_57 hUi_N77_.1)) (show zMq T u28_ N77_ by first | assumption | omega)) rfl rfl rfl (by decide) (Nat.le_of_ble_eq_true rfl) (zdal_p dlD_M_laysUnits_79 (i := 9) rfl) ?_
                      rintro _ N139_ ⟨v140_, rfl, ⟨hv140_a, hv140_b⟩, hsN139_, hp0_N139_⟩
                      obtain rfl := hsN139_.eq.symm
                      replace hp0_N139_ : ((v140_ = 1 ∧ zuk N77_ (ze N77_ 110 (u76_).toNat)) ∨ (v140_ = 0 ∧ ¬ zuk N77_ (ze N77_ 110 (u76_).toNat))) := hp0_N139_
                      rcases hp0_N139_ with ⟨rfl, ha138_0_hp0_N139_⟩ | ⟨rfl, ha138_0_hp0_N139_⟩
                      · skip
                        have hzk_ := ha138_0_hp0_N139_
                        show zW l m_M_laysUnits (zn Mz + 0, zw Mz + 0) N77_ 141 [some (.ref 81), some (.int (Int32.ofInt u28_)), some (.int (Int32.ofInt (zshl 1 (((ze Mz 81 26) - 1) - u28_)))), some (.int (Int32.ofInt u75_)), some (.int (Int32.ofInt u55_)), some (.int (Int32.ofInt u76_))] [.int (Int32.ofInt 1)] _
                        refine zr_if_ne (pc := 141) (tgt := 147) ⟨(by decide), (by decide)⟩ (by decide) (zdal_p dlD_M_laysUnits_79 (i := 10) rfl) (fun hc_141 => ?_) (fun hc_141 => ?_)
                        · skip
                          refine zw_aload_n (pc := 147) (n := 0) (x := 81) rfl (zdal_p dlD_M_laysUnits_79 (i := 12) rfl) ?_
                          refine zr_getF (r := 110) (hf_N77_.w hW) (pc := 148) f_M_103 rfl (zh_110 (hf_N77_.w hW)).1 (zdal_p dlD_M_laysUnits_79 (i := 13) rfl) ?_
                          refine zw_iload_n (pc := 151) (n := 3) (x := Int32.ofInt u75_) rfl (zdal_p dlD_M_laysUnits_79 (i := 14) rfl) ?_
                          refine zw_aload_n (pc := 152) (n := 0) (x := 81) rfl (zdal_p dlD_M_laysUnits_79 (i := 15) rfl) ?_
                          refine zr_getF (r := 110) (hf_N77_.w hW) (pc := 153) f_M_103 rfl (zh_110 (hf_N77_.w hW)).1 (zdal_p dlD_M_laysUnits_79 (i := 16) rfl) ?_
                          refine zw_iload (pc := 156) (i := 5) (x := Int32.ofInt u76_) rfl (zdal_p dlD_M_laysUnits_79 (i := 17) rfl) ?_
                          refine zr_ialdn (pc := 158) (zh_110 (hf_N77_.w hW)).2 (by decide) (by (exact zo_941 hu76_a i83_ i84_)) (by (exact zo_955 hc_126 i81_)) (zdal_p dlD_M_laysUnits_79 (i := 18) rfl) (fun v141_ hv141_ hv141_a hv141_b => ?_)
                          have hr142_ := i88_.g (e := u76_) (by (exact zo_941 hu76_a i83_ i84_)) (by (exact zo_955 hc_126 i81_))
                          rw [← hv141_] at hr142_
                          refine zr_toI (show v141_ = ze N77_ 110 (u76_).toNat by (exact hv141_)) ?_
                          refine zr_iast (pc := 159) (zh_110 (hf_N77_.w hW)).2 (by decide) (by decide) (by (exact i83_)) (by (exact zo_957 hc_126 hu75_b i81_ i84_)) (zdal_p dlD_M_laysUnits_79 (i := 19) rfl) (fun N143_ hN143_ hsN143_ => ?_)
                          have hf_N143_ : zFr [55, 57, 58] [109, 110] Mz N143_ := hf_N77_.tr hsN143_ (by decide) (by decide)
                          have hb0_N143_ : zFr [55, 57] [109, 110] N19_ N143_ := hb0_N77_.tr hsN143_ (by decide) (by decide)
                          have hb1_N143_ : zFr [] [110] N57_ N143_ := hs78_.tr hsN143_ (by decide) (by decide)
                          have e26_N143_ : ze N143_ 81 26 = ze N77_ 81 26 := hsN143_.e (by decide)
                          have e55_N143_ : ze N143_ 81 55 = ze N77_ 81 55 := hsN143_.e (by decide)
                          have e57_N143_ : ze N143_ 81 57 = ze N77_ 81 57 := hsN143_.e (by decide)
                          have e58_N143_ : ze N143_ 81 58 = ze N77_ 81 58 := hsN143_.e (by decide)
                          have c144_ : zGB T N143_ := zGB.fr hsN143_ c89_ (by decide) (by decide)
                          have c145_ : zTab T N143_ := zTab.fr hsN143_ c90_ (by decide) (by decide)
                          have c146_ : zB 85 144 0 5 N143_ := zB.fr hsN143_ c91_ (by decide) (by decide)
                          have c147_ : zJX T N143_ := zJX.fr hsN143_ c92_ (by decide) (by decide)
                          have c148_ : zFirs T N143_ := zFirs.fr hsN143_ c93_ (by decide) (by decide)
                          have c149_ : zSSm T N143_ := zSSm.fr hsN143_ c94_ (by decide) (by decide)
                          have c150_ : zGD N143_ := zGD.fr hsN143_ c95_ (by decide) (by decide)
                          have c151_ : zB 110 65536 0 2147483647 N143_ := zB.s i88_ hN143_ (by (exact zo_57 hUi_N77_.1)) (by (exact zo_945 hv141_ hv141_b)) (by decide) (by decide)
                          have hUt_ := zUb_s1 (d := (ze Mz 81 26 - 1 - u28_).toNat) (by (exact zo_946 gb.2.2.2.2.2 gfl gxl hc_33 i32_)) (show zUb N77_ (ze Mz 81 26 - 1 - u28_).toNat (ze N77_ 81 57) u55_ u75_ u76_ by assumption) (by (exact hc_126)) rfl hzk_ hN143_
                          refine zr_iinc (pc := 160) (i := 3) (a := u75_) (n := 1) (L2 := [some (.ref 81), some (.int (Int32.ofInt u28_)), some (.int (Int32.ofInt (zshl 1 (((ze Mz 81 26) - 1) - u28_)))), some (.int (Int32.ofInt (u75_ + 1))), some (.int (Int32.ofInt u55_)), some (.int (Int32.ofInt u76_))]) rfl (by decide) rfl (zdal_p dlD_M_laysUnits_79 (i := 20) rfl) ?_
                          refine zr_iinc (pc := 163) (i := 5) (a := u76_) (n := 1) (L2 := [some (.ref 81), some (.int (Int32.ofInt u28_)), some (.int (Int32.ofInt (zshl 1 (((ze Mz 81 26) - 1) - u28_)))), some (.int (Int32.ofInt (u75_ + 1))), some (.int (Int32.ofInt u55_)), some (.int (Int32.ofInt (u76_ + 1)))]) rfl (by decide) rfl (zdal_p dlD_M_laysUnits_79 (i := 21) rfl) ?_
                          refine zw_goto (pc := 166) (tgt := 120) (by decide) (zdal_p dlD_M_laysUnits_79 (i := 22) rfl) ?_
                          have hMb_ : zMq T u28_ N143_ := by first | assumption | exact zMq.fr hsN143_ (by assumption) (by decide) (by decide)
                          have hUb_ : zUb N143_ (ze Mz 81 26 - 1 - u28_).toNat (ze N143_ 81 57) u55_ (u75_ + 1) (u76_ + 1) := by first | exact zUb_s0 (by assumption) (by omega) | (rw [show ze N143_ 81 57 = ze N77_ 81 57 by (exact e57_N143_)]; exact hUt_)
                          exact ih_120 (u75_ + 1) (by (exact zo_74 i83_)) (by (exact zo_958 hc_126 hu55_b hu75_b i84_ i86_)) (u76_ + 1) (by (exact zo_679 hu76_a)) (by (exact zo_959 hc_126 i81_)) N143_ hb1_N143_ (show zUb N143_ (ze Mz 81 26 - 1 - u28_).toNat (ze N143_ 81 57) u55_ (u75_ + 1) (u76_ + 1) by exact hUb_) (show zMq T u28_ N143_ by first | assumption | omega) (show ze N143_ 81 57 ≤ 32768 by first | assumption | (exact zo_949 e57_N143_ i81_)) (show ze N143_ 81 57 ≤ ((2 ^ gcu T (ze Mz 81 26 - 1 - u28_).toNat : Nat) : Int) by first | assumption | (exact zo_950 e57_N143_ i81_ i82_)) (show 0 ≤ (u75_ + 1) by first | assumption | (exact zo_76 i83_)) (show (u75_ + 1) ≤ (u76_ + 1) by first | assumption | (exact zo_951 i84_)) (show (u76_ + 1) ≤ ze N143_ 81 57 by first | assumption | (exact zo_536 e57_N143_ hc_126)) (show ze N143_ 81 57 ≤ u55_ by first | assumption | (exact zo_840 e57_N143_ i86_)) (show u55_ ≤ 2 * ze N143_ 81 57 by first | assumption | (exact zo_953 e57_N143_ i87_)) c151_ (by (exact zo_960 e57_N143_ hc_126 hlt_120))
                        · skip
                          exact absurd hc_141 (by decide)
                      · skip
                        show zW l m_M_laysUnits (zn Mz + 0, zw Mz + 0) N77_ 141 [some (.ref 81), some (.int (Int32.ofInt u28_)), some (.int (Int32.ofInt (zshl 1 (((ze Mz 81 26) - 1) - u28_)))), some (.int (Int32.ofInt u75_)), some (.int (Int32.ofInt u55_)), some (.int (Int32.ofInt u76_))] [.int (Int32.ofInt 0)] _
                        refine zr_if_ne (pc := 141) (tgt := 147) ⟨(by decide), (by decide)⟩ (by decide) (zdal_p dlD_M_laysUnits_79 (i := 10) rfl) (fun hc_141 => ?_) (fun hc_141 => ?_)
                        · skip
                          exact absurd hc_141 (by decide)
                        · skip
                          refine zw_goto (pc := 144) (tgt := 163) (by decide) (zdal_p dlD_M_laysUnits_79 (i := 11) rfl) ?_
                          refine zr_iinc (pc := 163) (i := 5) (a := u76_) (n := 1) (L2 := [some (.ref 81), some (.int (Int32.ofInt u28_)), some (.int (Int32.ofInt (zshl 1 (((ze Mz 81 26) - 1) - u28_)))), some (.int (Int32.ofInt u75_)), some (.int (Int32.ofInt u55_)), some (.int (Int32.ofInt (u76_ + 1)))]) rfl (by decide) rfl (zdal_p dlD_M_laysUnits_79 (i := 21) rfl) ?_
                          refine zw_goto (pc := 166) (tgt := 120) (by decide) (zdal_p dlD_M_laysUnits_79 (i := 22) rfl) ?_
                          have hMb_ : zMq T u28_ N77_ := by first | assumption | exact zMq.fr hsN77_ (by assumption) (by decide) (by decide)
                          have hUb_ : zUb N77_ (ze Mz 81 26 - 1 - u28_).toNat (ze N77_ 81 57) u55_ u75_ (u76_ + 1) := by first | exact zUb_s0 (by assumption) (by (exact hc_126)) | (rw [show ze N77_ 81 57 = ze N57_ 81 57 by omega]; exact hUt_)
                          exact ih_120 u75_ hu75_a hu75_b (u76_ + 1) (by (exact zo_679 hu76_a)) (by (exact zo_959 hc_126 i81_)) N77_ hs78_ (show zUb N77_ (ze Mz 81 26 - 1 - u28_).toNat (ze N77_ 81 57) u55_ u75_ (u76_ + 1) by exact hUb_) (show zMq T u28_ N77_ by first | assumption | omega) (show ze N77_ 81 57 ≤ 32768 by first | assumption | omega) (show ze N77_ 81 57 ≤ ((2 ^ gcu T (ze Mz 81 26 - 1 - u28_).toNat : Nat) : Int) by first | assumption | omega) (show 0 ≤ u75_ by first | assumption | omega) (show u75_ ≤ (u76_ + 1) by first | assumption | (exact zo_961 i84_)) (show (u76_ + 1) ≤ ze N77_ 81 57 by first | assumption | omega) (show ze N77_ 81 57 ≤ u55_ by first | assumption | omega) (show u55_ ≤ 2 * ze N77_ 81 57 by first | assumption | omega) i88_ (by (exact zo_147 hc_126 hlt_120))
                exact lp_120 _ 0 (by decide) (by decide) 0 (by decide) (by decide) N57_ zFr.rf (show zUb N57_ (ze Mz 81 26 - 1 - u28_).toNat (ze N57_ 81 57) u55_ (0 : Int) (0 : Int) by exact zUb_0 (by assumption) (by (exact hc_69))) (show zMq T u28_ N57_ by first | assumption | omega) (show ze N57_ 81 57 ≤ 32768 by first | assumption | omega) (show ze N57_ 81 57 ≤ ((2 ^ gcu T (ze Mz 81 26 - 1 - u28_).toNat : Nat) : Int) by first | assumption | omega) (show 0 ≤ (0 : Int) by first | assumption | (decide)) (show (0 : Int) ≤ (0 : Int) by first | assumption | (decide)) (show (0 : Int) ≤ ze N57_ 81 57 by first | assumption | (exact zo_962 i63_ i64_)) (show ze N57_ 81 57 ≤ u55_ by first | assumption | omega) (show u55_ ≤ 2 * ze N57_ 81 57 by first | assumption | (exact zo_963 i64_ i66_)) i67_ (Nat.lt_succ_self _)
              · skip
                refine zw_aload_n (pc := 72) (n := 0) (x := 81) rfl (zdal_p dlD_M_laysUnits_77 (i := 21) rfl) ?_
                refine zw_aload_n (pc := 73) (n := 0) (x := 81) rfl (zdal_p dlD_M_laysUnits_77 (i := 22) rfl) ?_
                refine zr_getF (r := 110) (hf_N57_.w hW) (pc := 74) f_M_103 rfl (zh_110 (hf_N57_.w hW)).1 (zdal_p dlD_M_laysUnits_77 (i := 23) rfl) ?_
                refine zw_iload (pc := 77) (i := 5) (x := Int32.ofInt u56_) rfl (zdal_p dlD_M_laysUnits_78 (i := 0) rfl) ?_
                refine zr_ialdn (pc := 79) (zh_110 (hf_N57_.w hW)).2 (by decide) (by (exact i63_)) (by (exact zo_955 hc_69 i61_)) (zdal_p dlD_M_laysUnits_78 (i := 1) rfl) (fun v152_ hv152_ hv152_a hv152_b => ?_)
                have hr153_ := i67_.g (e := u56_) (by (exact i63_)) (by (exact zo_955 hc_69 i61_))
                rw [← hv152_] at hr153_
                have hUi_N57_ := (show zUa N57_ (ze Mz 81 26 - 1 - u28_).toNat (ze N57_ 81 57) u55_ u56_ by assumption).2.1 (u56_).toNat (by (exact zo_695 hc_69 i63_))
                refine zr_toI (show v152_ = ze N57_ 110 (u56_).toNat by (exact hv152_)) ?_
                refine zw_iload_n (pc := 80) (n := 2) (x := Int32.ofInt (zshl 1 (((ze Mz 81 26) - 1) - u28_))) rfl (zdal_p dlD_M_laysUnits_78 (i := 2) rfl) ?_
                refine zr_ior (pc := 81) (zdal_p dlD_M_laysUnits_78 (i := 3) rfl) ?_
                have hr154_ := zor_r (ze N57_ 110 (u56_).toNat) (zshl 1 (((ze Mz 81 26) - 1) - u28_))
                have hbo_N57_ : 0 ≤ (zor (ze N57_ 110 (u56_).toNat) (zshl 1 (((ze Mz 81 26) - 1) - u28_))) := (zbor (by (exact zo_57 hUi_N57_.1)) (by (exact zo_550 hv152_ hv152_b)) (by (exact zo_946 gb.2.2.2.2.2 gfl gxl hc_33 i32_)) hbit_).2
                refine zw_iload_n (pc := 82) (n := 1) (x := Int32.ofInt u28_) rfl (zdal_p dlD_M_laysUnits_78 (i := 4) rfl) ?_
                refine zr_callV (hf_N57_.w hW) hf_N57_.x (pc := 83) [.int (Int32.ofInt (zor (ze N57_ 110 (u56_).toNat) (zshl 1 (((ze Mz 81 26) - 1) - u28_)))), .int (Int32.ofInt u28_)] [] l_M_462 (c_M_isUnitAt l N57_ (hf_N57_.w hW) (zor (ze N57_ 110 (u56_).toNat) (zshl 1 (((ze Mz 81 26) - 1) - u28_))) (by (exact zo_168 hbo_N57_)) (by (exact zo_285 hr154_.2)) u28_ hu28_a hu28_b T hO hX c68_ (show 0 ≤ (zor (ze N57_ 110 (u56_).toNat) (zshl 1 (((ze Mz 81 26) - 1) - u28_))) by first | assumption | omega) (show zMq T u28_ N57_ by first | assumption | omega)) rfl rfl rfl (by decide) (Nat.le_of_ble_eq_true rfl) (zdal_p dlD_M_laysUnits_78 (i := 5) rfl) ?_
                rintro _ N155_ ⟨v156_, rfl, ⟨hv156_a, hv156_b⟩, hsN155_, hp0_N155_⟩
                obtain rfl := hsN155_.eq.symm
                replace hp0_N155_ : ((v156_ = 1 ∧ zuk N57_ (zor (ze N57_ 110 (u56_).toNat) (zshl 1 (((ze Mz 81 26) - 1) - u28_)))) ∨ (v156_ = 0 ∧ ¬ zuk N57_ (zor (ze N57_ 110 (u56_).toNat) (zshl 1 (((ze Mz 81 26) - 1) - u28_))))) := hp0_N155_
                rcases hp0_N155_ with ⟨rfl, ha83_0_hp0_N155_⟩ | ⟨rfl, ha83_0_hp0_N155_⟩
                · skip
                  have hzk_ := ha83_0_hp0_N155_
                  show zW l m_M_laysUnits (zn Mz + 0, zw Mz + 0) N57_ 86 [some (.ref 81), some (.int (Int32.ofInt u28_)), some (.int (Int32.ofInt (zshl 1 (((ze Mz 81 26) - 1) - u28_)))), some (.int (Int32.ofInt 0)), some (.int (Int32.ofInt u55_)), some (.int (Int32.ofInt u56_))] [.int (Int32.ofInt 1)] _
                  refine zr_if_ne (pc := 86) (tgt := 92) ⟨(by decide), (by decide)⟩ (by decide) (zdal_p dlD_M_laysUnits_78 (i := 6) rfl) (fun hc_86 => ?_) (fun hc_86 => ?_)
                  · skip
                    refine zw_aload_n (pc := 92) (n := 0) (x := 81) rfl (zdal_p dlD_M_laysUnits_78 (i := 8) rfl) ?_
                    refine zr_getF (r := 110) (hf_N57_.w hW) (pc := 93) f_M_103 rfl (zh_110 (hf_N57_.w hW)).1 (zdal_p dlD_M_laysUnits_78 (i := 9) rfl) ?_
                    refine zw_iload (pc := 96) (i := 4) (x := Int32.ofInt u55_) rfl (zdal_p dlD_M_laysUnits_78 (i := 10) rfl) ?_
                    refine zw_aload_n (pc := 98) (n := 0) (x := 81) rfl (zdal_p dlD_M_laysUnits_78 (i := 11) rfl) ?_
                    refine zr_getF (r := 110) (hf_N57_.w hW) (pc := 99) f_M_103 rfl (zh_110 (hf_N57_.w hW)).1 (zdal_p dlD_M_laysUnits_78 (i := 12) rfl) ?_
                    refine zw_iload (pc := 102) (i := 5) (x := Int32.ofInt u56_) rfl (zdal_p dlD_M_laysUnits_78 (i := 13) rfl) ?_
                    refine zr_ialdn (pc := 104) (zh_110 (hf_N57_.w hW)).2 (by decide) (by (exact i63_)) (by (exact zo_955 hc_69 i61_)) (zdal_p dlD_M_laysUnits_78 (i := 14) rfl) (fun v157_ hv157_ hv157_a hv157_b => ?_)
                    have hr158_ := i67_.g (e := u56_) (by (exact i63_)) (by (exact zo_955 hc_69 i61_))
                    rw [← hv157_] at hr158_
                    refine zr_toI (show v157_ = ze N57_ 110 (u56_).toNat by (exact hv157_)) ?_
                    refine zw_iload_n (pc := 105) (n := 2) (x := Int32.ofInt (zshl 1 (((ze Mz 81 26) - 1) - u28_))) rfl (zdal_p dlD_M_laysUnits_78 (i := 15) rfl) ?_
                    refine zr_ior (pc := 106) (zdal_p dlD_M_laysUnits_78 (i := 16) rfl) ?_
                    have hr159_ := zor_r (ze N57_ 110 (u56_).toNat) (zshl 1 (((ze Mz 81 26) - 1) - u28_))
                    refine zr_iast (pc := 107) (zh_110 (hf_N57_.w hW)).2 (by decide) (by decide) (by (exact zo_964 hc_69 hu55_a i63_ i65_)) (by (exact zo_965 hc_69 i61_ i66_)) (zdal_p dlD_M_laysUnits_78 (i := 17) rfl) (fun N160_ hN160_ hsN160_ => ?_)
                    have hf_N160_ : zFr [55, 57, 58] [109, 110] Mz N160_ := hf_N57_.tr hsN160_ (by decide) (by decide)
                    have hb0_N160_ : zFr [55, 57] [109, 110] N19_ N160_ := hb0_N57_.tr hsN160_ (by decide) (by decide)
                    have hb1_N160_ : zFr [] [110] N44_ N160_ := hs58_.tr hsN160_ (by decide) (by decide)
                    have e26_N160_ : ze N160_ 81 26 = ze N57_ 81 26 := hsN160_.e (by decide)
                    have e55_N160_ : ze N160_ 81 55 = ze N57_ 81 55 := hsN160_.e (by decide)
                    have e57_N160_ : ze N160_ 81 57 = ze N57_ 81 57 := hsN160_.e (by decide)
                    have e58_N160_ : ze N160_ 81 58 = ze N57_ 81 58 := hsN160_.e (by decide)
                    have c161_ : zGB T N160_ := zGB.fr hsN160_ c68_ (by decide) (by decide)
                    have c162_ : zTab T N160_ := zTab.fr hsN160_ c69_ (by decide) (by decide)
                    have c163_ : zB 85 144 0 5 N160_ := zB.fr hsN160_ c70_ (by decide) (by decide)
                    have c164_ : zJX T N160_ := zJX.fr hsN160_ c71_ (by decide) (by decide)
                    have c165_ : zFirs T N160_ := zFirs.fr hsN160_ c72_ (by decide) (by decide)
                    have c166_ : zSSm T N160_ := zSSm.fr hsN160_ c73_ (by decide) (by decide)
                    have c167_ : zGD N160_ := zGD.fr hsN160_ c74_ (by decide) (by decide)
                    have c168_ : zB 110 65536 0 2147483647 N160_ := zB.s i67_ hN160_ (by (exact hbo_N57_)) (by (exact zo_966 hr154_.2)) (by decide) (by decide)
                    have hUs_ := zUa_s1 (T := T) (d := (ze Mz 81 26 - 1 - u28_).toNat) (j := u28_) (by (exact zo_967 e26_N10_ e26_N19_ e26_N1_ e26_N29_ e26_N44_ e26_N57_ i32_)) (by (exact zo_946 gb.2.2.2.2.2 gfl gxl hc_33 i32_)) (by (exact zo_968 e26_N10_ e26_N19_ e26_N1_ e26_N29_ e26_N44_ e26_N57_ gb.2.2.2.2.2 gfl)) (show zMq T u28_ N57_ by assumption) hbit_ (show zUa N57_ (ze Mz 81 26 - 1 - u28_).toNat (ze N57_ 81 57) u55_ u56_ by assumption) (by (exact hc_69)) rfl hzk_ rfl hN160_
                    refine zr_iinc (pc := 108) (i := 4) (a := u55_) (n := 1) (L2 := [some (.ref 81), some (.int (Int32.ofInt u28_)), some (.int (Int32.ofInt (zshl 1 (((ze Mz 81 26) - 1) - u28_)))), some (.int (Int32.ofInt 0)), some (.int (Int32.ofInt (u55_ + 1))), some (.int (Int32.ofInt u56_))]) rfl (by decide) rfl (zdal_p dlD_M_laysUnits_78 (i := 18) rfl) ?_
                    refine zr_iinc (pc := 111) (i := 5) (a := u56_) (n := 1) (L2 := [some (.ref 81), some (.int (Int32.ofInt u28_)), some (.int (Int32.ofInt (zshl 1 (((ze Mz 81 26) - 1) - u28_)))), some (.int (Int32.ofInt 0)), some (.int (Int32.ofInt (u55_ + 1))), some (.int (Int32.ofInt (u56_ + 1)))]) rfl (by decide) rfl (zdal_p dlD_M_laysUnits_78 (i := 19) rfl) ?_
                    refine zw_goto (pc := 114) (tgt := 63) (by decide) (zdal_p dlD_M_laysUnits_78 (i := 20) rfl) ?_
                    have hMb_ : zMq T u28_ N160_ := by first | assumption | exact zMq.fr hsN160_ (by assumption) (by decide) (by decide)
                    have hUb_ : zUa N160_ (ze Mz 81 26 - 1 - u28_).toNat (ze N160_ 81 57) (u55_ + 1) (u56_ + 1) := by first | exact zUa_s0 (by assumption) (by omega) | (rw [show ze N160_ 81 57 = ze N57_ 81 57 by (exact e57_N160_)]; exact hUs_)
                    exact ih_63 (u55_ + 1) (by (exact zo_679 hu55_a)) (by omega) (u56_ + 1) (by (exact zo_74 i63_)) (by (exact zo_959 hc_69 i61_)) N160_ hb1_N160_ (show zUa N160_ (ze Mz 81 26 - 1 - u28_).toNat (ze N160_ 81 57) (u55_ + 1) (u56_ + 1) by exact hUb_) (show zMq T u28_ N160_ by first | assumption | omega) (show ze N160_ 81 57 ≤ 32768 by first | assumption | (exact zo_949 e57_N160_ i61_)) (show ze N160_ 81 57 ≤ ((2 ^ gcu T (ze Mz 81 26 - 1 - u28_).toNat : Nat) : Int) by first | assumption | (exact zo_950 e57_N160_ i61_ i62_)) (show 0 ≤ (u56_ + 1) by first | assumption | (exact zo_76 i63_)) (show (u56_ + 1) ≤ ze N160_ 81 57 by first | assumption | (exact zo_536 e57_N160_ hc_69)) (show ze N160_ 81 57 ≤ (u55_ + 1) by first | assumption | (exact zo_952 e57_N160_ i65_)) (show (u55_ + 1) ≤ ze N160_ 81 57 + (u56_ + 1) by first | assumption | (exact zo_969 e57_N160_ i66_)) c168_ (by (exact zo_960 e57_N160_ hc_69 hlt_63))
                  · skip
                    exact absurd hc_86 (by decide)
                · skip
                  show zW l m_M_laysUnits (zn Mz + 0, zw Mz + 0) N57_ 86 [some (.ref 81), some (.int (Int32.ofInt u28_)), some (.int (Int32.ofInt (zshl 1 (((ze Mz 81 26) - 1) - u28_)))), some (.int (Int32.ofInt 0)), some (.int (Int32.ofInt u55_)), some (.int (Int32.ofInt u56_))] [.int (Int32.ofInt 0)] _
                  refine zr_if_ne (pc := 86) (tgt := 92) ⟨(by decide), (by decide)⟩ (by decide) (zdal_p dlD_M_laysUnits_78 (i := 6) rfl) (fun hc_86 => ?_) (fun hc_86 => ?_)
                  · skip
                    exact absurd hc_86 (by decide)
                  · skip
                    refine zw_goto (pc := 89) (tgt := 111) (by decide) (zdal_p dlD_M_laysUnits_78 (i := 7) rfl) ?_
                    refine zr_iinc (pc := 111) (i := 5) (a := u56_) (n := 1) (L2 := [some (.ref 81), some (.int (Int32.ofInt u28_)), some (.int (Int32.ofInt (zshl 1 (((ze Mz 81 26) - 1) - u28_)))), some (.int (Int32.ofInt 0)), some (.int (Int32.ofInt u55_)), some (.int (Int32.ofInt (u56_ + 1)))]) rfl (by decide) rfl (zdal_p dlD_M_laysUnits_78 (i := 19) rfl) ?_
                    refine zw_goto (pc := 114) (tgt := 63) (by decide) (zdal_p dlD_M_laysUnits_78 (i := 20) rfl) ?_
                    have hMb_ : zMq T u28_ N57_ := by first | assumption | exact zMq.fr hsN57_ (by assumption) (by decide) (by decide)
                    have hUb_ : zUa N57_ (ze Mz 81 26 - 1 - u28_).toNat (ze N57_ 81 57) u55_ (u56_ + 1) := by first | exact zUa_s0 (by assumption) (by (exact hc_69)) | (rw [show ze N57_ 81 57 = ze N44_ 81 57 by omega]; exact hUs_)
                    exact ih_63 u55_ hu55_a hu55_b (u56_ + 1) (by (exact zo_74 i63_)) (by (exact zo_959 hc_69 i61_)) N57_ hs58_ (show zUa N57_ (ze Mz 81 26 - 1 - u28_).toNat (ze N57_ 81 57) u55_ (u56_ + 1) by exact hUb_) (show zMq T u28_ N57_ by first | assumption | omega) (show ze N57_ 81 57 ≤ 32768 by first | assumption | omega) (show ze N57_ 81 57 ≤ ((2 ^ gcu T (ze Mz 81 26 - 1 - u28_).toNat : Nat) : Int) by first | assumption | omega) (show 0 ≤ (u56_ + 1) by first | assumption | (exact zo_76 i63_)) (show (u56_ + 1) ≤ ze N57_ 81 57 by first | assumption | omega) (show ze N57_ 81 57 ≤ u55_ by first | assumption | omega) (show u55_ ≤ ze N57_ 81 57 + (u56_ + 1) by first | assumption | (exact zo_970 i66_)) i67_ (by (exact zo_147 hc_69 hlt_63))
          exact lp_63 _ (ze N44_ 81 57) (ze_r N44_ 81 57).1 (ze_r N44_ 81 57).2 0 (by decide) (by decide) N44_ zFr.rf (show zUa N44_ (ze Mz 81 26 - 1 - u28_).toNat (ze N44_ 81 57) (ze N44_ 81 57) (0 : Int) by exact hUa_) (show zMq T u28_ N44_ by first | assumption | omega) (show ze N44_ 81 57 ≤ 32768 by first | assumption | (exact zo_971 hbd_.2)) (show ze N44_ 81 57 ≤ ((2 ^ gcu T (ze Mz 81 26 - 1 - u28_).toNat : Nat) : Int) by first | assumption | omega) (show 0 ≤ (0 : Int) by first | assumption | (decide)) (show (0 : Int) ≤ ze N44_ 81 57 by first | assumption | (exact zo_57 hbd_.1)) (show ze N44_ 81 57 ≤ (ze N44_ 81 57) by first | assumption | (exact zo_628)) (show (ze N44_ 81 57) ≤ ze N44_ 81 57 + (0 : Int) by first | assumption | (exact zo_972)) c53_ (Nat.lt_succ_self _)
    exact lp_32 _ ((ze Mz 81 26) - 1) (by (exact zo_63 gb.2.2.2.2.1)) (by (exact zo_903 gb.2.2.2.2.2)) N19_ zFr.rf (show -1 ≤ ((ze Mz 81 26) - 1) by first | assumption | (exact zo_973 gb.2.2.2.2.1)) (show ((ze Mz 81 26) - 1) ≤ ze Mz 81 26 - 1 by first | assumption | (exact zo_904)) (show zUo T N19_ (ze Mz 81 26 - 1 - ((ze Mz 81 26) - 1)).toNat (ze N19_ 81 57) by rw [show (ze Mz 81 26 - 1 - ((ze Mz 81 26) - 1)).toNat = 0 by (exact zo_974), show ze N19_ 81 57 = 1 by (exact zo_594 e57_N19_ hvN10_)]; exact zUo_0 hz0_) (show 0 ≤ ze N19_ 81 57 by first | assumption | (exact zo_593 e57_N19_ hvN10_)) (show ze N19_ 81 57 ≤ 65536 by first | assumption | (exact zo_975 e57_N19_ hvN10_)) c21_ (Nat.lt_succ_self _)
  · skip
    exact zr_vret (pc := 7) rfl hf ⟨p1_, (show 0 ≤ ze Mz 81 57 by first | assumption | omega), (show ze Mz 81 57 ≤ 65536 by first | assumption | omega)⟩ (zdal_p dlD_M_laysUnits_76 (i := 3) rfl)
set_option maxHeartbeats 4000000 in
theorem c_M_units (l : Launch) (Mz : zMem) (hW : zMt Mz) (T : zGT) (hO : gOK T) (hX : gEx T) (p0_ : zGB T Mz) (p1_ : zB 110 65536 0 2147483647 Mz) (p2_ : 0 ≤ ze Mz 81 57) (p3_ : ze Mz 81 57 ≤ 65536) : zC l m_M_units 0 0 [.ref 81] Mz (zpI [55, 57, 58] [109, 110] Mz (fun v N => zB 110 65536 0 2147483647 N ∧ 0 ≤ ze N 81 57 ∧ ze N 81 57 ≤ 65536)) := by
  refine zC_of (L0 := [some (.ref 81)]) md_M_units (Nat.le_of_ble_eq_true rfl) rfl ?_ zQ0
  have hf : zFr [55, 57, 58] [109, 110] Mz Mz := zFr.rf
  have r_57 := ze_r Mz 81 57
  have hG := hO.1
  have g24 := hG.2.1
  have g1 := hG.1
  have dv0 : zTab T Mz := p0_.1
  have dv1 : zB 85 144 0 5 Mz := p0_.2.1
  have dv2 : zJX T Mz := p0_.2.2.1
  have dv3 : zFirs T Mz := p0_.2.2.2.1
  have dv4 : zSSm T Mz := p0_.2.2.2.2.1
  have dv5 : zGD Mz := zGB.d hO p0_
  have gb := dv5.1
  have gn := dv0.1
  refine zw_aload_n (pc := 0) (n := 0) (x := 81) rfl (zdal_p dlD_M_units_75 (i := 0) rfl) ?_
  refine zr_callV (hf.w hW) hf.x (pc := 1) [] [] l_M_465 (c_M_laysUnits l Mz (hf.w hW) T hO hX p0_ p1_ (show 0 ≤ ze Mz 81 57 by first | assumption | omega) (show ze Mz 81 57 ≤ 65536 by first | assumption | omega)) rfl rfl rfl (by decide) (Nat.le_of_ble_eq_true rfl) (zdal_p dlD_M_units_75 (i := 1) rfl) ?_
  rintro _ N1_ ⟨rfl, hsN1_, ⟨hp0_N1_, hp1_N1_, hp2_N1_⟩⟩
  have hf_N1_ : zFr [55, 57, 58] [109, 110] Mz N1_ := hf.tr hsN1_ (by decide) (by decide)
  have r57_N1_ := ze_r N1_ 81 57
  have c3_ : zGB T N1_ := zGB.fr hsN1_ p0_ (by decide) (by decide)
  have c4_ : zTab T N1_ := zTab.fr hsN1_ dv0 (by decide) (by decide)
  have c5_ : zB 85 144 0 5 N1_ := zB.fr hsN1_ dv1 (by decide) (by decide)
  have c6_ : zJX T N1_ := zJX.fr hsN1_ dv2 (by decide) (by decide)
  have c7_ : zFirs T N1_ := zFirs.fr hsN1_ dv3 (by decide) (by decide)
  have c8_ : zSSm T N1_ := zSSm.fr hsN1_ dv4 (by decide) (by decide)
  have c9_ : zGD N1_ := zGD.fr hsN1_ dv5 (by decide) (by decide)
  show zW l m_M_units (zn Mz + 0, zw Mz + 0) N1_ 4 [some (.ref 81)] [] _
  refine zw_aload_n (pc := 4) (n := 0) (x := 81) rfl (zdal_p dlD_M_units_75 (i := 2) rfl) ?_
  refine zr_getI (hf_N1_.w hW) (pc := 5) f_M_459 rfl (zdal_p dlD_M_units_75 (i := 3) rfl) ?_
  exact zr_iret (pc := 8) (ty := .int) rfl rfl ⟨by (exact zo_168 hp1_N1_), by (exact zo_976 hp2_N1_)⟩ hf_N1_ ⟨hp0_N1_, (show 0 ≤ ze N1_ 81 57 by first | assumption | omega), (show ze N1_ 81 57 ≤ 65536 by first | assumption | omega)⟩ (zdal_p dlD_M_units_75 (i := 4) rfl)
set_option maxHeartbeats 4000000 in
theorem c_M_unit (l : Launch) (Mz : zMem) (hW : zMt Mz) (a0_ : Int) (ha0_a : -2147483648 ≤ a0_) (ha0_b : a0_ < 2147483648) (a1_ : Int) (ha1_a : -2147483648 ≤ a1_) (ha1_b : a1_ < 2147483648) (T : zGT) (hO : gOK T) (hX : gEx T) (p0_ : zGB T Mz) (p1_ : zB 110 65536 0 2147483647 Mz) (p2_ : 0 ≤ ze Mz 81 57) (p3_ : ze Mz 81 57 ≤ 65536) : zC l m_M_unit 0 0 [.ref 81, .int (Int32.ofInt a0_), .int (Int32.ofInt a1_)] Mz (zpI [55, 57, 58] [96, 105, 109, 110] Mz (fun v N => zB 110 65536 0 2147483647 N ∧ 0 ≤ ze N 81 57 ∧ ze N 81 57 ≤ 65536)) := by
  refine zC_of (L0 := [some (.ref 81), some (.int (Int32.ofInt a0_)), some (.int (Int32.ofInt a1_)), none]) md_M_unit (Nat.le_of_ble_eq_true rfl) rfl ?_ zQ0
  have hf : zFr [55, 57, 58] [96, 105, 109, 110] Mz Mz := zFr.rf
  have r_26 := ze_r Mz 81 26
  have r_57 := ze_r Mz 81 57
  have hG := hO.1
  have g24 := hG.2.1
  have g1 := hG.1
  have dv0 : zTab T Mz := p0_.1
  have dv1 : zB 85 144 0 5 Mz := p0_.2.1
  have dv2 : zJX T Mz := p0_.2.2.1
  have dv3 : zFirs T Mz := p0_.2.2.2.1
  have dv4 : zSSm T Mz := p0_.2.2.2.2.1
  have dv5 : zGD Mz := zGB.d hO p0_
  have gb := dv5.1
  have gn := dv0.1
  refine zw_aload_n (pc := 0) (n := 0) (x := 81) rfl (zdal_p dlD_M_unit_86 (i := 0) rfl) ?_
  refine zw_iload_n (pc := 1) (n := 2) (x := Int32.ofInt a1_) rfl (zdal_p dlD_M_unit_86 (i := 1) rfl) ?_
  refine zr_callV (hf.w hW) hf.x (pc := 2) [.int (Int32.ofInt a1_)] [] l_M_414 (c_M_isSort l Mz (hf.w hW) a1_ ha1_a ha1_b T hO p0_) rfl rfl rfl (by decide) (Nat.le_of_ble_eq_true rfl) (zdal_p dlD_M_unit_86 (i := 2) rfl) ?_
  rintro _ N1_ ⟨v2_, rfl, ⟨hv2_a, hv2_b⟩, hsN1_, hp0_N1_⟩
  obtain rfl := hsN1_.eq.symm
  replace hp0_N1_ : ((v2_ = 1 ∧ 0 ≤ a1_ ∧ a1_ < ze Mz 81 26) ∨ (v2_ = 0)) := hp0_N1_
  rcases hp0_N1_ with ⟨rfl, ha2_0_hp0_N1_, ha2_1_hp0_N1_⟩ | rfl
  · skip
    show zW l m_M_unit (zn Mz + 0, zw Mz + 0) Mz 5 [some (.ref 81), some (.int (Int32.ofInt a0_)), some (.int (Int32.ofInt a1_)), none] [.int (Int32.ofInt 1)] _
    refine zr_if_ne (pc := 5) (tgt := 12) ⟨(by decide), (by decide)⟩ (by decide) (zdal_p dlD_M_unit_86 (i := 3) rfl) (fun hc_5 => ?_) (fun hc_5 => ?_)
    · skip
      refine zw_aload_n (pc := 12) (n := 0) (x := 81) rfl (zdal_p dlD_M_unit_86 (i := 6) rfl) ?_
      refine zr_callV (hf.w hW) hf.x (pc := 13) [] [] l_M_465 (c_M_laysUnits l Mz (hf.w hW) T hO hX p0_ p1_ (show 0 ≤ ze Mz 81 57 by first | assumption | omega) (show ze Mz 81 57 ≤ 65536 by first | assumption | omega)) rfl rfl rfl (by decide) (Nat.le_of_ble_eq_true rfl) (zdal_p dlD_M_unit_86 (i := 7) rfl) ?_
      rintro _ N3_ ⟨rfl, hsN3_, ⟨hp0_N3_, hp1_N3_, hp2_N3_⟩⟩
      have hf_N3_ : zFr [55, 57, 58] [96, 105, 109, 110] Mz N3_ := hf.tr hsN3_ (by decide) (by decide)
      have e26_N3_ : ze N3_ 81 26 = ze Mz 81 26 := hsN3_.e (by decide)
      have r57_N3_ := ze_r N3_ 81 57
      have c5_ : zGB T N3_ := zGB.fr hsN3_ p0_ (by decide) (by decide)
      have c6_ : zTab T N3_ := zTab.fr hsN3_ dv0 (by decide) (by decide)
      have c7_ : zB 85 144 0 5 N3_ := zB.fr hsN3_ dv1 (by decide) (by decide)
      have c8_ : zJX T N3_ := zJX.fr hsN3_ dv2 (by decide) (by decide)
      have c9_ : zFirs T N3_ := zFirs.fr hsN3_ dv3 (by decide) (by decide)
      have c10_ : zSSm T N3_ := zSSm.fr hsN3_ dv4 (by decide) (by decide)
      have c11_ : zGD N3_ := zGD.fr hsN3_ dv5 (by decide) (by decide)
      show zW l m_M_unit (zn Mz + 0, zw Mz + 0) N3_ 16 [some (.ref 81), some (.int (Int32.ofInt a0_)), some (.int (Int32.ofInt a1_)), none] [] _
      refine zw_iload_n (pc := 16) (n := 1) (x := Int32.ofInt a0_) rfl (zdal_p dlD_M_unit_86 (i := 8) rfl) ?_
      refine zr_i2l (pc := 17) ⟨ha0_a, ha0_b⟩ (zdal_p dlD_M_unit_86 (i := 9) rfl) ?_
      refine zw_lconst (pc := 18) (v := Int64.ofInt 0) (by decide) (zdal_p dlD_M_unit_86 (i := 10) rfl) ?_
      refine zw_aload_n (pc := 19) (n := 0) (x := 81) rfl (zdal_p dlD_M_unit_86 (i := 11) rfl) ?_
      refine zr_getI (hf_N3_.w hW) (pc := 20) f_M_459 rfl (zdal_p dlD_M_unit_86 (i := 12) rfl) ?_
      refine zw_iconst (pc := 23) (v := Int32.ofInt 1) (by decide) (zdal_p dlD_M_unit_86 (i := 13) rfl) ?_
      refine zr_isub (pc := 24) (zdal_p dlD_M_unit_86 (i := 14) rfl) ?_
      refine zr_i2l (pc := 25) ⟨(by (exact zo_600 hp1_N3_)), (by (exact zo_977 hp2_N3_))⟩ (zdal_p dlD_M_unit_86 (i := 15) rfl) ?_
      refine zr_callS hf_N3_.x (pc := 26) [.long (Int64.ofInt a0_), .long (Int64.ofInt 0), .long (Int64.ofInt ((ze N3_ 81 57) - 1))] [] l_M_131 (c_M_isIn l N3_ (hf_N3_.w hW) a0_ (by (exact zo_282 ha0_a)) (by (exact zo_283 ha0_b)) 0 (by decide) (by decide) ((ze N3_ 81 57) - 1) (by (exact zo_827 hp1_N3_)) (by (exact zo_978 hp2_N3_))) rfl rfl (by decide) (Nat.le_of_ble_eq_true rfl) (zdal_p dlD_M_unit_86 (i := 16) rfl) ?_
      rintro _ N12_ ⟨v13_, rfl, ⟨hv13_a, hv13_b⟩, hsN12_, hp0_N12_⟩
      obtain rfl := hsN12_.eq.symm
      replace hp0_N12_ : ((v13_ = 1 ∧ 0 ≤ a0_ ∧ a0_ ≤ ((ze N3_ 81 57) - 1)) ∨ (v13_ = 0 ∧ (a0_ < 0 ∨ ((ze N3_ 81 57) - 1) < a0_))) := hp0_N12_
      rcases hp0_N12_ with ⟨rfl, ha26_0_hp0_N12_, ha26_1_hp0_N12_⟩ | ⟨rfl, ha26_0_hp0_N12_⟩
      · skip
        show zW l m_M_unit (zn Mz + 0, zw Mz + 0) N3_ 29 [some (.ref 81), some (.int (Int32.ofInt a0_)), some (.int (Int32.ofInt a1_)), none] [.int (Int32.ofInt 1)] _
        refine zr_if_ne (pc := 29) (tgt := 36) ⟨(by decide), (by decide)⟩ (by decide) (zdal_p dlD_M_unit_86 (i := 17) rfl) (fun hc_29 => ?_) (fun hc_29 => ?_)
        · skip
          refine zw_iconst (pc := 36) (v := Int32.ofInt 0) (by decide) (zdal_p dlD_M_unit_86 (i := 20) rfl) ?_
          refine zw_istore_n (pc := 37) (i := 3) (L2 := [some (.ref 81), some (.int (Int32.ofInt a0_)), some (.int (Int32.ofInt a1_)), some (.int (Int32.ofInt 0))]) rfl (by decide) rfl (zdal_p dlD_M_unit_86 (i := 21) rfl) ?_
          have lp_38 : ∀ (n : Nat) (u14_ : Int) (hu14_a : -2147483648 ≤ u14_) (hu14_b : u14_ < 2147483648) (N15_ : zMem) (hs16_ : zFr [] [96] N3_ N15_) (i17_ : 0 ≤ u14_), (ze Mz 81 26 - u14_).toNat < n → zW l m_M_unit (zn Mz + 0, zw Mz + 0) N15_ 38 [some (.ref 81), some (.int (Int32.ofInt a0_)), some (.int (Int32.ofInt a1_)), some (.int (Int32.ofInt u14_))] [] (zpI [55, 57, 58] [96, 105, 109, 110] Mz (fun v N => zB 110 65536 0 2147483647 N ∧ 0 ≤ ze N 81 57 ∧ ze N 81 57 ≤ 65536)) := by
            intro n
            induction n with
            | zero =>
              intro u14_ hu14_a hu14_b N15_ hs16_ i17_ h0
              exact absurd h0 (Nat.not_lt_zero _)
            | succ n ih_38 =>
              intro u14_ hu14_a hu14_b N15_ hs16_ i17_ hlt_38
              have hf_N15_ : zFr [55, 57, 58] [96, 105, 109, 110] Mz N15_ := hf_N3_.tr hs16_ (by decide) (by decide)
              have e26_N15_ : ze N15_ 81 26 = ze N3_ 81 26 := hs16_.e (by decide)
              have e57_N15_ : ze N15_ 81 57 = ze N3_ 81 57 := hs16_.e (by decide)
              have c18_ : zGB T N15_ := zGB.fr hs16_ c5_ (by decide) (by decide)
              have c19_ : zTab T N15_ := zTab.fr hs16_ c6_ (by decide) (by decide)
              have c20_ : zB 85 144 0 5 N15_ := zB.fr hs16_ c7_ (by decide) (by decide)
              have c21_ : zJX T N15_ := zJX.fr hs16_ c8_ (by decide) (by decide)
              have c22_ : zFirs T N15_ := zFirs.fr hs16_ c9_ (by decide) (by decide)
              have c23_ : zSSm T N15_ := zSSm.fr hs16_ c10_ (by decide) (by decide)
              have c24_ : zGD N15_ := zGD.fr hs16_ c11_ (by decide) (by decide)
              have c25_ : zB 110 65536 0 2147483647 N15_ := zB.fr hs16_ hp0_N3_ (by decide) (by decide)
              refine zw_iload_n (pc := 38) (n := 3) (x := Int32.ofInt u14_) rfl (zdal_p dlD_M_unit_86 (i := 22) rfl) ?_
              refine zw_aload_n (pc := 39) (n := 0) (x := 81) rfl (zdal_p dlD_M_unit_86 (i := 23) rfl) ?_
              refine zr_getI0 hf_N15_ hW (pc := 40) (by decide) f_M_235 rfl (zdal_p dlD_M_unit_87 (i := 0) rfl) ?_
              refine zr_icmp_ge (pc := 43) (tgt := 85) ⟨hu14_a, hu14_b⟩ ⟨(ze_r Mz 81 26).1, (ze_r Mz 81 26).2⟩ (by decide) (zdal_p dlD_M_unit_87 (i := 1) rfl) (fun hc_43 => ?_) (fun hc_43 => ?_)
              · skip
                refine zw_aload_n (pc := 85) (n := 0) (x := 81) rfl (zdal_p dlD_M_unit_87 (i := 23) rfl) ?_
                refine zw_aload_n (pc := 86) (n := 0) (x := 81) rfl (zdal_p dlD_M_unit_88 (i := 0) rfl) ?_
                refine zr_getF (r := 96) (hf_N15_.w hW) (pc := 87) f_M_60 rfl (zh_96 (hf_N15_.w hW)).1 (zdal_p dlD_M_unit_88 (i := 1) rfl) ?_
                refine zw_aload_n (pc := 90) (n := 0) (x := 81) rfl (zdal_p dlD_M_unit_88 (i := 2) rfl) ?_
                refine zr_getF (r := 105) (hf_N15_.w hW) (pc := 91) f_M_87 rfl (zh_105 (hf_N15_.w hW)).1 (zdal_p dlD_M_unit_88 (i := 3) rfl) ?_
                refine zw_iconst (pc := 94) (v := Int32.ofInt 0) (by decide) (zdal_p dlD_M_unit_88 (i := 4) rfl) ?_
                refine zr_callV (hf_N15_.w hW) hf_N15_.x (pc := 95) [.ref 96, .ref 105, .int (Int32.ofInt 0)] [] l_M_289 (c_M_numbers_96_105 l N15_ (hf_N15_.w hW) 0 (by decide) (by decide) c24_ (show 0 ≤ 0 by first | assumption | (decide)) (show 0 ≤ 0 by first | assumption | (decide))) rfl rfl rfl (by decide) (Nat.le_of_ble_eq_true rfl) (zdal_p dlD_M_unit_88 (i := 5) rfl) ?_
                rintro _ N26_ ⟨rfl, hsN26_, -⟩
                have hf_N26_ : zFr [55, 57, 58] [96, 105, 109, 110] Mz N26_ := hf_N15_.tr hsN26_ (by decide) (by decide)
                have e26_N26_ : ze N26_ 81 26 = ze N15_ 81 26 := hsN26_.e (by decide)
                have e57_N26_ : ze N26_ 81 57 = ze N15_ 81 57 := hsN26_.e (by decide)
                have c28_ : zGB T N26_ := zGB.fr hsN26_ c18_ (by decide) (by decide)
                have c29_ : zTab T N26_ := zTab.fr hsN26_ c19_ (by decide) (by decide)
                have c30_ : zB 85 144 0 5 N26_ := zB.fr hsN26_ c20_ (by decide) (by decide)
                have c31_ : zJX T N26_ := zJX.fr hsN26_ c21_ (by decide) (by decide)
                have c32_ : zFirs T N26_ := zFirs.fr hsN26_ c22_ (by decide) (by decide)
                have c33_ : zSSm T N26_ := zSSm.fr hsN26_ c23_ (by decide) (by decide)
                have c34_ : zGD N26_ := zGD.fr hsN26_ c24_ (by decide) (by decide)
                have c35_ : zB 110 65536 0 2147483647 N26_ := zB.fr hsN26_ c25_ (by decide) (by decide)
                show zW l m_M_unit (zn Mz + 0, zw Mz + 0) N26_ 98 [some (.ref 81), some (.int (Int32.ofInt a0_)), some (.int (Int32.ofInt a1_)), some (.int (Int32.ofInt u14_))] [] _
                refine zw_aload_n (pc := 98) (n := 0) (x := 81) rfl (zdal_p dlD_M_unit_88 (i := 6) rfl) ?_
                refine zr_getF (r := 105) (hf_N26_.w hW) (pc := 99) f_M_87 rfl (zh_105 (hf_N26_.w hW)).1 (zdal_p dlD_M_unit_88 (i := 7) rfl) ?_
                refine zw_iload_n (pc := 102) (n := 2) (x := Int32.ofInt a1_) rfl (zdal_p dlD_M_unit_88 (i := 8) rfl) ?_
                refine zr_laldn (pc := 103) (zh_105 (hf_N26_.w hW)).2 (by decide) (by (exact ha2_0_hp0_N1_)) (by (exact zo_906 gb.2.2.2.2.2 ha1_b ha2_1_hp0_N1_)) (zdal_p dlD_M_unit_88 (i := 9) rfl) (fun v36_ hv36_ hv36_a hv36_b => ?_)
                refine zr_l2i (pc := 104) (zdal_p dlD_M_unit_88 (i := 10) rfl) ?_
                refine zr_nmI (fun v37_ hv37_ => ?_)
                obtain ⟨hv37_a, hv37_b⟩ := hv37_
                exact zr_iret (pc := 105) (ty := .int) rfl rfl ⟨by (exact hv37_a), by (exact hv37_b)⟩ hf_N26_ ⟨c35_, (show 0 ≤ ze N26_ 81 57 by first | assumption | (exact zo_871 e57_N15_ e57_N26_ hp1_N3_)), (show ze N26_ 81 57 ≤ 65536 by first | assumption | (exact zo_979 e57_N15_ e57_N26_ hp2_N3_))⟩ (zdal_p dlD_M_unit_88 (i := 11) rfl)
              · skip
                refine zw_aload_n (pc := 46) (n := 0) (x := 81) rfl (zdal_p dlD_M_unit_87 (i := 2) rfl) ?_
                refine zr_getF (r := 96) (hf_N15_.w hW) (pc := 47) f_M_60 rfl (zh_96 (hf_N15_.w hW)).1 (zdal_p dlD_M_unit_87 (i := 3) rfl) ?_
                refine zw_iload_n (pc := 50) (n := 3) (x := Int32.ofInt u14_) rfl (zdal_p dlD_M_unit_87 (i := 4) rfl) ?_
                refine zw_aload_n (pc := 51) (n := 0) (x := 81) rfl (zdal_p dlD_M_unit_87 (i := 5) rfl) ?_
                refine zr_getF (r := 110) (hf_N15_.w hW) (pc := 52) f_M_103 rfl (zh_110 (hf_N15_.w hW)).1 (zdal_p dlD_M_unit_87 (i := 6) rfl) ?_
                refine zw_iload_n (pc := 55) (n := 1) (x := Int32.ofInt a0_) rfl (zdal_p dlD_M_unit_87 (i := 7) rfl) ?_
                refine zr_ialdn (pc := 56) (zh_110 (hf_N15_.w hW)).2 (by decide) (by (exact ha26_0_hp0_N12_)) (by (exact zo_980 ha0_b ha26_1_hp0_N12_ hp2_N3_)) (zdal_p dlD_M_unit_87 (i := 8) rfl) (fun v38_ hv38_ hv38_a hv38_b => ?_)
                have hr39_ := c25_.g (e := a0_) (by (exact ha26_0_hp0_N12_)) (by (exact zo_980 ha0_b ha26_1_hp0_N12_ hp2_N3_))
                rw [← hv38_] at hr39_
                refine zw_aload_n (pc := 57) (n := 0) (x := 81) rfl (zdal_p dlD_M_unit_87 (i := 9) rfl) ?_
                refine zr_getI0 hf_N15_ hW (pc := 58) (by decide) f_M_235 rfl (zdal_p dlD_M_unit_87 (i := 10) rfl) ?_
                refine zw_iconst (pc := 61) (v := Int32.ofInt 1) (by decide) (zdal_p dlD_M_unit_87 (i := 11) rfl) ?_
                refine zr_isub (pc := 62) (zdal_p dlD_M_unit_87 (i := 12) rfl) ?_
                refine zw_iload_n (pc := 63) (n := 3) (x := Int32.ofInt u14_) rfl (zdal_p dlD_M_unit_87 (i := 13) rfl) ?_
                refine zr_isub (pc := 64) (zdal_p dlD_M_unit_87 (i := 14) rfl) ?_
                refine zr_callS hf_N15_.x (pc := 65) [.int (Int32.ofInt v38_), .int (Int32.ofInt (((ze Mz 81 26) - 1) - u14_))] [.int (Int32.ofInt u14_), .ref 96] l_M_213 (c_M_holdsB l N15_ (hf_N15_.w hW) v38_ hv38_a hv38_b (((ze Mz 81 26) - 1) - u14_) (by (exact zo_981 hc_43)) (by (exact zo_982 gb.2.2.2.2.2 i17_))) rfl rfl (by decide) (Nat.le_of_ble_eq_true rfl) (zdal_p dlD_M_unit_87 (i := 15) rfl) ?_
                rintro _ N40_ ⟨v41_, rfl, ⟨hv41_a, hv41_b⟩, hsN40_, hp0_N40_⟩
                obtain rfl := hsN40_.eq.symm
                replace hp0_N40_ : (v41_ = 0 ∨ v41_ = 1) := hp0_N40_
                show zW l m_M_unit (zn Mz + 0, zw Mz + 0) N15_ 68 [some (.ref 81), some (.int (Int32.ofInt a0_)), some (.int (Int32.ofInt a1_)), some (.int (Int32.ofInt u14_))] [.int (Int32.ofInt v41_), .int (Int32.ofInt u14_), .ref 96] _
                refine zr_if_eq (pc := 68) (tgt := 77) ⟨hv41_a, hv41_b⟩ (by decide) (zdal_p dlD_M_unit_87 (i := 16) rfl) (fun hc_68 => ?_) (fun hc_68 => ?_)
                · skip
                  refine zw_lconst (pc := 77) (v := Int64.ofInt 1) (by decide) (zdal_p dlD_M_unit_87 (i := 19) rfl) ?_
                  refine zr_last (pc := 78) (zh_96 (hf_N15_.w hW)).2 (by decide) (by decide) (by (exact i17_)) (by (exact zo_831 gb.2.2.2.2.2 hc_43)) (zdal_p dlD_M_unit_87 (i := 20) rfl) (fun N42_ hN42_ hsN42_ => ?_)
                  have hf_N42_ : zFr [55, 57, 58] [96, 105, 109, 110] Mz N42_ := hf_N15_.tr hsN42_ (by decide) (by decide)
                  have hb0_N42_ : zFr [] [96] N3_ N42_ := hs16_.tr hsN42_ (by decide) (by decide)
                  have e26_N42_ : ze N42_ 81 26 = ze N15_ 81 26 := hsN42_.e (by decide)
                  have e57_N42_ : ze N42_ 81 57 = ze N15_ 81 57 := hsN42_.e (by decide)
                  have c43_ : zGB T N42_ := zGB.fr hsN42_ c18_ (by decide) (by decide)
                  have c44_ : zTab T N42_ := zTab.fr hsN42_ c19_ (by decide) (by decide)
                  have c45_ : zB 85 144 0 5 N42_ := zB.fr hsN42_ c20_ (by decide) (by decide)
                  have c46_ : zJX T N42_ := zJX.fr hsN42_ c21_ (by decide) (by decide)
                  have c47_ : zFirs T N42_ := zFirs.fr hsN42_ c22_ (by decide) (by decide)
                  have c48_ : zSSm T N42_ := zSSm.fr hsN42_ c23_ (by decide) (by decide)
                  have c49_ : zGD N42_ := zGD.fr hsN42_ c24_ (by decide) (by decide)
                  have c50_ : zB 110 65536 0 2147483647 N42_ := zB.fr hsN42_ c25_ (by decide) (by decide)
                  refine zr_iinc (pc := 79) (i := 3) (a := u14_) (n := 1) (L2 := [some (.ref 81), some (.int (Int32.ofInt a0_)), some (.int (Int32.ofInt a1_)), some (.int (Int32.ofInt (u14_ + 1)))]) rfl (by decide) rfl (zdal_p dlD_M_unit_87 (i := 21) rfl) ?_
                  refine zw_goto (pc := 82) (tgt := 38) (by decide) (zdal_p dlD_M_unit_87 (i := 22) rfl) ?_
                  exact ih_38 (u14_ + 1) (by (exact zo_74 i17_)) (by (exact zo_832 gb.2.2.2.2.2 hc_43)) N42_ hb0_N42_ (show 0 ≤ (u14_ + 1) by first | assumption | (exact zo_76 i17_)) (by (exact zo_147 hc_43 hlt_38))
                · skip
                  refine zr_ldc2 (pc := 71) (n := (-1)) (by decide) k_M_468 (zdal_p dlD_M_unit_87 (i := 17) rfl) ?_
                  refine zw_goto (pc := 74) (tgt := 78) (by decide) (zdal_p dlD_M_unit_87 (i := 18) rfl) ?_
                  refine zr_last (pc := 78) (zh_96 (hf_N15_.w hW)).2 (by decide) (by decide) (by (exact i17_)) (by (exact zo_831 gb.2.2.2.2.2 hc_43)) (zdal_p dlD_M_unit_87 (i := 20) rfl) (fun N51_ hN51_ hsN51_ => ?_)
                  have hf_N51_ : zFr [55, 57, 58] [96, 105, 109, 110] Mz N51_ := hf_N15_.tr hsN51_ (by decide) (by decide)
                  have hb0_N51_ : zFr [] [96] N3_ N51_ := hs16_.tr hsN51_ (by decide) (by decide)
                  have e26_N51_ : ze N51_ 81 26 = ze N15_ 81 26 := hsN51_.e (by decide)
                  have e57_N51_ : ze N51_ 81 57 = ze N15_ 81 57 := hsN51_.e (by decide)
                  have c52_ : zGB T N51_ := zGB.fr hsN51_ c18_ (by decide) (by decide)
                  have c53_ : zTab T N51_ := zTab.fr hsN51_ c19_ (by decide) (by decide)
                  have c54_ : zB 85 144 0 5 N51_ := zB.fr hsN51_ c20_ (by decide) (by decide)
                  have c55_ : zJX T N51_ := zJX.fr hsN51_ c21_ (by decide) (by decide)
                  have c56_ : zFirs T N51_ := zFirs.fr hsN51_ c22_ (by decide) (by decide)
                  have c57_ : zSSm T N51_ := zSSm.fr hsN51_ c23_ (by decide) (by decide)
                  have c58_ : zGD N51_ := zGD.fr hsN51_ c24_ (by decide) (by decide)
                  have c59_ : zB 110 65536 0 2147483647 N51_ := zB.fr hsN51_ c25_ (by decide) (by decide)
                  refine zr_iinc (pc := 79) (i := 3) (a := u14_) (n := 1) (L2 := [some (.ref 81), some (.int (Int32.ofInt a0_)), some (.int (Int32.ofInt a1_)), some (.int (Int32.ofInt (u14_ + 1)))]) rfl (by decide) rfl (zdal_p dlD_M_unit_87 (i := 21) rfl) ?_
                  refine zw_goto (pc := 82) (tgt := 38) (by decide) (zdal_p dlD_M_unit_87 (i := 22) rfl) ?_
                  exact ih_38 (u14_ + 1) (by (exact zo_74 i17_)) (by (exact zo_832 gb.2.2.2.2.2 hc_43)) N51_ hb0_N51_ (show 0 ≤ (u14_ + 1) by first | assumption | (exact zo_76 i17_)) (by (exact zo_147 hc_43 hlt_38))
          exact lp_38 _ 0 (by decide) (by decide) N3_ zFr.rf (show 0 ≤ (0 : Int) by first | assumption | (decide)) (Nat.lt_succ_self _)
        · skip
          exact absurd hc_29 (by decide)
      · skip
        show zW l m_M_unit (zn Mz + 0, zw Mz + 0) N3_ 29 [some (.ref 81), some (.int (Int32.ofInt a0_)), some (.int (Int32.ofInt a1_)), none] [.int (Int32.ofInt 0)] _
        refine zr_if_ne (pc := 29) (tgt := 36) ⟨(by decide), (by decide)⟩ (by decide) (zdal_p dlD_M_unit_86 (i := 17) rfl) (fun hc_29 => ?_) (fun hc_29 => ?_)
        · skip
          exact absurd hc_29 (by decide)
        · skip
          refine zw_ldcw (pc := 32) (v := Int32.ofInt (-1000000)) (by rw [show Int32.ofInt (-1000000) = ((-1000000) : Int32) by decide]; exact k_M_435) (zdal_p dlD_M_unit_86 (i := 18) rfl) ?_
          exact zr_iret (pc := 35) (ty := .int) rfl rfl ⟨by (decide), by (decide)⟩ hf_N3_ ⟨hp0_N3_, (show 0 ≤ ze N3_ 81 57 by first | assumption | omega), (show ze N3_ 81 57 ≤ 65536 by first | assumption | omega)⟩ (zdal_p dlD_M_unit_86 (i := 19) rfl)
    · skip
      exact absurd hc_5 (by decide)
  · skip
    show zW l m_M_unit (zn Mz + 0, zw Mz + 0) Mz 5 [some (.ref 81), some (.int (Int32.ofInt a0_)), some (.int (Int32.ofInt a1_)), none] [.int (Int32.ofInt 0)] _
    refine zr_if_ne (pc := 5) (tgt := 12) ⟨(by decide), (by decide)⟩ (by decide) (zdal_p dlD_M_unit_86 (i := 3) rfl) (fun hc_5 => ?_) (fun hc_5 => ?_)
    · skip
      exact absurd hc_5 (by decide)
    · skip
      refine zw_ldcw (pc := 8) (v := Int32.ofInt (-1000000)) (by rw [show Int32.ofInt (-1000000) = ((-1000000) : Int32) by decide]; exact k_M_435) (zdal_p dlD_M_unit_86 (i := 4) rfl) ?_
      exact zr_iret (pc := 11) (ty := .int) rfl rfl ⟨by (decide), by (decide)⟩ hf ⟨p1_, (show 0 ≤ ze Mz 81 57 by first | assumption | omega), (show ze Mz 81 57 ≤ 65536 by first | assumption | omega)⟩ (zdal_p dlD_M_unit_86 (i := 5) rfl)
