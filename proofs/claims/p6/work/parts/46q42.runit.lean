set_option maxHeartbeats 40000000 in
theorem c_M_laysUnits (l : Launch) (Mz : zMem) (hW : zMt Mz) (T : zGT) (hO : gOK T) (hX : gEx T) (p0_ : zGB T Mz) (p1_ : zB 110 65536 0 2147483647 Mz) (p2_ : 0 ≤ ze Mz 81 57) (p3_ : ze Mz 81 57 ≤ 65536) : zC l m_M_laysUnits 0 0 [.ref 81] Mz (zpV [55, 57, 58] [109, 110] Mz (fun N => zB 110 65536 0 2147483647 N ∧ 0 ≤ ze N 81 57 ∧ ze N 81 57 ≤ 65536)) := by
  refine zC_of (L0 := [some (.ref 81), none, none, none, none, none]) md_M_laysUnits (Nat.le_of_ble_eq_true rfl) rfl ?_ zQ0
  have hf : zFr [55, 57, 58] [109, 110] Mz Mz := zFr.rf
  have r_26 := ze_r Mz 81 26
  have r_55 := ze_r Mz 81 55
  have r_57 := ze_r Mz 81 57
  have r_58 := ze_r Mz 81 58
  have hG := hO.1
  have g24 := hG.2.1
  have g1 := hG.1
  have dv0 : zTab T Mz := p0_.1
  have dv1 : zB 85 144 0 5 Mz := p0_.2.1
  have dv2 : zJX T Mz := p0_.2.2.1
  have dv3 : zFirs T Mz := p0_.2.2.2.1
  have dv4 : zSSm T Mz := p0_.2.2.2.2.1
  have dv5 : zGD Mz := zGB.d hO p0_
  have gb := dv5.1
  have gn := dv0.1
  have gfl := dv3.1
  have gf6 := gF_pos hO
  have gxl := hX.2.1
  refine zw_aload_n (pc := 0) (n := 0) (x := 81) rfl (zdal_p dlD_M_laysUnits_76 (i := 0) rfl) ?_
  refine zr_getI (hf.w hW) (pc := 1) f_M_394 rfl (zdal_p dlD_M_laysUnits_76 (i := 1) rfl) ?_
  refine zr_if_eq (pc := 4) (tgt := 8) ⟨(ze_r Mz 81 58).1, (ze_r Mz 81 58).2⟩ (by decide) (zdal_p dlD_M_laysUnits_76 (i := 2) rfl) (fun hc_4 => ?_) (fun hc_4 => ?_)
  · skip
    refine zw_aload_n (pc := 8) (n := 0) (x := 81) rfl (zdal_p dlD_M_laysUnits_76 (i := 4) rfl) ?_
    refine zw_iconst (pc := 9) (v := Int32.ofInt 1) (by decide) (zdal_p dlD_M_laysUnits_76 (i := 5) rfl) ?_
    refine zr_putI (hf.w hW) (pc := 10) f_M_394 rfl rfl ⟨by (decide), by (decide)⟩ (z_narB (by (decide))) (z_fitB (by (decide))) (zdal_p dlD_M_laysUnits_76 (i := 6) rfl) (fun N1_ hsN1_ hvN1_ => ?_)
    have hf_N1_ : zFr [55, 57, 58] [109, 110] Mz N1_ := hf.tr hsN1_ (by decide) (by decide)
    have e26_N1_ : ze N1_ 81 26 = ze Mz 81 26 := hsN1_.e (by decide)
    have e55_N1_ : ze N1_ 81 55 = ze Mz 81 55 := hsN1_.e (by decide)
    have e57_N1_ : ze N1_ 81 57 = ze Mz 81 57 := hsN1_.e (by decide)
    have r58_N1_ := ze_r N1_ 81 58
    have c2_ : zGB T N1_ := zGB.fr hsN1_ p0_ (by decide) (by decide)
    have c3_ : zB 110 65536 0 2147483647 N1_ := zB.fr hsN1_ p1_ (by decide) (by decide)
    have c4_ : zTab T N1_ := zTab.fr hsN1_ dv0 (by decide) (by decide)
    have c5_ : zB 85 144 0 5 N1_ := zB.fr hsN1_ dv1 (by decide) (by decide)
    have c6_ : zJX T N1_ := zJX.fr hsN1_ dv2 (by decide) (by decide)
    have c7_ : zFirs T N1_ := zFirs.fr hsN1_ dv3 (by decide) (by decide)
    have c8_ : zSSm T N1_ := zSSm.fr hsN1_ dv4 (by decide) (by decide)
    have c9_ : zGD N1_ := zGD.fr hsN1_ dv5 (by decide) (by decide)
    refine zw_aload_n (pc := 13) (n := 0) (x := 81) rfl (zdal_p dlD_M_laysUnits_76 (i := 7) rfl) ?_
    refine zw_iconst (pc := 14) (v := Int32.ofInt 1) (by decide) (zdal_p dlD_M_laysUnits_76 (i := 8) rfl) ?_
    refine zr_putI (hf_N1_.w hW) (pc := 15) f_M_459 rfl rfl ⟨by (decide), by (decide)⟩ rfl rfl (zdal_p dlD_M_laysUnits_76 (i := 9) rfl) (fun N10_ hsN10_ hvN10_ => ?_)
    have hf_N10_ : zFr [55, 57, 58] [109, 110] Mz N10_ := hf_N1_.tr hsN10_ (by decide) (by decide)
    have e26_N10_ : ze N10_ 81 26 = ze N1_ 81 26 := hsN10_.e (by decide)
    have e55_N10_ : ze N10_ 81 55 = ze N1_ 81 55 := hsN10_.e (by decide)
    have r57_N10_ := ze_r N10_ 81 57
    have e58_N10_ : ze N10_ 81 58 = ze N1_ 81 58 := hsN10_.e (by decide)
    have c11_ : zGB T N10_ := zGB.fr hsN10_ c2_ (by decide) (by decide)
    have c12_ : zB 110 65536 0 2147483647 N10_ := zB.fr hsN10_ c3_ (by decide) (by decide)
    have c13_ : zTab T N10_ := zTab.fr hsN10_ c4_ (by decide) (by decide)
    have c14_ : zB 85 144 0 5 N10_ := zB.fr hsN10_ c5_ (by decide) (by decide)
    have c15_ : zJX T N10_ := zJX.fr hsN10_ c6_ (by decide) (by decide)
    have c16_ : zFirs T N10_ := zFirs.fr hsN10_ c7_ (by decide) (by decide)
    have c17_ : zSSm T N10_ := zSSm.fr hsN10_ c8_ (by decide) (by decide)
    have c18_ : zGD N10_ := zGD.fr hsN10_ c9_ (by decide) (by decide)
    refine zw_aload_n (pc := 18) (n := 0) (x := 81) rfl (zdal_p dlD_M_laysUnits_76 (i := 10) rfl) ?_
    refine zr_getF (r := 110) (hf_N10_.w hW) (pc := 19) f_M_103 rfl (zh_110 (hf_N10_.w hW)).1 (zdal_p dlD_M_laysUnits_76 (i := 11) rfl) ?_
    refine zw_iconst (pc := 22) (v := Int32.ofInt 0) (by decide) (zdal_p dlD_M_laysUnits_76 (i := 12) rfl) ?_
    refine zw_iconst (pc := 23) (v := Int32.ofInt 0) (by decide) (zdal_p dlD_M_laysUnits_76 (i := 13) rfl) ?_
    refine zr_iast (pc := 24) (zh_110 (hf_N10_.w hW)).2 (by decide) (by decide) (by (decide)) (by (decide)) (zdal_p dlD_M_laysUnits_76 (i := 14) rfl) (fun N19_ hN19_ hsN19_ => ?_)
    have hf_N19_ : zFr [55, 57, 58] [109, 110] Mz N19_ := hf_N10_.tr hsN19_ (by decide) (by decide)
    have e26_N19_ : ze N19_ 81 26 = ze N10_ 81 26 := hsN19_.e (by decide)
    have e55_N19_ : ze N19_ 81 55 = ze N10_ 81 55 := hsN19_.e (by decide)
    have e57_N19_ : ze N19_ 81 57 = ze N10_ 81 57 := hsN19_.e (by decide)
    have e58_N19_ : ze N19_ 81 58 = ze N10_ 81 58 := hsN19_.e (by decide)
    have c20_ : zGB T N19_ := zGB.fr hsN19_ c11_ (by decide) (by decide)
    have c21_ : zB 110 65536 0 2147483647 N19_ := zB.s c12_ hN19_ (by (decide)) (by (decide)) (by decide) (by decide)
    have c22_ : zTab T N19_ := zTab.fr hsN19_ c13_ (by decide) (by decide)
    have c23_ : zB 85 144 0 5 N19_ := zB.fr hsN19_ c14_ (by decide) (by decide)
    have c24_ : zJX T N19_ := zJX.fr hsN19_ c15_ (by decide) (by decide)
    have c25_ : zFirs T N19_ := zFirs.fr hsN19_ c16_ (by decide) (by decide)
    have c26_ : zSSm T N19_ := zSSm.fr hsN19_ c17_ (by decide) (by decide)
    have c27_ : zGD N19_ := zGD.fr hsN19_ c18_ (by decide) (by decide)
    have hz0_ : ze N19_ 110 0 = 0 := zs_get hN19_ ⟨by decide, by decide⟩
    refine zw_aload_n (pc := 25) (n := 0) (x := 81) rfl (zdal_p dlD_M_laysUnits_76 (i := 15) rfl) ?_
    refine zr_getI0 hf_N19_ hW (pc := 26) (by decide) f_M_235 rfl (zdal_p dlD_M_laysUnits_76 (i := 16) rfl) ?_
    refine zw_iconst (pc := 29) (v := Int32.ofInt 1) (by decide) (zdal_p dlD_M_laysUnits_76 (i := 17) rfl) ?_
    refine zr_isub (pc := 30) (zdal_p dlD_M_laysUnits_76 (i := 18) rfl) ?_
    refine zw_istore_n (pc := 31) (i := 1) (L2 := [some (.ref 81), some (.int (Int32.ofInt ((ze Mz 81 26) - 1))), none, none, none, none]) rfl (by decide) rfl (zdal_p dlD_M_laysUnits_76 (i := 19) rfl) ?_
    have lp_32 : ∀ (n : Nat) (u28_ : Int) (hu28_a : -2147483648 ≤ u28_) (hu28_b : u28_ < 2147483648) (N29_ : zMem) (hs30_ : zFr [55, 57] [109, 110] N19_ N29_) (i31_ : -1 ≤ u28_) (i32_ : u28_ ≤ ze Mz 81 26 - 1) (i33_ : zUo T N29_ (ze Mz 81 26 - 1 - u28_).toNat (ze N29_ 81 57)) (i34_ : 0 ≤ ze N29_ 81 57) (i35_ : ze N29_ 81 57 ≤ 65536) (i36_ : zB 110 65536 0 2147483647 N29_), (u28_ + 1).toNat < n → zW l m_M_laysUnits (zn Mz + 0, zw Mz + 0) N29_ 32 [some (.ref 81), some (.int (Int32.ofInt u28_)), none, none, none, none] [] (zpV [55, 57, 58] [109, 110] Mz (fun N => zB 110 65536 0 2147483647 N ∧ 0 ≤ ze N 81 57 ∧ ze N 81 57 ≤ 65536)) := by
      intro n
      induction n with
      | zero =>
        intro u28_ hu28_a hu28_b N29_ hs30_ i31_ i32_ i33_ i34_ i35_ i36_ h0
        exact absurd h0 (Nat.not_lt_zero _)
      | succ n ih_32 =>
        intro u28_ hu28_a hu28_b N29_ hs30_ i31_ i32_ i33_ i34_ i35_ i36_ hlt_32
        have hf_N29_ : zFr [55, 57, 58] [109, 110] Mz N29_ := hf_N19_.tr hs30_ (by decide) (by decide)
        have e26_N29_ : ze N29_ 81 26 = ze N19_ 81 26 := hs30_.e (by decide)
        have r55_N29_ := ze_r N29_ 81 55
        have r57_N29_ := ze_r N29_ 81 57
        have e58_N29_ : ze N29_ 81 58 = ze N19_ 81 58 := hs30_.e (by decide)
        have c37_ : zGB T N29_ := zGB.fr hs30_ c20_ (by decide) (by decide)
        have c38_ : zTab T N29_ := zTab.fr hs30_ c22_ (by decide) (by decide)
        have c39_ : zB 85 144 0 5 N29_ := zB.fr hs30_ c23_ (by decide) (by decide)
        have c40_ : zJX T N29_ := zJX.fr hs30_ c24_ (by decide) (by decide)
        have c41_ : zFirs T N29_ := zFirs.fr hs30_ c25_ (by decide) (by decide)
        have c42_ : zSSm T N29_ := zSSm.fr hs30_ c26_ (by decide) (by decide)
        have c43_ : zGD N29_ := zGD.fr hs30_ c27_ (by decide) (by decide)
        refine zw_iload_n (pc := 32) (n := 1) (x := Int32.ofInt u28_) rfl (zdal_p dlD_M_laysUnits_76 (i := 20) rfl) ?_
        refine zr_if_lt (pc := 33) (tgt := 215) ⟨hu28_a, hu28_b⟩ (by decide) (zdal_p dlD_M_laysUnits_76 (i := 21) rfl) (fun hc_33 => ?_) (fun hc_33 => ?_)
        · skip
          exact zr_vret (pc := 215) rfl hf_N29_ ⟨i36_, (show 0 ≤ ze N29_ 81 57 by first | with_reducible assumption | assumption | omega), (show ze N29_ 81 57 ≤ 65536 by first | with_reducible assumption | assumption | omega)⟩ (zdal_p dlD_M_laysUnits_80 (i := 21) rfl)
        · skip
          refine zw_aload_n (pc := 36) (n := 0) (x := 81) rfl (zdal_p dlD_M_laysUnits_76 (i := 22) rfl) ?_
          refine zw_iload_n (pc := 37) (n := 1) (x := Int32.ofInt u28_) rfl (zdal_p dlD_M_laysUnits_76 (i := 23) rfl) ?_
          refine zr_callV (hf_N29_.w hW) hf_N29_.x (pc := 38) [.int (Int32.ofInt u28_)] [] l_M_456 (c_M_laysMade l N29_ (hf_N29_.w hW) u28_ hu28_a hu28_b T hO hX c37_ (show 0 ≤ u28_ by first | with_reducible assumption | assumption | omega) (show u28_ < ze N29_ 81 26 by first | with_reducible assumption | (exact zo_930 e26_N10_ e26_N19_ e26_N1_ e26_N29_ i32_) | assumption)) rfl rfl rfl (by decide) (Nat.le_of_ble_eq_true rfl) (zdal_p dlD_M_laysUnits_77 (i := 0) rfl) ?_
          rintro _ N44_ ⟨rfl, hsN44_, ⟨hp0_N44_, hp1_N44_, hp2_N44_⟩⟩
          have hf_N44_ : zFr [55, 57, 58] [109, 110] Mz N44_ := hf_N29_.tr hsN44_ (by decide) (by decide)
          have hb0_N44_ : zFr [55, 57] [109, 110] N19_ N44_ := hs30_.tr hsN44_ (by decide) (by decide)
          have e26_N44_ : ze N44_ 81 26 = ze N29_ 81 26 := hsN44_.e (by decide)
          have r55_N44_ := ze_r N44_ 81 55
          have e57_N44_ : ze N44_ 81 57 = ze N29_ 81 57 := hsN44_.e (by decide)
          have e58_N44_ : ze N44_ 81 58 = ze N29_ 81 58 := hsN44_.e (by decide)
          have c46_ : zGB T N44_ := zGB.fr hsN44_ c37_ (by decide) (by decide)
          have c47_ : zTab T N44_ := zTab.fr hsN44_ c38_ (by decide) (by decide)
          have c48_ : zB 85 144 0 5 N44_ := zB.fr hsN44_ c39_ (by decide) (by decide)
          have c49_ : zJX T N44_ := zJX.fr hsN44_ c40_ (by decide) (by decide)
          have c50_ : zFirs T N44_ := zFirs.fr hsN44_ c41_ (by decide) (by decide)
          have c51_ : zSSm T N44_ := zSSm.fr hsN44_ c42_ (by decide) (by decide)
          have c52_ : zGD N44_ := zGD.fr hsN44_ c43_ (by decide) (by decide)
          have c53_ : zB 110 65536 0 2147483647 N44_ := zB.fr hsN44_ i36_ (by decide) (by decide)
          show zW l m_M_laysUnits (zn Mz + 0, zw Mz + 0) N44_ 41 [some (.ref 81), some (.int (Int32.ofInt u28_)), none, none, none, none] [] _
          have hUo_ : zUo T N44_ (ze Mz 81 26 - 1 - u28_).toNat (ze N44_ 81 57) := by rw [show ze N44_ 81 57 = ze N29_ 81 57 by (exact e57_N44_)]; exact zUo.fr hsN44_ (by first | with_reducible assumption | assumption) (by decide)
          have hbd_ := zUo_b hX (by (exact zo_931 gb.2.2.2.2.2 gfl hc_33 i32_)) hUo_
          have hUa_ := zUa_0 hUo_.1 hUo_.2.2
          have hug_ := hUo_.2.1
          have h2d_ := gp30 (d := (ze Mz 81 26 - 1 - u28_).toNat) (by (exact zo_932 gb.2.2.2.2.2 gfl gxl hc_33 i32_))
          refine zw_iconst (pc := 41) (v := Int32.ofInt 1) (by decide) (zdal_p dlD_M_laysUnits_77 (i := 1) rfl) ?_
          refine zw_aload_n (pc := 42) (n := 0) (x := 81) rfl (zdal_p dlD_M_laysUnits_77 (i := 2) rfl) ?_
          refine zr_getI0 hf_N44_ hW (pc := 43) (by decide) f_M_235 rfl (zdal_p dlD_M_laysUnits_77 (i := 3) rfl) ?_
          refine zw_iconst (pc := 46) (v := Int32.ofInt 1) (by decide) (zdal_p dlD_M_laysUnits_77 (i := 4) rfl) ?_
          refine zr_isub (pc := 47) (zdal_p dlD_M_laysUnits_77 (i := 5) rfl) ?_
          refine zw_iload_n (pc := 48) (n := 1) (x := Int32.ofInt u28_) rfl (zdal_p dlD_M_laysUnits_77 (i := 6) rfl) ?_
          refine zr_isub (pc := 49) (zdal_p dlD_M_laysUnits_77 (i := 7) rfl) ?_
          refine zr_ishl (pc := 50) (zdal_p dlD_M_laysUnits_77 (i := 8) rfl) ?_
          have hr54_ := zshl_r 1 (((ze Mz 81 26) - 1) - u28_)
          have hbit_ : (zshl 1 (((ze Mz 81 26) - 1) - u28_)) = zshl 1 (((ze Mz 81 26 - 1 - u28_).toNat : Nat) : Int) := by rw [show (((ze Mz 81 26 - 1 - u28_).toNat : Nat) : Int) = ze Mz 81 26 - 1 - u28_ by (exact zo_933 i32_)]
          have hbp_ := zshl_p (k := ze Mz 81 26 - 1 - u28_) (by (exact zo_934 i32_)) (by (exact zo_935 gb.2.2.2.2.2 gfl gxl hc_33))
          refine zw_istore_n (pc := 51) (i := 2) (L2 := [some (.ref 81), some (.int (Int32.ofInt u28_)), some (.int (Int32.ofInt (zshl 1 (((ze Mz 81 26) - 1) - u28_)))), none, none, none]) rfl (by decide) rfl (zdal_p dlD_M_laysUnits_77 (i := 9) rfl) ?_
          refine zw_iconst (pc := 52) (v := Int32.ofInt 0) (by decide) (zdal_p dlD_M_laysUnits_77 (i := 10) rfl) ?_
          refine zw_istore_n (pc := 53) (i := 3) (L2 := [some (.ref 81), some (.int (Int32.ofInt u28_)), some (.int (Int32.ofInt (zshl 1 (((ze Mz 81 26) - 1) - u28_)))), some (.int (Int32.ofInt 0)), none, none]) rfl (by decide) rfl (zdal_p dlD_M_laysUnits_77 (i := 11) rfl) ?_
          refine zw_aload_n (pc := 54) (n := 0) (x := 81) rfl (zdal_p dlD_M_laysUnits_77 (i := 12) rfl) ?_
          refine zr_getI (hf_N44_.w hW) (pc := 55) f_M_459 rfl (zdal_p dlD_M_laysUnits_77 (i := 13) rfl) ?_
          refine zw_istore (pc := 58) (i := 4) (L2 := [some (.ref 81), some (.int (Int32.ofInt u28_)), some (.int (Int32.ofInt (zshl 1 (((ze Mz 81 26) - 1) - u28_)))), some (.int (Int32.ofInt 0)), some (.int (Int32.ofInt (ze N44_ 81 57))), none]) (by decide) rfl (zdal_p dlD_M_laysUnits_77 (i := 14) rfl) ?_
          refine zw_iconst (pc := 60) (v := Int32.ofInt 0) (by decide) (zdal_p dlD_M_laysUnits_77 (i := 15) rfl) ?_
          refine zw_istore (pc := 61) (i := 5) (L2 := [some (.ref 81), some (.int (Int32.ofInt u28_)), some (.int (Int32.ofInt (zshl 1 (((ze Mz 81 26) - 1) - u28_)))), some (.int (Int32.ofInt 0)), some (.int (Int32.ofInt (ze N44_ 81 57))), some (.int (Int32.ofInt 0))]) (by decide) rfl (zdal_p dlD_M_laysUnits_77 (i := 16) rfl) ?_
          have lp_63 : ∀ (n : Nat) (u55_ : Int) (hu55_a : -2147483648 ≤ u55_) (hu55_b : u55_ < 2147483648) (u56_ : Int) (hu56_a : -2147483648 ≤ u56_) (hu56_b : u56_ < 2147483648) (N57_ : zMem) (hs58_ : zFr [] [110] N44_ N57_) (i59_ : zUa N57_ (ze Mz 81 26 - 1 - u28_).toNat (ze N57_ 81 57) u55_ u56_) (i60_ : zMq T u28_ N57_) (i61_ : ze N57_ 81 57 ≤ 32768) (i62_ : ze N57_ 81 57 ≤ ((2 ^ gcu T (ze Mz 81 26 - 1 - u28_).toNat : Nat) : Int)) (i63_ : 0 ≤ u56_) (i64_ : u56_ ≤ ze N57_ 81 57) (i65_ : ze N57_ 81 57 ≤ u55_) (i66_ : u55_ ≤ ze N57_ 81 57 + u56_) (i67_ : zB 110 65536 0 2147483647 N57_), (ze N57_ 81 57 - u56_).toNat < n → zW l m_M_laysUnits (zn Mz + 0, zw Mz + 0) N57_ 63 [some (.ref 81), some (.int (Int32.ofInt u28_)), some (.int (Int32.ofInt (zshl 1 (((ze Mz 81 26) - 1) - u28_)))), some (.int (Int32.ofInt 0)), some (.int (Int32.ofInt u55_)), some (.int (Int32.ofInt u56_))] [] (zpV [55, 57, 58] [109, 110] Mz (fun N => zB 110 65536 0 2147483647 N ∧ 0 ≤ ze N 81 57 ∧ ze N 81 57 ≤ 65536)) := by
            intro n
            induction n with
            | zero =>
              intro u55_ hu55_a hu55_b u56_ hu56_a hu56_b N57_ hs58_ i59_ i60_ i61_ i62_ i63_ i64_ i65_ i66_ i67_ h0
              exact absurd h0 (Nat.not_lt_zero _)
            | succ n ih_63 =>
              intro u55_ hu55_a hu55_b u56_ hu56_a hu56_b N57_ hs58_ i59_ i60_ i61_ i62_ i63_ i64_ i65_ i66_ i67_ hlt_63
              have hf_N57_ : zFr [55, 57, 58] [109, 110] Mz N57_ := hf_N44_.tr hs58_ (by decide) (by decide)
              have hb0_N57_ : zFr [55, 57] [109, 110] N19_ N57_ := hb0_N44_.tr hs58_ (by decide) (by decide)
              have e26_N57_ : ze N57_ 81 26 = ze N44_ 81 26 := hs58_.e (by decide)
              have e55_N57_ : ze N57_ 81 55 = ze N44_ 81 55 := hs58_.e (by decide)
              have e57_N57_ : ze N57_ 81 57 = ze N44_ 81 57 := hs58_.e (by decide)
              have e58_N57_ : ze N57_ 81 58 = ze N44_ 81 58 := hs58_.e (by decide)
              have c68_ : zGB T N57_ := zGB.fr hs58_ c46_ (by decide) (by decide)
              have c69_ : zTab T N57_ := zTab.fr hs58_ c47_ (by decide) (by decide)
              have c70_ : zB 85 144 0 5 N57_ := zB.fr hs58_ c48_ (by decide) (by decide)
              have c71_ : zJX T N57_ := zJX.fr hs58_ c49_ (by decide) (by decide)
              have c72_ : zFirs T N57_ := zFirs.fr hs58_ c50_ (by decide) (by decide)
              have c73_ : zSSm T N57_ := zSSm.fr hs58_ c51_ (by decide) (by decide)
              have c74_ : zGD N57_ := zGD.fr hs58_ c52_ (by decide) (by decide)
              refine zw_iload (pc := 63) (i := 5) (x := Int32.ofInt u56_) rfl (zdal_p dlD_M_laysUnits_77 (i := 17) rfl) ?_
              refine zw_aload_n (pc := 65) (n := 0) (x := 81) rfl (zdal_p dlD_M_laysUnits_77 (i := 18) rfl) ?_
              refine zr_getI (hf_N57_.w hW) (pc := 66) f_M_459 rfl (zdal_p dlD_M_laysUnits_77 (i := 19) rfl) ?_
              refine zr_icmp_ge (pc := 69) (tgt := 117) ⟨hu56_a, hu56_b⟩ ⟨(ze_r N57_ 81 57).1, (ze_r N57_ 81 57).2⟩ (by decide) (zdal_p dlD_M_laysUnits_77 (i := 20) rfl) (fun hc_69 => ?_) (fun hc_69 => ?_)
              · skip
                refine zw_iconst (pc := 117) (v := Int32.ofInt 0) (by decide) (zdal_p dlD_M_laysUnits_78 (i := 21) rfl) ?_
                refine zw_istore (pc := 118) (i := 5) (L2 := [some (.ref 81), some (.int (Int32.ofInt u28_)), some (.int (Int32.ofInt (zshl 1 (((ze Mz 81 26) - 1) - u28_)))), some (.int (Int32.ofInt 0)), some (.int (Int32.ofInt u55_)), some (.int (Int32.ofInt 0))]) (by decide) rfl (zdal_p dlD_M_laysUnits_78 (i := 22) rfl) ?_
                have lp_120 : ∀ (n : Nat) (u75_ : Int) (hu75_a : -2147483648 ≤ u75_) (hu75_b : u75_ < 2147483648) (u76_ : Int) (hu76_a : -2147483648 ≤ u76_) (hu76_b : u76_ < 2147483648) (N77_ : zMem) (hs78_ : zFr [] [110] N57_ N77_) (i79_ : zUb N77_ (ze Mz 81 26 - 1 - u28_).toNat (ze N77_ 81 57) u55_ u75_ u76_) (i80_ : zMq T u28_ N77_) (i81_ : ze N77_ 81 57 ≤ 32768) (i82_ : ze N77_ 81 57 ≤ ((2 ^ gcu T (ze Mz 81 26 - 1 - u28_).toNat : Nat) : Int)) (i83_ : 0 ≤ u75_) (i84_ : u75_ ≤ u76_) (i85_ : u76_ ≤ ze N77_ 81 57) (i86_ : ze N77_ 81 57 ≤ u55_) (i87_ : u55_ ≤ 2 * ze N77_ 81 57) (i88_ : zB 110 65536 0 2147483647 N77_), (ze N77_ 81 57 - u76_).toNat < n → zW l m_M_laysUnits (zn Mz + 0, zw Mz + 0) N77_ 120 [some (.ref 81), some (.int (Int32.ofInt u28_)), some (.int (Int32.ofInt (zshl 1 (((ze Mz 81 26) - 1) - u28_)))), some (.int (Int32.ofInt u75_)), some (.int (Int32.ofInt u55_)), some (.int (Int32.ofInt u76_))] [] (zpV [55, 57, 58] [109, 110] Mz (fun N => zB 110 65536 0 2147483647 N ∧ 0 ≤ ze N 81 57 ∧ ze N 81 57 ≤ 65536)) := by
                  intro n
                  induction n with
                  | zero =>
                    intro u75_ hu75_a hu75_b u76_ hu76_a hu76_b N77_ hs78_ i79_ i80_ i81_ i82_ i83_ i84_ i85_ i86_ i87_ i88_ h0
                    exact absurd h0 (Nat.not_lt_zero _)
                  | succ n ih_120 =>
                    intro u75_ hu75_a hu75_b u76_ hu76_a hu76_b N77_ hs78_ i79_ i80_ i81_ i82_ i83_ i84_ i85_ i86_ i87_ i88_ hlt_120
                    have hf_N77_ : zFr [55, 57, 58] [109, 110] Mz N77_ := hf_N57_.tr hs78_ (by decide) (by decide)
                    have hb0_N77_ : zFr [55, 57] [109, 110] N19_ N77_ := hb0_N57_.tr hs78_ (by decide) (by decide)
                    have e26_N77_ : ze N77_ 81 26 = ze N57_ 81 26 := hs78_.e (by decide)
                    have e55_N77_ : ze N77_ 81 55 = ze N57_ 81 55 := hs78_.e (by decide)
                    have e57_N77_ : ze N77_ 81 57 = ze N57_ 81 57 := hs78_.e (by decide)
                    have e58_N77_ : ze N77_ 81 58 = ze N57_ 81 58 := hs78_.e (by decide)
                    have c89_ : zGB T N77_ := zGB.fr hs78_ c68_ (by decide) (by decide)
                    have c90_ : zTab T N77_ := zTab.fr hs78_ c69_ (by decide) (by decide)
                    have c91_ : zB 85 144 0 5 N77_ := zB.fr hs78_ c70_ (by decide) (by decide)
                    have c92_ : zJX T N77_ := zJX.fr hs78_ c71_ (by decide) (by decide)
                    have c93_ : zFirs T N77_ := zFirs.fr hs78_ c72_ (by decide) (by decide)
                    have c94_ : zSSm T N77_ := zSSm.fr hs78_ c73_ (by decide) (by decide)
                    have c95_ : zGD N77_ := zGD.fr hs78_ c74_ (by decide) (by decide)
                    refine zw_iload (pc := 120) (i := 5) (x := Int32.ofInt u76_) rfl (zdal_p dlD_M_laysUnits_78 (i := 23) rfl) ?_
                    refine zw_aload_n (pc := 122) (n := 0) (x := 81) rfl (zdal_p dlD_M_laysUnits_79 (i := 0) rfl) ?_
                    refine zr_getI (hf_N77_.w hW) (pc := 123) f_M_459 rfl (zdal_p dlD_M_laysUnits_79 (i := 1) rfl) ?_
                    refine zr_icmp_ge (pc := 126) (tgt := 169) ⟨hu76_a, hu76_b⟩ ⟨(ze_r N77_ 81 57).1, (ze_r N77_ 81 57).2⟩ (by decide) (zdal_p dlD_M_laysUnits_79 (i := 2) rfl) (fun hc_126 => ?_) (fun hc_126 => ?_)
                    · skip
                      refine zw_aload_n (pc := 169) (n := 0) (x := 81) rfl (zdal_p dlD_M_laysUnits_79 (i := 23) rfl) ?_
                      refine zr_getI (hf_N77_.w hW) (pc := 170) f_M_459 rfl (zdal_p dlD_M_laysUnits_80 (i := 0) rfl) ?_
                      refine zw_istore (pc := 173) (i := 5) (L2 := [some (.ref 81), some (.int (Int32.ofInt u28_)), some (.int (Int32.ofInt (zshl 1 (((ze Mz 81 26) - 1) - u28_)))), some (.int (Int32.ofInt u75_)), some (.int (Int32.ofInt u55_)), some (.int (Int32.ofInt (ze N77_ 81 57)))]) (by decide) rfl (zdal_p dlD_M_laysUnits_80 (i := 1) rfl) ?_
                      have lp_175 : ∀ (n : Nat) (u96_ : Int) (hu96_a : -2147483648 ≤ u96_) (hu96_b : u96_ < 2147483648) (u97_ : Int) (hu97_a : -2147483648 ≤ u97_) (hu97_b : u97_ < 2147483648) (N98_ : zMem) (hs99_ : zFr [] [110] N77_ N98_) (i100_ : zUc N98_ (ze Mz 81 26 - 1 - u28_).toNat (ze N98_ 81 57) u55_ u96_ u97_) (i101_ : zMq T u28_ N98_) (i102_ : ze N98_ 81 57 ≤ 32768) (i103_ : ze N98_ 81 57 ≤ ((2 ^ gcu T (ze Mz 81 26 - 1 - u28_).toNat : Nat) : Int)) (i104_ : 0 ≤ u96_) (i105_ : u96_ ≤ u97_) (i106_ : ze N98_ 81 57 ≤ u97_) (i107_ : u97_ ≤ u55_) (i108_ : u55_ ≤ 2 * ze N98_ 81 57) (i109_ : zB 110 65536 0 2147483647 N98_), (u55_ - u97_).toNat < n → zW l m_M_laysUnits (zn Mz + 0, zw Mz + 0) N98_ 175 [some (.ref 81), some (.int (Int32.ofInt u28_)), some (.int (Int32.ofInt (zshl 1 (((ze Mz 81 26) - 1) - u28_)))), some (.int (Int32.ofInt u96_)), some (.int (Int32.ofInt u55_)), some (.int (Int32.ofInt u97_))] [] (zpV [55, 57, 58] [109, 110] Mz (fun N => zB 110 65536 0 2147483647 N ∧ 0 ≤ ze N 81 57 ∧ ze N 81 57 ≤ 65536)) := by
                        intro n
                        induction n with
                        | zero =>
                          intro u96_ hu96_a hu96_b u97_ hu97_a hu97_b N98_ hs99_ i100_ i101_ i102_ i103_ i104_ i105_ i106_ i107_ i108_ i109_ h0
                          exact absurd h0 (Nat.not_lt_zero _)
                        | succ n ih_175 =>
                          intro u96_ hu96_a hu96_b u97_ hu97_a hu97_b N98_ hs99_ i100_ i101_ i102_ i103_ i104_ i105_ i106_ i107_ i108_ i109_ hlt_175
                          have hf_N98_ : zFr [55, 57, 58] [109, 110] Mz N98_ := hf_N77_.tr hs99_ (by decide) (by decide)
                          have hb0_N98_ : zFr [55, 57] [109, 110] N19_ N98_ := hb0_N77_.tr hs99_ (by decide) (by decide)
                          have e26_N98_ : ze N98_ 81 26 = ze N77_ 81 26 := hs99_.e (by decide)
                          have e55_N98_ : ze N98_ 81 55 = ze N77_ 81 55 := hs99_.e (by decide)
                          have e57_N98_ : ze N98_ 81 57 = ze N77_ 81 57 := hs99_.e (by decide)
                          have e58_N98_ : ze N98_ 81 58 = ze N77_ 81 58 := hs99_.e (by decide)
                          have c110_ : zGB T N98_ := zGB.fr hs99_ c89_ (by decide) (by decide)
                          have c111_ : zTab T N98_ := zTab.fr hs99_ c90_ (by decide) (by decide)
                          have c112_ : zB 85 144 0 5 N98_ := zB.fr hs99_ c91_ (by decide) (by decide)
                          have c113_ : zJX T N98_ := zJX.fr hs99_ c92_ (by decide) (by decide)
                          have c114_ : zFirs T N98_ := zFirs.fr hs99_ c93_ (by decide) (by decide)
                          have c115_ : zSSm T N98_ := zSSm.fr hs99_ c94_ (by decide) (by decide)
                          have c116_ : zGD N98_ := zGD.fr hs99_ c95_ (by decide) (by decide)
                          refine zw_iload (pc := 175) (i := 5) (x := Int32.ofInt u97_) rfl (zdal_p dlD_M_laysUnits_80 (i := 2) rfl) ?_
                          refine zw_iload (pc := 177) (i := 4) (x := Int32.ofInt u55_) rfl (zdal_p dlD_M_laysUnits_80 (i := 3) rfl) ?_
                          refine zr_icmp_ge (pc := 179) (tgt := 204) ⟨hu97_a, hu97_b⟩ ⟨hu55_a, hu55_b⟩ (by decide) (zdal_p dlD_M_laysUnits_80 (i := 4) rfl) (fun hc_179 => ?_) (fun hc_179 => ?_)
                          · skip
                            refine zw_aload_n (pc := 204) (n := 0) (x := 81) rfl (zdal_p dlD_M_laysUnits_80 (i := 16) rfl) ?_
                            refine zw_iload_n (pc := 205) (n := 3) (x := Int32.ofInt u96_) rfl (zdal_p dlD_M_laysUnits_80 (i := 17) rfl) ?_
                            refine zr_putI (hf_N98_.w hW) (pc := 206) f_M_459 rfl rfl ⟨by (exact hu96_a), by (exact hu96_b)⟩ rfl rfl (zdal_p dlD_M_laysUnits_80 (i := 18) rfl) (fun N117_ hsN117_ hvN117_ => ?_)
                            have hf_N117_ : zFr [55, 57, 58] [109, 110] Mz N117_ := hf_N98_.tr hsN117_ (by decide) (by decide)
                            have hb0_N117_ : zFr [55, 57] [109, 110] N19_ N117_ := hb0_N98_.tr hsN117_ (by decide) (by decide)
                            have e26_N117_ : ze N117_ 81 26 = ze N98_ 81 26 := hsN117_.e (by decide)
                            have e55_N117_ : ze N117_ 81 55 = ze N98_ 81 55 := hsN117_.e (by decide)
                            have r57_N117_ := ze_r N117_ 81 57
                            have e58_N117_ : ze N117_ 81 58 = ze N98_ 81 58 := hsN117_.e (by decide)
                            have c125_ : zB 110 65536 0 2147483647 N117_ := zB.fr hsN117_ i109_ (by decide) (by decide)
                            have hUn_ := zUo_s (d := (ze Mz 81 26 - 1 - u28_).toNat) (j := u28_) (by (exact zo_936 gb.2.2.2.2.2 gfl gxl hc_33 i32_)) (by (exact hc_33)) (show ze N98_ 81 57 ≤ ((2 ^ gcu T (ze Mz 81 26 - 1 - u28_).toNat : Nat) : Int) by first | with_reducible assumption | assumption) (show zMq T u28_ N98_ by first | with_reducible assumption | assumption) (show zUc N98_ (ze Mz 81 26 - 1 - u28_).toNat (ze N98_ 81 57) u55_ u96_ u97_ by first | with_reducible assumption | assumption) (by (exact hc_179)) (fun i => hsN117_.ie (by decide) (by decide) i)
                            have hUm_ : zUo T N117_ (ze Mz 81 26 - 1 - (u28_ + (-1))).toNat (ze N117_ 81 57) := by rw [show (ze Mz 81 26 - 1 - (u28_ + (-1))).toNat = (ze Mz 81 26 - 1 - u28_).toNat + 1 by (exact zo_937 i32_), show ze N117_ 81 57 = u96_ by (exact hvN117_)]; exact hUn_
                            refine zr_iinc (pc := 209) (i := 1) (a := u28_) (n := -1) (L2 := [some (.ref 81), some (.int (Int32.ofInt (u28_ + (-1)))), some (.int (Int32.ofInt (zshl 1 (((ze Mz 81 26) - 1) - u28_)))), some (.int (Int32.ofInt u96_)), some (.int (Int32.ofInt u55_)), some (.int (Int32.ofInt u97_))]) rfl (by decide) rfl (zdal_p dlD_M_laysUnits_80 (i := 19) rfl) ?_
                            refine zw_goto (pc := 212) (tgt := 32) (by decide) (zdal_p dlD_M_laysUnits_80 (i := 20) rfl) ?_
                            refine zW_le [some (.ref 81), some (.int (Int32.ofInt (u28_ + (-1)))), none, none, none, none] (⟨rfl, rfl, trivial⟩) ?_
                            exact ih_32 (u28_ + (-1)) (by (exact zo_892 hc_33)) (by (exact zo_893 hu28_b)) N117_ hb0_N117_ (show -1 ≤ (u28_ + (-1)) by first | with_reducible assumption | (exact zo_938 hc_33) | assumption) (show (u28_ + (-1)) ≤ ze Mz 81 26 - 1 by first | with_reducible assumption | (exact zo_894 i32_) | assumption) (show zUo T N117_ (ze Mz 81 26 - 1 - (u28_ + (-1))).toNat (ze N117_ 81 57) by exact hUm_) (show 0 ≤ ze N117_ 81 57 by first | with_reducible assumption | (exact zo_939 hvN117_ i104_ r57_N117_.1) | assumption) (show ze N117_ 81 57 ≤ 65536 by first | with_reducible assumption | (exact zo_940 hvN117_ i105_ i107_ i81_ i87_ r57_N117_.2) | assumption) c125_ (by (exact zo_896 hc_33 hlt_32 hu28_b))
                          · skip
                            refine zw_aload_n (pc := 182) (n := 0) (x := 81) rfl (zdal_p dlD_M_laysUnits_80 (i := 5) rfl) ?_
                            refine zr_getF (r := 110) (hf_N98_.w hW) (pc := 183) f_M_103 rfl (zh_110 (hf_N98_.w hW)).1 (zdal_p dlD_M_laysUnits_80 (i := 6) rfl) ?_
                            refine zw_iload_n (pc := 186) (n := 3) (x := Int32.ofInt u96_) rfl (zdal_p dlD_M_laysUnits_80 (i := 7) rfl) ?_
                            refine zw_aload_n (pc := 187) (n := 0) (x := 81) rfl (zdal_p dlD_M_laysUnits_80 (i := 8) rfl) ?_
                            refine zr_getF (r := 110) (hf_N98_.w hW) (pc := 188) f_M_103 rfl (zh_110 (hf_N98_.w hW)).1 (zdal_p dlD_M_laysUnits_80 (i := 9) rfl) ?_
                            refine zw_iload (pc := 191) (i := 5) (x := Int32.ofInt u97_) rfl (zdal_p dlD_M_laysUnits_80 (i := 10) rfl) ?_
                            refine zr_ialdn (pc := 193) (zh_110 (hf_N98_.w hW)).2 (by decide) (by (exact zo_941 hu97_a i104_ i105_)) (by (exact zo_942 hc_179 i81_ i87_)) (zdal_p dlD_M_laysUnits_80 (i := 11) rfl) (fun v126_ hv126_ hv126_a hv126_b => ?_)
                            have hr127_ := i109_.g (e := u97_) (by (exact zo_941 hu97_a i104_ i105_)) (by (exact zo_942 hc_179 i81_ i87_))
                            rw [← hv126_] at hr127_
                            have hUi_N98_ := (show zUc N98_ (ze Mz 81 26 - 1 - u28_).toNat (ze N98_ 81 57) u55_ u96_ u97_ by first | with_reducible assumption | assumption).2.1 (u97_).toNat (by (exact zo_943 hc_179 hu97_a i104_ i105_))
                            refine zr_toI (show v126_ = ze N98_ 110 (u97_).toNat by (exact hv126_)) ?_
                            refine zr_iast (pc := 194) (zh_110 (hf_N98_.w hW)).2 (by decide) (by decide) (by (exact i104_)) (by (exact zo_944 hc_179 i105_ i81_ i87_)) (zdal_p dlD_M_laysUnits_80 (i := 12) rfl) (fun N128_ hN128_ hsN128_ => ?_)
                            have hf_N128_ : zFr [55, 57, 58] [109, 110] Mz N128_ := hf_N98_.tr hsN128_ (by decide) (by decide)
                            have hb0_N128_ : zFr [55, 57] [109, 110] N19_ N128_ := hb0_N98_.tr hsN128_ (by decide) (by decide)
                            have hb1_N128_ : zFr [] [110] N77_ N128_ := hs99_.tr hsN128_ (by decide) (by decide)
                            have e26_N128_ : ze N128_ 81 26 = ze N98_ 81 26 := hsN128_.e (by decide)
                            have e55_N128_ : ze N128_ 81 55 = ze N98_ 81 55 := hsN128_.e (by decide)
                            have e57_N128_ : ze N128_ 81 57 = ze N98_ 81 57 := hsN128_.e (by decide)
                            have e58_N128_ : ze N128_ 81 58 = ze N98_ 81 58 := hsN128_.e (by decide)
                            have c129_ : zGB T N128_ := zGB.fr hsN128_ c110_ (by decide) (by decide)
                            have c130_ : zTab T N128_ := zTab.fr hsN128_ c111_ (by decide) (by decide)
                            have c131_ : zB 85 144 0 5 N128_ := zB.fr hsN128_ c112_ (by decide) (by decide)
                            have c132_ : zJX T N128_ := zJX.fr hsN128_ c113_ (by decide) (by decide)
                            have c133_ : zFirs T N128_ := zFirs.fr hsN128_ c114_ (by decide) (by decide)
                            have c134_ : zSSm T N128_ := zSSm.fr hsN128_ c115_ (by decide) (by decide)
                            have c135_ : zGD N128_ := zGD.fr hsN128_ c116_ (by decide) (by decide)
                            have c136_ : zB 110 65536 0 2147483647 N128_ := zB.s i109_ hN128_ (by (exact zo_57 hUi_N98_.1)) (by (exact zo_945 hv126_ hv126_b)) (by decide) (by decide)
                            have hUv_ := zUc_s (d := (ze Mz 81 26 - 1 - u28_).toNat) (by (exact zo_946 gb.2.2.2.2.2 gfl gxl hc_33 i32_)) (show zUc N98_ (ze Mz 81 26 - 1 - u28_).toNat (ze N98_ 81 57) u55_ u96_ u97_ by first | with_reducible assumption | assumption) (by (exact hc_179)) rfl hN128_
                            refine zr_iinc (pc := 195) (i := 3) (a := u96_) (n := 1) (L2 := [some (.ref 81), some (.int (Int32.ofInt u28_)), some (.int (Int32.ofInt (zshl 1 (((ze Mz 81 26) - 1) - u28_)))), some (.int (Int32.ofInt (u96_ + 1))), some (.int (Int32.ofInt u55_)), some (.int (Int32.ofInt u97_))]) rfl (by decide) rfl (zdal_p dlD_M_laysUnits_80 (i := 13) rfl) ?_
                            refine zr_iinc (pc := 198) (i := 5) (a := u97_) (n := 1) (L2 := [some (.ref 81), some (.int (Int32.ofInt u28_)), some (.int (Int32.ofInt (zshl 1 (((ze Mz 81 26) - 1) - u28_)))), some (.int (Int32.ofInt (u96_ + 1))), some (.int (Int32.ofInt u55_)), some (.int (Int32.ofInt (u97_ + 1)))]) rfl (by decide) rfl (zdal_p dlD_M_laysUnits_80 (i := 14) rfl) ?_
                            refine zw_goto (pc := 201) (tgt := 175) (by decide) (zdal_p dlD_M_laysUnits_80 (i := 15) rfl) ?_
                            have hMb_ : zMq T u28_ N128_ := by first | with_reducible assumption | exact zMq.fr hsN128_ (by first | with_reducible assumption | assumption) (by decide) (by decide) | assumption
                            have hUb_ : zUc N128_ (ze Mz 81 26 - 1 - u28_).toNat (ze N128_ 81 57) u55_ (u96_ + 1) (u97_ + 1) := by (rw [show ze N128_ 81 57 = ze N98_ 81 57 by (exact e57_N128_)]; exact hUv_)
                            exact ih_175 (u96_ + 1) (by (exact zo_74 i104_)) (by (exact zo_947 hc_179 hu55_b hu96_b i105_)) (u97_ + 1) (by (exact zo_679 hu97_a)) (by (exact zo_948 hc_179 hu55_b hu97_b)) N128_ hb1_N128_ (show zUc N128_ (ze Mz 81 26 - 1 - u28_).toNat (ze N128_ 81 57) u55_ (u96_ + 1) (u97_ + 1) by exact hUb_) (show zMq T u28_ N128_ by first | with_reducible assumption | assumption | omega) (show ze N128_ 81 57 ≤ 32768 by first | with_reducible assumption | (exact zo_949 e57_N128_ i102_) | assumption) (show ze N128_ 81 57 ≤ ((2 ^ gcu T (ze Mz 81 26 - 1 - u28_).toNat : Nat) : Int) by first | with_reducible assumption | (exact zo_950 e57_N128_ i102_ i103_) | assumption) (show 0 ≤ (u96_ + 1) by first | with_reducible assumption | (exact zo_76 i104_) | assumption) (show (u96_ + 1) ≤ (u97_ + 1) by first | with_reducible assumption | (exact zo_951 i105_) | assumption) (show ze N128_ 81 57 ≤ (u97_ + 1) by first | with_reducible assumption | (exact zo_952 e57_N128_ i106_) | assumption) (show (u97_ + 1) ≤ u55_ by first | with_reducible assumption | assumption | omega) (show u55_ ≤ 2 * ze N128_ 81 57 by first | with_reducible assumption | (exact zo_953 e57_N128_ i108_) | assumption) c136_ (by (exact zo_147 hc_179 hlt_175))
                      exact lp_175 _ u75_ hu75_a hu75_b (ze N77_ 81 57) (ze_r N77_ 81 57).1 (ze_r N77_ 81 57).2 N77_ zFr.rf (show zUc N77_ (ze Mz 81 26 - 1 - u28_).toNat (ze N77_ 81 57) u55_ u75_ (ze N77_ 81 57) by exact zUc_0 (by first | with_reducible assumption | assumption) (by (exact hc_126))) (show zMq T u28_ N77_ by first | with_reducible assumption | assumption | omega) (show ze N77_ 81 57 ≤ 32768 by first | with_reducible assumption | assumption | omega) (show ze N77_ 81 57 ≤ ((2 ^ gcu T (ze Mz 81 26 - 1 - u28_).toNat : Nat) : Int) by first | with_reducible assumption | assumption | omega) (show 0 ≤ u75_ by first | with_reducible assumption | assumption | omega) (show u75_ ≤ (ze N77_ 81 57) by first | with_reducible assumption | (exact zo_954 i84_ i85_) | assumption) (show ze N77_ 81 57 ≤ (ze N77_ 81 57) by first | with_reducible assumption | (exact zo_628) | assumption) (show (ze N77_ 81 57) ≤ u55_ by first | with_reducible assumption | assumption | omega) (show u55_ ≤ 2 * ze N77_ 81 57 by first | with_reducible assumption | assumption | omega) i88_ (Nat.lt_succ_self _)
                    · skip
                      refine zw_aload_n (pc := 129) (n := 0) (x := 81) rfl (zdal_p dlD_M_laysUnits_79 (i := 3) rfl) ?_
                      refine zw_aload_n (pc := 130) (n := 0) (x := 81) rfl (zdal_p dlD_M_laysUnits_79 (i := 4) rfl) ?_
                      refine zr_getF (r := 110) (hf_N77_.w hW) (pc := 131) f_M_103 rfl (zh_110 (hf_N77_.w hW)).1 (zdal_p dlD_M_laysUnits_79 (i := 5) rfl) ?_
                      refine zw_iload (pc := 134) (i := 5) (x := Int32.ofInt u76_) rfl (zdal_p dlD_M_laysUnits_79 (i := 6) rfl) ?_
                      refine zr_ialdn (pc := 136) (zh_110 (hf_N77_.w hW)).2 (by decide) (by (exact zo_941 hu76_a i83_ i84_)) (by (exact zo_955 hc_126 i81_)) (zdal_p dlD_M_laysUnits_79 (i := 7) rfl) (fun v137_ hv137_ hv137_a hv137_b => ?_)
                      have hr138_ := i88_.g (e := u76_) (by (exact zo_941 hu76_a i83_ i84_)) (by (exact zo_955 hc_126 i81_))
                      rw [← hv137_] at hr138_
                      have hUi_N77_ := (show zUb N77_ (ze Mz 81 26 - 1 - u28_).toNat (ze N77_ 81 57) u55_ u75_ u76_ by first | with_reducible assumption | assumption).2.1 (u76_).toNat (by (exact zo_956 hc_126 hu76_a i83_ i84_ i86_))
                      refine zr_toI (show v137_ = ze N77_ 110 (u76_).toNat by (exact hv137_)) ?_
                      refine zw_iload_n (pc := 137) (n := 1) (x := Int32.ofInt u28_) rfl (zdal_p dlD_M_laysUnits_79 (i := 8) rfl) ?_
                      refine zr_callV (hf_N77_.w hW) hf_N77_.x (pc := 138) [.int (Int32.ofInt (ze N77_ 110 (u76_).toNat)), .int (Int32.ofInt u28_)] [] l_M_462 (c_M_isUnitAt l N77_ (hf_N77_.w hW) (ze N77_ 110 (u76_).toNat) (by (exact zo_168 hUi_N77_.1)) (by (exact zo_550 hv137_ hv137_b)) u28_ hu28_a hu28_b T hO hX c89_ (show 0 ≤ (ze N77_ 110 (u76_).toNat) by first | with_reducible assumption | (exact zo_57 hUi_N77_.1) | assumption) (show zMq T u28_ N77_ by first | with_reducible assumption | assumption | omega)) rfl rfl rfl (by decide) (Nat.le_of_ble_eq_true rfl) (zdal_p dlD_M_laysUnits_79 (i := 9) rfl) ?_
                      rintro _ N139_ ⟨v140_, rfl, ⟨hv140_a, hv140_b⟩, hsN139_, hp0_N139_⟩
                      obtain rfl := hsN139_.eq.symm
                      replace hp0_N139_ : ((v140_ = 1 ∧ zuk N77_ (ze N77_ 110 (u76_).toNat)) ∨ (v140_ = 0 ∧ ¬ zuk N77_ (ze N77_ 110 (u76_).toNat))) := hp0_N139_
                      rcases hp0_N139_ with ⟨rfl, ha138_0_hp0_N139_⟩ | ⟨rfl, ha138_0_hp0_N139_⟩
                      · skip
                        have hzk_ := ha138_0_hp0_N139_
                        show zW l m_M_laysUnits (zn Mz + 0, zw Mz + 0) N77_ 141 [some (.ref 81), some (.int (Int32.ofInt u28_)), some (.int (Int32.ofInt (zshl 1 (((ze Mz 81 26) - 1) - u28_)))), some (.int (Int32.ofInt u75_)), some (.int (Int32.ofInt u55_)), some (.int (Int32.ofInt u76_))] [.int (Int32.ofInt 1)] _
                        refine zr_if_ne (pc := 141) (tgt := 147) ⟨(by decide), (by decide)⟩ (by decide) (zdal_p dlD_M_laysUnits_79 (i := 10) rfl) (fun hc_141 => ?_) (fun hc_141 => ?_)
                        · skip
                          refine zw_aload_n (pc := 147) (n := 0) (x := 81) rfl (zdal_p dlD_M_laysUnits_79 (i := 12) rfl) ?_
                          refine zr_getF (r := 110) (hf_N77_.w hW) (pc := 148) f_M_103 rfl (zh_110 (hf_N77_.w hW)).1 (zdal_p dlD_M_laysUnits_79 (i := 13) rfl) ?_
                          refine zw_iload_n (pc := 151) (n := 3) (x := Int32.ofInt u75_) rfl (zdal_p dlD_M_laysUnits_79 (i := 14) rfl) ?_
                          refine zw_aload_n (pc := 152) (n := 0) (x := 81) rfl (zdal_p dlD_M_laysUnits_79 (i := 15) rfl) ?_
                          refine zr_getF (r := 110) (hf_N77_.w hW) (pc := 153) f_M_103 rfl (zh_110 (hf_N77_.w hW)).1 (zdal_p dlD_M_laysUnits_79 (i := 16) rfl) ?_
                          refine zw_iload (pc := 156) (i := 5) (x := Int32.ofInt u76_) rfl (zdal_p dlD_M_laysUnits_79 (i := 17) rfl) ?_
                          refine zr_ialdn (pc := 158) (zh_110 (hf_N77_.w hW)).2 (by decide) (by (exact zo_941 hu76_a i83_ i84_)) (by (exact zo_955 hc_126 i81_)) (zdal_p dlD_M_laysUnits_79 (i := 18) rfl) (fun v141_ hv141_ hv141_a hv141_b => ?_)
                          have hr142_ := i88_.g (e := u76_) (by (exact zo_941 hu76_a i83_ i84_)) (by (exact zo_955 hc_126 i81_))
                          rw [← hv141_] at hr142_
                          refine zr_toI (show v141_ = ze N77_ 110 (u76_).toNat by (exact hv141_)) ?_
                          refine zr_iast (pc := 159) (zh_110 (hf_N77_.w hW)).2 (by decide) (by decide) (by (exact i83_)) (by (exact zo_957 hc_126 hu75_b i81_ i84_)) (zdal_p dlD_M_laysUnits_79 (i := 19) rfl) (fun N143_ hN143_ hsN143_ => ?_)
                          have hf_N143_ : zFr [55, 57, 58] [109, 110] Mz N143_ := hf_N77_.tr hsN143_ (by decide) (by decide)
                          have hb0_N143_ : zFr [55, 57] [109, 110] N19_ N143_ := hb0_N77_.tr hsN143_ (by decide) (by decide)
                          have hb1_N143_ : zFr [] [110] N57_ N143_ := hs78_.tr hsN143_ (by decide) (by decide)
                          have e26_N143_ : ze N143_ 81 26 = ze N77_ 81 26 := hsN143_.e (by decide)
                          have e55_N143_ : ze N143_ 81 55 = ze N77_ 81 55 := hsN143_.e (by decide)
                          have e57_N143_ : ze N143_ 81 57 = ze N77_ 81 57 := hsN143_.e (by decide)
                          have e58_N143_ : ze N143_ 81 58 = ze N77_ 81 58 := hsN143_.e (by decide)
                          have c144_ : zGB T N143_ := zGB.fr hsN143_ c89_ (by decide) (by decide)
                          have c145_ : zTab T N143_ := zTab.fr hsN143_ c90_ (by decide) (by decide)
                          have c146_ : zB 85 144 0 5 N143_ := zB.fr hsN143_ c91_ (by decide) (by decide)
                          have c147_ : zJX T N143_ := zJX.fr hsN143_ c92_ (by decide) (by decide)
                          have c148_ : zFirs T N143_ := zFirs.fr hsN143_ c93_ (by decide) (by decide)
                          have c149_ : zSSm T N143_ := zSSm.fr hsN143_ c94_ (by decide) (by decide)
                          have c150_ : zGD N143_ := zGD.fr hsN143_ c95_ (by decide) (by decide)
                          have c151_ : zB 110 65536 0 2147483647 N143_ := zB.s i88_ hN143_ (by (exact zo_57 hUi_N77_.1)) (by (exact zo_945 hv141_ hv141_b)) (by decide) (by decide)
                          have hUt_ := zUb_s1 (d := (ze Mz 81 26 - 1 - u28_).toNat) (by (exact zo_946 gb.2.2.2.2.2 gfl gxl hc_33 i32_)) (show zUb N77_ (ze Mz 81 26 - 1 - u28_).toNat (ze N77_ 81 57) u55_ u75_ u76_ by first | with_reducible assumption | assumption) (by (exact hc_126)) rfl hzk_ hN143_
                          refine zr_iinc (pc := 160) (i := 3) (a := u75_) (n := 1) (L2 := [some (.ref 81), some (.int (Int32.ofInt u28_)), some (.int (Int32.ofInt (zshl 1 (((ze Mz 81 26) - 1) - u28_)))), some (.int (Int32.ofInt (u75_ + 1))), some (.int (Int32.ofInt u55_)), some (.int (Int32.ofInt u76_))]) rfl (by decide) rfl (zdal_p dlD_M_laysUnits_79 (i := 20) rfl) ?_
                          refine zr_iinc (pc := 163) (i := 5) (a := u76_) (n := 1) (L2 := [some (.ref 81), some (.int (Int32.ofInt u28_)), some (.int (Int32.ofInt (zshl 1 (((ze Mz 81 26) - 1) - u28_)))), some (.int (Int32.ofInt (u75_ + 1))), some (.int (Int32.ofInt u55_)), some (.int (Int32.ofInt (u76_ + 1)))]) rfl (by decide) rfl (zdal_p dlD_M_laysUnits_79 (i := 21) rfl) ?_
                          refine zw_goto (pc := 166) (tgt := 120) (by decide) (zdal_p dlD_M_laysUnits_79 (i := 22) rfl) ?_
                          have hMb_ : zMq T u28_ N143_ := by first | with_reducible assumption | exact zMq.fr hsN143_ (by first | with_reducible assumption | assumption) (by decide) (by decide) | assumption
                          have hUb_ : zUb N143_ (ze Mz 81 26 - 1 - u28_).toNat (ze N143_ 81 57) u55_ (u75_ + 1) (u76_ + 1) := by first | exact zUb_s0 (by first | with_reducible assumption | assumption) (by omega) | (rw [show ze N143_ 81 57 = ze N77_ 81 57 by (exact e57_N143_)]; exact hUt_)
                          exact ih_120 (u75_ + 1) (by (exact zo_74 i83_)) (by (exact zo_958 hc_126 hu55_b hu75_b i84_ i86_)) (u76_ + 1) (by (exact zo_679 hu76_a)) (by (exact zo_959 hc_126 i81_)) N143_ hb1_N143_ (show zUb N143_ (ze Mz 81 26 - 1 - u28_).toNat (ze N143_ 81 57) u55_ (u75_ + 1) (u76_ + 1) by exact hUb_) (show zMq T u28_ N143_ by first | with_reducible assumption | assumption | omega) (show ze N143_ 81 57 ≤ 32768 by first | with_reducible assumption | (exact zo_949 e57_N143_ i81_) | assumption) (show ze N143_ 81 57 ≤ ((2 ^ gcu T (ze Mz 81 26 - 1 - u28_).toNat : Nat) : Int) by first | with_reducible assumption | (exact zo_950 e57_N143_ i81_ i82_) | assumption) (show 0 ≤ (u75_ + 1) by first | with_reducible assumption | (exact zo_76 i83_) | assumption) (show (u75_ + 1) ≤ (u76_ + 1) by first | with_reducible assumption | (exact zo_951 i84_) | assumption) (show (u76_ + 1) ≤ ze N143_ 81 57 by first | with_reducible assumption | (exact zo_536 e57_N143_ hc_126) | assumption) (show ze N143_ 81 57 ≤ u55_ by first | with_reducible assumption | (exact zo_840 e57_N143_ i86_) | assumption) (show u55_ ≤ 2 * ze N143_ 81 57 by first | with_reducible assumption | (exact zo_953 e57_N143_ i87_) | assumption) c151_ (by (exact zo_960 e57_N143_ hc_126 hlt_120))
                        · skip
                          exact absurd hc_141 (by decide)
                      · skip
                        show zW l m_M_laysUnits (zn Mz + 0, zw Mz + 0) N77_ 141 [some (.ref 81), some (.int (Int32.ofInt u28_)), some (.int (Int32.ofInt (zshl 1 (((ze Mz 81 26) - 1) - u28_)))), some (.int (Int32.ofInt u75_)), some (.int (Int32.ofInt u55_)), some (.int (Int32.ofInt u76_))] [.int (Int32.ofInt 0)] _
                        refine zr_if_ne (pc := 141) (tgt := 147) ⟨(by decide), (by decide)⟩ (by decide) (zdal_p dlD_M_laysUnits_79 (i := 10) rfl) (fun hc_141 => ?_) (fun hc_141 => ?_)
                        · skip
                          exact absurd hc_141 (by decide)
                        · skip
                          refine zw_goto (pc := 144) (tgt := 163) (by decide) (zdal_p dlD_M_laysUnits_79 (i := 11) rfl) ?_
                          refine zr_iinc (pc := 163) (i := 5) (a := u76_) (n := 1) (L2 := [some (.ref 81), some (.int (Int32.ofInt u28_)), some (.int (Int32.ofInt (zshl 1 (((ze Mz 81 26) - 1) - u28_)))), some (.int (Int32.ofInt u75_)), some (.int (Int32.ofInt u55_)), some (.int (Int32.ofInt (u76_ + 1)))]) rfl (by decide) rfl (zdal_p dlD_M_laysUnits_79 (i := 21) rfl) ?_
                          refine zw_goto (pc := 166) (tgt := 120) (by decide) (zdal_p dlD_M_laysUnits_79 (i := 22) rfl) ?_
                          have hMb_ : zMq T u28_ N77_ := by first | with_reducible assumption | exact zMq.fr hsN77_ (by first | with_reducible assumption | assumption) (by decide) (by decide) | assumption
                          have hUb_ : zUb N77_ (ze Mz 81 26 - 1 - u28_).toNat (ze N77_ 81 57) u55_ u75_ (u76_ + 1) := by first | exact zUb_s0 (by first | with_reducible assumption | assumption) (by (exact hc_126)) | (rw [show ze N77_ 81 57 = ze N57_ 81 57 by omega]; exact hUt_)
                          exact ih_120 u75_ hu75_a hu75_b (u76_ + 1) (by (exact zo_679 hu76_a)) (by (exact zo_959 hc_126 i81_)) N77_ hs78_ (show zUb N77_ (ze Mz 81 26 - 1 - u28_).toNat (ze N77_ 81 57) u55_ u75_ (u76_ + 1) by exact hUb_) (show zMq T u28_ N77_ by first | with_reducible assumption | assumption | omega) (show ze N77_ 81 57 ≤ 32768 by first | with_reducible assumption | assumption | omega) (show ze N77_ 81 57 ≤ ((2 ^ gcu T (ze Mz 81 26 - 1 - u28_).toNat : Nat) : Int) by first | with_reducible assumption | assumption | omega) (show 0 ≤ u75_ by first | with_reducible assumption | assumption | omega) (show u75_ ≤ (u76_ + 1) by first | with_reducible assumption | (exact zo_961 i84_) | assumption) (show (u76_ + 1) ≤ ze N77_ 81 57 by first | with_reducible assumption | assumption | omega) (show ze N77_ 81 57 ≤ u55_ by first | with_reducible assumption | assumption | omega) (show u55_ ≤ 2 * ze N77_ 81 57 by first | with_reducible assumption | assumption | omega) i88_ (by (exact zo_147 hc_126 hlt_120))
                exact lp_120 _ 0 (by decide) (by decide) 0 (by decide) (by decide) N57_ zFr.rf (show zUb N57_ (ze Mz 81 26 - 1 - u28_).toNat (ze N57_ 81 57) u55_ (0 : Int) (0 : Int) by exact zUb_0 (by first | with_reducible assumption | assumption) (by (exact hc_69))) (show zMq T u28_ N57_ by first | with_reducible assumption | assumption | omega) (show ze N57_ 81 57 ≤ 32768 by first | with_reducible assumption | assumption | omega) (show ze N57_ 81 57 ≤ ((2 ^ gcu T (ze Mz 81 26 - 1 - u28_).toNat : Nat) : Int) by first | with_reducible assumption | assumption | omega) (show 0 ≤ (0 : Int) by first | with_reducible assumption | (decide) | assumption) (show (0 : Int) ≤ (0 : Int) by first | with_reducible assumption | (decide) | assumption) (show (0 : Int) ≤ ze N57_ 81 57 by first | with_reducible assumption | (exact zo_962 i63_ i64_) | assumption) (show ze N57_ 81 57 ≤ u55_ by first | with_reducible assumption | assumption | omega) (show u55_ ≤ 2 * ze N57_ 81 57 by first | with_reducible assumption | (exact zo_963 i64_ i66_) | assumption) i67_ (Nat.lt_succ_self _)
              · skip
                refine zw_aload_n (pc := 72) (n := 0) (x := 81) rfl (zdal_p dlD_M_laysUnits_77 (i := 21) rfl) ?_
                refine zw_aload_n (pc := 73) (n := 0) (x := 81) rfl (zdal_p dlD_M_laysUnits_77 (i := 22) rfl) ?_
                refine zr_getF (r := 110) (hf_N57_.w hW) (pc := 74) f_M_103 rfl (zh_110 (hf_N57_.w hW)).1 (zdal_p dlD_M_laysUnits_77 (i := 23) rfl) ?_
                refine zw_iload (pc := 77) (i := 5) (x := Int32.ofInt u56_) rfl (zdal_p dlD_M_laysUnits_78 (i := 0) rfl) ?_
                refine zr_ialdn (pc := 79) (zh_110 (hf_N57_.w hW)).2 (by decide) (by (exact i63_)) (by (exact zo_955 hc_69 i61_)) (zdal_p dlD_M_laysUnits_78 (i := 1) rfl) (fun v152_ hv152_ hv152_a hv152_b => ?_)
                have hr153_ := i67_.g (e := u56_) (by (exact i63_)) (by (exact zo_955 hc_69 i61_))
                rw [← hv152_] at hr153_
                have hUi_N57_ := (show zUa N57_ (ze Mz 81 26 - 1 - u28_).toNat (ze N57_ 81 57) u55_ u56_ by first | with_reducible assumption | assumption).2.1 (u56_).toNat (by (exact zo_695 hc_69 i63_))
                refine zr_toI (show v152_ = ze N57_ 110 (u56_).toNat by (exact hv152_)) ?_
                refine zw_iload_n (pc := 80) (n := 2) (x := Int32.ofInt (zshl 1 (((ze Mz 81 26) - 1) - u28_))) rfl (zdal_p dlD_M_laysUnits_78 (i := 2) rfl) ?_
                refine zr_ior (pc := 81) (zdal_p dlD_M_laysUnits_78 (i := 3) rfl) ?_
                have hr154_ := zor_r (ze N57_ 110 (u56_).toNat) (zshl 1 (((ze Mz 81 26) - 1) - u28_))
                have hbo_N57_ : 0 ≤ (zor (ze N57_ 110 (u56_).toNat) (zshl 1 (((ze Mz 81 26) - 1) - u28_))) := (zbor (by (exact zo_57 hUi_N57_.1)) (by (exact zo_550 hv152_ hv152_b)) (by (exact zo_946 gb.2.2.2.2.2 gfl gxl hc_33 i32_)) hbit_).2
                refine zw_iload_n (pc := 82) (n := 1) (x := Int32.ofInt u28_) rfl (zdal_p dlD_M_laysUnits_78 (i := 4) rfl) ?_
                refine zr_callV (hf_N57_.w hW) hf_N57_.x (pc := 83) [.int (Int32.ofInt (zor (ze N57_ 110 (u56_).toNat) (zshl 1 (((ze Mz 81 26) - 1) - u28_)))), .int (Int32.ofInt u28_)] [] l_M_462 (c_M_isUnitAt l N57_ (hf_N57_.w hW) (zor (ze N57_ 110 (u56_).toNat) (zshl 1 (((ze Mz 81 26) - 1) - u28_))) (by (exact zo_168 hbo_N57_)) (by (exact zo_285 hr154_.2)) u28_ hu28_a hu28_b T hO hX c68_ (show 0 ≤ (zor (ze N57_ 110 (u56_).toNat) (zshl 1 (((ze Mz 81 26) - 1) - u28_))) by first | with_reducible assumption | assumption | omega) (show zMq T u28_ N57_ by first | with_reducible assumption | assumption | omega)) rfl rfl rfl (by decide) (Nat.le_of_ble_eq_true rfl) (zdal_p dlD_M_laysUnits_78 (i := 5) rfl) ?_
                rintro _ N155_ ⟨v156_, rfl, ⟨hv156_a, hv156_b⟩, hsN155_, hp0_N155_⟩
                obtain rfl := hsN155_.eq.symm
                replace hp0_N155_ : ((v156_ = 1 ∧ zuk N57_ (zor (ze N57_ 110 (u56_).toNat) (zshl 1 (((ze Mz 81 26) - 1) - u28_)))) ∨ (v156_ = 0 ∧ ¬ zuk N57_ (zor (ze N57_ 110 (u56_).toNat) (zshl 1 (((ze Mz 81 26) - 1) - u28_))))) := hp0_N155_
                rcases hp0_N155_ with ⟨rfl, ha83_0_hp0_N155_⟩ | ⟨rfl, ha83_0_hp0_N155_⟩
                · skip
                  have hzk_ := ha83_0_hp0_N155_
                  show zW l m_M_laysUnits (zn Mz + 0, zw Mz + 0) N57_ 86 [some (.ref 81), some (.int (Int32.ofInt u28_)), some (.int (Int32.ofInt (zshl 1 (((ze Mz 81 26) - 1) - u28_)))), some (.int (Int32.ofInt 0)), some (.int (Int32.ofInt u55_)), some (.int (Int32.ofInt u56_))] [.int (Int32.ofInt 1)] _
                  refine zr_if_ne (pc := 86) (tgt := 92) ⟨(by decide), (by decide)⟩ (by decide) (zdal_p dlD_M_laysUnits_78 (i := 6) rfl) (fun hc_86 => ?_) (fun hc_86 => ?_)
                  · skip
                    refine zw_aload_n (pc := 92) (n := 0) (x := 81) rfl (zdal_p dlD_M_laysUnits_78 (i := 8) rfl) ?_
                    refine zr_getF (r := 110) (hf_N57_.w hW) (pc := 93) f_M_103 rfl (zh_110 (hf_N57_.w hW)).1 (zdal_p dlD_M_laysUnits_78 (i := 9) rfl) ?_
                    refine zw_iload (pc := 96) (i := 4) (x := Int32.ofInt u55_) rfl (zdal_p dlD_M_laysUnits_78 (i := 10) rfl) ?_
                    refine zw_aload_n (pc := 98) (n := 0) (x := 81) rfl (zdal_p dlD_M_laysUnits_78 (i := 11) rfl) ?_
                    refine zr_getF (r := 110) (hf_N57_.w hW) (pc := 99) f_M_103 rfl (zh_110 (hf_N57_.w hW)).1 (zdal_p dlD_M_laysUnits_78 (i := 12) rfl) ?_
                    refine zw_iload (pc := 102) (i := 5) (x := Int32.ofInt u56_) rfl (zdal_p dlD_M_laysUnits_78 (i := 13) rfl) ?_
                    refine zr_ialdn (pc := 104) (zh_110 (hf_N57_.w hW)).2 (by decide) (by (exact i63_)) (by (exact zo_955 hc_69 i61_)) (zdal_p dlD_M_laysUnits_78 (i := 14) rfl) (fun v157_ hv157_ hv157_a hv157_b => ?_)
                    have hr158_ := i67_.g (e := u56_) (by (exact i63_)) (by (exact zo_955 hc_69 i61_))
                    rw [← hv157_] at hr158_
                    refine zr_toI (show v157_ = ze N57_ 110 (u56_).toNat by (exact hv157_)) ?_
                    refine zw_iload_n (pc := 105) (n := 2) (x := Int32.ofInt (zshl 1 (((ze Mz 81 26) - 1) - u28_))) rfl (zdal_p dlD_M_laysUnits_78 (i := 15) rfl) ?_
                    refine zr_ior (pc := 106) (zdal_p dlD_M_laysUnits_78 (i := 16) rfl) ?_
                    have hr159_ := zor_r (ze N57_ 110 (u56_).toNat) (zshl 1 (((ze Mz 81 26) - 1) - u28_))
                    refine zr_iast (pc := 107) (zh_110 (hf_N57_.w hW)).2 (by decide) (by decide) (by (exact zo_964 hc_69 hu55_a i63_ i65_)) (by (exact zo_965 hc_69 i61_ i66_)) (zdal_p dlD_M_laysUnits_78 (i := 17) rfl) (fun N160_ hN160_ hsN160_ => ?_)
                    have hf_N160_ : zFr [55, 57, 58] [109, 110] Mz N160_ := hf_N57_.tr hsN160_ (by decide) (by decide)
                    have hb0_N160_ : zFr [55, 57] [109, 110] N19_ N160_ := hb0_N57_.tr hsN160_ (by decide) (by decide)
                    have hb1_N160_ : zFr [] [110] N44_ N160_ := hs58_.tr hsN160_ (by decide) (by decide)
                    have e26_N160_ : ze N160_ 81 26 = ze N57_ 81 26 := hsN160_.e (by decide)
                    have e55_N160_ : ze N160_ 81 55 = ze N57_ 81 55 := hsN160_.e (by decide)
                    have e57_N160_ : ze N160_ 81 57 = ze N57_ 81 57 := hsN160_.e (by decide)
                    have e58_N160_ : ze N160_ 81 58 = ze N57_ 81 58 := hsN160_.e (by decide)
                    have c161_ : zGB T N160_ := zGB.fr hsN160_ c68_ (by decide) (by decide)
                    have c162_ : zTab T N160_ := zTab.fr hsN160_ c69_ (by decide) (by decide)
                    have c163_ : zB 85 144 0 5 N160_ := zB.fr hsN160_ c70_ (by decide) (by decide)
                    have c164_ : zJX T N160_ := zJX.fr hsN160_ c71_ (by decide) (by decide)
                    have c165_ : zFirs T N160_ := zFirs.fr hsN160_ c72_ (by decide) (by decide)
                    have c166_ : zSSm T N160_ := zSSm.fr hsN160_ c73_ (by decide) (by decide)
                    have c167_ : zGD N160_ := zGD.fr hsN160_ c74_ (by decide) (by decide)
                    have c168_ : zB 110 65536 0 2147483647 N160_ := zB.s i67_ hN160_ (by (exact hbo_N57_)) (by (exact zo_966 hr154_.2)) (by decide) (by decide)
                    have hUs_ := zUa_s1 (T := T) (d := (ze Mz 81 26 - 1 - u28_).toNat) (j := u28_) (by (exact zo_967 e26_N10_ e26_N19_ e26_N1_ e26_N29_ e26_N44_ e26_N57_ i32_)) (by (exact zo_946 gb.2.2.2.2.2 gfl gxl hc_33 i32_)) (by (exact zo_968 e26_N10_ e26_N19_ e26_N1_ e26_N29_ e26_N44_ e26_N57_ gb.2.2.2.2.2 gfl)) (show zMq T u28_ N57_ by first | with_reducible assumption | assumption) hbit_ (show zUa N57_ (ze Mz 81 26 - 1 - u28_).toNat (ze N57_ 81 57) u55_ u56_ by first | with_reducible assumption | assumption) (by (exact hc_69)) rfl hzk_ rfl hN160_
                    refine zr_iinc (pc := 108) (i := 4) (a := u55_) (n := 1) (L2 := [some (.ref 81), some (.int (Int32.ofInt u28_)), some (.int (Int32.ofInt (zshl 1 (((ze Mz 81 26) - 1) - u28_)))), some (.int (Int32.ofInt 0)), some (.int (Int32.ofInt (u55_ + 1))), some (.int (Int32.ofInt u56_))]) rfl (by decide) rfl (zdal_p dlD_M_laysUnits_78 (i := 18) rfl) ?_
                    refine zr_iinc (pc := 111) (i := 5) (a := u56_) (n := 1) (L2 := [some (.ref 81), some (.int (Int32.ofInt u28_)), some (.int (Int32.ofInt (zshl 1 (((ze Mz 81 26) - 1) - u28_)))), some (.int (Int32.ofInt 0)), some (.int (Int32.ofInt (u55_ + 1))), some (.int (Int32.ofInt (u56_ + 1)))]) rfl (by decide) rfl (zdal_p dlD_M_laysUnits_78 (i := 19) rfl) ?_
                    refine zw_goto (pc := 114) (tgt := 63) (by decide) (zdal_p dlD_M_laysUnits_78 (i := 20) rfl) ?_
                    have hMb_ : zMq T u28_ N160_ := by first | with_reducible assumption | exact zMq.fr hsN160_ (by first | with_reducible assumption | assumption) (by decide) (by decide) | assumption
                    have hUb_ : zUa N160_ (ze Mz 81 26 - 1 - u28_).toNat (ze N160_ 81 57) (u55_ + 1) (u56_ + 1) := by first | exact zUa_s0 (by first | with_reducible assumption | assumption) (by omega) | (rw [show ze N160_ 81 57 = ze N57_ 81 57 by (exact e57_N160_)]; exact hUs_)
                    exact ih_63 (u55_ + 1) (by (exact zo_679 hu55_a)) (by omega) (u56_ + 1) (by (exact zo_74 i63_)) (by (exact zo_959 hc_69 i61_)) N160_ hb1_N160_ (show zUa N160_ (ze Mz 81 26 - 1 - u28_).toNat (ze N160_ 81 57) (u55_ + 1) (u56_ + 1) by exact hUb_) (show zMq T u28_ N160_ by first | with_reducible assumption | assumption | omega) (show ze N160_ 81 57 ≤ 32768 by first | with_reducible assumption | (exact zo_949 e57_N160_ i61_) | assumption) (show ze N160_ 81 57 ≤ ((2 ^ gcu T (ze Mz 81 26 - 1 - u28_).toNat : Nat) : Int) by first | with_reducible assumption | (exact zo_950 e57_N160_ i61_ i62_) | assumption) (show 0 ≤ (u56_ + 1) by first | with_reducible assumption | (exact zo_76 i63_) | assumption) (show (u56_ + 1) ≤ ze N160_ 81 57 by first | with_reducible assumption | (exact zo_536 e57_N160_ hc_69) | assumption) (show ze N160_ 81 57 ≤ (u55_ + 1) by first | with_reducible assumption | (exact zo_952 e57_N160_ i65_) | assumption) (show (u55_ + 1) ≤ ze N160_ 81 57 + (u56_ + 1) by first | with_reducible assumption | (exact zo_969 e57_N160_ i66_) | assumption) c168_ (by (exact zo_960 e57_N160_ hc_69 hlt_63))
                  · skip
                    exact absurd hc_86 (by decide)
                · skip
                  show zW l m_M_laysUnits (zn Mz + 0, zw Mz + 0) N57_ 86 [some (.ref 81), some (.int (Int32.ofInt u28_)), some (.int (Int32.ofInt (zshl 1 (((ze Mz 81 26) - 1) - u28_)))), some (.int (Int32.ofInt 0)), some (.int (Int32.ofInt u55_)), some (.int (Int32.ofInt u56_))] [.int (Int32.ofInt 0)] _
                  refine zr_if_ne (pc := 86) (tgt := 92) ⟨(by decide), (by decide)⟩ (by decide) (zdal_p dlD_M_laysUnits_78 (i := 6) rfl) (fun hc_86 => ?_) (fun hc_86 => ?_)
                  · skip
                    exact absurd hc_86 (by decide)
                  · skip
                    refine zw_goto (pc := 89) (tgt := 111) (by decide) (zdal_p dlD_M_laysUnits_78 (i := 7) rfl) ?_
                    refine zr_iinc (pc := 111) (i := 5) (a := u56_) (n := 1) (L2 := [some (.ref 81), some (.int (Int32.ofInt u28_)), some (.int (Int32.ofInt (zshl 1 (((ze Mz 81 26) - 1) - u28_)))), some (.int (Int32.ofInt 0)), some (.int (Int32.ofInt u55_)), some (.int (Int32.ofInt (u56_ + 1)))]) rfl (by decide) rfl (zdal_p dlD_M_laysUnits_78 (i := 19) rfl) ?_
                    refine zw_goto (pc := 114) (tgt := 63) (by decide) (zdal_p dlD_M_laysUnits_78 (i := 20) rfl) ?_
                    have hMb_ : zMq T u28_ N57_ := by first | with_reducible assumption | exact zMq.fr hsN57_ (by first | with_reducible assumption | assumption) (by decide) (by decide) | assumption
                    have hUb_ : zUa N57_ (ze Mz 81 26 - 1 - u28_).toNat (ze N57_ 81 57) u55_ (u56_ + 1) := by first | exact zUa_s0 (by first | with_reducible assumption | assumption) (by (exact hc_69)) | (rw [show ze N57_ 81 57 = ze N44_ 81 57 by omega]; exact hUs_)
                    exact ih_63 u55_ hu55_a hu55_b (u56_ + 1) (by (exact zo_74 i63_)) (by (exact zo_959 hc_69 i61_)) N57_ hs58_ (show zUa N57_ (ze Mz 81 26 - 1 - u28_).toNat (ze N57_ 81 57) u55_ (u56_ + 1) by exact hUb_) (show zMq T u28_ N57_ by first | with_reducible assumption | assumption | omega) (show ze N57_ 81 57 ≤ 32768 by first | with_reducible assumption | assumption | omega) (show ze N57_ 81 57 ≤ ((2 ^ gcu T (ze Mz 81 26 - 1 - u28_).toNat : Nat) : Int) by first | with_reducible assumption | assumption | omega) (show 0 ≤ (u56_ + 1) by first | with_reducible assumption | (exact zo_76 i63_) | assumption) (show (u56_ + 1) ≤ ze N57_ 81 57 by first | with_reducible assumption | assumption | omega) (show ze N57_ 81 57 ≤ u55_ by first | with_reducible assumption | assumption | omega) (show u55_ ≤ ze N57_ 81 57 + (u56_ + 1) by first | with_reducible assumption | (exact zo_970 i66_) | assumption) i67_ (by (exact zo_147 hc_69 hlt_63))
          exact lp_63 _ (ze N44_ 81 57) (ze_r N44_ 81 57).1 (ze_r N44_ 81 57).2 0 (by decide) (by decide) N44_ zFr.rf (show zUa N44_ (ze Mz 81 26 - 1 - u28_).toNat (ze N44_ 81 57) (ze N44_ 81 57) (0 : Int) by exact hUa_) (show zMq T u28_ N44_ by first | with_reducible assumption | assumption | omega) (show ze N44_ 81 57 ≤ 32768 by first | with_reducible assumption | (exact zo_971 hbd_.2) | assumption) (show ze N44_ 81 57 ≤ ((2 ^ gcu T (ze Mz 81 26 - 1 - u28_).toNat : Nat) : Int) by first | with_reducible assumption | assumption | omega) (show 0 ≤ (0 : Int) by first | with_reducible assumption | (decide) | assumption) (show (0 : Int) ≤ ze N44_ 81 57 by first | with_reducible assumption | (exact zo_57 hbd_.1) | assumption) (show ze N44_ 81 57 ≤ (ze N44_ 81 57) by first | with_reducible assumption | (exact zo_628) | assumption) (show (ze N44_ 81 57) ≤ ze N44_ 81 57 + (0 : Int) by first | with_reducible assumption | (exact zo_972) | assumption) c53_ (Nat.lt_succ_self _)
    exact lp_32 _ ((ze Mz 81 26) - 1) (by (exact zo_63 gb.2.2.2.2.1)) (by (exact zo_903 gb.2.2.2.2.2)) N19_ zFr.rf (show -1 ≤ ((ze Mz 81 26) - 1) by first | with_reducible assumption | (exact zo_973 gb.2.2.2.2.1) | assumption) (show ((ze Mz 81 26) - 1) ≤ ze Mz 81 26 - 1 by first | with_reducible assumption | (exact zo_904) | assumption) (show zUo T N19_ (ze Mz 81 26 - 1 - ((ze Mz 81 26) - 1)).toNat (ze N19_ 81 57) by rw [show (ze Mz 81 26 - 1 - ((ze Mz 81 26) - 1)).toNat = 0 by (exact zo_974), show ze N19_ 81 57 = 1 by (exact zo_594 e57_N19_ hvN10_)]; exact zUo_0 hz0_) (show 0 ≤ ze N19_ 81 57 by first | with_reducible assumption | (exact zo_593 e57_N19_ hvN10_) | assumption) (show ze N19_ 81 57 ≤ 65536 by first | with_reducible assumption | (exact zo_975 e57_N19_ hvN10_) | assumption) c21_ (Nat.lt_succ_self _)
  · skip
    exact zr_vret (pc := 7) rfl hf ⟨p1_, (show 0 ≤ ze Mz 81 57 by first | with_reducible assumption | assumption | omega), (show ze Mz 81 57 ≤ 65536 by first | with_reducible assumption | assumption | omega)⟩ (zdal_p dlD_M_laysUnits_76 (i := 3) rfl)
set_option maxHeartbeats 4000000 in
theorem c_M_units (l : Launch) (Mz : zMem) (hW : zMt Mz) (T : zGT) (hO : gOK T) (hX : gEx T) (p0_ : zGB T Mz) (p1_ : zB 110 65536 0 2147483647 Mz) (p2_ : 0 ≤ ze Mz 81 57) (p3_ : ze Mz 81 57 ≤ 65536) : zC l m_M_units 0 0 [.ref 81] Mz (zpI [55, 57, 58] [109, 110] Mz (fun v N => zB 110 65536 0 2147483647 N ∧ 0 ≤ ze N 81 57 ∧ ze N 81 57 ≤ 65536)) := by
  refine zC_of (L0 := [some (.ref 81)]) md_M_units (Nat.le_of_ble_eq_true rfl) rfl ?_ zQ0
  have hf : zFr [55, 57, 58] [109, 110] Mz Mz := zFr.rf
  have r_57 := ze_r Mz 81 57
  have hG := hO.1
  have g24 := hG.2.1
  have g1 := hG.1
  have dv0 : zTab T Mz := p0_.1
  have dv1 : zB 85 144 0 5 Mz := p0_.2.1
  have dv2 : zJX T Mz := p0_.2.2.1
  have dv3 : zFirs T Mz := p0_.2.2.2.1
  have dv4 : zSSm T Mz := p0_.2.2.2.2.1
  have dv5 : zGD Mz := zGB.d hO p0_
  have gb := dv5.1
  have gn := dv0.1
  refine zw_aload_n (pc := 0) (n := 0) (x := 81) rfl (zdal_p dlD_M_units_75 (i := 0) rfl) ?_
  refine zr_callV (hf.w hW) hf.x (pc := 1) [] [] l_M_465 (c_M_laysUnits l Mz (hf.w hW) T hO hX p0_ p1_ (show 0 ≤ ze Mz 81 57 by first | with_reducible assumption | assumption | omega) (show ze Mz 81 57 ≤ 65536 by first | with_reducible assumption | assumption | omega)) rfl rfl rfl (by decide) (Nat.le_of_ble_eq_true rfl) (zdal_p dlD_M_units_75 (i := 1) rfl) ?_
  rintro _ N1_ ⟨rfl, hsN1_, ⟨hp0_N1_, hp1_N1_, hp2_N1_⟩⟩
  have hf_N1_ : zFr [55, 57, 58] [109, 110] Mz N1_ := hf.tr hsN1_ (by decide) (by decide)
  have r57_N1_ := ze_r N1_ 81 57
  show zW l m_M_units (zn Mz + 0, zw Mz + 0) N1_ 4 [some (.ref 81)] [] _
  refine zw_aload_n (pc := 4) (n := 0) (x := 81) rfl (zdal_p dlD_M_units_75 (i := 2) rfl) ?_
  refine zr_getI (hf_N1_.w hW) (pc := 5) f_M_459 rfl (zdal_p dlD_M_units_75 (i := 3) rfl) ?_
  exact zr_iret (pc := 8) (ty := .int) rfl rfl ⟨by (exact zo_168 hp1_N1_), by (exact zo_976 hp2_N1_)⟩ hf_N1_ ⟨hp0_N1_, (show 0 ≤ ze N1_ 81 57 by first | with_reducible assumption | assumption | omega), (show ze N1_ 81 57 ≤ 65536 by first | with_reducible assumption | assumption | omega)⟩ (zdal_p dlD_M_units_75 (i := 4) rfl)
set_option maxHeartbeats 4000000 in
theorem c_M_unit (l : Launch) (Mz : zMem) (hW : zMt Mz) (a0_ : Int) (ha0_a : -2147483648 ≤ a0_) (ha0_b : a0_ < 2147483648) (a1_ : Int) (ha1_a : -2147483648 ≤ a1_) (ha1_b : a1_ < 2147483648) (T : zGT) (hO : gOK T) (hX : gEx T) (p0_ : zGB T Mz) (p1_ : zB 110 65536 0 2147483647 Mz) (p2_ : 0 ≤ ze Mz 81 57) (p3_ : ze Mz 81 57 ≤ 65536) : zC l m_M_unit 0 0 [.ref 81, .int (Int32.ofInt a0_), .int (Int32.ofInt a1_)] Mz (zpI [55, 57, 58] [96, 105, 109, 110] Mz (fun v N => zB 110 65536 0 2147483647 N ∧ 0 ≤ ze N 81 57 ∧ ze N 81 57 ≤ 65536)) := by
  refine zC_of (L0 := [some (.ref 81), some (.int (Int32.ofInt a0_)), some (.int (Int32.ofInt a1_)), none]) md_M_unit (Nat.le_of_ble_eq_true rfl) rfl ?_ zQ0
  have hf : zFr [55, 57, 58] [96, 105, 109, 110] Mz Mz := zFr.rf
  have r_26 := ze_r Mz 81 26
  have r_57 := ze_r Mz 81 57
  have hG := hO.1
  have g24 := hG.2.1
  have g1 := hG.1
  have dv0 : zTab T Mz := p0_.1
  have dv1 : zB 85 144 0 5 Mz := p0_.2.1
  have dv2 : zJX T Mz := p0_.2.2.1
  have dv3 : zFirs T Mz := p0_.2.2.2.1
  have dv4 : zSSm T Mz := p0_.2.2.2.2.1
  have dv5 : zGD Mz := zGB.d hO p0_
  have gb := dv5.1
  have gn := dv0.1
  refine zw_aload_n (pc := 0) (n := 0) (x := 81) rfl (zdal_p dlD_M_unit_86 (i := 0) rfl) ?_
  refine zw_iload_n (pc := 1) (n := 2) (x := Int32.ofInt a1_) rfl (zdal_p dlD_M_unit_86 (i := 1) rfl) ?_
  refine zr_callV (hf.w hW) hf.x (pc := 2) [.int (Int32.ofInt a1_)] [] l_M_414 (c_M_isSort l Mz (hf.w hW) a1_ ha1_a ha1_b T hO p0_) rfl rfl rfl (by decide) (Nat.le_of_ble_eq_true rfl) (zdal_p dlD_M_unit_86 (i := 2) rfl) ?_
  rintro _ N1_ ⟨v2_, rfl, ⟨hv2_a, hv2_b⟩, hsN1_, hp0_N1_⟩
  obtain rfl := hsN1_.eq.symm
  replace hp0_N1_ : ((v2_ = 1 ∧ 0 ≤ a1_ ∧ a1_ < ze Mz 81 26) ∨ (v2_ = 0)) := hp0_N1_
  rcases hp0_N1_ with ⟨rfl, ha2_0_hp0_N1_, ha2_1_hp0_N1_⟩ | rfl
  · skip
    show zW l m_M_unit (zn Mz + 0, zw Mz + 0) Mz 5 [some (.ref 81), some (.int (Int32.ofInt a0_)), some (.int (Int32.ofInt a1_)), none] [.int (Int32.ofInt 1)] _
    refine zr_if_ne (pc := 5) (tgt := 12) ⟨(by decide), (by decide)⟩ (by decide) (zdal_p dlD_M_unit_86 (i := 3) rfl) (fun hc_5 => ?_) (fun hc_5 => ?_)
    · skip
      refine zw_aload_n (pc := 12) (n := 0) (x := 81) rfl (zdal_p dlD_M_unit_86 (i := 6) rfl) ?_
      refine zr_callV (hf.w hW) hf.x (pc := 13) [] [] l_M_465 (c_M_laysUnits l Mz (hf.w hW) T hO hX p0_ p1_ (show 0 ≤ ze Mz 81 57 by first | with_reducible assumption | assumption | omega) (show ze Mz 81 57 ≤ 65536 by first | with_reducible assumption | assumption | omega)) rfl rfl rfl (by decide) (Nat.le_of_ble_eq_true rfl) (zdal_p dlD_M_unit_86 (i := 7) rfl) ?_
      rintro _ N3_ ⟨rfl, hsN3_, ⟨hp0_N3_, hp1_N3_, hp2_N3_⟩⟩
      have hf_N3_ : zFr [55, 57, 58] [96, 105, 109, 110] Mz N3_ := hf.tr hsN3_ (by decide) (by decide)
      have e26_N3_ : ze N3_ 81 26 = ze Mz 81 26 := hsN3_.e (by decide)
      have r57_N3_ := ze_r N3_ 81 57
      have c11_ : zGD N3_ := zGD.fr hsN3_ dv5 (by decide) (by decide)
      show zW l m_M_unit (zn Mz + 0, zw Mz + 0) N3_ 16 [some (.ref 81), some (.int (Int32.ofInt a0_)), some (.int (Int32.ofInt a1_)), none] [] _
      refine zw_iload_n (pc := 16) (n := 1) (x := Int32.ofInt a0_) rfl (zdal_p dlD_M_unit_86 (i := 8) rfl) ?_
      refine zr_i2l (pc := 17) ⟨ha0_a, ha0_b⟩ (zdal_p dlD_M_unit_86 (i := 9) rfl) ?_
      refine zw_lconst (pc := 18) (v := Int64.ofInt 0) (by decide) (zdal_p dlD_M_unit_86 (i := 10) rfl) ?_
      refine zw_aload_n (pc := 19) (n := 0) (x := 81) rfl (zdal_p dlD_M_unit_86 (i := 11) rfl) ?_
      refine zr_getI (hf_N3_.w hW) (pc := 20) f_M_459 rfl (zdal_p dlD_M_unit_86 (i := 12) rfl) ?_
      refine zw_iconst (pc := 23) (v := Int32.ofInt 1) (by decide) (zdal_p dlD_M_unit_86 (i := 13) rfl) ?_
      refine zr_isub (pc := 24) (zdal_p dlD_M_unit_86 (i := 14) rfl) ?_
      refine zr_i2l (pc := 25) ⟨(by (exact zo_600 hp1_N3_)), (by (exact zo_977 hp2_N3_))⟩ (zdal_p dlD_M_unit_86 (i := 15) rfl) ?_
      refine zr_callS hf_N3_.x (pc := 26) [.long (Int64.ofInt a0_), .long (Int64.ofInt 0), .long (Int64.ofInt ((ze N3_ 81 57) - 1))] [] l_M_131 (c_M_isIn l N3_ (hf_N3_.w hW) a0_ (by (exact zo_282 ha0_a)) (by (exact zo_283 ha0_b)) 0 (by decide) (by decide) ((ze N3_ 81 57) - 1) (by (exact zo_827 hp1_N3_)) (by (exact zo_978 hp2_N3_))) rfl rfl (by decide) (Nat.le_of_ble_eq_true rfl) (zdal_p dlD_M_unit_86 (i := 16) rfl) ?_
      rintro _ N12_ ⟨v13_, rfl, ⟨hv13_a, hv13_b⟩, hsN12_, hp0_N12_⟩
      obtain rfl := hsN12_.eq.symm
      replace hp0_N12_ : ((v13_ = 1 ∧ 0 ≤ a0_ ∧ a0_ ≤ ((ze N3_ 81 57) - 1)) ∨ (v13_ = 0 ∧ (a0_ < 0 ∨ ((ze N3_ 81 57) - 1) < a0_))) := hp0_N12_
      rcases hp0_N12_ with ⟨rfl, ha26_0_hp0_N12_, ha26_1_hp0_N12_⟩ | ⟨rfl, ha26_0_hp0_N12_⟩
      · skip
        show zW l m_M_unit (zn Mz + 0, zw Mz + 0) N3_ 29 [some (.ref 81), some (.int (Int32.ofInt a0_)), some (.int (Int32.ofInt a1_)), none] [.int (Int32.ofInt 1)] _
        refine zr_if_ne (pc := 29) (tgt := 36) ⟨(by decide), (by decide)⟩ (by decide) (zdal_p dlD_M_unit_86 (i := 17) rfl) (fun hc_29 => ?_) (fun hc_29 => ?_)
        · skip
          refine zw_iconst (pc := 36) (v := Int32.ofInt 0) (by decide) (zdal_p dlD_M_unit_86 (i := 20) rfl) ?_
          refine zw_istore_n (pc := 37) (i := 3) (L2 := [some (.ref 81), some (.int (Int32.ofInt a0_)), some (.int (Int32.ofInt a1_)), some (.int (Int32.ofInt 0))]) rfl (by decide) rfl (zdal_p dlD_M_unit_86 (i := 21) rfl) ?_
          have lp_38 : ∀ (n : Nat) (u14_ : Int) (hu14_a : -2147483648 ≤ u14_) (hu14_b : u14_ < 2147483648) (N15_ : zMem) (hs16_ : zFr [] [96] N3_ N15_) (i17_ : 0 ≤ u14_), (ze Mz 81 26 - u14_).toNat < n → zW l m_M_unit (zn Mz + 0, zw Mz + 0) N15_ 38 [some (.ref 81), some (.int (Int32.ofInt a0_)), some (.int (Int32.ofInt a1_)), some (.int (Int32.ofInt u14_))] [] (zpI [55, 57, 58] [96, 105, 109, 110] Mz (fun v N => zB 110 65536 0 2147483647 N ∧ 0 ≤ ze N 81 57 ∧ ze N 81 57 ≤ 65536)) := by
            intro n
            induction n with
            | zero =>
              intro u14_ hu14_a hu14_b N15_ hs16_ i17_ h0
              exact absurd h0 (Nat.not_lt_zero _)
            | succ n ih_38 =>
              intro u14_ hu14_a hu14_b N15_ hs16_ i17_ hlt_38
              have hf_N15_ : zFr [55, 57, 58] [96, 105, 109, 110] Mz N15_ := hf_N3_.tr hs16_ (by decide) (by decide)
              have e26_N15_ : ze N15_ 81 26 = ze N3_ 81 26 := hs16_.e (by decide)
              have e57_N15_ : ze N15_ 81 57 = ze N3_ 81 57 := hs16_.e (by decide)
              have c24_ : zGD N15_ := zGD.fr hs16_ c11_ (by decide) (by decide)
              have c25_ : zB 110 65536 0 2147483647 N15_ := zB.fr hs16_ hp0_N3_ (by decide) (by decide)
              refine zw_iload_n (pc := 38) (n := 3) (x := Int32.ofInt u14_) rfl (zdal_p dlD_M_unit_86 (i := 22) rfl) ?_
              refine zw_aload_n (pc := 39) (n := 0) (x := 81) rfl (zdal_p dlD_M_unit_86 (i := 23) rfl) ?_
              refine zr_getI0 hf_N15_ hW (pc := 40) (by decide) f_M_235 rfl (zdal_p dlD_M_unit_87 (i := 0) rfl) ?_
              refine zr_icmp_ge (pc := 43) (tgt := 85) ⟨hu14_a, hu14_b⟩ ⟨(ze_r Mz 81 26).1, (ze_r Mz 81 26).2⟩ (by decide) (zdal_p dlD_M_unit_87 (i := 1) rfl) (fun hc_43 => ?_) (fun hc_43 => ?_)
              · skip
                refine zw_aload_n (pc := 85) (n := 0) (x := 81) rfl (zdal_p dlD_M_unit_87 (i := 23) rfl) ?_
                refine zw_aload_n (pc := 86) (n := 0) (x := 81) rfl (zdal_p dlD_M_unit_88 (i := 0) rfl) ?_
                refine zr_getF (r := 96) (hf_N15_.w hW) (pc := 87) f_M_60 rfl (zh_96 (hf_N15_.w hW)).1 (zdal_p dlD_M_unit_88 (i := 1) rfl) ?_
                refine zw_aload_n (pc := 90) (n := 0) (x := 81) rfl (zdal_p dlD_M_unit_88 (i := 2) rfl) ?_
                refine zr_getF (r := 105) (hf_N15_.w hW) (pc := 91) f_M_87 rfl (zh_105 (hf_N15_.w hW)).1 (zdal_p dlD_M_unit_88 (i := 3) rfl) ?_
                refine zw_iconst (pc := 94) (v := Int32.ofInt 0) (by decide) (zdal_p dlD_M_unit_88 (i := 4) rfl) ?_
                refine zr_callV (hf_N15_.w hW) hf_N15_.x (pc := 95) [.ref 96, .ref 105, .int (Int32.ofInt 0)] [] l_M_289 (c_M_numbers_96_105 l N15_ (hf_N15_.w hW) 0 (by decide) (by decide) c24_ (show 0 ≤ 0 by first | with_reducible assumption | (decide) | assumption) (show 0 ≤ 0 by first | with_reducible assumption | (decide) | assumption)) rfl rfl rfl (by decide) (Nat.le_of_ble_eq_true rfl) (zdal_p dlD_M_unit_88 (i := 5) rfl) ?_
                rintro _ N26_ ⟨rfl, hsN26_, -⟩
                have hf_N26_ : zFr [55, 57, 58] [96, 105, 109, 110] Mz N26_ := hf_N15_.tr hsN26_ (by decide) (by decide)
                have e26_N26_ : ze N26_ 81 26 = ze N15_ 81 26 := hsN26_.e (by decide)
                have e57_N26_ : ze N26_ 81 57 = ze N15_ 81 57 := hsN26_.e (by decide)
                have c35_ : zB 110 65536 0 2147483647 N26_ := zB.fr hsN26_ c25_ (by decide) (by decide)
                show zW l m_M_unit (zn Mz + 0, zw Mz + 0) N26_ 98 [some (.ref 81), some (.int (Int32.ofInt a0_)), some (.int (Int32.ofInt a1_)), some (.int (Int32.ofInt u14_))] [] _
                refine zw_aload_n (pc := 98) (n := 0) (x := 81) rfl (zdal_p dlD_M_unit_88 (i := 6) rfl) ?_
                refine zr_getF (r := 105) (hf_N26_.w hW) (pc := 99) f_M_87 rfl (zh_105 (hf_N26_.w hW)).1 (zdal_p dlD_M_unit_88 (i := 7) rfl) ?_
                refine zw_iload_n (pc := 102) (n := 2) (x := Int32.ofInt a1_) rfl (zdal_p dlD_M_unit_88 (i := 8) rfl) ?_
                refine zr_laldn (pc := 103) (zh_105 (hf_N26_.w hW)).2 (by decide) (by (exact ha2_0_hp0_N1_)) (by (exact zo_906 gb.2.2.2.2.2 ha1_b ha2_1_hp0_N1_)) (zdal_p dlD_M_unit_88 (i := 9) rfl) (fun v36_ hv36_ hv36_a hv36_b => ?_)
                refine zr_l2i (pc := 104) (zdal_p dlD_M_unit_88 (i := 10) rfl) ?_
                refine zr_nmI (fun v37_ hv37_ => ?_)
                obtain ⟨hv37_a, hv37_b⟩ := hv37_
                exact zr_iret (pc := 105) (ty := .int) rfl rfl ⟨by (exact hv37_a), by (exact hv37_b)⟩ hf_N26_ ⟨c35_, (show 0 ≤ ze N26_ 81 57 by first | with_reducible assumption | (exact zo_871 e57_N15_ e57_N26_ hp1_N3_) | assumption), (show ze N26_ 81 57 ≤ 65536 by first | with_reducible assumption | (exact zo_979 e57_N15_ e57_N26_ hp2_N3_) | assumption)⟩ (zdal_p dlD_M_unit_88 (i := 11) rfl)
              · skip
                refine zw_aload_n (pc := 46) (n := 0) (x := 81) rfl (zdal_p dlD_M_unit_87 (i := 2) rfl) ?_
                refine zr_getF (r := 96) (hf_N15_.w hW) (pc := 47) f_M_60 rfl (zh_96 (hf_N15_.w hW)).1 (zdal_p dlD_M_unit_87 (i := 3) rfl) ?_
                refine zw_iload_n (pc := 50) (n := 3) (x := Int32.ofInt u14_) rfl (zdal_p dlD_M_unit_87 (i := 4) rfl) ?_
                refine zw_aload_n (pc := 51) (n := 0) (x := 81) rfl (zdal_p dlD_M_unit_87 (i := 5) rfl) ?_
                refine zr_getF (r := 110) (hf_N15_.w hW) (pc := 52) f_M_103 rfl (zh_110 (hf_N15_.w hW)).1 (zdal_p dlD_M_unit_87 (i := 6) rfl) ?_
                refine zw_iload_n (pc := 55) (n := 1) (x := Int32.ofInt a0_) rfl (zdal_p dlD_M_unit_87 (i := 7) rfl) ?_
                refine zr_ialdn (pc := 56) (zh_110 (hf_N15_.w hW)).2 (by decide) (by (exact ha26_0_hp0_N12_)) (by (exact zo_980 ha0_b ha26_1_hp0_N12_ hp2_N3_)) (zdal_p dlD_M_unit_87 (i := 8) rfl) (fun v38_ hv38_ hv38_a hv38_b => ?_)
                have hr39_ := c25_.g (e := a0_) (by (exact ha26_0_hp0_N12_)) (by (exact zo_980 ha0_b ha26_1_hp0_N12_ hp2_N3_))
                rw [← hv38_] at hr39_
                refine zw_aload_n (pc := 57) (n := 0) (x := 81) rfl (zdal_p dlD_M_unit_87 (i := 9) rfl) ?_
                refine zr_getI0 hf_N15_ hW (pc := 58) (by decide) f_M_235 rfl (zdal_p dlD_M_unit_87 (i := 10) rfl) ?_
                refine zw_iconst (pc := 61) (v := Int32.ofInt 1) (by decide) (zdal_p dlD_M_unit_87 (i := 11) rfl) ?_
                refine zr_isub (pc := 62) (zdal_p dlD_M_unit_87 (i := 12) rfl) ?_
                refine zw_iload_n (pc := 63) (n := 3) (x := Int32.ofInt u14_) rfl (zdal_p dlD_M_unit_87 (i := 13) rfl) ?_
                refine zr_isub (pc := 64) (zdal_p dlD_M_unit_87 (i := 14) rfl) ?_
                refine zr_callS hf_N15_.x (pc := 65) [.int (Int32.ofInt v38_), .int (Int32.ofInt (((ze Mz 81 26) - 1) - u14_))] [.int (Int32.ofInt u14_), .ref 96] l_M_213 (c_M_holdsB l N15_ (hf_N15_.w hW) v38_ hv38_a hv38_b (((ze Mz 81 26) - 1) - u14_) (by (exact zo_981 hc_43)) (by (exact zo_982 gb.2.2.2.2.2 i17_))) rfl rfl (by decide) (Nat.le_of_ble_eq_true rfl) (zdal_p dlD_M_unit_87 (i := 15) rfl) ?_
                rintro _ N40_ ⟨v41_, rfl, ⟨hv41_a, hv41_b⟩, hsN40_, hp0_N40_⟩
                obtain rfl := hsN40_.eq.symm
                replace hp0_N40_ : (v41_ = 0 ∨ v41_ = 1) := hp0_N40_
                show zW l m_M_unit (zn Mz + 0, zw Mz + 0) N15_ 68 [some (.ref 81), some (.int (Int32.ofInt a0_)), some (.int (Int32.ofInt a1_)), some (.int (Int32.ofInt u14_))] [.int (Int32.ofInt v41_), .int (Int32.ofInt u14_), .ref 96] _
                refine zr_if_eq (pc := 68) (tgt := 77) ⟨hv41_a, hv41_b⟩ (by decide) (zdal_p dlD_M_unit_87 (i := 16) rfl) (fun hc_68 => ?_) (fun hc_68 => ?_)
                · skip
                  refine zw_lconst (pc := 77) (v := Int64.ofInt 1) (by decide) (zdal_p dlD_M_unit_87 (i := 19) rfl) ?_
                  refine zr_last (pc := 78) (zh_96 (hf_N15_.w hW)).2 (by decide) (by decide) (by (exact i17_)) (by (exact zo_831 gb.2.2.2.2.2 hc_43)) (zdal_p dlD_M_unit_87 (i := 20) rfl) (fun N42_ hN42_ hsN42_ => ?_)
                  have hf_N42_ : zFr [55, 57, 58] [96, 105, 109, 110] Mz N42_ := hf_N15_.tr hsN42_ (by decide) (by decide)
                  have hb0_N42_ : zFr [] [96] N3_ N42_ := hs16_.tr hsN42_ (by decide) (by decide)
                  have e26_N42_ : ze N42_ 81 26 = ze N15_ 81 26 := hsN42_.e (by decide)
                  have e57_N42_ : ze N42_ 81 57 = ze N15_ 81 57 := hsN42_.e (by decide)
                  refine zr_iinc (pc := 79) (i := 3) (a := u14_) (n := 1) (L2 := [some (.ref 81), some (.int (Int32.ofInt a0_)), some (.int (Int32.ofInt a1_)), some (.int (Int32.ofInt (u14_ + 1)))]) rfl (by decide) rfl (zdal_p dlD_M_unit_87 (i := 21) rfl) ?_
                  refine zw_goto (pc := 82) (tgt := 38) (by decide) (zdal_p dlD_M_unit_87 (i := 22) rfl) ?_
                  exact ih_38 (u14_ + 1) (by (exact zo_74 i17_)) (by (exact zo_832 gb.2.2.2.2.2 hc_43)) N42_ hb0_N42_ (show 0 ≤ (u14_ + 1) by first | with_reducible assumption | (exact zo_76 i17_) | assumption) (by (exact zo_147 hc_43 hlt_38))
                · skip
                  refine zr_ldc2 (pc := 71) (n := (-1)) (by decide) k_M_468 (zdal_p dlD_M_unit_87 (i := 17) rfl) ?_
                  refine zw_goto (pc := 74) (tgt := 78) (by decide) (zdal_p dlD_M_unit_87 (i := 18) rfl) ?_
                  refine zr_last (pc := 78) (zh_96 (hf_N15_.w hW)).2 (by decide) (by decide) (by (exact i17_)) (by (exact zo_831 gb.2.2.2.2.2 hc_43)) (zdal_p dlD_M_unit_87 (i := 20) rfl) (fun N51_ hN51_ hsN51_ => ?_)
                  have hf_N51_ : zFr [55, 57, 58] [96, 105, 109, 110] Mz N51_ := hf_N15_.tr hsN51_ (by decide) (by decide)
                  have hb0_N51_ : zFr [] [96] N3_ N51_ := hs16_.tr hsN51_ (by decide) (by decide)
                  have e26_N51_ : ze N51_ 81 26 = ze N15_ 81 26 := hsN51_.e (by decide)
                  have e57_N51_ : ze N51_ 81 57 = ze N15_ 81 57 := hsN51_.e (by decide)
                  refine zr_iinc (pc := 79) (i := 3) (a := u14_) (n := 1) (L2 := [some (.ref 81), some (.int (Int32.ofInt a0_)), some (.int (Int32.ofInt a1_)), some (.int (Int32.ofInt (u14_ + 1)))]) rfl (by decide) rfl (zdal_p dlD_M_unit_87 (i := 21) rfl) ?_
                  refine zw_goto (pc := 82) (tgt := 38) (by decide) (zdal_p dlD_M_unit_87 (i := 22) rfl) ?_
                  exact ih_38 (u14_ + 1) (by (exact zo_74 i17_)) (by (exact zo_832 gb.2.2.2.2.2 hc_43)) N51_ hb0_N51_ (show 0 ≤ (u14_ + 1) by first | with_reducible assumption | (exact zo_76 i17_) | assumption) (by (exact zo_147 hc_43 hlt_38))
          exact lp_38 _ 0 (by decide) (by decide) N3_ zFr.rf (show 0 ≤ (0 : Int) by first | with_reducible assumption | (decide) | assumption) (Nat.lt_succ_self _)
        · skip
          exact absurd hc_29 (by decide)
      · skip
        show zW l m_M_unit (zn Mz + 0, zw Mz + 0) N3_ 29 [some (.ref 81), some (.int (Int32.ofInt a0_)), some (.int (Int32.ofInt a1_)), none] [.int (Int32.ofInt 0)] _
        refine zr_if_ne (pc := 29) (tgt := 36) ⟨(by decide), (by decide)⟩ (by decide) (zdal_p dlD_M_unit_86 (i := 17) rfl) (fun hc_29 => ?_) (fun hc_29 => ?_)
        · skip
          exact absurd hc_29 (by decide)
        · skip
          refine zw_ldcw (pc := 32) (v := Int32.ofInt (-1000000)) (by rw [show Int32.ofInt (-1000000) = ((-1000000) : Int32) by decide]; exact k_M_435) (zdal_p dlD_M_unit_86 (i := 18) rfl) ?_
          exact zr_iret (pc := 35) (ty := .int) rfl rfl ⟨by (decide), by (decide)⟩ hf_N3_ ⟨hp0_N3_, (show 0 ≤ ze N3_ 81 57 by first | with_reducible assumption | assumption | omega), (show ze N3_ 81 57 ≤ 65536 by first | with_reducible assumption | assumption | omega)⟩ (zdal_p dlD_M_unit_86 (i := 19) rfl)
    · skip
      exact absurd hc_5 (by decide)
  · skip
    show zW l m_M_unit (zn Mz + 0, zw Mz + 0) Mz 5 [some (.ref 81), some (.int (Int32.ofInt a0_)), some (.int (Int32.ofInt a1_)), none] [.int (Int32.ofInt 0)] _
    refine zr_if_ne (pc := 5) (tgt := 12) ⟨(by decide), (by decide)⟩ (by decide) (zdal_p dlD_M_unit_86 (i := 3) rfl) (fun hc_5 => ?_) (fun hc_5 => ?_)
    · skip
      exact absurd hc_5 (by decide)
    · skip
      refine zw_ldcw (pc := 8) (v := Int32.ofInt (-1000000)) (by rw [show Int32.ofInt (-1000000) = ((-1000000) : Int32) by decide]; exact k_M_435) (zdal_p dlD_M_unit_86 (i := 4) rfl) ?_
      exact zr_iret (pc := 11) (ty := .int) rfl rfl ⟨by (decide), by (decide)⟩ hf ⟨p1_, (show 0 ≤ ze Mz 81 57 by first | with_reducible assumption | assumption | omega), (show ze Mz 81 57 ≤ 65536 by first | with_reducible assumption | assumption | omega)⟩ (zdal_p dlD_M_unit_86 (i := 5) rfl)
set_option maxHeartbeats 4000000 in
theorem c_M_congruenceOf_99 (l : Launch) (Mz : zMem) (hW : zMt Mz) (a1_ : Int) (ha1_a : -2147483648 ≤ a1_) (ha1_b : a1_ < 2147483648) (T : zGT) (hO : gOK T) (hX : gEx T) (p0_ : zGB T Mz) (p1_ : 0 ≤ a1_) (p2_ : a1_ < ze Mz 81 26) : zC l m_M_congruenceOf 0 0 [.ref 81, .ref 99, .int (Int32.ofInt a1_)] Mz (zpJ [55] [109] Mz (fun v N => 1 ≤ ze N 81 55 ∧ ze N 81 55 ≤ 24)) := by
  refine zC_of (L0 := [some (.ref 81), some (.ref 99), some (.int (Int32.ofInt a1_)), none, none, none]) md_M_congruenceOf (Nat.le_of_ble_eq_true rfl) rfl ?_ zQ0
  have hf : zFr [55] [109] Mz Mz := zFr.rf
  have r_26 := ze_r Mz 81 26
  have r_55 := ze_r Mz 81 55
  have hG := hO.1
  have g24 := hG.2.1
  have g1 := hG.1
  have dv0 : zTab T Mz := p0_.1
  have dv1 : zB 85 144 0 5 Mz := p0_.2.1
  have dv2 : zJX T Mz := p0_.2.2.1
  have dv3 : zFirs T Mz := p0_.2.2.2.1
  have dv4 : zSSm T Mz := p0_.2.2.2.2.1
  have dv5 : zGD Mz := zGB.d hO p0_
  have gb := dv5.1
  have gn := dv0.1
  have gfl := dv3.1
  have gf6 := gF_pos hO
  have gxl := hX.2.1
  refine zw_aload_n (pc := 0) (n := 0) (x := 81) rfl (zdal_p dlD_M_congruenceOf_100 (i := 0) rfl) ?_
  refine zw_iload_n (pc := 1) (n := 2) (x := Int32.ofInt a1_) rfl (zdal_p dlD_M_congruenceOf_100 (i := 1) rfl) ?_
  refine zr_callV (hf.w hW) hf.x (pc := 2) [.int (Int32.ofInt a1_)] [] l_M_456 (c_M_laysMade l Mz (hf.w hW) a1_ ha1_a ha1_b T hO hX p0_ (show 0 ≤ a1_ by first | with_reducible assumption | assumption | omega) (show a1_ < ze Mz 81 26 by first | with_reducible assumption | assumption | omega)) rfl rfl rfl (by decide) (Nat.le_of_ble_eq_true rfl) (zdal_p dlD_M_congruenceOf_100 (i := 2) rfl) ?_
  rintro _ N1_ ⟨rfl, hsN1_, ⟨hp0_N1_, hp1_N1_, hp2_N1_⟩⟩
  have hf_N1_ : zFr [55] [109] Mz N1_ := hf.tr hsN1_ (by decide) (by decide)
  have e26_N1_ : ze N1_ 81 26 = ze Mz 81 26 := hsN1_.e (by decide)
  have r55_N1_ := ze_r N1_ 81 55
  show zW l m_M_congruenceOf (zn Mz + 0, zw Mz + 0) N1_ 5 [some (.ref 81), some (.ref 99), some (.int (Int32.ofInt a1_)), none, none, none] [] _
  have hmr_ := hp0_N1_.2.1
  refine zw_lconst (pc := 5) (v := Int64.ofInt 0) (by decide) (zdal_p dlD_M_congruenceOf_100 (i := 3) rfl) ?_
  refine zw_lstore_n (pc := 6) (i := 3) (L2 := [some (.ref 81), some (.ref 99), some (.int (Int32.ofInt a1_)), some (.long (Int64.ofInt 0)), none, none]) rfl (by decide) rfl (zdal_p dlD_M_congruenceOf_100 (i := 4) rfl) ?_
  refine zw_iconst (pc := 7) (v := Int32.ofInt 0) (by decide) (zdal_p dlD_M_congruenceOf_100 (i := 5) rfl) ?_
  refine zw_istore (pc := 8) (i := 5) (L2 := [some (.ref 81), some (.ref 99), some (.int (Int32.ofInt a1_)), some (.long (Int64.ofInt 0)), none, some (.int (Int32.ofInt 0))]) (by decide) rfl (zdal_p dlD_M_congruenceOf_100 (i := 6) rfl) ?_
  have lp_10 : ∀ (n : Nat) (u10_ : Int) (hu10_a : -9223372036854775808 ≤ u10_) (hu10_b : u10_ < 9223372036854775808) (u11_ : Int) (hu11_a : -2147483648 ≤ u11_) (hu11_b : u11_ < 2147483648) (i12_ : 0 ≤ u11_), (ze N1_ 81 55 - u11_).toNat < n → zW l m_M_congruenceOf (zn Mz + 0, zw Mz + 0) N1_ 10 [some (.ref 81), some (.ref 99), some (.int (Int32.ofInt a1_)), some (.long (Int64.ofInt u10_)), none, some (.int (Int32.ofInt u11_))] [] (zpJ [55] [109] Mz (fun v N => 1 ≤ ze N 81 55 ∧ ze N 81 55 ≤ 24)) := by
    intro n
    induction n with
    | zero =>
      intro u10_ hu10_a hu10_b u11_ hu11_a hu11_b i12_ h0
      exact absurd h0 (Nat.not_lt_zero _)
    | succ n ih_10 =>
      intro u10_ hu10_a hu10_b u11_ hu11_a hu11_b i12_ hlt_10
      refine zw_iload (pc := 10) (i := 5) (x := Int32.ofInt u11_) rfl (zdal_p dlD_M_congruenceOf_100 (i := 7) rfl) ?_
      refine zw_aload_n (pc := 12) (n := 0) (x := 81) rfl (zdal_p dlD_M_congruenceOf_100 (i := 8) rfl) ?_
      refine zr_getI (hf_N1_.w hW) (pc := 13) f_M_453 rfl (zdal_p dlD_M_congruenceOf_100 (i := 9) rfl) ?_
      refine zr_icmp_ge (pc := 16) (tgt := 37) ⟨hu11_a, hu11_b⟩ ⟨(ze_r N1_ 81 55).1, (ze_r N1_ 81 55).2⟩ (by decide) (zdal_p dlD_M_congruenceOf_100 (i := 10) rfl) (fun hc_16 => ?_) (fun hc_16 => ?_)
      · skip
        refine zw_lload_n (pc := 37) (n := 3) (x := Int64.ofInt u10_) rfl (zdal_p dlD_M_congruenceOf_100 (i := 22) rfl) ?_
        exact zr_lret (pc := 38) rfl ⟨by (exact hu10_a), by (exact hu10_b)⟩ hf_N1_ ⟨(show 1 ≤ ze N1_ 81 55 by first | with_reducible assumption | assumption | omega), (show ze N1_ 81 55 ≤ 24 by first | with_reducible assumption | assumption | omega)⟩ (zdal_p dlD_M_congruenceOf_100 (i := 23) rfl)
      · skip
        refine zw_lload_n (pc := 19) (n := 3) (x := Int64.ofInt u10_) rfl (zdal_p dlD_M_congruenceOf_100 (i := 11) rfl) ?_
        refine zw_aload_n (pc := 20) (n := 1) (x := 99) rfl (zdal_p dlD_M_congruenceOf_100 (i := 12) rfl) ?_
        refine zw_aload_n (pc := 21) (n := 0) (x := 81) rfl (zdal_p dlD_M_congruenceOf_100 (i := 13) rfl) ?_
        refine zr_getF (r := 109) (hf_N1_.w hW) (pc := 22) f_M_99 rfl (zh_109 (hf_N1_.w hW)).1 (zdal_p dlD_M_congruenceOf_100 (i := 14) rfl) ?_
        refine zw_iload (pc := 25) (i := 5) (x := Int32.ofInt u11_) rfl (zdal_p dlD_M_congruenceOf_100 (i := 15) rfl) ?_
        refine zr_ialdn (pc := 27) (zh_109 (hf_N1_.w hW)).2 (by decide) (by (exact i12_)) (by (exact zo_1374 hc_16 hp2_N1_)) (zdal_p dlD_M_congruenceOf_100 (i := 16) rfl) (fun v13_ hv13_ hv13_a hv13_b => ?_)
        have hmx_ := hmr_ (u11_).toNat (by (exact zo_695 hc_16 i12_))
        refine zr_laldn (pc := 28) (zh_99 (hf_N1_.w hW)).2 (by decide) (by (exact zo_574 hmx_.1 hv13_ hv13_a)) (by omega) (zdal_p dlD_M_congruenceOf_100 (i := 17) rfl) (fun v14_ hv14_ hv14_a hv14_b => ?_)
        rw [hf_N1_.jg (by decide) (by decide)] at hv14_
        refine zr_ladd (pc := 29) (zdal_p dlD_M_congruenceOf_100 (i := 18) rfl) ?_
        refine zr_nmJ (fun v15_ hv15_ => ?_)
        obtain ⟨hv15_a, hv15_b⟩ := hv15_
        refine zw_lstore_n (pc := 30) (i := 3) (L2 := [some (.ref 81), some (.ref 99), some (.int (Int32.ofInt a1_)), some (.long (Int64.ofInt v15_)), none, some (.int (Int32.ofInt u11_))]) rfl (by decide) rfl (zdal_p dlD_M_congruenceOf_100 (i := 19) rfl) ?_
        refine zr_iinc (pc := 31) (i := 5) (a := u11_) (n := 1) (L2 := [some (.ref 81), some (.ref 99), some (.int (Int32.ofInt a1_)), some (.long (Int64.ofInt v15_)), none, some (.int (Int32.ofInt (u11_ + 1)))]) rfl (by decide) rfl (zdal_p dlD_M_congruenceOf_100 (i := 20) rfl) ?_
        refine zw_goto (pc := 34) (tgt := 10) (by decide) (zdal_p dlD_M_congruenceOf_100 (i := 21) rfl) ?_
        exact ih_10 v15_ hv15_a hv15_b (u11_ + 1) (by (exact zo_74 i12_)) (by (exact zo_1371 hc_16 hp2_N1_)) (show 0 ≤ (u11_ + 1) by first | with_reducible assumption | (exact zo_76 i12_) | assumption) (by (exact zo_147 hc_16 hlt_10))
  exact lp_10 _ 0 (by decide) (by decide) 0 (by decide) (by decide) (show 0 ≤ (0 : Int) by first | with_reducible assumption | (decide) | assumption) (Nat.lt_succ_self _)
set_option maxHeartbeats 4000000 in
theorem c_M_congruence (l : Launch) (Mz : zMem) (hW : zMt Mz) (a0_ : Int) (ha0_a : -2147483648 ≤ a0_) (ha0_b : a0_ < 2147483648) (T : zGT) (hO : gOK T) (hX : gEx T) (p0_ : zGB T Mz) : zC l m_M_congruence 0 0 [.ref 81, .int (Int32.ofInt a0_)] Mz (zpJ [55] [99, 109] Mz (fun v N => True)) := by
  refine zC_of (L0 := [some (.ref 81), some (.int (Int32.ofInt a0_))]) md_M_congruence (Nat.le_of_ble_eq_true rfl) rfl ?_ zQ0
  have hf : zFr [55] [99, 109] Mz Mz := zFr.rf
  have r_26 := ze_r Mz 81 26
  have r_55 := ze_r Mz 81 55
  have hG := hO.1
  have g24 := hG.2.1
  have g1 := hG.1
  have dv0 : zTab T Mz := p0_.1
  have dv1 : zB 85 144 0 5 Mz := p0_.2.1
  have dv2 : zJX T Mz := p0_.2.2.1
  have dv3 : zFirs T Mz := p0_.2.2.2.1
  have dv4 : zSSm T Mz := p0_.2.2.2.2.1
  have dv5 : zGD Mz := zGB.d hO p0_
  have gb := dv5.1
  have gn := dv0.1
  have gfl := dv3.1
  have gf6 := gF_pos hO
  have gxl := hX.2.1
  refine zw_aload_n (pc := 0) (n := 0) (x := 81) rfl (zdal_p dlD_M_congruence_98 (i := 0) rfl) ?_
  refine zw_iload_n (pc := 1) (n := 1) (x := Int32.ofInt a0_) rfl (zdal_p dlD_M_congruence_98 (i := 1) rfl) ?_
  refine zr_callV (hf.w hW) hf.x (pc := 2) [.int (Int32.ofInt a0_)] [] l_M_414 (c_M_isSort l Mz (hf.w hW) a0_ ha0_a ha0_b T hO p0_) rfl rfl rfl (by decide) (Nat.le_of_ble_eq_true rfl) (zdal_p dlD_M_congruence_98 (i := 2) rfl) ?_
  rintro _ N1_ ⟨v2_, rfl, ⟨hv2_a, hv2_b⟩, hsN1_, hp0_N1_⟩
  obtain rfl := hsN1_.eq.symm
  replace hp0_N1_ : ((v2_ = 1 ∧ 0 ≤ a0_ ∧ a0_ < ze Mz 81 26) ∨ (v2_ = 0)) := hp0_N1_
  rcases hp0_N1_ with ⟨rfl, ha2_0_hp0_N1_, ha2_1_hp0_N1_⟩ | rfl
  · skip
    show zW l m_M_congruence (zn Mz + 0, zw Mz + 0) Mz 5 [some (.ref 81), some (.int (Int32.ofInt a0_))] [.int (Int32.ofInt 1)] _
    refine zr_if_ne (pc := 5) (tgt := 12) ⟨(by decide), (by decide)⟩ (by decide) (zdal_p dlD_M_congruence_98 (i := 3) rfl) (fun hc_5 => ?_) (fun hc_5 => ?_)
    · skip
      refine zw_aload_n (pc := 12) (n := 0) (x := 81) rfl (zdal_p dlD_M_congruence_98 (i := 6) rfl) ?_
      refine zr_callV (hf.w hW) hf.x (pc := 13) [] [] l_M_472 (c_M_laysMarks l Mz (hf.w hW) T hO p0_) rfl rfl rfl (by decide) (Nat.le_of_ble_eq_true rfl) (zdal_p dlD_M_congruence_98 (i := 7) rfl) ?_
      rintro _ N3_ ⟨rfl, hsN3_, -⟩
      have hf_N3_ : zFr [55] [99, 109] Mz N3_ := hf.tr hsN3_ (by decide) (by decide)
      have e26_N3_ : ze N3_ 81 26 = ze Mz 81 26 := hsN3_.e (by decide)
      have e55_N3_ : ze N3_ 81 55 = ze Mz 81 55 := hsN3_.e (by decide)
      have c5_ : zGB T N3_ := zGB.fr hsN3_ p0_ (by decide) (by decide)
      show zW l m_M_congruence (zn Mz + 0, zw Mz + 0) N3_ 16 [some (.ref 81), some (.int (Int32.ofInt a0_))] [] _
      refine zw_aload_n (pc := 16) (n := 0) (x := 81) rfl (zdal_p dlD_M_congruence_98 (i := 8) rfl) ?_
      refine zw_aload_n (pc := 17) (n := 0) (x := 81) rfl (zdal_p dlD_M_congruence_98 (i := 9) rfl) ?_
      refine zr_getF (r := 99) (hf_N3_.w hW) (pc := 18) f_M_69 rfl (zh_99 (hf_N3_.w hW)).1 (zdal_p dlD_M_congruence_98 (i := 10) rfl) ?_
      refine zw_iload_n (pc := 21) (n := 1) (x := Int32.ofInt a0_) rfl (zdal_p dlD_M_congruence_98 (i := 11) rfl) ?_
      refine zr_callV (hf_N3_.w hW) hf_N3_.x (pc := 22) [.ref 99, .int (Int32.ofInt a0_)] [] l_M_475 (c_M_congruenceOf_99 l N3_ (hf_N3_.w hW) a0_ ha0_a ha0_b T hO hX c5_ (show 0 ≤ a0_ by first | with_reducible assumption | assumption | omega) (show a0_ < ze N3_ 81 26 by first | with_reducible assumption | (exact zo_535 e26_N3_ ha2_1_hp0_N1_) | assumption)) rfl rfl rfl (by decide) (Nat.le_of_ble_eq_true rfl) (zdal_p dlD_M_congruence_98 (i := 12) rfl) ?_
      rintro _ N12_ ⟨v13_, rfl, ⟨hv13_a, hv13_b⟩, hsN12_, ⟨hp0_N12_, hp1_N12_⟩⟩
      have hf_N12_ : zFr [55] [99, 109] Mz N12_ := hf_N3_.tr hsN12_ (by decide) (by decide)
      have e26_N12_ : ze N12_ 81 26 = ze N3_ 81 26 := hsN12_.e (by decide)
      have r55_N12_ := ze_r N12_ 81 55
      show zW l m_M_congruence (zn Mz + 0, zw Mz + 0) N12_ 25 [some (.ref 81), some (.int (Int32.ofInt a0_))] [.long (Int64.ofInt v13_)] _
      refine zw_aload_n (pc := 25) (n := 0) (x := 81) rfl (zdal_p dlD_M_congruence_98 (i := 13) rfl) ?_
      refine zr_getI (hf_N12_.w hW) (pc := 26) f_M_453 rfl (zdal_p dlD_M_congruence_98 (i := 14) rfl) ?_
      refine zr_i2l (pc := 29) ⟨(ze_r N12_ 81 55).1, (ze_r N12_ 81 55).2⟩ (zdal_p dlD_M_congruence_98 (i := 15) rfl) ?_
      refine zr_ldiv (pc := 30) ⟨by (exact zo_2176 hp0_N12_), by (exact zo_1007 hp1_N12_)⟩ (by (exact zo_999 hp0_N12_)) (zdal_p dlD_M_congruence_98 (i := 16) rfl) ?_
      have hr21_ := zlquo_r v13_ (ze N12_ 81 55)
      exact zr_lret (pc := 31) rfl ⟨by (exact zo_79 hr21_.1), by (exact zo_80 hr21_.2)⟩ hf_N12_ trivial (zdal_p dlD_M_congruence_98 (i := 17) rfl)
    · skip
      exact absurd hc_5 (by decide)
  · skip
    show zW l m_M_congruence (zn Mz + 0, zw Mz + 0) Mz 5 [some (.ref 81), some (.int (Int32.ofInt a0_))] [.int (Int32.ofInt 0)] _
    refine zr_if_ne (pc := 5) (tgt := 12) ⟨(by decide), (by decide)⟩ (by decide) (zdal_p dlD_M_congruence_98 (i := 3) rfl) (fun hc_5 => ?_) (fun hc_5 => ?_)
    · skip
      exact absurd hc_5 (by decide)
    · skip
      refine zr_ldc2 (pc := 8) (n := (-9223372036854775808)) (by decide) k_M_470 (zdal_p dlD_M_congruence_98 (i := 4) rfl) ?_
      exact zr_lret (pc := 11) rfl ⟨by (decide), by (decide)⟩ hf trivial (zdal_p dlD_M_congruence_98 (i := 5) rfl)
def zRow (M : zMem) (m p met : Int) : Prop := (0 ≤ met ∧ met < 64) ∧ ∀ q : Nat, (q : Int) < p → (0 ≤ ze M 83 (6 * m.toNat + q) ∧ ze M 83 (6 * m.toNat + q) < ze M 81 12) ∧ zbt met (ze M 83 (6 * m.toNat + q)) ∧ ∀ r : Nat, r < q → ze M 83 (6 * m.toNat + r) ≠ ze M 83 (6 * m.toNat + q)
theorem zRow.fr {S C : List Nat} {M N : zMem} {m p met : Int} (hf : zFr S C M N) (h : zRow M m p met) (hs : 12 ∉ S) (hc : 83 ∉ C) : zRow N m p met := by
  unfold zRow
  simp only [hf.e hs, hf.ie (by decide) hc]
  exact h
def zKp (M N : zMem) (n : Int) : Prop := ∀ j : Nat, (j : Int) < n → ze N 83 j = ze M 83 j
theorem zKp_0 {M N : zMem} {S C : List Nat} {n : Int} (hf : zFr S C M N) (hc : 83 ∉ C) : zKp M N n := fun j _ => hf.ie (by decide) hc j
theorem zKp.fr {S C : List Nat} {M N P : zMem} {n : Int} (hf : zFr S C N P) (h : zKp M N n) (hc : 83 ∉ C) : zKp M P n := fun j hj => by rw [hf.ie (by decide) hc]; exact h j hj
theorem zKp_s {M N P : zMem} {n i : Int} {v : Int32} (h : zKp M N n) (hi : n ≤ i) (i0 : 0 ≤ i) (hP : P = zsI N 83 i.toNat v) : zKp M P n := fun j hj => by
  rw [zs_oth hP (by omega)]
  exact h j hj
theorem zrc_c {M N : zMem} {q r m : Nat} {P : Int} (hP : P ≤ 6) (h : ∀ p : Nat, p < 6 → ze N r (6 * m + p) = ze M q (6 * m + p)) : zrc N r m P = zrc M q m P := by
  rw [zrc_m, zrc_m]
  refine gmkc_c (fun p hp => ?_)
  unfold zrd
  rw [h p hp]
theorem zPm_0 {M : zMem} (h : ze M 81 13 = 0) : zPm M := fun g hg => by
  obtain ⟨k, hk, -⟩ := zMvs_m.mp hg
  omega
theorem zFin_0 {M : zMem} (h : ze M 81 13 = 0) : zFin M := ⟨[gid], by decide, List.mem_singleton.mpr rfl, fun c _ g hg => by
  obtain ⟨k, hk, -⟩ := zMvs_m.mp hg
  omega⟩
def zMvF (M : zMem) : List Nat := (List.range (ze M 81 17).toNat).map (fun k => zrc M 84 k (ze M 81 16))
def zIF (M : zMem) : Prop := ((1 ≤ ze M 81 16 ∧ ze M 81 16 ≤ 6) ∧ 0 ≤ ze M 81 17 ∧ ze M 81 17 ≤ 4) ∧ zB 84 24 0 5 M ∧ (∀ g ∈ zMvF M, gpm g) ∧ ∃ C : List Nat, C.length ≤ 24 ∧ gid ∈ C ∧ ∀ c ∈ C, ∀ g ∈ zMvF M, gco c g ∈ C
theorem zMvF_f {S C : List Nat} {M N : zMem} (h : zFr S C M N) (hs : 16 ∉ S ∧ 17 ∉ S) (hc : 84 ∉ C) : zMvF N = zMvF M := by
  unfold zMvF
  rw [h.e hs.1, h.e hs.2]
  apply List.map_congr_left
  intro k _
  exact zrc_f (fun j => h.ie (by decide) hc j) k _
theorem zIF.fr {S C : List Nat} {M N : zMem} (h : zFr S C M N) (hp : zIF M) (hs : 16 ∉ S ∧ 17 ∉ S) (hc : 84 ∉ C) : zIF N := by
  unfold zIF
  rw [zMvF_f h hs hc, h.e hs.1, h.e hs.2]
  exact ⟨hp.1, zB.fr h hp.2.1 (by decide) hc, hp.2.2⟩
def zCp (q r : Nat) (M0 M : zMem) (n : Int) : Prop := ∀ j : Nat, (j : Int) < n → ze M r j = ze M0 q j
theorem zCp_0 {q r : Nat} {M0 M : zMem} : zCp q r M0 M 0 := fun j h => absurd h (by omega)
theorem zCp_s {q r : Nat} {M0 M N : zMem} {i v : Int} (i0 : 0 ≤ i) (h : zCp q r M0 M i) (hv : v = ze M0 q i.toNat) (hN : N = zsI M r i.toNat (Int32.ofInt v)) : zCp q r M0 N (i + 1) := by
  intro j hj
  by_cases e : (j : Int) = i
  · rw [show j = i.toNat by omega, ← hv]
    exact zs_get hN (by rw [hv]; exact z32r _)
  · rw [zs_oth hN (by omega)]
    exact h j (by omega)
theorem zIF_i {M0 N : zMem} {i : Int} (hi : 24 ≤ i) (hq : zCp 83 84 M0 N i) (hk : ∀ j, ze N 83 j = ze M0 83 j) (h16 : ze N 81 16 = ze N 81 12) (h17 : ze N 81 17 = ze N 81 13) (p0 : 1 ≤ ze N 81 12) (p1 : ze N 81 12 ≤ 6) (p2 : 0 ≤ ze N 81 13) (p3 : ze N 81 13 ≤ 4) (hP : zPm N) (hF : zFin N) (hB : zB 83 24 0 5 N) : zIF N := by
  have h : ∀ j : Nat, (j : Int) < i → ze N 84 j = ze N 83 j := fun j hj => by rw [hq j hj, hk]
  have e : zMvF N = zMvs N := by
    unfold zMvF zMvs
    rw [h16, h17]
    apply List.map_congr_left
    intro k hk
    rw [List.mem_range] at hk
    exact zrc_c p1 (fun p hp => h _ (by omega))
  unfold zIF
  rw [e, h16, h17]
  refine ⟨⟨⟨p0, p1⟩, p2, p3⟩, fun k hk => ?_, hP, hF⟩
  rw [h k (by omega)]
  exact hB k hk
theorem zIF_b {M0 N : zMem} {i : Int} (hi : 24 ≤ i) (hq : zCp 84 83 M0 N i) (hk : ∀ j, ze N 84 j = ze M0 84 j) (hI : zIF N) (h16 : ze N 81 12 = ze N 81 16) (h17 : ze N 81 13 = ze N 81 17) : zPm N ∧ zFin N ∧ zB 83 24 0 5 N := by
  have h : ∀ j : Nat, (j : Int) < i → ze N 83 j = ze N 84 j := fun j hj => by rw [hq j hj, hk]
  obtain ⟨h1, h2, h3, h4⟩ := hI
  have e : zMvs N = zMvF N := by
    unfold zMvF zMvs
    rw [h16, h17]
    apply List.map_congr_left
    intro k hk
    rw [List.mem_range] at hk
    exact zrc_c h1.1.2 (fun p hp => h _ (by omega))
  unfold zPm zFin
  rw [e]
  exact ⟨h3, h4, fun k hk => by rw [h k (by omega)]; exact h2 k hk⟩
theorem zk_gen (a : Int) : ∃ v : Int, -2147483648 ≤ v ∧ v < 2147483648 ∧ Int32.ofInt a = Int32.ofInt v ∧ (v = a ∨ a < -2147483648 ∨ 2147483648 ≤ a) := by
  refine ⟨(Int32.ofInt a).toInt, (z32r _).1, (z32r _).2, (Int32.ofInt_toInt _).symm, ?_⟩
  by_cases h : -2147483648 ≤ a ∧ a < 2147483648
  · exact Or.inl (z32 ⟨h.1, h.2⟩)
  · omega
theorem zFc.now {d : Nat} {FA : List (Nat × Nat)} {CA : List Nat} {FR : List (Nat × Nat)} {CR : List Nat} {M N : zMem} (h : zFc d FA CA FR CR M N) (h2 : zf M 0 2 = some (d + 0)) : zf N 0 2 = some (d + 0) := by
  rw [h.2.2.1]
  exact h2
section ZKX
variable {l : Launch} {k : zMeth} {X : Nat × Nat} {M : zMem} {pc : Nat} {L : List (Option Value)} {S : List Value} {Q : Option Value → zMem → Prop} {a b : Int} {d : Nat}
theorem zk_atGJ (hX : zn M ≤ X.1 ∧ zw M ≤ X.2) {ix q r n : Nat} {x : Int} (hl' : zMLV (zo k) ix m_LongRow_at) (hk : (zsh M q).1 = 8 + 3) (hl : zf M q 0 = some r) (hr : zsh M r = (2, n)) (hn : n ≤ 65536) (hx : zn32 x) (hR : zF m_LongRow_at + 1 ≤ zF k ∧ 8 + (zl m_LongRow_at + 11) + zLo m_LongRow_at ≤ zLo k) (hc8 : (S.map fun v => v.category).sum ≤ 8) (hd : decode (zb k) pc = .ok (.invokevirtual ix, 3))
    (kk : ∀ v : Int, v = zatJ M r n x → -9223372036854775808 ≤ v → v < 9223372036854775808 → zW l k X M (pc + 3) L (.long (Int64.ofInt v) :: S) Q) : zW l k X M pc L (.int (Int32.ofInt x) :: .ref q :: S) Q := by
  refine zk_callV hX [.int (Int32.ofInt x)] S hl' (k_LongRow_at l M q r n hk hl hr hn x hx) rfl rfl hk (by decide) hR hc8 hd ?_
  rintro _ N1_ ⟨rfl, e1_⟩
  rw [e1_]
  have e : -9223372036854775808 ≤ zatJ M r n x ∧ zatJ M r n x < 9223372036854775808 := by
    unfold zatJ
    split
    · exact zg_r M r _
    · omega
  exact kk _ rfl e.1 e.2
theorem zk_stG (hX : zn M ≤ X.1 ∧ zw M ≤ X.2) {ix q o n : Nat} {x v : Int} (ho : o < 38) (hl' : zMLV (zo k) ix m_IntRow_put) (hk : (zsh M q).1 = 2 + 3) (hl : zf M q 0 = some (d + o)) (hr : zsh M (d + o) = (1, n)) (hn : n ≤ 65536) (hx : zn32 x) (hR : zF m_IntRow_put + 1 ≤ zF k ∧ 8 + (zl m_IntRow_put + 11) + zLo m_IntRow_put ≤ zLo k) (hc8 : (S.map fun v => v.category).sum ≤ 8) (hd : decode (zb k) pc = .ok (.invokevirtual ix, 3))
    (kk : ∀ N : zMem, zFc d [] [] [] [o] M N → zW l k X N (pc + 3) L S Q) : zW l k X M pc L (.int (Int32.ofInt v) :: .int (Int32.ofInt x) :: .ref q :: S) Q := by
  refine zk_callV hX [.int (Int32.ofInt x), .int (Int32.ofInt v)] S hl' (k_IntRow_put l M q (d + o) n hk hl hr hn x hx v) rfl rfl hk (by decide) hR hc8 hd ?_
  rintro _ _ ⟨rfl, rfl⟩
  refine kk _ ?_
  unfold zpt
  split
  · exact zFc.sR ho
  · exact zFc.rf
theorem zk_stGJ (hX : zn M ≤ X.1 ∧ zw M ≤ X.2) {ix q o n : Nat} {x v : Int} (ho : o < 38) (hl' : zMLV (zo k) ix m_LongRow_put) (hk : (zsh M q).1 = 8 + 3) (hl : zf M q 0 = some (d + o)) (hr : zsh M (d + o) = (2, n)) (hn : n ≤ 65536) (hx : zn32 x) (hR : zF m_LongRow_put + 1 ≤ zF k ∧ 8 + (zl m_LongRow_put + 11) + zLo m_LongRow_put ≤ zLo k) (hc8 : (S.map fun v => v.category).sum ≤ 8) (hd : decode (zb k) pc = .ok (.invokevirtual ix, 3))
    (kk : ∀ N : zMem, zFc d [] [] [] [o] M N → zW l k X N (pc + 3) L S Q) : zW l k X M pc L (.long (Int64.ofInt v) :: .int (Int32.ofInt x) :: .ref q :: S) Q := by
  refine zk_callV hX [.int (Int32.ofInt x), .long (Int64.ofInt v)] S hl' (k_LongRow_put l M q (d + o) n hk hl hr hn x hx v) rfl rfl hk (by decide) hR hc8 hd ?_
  rintro _ _ ⟨rfl, rfl⟩
  refine kk _ ?_
  unfold zptJ
  split
  · exact zFc.sRJ ho
  · exact zFc.rf
theorem zk_mmin {ix : Nat} (hlk : Cond.methodLink (zR (zo k)) ix Lib.Math.min.name ∈ z_tbl) (hR : 1 ≤ zF k ∧ 30 ≤ zLo k) (hc8 : (S.map fun v => v.category).sum ≤ 8) (hd : decode (zb k) pc = .ok (.invokestatic ix, 3)) (ha : zn32 a) (hb : zn32 b) (kk : ∀ v : Int, ((b < a ∧ v = b) ∨ (a ≤ b ∧ v = a)) → zW l k X M (pc + 3) L (.int (Int32.ofInt v) :: S) Q) : zW l k X M pc L (.int (Int32.ofInt b) :: .int (Int32.ofInt a) :: S) Q := by
  refine zw_mmin hlk hR hc8 hd (fun v hv => ?_)
  rw [hv]
  have e : Int32.ofInt b < Int32.ofInt a ↔ b < a := by rw [Int32.lt_iff_toInt_lt, z32 hb, z32 ha]
  by_cases h : b < a
  · rw [if_pos (e.mpr h)]
    exact kk b (Or.inl ⟨h, rfl⟩)
  · rw [if_neg (fun q => h (e.mp q))]
    exact kk a (Or.inr ⟨by omega, rfl⟩)
theorem zk_mabs {ix : Nat} (hlk : Cond.methodLink (zR (zo k)) ix Lib.Math.abs.name ∈ z_tbl) (hR : 1 ≤ zF k ∧ 30 ≤ zLo k) (hc8 : (S.map fun v => v.category).sum ≤ 8) (hd : decode (zb k) pc = .ok (.invokestatic ix, 3)) (ha : zn32 a) (kk : ∀ v : Int, zn32 v → (-2147483648 < a → (0 ≤ a ∧ v = a) ∨ (a < 0 ∧ v = -a)) → zW l k X M (pc + 3) L (.int (Int32.ofInt v) :: S) Q) : zW l k X M pc L (.int (Int32.ofInt a) :: S) Q := by
  refine zw_mabs hlk hR hc8 hd (fun v hv => ?_)
  have e : (0 : Int32) ≤ Int32.ofInt a ↔ 0 ≤ a := by
    rw [Int32.le_iff_toInt_le, z32 ha]
    exact Iff.rfl
  have e2 : v = Int32.ofInt (if 0 ≤ a then a else 0 - a) := by
    rw [hv]
    by_cases h : 0 ≤ a
    · rw [if_pos (e.mpr h), if_pos h]
    · rw [if_neg (fun q => h (e.mp q)), if_neg h, Int32.ofInt_sub]
      rfl
  have hk := kk v.toInt (z32r _) (fun h => by
    rw [e2]
    by_cases g : 0 ≤ a
    · rw [if_pos g, z32 ha]
      exact Or.inl ⟨g, rfl⟩
    · have h1 := ha.2
      rw [if_neg g, z32 ⟨by omega, by omega⟩]
      exact Or.inr ⟨by omega, by omega⟩)
  rwa [Int32.ofInt_toInt] at hk
end ZKX
theorem zand63 (x : Int) : 0 ≤ zand x 63 ∧ zand x 63 ≤ 63 := by
  have h1 : ((Int32.ofInt x &&& Int32.ofInt 63).toBitVec).toNat ≤ 63 := by
    rw [Int32.toBitVec_and, BitVec.toNat_and]
    exact Nat.le_trans Nat.and_le_right (by decide)
  have h2 : zand x 63 = (((Int32.ofInt x &&& Int32.ofInt 63).toBitVec).toNat : Int) := by
    show ((Int32.ofInt x &&& Int32.ofInt 63).toBitVec).toInt = _
    rw [BitVec.toInt_eq_toNat_of_lt (by omega)]
  omega
set_option maxHeartbeats 4000000 in
theorem u_Integer_bitCountX (l : Launch) (d_ : Nat) (Mz : zMem) (hW : zKW d_ Mz) (a0_ : Int) (ha0_a : -2147483648 ≤ a0_) (ha0_b : a0_ < 2147483648) : zC l m_Integer_bitCount 0 0 [.int (Int32.ofInt a0_)] Mz (zqcI d_ [] [] [] [] Mz (fun v N => 0 ≤ v ∧ v ≤ 63)) := by
  refine zC_of (L0 := [some (.int (Int32.ofInt a0_))]) md_Integer_bitCount (Nat.le_of_ble_eq_true rfl) rfl ?_ zQ0
  have hf : zFc d_ [] [] [] [] Mz Mz := zFc.rf
  refine zw_iload_n (pc := 0) (n := 0) (x := Int32.ofInt a0_) rfl (zdal_p dlB_Integer_bitCount_152 (i := 0) rfl) ?_
  refine zw_iload_n (pc := 1) (n := 0) (x := Int32.ofInt a0_) rfl (zdal_p dlB_Integer_bitCount_152 (i := 1) rfl) ?_
  refine zw_iconst (pc := 2) (v := Int32.ofInt 1) (by decide) (zdal_p dlB_Integer_bitCount_152 (i := 2) rfl) ?_
  refine zr_iushr (pc := 3) (zdal_p dlB_Integer_bitCount_152 (i := 3) rfl) ?_
  refine zr_nmI (fun v1_ hv1_ => ?_)
  obtain ⟨hv1_a, hv1_b⟩ := hv1_
  refine zw_ldcw (pc := 4) (v := Int32.ofInt 1431655765) (by rw [show Int32.ofInt 1431655765 = (1431655765 : Int32) by decide]; exact k_Integer_265) (zdal_p dlB_Integer_bitCount_152 (i := 4) rfl) ?_
  refine zr_iand (pc := 7) (zdal_p dlB_Integer_bitCount_152 (i := 5) rfl) ?_
  have hr2_ := zand_r v1_ 1431655765
  refine zr_nmI (fun v3_ hv3_ => ?_)
  obtain ⟨hv3_a, hv3_b⟩ := hv3_
  refine zr_isub (pc := 8) (zdal_p dlB_Integer_bitCount_152 (i := 6) rfl) ?_
  refine zr_nmI (fun v4_ hv4_ => ?_)
  obtain ⟨hv4_a, hv4_b⟩ := hv4_
  refine zw_istore_n (pc := 9) (i := 0) (L2 := [some (.int (Int32.ofInt v4_))]) rfl (by decide) rfl (zdal_p dlB_Integer_bitCount_152 (i := 7) rfl) ?_
  refine zw_iload_n (pc := 10) (n := 0) (x := Int32.ofInt v4_) rfl (zdal_p dlB_Integer_bitCount_152 (i := 8) rfl) ?_
  refine zw_ldcw (pc := 11) (v := Int32.ofInt 858993459) (by rw [show Int32.ofInt 858993459 = (858993459 : Int32) by decide]; exact k_Integer_266) (zdal_p dlB_Integer_bitCount_152 (i := 9) rfl) ?_
  refine zr_iand (pc := 14) (zdal_p dlB_Integer_bitCount_152 (i := 10) rfl) ?_
  have hr5_ := zand_r v4_ 858993459
  refine zr_nmI (fun v6_ hv6_ => ?_)
  obtain ⟨hv6_a, hv6_b⟩ := hv6_
  refine zw_iload_n (pc := 15) (n := 0) (x := Int32.ofInt v4_) rfl (zdal_p dlB_Integer_bitCount_152 (i := 11) rfl) ?_
  refine zw_iconst (pc := 16) (v := Int32.ofInt 2) (by decide) (zdal_p dlB_Integer_bitCount_152 (i := 12) rfl) ?_
  refine zr_iushr (pc := 17) (zdal_p dlB_Integer_bitCount_152 (i := 13) rfl) ?_
  refine zr_nmI (fun v7_ hv7_ => ?_)
  obtain ⟨hv7_a, hv7_b⟩ := hv7_
  refine zw_ldcw (pc := 18) (v := Int32.ofInt 858993459) (by rw [show Int32.ofInt 858993459 = (858993459 : Int32) by decide]; exact k_Integer_266) (zdal_p dlB_Integer_bitCount_152 (i := 14) rfl) ?_
  refine zr_iand (pc := 21) (zdal_p dlB_Integer_bitCount_152 (i := 15) rfl) ?_
  have hr8_ := zand_r v7_ 858993459
  refine zr_nmI (fun v9_ hv9_ => ?_)
  obtain ⟨hv9_a, hv9_b⟩ := hv9_
  refine zr_iadd (pc := 22) (zdal_p dlB_Integer_bitCount_152 (i := 16) rfl) ?_
  refine zr_nmI (fun v10_ hv10_ => ?_)
  obtain ⟨hv10_a, hv10_b⟩ := hv10_
  refine zw_istore_n (pc := 23) (i := 0) (L2 := [some (.int (Int32.ofInt v10_))]) rfl (by decide) rfl (zdal_p dlB_Integer_bitCount_152 (i := 17) rfl) ?_
  refine zw_iload_n (pc := 24) (n := 0) (x := Int32.ofInt v10_) rfl (zdal_p dlB_Integer_bitCount_152 (i := 18) rfl) ?_
  refine zw_iload_n (pc := 25) (n := 0) (x := Int32.ofInt v10_) rfl (zdal_p dlB_Integer_bitCount_152 (i := 19) rfl) ?_
  refine zw_iconst (pc := 26) (v := Int32.ofInt 4) (by decide) (zdal_p dlB_Integer_bitCount_152 (i := 20) rfl) ?_
  refine zr_iushr (pc := 27) (zdal_p dlB_Integer_bitCount_152 (i := 21) rfl) ?_
  refine zr_nmI (fun v11_ hv11_ => ?_)
  obtain ⟨hv11_a, hv11_b⟩ := hv11_
  refine zr_iadd (pc := 28) (zdal_p dlB_Integer_bitCount_152 (i := 22) rfl) ?_
  refine zr_nmI (fun v12_ hv12_ => ?_)
  obtain ⟨hv12_a, hv12_b⟩ := hv12_
  refine zw_ldcw (pc := 29) (v := Int32.ofInt 252645135) (by rw [show Int32.ofInt 252645135 = (252645135 : Int32) by decide]; exact k_Integer_267) (zdal_p dlB_Integer_bitCount_152 (i := 23) rfl) ?_
  refine zr_iand (pc := 32) (zdal_p dlB_Integer_bitCount_153 (i := 0) rfl) ?_
  have hr13_ := zand_r v12_ 252645135
  refine zr_nmI (fun v14_ hv14_ => ?_)
  obtain ⟨hv14_a, hv14_b⟩ := hv14_
  refine zw_istore_n (pc := 33) (i := 0) (L2 := [some (.int (Int32.ofInt v14_))]) rfl (by decide) rfl (zdal_p dlB_Integer_bitCount_153 (i := 1) rfl) ?_
  refine zw_iload_n (pc := 34) (n := 0) (x := Int32.ofInt v14_) rfl (zdal_p dlB_Integer_bitCount_153 (i := 2) rfl) ?_
  refine zw_iload_n (pc := 35) (n := 0) (x := Int32.ofInt v14_) rfl (zdal_p dlB_Integer_bitCount_153 (i := 3) rfl) ?_
  refine zw_bipush (pc := 36) (v := Int32.ofInt 8) (by decide) (zdal_p dlB_Integer_bitCount_153 (i := 4) rfl) ?_
  refine zr_iushr (pc := 38) (zdal_p dlB_Integer_bitCount_153 (i := 5) rfl) ?_
  refine zr_nmI (fun v15_ hv15_ => ?_)
  obtain ⟨hv15_a, hv15_b⟩ := hv15_
  refine zr_iadd (pc := 39) (zdal_p dlB_Integer_bitCount_153 (i := 6) rfl) ?_
  refine zr_nmI (fun v16_ hv16_ => ?_)
  obtain ⟨hv16_a, hv16_b⟩ := hv16_
  refine zw_istore_n (pc := 40) (i := 0) (L2 := [some (.int (Int32.ofInt v16_))]) rfl (by decide) rfl (zdal_p dlB_Integer_bitCount_153 (i := 7) rfl) ?_
  refine zw_iload_n (pc := 41) (n := 0) (x := Int32.ofInt v16_) rfl (zdal_p dlB_Integer_bitCount_153 (i := 8) rfl) ?_
  refine zw_iload_n (pc := 42) (n := 0) (x := Int32.ofInt v16_) rfl (zdal_p dlB_Integer_bitCount_153 (i := 9) rfl) ?_
  refine zw_bipush (pc := 43) (v := Int32.ofInt 16) (by decide) (zdal_p dlB_Integer_bitCount_153 (i := 10) rfl) ?_
  refine zr_iushr (pc := 45) (zdal_p dlB_Integer_bitCount_153 (i := 11) rfl) ?_
  refine zr_nmI (fun v17_ hv17_ => ?_)
  obtain ⟨hv17_a, hv17_b⟩ := hv17_
  refine zr_iadd (pc := 46) (zdal_p dlB_Integer_bitCount_153 (i := 12) rfl) ?_
  refine zr_nmI (fun v18_ hv18_ => ?_)
  obtain ⟨hv18_a, hv18_b⟩ := hv18_
  refine zw_istore_n (pc := 47) (i := 0) (L2 := [some (.int (Int32.ofInt v18_))]) rfl (by decide) rfl (zdal_p dlB_Integer_bitCount_153 (i := 13) rfl) ?_
  refine zw_iload_n (pc := 48) (n := 0) (x := Int32.ofInt v18_) rfl (zdal_p dlB_Integer_bitCount_153 (i := 14) rfl) ?_
  refine zw_bipush (pc := 49) (v := Int32.ofInt 63) (by decide) (zdal_p dlB_Integer_bitCount_153 (i := 15) rfl) ?_
  refine zr_iand (pc := 51) (zdal_p dlB_Integer_bitCount_153 (i := 16) rfl) ?_
  have hr19_ := zand_r v18_ 63
  refine zk_nmI (fun v20_ hv20_ hv20_e => ?_)
  obtain ⟨hv20_a, hv20_b⟩ := hv20_
  have h63_ : 0 ≤ v20_ ∧ v20_ ≤ 63 := by rw [hv20_e ⟨(zand_r _ _).1, (zand_r _ _).2⟩]; exact zand63 _
  exact zk_iret (pc := 52) (ty := .int) rfl rfl ⟨by omega, by omega⟩ hf ⟨(show 0 ≤ v20_ by first | with_reducible assumption | assumption | omega), (show v20_ ≤ 63 by first | with_reducible assumption | assumption | omega)⟩ (zdal_p dlB_Integer_bitCount_153 (i := 17) rfl)
set_option maxHeartbeats 4000000 in
theorem u_T_placeInX (l : Launch) (d_ : Nat) (Mz : zMem) (hW : zKW d_ Mz) (a0_ : Int) (ha0_a : -2147483648 ≤ a0_) (ha0_b : a0_ < 2147483648) (a1_ : Int) (ha1_a : -2147483648 ≤ a1_) (ha1_b : a1_ < 2147483648) : zC l m_T_placeIn 0 0 [.int (Int32.ofInt a0_), .int (Int32.ofInt a1_)] Mz (zqcI d_ [] [] [] [] Mz (fun v N => True)) := by
  refine zC_of (L0 := [some (.int (Int32.ofInt a0_)), some (.int (Int32.ofInt a1_))]) md_T_placeIn (Nat.le_of_ble_eq_true rfl) rfl ?_ zQ0
  have hf : zFc d_ [] [] [] [] Mz Mz := zFc.rf
  refine zw_iload_n (pc := 0) (n := 0) (x := Int32.ofInt a0_) rfl (zdal_p dlA_T_placeIn_25 (i := 0) rfl) ?_
  refine zw_iconst (pc := 1) (v := Int32.ofInt 3) (by decide) (zdal_p dlA_T_placeIn_25 (i := 1) rfl) ?_
  refine zw_iconst (pc := 2) (v := Int32.ofInt 5) (by decide) (zdal_p dlA_T_placeIn_25 (i := 2) rfl) ?_
  refine zw_iload_n (pc := 3) (n := 1) (x := Int32.ofInt a1_) rfl (zdal_p dlA_T_placeIn_25 (i := 3) rfl) ?_
  refine zr_isub (pc := 4) (zdal_p dlA_T_placeIn_25 (i := 4) rfl) ?_
  refine zr_nmI (fun v1_ hv1_ => ?_)
  obtain ⟨hv1_a, hv1_b⟩ := hv1_
  refine zr_imul (pc := 5) (zdal_p dlA_T_placeIn_25 (i := 5) rfl) ?_
  refine zr_nmI (fun v2_ hv2_ => ?_)
  obtain ⟨hv2_a, hv2_b⟩ := hv2_
  refine zr_ishr (pc := 6) (zdal_p dlA_T_placeIn_25 (i := 6) rfl) ?_
  have hr3_ := zshr_r a0_ v2_
  refine zr_nmI (fun v4_ hv4_ => ?_)
  obtain ⟨hv4_a, hv4_b⟩ := hv4_
  refine zw_bipush (pc := 7) (v := Int32.ofInt 7) (by decide) (zdal_p dlA_T_placeIn_25 (i := 7) rfl) ?_
  refine zr_iand (pc := 9) (zdal_p dlA_T_placeIn_25 (i := 8) rfl) ?_
  have hr5_ := zand_r v4_ 7
  refine zr_nmI (fun v6_ hv6_ => ?_)
  obtain ⟨hv6_a, hv6_b⟩ := hv6_
  exact zk_iret (pc := 10) (ty := .int) rfl rfl ⟨by omega, by omega⟩ hf trivial (zdal_p dlA_T_placeIn_25 (i := 9) rfl)
set_option maxHeartbeats 4000000 in
theorem u_T_isInX (l : Launch) (d_ : Nat) (Mz : zMem) (hW : zKW d_ Mz) (a0_ : Int) (ha0_a : -2147483648 ≤ a0_) (ha0_b : a0_ < 2147483648) (a1_ : Int) (ha1_a : -2147483648 ≤ a1_) (ha1_b : a1_ < 2147483648) : zC l m_T_isIn 0 0 [.int (Int32.ofInt a0_), .int (Int32.ofInt a1_)] Mz (zqcI d_ [] [] [] [] Mz (fun v N => ((v = 0 ∨ v = 1)))) := by
  refine zC_of (L0 := [some (.int (Int32.ofInt a0_)), some (.int (Int32.ofInt a1_))]) md_T_isIn (Nat.le_of_ble_eq_true rfl) rfl ?_ zQ0
  have hf : zFc d_ [] [] [] [] Mz Mz := zFc.rf
  refine zw_iload_n (pc := 0) (n := 0) (x := Int32.ofInt a0_) rfl (zdal_p dlA_T_isIn_35 (i := 0) rfl) ?_
  refine zw_iload_n (pc := 1) (n := 1) (x := Int32.ofInt a1_) rfl (zdal_p dlA_T_isIn_35 (i := 1) rfl) ?_
  refine zr_ishr (pc := 2) (zdal_p dlA_T_isIn_35 (i := 2) rfl) ?_
  have hr1_ := zshr_r a0_ a1_
  refine zr_nmI (fun v2_ hv2_ => ?_)
  obtain ⟨hv2_a, hv2_b⟩ := hv2_
  refine zw_iconst (pc := 3) (v := Int32.ofInt 1) (by decide) (zdal_p dlA_T_isIn_35 (i := 3) rfl) ?_
  refine zr_iand (pc := 4) (zdal_p dlA_T_isIn_35 (i := 4) rfl) ?_
  have hr3_ := zand_r v2_ 1
  refine zr_nmI (fun v4_ hv4_ => ?_)
  obtain ⟨hv4_a, hv4_b⟩ := hv4_
  refine zr_if_eq (pc := 5) (tgt := 12) ⟨hv4_a, hv4_b⟩ (by decide) (zdal_p dlA_T_isIn_35 (i := 5) rfl) (fun hc_5 => ?_) (fun hc_5 => ?_)
  · skip
    refine zw_iconst (pc := 12) (v := Int32.ofInt 0) (by decide) (zdal_p dlA_T_isIn_35 (i := 8) rfl) ?_
    exact zk_iret (pc := 13) (ty := .boolean) rfl (z_narB (by omega)) ⟨by omega, by omega⟩ hf (show (((0 : Int)) = 0 ∨ ((0 : Int)) = 1) by first | with_reducible assumption | assumption | omega) (zdal_p dlA_T_isIn_35 (i := 9) rfl)
  · skip
    refine zw_iconst (pc := 8) (v := Int32.ofInt 1) (by decide) (zdal_p dlA_T_isIn_35 (i := 6) rfl) ?_
    refine zw_goto (pc := 9) (tgt := 13) (by decide) (zdal_p dlA_T_isIn_35 (i := 7) rfl) ?_
    exact zk_iret (pc := 13) (ty := .boolean) rfl (z_narB (by omega)) ⟨by omega, by omega⟩ hf (show (((1 : Int)) = 0 ∨ ((1 : Int)) = 1) by first | with_reducible assumption | assumption | omega) (zdal_p dlA_T_isIn_35 (i := 9) rfl)
set_option maxHeartbeats 4000000 in
theorem u_T_isPartX (l : Launch) (d_ : Nat) (Mz : zMem) (hW : zKW d_ Mz) (a0_ : Int) (ha0_a : -2147483648 ≤ a0_) (ha0_b : a0_ < 2147483648) (a1_ : Int) (ha1_a : -2147483648 ≤ a1_) (ha1_b : a1_ < 2147483648) : zC l m_T_isPart 0 0 [.int (Int32.ofInt a0_), .int (Int32.ofInt a1_)] Mz (zqcI d_ [] [] [] [] Mz (fun v N => ((v = 0 ∨ v = 1)))) := by
  refine zC_of (L0 := [some (.int (Int32.ofInt a0_)), some (.int (Int32.ofInt a1_))]) md_T_isPart (Nat.le_of_ble_eq_true rfl) rfl ?_ zQ0
  have hf : zFc d_ [] [] [] [] Mz Mz := zFc.rf
  refine zw_iload_n (pc := 0) (n := 0) (x := Int32.ofInt a0_) rfl (zdal_p dlA_T_isPart_58 (i := 0) rfl) ?_
  refine zw_iload_n (pc := 1) (n := 1) (x := Int32.ofInt a1_) rfl (zdal_p dlA_T_isPart_58 (i := 1) rfl) ?_
  refine zw_iconst (pc := 2) (v := Int32.ofInt (-1)) (by decide) (zdal_p dlA_T_isPart_58 (i := 2) rfl) ?_
  refine zr_ixor (pc := 3) (zdal_p dlA_T_isPart_58 (i := 3) rfl) ?_
  have hr1_ := zxor_r a1_ ((-1))
  refine zr_nmI (fun v2_ hv2_ => ?_)
  obtain ⟨hv2_a, hv2_b⟩ := hv2_
  refine zr_iand (pc := 4) (zdal_p dlA_T_isPart_58 (i := 4) rfl) ?_
  have hr3_ := zand_r a0_ v2_
  refine zr_nmI (fun v4_ hv4_ => ?_)
  obtain ⟨hv4_a, hv4_b⟩ := hv4_
  refine zr_if_ne (pc := 5) (tgt := 12) ⟨hv4_a, hv4_b⟩ (by decide) (zdal_p dlA_T_isPart_58 (i := 5) rfl) (fun hc_5 => ?_) (fun hc_5 => ?_)
  · skip
    refine zw_iconst (pc := 12) (v := Int32.ofInt 0) (by decide) (zdal_p dlA_T_isPart_58 (i := 8) rfl) ?_
    exact zk_iret (pc := 13) (ty := .boolean) rfl (z_narB (by omega)) ⟨by omega, by omega⟩ hf (show (((0 : Int)) = 0 ∨ ((0 : Int)) = 1) by first | with_reducible assumption | assumption | omega) (zdal_p dlA_T_isPart_58 (i := 9) rfl)
  · skip
    refine zw_iconst (pc := 8) (v := Int32.ofInt 1) (by decide) (zdal_p dlA_T_isPart_58 (i := 6) rfl) ?_
    refine zw_goto (pc := 9) (tgt := 13) (by decide) (zdal_p dlA_T_isPart_58 (i := 7) rfl) ?_
    exact zk_iret (pc := 13) (ty := .boolean) rfl (z_narB (by omega)) ⟨by omega, by omega⟩ hf (show (((1 : Int)) = 0 ∨ ((1 : Int)) = 1) by first | with_reducible assumption | assumption | omega) (zdal_p dlA_T_isPart_58 (i := 9) rfl)
set_option maxHeartbeats 4000000 in
theorem u_T_faultX (l : Launch) (d_ : Nat) (Mz : zMem) (hW : zKW d_ Mz) (hnow : zf Mz 0 2 = some (d_ + 0)) (a0_ : Int) (ha0_a : -2147483648 ≤ a0_) (ha0_b : a0_ < 2147483648) : zC l m_T_fault 0 0 [.ref 0, .int (Int32.ofInt a0_)] Mz (zqcI d_ [] [] [] [] Mz (fun v N => True)) := by
  refine zC_of (L0 := [some (.ref 0), some (.int (Int32.ofInt a0_))]) md_T_fault (Nat.le_of_ble_eq_true rfl) rfl ?_ zQ0
  have hf : zFc d_ [] [] [] [] Mz Mz := zFc.rf
  refine zw_iload_n (pc := 0) (n := 1) (x := Int32.ofInt a0_) rfl (zdal_p dlA_T_fault_163 (i := 0) rfl) ?_
  refine zr_if_ne (pc := 1) (tgt := 12) ⟨ha0_a, ha0_b⟩ (by decide) (zdal_p dlA_T_fault_163 (i := 1) rfl) (fun hc_1 => ?_) (fun hc_1 => ?_)
  · skip
    refine zw_iload_n (pc := 12) (n := 1) (x := Int32.ofInt a0_) rfl (zdal_p dlA_T_fault_163 (i := 6) rfl) ?_
    refine zw_iconst (pc := 13) (v := Int32.ofInt 1) (by decide) (zdal_p dlA_T_fault_163 (i := 7) rfl) ?_
    refine zr_icmp_ne (pc := 14) (tgt := 27) ⟨ha0_a, ha0_b⟩ ⟨(by decide), (by decide)⟩ (by decide) (zdal_p dlA_T_fault_163 (i := 8) rfl) (fun hc_14 => ?_) (fun hc_14 => ?_)
    · skip
      refine zw_iconst (pc := 27) (v := Int32.ofInt (-1)) (by decide) (zdal_p dlA_T_fault_163 (i := 13) rfl) ?_
      exact zk_iret (pc := 28) (ty := .int) rfl rfl ⟨by omega, by omega⟩ hf trivial (zdal_p dlA_T_fault_163 (i := 14) rfl)
    · skip
      refine zw_aload_n (pc := 17) (n := 0) (x := 0) rfl (zdal_p dlA_T_fault_163 (i := 9) rfl) ?_
      refine zw_getF (pc := 18) f_T_21 rfl ((hf.w hW).ka (o := 0) (by decide)) ((hf.w hW).la (o := 0) (s := 1) (r := 4) (by decide)) (zdal_p dlA_T_fault_163 (i := 10) rfl) ?_
      refine zk_getI (pc := 21) f_T_73 rfl ((hf.w hW).ka (o := 4) (by decide)) (zdal_p dlA_T_fault_163 (i := 11) rfl) ?_
      have hr1_ := ze_r Mz 4 3
      refine zw_goto (pc := 24) (tgt := 28) (by decide) (zdal_p dlA_T_fault_163 (i := 12) rfl) ?_
      exact zk_iret (pc := 28) (ty := .int) rfl rfl ⟨by omega, by omega⟩ hf trivial (zdal_p dlA_T_fault_163 (i := 14) rfl)
  · skip
    refine zw_aload_n (pc := 4) (n := 0) (x := 0) rfl (zdal_p dlA_T_fault_163 (i := 2) rfl) ?_
    refine zw_getF (pc := 5) f_T_21 rfl ((hf.w hW).ka (o := 0) (by decide)) ((hf.w hW).la (o := 0) (s := 1) (r := 4) (by decide)) (zdal_p dlA_T_fault_163 (i := 3) rfl) ?_
    refine zk_getI (pc := 8) f_T_70 rfl ((hf.w hW).ka (o := 4) (by decide)) (zdal_p dlA_T_fault_163 (i := 4) rfl) ?_
    have hr2_ := ze_r Mz 4 2
    exact zk_iret (pc := 11) (ty := .int) rfl rfl ⟨by omega, by omega⟩ hf trivial (zdal_p dlA_T_fault_163 (i := 5) rfl)
set_option maxHeartbeats 4000000 in
theorem u_Group_everyoneX (l : Launch) (d_ : Nat) (Mz : zMem) (hW : zKW d_ Mz) : zC l m_Group_everyone 0 0 [.ref (d_ + 1)] Mz (zqcI d_ [] [] [] [] Mz (fun v N => True)) := by
  refine zC_of (L0 := [some (.ref (d_ + 1))]) md_Group_everyone (Nat.le_of_ble_eq_true rfl) rfl ?_ zQ0
  have hf : zFc d_ [] [] [] [] Mz Mz := zFc.rf
  refine zw_iconst (pc := 0) (v := Int32.ofInt 1) (by decide) (zdal_p dlA_Group_everyone_167 (i := 0) rfl) ?_
  refine zw_aload_n (pc := 1) (n := 0) (x := (d_ + 1)) rfl (zdal_p dlA_Group_everyone_167 (i := 1) rfl) ?_
  refine zk_getI (pc := 2) f_Group_39 rfl ((hf.w hW).kr (o := 1) (by decide)) (zdal_p dlA_Group_everyone_167 (i := 2) rfl) ?_
  have hr1_ := ze_r Mz (d_ + 1) 7
  refine zr_ishl (pc := 5) (zdal_p dlA_Group_everyone_167 (i := 3) rfl) ?_
  have hr2_ := zshl_r 1 (ze Mz (d_ + 1) 7)
  refine zr_nmI (fun v3_ hv3_ => ?_)
  obtain ⟨hv3_a, hv3_b⟩ := hv3_
  refine zw_iconst (pc := 6) (v := Int32.ofInt 1) (by decide) (zdal_p dlA_Group_everyone_167 (i := 4) rfl) ?_
  refine zr_isub (pc := 7) (zdal_p dlA_Group_everyone_167 (i := 5) rfl) ?_
  refine zr_nmI (fun v4_ hv4_ => ?_)
  obtain ⟨hv4_a, hv4_b⟩ := hv4_
  exact zk_iret (pc := 8) (ty := .int) rfl rfl ⟨by omega, by omega⟩ hf trivial (zdal_p dlA_Group_everyone_167 (i := 6) rfl)
set_option maxHeartbeats 4000000 in
theorem u_Group_bothX (l : Launch) (d_ : Nat) (Mz : zMem) (hW : zKW d_ Mz) (a0_ : Int) (ha0_a : -2147483648 ≤ a0_) (ha0_b : a0_ < 2147483648) (a1_ : Int) (ha1_a : -2147483648 ≤ a1_) (ha1_b : a1_ < 2147483648) : zC l m_Group_both 0 0 [.ref (d_ + 1), .int (Int32.ofInt a0_), .int (Int32.ofInt a1_)] Mz (zqcI d_ [] [] [] [] Mz (fun v N => True)) := by
  refine zC_of (L0 := [some (.ref (d_ + 1)), some (.int (Int32.ofInt a0_)), some (.int (Int32.ofInt a1_))]) md_Group_both (Nat.le_of_ble_eq_true rfl) rfl ?_ zQ0
  have hf : zFc d_ [] [] [] [] Mz Mz := zFc.rf
  refine zw_aload_n (pc := 0) (n := 0) (x := (d_ + 1)) rfl (zdal_p dlA_Group_both_39 (i := 0) rfl) ?_
  refine zw_getF (pc := 1) f_Group_23 rfl ((hf.w hW).kr (o := 1) (by decide)) ((hf.w hW).lr (o := 1) (s := 2) (r := 6) (by decide)) (zdal_p dlA_Group_both_39 (i := 1) rfl) ?_
  refine zw_iload_n (pc := 4) (n := 1) (x := Int32.ofInt a0_) rfl (zdal_p dlA_Group_both_39 (i := 2) rfl) ?_
  refine zw_bipush (pc := 5) (v := Int32.ofInt 24) (by decide) (zdal_p dlA_Group_both_39 (i := 3) rfl) ?_
  refine zr_imul (pc := 7) (zdal_p dlA_Group_both_39 (i := 4) rfl) ?_
  refine zr_nmI (fun v1_ hv1_ => ?_)
  obtain ⟨hv1_a, hv1_b⟩ := hv1_
  refine zw_iload_n (pc := 8) (n := 2) (x := Int32.ofInt a1_) rfl (zdal_p dlA_Group_both_39 (i := 5) rfl) ?_
  refine zr_iadd (pc := 9) (zdal_p dlA_Group_both_39 (i := 6) rfl) ?_
  refine zr_nmI (fun v2_ hv2_ => ?_)
  obtain ⟨hv2_a, hv2_b⟩ := hv2_
  refine zk_atG hf.x (pc := 10) l_Group_54 ((hf.w hW).kr (o := 6) (by decide)) ((hf.w hW).lr (o := 6) (s := 0) (r := 7) (by decide)) ((hf.w hW).rr (o := 7) (t := 1) (n := 576) (by decide)) (by decide) ⟨by omega, by omega⟩ (by decide) (Nat.le_of_ble_eq_true rfl) (zdal_p dlA_Group_both_39 (i := 7) rfl) (fun v3_ hv3_ hv3_a hv3_b => ?_)
  clear hv3_
  exact zk_iret (pc := 13) (ty := .int) rfl rfl ⟨by omega, by omega⟩ hf trivial (zdal_p dlA_Group_both_39 (i := 8) rfl)
set_option maxHeartbeats 4000000 in
theorem u_Group_commutingWithX (l : Launch) (d_ : Nat) (Mz : zMem) (hW : zKW d_ Mz) (a0_ : Int) (ha0_a : -2147483648 ≤ a0_) (ha0_b : a0_ < 2147483648) (a1_ : Int) (ha1_a : -2147483648 ≤ a1_) (ha1_b : a1_ < 2147483648) : zC l m_Group_commutingWith 0 0 [.ref (d_ + 1), .int (Int32.ofInt a0_), .int (Int32.ofInt a1_)] Mz (zqcI d_ [] [] [] [] Mz (fun v N => True)) := by
  refine zC_of (L0 := [some (.ref (d_ + 1)), some (.int (Int32.ofInt a0_)), some (.int (Int32.ofInt a1_)), none, none]) md_Group_commutingWith (Nat.le_of_ble_eq_true rfl) rfl ?_ zQ0
  have hf : zFc d_ [] [] [] [] Mz Mz := zFc.rf
  refine zw_iconst (pc := 0) (v := Int32.ofInt 0) (by decide) (zdal_p dlB_Group_commutingWith_2 (i := 0) rfl) ?_
  refine zw_istore_n (pc := 1) (i := 3) (L2 := [some (.ref (d_ + 1)), some (.int (Int32.ofInt a0_)), some (.int (Int32.ofInt a1_)), some (.int (Int32.ofInt 0)), none]) rfl (by decide) rfl (zdal_p dlB_Group_commutingWith_2 (i := 1) rfl) ?_
  refine zw_iconst (pc := 2) (v := Int32.ofInt 0) (by decide) (zdal_p dlB_Group_commutingWith_2 (i := 2) rfl) ?_
  refine zw_istore (pc := 3) (i := 4) (L2 := [some (.ref (d_ + 1)), some (.int (Int32.ofInt a0_)), some (.int (Int32.ofInt a1_)), some (.int (Int32.ofInt 0)), some (.int (Int32.ofInt 0))]) (by decide) rfl (zdal_p dlB_Group_commutingWith_2 (i := 3) rfl) ?_
  have lp_5 : ∀ (n : Nat) (u1_ : Int) (hu1_a : -2147483648 ≤ u1_) (hu1_b : u1_ < 2147483648) (u2_ : Int) (hu2_a : -2147483648 ≤ u2_) (hu2_b : u2_ < 2147483648) (i3_ : 0 ≤ u2_), (ze Mz (d_ + 1) 7 - u2_).toNat < n → zW l m_Group_commutingWith (zn Mz + 0, zw Mz + 0) Mz 5 [some (.ref (d_ + 1)), some (.int (Int32.ofInt a0_)), some (.int (Int32.ofInt a1_)), some (.int (Int32.ofInt u1_)), some (.int (Int32.ofInt u2_))] [] (zqcI d_ [] [] [] [] Mz (fun v N => True)) := by
    intro n
    induction n with
    | zero =>
      intro u1_ hu1_a hu1_b u2_ hu2_a hu2_b i3_ h0
      exact absurd h0 (Nat.not_lt_zero _)
    | succ n ih_5 =>
      intro u1_ hu1_a hu1_b u2_ hu2_a hu2_b i3_ hlt_5
      refine zw_iload (pc := 5) (i := 4) (x := Int32.ofInt u2_) rfl (zdal_p dlB_Group_commutingWith_2 (i := 4) rfl) ?_
      refine zw_aload_n (pc := 7) (n := 0) (x := (d_ + 1)) rfl (zdal_p dlB_Group_commutingWith_2 (i := 5) rfl) ?_
      refine zk_getI (pc := 8) f_Group_39 rfl ((hf.w hW).kr (o := 1) (by decide)) (zdal_p dlB_Group_commutingWith_2 (i := 6) rfl) ?_
      have hr4_ := ze_r Mz (d_ + 1) 7
      refine zr_icmp_ge (pc := 11) (tgt := 53) ⟨hu2_a, hu2_b⟩ ⟨(ze_r Mz (d_ + 1) 7).1, (ze_r Mz (d_ + 1) 7).2⟩ (by decide) (zdal_p dlB_Group_commutingWith_2 (i := 7) rfl) (fun hc_11 => ?_) (fun hc_11 => ?_)
      · skip
        refine zw_iload_n (pc := 53) (n := 3) (x := Int32.ofInt u1_) rfl (zdal_p dlB_Group_commutingWith_3 (i := 5) rfl) ?_
        exact zk_iret (pc := 54) (ty := .int) rfl rfl ⟨by omega, by omega⟩ hf trivial (zdal_p dlB_Group_commutingWith_3 (i := 6) rfl)
      · skip
        refine zw_iload_n (pc := 14) (n := 2) (x := Int32.ofInt a1_) rfl (zdal_p dlB_Group_commutingWith_2 (i := 8) rfl) ?_
        refine zw_iload (pc := 15) (i := 4) (x := Int32.ofInt u2_) rfl (zdal_p dlB_Group_commutingWith_2 (i := 9) rfl) ?_
        refine zr_callS hf.x (pc := 17) [.int (Int32.ofInt a1_), .int (Int32.ofInt u2_)] [] l_Group_73 (u_T_isInX l d_ Mz (hf.w hW) a1_ ha1_a ha1_b u2_ hu2_a hu2_b) rfl rfl (by decide) (Nat.le_of_ble_eq_true rfl) (zdal_p dlB_Group_commutingWith_2 (i := 10) rfl) ?_
        rintro _ N5_ ⟨v6_, rfl, ⟨hv6_a, hv6_b⟩, hsN5_, hp0_N5_⟩
        obtain rfl := hsN5_.eq.symm
        replace hp0_N5_ : (v6_ = 0 ∨ v6_ = 1) := hp0_N5_
        show zW l m_Group_commutingWith (zn Mz + 0, zw Mz + 0) Mz 20 [some (.ref (d_ + 1)), some (.int (Int32.ofInt a0_)), some (.int (Int32.ofInt a1_)), some (.int (Int32.ofInt u1_)), some (.int (Int32.ofInt u2_))] [.int (Int32.ofInt v6_)] _
        refine zr_if_eq (pc := 20) (tgt := 47) ⟨hv6_a, hv6_b⟩ (by decide) (zdal_p dlB_Group_commutingWith_2 (i := 11) rfl) (fun hc_20 => ?_) (fun hc_20 => ?_)
        · skip
          refine zr_iinc (pc := 47) (i := 4) (a := u2_) (n := 1) (L2 := [some (.ref (d_ + 1)), some (.int (Int32.ofInt a0_)), some (.int (Int32.ofInt a1_)), some (.int (Int32.ofInt u1_)), some (.int (Int32.ofInt (u2_ + 1)))]) rfl (by decide) rfl d_Group_commutingWith_47 ?_
          obtain ⟨v7_, hv7_a, hv7_b, hv7_e, hv7_d⟩ := zk_gen (u2_ + 1)
          rw [hv7_e]
          refine zw_goto (pc := 50) (tgt := 5) (by decide) d_Group_commutingWith_50 ?_
          exact ih_5 u1_ hu1_a hu1_b v7_ hv7_a hv7_b (show 0 ≤ v7_ by first | with_reducible assumption | assumption | omega) (by omega)
        · skip
          refine zw_aload_n (pc := 23) (n := 0) (x := (d_ + 1)) rfl (zdal_p dlB_Group_commutingWith_2 (i := 12) rfl) ?_
          refine zw_iload_n (pc := 24) (n := 1) (x := Int32.ofInt a0_) rfl (zdal_p dlB_Group_commutingWith_2 (i := 13) rfl) ?_
          refine zw_iload (pc := 25) (i := 4) (x := Int32.ofInt u2_) rfl (zdal_p dlB_Group_commutingWith_2 (i := 14) rfl) ?_
          refine zk_callV hf.x (pc := 27) [.int (Int32.ofInt a0_), .int (Int32.ofInt u2_)] [] l_Group_67 (u_Group_bothX l d_ Mz (hf.w hW) a0_ ha0_a ha0_b u2_ hu2_a hu2_b) rfl rfl ((hf.w hW).kr (o := 1) (by decide)) (by decide) (by decide) (Nat.le_of_ble_eq_true rfl) (zdal_p dlB_Group_commutingWith_2 (i := 15) rfl) ?_
          rintro _ N8_ ⟨v9_, rfl, ⟨hv9_a, hv9_b⟩, hsN8_, -⟩
          obtain rfl := hsN8_.eq.symm
          show zW l m_Group_commutingWith (zn Mz + 0, zw Mz + 0) Mz 30 [some (.ref (d_ + 1)), some (.int (Int32.ofInt a0_)), some (.int (Int32.ofInt a1_)), some (.int (Int32.ofInt u1_)), some (.int (Int32.ofInt u2_))] [.int (Int32.ofInt v9_)] _
          refine zw_aload_n (pc := 30) (n := 0) (x := (d_ + 1)) rfl (zdal_p dlB_Group_commutingWith_2 (i := 16) rfl) ?_
          refine zw_iload (pc := 31) (i := 4) (x := Int32.ofInt u2_) rfl (zdal_p dlB_Group_commutingWith_2 (i := 17) rfl) ?_
          refine zw_iload_n (pc := 33) (n := 1) (x := Int32.ofInt a0_) rfl (zdal_p dlB_Group_commutingWith_2 (i := 18) rfl) ?_
          refine zk_callV hf.x (pc := 34) [.int (Int32.ofInt u2_), .int (Int32.ofInt a0_)] [.int (Int32.ofInt v9_)] l_Group_67 (u_Group_bothX l d_ Mz (hf.w hW) u2_ hu2_a hu2_b a0_ ha0_a ha0_b) rfl rfl ((hf.w hW).kr (o := 1) (by decide)) (by decide) (by decide) (Nat.le_of_ble_eq_true rfl) (zdal_p dlB_Group_commutingWith_2 (i := 19) rfl) ?_
          rintro _ N10_ ⟨v11_, rfl, ⟨hv11_a, hv11_b⟩, hsN10_, -⟩
          obtain rfl := hsN10_.eq.symm
          show zW l m_Group_commutingWith (zn Mz + 0, zw Mz + 0) Mz 37 [some (.ref (d_ + 1)), some (.int (Int32.ofInt a0_)), some (.int (Int32.ofInt a1_)), some (.int (Int32.ofInt u1_)), some (.int (Int32.ofInt u2_))] [.int (Int32.ofInt v11_), .int (Int32.ofInt v9_)] _
          refine zr_icmp_ne (pc := 37) (tgt := 47) ⟨hv9_a, hv9_b⟩ ⟨hv11_a, hv11_b⟩ (by decide) (zdal_p dlB_Group_commutingWith_2 (i := 20) rfl) (fun hc_37 => ?_) (fun hc_37 => ?_)
          · skip
            refine zr_iinc (pc := 47) (i := 4) (a := u2_) (n := 1) (L2 := [some (.ref (d_ + 1)), some (.int (Int32.ofInt a0_)), some (.int (Int32.ofInt a1_)), some (.int (Int32.ofInt u1_)), some (.int (Int32.ofInt (u2_ + 1)))]) rfl (by decide) rfl d_Group_commutingWith_47 ?_
            obtain ⟨v12_, hv12_a, hv12_b, hv12_e, hv12_d⟩ := zk_gen (u2_ + 1)
            rw [hv12_e]
            refine zw_goto (pc := 50) (tgt := 5) (by decide) d_Group_commutingWith_50 ?_
            exact ih_5 u1_ hu1_a hu1_b v12_ hv12_a hv12_b (show 0 ≤ v12_ by first | with_reducible assumption | assumption | omega) (by omega)
          · skip
            refine zw_iload_n (pc := 40) (n := 3) (x := Int32.ofInt u1_) rfl (zdal_p dlB_Group_commutingWith_2 (i := 21) rfl) ?_
            refine zw_iconst (pc := 41) (v := Int32.ofInt 1) (by decide) (zdal_p dlB_Group_commutingWith_2 (i := 22) rfl) ?_
            refine zw_iload (pc := 42) (i := 4) (x := Int32.ofInt u2_) rfl (zdal_p dlB_Group_commutingWith_2 (i := 23) rfl) ?_
            refine zr_ishl (pc := 44) (zdal_p dlB_Group_commutingWith_3 (i := 0) rfl) ?_
            have hr13_ := zshl_r 1 u2_
            refine zr_nmI (fun v14_ hv14_ => ?_)
            obtain ⟨hv14_a, hv14_b⟩ := hv14_
            refine zr_ior (pc := 45) (zdal_p dlB_Group_commutingWith_3 (i := 1) rfl) ?_
            have hr15_ := zor_r u1_ v14_
            refine zr_nmI (fun v16_ hv16_ => ?_)
            obtain ⟨hv16_a, hv16_b⟩ := hv16_
            refine zw_istore_n (pc := 46) (i := 3) (L2 := [some (.ref (d_ + 1)), some (.int (Int32.ofInt a0_)), some (.int (Int32.ofInt a1_)), some (.int (Int32.ofInt v16_)), some (.int (Int32.ofInt u2_))]) rfl (by decide) rfl (zdal_p dlB_Group_commutingWith_3 (i := 2) rfl) ?_
            refine zr_iinc (pc := 47) (i := 4) (a := u2_) (n := 1) (L2 := [some (.ref (d_ + 1)), some (.int (Int32.ofInt a0_)), some (.int (Int32.ofInt a1_)), some (.int (Int32.ofInt v16_)), some (.int (Int32.ofInt (u2_ + 1)))]) rfl (by decide) rfl d_Group_commutingWith_47 ?_
            obtain ⟨v17_, hv17_a, hv17_b, hv17_e, hv17_d⟩ := zk_gen (u2_ + 1)
            rw [hv17_e]
            refine zw_goto (pc := 50) (tgt := 5) (by decide) d_Group_commutingWith_50 ?_
            exact ih_5 v16_ hv16_a hv16_b v17_ hv17_a hv17_b (show 0 ≤ v17_ by first | with_reducible assumption | assumption | omega) (by omega)
  exact lp_5 _ 0 (by decide) (by decide) 0 (by decide) (by decide) (show 0 ≤ (0 : Int) by first | with_reducible assumption | assumption | omega) (Nat.lt_succ_self _)
set_option maxHeartbeats 4000000 in
theorem u_Group_centreOfX (l : Launch) (d_ : Nat) (Mz : zMem) (hW : zKW d_ Mz) (a0_ : Int) (ha0_a : -2147483648 ≤ a0_) (ha0_b : a0_ < 2147483648) : zC l m_Group_centreOf 0 0 [.ref (d_ + 1), .int (Int32.ofInt a0_)] Mz (zqcI d_ [] [] [] [] Mz (fun v N => True)) := by
  refine zC_of (L0 := [some (.ref (d_ + 1)), some (.int (Int32.ofInt a0_)), none, none]) md_Group_centreOf (Nat.le_of_ble_eq_true rfl) rfl ?_ zQ0
  have hf : zFc d_ [] [] [] [] Mz Mz := zFc.rf
  refine zw_iload_n (pc := 0) (n := 1) (x := Int32.ofInt a0_) rfl (zdal_p dlB_Group_centreOf_1 (i := 0) rfl) ?_
  refine zw_istore_n (pc := 1) (i := 2) (L2 := [some (.ref (d_ + 1)), some (.int (Int32.ofInt a0_)), some (.int (Int32.ofInt a0_)), none]) rfl (by decide) rfl (zdal_p dlB_Group_centreOf_1 (i := 1) rfl) ?_
  refine zw_iconst (pc := 2) (v := Int32.ofInt 0) (by decide) (zdal_p dlB_Group_centreOf_1 (i := 2) rfl) ?_
  refine zw_istore_n (pc := 3) (i := 3) (L2 := [some (.ref (d_ + 1)), some (.int (Int32.ofInt a0_)), some (.int (Int32.ofInt a0_)), some (.int (Int32.ofInt 0))]) rfl (by decide) rfl (zdal_p dlB_Group_centreOf_1 (i := 3) rfl) ?_
  have lp_4 : ∀ (n : Nat) (u1_ : Int) (hu1_a : -2147483648 ≤ u1_) (hu1_b : u1_ < 2147483648) (u2_ : Int) (hu2_a : -2147483648 ≤ u2_) (hu2_b : u2_ < 2147483648) (i3_ : 0 ≤ u2_), (ze Mz (d_ + 1) 7 - u2_).toNat < n → zW l m_Group_centreOf (zn Mz + 0, zw Mz + 0) Mz 4 [some (.ref (d_ + 1)), some (.int (Int32.ofInt a0_)), some (.int (Int32.ofInt u1_)), some (.int (Int32.ofInt u2_))] [] (zqcI d_ [] [] [] [] Mz (fun v N => True)) := by
    intro n
    induction n with
    | zero =>
      intro u1_ hu1_a hu1_b u2_ hu2_a hu2_b i3_ h0
      exact absurd h0 (Nat.not_lt_zero _)
    | succ n ih_4 =>
      intro u1_ hu1_a hu1_b u2_ hu2_a hu2_b i3_ hlt_4
      refine zw_iload_n (pc := 4) (n := 3) (x := Int32.ofInt u2_) rfl (zdal_p dlB_Group_centreOf_1 (i := 4) rfl) ?_
      refine zw_aload_n (pc := 5) (n := 0) (x := (d_ + 1)) rfl (zdal_p dlB_Group_centreOf_1 (i := 5) rfl) ?_
      refine zk_getI (pc := 6) f_Group_39 rfl ((hf.w hW).kr (o := 1) (by decide)) (zdal_p dlB_Group_centreOf_1 (i := 6) rfl) ?_
      have hr4_ := ze_r Mz (d_ + 1) 7
      refine zr_icmp_ge (pc := 9) (tgt := 35) ⟨hu2_a, hu2_b⟩ ⟨(ze_r Mz (d_ + 1) 7).1, (ze_r Mz (d_ + 1) 7).2⟩ (by decide) (zdal_p dlB_Group_centreOf_1 (i := 7) rfl) (fun hc_9 => ?_) (fun hc_9 => ?_)
      · skip
        refine zw_iload_n (pc := 35) (n := 2) (x := Int32.ofInt u1_) rfl (zdal_p dlB_Group_centreOf_1 (i := 21) rfl) ?_
        exact zk_iret (pc := 36) (ty := .int) rfl rfl ⟨by omega, by omega⟩ hf trivial (zdal_p dlB_Group_centreOf_1 (i := 22) rfl)
      · skip
        refine zw_iload_n (pc := 12) (n := 1) (x := Int32.ofInt a0_) rfl (zdal_p dlB_Group_centreOf_1 (i := 8) rfl) ?_
        refine zw_iload_n (pc := 13) (n := 3) (x := Int32.ofInt u2_) rfl (zdal_p dlB_Group_centreOf_1 (i := 9) rfl) ?_
        refine zr_callS hf.x (pc := 14) [.int (Int32.ofInt a0_), .int (Int32.ofInt u2_)] [] l_Group_73 (u_T_isInX l d_ Mz (hf.w hW) a0_ ha0_a ha0_b u2_ hu2_a hu2_b) rfl rfl (by decide) (Nat.le_of_ble_eq_true rfl) (zdal_p dlB_Group_centreOf_1 (i := 10) rfl) ?_
        rintro _ N5_ ⟨v6_, rfl, ⟨hv6_a, hv6_b⟩, hsN5_, hp0_N5_⟩
        obtain rfl := hsN5_.eq.symm
        replace hp0_N5_ : (v6_ = 0 ∨ v6_ = 1) := hp0_N5_
        show zW l m_Group_centreOf (zn Mz + 0, zw Mz + 0) Mz 17 [some (.ref (d_ + 1)), some (.int (Int32.ofInt a0_)), some (.int (Int32.ofInt u1_)), some (.int (Int32.ofInt u2_))] [.int (Int32.ofInt v6_)] _
        refine zr_if_eq (pc := 17) (tgt := 29) ⟨hv6_a, hv6_b⟩ (by decide) (zdal_p dlB_Group_centreOf_1 (i := 11) rfl) (fun hc_17 => ?_) (fun hc_17 => ?_)
        · skip
          refine zr_iinc (pc := 29) (i := 3) (a := u2_) (n := 1) (L2 := [some (.ref (d_ + 1)), some (.int (Int32.ofInt a0_)), some (.int (Int32.ofInt u1_)), some (.int (Int32.ofInt (u2_ + 1)))]) rfl (by decide) rfl (zdal_p dlB_Group_centreOf_1 (i := 19) rfl) ?_
          obtain ⟨v7_, hv7_a, hv7_b, hv7_e, hv7_d⟩ := zk_gen (u2_ + 1)
          rw [hv7_e]
          refine zw_goto (pc := 32) (tgt := 4) (by decide) (zdal_p dlB_Group_centreOf_1 (i := 20) rfl) ?_
          exact ih_4 u1_ hu1_a hu1_b v7_ hv7_a hv7_b (show 0 ≤ v7_ by first | with_reducible assumption | assumption | omega) (by omega)
        · skip
          refine zw_iload_n (pc := 20) (n := 2) (x := Int32.ofInt u1_) rfl (zdal_p dlB_Group_centreOf_1 (i := 12) rfl) ?_
          refine zw_aload_n (pc := 21) (n := 0) (x := (d_ + 1)) rfl (zdal_p dlB_Group_centreOf_1 (i := 13) rfl) ?_
          refine zw_iload_n (pc := 22) (n := 3) (x := Int32.ofInt u2_) rfl (zdal_p dlB_Group_centreOf_1 (i := 14) rfl) ?_
          refine zw_iload_n (pc := 23) (n := 1) (x := Int32.ofInt a0_) rfl (zdal_p dlB_Group_centreOf_1 (i := 15) rfl) ?_
          refine zk_callV hf.x (pc := 24) [.int (Int32.ofInt u2_), .int (Int32.ofInt a0_)] [.int (Int32.ofInt u1_)] l_Group_97 (u_Group_commutingWithX l d_ Mz (hf.w hW) u2_ hu2_a hu2_b a0_ ha0_a ha0_b) rfl rfl ((hf.w hW).kr (o := 1) (by decide)) (by decide) (by decide) (Nat.le_of_ble_eq_true rfl) (zdal_p dlB_Group_centreOf_1 (i := 16) rfl) ?_
          rintro _ N8_ ⟨v9_, rfl, ⟨hv9_a, hv9_b⟩, hsN8_, -⟩
          obtain rfl := hsN8_.eq.symm
          show zW l m_Group_centreOf (zn Mz + 0, zw Mz + 0) Mz 27 [some (.ref (d_ + 1)), some (.int (Int32.ofInt a0_)), some (.int (Int32.ofInt u1_)), some (.int (Int32.ofInt u2_))] [.int (Int32.ofInt v9_), .int (Int32.ofInt u1_)] _
          refine zr_iand (pc := 27) (zdal_p dlB_Group_centreOf_1 (i := 17) rfl) ?_
          have hr10_ := zand_r u1_ v9_
          refine zr_nmI (fun v11_ hv11_ => ?_)
          obtain ⟨hv11_a, hv11_b⟩ := hv11_
          refine zw_istore_n (pc := 28) (i := 2) (L2 := [some (.ref (d_ + 1)), some (.int (Int32.ofInt a0_)), some (.int (Int32.ofInt v11_)), some (.int (Int32.ofInt u2_))]) rfl (by decide) rfl (zdal_p dlB_Group_centreOf_1 (i := 18) rfl) ?_
          refine zr_iinc (pc := 29) (i := 3) (a := u2_) (n := 1) (L2 := [some (.ref (d_ + 1)), some (.int (Int32.ofInt a0_)), some (.int (Int32.ofInt v11_)), some (.int (Int32.ofInt (u2_ + 1)))]) rfl (by decide) rfl (zdal_p dlB_Group_centreOf_1 (i := 19) rfl) ?_
          obtain ⟨v12_, hv12_a, hv12_b, hv12_e, hv12_d⟩ := zk_gen (u2_ + 1)
          rw [hv12_e]
          refine zw_goto (pc := 32) (tgt := 4) (by decide) (zdal_p dlB_Group_centreOf_1 (i := 20) rfl) ?_
          exact ih_4 v11_ hv11_a hv11_b v12_ hv12_a hv12_b (show 0 ≤ v12_ by first | with_reducible assumption | assumption | omega) (by omega)
  exact lp_4 _ a0_ ha0_a ha0_b 0 (by decide) (by decide) (show 0 ≤ (0 : Int) by first | with_reducible assumption | assumption | omega) (Nat.lt_succ_self _)
set_option maxHeartbeats 4000000 in
theorem u_Group_isCommutingX (l : Launch) (d_ : Nat) (Mz : zMem) (hW : zKW d_ Mz) (a0_ : Int) (ha0_a : -2147483648 ≤ a0_) (ha0_b : a0_ < 2147483648) : zC l m_Group_isCommuting 0 0 [.ref (d_ + 1), .int (Int32.ofInt a0_)] Mz (zqcI d_ [] [] [] [] Mz (fun v N => ((v = 0 ∨ v = 1)))) := by
  refine zC_of (L0 := [some (.ref (d_ + 1)), some (.int (Int32.ofInt a0_))]) md_Group_isCommuting (Nat.le_of_ble_eq_true rfl) rfl ?_ zQ0
  have hf : zFc d_ [] [] [] [] Mz Mz := zFc.rf
  refine zw_aload_n (pc := 0) (n := 0) (x := (d_ + 1)) rfl (zdal_p dlB_Group_isCommuting_0 (i := 0) rfl) ?_
  refine zw_iload_n (pc := 1) (n := 1) (x := Int32.ofInt a0_) rfl (zdal_p dlB_Group_isCommuting_0 (i := 1) rfl) ?_
  refine zk_callV hf.x (pc := 2) [.int (Int32.ofInt a0_)] [] l_Group_100 (u_Group_centreOfX l d_ Mz (hf.w hW) a0_ ha0_a ha0_b) rfl rfl ((hf.w hW).kr (o := 1) (by decide)) (by decide) (by decide) (Nat.le_of_ble_eq_true rfl) (zdal_p dlB_Group_isCommuting_0 (i := 2) rfl) ?_
  rintro _ N1_ ⟨v2_, rfl, ⟨hv2_a, hv2_b⟩, hsN1_, -⟩
  obtain rfl := hsN1_.eq.symm
  show zW l m_Group_isCommuting (zn Mz + 0, zw Mz + 0) Mz 5 [some (.ref (d_ + 1)), some (.int (Int32.ofInt a0_))] [.int (Int32.ofInt v2_)] _
  refine zw_iload_n (pc := 5) (n := 1) (x := Int32.ofInt a0_) rfl (zdal_p dlB_Group_isCommuting_0 (i := 3) rfl) ?_
  refine zr_icmp_ne (pc := 6) (tgt := 13) ⟨hv2_a, hv2_b⟩ ⟨ha0_a, ha0_b⟩ (by decide) (zdal_p dlB_Group_isCommuting_0 (i := 4) rfl) (fun hc_6 => ?_) (fun hc_6 => ?_)
  · skip
    refine zw_iconst (pc := 13) (v := Int32.ofInt 0) (by decide) (zdal_p dlB_Group_isCommuting_0 (i := 7) rfl) ?_
    exact zk_iret (pc := 14) (ty := .boolean) rfl (z_narB (by omega)) ⟨by omega, by omega⟩ hf (show (((0 : Int)) = 0 ∨ ((0 : Int)) = 1) by first | with_reducible assumption | assumption | omega) (zdal_p dlB_Group_isCommuting_0 (i := 8) rfl)
  · skip
    refine zw_iconst (pc := 9) (v := Int32.ofInt 1) (by decide) (zdal_p dlB_Group_isCommuting_0 (i := 5) rfl) ?_
    refine zw_goto (pc := 10) (tgt := 14) (by decide) (zdal_p dlB_Group_isCommuting_0 (i := 6) rfl) ?_
    exact zk_iret (pc := 14) (ty := .boolean) rfl (z_narB (by omega)) ⟨by omega, by omega⟩ hf (show (((1 : Int)) = 0 ∨ ((1 : Int)) = 1) by first | with_reducible assumption | assumption | omega) (zdal_p dlB_Group_isCommuting_0 (i := 8) rfl)
set_option maxHeartbeats 4000000 in
theorem u_Group_hasMemberX (l : Launch) (d_ : Nat) (Mz : zMem) (hW : zKW d_ Mz) (a0_ : Int) (ha0_a : -2147483648 ≤ a0_) (ha0_b : a0_ < 2147483648) : zC l m_Group_hasMember 0 0 [.ref (d_ + 1), .int (Int32.ofInt a0_)] Mz (zqcI d_ [] [] [] [] Mz (fun v N => ((v = 0 ∨ v = 1)))) := by
  refine zC_of (L0 := [some (.ref (d_ + 1)), some (.int (Int32.ofInt a0_))]) md_Group_hasMember (Nat.le_of_ble_eq_true rfl) rfl ?_ zQ0
  have hf : zFc d_ [] [] [] [] Mz Mz := zFc.rf
  refine zw_iload_n (pc := 0) (n := 1) (x := Int32.ofInt a0_) rfl (zdal_p dlB_Group_hasMember_5 (i := 0) rfl) ?_
  refine zr_if_lt (pc := 1) (tgt := 16) ⟨ha0_a, ha0_b⟩ (by decide) (zdal_p dlB_Group_hasMember_5 (i := 1) rfl) (fun hc_1 => ?_) (fun hc_1 => ?_)
  · skip
    refine zw_iconst (pc := 16) (v := Int32.ofInt 0) (by decide) (zdal_p dlB_Group_hasMember_5 (i := 8) rfl) ?_
    exact zk_iret (pc := 17) (ty := .boolean) rfl (z_narB (by omega)) ⟨by omega, by omega⟩ hf (show (((0 : Int)) = 0 ∨ ((0 : Int)) = 1) by first | with_reducible assumption | assumption | omega) (zdal_p dlB_Group_hasMember_5 (i := 9) rfl)
  · skip
    refine zw_iload_n (pc := 4) (n := 1) (x := Int32.ofInt a0_) rfl (zdal_p dlB_Group_hasMember_5 (i := 2) rfl) ?_
    refine zw_aload_n (pc := 5) (n := 0) (x := (d_ + 1)) rfl (zdal_p dlB_Group_hasMember_5 (i := 3) rfl) ?_
    refine zk_getI (pc := 6) f_Group_39 rfl ((hf.w hW).kr (o := 1) (by decide)) (zdal_p dlB_Group_hasMember_5 (i := 4) rfl) ?_
    have hr1_ := ze_r Mz (d_ + 1) 7
    refine zr_icmp_ge (pc := 9) (tgt := 16) ⟨ha0_a, ha0_b⟩ ⟨(ze_r Mz (d_ + 1) 7).1, (ze_r Mz (d_ + 1) 7).2⟩ (by decide) (zdal_p dlB_Group_hasMember_5 (i := 5) rfl) (fun hc_9 => ?_) (fun hc_9 => ?_)
    · skip
      refine zw_iconst (pc := 16) (v := Int32.ofInt 0) (by decide) (zdal_p dlB_Group_hasMember_5 (i := 8) rfl) ?_
      exact zk_iret (pc := 17) (ty := .boolean) rfl (z_narB (by omega)) ⟨by omega, by omega⟩ hf (show (((0 : Int)) = 0 ∨ ((0 : Int)) = 1) by first | with_reducible assumption | assumption | omega) (zdal_p dlB_Group_hasMember_5 (i := 9) rfl)
    · skip
      refine zw_iconst (pc := 12) (v := Int32.ofInt 1) (by decide) (zdal_p dlB_Group_hasMember_5 (i := 6) rfl) ?_
      refine zw_goto (pc := 13) (tgt := 17) (by decide) (zdal_p dlB_Group_hasMember_5 (i := 7) rfl) ?_
      exact zk_iret (pc := 17) (ty := .boolean) rfl (z_narB (by omega)) ⟨by omega, by omega⟩ hf (show (((1 : Int)) = 0 ∨ ((1 : Int)) = 1) by first | with_reducible assumption | assumption | omega) (zdal_p dlB_Group_hasMember_5 (i := 9) rfl)
set_option maxHeartbeats 4000000 in
theorem u_Group_hasPlaceX (l : Launch) (d_ : Nat) (Mz : zMem) (hW : zKW d_ Mz) (a0_ : Int) (ha0_a : -2147483648 ≤ a0_) (ha0_b : a0_ < 2147483648) : zC l m_Group_hasPlace 0 0 [.ref (d_ + 1), .int (Int32.ofInt a0_)] Mz (zqcI d_ [] [] [] [] Mz (fun v N => ((v = 0 ∨ v = 1)))) := by
  refine zC_of (L0 := [some (.ref (d_ + 1)), some (.int (Int32.ofInt a0_))]) md_Group_hasPlace (Nat.le_of_ble_eq_true rfl) rfl ?_ zQ0
  have hf : zFc d_ [] [] [] [] Mz Mz := zFc.rf
  refine zw_iload_n (pc := 0) (n := 1) (x := Int32.ofInt a0_) rfl (zdal_p dlB_Group_hasPlace_6 (i := 0) rfl) ?_
  refine zr_if_lt (pc := 1) (tgt := 16) ⟨ha0_a, ha0_b⟩ (by decide) (zdal_p dlB_Group_hasPlace_6 (i := 1) rfl) (fun hc_1 => ?_) (fun hc_1 => ?_)
  · skip
    refine zw_iconst (pc := 16) (v := Int32.ofInt 0) (by decide) (zdal_p dlB_Group_hasPlace_6 (i := 8) rfl) ?_
    exact zk_iret (pc := 17) (ty := .boolean) rfl (z_narB (by omega)) ⟨by omega, by omega⟩ hf (show (((0 : Int)) = 0 ∨ ((0 : Int)) = 1) by first | with_reducible assumption | assumption | omega) (zdal_p dlB_Group_hasPlace_6 (i := 9) rfl)
  · skip
    refine zw_iload_n (pc := 4) (n := 1) (x := Int32.ofInt a0_) rfl (zdal_p dlB_Group_hasPlace_6 (i := 2) rfl) ?_
    refine zw_aload_n (pc := 5) (n := 0) (x := (d_ + 1)) rfl (zdal_p dlB_Group_hasPlace_6 (i := 3) rfl) ?_
    refine zk_getI (pc := 6) f_Group_32 rfl ((hf.w hW).kr (o := 1) (by decide)) (zdal_p dlB_Group_hasPlace_6 (i := 4) rfl) ?_
    have hr1_ := ze_r Mz (d_ + 1) 5
    refine zr_icmp_ge (pc := 9) (tgt := 16) ⟨ha0_a, ha0_b⟩ ⟨(ze_r Mz (d_ + 1) 5).1, (ze_r Mz (d_ + 1) 5).2⟩ (by decide) (zdal_p dlB_Group_hasPlace_6 (i := 5) rfl) (fun hc_9 => ?_) (fun hc_9 => ?_)
    · skip
      refine zw_iconst (pc := 16) (v := Int32.ofInt 0) (by decide) (zdal_p dlB_Group_hasPlace_6 (i := 8) rfl) ?_
      exact zk_iret (pc := 17) (ty := .boolean) rfl (z_narB (by omega)) ⟨by omega, by omega⟩ hf (show (((0 : Int)) = 0 ∨ ((0 : Int)) = 1) by first | with_reducible assumption | assumption | omega) (zdal_p dlB_Group_hasPlace_6 (i := 9) rfl)
    · skip
      refine zw_iconst (pc := 12) (v := Int32.ofInt 1) (by decide) (zdal_p dlB_Group_hasPlace_6 (i := 6) rfl) ?_
      refine zw_goto (pc := 13) (tgt := 17) (by decide) (zdal_p dlB_Group_hasPlace_6 (i := 7) rfl) ?_
      exact zk_iret (pc := 17) (ty := .boolean) rfl (z_narB (by omega)) ⟨by omega, by omega⟩ hf (show (((1 : Int)) = 0 ∨ ((1 : Int)) = 1) by first | with_reducible assumption | assumption | omega) (zdal_p dlB_Group_hasPlace_6 (i := 9) rfl)
set_option maxHeartbeats 4000000 in
theorem u_T_movesX (l : Launch) (d_ : Nat) (Mz : zMem) (hW : zKW d_ Mz) (hnow : zf Mz 0 2 = some (d_ + 0)) (a0_ : Int) (ha0_a : -2147483648 ≤ a0_) (ha0_b : a0_ < 2147483648) (a1_ : Int) (ha1_a : -2147483648 ≤ a1_) (ha1_b : a1_ < 2147483648) : zC l m_T_moves 0 0 [.ref 0, .int (Int32.ofInt a0_), .int (Int32.ofInt a1_)] Mz (zqcI d_ [] [] [] [] Mz (fun v N => True)) := by
  refine zC_of (L0 := [some (.ref 0), some (.int (Int32.ofInt a0_)), some (.int (Int32.ofInt a1_)), none]) md_T_moves (Nat.le_of_ble_eq_true rfl) rfl ?_ zQ0
  have hf : zFc d_ [] [] [] [] Mz Mz := zFc.rf
  refine zw_aload_n (pc := 0) (n := 0) (x := 0) rfl (zdal_p dlB_T_moves_4 (i := 0) rfl) ?_
  refine zw_getF (pc := 1) f_T_28 rfl ((hf.w hW).ka (o := 0) (by decide)) (hf.now hnow) (zdal_p dlB_T_moves_4 (i := 1) rfl) ?_
  refine zw_getF (pc := 4) f_T_61 rfl ((hf.w hW).kr (o := 0) (by decide)) ((hf.w hW).lr (o := 0) (s := 0) (r := 1) (by decide)) (zdal_p dlB_T_moves_4 (i := 2) rfl) ?_
  refine zw_astore_n (pc := 7) (i := 3) (L2 := [some (.ref 0), some (.int (Int32.ofInt a0_)), some (.int (Int32.ofInt a1_)), some (.ref (d_ + 1))]) rfl (by decide) rfl (zdal_p dlB_T_moves_4 (i := 3) rfl) ?_
  refine zw_aload_n (pc := 8) (n := 3) (x := (d_ + 1)) rfl (zdal_p dlB_T_moves_4 (i := 4) rfl) ?_
  refine zw_iload_n (pc := 9) (n := 1) (x := Int32.ofInt a0_) rfl (zdal_p dlB_T_moves_4 (i := 5) rfl) ?_
  refine zk_callV hf.x (pc := 10) [.int (Int32.ofInt a0_)] [] l_T_108 (u_Group_hasMemberX l d_ Mz (hf.w hW) a0_ ha0_a ha0_b) rfl rfl ((hf.w hW).kr (o := 1) (by decide)) (by decide) (by decide) (Nat.le_of_ble_eq_true rfl) (zdal_p dlB_T_moves_4 (i := 6) rfl) ?_
  rintro _ N1_ ⟨v2_, rfl, ⟨hv2_a, hv2_b⟩, hsN1_, hp0_N1_⟩
  obtain rfl := hsN1_.eq.symm
  replace hp0_N1_ : (v2_ = 0 ∨ v2_ = 1) := hp0_N1_
  show zW l m_T_moves (zn Mz + 0, zw Mz + 0) Mz 13 [some (.ref 0), some (.int (Int32.ofInt a0_)), some (.int (Int32.ofInt a1_)), some (.ref (d_ + 1))] [.int (Int32.ofInt v2_)] _
  refine zr_if_eq (pc := 13) (tgt := 39) ⟨hv2_a, hv2_b⟩ (by decide) (zdal_p dlB_T_moves_4 (i := 7) rfl) (fun hc_13 => ?_) (fun hc_13 => ?_)
  · skip
    refine zw_iconst (pc := 39) (v := Int32.ofInt (-1)) (by decide) (zdal_p dlB_T_moves_4 (i := 19) rfl) ?_
    exact zk_iret (pc := 40) (ty := .int) rfl rfl ⟨by omega, by omega⟩ hf trivial (zdal_p dlB_T_moves_4 (i := 20) rfl)
  · skip
    refine zw_aload_n (pc := 16) (n := 3) (x := (d_ + 1)) rfl (zdal_p dlB_T_moves_4 (i := 8) rfl) ?_
    refine zw_iload_n (pc := 17) (n := 2) (x := Int32.ofInt a1_) rfl (zdal_p dlB_T_moves_4 (i := 9) rfl) ?_
    refine zk_callV hf.x (pc := 18) [.int (Int32.ofInt a1_)] [] l_T_111 (u_Group_hasPlaceX l d_ Mz (hf.w hW) a1_ ha1_a ha1_b) rfl rfl ((hf.w hW).kr (o := 1) (by decide)) (by decide) (by decide) (Nat.le_of_ble_eq_true rfl) (zdal_p dlB_T_moves_4 (i := 10) rfl) ?_
    rintro _ N3_ ⟨v4_, rfl, ⟨hv4_a, hv4_b⟩, hsN3_, hp0_N3_⟩
    obtain rfl := hsN3_.eq.symm
    replace hp0_N3_ : (v4_ = 0 ∨ v4_ = 1) := hp0_N3_
    show zW l m_T_moves (zn Mz + 0, zw Mz + 0) Mz 21 [some (.ref 0), some (.int (Int32.ofInt a0_)), some (.int (Int32.ofInt a1_)), some (.ref (d_ + 1))] [.int (Int32.ofInt v4_)] _
    refine zr_if_eq (pc := 21) (tgt := 39) ⟨hv4_a, hv4_b⟩ (by decide) (zdal_p dlB_T_moves_4 (i := 11) rfl) (fun hc_21 => ?_) (fun hc_21 => ?_)
    · skip
      refine zw_iconst (pc := 39) (v := Int32.ofInt (-1)) (by decide) (zdal_p dlB_T_moves_4 (i := 19) rfl) ?_
      exact zk_iret (pc := 40) (ty := .int) rfl rfl ⟨by omega, by omega⟩ hf trivial (zdal_p dlB_T_moves_4 (i := 20) rfl)
    · skip
      refine zw_aload_n (pc := 24) (n := 3) (x := (d_ + 1)) rfl (zdal_p dlB_T_moves_4 (i := 12) rfl) ?_
      refine zw_getF (pc := 25) f_T_114 rfl ((hf.w hW).kr (o := 1) (by decide)) ((hf.w hW).lr (o := 1) (s := 1) (r := 4) (by decide)) (zdal_p dlB_T_moves_4 (i := 13) rfl) ?_
      refine zw_iload_n (pc := 28) (n := 1) (x := Int32.ofInt a0_) rfl (zdal_p dlB_T_moves_4 (i := 14) rfl) ?_
      refine zk_atG hf.x (pc := 29) l_T_118 ((hf.w hW).kr (o := 4) (by decide)) ((hf.w hW).lr (o := 4) (s := 0) (r := 5) (by decide)) ((hf.w hW).rr (o := 5) (t := 1) (n := 24) (by decide)) (by decide) ⟨by omega, by omega⟩ (by decide) (Nat.le_of_ble_eq_true rfl) (zdal_p dlB_T_moves_4 (i := 15) rfl) (fun v5_ hv5_ hv5_a hv5_b => ?_)
      clear hv5_
      refine zw_iload_n (pc := 32) (n := 2) (x := Int32.ofInt a1_) rfl (zdal_p dlB_T_moves_4 (i := 16) rfl) ?_
      refine zr_callS hf.x (pc := 33) [.int (Int32.ofInt v5_), .int (Int32.ofInt a1_)] [] l_T_124 (u_T_placeInX l d_ Mz (hf.w hW) v5_ hv5_a hv5_b a1_ ha1_a ha1_b) rfl rfl (by decide) (Nat.le_of_ble_eq_true rfl) (zdal_p dlB_T_moves_4 (i := 17) rfl) ?_
      rintro _ N6_ ⟨v7_, rfl, ⟨hv7_a, hv7_b⟩, hsN6_, -⟩
      obtain rfl := hsN6_.eq.symm
      show zW l m_T_moves (zn Mz + 0, zw Mz + 0) Mz 36 [some (.ref 0), some (.int (Int32.ofInt a0_)), some (.int (Int32.ofInt a1_)), some (.ref (d_ + 1))] [.int (Int32.ofInt v7_)] _
      refine zw_goto (pc := 36) (tgt := 40) (by decide) (zdal_p dlB_T_moves_4 (i := 18) rfl) ?_
      exact zk_iret (pc := 40) (ty := .int) rfl rfl ⟨by omega, by omega⟩ hf trivial (zdal_p dlB_T_moves_4 (i := 20) rfl)
set_option maxHeartbeats 4000000 in
theorem u_T_timesX (l : Launch) (d_ : Nat) (Mz : zMem) (hW : zKW d_ Mz) (hnow : zf Mz 0 2 = some (d_ + 0)) (a0_ : Int) (ha0_a : -2147483648 ≤ a0_) (ha0_b : a0_ < 2147483648) (a1_ : Int) (ha1_a : -2147483648 ≤ a1_) (ha1_b : a1_ < 2147483648) : zC l m_T_times 0 0 [.ref 0, .int (Int32.ofInt a0_), .int (Int32.ofInt a1_)] Mz (zqcI d_ [] [] [] [] Mz (fun v N => True)) := by
  refine zC_of (L0 := [some (.ref 0), some (.int (Int32.ofInt a0_)), some (.int (Int32.ofInt a1_))]) md_T_times (Nat.le_of_ble_eq_true rfl) rfl ?_ zQ0
  have hf : zFc d_ [] [] [] [] Mz Mz := zFc.rf
  refine zw_aload_n (pc := 0) (n := 0) (x := 0) rfl (zdal_p dlB_T_times_7 (i := 0) rfl) ?_
  refine zw_getF (pc := 1) f_T_28 rfl ((hf.w hW).ka (o := 0) (by decide)) (hf.now hnow) (zdal_p dlB_T_times_7 (i := 1) rfl) ?_
  refine zw_getF (pc := 4) f_T_61 rfl ((hf.w hW).kr (o := 0) (by decide)) ((hf.w hW).lr (o := 0) (s := 0) (r := 1) (by decide)) (zdal_p dlB_T_times_7 (i := 2) rfl) ?_
  refine zw_iload_n (pc := 7) (n := 1) (x := Int32.ofInt a0_) rfl (zdal_p dlB_T_times_7 (i := 3) rfl) ?_
  refine zk_callV hf.x (pc := 8) [.int (Int32.ofInt a0_)] [] l_T_108 (u_Group_hasMemberX l d_ Mz (hf.w hW) a0_ ha0_a ha0_b) rfl rfl ((hf.w hW).kr (o := 1) (by decide)) (by decide) (by decide) (Nat.le_of_ble_eq_true rfl) (zdal_p dlB_T_times_7 (i := 4) rfl) ?_
  rintro _ N1_ ⟨v2_, rfl, ⟨hv2_a, hv2_b⟩, hsN1_, hp0_N1_⟩
  obtain rfl := hsN1_.eq.symm
  replace hp0_N1_ : (v2_ = 0 ∨ v2_ = 1) := hp0_N1_
  show zW l m_T_times (zn Mz + 0, zw Mz + 0) Mz 11 [some (.ref 0), some (.int (Int32.ofInt a0_)), some (.int (Int32.ofInt a1_))] [.int (Int32.ofInt v2_)] _
  refine zr_if_eq (pc := 11) (tgt := 43) ⟨hv2_a, hv2_b⟩ (by decide) (zdal_p dlB_T_times_7 (i := 5) rfl) (fun hc_11 => ?_) (fun hc_11 => ?_)
  · skip
    refine zw_iconst (pc := 43) (v := Int32.ofInt (-1)) (by decide) (zdal_p dlB_T_times_7 (i := 19) rfl) ?_
    exact zk_iret (pc := 44) (ty := .int) rfl rfl ⟨by omega, by omega⟩ hf trivial (zdal_p dlB_T_times_7 (i := 20) rfl)
  · skip
    refine zw_aload_n (pc := 14) (n := 0) (x := 0) rfl (zdal_p dlB_T_times_7 (i := 6) rfl) ?_
    refine zw_getF (pc := 15) f_T_28 rfl ((hf.w hW).ka (o := 0) (by decide)) (hf.now hnow) (zdal_p dlB_T_times_7 (i := 7) rfl) ?_
    refine zw_getF (pc := 18) f_T_61 rfl ((hf.w hW).kr (o := 0) (by decide)) ((hf.w hW).lr (o := 0) (s := 0) (r := 1) (by decide)) (zdal_p dlB_T_times_7 (i := 8) rfl) ?_
    refine zw_iload_n (pc := 21) (n := 2) (x := Int32.ofInt a1_) rfl (zdal_p dlB_T_times_7 (i := 9) rfl) ?_
    refine zk_callV hf.x (pc := 22) [.int (Int32.ofInt a1_)] [] l_T_108 (u_Group_hasMemberX l d_ Mz (hf.w hW) a1_ ha1_a ha1_b) rfl rfl ((hf.w hW).kr (o := 1) (by decide)) (by decide) (by decide) (Nat.le_of_ble_eq_true rfl) (zdal_p dlB_T_times_7 (i := 10) rfl) ?_
    rintro _ N3_ ⟨v4_, rfl, ⟨hv4_a, hv4_b⟩, hsN3_, hp0_N3_⟩
    obtain rfl := hsN3_.eq.symm
    replace hp0_N3_ : (v4_ = 0 ∨ v4_ = 1) := hp0_N3_
    show zW l m_T_times (zn Mz + 0, zw Mz + 0) Mz 25 [some (.ref 0), some (.int (Int32.ofInt a0_)), some (.int (Int32.ofInt a1_))] [.int (Int32.ofInt v4_)] _
    refine zr_if_eq (pc := 25) (tgt := 43) ⟨hv4_a, hv4_b⟩ (by decide) (zdal_p dlB_T_times_7 (i := 11) rfl) (fun hc_25 => ?_) (fun hc_25 => ?_)
    · skip
      refine zw_iconst (pc := 43) (v := Int32.ofInt (-1)) (by decide) (zdal_p dlB_T_times_7 (i := 19) rfl) ?_
      exact zk_iret (pc := 44) (ty := .int) rfl rfl ⟨by omega, by omega⟩ hf trivial (zdal_p dlB_T_times_7 (i := 20) rfl)
    · skip
      refine zw_aload_n (pc := 28) (n := 0) (x := 0) rfl (zdal_p dlB_T_times_7 (i := 12) rfl) ?_
      refine zw_getF (pc := 29) f_T_28 rfl ((hf.w hW).ka (o := 0) (by decide)) (hf.now hnow) (zdal_p dlB_T_times_7 (i := 13) rfl) ?_
      refine zw_getF (pc := 32) f_T_61 rfl ((hf.w hW).kr (o := 0) (by decide)) ((hf.w hW).lr (o := 0) (s := 0) (r := 1) (by decide)) (zdal_p dlB_T_times_7 (i := 14) rfl) ?_
      refine zw_iload_n (pc := 35) (n := 1) (x := Int32.ofInt a0_) rfl (zdal_p dlB_T_times_7 (i := 15) rfl) ?_
      refine zw_iload_n (pc := 36) (n := 2) (x := Int32.ofInt a1_) rfl (zdal_p dlB_T_times_7 (i := 16) rfl) ?_
      refine zk_callV hf.x (pc := 37) [.int (Int32.ofInt a0_), .int (Int32.ofInt a1_)] [] l_T_128 (u_Group_bothX l d_ Mz (hf.w hW) a0_ ha0_a ha0_b a1_ ha1_a ha1_b) rfl rfl ((hf.w hW).kr (o := 1) (by decide)) (by decide) (by decide) (Nat.le_of_ble_eq_true rfl) (zdal_p dlB_T_times_7 (i := 17) rfl) ?_
      rintro _ N5_ ⟨v6_, rfl, ⟨hv6_a, hv6_b⟩, hsN5_, -⟩
      obtain rfl := hsN5_.eq.symm
      show zW l m_T_times (zn Mz + 0, zw Mz + 0) Mz 40 [some (.ref 0), some (.int (Int32.ofInt a0_)), some (.int (Int32.ofInt a1_))] [.int (Int32.ofInt v6_)] _
      refine zw_goto (pc := 40) (tgt := 44) (by decide) (zdal_p dlB_T_times_7 (i := 18) rfl) ?_
      exact zk_iret (pc := 44) (ty := .int) rfl rfl ⟨by omega, by omega⟩ hf trivial (zdal_p dlB_T_times_7 (i := 20) rfl)
set_option maxHeartbeats 4000000 in
theorem u_Group_repeatsOfX (l : Launch) (d_ : Nat) (Mz : zMem) (hW : zKW d_ Mz) (a0_ : Int) (ha0_a : -2147483648 ≤ a0_) (ha0_b : a0_ < 2147483648) : zC l m_Group_repeatsOf 0 0 [.ref (d_ + 1), .int (Int32.ofInt a0_)] Mz (zqcI d_ [] [] [] [] Mz (fun v N => True)) := by
  refine zC_of (L0 := [some (.ref (d_ + 1)), some (.int (Int32.ofInt a0_)), none, none]) md_Group_repeatsOf (Nat.le_of_ble_eq_true rfl) rfl ?_ zQ0
  have hf : zFc d_ [] [] [] [] Mz Mz := zFc.rf
  refine zw_iload_n (pc := 0) (n := 1) (x := Int32.ofInt a0_) rfl (zdal_p dlB_Group_repeatsOf_9 (i := 0) rfl) ?_
  refine zw_istore_n (pc := 1) (i := 2) (L2 := [some (.ref (d_ + 1)), some (.int (Int32.ofInt a0_)), some (.int (Int32.ofInt a0_)), none]) rfl (by decide) rfl (zdal_p dlB_Group_repeatsOf_9 (i := 1) rfl) ?_
  refine zw_iconst (pc := 2) (v := Int32.ofInt 1) (by decide) (zdal_p dlB_Group_repeatsOf_9 (i := 2) rfl) ?_
  refine zw_istore_n (pc := 3) (i := 3) (L2 := [some (.ref (d_ + 1)), some (.int (Int32.ofInt a0_)), some (.int (Int32.ofInt a0_)), some (.int (Int32.ofInt 1))]) rfl (by decide) rfl (zdal_p dlB_Group_repeatsOf_9 (i := 3) rfl) ?_
  have lp_4 : ∀ (n : Nat) (u1_ : Int) (hu1_a : -2147483648 ≤ u1_) (hu1_b : u1_ < 2147483648) (u2_ : Int) (hu2_a : -2147483648 ≤ u2_) (hu2_b : u2_ < 2147483648) (i3_ : 1 ≤ u2_), (24 - u2_).toNat < n → zW l m_Group_repeatsOf (zn Mz + 0, zw Mz + 0) Mz 4 [some (.ref (d_ + 1)), some (.int (Int32.ofInt a0_)), some (.int (Int32.ofInt u1_)), some (.int (Int32.ofInt u2_))] [] (zqcI d_ [] [] [] [] Mz (fun v N => True)) := by
    intro n
    induction n with
    | zero =>
      intro u1_ hu1_a hu1_b u2_ hu2_a hu2_b i3_ h0
      exact absurd h0 (Nat.not_lt_zero _)
    | succ n ih_4 =>
      intro u1_ hu1_a hu1_b u2_ hu2_a hu2_b i3_ hlt_4
      refine zw_iload_n (pc := 4) (n := 2) (x := Int32.ofInt u1_) rfl (zdal_p dlB_Group_repeatsOf_9 (i := 4) rfl) ?_
      refine zr_if_eq (pc := 5) (tgt := 27) ⟨hu1_a, hu1_b⟩ (by decide) (zdal_p dlB_Group_repeatsOf_9 (i := 5) rfl) (fun hc_5 => ?_) (fun hc_5 => ?_)
      · skip
        refine zw_iload_n (pc := 27) (n := 3) (x := Int32.ofInt u2_) rfl (zdal_p dlB_Group_repeatsOf_9 (i := 16) rfl) ?_
        exact zk_iret (pc := 28) (ty := .int) rfl rfl ⟨by omega, by omega⟩ hf trivial (zdal_p dlB_Group_repeatsOf_9 (i := 17) rfl)
      · skip
        refine zw_iload_n (pc := 8) (n := 3) (x := Int32.ofInt u2_) rfl (zdal_p dlB_Group_repeatsOf_9 (i := 6) rfl) ?_
        refine zw_bipush (pc := 9) (v := Int32.ofInt 24) (by decide) (zdal_p dlB_Group_repeatsOf_9 (i := 7) rfl) ?_
        refine zr_icmp_ge (pc := 11) (tgt := 27) ⟨hu2_a, hu2_b⟩ ⟨(by decide), (by decide)⟩ (by decide) (zdal_p dlB_Group_repeatsOf_9 (i := 8) rfl) (fun hc_11 => ?_) (fun hc_11 => ?_)
        · skip
          refine zw_iload_n (pc := 27) (n := 3) (x := Int32.ofInt u2_) rfl (zdal_p dlB_Group_repeatsOf_9 (i := 16) rfl) ?_
          exact zk_iret (pc := 28) (ty := .int) rfl rfl ⟨by omega, by omega⟩ hf trivial (zdal_p dlB_Group_repeatsOf_9 (i := 17) rfl)
        · skip
          refine zw_aload_n (pc := 14) (n := 0) (x := (d_ + 1)) rfl (zdal_p dlB_Group_repeatsOf_9 (i := 9) rfl) ?_
          refine zw_iload_n (pc := 15) (n := 2) (x := Int32.ofInt u1_) rfl (zdal_p dlB_Group_repeatsOf_9 (i := 10) rfl) ?_
          refine zw_iload_n (pc := 16) (n := 1) (x := Int32.ofInt a0_) rfl (zdal_p dlB_Group_repeatsOf_9 (i := 11) rfl) ?_
          refine zk_callV hf.x (pc := 17) [.int (Int32.ofInt u1_), .int (Int32.ofInt a0_)] [] l_Group_67 (u_Group_bothX l d_ Mz (hf.w hW) u1_ hu1_a hu1_b a0_ ha0_a ha0_b) rfl rfl ((hf.w hW).kr (o := 1) (by decide)) (by decide) (by decide) (Nat.le_of_ble_eq_true rfl) (zdal_p dlB_Group_repeatsOf_9 (i := 12) rfl) ?_
          rintro _ N4_ ⟨v5_, rfl, ⟨hv5_a, hv5_b⟩, hsN4_, -⟩
          obtain rfl := hsN4_.eq.symm
          show zW l m_Group_repeatsOf (zn Mz + 0, zw Mz + 0) Mz 20 [some (.ref (d_ + 1)), some (.int (Int32.ofInt a0_)), some (.int (Int32.ofInt u1_)), some (.int (Int32.ofInt u2_))] [.int (Int32.ofInt v5_)] _
          refine zw_istore_n (pc := 20) (i := 2) (L2 := [some (.ref (d_ + 1)), some (.int (Int32.ofInt a0_)), some (.int (Int32.ofInt v5_)), some (.int (Int32.ofInt u2_))]) rfl (by decide) rfl (zdal_p dlB_Group_repeatsOf_9 (i := 13) rfl) ?_
          refine zr_iinc (pc := 21) (i := 3) (a := u2_) (n := 1) (L2 := [some (.ref (d_ + 1)), some (.int (Int32.ofInt a0_)), some (.int (Int32.ofInt v5_)), some (.int (Int32.ofInt (u2_ + 1)))]) rfl (by decide) rfl (zdal_p dlB_Group_repeatsOf_9 (i := 14) rfl) ?_
          obtain ⟨v6_, hv6_a, hv6_b, hv6_e, hv6_d⟩ := zk_gen (u2_ + 1)
          rw [hv6_e]
          refine zw_goto (pc := 24) (tgt := 4) (by decide) (zdal_p dlB_Group_repeatsOf_9 (i := 15) rfl) ?_
          exact ih_4 v5_ hv5_a hv5_b v6_ hv6_a hv6_b (show 1 ≤ v6_ by first | with_reducible assumption | assumption | omega) (by omega)
  exact lp_4 _ a0_ ha0_a ha0_b 1 (by decide) (by decide) (show 1 ≤ (1 : Int) by first | with_reducible assumption | assumption | omega) (Nat.lt_succ_self _)
set_option maxHeartbeats 4000000 in
theorem u_T_orderX (l : Launch) (d_ : Nat) (Mz : zMem) (hW : zKW d_ Mz) (hnow : zf Mz 0 2 = some (d_ + 0)) (a0_ : Int) (ha0_a : -2147483648 ≤ a0_) (ha0_b : a0_ < 2147483648) : zC l m_T_order 0 0 [.ref 0, .int (Int32.ofInt a0_)] Mz (zqcI d_ [] [] [] [] Mz (fun v N => True)) := by
  refine zC_of (L0 := [some (.ref 0), some (.int (Int32.ofInt a0_))]) md_T_order (Nat.le_of_ble_eq_true rfl) rfl ?_ zQ0
  have hf : zFc d_ [] [] [] [] Mz Mz := zFc.rf
  refine zw_aload_n (pc := 0) (n := 0) (x := 0) rfl (zdal_p dlB_T_order_8 (i := 0) rfl) ?_
  refine zw_getF (pc := 1) f_T_28 rfl ((hf.w hW).ka (o := 0) (by decide)) (hf.now hnow) (zdal_p dlB_T_order_8 (i := 1) rfl) ?_
  refine zw_getF (pc := 4) f_T_61 rfl ((hf.w hW).kr (o := 0) (by decide)) ((hf.w hW).lr (o := 0) (s := 0) (r := 1) (by decide)) (zdal_p dlB_T_order_8 (i := 2) rfl) ?_
  refine zw_iload_n (pc := 7) (n := 1) (x := Int32.ofInt a0_) rfl (zdal_p dlB_T_order_8 (i := 3) rfl) ?_
  refine zk_callV hf.x (pc := 8) [.int (Int32.ofInt a0_)] [] l_T_108 (u_Group_hasMemberX l d_ Mz (hf.w hW) a0_ ha0_a ha0_b) rfl rfl ((hf.w hW).kr (o := 1) (by decide)) (by decide) (by decide) (Nat.le_of_ble_eq_true rfl) (zdal_p dlB_T_order_8 (i := 4) rfl) ?_
  rintro _ N1_ ⟨v2_, rfl, ⟨hv2_a, hv2_b⟩, hsN1_, hp0_N1_⟩
  obtain rfl := hsN1_.eq.symm
  replace hp0_N1_ : (v2_ = 0 ∨ v2_ = 1) := hp0_N1_
  show zW l m_T_order (zn Mz + 0, zw Mz + 0) Mz 11 [some (.ref 0), some (.int (Int32.ofInt a0_))] [.int (Int32.ofInt v2_)] _
  refine zr_if_eq (pc := 11) (tgt := 28) ⟨hv2_a, hv2_b⟩ (by decide) (zdal_p dlB_T_order_8 (i := 5) rfl) (fun hc_11 => ?_) (fun hc_11 => ?_)
  · skip
    refine zw_iconst (pc := 28) (v := Int32.ofInt (-1)) (by decide) (zdal_p dlB_T_order_8 (i := 12) rfl) ?_
    exact zk_iret (pc := 29) (ty := .int) rfl rfl ⟨by omega, by omega⟩ hf trivial (zdal_p dlB_T_order_8 (i := 13) rfl)
  · skip
    refine zw_aload_n (pc := 14) (n := 0) (x := 0) rfl (zdal_p dlB_T_order_8 (i := 6) rfl) ?_
    refine zw_getF (pc := 15) f_T_28 rfl ((hf.w hW).ka (o := 0) (by decide)) (hf.now hnow) (zdal_p dlB_T_order_8 (i := 7) rfl) ?_
    refine zw_getF (pc := 18) f_T_61 rfl ((hf.w hW).kr (o := 0) (by decide)) ((hf.w hW).lr (o := 0) (s := 0) (r := 1) (by decide)) (zdal_p dlB_T_order_8 (i := 8) rfl) ?_
    refine zw_iload_n (pc := 21) (n := 1) (x := Int32.ofInt a0_) rfl (zdal_p dlB_T_order_8 (i := 9) rfl) ?_
    refine zk_callV hf.x (pc := 22) [.int (Int32.ofInt a0_)] [] l_T_131 (u_Group_repeatsOfX l d_ Mz (hf.w hW) a0_ ha0_a ha0_b) rfl rfl ((hf.w hW).kr (o := 1) (by decide)) (by decide) (by decide) (Nat.le_of_ble_eq_true rfl) (zdal_p dlB_T_order_8 (i := 10) rfl) ?_
    rintro _ N3_ ⟨v4_, rfl, ⟨hv4_a, hv4_b⟩, hsN3_, -⟩
    obtain rfl := hsN3_.eq.symm
    show zW l m_T_order (zn Mz + 0, zw Mz + 0) Mz 25 [some (.ref 0), some (.int (Int32.ofInt a0_))] [.int (Int32.ofInt v4_)] _
    refine zw_goto (pc := 25) (tgt := 29) (by decide) (zdal_p dlB_T_order_8 (i := 11) rfl) ?_
    exact zk_iret (pc := 29) (ty := .int) rfl rfl ⟨by omega, by omega⟩ hf trivial (zdal_p dlB_T_order_8 (i := 13) rfl)
set_option maxHeartbeats 4000000 in
theorem u_Group_spanOfX (l : Launch) (d_ : Nat) (Mz : zMem) (hW : zKW d_ Mz) (a0_ : Int) (ha0_a : -2147483648 ≤ a0_) (ha0_b : a0_ < 2147483648) : zC l m_Group_spanOf 0 0 [.ref (d_ + 1), .int (Int32.ofInt a0_)] Mz (zqcI d_ [] [] [] [11] Mz (fun v N => True)) := by
  refine zC_of (L0 := [some (.ref (d_ + 1)), some (.int (Int32.ofInt a0_)), none, none, none, none, none]) md_Group_spanOf (Nat.le_of_ble_eq_true rfl) rfl ?_ zQ0
  have hf : zFc d_ [] [] [] [11] Mz Mz := zFc.rf
  refine zw_iconst (pc := 0) (v := Int32.ofInt 1) (by decide) (zdal_p dlA_Group_spanOf_36 (i := 0) rfl) ?_
  refine zw_istore_n (pc := 1) (i := 2) (L2 := [some (.ref (d_ + 1)), some (.int (Int32.ofInt a0_)), some (.int (Int32.ofInt 1)), none, none, none, none]) rfl (by decide) rfl (zdal_p dlA_Group_spanOf_36 (i := 1) rfl) ?_
  refine zw_iconst (pc := 2) (v := Int32.ofInt 1) (by decide) (zdal_p dlA_Group_spanOf_36 (i := 2) rfl) ?_
  refine zw_istore_n (pc := 3) (i := 3) (L2 := [some (.ref (d_ + 1)), some (.int (Int32.ofInt a0_)), some (.int (Int32.ofInt 1)), some (.int (Int32.ofInt 1)), none, none, none]) rfl (by decide) rfl (zdal_p dlA_Group_spanOf_36 (i := 3) rfl) ?_
  refine zw_aload_n (pc := 4) (n := 0) (x := (d_ + 1)) rfl (zdal_p dlA_Group_spanOf_36 (i := 4) rfl) ?_
  refine zw_getF (pc := 5) f_Group_29 rfl ((hf.w hW).kr (o := 1) (by decide)) ((hf.w hW).lr (o := 1) (s := 4) (r := 10) (by decide)) (zdal_p dlA_Group_spanOf_36 (i := 5) rfl) ?_
  refine zw_iconst (pc := 8) (v := Int32.ofInt 0) (by decide) (zdal_p dlA_Group_spanOf_36 (i := 6) rfl) ?_
  refine zw_iconst (pc := 9) (v := Int32.ofInt 0) (by decide) (zdal_p dlA_Group_spanOf_36 (i := 7) rfl) ?_
  refine zk_stG hf.x (pc := 10) (o := 11) (by decide) l_Group_46 ((hf.w hW).kr (o := 10) (by decide)) ((hf.w hW).lr (o := 10) (s := 0) (r := 11) (by decide)) ((hf.w hW).rr (o := 11) (t := 1) (n := 24) (by decide)) (by decide) ⟨by omega, by omega⟩ (by decide) (Nat.le_of_ble_eq_true rfl) (zdal_p dlA_Group_spanOf_36 (i := 8) rfl) (fun N1_ hsN1_ => ?_)
  have hf_N1_ : zFc d_ [] [] [] [11] Mz N1_ := hf.tr hsN1_ (by decide) (by decide) (by decide) (by decide)
  refine zw_iconst (pc := 13) (v := Int32.ofInt 0) (by decide) (zdal_p dlA_Group_spanOf_36 (i := 9) rfl) ?_
  refine zw_istore (pc := 14) (i := 4) (L2 := [some (.ref (d_ + 1)), some (.int (Int32.ofInt a0_)), some (.int (Int32.ofInt 1)), some (.int (Int32.ofInt 1)), some (.int (Int32.ofInt 0)), none, none]) (by decide) rfl (zdal_p dlA_Group_spanOf_36 (i := 10) rfl) ?_
  have lp_16 : ∀ (n : Nat) (u2_ : Int) (hu2_a : -2147483648 ≤ u2_) (hu2_b : u2_ < 2147483648) (u3_ : Int) (hu3_a : -2147483648 ≤ u3_) (hu3_b : u3_ < 2147483648) (u4_ : Int) (hu4_a : -2147483648 ≤ u4_) (hu4_b : u4_ < 2147483648) (N5_ : zMem) (hs6_ : zFc d_ [] [] [] [11] N1_ N5_) (i7_ : 0 ≤ u4_), (24 - u4_).toNat < n → zW l m_Group_spanOf (zn Mz + 0, zw Mz + 0) N5_ 16 [some (.ref (d_ + 1)), some (.int (Int32.ofInt a0_)), some (.int (Int32.ofInt u2_)), some (.int (Int32.ofInt u3_)), some (.int (Int32.ofInt u4_)), none, none] [] (zqcI d_ [] [] [] [11] Mz (fun v N => True)) := by
    intro n
    induction n with
    | zero =>
      intro u2_ hu2_a hu2_b u3_ hu3_a hu3_b u4_ hu4_a hu4_b N5_ hs6_ i7_ h0
      exact absurd h0 (Nat.not_lt_zero _)
    | succ n ih_16 =>
      intro u2_ hu2_a hu2_b u3_ hu3_a hu3_b u4_ hu4_a hu4_b N5_ hs6_ i7_ hlt_16
      have hf_N5_ : zFc d_ [] [] [] [11] Mz N5_ := hf_N1_.tr hs6_ (by decide) (by decide) (by decide) (by decide)
      refine zw_iload (pc := 16) (i := 4) (x := Int32.ofInt u4_) rfl (zdal_p dlA_Group_spanOf_36 (i := 11) rfl) ?_
      refine zw_iload_n (pc := 18) (n := 3) (x := Int32.ofInt u3_) rfl (zdal_p dlA_Group_spanOf_36 (i := 12) rfl) ?_
      refine zr_icmp_ge (pc := 19) (tgt := 112) ⟨hu4_a, hu4_b⟩ ⟨hu3_a, hu3_b⟩ (by decide) (zdal_p dlA_Group_spanOf_36 (i := 13) rfl) (fun hc_19 => ?_) (fun hc_19 => ?_)
      · skip
        refine zw_iload_n (pc := 112) (n := 2) (x := Int32.ofInt u2_) rfl (zdal_p dlA_Group_spanOf_38 (i := 9) rfl) ?_
        exact zk_iret (pc := 113) (ty := .int) rfl rfl ⟨by omega, by omega⟩ hf_N5_ trivial (zdal_p dlA_Group_spanOf_38 (i := 10) rfl)
      · skip
        refine zw_iload (pc := 22) (i := 4) (x := Int32.ofInt u4_) rfl (zdal_p dlA_Group_spanOf_36 (i := 14) rfl) ?_
        refine zw_bipush (pc := 24) (v := Int32.ofInt 24) (by decide) (zdal_p dlA_Group_spanOf_36 (i := 15) rfl) ?_
        refine zr_icmp_ge (pc := 26) (tgt := 112) ⟨hu4_a, hu4_b⟩ ⟨(by decide), (by decide)⟩ (by decide) (zdal_p dlA_Group_spanOf_36 (i := 16) rfl) (fun hc_26 => ?_) (fun hc_26 => ?_)
        · skip
          refine zw_iload_n (pc := 112) (n := 2) (x := Int32.ofInt u2_) rfl (zdal_p dlA_Group_spanOf_38 (i := 9) rfl) ?_
          exact zk_iret (pc := 113) (ty := .int) rfl rfl ⟨by omega, by omega⟩ hf_N5_ trivial (zdal_p dlA_Group_spanOf_38 (i := 10) rfl)
        · skip
          refine zw_iconst (pc := 29) (v := Int32.ofInt 0) (by decide) (zdal_p dlA_Group_spanOf_36 (i := 17) rfl) ?_
          refine zw_istore (pc := 30) (i := 5) (L2 := [some (.ref (d_ + 1)), some (.int (Int32.ofInt a0_)), some (.int (Int32.ofInt u2_)), some (.int (Int32.ofInt u3_)), some (.int (Int32.ofInt u4_)), some (.int (Int32.ofInt 0)), none]) (by decide) rfl (zdal_p dlA_Group_spanOf_36 (i := 18) rfl) ?_
          have lp_32 : ∀ (n : Nat) (u8_ : Int) (hu8_a : -2147483648 ≤ u8_) (hu8_b : u8_ < 2147483648) (u9_ : Int) (hu9_a : -2147483648 ≤ u9_) (hu9_b : u9_ < 2147483648) (u10_ : Int) (hu10_a : -2147483648 ≤ u10_) (hu10_b : u10_ < 2147483648) (N11_ : zMem) (hs12_ : zFc d_ [] [] [] [11] N5_ N11_) (i13_ : 0 ≤ u10_), (ze Mz (d_ + 1) 7 - u10_).toNat < n → zW l m_Group_spanOf (zn Mz + 0, zw Mz + 0) N11_ 32 [some (.ref (d_ + 1)), some (.int (Int32.ofInt a0_)), some (.int (Int32.ofInt u8_)), some (.int (Int32.ofInt u9_)), some (.int (Int32.ofInt u4_)), some (.int (Int32.ofInt u10_)), none] [] (zqcI d_ [] [] [] [11] Mz (fun v N => True)) := by
            intro n
            induction n with
            | zero =>
              intro u8_ hu8_a hu8_b u9_ hu9_a hu9_b u10_ hu10_a hu10_b N11_ hs12_ i13_ h0
              exact absurd h0 (Nat.not_lt_zero _)
            | succ n ih_32 =>
              intro u8_ hu8_a hu8_b u9_ hu9_a hu9_b u10_ hu10_a hu10_b N11_ hs12_ i13_ hlt_32
              have hf_N11_ : zFc d_ [] [] [] [11] Mz N11_ := hf_N5_.tr hs12_ (by decide) (by decide) (by decide) (by decide)
              have hb0_N11_ : zFc d_ [] [] [] [11] N1_ N11_ := hs6_.tr hs12_ (by decide) (by decide) (by decide) (by decide)
              refine zw_iload (pc := 32) (i := 5) (x := Int32.ofInt u10_) rfl (zdal_p dlA_Group_spanOf_36 (i := 19) rfl) ?_
              refine zw_aload_n (pc := 34) (n := 0) (x := (d_ + 1)) rfl (zdal_p dlA_Group_spanOf_36 (i := 20) rfl) ?_
              refine zk_getI (pc := 35) f_Group_39 rfl ((hf_N11_.w hW).kr (o := 1) (by decide)) (zdal_p dlA_Group_spanOf_36 (i := 21) rfl) ?_
              rw [hf_N11_.e (by decide)]
              have hr14_ := ze_r Mz (d_ + 1) 7
              refine zr_icmp_ge (pc := 38) (tgt := 106) ⟨hu10_a, hu10_b⟩ ⟨(ze_r Mz (d_ + 1) 7).1, (ze_r Mz (d_ + 1) 7).2⟩ (by decide) (zdal_p dlA_Group_spanOf_36 (i := 22) rfl) (fun hc_38 => ?_) (fun hc_38 => ?_)
              · skip
                refine zr_iinc (pc := 106) (i := 4) (a := u4_) (n := 1) (L2 := [some (.ref (d_ + 1)), some (.int (Int32.ofInt a0_)), some (.int (Int32.ofInt u8_)), some (.int (Int32.ofInt u9_)), some (.int (Int32.ofInt (u4_ + 1))), some (.int (Int32.ofInt u10_)), none]) rfl (by decide) rfl (zdal_p dlA_Group_spanOf_38 (i := 7) rfl) ?_
                obtain ⟨v15_, hv15_a, hv15_b, hv15_e, hv15_d⟩ := zk_gen (u4_ + 1)
                rw [hv15_e]
                refine zw_goto (pc := 109) (tgt := 16) (by decide) (zdal_p dlA_Group_spanOf_38 (i := 8) rfl) ?_
                refine zW_le [some (.ref (d_ + 1)), some (.int (Int32.ofInt a0_)), some (.int (Int32.ofInt u8_)), some (.int (Int32.ofInt u9_)), some (.int (Int32.ofInt v15_)), none, none] (⟨rfl, rfl, rfl, rfl, rfl, trivial⟩) ?_
                exact ih_16 u8_ hu8_a hu8_b u9_ hu9_a hu9_b v15_ hv15_a hv15_b N11_ hb0_N11_ (show 0 ≤ v15_ by first | with_reducible assumption | assumption | omega) (by omega)
              · skip
                refine zw_iload_n (pc := 41) (n := 1) (x := Int32.ofInt a0_) rfl (zdal_p dlA_Group_spanOf_36 (i := 23) rfl) ?_
                refine zw_iload (pc := 42) (i := 5) (x := Int32.ofInt u10_) rfl (zdal_p dlA_Group_spanOf_37 (i := 0) rfl) ?_
                refine zr_callS hf_N11_.x (pc := 44) [.int (Int32.ofInt a0_), .int (Int32.ofInt u10_)] [] l_Group_73 (u_T_isInX l d_ N11_ (hf_N11_.w hW) a0_ ha0_a ha0_b u10_ hu10_a hu10_b) rfl rfl (by decide) (Nat.le_of_ble_eq_true rfl) (zdal_p dlA_Group_spanOf_37 (i := 1) rfl) ?_
                rintro _ N16_ ⟨v17_, rfl, ⟨hv17_a, hv17_b⟩, hsN16_, hp0_N16_⟩
                obtain rfl := hsN16_.eq.symm
                replace hp0_N16_ : (v17_ = 0 ∨ v17_ = 1) := hp0_N16_
                show zW l m_Group_spanOf (zn Mz + 0, zw Mz + 0) N11_ 47 [some (.ref (d_ + 1)), some (.int (Int32.ofInt a0_)), some (.int (Int32.ofInt u8_)), some (.int (Int32.ofInt u9_)), some (.int (Int32.ofInt u4_)), some (.int (Int32.ofInt u10_)), none] [.int (Int32.ofInt v17_)] _
                refine zr_if_eq (pc := 47) (tgt := 68) ⟨hv17_a, hv17_b⟩ (by decide) (zdal_p dlA_Group_spanOf_37 (i := 2) rfl) (fun hc_47 => ?_) (fun hc_47 => ?_)
                · skip
                  refine zw_iconst (pc := 68) (v := Int32.ofInt 0) (by decide) (zdal_p dlA_Group_spanOf_37 (i := 11) rfl) ?_
                  refine zw_istore (pc := 69) (i := 6) (L2 := [some (.ref (d_ + 1)), some (.int (Int32.ofInt a0_)), some (.int (Int32.ofInt u8_)), some (.int (Int32.ofInt u9_)), some (.int (Int32.ofInt u4_)), some (.int (Int32.ofInt u10_)), some (.int (Int32.ofInt 0))]) (by decide) rfl (zdal_p dlA_Group_spanOf_37 (i := 12) rfl) ?_
                  refine zw_iload_n (pc := 71) (n := 2) (x := Int32.ofInt u8_) rfl (zdal_p dlA_Group_spanOf_37 (i := 13) rfl) ?_
                  refine zw_iload (pc := 72) (i := 6) (x := Int32.ofInt 0) rfl (zdal_p dlA_Group_spanOf_37 (i := 14) rfl) ?_
                  refine zr_callS hf_N11_.x (pc := 74) [.int (Int32.ofInt u8_), .int (Int32.ofInt 0)] [] l_Group_73 (u_T_isInX l d_ N11_ (hf_N11_.w hW) u8_ hu8_a hu8_b 0 (by decide) (by decide)) rfl rfl (by decide) (Nat.le_of_ble_eq_true rfl) (zdal_p dlA_Group_spanOf_37 (i := 15) rfl) ?_
                  rintro _ N18_ ⟨v19_, rfl, ⟨hv19_a, hv19_b⟩, hsN18_, hp0_N18_⟩
                  obtain rfl := hsN18_.eq.symm
                  replace hp0_N18_ : (v19_ = 0 ∨ v19_ = 1) := hp0_N18_
                  show zW l m_Group_spanOf (zn Mz + 0, zw Mz + 0) N11_ 77 [some (.ref (d_ + 1)), some (.int (Int32.ofInt a0_)), some (.int (Int32.ofInt u8_)), some (.int (Int32.ofInt u9_)), some (.int (Int32.ofInt u4_)), some (.int (Int32.ofInt u10_)), some (.int (Int32.ofInt 0))] [.int (Int32.ofInt v19_)] _
                  refine zr_if_ne (pc := 77) (tgt := 100) ⟨hv19_a, hv19_b⟩ (by decide) d_Group_spanOf_77 (fun hc_77 => ?_) (fun hc_77 => ?_)
                  · skip
                    refine zr_iinc (pc := 100) (i := 5) (a := u10_) (n := 1) (L2 := [some (.ref (d_ + 1)), some (.int (Int32.ofInt a0_)), some (.int (Int32.ofInt u8_)), some (.int (Int32.ofInt u9_)), some (.int (Int32.ofInt u4_)), some (.int (Int32.ofInt (u10_ + 1))), some (.int (Int32.ofInt 0))]) rfl (by decide) rfl d_Group_spanOf_100 ?_
                    obtain ⟨v20_, hv20_a, hv20_b, hv20_e, hv20_d⟩ := zk_gen (u10_ + 1)
                    rw [hv20_e]
                    refine zw_goto (pc := 103) (tgt := 32) (by decide) d_Group_spanOf_103 ?_
                    refine zW_le [some (.ref (d_ + 1)), some (.int (Int32.ofInt a0_)), some (.int (Int32.ofInt u8_)), some (.int (Int32.ofInt u9_)), some (.int (Int32.ofInt u4_)), some (.int (Int32.ofInt v20_)), none] (⟨rfl, rfl, rfl, rfl, rfl, rfl, trivial⟩) ?_
                    exact ih_32 u8_ hu8_a hu8_b u9_ hu9_a hu9_b v20_ hv20_a hv20_b N11_ hs12_ (show 0 ≤ v20_ by first | with_reducible assumption | assumption | omega) (by omega)
                  · skip
                    refine zw_iload_n (pc := 80) (n := 2) (x := Int32.ofInt u8_) rfl (zdal_p dlA_Group_spanOf_37 (i := 17) rfl) ?_
                    refine zw_iconst (pc := 81) (v := Int32.ofInt 1) (by decide) (zdal_p dlA_Group_spanOf_37 (i := 18) rfl) ?_
                    refine zw_iload (pc := 82) (i := 6) (x := Int32.ofInt 0) rfl (zdal_p dlA_Group_spanOf_37 (i := 19) rfl) ?_
                    refine zr_ishl (pc := 84) (zdal_p dlA_Group_spanOf_37 (i := 20) rfl) ?_
                    have hr21_ := zshl_r 1 0
                    refine zr_nmI (fun v22_ hv22_ => ?_)
                    obtain ⟨hv22_a, hv22_b⟩ := hv22_
                    refine zr_ior (pc := 85) (zdal_p dlA_Group_spanOf_37 (i := 21) rfl) ?_
                    have hr23_ := zor_r u8_ v22_
                    refine zr_nmI (fun v24_ hv24_ => ?_)
                    obtain ⟨hv24_a, hv24_b⟩ := hv24_
                    refine zw_istore_n (pc := 86) (i := 2) (L2 := [some (.ref (d_ + 1)), some (.int (Int32.ofInt a0_)), some (.int (Int32.ofInt v24_)), some (.int (Int32.ofInt u9_)), some (.int (Int32.ofInt u4_)), some (.int (Int32.ofInt u10_)), some (.int (Int32.ofInt 0))]) rfl (by decide) rfl (zdal_p dlA_Group_spanOf_37 (i := 22) rfl) ?_
                    refine zw_aload_n (pc := 87) (n := 0) (x := (d_ + 1)) rfl (zdal_p dlA_Group_spanOf_37 (i := 23) rfl) ?_
                    refine zw_getF (pc := 88) f_Group_29 rfl ((hf_N11_.w hW).kr (o := 1) (by decide)) ((hf_N11_.w hW).lr (o := 1) (s := 4) (r := 10) (by decide)) (zdal_p dlA_Group_spanOf_38 (i := 0) rfl) ?_
                    refine zw_iload_n (pc := 91) (n := 3) (x := Int32.ofInt u9_) rfl (zdal_p dlA_Group_spanOf_38 (i := 1) rfl) ?_
                    refine zw_iload (pc := 92) (i := 6) (x := Int32.ofInt 0) rfl (zdal_p dlA_Group_spanOf_38 (i := 2) rfl) ?_
                    refine zk_stG hf_N11_.x (pc := 94) (o := 11) (by decide) l_Group_46 ((hf_N11_.w hW).kr (o := 10) (by decide)) ((hf_N11_.w hW).lr (o := 10) (s := 0) (r := 11) (by decide)) ((hf_N11_.w hW).rr (o := 11) (t := 1) (n := 24) (by decide)) (by decide) ⟨by omega, by omega⟩ (by decide) (Nat.le_of_ble_eq_true rfl) (zdal_p dlA_Group_spanOf_38 (i := 3) rfl) (fun N25_ hsN25_ => ?_)
                    have hf_N25_ : zFc d_ [] [] [] [11] Mz N25_ := hf_N11_.tr hsN25_ (by decide) (by decide) (by decide) (by decide)
                    have hb0_N25_ : zFc d_ [] [] [] [11] N1_ N25_ := hb0_N11_.tr hsN25_ (by decide) (by decide) (by decide) (by decide)
                    have hb1_N25_ : zFc d_ [] [] [] [11] N5_ N25_ := hs12_.tr hsN25_ (by decide) (by decide) (by decide) (by decide)
                    refine zr_iinc (pc := 97) (i := 3) (a := u9_) (n := 1) (L2 := [some (.ref (d_ + 1)), some (.int (Int32.ofInt a0_)), some (.int (Int32.ofInt v24_)), some (.int (Int32.ofInt (u9_ + 1))), some (.int (Int32.ofInt u4_)), some (.int (Int32.ofInt u10_)), some (.int (Int32.ofInt 0))]) rfl (by decide) rfl (zdal_p dlA_Group_spanOf_38 (i := 4) rfl) ?_
                    obtain ⟨v26_, hv26_a, hv26_b, hv26_e, hv26_d⟩ := zk_gen (u9_ + 1)
                    rw [hv26_e]
                    refine zr_iinc (pc := 100) (i := 5) (a := u10_) (n := 1) (L2 := [some (.ref (d_ + 1)), some (.int (Int32.ofInt a0_)), some (.int (Int32.ofInt v24_)), some (.int (Int32.ofInt v26_)), some (.int (Int32.ofInt u4_)), some (.int (Int32.ofInt (u10_ + 1))), some (.int (Int32.ofInt 0))]) rfl (by decide) rfl d_Group_spanOf_100 ?_
                    obtain ⟨v27_, hv27_a, hv27_b, hv27_e, hv27_d⟩ := zk_gen (u10_ + 1)
                    rw [hv27_e]
                    refine zw_goto (pc := 103) (tgt := 32) (by decide) d_Group_spanOf_103 ?_
                    refine zW_le [some (.ref (d_ + 1)), some (.int (Int32.ofInt a0_)), some (.int (Int32.ofInt v24_)), some (.int (Int32.ofInt v26_)), some (.int (Int32.ofInt u4_)), some (.int (Int32.ofInt v27_)), none] (⟨rfl, rfl, rfl, rfl, rfl, rfl, trivial⟩) ?_
                    exact ih_32 v24_ hv24_a hv24_b v26_ hv26_a hv26_b v27_ hv27_a hv27_b N25_ hb1_N25_ (show 0 ≤ v27_ by first | with_reducible assumption | assumption | omega) (by omega)
                · skip
                  refine zw_aload_n (pc := 50) (n := 0) (x := (d_ + 1)) rfl (zdal_p dlA_Group_spanOf_37 (i := 3) rfl) ?_
                  refine zw_aload_n (pc := 51) (n := 0) (x := (d_ + 1)) rfl (zdal_p dlA_Group_spanOf_37 (i := 4) rfl) ?_
                  refine zw_getF (pc := 52) f_Group_29 rfl ((hf_N11_.w hW).kr (o := 1) (by decide)) ((hf_N11_.w hW).lr (o := 1) (s := 4) (r := 10) (by decide)) (zdal_p dlA_Group_spanOf_37 (i := 5) rfl) ?_
                  refine zw_iload (pc := 55) (i := 4) (x := Int32.ofInt u4_) rfl (zdal_p dlA_Group_spanOf_37 (i := 6) rfl) ?_
                  refine zk_atG hf_N11_.x (pc := 57) l_Group_54 ((hf_N11_.w hW).kr (o := 10) (by decide)) ((hf_N11_.w hW).lr (o := 10) (s := 0) (r := 11) (by decide)) ((hf_N11_.w hW).rr (o := 11) (t := 1) (n := 24) (by decide)) (by decide) ⟨by omega, by omega⟩ (by decide) (Nat.le_of_ble_eq_true rfl) (zdal_p dlA_Group_spanOf_37 (i := 7) rfl) (fun v28_ hv28_ hv28_a hv28_b => ?_)
                  clear hv28_
                  refine zw_iload (pc := 60) (i := 5) (x := Int32.ofInt u10_) rfl (zdal_p dlA_Group_spanOf_37 (i := 8) rfl) ?_
                  refine zk_callV hf_N11_.x (pc := 62) [.int (Int32.ofInt v28_), .int (Int32.ofInt u10_)] [] l_Group_67 (u_Group_bothX l d_ N11_ (hf_N11_.w hW) v28_ hv28_a hv28_b u10_ hu10_a hu10_b) rfl rfl ((hf_N11_.w hW).kr (o := 1) (by decide)) (by decide) (by decide) (Nat.le_of_ble_eq_true rfl) (zdal_p dlA_Group_spanOf_37 (i := 9) rfl) ?_
                  rintro _ N29_ ⟨v30_, rfl, ⟨hv30_a, hv30_b⟩, hsN29_, -⟩
                  obtain rfl := hsN29_.eq.symm
                  show zW l m_Group_spanOf (zn Mz + 0, zw Mz + 0) N11_ 65 [some (.ref (d_ + 1)), some (.int (Int32.ofInt a0_)), some (.int (Int32.ofInt u8_)), some (.int (Int32.ofInt u9_)), some (.int (Int32.ofInt u4_)), some (.int (Int32.ofInt u10_)), none] [.int (Int32.ofInt v30_)] _
                  refine zw_goto (pc := 65) (tgt := 69) (by decide) (zdal_p dlA_Group_spanOf_37 (i := 10) rfl) ?_
                  refine zw_istore (pc := 69) (i := 6) (L2 := [some (.ref (d_ + 1)), some (.int (Int32.ofInt a0_)), some (.int (Int32.ofInt u8_)), some (.int (Int32.ofInt u9_)), some (.int (Int32.ofInt u4_)), some (.int (Int32.ofInt u10_)), some (.int (Int32.ofInt v30_))]) (by decide) rfl (zdal_p dlA_Group_spanOf_37 (i := 12) rfl) ?_
                  refine zw_iload_n (pc := 71) (n := 2) (x := Int32.ofInt u8_) rfl (zdal_p dlA_Group_spanOf_37 (i := 13) rfl) ?_
                  refine zw_iload (pc := 72) (i := 6) (x := Int32.ofInt v30_) rfl (zdal_p dlA_Group_spanOf_37 (i := 14) rfl) ?_
                  refine zr_callS hf_N11_.x (pc := 74) [.int (Int32.ofInt u8_), .int (Int32.ofInt v30_)] [] l_Group_73 (u_T_isInX l d_ N11_ (hf_N11_.w hW) u8_ hu8_a hu8_b v30_ hv30_a hv30_b) rfl rfl (by decide) (Nat.le_of_ble_eq_true rfl) (zdal_p dlA_Group_spanOf_37 (i := 15) rfl) ?_
                  rintro _ N31_ ⟨v32_, rfl, ⟨hv32_a, hv32_b⟩, hsN31_, hp0_N31_⟩
                  obtain rfl := hsN31_.eq.symm
                  replace hp0_N31_ : (v32_ = 0 ∨ v32_ = 1) := hp0_N31_
                  show zW l m_Group_spanOf (zn Mz + 0, zw Mz + 0) N11_ 77 [some (.ref (d_ + 1)), some (.int (Int32.ofInt a0_)), some (.int (Int32.ofInt u8_)), some (.int (Int32.ofInt u9_)), some (.int (Int32.ofInt u4_)), some (.int (Int32.ofInt u10_)), some (.int (Int32.ofInt v30_))] [.int (Int32.ofInt v32_)] _
                  refine zr_if_ne (pc := 77) (tgt := 100) ⟨hv32_a, hv32_b⟩ (by decide) d_Group_spanOf_77 (fun hc_77 => ?_) (fun hc_77 => ?_)
                  · skip
                    refine zr_iinc (pc := 100) (i := 5) (a := u10_) (n := 1) (L2 := [some (.ref (d_ + 1)), some (.int (Int32.ofInt a0_)), some (.int (Int32.ofInt u8_)), some (.int (Int32.ofInt u9_)), some (.int (Int32.ofInt u4_)), some (.int (Int32.ofInt (u10_ + 1))), some (.int (Int32.ofInt v30_))]) rfl (by decide) rfl d_Group_spanOf_100 ?_
                    obtain ⟨v33_, hv33_a, hv33_b, hv33_e, hv33_d⟩ := zk_gen (u10_ + 1)
                    rw [hv33_e]
                    refine zw_goto (pc := 103) (tgt := 32) (by decide) d_Group_spanOf_103 ?_
                    refine zW_le [some (.ref (d_ + 1)), some (.int (Int32.ofInt a0_)), some (.int (Int32.ofInt u8_)), some (.int (Int32.ofInt u9_)), some (.int (Int32.ofInt u4_)), some (.int (Int32.ofInt v33_)), none] (⟨rfl, rfl, rfl, rfl, rfl, rfl, trivial⟩) ?_
                    exact ih_32 u8_ hu8_a hu8_b u9_ hu9_a hu9_b v33_ hv33_a hv33_b N11_ hs12_ (show 0 ≤ v33_ by first | with_reducible assumption | assumption | omega) (by omega)
                  · skip
                    refine zw_iload_n (pc := 80) (n := 2) (x := Int32.ofInt u8_) rfl (zdal_p dlA_Group_spanOf_37 (i := 17) rfl) ?_
                    refine zw_iconst (pc := 81) (v := Int32.ofInt 1) (by decide) (zdal_p dlA_Group_spanOf_37 (i := 18) rfl) ?_
                    refine zw_iload (pc := 82) (i := 6) (x := Int32.ofInt v30_) rfl (zdal_p dlA_Group_spanOf_37 (i := 19) rfl) ?_
                    refine zr_ishl (pc := 84) (zdal_p dlA_Group_spanOf_37 (i := 20) rfl) ?_
                    have hr34_ := zshl_r 1 v30_
                    refine zr_nmI (fun v35_ hv35_ => ?_)
                    obtain ⟨hv35_a, hv35_b⟩ := hv35_
                    refine zr_ior (pc := 85) (zdal_p dlA_Group_spanOf_37 (i := 21) rfl) ?_
                    have hr36_ := zor_r u8_ v35_
                    refine zr_nmI (fun v37_ hv37_ => ?_)
                    obtain ⟨hv37_a, hv37_b⟩ := hv37_
                    refine zw_istore_n (pc := 86) (i := 2) (L2 := [some (.ref (d_ + 1)), some (.int (Int32.ofInt a0_)), some (.int (Int32.ofInt v37_)), some (.int (Int32.ofInt u9_)), some (.int (Int32.ofInt u4_)), some (.int (Int32.ofInt u10_)), some (.int (Int32.ofInt v30_))]) rfl (by decide) rfl (zdal_p dlA_Group_spanOf_37 (i := 22) rfl) ?_
                    refine zw_aload_n (pc := 87) (n := 0) (x := (d_ + 1)) rfl (zdal_p dlA_Group_spanOf_37 (i := 23) rfl) ?_
                    refine zw_getF (pc := 88) f_Group_29 rfl ((hf_N11_.w hW).kr (o := 1) (by decide)) ((hf_N11_.w hW).lr (o := 1) (s := 4) (r := 10) (by decide)) (zdal_p dlA_Group_spanOf_38 (i := 0) rfl) ?_
                    refine zw_iload_n (pc := 91) (n := 3) (x := Int32.ofInt u9_) rfl (zdal_p dlA_Group_spanOf_38 (i := 1) rfl) ?_
                    refine zw_iload (pc := 92) (i := 6) (x := Int32.ofInt v30_) rfl (zdal_p dlA_Group_spanOf_38 (i := 2) rfl) ?_
                    refine zk_stG hf_N11_.x (pc := 94) (o := 11) (by decide) l_Group_46 ((hf_N11_.w hW).kr (o := 10) (by decide)) ((hf_N11_.w hW).lr (o := 10) (s := 0) (r := 11) (by decide)) ((hf_N11_.w hW).rr (o := 11) (t := 1) (n := 24) (by decide)) (by decide) ⟨by omega, by omega⟩ (by decide) (Nat.le_of_ble_eq_true rfl) (zdal_p dlA_Group_spanOf_38 (i := 3) rfl) (fun N38_ hsN38_ => ?_)
                    have hf_N38_ : zFc d_ [] [] [] [11] Mz N38_ := hf_N11_.tr hsN38_ (by decide) (by decide) (by decide) (by decide)
                    have hb0_N38_ : zFc d_ [] [] [] [11] N1_ N38_ := hb0_N11_.tr hsN38_ (by decide) (by decide) (by decide) (by decide)
                    have hb1_N38_ : zFc d_ [] [] [] [11] N5_ N38_ := hs12_.tr hsN38_ (by decide) (by decide) (by decide) (by decide)
                    refine zr_iinc (pc := 97) (i := 3) (a := u9_) (n := 1) (L2 := [some (.ref (d_ + 1)), some (.int (Int32.ofInt a0_)), some (.int (Int32.ofInt v37_)), some (.int (Int32.ofInt (u9_ + 1))), some (.int (Int32.ofInt u4_)), some (.int (Int32.ofInt u10_)), some (.int (Int32.ofInt v30_))]) rfl (by decide) rfl (zdal_p dlA_Group_spanOf_38 (i := 4) rfl) ?_
                    obtain ⟨v39_, hv39_a, hv39_b, hv39_e, hv39_d⟩ := zk_gen (u9_ + 1)
                    rw [hv39_e]
                    refine zr_iinc (pc := 100) (i := 5) (a := u10_) (n := 1) (L2 := [some (.ref (d_ + 1)), some (.int (Int32.ofInt a0_)), some (.int (Int32.ofInt v37_)), some (.int (Int32.ofInt v39_)), some (.int (Int32.ofInt u4_)), some (.int (Int32.ofInt (u10_ + 1))), some (.int (Int32.ofInt v30_))]) rfl (by decide) rfl d_Group_spanOf_100 ?_
                    obtain ⟨v40_, hv40_a, hv40_b, hv40_e, hv40_d⟩ := zk_gen (u10_ + 1)
                    rw [hv40_e]
                    refine zw_goto (pc := 103) (tgt := 32) (by decide) d_Group_spanOf_103 ?_
                    refine zW_le [some (.ref (d_ + 1)), some (.int (Int32.ofInt a0_)), some (.int (Int32.ofInt v37_)), some (.int (Int32.ofInt v39_)), some (.int (Int32.ofInt u4_)), some (.int (Int32.ofInt v40_)), none] (⟨rfl, rfl, rfl, rfl, rfl, rfl, trivial⟩) ?_
                    exact ih_32 v37_ hv37_a hv37_b v39_ hv39_a hv39_b v40_ hv40_a hv40_b N38_ hb1_N38_ (show 0 ≤ v40_ by first | with_reducible assumption | assumption | omega) (by omega)
          exact lp_32 _ u2_ hu2_a hu2_b u3_ hu3_a hu3_b 0 (by decide) (by decide) N5_ zFc.rf (show 0 ≤ (0 : Int) by first | with_reducible assumption | assumption | omega) (Nat.lt_succ_self _)
  exact lp_16 _ 1 (by decide) (by decide) 1 (by decide) (by decide) 0 (by decide) (by decide) N1_ zFc.rf (show 0 ≤ (0 : Int) by first | with_reducible assumption | assumption | omega) (Nat.lt_succ_self _)
set_option maxHeartbeats 4000000 in
theorem u_Group_hasMembersX (l : Launch) (d_ : Nat) (Mz : zMem) (hW : zKW d_ Mz) (a0_ : Int) (ha0_a : -2147483648 ≤ a0_) (ha0_b : a0_ < 2147483648) : zC l m_Group_hasMembers 0 0 [.ref (d_ + 1), .int (Int32.ofInt a0_)] Mz (zqcI d_ [] [] [] [] Mz (fun v N => ((v = 0 ∨ v = 1)))) := by
  refine zC_of (L0 := [some (.ref (d_ + 1)), some (.int (Int32.ofInt a0_))]) md_Group_hasMembers (Nat.le_of_ble_eq_true rfl) rfl ?_ zQ0
  have hf : zFc d_ [] [] [] [] Mz Mz := zFc.rf
  refine zw_iload_n (pc := 0) (n := 1) (x := Int32.ofInt a0_) rfl (zdal_p dlB_Group_hasMembers_11 (i := 0) rfl) ?_
  refine zw_aload_n (pc := 1) (n := 0) (x := (d_ + 1)) rfl (zdal_p dlB_Group_hasMembers_11 (i := 1) rfl) ?_
  refine zk_getI (pc := 2) f_Group_39 rfl ((hf.w hW).kr (o := 1) (by decide)) (zdal_p dlB_Group_hasMembers_11 (i := 2) rfl) ?_
  have hr1_ := ze_r Mz (d_ + 1) 7
  refine zr_iushr (pc := 5) (zdal_p dlB_Group_hasMembers_11 (i := 3) rfl) ?_
  refine zr_nmI (fun v2_ hv2_ => ?_)
  obtain ⟨hv2_a, hv2_b⟩ := hv2_
  refine zr_if_ne (pc := 6) (tgt := 13) ⟨hv2_a, hv2_b⟩ (by decide) (zdal_p dlB_Group_hasMembers_11 (i := 4) rfl) (fun hc_6 => ?_) (fun hc_6 => ?_)
  · skip
    refine zw_iconst (pc := 13) (v := Int32.ofInt 0) (by decide) (zdal_p dlB_Group_hasMembers_11 (i := 7) rfl) ?_
    exact zk_iret (pc := 14) (ty := .boolean) rfl (z_narB (by omega)) ⟨by omega, by omega⟩ hf (show (((0 : Int)) = 0 ∨ ((0 : Int)) = 1) by first | with_reducible assumption | assumption | omega) (zdal_p dlB_Group_hasMembers_11 (i := 8) rfl)
  · skip
    refine zw_iconst (pc := 9) (v := Int32.ofInt 1) (by decide) (zdal_p dlB_Group_hasMembers_11 (i := 5) rfl) ?_
    refine zw_goto (pc := 10) (tgt := 14) (by decide) (zdal_p dlB_Group_hasMembers_11 (i := 6) rfl) ?_
    exact zk_iret (pc := 14) (ty := .boolean) rfl (z_narB (by omega)) ⟨by omega, by omega⟩ hf (show (((1 : Int)) = 0 ∨ ((1 : Int)) = 1) by first | with_reducible assumption | assumption | omega) (zdal_p dlB_Group_hasMembers_11 (i := 8) rfl)
set_option maxHeartbeats 4000000 in
theorem u_T_makesOfX (l : Launch) (d_ : Nat) (Mz : zMem) (hW : zKW d_ Mz) (hnow : zf Mz 0 2 = some (d_ + 0)) (a0_ : Int) (ha0_a : -2147483648 ≤ a0_) (ha0_b : a0_ < 2147483648) : zC l m_T_makesOf 0 0 [.ref 0, .int (Int32.ofInt a0_)] Mz (zqcI d_ [] [] [] [11] Mz (fun v N => True)) := by
  refine zC_of (L0 := [some (.ref 0), some (.int (Int32.ofInt a0_))]) md_T_makesOf (Nat.le_of_ble_eq_true rfl) rfl ?_ zQ0
  have hf : zFc d_ [] [] [] [11] Mz Mz := zFc.rf
  refine zw_aload_n (pc := 0) (n := 0) (x := 0) rfl (zdal_p dlB_T_makesOf_10 (i := 0) rfl) ?_
  refine zw_getF (pc := 1) f_T_28 rfl ((hf.w hW).ka (o := 0) (by decide)) (hf.now hnow) (zdal_p dlB_T_makesOf_10 (i := 1) rfl) ?_
  refine zw_getF (pc := 4) f_T_61 rfl ((hf.w hW).kr (o := 0) (by decide)) ((hf.w hW).lr (o := 0) (s := 0) (r := 1) (by decide)) (zdal_p dlB_T_makesOf_10 (i := 2) rfl) ?_
  refine zw_iload_n (pc := 7) (n := 1) (x := Int32.ofInt a0_) rfl (zdal_p dlB_T_makesOf_10 (i := 3) rfl) ?_
  refine zk_callV hf.x (pc := 8) [.int (Int32.ofInt a0_)] [] l_T_134 (u_Group_hasMembersX l d_ Mz (hf.w hW) a0_ ha0_a ha0_b) rfl rfl ((hf.w hW).kr (o := 1) (by decide)) (by decide) (by decide) (Nat.le_of_ble_eq_true rfl) (zdal_p dlB_T_makesOf_10 (i := 4) rfl) ?_
  rintro _ N1_ ⟨v2_, rfl, ⟨hv2_a, hv2_b⟩, hsN1_, hp0_N1_⟩
  obtain rfl := hsN1_.eq.symm
  replace hp0_N1_ : (v2_ = 0 ∨ v2_ = 1) := hp0_N1_
  show zW l m_T_makesOf (zn Mz + 0, zw Mz + 0) Mz 11 [some (.ref 0), some (.int (Int32.ofInt a0_))] [.int (Int32.ofInt v2_)] _
  refine zr_if_eq (pc := 11) (tgt := 28) ⟨hv2_a, hv2_b⟩ (by decide) (zdal_p dlB_T_makesOf_10 (i := 5) rfl) (fun hc_11 => ?_) (fun hc_11 => ?_)
  · skip
    refine zw_iconst (pc := 28) (v := Int32.ofInt (-1)) (by decide) (zdal_p dlB_T_makesOf_10 (i := 12) rfl) ?_
    exact zk_iret (pc := 29) (ty := .int) rfl rfl ⟨by omega, by omega⟩ hf trivial (zdal_p dlB_T_makesOf_10 (i := 13) rfl)
  · skip
    refine zw_aload_n (pc := 14) (n := 0) (x := 0) rfl (zdal_p dlB_T_makesOf_10 (i := 6) rfl) ?_
    refine zw_getF (pc := 15) f_T_28 rfl ((hf.w hW).ka (o := 0) (by decide)) (hf.now hnow) (zdal_p dlB_T_makesOf_10 (i := 7) rfl) ?_
    refine zw_getF (pc := 18) f_T_61 rfl ((hf.w hW).kr (o := 0) (by decide)) ((hf.w hW).lr (o := 0) (s := 0) (r := 1) (by decide)) (zdal_p dlB_T_makesOf_10 (i := 8) rfl) ?_
    refine zw_iload_n (pc := 21) (n := 1) (x := Int32.ofInt a0_) rfl (zdal_p dlB_T_makesOf_10 (i := 9) rfl) ?_
    refine zk_callV hf.x (pc := 22) [.int (Int32.ofInt a0_)] [] l_T_137 (u_Group_spanOfX l d_ Mz (hf.w hW) a0_ ha0_a ha0_b) rfl rfl ((hf.w hW).kr (o := 1) (by decide)) (by decide) (by decide) (Nat.le_of_ble_eq_true rfl) (zdal_p dlB_T_makesOf_10 (i := 10) rfl) ?_
    rintro _ N3_ ⟨v4_, rfl, ⟨hv4_a, hv4_b⟩, hsN3_, -⟩
    have hf_N3_ : zFc d_ [] [] [] [11] Mz N3_ := hf.tr hsN3_ (by decide) (by decide) (by decide) (by decide)
    show zW l m_T_makesOf (zn Mz + 0, zw Mz + 0) N3_ 25 [some (.ref 0), some (.int (Int32.ofInt a0_))] [.int (Int32.ofInt v4_)] _
    refine zw_goto (pc := 25) (tgt := 29) (by decide) (zdal_p dlB_T_makesOf_10 (i := 11) rfl) ?_
    exact zk_iret (pc := 29) (ty := .int) rfl rfl ⟨by omega, by omega⟩ hf_N3_ trivial (zdal_p dlB_T_makesOf_10 (i := 13) rfl)
set_option maxHeartbeats 4000000 in
theorem u_Sorts_indexOfX (l : Launch) (d_ : Nat) (Mz : zMem) (hW : zKW d_ Mz) (a0_ : Int) (ha0_a : -2147483648 ≤ a0_) (ha0_b : a0_ < 2147483648) : zC l m_Sorts_indexOf 0 0 [.ref (d_ + 12), .int (Int32.ofInt a0_)] Mz (zqcI d_ [] [] [] [] Mz (fun v N => True)) := by
  refine zC_of (L0 := [some (.ref (d_ + 12)), some (.int (Int32.ofInt a0_)), none]) md_Sorts_indexOf (Nat.le_of_ble_eq_true rfl) rfl ?_ zQ0
  have hf : zFc d_ [] [] [] [] Mz Mz := zFc.rf
  refine zw_iconst (pc := 0) (v := Int32.ofInt 0) (by decide) (zdal_p dlA_Sorts_indexOf_41 (i := 0) rfl) ?_
  refine zw_istore_n (pc := 1) (i := 2) (L2 := [some (.ref (d_ + 12)), some (.int (Int32.ofInt a0_)), some (.int (Int32.ofInt 0))]) rfl (by decide) rfl (zdal_p dlA_Sorts_indexOf_41 (i := 1) rfl) ?_
  have lp_2 : ∀ (n : Nat) (u1_ : Int) (hu1_a : -2147483648 ≤ u1_) (hu1_b : u1_ < 2147483648) (i2_ : 0 ≤ u1_), (ze Mz (d_ + 12) 6 - u1_).toNat < n → zW l m_Sorts_indexOf (zn Mz + 0, zw Mz + 0) Mz 2 [some (.ref (d_ + 12)), some (.int (Int32.ofInt a0_)), some (.int (Int32.ofInt u1_))] [] (zqcI d_ [] [] [] [] Mz (fun v N => True)) := by
    intro n
    induction n with
    | zero =>
      intro u1_ hu1_a hu1_b i2_ h0
      exact absurd h0 (Nat.not_lt_zero _)
    | succ n ih_2 =>
      intro u1_ hu1_a hu1_b i2_ hlt_2
      refine zw_iload_n (pc := 2) (n := 2) (x := Int32.ofInt u1_) rfl (zdal_p dlA_Sorts_indexOf_41 (i := 2) rfl) ?_
      refine zw_aload_n (pc := 3) (n := 0) (x := (d_ + 12)) rfl (zdal_p dlA_Sorts_indexOf_41 (i := 3) rfl) ?_
      refine zk_getI (pc := 4) f_Sorts_36 rfl ((hf.w hW).kr (o := 12) (by decide)) (zdal_p dlA_Sorts_indexOf_41 (i := 4) rfl) ?_
      have hr3_ := ze_r Mz (d_ + 12) 6
      refine zr_icmp_ge (pc := 7) (tgt := 30) ⟨hu1_a, hu1_b⟩ ⟨(ze_r Mz (d_ + 12) 6).1, (ze_r Mz (d_ + 12) 6).2⟩ (by decide) (zdal_p dlA_Sorts_indexOf_41 (i := 5) rfl) (fun hc_7 => ?_) (fun hc_7 => ?_)
      · skip
        refine zw_iconst (pc := 30) (v := Int32.ofInt (-1)) (by decide) (zdal_p dlA_Sorts_indexOf_41 (i := 16) rfl) ?_
        exact zk_iret (pc := 31) (ty := .int) rfl rfl ⟨by omega, by omega⟩ hf trivial (zdal_p dlA_Sorts_indexOf_41 (i := 17) rfl)
      · skip
        refine zw_aload_n (pc := 10) (n := 0) (x := (d_ + 12)) rfl (zdal_p dlA_Sorts_indexOf_41 (i := 6) rfl) ?_
        refine zw_getF (pc := 11) f_Sorts_14 rfl ((hf.w hW).kr (o := 12) (by decide)) ((hf.w hW).lr (o := 12) (s := 1) (r := 13) (by decide)) (zdal_p dlA_Sorts_indexOf_41 (i := 7) rfl) ?_
        refine zw_iload_n (pc := 14) (n := 2) (x := Int32.ofInt u1_) rfl (zdal_p dlA_Sorts_indexOf_41 (i := 8) rfl) ?_
        refine zk_atG hf.x (pc := 15) l_Sorts_49 ((hf.w hW).kr (o := 13) (by decide)) ((hf.w hW).lr (o := 13) (s := 0) (r := 14) (by decide)) ((hf.w hW).rr (o := 14) (t := 1) (n := 35) (by decide)) (by decide) ⟨by omega, by omega⟩ (by decide) (Nat.le_of_ble_eq_true rfl) (zdal_p dlA_Sorts_indexOf_41 (i := 9) rfl) (fun v4_ hv4_ hv4_a hv4_b => ?_)
        clear hv4_
        refine zw_iload_n (pc := 18) (n := 1) (x := Int32.ofInt a0_) rfl (zdal_p dlA_Sorts_indexOf_41 (i := 10) rfl) ?_
        refine zr_icmp_ne (pc := 19) (tgt := 24) ⟨hv4_a, hv4_b⟩ ⟨ha0_a, ha0_b⟩ (by decide) (zdal_p dlA_Sorts_indexOf_41 (i := 11) rfl) (fun hc_19 => ?_) (fun hc_19 => ?_)
        · skip
          refine zr_iinc (pc := 24) (i := 2) (a := u1_) (n := 1) (L2 := [some (.ref (d_ + 12)), some (.int (Int32.ofInt a0_)), some (.int (Int32.ofInt (u1_ + 1)))]) rfl (by decide) rfl (zdal_p dlA_Sorts_indexOf_41 (i := 14) rfl) ?_
          obtain ⟨v5_, hv5_a, hv5_b, hv5_e, hv5_d⟩ := zk_gen (u1_ + 1)
          rw [hv5_e]
          refine zw_goto (pc := 27) (tgt := 2) (by decide) (zdal_p dlA_Sorts_indexOf_41 (i := 15) rfl) ?_
          exact ih_2 v5_ hv5_a hv5_b (show 0 ≤ v5_ by first | with_reducible assumption | assumption | omega) (by omega)
        · skip
          refine zw_iload_n (pc := 22) (n := 2) (x := Int32.ofInt u1_) rfl (zdal_p dlA_Sorts_indexOf_41 (i := 12) rfl) ?_
          exact zk_iret (pc := 23) (ty := .int) rfl rfl ⟨by omega, by omega⟩ hf trivial (zdal_p dlA_Sorts_indexOf_41 (i := 13) rfl)
  exact lp_2 _ 0 (by decide) (by decide) (show 0 ≤ (0 : Int) by first | with_reducible assumption | assumption | omega) (Nat.lt_succ_self _)
set_option maxHeartbeats 4000000 in
theorem u_Sorts_spannedSortX (l : Launch) (d_ : Nat) (Mz : zMem) (hW : zKW d_ Mz) (a0_ : Int) (ha0_a : -2147483648 ≤ a0_) (ha0_b : a0_ < 2147483648) : zC l m_Sorts_spannedSort 0 0 [.ref (d_ + 12), .int (Int32.ofInt a0_)] Mz (zqcI d_ [] [] [] [11] Mz (fun v N => True)) := by
  refine zC_of (L0 := [some (.ref (d_ + 12)), some (.int (Int32.ofInt a0_))]) md_Sorts_spannedSort (Nat.le_of_ble_eq_true rfl) rfl ?_ zQ0
  have hf : zFc d_ [] [] [] [11] Mz Mz := zFc.rf
  refine zw_aload_n (pc := 0) (n := 0) (x := (d_ + 12)) rfl (zdal_p dlB_Sorts_spannedSort_13 (i := 0) rfl) ?_
  refine zw_getF (pc := 1) f_Sorts_20 rfl ((hf.w hW).kr (o := 12) (by decide)) ((hf.w hW).lr (o := 12) (s := 2) (r := 15) (by decide)) (zdal_p dlB_Sorts_spannedSort_13 (i := 1) rfl) ?_
  refine zw_aload_n (pc := 4) (n := 0) (x := (d_ + 12)) rfl (zdal_p dlB_Sorts_spannedSort_13 (i := 2) rfl) ?_
  refine zw_aload_n (pc := 5) (n := 0) (x := (d_ + 12)) rfl (zdal_p dlB_Sorts_spannedSort_13 (i := 3) rfl) ?_
  refine zw_getF (pc := 6) f_Sorts_32 rfl ((hf.w hW).kr (o := 12) (by decide)) ((hf.w hW).lr (o := 12) (s := 0) (r := 1) (by decide)) (zdal_p dlB_Sorts_spannedSort_13 (i := 4) rfl) ?_
  refine zw_iload_n (pc := 9) (n := 1) (x := Int32.ofInt a0_) rfl (zdal_p dlB_Sorts_spannedSort_13 (i := 5) rfl) ?_
  refine zk_callV hf.x (pc := 10) [.int (Int32.ofInt a0_)] [.ref (d_ + 12), .ref (d_ + 15)] l_Sorts_57 (u_Group_spanOfX l d_ Mz (hf.w hW) a0_ ha0_a ha0_b) rfl rfl ((hf.w hW).kr (o := 1) (by decide)) (by decide) (by decide) (Nat.le_of_ble_eq_true rfl) (zdal_p dlB_Sorts_spannedSort_13 (i := 6) rfl) ?_
  rintro _ N1_ ⟨v2_, rfl, ⟨hv2_a, hv2_b⟩, hsN1_, -⟩
  have hf_N1_ : zFc d_ [] [] [] [11] Mz N1_ := hf.tr hsN1_ (by decide) (by decide) (by decide) (by decide)
  show zW l m_Sorts_spannedSort (zn Mz + 0, zw Mz + 0) N1_ 13 [some (.ref (d_ + 12)), some (.int (Int32.ofInt a0_))] [.int (Int32.ofInt v2_), .ref (d_ + 12), .ref (d_ + 15)] _
  refine zk_callV hf_N1_.x (pc := 13) [.int (Int32.ofInt v2_)] [.ref (d_ + 15)] l_Sorts_72 (u_Sorts_indexOfX l d_ N1_ (hf_N1_.w hW) v2_ hv2_a hv2_b) rfl rfl ((hf_N1_.w hW).kr (o := 12) (by decide)) (by decide) (by decide) (Nat.le_of_ble_eq_true rfl) (zdal_p dlB_Sorts_spannedSort_13 (i := 7) rfl) ?_
  rintro _ N3_ ⟨v4_, rfl, ⟨hv4_a, hv4_b⟩, hsN3_, -⟩
  obtain rfl := hsN3_.eq.symm
  show zW l m_Sorts_spannedSort (zn Mz + 0, zw Mz + 0) N1_ 16 [some (.ref (d_ + 12)), some (.int (Int32.ofInt a0_))] [.int (Int32.ofInt v4_), .ref (d_ + 15)] _
  refine zk_atG hf_N1_.x (pc := 16) l_Sorts_49 ((hf_N1_.w hW).kr (o := 15) (by decide)) ((hf_N1_.w hW).lr (o := 15) (s := 0) (r := 16) (by decide)) ((hf_N1_.w hW).rr (o := 16) (t := 1) (n := 35) (by decide)) (by decide) ⟨by omega, by omega⟩ (by decide) (Nat.le_of_ble_eq_true rfl) (zdal_p dlB_Sorts_spannedSort_13 (i := 8) rfl) (fun v5_ hv5_ hv5_a hv5_b => ?_)
  clear hv5_
  exact zk_iret (pc := 19) (ty := .int) rfl rfl ⟨by omega, by omega⟩ hf_N1_ trivial (zdal_p dlB_Sorts_spannedSort_13 (i := 9) rfl)
set_option maxHeartbeats 4000000 in
theorem u_T_sortOfX (l : Launch) (d_ : Nat) (Mz : zMem) (hW : zKW d_ Mz) (hnow : zf Mz 0 2 = some (d_ + 0)) (a0_ : Int) (ha0_a : -2147483648 ≤ a0_) (ha0_b : a0_ < 2147483648) : zC l m_T_sortOf 0 0 [.ref 0, .int (Int32.ofInt a0_)] Mz (zqcI d_ [] [] [] [11] Mz (fun v N => True)) := by
  refine zC_of (L0 := [some (.ref 0), some (.int (Int32.ofInt a0_))]) md_T_sortOf (Nat.le_of_ble_eq_true rfl) rfl ?_ zQ0
  have hf : zFc d_ [] [] [] [11] Mz Mz := zFc.rf
  refine zw_aload_n (pc := 0) (n := 0) (x := 0) rfl (zdal_p dlB_T_sortOf_12 (i := 0) rfl) ?_
  refine zw_getF (pc := 1) f_T_28 rfl ((hf.w hW).ka (o := 0) (by decide)) (hf.now hnow) (zdal_p dlB_T_sortOf_12 (i := 1) rfl) ?_
  refine zw_getF (pc := 4) f_T_61 rfl ((hf.w hW).kr (o := 0) (by decide)) ((hf.w hW).lr (o := 0) (s := 0) (r := 1) (by decide)) (zdal_p dlB_T_sortOf_12 (i := 2) rfl) ?_
  refine zw_iload_n (pc := 7) (n := 1) (x := Int32.ofInt a0_) rfl (zdal_p dlB_T_sortOf_12 (i := 3) rfl) ?_
  refine zk_callV hf.x (pc := 8) [.int (Int32.ofInt a0_)] [] l_T_134 (u_Group_hasMembersX l d_ Mz (hf.w hW) a0_ ha0_a ha0_b) rfl rfl ((hf.w hW).kr (o := 1) (by decide)) (by decide) (by decide) (Nat.le_of_ble_eq_true rfl) (zdal_p dlB_T_sortOf_12 (i := 4) rfl) ?_
  rintro _ N1_ ⟨v2_, rfl, ⟨hv2_a, hv2_b⟩, hsN1_, hp0_N1_⟩
  obtain rfl := hsN1_.eq.symm
  replace hp0_N1_ : (v2_ = 0 ∨ v2_ = 1) := hp0_N1_
  show zW l m_T_sortOf (zn Mz + 0, zw Mz + 0) Mz 11 [some (.ref 0), some (.int (Int32.ofInt a0_))] [.int (Int32.ofInt v2_)] _
  refine zr_if_eq (pc := 11) (tgt := 28) ⟨hv2_a, hv2_b⟩ (by decide) (zdal_p dlB_T_sortOf_12 (i := 5) rfl) (fun hc_11 => ?_) (fun hc_11 => ?_)
  · skip
    refine zw_iconst (pc := 28) (v := Int32.ofInt (-1)) (by decide) (zdal_p dlB_T_sortOf_12 (i := 12) rfl) ?_
    exact zk_iret (pc := 29) (ty := .int) rfl rfl ⟨by omega, by omega⟩ hf trivial (zdal_p dlB_T_sortOf_12 (i := 13) rfl)
  · skip
    refine zw_aload_n (pc := 14) (n := 0) (x := 0) rfl (zdal_p dlB_T_sortOf_12 (i := 6) rfl) ?_
    refine zw_getF (pc := 15) f_T_28 rfl ((hf.w hW).ka (o := 0) (by decide)) (hf.now hnow) (zdal_p dlB_T_sortOf_12 (i := 7) rfl) ?_
    refine zw_getF (pc := 18) f_T_85 rfl ((hf.w hW).kr (o := 0) (by decide)) ((hf.w hW).lr (o := 0) (s := 1) (r := 12) (by decide)) (zdal_p dlB_T_sortOf_12 (i := 8) rfl) ?_
    refine zw_iload_n (pc := 21) (n := 1) (x := Int32.ofInt a0_) rfl (zdal_p dlB_T_sortOf_12 (i := 9) rfl) ?_
    refine zk_callV hf.x (pc := 22) [.int (Int32.ofInt a0_)] [] l_T_140 (u_Sorts_spannedSortX l d_ Mz (hf.w hW) a0_ ha0_a ha0_b) rfl rfl ((hf.w hW).kr (o := 12) (by decide)) (by decide) (by decide) (Nat.le_of_ble_eq_true rfl) (zdal_p dlB_T_sortOf_12 (i := 10) rfl) ?_
    rintro _ N3_ ⟨v4_, rfl, ⟨hv4_a, hv4_b⟩, hsN3_, -⟩
    have hf_N3_ : zFc d_ [] [] [] [11] Mz N3_ := hf.tr hsN3_ (by decide) (by decide) (by decide) (by decide)
    show zW l m_T_sortOf (zn Mz + 0, zw Mz + 0) N3_ 25 [some (.ref 0), some (.int (Int32.ofInt a0_))] [.int (Int32.ofInt v4_)] _
    refine zw_goto (pc := 25) (tgt := 29) (by decide) (zdal_p dlB_T_sortOf_12 (i := 11) rfl) ?_
    exact zk_iret (pc := 29) (ty := .int) rfl rfl ⟨by omega, by omega⟩ hf_N3_ trivial (zdal_p dlB_T_sortOf_12 (i := 13) rfl)
set_option maxHeartbeats 4000000 in
theorem u_Sorts_hasSortX (l : Launch) (d_ : Nat) (Mz : zMem) (hW : zKW d_ Mz) (a0_ : Int) (ha0_a : -2147483648 ≤ a0_) (ha0_b : a0_ < 2147483648) : zC l m_Sorts_hasSort 0 0 [.ref (d_ + 12), .int (Int32.ofInt a0_)] Mz (zqcI d_ [] [] [] [] Mz (fun v N => ((v = 0 ∨ v = 1)))) := by
  refine zC_of (L0 := [some (.ref (d_ + 12)), some (.int (Int32.ofInt a0_))]) md_Sorts_hasSort (Nat.le_of_ble_eq_true rfl) rfl ?_ zQ0
  have hf : zFc d_ [] [] [] [] Mz Mz := zFc.rf
  refine zw_iload_n (pc := 0) (n := 1) (x := Int32.ofInt a0_) rfl (zdal_p dlB_Sorts_hasSort_17 (i := 0) rfl) ?_
  refine zr_if_lt (pc := 1) (tgt := 16) ⟨ha0_a, ha0_b⟩ (by decide) (zdal_p dlB_Sorts_hasSort_17 (i := 1) rfl) (fun hc_1 => ?_) (fun hc_1 => ?_)
  · skip
    refine zw_iconst (pc := 16) (v := Int32.ofInt 0) (by decide) (zdal_p dlB_Sorts_hasSort_17 (i := 8) rfl) ?_
    exact zk_iret (pc := 17) (ty := .boolean) rfl (z_narB (by omega)) ⟨by omega, by omega⟩ hf (show (((0 : Int)) = 0 ∨ ((0 : Int)) = 1) by first | with_reducible assumption | assumption | omega) d_Sorts_hasSort_17
  · skip
    refine zw_iload_n (pc := 4) (n := 1) (x := Int32.ofInt a0_) rfl (zdal_p dlB_Sorts_hasSort_17 (i := 2) rfl) ?_
    refine zw_aload_n (pc := 5) (n := 0) (x := (d_ + 12)) rfl (zdal_p dlB_Sorts_hasSort_17 (i := 3) rfl) ?_
    refine zk_getI (pc := 6) f_Sorts_83 rfl ((hf.w hW).kr (o := 12) (by decide)) (zdal_p dlB_Sorts_hasSort_17 (i := 4) rfl) ?_
    have hr1_ := ze_r Mz (d_ + 12) 7
    refine zr_icmp_ge (pc := 9) (tgt := 16) ⟨ha0_a, ha0_b⟩ ⟨(ze_r Mz (d_ + 12) 7).1, (ze_r Mz (d_ + 12) 7).2⟩ (by decide) (zdal_p dlB_Sorts_hasSort_17 (i := 5) rfl) (fun hc_9 => ?_) (fun hc_9 => ?_)
    · skip
      refine zw_iconst (pc := 16) (v := Int32.ofInt 0) (by decide) (zdal_p dlB_Sorts_hasSort_17 (i := 8) rfl) ?_
      exact zk_iret (pc := 17) (ty := .boolean) rfl (z_narB (by omega)) ⟨by omega, by omega⟩ hf (show (((0 : Int)) = 0 ∨ ((0 : Int)) = 1) by first | with_reducible assumption | assumption | omega) d_Sorts_hasSort_17
    · skip
      refine zw_iconst (pc := 12) (v := Int32.ofInt 1) (by decide) (zdal_p dlB_Sorts_hasSort_17 (i := 6) rfl) ?_
      refine zw_goto (pc := 13) (tgt := 17) (by decide) (zdal_p dlB_Sorts_hasSort_17 (i := 7) rfl) ?_
      exact zk_iret (pc := 17) (ty := .boolean) rfl (z_narB (by omega)) ⟨by omega, by omega⟩ hf (show (((1 : Int)) = 0 ∨ ((1 : Int)) = 1) by first | with_reducible assumption | assumption | omega) d_Sorts_hasSort_17
set_option maxHeartbeats 4000000 in
theorem u_Sorts_countWithinX (l : Launch) (d_ : Nat) (Mz : zMem) (hW : zKW d_ Mz) (a0_ : Int) (ha0_a : -2147483648 ≤ a0_) (ha0_b : a0_ < 2147483648) (a1_ : Int) (ha1_a : -2147483648 ≤ a1_) (ha1_b : a1_ < 2147483648) : zC l m_Sorts_countWithin 0 0 [.ref (d_ + 12), .int (Int32.ofInt a0_), .int (Int32.ofInt a1_)] Mz (zqcI d_ [] [] [] [] Mz (fun v N => True)) := by
  refine zC_of (L0 := [some (.ref (d_ + 12)), some (.int (Int32.ofInt a0_)), some (.int (Int32.ofInt a1_)), none, none]) md_Sorts_countWithin (Nat.le_of_ble_eq_true rfl) rfl ?_ zQ0
  have hf : zFc d_ [] [] [] [] Mz Mz := zFc.rf
  refine zw_iconst (pc := 0) (v := Int32.ofInt 0) (by decide) (zdal_p dlB_Sorts_countWithin_19 (i := 0) rfl) ?_
  refine zw_istore_n (pc := 1) (i := 3) (L2 := [some (.ref (d_ + 12)), some (.int (Int32.ofInt a0_)), some (.int (Int32.ofInt a1_)), some (.int (Int32.ofInt 0)), none]) rfl (by decide) rfl (zdal_p dlB_Sorts_countWithin_19 (i := 1) rfl) ?_
  refine zw_iconst (pc := 2) (v := Int32.ofInt 0) (by decide) (zdal_p dlB_Sorts_countWithin_19 (i := 2) rfl) ?_
  refine zw_istore (pc := 3) (i := 4) (L2 := [some (.ref (d_ + 12)), some (.int (Int32.ofInt a0_)), some (.int (Int32.ofInt a1_)), some (.int (Int32.ofInt 0)), some (.int (Int32.ofInt 0))]) (by decide) rfl (zdal_p dlB_Sorts_countWithin_19 (i := 3) rfl) ?_
  have lp_5 : ∀ (n : Nat) (u1_ : Int) (hu1_a : -2147483648 ≤ u1_) (hu1_b : u1_ < 2147483648) (u2_ : Int) (hu2_a : -2147483648 ≤ u2_) (hu2_b : u2_ < 2147483648) (i3_ : 0 ≤ u2_), (ze Mz (d_ + 12) 6 - u2_).toNat < n → zW l m_Sorts_countWithin (zn Mz + 0, zw Mz + 0) Mz 5 [some (.ref (d_ + 12)), some (.int (Int32.ofInt a0_)), some (.int (Int32.ofInt a1_)), some (.int (Int32.ofInt u1_)), some (.int (Int32.ofInt u2_))] [] (zqcI d_ [] [] [] [] Mz (fun v N => True)) := by
    intro n
    induction n with
    | zero =>
      intro u1_ hu1_a hu1_b u2_ hu2_a hu2_b i3_ h0
      exact absurd h0 (Nat.not_lt_zero _)
    | succ n ih_5 =>
      intro u1_ hu1_a hu1_b u2_ hu2_a hu2_b i3_ hlt_5
      refine zw_iload (pc := 5) (i := 4) (x := Int32.ofInt u2_) rfl (zdal_p dlB_Sorts_countWithin_19 (i := 4) rfl) ?_
      refine zw_aload_n (pc := 7) (n := 0) (x := (d_ + 12)) rfl (zdal_p dlB_Sorts_countWithin_19 (i := 5) rfl) ?_
      refine zk_getI (pc := 8) f_Sorts_36 rfl ((hf.w hW).kr (o := 12) (by decide)) (zdal_p dlB_Sorts_countWithin_19 (i := 6) rfl) ?_
      have hr4_ := ze_r Mz (d_ + 12) 6
      refine zr_icmp_ge (pc := 11) (tgt := 59) ⟨hu2_a, hu2_b⟩ ⟨(ze_r Mz (d_ + 12) 6).1, (ze_r Mz (d_ + 12) 6).2⟩ (by decide) (zdal_p dlB_Sorts_countWithin_19 (i := 7) rfl) (fun hc_11 => ?_) (fun hc_11 => ?_)
      · skip
        refine zw_iload_n (pc := 59) (n := 3) (x := Int32.ofInt u1_) rfl (zdal_p dlB_Sorts_countWithin_20 (i := 3) rfl) ?_
        exact zk_iret (pc := 60) (ty := .int) rfl rfl ⟨by omega, by omega⟩ hf trivial (zdal_p dlB_Sorts_countWithin_20 (i := 4) rfl)
      · skip
        refine zw_aload_n (pc := 14) (n := 0) (x := (d_ + 12)) rfl (zdal_p dlB_Sorts_countWithin_19 (i := 8) rfl) ?_
        refine zw_getF (pc := 15) f_Sorts_20 rfl ((hf.w hW).kr (o := 12) (by decide)) ((hf.w hW).lr (o := 12) (s := 2) (r := 15) (by decide)) (zdal_p dlB_Sorts_countWithin_19 (i := 9) rfl) ?_
        refine zw_iload (pc := 18) (i := 4) (x := Int32.ofInt u2_) rfl (zdal_p dlB_Sorts_countWithin_19 (i := 10) rfl) ?_
        refine zk_atG hf.x (pc := 20) l_Sorts_49 ((hf.w hW).kr (o := 15) (by decide)) ((hf.w hW).lr (o := 15) (s := 0) (r := 16) (by decide)) ((hf.w hW).rr (o := 16) (t := 1) (n := 35) (by decide)) (by decide) ⟨by omega, by omega⟩ (by decide) (Nat.le_of_ble_eq_true rfl) (zdal_p dlB_Sorts_countWithin_19 (i := 11) rfl) (fun v5_ hv5_ hv5_a hv5_b => ?_)
        clear hv5_
        refine zw_iload_n (pc := 23) (n := 1) (x := Int32.ofInt a0_) rfl (zdal_p dlB_Sorts_countWithin_19 (i := 12) rfl) ?_
        refine zr_icmp_ne (pc := 24) (tgt := 53) ⟨hv5_a, hv5_b⟩ ⟨ha0_a, ha0_b⟩ (by decide) (zdal_p dlB_Sorts_countWithin_19 (i := 13) rfl) (fun hc_24 => ?_) (fun hc_24 => ?_)
        · skip
          refine zr_iinc (pc := 53) (i := 4) (a := u2_) (n := 1) (L2 := [some (.ref (d_ + 12)), some (.int (Int32.ofInt a0_)), some (.int (Int32.ofInt a1_)), some (.int (Int32.ofInt u1_)), some (.int (Int32.ofInt (u2_ + 1)))]) rfl (by decide) rfl (zdal_p dlB_Sorts_countWithin_20 (i := 1) rfl) ?_
          obtain ⟨v6_, hv6_a, hv6_b, hv6_e, hv6_d⟩ := zk_gen (u2_ + 1)
          rw [hv6_e]
          refine zw_goto (pc := 56) (tgt := 5) (by decide) (zdal_p dlB_Sorts_countWithin_20 (i := 2) rfl) ?_
          exact ih_5 u1_ hu1_a hu1_b v6_ hv6_a hv6_b (show 0 ≤ v6_ by first | with_reducible assumption | assumption | omega) (by omega)
        · skip
          refine zw_aload_n (pc := 27) (n := 0) (x := (d_ + 12)) rfl (zdal_p dlB_Sorts_countWithin_19 (i := 14) rfl) ?_
          refine zw_getF (pc := 28) f_Sorts_14 rfl ((hf.w hW).kr (o := 12) (by decide)) ((hf.w hW).lr (o := 12) (s := 1) (r := 13) (by decide)) (zdal_p dlB_Sorts_countWithin_19 (i := 15) rfl) ?_
          refine zw_iload (pc := 31) (i := 4) (x := Int32.ofInt u2_) rfl (zdal_p dlB_Sorts_countWithin_19 (i := 16) rfl) ?_
          refine zk_atG hf.x (pc := 33) l_Sorts_49 ((hf.w hW).kr (o := 13) (by decide)) ((hf.w hW).lr (o := 13) (s := 0) (r := 14) (by decide)) ((hf.w hW).rr (o := 14) (t := 1) (n := 35) (by decide)) (by decide) ⟨by omega, by omega⟩ (by decide) (Nat.le_of_ble_eq_true rfl) (zdal_p dlB_Sorts_countWithin_19 (i := 17) rfl) (fun v7_ hv7_ hv7_a hv7_b => ?_)
          clear hv7_
          refine zw_aload_n (pc := 36) (n := 0) (x := (d_ + 12)) rfl (zdal_p dlB_Sorts_countWithin_19 (i := 18) rfl) ?_
          refine zw_getF (pc := 37) f_Sorts_26 rfl ((hf.w hW).kr (o := 12) (by decide)) ((hf.w hW).lr (o := 12) (s := 4) (r := 19) (by decide)) (zdal_p dlB_Sorts_countWithin_19 (i := 19) rfl) ?_
          refine zw_iload_n (pc := 40) (n := 2) (x := Int32.ofInt a1_) rfl (zdal_p dlB_Sorts_countWithin_19 (i := 20) rfl) ?_
          refine zk_atG hf.x (pc := 41) l_Sorts_49 ((hf.w hW).kr (o := 19) (by decide)) ((hf.w hW).lr (o := 19) (s := 0) (r := 20) (by decide)) ((hf.w hW).rr (o := 20) (t := 1) (n := 27) (by decide)) (by decide) ⟨by omega, by omega⟩ (by decide) (Nat.le_of_ble_eq_true rfl) (zdal_p dlB_Sorts_countWithin_19 (i := 21) rfl) (fun v8_ hv8_ hv8_a hv8_b => ?_)
          clear hv8_
          refine zr_callS hf.x (pc := 44) [.int (Int32.ofInt v7_), .int (Int32.ofInt v8_)] [] l_Sorts_96 (u_T_isPartX l d_ Mz (hf.w hW) v7_ hv7_a hv7_b v8_ hv8_a hv8_b) rfl rfl (by decide) (Nat.le_of_ble_eq_true rfl) (zdal_p dlB_Sorts_countWithin_19 (i := 22) rfl) ?_
          rintro _ N9_ ⟨v10_, rfl, ⟨hv10_a, hv10_b⟩, hsN9_, hp0_N9_⟩
          obtain rfl := hsN9_.eq.symm
          replace hp0_N9_ : (v10_ = 0 ∨ v10_ = 1) := hp0_N9_
          show zW l m_Sorts_countWithin (zn Mz + 0, zw Mz + 0) Mz 47 [some (.ref (d_ + 12)), some (.int (Int32.ofInt a0_)), some (.int (Int32.ofInt a1_)), some (.int (Int32.ofInt u1_)), some (.int (Int32.ofInt u2_))] [.int (Int32.ofInt v10_)] _
          refine zr_if_eq (pc := 47) (tgt := 53) ⟨hv10_a, hv10_b⟩ (by decide) (zdal_p dlB_Sorts_countWithin_19 (i := 23) rfl) (fun hc_47 => ?_) (fun hc_47 => ?_)
          · skip
            refine zr_iinc (pc := 53) (i := 4) (a := u2_) (n := 1) (L2 := [some (.ref (d_ + 12)), some (.int (Int32.ofInt a0_)), some (.int (Int32.ofInt a1_)), some (.int (Int32.ofInt u1_)), some (.int (Int32.ofInt (u2_ + 1)))]) rfl (by decide) rfl (zdal_p dlB_Sorts_countWithin_20 (i := 1) rfl) ?_
            obtain ⟨v11_, hv11_a, hv11_b, hv11_e, hv11_d⟩ := zk_gen (u2_ + 1)
            rw [hv11_e]
            refine zw_goto (pc := 56) (tgt := 5) (by decide) (zdal_p dlB_Sorts_countWithin_20 (i := 2) rfl) ?_
            exact ih_5 u1_ hu1_a hu1_b v11_ hv11_a hv11_b (show 0 ≤ v11_ by first | with_reducible assumption | assumption | omega) (by omega)
          · skip
            refine zr_iinc (pc := 50) (i := 3) (a := u1_) (n := 1) (L2 := [some (.ref (d_ + 12)), some (.int (Int32.ofInt a0_)), some (.int (Int32.ofInt a1_)), some (.int (Int32.ofInt (u1_ + 1))), some (.int (Int32.ofInt u2_))]) rfl (by decide) rfl (zdal_p dlB_Sorts_countWithin_20 (i := 0) rfl) ?_
            obtain ⟨v12_, hv12_a, hv12_b, hv12_e, hv12_d⟩ := zk_gen (u1_ + 1)
            rw [hv12_e]
            refine zr_iinc (pc := 53) (i := 4) (a := u2_) (n := 1) (L2 := [some (.ref (d_ + 12)), some (.int (Int32.ofInt a0_)), some (.int (Int32.ofInt a1_)), some (.int (Int32.ofInt v12_)), some (.int (Int32.ofInt (u2_ + 1)))]) rfl (by decide) rfl (zdal_p dlB_Sorts_countWithin_20 (i := 1) rfl) ?_
            obtain ⟨v13_, hv13_a, hv13_b, hv13_e, hv13_d⟩ := zk_gen (u2_ + 1)
            rw [hv13_e]
            refine zw_goto (pc := 56) (tgt := 5) (by decide) (zdal_p dlB_Sorts_countWithin_20 (i := 2) rfl) ?_
            exact ih_5 v12_ hv12_a hv12_b v13_ hv13_a hv13_b (show 0 ≤ v13_ by first | with_reducible assumption | assumption | omega) (by omega)
  exact lp_5 _ 0 (by decide) (by decide) 0 (by decide) (by decide) (show 0 ≤ (0 : Int) by first | with_reducible assumption | assumption | omega) (Nat.lt_succ_self _)
set_option maxHeartbeats 4000000 in
theorem u_Sorts_countOfX (l : Launch) (d_ : Nat) (Mz : zMem) (hW : zKW d_ Mz) (a0_ : Int) (ha0_a : -2147483648 ≤ a0_) (ha0_b : a0_ < 2147483648) : zC l m_Sorts_countOf 0 0 [.ref (d_ + 12), .int (Int32.ofInt a0_)] Mz (zqcI d_ [] [] [] [] Mz (fun v N => True)) := by
  refine zC_of (L0 := [some (.ref (d_ + 12)), some (.int (Int32.ofInt a0_))]) md_Sorts_countOf (Nat.le_of_ble_eq_true rfl) rfl ?_ zQ0
  have hf : zFc d_ [] [] [] [] Mz Mz := zFc.rf
  refine zw_aload_n (pc := 0) (n := 0) (x := (d_ + 12)) rfl (zdal_p dlB_Sorts_countOf_18 (i := 0) rfl) ?_
  refine zw_iload_n (pc := 1) (n := 1) (x := Int32.ofInt a0_) rfl (zdal_p dlB_Sorts_countOf_18 (i := 1) rfl) ?_
  refine zw_aload_n (pc := 2) (n := 0) (x := (d_ + 12)) rfl (zdal_p dlB_Sorts_countOf_18 (i := 2) rfl) ?_
  refine zk_getI (pc := 3) f_Sorts_83 rfl ((hf.w hW).kr (o := 12) (by decide)) (zdal_p dlB_Sorts_countOf_18 (i := 3) rfl) ?_
  have hr1_ := ze_r Mz (d_ + 12) 7
  refine zw_iconst (pc := 6) (v := Int32.ofInt 1) (by decide) (zdal_p dlB_Sorts_countOf_18 (i := 4) rfl) ?_
  refine zr_isub (pc := 7) (zdal_p dlB_Sorts_countOf_18 (i := 5) rfl) ?_
  refine zr_nmI (fun v2_ hv2_ => ?_)
  obtain ⟨hv2_a, hv2_b⟩ := hv2_
  refine zk_callV hf.x (pc := 8) [.int (Int32.ofInt a0_), .int (Int32.ofInt v2_)] [] l_Sorts_99 (u_Sorts_countWithinX l d_ Mz (hf.w hW) a0_ ha0_a ha0_b v2_ hv2_a hv2_b) rfl rfl ((hf.w hW).kr (o := 12) (by decide)) (by decide) (by decide) (Nat.le_of_ble_eq_true rfl) (zdal_p dlB_Sorts_countOf_18 (i := 6) rfl) ?_
  rintro _ N3_ ⟨v4_, rfl, ⟨hv4_a, hv4_b⟩, hsN3_, -⟩
  obtain rfl := hsN3_.eq.symm
  show zW l m_Sorts_countOf (zn Mz + 0, zw Mz + 0) Mz 11 [some (.ref (d_ + 12)), some (.int (Int32.ofInt a0_))] [.int (Int32.ofInt v4_)] _
  exact zk_iret (pc := 11) (ty := .int) rfl rfl ⟨by omega, by omega⟩ hf trivial (zdal_p dlB_Sorts_countOf_18 (i := 7) rfl)
set_option maxHeartbeats 4000000 in
theorem u_Group_turnX (l : Launch) (d_ : Nat) (Mz : zMem) (hW : zKW d_ Mz) (a0_ : Int) (ha0_a : -2147483648 ≤ a0_) (ha0_b : a0_ < 2147483648) (a1_ : Int) (ha1_a : -2147483648 ≤ a1_) (ha1_b : a1_ < 2147483648) : zC l m_Group_turn 0 0 [.ref (d_ + 1), .int (Int32.ofInt a0_), .int (Int32.ofInt a1_)] Mz (zqcI d_ [] [] [] [] Mz (fun v N => True)) := by
  refine zC_of (L0 := [some (.ref (d_ + 1)), some (.int (Int32.ofInt a0_)), some (.int (Int32.ofInt a1_)), none]) md_Group_turn (Nat.le_of_ble_eq_true rfl) rfl ?_ zQ0
  have hf : zFc d_ [] [] [] [] Mz Mz := zFc.rf
  refine zw_aload_n (pc := 0) (n := 0) (x := (d_ + 1)) rfl (zdal_p dlA_Group_turn_51 (i := 0) rfl) ?_
  refine zw_getF (pc := 1) f_Group_23 rfl ((hf.w hW).kr (o := 1) (by decide)) ((hf.w hW).lr (o := 1) (s := 2) (r := 6) (by decide)) (zdal_p dlA_Group_turn_51 (i := 1) rfl) ?_
  refine zw_aload_n (pc := 4) (n := 0) (x := (d_ + 1)) rfl (zdal_p dlA_Group_turn_51 (i := 2) rfl) ?_
  refine zw_getF (pc := 5) f_Group_26 rfl ((hf.w hW).kr (o := 1) (by decide)) ((hf.w hW).lr (o := 1) (s := 3) (r := 8) (by decide)) (zdal_p dlA_Group_turn_51 (i := 3) rfl) ?_
  refine zw_iload_n (pc := 8) (n := 2) (x := Int32.ofInt a1_) rfl (zdal_p dlA_Group_turn_51 (i := 4) rfl) ?_
  refine zk_atG hf.x (pc := 9) l_Group_54 ((hf.w hW).kr (o := 8) (by decide)) ((hf.w hW).lr (o := 8) (s := 0) (r := 9) (by decide)) ((hf.w hW).rr (o := 9) (t := 1) (n := 24) (by decide)) (by decide) ⟨by omega, by omega⟩ (by decide) (Nat.le_of_ble_eq_true rfl) (zdal_p dlA_Group_turn_51 (i := 5) rfl) (fun v1_ hv1_ hv1_a hv1_b => ?_)
  clear hv1_
  refine zw_bipush (pc := 12) (v := Int32.ofInt 24) (by decide) (zdal_p dlA_Group_turn_51 (i := 6) rfl) ?_
  refine zr_imul (pc := 14) (zdal_p dlA_Group_turn_51 (i := 7) rfl) ?_
  refine zr_nmI (fun v2_ hv2_ => ?_)
  obtain ⟨hv2_a, hv2_b⟩ := hv2_
  refine zw_iload_n (pc := 15) (n := 1) (x := Int32.ofInt a0_) rfl (zdal_p dlA_Group_turn_51 (i := 8) rfl) ?_
  refine zr_iadd (pc := 16) (zdal_p dlA_Group_turn_51 (i := 9) rfl) ?_
  refine zr_nmI (fun v3_ hv3_ => ?_)
  obtain ⟨hv3_a, hv3_b⟩ := hv3_
  refine zk_atG hf.x (pc := 17) l_Group_54 ((hf.w hW).kr (o := 6) (by decide)) ((hf.w hW).lr (o := 6) (s := 0) (r := 7) (by decide)) ((hf.w hW).rr (o := 7) (t := 1) (n := 576) (by decide)) (by decide) ⟨by omega, by omega⟩ (by decide) (Nat.le_of_ble_eq_true rfl) (zdal_p dlA_Group_turn_51 (i := 10) rfl) (fun v4_ hv4_ hv4_a hv4_b => ?_)
  clear hv4_
  refine zw_istore_n (pc := 20) (i := 3) (L2 := [some (.ref (d_ + 1)), some (.int (Int32.ofInt a0_)), some (.int (Int32.ofInt a1_)), some (.int (Int32.ofInt v4_))]) rfl (by decide) rfl (zdal_p dlA_Group_turn_51 (i := 11) rfl) ?_
  refine zw_aload_n (pc := 21) (n := 0) (x := (d_ + 1)) rfl (zdal_p dlA_Group_turn_51 (i := 12) rfl) ?_
  refine zw_getF (pc := 22) f_Group_23 rfl ((hf.w hW).kr (o := 1) (by decide)) ((hf.w hW).lr (o := 1) (s := 2) (r := 6) (by decide)) (zdal_p dlA_Group_turn_51 (i := 13) rfl) ?_
  refine zw_iload_n (pc := 25) (n := 3) (x := Int32.ofInt v4_) rfl (zdal_p dlA_Group_turn_51 (i := 14) rfl) ?_
  refine zw_bipush (pc := 26) (v := Int32.ofInt 24) (by decide) (zdal_p dlA_Group_turn_51 (i := 15) rfl) ?_
  refine zr_imul (pc := 28) (zdal_p dlA_Group_turn_51 (i := 16) rfl) ?_
  refine zr_nmI (fun v5_ hv5_ => ?_)
  obtain ⟨hv5_a, hv5_b⟩ := hv5_
  refine zw_iload_n (pc := 29) (n := 2) (x := Int32.ofInt a1_) rfl (zdal_p dlA_Group_turn_51 (i := 17) rfl) ?_
  refine zr_iadd (pc := 30) (zdal_p dlA_Group_turn_51 (i := 18) rfl) ?_
  refine zr_nmI (fun v6_ hv6_ => ?_)
  obtain ⟨hv6_a, hv6_b⟩ := hv6_
  refine zk_atG hf.x (pc := 31) l_Group_54 ((hf.w hW).kr (o := 6) (by decide)) ((hf.w hW).lr (o := 6) (s := 0) (r := 7) (by decide)) ((hf.w hW).rr (o := 7) (t := 1) (n := 576) (by decide)) (by decide) ⟨by omega, by omega⟩ (by decide) (Nat.le_of_ble_eq_true rfl) (zdal_p dlA_Group_turn_51 (i := 19) rfl) (fun v7_ hv7_ hv7_a hv7_b => ?_)
  clear hv7_
  exact zk_iret (pc := 34) (ty := .int) rfl rfl ⟨by omega, by omega⟩ hf trivial (zdal_p dlA_Group_turn_51 (i := 20) rfl)
set_option maxHeartbeats 4000000 in
theorem u_Group_turnAllX (l : Launch) (d_ : Nat) (Mz : zMem) (hW : zKW d_ Mz) (a0_ : Int) (ha0_a : -2147483648 ≤ a0_) (ha0_b : a0_ < 2147483648) (a1_ : Int) (ha1_a : -2147483648 ≤ a1_) (ha1_b : a1_ < 2147483648) : zC l m_Group_turnAll 0 0 [.ref (d_ + 1), .int (Int32.ofInt a0_), .int (Int32.ofInt a1_)] Mz (zqcI d_ [] [] [] [] Mz (fun v N => True)) := by
  refine zC_of (L0 := [some (.ref (d_ + 1)), some (.int (Int32.ofInt a0_)), some (.int (Int32.ofInt a1_)), none, none]) md_Group_turnAll (Nat.le_of_ble_eq_true rfl) rfl ?_ zQ0
  have hf : zFc d_ [] [] [] [] Mz Mz := zFc.rf
  refine zw_iconst (pc := 0) (v := Int32.ofInt 0) (by decide) (zdal_p dlA_Group_turnAll_49 (i := 0) rfl) ?_
  refine zw_istore_n (pc := 1) (i := 3) (L2 := [some (.ref (d_ + 1)), some (.int (Int32.ofInt a0_)), some (.int (Int32.ofInt a1_)), some (.int (Int32.ofInt 0)), none]) rfl (by decide) rfl (zdal_p dlA_Group_turnAll_49 (i := 1) rfl) ?_
  refine zw_iconst (pc := 2) (v := Int32.ofInt 0) (by decide) (zdal_p dlA_Group_turnAll_49 (i := 2) rfl) ?_
  refine zw_istore (pc := 3) (i := 4) (L2 := [some (.ref (d_ + 1)), some (.int (Int32.ofInt a0_)), some (.int (Int32.ofInt a1_)), some (.int (Int32.ofInt 0)), some (.int (Int32.ofInt 0))]) (by decide) rfl (zdal_p dlA_Group_turnAll_49 (i := 3) rfl) ?_
  have lp_5 : ∀ (n : Nat) (u1_ : Int) (hu1_a : -2147483648 ≤ u1_) (hu1_b : u1_ < 2147483648) (u2_ : Int) (hu2_a : -2147483648 ≤ u2_) (hu2_b : u2_ < 2147483648) (i3_ : 0 ≤ u2_), (ze Mz (d_ + 1) 7 - u2_).toNat < n → zW l m_Group_turnAll (zn Mz + 0, zw Mz + 0) Mz 5 [some (.ref (d_ + 1)), some (.int (Int32.ofInt a0_)), some (.int (Int32.ofInt a1_)), some (.int (Int32.ofInt u1_)), some (.int (Int32.ofInt u2_))] [] (zqcI d_ [] [] [] [] Mz (fun v N => True)) := by
    intro n
    induction n with
    | zero =>
      intro u1_ hu1_a hu1_b u2_ hu2_a hu2_b i3_ h0
      exact absurd h0 (Nat.not_lt_zero _)
    | succ n ih_5 =>
      intro u1_ hu1_a hu1_b u2_ hu2_a hu2_b i3_ hlt_5
      refine zw_iload (pc := 5) (i := 4) (x := Int32.ofInt u2_) rfl (zdal_p dlA_Group_turnAll_49 (i := 4) rfl) ?_
      refine zw_aload_n (pc := 7) (n := 0) (x := (d_ + 1)) rfl (zdal_p dlA_Group_turnAll_49 (i := 5) rfl) ?_
      refine zk_getI (pc := 8) f_Group_39 rfl ((hf.w hW).kr (o := 1) (by decide)) (zdal_p dlA_Group_turnAll_49 (i := 6) rfl) ?_
      have hr4_ := ze_r Mz (d_ + 1) 7
      refine zr_icmp_ge (pc := 11) (tgt := 41) ⟨hu2_a, hu2_b⟩ ⟨(ze_r Mz (d_ + 1) 7).1, (ze_r Mz (d_ + 1) 7).2⟩ (by decide) (zdal_p dlA_Group_turnAll_49 (i := 7) rfl) (fun hc_11 => ?_) (fun hc_11 => ?_)
      · skip
        refine zw_iload_n (pc := 41) (n := 3) (x := Int32.ofInt u1_) rfl (zdal_p dlA_Group_turnAll_49 (i := 23) rfl) ?_
        exact zk_iret (pc := 42) (ty := .int) rfl rfl ⟨by omega, by omega⟩ hf trivial (zdal_p dlA_Group_turnAll_50 (i := 0) rfl)
      · skip
        refine zw_iload_n (pc := 14) (n := 1) (x := Int32.ofInt a0_) rfl (zdal_p dlA_Group_turnAll_49 (i := 8) rfl) ?_
        refine zw_iload (pc := 15) (i := 4) (x := Int32.ofInt u2_) rfl (zdal_p dlA_Group_turnAll_49 (i := 9) rfl) ?_
        refine zr_callS hf.x (pc := 17) [.int (Int32.ofInt a0_), .int (Int32.ofInt u2_)] [] l_Group_73 (u_T_isInX l d_ Mz (hf.w hW) a0_ ha0_a ha0_b u2_ hu2_a hu2_b) rfl rfl (by decide) (Nat.le_of_ble_eq_true rfl) (zdal_p dlA_Group_turnAll_49 (i := 10) rfl) ?_
        rintro _ N5_ ⟨v6_, rfl, ⟨hv6_a, hv6_b⟩, hsN5_, hp0_N5_⟩
        obtain rfl := hsN5_.eq.symm
        replace hp0_N5_ : (v6_ = 0 ∨ v6_ = 1) := hp0_N5_
        show zW l m_Group_turnAll (zn Mz + 0, zw Mz + 0) Mz 20 [some (.ref (d_ + 1)), some (.int (Int32.ofInt a0_)), some (.int (Int32.ofInt a1_)), some (.int (Int32.ofInt u1_)), some (.int (Int32.ofInt u2_))] [.int (Int32.ofInt v6_)] _
        refine zr_if_eq (pc := 20) (tgt := 35) ⟨hv6_a, hv6_b⟩ (by decide) (zdal_p dlA_Group_turnAll_49 (i := 11) rfl) (fun hc_20 => ?_) (fun hc_20 => ?_)
        · skip
          refine zr_iinc (pc := 35) (i := 4) (a := u2_) (n := 1) (L2 := [some (.ref (d_ + 1)), some (.int (Int32.ofInt a0_)), some (.int (Int32.ofInt a1_)), some (.int (Int32.ofInt u1_)), some (.int (Int32.ofInt (u2_ + 1)))]) rfl (by decide) rfl (zdal_p dlA_Group_turnAll_49 (i := 21) rfl) ?_
          obtain ⟨v7_, hv7_a, hv7_b, hv7_e, hv7_d⟩ := zk_gen (u2_ + 1)
          rw [hv7_e]
          refine zw_goto (pc := 38) (tgt := 5) (by decide) (zdal_p dlA_Group_turnAll_49 (i := 22) rfl) ?_
          exact ih_5 u1_ hu1_a hu1_b v7_ hv7_a hv7_b (show 0 ≤ v7_ by first | with_reducible assumption | assumption | omega) (by omega)
        · skip
          refine zw_iload_n (pc := 23) (n := 3) (x := Int32.ofInt u1_) rfl (zdal_p dlA_Group_turnAll_49 (i := 12) rfl) ?_
          refine zw_iconst (pc := 24) (v := Int32.ofInt 1) (by decide) (zdal_p dlA_Group_turnAll_49 (i := 13) rfl) ?_
          refine zw_aload_n (pc := 25) (n := 0) (x := (d_ + 1)) rfl (zdal_p dlA_Group_turnAll_49 (i := 14) rfl) ?_
          refine zw_iload (pc := 26) (i := 4) (x := Int32.ofInt u2_) rfl (zdal_p dlA_Group_turnAll_49 (i := 15) rfl) ?_
          refine zw_iload_n (pc := 28) (n := 2) (x := Int32.ofInt a1_) rfl (zdal_p dlA_Group_turnAll_49 (i := 16) rfl) ?_
          refine zk_callV hf.x (pc := 29) [.int (Int32.ofInt u2_), .int (Int32.ofInt a1_)] [.int (Int32.ofInt 1), .int (Int32.ofInt u1_)] l_Group_77 (u_Group_turnX l d_ Mz (hf.w hW) u2_ hu2_a hu2_b a1_ ha1_a ha1_b) rfl rfl ((hf.w hW).kr (o := 1) (by decide)) (by decide) (by decide) (Nat.le_of_ble_eq_true rfl) (zdal_p dlA_Group_turnAll_49 (i := 17) rfl) ?_
          rintro _ N8_ ⟨v9_, rfl, ⟨hv9_a, hv9_b⟩, hsN8_, -⟩
          obtain rfl := hsN8_.eq.symm
          show zW l m_Group_turnAll (zn Mz + 0, zw Mz + 0) Mz 32 [some (.ref (d_ + 1)), some (.int (Int32.ofInt a0_)), some (.int (Int32.ofInt a1_)), some (.int (Int32.ofInt u1_)), some (.int (Int32.ofInt u2_))] [.int (Int32.ofInt v9_), .int (Int32.ofInt 1), .int (Int32.ofInt u1_)] _
          refine zr_ishl (pc := 32) (zdal_p dlA_Group_turnAll_49 (i := 18) rfl) ?_
          have hr10_ := zshl_r 1 v9_
          refine zr_nmI (fun v11_ hv11_ => ?_)
          obtain ⟨hv11_a, hv11_b⟩ := hv11_
          refine zr_ior (pc := 33) (zdal_p dlA_Group_turnAll_49 (i := 19) rfl) ?_
          have hr12_ := zor_r u1_ v11_
          refine zr_nmI (fun v13_ hv13_ => ?_)
          obtain ⟨hv13_a, hv13_b⟩ := hv13_
          refine zw_istore_n (pc := 34) (i := 3) (L2 := [some (.ref (d_ + 1)), some (.int (Int32.ofInt a0_)), some (.int (Int32.ofInt a1_)), some (.int (Int32.ofInt v13_)), some (.int (Int32.ofInt u2_))]) rfl (by decide) rfl (zdal_p dlA_Group_turnAll_49 (i := 20) rfl) ?_
          refine zr_iinc (pc := 35) (i := 4) (a := u2_) (n := 1) (L2 := [some (.ref (d_ + 1)), some (.int (Int32.ofInt a0_)), some (.int (Int32.ofInt a1_)), some (.int (Int32.ofInt v13_)), some (.int (Int32.ofInt (u2_ + 1)))]) rfl (by decide) rfl (zdal_p dlA_Group_turnAll_49 (i := 21) rfl) ?_
          obtain ⟨v14_, hv14_a, hv14_b, hv14_e, hv14_d⟩ := zk_gen (u2_ + 1)
          rw [hv14_e]
          refine zw_goto (pc := 38) (tgt := 5) (by decide) (zdal_p dlA_Group_turnAll_49 (i := 22) rfl) ?_
          exact ih_5 v13_ hv13_a hv13_b v14_ hv14_a hv14_b (show 0 ≤ v14_ by first | with_reducible assumption | assumption | omega) (by omega)
  exact lp_5 _ 0 (by decide) (by decide) 0 (by decide) (by decide) (show 0 ≤ (0 : Int) by first | with_reducible assumption | assumption | omega) (Nat.lt_succ_self _)
set_option maxHeartbeats 4000000 in
theorem u_Group_normOfX (l : Launch) (d_ : Nat) (Mz : zMem) (hW : zKW d_ Mz) (a0_ : Int) (ha0_a : -2147483648 ≤ a0_) (ha0_b : a0_ < 2147483648) : zC l m_Group_normOf 0 0 [.ref (d_ + 1), .int (Int32.ofInt a0_)] Mz (zqcI d_ [] [] [] [] Mz (fun v N => True)) := by
  refine zC_of (L0 := [some (.ref (d_ + 1)), some (.int (Int32.ofInt a0_)), none, none]) md_Group_normOf (Nat.le_of_ble_eq_true rfl) rfl ?_ zQ0
  have hf : zFc d_ [] [] [] [] Mz Mz := zFc.rf
  refine zw_iconst (pc := 0) (v := Int32.ofInt 0) (by decide) (zdal_p dlB_Group_normOf_21 (i := 0) rfl) ?_
  refine zw_istore_n (pc := 1) (i := 2) (L2 := [some (.ref (d_ + 1)), some (.int (Int32.ofInt a0_)), some (.int (Int32.ofInt 0)), none]) rfl (by decide) rfl (zdal_p dlB_Group_normOf_21 (i := 1) rfl) ?_
  refine zw_iconst (pc := 2) (v := Int32.ofInt 0) (by decide) (zdal_p dlB_Group_normOf_21 (i := 2) rfl) ?_
  refine zw_istore_n (pc := 3) (i := 3) (L2 := [some (.ref (d_ + 1)), some (.int (Int32.ofInt a0_)), some (.int (Int32.ofInt 0)), some (.int (Int32.ofInt 0))]) rfl (by decide) rfl (zdal_p dlB_Group_normOf_21 (i := 3) rfl) ?_
  have lp_4 : ∀ (n : Nat) (u1_ : Int) (hu1_a : -2147483648 ≤ u1_) (hu1_b : u1_ < 2147483648) (u2_ : Int) (hu2_a : -2147483648 ≤ u2_) (hu2_b : u2_ < 2147483648) (i3_ : 0 ≤ u2_), (ze Mz (d_ + 1) 7 - u2_).toNat < n → zW l m_Group_normOf (zn Mz + 0, zw Mz + 0) Mz 4 [some (.ref (d_ + 1)), some (.int (Int32.ofInt a0_)), some (.int (Int32.ofInt u1_)), some (.int (Int32.ofInt u2_))] [] (zqcI d_ [] [] [] [] Mz (fun v N => True)) := by
    intro n
    induction n with
    | zero =>
      intro u1_ hu1_a hu1_b u2_ hu2_a hu2_b i3_ h0
      exact absurd h0 (Nat.not_lt_zero _)
    | succ n ih_4 =>
      intro u1_ hu1_a hu1_b u2_ hu2_a hu2_b i3_ hlt_4
      refine zw_iload_n (pc := 4) (n := 3) (x := Int32.ofInt u2_) rfl (zdal_p dlB_Group_normOf_21 (i := 4) rfl) ?_
      refine zw_aload_n (pc := 5) (n := 0) (x := (d_ + 1)) rfl (zdal_p dlB_Group_normOf_21 (i := 5) rfl) ?_
      refine zk_getI (pc := 6) f_Group_39 rfl ((hf.w hW).kr (o := 1) (by decide)) (zdal_p dlB_Group_normOf_21 (i := 6) rfl) ?_
      have hr4_ := ze_r Mz (d_ + 1) 7
      refine zr_icmp_ge (pc := 9) (tgt := 34) ⟨hu2_a, hu2_b⟩ ⟨(ze_r Mz (d_ + 1) 7).1, (ze_r Mz (d_ + 1) 7).2⟩ (by decide) (zdal_p dlB_Group_normOf_21 (i := 7) rfl) (fun hc_9 => ?_) (fun hc_9 => ?_)
      · skip
        refine zw_iload_n (pc := 34) (n := 2) (x := Int32.ofInt u1_) rfl (zdal_p dlB_Group_normOf_21 (i := 22) rfl) ?_
        exact zk_iret (pc := 35) (ty := .int) rfl rfl ⟨by omega, by omega⟩ hf trivial (zdal_p dlB_Group_normOf_21 (i := 23) rfl)
      · skip
        refine zw_aload_n (pc := 12) (n := 0) (x := (d_ + 1)) rfl (zdal_p dlB_Group_normOf_21 (i := 8) rfl) ?_
        refine zw_iload_n (pc := 13) (n := 1) (x := Int32.ofInt a0_) rfl (zdal_p dlB_Group_normOf_21 (i := 9) rfl) ?_
        refine zw_iload_n (pc := 14) (n := 3) (x := Int32.ofInt u2_) rfl (zdal_p dlB_Group_normOf_21 (i := 10) rfl) ?_
        refine zk_callV hf.x (pc := 15) [.int (Int32.ofInt a0_), .int (Int32.ofInt u2_)] [] l_Group_80 (u_Group_turnAllX l d_ Mz (hf.w hW) a0_ ha0_a ha0_b u2_ hu2_a hu2_b) rfl rfl ((hf.w hW).kr (o := 1) (by decide)) (by decide) (by decide) (Nat.le_of_ble_eq_true rfl) (zdal_p dlB_Group_normOf_21 (i := 11) rfl) ?_
        rintro _ N5_ ⟨v6_, rfl, ⟨hv6_a, hv6_b⟩, hsN5_, -⟩
        obtain rfl := hsN5_.eq.symm
        show zW l m_Group_normOf (zn Mz + 0, zw Mz + 0) Mz 18 [some (.ref (d_ + 1)), some (.int (Int32.ofInt a0_)), some (.int (Int32.ofInt u1_)), some (.int (Int32.ofInt u2_))] [.int (Int32.ofInt v6_)] _
        refine zw_iload_n (pc := 18) (n := 1) (x := Int32.ofInt a0_) rfl (zdal_p dlB_Group_normOf_21 (i := 12) rfl) ?_
        refine zr_icmp_ne (pc := 19) (tgt := 28) ⟨hv6_a, hv6_b⟩ ⟨ha0_a, ha0_b⟩ (by decide) (zdal_p dlB_Group_normOf_21 (i := 13) rfl) (fun hc_19 => ?_) (fun hc_19 => ?_)
        · skip
          refine zr_iinc (pc := 28) (i := 3) (a := u2_) (n := 1) (L2 := [some (.ref (d_ + 1)), some (.int (Int32.ofInt a0_)), some (.int (Int32.ofInt u1_)), some (.int (Int32.ofInt (u2_ + 1)))]) rfl (by decide) rfl (zdal_p dlB_Group_normOf_21 (i := 20) rfl) ?_
          obtain ⟨v7_, hv7_a, hv7_b, hv7_e, hv7_d⟩ := zk_gen (u2_ + 1)
          rw [hv7_e]
          refine zw_goto (pc := 31) (tgt := 4) (by decide) (zdal_p dlB_Group_normOf_21 (i := 21) rfl) ?_
          exact ih_4 u1_ hu1_a hu1_b v7_ hv7_a hv7_b (show 0 ≤ v7_ by first | with_reducible assumption | assumption | omega) (by omega)
        · skip
          refine zw_iload_n (pc := 22) (n := 2) (x := Int32.ofInt u1_) rfl (zdal_p dlB_Group_normOf_21 (i := 14) rfl) ?_
          refine zw_iconst (pc := 23) (v := Int32.ofInt 1) (by decide) (zdal_p dlB_Group_normOf_21 (i := 15) rfl) ?_
          refine zw_iload_n (pc := 24) (n := 3) (x := Int32.ofInt u2_) rfl (zdal_p dlB_Group_normOf_21 (i := 16) rfl) ?_
          refine zr_ishl (pc := 25) (zdal_p dlB_Group_normOf_21 (i := 17) rfl) ?_
          have hr8_ := zshl_r 1 u2_
          refine zr_nmI (fun v9_ hv9_ => ?_)
          obtain ⟨hv9_a, hv9_b⟩ := hv9_
          refine zr_ior (pc := 26) (zdal_p dlB_Group_normOf_21 (i := 18) rfl) ?_
          have hr10_ := zor_r u1_ v9_
          refine zr_nmI (fun v11_ hv11_ => ?_)
          obtain ⟨hv11_a, hv11_b⟩ := hv11_
          refine zw_istore_n (pc := 27) (i := 2) (L2 := [some (.ref (d_ + 1)), some (.int (Int32.ofInt a0_)), some (.int (Int32.ofInt v11_)), some (.int (Int32.ofInt u2_))]) rfl (by decide) rfl (zdal_p dlB_Group_normOf_21 (i := 19) rfl) ?_
          refine zr_iinc (pc := 28) (i := 3) (a := u2_) (n := 1) (L2 := [some (.ref (d_ + 1)), some (.int (Int32.ofInt a0_)), some (.int (Int32.ofInt v11_)), some (.int (Int32.ofInt (u2_ + 1)))]) rfl (by decide) rfl (zdal_p dlB_Group_normOf_21 (i := 20) rfl) ?_
          obtain ⟨v12_, hv12_a, hv12_b, hv12_e, hv12_d⟩ := zk_gen (u2_ + 1)
          rw [hv12_e]
          refine zw_goto (pc := 31) (tgt := 4) (by decide) (zdal_p dlB_Group_normOf_21 (i := 21) rfl) ?_
          exact ih_4 v11_ hv11_a hv11_b v12_ hv12_a hv12_b (show 0 ≤ v12_ by first | with_reducible assumption | assumption | omega) (by omega)
  exact lp_4 _ 0 (by decide) (by decide) 0 (by decide) (by decide) (show 0 ≤ (0 : Int) by first | with_reducible assumption | assumption | omega) (Nat.lt_succ_self _)
set_option maxHeartbeats 4000000 in
theorem u_Group_isMadeByOneX (l : Launch) (d_ : Nat) (Mz : zMem) (hW : zKW d_ Mz) (a0_ : Int) (ha0_a : -2147483648 ≤ a0_) (ha0_b : a0_ < 2147483648) : zC l m_Group_isMadeByOne 0 0 [.ref (d_ + 1), .int (Int32.ofInt a0_)] Mz (zqcI d_ [] [] [] [] Mz (fun v N => ((v = 0 ∨ v = 1)))) := by
  refine zC_of (L0 := [some (.ref (d_ + 1)), some (.int (Int32.ofInt a0_)), none, none]) md_Group_isMadeByOne (Nat.le_of_ble_eq_true rfl) rfl ?_ zQ0
  have hf : zFc d_ [] [] [] [] Mz Mz := zFc.rf
  refine zw_iload_n (pc := 0) (n := 1) (x := Int32.ofInt a0_) rfl (zdal_p dlB_Group_isMadeByOne_22 (i := 0) rfl) ?_
  refine zr_callS hf.x (pc := 1) [.int (Int32.ofInt a0_)] [] l_Group_83 (u_Integer_bitCountX l d_ Mz (hf.w hW) a0_ ha0_a ha0_b) rfl rfl (by decide) (Nat.le_of_ble_eq_true rfl) (zdal_p dlB_Group_isMadeByOne_22 (i := 1) rfl) ?_
  rintro _ N1_ ⟨v2_, rfl, ⟨hv2_a, hv2_b⟩, hsN1_, ⟨hp0_N1_, hp1_N1_⟩⟩
  obtain rfl := hsN1_.eq.symm
  show zW l m_Group_isMadeByOne (zn Mz + 0, zw Mz + 0) Mz 4 [some (.ref (d_ + 1)), some (.int (Int32.ofInt a0_)), none, none] [.int (Int32.ofInt v2_)] _
  refine zw_istore_n (pc := 4) (i := 2) (L2 := [some (.ref (d_ + 1)), some (.int (Int32.ofInt a0_)), some (.int (Int32.ofInt v2_)), none]) rfl (by decide) rfl (zdal_p dlB_Group_isMadeByOne_22 (i := 2) rfl) ?_
  refine zw_iconst (pc := 5) (v := Int32.ofInt 0) (by decide) (zdal_p dlB_Group_isMadeByOne_22 (i := 3) rfl) ?_
  refine zw_istore_n (pc := 6) (i := 3) (L2 := [some (.ref (d_ + 1)), some (.int (Int32.ofInt a0_)), some (.int (Int32.ofInt v2_)), some (.int (Int32.ofInt 0))]) rfl (by decide) rfl (zdal_p dlB_Group_isMadeByOne_22 (i := 4) rfl) ?_
  have lp_7 : ∀ (n : Nat) (u3_ : Int) (hu3_a : -2147483648 ≤ u3_) (hu3_b : u3_ < 2147483648) (i4_ : 0 ≤ u3_), (ze Mz (d_ + 1) 7 - u3_).toNat < n → zW l m_Group_isMadeByOne (zn Mz + 0, zw Mz + 0) Mz 7 [some (.ref (d_ + 1)), some (.int (Int32.ofInt a0_)), some (.int (Int32.ofInt v2_)), some (.int (Int32.ofInt u3_))] [] (zqcI d_ [] [] [] [] Mz (fun v N => ((v = 0 ∨ v = 1)))) := by
    intro n
    induction n with
    | zero =>
      intro u3_ hu3_a hu3_b i4_ h0
      exact absurd h0 (Nat.not_lt_zero _)
    | succ n ih_7 =>
      intro u3_ hu3_a hu3_b i4_ hlt_7
      refine zw_iload_n (pc := 7) (n := 3) (x := Int32.ofInt u3_) rfl (zdal_p dlB_Group_isMadeByOne_22 (i := 5) rfl) ?_
      refine zw_aload_n (pc := 8) (n := 0) (x := (d_ + 1)) rfl (zdal_p dlB_Group_isMadeByOne_22 (i := 6) rfl) ?_
      refine zk_getI (pc := 9) f_Group_39 rfl ((hf.w hW).kr (o := 1) (by decide)) (zdal_p dlB_Group_isMadeByOne_22 (i := 7) rfl) ?_
      have hr5_ := ze_r Mz (d_ + 1) 7
      refine zr_icmp_ge (pc := 12) (tgt := 40) ⟨hu3_a, hu3_b⟩ ⟨(ze_r Mz (d_ + 1) 7).1, (ze_r Mz (d_ + 1) 7).2⟩ (by decide) (zdal_p dlB_Group_isMadeByOne_22 (i := 8) rfl) (fun hc_12 => ?_) (fun hc_12 => ?_)
      · skip
        refine zw_iconst (pc := 40) (v := Int32.ofInt 0) (by decide) (zdal_p dlB_Group_isMadeByOne_22 (i := 22) rfl) ?_
        exact zk_iret (pc := 41) (ty := .boolean) rfl (z_narB (by omega)) ⟨by omega, by omega⟩ hf (show (((0 : Int)) = 0 ∨ ((0 : Int)) = 1) by first | with_reducible assumption | assumption | omega) (zdal_p dlB_Group_isMadeByOne_22 (i := 23) rfl)
      · skip
        refine zw_iload_n (pc := 15) (n := 1) (x := Int32.ofInt a0_) rfl (zdal_p dlB_Group_isMadeByOne_22 (i := 9) rfl) ?_
        refine zw_iload_n (pc := 16) (n := 3) (x := Int32.ofInt u3_) rfl (zdal_p dlB_Group_isMadeByOne_22 (i := 10) rfl) ?_
        refine zr_callS hf.x (pc := 17) [.int (Int32.ofInt a0_), .int (Int32.ofInt u3_)] [] l_Group_73 (u_T_isInX l d_ Mz (hf.w hW) a0_ ha0_a ha0_b u3_ hu3_a hu3_b) rfl rfl (by decide) (Nat.le_of_ble_eq_true rfl) (zdal_p dlB_Group_isMadeByOne_22 (i := 11) rfl) ?_
        rintro _ N6_ ⟨v7_, rfl, ⟨hv7_a, hv7_b⟩, hsN6_, hp0_N6_⟩
        obtain rfl := hsN6_.eq.symm
        replace hp0_N6_ : (v7_ = 0 ∨ v7_ = 1) := hp0_N6_
        show zW l m_Group_isMadeByOne (zn Mz + 0, zw Mz + 0) Mz 20 [some (.ref (d_ + 1)), some (.int (Int32.ofInt a0_)), some (.int (Int32.ofInt v2_)), some (.int (Int32.ofInt u3_))] [.int (Int32.ofInt v7_)] _
        refine zr_if_eq (pc := 20) (tgt := 34) ⟨hv7_a, hv7_b⟩ (by decide) (zdal_p dlB_Group_isMadeByOne_22 (i := 12) rfl) (fun hc_20 => ?_) (fun hc_20 => ?_)
        · skip
          refine zr_iinc (pc := 34) (i := 3) (a := u3_) (n := 1) (L2 := [some (.ref (d_ + 1)), some (.int (Int32.ofInt a0_)), some (.int (Int32.ofInt v2_)), some (.int (Int32.ofInt (u3_ + 1)))]) rfl (by decide) rfl (zdal_p dlB_Group_isMadeByOne_22 (i := 20) rfl) ?_
          obtain ⟨v8_, hv8_a, hv8_b, hv8_e, hv8_d⟩ := zk_gen (u3_ + 1)
          rw [hv8_e]
          refine zw_goto (pc := 37) (tgt := 7) (by decide) (zdal_p dlB_Group_isMadeByOne_22 (i := 21) rfl) ?_
          exact ih_7 v8_ hv8_a hv8_b (show 0 ≤ v8_ by first | with_reducible assumption | assumption | omega) (by omega)
        · skip
          refine zw_aload_n (pc := 23) (n := 0) (x := (d_ + 1)) rfl (zdal_p dlB_Group_isMadeByOne_22 (i := 13) rfl) ?_
          refine zw_iload_n (pc := 24) (n := 3) (x := Int32.ofInt u3_) rfl (zdal_p dlB_Group_isMadeByOne_22 (i := 14) rfl) ?_
          refine zk_callV hf.x (pc := 25) [.int (Int32.ofInt u3_)] [] l_Group_70 (u_Group_repeatsOfX l d_ Mz (hf.w hW) u3_ hu3_a hu3_b) rfl rfl ((hf.w hW).kr (o := 1) (by decide)) (by decide) (by decide) (Nat.le_of_ble_eq_true rfl) (zdal_p dlB_Group_isMadeByOne_22 (i := 15) rfl) ?_
          rintro _ N9_ ⟨v10_, rfl, ⟨hv10_a, hv10_b⟩, hsN9_, -⟩
          obtain rfl := hsN9_.eq.symm
          show zW l m_Group_isMadeByOne (zn Mz + 0, zw Mz + 0) Mz 28 [some (.ref (d_ + 1)), some (.int (Int32.ofInt a0_)), some (.int (Int32.ofInt v2_)), some (.int (Int32.ofInt u3_))] [.int (Int32.ofInt v10_)] _
          refine zw_iload_n (pc := 28) (n := 2) (x := Int32.ofInt v2_) rfl (zdal_p dlB_Group_isMadeByOne_22 (i := 16) rfl) ?_
          refine zr_icmp_ne (pc := 29) (tgt := 34) ⟨hv10_a, hv10_b⟩ ⟨hv2_a, hv2_b⟩ (by decide) (zdal_p dlB_Group_isMadeByOne_22 (i := 17) rfl) (fun hc_29 => ?_) (fun hc_29 => ?_)
          · skip
            refine zr_iinc (pc := 34) (i := 3) (a := u3_) (n := 1) (L2 := [some (.ref (d_ + 1)), some (.int (Int32.ofInt a0_)), some (.int (Int32.ofInt v2_)), some (.int (Int32.ofInt (u3_ + 1)))]) rfl (by decide) rfl (zdal_p dlB_Group_isMadeByOne_22 (i := 20) rfl) ?_
            obtain ⟨v11_, hv11_a, hv11_b, hv11_e, hv11_d⟩ := zk_gen (u3_ + 1)
            rw [hv11_e]
            refine zw_goto (pc := 37) (tgt := 7) (by decide) (zdal_p dlB_Group_isMadeByOne_22 (i := 21) rfl) ?_
            exact ih_7 v11_ hv11_a hv11_b (show 0 ≤ v11_ by first | with_reducible assumption | assumption | omega) (by omega)
          · skip
            refine zw_iconst (pc := 32) (v := Int32.ofInt 1) (by decide) (zdal_p dlB_Group_isMadeByOne_22 (i := 18) rfl) ?_
            exact zk_iret (pc := 33) (ty := .boolean) rfl (z_narB (by omega)) ⟨by omega, by omega⟩ hf (show (((1 : Int)) = 0 ∨ ((1 : Int)) = 1) by first | with_reducible assumption | assumption | omega) (zdal_p dlB_Group_isMadeByOne_22 (i := 19) rfl)
  exact lp_7 _ 0 (by decide) (by decide) (show 0 ≤ (0 : Int) by first | with_reducible assumption | assumption | omega) (Nat.lt_succ_self _)
set_option maxHeartbeats 4000000 in
theorem u_T_sortX (l : Launch) (d_ : Nat) (Mz : zMem) (hW : zKW d_ Mz) (hnow : zf Mz 0 2 = some (d_ + 0)) (a0_ : Int) (ha0_a : -2147483648 ≤ a0_) (ha0_b : a0_ < 2147483648) (a1_ : Int) (ha1_a : -2147483648 ≤ a1_) (ha1_b : a1_ < 2147483648) : zC l m_T_sort 0 0 [.ref 0, .int (Int32.ofInt a0_), .int (Int32.ofInt a1_)] Mz (zqcI d_ [] [] [] [] Mz (fun v N => True)) := by
  refine zC_of (L0 := [some (.ref 0), some (.int (Int32.ofInt a0_)), some (.int (Int32.ofInt a1_)), none, none]) md_T_sort (Nat.le_of_ble_eq_true rfl) rfl ?_ zQ0
  have hf : zFc d_ [] [] [] [] Mz Mz := zFc.rf
  refine zw_aload_n (pc := 0) (n := 0) (x := 0) rfl (zdal_p dlB_T_sort_14 (i := 0) rfl) ?_
  refine zw_getF (pc := 1) f_T_28 rfl ((hf.w hW).ka (o := 0) (by decide)) (hf.now hnow) (zdal_p dlB_T_sort_14 (i := 1) rfl) ?_
  refine zw_getF (pc := 4) f_T_85 rfl ((hf.w hW).kr (o := 0) (by decide)) ((hf.w hW).lr (o := 0) (s := 1) (r := 12) (by decide)) (zdal_p dlB_T_sort_14 (i := 2) rfl) ?_
  refine zw_astore_n (pc := 7) (i := 3) (L2 := [some (.ref 0), some (.int (Int32.ofInt a0_)), some (.int (Int32.ofInt a1_)), some (.ref (d_ + 12)), none]) rfl (by decide) rfl (zdal_p dlB_T_sort_14 (i := 3) rfl) ?_
  refine zw_aload_n (pc := 8) (n := 3) (x := (d_ + 12)) rfl (zdal_p dlB_T_sort_14 (i := 4) rfl) ?_
  refine zw_iload_n (pc := 9) (n := 1) (x := Int32.ofInt a0_) rfl (zdal_p dlB_T_sort_14 (i := 5) rfl) ?_
  refine zk_callV hf.x (pc := 10) [.int (Int32.ofInt a0_)] [] l_T_143 (u_Sorts_hasSortX l d_ Mz (hf.w hW) a0_ ha0_a ha0_b) rfl rfl ((hf.w hW).kr (o := 12) (by decide)) (by decide) (by decide) (Nat.le_of_ble_eq_true rfl) (zdal_p dlB_T_sort_14 (i := 6) rfl) ?_
  rintro _ N1_ ⟨v2_, rfl, ⟨hv2_a, hv2_b⟩, hsN1_, hp0_N1_⟩
  obtain rfl := hsN1_.eq.symm
  replace hp0_N1_ : (v2_ = 0 ∨ v2_ = 1) := hp0_N1_
  show zW l m_T_sort (zn Mz + 0, zw Mz + 0) Mz 13 [some (.ref 0), some (.int (Int32.ofInt a0_)), some (.int (Int32.ofInt a1_)), some (.ref (d_ + 12)), none] [.int (Int32.ofInt v2_)] _
  refine zr_if_ne (pc := 13) (tgt := 18) ⟨hv2_a, hv2_b⟩ (by decide) (zdal_p dlB_T_sort_14 (i := 7) rfl) (fun hc_13 => ?_) (fun hc_13 => ?_)
  · skip
    refine zw_aload_n (pc := 18) (n := 3) (x := (d_ + 12)) rfl (zdal_p dlB_T_sort_14 (i := 10) rfl) ?_
    refine zw_getF (pc := 19) f_T_146 rfl ((hf.w hW).kr (o := 12) (by decide)) ((hf.w hW).lr (o := 12) (s := 4) (r := 19) (by decide)) (zdal_p dlB_T_sort_14 (i := 11) rfl) ?_
    refine zw_iload_n (pc := 22) (n := 1) (x := Int32.ofInt a0_) rfl (zdal_p dlB_T_sort_14 (i := 12) rfl) ?_
    refine zk_atG hf.x (pc := 23) l_T_118 ((hf.w hW).kr (o := 19) (by decide)) ((hf.w hW).lr (o := 19) (s := 0) (r := 20) (by decide)) ((hf.w hW).rr (o := 20) (t := 1) (n := 27) (by decide)) (by decide) ⟨by omega, by omega⟩ (by decide) (Nat.le_of_ble_eq_true rfl) (zdal_p dlB_T_sort_14 (i := 13) rfl) (fun v3_ hv3_ hv3_a hv3_b => ?_)
    clear hv3_
    refine zw_istore (pc := 26) (i := 4) (L2 := [some (.ref 0), some (.int (Int32.ofInt a0_)), some (.int (Int32.ofInt a1_)), some (.ref (d_ + 12)), some (.int (Int32.ofInt v3_))]) (by decide) rfl (zdal_p dlB_T_sort_14 (i := 14) rfl) ?_
    refine zw_iload_n (pc := 28) (n := 2) (x := Int32.ofInt a1_) rfl (zdal_p dlB_T_sort_14 (i := 15) rfl) ?_
    by_cases hs_29_0 : a1_ = 0
    · refine zr_tabIn (c := 0) (off := 39) (tgt := 68) ⟨by decide, by decide⟩ hs_29_0 (by decide) (by decide) rfl (by decide) d_T_sort_29 ?_
      refine zw_iload (pc := 68) (i := 4) (x := Int32.ofInt v3_) rfl (zdal_p dlB_T_sort_14 (i := 17) rfl) ?_
      refine zr_callS hf.x (pc := 70) [.int (Int32.ofInt v3_)] [] l_T_149 (u_Integer_bitCountX l d_ Mz (hf.w hW) v3_ hv3_a hv3_b) rfl rfl (by decide) (Nat.le_of_ble_eq_true rfl) (zdal_p dlB_T_sort_14 (i := 18) rfl) ?_
      rintro _ N4_ ⟨v5_, rfl, ⟨hv5_a, hv5_b⟩, hsN4_, ⟨hp0_N4_, hp1_N4_⟩⟩
      obtain rfl := hsN4_.eq.symm
      show zW l m_T_sort (zn Mz + 0, zw Mz + 0) Mz 73 [some (.ref 0), some (.int (Int32.ofInt a0_)), some (.int (Int32.ofInt a1_)), some (.ref (d_ + 12)), some (.int (Int32.ofInt v3_))] [.int (Int32.ofInt v5_)] _
      exact zk_iret (pc := 73) (ty := .int) rfl rfl ⟨by omega, by omega⟩ hf trivial (zdal_p dlB_T_sort_14 (i := 19) rfl)
    by_cases hs_29_1 : a1_ = 1
    · refine zr_tabIn (c := 1) (off := 45) (tgt := 74) ⟨by decide, by decide⟩ hs_29_1 (by decide) (by decide) rfl (by decide) d_T_sort_29 ?_
      refine zw_aload_n (pc := 74) (n := 3) (x := (d_ + 12)) rfl (zdal_p dlB_T_sort_14 (i := 20) rfl) ?_
      refine zw_iload_n (pc := 75) (n := 1) (x := Int32.ofInt a0_) rfl (zdal_p dlB_T_sort_14 (i := 21) rfl) ?_
      refine zk_callV hf.x (pc := 76) [.int (Int32.ofInt a0_)] [] l_T_154 (u_Sorts_countOfX l d_ Mz (hf.w hW) a0_ ha0_a ha0_b) rfl rfl ((hf.w hW).kr (o := 12) (by decide)) (by decide) (by decide) (Nat.le_of_ble_eq_true rfl) (zdal_p dlB_T_sort_14 (i := 22) rfl) ?_
      rintro _ N6_ ⟨v7_, rfl, ⟨hv7_a, hv7_b⟩, hsN6_, -⟩
      obtain rfl := hsN6_.eq.symm
      show zW l m_T_sort (zn Mz + 0, zw Mz + 0) Mz 79 [some (.ref 0), some (.int (Int32.ofInt a0_)), some (.int (Int32.ofInt a1_)), some (.ref (d_ + 12)), some (.int (Int32.ofInt v3_))] [.int (Int32.ofInt v7_)] _
      exact zk_iret (pc := 79) (ty := .int) rfl rfl ⟨by omega, by omega⟩ hf trivial (zdal_p dlB_T_sort_14 (i := 23) rfl)
    by_cases hs_29_2 : a1_ = 2
    · refine zr_tabIn (c := 2) (off := 51) (tgt := 80) ⟨by decide, by decide⟩ hs_29_2 (by decide) (by decide) rfl (by decide) d_T_sort_29 ?_
      refine zw_iload (pc := 80) (i := 4) (x := Int32.ofInt v3_) rfl (zdal_p dlB_T_sort_15 (i := 0) rfl) ?_
      exact zk_iret (pc := 82) (ty := .int) rfl rfl ⟨by omega, by omega⟩ hf trivial (zdal_p dlB_T_sort_15 (i := 1) rfl)
    by_cases hs_29_3 : a1_ = 3
    · refine zr_tabIn (c := 3) (off := 54) (tgt := 83) ⟨by decide, by decide⟩ hs_29_3 (by decide) (by decide) rfl (by decide) d_T_sort_29 ?_
      refine zw_aload_n (pc := 83) (n := 0) (x := 0) rfl (zdal_p dlB_T_sort_15 (i := 2) rfl) ?_
      refine zw_getF (pc := 84) f_T_28 rfl ((hf.w hW).ka (o := 0) (by decide)) (hf.now hnow) (zdal_p dlB_T_sort_15 (i := 3) rfl) ?_
      refine zw_getF (pc := 87) f_T_61 rfl ((hf.w hW).kr (o := 0) (by decide)) ((hf.w hW).lr (o := 0) (s := 0) (r := 1) (by decide)) (zdal_p dlB_T_sort_15 (i := 4) rfl) ?_
      refine zw_iload (pc := 90) (i := 4) (x := Int32.ofInt v3_) rfl (zdal_p dlB_T_sort_15 (i := 5) rfl) ?_
      refine zk_callV hf.x (pc := 92) [.int (Int32.ofInt v3_)] [] l_T_157 (u_Group_normOfX l d_ Mz (hf.w hW) v3_ hv3_a hv3_b) rfl rfl ((hf.w hW).kr (o := 1) (by decide)) (by decide) (by decide) (Nat.le_of_ble_eq_true rfl) (zdal_p dlB_T_sort_15 (i := 6) rfl) ?_
      rintro _ N8_ ⟨v9_, rfl, ⟨hv9_a, hv9_b⟩, hsN8_, -⟩
      obtain rfl := hsN8_.eq.symm
      show zW l m_T_sort (zn Mz + 0, zw Mz + 0) Mz 95 [some (.ref 0), some (.int (Int32.ofInt a0_)), some (.int (Int32.ofInt a1_)), some (.ref (d_ + 12)), some (.int (Int32.ofInt v3_))] [.int (Int32.ofInt v9_)] _
      refine zr_callS hf.x (pc := 95) [.int (Int32.ofInt v9_)] [] l_T_149 (u_Integer_bitCountX l d_ Mz (hf.w hW) v9_ hv9_a hv9_b) rfl rfl (by decide) (Nat.le_of_ble_eq_true rfl) (zdal_p dlB_T_sort_15 (i := 7) rfl) ?_
      rintro _ N10_ ⟨v11_, rfl, ⟨hv11_a, hv11_b⟩, hsN10_, ⟨hp0_N10_, hp1_N10_⟩⟩
      obtain rfl := hsN10_.eq.symm
      show zW l m_T_sort (zn Mz + 0, zw Mz + 0) Mz 98 [some (.ref 0), some (.int (Int32.ofInt a0_)), some (.int (Int32.ofInt a1_)), some (.ref (d_ + 12)), some (.int (Int32.ofInt v3_))] [.int (Int32.ofInt v11_)] _
      exact zk_iret (pc := 98) (ty := .int) rfl rfl ⟨by omega, by omega⟩ hf trivial (zdal_p dlB_T_sort_15 (i := 8) rfl)
    by_cases hs_29_4 : a1_ = 4
    · refine zr_tabIn (c := 4) (off := 70) (tgt := 99) ⟨by decide, by decide⟩ hs_29_4 (by decide) (by decide) rfl (by decide) d_T_sort_29 ?_
      refine zw_aload_n (pc := 99) (n := 0) (x := 0) rfl (zdal_p dlB_T_sort_15 (i := 9) rfl) ?_
      refine zw_getF (pc := 100) f_T_28 rfl ((hf.w hW).ka (o := 0) (by decide)) (hf.now hnow) (zdal_p dlB_T_sort_15 (i := 10) rfl) ?_
      refine zw_getF (pc := 103) f_T_61 rfl ((hf.w hW).kr (o := 0) (by decide)) ((hf.w hW).lr (o := 0) (s := 0) (r := 1) (by decide)) (zdal_p dlB_T_sort_15 (i := 11) rfl) ?_
      refine zw_iload (pc := 106) (i := 4) (x := Int32.ofInt v3_) rfl (zdal_p dlB_T_sort_15 (i := 12) rfl) ?_
      refine zk_callV hf.x (pc := 108) [.int (Int32.ofInt v3_)] [] l_T_160 (u_Group_isMadeByOneX l d_ Mz (hf.w hW) v3_ hv3_a hv3_b) rfl rfl ((hf.w hW).kr (o := 1) (by decide)) (by decide) (by decide) (Nat.le_of_ble_eq_true rfl) (zdal_p dlB_T_sort_15 (i := 13) rfl) ?_
      rintro _ N12_ ⟨v13_, rfl, ⟨hv13_a, hv13_b⟩, hsN12_, hp0_N12_⟩
      obtain rfl := hsN12_.eq.symm
      replace hp0_N12_ : (v13_ = 0 ∨ v13_ = 1) := hp0_N12_
      show zW l m_T_sort (zn Mz + 0, zw Mz + 0) Mz 111 [some (.ref 0), some (.int (Int32.ofInt a0_)), some (.int (Int32.ofInt a1_)), some (.ref (d_ + 12)), some (.int (Int32.ofInt v3_))] [.int (Int32.ofInt v13_)] _
      refine zr_if_eq (pc := 111) (tgt := 118) ⟨hv13_a, hv13_b⟩ (by decide) (zdal_p dlB_T_sort_15 (i := 14) rfl) (fun hc_111 => ?_) (fun hc_111 => ?_)
      · skip
        refine zw_iconst (pc := 118) (v := Int32.ofInt 0) (by decide) (zdal_p dlB_T_sort_15 (i := 17) rfl) ?_
        exact zk_iret (pc := 119) (ty := .int) rfl rfl ⟨by omega, by omega⟩ hf trivial (zdal_p dlB_T_sort_15 (i := 18) rfl)
      · skip
        refine zw_iconst (pc := 114) (v := Int32.ofInt 1) (by decide) (zdal_p dlB_T_sort_15 (i := 15) rfl) ?_
        refine zw_goto (pc := 115) (tgt := 119) (by decide) (zdal_p dlB_T_sort_15 (i := 16) rfl) ?_
        exact zk_iret (pc := 119) (ty := .int) rfl rfl ⟨by omega, by omega⟩ hf trivial (zdal_p dlB_T_sort_15 (i := 18) rfl)
    by_cases hs_29_5 : a1_ = 5
    · refine zr_tabIn (c := 5) (off := 91) (tgt := 120) ⟨by decide, by decide⟩ hs_29_5 (by decide) (by decide) rfl (by decide) d_T_sort_29 ?_
      refine zw_aload_n (pc := 120) (n := 0) (x := 0) rfl (zdal_p dlB_T_sort_15 (i := 19) rfl) ?_
      refine zw_getF (pc := 121) f_T_28 rfl ((hf.w hW).ka (o := 0) (by decide)) (hf.now hnow) (zdal_p dlB_T_sort_15 (i := 20) rfl) ?_
      refine zw_getF (pc := 124) f_T_61 rfl ((hf.w hW).kr (o := 0) (by decide)) ((hf.w hW).lr (o := 0) (s := 0) (r := 1) (by decide)) (zdal_p dlB_T_sort_15 (i := 21) rfl) ?_
      refine zw_iload (pc := 127) (i := 4) (x := Int32.ofInt v3_) rfl (zdal_p dlB_T_sort_15 (i := 22) rfl) ?_
      refine zk_callV hf.x (pc := 129) [.int (Int32.ofInt v3_)] [] l_T_101 (u_Group_isCommutingX l d_ Mz (hf.w hW) v3_ hv3_a hv3_b) rfl rfl ((hf.w hW).kr (o := 1) (by decide)) (by decide) (by decide) (Nat.le_of_ble_eq_true rfl) (zdal_p dlB_T_sort_15 (i := 23) rfl) ?_
      rintro _ N14_ ⟨v15_, rfl, ⟨hv15_a, hv15_b⟩, hsN14_, hp0_N14_⟩
      obtain rfl := hsN14_.eq.symm
      replace hp0_N14_ : (v15_ = 0 ∨ v15_ = 1) := hp0_N14_
      show zW l m_T_sort (zn Mz + 0, zw Mz + 0) Mz 132 [some (.ref 0), some (.int (Int32.ofInt a0_)), some (.int (Int32.ofInt a1_)), some (.ref (d_ + 12)), some (.int (Int32.ofInt v3_))] [.int (Int32.ofInt v15_)] _
      refine zr_if_eq (pc := 132) (tgt := 139) ⟨hv15_a, hv15_b⟩ (by decide) (zdal_p dlB_T_sort_16 (i := 0) rfl) (fun hc_132 => ?_) (fun hc_132 => ?_)
      · skip
        refine zw_iconst (pc := 139) (v := Int32.ofInt 0) (by decide) (zdal_p dlB_T_sort_16 (i := 3) rfl) ?_
        exact zk_iret (pc := 140) (ty := .int) rfl rfl ⟨by omega, by omega⟩ hf trivial (zdal_p dlB_T_sort_16 (i := 4) rfl)
      · skip
        refine zw_iconst (pc := 135) (v := Int32.ofInt 1) (by decide) (zdal_p dlB_T_sort_16 (i := 1) rfl) ?_
        refine zw_goto (pc := 136) (tgt := 140) (by decide) (zdal_p dlB_T_sort_16 (i := 2) rfl) ?_
        exact zk_iret (pc := 140) (ty := .int) rfl rfl ⟨by omega, by omega⟩ hf trivial (zdal_p dlB_T_sort_16 (i := 4) rfl)
    refine zr_tabOut (tgt := 141) ⟨ha1_a, ha1_b⟩ (by omega) (by decide) d_T_sort_29 ?_
    refine zw_iconst (pc := 141) (v := Int32.ofInt (-1)) (by decide) (zdal_p dlB_T_sort_16 (i := 5) rfl) ?_
    exact zk_iret (pc := 142) (ty := .int) rfl rfl ⟨by omega, by omega⟩ hf trivial (zdal_p dlB_T_sort_16 (i := 6) rfl)
  · skip
    refine zw_iconst (pc := 16) (v := Int32.ofInt (-1)) (by decide) (zdal_p dlB_T_sort_14 (i := 8) rfl) ?_
    exact zk_iret (pc := 17) (ty := .int) rfl rfl ⟨by omega, by omega⟩ hf trivial (zdal_p dlB_T_sort_14 (i := 9) rfl)
set_option maxHeartbeats 4000000 in
theorem u_T_withinX (l : Launch) (d_ : Nat) (Mz : zMem) (hW : zKW d_ Mz) (hnow : zf Mz 0 2 = some (d_ + 0)) (a0_ : Int) (ha0_a : -2147483648 ≤ a0_) (ha0_b : a0_ < 2147483648) (a1_ : Int) (ha1_a : -2147483648 ≤ a1_) (ha1_b : a1_ < 2147483648) : zC l m_T_within 0 0 [.ref 0, .int (Int32.ofInt a0_), .int (Int32.ofInt a1_)] Mz (zqcI d_ [] [] [] [] Mz (fun v N => True)) := by
  refine zC_of (L0 := [some (.ref 0), some (.int (Int32.ofInt a0_)), some (.int (Int32.ofInt a1_))]) md_T_within (Nat.le_of_ble_eq_true rfl) rfl ?_ zQ0
  have hf : zFc d_ [] [] [] [] Mz Mz := zFc.rf
  refine zw_aload_n (pc := 0) (n := 0) (x := 0) rfl (zdal_p dlB_T_within_23 (i := 0) rfl) ?_
  refine zw_getF (pc := 1) f_T_28 rfl ((hf.w hW).ka (o := 0) (by decide)) (hf.now hnow) (zdal_p dlB_T_within_23 (i := 1) rfl) ?_
  refine zw_getF (pc := 4) f_T_85 rfl ((hf.w hW).kr (o := 0) (by decide)) ((hf.w hW).lr (o := 0) (s := 1) (r := 12) (by decide)) (zdal_p dlB_T_within_23 (i := 2) rfl) ?_
  refine zw_iload_n (pc := 7) (n := 1) (x := Int32.ofInt a0_) rfl (zdal_p dlB_T_within_23 (i := 3) rfl) ?_
  refine zk_callV hf.x (pc := 8) [.int (Int32.ofInt a0_)] [] l_T_143 (u_Sorts_hasSortX l d_ Mz (hf.w hW) a0_ ha0_a ha0_b) rfl rfl ((hf.w hW).kr (o := 12) (by decide)) (by decide) (by decide) (Nat.le_of_ble_eq_true rfl) (zdal_p dlB_T_within_23 (i := 4) rfl) ?_
  rintro _ N1_ ⟨v2_, rfl, ⟨hv2_a, hv2_b⟩, hsN1_, hp0_N1_⟩
  obtain rfl := hsN1_.eq.symm
  replace hp0_N1_ : (v2_ = 0 ∨ v2_ = 1) := hp0_N1_
  show zW l m_T_within (zn Mz + 0, zw Mz + 0) Mz 11 [some (.ref 0), some (.int (Int32.ofInt a0_)), some (.int (Int32.ofInt a1_))] [.int (Int32.ofInt v2_)] _
  refine zr_if_eq (pc := 11) (tgt := 43) ⟨hv2_a, hv2_b⟩ (by decide) (zdal_p dlB_T_within_23 (i := 5) rfl) (fun hc_11 => ?_) (fun hc_11 => ?_)
  · skip
    refine zw_iconst (pc := 43) (v := Int32.ofInt (-1)) (by decide) (zdal_p dlB_T_within_23 (i := 19) rfl) ?_
    exact zk_iret (pc := 44) (ty := .int) rfl rfl ⟨by omega, by omega⟩ hf trivial (zdal_p dlB_T_within_23 (i := 20) rfl)
  · skip
    refine zw_aload_n (pc := 14) (n := 0) (x := 0) rfl (zdal_p dlB_T_within_23 (i := 6) rfl) ?_
    refine zw_getF (pc := 15) f_T_28 rfl ((hf.w hW).ka (o := 0) (by decide)) (hf.now hnow) (zdal_p dlB_T_within_23 (i := 7) rfl) ?_
    refine zw_getF (pc := 18) f_T_85 rfl ((hf.w hW).kr (o := 0) (by decide)) ((hf.w hW).lr (o := 0) (s := 1) (r := 12) (by decide)) (zdal_p dlB_T_within_23 (i := 8) rfl) ?_
    refine zw_iload_n (pc := 21) (n := 2) (x := Int32.ofInt a1_) rfl (zdal_p dlB_T_within_23 (i := 9) rfl) ?_
    refine zk_callV hf.x (pc := 22) [.int (Int32.ofInt a1_)] [] l_T_143 (u_Sorts_hasSortX l d_ Mz (hf.w hW) a1_ ha1_a ha1_b) rfl rfl ((hf.w hW).kr (o := 12) (by decide)) (by decide) (by decide) (Nat.le_of_ble_eq_true rfl) (zdal_p dlB_T_within_23 (i := 10) rfl) ?_
    rintro _ N3_ ⟨v4_, rfl, ⟨hv4_a, hv4_b⟩, hsN3_, hp0_N3_⟩
    obtain rfl := hsN3_.eq.symm
    replace hp0_N3_ : (v4_ = 0 ∨ v4_ = 1) := hp0_N3_
    show zW l m_T_within (zn Mz + 0, zw Mz + 0) Mz 25 [some (.ref 0), some (.int (Int32.ofInt a0_)), some (.int (Int32.ofInt a1_))] [.int (Int32.ofInt v4_)] _
    refine zr_if_eq (pc := 25) (tgt := 43) ⟨hv4_a, hv4_b⟩ (by decide) (zdal_p dlB_T_within_23 (i := 11) rfl) (fun hc_25 => ?_) (fun hc_25 => ?_)
    · skip
      refine zw_iconst (pc := 43) (v := Int32.ofInt (-1)) (by decide) (zdal_p dlB_T_within_23 (i := 19) rfl) ?_
      exact zk_iret (pc := 44) (ty := .int) rfl rfl ⟨by omega, by omega⟩ hf trivial (zdal_p dlB_T_within_23 (i := 20) rfl)
    · skip
      refine zw_aload_n (pc := 28) (n := 0) (x := 0) rfl (zdal_p dlB_T_within_23 (i := 12) rfl) ?_
      refine zw_getF (pc := 29) f_T_28 rfl ((hf.w hW).ka (o := 0) (by decide)) (hf.now hnow) (zdal_p dlB_T_within_23 (i := 13) rfl) ?_
      refine zw_getF (pc := 32) f_T_85 rfl ((hf.w hW).kr (o := 0) (by decide)) ((hf.w hW).lr (o := 0) (s := 1) (r := 12) (by decide)) (zdal_p dlB_T_within_23 (i := 14) rfl) ?_
      refine zw_iload_n (pc := 35) (n := 1) (x := Int32.ofInt a0_) rfl (zdal_p dlB_T_within_23 (i := 15) rfl) ?_
      refine zw_iload_n (pc := 36) (n := 2) (x := Int32.ofInt a1_) rfl (zdal_p dlB_T_within_23 (i := 16) rfl) ?_
      refine zk_callV hf.x (pc := 37) [.int (Int32.ofInt a0_), .int (Int32.ofInt a1_)] [] l_T_163 (u_Sorts_countWithinX l d_ Mz (hf.w hW) a0_ ha0_a ha0_b a1_ ha1_a ha1_b) rfl rfl ((hf.w hW).kr (o := 12) (by decide)) (by decide) (by decide) (Nat.le_of_ble_eq_true rfl) (zdal_p dlB_T_within_23 (i := 17) rfl) ?_
      rintro _ N5_ ⟨v6_, rfl, ⟨hv6_a, hv6_b⟩, hsN5_, -⟩
      obtain rfl := hsN5_.eq.symm
      show zW l m_T_within (zn Mz + 0, zw Mz + 0) Mz 40 [some (.ref 0), some (.int (Int32.ofInt a0_)), some (.int (Int32.ofInt a1_))] [.int (Int32.ofInt v6_)] _
      refine zw_goto (pc := 40) (tgt := 44) (by decide) (zdal_p dlB_T_within_23 (i := 18) rfl) ?_
      exact zk_iret (pc := 44) (ty := .int) rfl rfl ⟨by omega, by omega⟩ hf trivial (zdal_p dlB_T_within_23 (i := 20) rfl)
set_option maxHeartbeats 4000000 in
theorem u_Sorts_markAtX (l : Launch) (d_ : Nat) (Mz : zMem) (hW : zKW d_ Mz) (a0_ : Int) (ha0_a : -2147483648 ≤ a0_) (ha0_b : a0_ < 2147483648) (a1_ : Int) (ha1_a : -2147483648 ≤ a1_) (ha1_b : a1_ < 2147483648) : zC l m_Sorts_markAt 0 0 [.ref (d_ + 12), .int (Int32.ofInt a0_), .int (Int32.ofInt a1_)] Mz (zqcI d_ [] [] [] [] Mz (fun v N => True)) := by
  refine zC_of (L0 := [some (.ref (d_ + 12)), some (.int (Int32.ofInt a0_)), some (.int (Int32.ofInt a1_))]) md_Sorts_markAt (Nat.le_of_ble_eq_true rfl) rfl ?_ zQ0
  have hf : zFc d_ [] [] [] [] Mz Mz := zFc.rf
  refine zw_aload_n (pc := 0) (n := 0) (x := (d_ + 12)) rfl (zdal_p dlA_Sorts_markAt_59 (i := 0) rfl) ?_
  refine zw_getF (pc := 1) f_Sorts_29 rfl ((hf.w hW).kr (o := 12) (by decide)) ((hf.w hW).lr (o := 12) (s := 5) (r := 21) (by decide)) (zdal_p dlA_Sorts_markAt_59 (i := 1) rfl) ?_
  refine zw_iload_n (pc := 4) (n := 1) (x := Int32.ofInt a0_) rfl (zdal_p dlA_Sorts_markAt_59 (i := 2) rfl) ?_
  refine zw_bipush (pc := 5) (v := Int32.ofInt 27) (by decide) (zdal_p dlA_Sorts_markAt_59 (i := 3) rfl) ?_
  refine zr_imul (pc := 7) (zdal_p dlA_Sorts_markAt_59 (i := 4) rfl) ?_
  refine zr_nmI (fun v1_ hv1_ => ?_)
  obtain ⟨hv1_a, hv1_b⟩ := hv1_
  refine zw_iload_n (pc := 8) (n := 2) (x := Int32.ofInt a1_) rfl (zdal_p dlA_Sorts_markAt_59 (i := 5) rfl) ?_
  refine zr_iadd (pc := 9) (zdal_p dlA_Sorts_markAt_59 (i := 6) rfl) ?_
  refine zr_nmI (fun v2_ hv2_ => ?_)
  obtain ⟨hv2_a, hv2_b⟩ := hv2_
  refine zk_atG hf.x (pc := 10) l_Sorts_49 ((hf.w hW).kr (o := 21) (by decide)) ((hf.w hW).lr (o := 21) (s := 0) (r := 22) (by decide)) ((hf.w hW).rr (o := 22) (t := 1) (n := 729) (by decide)) (by decide) ⟨by omega, by omega⟩ (by decide) (Nat.le_of_ble_eq_true rfl) (zdal_p dlA_Sorts_markAt_59 (i := 7) rfl) (fun v3_ hv3_ hv3_a hv3_b => ?_)
  clear hv3_
  exact zk_iret (pc := 13) (ty := .int) rfl rfl ⟨by omega, by omega⟩ hf trivial (zdal_p dlA_Sorts_markAt_59 (i := 8) rfl)
set_option maxHeartbeats 4000000 in
theorem u_T_markX (l : Launch) (d_ : Nat) (Mz : zMem) (hW : zKW d_ Mz) (hnow : zf Mz 0 2 = some (d_ + 0)) (a0_ : Int) (ha0_a : -2147483648 ≤ a0_) (ha0_b : a0_ < 2147483648) (a1_ : Int) (ha1_a : -2147483648 ≤ a1_) (ha1_b : a1_ < 2147483648) : zC l m_T_mark 0 0 [.ref 0, .int (Int32.ofInt a0_), .int (Int32.ofInt a1_)] Mz (zqcI d_ [] [] [] [] Mz (fun v N => True)) := by
  refine zC_of (L0 := [some (.ref 0), some (.int (Int32.ofInt a0_)), some (.int (Int32.ofInt a1_))]) md_T_mark (Nat.le_of_ble_eq_true rfl) rfl ?_ zQ0
  have hf : zFc d_ [] [] [] [] Mz Mz := zFc.rf
  refine zw_aload_n (pc := 0) (n := 0) (x := 0) rfl (zdal_p dlB_T_mark_24 (i := 0) rfl) ?_
  refine zw_getF (pc := 1) f_T_28 rfl ((hf.w hW).ka (o := 0) (by decide)) (hf.now hnow) (zdal_p dlB_T_mark_24 (i := 1) rfl) ?_
  refine zw_getF (pc := 4) f_T_85 rfl ((hf.w hW).kr (o := 0) (by decide)) ((hf.w hW).lr (o := 0) (s := 1) (r := 12) (by decide)) (zdal_p dlB_T_mark_24 (i := 2) rfl) ?_
  refine zw_iload_n (pc := 7) (n := 1) (x := Int32.ofInt a0_) rfl (zdal_p dlB_T_mark_24 (i := 3) rfl) ?_
  refine zk_callV hf.x (pc := 8) [.int (Int32.ofInt a0_)] [] l_T_143 (u_Sorts_hasSortX l d_ Mz (hf.w hW) a0_ ha0_a ha0_b) rfl rfl ((hf.w hW).kr (o := 12) (by decide)) (by decide) (by decide) (Nat.le_of_ble_eq_true rfl) (zdal_p dlB_T_mark_24 (i := 4) rfl) ?_
  rintro _ N1_ ⟨v2_, rfl, ⟨hv2_a, hv2_b⟩, hsN1_, hp0_N1_⟩
  obtain rfl := hsN1_.eq.symm
  replace hp0_N1_ : (v2_ = 0 ∨ v2_ = 1) := hp0_N1_
  show zW l m_T_mark (zn Mz + 0, zw Mz + 0) Mz 11 [some (.ref 0), some (.int (Int32.ofInt a0_)), some (.int (Int32.ofInt a1_))] [.int (Int32.ofInt v2_)] _
  refine zr_if_eq (pc := 11) (tgt := 43) ⟨hv2_a, hv2_b⟩ (by decide) (zdal_p dlB_T_mark_24 (i := 5) rfl) (fun hc_11 => ?_) (fun hc_11 => ?_)
  · skip
    refine zw_iconst (pc := 43) (v := Int32.ofInt (-1)) (by decide) (zdal_p dlB_T_mark_24 (i := 19) rfl) ?_
    exact zk_iret (pc := 44) (ty := .int) rfl rfl ⟨by omega, by omega⟩ hf trivial (zdal_p dlB_T_mark_24 (i := 20) rfl)
  · skip
    refine zw_aload_n (pc := 14) (n := 0) (x := 0) rfl (zdal_p dlB_T_mark_24 (i := 6) rfl) ?_
    refine zw_getF (pc := 15) f_T_28 rfl ((hf.w hW).ka (o := 0) (by decide)) (hf.now hnow) (zdal_p dlB_T_mark_24 (i := 7) rfl) ?_
    refine zw_getF (pc := 18) f_T_85 rfl ((hf.w hW).kr (o := 0) (by decide)) ((hf.w hW).lr (o := 0) (s := 1) (r := 12) (by decide)) (zdal_p dlB_T_mark_24 (i := 8) rfl) ?_
    refine zw_iload_n (pc := 21) (n := 2) (x := Int32.ofInt a1_) rfl (zdal_p dlB_T_mark_24 (i := 9) rfl) ?_
    refine zk_callV hf.x (pc := 22) [.int (Int32.ofInt a1_)] [] l_T_143 (u_Sorts_hasSortX l d_ Mz (hf.w hW) a1_ ha1_a ha1_b) rfl rfl ((hf.w hW).kr (o := 12) (by decide)) (by decide) (by decide) (Nat.le_of_ble_eq_true rfl) (zdal_p dlB_T_mark_24 (i := 10) rfl) ?_
    rintro _ N3_ ⟨v4_, rfl, ⟨hv4_a, hv4_b⟩, hsN3_, hp0_N3_⟩
    obtain rfl := hsN3_.eq.symm
    replace hp0_N3_ : (v4_ = 0 ∨ v4_ = 1) := hp0_N3_
    show zW l m_T_mark (zn Mz + 0, zw Mz + 0) Mz 25 [some (.ref 0), some (.int (Int32.ofInt a0_)), some (.int (Int32.ofInt a1_))] [.int (Int32.ofInt v4_)] _
    refine zr_if_eq (pc := 25) (tgt := 43) ⟨hv4_a, hv4_b⟩ (by decide) (zdal_p dlB_T_mark_24 (i := 11) rfl) (fun hc_25 => ?_) (fun hc_25 => ?_)
    · skip
      refine zw_iconst (pc := 43) (v := Int32.ofInt (-1)) (by decide) (zdal_p dlB_T_mark_24 (i := 19) rfl) ?_
      exact zk_iret (pc := 44) (ty := .int) rfl rfl ⟨by omega, by omega⟩ hf trivial (zdal_p dlB_T_mark_24 (i := 20) rfl)
    · skip
      refine zw_aload_n (pc := 28) (n := 0) (x := 0) rfl (zdal_p dlB_T_mark_24 (i := 12) rfl) ?_
      refine zw_getF (pc := 29) f_T_28 rfl ((hf.w hW).ka (o := 0) (by decide)) (hf.now hnow) (zdal_p dlB_T_mark_24 (i := 13) rfl) ?_
      refine zw_getF (pc := 32) f_T_85 rfl ((hf.w hW).kr (o := 0) (by decide)) ((hf.w hW).lr (o := 0) (s := 1) (r := 12) (by decide)) (zdal_p dlB_T_mark_24 (i := 14) rfl) ?_
      refine zw_iload_n (pc := 35) (n := 1) (x := Int32.ofInt a0_) rfl (zdal_p dlB_T_mark_24 (i := 15) rfl) ?_
      refine zw_iload_n (pc := 36) (n := 2) (x := Int32.ofInt a1_) rfl (zdal_p dlB_T_mark_24 (i := 16) rfl) ?_
      refine zk_callV hf.x (pc := 37) [.int (Int32.ofInt a0_), .int (Int32.ofInt a1_)] [] l_T_166 (u_Sorts_markAtX l d_ Mz (hf.w hW) a0_ ha0_a ha0_b a1_ ha1_a ha1_b) rfl rfl ((hf.w hW).kr (o := 12) (by decide)) (by decide) (by decide) (Nat.le_of_ble_eq_true rfl) (zdal_p dlB_T_mark_24 (i := 17) rfl) ?_
      rintro _ N5_ ⟨v6_, rfl, ⟨hv6_a, hv6_b⟩, hsN5_, -⟩
      obtain rfl := hsN5_.eq.symm
      show zW l m_T_mark (zn Mz + 0, zw Mz + 0) Mz 40 [some (.ref 0), some (.int (Int32.ofInt a0_)), some (.int (Int32.ofInt a1_))] [.int (Int32.ofInt v6_)] _
      refine zw_goto (pc := 40) (tgt := 44) (by decide) (zdal_p dlB_T_mark_24 (i := 18) rfl) ?_
      exact zk_iret (pc := 44) (ty := .int) rfl rfl ⟨by omega, by omega⟩ hf trivial (zdal_p dlB_T_mark_24 (i := 20) rfl)
set_option maxHeartbeats 4000000 in
theorem u_Sums_numberAtX (l : Launch) (d_ : Nat) (Mz : zMem) (hW : zKW d_ Mz) (a0_ : Int) (ha0_a : -2147483648 ≤ a0_) (ha0_b : a0_ < 2147483648) (a1_ : Int) (ha1_a : -2147483648 ≤ a1_) (ha1_b : a1_ < 2147483648) : zC l m_Sums_numberAt 0 0 [.ref (d_ + 23), .int (Int32.ofInt a0_), .int (Int32.ofInt a1_)] Mz (zqcJ d_ [] [] [] [] Mz (fun v N => True)) := by
  refine zC_of (L0 := [some (.ref (d_ + 23)), some (.int (Int32.ofInt a0_)), some (.int (Int32.ofInt a1_))]) md_Sums_numberAt (Nat.le_of_ble_eq_true rfl) rfl ?_ zQ0
  have hf : zFc d_ [] [] [] [] Mz Mz := zFc.rf
  refine zw_aload_n (pc := 0) (n := 0) (x := (d_ + 23)) rfl (zdal_p dlA_Sums_numberAt_146 (i := 0) rfl) ?_
  refine zw_getF (pc := 1) f_Sums_16 rfl ((hf.w hW).kr (o := 23) (by decide)) ((hf.w hW).lr (o := 23) (s := 1) (r := 24) (by decide)) (zdal_p dlA_Sums_numberAt_146 (i := 1) rfl) ?_
  refine zw_iload_n (pc := 4) (n := 1) (x := Int32.ofInt a0_) rfl (zdal_p dlA_Sums_numberAt_146 (i := 2) rfl) ?_
  refine zw_bipush (pc := 5) (v := Int32.ofInt 27) (by decide) (zdal_p dlA_Sums_numberAt_146 (i := 3) rfl) ?_
  refine zr_imul (pc := 7) (zdal_p dlA_Sums_numberAt_146 (i := 4) rfl) ?_
  refine zr_nmI (fun v1_ hv1_ => ?_)
  obtain ⟨hv1_a, hv1_b⟩ := hv1_
  refine zw_iload_n (pc := 8) (n := 2) (x := Int32.ofInt a1_) rfl (zdal_p dlA_Sums_numberAt_146 (i := 5) rfl) ?_
  refine zr_iadd (pc := 9) (zdal_p dlA_Sums_numberAt_146 (i := 6) rfl) ?_
  refine zr_nmI (fun v2_ hv2_ => ?_)
  obtain ⟨hv2_a, hv2_b⟩ := hv2_
  refine zk_atGJ hf.x (pc := 10) l_Sums_27 ((hf.w hW).kr (o := 24) (by decide)) ((hf.w hW).lr (o := 24) (s := 0) (r := 25) (by decide)) ((hf.w hW).rr (o := 25) (t := 2) (n := 1080) (by decide)) (by decide) ⟨by omega, by omega⟩ (by decide) (Nat.le_of_ble_eq_true rfl) (zdal_p dlA_Sums_numberAt_146 (i := 7) rfl) (fun v3_ hv3_ hv3_a hv3_b => ?_)
  clear hv3_
  exact zk_lret (pc := 13) rfl ⟨by omega, by omega⟩ hf trivial (zdal_p dlA_Sums_numberAt_146 (i := 8) rfl)
