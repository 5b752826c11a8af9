set_option maxHeartbeats 20000000 in
theorem c_M_makes (l : Launch) (Mz : zMem) (hW : zMt Mz) (T : zGT) (hO : gOK T) (p0_ : zGB T Mz) (p1_ : 0 ≤ ze Mz 81 1) (p2_ : ze Mz 81 1 ≤ 700) (p3_ : 0 ≤ ze Mz 81 14) (p4_ : ze Mz 81 14 ≤ 8) (p5_ : 0 ≤ ze Mz 81 60) (p6_ : ze Mz 81 60 ≤ 12) : zC l m_M_makes 0 0 [.ref 81] Mz (zpI [1, 2, 3, 4, 5, 6, 7, 8, 9, 10, 11, 38, 39, 41, 42, 43, 60] [95, 96, 97, 98, 100, 111] Mz (fun v N => ze N 81 1 = 0 ∧ 0 ≤ ze N 81 60 ∧ ze N 81 60 ≤ 12)) := by
  refine zC_of (L0 := [some (.ref 81), none]) md_M_makes (Nat.le_of_ble_eq_true rfl) rfl ?_ zQ0
  have hf : zFr [1, 2, 3, 4, 5, 6, 7, 8, 9, 10, 11, 38, 39, 41, 42, 43, 60] [95, 96, 97, 98, 100, 111] Mz Mz := zFr.rf
  have r_1 := ze_r Mz 81 1
  have r_2 := ze_r Mz 81 2
  have r_3 := ze_r Mz 81 3
  have r_5 := ze_r Mz 81 5
  have r_7 := ze_r Mz 81 7
  have r_14 := ze_r Mz 81 14
  have r_26 := ze_r Mz 81 26
  have r_39 := ze_r Mz 81 39
  have r_60 := ze_r Mz 81 60
  have hG := hO.1
  have g24 := hG.2.1
  have g1 := hG.1
  have dv0 : zTab T Mz := p0_.1
  have dv1 : zB 85 144 0 5 Mz := p0_.2.1
  have dv2 : zJX T Mz := p0_.2.2.1
  have dv3 : zFirs T Mz := p0_.2.2.2.1
  have dv4 : zSSm T Mz := p0_.2.2.2.2.1
  have dv5 : zGD Mz := zGB.d hO p0_
  have gb := dv5.1
  have gn := dv0.1
  refine zw_aload_n (pc := 0) (n := 0) (x := 81) rfl d_M_makes_0 ?_
  refine zr_callV (hf.w hW) hf.x (pc := 1) [] [] l_M_367 (c_M_begins l Mz (hf.w hW) (show 0 ≤ ze Mz 81 1 by first | assumption | omega) (show ze Mz 81 1 ≤ 700 by first | assumption | omega)) rfl rfl rfl (by decide) (Nat.le_of_ble_eq_true rfl) d_M_makes_1 ?_
  rintro _ N1_ ⟨rfl, hsN1_, ⟨hp0_N1_, hp1_N1_, hp2_N1_, hp3_N1_, hp4_N1_, hp5_N1_, hp6_N1_⟩⟩
  have hf_N1_ : zFr [1, 2, 3, 4, 5, 6, 7, 8, 9, 10, 11, 38, 39, 41, 42, 43, 60] [95, 96, 97, 98, 100, 111] Mz N1_ := hf.tr hsN1_ (by decide) (by decide)
  have r1_N1_ := ze_r N1_ 81 1
  have r2_N1_ := ze_r N1_ 81 2
  have r3_N1_ := ze_r N1_ 81 3
  have r5_N1_ := ze_r N1_ 81 5
  have r7_N1_ := ze_r N1_ 81 7
  have e14_N1_ : ze N1_ 81 14 = ze Mz 81 14 := hsN1_.e (by decide)
  have e26_N1_ : ze N1_ 81 26 = ze Mz 81 26 := hsN1_.e (by decide)
  have e39_N1_ : ze N1_ 81 39 = ze Mz 81 39 := hsN1_.e (by decide)
  have e60_N1_ : ze N1_ 81 60 = ze Mz 81 60 := hsN1_.e (by decide)
  have c3_ : zGB T N1_ := zGB.fr hsN1_ p0_ (by decide) (by decide)
  have c4_ : zTab T N1_ := zTab.fr hsN1_ dv0 (by decide) (by decide)
  have c5_ : zB 85 144 0 5 N1_ := zB.fr hsN1_ dv1 (by decide) (by decide)
  have c6_ : zJX T N1_ := zJX.fr hsN1_ dv2 (by decide) (by decide)
  have c7_ : zFirs T N1_ := zFirs.fr hsN1_ dv3 (by decide) (by decide)
  have c8_ : zSSm T N1_ := zSSm.fr hsN1_ dv4 (by decide) (by decide)
  have c9_ : zGD N1_ := zGD.fr hsN1_ dv5 (by decide) (by decide)
  show zW l m_M_makes (zn Mz + 0, zw Mz + 0) N1_ 4 [some (.ref 81), none] [] (zpI [1, 2, 3, 4, 5, 6, 7, 8, 9, 10, 11, 38, 39, 41, 42, 43, 60] [95, 96, 97, 98, 100, 111] Mz (fun v N => ze N 81 1 = 0 ∧ 0 ≤ ze N 81 60 ∧ ze N 81 60 ≤ 12))
  refine zw_aload_n (pc := 4) (n := 0) (x := 81) rfl d_M_makes_4 ?_
  refine zr_callV (hf_N1_.w hW) hf_N1_.x (pc := 5) [] [] l_M_358 (c_M_formula l N1_ (hf_N1_.w hW) c9_ (show 0 ≤ ze N1_ 81 3 by first | assumption | omega) (show ze N1_ 81 3 ≤ ze N1_ 81 2 by first | assumption | omega) (show ze N1_ 81 2 ≤ 700 by first | assumption | omega) hp2_N1_ (show 0 ≤ ze N1_ 81 7 by first | assumption | omega) (show 0 ≤ ze N1_ 81 14 by first | assumption | omega) (show ze N1_ 81 14 ≤ 8 by first | assumption | omega)) rfl rfl rfl (by decide) (Nat.le_of_ble_eq_true rfl) d_M_makes_5 ?_
  rintro _ N10_ ⟨rfl, hsN10_, ⟨hp0_N10_, hp1_N10_, hp2_N10_, hp3_N10_⟩⟩
  have hf_N10_ : zFr [1, 2, 3, 4, 5, 6, 7, 8, 9, 10, 11, 38, 39, 41, 42, 43, 60] [95, 96, 97, 98, 100, 111] Mz N10_ := hf_N1_.tr hsN10_ (by decide) (by decide)
  have e1_N10_ : ze N10_ 81 1 = ze N1_ 81 1 := hsN10_.e (by decide)
  have e2_N10_ : ze N10_ 81 2 = ze N1_ 81 2 := hsN10_.e (by decide)
  have r3_N10_ := ze_r N10_ 81 3
  have r5_N10_ := ze_r N10_ 81 5
  have r7_N10_ := ze_r N10_ 81 7
  have e14_N10_ : ze N10_ 81 14 = ze N1_ 81 14 := hsN10_.e (by decide)
  have e26_N10_ : ze N10_ 81 26 = ze N1_ 81 26 := hsN10_.e (by decide)
  have r39_N10_ := ze_r N10_ 81 39
  have e60_N10_ : ze N10_ 81 60 = ze N1_ 81 60 := hsN10_.e (by decide)
  have c12_ : zGB T N10_ := zGB.fr hsN10_ c3_ (by decide) (by decide)
  have c13_ : zTab T N10_ := zTab.fr hsN10_ c4_ (by decide) (by decide)
  have c14_ : zB 85 144 0 5 N10_ := zB.fr hsN10_ c5_ (by decide) (by decide)
  have c15_ : zJX T N10_ := zJX.fr hsN10_ c6_ (by decide) (by decide)
  have c16_ : zFirs T N10_ := zFirs.fr hsN10_ c7_ (by decide) (by decide)
  have c17_ : zSSm T N10_ := zSSm.fr hsN10_ c8_ (by decide) (by decide)
  have c18_ : zGD N10_ := zGD.fr hsN10_ c9_ (by decide) (by decide)
  rcases hp3_N10_ with ⟨ha5_0_hp3_N10_, ha5_1_hp3_N10_⟩ | ⟨ha5_0_hp3_N10_, ha5_1_hp3_N10_, ha5_2_hp3_N10_⟩
  · skip
    show zW l m_M_makes (zn Mz + 0, zw Mz + 0) N10_ 8 [some (.ref 81), none] [] (zpI [1, 2, 3, 4, 5, 6, 7, 8, 9, 10, 11, 38, 39, 41, 42, 43, 60] [95, 96, 97, 98, 100, 111] Mz (fun v N => ze N 81 1 = 0 ∧ 0 ≤ ze N 81 60 ∧ ze N 81 60 ≤ 12))
    refine zw_aload_n (pc := 8) (n := 0) (x := 81) rfl d_M_makes_8 ?_
    refine zr_callV (hf_N10_.w hW) hf_N10_.x (pc := 9) [] [] l_M_183 (c_M_isGood l N10_ (hf_N10_.w hW) ) rfl rfl rfl (by decide) (Nat.le_of_ble_eq_true rfl) d_M_makes_9 ?_
    rintro _ N19_ ⟨v20_, rfl, ⟨hv20_a, hv20_b⟩, hsN19_, hp0_N19_⟩
    obtain rfl := hsN19_.eq.symm
    replace hp0_N19_ : ((v20_ = 1 ∧ ze N10_ 81 7 = 0) ∨ (v20_ = 0 ∧ ze N10_ 81 7 ≠ 0)) := hp0_N19_
    rcases hp0_N19_ with ⟨rfl, ha9_0_hp0_N19_⟩ | ⟨rfl, ha9_0_hp0_N19_⟩
    · skip
      exfalso; omega
    · skip
      show zW l m_M_makes (zn Mz + 0, zw Mz + 0) N10_ 12 [some (.ref 81), none] [.int (Int32.ofInt 0)] (zpI [1, 2, 3, 4, 5, 6, 7, 8, 9, 10, 11, 38, 39, 41, 42, 43, 60] [95, 96, 97, 98, 100, 111] Mz (fun v N => ze N 81 1 = 0 ∧ 0 ≤ ze N 81 60 ∧ ze N 81 60 ≤ 12))
      refine zr_if_eq (pc := 12) (tgt := 27) ⟨(by decide), (by decide)⟩ (by decide) d_M_makes_12 (fun hc_12 => ?_) (fun hc_12 => ?_)
      · skip
        refine zw_aload_n (pc := 27) (n := 0) (x := 81) rfl d_M_makes_27 ?_
        refine zr_callV (hf_N10_.w hW) hf_N10_.x (pc := 28) [] [] l_M_183 (c_M_isGood l N10_ (hf_N10_.w hW) ) rfl rfl rfl (by decide) (Nat.le_of_ble_eq_true rfl) d_M_makes_28 ?_
        rintro _ N21_ ⟨v22_, rfl, ⟨hv22_a, hv22_b⟩, hsN21_, hp0_N21_⟩
        obtain rfl := hsN21_.eq.symm
        replace hp0_N21_ : ((v22_ = 1 ∧ ze N10_ 81 7 = 0) ∨ (v22_ = 0 ∧ ze N10_ 81 7 ≠ 0)) := hp0_N21_
        rcases hp0_N21_ with ⟨rfl, ha28_0_hp0_N21_⟩ | ⟨rfl, ha28_0_hp0_N21_⟩
        · skip
          exfalso; omega
        · skip
          show zW l m_M_makes (zn Mz + 0, zw Mz + 0) N10_ 31 [some (.ref 81), none] [.int (Int32.ofInt 0)] (zpI [1, 2, 3, 4, 5, 6, 7, 8, 9, 10, 11, 38, 39, 41, 42, 43, 60] [95, 96, 97, 98, 100, 111] Mz (fun v N => ze N 81 1 = 0 ∧ 0 ≤ ze N 81 60 ∧ ze N 81 60 ≤ 12))
          refine zr_if_eq (pc := 31) (tgt := 48) ⟨(by decide), (by decide)⟩ (by decide) d_M_makes_31 (fun hc_31 => ?_) (fun hc_31 => ?_)
          · skip
            refine zw_aload_n (pc := 48) (n := 0) (x := 81) rfl d_M_makes_48 ?_
            refine zr_callV (hf_N10_.w hW) hf_N10_.x (pc := 49) [] [] l_M_373 (c_M_tells l N10_ (hf_N10_.w hW) ) rfl rfl rfl (by decide) (Nat.le_of_ble_eq_true rfl) d_M_makes_49 ?_
            rintro _ N23_ ⟨rfl, hsN23_, -⟩
            have hf_N23_ : zFr [1, 2, 3, 4, 5, 6, 7, 8, 9, 10, 11, 38, 39, 41, 42, 43, 60] [95, 96, 97, 98, 100, 111] Mz N23_ := hf_N10_.tr hsN23_ (by decide) (by decide)
            have e1_N23_ : ze N23_ 81 1 = ze N10_ 81 1 := hsN23_.e (by decide)
            have e2_N23_ : ze N23_ 81 2 = ze N10_ 81 2 := hsN23_.e (by decide)
            have e3_N23_ : ze N23_ 81 3 = ze N10_ 81 3 := hsN23_.e (by decide)
            have e5_N23_ : ze N23_ 81 5 = ze N10_ 81 5 := hsN23_.e (by decide)
            have e7_N23_ : ze N23_ 81 7 = ze N10_ 81 7 := hsN23_.e (by decide)
            have e14_N23_ : ze N23_ 81 14 = ze N10_ 81 14 := hsN23_.e (by decide)
            have e26_N23_ : ze N23_ 81 26 = ze N10_ 81 26 := hsN23_.e (by decide)
            have e39_N23_ : ze N23_ 81 39 = ze N10_ 81 39 := hsN23_.e (by decide)
            have e60_N23_ : ze N23_ 81 60 = ze N10_ 81 60 := hsN23_.e (by decide)
            have c25_ : zGB T N23_ := zGB.fr hsN23_ c12_ (by decide) (by decide)
            have c26_ : zTab T N23_ := zTab.fr hsN23_ c13_ (by decide) (by decide)
            have c27_ : zB 85 144 0 5 N23_ := zB.fr hsN23_ c14_ (by decide) (by decide)
            have c28_ : zJX T N23_ := zJX.fr hsN23_ c15_ (by decide) (by decide)
            have c29_ : zFirs T N23_ := zFirs.fr hsN23_ c16_ (by decide) (by decide)
            have c30_ : zSSm T N23_ := zSSm.fr hsN23_ c17_ (by decide) (by decide)
            have c31_ : zGD N23_ := zGD.fr hsN23_ c18_ (by decide) (by decide)
            have c32_ : zTv N23_ := zTv.fr hsN23_ hp2_N10_ (by decide) (by decide)
            show zW l m_M_makes (zn Mz + 0, zw Mz + 0) N23_ 52 [some (.ref 81), none] [] (zpI [1, 2, 3, 4, 5, 6, 7, 8, 9, 10, 11, 38, 39, 41, 42, 43, 60] [95, 96, 97, 98, 100, 111] Mz (fun v N => ze N 81 1 = 0 ∧ 0 ≤ ze N 81 60 ∧ ze N 81 60 ≤ 12))
            refine zw_aload_n (pc := 52) (n := 0) (x := 81) rfl d_M_makes_52 ?_
            refine zr_getI (hf_N23_.w hW) (pc := 53) f_M_172 rfl d_M_makes_53 ?_
            refine zr_if_le (pc := 56) (tgt := 61) ⟨(ze_r N23_ 81 7).1, (ze_r N23_ 81 7).2⟩ (by decide) d_M_makes_56 (fun hc_56 => ?_) (fun hc_56 => ?_)
            · skip
              exfalso; omega
            · skip
              refine zw_iconst (pc := 59) (v := Int32.ofInt (-1)) (by decide) d_M_makes_59 ?_
              exact zr_iret (pc := 60) (ty := .int) rfl rfl ⟨by omega, by omega⟩ hf_N23_ ⟨(show ze N23_ 81 1 = 0 by first | assumption | omega), (show 0 ≤ ze N23_ 81 60 by first | assumption | omega), (show ze N23_ 81 60 ≤ 12 by first | assumption | omega)⟩ d_M_makes_60
          · skip
            exact absurd hc_31 (by decide)
      · skip
        exact absurd hc_12 (by decide)
  · skip
    show zW l m_M_makes (zn Mz + 0, zw Mz + 0) N10_ 8 [some (.ref 81), none] [] (zpI [1, 2, 3, 4, 5, 6, 7, 8, 9, 10, 11, 38, 39, 41, 42, 43, 60] [95, 96, 97, 98, 100, 111] Mz (fun v N => ze N 81 1 = 0 ∧ 0 ≤ ze N 81 60 ∧ ze N 81 60 ≤ 12))
    refine zw_aload_n (pc := 8) (n := 0) (x := 81) rfl d_M_makes_8 ?_
    refine zr_callV (hf_N10_.w hW) hf_N10_.x (pc := 9) [] [] l_M_183 (c_M_isGood l N10_ (hf_N10_.w hW) ) rfl rfl rfl (by decide) (Nat.le_of_ble_eq_true rfl) d_M_makes_9 ?_
    rintro _ N33_ ⟨v34_, rfl, ⟨hv34_a, hv34_b⟩, hsN33_, hp0_N33_⟩
    obtain rfl := hsN33_.eq.symm
    replace hp0_N33_ : ((v34_ = 1 ∧ ze N10_ 81 7 = 0) ∨ (v34_ = 0 ∧ ze N10_ 81 7 ≠ 0)) := hp0_N33_
    rcases hp0_N33_ with ⟨rfl, ha9_0_hp0_N33_⟩ | ⟨rfl, ha9_0_hp0_N33_⟩
    · skip
      show zW l m_M_makes (zn Mz + 0, zw Mz + 0) N10_ 12 [some (.ref 81), none] [.int (Int32.ofInt 1)] (zpI [1, 2, 3, 4, 5, 6, 7, 8, 9, 10, 11, 38, 39, 41, 42, 43, 60] [95, 96, 97, 98, 100, 111] Mz (fun v N => ze N 81 1 = 0 ∧ 0 ≤ ze N 81 60 ∧ ze N 81 60 ≤ 12))
      refine zr_if_eq (pc := 12) (tgt := 27) ⟨(by decide), (by decide)⟩ (by decide) d_M_makes_12 (fun hc_12 => ?_) (fun hc_12 => ?_)
      · skip
        exact absurd hc_12 (by decide)
      · skip
        refine zw_aload_n (pc := 15) (n := 0) (x := 81) rfl d_M_makes_15 ?_
        refine zr_getI (hf_N10_.w hW) (pc := 16) f_M_155 rfl d_M_makes_16 ?_
        refine zr_if_eq (pc := 19) (tgt := 27) ⟨(ze_r N10_ 81 5).1, (ze_r N10_ 81 5).2⟩ (by decide) d_M_makes_19 (fun hc_19 => ?_) (fun hc_19 => ?_)
        · skip
          refine zw_aload_n (pc := 27) (n := 0) (x := 81) rfl d_M_makes_27 ?_
          refine zr_callV (hf_N10_.w hW) hf_N10_.x (pc := 28) [] [] l_M_183 (c_M_isGood l N10_ (hf_N10_.w hW) ) rfl rfl rfl (by decide) (Nat.le_of_ble_eq_true rfl) d_M_makes_28 ?_
          rintro _ N35_ ⟨v36_, rfl, ⟨hv36_a, hv36_b⟩, hsN35_, hp0_N35_⟩
          obtain rfl := hsN35_.eq.symm
          replace hp0_N35_ : ((v36_ = 1 ∧ ze N10_ 81 7 = 0) ∨ (v36_ = 0 ∧ ze N10_ 81 7 ≠ 0)) := hp0_N35_
          rcases hp0_N35_ with ⟨rfl, ha28_0_hp0_N35_⟩ | ⟨rfl, ha28_0_hp0_N35_⟩
          · skip
            show zW l m_M_makes (zn Mz + 0, zw Mz + 0) N10_ 31 [some (.ref 81), none] [.int (Int32.ofInt 1)] (zpI [1, 2, 3, 4, 5, 6, 7, 8, 9, 10, 11, 38, 39, 41, 42, 43, 60] [95, 96, 97, 98, 100, 111] Mz (fun v N => ze N 81 1 = 0 ∧ 0 ≤ ze N 81 60 ∧ ze N 81 60 ≤ 12))
            refine zr_if_eq (pc := 31) (tgt := 48) ⟨(by decide), (by decide)⟩ (by decide) d_M_makes_31 (fun hc_31 => ?_) (fun hc_31 => ?_)
            · skip
              exact absurd hc_31 (by decide)
            · skip
              refine zw_aload_n (pc := 34) (n := 0) (x := 81) rfl d_M_makes_34 ?_
              refine zr_getI (hf_N10_.w hW) (pc := 35) f_M_275 rfl d_M_makes_35 ?_
              refine zr_if_eq (pc := 38) (tgt := 48) ⟨(ze_r N10_ 81 39).1, (ze_r N10_ 81 39).2⟩ (by decide) d_M_makes_38 (fun hc_38 => ?_) (fun hc_38 => ?_)
              · skip
                refine zw_aload_n (pc := 48) (n := 0) (x := 81) rfl d_M_makes_48 ?_
                refine zr_callV (hf_N10_.w hW) hf_N10_.x (pc := 49) [] [] l_M_373 (c_M_tells l N10_ (hf_N10_.w hW) ) rfl rfl rfl (by decide) (Nat.le_of_ble_eq_true rfl) d_M_makes_49 ?_
                rintro _ N37_ ⟨rfl, hsN37_, -⟩
                have hf_N37_ : zFr [1, 2, 3, 4, 5, 6, 7, 8, 9, 10, 11, 38, 39, 41, 42, 43, 60] [95, 96, 97, 98, 100, 111] Mz N37_ := hf_N10_.tr hsN37_ (by decide) (by decide)
                have e1_N37_ : ze N37_ 81 1 = ze N10_ 81 1 := hsN37_.e (by decide)
                have e2_N37_ : ze N37_ 81 2 = ze N10_ 81 2 := hsN37_.e (by decide)
                have e3_N37_ : ze N37_ 81 3 = ze N10_ 81 3 := hsN37_.e (by decide)
                have e5_N37_ : ze N37_ 81 5 = ze N10_ 81 5 := hsN37_.e (by decide)
                have e7_N37_ : ze N37_ 81 7 = ze N10_ 81 7 := hsN37_.e (by decide)
                have e14_N37_ : ze N37_ 81 14 = ze N10_ 81 14 := hsN37_.e (by decide)
                have e26_N37_ : ze N37_ 81 26 = ze N10_ 81 26 := hsN37_.e (by decide)
                have e39_N37_ : ze N37_ 81 39 = ze N10_ 81 39 := hsN37_.e (by decide)
                have e60_N37_ : ze N37_ 81 60 = ze N10_ 81 60 := hsN37_.e (by decide)
                have c39_ : zGB T N37_ := zGB.fr hsN37_ c12_ (by decide) (by decide)
                have c40_ : zTab T N37_ := zTab.fr hsN37_ c13_ (by decide) (by decide)
                have c41_ : zB 85 144 0 5 N37_ := zB.fr hsN37_ c14_ (by decide) (by decide)
                have c42_ : zJX T N37_ := zJX.fr hsN37_ c15_ (by decide) (by decide)
                have c43_ : zFirs T N37_ := zFirs.fr hsN37_ c16_ (by decide) (by decide)
                have c44_ : zSSm T N37_ := zSSm.fr hsN37_ c17_ (by decide) (by decide)
                have c45_ : zGD N37_ := zGD.fr hsN37_ c18_ (by decide) (by decide)
                have c46_ : zTv N37_ := zTv.fr hsN37_ hp2_N10_ (by decide) (by decide)
                show zW l m_M_makes (zn Mz + 0, zw Mz + 0) N37_ 52 [some (.ref 81), none] [] (zpI [1, 2, 3, 4, 5, 6, 7, 8, 9, 10, 11, 38, 39, 41, 42, 43, 60] [95, 96, 97, 98, 100, 111] Mz (fun v N => ze N 81 1 = 0 ∧ 0 ≤ ze N 81 60 ∧ ze N 81 60 ≤ 12))
                refine zw_aload_n (pc := 52) (n := 0) (x := 81) rfl d_M_makes_52 ?_
                refine zr_getI (hf_N37_.w hW) (pc := 53) f_M_172 rfl d_M_makes_53 ?_
                refine zr_if_le (pc := 56) (tgt := 61) ⟨(ze_r N37_ 81 7).1, (ze_r N37_ 81 7).2⟩ (by decide) d_M_makes_56 (fun hc_56 => ?_) (fun hc_56 => ?_)
                · skip
                  refine zw_aload_n (pc := 61) (n := 0) (x := 81) rfl d_M_makes_61 ?_
                  refine zr_callV (hf_N37_.w hW) hf_N37_.x (pc := 62) [] [] l_M_481 (c_M_act l N37_ (hf_N37_.w hW) (show 0 ≤ ze N37_ 81 60 by first | assumption | omega) (show ze N37_ 81 60 ≤ 12 by first | assumption | omega)) rfl rfl rfl (by decide) (Nat.le_of_ble_eq_true rfl) d_M_makes_62 ?_
                  rintro _ N47_ ⟨rfl, hsN47_, ⟨hp0_N47_, hp1_N47_⟩⟩
                  have hf_N47_ : zFr [1, 2, 3, 4, 5, 6, 7, 8, 9, 10, 11, 38, 39, 41, 42, 43, 60] [95, 96, 97, 98, 100, 111] Mz N47_ := hf_N37_.tr hsN47_ (by decide) (by decide)
                  have e1_N47_ : ze N47_ 81 1 = ze N37_ 81 1 := hsN47_.e (by decide)
                  have e2_N47_ : ze N47_ 81 2 = ze N37_ 81 2 := hsN47_.e (by decide)
                  have e3_N47_ : ze N47_ 81 3 = ze N37_ 81 3 := hsN47_.e (by decide)
                  have e5_N47_ : ze N47_ 81 5 = ze N37_ 81 5 := hsN47_.e (by decide)
                  have e7_N47_ : ze N47_ 81 7 = ze N37_ 81 7 := hsN47_.e (by decide)
                  have e14_N47_ : ze N47_ 81 14 = ze N37_ 81 14 := hsN47_.e (by decide)
                  have e26_N47_ : ze N47_ 81 26 = ze N37_ 81 26 := hsN47_.e (by decide)
                  have e39_N47_ : ze N47_ 81 39 = ze N37_ 81 39 := hsN47_.e (by decide)
                  have r60_N47_ := ze_r N47_ 81 60
                  have c49_ : zGB T N47_ := zGB.fr hsN47_ c39_ (by decide) (by decide)
                  have c50_ : zTab T N47_ := zTab.fr hsN47_ c40_ (by decide) (by decide)
                  have c51_ : zB 85 144 0 5 N47_ := zB.fr hsN47_ c41_ (by decide) (by decide)
                  have c52_ : zJX T N47_ := zJX.fr hsN47_ c42_ (by decide) (by decide)
                  have c53_ : zFirs T N47_ := zFirs.fr hsN47_ c43_ (by decide) (by decide)
                  have c54_ : zSSm T N47_ := zSSm.fr hsN47_ c44_ (by decide) (by decide)
                  have c55_ : zGD N47_ := zGD.fr hsN47_ c45_ (by decide) (by decide)
                  have c56_ : zTv N47_ := zTv.fr hsN47_ c46_ (by decide) (by decide)
                  show zW l m_M_makes (zn Mz + 0, zw Mz + 0) N47_ 65 [some (.ref 81), none] [] (zpI [1, 2, 3, 4, 5, 6, 7, 8, 9, 10, 11, 38, 39, 41, 42, 43, 60] [95, 96, 97, 98, 100, 111] Mz (fun v N => ze N 81 1 = 0 ∧ 0 ≤ ze N 81 60 ∧ ze N 81 60 ≤ 12))
                  refine zw_iconst (pc := 65) (v := Int32.ofInt 0) (by decide) d_M_makes_65 ?_
                  refine zw_istore_n (pc := 66) (i := 1) (L2 := [some (.ref 81), some (.int (Int32.ofInt 0))]) rfl (by decide) rfl d_M_makes_66 ?_
                  have lp_67 : ∀ (n : Nat) (u57_ : Int) (hu57_a : -2147483648 ≤ u57_) (hu57_b : u57_ < 2147483648) (N58_ : zMem) (hs59_ : zFr [] [98] N47_ N58_) (i60_ : 0 ≤ u57_), (ze Mz 81 26 - u57_).toNat < n → zW l m_M_makes (zn Mz + 0, zw Mz + 0) N58_ 67 [some (.ref 81), some (.int (Int32.ofInt u57_))] [] (zpI [1, 2, 3, 4, 5, 6, 7, 8, 9, 10, 11, 38, 39, 41, 42, 43, 60] [95, 96, 97, 98, 100, 111] Mz (fun v N => ze N 81 1 = 0 ∧ 0 ≤ ze N 81 60 ∧ ze N 81 60 ≤ 12)) := by
                    intro n
                    induction n with
                    | zero =>
                      intro u57_ hu57_a hu57_b N58_ hs59_ i60_ h0
                      exact absurd h0 (Nat.not_lt_zero _)
                    | succ n ih_67 =>
                      intro u57_ hu57_a hu57_b N58_ hs59_ i60_ hlt_67
                      have hf_N58_ : zFr [1, 2, 3, 4, 5, 6, 7, 8, 9, 10, 11, 38, 39, 41, 42, 43, 60] [95, 96, 97, 98, 100, 111] Mz N58_ := hf_N47_.tr hs59_ (by decide) (by decide)
                      have e1_N58_ : ze N58_ 81 1 = ze N47_ 81 1 := hs59_.e (by decide)
                      have e2_N58_ : ze N58_ 81 2 = ze N47_ 81 2 := hs59_.e (by decide)
                      have e3_N58_ : ze N58_ 81 3 = ze N47_ 81 3 := hs59_.e (by decide)
                      have e5_N58_ : ze N58_ 81 5 = ze N47_ 81 5 := hs59_.e (by decide)
                      have e7_N58_ : ze N58_ 81 7 = ze N47_ 81 7 := hs59_.e (by decide)
                      have e14_N58_ : ze N58_ 81 14 = ze N47_ 81 14 := hs59_.e (by decide)
                      have e26_N58_ : ze N58_ 81 26 = ze N47_ 81 26 := hs59_.e (by decide)
                      have e39_N58_ : ze N58_ 81 39 = ze N47_ 81 39 := hs59_.e (by decide)
                      have e60_N58_ : ze N58_ 81 60 = ze N47_ 81 60 := hs59_.e (by decide)
                      have c61_ : zGB T N58_ := zGB.fr hs59_ c49_ (by decide) (by decide)
                      have c62_ : zTab T N58_ := zTab.fr hs59_ c50_ (by decide) (by decide)
                      have c63_ : zB 85 144 0 5 N58_ := zB.fr hs59_ c51_ (by decide) (by decide)
                      have c64_ : zJX T N58_ := zJX.fr hs59_ c52_ (by decide) (by decide)
                      have c65_ : zFirs T N58_ := zFirs.fr hs59_ c53_ (by decide) (by decide)
                      have c66_ : zSSm T N58_ := zSSm.fr hs59_ c54_ (by decide) (by decide)
                      have c67_ : zGD N58_ := zGD.fr hs59_ c55_ (by decide) (by decide)
                      have c68_ : zTv N58_ := zTv.fr hs59_ c56_ (by decide) (by decide)
                      refine zw_iload_n (pc := 67) (n := 1) (x := Int32.ofInt u57_) rfl d_M_makes_67 ?_
                      refine zw_aload_n (pc := 68) (n := 0) (x := 81) rfl d_M_makes_68 ?_
                      refine zr_getI0 hf_N58_ hW (pc := 69) (by decide) f_M_235 rfl d_M_makes_69 ?_
                      refine zr_icmp_ge (pc := 72) (tgt := 93) ⟨hu57_a, hu57_b⟩ ⟨(ze_r Mz 81 26).1, (ze_r Mz 81 26).2⟩ (by decide) d_M_makes_72 (fun hc_72 => ?_) (fun hc_72 => ?_)
                      · skip
                        refine zw_aload_n (pc := 93) (n := 0) (x := 81) rfl d_M_makes_93 ?_
                        refine zr_callV (hf_N58_.w hW) hf_N58_.x (pc := 94) [] [] l_M_484 (c_M_parts l N58_ (hf_N58_.w hW) T hO c61_) rfl rfl rfl (by decide) (Nat.le_of_ble_eq_true rfl) d_M_makes_94 ?_
                        rintro _ N69_ ⟨v70_, rfl, ⟨hv70_a, hv70_b⟩, hsN69_, -⟩
                        obtain rfl := hsN69_.eq.symm
                        show zW l m_M_makes (zn Mz + 0, zw Mz + 0) N58_ 97 [some (.ref 81), some (.int (Int32.ofInt u57_))] [.int (Int32.ofInt v70_)] (zpI [1, 2, 3, 4, 5, 6, 7, 8, 9, 10, 11, 38, 39, 41, 42, 43, 60] [95, 96, 97, 98, 100, 111] Mz (fun v N => ze N 81 1 = 0 ∧ 0 ≤ ze N 81 60 ∧ ze N 81 60 ≤ 12))
                        exact zr_iret (pc := 97) (ty := .int) rfl rfl ⟨by omega, by omega⟩ hf_N58_ ⟨(show ze N58_ 81 1 = 0 by first | assumption | omega), (show 0 ≤ ze N58_ 81 60 by first | assumption | omega), (show ze N58_ 81 60 ≤ 12 by first | assumption | omega)⟩ d_M_makes_97
                      · skip
                        refine zw_aload_n (pc := 75) (n := 0) (x := 81) rfl d_M_makes_75 ?_
                        refine zr_getF (r := 98) (hf_N58_.w hW) (pc := 76) f_M_66 rfl (zh_98 (hf_N58_.w hW)).1 d_M_makes_76 ?_
                        refine zw_iload_n (pc := 79) (n := 1) (x := Int32.ofInt u57_) rfl d_M_makes_79 ?_
                        refine zw_aload_n (pc := 80) (n := 0) (x := 81) rfl d_M_makes_80 ?_
                        refine zr_getF (r := 95) (hf_N58_.w hW) (pc := 81) f_M_56 rfl (zh_95 (hf_N58_.w hW)).1 d_M_makes_81 ?_
                        refine zw_iload_n (pc := 84) (n := 1) (x := Int32.ofInt u57_) rfl d_M_makes_84 ?_
                        refine zr_laldn (pc := 85) (zh_95 (hf_N58_.w hW)).2 (by decide) (by omega) (by omega) d_M_makes_85 (fun v71_ hv71_ hv71_a hv71_b => ?_)
                        refine zr_last (pc := 86) (zh_98 (hf_N58_.w hW)).2 (by decide) (by decide) (by omega) (by omega) d_M_makes_86 (fun N72_ hN72_ hsN72_ => ?_)
                        have hf_N72_ : zFr [1, 2, 3, 4, 5, 6, 7, 8, 9, 10, 11, 38, 39, 41, 42, 43, 60] [95, 96, 97, 98, 100, 111] Mz N72_ := hf_N58_.tr hsN72_ (by decide) (by decide)
                        have hb0_N72_ : zFr [] [98] N47_ N72_ := hs59_.tr hsN72_ (by decide) (by decide)
                        have e1_N72_ : ze N72_ 81 1 = ze N58_ 81 1 := hsN72_.e (by decide)
                        have e2_N72_ : ze N72_ 81 2 = ze N58_ 81 2 := hsN72_.e (by decide)
                        have e3_N72_ : ze N72_ 81 3 = ze N58_ 81 3 := hsN72_.e (by decide)
                        have e5_N72_ : ze N72_ 81 5 = ze N58_ 81 5 := hsN72_.e (by decide)
                        have e7_N72_ : ze N72_ 81 7 = ze N58_ 81 7 := hsN72_.e (by decide)
                        have e14_N72_ : ze N72_ 81 14 = ze N58_ 81 14 := hsN72_.e (by decide)
                        have e26_N72_ : ze N72_ 81 26 = ze N58_ 81 26 := hsN72_.e (by decide)
                        have e39_N72_ : ze N72_ 81 39 = ze N58_ 81 39 := hsN72_.e (by decide)
                        have e60_N72_ : ze N72_ 81 60 = ze N58_ 81 60 := hsN72_.e (by decide)
                        have c73_ : zGB T N72_ := zGB.fr hsN72_ c61_ (by decide) (by decide)
                        have c74_ : zTab T N72_ := zTab.fr hsN72_ c62_ (by decide) (by decide)
                        have c75_ : zB 85 144 0 5 N72_ := zB.fr hsN72_ c63_ (by decide) (by decide)
                        have c76_ : zJX T N72_ := zJX.fr hsN72_ c64_ (by decide) (by decide)
                        have c77_ : zFirs T N72_ := zFirs.fr hsN72_ c65_ (by decide) (by decide)
                        have c78_ : zSSm T N72_ := zSSm.fr hsN72_ c66_ (by decide) (by decide)
                        have c79_ : zGD N72_ := zGD.fr hsN72_ c67_ (by decide) (by decide)
                        have c80_ : zTv N72_ := zTv.fr hsN72_ c68_ (by decide) (by decide)
                        refine zr_iinc (pc := 87) (i := 1) (a := u57_) (n := 1) (L2 := [some (.ref 81), some (.int (Int32.ofInt (u57_ + 1)))]) rfl (by decide) rfl d_M_makes_87 ?_
                        refine zw_goto (pc := 90) (tgt := 67) (by decide) d_M_makes_90 ?_
                        exact ih_67 (u57_ + 1) (by omega) (by omega) N72_ hb0_N72_ (show 0 ≤ (u57_ + 1) by first | assumption | omega) (by omega)
                  exact lp_67 _ 0 (by decide) (by decide) N47_ zFr.rf (show 0 ≤ (0 : Int) by first | assumption | omega) (Nat.lt_succ_self _)
                · skip
                  exfalso; omega
              · skip
                refine zw_aload_n (pc := 41) (n := 0) (x := 81) rfl d_M_makes_41 ?_
                refine zw_bipush (pc := 42) (v := Int32.ofInt 6) (by decide) d_M_makes_42 ?_
                refine zw_iconst (pc := 44) (v := Int32.ofInt 0) (by decide) d_M_makes_44 ?_
                refine zr_callV (hf_N10_.w hW) hf_N10_.x (pc := 45) [.int (Int32.ofInt 6), .int (Int32.ofInt 0)] [] l_M_168 (c_M_wrongAt l N10_ (hf_N10_.w hW) 6 (by decide) (by decide) 0 (by decide) (by decide) (show ze N10_ 81 7 = 0 by first | assumption | omega) (show 1 ≤ 6 by first | assumption | omega)) rfl rfl rfl (by decide) (Nat.le_of_ble_eq_true rfl) d_M_makes_45 ?_
                rintro _ N81_ ⟨rfl, hsN81_, ⟨hp0_N81_, hp1_N81_⟩⟩
                have hf_N81_ : zFr [1, 2, 3, 4, 5, 6, 7, 8, 9, 10, 11, 38, 39, 41, 42, 43, 60] [95, 96, 97, 98, 100, 111] Mz N81_ := hf_N10_.tr hsN81_ (by decide) (by decide)
                have e1_N81_ : ze N81_ 81 1 = ze N10_ 81 1 := hsN81_.e (by decide)
                have e2_N81_ : ze N81_ 81 2 = ze N10_ 81 2 := hsN81_.e (by decide)
                have e3_N81_ : ze N81_ 81 3 = ze N10_ 81 3 := hsN81_.e (by decide)
                have e5_N81_ : ze N81_ 81 5 = ze N10_ 81 5 := hsN81_.e (by decide)
                have r7_N81_ := ze_r N81_ 81 7
                have e14_N81_ : ze N81_ 81 14 = ze N10_ 81 14 := hsN81_.e (by decide)
                have e26_N81_ : ze N81_ 81 26 = ze N10_ 81 26 := hsN81_.e (by decide)
                have e39_N81_ : ze N81_ 81 39 = ze N10_ 81 39 := hsN81_.e (by decide)
                have e60_N81_ : ze N81_ 81 60 = ze N10_ 81 60 := hsN81_.e (by decide)
                have c83_ : zGB T N81_ := zGB.fr hsN81_ c12_ (by decide) (by decide)
                have c84_ : zTab T N81_ := zTab.fr hsN81_ c13_ (by decide) (by decide)
                have c85_ : zB 85 144 0 5 N81_ := zB.fr hsN81_ c14_ (by decide) (by decide)
                have c86_ : zJX T N81_ := zJX.fr hsN81_ c15_ (by decide) (by decide)
                have c87_ : zFirs T N81_ := zFirs.fr hsN81_ c16_ (by decide) (by decide)
                have c88_ : zSSm T N81_ := zSSm.fr hsN81_ c17_ (by decide) (by decide)
                have c89_ : zGD N81_ := zGD.fr hsN81_ c18_ (by decide) (by decide)
                have c90_ : zTv N81_ := zTv.fr hsN81_ hp2_N10_ (by decide) (by decide)
                show zW l m_M_makes (zn Mz + 0, zw Mz + 0) N81_ 48 [some (.ref 81), none] [] (zpI [1, 2, 3, 4, 5, 6, 7, 8, 9, 10, 11, 38, 39, 41, 42, 43, 60] [95, 96, 97, 98, 100, 111] Mz (fun v N => ze N 81 1 = 0 ∧ 0 ≤ ze N 81 60 ∧ ze N 81 60 ≤ 12))
                refine zw_aload_n (pc := 48) (n := 0) (x := 81) rfl d_M_makes_48 ?_
                refine zr_callV (hf_N81_.w hW) hf_N81_.x (pc := 49) [] [] l_M_373 (c_M_tells l N81_ (hf_N81_.w hW) ) rfl rfl rfl (by decide) (Nat.le_of_ble_eq_true rfl) d_M_makes_49 ?_
                rintro _ N91_ ⟨rfl, hsN91_, -⟩
                have hf_N91_ : zFr [1, 2, 3, 4, 5, 6, 7, 8, 9, 10, 11, 38, 39, 41, 42, 43, 60] [95, 96, 97, 98, 100, 111] Mz N91_ := hf_N81_.tr hsN91_ (by decide) (by decide)
                have e1_N91_ : ze N91_ 81 1 = ze N81_ 81 1 := hsN91_.e (by decide)
                have e2_N91_ : ze N91_ 81 2 = ze N81_ 81 2 := hsN91_.e (by decide)
                have e3_N91_ : ze N91_ 81 3 = ze N81_ 81 3 := hsN91_.e (by decide)
                have e5_N91_ : ze N91_ 81 5 = ze N81_ 81 5 := hsN91_.e (by decide)
                have e7_N91_ : ze N91_ 81 7 = ze N81_ 81 7 := hsN91_.e (by decide)
                have e14_N91_ : ze N91_ 81 14 = ze N81_ 81 14 := hsN91_.e (by decide)
                have e26_N91_ : ze N91_ 81 26 = ze N81_ 81 26 := hsN91_.e (by decide)
                have e39_N91_ : ze N91_ 81 39 = ze N81_ 81 39 := hsN91_.e (by decide)
                have e60_N91_ : ze N91_ 81 60 = ze N81_ 81 60 := hsN91_.e (by decide)
                have c93_ : zGB T N91_ := zGB.fr hsN91_ c83_ (by decide) (by decide)
                have c94_ : zTab T N91_ := zTab.fr hsN91_ c84_ (by decide) (by decide)
                have c95_ : zB 85 144 0 5 N91_ := zB.fr hsN91_ c85_ (by decide) (by decide)
                have c96_ : zJX T N91_ := zJX.fr hsN91_ c86_ (by decide) (by decide)
                have c97_ : zFirs T N91_ := zFirs.fr hsN91_ c87_ (by decide) (by decide)
                have c98_ : zSSm T N91_ := zSSm.fr hsN91_ c88_ (by decide) (by decide)
                have c99_ : zGD N91_ := zGD.fr hsN91_ c89_ (by decide) (by decide)
                have c100_ : zTv N91_ := zTv.fr hsN91_ c90_ (by decide) (by decide)
                show zW l m_M_makes (zn Mz + 0, zw Mz + 0) N91_ 52 [some (.ref 81), none] [] (zpI [1, 2, 3, 4, 5, 6, 7, 8, 9, 10, 11, 38, 39, 41, 42, 43, 60] [95, 96, 97, 98, 100, 111] Mz (fun v N => ze N 81 1 = 0 ∧ 0 ≤ ze N 81 60 ∧ ze N 81 60 ≤ 12))
                refine zw_aload_n (pc := 52) (n := 0) (x := 81) rfl d_M_makes_52 ?_
                refine zr_getI (hf_N91_.w hW) (pc := 53) f_M_172 rfl d_M_makes_53 ?_
                refine zr_if_le (pc := 56) (tgt := 61) ⟨(ze_r N91_ 81 7).1, (ze_r N91_ 81 7).2⟩ (by decide) d_M_makes_56 (fun hc_56 => ?_) (fun hc_56 => ?_)
                · skip
                  exfalso; omega
                · skip
                  refine zw_iconst (pc := 59) (v := Int32.ofInt (-1)) (by decide) d_M_makes_59 ?_
                  exact zr_iret (pc := 60) (ty := .int) rfl rfl ⟨by omega, by omega⟩ hf_N91_ ⟨(show ze N91_ 81 1 = 0 by first | assumption | omega), (show 0 ≤ ze N91_ 81 60 by first | assumption | omega), (show ze N91_ 81 60 ≤ 12 by first | assumption | omega)⟩ d_M_makes_60
          · skip
            exfalso; omega
        · skip
          refine zw_aload_n (pc := 22) (n := 0) (x := 81) rfl d_M_makes_22 ?_
          refine zw_iconst (pc := 23) (v := Int32.ofInt 2) (by decide) d_M_makes_23 ?_
          refine zr_callV (hf_N10_.w hW) hf_N10_.x (pc := 24) [.int (Int32.ofInt 2)] [] l_M_190 (c_M_wrong l N10_ (hf_N10_.w hW) 2 (by decide) (by decide) (show ze N10_ 81 7 = 0 by first | assumption | omega) (show 1 ≤ 2 by first | assumption | omega)) rfl rfl rfl (by decide) (Nat.le_of_ble_eq_true rfl) d_M_makes_24 ?_
          rintro _ N101_ ⟨rfl, hsN101_, ⟨hp0_N101_, hp1_N101_⟩⟩
          have hf_N101_ : zFr [1, 2, 3, 4, 5, 6, 7, 8, 9, 10, 11, 38, 39, 41, 42, 43, 60] [95, 96, 97, 98, 100, 111] Mz N101_ := hf_N10_.tr hsN101_ (by decide) (by decide)
          have e1_N101_ : ze N101_ 81 1 = ze N10_ 81 1 := hsN101_.e (by decide)
          have e2_N101_ : ze N101_ 81 2 = ze N10_ 81 2 := hsN101_.e (by decide)
          have e3_N101_ : ze N101_ 81 3 = ze N10_ 81 3 := hsN101_.e (by decide)
          have e5_N101_ : ze N101_ 81 5 = ze N10_ 81 5 := hsN101_.e (by decide)
          have r7_N101_ := ze_r N101_ 81 7
          have e14_N101_ : ze N101_ 81 14 = ze N10_ 81 14 := hsN101_.e (by decide)
          have e26_N101_ : ze N101_ 81 26 = ze N10_ 81 26 := hsN101_.e (by decide)
          have e39_N101_ : ze N101_ 81 39 = ze N10_ 81 39 := hsN101_.e (by decide)
          have e60_N101_ : ze N101_ 81 60 = ze N10_ 81 60 := hsN101_.e (by decide)
          have c103_ : zGB T N101_ := zGB.fr hsN101_ c12_ (by decide) (by decide)
          have c104_ : zTab T N101_ := zTab.fr hsN101_ c13_ (by decide) (by decide)
          have c105_ : zB 85 144 0 5 N101_ := zB.fr hsN101_ c14_ (by decide) (by decide)
          have c106_ : zJX T N101_ := zJX.fr hsN101_ c15_ (by decide) (by decide)
          have c107_ : zFirs T N101_ := zFirs.fr hsN101_ c16_ (by decide) (by decide)
          have c108_ : zSSm T N101_ := zSSm.fr hsN101_ c17_ (by decide) (by decide)
          have c109_ : zGD N101_ := zGD.fr hsN101_ c18_ (by decide) (by decide)
          have c110_ : zTv N101_ := zTv.fr hsN101_ hp2_N10_ (by decide) (by decide)
          show zW l m_M_makes (zn Mz + 0, zw Mz + 0) N101_ 27 [some (.ref 81), none] [] (zpI [1, 2, 3, 4, 5, 6, 7, 8, 9, 10, 11, 38, 39, 41, 42, 43, 60] [95, 96, 97, 98, 100, 111] Mz (fun v N => ze N 81 1 = 0 ∧ 0 ≤ ze N 81 60 ∧ ze N 81 60 ≤ 12))
          refine zw_aload_n (pc := 27) (n := 0) (x := 81) rfl d_M_makes_27 ?_
          refine zr_callV (hf_N101_.w hW) hf_N101_.x (pc := 28) [] [] l_M_183 (c_M_isGood l N101_ (hf_N101_.w hW) ) rfl rfl rfl (by decide) (Nat.le_of_ble_eq_true rfl) d_M_makes_28 ?_
          rintro _ N111_ ⟨v112_, rfl, ⟨hv112_a, hv112_b⟩, hsN111_, hp0_N111_⟩
          obtain rfl := hsN111_.eq.symm
          replace hp0_N111_ : ((v112_ = 1 ∧ ze N101_ 81 7 = 0) ∨ (v112_ = 0 ∧ ze N101_ 81 7 ≠ 0)) := hp0_N111_
          rcases hp0_N111_ with ⟨rfl, ha28_0_hp0_N111_⟩ | ⟨rfl, ha28_0_hp0_N111_⟩
          · skip
            exfalso; omega
          · skip
            show zW l m_M_makes (zn Mz + 0, zw Mz + 0) N101_ 31 [some (.ref 81), none] [.int (Int32.ofInt 0)] (zpI [1, 2, 3, 4, 5, 6, 7, 8, 9, 10, 11, 38, 39, 41, 42, 43, 60] [95, 96, 97, 98, 100, 111] Mz (fun v N => ze N 81 1 = 0 ∧ 0 ≤ ze N 81 60 ∧ ze N 81 60 ≤ 12))
            refine zr_if_eq (pc := 31) (tgt := 48) ⟨(by decide), (by decide)⟩ (by decide) d_M_makes_31 (fun hc_31 => ?_) (fun hc_31 => ?_)
            · skip
              refine zw_aload_n (pc := 48) (n := 0) (x := 81) rfl d_M_makes_48 ?_
              refine zr_callV (hf_N101_.w hW) hf_N101_.x (pc := 49) [] [] l_M_373 (c_M_tells l N101_ (hf_N101_.w hW) ) rfl rfl rfl (by decide) (Nat.le_of_ble_eq_true rfl) d_M_makes_49 ?_
              rintro _ N113_ ⟨rfl, hsN113_, -⟩
              have hf_N113_ : zFr [1, 2, 3, 4, 5, 6, 7, 8, 9, 10, 11, 38, 39, 41, 42, 43, 60] [95, 96, 97, 98, 100, 111] Mz N113_ := hf_N101_.tr hsN113_ (by decide) (by decide)
              have e1_N113_ : ze N113_ 81 1 = ze N101_ 81 1 := hsN113_.e (by decide)
              have e2_N113_ : ze N113_ 81 2 = ze N101_ 81 2 := hsN113_.e (by decide)
              have e3_N113_ : ze N113_ 81 3 = ze N101_ 81 3 := hsN113_.e (by decide)
              have e5_N113_ : ze N113_ 81 5 = ze N101_ 81 5 := hsN113_.e (by decide)
              have e7_N113_ : ze N113_ 81 7 = ze N101_ 81 7 := hsN113_.e (by decide)
              have e14_N113_ : ze N113_ 81 14 = ze N101_ 81 14 := hsN113_.e (by decide)
              have e26_N113_ : ze N113_ 81 26 = ze N101_ 81 26 := hsN113_.e (by decide)
              have e39_N113_ : ze N113_ 81 39 = ze N101_ 81 39 := hsN113_.e (by decide)
              have e60_N113_ : ze N113_ 81 60 = ze N101_ 81 60 := hsN113_.e (by decide)
              have c115_ : zGB T N113_ := zGB.fr hsN113_ c103_ (by decide) (by decide)
              have c116_ : zTab T N113_ := zTab.fr hsN113_ c104_ (by decide) (by decide)
              have c117_ : zB 85 144 0 5 N113_ := zB.fr hsN113_ c105_ (by decide) (by decide)
              have c118_ : zJX T N113_ := zJX.fr hsN113_ c106_ (by decide) (by decide)
              have c119_ : zFirs T N113_ := zFirs.fr hsN113_ c107_ (by decide) (by decide)
              have c120_ : zSSm T N113_ := zSSm.fr hsN113_ c108_ (by decide) (by decide)
              have c121_ : zGD N113_ := zGD.fr hsN113_ c109_ (by decide) (by decide)
              have c122_ : zTv N113_ := zTv.fr hsN113_ c110_ (by decide) (by decide)
              show zW l m_M_makes (zn Mz + 0, zw Mz + 0) N113_ 52 [some (.ref 81), none] [] (zpI [1, 2, 3, 4, 5, 6, 7, 8, 9, 10, 11, 38, 39, 41, 42, 43, 60] [95, 96, 97, 98, 100, 111] Mz (fun v N => ze N 81 1 = 0 ∧ 0 ≤ ze N 81 60 ∧ ze N 81 60 ≤ 12))
              refine zw_aload_n (pc := 52) (n := 0) (x := 81) rfl d_M_makes_52 ?_
              refine zr_getI (hf_N113_.w hW) (pc := 53) f_M_172 rfl d_M_makes_53 ?_
              refine zr_if_le (pc := 56) (tgt := 61) ⟨(ze_r N113_ 81 7).1, (ze_r N113_ 81 7).2⟩ (by decide) d_M_makes_56 (fun hc_56 => ?_) (fun hc_56 => ?_)
              · skip
                exfalso; omega
              · skip
                refine zw_iconst (pc := 59) (v := Int32.ofInt (-1)) (by decide) d_M_makes_59 ?_
                exact zr_iret (pc := 60) (ty := .int) rfl rfl ⟨by omega, by omega⟩ hf_N113_ ⟨(show ze N113_ 81 1 = 0 by first | assumption | omega), (show 0 ≤ ze N113_ 81 60 by first | assumption | omega), (show ze N113_ 81 60 ≤ 12 by first | assumption | omega)⟩ d_M_makes_60
            · skip
              exact absurd hc_31 (by decide)
    · skip
      exfalso; omega
