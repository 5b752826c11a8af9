set_option maxHeartbeats 40000000 in
theorem c_M_peaksG (l : Launch) (Mz : zMem) (hW : zMt Mz) (a0_ : Int) (ha0_a : -2147483648 ≤ a0_) (ha0_b : a0_ < 2147483648) (T : zGT) (hO : gOK T) (D : Nat → Nat → Int) (hD : gDs T D) (p0_ : zGB T Mz) (p1_ : 0 ≤ a0_) (p2_ : a0_ < ze Mz 81 26) : zC l m_M_peaks 0 0 [.ref 81, .int (Int32.ofInt a0_)] Mz (zpV [52, 53] [107, 108] Mz (fun N => zPk T D (a0_).toNat 0 N ∧ zPkC T 0 N)) := by
  refine zC_of (L0 := [some (.ref 81), some (.int (Int32.ofInt a0_)), none, none, none, none, none, none, none]) md_M_peaks (Nat.le_of_ble_eq_true rfl) rfl ?_ zQ0
  have hf : zFr [52, 53] [107, 108] Mz Mz := zFr.rf
  have r_26 := ze_r Mz 81 26
  have hG := hO.1
  have g24 := hG.2.1
  have g1 := hG.1
  have dv0 : zTab T Mz := p0_.1
  have dv1 : zB 85 144 0 5 Mz := p0_.2.1
  have dv2 : zJX T Mz := p0_.2.2.1
  have dv3 : zFirs T Mz := p0_.2.2.2.1
  have dv4 : zSSm T Mz := p0_.2.2.2.2.1
  have dv5 : zGD Mz := zGB.d hO p0_
  have gb := dv5.1
  have gn := dv0.1
  have gfl := dv3.1
  have gf6 := gF_pos hO
  refine zw_aload_n (pc := 0) (n := 0) (x := 81) rfl (zdal_p dlD_M_peaks_62 (i := 0) rfl) ?_
  refine zr_getI0 hf hW (pc := 1) (by decide) f_M_235 rfl (zdal_p dlD_M_peaks_62 (i := 1) rfl) ?_
  refine zw_iconst (pc := 4) (v := Int32.ofInt 1) (by decide) (zdal_p dlD_M_peaks_62 (i := 2) rfl) ?_
  refine zr_isub (pc := 5) (zdal_p dlD_M_peaks_62 (i := 3) rfl) ?_
  refine zw_istore_n (pc := 6) (i := 2) (L2 := [some (.ref 81), some (.int (Int32.ofInt a0_)), some (.int (Int32.ofInt ((ze Mz 81 26) - 1))), none, none, none, none, none, none]) rfl (by decide) rfl (zdal_p dlD_M_peaks_62 (i := 4) rfl) ?_
  have lp_7 : ∀ (n : Nat) (u1_ : Int) (hu1_a : -2147483648 ≤ u1_) (hu1_b : u1_ < 2147483648) (N2_ : zMem) (hs3_ : zFr [52, 53] [107, 108] Mz N2_) (i4_ : -1 ≤ u1_) (i5_ : u1_ < ze Mz 81 26) (i6_ : zPk T D (a0_).toNat (u1_ + 1).toNat N2_) (i7_ : zPkC T (u1_ + 1).toNat N2_), (u1_ + 1).toNat < n → zW l m_M_peaks (zn Mz + 0, zw Mz + 0) N2_ 7 [some (.ref 81), some (.int (Int32.ofInt a0_)), some (.int (Int32.ofInt u1_)), none, none, none, none, none, none] [] (zpV [52, 53] [107, 108] Mz (fun N => zPk T D (a0_).toNat 0 N ∧ zPkC T 0 N)) := by
    intro n
    induction n with
    | zero =>
      intro u1_ hu1_a hu1_b N2_ hs3_ i4_ i5_ i6_ i7_ h0
      exact absurd h0 (Nat.not_lt_zero _)
    | succ n ih_7 =>
      intro u1_ hu1_a hu1_b N2_ hs3_ i4_ i5_ i6_ i7_ hlt_7
      have hf_N2_ : zFr [52, 53] [107, 108] Mz N2_ := hf.tr hs3_ (by decide) (by decide)
      have e26_N2_ : ze N2_ 81 26 = ze Mz 81 26 := hs3_.e (by decide)
      have c8_ : zGB T N2_ := zGB.fr hs3_ p0_ (by decide) (by decide)
      have c9_ : zTab T N2_ := zTab.fr hs3_ dv0 (by decide) (by decide)
      have c10_ : zB 85 144 0 5 N2_ := zB.fr hs3_ dv1 (by decide) (by decide)
      have c11_ : zJX T N2_ := zJX.fr hs3_ dv2 (by decide) (by decide)
      have c12_ : zFirs T N2_ := zFirs.fr hs3_ dv3 (by decide) (by decide)
      have c13_ : zSSm T N2_ := zSSm.fr hs3_ dv4 (by decide) (by decide)
      have c14_ : zGD N2_ := zGD.fr hs3_ dv5 (by decide) (by decide)
      have zz26_N2_ : ze N2_ 81 26 = ze Mz 81 26 := hf_N2_.e (by decide)
      refine zw_iload_n (pc := 7) (n := 2) (x := Int32.ofInt u1_) rfl (zdal_p dlD_M_peaks_62 (i := 5) rfl) ?_
      refine zr_if_lt (pc := 8) (tgt := 166) ⟨hu1_a, hu1_b⟩ (by decide) (zdal_p dlD_M_peaks_62 (i := 6) rfl) (fun hc_8 => ?_) (fun hc_8 => ?_)
      · skip
        exact zr_vret (pc := 166) rfl hf_N2_ ⟨(show zPk T D (a0_).toNat 0 N2_ by have h := (show zPk T D (a0_).toNat (u1_ + 1).toNat N2_ by first | with_reducible assumption | assumption); rwa [show (u1_ + 1).toNat = 0 by omega] at h), (show zPkC T 0 N2_ by have h := (show zPkC T (u1_ + 1).toNat N2_ by first | with_reducible assumption | assumption); rwa [show (u1_ + 1).toNat = 0 by omega] at h)⟩ (zdal_p dlD_M_peaks_66 (i := 7) rfl)
      · skip
        refine zw_aload_n (pc := 11) (n := 0) (x := 81) rfl (zdal_p dlD_M_peaks_62 (i := 7) rfl) ?_
        refine zw_iload_n (pc := 12) (n := 2) (x := Int32.ofInt u1_) rfl (zdal_p dlD_M_peaks_62 (i := 8) rfl) ?_
        refine zw_iload_n (pc := 13) (n := 1) (x := Int32.ofInt a0_) rfl (zdal_p dlD_M_peaks_62 (i := 9) rfl) ?_
        have j_22 : ∀ (u15_ : Int) (hu15_a : -2147483648 ≤ u15_) (hu15_b : u15_ < 2147483648) (hu15_z : u15_ = 0 ∨ u15_ = 1) (i16_ : u15_ = (if (u1_).toNat = (a0_).toNat then 1 else 0)), zW l m_M_peaks (zn Mz + 0, zw Mz + 0) N2_ 22 [some (.ref 81), some (.int (Int32.ofInt a0_)), some (.int (Int32.ofInt u1_)), none, none, none, none, none, none] [.int (Int32.ofInt u15_), .ref 81] (zpV [52, 53] [107, 108] Mz (fun N => zPk T D (a0_).toNat 0 N ∧ zPkC T 0 N)) := by
          intro u15_ hu15_a hu15_b hu15_z i16_
          refine zr_callS hf_N2_.x (pc := 22) [.int (Int32.ofInt u15_)] [.ref 81] l_M_256 (c_M_truth l N2_ (hf_N2_.w hW) u15_ hu15_a hu15_b (by omega)) rfl rfl (by decide) (Nat.le_of_ble_eq_true rfl) (zdal_p dlD_M_peaks_62 (i := 14) rfl) ?_
          rintro _ N17_ ⟨v18_, rfl, ⟨hv18_a, hv18_b⟩, hsN17_, hp0_N17_⟩
          obtain rfl := hsN17_.eq.symm
          replace hp0_N17_ : v18_ = u15_ := hp0_N17_
          show zW l m_M_peaks (zn Mz + 0, zw Mz + 0) N2_ 25 [some (.ref 81), some (.int (Int32.ofInt a0_)), some (.int (Int32.ofInt u1_)), none, none, none, none, none, none] [.int (Int32.ofInt v18_), .ref 81] _
          refine zr_i2l (pc := 25) ⟨hv18_a, hv18_b⟩ (zdal_p dlD_M_peaks_62 (i := 15) rfl) ?_
          refine zr_putJ (hf_N2_.w hW) (pc := 26) f_M_436 rfl rfl rfl rfl (zdal_p dlD_M_peaks_62 (i := 16) rfl) (fun N19_ hsN19_ hvN19_ => ?_)
          have hf_N19_ : zFr [52, 53] [107, 108] Mz N19_ := hf_N2_.tr hsN19_ (by decide) (by decide)
          have hb0_N19_ : zFr [52, 53] [107, 108] Mz N19_ := hs3_.tr hsN19_ (by decide) (by decide)
          have e26_N19_ : ze N19_ 81 26 = ze N2_ 81 26 := hsN19_.e (by decide)
          have c20_ : zGB T N19_ := zGB.fr hsN19_ c8_ (by decide) (by decide)
          have c21_ : zTab T N19_ := zTab.fr hsN19_ c9_ (by decide) (by decide)
          have c22_ : zB 85 144 0 5 N19_ := zB.fr hsN19_ c10_ (by decide) (by decide)
          have c23_ : zJX T N19_ := zJX.fr hsN19_ c11_ (by decide) (by decide)
          have c24_ : zFirs T N19_ := zFirs.fr hsN19_ c12_ (by decide) (by decide)
          have c25_ : zSSm T N19_ := zSSm.fr hsN19_ c13_ (by decide) (by decide)
          have c26_ : zGD N19_ := zGD.fr hsN19_ c14_ (by decide) (by decide)
          refine zw_aload_n (pc := 29) (n := 0) (x := 81) rfl (zdal_p dlD_M_peaks_62 (i := 17) rfl) ?_
          refine zw_lconst (pc := 30) (v := Int64.ofInt 1) (by decide) (zdal_p dlD_M_peaks_62 (i := 18) rfl) ?_
          refine zr_putJ (hf_N19_.w hW) (pc := 31) f_M_439 rfl rfl rfl rfl (zdal_p dlD_M_peaks_62 (i := 19) rfl) (fun N27_ hsN27_ hvN27_ => ?_)
          have hf_N27_ : zFr [52, 53] [107, 108] Mz N27_ := hf_N19_.tr hsN27_ (by decide) (by decide)
          have hb0_N27_ : zFr [52, 53] [107, 108] Mz N27_ := hb0_N19_.tr hsN27_ (by decide) (by decide)
          have e26_N27_ : ze N27_ 81 26 = ze N19_ 81 26 := hsN27_.e (by decide)
          have c28_ : zGB T N27_ := zGB.fr hsN27_ c20_ (by decide) (by decide)
          have c29_ : zTab T N27_ := zTab.fr hsN27_ c21_ (by decide) (by decide)
          have c30_ : zB 85 144 0 5 N27_ := zB.fr hsN27_ c22_ (by decide) (by decide)
          have c31_ : zJX T N27_ := zJX.fr hsN27_ c23_ (by decide) (by decide)
          have c32_ : zFirs T N27_ := zFirs.fr hsN27_ c24_ (by decide) (by decide)
          have c33_ : zSSm T N27_ := zSSm.fr hsN27_ c25_ (by decide) (by decide)
          have c34_ : zGD N27_ := zGD.fr hsN27_ c26_ (by decide) (by decide)
          have h53_ := hvN27_ ⟨by omega, by omega⟩
          have h52_ := (hsN27_.g (j := 52) (by decide)).trans (hvN19_ ⟨by omega, by omega⟩)
          refine zw_iload_n (pc := 34) (n := 2) (x := Int32.ofInt u1_) rfl (zdal_p dlD_M_peaks_62 (i := 20) rfl) ?_
          refine zw_iconst (pc := 35) (v := Int32.ofInt 1) (by decide) (zdal_p dlD_M_peaks_62 (i := 21) rfl) ?_
          refine zr_iadd (pc := 36) (zdal_p dlD_M_peaks_62 (i := 22) rfl) ?_
          refine zw_istore_n (pc := 37) (i := 3) (L2 := [some (.ref 81), some (.int (Int32.ofInt a0_)), some (.int (Int32.ofInt u1_)), some (.int (Int32.ofInt (u1_ + 1))), none, none, none, none, none]) rfl (by decide) rfl (zdal_p dlD_M_peaks_62 (i := 23) rfl) ?_
          have lp_38 : ∀ (n : Nat) (u35_ : Int) (hu35_a : -2147483648 ≤ u35_) (hu35_b : u35_ < 2147483648) (N36_ : zMem) (hs37_ : zFr [52, 53] [] N27_ N36_) (i38_ : u1_ + 1 ≤ u35_) (i39_ : u35_ ≤ ze Mz 81 26) (i40_ : zg N36_ 81 53 = 1) (i41_ : zg N36_ 81 52 = gds T D (a0_).toNat (u1_).toNat (u35_ - u1_ - 1).toNat) (i42_ : zPk T D (a0_).toNat (u1_ + 1).toNat N36_) (i43_ : zPkC T (u1_ + 1).toNat N36_), (ze Mz 81 26 - u35_).toNat < n → zW l m_M_peaks (zn Mz + 0, zw Mz + 0) N36_ 38 [some (.ref 81), some (.int (Int32.ofInt a0_)), some (.int (Int32.ofInt u1_)), some (.int (Int32.ofInt u35_)), none, none, none, none, none] [] (zpV [52, 53] [107, 108] Mz (fun N => zPk T D (a0_).toNat 0 N ∧ zPkC T 0 N)) := by
            clear hu15_a hu15_b hu15_z hv18_a hv18_b hp0_N17_ hsN19_ hvN19_ hf_N19_ hb0_N19_ e26_N19_ c20_ c21_ c22_ c23_ c24_ c25_ c26_ hsN27_ e26_N27_
            intro n
            induction n with
            | zero =>
              intro u35_ hu35_a hu35_b N36_ hs37_ i38_ i39_ i40_ i41_ i42_ i43_ h0
              exact absurd h0 (Nat.not_lt_zero _)
            | succ n ih_38 =>
              intro u35_ hu35_a hu35_b N36_ hs37_ i38_ i39_ i40_ i41_ i42_ i43_ hlt_38
              have hf_N36_ : zFr [52, 53] [107, 108] Mz N36_ := hf_N27_.tr hs37_ (by decide) (by decide)
              have hb0_N36_ : zFr [52, 53] [107, 108] Mz N36_ := hb0_N27_.tr hs37_ (by decide) (by decide)
              have e26_N36_ : ze N36_ 81 26 = ze N27_ 81 26 := hs37_.e (by decide)
              have c44_ : zGB T N36_ := zGB.fr hs37_ c28_ (by decide) (by decide)
              have c45_ : zTab T N36_ := zTab.fr hs37_ c29_ (by decide) (by decide)
              have c46_ : zB 85 144 0 5 N36_ := zB.fr hs37_ c30_ (by decide) (by decide)
              have c47_ : zJX T N36_ := zJX.fr hs37_ c31_ (by decide) (by decide)
              have c48_ : zFirs T N36_ := zFirs.fr hs37_ c32_ (by decide) (by decide)
              have c49_ : zSSm T N36_ := zSSm.fr hs37_ c33_ (by decide) (by decide)
              have c50_ : zGD N36_ := zGD.fr hs37_ c34_ (by decide) (by decide)
              have zz26_N36_ : ze N36_ 81 26 = ze Mz 81 26 := hf_N36_.e (by decide)
              refine zw_iload_n (pc := 38) (n := 3) (x := Int32.ofInt u35_) rfl (zdal_p dlD_M_peaks_63 (i := 0) rfl) ?_
              refine zw_aload_n (pc := 39) (n := 0) (x := 81) rfl (zdal_p dlD_M_peaks_63 (i := 1) rfl) ?_
              refine zr_getI0 hf_N36_ hW (pc := 40) (by decide) f_M_235 rfl (zdal_p dlD_M_peaks_63 (i := 2) rfl) ?_
              refine zr_icmp_ge (pc := 43) (tgt := 107) ⟨hu35_a, hu35_b⟩ ⟨(ze_r Mz 81 26).1, (ze_r Mz 81 26).2⟩ (by decide) (zdal_p dlD_M_peaks_63 (i := 3) rfl) (fun hc_43 => ?_) (fun hc_43 => ?_)
              · skip
                have hDk_ := zpk_e hD (J := (a0_).toNat) (by omega) (i := u35_) (k := u1_) (by omega) (by omega) (by omega) (show zg N36_ 81 52 = gds T D (a0_).toNat (u1_).toNat (u35_ - u1_ - 1).toNat by first | with_reducible assumption | assumption)
                refine zw_aload_n (pc := 107) (n := 0) (x := 81) rfl (zdal_p dlD_M_peaks_64 (i := 19) rfl) ?_
                refine zr_getJ (hf_N36_.w hW) (pc := 108) f_M_436 rfl (zdal_p dlD_M_peaks_64 (i := 20) rfl) ?_
                have hr51_ := zg_r N36_ 81 52
                refine zw_lstore_n (pc := 111) (i := 3) (L2 := [some (.ref 81), some (.int (Int32.ofInt a0_)), some (.int (Int32.ofInt u1_)), some (.long (Int64.ofInt (zg N36_ 81 52))), none, none, none, none, none]) rfl (by decide) rfl (zdal_p dlD_M_peaks_64 (i := 21) rfl) ?_
                refine zw_aload_n (pc := 112) (n := 0) (x := 81) rfl (zdal_p dlD_M_peaks_64 (i := 22) rfl) ?_
                refine zr_getJ (hf_N36_.w hW) (pc := 113) f_M_439 rfl (zdal_p dlD_M_peaks_64 (i := 23) rfl) ?_
                have hr52_ := zg_r N36_ 81 53
                refine zw_aload_n (pc := 116) (n := 0) (x := 81) rfl (zdal_p dlD_M_peaks_65 (i := 0) rfl) ?_
                refine zr_getF (r := 93) (hf_N36_.w hW) (pc := 117) f_M_50 rfl (zh_93 (hf_N36_.w hW)).1 (zdal_p dlD_M_peaks_65 (i := 1) rfl) ?_
                refine zw_bipush (pc := 120) (v := Int32.ofInt 64) (by decide) (zdal_p dlD_M_peaks_65 (i := 2) rfl) ?_
                refine zw_iload_n (pc := 122) (n := 2) (x := Int32.ofInt u1_) rfl (zdal_p dlD_M_peaks_65 (i := 3) rfl) ?_
                refine zr_imul (pc := 123) (zdal_p dlD_M_peaks_65 (i := 4) rfl) ?_
                refine zw_iload_n (pc := 124) (n := 2) (x := Int32.ofInt u1_) rfl (zdal_p dlD_M_peaks_65 (i := 5) rfl) ?_
                refine zr_iadd (pc := 125) (zdal_p dlD_M_peaks_65 (i := 6) rfl) ?_
                refine zr_ialdn (pc := 126) (zh_93 (hf_N36_.w hW)).2 (by decide) (by omega) (by omega) (zdal_p dlD_M_peaks_65 (i := 7) rfl) (fun v53_ hv53_ hv53_a hv53_b => ?_)
                rw [hf_N36_.ie (by decide) (by decide)] at hv53_
                have hmk_ := zGB_mk p0_ (i := u1_) (k := u1_) (by omega) (by omega) (by omega) (by omega)
                have hmb_ := gmkI_b hG (u1_).toNat (u1_).toNat
                have hm1_ := gmkI_1 hO (i := (u1_).toNat) (by omega)
                refine zr_toI (show v53_ = gmkI T (u1_).toNat (u1_).toNat by omega) ?_
                refine zr_i2l (pc := 127) ⟨(by omega), (by omega)⟩ (zdal_p dlD_M_peaks_65 (i := 8) rfl) ?_
                refine zr_lmul (pc := 128) (zdal_p dlD_M_peaks_65 (i := 9) rfl) ?_
                refine zr_toJ (show ((zg N36_ 81 53) * (gmkI T (u1_).toNat (u1_).toNat)) = gmkI T (u1_).toNat (u1_).toNat by rw [show zg N36_ 81 53 = 1 by assumption, Int.one_mul]) ?_
                refine zw_lstore (pc := 129) (i := 5) (L2 := [some (.ref 81), some (.int (Int32.ofInt a0_)), some (.int (Int32.ofInt u1_)), some (.long (Int64.ofInt (zg N36_ 81 52))), none, some (.long (Int64.ofInt (gmkI T (u1_).toNat (u1_).toNat))), none, none, none]) (by decide) rfl (zdal_p dlD_M_peaks_65 (i := 10) rfl) ?_
                refine zw_lload_n (pc := 131) (n := 3) (x := Int64.ofInt (zg N36_ 81 52)) rfl (zdal_p dlD_M_peaks_65 (i := 11) rfl) ?_
                refine zw_lload (pc := 132) (i := 5) (x := Int64.ofInt (gmkI T (u1_).toNat (u1_).toNat)) rfl (zdal_p dlD_M_peaks_65 (i := 12) rfl) ?_
                refine zr_callS hf_N36_.x (pc := 134) [.long (Int64.ofInt (zg N36_ 81 52)), .long (Int64.ofInt (gmkI T (u1_).toNat (u1_).toNat))] [] l_M_442 (c_M_divisor l N36_ (hf_N36_.w hW) (zg N36_ 81 52) (zg_r N36_ 81 52).1 (zg_r N36_ 81 52).2 (gmkI T (u1_).toNat (u1_).toNat) (by omega) (by omega) (show -4611686018427387903 ≤ (zg N36_ 81 52) by first | with_reducible assumption | assumption | omega) (show (zg N36_ 81 52) ≤ 4611686018427387903 by first | with_reducible assumption | assumption | omega) (show 1 ≤ (gmkI T (u1_).toNat (u1_).toNat) by first | with_reducible assumption | assumption | omega) (show (gmkI T (u1_).toNat (u1_).toNat) ≤ 4611686018427387903 by first | with_reducible assumption | assumption | omega)) rfl rfl (by decide) (Nat.le_of_ble_eq_true rfl) (zdal_p dlD_M_peaks_65 (i := 13) rfl) ?_
                rintro _ N54_ ⟨v55_, rfl, ⟨hv55_a, hv55_b⟩, hsN54_, ⟨hp0_N54_, hp1_N54_, hp2_N54_⟩⟩
                obtain rfl := hsN54_.eq.symm
                show zW l m_M_peaks (zn Mz + 0, zw Mz + 0) N36_ 137 [some (.ref 81), some (.int (Int32.ofInt a0_)), some (.int (Int32.ofInt u1_)), some (.long (Int64.ofInt (zg N36_ 81 52))), none, some (.long (Int64.ofInt (gmkI T (u1_).toNat (u1_).toNat))), none, none, none] [.long (Int64.ofInt v55_)] _
                refine zw_lstore (pc := 137) (i := 7) (L2 := [some (.ref 81), some (.int (Int32.ofInt a0_)), some (.int (Int32.ofInt u1_)), some (.long (Int64.ofInt (zg N36_ 81 52))), none, some (.long (Int64.ofInt (gmkI T (u1_).toNat (u1_).toNat))), none, some (.long (Int64.ofInt v55_)), none]) (by decide) rfl (zdal_p dlD_M_peaks_65 (i := 14) rfl) ?_
                refine zw_aload_n (pc := 139) (n := 0) (x := 81) rfl (zdal_p dlD_M_peaks_65 (i := 15) rfl) ?_
                refine zr_getF (r := 107) (hf_N36_.w hW) (pc := 140) f_M_93 rfl (zh_107 (hf_N36_.w hW)).1 (zdal_p dlD_M_peaks_65 (i := 16) rfl) ?_
                refine zw_iload_n (pc := 143) (n := 2) (x := Int32.ofInt u1_) rfl (zdal_p dlD_M_peaks_65 (i := 17) rfl) ?_
                refine zw_lload_n (pc := 144) (n := 3) (x := Int64.ofInt (zg N36_ 81 52)) rfl (zdal_p dlD_M_peaks_65 (i := 18) rfl) ?_
                refine zw_lload (pc := 145) (i := 7) (x := Int64.ofInt v55_) rfl (zdal_p dlD_M_peaks_65 (i := 19) rfl) ?_
                refine zr_ldiv (pc := 147) ⟨by omega, by omega⟩ (by omega) (zdal_p dlD_M_peaks_65 (i := 20) rfl) ?_
                have hr56_ := zlquo_r (zg N36_ 81 52) v55_
                refine zr_last (pc := 148) (zh_107 (hf_N36_.w hW)).2 (by decide) (by decide) (by omega) (by omega) (zdal_p dlD_M_peaks_65 (i := 21) rfl) (fun N57_ hN57_ hsN57_ => ?_)
                have hf_N57_ : zFr [52, 53] [107, 108] Mz N57_ := hf_N36_.tr hsN57_ (by decide) (by decide)
                have hb0_N57_ : zFr [52, 53] [107, 108] Mz N57_ := hb0_N36_.tr hsN57_ (by decide) (by decide)
                have e26_N57_ : ze N57_ 81 26 = ze N36_ 81 26 := hsN57_.e (by decide)
                have c58_ : zGB T N57_ := zGB.fr hsN57_ c44_ (by decide) (by decide)
                have c59_ : zTab T N57_ := zTab.fr hsN57_ c45_ (by decide) (by decide)
                have c60_ : zB 85 144 0 5 N57_ := zB.fr hsN57_ c46_ (by decide) (by decide)
                have c61_ : zJX T N57_ := zJX.fr hsN57_ c47_ (by decide) (by decide)
                have c62_ : zFirs T N57_ := zFirs.fr hsN57_ c48_ (by decide) (by decide)
                have c63_ : zSSm T N57_ := zSSm.fr hsN57_ c49_ (by decide) (by decide)
                have c64_ : zGD N57_ := zGD.fr hsN57_ c50_ (by decide) (by decide)
                refine zw_aload_n (pc := 149) (n := 0) (x := 81) rfl (zdal_p dlD_M_peaks_65 (i := 22) rfl) ?_
                refine zr_getF (r := 108) (hf_N57_.w hW) (pc := 150) f_M_96 rfl (zh_108 (hf_N57_.w hW)).1 (zdal_p dlD_M_peaks_65 (i := 23) rfl) ?_
                refine zw_iload_n (pc := 153) (n := 2) (x := Int32.ofInt u1_) rfl (zdal_p dlD_M_peaks_66 (i := 0) rfl) ?_
                refine zw_lload (pc := 154) (i := 5) (x := Int64.ofInt (gmkI T (u1_).toNat (u1_).toNat)) rfl (zdal_p dlD_M_peaks_66 (i := 1) rfl) ?_
                refine zw_lload (pc := 156) (i := 7) (x := Int64.ofInt v55_) rfl (zdal_p dlD_M_peaks_66 (i := 2) rfl) ?_
                refine zr_ldiv (pc := 158) ⟨by omega, by omega⟩ (by omega) (zdal_p dlD_M_peaks_66 (i := 3) rfl) ?_
                have hr65_ := zlquo_r (gmkI T (u1_).toNat (u1_).toNat) v55_
                refine zr_last (pc := 159) (zh_108 (hf_N57_.w hW)).2 (by decide) (by decide) (by omega) (by omega) (zdal_p dlD_M_peaks_66 (i := 4) rfl) (fun N66_ hN66_ hsN66_ => ?_)
                have hf_N66_ : zFr [52, 53] [107, 108] Mz N66_ := hf_N57_.tr hsN66_ (by decide) (by decide)
                have hb0_N66_ : zFr [52, 53] [107, 108] Mz N66_ := hb0_N57_.tr hsN66_ (by decide) (by decide)
                have e26_N66_ : ze N66_ 81 26 = ze N57_ 81 26 := hsN66_.e (by decide)
                have c67_ : zGB T N66_ := zGB.fr hsN66_ c58_ (by decide) (by decide)
                have c68_ : zTab T N66_ := zTab.fr hsN66_ c59_ (by decide) (by decide)
                have c69_ : zB 85 144 0 5 N66_ := zB.fr hsN66_ c60_ (by decide) (by decide)
                have c70_ : zJX T N66_ := zJX.fr hsN66_ c61_ (by decide) (by decide)
                have c71_ : zFirs T N66_ := zFirs.fr hsN66_ c62_ (by decide) (by decide)
                have c72_ : zSSm T N66_ := zSSm.fr hsN66_ c63_ (by decide) (by decide)
                have c73_ : zGD N66_ := zGD.fr hsN66_ c64_ (by decide) (by decide)
                have hPn_ := zpk_n hO hD (j := (a0_).toNat) (k := (u1_).toNat) (by omega) (by omega) (show zPk T D (a0_).toNat ((u1_).toNat + 1) N36_ by rw [show (u1_).toNat + 1 = (u1_ + 1).toNat by omega]; assumption) hDk_.1 rfl hp0_N54_ rfl rfl hN57_ hN66_
                have hPm_ : zPk T D (a0_).toNat (u1_ + (-1) + 1).toNat N66_ := by rw [show u1_ + (-1) + 1 = u1_ by omega]; exact hPn_
                have hCn_ := zpc_n (show zPkC T ((u1_).toNat + 1) N36_ by rw [show (u1_).toNat + 1 = (u1_ + 1).toNat by omega]; assumption) (by rw [hDk_.1]; exact (hD.1 _ _ (by omega) (by omega)).1) (by omega) (by omega) hp0_N54_ rfl rfl hN57_ hN66_
                have hCm_ : zPkC T (u1_ + (-1) + 1).toNat N66_ := by rw [show u1_ + (-1) + 1 = u1_ by omega]; exact hCn_
                refine zr_iinc (pc := 160) (i := 2) (a := u1_) (n := -1) (L2 := [some (.ref 81), some (.int (Int32.ofInt a0_)), some (.int (Int32.ofInt (u1_ + (-1)))), some (.long (Int64.ofInt (zg N36_ 81 52))), none, some (.long (Int64.ofInt (gmkI T (u1_).toNat (u1_).toNat))), none, some (.long (Int64.ofInt v55_)), none]) rfl (by decide) rfl (zdal_p dlD_M_peaks_66 (i := 5) rfl) ?_
                refine zw_goto (pc := 163) (tgt := 7) (by decide) (zdal_p dlD_M_peaks_66 (i := 6) rfl) ?_
                refine zW_le [some (.ref 81), some (.int (Int32.ofInt a0_)), some (.int (Int32.ofInt (u1_ + (-1)))), none, none, none, none, none, none] (⟨rfl, rfl, rfl, trivial⟩) ?_
                exact ih_7 (u1_ + (-1)) (by omega) (by omega) N66_ hb0_N66_ (show -1 ≤ (u1_ + (-1)) by first | with_reducible assumption | assumption | omega) (show (u1_ + (-1)) < ze Mz 81 26 by first | with_reducible assumption | assumption | omega) (show zPk T D (a0_).toNat ((u1_ + (-1)) + 1).toNat N66_ by first | with_reducible assumption | assumption | omega) (show zPkC T ((u1_ + (-1)) + 1).toNat N66_ by exact hCm_) (by omega)
              · skip
                refine zw_aload_n (pc := 46) (n := 0) (x := 81) rfl (zdal_p dlD_M_peaks_63 (i := 4) rfl) ?_
                refine zr_getF (r := 107) (hf_N36_.w hW) (pc := 47) f_M_93 rfl (zh_107 (hf_N36_.w hW)).1 (zdal_p dlD_M_peaks_63 (i := 5) rfl) ?_
                refine zw_iload_n (pc := 50) (n := 3) (x := Int32.ofInt u35_) rfl (zdal_p dlD_M_peaks_63 (i := 6) rfl) ?_
                have hpb_ := zPk.b hO hD (j := (a0_).toNat) (i := (u35_).toNat) (by omega) (show zPk T D (a0_).toNat (u1_ + 1).toNat N36_ by first | with_reducible assumption | assumption) (by omega) (by omega)
                refine zr_laldn (pc := 51) (zh_107 (hf_N36_.w hW)).2 (by decide) (by omega) (by omega) (zdal_p dlD_M_peaks_63 (i := 7) rfl) (fun v74_ hv74_ hv74_a hv74_b => ?_)
                refine zw_lconst (pc := 52) (v := Int64.ofInt 0) (by decide) (zdal_p dlD_M_peaks_63 (i := 8) rfl) ?_
                refine zr_lcmp (pc := 53) ⟨hv74_a, hv74_b⟩ ⟨(by decide), (by decide)⟩ (zdal_p dlD_M_peaks_63 (i := 9) rfl) ?_
                have hr75_ := zcmp_s v74_ 0
                refine zr_if_eq (pc := 54) (tgt := 101) ⟨(by omega), (by omega)⟩ (by decide) (zdal_p dlD_M_peaks_63 (i := 10) rfl) (fun hc_54 => ?_) (fun hc_54 => ?_)
                · skip
                  refine zr_iinc (pc := 101) (i := 3) (a := u35_) (n := 1) (L2 := [some (.ref 81), some (.int (Int32.ofInt a0_)), some (.int (Int32.ofInt u1_)), some (.int (Int32.ofInt (u35_ + 1))), none, none, none, none, none]) rfl (by decide) rfl d_M_peaks_101 ?_
                  refine zw_goto (pc := 104) (tgt := 38) (by decide) d_M_peaks_104 ?_
                  have hR_ : zg N36_ 81 53 = 1 ∧ zg N36_ 81 52 = gds T D (a0_).toNat (u1_).toNat ((u35_ + 1) - u1_ - 1).toNat := by first | exact hS_ | exact ⟨by assumption, zpk_i0 hO hD (by omega) (by omega) (by omega) (show zPk T D (a0_).toNat (u1_ + 1).toNat N36_ by first | with_reducible assumption | assumption) (by first | with_reducible assumption | assumption) (by omega)⟩
                  have hK_ : zPk T D (a0_).toNat (u1_ + 1).toNat N36_ := by first | with_reducible assumption | exact zPk.fr hsN36_ (by first | with_reducible assumption | assumption) (by decide) | assumption
                  have hKC_ : zPkC T (u1_ + 1).toNat N36_ := by first | with_reducible assumption | exact zPkC_fr hsN36_ (by first | with_reducible assumption | assumption) (by decide) | assumption
                  exact ih_38 (u35_ + 1) (by omega) (by omega) N36_ hs37_ (show u1_ + 1 ≤ (u35_ + 1) by first | with_reducible assumption | assumption | omega) (show (u35_ + 1) ≤ ze Mz 81 26 by first | with_reducible assumption | assumption | omega) (show zg N36_ 81 53 = 1 by exact hR_.1) (show zg N36_ 81 52 = gds T D (a0_).toNat (u1_).toNat ((u35_ + 1) - u1_ - 1).toNat by exact hR_.2) (show zPk T D (a0_).toNat (u1_ + 1).toNat N36_ by exact hK_) (show zPkC T (u1_ + 1).toNat N36_ by exact hKC_) (by omega)
                · skip
                  refine zw_aload_n (pc := 57) (n := 0) (x := 81) rfl (zdal_p dlD_M_peaks_63 (i := 11) rfl) ?_
                  refine zr_getF (r := 93) (hf_N36_.w hW) (pc := 58) f_M_50 rfl (zh_93 (hf_N36_.w hW)).1 (zdal_p dlD_M_peaks_63 (i := 12) rfl) ?_
                  refine zw_bipush (pc := 61) (v := Int32.ofInt 64) (by decide) (zdal_p dlD_M_peaks_63 (i := 13) rfl) ?_
                  refine zw_iload_n (pc := 63) (n := 3) (x := Int32.ofInt u35_) rfl (zdal_p dlD_M_peaks_63 (i := 14) rfl) ?_
                  refine zr_imul (pc := 64) (zdal_p dlD_M_peaks_63 (i := 15) rfl) ?_
                  refine zw_iload_n (pc := 65) (n := 2) (x := Int32.ofInt u1_) rfl (zdal_p dlD_M_peaks_63 (i := 16) rfl) ?_
                  refine zr_iadd (pc := 66) (zdal_p dlD_M_peaks_63 (i := 17) rfl) ?_
                  refine zr_ialdn (pc := 67) (zh_93 (hf_N36_.w hW)).2 (by decide) (by omega) (by omega) (zdal_p dlD_M_peaks_63 (i := 18) rfl) (fun v76_ hv76_ hv76_a hv76_b => ?_)
                  rw [hf_N36_.ie (by decide) (by decide)] at hv76_
                  have hmk_ := zGB_mk p0_ (i := u35_) (k := u1_) (by omega) (by omega) (by omega) (by omega)
                  have hmb_ := gmkI_b hG (u35_).toNat (u1_).toNat
                  refine zr_if_eq (pc := 68) (tgt := 101) ⟨hv76_a, hv76_b⟩ (by decide) (zdal_p dlD_M_peaks_63 (i := 19) rfl) (fun hc_68 => ?_) (fun hc_68 => ?_)
                  · skip
                    refine zr_iinc (pc := 101) (i := 3) (a := u35_) (n := 1) (L2 := [some (.ref 81), some (.int (Int32.ofInt a0_)), some (.int (Int32.ofInt u1_)), some (.int (Int32.ofInt (u35_ + 1))), none, none, none, none, none]) rfl (by decide) rfl d_M_peaks_101 ?_
                    refine zw_goto (pc := 104) (tgt := 38) (by decide) d_M_peaks_104 ?_
                    have hR_ : zg N36_ 81 53 = 1 ∧ zg N36_ 81 52 = gds T D (a0_).toNat (u1_).toNat ((u35_ + 1) - u1_ - 1).toNat := by first | exact hS_ | exact ⟨by assumption, zpk_i0 hO hD (by omega) (by omega) (by omega) (show zPk T D (a0_).toNat (u1_ + 1).toNat N36_ by first | with_reducible assumption | assumption) (by first | with_reducible assumption | assumption) (by omega)⟩
                    have hK_ : zPk T D (a0_).toNat (u1_ + 1).toNat N36_ := by first | with_reducible assumption | exact zPk.fr hsN36_ (by first | with_reducible assumption | assumption) (by decide) | assumption
                    have hKC_ : zPkC T (u1_ + 1).toNat N36_ := by first | with_reducible assumption | exact zPkC_fr hsN36_ (by first | with_reducible assumption | assumption) (by decide) | assumption
                    exact ih_38 (u35_ + 1) (by omega) (by omega) N36_ hs37_ (show u1_ + 1 ≤ (u35_ + 1) by first | with_reducible assumption | assumption | omega) (show (u35_ + 1) ≤ ze Mz 81 26 by first | with_reducible assumption | assumption | omega) (show zg N36_ 81 53 = 1 by exact hR_.1) (show zg N36_ 81 52 = gds T D (a0_).toNat (u1_).toNat ((u35_ + 1) - u1_ - 1).toNat by exact hR_.2) (show zPk T D (a0_).toNat (u1_ + 1).toNat N36_ by exact hK_) (show zPkC T (u1_ + 1).toNat N36_ by exact hKC_) (by omega)
                  · skip
                    refine zw_aload_n (pc := 71) (n := 0) (x := 81) rfl (zdal_p dlD_M_peaks_63 (i := 20) rfl) ?_
                    refine zw_aload_n (pc := 72) (n := 0) (x := 81) rfl (zdal_p dlD_M_peaks_63 (i := 21) rfl) ?_
                    refine zr_getF (r := 107) (hf_N36_.w hW) (pc := 73) f_M_93 rfl (zh_107 (hf_N36_.w hW)).1 (zdal_p dlD_M_peaks_63 (i := 22) rfl) ?_
                    refine zw_iload_n (pc := 76) (n := 3) (x := Int32.ofInt u35_) rfl (zdal_p dlD_M_peaks_63 (i := 23) rfl) ?_
                    refine zr_laldn (pc := 77) (zh_107 (hf_N36_.w hW)).2 (by decide) (by omega) (by omega) (zdal_p dlD_M_peaks_64 (i := 0) rfl) (fun v77_ hv77_ hv77_a hv77_b => ?_)
                    refine zr_lneg (pc := 78) (zdal_p dlD_M_peaks_64 (i := 1) rfl) ?_
                    refine zw_aload_n (pc := 79) (n := 0) (x := 81) rfl (zdal_p dlD_M_peaks_64 (i := 2) rfl) ?_
                    refine zr_getF (r := 93) (hf_N36_.w hW) (pc := 80) f_M_50 rfl (zh_93 (hf_N36_.w hW)).1 (zdal_p dlD_M_peaks_64 (i := 3) rfl) ?_
                    refine zw_bipush (pc := 83) (v := Int32.ofInt 64) (by decide) (zdal_p dlD_M_peaks_64 (i := 4) rfl) ?_
                    refine zw_iload_n (pc := 85) (n := 3) (x := Int32.ofInt u35_) rfl (zdal_p dlD_M_peaks_64 (i := 5) rfl) ?_
                    refine zr_imul (pc := 86) (zdal_p dlD_M_peaks_64 (i := 6) rfl) ?_
                    refine zw_iload_n (pc := 87) (n := 2) (x := Int32.ofInt u1_) rfl (zdal_p dlD_M_peaks_64 (i := 7) rfl) ?_
                    refine zr_iadd (pc := 88) (zdal_p dlD_M_peaks_64 (i := 8) rfl) ?_
                    refine zr_ialdn (pc := 89) (zh_93 (hf_N36_.w hW)).2 (by decide) (by omega) (by omega) (zdal_p dlD_M_peaks_64 (i := 9) rfl) (fun v78_ hv78_ hv78_a hv78_b => ?_)
                    rw [hf_N36_.ie (by decide) (by decide)] at hv78_
                    refine zr_i2l (pc := 90) ⟨hv78_a, hv78_b⟩ (zdal_p dlD_M_peaks_64 (i := 10) rfl) ?_
                    refine zr_lmul (pc := 91) (zdal_p dlD_M_peaks_64 (i := 11) rfl) ?_
                    have hpm_ : -24000 ≤ ((-v77_) * v78_) ∧ ((-v77_) * v78_) ≤ 24000 := zmb24 (by omega) (by omega) (by omega) (by omega)
                    have hgb_ := gds_b hO hD (j := (a0_).toNat) (k := (u1_).toNat) (by omega) (u35_ - u1_ - 1).toNat (by omega)
                    refine zw_aload_n (pc := 92) (n := 0) (x := 81) rfl (zdal_p dlD_M_peaks_64 (i := 12) rfl) ?_
                    refine zr_getF (r := 108) (hf_N36_.w hW) (pc := 93) f_M_96 rfl (zh_108 (hf_N36_.w hW)).1 (zdal_p dlD_M_peaks_64 (i := 13) rfl) ?_
                    refine zw_iload_n (pc := 96) (n := 3) (x := Int32.ofInt u35_) rfl (zdal_p dlD_M_peaks_64 (i := 14) rfl) ?_
                    refine zr_laldn (pc := 97) (zh_108 (hf_N36_.w hW)).2 (by decide) (by omega) (by omega) (zdal_p dlD_M_peaks_64 (i := 15) rfl) (fun v79_ hv79_ hv79_a hv79_b => ?_)
                    refine zr_callV (hf_N36_.w hW) hf_N36_.x (pc := 98) [.long (Int64.ofInt ((-v77_) * v78_)), .long (Int64.ofInt v79_)] [] l_M_446 (c_M_sumWith l N36_ (hf_N36_.w hW) ((-v77_) * v78_) (by omega) (by omega) v79_ hv79_a hv79_b (show -1000000000 ≤ zg N36_ 81 52 by first | with_reducible assumption | assumption | omega) (show zg N36_ 81 52 ≤ 1000000000 by first | with_reducible assumption | assumption | omega) (show 1 ≤ zg N36_ 81 53 by first | with_reducible assumption | assumption | omega) (show zg N36_ 81 53 ≤ 1000 by first | with_reducible assumption | assumption | omega) (show -1000000000 ≤ ((-v77_) * v78_) by first | with_reducible assumption | assumption | omega) (show ((-v77_) * v78_) ≤ 1000000000 by first | with_reducible assumption | assumption | omega) (show 1 ≤ v79_ by first | with_reducible assumption | assumption | omega) (show v79_ ≤ 1000 by first | with_reducible assumption | assumption | omega)) rfl rfl rfl (by decide) (Nat.le_of_ble_eq_true rfl) (zdal_p dlD_M_peaks_64 (i := 16) rfl) ?_
                    rintro _ N80_ ⟨rfl, hsN80_, hp0_N80_⟩
                    replace hp0_N80_ : zSw (zg N36_ 81 52) (zg N36_ 81 53) ((-v77_) * v78_) v79_ (zg N80_ 81 52) (zg N80_ 81 53) := hp0_N80_
                    have hf_N80_ : zFr [52, 53] [107, 108] Mz N80_ := hf_N36_.tr hsN80_ (by decide) (by decide)
                    have hb0_N80_ : zFr [52, 53] [107, 108] Mz N80_ := hb0_N36_.tr hsN80_ (by decide) (by decide)
                    have hb1_N80_ : zFr [52, 53] [] N27_ N80_ := hs37_.tr hsN80_ (by decide) (by decide)
                    have e26_N80_ : ze N80_ 81 26 = ze N36_ 81 26 := hsN80_.e (by decide)
                    have c82_ : zGB T N80_ := zGB.fr hsN80_ c44_ (by decide) (by decide)
                    have c83_ : zTab T N80_ := zTab.fr hsN80_ c45_ (by decide) (by decide)
                    have c84_ : zB 85 144 0 5 N80_ := zB.fr hsN80_ c46_ (by decide) (by decide)
                    have c85_ : zJX T N80_ := zJX.fr hsN80_ c47_ (by decide) (by decide)
                    have c86_ : zFirs T N80_ := zFirs.fr hsN80_ c48_ (by decide) (by decide)
                    have c87_ : zSSm T N80_ := zSSm.fr hsN80_ c49_ (by decide) (by decide)
                    have c88_ : zGD N80_ := zGD.fr hsN80_ c50_ (by decide) (by decide)
                    show zW l m_M_peaks (zn Mz + 0, zw Mz + 0) N80_ 101 [some (.ref 81), some (.int (Int32.ofInt a0_)), some (.int (Int32.ofInt u1_)), some (.int (Int32.ofInt u35_)), none, none, none, none, none] [] _
                    have hS_ := zpk_i1 hO hD (i := u35_) (k := u1_) hp0_N80_ (by omega) (by omega) (by omega) (show zPk T D (a0_).toNat (u1_ + 1).toNat N36_ by first | with_reducible assumption | assumption) (by first | with_reducible assumption | assumption) (by first | with_reducible assumption | assumption) (by first | with_reducible assumption | assumption) (by omega) (by first | with_reducible assumption | assumption)
                    refine zr_iinc (pc := 101) (i := 3) (a := u35_) (n := 1) (L2 := [some (.ref 81), some (.int (Int32.ofInt a0_)), some (.int (Int32.ofInt u1_)), some (.int (Int32.ofInt (u35_ + 1))), none, none, none, none, none]) rfl (by decide) rfl d_M_peaks_101 ?_
                    refine zw_goto (pc := 104) (tgt := 38) (by decide) d_M_peaks_104 ?_
                    have hR_ : zg N80_ 81 53 = 1 ∧ zg N80_ 81 52 = gds T D (a0_).toNat (u1_).toNat ((u35_ + 1) - u1_ - 1).toNat := by first | exact hS_ | exact ⟨by assumption, zpk_i0 hO hD (by omega) (by omega) (by omega) (show zPk T D (a0_).toNat (u1_ + 1).toNat N80_ by first | with_reducible assumption | assumption) (by first | with_reducible assumption | assumption) (by omega)⟩
                    have hK_ : zPk T D (a0_).toNat (u1_ + 1).toNat N80_ := by first | with_reducible assumption | exact zPk.fr hsN80_ (by first | with_reducible assumption | assumption) (by decide) | assumption
                    have hKC_ : zPkC T (u1_ + 1).toNat N80_ := by first | with_reducible assumption | exact zPkC_fr hsN80_ (by first | with_reducible assumption | assumption) (by decide) | assumption
                    exact ih_38 (u35_ + 1) (by omega) (by omega) N80_ hb1_N80_ (show u1_ + 1 ≤ (u35_ + 1) by first | with_reducible assumption | assumption | omega) (show (u35_ + 1) ≤ ze Mz 81 26 by first | with_reducible assumption | assumption | omega) (show zg N80_ 81 53 = 1 by exact hR_.1) (show zg N80_ 81 52 = gds T D (a0_).toNat (u1_).toNat ((u35_ + 1) - u1_ - 1).toNat by exact hR_.2) (show zPk T D (a0_).toNat (u1_ + 1).toNat N80_ by exact hK_) (show zPkC T (u1_ + 1).toNat N80_ by exact hKC_) (by omega)
          exact lp_38 _ (u1_ + 1) (by omega) (by omega) N27_ zFr.rf (show u1_ + 1 ≤ (u1_ + 1) by first | with_reducible assumption | assumption | omega) (show (u1_ + 1) ≤ ze Mz 81 26 by first | with_reducible assumption | assumption | omega) (show zg N27_ 81 53 = 1 by exact h53_) (show zg N27_ 81 52 = gds T D (a0_).toNat (u1_).toNat ((u1_ + 1) - u1_ - 1).toNat by rw [h52_, show ((u1_ + 1) - u1_ - 1).toNat = 0 by omega]; show _ = (if (u1_).toNat = (a0_).toNat then (1 : Int) else 0); omega) (show zPk T D (a0_).toNat (u1_ + 1).toNat N27_ by exact zPk.fr hsN27_ (zPk.fr hsN19_ (by first | with_reducible assumption | assumption) (by decide)) (by decide)) (show zPkC T (u1_ + 1).toNat N27_ by exact zPkC_fr hsN27_ (zPkC_fr hsN19_ (by first | with_reducible assumption | assumption) (by decide)) (by decide)) (Nat.lt_succ_self _)
        refine zr_icmp_ne (pc := 14) (tgt := 21) ⟨hu1_a, hu1_b⟩ ⟨ha0_a, ha0_b⟩ (by decide) (zdal_p dlD_M_peaks_62 (i := 10) rfl) (fun hc_14 => ?_) (fun hc_14 => ?_)
        · skip
          refine zw_iconst (pc := 21) (v := Int32.ofInt 0) (by decide) (zdal_p dlD_M_peaks_62 (i := 13) rfl) ?_
          exact j_22 0 (by decide) (by decide) (by omega) (show 0 = (if (u1_).toNat = (a0_).toNat then 1 else 0) by first | (rw [if_pos (by omega)]) | (rw [if_neg (by omega)]))
        · skip
          refine zw_iconst (pc := 17) (v := Int32.ofInt 1) (by decide) (zdal_p dlD_M_peaks_62 (i := 11) rfl) ?_
          refine zw_goto (pc := 18) (tgt := 22) (by decide) (zdal_p dlD_M_peaks_62 (i := 12) rfl) ?_
          exact j_22 1 (by decide) (by decide) (by omega) (show 1 = (if (u1_).toNat = (a0_).toNat then 1 else 0) by first | (rw [if_pos (by omega)]) | (rw [if_neg (by omega)]))
  exact lp_7 _ ((ze Mz 81 26) - 1) (by omega) (by omega) Mz zFr.rf (show -1 ≤ ((ze Mz 81 26) - 1) by first | with_reducible assumption | assumption | omega) (show ((ze Mz 81 26) - 1) < ze Mz 81 26 by first | with_reducible assumption | assumption | omega) (show zPk T D (a0_).toNat (((ze Mz 81 26) - 1) + 1).toNat Mz by exact zPk_0 (by omega)) (show zPkC T (((ze Mz 81 26) - 1) + 1).toNat Mz by exact zPkC_0 (by omega)) (Nat.lt_succ_self _)
set_option maxHeartbeats 4000000 in
theorem c_M_peakG (l : Launch) (Mz : zMem) (hW : zMt Mz) (a0_ : Int) (ha0_a : -2147483648 ≤ a0_) (ha0_b : a0_ < 2147483648) (a1_ : Int) (ha1_a : -2147483648 ≤ a1_) (ha1_b : a1_ < 2147483648) (a2_ : Int) (ha2_a : -2147483648 ≤ a2_) (ha2_b : a2_ < 2147483648) (T : zGT) (hO : gOK T) (D : Nat → Nat → Int) (hD : gDs T D) (hTt : T ∈ gTabs) (hGr_ : gGr T) (p0_ : zGB T Mz) : zC l m_M_peak 0 0 [.ref 81, .int (Int32.ofInt a0_), .int (Int32.ofInt a1_), .int (Int32.ofInt a2_)] Mz (zpI [52, 53] [107, 108] Mz (fun v N => (((0 ≤ a0_ ∧ a0_ < ((gF T).length : Int) ∧ 0 ≤ a1_ ∧ a1_ < ((gF T).length : Int) ∧ (a2_ = 0 ∨ a2_ = 1) ∧ zfPe T (fun k_ => k_ = (a0_).toNat) (a1_).toNat a2_ v) ∨ (¬ (0 ≤ a0_ ∧ a0_ < ((gF T).length : Int) ∧ 0 ≤ a1_ ∧ a1_ < ((gF T).length : Int) ∧ (a2_ = 0 ∨ a2_ = 1)) ∧ v = (-1000000 : Int)))))) := by
  refine zC_of (L0 := [some (.ref 81), some (.int (Int32.ofInt a0_)), some (.int (Int32.ofInt a1_)), some (.int (Int32.ofInt a2_))]) md_M_peak (Nat.le_of_ble_eq_true rfl) rfl ?_ zQ0
  have hf : zFr [52, 53] [107, 108] Mz Mz := zFr.rf
  have r_26 := ze_r Mz 81 26
  have hG := hO.1
  have g24 := hG.2.1
  have g1 := hG.1
  have dv0 : zTab T Mz := p0_.1
  have dv1 : zB 85 144 0 5 Mz := p0_.2.1
  have dv2 : zJX T Mz := p0_.2.2.1
  have dv3 : zFirs T Mz := p0_.2.2.2.1
  have dv4 : zSSm T Mz := p0_.2.2.2.2.1
  have dv5 : zGD Mz := zGB.d hO p0_
  have gb := dv5.1
  have gn := dv0.1
  have hfl_ := dv3.1
  refine zw_aload_n (pc := 0) (n := 0) (x := 81) rfl (zdal_p dlD_M_peak_60 (i := 0) rfl) ?_
  refine zw_iload_n (pc := 1) (n := 1) (x := Int32.ofInt a0_) rfl (zdal_p dlD_M_peak_60 (i := 1) rfl) ?_
  refine zr_callV (hf.w hW) hf.x (pc := 2) [.int (Int32.ofInt a0_)] [] l_M_414 (c_M_isSortG l Mz (hf.w hW) a0_ ha0_a ha0_b T hO p0_) rfl rfl rfl (by decide) (Nat.le_of_ble_eq_true rfl) (zdal_p dlD_M_peak_60 (i := 2) rfl) ?_
  rintro _ N1_ ⟨v2_, rfl, ⟨hv2_a, hv2_b⟩, hsN1_, hp0_N1_⟩
  obtain rfl := hsN1_.eq.symm
  replace hp0_N1_ : ((v2_ = 1 ∧ 0 ≤ a0_ ∧ a0_ < ze Mz 81 26) ∨ (v2_ = 0 ∧ (a0_ < 0 ∨ ze Mz 81 26 ≤ a0_))) := hp0_N1_
  rcases hp0_N1_ with ⟨rfl, ha2_0_hp0_N1_, ha2_1_hp0_N1_⟩ | ⟨rfl, ha2_0_hp0_N1_⟩
  · skip
    show zW l m_M_peak (zn Mz + 0, zw Mz + 0) Mz 5 [some (.ref 81), some (.int (Int32.ofInt a0_)), some (.int (Int32.ofInt a1_)), some (.int (Int32.ofInt a2_))] [.int (Int32.ofInt 1)] _
    refine zr_if_eq (pc := 5) (tgt := 26) ⟨(by decide), (by decide)⟩ (by decide) (zdal_p dlD_M_peak_60 (i := 3) rfl) (fun hc_5 => ?_) (fun hc_5 => ?_)
    · skip
      exact absurd hc_5 (by decide)
    · skip
      refine zw_aload_n (pc := 8) (n := 0) (x := 81) rfl (zdal_p dlD_M_peak_60 (i := 4) rfl) ?_
      refine zw_iload_n (pc := 9) (n := 2) (x := Int32.ofInt a1_) rfl (zdal_p dlD_M_peak_60 (i := 5) rfl) ?_
      refine zr_callV (hf.w hW) hf.x (pc := 10) [.int (Int32.ofInt a1_)] [] l_M_414 (c_M_isSortG l Mz (hf.w hW) a1_ ha1_a ha1_b T hO p0_) rfl rfl rfl (by decide) (Nat.le_of_ble_eq_true rfl) (zdal_p dlD_M_peak_60 (i := 6) rfl) ?_
      rintro _ N3_ ⟨v4_, rfl, ⟨hv4_a, hv4_b⟩, hsN3_, hp0_N3_⟩
      obtain rfl := hsN3_.eq.symm
      replace hp0_N3_ : ((v4_ = 1 ∧ 0 ≤ a1_ ∧ a1_ < ze Mz 81 26) ∨ (v4_ = 0 ∧ (a1_ < 0 ∨ ze Mz 81 26 ≤ a1_))) := hp0_N3_
      rcases hp0_N3_ with ⟨rfl, ha10_0_hp0_N3_, ha10_1_hp0_N3_⟩ | ⟨rfl, ha10_0_hp0_N3_⟩
      · skip
        show zW l m_M_peak (zn Mz + 0, zw Mz + 0) Mz 13 [some (.ref 81), some (.int (Int32.ofInt a0_)), some (.int (Int32.ofInt a1_)), some (.int (Int32.ofInt a2_))] [.int (Int32.ofInt 1)] _
        refine zr_if_eq (pc := 13) (tgt := 26) ⟨(by decide), (by decide)⟩ (by decide) (zdal_p dlD_M_peak_60 (i := 7) rfl) (fun hc_13 => ?_) (fun hc_13 => ?_)
        · skip
          exact absurd hc_13 (by decide)
        · skip
          refine zw_iload_n (pc := 16) (n := 3) (x := Int32.ofInt a2_) rfl (zdal_p dlD_M_peak_60 (i := 8) rfl) ?_
          refine zr_i2l (pc := 17) ⟨ha2_a, ha2_b⟩ (zdal_p dlD_M_peak_60 (i := 9) rfl) ?_
          refine zw_lconst (pc := 18) (v := Int64.ofInt 0) (by decide) (zdal_p dlD_M_peak_60 (i := 10) rfl) ?_
          refine zw_lconst (pc := 19) (v := Int64.ofInt 1) (by decide) (zdal_p dlD_M_peak_60 (i := 11) rfl) ?_
          refine zr_callS hf.x (pc := 20) [.long (Int64.ofInt a2_), .long (Int64.ofInt 0), .long (Int64.ofInt 1)] [] l_M_131 (c_M_isIn l Mz (hf.w hW) a2_ (by omega) (by omega) 0 (by decide) (by decide) 1 (by decide) (by decide)) rfl rfl (by decide) (Nat.le_of_ble_eq_true rfl) (zdal_p dlD_M_peak_60 (i := 12) rfl) ?_
          rintro _ N5_ ⟨v6_, rfl, ⟨hv6_a, hv6_b⟩, hsN5_, hp0_N5_⟩
          obtain rfl := hsN5_.eq.symm
          replace hp0_N5_ : ((v6_ = 1 ∧ 0 ≤ a2_ ∧ a2_ ≤ 1) ∨ (v6_ = 0 ∧ (a2_ < 0 ∨ 1 < a2_))) := hp0_N5_
          rcases hp0_N5_ with ⟨rfl, ha20_0_hp0_N5_, ha20_1_hp0_N5_⟩ | ⟨rfl, ha20_0_hp0_N5_⟩
          · skip
            show zW l m_M_peak (zn Mz + 0, zw Mz + 0) Mz 23 [some (.ref 81), some (.int (Int32.ofInt a0_)), some (.int (Int32.ofInt a1_)), some (.int (Int32.ofInt a2_))] [.int (Int32.ofInt 1)] _
            refine zr_if_ne (pc := 23) (tgt := 30) ⟨(by decide), (by decide)⟩ (by decide) (zdal_p dlD_M_peak_60 (i := 13) rfl) (fun hc_23 => ?_) (fun hc_23 => ?_)
            · skip
              refine zw_aload_n (pc := 30) (n := 0) (x := 81) rfl (zdal_p dlD_M_peak_60 (i := 16) rfl) ?_
              refine zw_iload_n (pc := 31) (n := 1) (x := Int32.ofInt a0_) rfl (zdal_p dlD_M_peak_60 (i := 17) rfl) ?_
              refine zr_callV (hf.w hW) hf.x (pc := 32) [.int (Int32.ofInt a0_)] [] l_M_450 (c_M_peaksG l Mz (hf.w hW) a0_ ha0_a ha0_b T hO D hD p0_ (show 0 ≤ a0_ by first | with_reducible assumption | assumption | omega) (show a0_ < ze Mz 81 26 by first | with_reducible assumption | assumption | omega)) rfl rfl rfl (by decide) (Nat.le_of_ble_eq_true rfl) (zdal_p dlD_M_peak_60 (i := 18) rfl) ?_
              rintro _ N7_ ⟨rfl, hsN7_, ⟨hp0_N7_, hp1_N7_⟩⟩
              have hf_N7_ : zFr [52, 53] [107, 108] Mz N7_ := hf.tr hsN7_ (by decide) (by decide)
              have e26_N7_ : ze N7_ 81 26 = ze Mz 81 26 := hsN7_.e (by decide)
              have c9_ : zGB T N7_ := zGB.fr hsN7_ p0_ (by decide) (by decide)
              have c10_ : zTab T N7_ := zTab.fr hsN7_ dv0 (by decide) (by decide)
              have c11_ : zB 85 144 0 5 N7_ := zB.fr hsN7_ dv1 (by decide) (by decide)
              have c12_ : zJX T N7_ := zJX.fr hsN7_ dv2 (by decide) (by decide)
              have c13_ : zFirs T N7_ := zFirs.fr hsN7_ dv3 (by decide) (by decide)
              have c14_ : zSSm T N7_ := zSSm.fr hsN7_ dv4 (by decide) (by decide)
              have c15_ : zGD N7_ := zGD.fr hsN7_ dv5 (by decide) (by decide)
              show zW l m_M_peak (zn Mz + 0, zw Mz + 0) N7_ 35 [some (.ref 81), some (.int (Int32.ofInt a0_)), some (.int (Int32.ofInt a1_)), some (.int (Int32.ofInt a2_))] [] _
              have hPk_ := hp0_N7_
              have hPc_ := hp1_N7_
              have hpb_ := zPk.b hO hD (j := (a0_).toNat) (i := (a1_).toNat) (by omega) hPk_ (by omega) (by omega)
              refine zw_iload_n (pc := 35) (n := 3) (x := Int32.ofInt a2_) rfl (zdal_p dlD_M_peak_60 (i := 19) rfl) ?_
              refine zr_if_ne (pc := 36) (tgt := 48) ⟨ha2_a, ha2_b⟩ (by decide) (zdal_p dlD_M_peak_60 (i := 20) rfl) (fun hc_36 => ?_) (fun hc_36 => ?_)
              · skip
                refine zw_aload_n (pc := 48) (n := 0) (x := 81) rfl (zdal_p dlD_M_peak_61 (i := 2) rfl) ?_
                refine zr_getF (r := 108) (hf_N7_.w hW) (pc := 49) f_M_96 rfl (zh_108 (hf_N7_.w hW)).1 (zdal_p dlD_M_peak_61 (i := 3) rfl) ?_
                refine zw_iload_n (pc := 52) (n := 2) (x := Int32.ofInt a1_) rfl (zdal_p dlD_M_peak_61 (i := 4) rfl) ?_
                refine zr_laldn (pc := 53) (zh_108 (hf_N7_.w hW)).2 (by decide) (by omega) (by omega) (zdal_p dlD_M_peak_61 (i := 5) rfl) (fun v16_ hv16_ hv16_a hv16_b => ?_)
                have hv_ := hv16_
                refine zr_l2i (pc := 54) (zdal_p dlD_M_peak_61 (i := 6) rfl) ?_
                refine zk_nmW (fun v17_ hv17_ hv17_w => ?_)
                obtain ⟨hv17_a, hv17_b⟩ := hv17_
                have hlv_ := (z32w_v hv17_w ⟨by omega, by omega⟩).trans hv_
                exact zr_iret (pc := 55) (ty := .int) rfl rfl ⟨by omega, by omega⟩ hf_N7_ (show ((0 ≤ a0_ ∧ a0_ < ((gF T).length : Int) ∧ 0 ≤ a1_ ∧ a1_ < ((gF T).length : Int) ∧ (a2_ = 0 ∨ a2_ = 1) ∧ zfPe T (fun k_ => k_ = (a0_).toNat) (a1_).toNat a2_ v17_) ∨ (¬ (0 ≤ a0_ ∧ a0_ < ((gF T).length : Int) ∧ 0 ≤ a1_ ∧ a1_ < ((gF T).length : Int) ∧ (a2_ = 0 ∨ a2_ = 1)) ∧ v17_ = (-1000000 : Int))) by exact Or.inl ⟨by omega, by omega, by omega, by omega, by omega, zPk_v hTt hGr_ hD (by omega) (by omega) hPk_ hPc_ (by first | exact Or.inl ⟨by omega, hlv_⟩ | exact Or.inr ⟨by omega, hlv_⟩)⟩) (zdal_p dlD_M_peak_61 (i := 7) rfl)
              · skip
                refine zw_aload_n (pc := 39) (n := 0) (x := 81) rfl (zdal_p dlD_M_peak_60 (i := 21) rfl) ?_
                refine zr_getF (r := 107) (hf_N7_.w hW) (pc := 40) f_M_93 rfl (zh_107 (hf_N7_.w hW)).1 (zdal_p dlD_M_peak_60 (i := 22) rfl) ?_
                refine zw_iload_n (pc := 43) (n := 2) (x := Int32.ofInt a1_) rfl (zdal_p dlD_M_peak_60 (i := 23) rfl) ?_
                refine zr_laldn (pc := 44) (zh_107 (hf_N7_.w hW)).2 (by decide) (by omega) (by omega) (zdal_p dlD_M_peak_61 (i := 0) rfl) (fun v18_ hv18_ hv18_a hv18_b => ?_)
                have hv_ := hv18_
                refine zw_goto (pc := 45) (tgt := 54) (by decide) (zdal_p dlD_M_peak_61 (i := 1) rfl) ?_
                refine zr_l2i (pc := 54) (zdal_p dlD_M_peak_61 (i := 6) rfl) ?_
                refine zk_nmW (fun v19_ hv19_ hv19_w => ?_)
                obtain ⟨hv19_a, hv19_b⟩ := hv19_
                have hlv_ := (z32w_v hv19_w ⟨by omega, by omega⟩).trans hv_
                exact zr_iret (pc := 55) (ty := .int) rfl rfl ⟨by omega, by omega⟩ hf_N7_ (show ((0 ≤ a0_ ∧ a0_ < ((gF T).length : Int) ∧ 0 ≤ a1_ ∧ a1_ < ((gF T).length : Int) ∧ (a2_ = 0 ∨ a2_ = 1) ∧ zfPe T (fun k_ => k_ = (a0_).toNat) (a1_).toNat a2_ v19_) ∨ (¬ (0 ≤ a0_ ∧ a0_ < ((gF T).length : Int) ∧ 0 ≤ a1_ ∧ a1_ < ((gF T).length : Int) ∧ (a2_ = 0 ∨ a2_ = 1)) ∧ v19_ = (-1000000 : Int))) by exact Or.inl ⟨by omega, by omega, by omega, by omega, by omega, zPk_v hTt hGr_ hD (by omega) (by omega) hPk_ hPc_ (by first | exact Or.inl ⟨by omega, hlv_⟩ | exact Or.inr ⟨by omega, hlv_⟩)⟩) (zdal_p dlD_M_peak_61 (i := 7) rfl)
            · skip
              exact absurd hc_23 (by decide)
          · skip
            show zW l m_M_peak (zn Mz + 0, zw Mz + 0) Mz 23 [some (.ref 81), some (.int (Int32.ofInt a0_)), some (.int (Int32.ofInt a1_)), some (.int (Int32.ofInt a2_))] [.int (Int32.ofInt 0)] _
            refine zr_if_ne (pc := 23) (tgt := 30) ⟨(by decide), (by decide)⟩ (by decide) (zdal_p dlD_M_peak_60 (i := 13) rfl) (fun hc_23 => ?_) (fun hc_23 => ?_)
            · skip
              exact absurd hc_23 (by decide)
            · skip
              refine zw_ldcw (pc := 26) (v := Int32.ofInt (-1000000)) (by rw [show Int32.ofInt (-1000000) = ((-1000000) : Int32) by decide]; exact k_M_435) (zdal_p dlD_M_peak_60 (i := 14) rfl) ?_
              exact zr_iret (pc := 29) (ty := .int) rfl rfl ⟨by omega, by omega⟩ hf (show ((0 ≤ a0_ ∧ a0_ < ((gF T).length : Int) ∧ 0 ≤ a1_ ∧ a1_ < ((gF T).length : Int) ∧ (a2_ = 0 ∨ a2_ = 1) ∧ zfPe T (fun k_ => k_ = (a0_).toNat) (a1_).toNat a2_ ((-1000000))) ∨ (¬ (0 ≤ a0_ ∧ a0_ < ((gF T).length : Int) ∧ 0 ≤ a1_ ∧ a1_ < ((gF T).length : Int) ∧ (a2_ = 0 ∨ a2_ = 1)) ∧ ((-1000000)) = (-1000000 : Int))) by exact Or.inr ⟨by omega, rfl⟩) (zdal_p dlD_M_peak_60 (i := 15) rfl)
      · skip
        show zW l m_M_peak (zn Mz + 0, zw Mz + 0) Mz 13 [some (.ref 81), some (.int (Int32.ofInt a0_)), some (.int (Int32.ofInt a1_)), some (.int (Int32.ofInt a2_))] [.int (Int32.ofInt 0)] _
        refine zr_if_eq (pc := 13) (tgt := 26) ⟨(by decide), (by decide)⟩ (by decide) (zdal_p dlD_M_peak_60 (i := 7) rfl) (fun hc_13 => ?_) (fun hc_13 => ?_)
        · skip
          refine zw_ldcw (pc := 26) (v := Int32.ofInt (-1000000)) (by rw [show Int32.ofInt (-1000000) = ((-1000000) : Int32) by decide]; exact k_M_435) (zdal_p dlD_M_peak_60 (i := 14) rfl) ?_
          exact zr_iret (pc := 29) (ty := .int) rfl rfl ⟨by omega, by omega⟩ hf (show ((0 ≤ a0_ ∧ a0_ < ((gF T).length : Int) ∧ 0 ≤ a1_ ∧ a1_ < ((gF T).length : Int) ∧ (a2_ = 0 ∨ a2_ = 1) ∧ zfPe T (fun k_ => k_ = (a0_).toNat) (a1_).toNat a2_ ((-1000000))) ∨ (¬ (0 ≤ a0_ ∧ a0_ < ((gF T).length : Int) ∧ 0 ≤ a1_ ∧ a1_ < ((gF T).length : Int) ∧ (a2_ = 0 ∨ a2_ = 1)) ∧ ((-1000000)) = (-1000000 : Int))) by exact Or.inr ⟨by omega, rfl⟩) (zdal_p dlD_M_peak_60 (i := 15) rfl)
        · skip
          exact absurd hc_13 (by decide)
  · skip
    show zW l m_M_peak (zn Mz + 0, zw Mz + 0) Mz 5 [some (.ref 81), some (.int (Int32.ofInt a0_)), some (.int (Int32.ofInt a1_)), some (.int (Int32.ofInt a2_))] [.int (Int32.ofInt 0)] _
    refine zr_if_eq (pc := 5) (tgt := 26) ⟨(by decide), (by decide)⟩ (by decide) (zdal_p dlD_M_peak_60 (i := 3) rfl) (fun hc_5 => ?_) (fun hc_5 => ?_)
    · skip
      refine zw_ldcw (pc := 26) (v := Int32.ofInt (-1000000)) (by rw [show Int32.ofInt (-1000000) = ((-1000000) : Int32) by decide]; exact k_M_435) (zdal_p dlD_M_peak_60 (i := 14) rfl) ?_
      exact zr_iret (pc := 29) (ty := .int) rfl rfl ⟨by omega, by omega⟩ hf (show ((0 ≤ a0_ ∧ a0_ < ((gF T).length : Int) ∧ 0 ≤ a1_ ∧ a1_ < ((gF T).length : Int) ∧ (a2_ = 0 ∨ a2_ = 1) ∧ zfPe T (fun k_ => k_ = (a0_).toNat) (a1_).toNat a2_ ((-1000000))) ∨ (¬ (0 ≤ a0_ ∧ a0_ < ((gF T).length : Int) ∧ 0 ≤ a1_ ∧ a1_ < ((gF T).length : Int) ∧ (a2_ = 0 ∨ a2_ = 1)) ∧ ((-1000000)) = (-1000000 : Int))) by exact Or.inr ⟨by omega, rfl⟩) (zdal_p dlD_M_peak_60 (i := 15) rfl)
    · skip
      exact absurd hc_5 (by decide)
