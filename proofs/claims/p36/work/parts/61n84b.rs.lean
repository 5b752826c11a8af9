set_option maxHeartbeats 4000000 in
theorem c_M_laysMadeS (l : Launch) (Mz : zMem) (hW : zMt Mz) (a0_ : Int) (ha0_a : -2147483648 ≤ a0_) (ha0_b : a0_ < 2147483648) (T : zGT) (hO : gOK T) (hX : gEx T) (p0_ : zGB T Mz) (p1_ : 0 ≤ a0_) (p2_ : a0_ < ze Mz 81 26) : zC l m_M_laysMade 0 0 [.ref 81, .int (Int32.ofInt a0_)] Mz (zpV [55] [109] Mz (fun N => zMq T a0_ N ∧ 1 ≤ ze N 81 55 ∧ ze N 81 55 ≤ 24 ∧ zMss T (gFn T (a0_).toNat) N (gN T : Int))) := by
  refine zC_of (L0 := [some (.ref 81), some (.int (Int32.ofInt a0_)), none, none, none]) md_M_laysMade (Nat.le_of_ble_eq_true rfl) rfl ?_ zQ0
  have hf : zFr [55] [109] Mz Mz := zFr.rf
  have r_20 := ze_r Mz 81 20
  have r_26 := ze_r Mz 81 26
  have r_55 := ze_r Mz 81 55
  have hG := hO.1
  have g24 := hG.2.1
  have g1 := hG.1
  have dv0 : zTab T Mz := p0_.1
  have dv1 : zB 85 144 0 5 Mz := p0_.2.1
  have dv2 : zJX T Mz := p0_.2.2.1
  have dv3 : zFirs T Mz := p0_.2.2.2.1
  have dv4 : zSSm T Mz := p0_.2.2.2.2.1
  have dv5 : zGD Mz := zGB.d hO p0_
  have gb := dv5.1
  have gn := dv0.1
  have gfl := dv3.1
  have gf6 := gF_pos hO
  have gxl := hX.2.1
  have hfz := dv3.2 (a0_).toNat (by omega)
  have hfg := dv3.g hO (e := a0_) (by omega) (by omega)
  have hH_ : (ze Mz 91 (a0_).toNat).toNat = (gFn T (a0_).toNat) := by rw [hfz]; rfl
  refine zw_aload_n (pc := 0) (n := 0) (x := 81) rfl d_M_laysMade_0 ?_
  refine zr_getF (r := 91) (hf.w hW) (pc := 1) f_M_44 rfl (zh_91 (hf.w hW)).1 d_M_laysMade_1 ?_
  refine zw_iload_n (pc := 4) (n := 1) (x := Int32.ofInt a0_) rfl d_M_laysMade_4 ?_
  refine zr_ialdn (pc := 5) (zh_91 (hf.w hW)).2 (by decide) (by omega) (by omega) d_M_laysMade_5 (fun v1_ hv1_ hv1_a hv1_b => ?_)
  refine zr_toI (show v1_ = ze Mz 91 (a0_).toNat by omega) ?_
  refine zw_istore_n (pc := 6) (i := 2) (L2 := [some (.ref 81), some (.int (Int32.ofInt a0_)), some (.int (Int32.ofInt (ze Mz 91 (a0_).toNat))), none, none]) rfl (by decide) rfl d_M_laysMade_6 ?_
  refine zw_aload_n (pc := 7) (n := 0) (x := 81) rfl d_M_laysMade_7 ?_
  refine zw_iload_n (pc := 8) (n := 2) (x := Int32.ofInt (ze Mz 91 (a0_).toNat)) rfl d_M_laysMade_8 ?_
  refine zr_callV (hf.w hW) hf.x (pc := 9) [.int (Int32.ofInt (ze Mz 91 (a0_).toNat))] [] l_M_417 (c_M_normOfF l Mz (hf.w hW) (ze Mz 91 (a0_).toNat) (by omega) (by omega) T hO p0_ (show 0 ≤ (ze Mz 91 (a0_).toNat) by first | assumption | omega) (show (ze Mz 91 (a0_).toNat) < 16777216 by first | assumption | omega)) rfl rfl rfl (by decide) (Nat.le_of_ble_eq_true rfl) d_M_laysMade_9 ?_
  rintro _ N2_ ⟨v3_, rfl, ⟨hv3_a, hv3_b⟩, hsN2_, ⟨hp0_N2_, hp1_N2_, hp2_N2_⟩⟩
  obtain rfl := hsN2_.eq.symm
  show zW l m_M_laysMade (zn Mz + 0, zw Mz + 0) Mz 12 [some (.ref 81), some (.int (Int32.ofInt a0_)), some (.int (Int32.ofInt (ze Mz 91 (a0_).toNat))), none, none] [.int (Int32.ofInt v3_)] (zpV [55] [109] Mz (fun N => zMq T a0_ N ∧ 1 ≤ ze N 81 55 ∧ ze N 81 55 ≤ 24 ∧ zMss T (gFn T (a0_).toNat) N (gN T : Int)))
  have hnm_ := hp2_N2_
  refine zw_istore_n (pc := 12) (i := 3) (L2 := [some (.ref 81), some (.int (Int32.ofInt a0_)), some (.int (Int32.ofInt (ze Mz 91 (a0_).toNat))), some (.int (Int32.ofInt v3_)), none]) rfl (by decide) rfl d_M_laysMade_12 ?_
  refine zw_aload_n (pc := 13) (n := 0) (x := 81) rfl d_M_laysMade_13 ?_
  refine zw_iconst (pc := 14) (v := Int32.ofInt 0) (by decide) d_M_laysMade_14 ?_
  refine zr_putI (hf.w hW) (pc := 15) f_M_453 rfl rfl ⟨by omega, by omega⟩ rfl rfl d_M_laysMade_15 (fun N4_ hsN4_ hvN4_ => ?_)
  have hf_N4_ : zFr [55] [109] Mz N4_ := hf.tr hsN4_ (by decide) (by decide)
  have e20_N4_ : ze N4_ 81 20 = ze Mz 81 20 := hsN4_.e (by decide)
  have e26_N4_ : ze N4_ 81 26 = ze Mz 81 26 := hsN4_.e (by decide)
  have r55_N4_ := ze_r N4_ 81 55
  have c5_ : zGB T N4_ := zGB.fr hsN4_ p0_ (by decide) (by decide)
  have c6_ : zTab T N4_ := zTab.fr hsN4_ dv0 (by decide) (by decide)
  have c7_ : zB 85 144 0 5 N4_ := zB.fr hsN4_ dv1 (by decide) (by decide)
  have c8_ : zJX T N4_ := zJX.fr hsN4_ dv2 (by decide) (by decide)
  have c9_ : zFirs T N4_ := zFirs.fr hsN4_ dv3 (by decide) (by decide)
  have c10_ : zSSm T N4_ := zSSm.fr hsN4_ dv4 (by decide) (by decide)
  have c11_ : zGD N4_ := zGD.fr hsN4_ dv5 (by decide) (by decide)
  refine zw_iconst (pc := 18) (v := Int32.ofInt 0) (by decide) d_M_laysMade_18 ?_
  refine zw_istore (pc := 19) (i := 4) (L2 := [some (.ref 81), some (.int (Int32.ofInt a0_)), some (.int (Int32.ofInt (ze Mz 91 (a0_).toNat))), some (.int (Int32.ofInt v3_)), some (.int (Int32.ofInt 0))]) (by decide) rfl d_M_laysMade_19 ?_
  have lp_21 : ∀ (n : Nat) (u12_ : Int) (hu12_a : -2147483648 ≤ u12_) (hu12_b : u12_ < 2147483648) (N13_ : zMem) (hs14_ : zFr [55] [109] N4_ N13_) (i15_ : 0 ≤ u12_) (i16_ : zMl T a0_ N13_ u12_) (i17_ : u12_ ≤ ze Mz 81 20) (i18_ : 0 ≤ ze N13_ 81 55) (i19_ : ze N13_ 81 55 ≤ u12_) (i20_ : zMss T (gFn T (a0_).toNat) N13_ u12_), (ze Mz 81 20 - u12_).toNat < n → zW l m_M_laysMade (zn Mz + 0, zw Mz + 0) N13_ 21 [some (.ref 81), some (.int (Int32.ofInt a0_)), some (.int (Int32.ofInt (ze Mz 91 (a0_).toNat))), some (.int (Int32.ofInt v3_)), some (.int (Int32.ofInt u12_))] [] (zpV [55] [109] Mz (fun N => zMq T a0_ N ∧ 1 ≤ ze N 81 55 ∧ ze N 81 55 ≤ 24 ∧ zMss T (gFn T (a0_).toNat) N (gN T : Int))) := by
    intro n
    induction n with
    | zero =>
      intro u12_ hu12_a hu12_b N13_ hs14_ i15_ i16_ i17_ i18_ i19_ i20_ h0
      exact absurd h0 (Nat.not_lt_zero _)
    | succ n ih_21 =>
      intro u12_ hu12_a hu12_b N13_ hs14_ i15_ i16_ i17_ i18_ i19_ i20_ hlt_21
      have hf_N13_ : zFr [55] [109] Mz N13_ := hf_N4_.tr hs14_ (by decide) (by decide)
      have e20_N13_ : ze N13_ 81 20 = ze N4_ 81 20 := hs14_.e (by decide)
      have e26_N13_ : ze N13_ 81 26 = ze N4_ 81 26 := hs14_.e (by decide)
      have r55_N13_ := ze_r N13_ 81 55
      have c21_ : zGB T N13_ := zGB.fr hs14_ c5_ (by decide) (by decide)
      have c22_ : zTab T N13_ := zTab.fr hs14_ c6_ (by decide) (by decide)
      have c23_ : zB 85 144 0 5 N13_ := zB.fr hs14_ c7_ (by decide) (by decide)
      have c24_ : zJX T N13_ := zJX.fr hs14_ c8_ (by decide) (by decide)
      have c25_ : zFirs T N13_ := zFirs.fr hs14_ c9_ (by decide) (by decide)
      have c26_ : zSSm T N13_ := zSSm.fr hs14_ c10_ (by decide) (by decide)
      have c27_ : zGD N13_ := zGD.fr hs14_ c11_ (by decide) (by decide)
      have hms0_ := (show zMss T (gFn T (a0_).toNat) N13_ u12_ by assumption)
      refine zw_iload (pc := 21) (i := 4) (x := Int32.ofInt u12_) rfl d_M_laysMade_21 ?_
      refine zw_aload_n (pc := 23) (n := 0) (x := 81) rfl d_M_laysMade_23 ?_
      refine zr_getI0 hf_N13_ hW (pc := 24) (by decide) f_M_196 rfl d_M_laysMade_24 ?_
      refine zr_icmp_ge (pc := 27) (tgt := 93) ⟨hu12_a, hu12_b⟩ ⟨(ze_r Mz 81 20).1, (ze_r Mz 81 20).2⟩ (by decide) d_M_laysMade_27 (fun hc_27 => ?_) (fun hc_27 => ?_)
      · skip
        have hMd_ := zMl_e hG (show zMl T a0_ N13_ u12_ by assumption) (by omega)
        have hMd1_ := hMd_.1
        exact zr_vret (pc := 93) rfl hf_N13_ ⟨(show zMq T a0_ N13_ by exact hMd_), (show 1 ≤ ze N13_ 81 55 by first | assumption | omega), (show ze N13_ 81 55 ≤ 24 by first | assumption | omega), (show zMss T (gFn T (a0_).toNat) N13_ (gN T : Int) by have h_ := hms0_; rw [show u12_ = (gN T : Int) by omega] at h_; exact h_)⟩ d_M_laysMade_93
      · skip
        refine zw_iload_n (pc := 30) (n := 3) (x := Int32.ofInt v3_) rfl d_M_laysMade_30 ?_
        refine zw_iload (pc := 31) (i := 4) (x := Int32.ofInt u12_) rfl d_M_laysMade_31 ?_
        refine zr_callS hf_N13_.x (pc := 33) [.int (Int32.ofInt v3_), .int (Int32.ofInt u12_)] [] l_M_213 (c_M_holds l N13_ (hf_N13_.w hW) v3_ hv3_a hv3_b u12_ hu12_a hu12_b (show 0 ≤ v3_ by first | assumption | omega) (show 0 ≤ u12_ by first | assumption | omega) (show u12_ < 32 by first | assumption | omega)) rfl rfl (by decide) (Nat.le_of_ble_eq_true rfl) d_M_laysMade_33 ?_
        rintro _ N28_ ⟨v29_, rfl, ⟨hv29_a, hv29_b⟩, hsN28_, hp0_N28_⟩
        obtain rfl := hsN28_.eq.symm
        replace hp0_N28_ : ((v29_ = 1 ∧ zbt v3_ u12_) ∨ (v29_ = 0 ∧ ¬ zbt v3_ u12_)) := hp0_N28_
        rcases hp0_N28_ with ⟨rfl, ha33_0_hp0_N28_⟩ | ⟨rfl, ha33_0_hp0_N28_⟩
        · skip
          have hnt_ := (hnm_ (u12_).toNat (by omega)).mp ha33_0_hp0_N28_
          show zW l m_M_laysMade (zn Mz + 0, zw Mz + 0) N13_ 36 [some (.ref 81), some (.int (Int32.ofInt a0_)), some (.int (Int32.ofInt (ze Mz 91 (a0_).toNat))), some (.int (Int32.ofInt v3_)), some (.int (Int32.ofInt u12_))] [.int (Int32.ofInt 1)] (zpV [55] [109] Mz (fun N => zMq T a0_ N ∧ 1 ≤ ze N 81 55 ∧ ze N 81 55 ≤ 24 ∧ zMss T (gFn T (a0_).toNat) N (gN T : Int)))
          refine zr_if_eq (pc := 36) (tgt := 87) ⟨(by decide), (by decide)⟩ (by decide) d_M_laysMade_36 (fun hc_36 => ?_) (fun hc_36 => ?_)
          · skip
            exact absurd hc_36 (by decide)
          · skip
            refine zw_aload_n (pc := 39) (n := 0) (x := 81) rfl d_M_laysMade_39 ?_
            refine zw_iload_n (pc := 40) (n := 2) (x := Int32.ofInt (ze Mz 91 (a0_).toNat)) rfl d_M_laysMade_40 ?_
            refine zw_iload (pc := 41) (i := 4) (x := Int32.ofInt u12_) rfl d_M_laysMade_41 ?_
            refine zr_callV (hf_N13_.w hW) hf_N13_.x (pc := 43) [.int (Int32.ofInt (ze Mz 91 (a0_).toNat)), .int (Int32.ofInt u12_)] [] l_M_247 (c_M_leastOf l N13_ (hf_N13_.w hW) (ze Mz 91 (a0_).toNat) (by omega) (by omega) u12_ hu12_a hu12_b T hG c22_ (show 0 ≤ (ze Mz 91 (a0_).toNat) by first | assumption | omega) (show 0 ≤ u12_ by first | assumption | omega) (show u12_ < ze N13_ 81 20 by first | assumption | omega)) rfl rfl rfl (by decide) (Nat.le_of_ble_eq_true rfl) d_M_laysMade_43 ?_
            rintro _ N30_ ⟨v31_, rfl, ⟨hv31_a, hv31_b⟩, hsN30_, ⟨hp0_N30_, hp1_N30_, hp2_N30_⟩⟩
            obtain rfl := hsN30_.eq.symm
            show zW l m_M_laysMade (zn Mz + 0, zw Mz + 0) N13_ 46 [some (.ref 81), some (.int (Int32.ofInt a0_)), some (.int (Int32.ofInt (ze Mz 91 (a0_).toNat))), some (.int (Int32.ofInt v3_)), some (.int (Int32.ofInt u12_))] [.int (Int32.ofInt v31_)] (zpV [55] [109] Mz (fun N => zMq T a0_ N ∧ 1 ≤ ze N 81 55 ∧ ze N 81 55 ≤ 24 ∧ zMss T (gFn T (a0_).toNat) N (gN T : Int)))
            refine zw_iload (pc := 46) (i := 4) (x := Int32.ofInt u12_) rfl d_M_laysMade_46 ?_
            refine zr_icmp_eq (pc := 48) (tgt := 54) ⟨hv31_a, hv31_b⟩ ⟨hu12_a, hu12_b⟩ (by decide) d_M_laysMade_48 (fun hc_48 => ?_) (fun hc_48 => ?_)
            · skip
              refine zw_aload_n (pc := 54) (n := 0) (x := 81) rfl d_M_laysMade_54 ?_
              refine zr_getF (r := 109) (hf_N13_.w hW) (pc := 55) f_M_99 rfl (zh_109 (hf_N13_.w hW)).1 d_M_laysMade_55 ?_
              refine zw_aload_n (pc := 58) (n := 0) (x := 81) rfl d_M_laysMade_58 ?_
              refine zr_getI (hf_N13_.w hW) (pc := 59) f_M_453 rfl d_M_laysMade_59 ?_
              refine zw_aload_n (pc := 62) (n := 0) (x := 81) rfl d_M_laysMade_62 ?_
              refine zw_aload_n (pc := 63) (n := 0) (x := 81) rfl d_M_laysMade_63 ?_
              refine zw_iload_n (pc := 64) (n := 2) (x := Int32.ofInt (ze Mz 91 (a0_).toNat)) rfl d_M_laysMade_64 ?_
              refine zw_iconst (pc := 65) (v := Int32.ofInt 1) (by decide) d_M_laysMade_65 ?_
              refine zw_iload (pc := 66) (i := 4) (x := Int32.ofInt u12_) rfl d_M_laysMade_66 ?_
              refine zr_ishl (pc := 68) d_M_laysMade_68 ?_
              have hr32_ := zshl_r 1 u12_
              have hgi_ := gIn_or hG (x := (ze Mz 91 (a0_).toNat)) (g := u12_) (by omega) (hfg.1.i hO).2 (by omega) (by omega)
              refine zr_ior (pc := 69) d_M_laysMade_69 ?_
              have hr33_ := zor_r (ze Mz 91 (a0_).toNat) (zshl 1 u12_)
              refine zr_callV (hf_N13_.w hW) hf_N13_.x (pc := 70) [.int (Int32.ofInt (zor (ze Mz 91 (a0_).toNat) (zshl 1 u12_)))] [.ref 81, .int (Int32.ofInt (ze N13_ 81 55)), .ref 109] l_M_229 (c_M_closed l N13_ (hf_N13_.w hW) (zor (ze Mz 91 (a0_).toNat) (zshl 1 u12_)) (by omega) (by omega) T hG c22_ (show gIn T (zor (ze Mz 91 (a0_).toNat) (zshl 1 u12_)) by exact hgi_.1)) rfl rfl rfl (by decide) (Nat.le_of_ble_eq_true rfl) d_M_laysMade_70 ?_
              rintro _ N34_ ⟨v35_, rfl, ⟨hv35_a, hv35_b⟩, hsN34_, ⟨hp0_N34_, hp1_N34_, hp2_N34_⟩⟩
              obtain rfl := hsN34_.eq.symm
              show zW l m_M_laysMade (zn Mz + 0, zw Mz + 0) N13_ 73 [some (.ref 81), some (.int (Int32.ofInt a0_)), some (.int (Int32.ofInt (ze Mz 91 (a0_).toNat))), some (.int (Int32.ofInt v3_)), some (.int (Int32.ofInt u12_))] [.int (Int32.ofInt v35_), .ref 81, .int (Int32.ofInt (ze N13_ 81 55)), .ref 109] (zpV [55] [109] Mz (fun N => zMq T a0_ N ∧ 1 ≤ ze N 81 55 ∧ ze N 81 55 ≤ 24 ∧ zMss T (gFn T (a0_).toNat) N (gN T : Int)))
              have hLC_ := hp0_N34_
              rw [hgi_.2] at hLC_
              have hm_N13_ := gMe_c hO hp0_N34_ (by omega)
              refine zr_callV (hf_N13_.w hW) hf_N13_.x (pc := 73) [.int (Int32.ofInt v35_)] [.int (Int32.ofInt (ze N13_ 81 55)), .ref 109] l_M_411 (c_M_sortOfSetF l N13_ (hf_N13_.w hW) v35_ hv35_a hv35_b T hO c21_ (show gMe T v35_ by assumption)) rfl rfl rfl (by decide) (Nat.le_of_ble_eq_true rfl) d_M_laysMade_73 ?_
              rintro _ N36_ ⟨v37_, rfl, ⟨hv37_a, hv37_b⟩, hsN36_, ⟨hp0_N36_, hp1_N36_, hp2_N36_⟩⟩
              obtain rfl := hsN36_.eq.symm
              show zW l m_M_laysMade (zn Mz + 0, zw Mz + 0) N13_ 76 [some (.ref 81), some (.int (Int32.ofInt a0_)), some (.int (Int32.ofInt (ze Mz 91 (a0_).toNat))), some (.int (Int32.ofInt v3_)), some (.int (Int32.ofInt u12_))] [.int (Int32.ofInt v37_), .int (Int32.ofInt (ze N13_ 81 55)), .ref 109] (zpV [55] [109] Mz (fun N => zMq T a0_ N ∧ 1 ≤ ze N 81 55 ∧ ze N 81 55 ≤ 24 ∧ zMss T (gFn T (a0_).toNat) N (gN T : Int)))
              have hgl_ := hp2_N36_
              have hFi_ := c25_
              have hg0_ := hp0_N36_
              have hg1_ := hp1_N36_
              have hgs_ : v37_ = ((gsr T ((gFn T (a0_).toNat) ||| 2 ^ (u12_).toNat) : Nat) : Int) := gsr_u hO (by rw [← hH_]; exact hLC_) ⟨⟨hg0_, by omega⟩, Int.ofNat_inj.mp ((hFi_.2 _ (by omega)).symm.trans hgl_)⟩
              refine zr_iast (pc := 76) (zh_109 (hf_N13_.w hW)).2 (by decide) (by decide) (by omega) (by omega) d_M_laysMade_76 (fun N38_ hN38_ hsN38_ => ?_)
              have hf_N38_ : zFr [55] [109] Mz N38_ := hf_N13_.tr hsN38_ (by decide) (by decide)
              have hb0_N38_ : zFr [55] [109] N4_ N38_ := hs14_.tr hsN38_ (by decide) (by decide)
              have e20_N38_ : ze N38_ 81 20 = ze N13_ 81 20 := hsN38_.e (by decide)
              have e26_N38_ : ze N38_ 81 26 = ze N13_ 81 26 := hsN38_.e (by decide)
              have e55_N38_ : ze N38_ 81 55 = ze N13_ 81 55 := hsN38_.e (by decide)
              have c39_ : zGB T N38_ := zGB.fr hsN38_ c21_ (by decide) (by decide)
              have c40_ : zTab T N38_ := zTab.fr hsN38_ c22_ (by decide) (by decide)
              have c41_ : zB 85 144 0 5 N38_ := zB.fr hsN38_ c23_ (by decide) (by decide)
              have c42_ : zJX T N38_ := zJX.fr hsN38_ c24_ (by decide) (by decide)
              have c43_ : zFirs T N38_ := zFirs.fr hsN38_ c25_ (by decide) (by decide)
              have c44_ : zSSm T N38_ := zSSm.fr hsN38_ c26_ (by decide) (by decide)
              have c45_ : zGD N38_ := zGD.fr hsN38_ c27_ (by decide) (by decide)
              refine zw_aload_n (pc := 77) (n := 0) (x := 81) rfl d_M_laysMade_77 ?_
              refine zw_dup (pc := 78) rfl d_M_laysMade_78 ?_
              refine zr_getI (hf_N38_.w hW) (pc := 79) f_M_453 rfl d_M_laysMade_79 ?_
              refine zw_iconst (pc := 82) (v := Int32.ofInt 1) (by decide) d_M_laysMade_82 ?_
              refine zr_iadd (pc := 83) d_M_laysMade_83 ?_
              refine zr_putI (hf_N38_.w hW) (pc := 84) f_M_453 rfl rfl ⟨by omega, by omega⟩ rfl rfl d_M_laysMade_84 (fun N46_ hsN46_ hvN46_ => ?_)
              have hf_N46_ : zFr [55] [109] Mz N46_ := hf_N38_.tr hsN46_ (by decide) (by decide)
              have hb0_N46_ : zFr [55] [109] N4_ N46_ := hb0_N38_.tr hsN46_ (by decide) (by decide)
              have e20_N46_ : ze N46_ 81 20 = ze N38_ 81 20 := hsN46_.e (by decide)
              have e26_N46_ : ze N46_ 81 26 = ze N38_ 81 26 := hsN46_.e (by decide)
              have r55_N46_ := ze_r N46_ 81 55
              have c47_ : zGB T N46_ := zGB.fr hsN46_ c39_ (by decide) (by decide)
              have c48_ : zTab T N46_ := zTab.fr hsN46_ c40_ (by decide) (by decide)
              have c49_ : zB 85 144 0 5 N46_ := zB.fr hsN46_ c41_ (by decide) (by decide)
              have c50_ : zJX T N46_ := zJX.fr hsN46_ c42_ (by decide) (by decide)
              have c51_ : zFirs T N46_ := zFirs.fr hsN46_ c43_ (by decide) (by decide)
              have c52_ : zSSm T N46_ := zSSm.fr hsN46_ c44_ (by decide) (by decide)
              have c53_ : zGD N46_ := zGD.fr hsN46_ c45_ (by decide) (by decide)
              have hns_ := zMl_s hO hX hFi_ (show zMl T a0_ N13_ u12_ by assumption) (by omega) (by omega) (by omega) (by omega) (F := (ze Mz 91 (a0_).toNat)) (by omega) hnt_ (by omega) hLC_ (by omega) (by omega) hgl_ hN38_ hsN46_ (by omega)
              have hms_ := zMss_s (show zMss T (gFn T (a0_).toNat) N13_ u12_ by assumption) (by omega) (by rw [← hH_]; exact hnt_) (by rw [← hH_]; omega) hgs_ hN38_ ⟨by omega, by omega⟩ hsN46_ (by omega) (by omega)
              refine zr_iinc (pc := 87) (i := 4) (a := u12_) (n := 1) (L2 := [some (.ref 81), some (.int (Int32.ofInt a0_)), some (.int (Int32.ofInt (ze Mz 91 (a0_).toNat))), some (.int (Int32.ofInt v3_)), some (.int (Int32.ofInt (u12_ + 1)))]) rfl (by decide) rfl d_M_laysMade_87 ?_
              refine zw_goto (pc := 90) (tgt := 21) (by decide) d_M_laysMade_90 ?_
              exact ih_21 (u12_ + 1) (by omega) (by omega) N46_ hb0_N46_ (show 0 ≤ (u12_ + 1) by first | assumption | omega) (show zMl T a0_ N46_ (u12_ + 1) by exact hns_) (show (u12_ + 1) ≤ ze Mz 81 20 by first | assumption | omega) (show 0 ≤ ze N46_ 81 55 by first | assumption | omega) (show ze N46_ 81 55 ≤ (u12_ + 1) by first | assumption | omega) (show zMss T (gFn T (a0_).toNat) N46_ (u12_ + 1) by first | exact hms_ | exact hmn_) (by omega)
            · skip
              have hns_ := zMl_n hO hX (show zMl T a0_ N13_ u12_ by assumption) (by omega) (by omega) (by omega) (F := (ze Mz 91 (a0_).toNat)) (by omega) (Or.inr (by omega))
              have hmn_ := zMss_n hms0_ (by omega) (Or.inr (by rw [← hH_]; omega))
              refine zw_goto (pc := 51) (tgt := 87) (by decide) d_M_laysMade_51 ?_
              refine zr_iinc (pc := 87) (i := 4) (a := u12_) (n := 1) (L2 := [some (.ref 81), some (.int (Int32.ofInt a0_)), some (.int (Int32.ofInt (ze Mz 91 (a0_).toNat))), some (.int (Int32.ofInt v3_)), some (.int (Int32.ofInt (u12_ + 1)))]) rfl (by decide) rfl d_M_laysMade_87 ?_
              refine zw_goto (pc := 90) (tgt := 21) (by decide) d_M_laysMade_90 ?_
              exact ih_21 (u12_ + 1) (by omega) (by omega) N13_ hs14_ (show 0 ≤ (u12_ + 1) by first | assumption | omega) (show zMl T a0_ N13_ (u12_ + 1) by exact hns_) (show (u12_ + 1) ≤ ze Mz 81 20 by first | assumption | omega) (show 0 ≤ ze N13_ 81 55 by first | assumption | omega) (show ze N13_ 81 55 ≤ (u12_ + 1) by first | assumption | omega) (show zMss T (gFn T (a0_).toNat) N13_ (u12_ + 1) by first | exact hms_ | exact hmn_) (by omega)
        · skip
          have hns_ := zMl_n hO hX (show zMl T a0_ N13_ u12_ by assumption) (by omega) (by omega) (by omega) (F := (ze Mz 91 (a0_).toNat)) (by omega) (Or.inl (fun e => ha33_0_hp0_N28_ ((hnm_ (u12_).toNat (by omega)).mpr e)))
          have hmn_ := zMss_n hms0_ (by omega) (Or.inl (fun e => ha33_0_hp0_N28_ ((hnm_ (u12_).toNat (by omega)).mpr (by rw [hH_]; exact e))))
          show zW l m_M_laysMade (zn Mz + 0, zw Mz + 0) N13_ 36 [some (.ref 81), some (.int (Int32.ofInt a0_)), some (.int (Int32.ofInt (ze Mz 91 (a0_).toNat))), some (.int (Int32.ofInt v3_)), some (.int (Int32.ofInt u12_))] [.int (Int32.ofInt 0)] (zpV [55] [109] Mz (fun N => zMq T a0_ N ∧ 1 ≤ ze N 81 55 ∧ ze N 81 55 ≤ 24 ∧ zMss T (gFn T (a0_).toNat) N (gN T : Int)))
          refine zr_if_eq (pc := 36) (tgt := 87) ⟨(by decide), (by decide)⟩ (by decide) d_M_laysMade_36 (fun hc_36 => ?_) (fun hc_36 => ?_)
          · skip
            refine zr_iinc (pc := 87) (i := 4) (a := u12_) (n := 1) (L2 := [some (.ref 81), some (.int (Int32.ofInt a0_)), some (.int (Int32.ofInt (ze Mz 91 (a0_).toNat))), some (.int (Int32.ofInt v3_)), some (.int (Int32.ofInt (u12_ + 1)))]) rfl (by decide) rfl d_M_laysMade_87 ?_
            refine zw_goto (pc := 90) (tgt := 21) (by decide) d_M_laysMade_90 ?_
            exact ih_21 (u12_ + 1) (by omega) (by omega) N13_ hs14_ (show 0 ≤ (u12_ + 1) by first | assumption | omega) (show zMl T a0_ N13_ (u12_ + 1) by exact hns_) (show (u12_ + 1) ≤ ze Mz 81 20 by first | assumption | omega) (show 0 ≤ ze N13_ 81 55 by first | assumption | omega) (show ze N13_ 81 55 ≤ (u12_ + 1) by first | assumption | omega) (show zMss T (gFn T (a0_).toNat) N13_ (u12_ + 1) by first | exact hms_ | exact hmn_) (by omega)
          · skip
            exact absurd hc_36 (by decide)
  exact lp_21 _ 0 (by decide) (by decide) N4_ zFr.rf (show 0 ≤ (0 : Int) by first | assumption | omega) (show zMl T a0_ N4_ (0 : Int) by exact zMl_0 (by omega)) (show (0 : Int) ≤ ze Mz 81 20 by first | assumption | omega) (show 0 ≤ ze N4_ 81 55 by first | assumption | omega) (show ze N4_ 81 55 ≤ (0 : Int) by first | assumption | omega) (show zMss T (gFn T (a0_).toNat) N4_ (0 : Int) by exact zMss_0 (by omega)) (Nat.lt_succ_self _)
set_option maxHeartbeats 4000000 in
theorem c_M_congruenceOf_99S (l : Launch) (Mz : zMem) (hW : zMt Mz) (a1_ : Int) (ha1_a : -2147483648 ≤ a1_) (ha1_b : a1_ < 2147483648) (T : zGT) (hO : gOK T) (hX : gEx T) (p0_ : zGB T Mz) (p1_ : 0 ≤ a1_) (p2_ : a1_ < ze Mz 81 26) : zC l m_M_congruenceOf 0 0 [.ref 81, .ref 99, .int (Int32.ofInt a1_)] Mz (zpJ [55] [109] Mz (fun v N => Int64.ofInt v = Int64.ofInt (zsm (zmi T (gFn T (a1_).toNat) (zcgF T (gFn T (a1_).toNat) (fun j_ => zg Mz 99 j_))) (gN T)) ∧ ze N 81 55 = ((gmm T (gFn T (a1_).toNat) : Nat) : Int) ∧ 1 ≤ ze N 81 55 ∧ ze N 81 55 ≤ 24)) := by
  refine zC_of (L0 := [some (.ref 81), some (.ref 99), some (.int (Int32.ofInt a1_)), none, none, none]) md_M_congruenceOf (Nat.le_of_ble_eq_true rfl) rfl ?_ zQ0
  have hf : zFr [55] [109] Mz Mz := zFr.rf
  have r_26 := ze_r Mz 81 26
  have r_55 := ze_r Mz 81 55
  have hG := hO.1
  have g24 := hG.2.1
  have g1 := hG.1
  have dv0 : zTab T Mz := p0_.1
  have dv1 : zB 85 144 0 5 Mz := p0_.2.1
  have dv2 : zJX T Mz := p0_.2.2.1
  have dv3 : zFirs T Mz := p0_.2.2.2.1
  have dv4 : zSSm T Mz := p0_.2.2.2.2.1
  have dv5 : zGD Mz := zGB.d hO p0_
  have gb := dv5.1
  have gn := dv0.1
  have gfl := dv3.1
  have gf6 := gF_pos hO
  have gxl := hX.2.1
  refine zw_aload_n (pc := 0) (n := 0) (x := 81) rfl d_M_congruenceOf_0 ?_
  refine zw_iload_n (pc := 1) (n := 2) (x := Int32.ofInt a1_) rfl d_M_congruenceOf_1 ?_
  refine zr_callV (hf.w hW) hf.x (pc := 2) [.int (Int32.ofInt a1_)] [] l_M_456 (c_M_laysMadeS l Mz (hf.w hW) a1_ ha1_a ha1_b T hO hX p0_ (show 0 ≤ a1_ by first | assumption | omega) (show a1_ < ze Mz 81 26 by first | assumption | omega)) rfl rfl rfl (by decide) (Nat.le_of_ble_eq_true rfl) d_M_congruenceOf_2 ?_
  rintro _ N1_ ⟨rfl, hsN1_, ⟨hp0_N1_, hp1_N1_, hp2_N1_, hp3_N1_⟩⟩
  have hf_N1_ : zFr [55] [109] Mz N1_ := hf.tr hsN1_ (by decide) (by decide)
  have e26_N1_ : ze N1_ 81 26 = ze Mz 81 26 := hsN1_.e (by decide)
  have r55_N1_ := ze_r N1_ 81 55
  have c3_ : zGB T N1_ := zGB.fr hsN1_ p0_ (by decide) (by decide)
  have c4_ : zTab T N1_ := zTab.fr hsN1_ dv0 (by decide) (by decide)
  have c5_ : zB 85 144 0 5 N1_ := zB.fr hsN1_ dv1 (by decide) (by decide)
  have c6_ : zJX T N1_ := zJX.fr hsN1_ dv2 (by decide) (by decide)
  have c7_ : zFirs T N1_ := zFirs.fr hsN1_ dv3 (by decide) (by decide)
  have c8_ : zSSm T N1_ := zSSm.fr hsN1_ dv4 (by decide) (by decide)
  have c9_ : zGD N1_ := zGD.fr hsN1_ dv5 (by decide) (by decide)
  show zW l m_M_congruenceOf (zn Mz + 0, zw Mz + 0) N1_ 5 [some (.ref 81), some (.ref 99), some (.int (Int32.ofInt a1_)), none, none, none] [] (zpJ [55] [109] Mz (fun v N => Int64.ofInt v = Int64.ofInt (zsm (zmi T (gFn T (a1_).toNat) (zcgF T (gFn T (a1_).toNat) (fun j_ => zg Mz 99 j_))) (gN T)) ∧ ze N 81 55 = ((gmm T (gFn T (a1_).toNat) : Nat) : Int) ∧ 1 ≤ ze N 81 55 ∧ ze N 81 55 ≤ 24))
  have hmq_ := hp0_N1_
  have hmr_ := hmq_.2.1
  have hm55_ := hmq_.1.1
  have hms_ := hp3_N1_
  refine zw_lconst (pc := 5) (v := Int64.ofInt 0) (by decide) d_M_congruenceOf_5 ?_
  refine zw_lstore_n (pc := 6) (i := 3) (L2 := [some (.ref 81), some (.ref 99), some (.int (Int32.ofInt a1_)), some (.long (Int64.ofInt 0)), none, none]) rfl (by decide) rfl d_M_congruenceOf_6 ?_
  refine zw_iconst (pc := 7) (v := Int32.ofInt 0) (by decide) d_M_congruenceOf_7 ?_
  refine zw_istore (pc := 8) (i := 5) (L2 := [some (.ref 81), some (.ref 99), some (.int (Int32.ofInt a1_)), some (.long (Int64.ofInt 0)), none, some (.int (Int32.ofInt 0))]) (by decide) rfl d_M_congruenceOf_8 ?_
  have lp_10 : ∀ (n : Nat) (u10_ : Int) (hu10_a : -9223372036854775808 ≤ u10_) (hu10_b : u10_ < 9223372036854775808) (u11_ : Int) (hu11_a : -2147483648 ≤ u11_) (hu11_b : u11_ < 2147483648) (i12_ : 0 ≤ u11_) (i13_ : u11_ ≤ ze N1_ 81 55) (i14_ : Int64.ofInt u10_ = Int64.ofInt (zsm (fun k_ => zg Mz 99 (ze N1_ 109 k_).toNat) (u11_).toNat)), (ze N1_ 81 55 - u11_).toNat < n → zW l m_M_congruenceOf (zn Mz + 0, zw Mz + 0) N1_ 10 [some (.ref 81), some (.ref 99), some (.int (Int32.ofInt a1_)), some (.long (Int64.ofInt u10_)), none, some (.int (Int32.ofInt u11_))] [] (zpJ [55] [109] Mz (fun v N => Int64.ofInt v = Int64.ofInt (zsm (zmi T (gFn T (a1_).toNat) (zcgF T (gFn T (a1_).toNat) (fun j_ => zg Mz 99 j_))) (gN T)) ∧ ze N 81 55 = ((gmm T (gFn T (a1_).toNat) : Nat) : Int) ∧ 1 ≤ ze N 81 55 ∧ ze N 81 55 ≤ 24)) := by
    intro n
    induction n with
    | zero =>
      intro u10_ hu10_a hu10_b u11_ hu11_a hu11_b i12_ i13_ i14_ h0
      exact absurd h0 (Nat.not_lt_zero _)
    | succ n ih_10 =>
      intro u10_ hu10_a hu10_b u11_ hu11_a hu11_b i12_ i13_ i14_ hlt_10
      have hci_ := (show Int64.ofInt u10_ = Int64.ofInt (zsm (fun k_ => zg Mz 99 (ze N1_ 109 k_).toNat) (u11_).toNat) by assumption)
      refine zw_iload (pc := 10) (i := 5) (x := Int32.ofInt u11_) rfl d_M_congruenceOf_10 ?_
      refine zw_aload_n (pc := 12) (n := 0) (x := 81) rfl d_M_congruenceOf_12 ?_
      refine zr_getI (hf_N1_.w hW) (pc := 13) f_M_453 rfl d_M_congruenceOf_13 ?_
      refine zr_icmp_ge (pc := 16) (tgt := 37) ⟨hu11_a, hu11_b⟩ ⟨(ze_r N1_ 81 55).1, (ze_r N1_ 81 55).2⟩ (by decide) d_M_congruenceOf_16 (fun hc_16 => ?_) (fun hc_16 => ?_)
      · skip
        refine zw_lload_n (pc := 37) (n := 3) (x := Int64.ofInt u10_) rfl d_M_congruenceOf_37 ?_
        exact zr_lret (pc := 38) rfl ⟨by omega, by omega⟩ hf_N1_ ⟨(show Int64.ofInt u10_ = Int64.ofInt (zsm (zmi T (gFn T (a1_).toNat) (zcgF T (gFn T (a1_).toNat) (fun j_ => zg Mz 99 j_))) (gN T)) by have h_ := hci_; rw [show (u11_).toNat = (ze N1_ 81 55).toNat by omega, hms_.2 (fun j_ => zg Mz 99 j_), Int.toNat_natCast] at h_; exact h_), (show ze N1_ 81 55 = ((gmm T (gFn T (a1_).toNat) : Nat) : Int) by exact hm55_), (show 1 ≤ ze N1_ 81 55 by first | assumption | omega), (show ze N1_ 81 55 ≤ 24 by first | assumption | omega)⟩ d_M_congruenceOf_38
      · skip
        refine zw_lload_n (pc := 19) (n := 3) (x := Int64.ofInt u10_) rfl d_M_congruenceOf_19 ?_
        refine zw_aload_n (pc := 20) (n := 1) (x := 99) rfl d_M_congruenceOf_20 ?_
        refine zw_aload_n (pc := 21) (n := 0) (x := 81) rfl d_M_congruenceOf_21 ?_
        refine zr_getF (r := 109) (hf_N1_.w hW) (pc := 22) f_M_99 rfl (zh_109 (hf_N1_.w hW)).1 d_M_congruenceOf_22 ?_
        refine zw_iload (pc := 25) (i := 5) (x := Int32.ofInt u11_) rfl d_M_congruenceOf_25 ?_
        refine zr_ialdn (pc := 27) (zh_109 (hf_N1_.w hW)).2 (by decide) (by omega) (by omega) d_M_congruenceOf_27 (fun v15_ hv15_ hv15_a hv15_b => ?_)
        have hmx_ := hmr_ (u11_).toNat (by omega)
        have hix_ := hv15_
        refine zr_laldn (pc := 28) (zh_99 (hf_N1_.w hW)).2 (by decide) (by omega) (by omega) d_M_congruenceOf_28 (fun v16_ hv16_ hv16_a hv16_b => ?_)
        rw [hf_N1_.jg (by decide) (by decide)] at hv16_
        have hx_ := hv16_
        rw [hix_] at hx_
        refine zr_ladd (pc := 29) d_M_congruenceOf_29 ?_
        refine zk_nmJ (fun v17_ hv17_ hv17_e => ?_)
        obtain ⟨hv17_a, hv17_b⟩ := hv17_
        have hcn_ := zsm_s64 (f := fun k_ => zg Mz 99 (ze N1_ 109 k_).toNat) hci_ hv17_e hx_ (by omega)
        refine zw_lstore_n (pc := 30) (i := 3) (L2 := [some (.ref 81), some (.ref 99), some (.int (Int32.ofInt a1_)), some (.long (Int64.ofInt v17_)), none, some (.int (Int32.ofInt u11_))]) rfl (by decide) rfl d_M_congruenceOf_30 ?_
        refine zr_iinc (pc := 31) (i := 5) (a := u11_) (n := 1) (L2 := [some (.ref 81), some (.ref 99), some (.int (Int32.ofInt a1_)), some (.long (Int64.ofInt v17_)), none, some (.int (Int32.ofInt (u11_ + 1)))]) rfl (by decide) rfl d_M_congruenceOf_31 ?_
        refine zw_goto (pc := 34) (tgt := 10) (by decide) d_M_congruenceOf_34 ?_
        exact ih_10 v17_ hv17_a hv17_b (u11_ + 1) (by omega) (by omega) (show 0 ≤ (u11_ + 1) by first | assumption | omega) (show (u11_ + 1) ≤ ze N1_ 81 55 by first | assumption | omega) (show Int64.ofInt v17_ = Int64.ofInt (zsm (fun k_ => zg Mz 99 (ze N1_ 109 k_).toNat) ((u11_ + 1)).toNat) by exact hcn_) (by omega)
  exact lp_10 _ 0 (by decide) (by decide) 0 (by decide) (by decide) (show 0 ≤ (0 : Int) by first | assumption | omega) (show (0 : Int) ≤ ze N1_ 81 55 by first | assumption | omega) (show Int64.ofInt (0 : Int) = Int64.ofInt (zsm (fun k_ => zg Mz 99 (ze N1_ 109 k_).toNat) ((0 : Int)).toNat) by rfl) (Nat.lt_succ_self _)
