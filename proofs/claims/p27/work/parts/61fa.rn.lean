set_option maxHeartbeats 40000000 in
theorem c_M_makesN (l : Launch) (Mz : zMem) (hW : zMt Mz) (T : zGT) (hO : gOK T) (hTt : T ∈ gTabs) (b_ : Nat → Int) (n_ : Nat) (nm_ : List (Int × (Nat → Int))) (p0_ : zGB T Mz) (p1_ : zRp b_ n_ Mz) (p2_ : zRNm nm_ (gF T).length (gmkI T) b_ n_ Mz) (p3_ : 0 ≤ ze Mz 81 60) (p4_ : ze Mz 81 60 ≤ 12) : zC l m_M_makes 0 0 [.ref 81] Mz (zpI [1, 2, 3, 4, 5, 6, 7, 8, 9, 10, 11, 38, 39, 41, 42, 43, 60] [95, 96, 97, 98, 100, 111] Mz (fun v N => ze N 81 1 = 0 ∧ 0 ≤ ze N 81 60 ∧ ze N 81 60 ≤ 12 ∧ (((v = -1 ∧ (¬ ∃ w_ : Nat → Int, zMkR b_ n_ (gF T).length (gmkI T) nm_ w_) ∧ (∀ j : Nat, zg N 98 j = zg Mz 98 j) ∧ ze N 81 60 = ze Mz 81 60) ∨ ∃ w_ : Nat → Int, zMkR b_ n_ (gF T).length (gmkI T) nm_ w_ ∧ zfit (gF T).length (gmkI T) w_ ∧ ∀ i : Nat, i < (gF T).length → zg N 98 i = w_ i)))) := by
  refine zC_of (L0 := [some (.ref 81), none]) md_M_makes (Nat.le_of_ble_eq_true rfl) rfl ?_ zQ0
  have hf : zFr [1, 2, 3, 4, 5, 6, 7, 8, 9, 10, 11, 38, 39, 41, 42, 43, 60] [95, 96, 97, 98, 100, 111] Mz Mz := zFr.rf
  have r_1 := ze_r Mz 81 1
  have r_3 := ze_r Mz 81 3
  have r_4 := ze_r Mz 81 4
  have r_5 := ze_r Mz 81 5
  have r_7 := ze_r Mz 81 7
  have r_14 := ze_r Mz 81 14
  have r_26 := ze_r Mz 81 26
  have r_38 := ze_r Mz 81 38
  have r_39 := ze_r Mz 81 39
  have r_41 := ze_r Mz 81 41
  have r_42 := ze_r Mz 81 42
  have r_43 := ze_r Mz 81 43
  have r_60 := ze_r Mz 81 60
  have hG := hO.1
  have g24 := hG.2.1
  have g1 := hG.1
  have dv0 : zTab T Mz := p0_.1
  have dv1 : zB 85 144 0 5 Mz := p0_.2.1
  have dv2 : zJX T Mz := p0_.2.2.1
  have dv3 : zFirs T Mz := p0_.2.2.2.1
  have dv4 : zSSm T Mz := p0_.2.2.2.2.1
  have dv5 : zGD Mz := zGB.d hO p0_
  have dv6 : zRmk (gF T).length (gmkI T) Mz := p0_.rm
  have gb := dv5.1
  have gn := dv0.1
  have hRm_ := p0_.rm
  have hs26_ := dv3.1
  obtain ⟨hF1_, hF27_⟩ := id (gT_zTA hTt).1
  refine zw_aload_n (pc := 0) (n := 0) (x := 81) rfl (zdal_p dlD_M_makes_106 (i := 0) rfl) ?_
  refine zr_callV (hf.w hW) hf.x (pc := 1) [] [] l_M_367 (c_M_beginsF l Mz (hf.w hW) b_ n_ p1_) rfl rfl rfl (by decide) (Nat.le_of_ble_eq_true rfl) (zdal_p dlD_M_makes_106 (i := 1) rfl) ?_
  rintro _ N1_ ⟨rfl, hsN1_, ⟨hp0_N1_, hp1_N1_, hp2_N1_, hp3_N1_, hp4_N1_⟩⟩
  have hf_N1_ : zFr [1, 2, 3, 4, 5, 6, 7, 8, 9, 10, 11, 38, 39, 41, 42, 43, 60] [95, 96, 97, 98, 100, 111] Mz N1_ := hf.tr hsN1_ (by decide) (by decide)
  have r1_N1_ := ze_r N1_ 81 1
  have r3_N1_ := ze_r N1_ 81 3
  have r4_N1_ := ze_r N1_ 81 4
  have r5_N1_ := ze_r N1_ 81 5
  have r7_N1_ := ze_r N1_ 81 7
  have e14_N1_ : ze N1_ 81 14 = ze Mz 81 14 := hsN1_.e (by decide)
  have e26_N1_ : ze N1_ 81 26 = ze Mz 81 26 := hsN1_.e (by decide)
  have e38_N1_ : ze N1_ 81 38 = ze Mz 81 38 := hsN1_.e (by decide)
  have e39_N1_ : ze N1_ 81 39 = ze Mz 81 39 := hsN1_.e (by decide)
  have e41_N1_ : ze N1_ 81 41 = ze Mz 81 41 := hsN1_.e (by decide)
  have e42_N1_ : ze N1_ 81 42 = ze Mz 81 42 := hsN1_.e (by decide)
  have e43_N1_ : ze N1_ 81 43 = ze Mz 81 43 := hsN1_.e (by decide)
  have e60_N1_ : ze N1_ 81 60 = ze Mz 81 60 := hsN1_.e (by decide)
  have qzr98_N1_ : zr98 N1_ = zr98 Mz := zr98_f hsN1_ (by decide)
  have qzr95_N1_ : zr95 N1_ = zr95 Mz := zr95_f hsN1_ (by decide)
  have c3_ : zGB T N1_ := zGB.fr hsN1_ p0_ (by decide) (by decide)
  have c4_ : zRNm nm_ (gF T).length (gmkI T) b_ n_ N1_ := zRNm.fr hsN1_ p2_ (by decide) (by decide)
  have c5_ : zTab T N1_ := zTab.fr hsN1_ dv0 (by decide) (by decide)
  have c6_ : zB 85 144 0 5 N1_ := zB.fr hsN1_ dv1 (by decide) (by decide)
  have c7_ : zJX T N1_ := zJX.fr hsN1_ dv2 (by decide) (by decide)
  have c8_ : zFirs T N1_ := zFirs.fr hsN1_ dv3 (by decide) (by decide)
  have c9_ : zSSm T N1_ := zSSm.fr hsN1_ dv4 (by decide) (by decide)
  have c10_ : zGD N1_ := zGD.fr hsN1_ dv5 (by decide) (by decide)
  have c11_ : zRmk (gF T).length (gmkI T) N1_ := zRmk.fr hsN1_ dv6 (by decide) (by decide)
  show zW l m_M_makes (zn Mz + 0, zw Mz + 0) N1_ 4 [some (.ref 81), none] [] _
  have hs0_ : (ze N1_ 81 4).toNat = (zru zpB b_ n_ 0) := by have h_ := hp2_N1_; omega
  refine zw_aload_n (pc := 4) (n := 0) (x := 81) rfl (zdal_p dlD_M_makes_106 (i := 2) rfl) ?_
  refine zr_callV (hf_N1_.w hW) hf_N1_.x (pc := 5) [] [] l_M_358 (c_M_formulaF l N1_ (hf_N1_.w hW) (gF T).length (gmkI T) (gT_zTA hTt) b_ n_ nm_ c11_ hp0_N1_ hp1_N1_ c4_ (show 0 ≤ ze N1_ 81 7 by first | assumption | omega)) rfl rfl rfl (by decide) (Nat.le_of_ble_eq_true rfl) (zdal_p dlD_M_makes_106 (i := 3) rfl) ?_
  rintro _ N12_ ⟨rfl, hsN12_, ⟨hp0_N12_, hp1_N12_⟩⟩
  have hf_N12_ : zFr [1, 2, 3, 4, 5, 6, 7, 8, 9, 10, 11, 38, 39, 41, 42, 43, 60] [95, 96, 97, 98, 100, 111] Mz N12_ := hf_N1_.tr hsN12_ (by decide) (by decide)
  have e1_N12_ : ze N12_ 81 1 = ze N1_ 81 1 := hsN12_.e (by decide)
  have r3_N12_ := ze_r N12_ 81 3
  have r4_N12_ := ze_r N12_ 81 4
  have r5_N12_ := ze_r N12_ 81 5
  have r7_N12_ := ze_r N12_ 81 7
  have e14_N12_ : ze N12_ 81 14 = ze N1_ 81 14 := hsN12_.e (by decide)
  have e26_N12_ : ze N12_ 81 26 = ze N1_ 81 26 := hsN12_.e (by decide)
  have r38_N12_ := ze_r N12_ 81 38
  have r39_N12_ := ze_r N12_ 81 39
  have r41_N12_ := ze_r N12_ 81 41
  have r42_N12_ := ze_r N12_ 81 42
  have r43_N12_ := ze_r N12_ 81 43
  have e60_N12_ : ze N12_ 81 60 = ze N1_ 81 60 := hsN12_.e (by decide)
  have qzr98_N12_ : zr98 N12_ = zr98 N1_ := zr98_f hsN12_ (by decide)
  have c14_ : zGB T N12_ := zGB.fr hsN12_ c3_ (by decide) (by decide)
  have c15_ : zRNm nm_ (gF T).length (gmkI T) b_ n_ N12_ := zRNm.fr hsN12_ c4_ (by decide) (by decide)
  have c16_ : zTab T N12_ := zTab.fr hsN12_ c5_ (by decide) (by decide)
  have c17_ : zB 85 144 0 5 N12_ := zB.fr hsN12_ c6_ (by decide) (by decide)
  have c18_ : zJX T N12_ := zJX.fr hsN12_ c7_ (by decide) (by decide)
  have c19_ : zFirs T N12_ := zFirs.fr hsN12_ c8_ (by decide) (by decide)
  have c20_ : zSSm T N12_ := zSSm.fr hsN12_ c9_ (by decide) (by decide)
  have c21_ : zGD N12_ := zGD.fr hsN12_ c10_ (by decide) (by decide)
  have c22_ : zRmk (gF T).length (gmkI T) N12_ := zRmk.fr hsN12_ c11_ (by decide) (by decide)
  have c23_ : zRb b_ n_ N12_ := zRb.fr hsN12_ hp0_N1_ (by decide) (by decide)
  rcases hp1_N12_ with ⟨ha5_0_hp1_N12_, ha5_1_hp1_N12_⟩ | ⟨ha5_0_hp1_N12_, ha5_1_hp1_N12_, ha5_2_hp1_N12_, ha5_3_hp1_N12_, ha5_4_hp1_N12_, ha5_5_hp1_N12_⟩
  · skip
    have hre_ := ha5_1_hp1_N12_ (by omega)
    rw [hs0_] at hre_
    have hno_ : (¬ ∃ w_ : Nat → Int, zMkR b_ n_ (gF T).length (gmkI T) nm_ w_) := by rintro ⟨w_, q_, un_, e_, -⟩; unfold zMkT at e_; rw [zfe_s hre_ zfs_F] at e_; cases e_
    show zW l m_M_makes (zn Mz + 0, zw Mz + 0) N12_ 8 [some (.ref 81), none] [] _
    refine zw_aload_n (pc := 8) (n := 0) (x := 81) rfl (zdal_p dlD_M_makes_106 (i := 4) rfl) ?_
    refine zr_callV (hf_N12_.w hW) hf_N12_.x (pc := 9) [] [] l_M_183 (c_M_isGood l N12_ (hf_N12_.w hW) ) rfl rfl rfl (by decide) (Nat.le_of_ble_eq_true rfl) (zdal_p dlD_M_makes_106 (i := 5) rfl) ?_
    rintro _ N24_ ⟨v25_, rfl, ⟨hv25_a, hv25_b⟩, hsN24_, hp0_N24_⟩
    obtain rfl := hsN24_.eq.symm
    replace hp0_N24_ : ((v25_ = 1 ∧ ze N12_ 81 7 = 0) ∨ (v25_ = 0 ∧ ze N12_ 81 7 ≠ 0)) := hp0_N24_
    rcases hp0_N24_ with ⟨rfl, ha9_0_hp0_N24_⟩ | ⟨rfl, ha9_0_hp0_N24_⟩
    · skip
      exfalso; omega
    · skip
      show zW l m_M_makes (zn Mz + 0, zw Mz + 0) N12_ 12 [some (.ref 81), none] [.int (Int32.ofInt 0)] _
      refine zr_if_eq (pc := 12) (tgt := 27) ⟨(by decide), (by decide)⟩ (by decide) (zdal_p dlD_M_makes_106 (i := 6) rfl) (fun hc_12 => ?_) (fun hc_12 => ?_)
      · skip
        refine zw_aload_n (pc := 27) (n := 0) (x := 81) rfl (zdal_p dlD_M_makes_106 (i := 13) rfl) ?_
        refine zr_callV (hf_N12_.w hW) hf_N12_.x (pc := 28) [] [] l_M_183 (c_M_isGood l N12_ (hf_N12_.w hW) ) rfl rfl rfl (by decide) (Nat.le_of_ble_eq_true rfl) (zdal_p dlD_M_makes_106 (i := 14) rfl) ?_
        rintro _ N26_ ⟨v27_, rfl, ⟨hv27_a, hv27_b⟩, hsN26_, hp0_N26_⟩
        obtain rfl := hsN26_.eq.symm
        replace hp0_N26_ : ((v27_ = 1 ∧ ze N12_ 81 7 = 0) ∨ (v27_ = 0 ∧ ze N12_ 81 7 ≠ 0)) := hp0_N26_
        rcases hp0_N26_ with ⟨rfl, ha28_0_hp0_N26_⟩ | ⟨rfl, ha28_0_hp0_N26_⟩
        · skip
          exfalso; omega
        · skip
          show zW l m_M_makes (zn Mz + 0, zw Mz + 0) N12_ 31 [some (.ref 81), none] [.int (Int32.ofInt 0)] _
          refine zr_if_eq (pc := 31) (tgt := 48) ⟨(by decide), (by decide)⟩ (by decide) (zdal_p dlD_M_makes_106 (i := 15) rfl) (fun hc_31 => ?_) (fun hc_31 => ?_)
          · skip
            refine zw_aload_n (pc := 48) (n := 0) (x := 81) rfl (zdal_p dlD_M_makes_106 (i := 23) rfl) ?_
            refine zr_callV (hf_N12_.w hW) hf_N12_.x (pc := 49) [] [] l_M_373 (c_M_tells l N12_ (hf_N12_.w hW) ) rfl rfl rfl (by decide) (Nat.le_of_ble_eq_true rfl) (zdal_p dlD_M_makes_107 (i := 0) rfl) ?_
            rintro _ N28_ ⟨rfl, hsN28_, -⟩
            have hf_N28_ : zFr [1, 2, 3, 4, 5, 6, 7, 8, 9, 10, 11, 38, 39, 41, 42, 43, 60] [95, 96, 97, 98, 100, 111] Mz N28_ := hf_N12_.tr hsN28_ (by decide) (by decide)
            have e1_N28_ : ze N28_ 81 1 = ze N12_ 81 1 := hsN28_.e (by decide)
            have e3_N28_ : ze N28_ 81 3 = ze N12_ 81 3 := hsN28_.e (by decide)
            have e4_N28_ : ze N28_ 81 4 = ze N12_ 81 4 := hsN28_.e (by decide)
            have e5_N28_ : ze N28_ 81 5 = ze N12_ 81 5 := hsN28_.e (by decide)
            have e7_N28_ : ze N28_ 81 7 = ze N12_ 81 7 := hsN28_.e (by decide)
            have e14_N28_ : ze N28_ 81 14 = ze N12_ 81 14 := hsN28_.e (by decide)
            have e26_N28_ : ze N28_ 81 26 = ze N12_ 81 26 := hsN28_.e (by decide)
            have e38_N28_ : ze N28_ 81 38 = ze N12_ 81 38 := hsN28_.e (by decide)
            have e39_N28_ : ze N28_ 81 39 = ze N12_ 81 39 := hsN28_.e (by decide)
            have e41_N28_ : ze N28_ 81 41 = ze N12_ 81 41 := hsN28_.e (by decide)
            have e42_N28_ : ze N28_ 81 42 = ze N12_ 81 42 := hsN28_.e (by decide)
            have e43_N28_ : ze N28_ 81 43 = ze N12_ 81 43 := hsN28_.e (by decide)
            have e60_N28_ : ze N28_ 81 60 = ze N12_ 81 60 := hsN28_.e (by decide)
            have qzr98_N28_ : zr98 N28_ = zr98 N12_ := zr98_f hsN28_ (by decide)
            have qzr95_N28_ : zr95 N28_ = zr95 N12_ := zr95_f hsN28_ (by decide)
            have c30_ : zGB T N28_ := zGB.fr hsN28_ c14_ (by decide) (by decide)
            have c31_ : zRNm nm_ (gF T).length (gmkI T) b_ n_ N28_ := zRNm.fr hsN28_ c15_ (by decide) (by decide)
            have c32_ : zTab T N28_ := zTab.fr hsN28_ c16_ (by decide) (by decide)
            have c33_ : zB 85 144 0 5 N28_ := zB.fr hsN28_ c17_ (by decide) (by decide)
            have c34_ : zJX T N28_ := zJX.fr hsN28_ c18_ (by decide) (by decide)
            have c35_ : zFirs T N28_ := zFirs.fr hsN28_ c19_ (by decide) (by decide)
            have c36_ : zSSm T N28_ := zSSm.fr hsN28_ c20_ (by decide) (by decide)
            have c37_ : zGD N28_ := zGD.fr hsN28_ c21_ (by decide) (by decide)
            have c38_ : zRmk (gF T).length (gmkI T) N28_ := zRmk.fr hsN28_ c22_ (by decide) (by decide)
            have c39_ : zRb b_ n_ N28_ := zRb.fr hsN28_ c23_ (by decide) (by decide)
            have c40_ : zRt b_ n_ N28_ := zRt.fr hsN28_ hp0_N12_ (by decide) (by decide)
            show zW l m_M_makes (zn Mz + 0, zw Mz + 0) N28_ 52 [some (.ref 81), none] [] _
            refine zw_aload_n (pc := 52) (n := 0) (x := 81) rfl (zdal_p dlD_M_makes_107 (i := 1) rfl) ?_
            refine zr_getI (hf_N28_.w hW) (pc := 53) f_M_172 rfl (zdal_p dlD_M_makes_107 (i := 2) rfl) ?_
            refine zr_if_le (pc := 56) (tgt := 61) ⟨(ze_r N28_ 81 7).1, (ze_r N28_ 81 7).2⟩ (by decide) (zdal_p dlD_M_makes_107 (i := 3) rfl) (fun hc_56 => ?_) (fun hc_56 => ?_)
            · skip
              exfalso; omega
            · skip
              refine zw_iconst (pc := 59) (v := Int32.ofInt (-1)) (by decide) (zdal_p dlD_M_makes_107 (i := 4) rfl) ?_
              exact zr_iret (pc := 60) (ty := .int) rfl rfl ⟨by omega, by omega⟩ hf_N28_ ⟨(show ze N28_ 81 1 = 0 by first | assumption | omega), (show 0 ≤ ze N28_ 81 60 by first | assumption | omega), (show ze N28_ 81 60 ≤ 12 by first | assumption | omega), (show ((((-1)) = -1 ∧ (¬ ∃ w_ : Nat → Int, zMkR b_ n_ (gF T).length (gmkI T) nm_ w_) ∧ (∀ j : Nat, zg N28_ 98 j = zg Mz 98 j) ∧ ze N28_ 81 60 = ze Mz 81 60) ∨ ∃ w_ : Nat → Int, zMkR b_ n_ (gF T).length (gmkI T) nm_ w_ ∧ zfit (gF T).length (gmkI T) w_ ∧ ∀ i : Nat, i < (gF T).length → zg N28_ 98 i = w_ i) by first | exact Or.inl ⟨rfl, hno_, fun j => congrFun (qzr98_N28_.trans (qzr98_N12_.trans (qzr98_N1_))) j, by omega⟩ | exact Or.inl ⟨rfl, hno_, fun j => congrFun (qzr98_N28_.trans (qzr98_N12_.trans (qzr98_N1_.trans (qzr98_Mz)))) j, by omega⟩)⟩ (zdal_p dlD_M_makes_107 (i := 5) rfl)
          · skip
            exact absurd hc_31 (by decide)
      · skip
        exact absurd hc_12 (by decide)
  · skip
    have hre_ := ha5_2_hp1_N12_
    rw [hs0_] at hre_
    have hri_ := ha5_3_hp1_N12_
    have hsn_ := ha5_4_hp1_N12_
    have hmt_ : zMkT b_ n_ (gF T).length (gmkI T) nm_ = zRst 3 (gF T).length N12_ := zfe_s hre_ (by unfold zRst; exact zfs_d)
    have hrt_ := hp0_N12_.2.2.1
    show zW l m_M_makes (zn Mz + 0, zw Mz + 0) N12_ 8 [some (.ref 81), none] [] _
    refine zw_aload_n (pc := 8) (n := 0) (x := 81) rfl (zdal_p dlD_M_makes_106 (i := 4) rfl) ?_
    refine zr_callV (hf_N12_.w hW) hf_N12_.x (pc := 9) [] [] l_M_183 (c_M_isGood l N12_ (hf_N12_.w hW) ) rfl rfl rfl (by decide) (Nat.le_of_ble_eq_true rfl) (zdal_p dlD_M_makes_106 (i := 5) rfl) ?_
    rintro _ N41_ ⟨v42_, rfl, ⟨hv42_a, hv42_b⟩, hsN41_, hp0_N41_⟩
    obtain rfl := hsN41_.eq.symm
    replace hp0_N41_ : ((v42_ = 1 ∧ ze N12_ 81 7 = 0) ∨ (v42_ = 0 ∧ ze N12_ 81 7 ≠ 0)) := hp0_N41_
    rcases hp0_N41_ with ⟨rfl, ha9_0_hp0_N41_⟩ | ⟨rfl, ha9_0_hp0_N41_⟩
    · skip
      show zW l m_M_makes (zn Mz + 0, zw Mz + 0) N12_ 12 [some (.ref 81), none] [.int (Int32.ofInt 1)] _
      refine zr_if_eq (pc := 12) (tgt := 27) ⟨(by decide), (by decide)⟩ (by decide) (zdal_p dlD_M_makes_106 (i := 6) rfl) (fun hc_12 => ?_) (fun hc_12 => ?_)
      · skip
        exact absurd hc_12 (by decide)
      · skip
        refine zw_aload_n (pc := 15) (n := 0) (x := 81) rfl (zdal_p dlD_M_makes_106 (i := 7) rfl) ?_
        refine zr_getI (hf_N12_.w hW) (pc := 16) f_M_155 rfl (zdal_p dlD_M_makes_106 (i := 8) rfl) ?_
        refine zr_if_eq (pc := 19) (tgt := 27) ⟨(ze_r N12_ 81 5).1, (ze_r N12_ 81 5).2⟩ (by decide) (zdal_p dlD_M_makes_106 (i := 9) rfl) (fun hc_19 => ?_) (fun hc_19 => ?_)
        · skip
          refine zw_aload_n (pc := 27) (n := 0) (x := 81) rfl (zdal_p dlD_M_makes_106 (i := 13) rfl) ?_
          refine zr_callV (hf_N12_.w hW) hf_N12_.x (pc := 28) [] [] l_M_183 (c_M_isGood l N12_ (hf_N12_.w hW) ) rfl rfl rfl (by decide) (Nat.le_of_ble_eq_true rfl) (zdal_p dlD_M_makes_106 (i := 14) rfl) ?_
          rintro _ N43_ ⟨v44_, rfl, ⟨hv44_a, hv44_b⟩, hsN43_, hp0_N43_⟩
          obtain rfl := hsN43_.eq.symm
          replace hp0_N43_ : ((v44_ = 1 ∧ ze N12_ 81 7 = 0) ∨ (v44_ = 0 ∧ ze N12_ 81 7 ≠ 0)) := hp0_N43_
          rcases hp0_N43_ with ⟨rfl, ha28_0_hp0_N43_⟩ | ⟨rfl, ha28_0_hp0_N43_⟩
          · skip
            show zW l m_M_makes (zn Mz + 0, zw Mz + 0) N12_ 31 [some (.ref 81), none] [.int (Int32.ofInt 1)] _
            refine zr_if_eq (pc := 31) (tgt := 48) ⟨(by decide), (by decide)⟩ (by decide) (zdal_p dlD_M_makes_106 (i := 15) rfl) (fun hc_31 => ?_) (fun hc_31 => ?_)
            · skip
              exact absurd hc_31 (by decide)
            · skip
              refine zw_aload_n (pc := 34) (n := 0) (x := 81) rfl (zdal_p dlD_M_makes_106 (i := 16) rfl) ?_
              refine zr_getI (hf_N12_.w hW) (pc := 35) f_M_275 rfl (zdal_p dlD_M_makes_106 (i := 17) rfl) ?_
              refine zr_if_eq (pc := 38) (tgt := 48) ⟨(ze_r N12_ 81 39).1, (ze_r N12_ 81 39).2⟩ (by decide) (zdal_p dlD_M_makes_106 (i := 18) rfl) (fun hc_38 => ?_) (fun hc_38 => ?_)
              · skip
                refine zw_aload_n (pc := 48) (n := 0) (x := 81) rfl (zdal_p dlD_M_makes_106 (i := 23) rfl) ?_
                refine zr_callV (hf_N12_.w hW) hf_N12_.x (pc := 49) [] [] l_M_373 (c_M_tells l N12_ (hf_N12_.w hW) ) rfl rfl rfl (by decide) (Nat.le_of_ble_eq_true rfl) (zdal_p dlD_M_makes_107 (i := 0) rfl) ?_
                rintro _ N45_ ⟨rfl, hsN45_, -⟩
                have hf_N45_ : zFr [1, 2, 3, 4, 5, 6, 7, 8, 9, 10, 11, 38, 39, 41, 42, 43, 60] [95, 96, 97, 98, 100, 111] Mz N45_ := hf_N12_.tr hsN45_ (by decide) (by decide)
                have e1_N45_ : ze N45_ 81 1 = ze N12_ 81 1 := hsN45_.e (by decide)
                have e3_N45_ : ze N45_ 81 3 = ze N12_ 81 3 := hsN45_.e (by decide)
                have e4_N45_ : ze N45_ 81 4 = ze N12_ 81 4 := hsN45_.e (by decide)
                have e5_N45_ : ze N45_ 81 5 = ze N12_ 81 5 := hsN45_.e (by decide)
                have e7_N45_ : ze N45_ 81 7 = ze N12_ 81 7 := hsN45_.e (by decide)
                have e14_N45_ : ze N45_ 81 14 = ze N12_ 81 14 := hsN45_.e (by decide)
                have e26_N45_ : ze N45_ 81 26 = ze N12_ 81 26 := hsN45_.e (by decide)
                have e38_N45_ : ze N45_ 81 38 = ze N12_ 81 38 := hsN45_.e (by decide)
                have e39_N45_ : ze N45_ 81 39 = ze N12_ 81 39 := hsN45_.e (by decide)
                have e41_N45_ : ze N45_ 81 41 = ze N12_ 81 41 := hsN45_.e (by decide)
                have e42_N45_ : ze N45_ 81 42 = ze N12_ 81 42 := hsN45_.e (by decide)
                have e43_N45_ : ze N45_ 81 43 = ze N12_ 81 43 := hsN45_.e (by decide)
                have e60_N45_ : ze N45_ 81 60 = ze N12_ 81 60 := hsN45_.e (by decide)
                have qzr98_N45_ : zr98 N45_ = zr98 N12_ := zr98_f hsN45_ (by decide)
                have qzr95_N45_ : zr95 N45_ = zr95 N12_ := zr95_f hsN45_ (by decide)
                have c47_ : zGB T N45_ := zGB.fr hsN45_ c14_ (by decide) (by decide)
                have c48_ : zRNm nm_ (gF T).length (gmkI T) b_ n_ N45_ := zRNm.fr hsN45_ c15_ (by decide) (by decide)
                have c49_ : zTab T N45_ := zTab.fr hsN45_ c16_ (by decide) (by decide)
                have c50_ : zB 85 144 0 5 N45_ := zB.fr hsN45_ c17_ (by decide) (by decide)
                have c51_ : zJX T N45_ := zJX.fr hsN45_ c18_ (by decide) (by decide)
                have c52_ : zFirs T N45_ := zFirs.fr hsN45_ c19_ (by decide) (by decide)
                have c53_ : zSSm T N45_ := zSSm.fr hsN45_ c20_ (by decide) (by decide)
                have c54_ : zGD N45_ := zGD.fr hsN45_ c21_ (by decide) (by decide)
                have c55_ : zRmk (gF T).length (gmkI T) N45_ := zRmk.fr hsN45_ c22_ (by decide) (by decide)
                have c56_ : zRb b_ n_ N45_ := zRb.fr hsN45_ c23_ (by decide) (by decide)
                have c57_ : zRt b_ n_ N45_ := zRt.fr hsN45_ hp0_N12_ (by decide) (by decide)
                show zW l m_M_makes (zn Mz + 0, zw Mz + 0) N45_ 52 [some (.ref 81), none] [] _
                refine zw_aload_n (pc := 52) (n := 0) (x := 81) rfl (zdal_p dlD_M_makes_107 (i := 1) rfl) ?_
                refine zr_getI (hf_N45_.w hW) (pc := 53) f_M_172 rfl (zdal_p dlD_M_makes_107 (i := 2) rfl) ?_
                refine zr_if_le (pc := 56) (tgt := 61) ⟨(ze_r N45_ 81 7).1, (ze_r N45_ 81 7).2⟩ (by decide) (zdal_p dlD_M_makes_107 (i := 3) rfl) (fun hc_56 => ?_) (fun hc_56 => ?_)
                · skip
                  obtain ⟨hz3_, hfit_⟩ := zRst_3 (N := N12_) hri_ hsn_ (by omega)
                  obtain ⟨ww_, hww_⟩ : ∃ v : Nat → Int, v = zrw (gF T).length N12_ 95 0 := ⟨_, rfl⟩
                  rw [← hww_] at hz3_ hfit_
                  have hmk_ : zMkR b_ n_ (gF T).length (gmkI T) nm_ ww_ := ⟨_, _, hmt_.trans hz3_, by omega⟩
                  refine zw_aload_n (pc := 61) (n := 0) (x := 81) rfl (zdal_p dlD_M_makes_107 (i := 6) rfl) ?_
                  refine zr_callV (hf_N45_.w hW) hf_N45_.x (pc := 62) [] [] l_M_481 (c_M_act l N45_ (hf_N45_.w hW) (show 0 ≤ ze N45_ 81 60 by first | assumption | omega) (show ze N45_ 81 60 ≤ 12 by first | assumption | omega)) rfl rfl rfl (by decide) (Nat.le_of_ble_eq_true rfl) (zdal_p dlD_M_makes_107 (i := 7) rfl) ?_
                  rintro _ N58_ ⟨rfl, hsN58_, ⟨hp0_N58_, hp1_N58_⟩⟩
                  have hf_N58_ : zFr [1, 2, 3, 4, 5, 6, 7, 8, 9, 10, 11, 38, 39, 41, 42, 43, 60] [95, 96, 97, 98, 100, 111] Mz N58_ := hf_N45_.tr hsN58_ (by decide) (by decide)
                  have e1_N58_ : ze N58_ 81 1 = ze N45_ 81 1 := hsN58_.e (by decide)
                  have e3_N58_ : ze N58_ 81 3 = ze N45_ 81 3 := hsN58_.e (by decide)
                  have e4_N58_ : ze N58_ 81 4 = ze N45_ 81 4 := hsN58_.e (by decide)
                  have e5_N58_ : ze N58_ 81 5 = ze N45_ 81 5 := hsN58_.e (by decide)
                  have e7_N58_ : ze N58_ 81 7 = ze N45_ 81 7 := hsN58_.e (by decide)
                  have e14_N58_ : ze N58_ 81 14 = ze N45_ 81 14 := hsN58_.e (by decide)
                  have e26_N58_ : ze N58_ 81 26 = ze N45_ 81 26 := hsN58_.e (by decide)
                  have e38_N58_ : ze N58_ 81 38 = ze N45_ 81 38 := hsN58_.e (by decide)
                  have e39_N58_ : ze N58_ 81 39 = ze N45_ 81 39 := hsN58_.e (by decide)
                  have e41_N58_ : ze N58_ 81 41 = ze N45_ 81 41 := hsN58_.e (by decide)
                  have e42_N58_ : ze N58_ 81 42 = ze N45_ 81 42 := hsN58_.e (by decide)
                  have e43_N58_ : ze N58_ 81 43 = ze N45_ 81 43 := hsN58_.e (by decide)
                  have r60_N58_ := ze_r N58_ 81 60
                  have qzr98_N58_ : zr98 N58_ = zr98 N45_ := zr98_f hsN58_ (by decide)
                  have qzr95_N58_ : zr95 N58_ = zr95 N45_ := zr95_f hsN58_ (by decide)
                  have c60_ : zGB T N58_ := zGB.fr hsN58_ c47_ (by decide) (by decide)
                  have c61_ : zRNm nm_ (gF T).length (gmkI T) b_ n_ N58_ := zRNm.fr hsN58_ c48_ (by decide) (by decide)
                  have c62_ : zTab T N58_ := zTab.fr hsN58_ c49_ (by decide) (by decide)
                  have c63_ : zB 85 144 0 5 N58_ := zB.fr hsN58_ c50_ (by decide) (by decide)
                  have c64_ : zJX T N58_ := zJX.fr hsN58_ c51_ (by decide) (by decide)
                  have c65_ : zFirs T N58_ := zFirs.fr hsN58_ c52_ (by decide) (by decide)
                  have c66_ : zSSm T N58_ := zSSm.fr hsN58_ c53_ (by decide) (by decide)
                  have c67_ : zGD N58_ := zGD.fr hsN58_ c54_ (by decide) (by decide)
                  have c68_ : zRmk (gF T).length (gmkI T) N58_ := zRmk.fr hsN58_ c55_ (by decide) (by decide)
                  have c69_ : zRb b_ n_ N58_ := zRb.fr hsN58_ c56_ (by decide) (by decide)
                  have c70_ : zRt b_ n_ N58_ := zRt.fr hsN58_ c57_ (by decide) (by decide)
                  show zW l m_M_makes (zn Mz + 0, zw Mz + 0) N58_ 65 [some (.ref 81), none] [] _
                  refine zw_iconst (pc := 65) (v := Int32.ofInt 0) (by decide) (zdal_p dlD_M_makes_107 (i := 8) rfl) ?_
                  refine zw_istore_n (pc := 66) (i := 1) (L2 := [some (.ref 81), some (.int (Int32.ofInt 0))]) rfl (by decide) rfl (zdal_p dlD_M_makes_107 (i := 9) rfl) ?_
                  have lp_67 : ∀ (n : Nat) (u71_ : Int) (hu71_a : -2147483648 ≤ u71_) (hu71_b : u71_ < 2147483648) (N72_ : zMem) (hs73_ : zFr [] [98] N58_ N72_) (i74_ : 0 ≤ u71_) (i75_ : u71_ ≤ ((gF T).length : Int)) (i76_ : ∀ i : Nat, (i : Int) < u71_ → zg N72_ 98 i = ww_ i), (((gF T).length : Int) - u71_).toNat < n → zW l m_M_makes (zn Mz + 0, zw Mz + 0) N72_ 67 [some (.ref 81), some (.int (Int32.ofInt u71_))] [] (zpI [1, 2, 3, 4, 5, 6, 7, 8, 9, 10, 11, 38, 39, 41, 42, 43, 60] [95, 96, 97, 98, 100, 111] Mz (fun v N => ze N 81 1 = 0 ∧ 0 ≤ ze N 81 60 ∧ ze N 81 60 ≤ 12 ∧ (((v = -1 ∧ (¬ ∃ w_ : Nat → Int, zMkR b_ n_ (gF T).length (gmkI T) nm_ w_) ∧ (∀ j : Nat, zg N 98 j = zg Mz 98 j) ∧ ze N 81 60 = ze Mz 81 60) ∨ ∃ w_ : Nat → Int, zMkR b_ n_ (gF T).length (gmkI T) nm_ w_ ∧ zfit (gF T).length (gmkI T) w_ ∧ ∀ i : Nat, i < (gF T).length → zg N 98 i = w_ i)))) := by
                    intro n
                    induction n with
                    | zero =>
                      intro u71_ hu71_a hu71_b N72_ hs73_ i74_ i75_ i76_ h0
                      exact absurd h0 (Nat.not_lt_zero _)
                    | succ n ih_67 =>
                      intro u71_ hu71_a hu71_b N72_ hs73_ i74_ i75_ i76_ hlt_67
                      have hf_N72_ : zFr [1, 2, 3, 4, 5, 6, 7, 8, 9, 10, 11, 38, 39, 41, 42, 43, 60] [95, 96, 97, 98, 100, 111] Mz N72_ := hf_N58_.tr hs73_ (by decide) (by decide)
                      have e1_N72_ : ze N72_ 81 1 = ze N58_ 81 1 := hs73_.e (by decide)
                      have e3_N72_ : ze N72_ 81 3 = ze N58_ 81 3 := hs73_.e (by decide)
                      have e4_N72_ : ze N72_ 81 4 = ze N58_ 81 4 := hs73_.e (by decide)
                      have e5_N72_ : ze N72_ 81 5 = ze N58_ 81 5 := hs73_.e (by decide)
                      have e7_N72_ : ze N72_ 81 7 = ze N58_ 81 7 := hs73_.e (by decide)
                      have e14_N72_ : ze N72_ 81 14 = ze N58_ 81 14 := hs73_.e (by decide)
                      have e26_N72_ : ze N72_ 81 26 = ze N58_ 81 26 := hs73_.e (by decide)
                      have e38_N72_ : ze N72_ 81 38 = ze N58_ 81 38 := hs73_.e (by decide)
                      have e39_N72_ : ze N72_ 81 39 = ze N58_ 81 39 := hs73_.e (by decide)
                      have e41_N72_ : ze N72_ 81 41 = ze N58_ 81 41 := hs73_.e (by decide)
                      have e42_N72_ : ze N72_ 81 42 = ze N58_ 81 42 := hs73_.e (by decide)
                      have e43_N72_ : ze N72_ 81 43 = ze N58_ 81 43 := hs73_.e (by decide)
                      have e60_N72_ : ze N72_ 81 60 = ze N58_ 81 60 := hs73_.e (by decide)
                      have qzr95_N72_ : zr95 N72_ = zr95 N58_ := zr95_f hs73_ (by decide)
                      have c77_ : zGB T N72_ := zGB.fr hs73_ c60_ (by decide) (by decide)
                      have c78_ : zRNm nm_ (gF T).length (gmkI T) b_ n_ N72_ := zRNm.fr hs73_ c61_ (by decide) (by decide)
                      have c79_ : zTab T N72_ := zTab.fr hs73_ c62_ (by decide) (by decide)
                      have c80_ : zB 85 144 0 5 N72_ := zB.fr hs73_ c63_ (by decide) (by decide)
                      have c81_ : zJX T N72_ := zJX.fr hs73_ c64_ (by decide) (by decide)
                      have c82_ : zFirs T N72_ := zFirs.fr hs73_ c65_ (by decide) (by decide)
                      have c83_ : zSSm T N72_ := zSSm.fr hs73_ c66_ (by decide) (by decide)
                      have c84_ : zGD N72_ := zGD.fr hs73_ c67_ (by decide) (by decide)
                      have c85_ : zRmk (gF T).length (gmkI T) N72_ := zRmk.fr hs73_ c68_ (by decide) (by decide)
                      have c86_ : zRb b_ n_ N72_ := zRb.fr hs73_ c69_ (by decide) (by decide)
                      have c87_ : zRt b_ n_ N72_ := zRt.fr hs73_ c70_ (by decide) (by decide)
                      have hcw_ := (show ∀ i : Nat, (i : Int) < u71_ → zg N72_ 98 i = ww_ i by assumption)
                      have h95_ : zr95 N72_ = zr95 N12_ := qzr95_N72_.trans (qzr95_N58_.trans qzr95_N45_)
                      refine zw_iload_n (pc := 67) (n := 1) (x := Int32.ofInt u71_) rfl (zdal_p dlD_M_makes_107 (i := 10) rfl) ?_
                      refine zw_aload_n (pc := 68) (n := 0) (x := 81) rfl (zdal_p dlD_M_makes_107 (i := 11) rfl) ?_
                      refine zr_getI0 hf_N72_ hW (pc := 69) (by decide) f_M_235 rfl (zdal_p dlD_M_makes_107 (i := 12) rfl) ?_
                      refine zr_icmp_ge (pc := 72) (tgt := 93) ⟨hu71_a, hu71_b⟩ ⟨(ze_r Mz 81 26).1, (ze_r Mz 81 26).2⟩ (by decide) (zdal_p dlD_M_makes_107 (i := 13) rfl) (fun hc_72 => ?_) (fun hc_72 => ?_)
                      · skip
                        refine zw_aload_n (pc := 93) (n := 0) (x := 81) rfl (zdal_p dlD_M_makes_108 (i := 0) rfl) ?_
                        refine zr_callV (hf_N72_.w hW) hf_N72_.x (pc := 94) [] [] l_M_484 (c_M_parts l N72_ (hf_N72_.w hW) T hO c77_) rfl rfl rfl (by decide) (Nat.le_of_ble_eq_true rfl) (zdal_p dlD_M_makes_108 (i := 1) rfl) ?_
                        rintro _ N88_ ⟨v89_, rfl, ⟨hv89_a, hv89_b⟩, hsN88_, -⟩
                        obtain rfl := hsN88_.eq.symm
                        show zW l m_M_makes (zn Mz + 0, zw Mz + 0) N72_ 97 [some (.ref 81), some (.int (Int32.ofInt u71_))] [.int (Int32.ofInt v89_)] _
                        exact zr_iret (pc := 97) (ty := .int) rfl rfl ⟨by omega, by omega⟩ hf_N72_ ⟨(show ze N72_ 81 1 = 0 by first | assumption | omega), (show 0 ≤ ze N72_ 81 60 by first | assumption | omega), (show ze N72_ 81 60 ≤ 12 by first | assumption | omega), (show ((v89_ = -1 ∧ (¬ ∃ w_ : Nat → Int, zMkR b_ n_ (gF T).length (gmkI T) nm_ w_) ∧ (∀ j : Nat, zg N72_ 98 j = zg Mz 98 j) ∧ ze N72_ 81 60 = ze Mz 81 60) ∨ ∃ w_ : Nat → Int, zMkR b_ n_ (gF T).length (gmkI T) nm_ w_ ∧ zfit (gF T).length (gmkI T) w_ ∧ ∀ i : Nat, i < (gF T).length → zg N72_ 98 i = w_ i) by exact Or.inr ⟨ww_, hmk_, hfit_, fun i_ hi_ => hcw_ i_ (by omega)⟩)⟩ (zdal_p dlD_M_makes_108 (i := 2) rfl)
                      · skip
                        refine zw_aload_n (pc := 75) (n := 0) (x := 81) rfl (zdal_p dlD_M_makes_107 (i := 14) rfl) ?_
                        refine zr_getF (r := 98) (hf_N72_.w hW) (pc := 76) f_M_66 rfl (zh_98 (hf_N72_.w hW)).1 (zdal_p dlD_M_makes_107 (i := 15) rfl) ?_
                        refine zw_iload_n (pc := 79) (n := 1) (x := Int32.ofInt u71_) rfl (zdal_p dlD_M_makes_107 (i := 16) rfl) ?_
                        refine zw_aload_n (pc := 80) (n := 0) (x := 81) rfl (zdal_p dlD_M_makes_107 (i := 17) rfl) ?_
                        refine zr_getF (r := 95) (hf_N72_.w hW) (pc := 81) f_M_56 rfl (zh_95 (hf_N72_.w hW)).1 (zdal_p dlD_M_makes_107 (i := 18) rfl) ?_
                        refine zw_iload_n (pc := 84) (n := 1) (x := Int32.ofInt u71_) rfl (zdal_p dlD_M_makes_107 (i := 19) rfl) ?_
                        refine zr_laldn (pc := 85) (zh_95 (hf_N72_.w hW)).2 (by decide) (by omega) (by omega) (zdal_p dlD_M_makes_107 (i := 20) rfl) (fun v90_ hv90_ hv90_a hv90_b => ?_)
                        have hx_ := zrw_at (F := (gF T).length) (M := N12_) (q := 95) (k := (u71_).toNat) (e := 0) (by omega) (by omega) (hv90_.trans (congrFun h95_ _)) (by omega)
                        rw [← hww_] at hx_
                        refine zr_last (pc := 86) (zh_98 (hf_N72_.w hW)).2 (by decide) (by decide) (by omega) (by omega) (zdal_p dlD_M_makes_107 (i := 21) rfl) (fun N91_ hN91_ hsN91_ => ?_)
                        have hf_N91_ : zFr [1, 2, 3, 4, 5, 6, 7, 8, 9, 10, 11, 38, 39, 41, 42, 43, 60] [95, 96, 97, 98, 100, 111] Mz N91_ := hf_N72_.tr hsN91_ (by decide) (by decide)
                        have hb0_N91_ : zFr [] [98] N58_ N91_ := hs73_.tr hsN91_ (by decide) (by decide)
                        have e1_N91_ : ze N91_ 81 1 = ze N72_ 81 1 := hsN91_.e (by decide)
                        have e3_N91_ : ze N91_ 81 3 = ze N72_ 81 3 := hsN91_.e (by decide)
                        have e4_N91_ : ze N91_ 81 4 = ze N72_ 81 4 := hsN91_.e (by decide)
                        have e5_N91_ : ze N91_ 81 5 = ze N72_ 81 5 := hsN91_.e (by decide)
                        have e7_N91_ : ze N91_ 81 7 = ze N72_ 81 7 := hsN91_.e (by decide)
                        have e14_N91_ : ze N91_ 81 14 = ze N72_ 81 14 := hsN91_.e (by decide)
                        have e26_N91_ : ze N91_ 81 26 = ze N72_ 81 26 := hsN91_.e (by decide)
                        have e38_N91_ : ze N91_ 81 38 = ze N72_ 81 38 := hsN91_.e (by decide)
                        have e39_N91_ : ze N91_ 81 39 = ze N72_ 81 39 := hsN91_.e (by decide)
                        have e41_N91_ : ze N91_ 81 41 = ze N72_ 81 41 := hsN91_.e (by decide)
                        have e42_N91_ : ze N91_ 81 42 = ze N72_ 81 42 := hsN91_.e (by decide)
                        have e43_N91_ : ze N91_ 81 43 = ze N72_ 81 43 := hsN91_.e (by decide)
                        have e60_N91_ : ze N91_ 81 60 = ze N72_ 81 60 := hsN91_.e (by decide)
                        have qzr95_N91_ : zr95 N91_ = zr95 N72_ := zr95_f hsN91_ (by decide)
                        have c92_ : zGB T N91_ := zGB.fr hsN91_ c77_ (by decide) (by decide)
                        have c93_ : zRNm nm_ (gF T).length (gmkI T) b_ n_ N91_ := zRNm.fr hsN91_ c78_ (by decide) (by decide)
                        have c94_ : zTab T N91_ := zTab.fr hsN91_ c79_ (by decide) (by decide)
                        have c95_ : zB 85 144 0 5 N91_ := zB.fr hsN91_ c80_ (by decide) (by decide)
                        have c96_ : zJX T N91_ := zJX.fr hsN91_ c81_ (by decide) (by decide)
                        have c97_ : zFirs T N91_ := zFirs.fr hsN91_ c82_ (by decide) (by decide)
                        have c98_ : zSSm T N91_ := zSSm.fr hsN91_ c83_ (by decide) (by decide)
                        have c99_ : zGD N91_ := zGD.fr hsN91_ c84_ (by decide) (by decide)
                        have c100_ : zRmk (gF T).length (gmkI T) N91_ := zRmk.fr hsN91_ c85_ (by decide) (by decide)
                        have c101_ : zRb b_ n_ N91_ := zRb.fr hsN91_ c86_ (by decide) (by decide)
                        have c102_ : zRt b_ n_ N91_ := zRt.fr hsN91_ c87_ (by decide) (by decide)
                        have hcn_ : ∀ i : Nat, (i : Int) < u71_ + 1 → zg N91_ 98 i = ww_ i := fun i_ hi_ => by by_cases g_ : (i_ : Int) = u71_; (rw [show i_ = (u71_).toNat by omega, zs_getJ hN91_ ⟨by omega, by omega⟩]; exact hx_); (rw [zs_othJ hN91_ (by omega)]; exact hcw_ i_ (by omega))
                        refine zr_iinc (pc := 87) (i := 1) (a := u71_) (n := 1) (L2 := [some (.ref 81), some (.int (Int32.ofInt (u71_ + 1)))]) rfl (by decide) rfl (zdal_p dlD_M_makes_107 (i := 22) rfl) ?_
                        refine zw_goto (pc := 90) (tgt := 67) (by decide) (zdal_p dlD_M_makes_107 (i := 23) rfl) ?_
                        exact ih_67 (u71_ + 1) (by omega) (by omega) N91_ hb0_N91_ (show 0 ≤ (u71_ + 1) by first | assumption | omega) (show (u71_ + 1) ≤ ((gF T).length : Int) by first | assumption | omega) (show ∀ i : Nat, (i : Int) < (u71_ + 1) → zg N91_ 98 i = ww_ i by exact hcn_) (by omega)
                  exact lp_67 _ 0 (by decide) (by decide) N58_ zFr.rf (show 0 ≤ (0 : Int) by first | assumption | omega) (show (0 : Int) ≤ ((gF T).length : Int) by first | assumption | omega) (show ∀ i : Nat, (i : Int) < (0 : Int) → zg N58_ 98 i = ww_ i by intro i_ hi_; omega) (Nat.lt_succ_self _)
                · skip
                  exfalso; omega
              · skip
                have hno_ : (¬ ∃ w_ : Nat → Int, zMkR b_ n_ (gF T).length (gmkI T) nm_ w_) := by rintro ⟨w_, q_, un_, e_, z_⟩; rw [hmt_, zRst_g (by omega)] at e_; have e5_ : true = false := congrArg (fun x_ : zFst => x_.2.2.2.2.2) e_; cases e5_
                refine zw_aload_n (pc := 41) (n := 0) (x := 81) rfl (zdal_p dlD_M_makes_106 (i := 19) rfl) ?_
                refine zw_bipush (pc := 42) (v := Int32.ofInt 6) (by decide) (zdal_p dlD_M_makes_106 (i := 20) rfl) ?_
                refine zw_iconst (pc := 44) (v := Int32.ofInt 0) (by decide) (zdal_p dlD_M_makes_106 (i := 21) rfl) ?_
                refine zr_callV (hf_N12_.w hW) hf_N12_.x (pc := 45) [.int (Int32.ofInt 6), .int (Int32.ofInt 0)] [] l_M_168 (c_M_wrongAtF l N12_ (hf_N12_.w hW) 6 (by decide) (by decide) 0 (by decide) (by decide) (show 1 ≤ 6 by first | assumption | omega)) rfl rfl rfl (by decide) (Nat.le_of_ble_eq_true rfl) (zdal_p dlD_M_makes_106 (i := 22) rfl) ?_
                rintro _ N103_ ⟨rfl, hsN103_, hp0_N103_⟩
                replace hp0_N103_ : 1 ≤ ze N103_ 81 7 := hp0_N103_
                have hf_N103_ : zFr [1, 2, 3, 4, 5, 6, 7, 8, 9, 10, 11, 38, 39, 41, 42, 43, 60] [95, 96, 97, 98, 100, 111] Mz N103_ := hf_N12_.tr hsN103_ (by decide) (by decide)
                have e1_N103_ : ze N103_ 81 1 = ze N12_ 81 1 := hsN103_.e (by decide)
                have e3_N103_ : ze N103_ 81 3 = ze N12_ 81 3 := hsN103_.e (by decide)
                have e4_N103_ : ze N103_ 81 4 = ze N12_ 81 4 := hsN103_.e (by decide)
                have e5_N103_ : ze N103_ 81 5 = ze N12_ 81 5 := hsN103_.e (by decide)
                have r7_N103_ := ze_r N103_ 81 7
                have e14_N103_ : ze N103_ 81 14 = ze N12_ 81 14 := hsN103_.e (by decide)
                have e26_N103_ : ze N103_ 81 26 = ze N12_ 81 26 := hsN103_.e (by decide)
                have e38_N103_ : ze N103_ 81 38 = ze N12_ 81 38 := hsN103_.e (by decide)
                have e39_N103_ : ze N103_ 81 39 = ze N12_ 81 39 := hsN103_.e (by decide)
                have e41_N103_ : ze N103_ 81 41 = ze N12_ 81 41 := hsN103_.e (by decide)
                have e42_N103_ : ze N103_ 81 42 = ze N12_ 81 42 := hsN103_.e (by decide)
                have e43_N103_ : ze N103_ 81 43 = ze N12_ 81 43 := hsN103_.e (by decide)
                have e60_N103_ : ze N103_ 81 60 = ze N12_ 81 60 := hsN103_.e (by decide)
                have qzr98_N103_ : zr98 N103_ = zr98 N12_ := zr98_f hsN103_ (by decide)
                have qzr95_N103_ : zr95 N103_ = zr95 N12_ := zr95_f hsN103_ (by decide)
                have c105_ : zGB T N103_ := zGB.fr hsN103_ c14_ (by decide) (by decide)
                have c106_ : zRNm nm_ (gF T).length (gmkI T) b_ n_ N103_ := zRNm.fr hsN103_ c15_ (by decide) (by decide)
                have c107_ : zTab T N103_ := zTab.fr hsN103_ c16_ (by decide) (by decide)
                have c108_ : zB 85 144 0 5 N103_ := zB.fr hsN103_ c17_ (by decide) (by decide)
                have c109_ : zJX T N103_ := zJX.fr hsN103_ c18_ (by decide) (by decide)
                have c110_ : zFirs T N103_ := zFirs.fr hsN103_ c19_ (by decide) (by decide)
                have c111_ : zSSm T N103_ := zSSm.fr hsN103_ c20_ (by decide) (by decide)
                have c112_ : zGD N103_ := zGD.fr hsN103_ c21_ (by decide) (by decide)
                have c113_ : zRmk (gF T).length (gmkI T) N103_ := zRmk.fr hsN103_ c22_ (by decide) (by decide)
                have c114_ : zRb b_ n_ N103_ := zRb.fr hsN103_ c23_ (by decide) (by decide)
                have c115_ : zRt b_ n_ N103_ := zRt.fr hsN103_ hp0_N12_ (by decide) (by decide)
                show zW l m_M_makes (zn Mz + 0, zw Mz + 0) N103_ 48 [some (.ref 81), none] [] _
                refine zw_aload_n (pc := 48) (n := 0) (x := 81) rfl (zdal_p dlD_M_makes_106 (i := 23) rfl) ?_
                refine zr_callV (hf_N103_.w hW) hf_N103_.x (pc := 49) [] [] l_M_373 (c_M_tells l N103_ (hf_N103_.w hW) ) rfl rfl rfl (by decide) (Nat.le_of_ble_eq_true rfl) (zdal_p dlD_M_makes_107 (i := 0) rfl) ?_
                rintro _ N116_ ⟨rfl, hsN116_, -⟩
                have hf_N116_ : zFr [1, 2, 3, 4, 5, 6, 7, 8, 9, 10, 11, 38, 39, 41, 42, 43, 60] [95, 96, 97, 98, 100, 111] Mz N116_ := hf_N103_.tr hsN116_ (by decide) (by decide)
                have e1_N116_ : ze N116_ 81 1 = ze N103_ 81 1 := hsN116_.e (by decide)
                have e3_N116_ : ze N116_ 81 3 = ze N103_ 81 3 := hsN116_.e (by decide)
                have e4_N116_ : ze N116_ 81 4 = ze N103_ 81 4 := hsN116_.e (by decide)
                have e5_N116_ : ze N116_ 81 5 = ze N103_ 81 5 := hsN116_.e (by decide)
                have e7_N116_ : ze N116_ 81 7 = ze N103_ 81 7 := hsN116_.e (by decide)
                have e14_N116_ : ze N116_ 81 14 = ze N103_ 81 14 := hsN116_.e (by decide)
                have e26_N116_ : ze N116_ 81 26 = ze N103_ 81 26 := hsN116_.e (by decide)
                have e38_N116_ : ze N116_ 81 38 = ze N103_ 81 38 := hsN116_.e (by decide)
                have e39_N116_ : ze N116_ 81 39 = ze N103_ 81 39 := hsN116_.e (by decide)
                have e41_N116_ : ze N116_ 81 41 = ze N103_ 81 41 := hsN116_.e (by decide)
                have e42_N116_ : ze N116_ 81 42 = ze N103_ 81 42 := hsN116_.e (by decide)
                have e43_N116_ : ze N116_ 81 43 = ze N103_ 81 43 := hsN116_.e (by decide)
                have e60_N116_ : ze N116_ 81 60 = ze N103_ 81 60 := hsN116_.e (by decide)
                have qzr98_N116_ : zr98 N116_ = zr98 N103_ := zr98_f hsN116_ (by decide)
                have qzr95_N116_ : zr95 N116_ = zr95 N103_ := zr95_f hsN116_ (by decide)
                have c118_ : zGB T N116_ := zGB.fr hsN116_ c105_ (by decide) (by decide)
                have c119_ : zRNm nm_ (gF T).length (gmkI T) b_ n_ N116_ := zRNm.fr hsN116_ c106_ (by decide) (by decide)
                have c120_ : zTab T N116_ := zTab.fr hsN116_ c107_ (by decide) (by decide)
                have c121_ : zB 85 144 0 5 N116_ := zB.fr hsN116_ c108_ (by decide) (by decide)
                have c122_ : zJX T N116_ := zJX.fr hsN116_ c109_ (by decide) (by decide)
                have c123_ : zFirs T N116_ := zFirs.fr hsN116_ c110_ (by decide) (by decide)
                have c124_ : zSSm T N116_ := zSSm.fr hsN116_ c111_ (by decide) (by decide)
                have c125_ : zGD N116_ := zGD.fr hsN116_ c112_ (by decide) (by decide)
                have c126_ : zRmk (gF T).length (gmkI T) N116_ := zRmk.fr hsN116_ c113_ (by decide) (by decide)
                have c127_ : zRb b_ n_ N116_ := zRb.fr hsN116_ c114_ (by decide) (by decide)
                have c128_ : zRt b_ n_ N116_ := zRt.fr hsN116_ c115_ (by decide) (by decide)
                show zW l m_M_makes (zn Mz + 0, zw Mz + 0) N116_ 52 [some (.ref 81), none] [] _
                refine zw_aload_n (pc := 52) (n := 0) (x := 81) rfl (zdal_p dlD_M_makes_107 (i := 1) rfl) ?_
                refine zr_getI (hf_N116_.w hW) (pc := 53) f_M_172 rfl (zdal_p dlD_M_makes_107 (i := 2) rfl) ?_
                refine zr_if_le (pc := 56) (tgt := 61) ⟨(ze_r N116_ 81 7).1, (ze_r N116_ 81 7).2⟩ (by decide) (zdal_p dlD_M_makes_107 (i := 3) rfl) (fun hc_56 => ?_) (fun hc_56 => ?_)
                · skip
                  exfalso; omega
                · skip
                  refine zw_iconst (pc := 59) (v := Int32.ofInt (-1)) (by decide) (zdal_p dlD_M_makes_107 (i := 4) rfl) ?_
                  exact zr_iret (pc := 60) (ty := .int) rfl rfl ⟨by omega, by omega⟩ hf_N116_ ⟨(show ze N116_ 81 1 = 0 by first | assumption | omega), (show 0 ≤ ze N116_ 81 60 by first | assumption | omega), (show ze N116_ 81 60 ≤ 12 by first | assumption | omega), (show ((((-1)) = -1 ∧ (¬ ∃ w_ : Nat → Int, zMkR b_ n_ (gF T).length (gmkI T) nm_ w_) ∧ (∀ j : Nat, zg N116_ 98 j = zg Mz 98 j) ∧ ze N116_ 81 60 = ze Mz 81 60) ∨ ∃ w_ : Nat → Int, zMkR b_ n_ (gF T).length (gmkI T) nm_ w_ ∧ zfit (gF T).length (gmkI T) w_ ∧ ∀ i : Nat, i < (gF T).length → zg N116_ 98 i = w_ i) by first | exact Or.inl ⟨rfl, hno_, fun j => congrFun (qzr98_N116_.trans (qzr98_N103_.trans (qzr98_N12_))) j, by omega⟩ | exact Or.inl ⟨rfl, hno_, fun j => congrFun (qzr98_N116_.trans (qzr98_N103_.trans (qzr98_N12_.trans (qzr98_N1_)))) j, by omega⟩)⟩ (zdal_p dlD_M_makes_107 (i := 5) rfl)
          · skip
            exfalso; omega
        · skip
          have hno_ : (¬ ∃ w_ : Nat → Int, zMkR b_ n_ (gF T).length (gmkI T) nm_ w_) := by rintro ⟨w_, q_, un_, e_, z_⟩; rw [hmt_] at e_; have e4_ : (ze N12_ 81 4).toNat = q_ := congrArg (fun x_ : zFst => x_.2.1) e_; rw [← e4_] at z_; omega
          refine zw_aload_n (pc := 22) (n := 0) (x := 81) rfl (zdal_p dlD_M_makes_106 (i := 10) rfl) ?_
          refine zw_iconst (pc := 23) (v := Int32.ofInt 2) (by decide) (zdal_p dlD_M_makes_106 (i := 11) rfl) ?_
          refine zr_callV (hf_N12_.w hW) hf_N12_.x (pc := 24) [.int (Int32.ofInt 2)] [] l_M_190 (c_M_wrongF l N12_ (hf_N12_.w hW) 2 (by decide) (by decide) (show 1 ≤ 2 by first | assumption | omega)) rfl rfl rfl (by decide) (Nat.le_of_ble_eq_true rfl) (zdal_p dlD_M_makes_106 (i := 12) rfl) ?_
          rintro _ N129_ ⟨rfl, hsN129_, hp0_N129_⟩
          replace hp0_N129_ : 1 ≤ ze N129_ 81 7 := hp0_N129_
          have hf_N129_ : zFr [1, 2, 3, 4, 5, 6, 7, 8, 9, 10, 11, 38, 39, 41, 42, 43, 60] [95, 96, 97, 98, 100, 111] Mz N129_ := hf_N12_.tr hsN129_ (by decide) (by decide)
          have e1_N129_ : ze N129_ 81 1 = ze N12_ 81 1 := hsN129_.e (by decide)
          have e3_N129_ : ze N129_ 81 3 = ze N12_ 81 3 := hsN129_.e (by decide)
          have e4_N129_ : ze N129_ 81 4 = ze N12_ 81 4 := hsN129_.e (by decide)
          have e5_N129_ : ze N129_ 81 5 = ze N12_ 81 5 := hsN129_.e (by decide)
          have r7_N129_ := ze_r N129_ 81 7
          have e14_N129_ : ze N129_ 81 14 = ze N12_ 81 14 := hsN129_.e (by decide)
          have e26_N129_ : ze N129_ 81 26 = ze N12_ 81 26 := hsN129_.e (by decide)
          have e38_N129_ : ze N129_ 81 38 = ze N12_ 81 38 := hsN129_.e (by decide)
          have e39_N129_ : ze N129_ 81 39 = ze N12_ 81 39 := hsN129_.e (by decide)
          have e41_N129_ : ze N129_ 81 41 = ze N12_ 81 41 := hsN129_.e (by decide)
          have e42_N129_ : ze N129_ 81 42 = ze N12_ 81 42 := hsN129_.e (by decide)
          have e43_N129_ : ze N129_ 81 43 = ze N12_ 81 43 := hsN129_.e (by decide)
          have e60_N129_ : ze N129_ 81 60 = ze N12_ 81 60 := hsN129_.e (by decide)
          have qzr98_N129_ : zr98 N129_ = zr98 N12_ := zr98_f hsN129_ (by decide)
          have qzr95_N129_ : zr95 N129_ = zr95 N12_ := zr95_f hsN129_ (by decide)
          have c131_ : zGB T N129_ := zGB.fr hsN129_ c14_ (by decide) (by decide)
          have c132_ : zRNm nm_ (gF T).length (gmkI T) b_ n_ N129_ := zRNm.fr hsN129_ c15_ (by decide) (by decide)
          have c133_ : zTab T N129_ := zTab.fr hsN129_ c16_ (by decide) (by decide)
          have c134_ : zB 85 144 0 5 N129_ := zB.fr hsN129_ c17_ (by decide) (by decide)
          have c135_ : zJX T N129_ := zJX.fr hsN129_ c18_ (by decide) (by decide)
          have c136_ : zFirs T N129_ := zFirs.fr hsN129_ c19_ (by decide) (by decide)
          have c137_ : zSSm T N129_ := zSSm.fr hsN129_ c20_ (by decide) (by decide)
          have c138_ : zGD N129_ := zGD.fr hsN129_ c21_ (by decide) (by decide)
          have c139_ : zRmk (gF T).length (gmkI T) N129_ := zRmk.fr hsN129_ c22_ (by decide) (by decide)
          have c140_ : zRb b_ n_ N129_ := zRb.fr hsN129_ c23_ (by decide) (by decide)
          have c141_ : zRt b_ n_ N129_ := zRt.fr hsN129_ hp0_N12_ (by decide) (by decide)
          show zW l m_M_makes (zn Mz + 0, zw Mz + 0) N129_ 27 [some (.ref 81), none] [] _
          refine zw_aload_n (pc := 27) (n := 0) (x := 81) rfl (zdal_p dlD_M_makes_106 (i := 13) rfl) ?_
          refine zr_callV (hf_N129_.w hW) hf_N129_.x (pc := 28) [] [] l_M_183 (c_M_isGood l N129_ (hf_N129_.w hW) ) rfl rfl rfl (by decide) (Nat.le_of_ble_eq_true rfl) (zdal_p dlD_M_makes_106 (i := 14) rfl) ?_
          rintro _ N142_ ⟨v143_, rfl, ⟨hv143_a, hv143_b⟩, hsN142_, hp0_N142_⟩
          obtain rfl := hsN142_.eq.symm
          replace hp0_N142_ : ((v143_ = 1 ∧ ze N129_ 81 7 = 0) ∨ (v143_ = 0 ∧ ze N129_ 81 7 ≠ 0)) := hp0_N142_
          rcases hp0_N142_ with ⟨rfl, ha28_0_hp0_N142_⟩ | ⟨rfl, ha28_0_hp0_N142_⟩
          · skip
            exfalso; omega
          · skip
            show zW l m_M_makes (zn Mz + 0, zw Mz + 0) N129_ 31 [some (.ref 81), none] [.int (Int32.ofInt 0)] _
            refine zr_if_eq (pc := 31) (tgt := 48) ⟨(by decide), (by decide)⟩ (by decide) (zdal_p dlD_M_makes_106 (i := 15) rfl) (fun hc_31 => ?_) (fun hc_31 => ?_)
            · skip
              refine zw_aload_n (pc := 48) (n := 0) (x := 81) rfl (zdal_p dlD_M_makes_106 (i := 23) rfl) ?_
              refine zr_callV (hf_N129_.w hW) hf_N129_.x (pc := 49) [] [] l_M_373 (c_M_tells l N129_ (hf_N129_.w hW) ) rfl rfl rfl (by decide) (Nat.le_of_ble_eq_true rfl) (zdal_p dlD_M_makes_107 (i := 0) rfl) ?_
              rintro _ N144_ ⟨rfl, hsN144_, -⟩
              have hf_N144_ : zFr [1, 2, 3, 4, 5, 6, 7, 8, 9, 10, 11, 38, 39, 41, 42, 43, 60] [95, 96, 97, 98, 100, 111] Mz N144_ := hf_N129_.tr hsN144_ (by decide) (by decide)
              have e1_N144_ : ze N144_ 81 1 = ze N129_ 81 1 := hsN144_.e (by decide)
              have e3_N144_ : ze N144_ 81 3 = ze N129_ 81 3 := hsN144_.e (by decide)
              have e4_N144_ : ze N144_ 81 4 = ze N129_ 81 4 := hsN144_.e (by decide)
              have e5_N144_ : ze N144_ 81 5 = ze N129_ 81 5 := hsN144_.e (by decide)
              have e7_N144_ : ze N144_ 81 7 = ze N129_ 81 7 := hsN144_.e (by decide)
              have e14_N144_ : ze N144_ 81 14 = ze N129_ 81 14 := hsN144_.e (by decide)
              have e26_N144_ : ze N144_ 81 26 = ze N129_ 81 26 := hsN144_.e (by decide)
              have e38_N144_ : ze N144_ 81 38 = ze N129_ 81 38 := hsN144_.e (by decide)
              have e39_N144_ : ze N144_ 81 39 = ze N129_ 81 39 := hsN144_.e (by decide)
              have e41_N144_ : ze N144_ 81 41 = ze N129_ 81 41 := hsN144_.e (by decide)
              have e42_N144_ : ze N144_ 81 42 = ze N129_ 81 42 := hsN144_.e (by decide)
              have e43_N144_ : ze N144_ 81 43 = ze N129_ 81 43 := hsN144_.e (by decide)
              have e60_N144_ : ze N144_ 81 60 = ze N129_ 81 60 := hsN144_.e (by decide)
              have qzr98_N144_ : zr98 N144_ = zr98 N129_ := zr98_f hsN144_ (by decide)
              have qzr95_N144_ : zr95 N144_ = zr95 N129_ := zr95_f hsN144_ (by decide)
              have c146_ : zGB T N144_ := zGB.fr hsN144_ c131_ (by decide) (by decide)
              have c147_ : zRNm nm_ (gF T).length (gmkI T) b_ n_ N144_ := zRNm.fr hsN144_ c132_ (by decide) (by decide)
              have c148_ : zTab T N144_ := zTab.fr hsN144_ c133_ (by decide) (by decide)
              have c149_ : zB 85 144 0 5 N144_ := zB.fr hsN144_ c134_ (by decide) (by decide)
              have c150_ : zJX T N144_ := zJX.fr hsN144_ c135_ (by decide) (by decide)
              have c151_ : zFirs T N144_ := zFirs.fr hsN144_ c136_ (by decide) (by decide)
              have c152_ : zSSm T N144_ := zSSm.fr hsN144_ c137_ (by decide) (by decide)
              have c153_ : zGD N144_ := zGD.fr hsN144_ c138_ (by decide) (by decide)
              have c154_ : zRmk (gF T).length (gmkI T) N144_ := zRmk.fr hsN144_ c139_ (by decide) (by decide)
              have c155_ : zRb b_ n_ N144_ := zRb.fr hsN144_ c140_ (by decide) (by decide)
              have c156_ : zRt b_ n_ N144_ := zRt.fr hsN144_ c141_ (by decide) (by decide)
              show zW l m_M_makes (zn Mz + 0, zw Mz + 0) N144_ 52 [some (.ref 81), none] [] _
              refine zw_aload_n (pc := 52) (n := 0) (x := 81) rfl (zdal_p dlD_M_makes_107 (i := 1) rfl) ?_
              refine zr_getI (hf_N144_.w hW) (pc := 53) f_M_172 rfl (zdal_p dlD_M_makes_107 (i := 2) rfl) ?_
              refine zr_if_le (pc := 56) (tgt := 61) ⟨(ze_r N144_ 81 7).1, (ze_r N144_ 81 7).2⟩ (by decide) (zdal_p dlD_M_makes_107 (i := 3) rfl) (fun hc_56 => ?_) (fun hc_56 => ?_)
              · skip
                exfalso; omega
              · skip
                refine zw_iconst (pc := 59) (v := Int32.ofInt (-1)) (by decide) (zdal_p dlD_M_makes_107 (i := 4) rfl) ?_
                exact zr_iret (pc := 60) (ty := .int) rfl rfl ⟨by omega, by omega⟩ hf_N144_ ⟨(show ze N144_ 81 1 = 0 by first | assumption | omega), (show 0 ≤ ze N144_ 81 60 by first | assumption | omega), (show ze N144_ 81 60 ≤ 12 by first | assumption | omega), (show ((((-1)) = -1 ∧ (¬ ∃ w_ : Nat → Int, zMkR b_ n_ (gF T).length (gmkI T) nm_ w_) ∧ (∀ j : Nat, zg N144_ 98 j = zg Mz 98 j) ∧ ze N144_ 81 60 = ze Mz 81 60) ∨ ∃ w_ : Nat → Int, zMkR b_ n_ (gF T).length (gmkI T) nm_ w_ ∧ zfit (gF T).length (gmkI T) w_ ∧ ∀ i : Nat, i < (gF T).length → zg N144_ 98 i = w_ i) by first | exact Or.inl ⟨rfl, hno_, fun j => congrFun (qzr98_N144_.trans (qzr98_N129_.trans (qzr98_N12_))) j, by omega⟩ | exact Or.inl ⟨rfl, hno_, fun j => congrFun (qzr98_N144_.trans (qzr98_N129_.trans (qzr98_N12_.trans (qzr98_N1_)))) j, by omega⟩)⟩ (zdal_p dlD_M_makes_107 (i := 5) rfl)
            · skip
              exact absurd hc_31 (by decide)
    · skip
      exfalso; omega
