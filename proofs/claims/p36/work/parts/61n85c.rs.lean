set_option maxHeartbeats 40000000 in
theorem c_M_makesS (l : Launch) (Mz : zMem) (hW : zMt Mz) (T : zGT) (hO : gOK T) (hTt : T ∈ gTabs) (b_ : Nat → Int) (n_ : Nat) (nm_ : List (Int × (Nat → Int))) (s_ : zSg) (p0_ : zGB T Mz) (p1_ : zRp b_ n_ Mz) (p2_ : zRNm nm_ (gF T).length (gmkI T) b_ n_ Mz) (p3_ : zSR (gF T).length s_ Mz) : zC l m_M_makes 0 0 [.ref 81] Mz (zpI [1, 2, 3, 4, 5, 6, 7, 8, 9, 10, 11, 38, 39, 41, 42, 43, 60] [95, 96, 97, 98, 100, 111] Mz (fun v N => ze N 81 1 = 0 ∧ (((v = -1 ∧ (¬ ∃ w_ : Nat → Int, zMkR b_ n_ (gF T).length (gmkI T) nm_ w_) ∧ zSR (gF T).length s_ N) ∨ ∃ w_ : Nat → Int, zMkR b_ n_ (gF T).length (gmkI T) nm_ w_ ∧ zfit (gF T).length (gmkI T) w_ ∧ v = ((znzc w_ (gF T).length : Nat) : Int) ∧ zSR (gF T).length (zpush s_ w_) N)))) := by
  refine zC_of (L0 := [some (.ref 81), none]) md_M_makes (Nat.le_of_ble_eq_true rfl) rfl ?_ zQ0
  have hf : zFr [1, 2, 3, 4, 5, 6, 7, 8, 9, 10, 11, 38, 39, 41, 42, 43, 60] [95, 96, 97, 98, 100, 111] Mz Mz := zFr.rf
  have r_1 := ze_r Mz 81 1
  have r_3 := ze_r Mz 81 3
  have r_4 := ze_r Mz 81 4
  have r_5 := ze_r Mz 81 5
  have r_7 := ze_r Mz 81 7
  have r_14 := ze_r Mz 81 14
  have r_26 := ze_r Mz 81 26
  have r_38 := ze_r Mz 81 38
  have r_39 := ze_r Mz 81 39
  have r_41 := ze_r Mz 81 41
  have r_42 := ze_r Mz 81 42
  have r_43 := ze_r Mz 81 43
  have r_60 := ze_r Mz 81 60
  have hG := hO.1
  have g24 := hG.2.1
  have g1 := hG.1
  have dv0 : zTab T Mz := p0_.1
  have dv1 : zB 85 144 0 5 Mz := p0_.2.1
  have dv2 : zJX T Mz := p0_.2.2.1
  have dv3 : zFirs T Mz := p0_.2.2.2.1
  have dv4 : zSSm T Mz := p0_.2.2.2.2.1
  have dv5 : zGD Mz := zGB.d hO p0_
  have dv6 : zRmk (gF T).length (gmkI T) Mz := p0_.rm
  have gb := dv5.1
  have gn := dv0.1
  have hRm_ := p0_.rm
  have hs26_ := dv3.1
  obtain ⟨hF1_, hF27_⟩ := id (gT_zTA hTt).1
  obtain ⟨⟨hs1_, hs2_⟩, hs3_, hs4_⟩ := id p3_
  have hF64_ : (gF T).length ≤ 64 := by omega
  refine zw_aload_n (pc := 0) (n := 0) (x := 81) rfl d_M_makes_0 ?_
  refine zr_callV (hf.w hW) hf.x (pc := 1) [] [] l_M_367 (c_M_beginsF l Mz (hf.w hW) b_ n_ p1_) rfl rfl rfl (by decide) (Nat.le_of_ble_eq_true rfl) d_M_makes_1 ?_
  rintro _ N1_ ⟨rfl, hsN1_, ⟨hp0_N1_, hp1_N1_, hp2_N1_, hp3_N1_, hp4_N1_⟩⟩
  have hf_N1_ : zFr [1, 2, 3, 4, 5, 6, 7, 8, 9, 10, 11, 38, 39, 41, 42, 43, 60] [95, 96, 97, 98, 100, 111] Mz N1_ := hf.tr hsN1_ (by decide) (by decide)
  have r1_N1_ := ze_r N1_ 81 1
  have r3_N1_ := ze_r N1_ 81 3
  have r4_N1_ := ze_r N1_ 81 4
  have r5_N1_ := ze_r N1_ 81 5
  have r7_N1_ := ze_r N1_ 81 7
  have e14_N1_ : ze N1_ 81 14 = ze Mz 81 14 := hsN1_.e (by decide)
  have e26_N1_ : ze N1_ 81 26 = ze Mz 81 26 := hsN1_.e (by decide)
  have e38_N1_ : ze N1_ 81 38 = ze Mz 81 38 := hsN1_.e (by decide)
  have e39_N1_ : ze N1_ 81 39 = ze Mz 81 39 := hsN1_.e (by decide)
  have e41_N1_ : ze N1_ 81 41 = ze Mz 81 41 := hsN1_.e (by decide)
  have e42_N1_ : ze N1_ 81 42 = ze Mz 81 42 := hsN1_.e (by decide)
  have e43_N1_ : ze N1_ 81 43 = ze Mz 81 43 := hsN1_.e (by decide)
  have e60_N1_ : ze N1_ 81 60 = ze Mz 81 60 := hsN1_.e (by decide)
  have qzr95_N1_ : zr95 N1_ = zr95 Mz := zr95_f hsN1_ (by decide)
  have c3_ : zGB T N1_ := zGB.fr hsN1_ p0_ (by decide) (by decide)
  have c4_ : zRNm nm_ (gF T).length (gmkI T) b_ n_ N1_ := zRNm.fr hsN1_ p2_ (by decide) (by decide)
  have c5_ : zSR (gF T).length s_ N1_ := zSR.fr hsN1_ p3_ (by decide) (by decide)
  have c6_ : zTab T N1_ := zTab.fr hsN1_ dv0 (by decide) (by decide)
  have c7_ : zB 85 144 0 5 N1_ := zB.fr hsN1_ dv1 (by decide) (by decide)
  have c8_ : zJX T N1_ := zJX.fr hsN1_ dv2 (by decide) (by decide)
  have c9_ : zFirs T N1_ := zFirs.fr hsN1_ dv3 (by decide) (by decide)
  have c10_ : zSSm T N1_ := zSSm.fr hsN1_ dv4 (by decide) (by decide)
  have c11_ : zGD N1_ := zGD.fr hsN1_ dv5 (by decide) (by decide)
  have c12_ : zRmk (gF T).length (gmkI T) N1_ := zRmk.fr hsN1_ dv6 (by decide) (by decide)
  show zW l m_M_makes (zn Mz + 0, zw Mz + 0) N1_ 4 [some (.ref 81), none] [] (zpI [1, 2, 3, 4, 5, 6, 7, 8, 9, 10, 11, 38, 39, 41, 42, 43, 60] [95, 96, 97, 98, 100, 111] Mz (fun v N => ze N 81 1 = 0 ∧ (((v = -1 ∧ (¬ ∃ w_ : Nat → Int, zMkR b_ n_ (gF T).length (gmkI T) nm_ w_) ∧ zSR (gF T).length s_ N) ∨ ∃ w_ : Nat → Int, zMkR b_ n_ (gF T).length (gmkI T) nm_ w_ ∧ zfit (gF T).length (gmkI T) w_ ∧ v = ((znzc w_ (gF T).length : Nat) : Int) ∧ zSR (gF T).length (zpush s_ w_) N))))
  have hs0_ : (ze N1_ 81 4).toNat = (zru zpB b_ n_ 0) := by have h_ := hp2_N1_; omega
  refine zw_aload_n (pc := 4) (n := 0) (x := 81) rfl d_M_makes_4 ?_
  refine zr_callV (hf_N1_.w hW) hf_N1_.x (pc := 5) [] [] l_M_358 (c_M_formulaF l N1_ (hf_N1_.w hW) (gF T).length (gmkI T) (gT_zTA hTt) b_ n_ nm_ c12_ hp0_N1_ hp1_N1_ c4_ (show 0 ≤ ze N1_ 81 7 by first | assumption | omega)) rfl rfl rfl (by decide) (Nat.le_of_ble_eq_true rfl) d_M_makes_5 ?_
  rintro _ N13_ ⟨rfl, hsN13_, ⟨hp0_N13_, hp1_N13_⟩⟩
  have hf_N13_ : zFr [1, 2, 3, 4, 5, 6, 7, 8, 9, 10, 11, 38, 39, 41, 42, 43, 60] [95, 96, 97, 98, 100, 111] Mz N13_ := hf_N1_.tr hsN13_ (by decide) (by decide)
  have e1_N13_ : ze N13_ 81 1 = ze N1_ 81 1 := hsN13_.e (by decide)
  have r3_N13_ := ze_r N13_ 81 3
  have r4_N13_ := ze_r N13_ 81 4
  have r5_N13_ := ze_r N13_ 81 5
  have r7_N13_ := ze_r N13_ 81 7
  have e14_N13_ : ze N13_ 81 14 = ze N1_ 81 14 := hsN13_.e (by decide)
  have e26_N13_ : ze N13_ 81 26 = ze N1_ 81 26 := hsN13_.e (by decide)
  have r38_N13_ := ze_r N13_ 81 38
  have r39_N13_ := ze_r N13_ 81 39
  have r41_N13_ := ze_r N13_ 81 41
  have r42_N13_ := ze_r N13_ 81 42
  have r43_N13_ := ze_r N13_ 81 43
  have e60_N13_ : ze N13_ 81 60 = ze N1_ 81 60 := hsN13_.e (by decide)
  have c15_ : zGB T N13_ := zGB.fr hsN13_ c3_ (by decide) (by decide)
  have c16_ : zRNm nm_ (gF T).length (gmkI T) b_ n_ N13_ := zRNm.fr hsN13_ c4_ (by decide) (by decide)
  have c17_ : zSR (gF T).length s_ N13_ := zSR.fr hsN13_ c5_ (by decide) (by decide)
  have c18_ : zTab T N13_ := zTab.fr hsN13_ c6_ (by decide) (by decide)
  have c19_ : zB 85 144 0 5 N13_ := zB.fr hsN13_ c7_ (by decide) (by decide)
  have c20_ : zJX T N13_ := zJX.fr hsN13_ c8_ (by decide) (by decide)
  have c21_ : zFirs T N13_ := zFirs.fr hsN13_ c9_ (by decide) (by decide)
  have c22_ : zSSm T N13_ := zSSm.fr hsN13_ c10_ (by decide) (by decide)
  have c23_ : zGD N13_ := zGD.fr hsN13_ c11_ (by decide) (by decide)
  have c24_ : zRmk (gF T).length (gmkI T) N13_ := zRmk.fr hsN13_ c12_ (by decide) (by decide)
  have c25_ : zRb b_ n_ N13_ := zRb.fr hsN13_ hp0_N1_ (by decide) (by decide)
  rcases hp1_N13_ with ⟨ha5_0_hp1_N13_, ha5_1_hp1_N13_⟩ | ⟨ha5_0_hp1_N13_, ha5_1_hp1_N13_, ha5_2_hp1_N13_, ha5_3_hp1_N13_, ha5_4_hp1_N13_, ha5_5_hp1_N13_⟩
  · skip
    have hre_ := ha5_1_hp1_N13_ (by omega)
    rw [hs0_] at hre_
    have hno_ : (¬ ∃ w_ : Nat → Int, zMkR b_ n_ (gF T).length (gmkI T) nm_ w_) := by rintro ⟨w_, q_, un_, e_, -⟩; unfold zMkT at e_; rw [zfe_s hre_ zfs_F] at e_; cases e_
    show zW l m_M_makes (zn Mz + 0, zw Mz + 0) N13_ 8 [some (.ref 81), none] [] (zpI [1, 2, 3, 4, 5, 6, 7, 8, 9, 10, 11, 38, 39, 41, 42, 43, 60] [95, 96, 97, 98, 100, 111] Mz (fun v N => ze N 81 1 = 0 ∧ (((v = -1 ∧ (¬ ∃ w_ : Nat → Int, zMkR b_ n_ (gF T).length (gmkI T) nm_ w_) ∧ zSR (gF T).length s_ N) ∨ ∃ w_ : Nat → Int, zMkR b_ n_ (gF T).length (gmkI T) nm_ w_ ∧ zfit (gF T).length (gmkI T) w_ ∧ v = ((znzc w_ (gF T).length : Nat) : Int) ∧ zSR (gF T).length (zpush s_ w_) N))))
    refine zw_aload_n (pc := 8) (n := 0) (x := 81) rfl d_M_makes_8 ?_
    refine zr_callV (hf_N13_.w hW) hf_N13_.x (pc := 9) [] [] l_M_183 (c_M_isGood l N13_ (hf_N13_.w hW) ) rfl rfl rfl (by decide) (Nat.le_of_ble_eq_true rfl) d_M_makes_9 ?_
    rintro _ N26_ ⟨v27_, rfl, ⟨hv27_a, hv27_b⟩, hsN26_, hp0_N26_⟩
    obtain rfl := hsN26_.eq.symm
    replace hp0_N26_ : ((v27_ = 1 ∧ ze N13_ 81 7 = 0) ∨ (v27_ = 0 ∧ ze N13_ 81 7 ≠ 0)) := hp0_N26_
    rcases hp0_N26_ with ⟨rfl, ha9_0_hp0_N26_⟩ | ⟨rfl, ha9_0_hp0_N26_⟩
    · skip
      exfalso; omega
    · skip
      show zW l m_M_makes (zn Mz + 0, zw Mz + 0) N13_ 12 [some (.ref 81), none] [.int (Int32.ofInt 0)] (zpI [1, 2, 3, 4, 5, 6, 7, 8, 9, 10, 11, 38, 39, 41, 42, 43, 60] [95, 96, 97, 98, 100, 111] Mz (fun v N => ze N 81 1 = 0 ∧ (((v = -1 ∧ (¬ ∃ w_ : Nat → Int, zMkR b_ n_ (gF T).length (gmkI T) nm_ w_) ∧ zSR (gF T).length s_ N) ∨ ∃ w_ : Nat → Int, zMkR b_ n_ (gF T).length (gmkI T) nm_ w_ ∧ zfit (gF T).length (gmkI T) w_ ∧ v = ((znzc w_ (gF T).length : Nat) : Int) ∧ zSR (gF T).length (zpush s_ w_) N))))
      refine zr_if_eq (pc := 12) (tgt := 27) ⟨(by decide), (by decide)⟩ (by decide) d_M_makes_12 (fun hc_12 => ?_) (fun hc_12 => ?_)
      · skip
        refine zw_aload_n (pc := 27) (n := 0) (x := 81) rfl d_M_makes_27 ?_
        refine zr_callV (hf_N13_.w hW) hf_N13_.x (pc := 28) [] [] l_M_183 (c_M_isGood l N13_ (hf_N13_.w hW) ) rfl rfl rfl (by decide) (Nat.le_of_ble_eq_true rfl) d_M_makes_28 ?_
        rintro _ N28_ ⟨v29_, rfl, ⟨hv29_a, hv29_b⟩, hsN28_, hp0_N28_⟩
        obtain rfl := hsN28_.eq.symm
        replace hp0_N28_ : ((v29_ = 1 ∧ ze N13_ 81 7 = 0) ∨ (v29_ = 0 ∧ ze N13_ 81 7 ≠ 0)) := hp0_N28_
        rcases hp0_N28_ with ⟨rfl, ha28_0_hp0_N28_⟩ | ⟨rfl, ha28_0_hp0_N28_⟩
        · skip
          exfalso; omega
        · skip
          show zW l m_M_makes (zn Mz + 0, zw Mz + 0) N13_ 31 [some (.ref 81), none] [.int (Int32.ofInt 0)] (zpI [1, 2, 3, 4, 5, 6, 7, 8, 9, 10, 11, 38, 39, 41, 42, 43, 60] [95, 96, 97, 98, 100, 111] Mz (fun v N => ze N 81 1 = 0 ∧ (((v = -1 ∧ (¬ ∃ w_ : Nat → Int, zMkR b_ n_ (gF T).length (gmkI T) nm_ w_) ∧ zSR (gF T).length s_ N) ∨ ∃ w_ : Nat → Int, zMkR b_ n_ (gF T).length (gmkI T) nm_ w_ ∧ zfit (gF T).length (gmkI T) w_ ∧ v = ((znzc w_ (gF T).length : Nat) : Int) ∧ zSR (gF T).length (zpush s_ w_) N))))
          refine zr_if_eq (pc := 31) (tgt := 48) ⟨(by decide), (by decide)⟩ (by decide) d_M_makes_31 (fun hc_31 => ?_) (fun hc_31 => ?_)
          · skip
            refine zw_aload_n (pc := 48) (n := 0) (x := 81) rfl d_M_makes_48 ?_
            refine zr_callV (hf_N13_.w hW) hf_N13_.x (pc := 49) [] [] l_M_373 (c_M_tells l N13_ (hf_N13_.w hW) ) rfl rfl rfl (by decide) (Nat.le_of_ble_eq_true rfl) d_M_makes_49 ?_
            rintro _ N30_ ⟨rfl, hsN30_, -⟩
            have hf_N30_ : zFr [1, 2, 3, 4, 5, 6, 7, 8, 9, 10, 11, 38, 39, 41, 42, 43, 60] [95, 96, 97, 98, 100, 111] Mz N30_ := hf_N13_.tr hsN30_ (by decide) (by decide)
            have e1_N30_ : ze N30_ 81 1 = ze N13_ 81 1 := hsN30_.e (by decide)
            have e3_N30_ : ze N30_ 81 3 = ze N13_ 81 3 := hsN30_.e (by decide)
            have e4_N30_ : ze N30_ 81 4 = ze N13_ 81 4 := hsN30_.e (by decide)
            have e5_N30_ : ze N30_ 81 5 = ze N13_ 81 5 := hsN30_.e (by decide)
            have e7_N30_ : ze N30_ 81 7 = ze N13_ 81 7 := hsN30_.e (by decide)
            have e14_N30_ : ze N30_ 81 14 = ze N13_ 81 14 := hsN30_.e (by decide)
            have e26_N30_ : ze N30_ 81 26 = ze N13_ 81 26 := hsN30_.e (by decide)
            have e38_N30_ : ze N30_ 81 38 = ze N13_ 81 38 := hsN30_.e (by decide)
            have e39_N30_ : ze N30_ 81 39 = ze N13_ 81 39 := hsN30_.e (by decide)
            have e41_N30_ : ze N30_ 81 41 = ze N13_ 81 41 := hsN30_.e (by decide)
            have e42_N30_ : ze N30_ 81 42 = ze N13_ 81 42 := hsN30_.e (by decide)
            have e43_N30_ : ze N30_ 81 43 = ze N13_ 81 43 := hsN30_.e (by decide)
            have e60_N30_ : ze N30_ 81 60 = ze N13_ 81 60 := hsN30_.e (by decide)
            have qzr95_N30_ : zr95 N30_ = zr95 N13_ := zr95_f hsN30_ (by decide)
            have c32_ : zGB T N30_ := zGB.fr hsN30_ c15_ (by decide) (by decide)
            have c33_ : zRNm nm_ (gF T).length (gmkI T) b_ n_ N30_ := zRNm.fr hsN30_ c16_ (by decide) (by decide)
            have c34_ : zSR (gF T).length s_ N30_ := zSR.fr hsN30_ c17_ (by decide) (by decide)
            have c35_ : zTab T N30_ := zTab.fr hsN30_ c18_ (by decide) (by decide)
            have c36_ : zB 85 144 0 5 N30_ := zB.fr hsN30_ c19_ (by decide) (by decide)
            have c37_ : zJX T N30_ := zJX.fr hsN30_ c20_ (by decide) (by decide)
            have c38_ : zFirs T N30_ := zFirs.fr hsN30_ c21_ (by decide) (by decide)
            have c39_ : zSSm T N30_ := zSSm.fr hsN30_ c22_ (by decide) (by decide)
            have c40_ : zGD N30_ := zGD.fr hsN30_ c23_ (by decide) (by decide)
            have c41_ : zRmk (gF T).length (gmkI T) N30_ := zRmk.fr hsN30_ c24_ (by decide) (by decide)
            have c42_ : zRb b_ n_ N30_ := zRb.fr hsN30_ c25_ (by decide) (by decide)
            have c43_ : zRt b_ n_ N30_ := zRt.fr hsN30_ hp0_N13_ (by decide) (by decide)
            show zW l m_M_makes (zn Mz + 0, zw Mz + 0) N30_ 52 [some (.ref 81), none] [] (zpI [1, 2, 3, 4, 5, 6, 7, 8, 9, 10, 11, 38, 39, 41, 42, 43, 60] [95, 96, 97, 98, 100, 111] Mz (fun v N => ze N 81 1 = 0 ∧ (((v = -1 ∧ (¬ ∃ w_ : Nat → Int, zMkR b_ n_ (gF T).length (gmkI T) nm_ w_) ∧ zSR (gF T).length s_ N) ∨ ∃ w_ : Nat → Int, zMkR b_ n_ (gF T).length (gmkI T) nm_ w_ ∧ zfit (gF T).length (gmkI T) w_ ∧ v = ((znzc w_ (gF T).length : Nat) : Int) ∧ zSR (gF T).length (zpush s_ w_) N))))
            refine zw_aload_n (pc := 52) (n := 0) (x := 81) rfl d_M_makes_52 ?_
            refine zr_getI (hf_N30_.w hW) (pc := 53) f_M_172 rfl d_M_makes_53 ?_
            refine zr_if_le (pc := 56) (tgt := 61) ⟨(ze_r N30_ 81 7).1, (ze_r N30_ 81 7).2⟩ (by decide) d_M_makes_56 (fun hc_56 => ?_) (fun hc_56 => ?_)
            · skip
              exfalso; omega
            · skip
              refine zw_iconst (pc := 59) (v := Int32.ofInt (-1)) (by decide) d_M_makes_59 ?_
              exact zr_iret (pc := 60) (ty := .int) rfl rfl ⟨by omega, by omega⟩ hf_N30_ ⟨(show ze N30_ 81 1 = 0 by first | assumption | omega), (show ((((-1)) = -1 ∧ (¬ ∃ w_ : Nat → Int, zMkR b_ n_ (gF T).length (gmkI T) nm_ w_) ∧ zSR (gF T).length s_ N30_) ∨ ∃ w_ : Nat → Int, zMkR b_ n_ (gF T).length (gmkI T) nm_ w_ ∧ zfit (gF T).length (gmkI T) w_ ∧ ((-1)) = ((znzc w_ (gF T).length : Nat) : Int) ∧ zSR (gF T).length (zpush s_ w_) N30_) by exact Or.inl ⟨rfl, hno_, c34_⟩)⟩ d_M_makes_60
          · skip
            exact absurd hc_31 (by decide)
      · skip
        exact absurd hc_12 (by decide)
  · skip
    have hre_ := ha5_2_hp1_N13_
    rw [hs0_] at hre_
    have hri_ := ha5_3_hp1_N13_
    have hsn_ := ha5_4_hp1_N13_
    have hmt_ : zMkT b_ n_ (gF T).length (gmkI T) nm_ = zRst 3 (gF T).length N13_ := zfe_s hre_ (by unfold zRst; exact zfs_d)
    have hrt_ := hp0_N13_.2.2.1
    show zW l m_M_makes (zn Mz + 0, zw Mz + 0) N13_ 8 [some (.ref 81), none] [] (zpI [1, 2, 3, 4, 5, 6, 7, 8, 9, 10, 11, 38, 39, 41, 42, 43, 60] [95, 96, 97, 98, 100, 111] Mz (fun v N => ze N 81 1 = 0 ∧ (((v = -1 ∧ (¬ ∃ w_ : Nat → Int, zMkR b_ n_ (gF T).length (gmkI T) nm_ w_) ∧ zSR (gF T).length s_ N) ∨ ∃ w_ : Nat → Int, zMkR b_ n_ (gF T).length (gmkI T) nm_ w_ ∧ zfit (gF T).length (gmkI T) w_ ∧ v = ((znzc w_ (gF T).length : Nat) : Int) ∧ zSR (gF T).length (zpush s_ w_) N))))
    refine zw_aload_n (pc := 8) (n := 0) (x := 81) rfl d_M_makes_8 ?_
    refine zr_callV (hf_N13_.w hW) hf_N13_.x (pc := 9) [] [] l_M_183 (c_M_isGood l N13_ (hf_N13_.w hW) ) rfl rfl rfl (by decide) (Nat.le_of_ble_eq_true rfl) d_M_makes_9 ?_
    rintro _ N44_ ⟨v45_, rfl, ⟨hv45_a, hv45_b⟩, hsN44_, hp0_N44_⟩
    obtain rfl := hsN44_.eq.symm
    replace hp0_N44_ : ((v45_ = 1 ∧ ze N13_ 81 7 = 0) ∨ (v45_ = 0 ∧ ze N13_ 81 7 ≠ 0)) := hp0_N44_
    rcases hp0_N44_ with ⟨rfl, ha9_0_hp0_N44_⟩ | ⟨rfl, ha9_0_hp0_N44_⟩
    · skip
      show zW l m_M_makes (zn Mz + 0, zw Mz + 0) N13_ 12 [some (.ref 81), none] [.int (Int32.ofInt 1)] (zpI [1, 2, 3, 4, 5, 6, 7, 8, 9, 10, 11, 38, 39, 41, 42, 43, 60] [95, 96, 97, 98, 100, 111] Mz (fun v N => ze N 81 1 = 0 ∧ (((v = -1 ∧ (¬ ∃ w_ : Nat → Int, zMkR b_ n_ (gF T).length (gmkI T) nm_ w_) ∧ zSR (gF T).length s_ N) ∨ ∃ w_ : Nat → Int, zMkR b_ n_ (gF T).length (gmkI T) nm_ w_ ∧ zfit (gF T).length (gmkI T) w_ ∧ v = ((znzc w_ (gF T).length : Nat) : Int) ∧ zSR (gF T).length (zpush s_ w_) N))))
      refine zr_if_eq (pc := 12) (tgt := 27) ⟨(by decide), (by decide)⟩ (by decide) d_M_makes_12 (fun hc_12 => ?_) (fun hc_12 => ?_)
      · skip
        exact absurd hc_12 (by decide)
      · skip
        refine zw_aload_n (pc := 15) (n := 0) (x := 81) rfl d_M_makes_15 ?_
        refine zr_getI (hf_N13_.w hW) (pc := 16) f_M_155 rfl d_M_makes_16 ?_
        refine zr_if_eq (pc := 19) (tgt := 27) ⟨(ze_r N13_ 81 5).1, (ze_r N13_ 81 5).2⟩ (by decide) d_M_makes_19 (fun hc_19 => ?_) (fun hc_19 => ?_)
        · skip
          refine zw_aload_n (pc := 27) (n := 0) (x := 81) rfl d_M_makes_27 ?_
          refine zr_callV (hf_N13_.w hW) hf_N13_.x (pc := 28) [] [] l_M_183 (c_M_isGood l N13_ (hf_N13_.w hW) ) rfl rfl rfl (by decide) (Nat.le_of_ble_eq_true rfl) d_M_makes_28 ?_
          rintro _ N46_ ⟨v47_, rfl, ⟨hv47_a, hv47_b⟩, hsN46_, hp0_N46_⟩
          obtain rfl := hsN46_.eq.symm
          replace hp0_N46_ : ((v47_ = 1 ∧ ze N13_ 81 7 = 0) ∨ (v47_ = 0 ∧ ze N13_ 81 7 ≠ 0)) := hp0_N46_
          rcases hp0_N46_ with ⟨rfl, ha28_0_hp0_N46_⟩ | ⟨rfl, ha28_0_hp0_N46_⟩
          · skip
            show zW l m_M_makes (zn Mz + 0, zw Mz + 0) N13_ 31 [some (.ref 81), none] [.int (Int32.ofInt 1)] (zpI [1, 2, 3, 4, 5, 6, 7, 8, 9, 10, 11, 38, 39, 41, 42, 43, 60] [95, 96, 97, 98, 100, 111] Mz (fun v N => ze N 81 1 = 0 ∧ (((v = -1 ∧ (¬ ∃ w_ : Nat → Int, zMkR b_ n_ (gF T).length (gmkI T) nm_ w_) ∧ zSR (gF T).length s_ N) ∨ ∃ w_ : Nat → Int, zMkR b_ n_ (gF T).length (gmkI T) nm_ w_ ∧ zfit (gF T).length (gmkI T) w_ ∧ v = ((znzc w_ (gF T).length : Nat) : Int) ∧ zSR (gF T).length (zpush s_ w_) N))))
            refine zr_if_eq (pc := 31) (tgt := 48) ⟨(by decide), (by decide)⟩ (by decide) d_M_makes_31 (fun hc_31 => ?_) (fun hc_31 => ?_)
            · skip
              exact absurd hc_31 (by decide)
            · skip
              refine zw_aload_n (pc := 34) (n := 0) (x := 81) rfl d_M_makes_34 ?_
              refine zr_getI (hf_N13_.w hW) (pc := 35) f_M_275 rfl d_M_makes_35 ?_
              refine zr_if_eq (pc := 38) (tgt := 48) ⟨(ze_r N13_ 81 39).1, (ze_r N13_ 81 39).2⟩ (by decide) d_M_makes_38 (fun hc_38 => ?_) (fun hc_38 => ?_)
              · skip
                refine zw_aload_n (pc := 48) (n := 0) (x := 81) rfl d_M_makes_48 ?_
                refine zr_callV (hf_N13_.w hW) hf_N13_.x (pc := 49) [] [] l_M_373 (c_M_tells l N13_ (hf_N13_.w hW) ) rfl rfl rfl (by decide) (Nat.le_of_ble_eq_true rfl) d_M_makes_49 ?_
                rintro _ N48_ ⟨rfl, hsN48_, -⟩
                have hf_N48_ : zFr [1, 2, 3, 4, 5, 6, 7, 8, 9, 10, 11, 38, 39, 41, 42, 43, 60] [95, 96, 97, 98, 100, 111] Mz N48_ := hf_N13_.tr hsN48_ (by decide) (by decide)
                have e1_N48_ : ze N48_ 81 1 = ze N13_ 81 1 := hsN48_.e (by decide)
                have e3_N48_ : ze N48_ 81 3 = ze N13_ 81 3 := hsN48_.e (by decide)
                have e4_N48_ : ze N48_ 81 4 = ze N13_ 81 4 := hsN48_.e (by decide)
                have e5_N48_ : ze N48_ 81 5 = ze N13_ 81 5 := hsN48_.e (by decide)
                have e7_N48_ : ze N48_ 81 7 = ze N13_ 81 7 := hsN48_.e (by decide)
                have e14_N48_ : ze N48_ 81 14 = ze N13_ 81 14 := hsN48_.e (by decide)
                have e26_N48_ : ze N48_ 81 26 = ze N13_ 81 26 := hsN48_.e (by decide)
                have e38_N48_ : ze N48_ 81 38 = ze N13_ 81 38 := hsN48_.e (by decide)
                have e39_N48_ : ze N48_ 81 39 = ze N13_ 81 39 := hsN48_.e (by decide)
                have e41_N48_ : ze N48_ 81 41 = ze N13_ 81 41 := hsN48_.e (by decide)
                have e42_N48_ : ze N48_ 81 42 = ze N13_ 81 42 := hsN48_.e (by decide)
                have e43_N48_ : ze N48_ 81 43 = ze N13_ 81 43 := hsN48_.e (by decide)
                have e60_N48_ : ze N48_ 81 60 = ze N13_ 81 60 := hsN48_.e (by decide)
                have qzr95_N48_ : zr95 N48_ = zr95 N13_ := zr95_f hsN48_ (by decide)
                have c50_ : zGB T N48_ := zGB.fr hsN48_ c15_ (by decide) (by decide)
                have c51_ : zRNm nm_ (gF T).length (gmkI T) b_ n_ N48_ := zRNm.fr hsN48_ c16_ (by decide) (by decide)
                have c52_ : zSR (gF T).length s_ N48_ := zSR.fr hsN48_ c17_ (by decide) (by decide)
                have c53_ : zTab T N48_ := zTab.fr hsN48_ c18_ (by decide) (by decide)
                have c54_ : zB 85 144 0 5 N48_ := zB.fr hsN48_ c19_ (by decide) (by decide)
                have c55_ : zJX T N48_ := zJX.fr hsN48_ c20_ (by decide) (by decide)
                have c56_ : zFirs T N48_ := zFirs.fr hsN48_ c21_ (by decide) (by decide)
                have c57_ : zSSm T N48_ := zSSm.fr hsN48_ c22_ (by decide) (by decide)
                have c58_ : zGD N48_ := zGD.fr hsN48_ c23_ (by decide) (by decide)
                have c59_ : zRmk (gF T).length (gmkI T) N48_ := zRmk.fr hsN48_ c24_ (by decide) (by decide)
                have c60_ : zRb b_ n_ N48_ := zRb.fr hsN48_ c25_ (by decide) (by decide)
                have c61_ : zRt b_ n_ N48_ := zRt.fr hsN48_ hp0_N13_ (by decide) (by decide)
                show zW l m_M_makes (zn Mz + 0, zw Mz + 0) N48_ 52 [some (.ref 81), none] [] (zpI [1, 2, 3, 4, 5, 6, 7, 8, 9, 10, 11, 38, 39, 41, 42, 43, 60] [95, 96, 97, 98, 100, 111] Mz (fun v N => ze N 81 1 = 0 ∧ (((v = -1 ∧ (¬ ∃ w_ : Nat → Int, zMkR b_ n_ (gF T).length (gmkI T) nm_ w_) ∧ zSR (gF T).length s_ N) ∨ ∃ w_ : Nat → Int, zMkR b_ n_ (gF T).length (gmkI T) nm_ w_ ∧ zfit (gF T).length (gmkI T) w_ ∧ v = ((znzc w_ (gF T).length : Nat) : Int) ∧ zSR (gF T).length (zpush s_ w_) N))))
                refine zw_aload_n (pc := 52) (n := 0) (x := 81) rfl d_M_makes_52 ?_
                refine zr_getI (hf_N48_.w hW) (pc := 53) f_M_172 rfl d_M_makes_53 ?_
                refine zr_if_le (pc := 56) (tgt := 61) ⟨(ze_r N48_ 81 7).1, (ze_r N48_ 81 7).2⟩ (by decide) d_M_makes_56 (fun hc_56 => ?_) (fun hc_56 => ?_)
                · skip
                  obtain ⟨hz3_, hfit_⟩ := zRst_3 (N := N13_) hri_ hsn_ (by omega)
                  obtain ⟨ww_, hww_⟩ : ∃ v : Nat → Int, v = zrw (gF T).length N13_ 95 0 := ⟨_, rfl⟩
                  rw [← hww_] at hz3_ hfit_
                  have hmk_ : zMkR b_ n_ (gF T).length (gmkI T) nm_ ww_ := ⟨_, _, hmt_.trans hz3_, by omega⟩
                  refine zw_aload_n (pc := 61) (n := 0) (x := 81) rfl d_M_makes_61 ?_
                  refine zr_callV (hf_N48_.w hW) hf_N48_.x (pc := 62) [] [] l_M_481 (c_M_actS l N48_ (hf_N48_.w hW) (gF T).length hF64_ s_ c52_) rfl rfl rfl (by decide) (Nat.le_of_ble_eq_true rfl) d_M_makes_62 ?_
                  rintro _ N62_ ⟨rfl, hsN62_, hp0_N62_⟩
                  replace hp0_N62_ : zSA (gF T).length s_ N62_ := hp0_N62_
                  have hf_N62_ : zFr [1, 2, 3, 4, 5, 6, 7, 8, 9, 10, 11, 38, 39, 41, 42, 43, 60] [95, 96, 97, 98, 100, 111] Mz N62_ := hf_N48_.tr hsN62_ (by decide) (by decide)
                  have e1_N62_ : ze N62_ 81 1 = ze N48_ 81 1 := hsN62_.e (by decide)
                  have e3_N62_ : ze N62_ 81 3 = ze N48_ 81 3 := hsN62_.e (by decide)
                  have e4_N62_ : ze N62_ 81 4 = ze N48_ 81 4 := hsN62_.e (by decide)
                  have e5_N62_ : ze N62_ 81 5 = ze N48_ 81 5 := hsN62_.e (by decide)
                  have e7_N62_ : ze N62_ 81 7 = ze N48_ 81 7 := hsN62_.e (by decide)
                  have e14_N62_ : ze N62_ 81 14 = ze N48_ 81 14 := hsN62_.e (by decide)
                  have e26_N62_ : ze N62_ 81 26 = ze N48_ 81 26 := hsN62_.e (by decide)
                  have e38_N62_ : ze N62_ 81 38 = ze N48_ 81 38 := hsN62_.e (by decide)
                  have e39_N62_ : ze N62_ 81 39 = ze N48_ 81 39 := hsN62_.e (by decide)
                  have e41_N62_ : ze N62_ 81 41 = ze N48_ 81 41 := hsN62_.e (by decide)
                  have e42_N62_ : ze N62_ 81 42 = ze N48_ 81 42 := hsN62_.e (by decide)
                  have e43_N62_ : ze N62_ 81 43 = ze N48_ 81 43 := hsN62_.e (by decide)
                  have r60_N62_ := ze_r N62_ 81 60
                  have qzr95_N62_ : zr95 N62_ = zr95 N48_ := zr95_f hsN62_ (by decide)
                  have c64_ : zGB T N62_ := zGB.fr hsN62_ c50_ (by decide) (by decide)
                  have c65_ : zRNm nm_ (gF T).length (gmkI T) b_ n_ N62_ := zRNm.fr hsN62_ c51_ (by decide) (by decide)
                  have c66_ : zTab T N62_ := zTab.fr hsN62_ c53_ (by decide) (by decide)
                  have c67_ : zB 85 144 0 5 N62_ := zB.fr hsN62_ c54_ (by decide) (by decide)
                  have c68_ : zJX T N62_ := zJX.fr hsN62_ c55_ (by decide) (by decide)
                  have c69_ : zFirs T N62_ := zFirs.fr hsN62_ c56_ (by decide) (by decide)
                  have c70_ : zSSm T N62_ := zSSm.fr hsN62_ c57_ (by decide) (by decide)
                  have c71_ : zGD N62_ := zGD.fr hsN62_ c58_ (by decide) (by decide)
                  have c72_ : zRmk (gF T).length (gmkI T) N62_ := zRmk.fr hsN62_ c59_ (by decide) (by decide)
                  have c73_ : zRb b_ n_ N62_ := zRb.fr hsN62_ c60_ (by decide) (by decide)
                  have c74_ : zRt b_ n_ N62_ := zRt.fr hsN62_ c61_ (by decide) (by decide)
                  show zW l m_M_makes (zn Mz + 0, zw Mz + 0) N62_ 65 [some (.ref 81), none] [] (zpI [1, 2, 3, 4, 5, 6, 7, 8, 9, 10, 11, 38, 39, 41, 42, 43, 60] [95, 96, 97, 98, 100, 111] Mz (fun v N => ze N 81 1 = 0 ∧ (((v = -1 ∧ (¬ ∃ w_ : Nat → Int, zMkR b_ n_ (gF T).length (gmkI T) nm_ w_) ∧ zSR (gF T).length s_ N) ∨ ∃ w_ : Nat → Int, zMkR b_ n_ (gF T).length (gmkI T) nm_ w_ ∧ zfit (gF T).length (gmkI T) w_ ∧ v = ((znzc w_ (gF T).length : Nat) : Int) ∧ zSR (gF T).length (zpush s_ w_) N))))
                  refine zw_iconst (pc := 65) (v := Int32.ofInt 0) (by decide) d_M_makes_65 ?_
                  refine zw_istore_n (pc := 66) (i := 1) (L2 := [some (.ref 81), some (.int (Int32.ofInt 0))]) rfl (by decide) rfl d_M_makes_66 ?_
                  have lp_67 : ∀ (n : Nat) (u75_ : Int) (hu75_a : -2147483648 ≤ u75_) (hu75_b : u75_ < 2147483648) (N76_ : zMem) (hs77_ : zFr [] [98] N62_ N76_) (i78_ : 0 ≤ u75_) (i79_ : u75_ ≤ ((gF T).length : Int)) (i80_ : ∀ i : Nat, (i : Int) < u75_ → zg N76_ 98 i = ww_ i), (((gF T).length : Int) - u75_).toNat < n → zW l m_M_makes (zn Mz + 0, zw Mz + 0) N76_ 67 [some (.ref 81), some (.int (Int32.ofInt u75_))] [] (zpI [1, 2, 3, 4, 5, 6, 7, 8, 9, 10, 11, 38, 39, 41, 42, 43, 60] [95, 96, 97, 98, 100, 111] Mz (fun v N => ze N 81 1 = 0 ∧ (((v = -1 ∧ (¬ ∃ w_ : Nat → Int, zMkR b_ n_ (gF T).length (gmkI T) nm_ w_) ∧ zSR (gF T).length s_ N) ∨ ∃ w_ : Nat → Int, zMkR b_ n_ (gF T).length (gmkI T) nm_ w_ ∧ zfit (gF T).length (gmkI T) w_ ∧ v = ((znzc w_ (gF T).length : Nat) : Int) ∧ zSR (gF T).length (zpush s_ w_) N)))) := by
                    intro n
                    induction n with
                    | zero =>
                      intro u75_ hu75_a hu75_b N76_ hs77_ i78_ i79_ i80_ h0
                      exact absurd h0 (Nat.not_lt_zero _)
                    | succ n ih_67 =>
                      intro u75_ hu75_a hu75_b N76_ hs77_ i78_ i79_ i80_ hlt_67
                      have hf_N76_ : zFr [1, 2, 3, 4, 5, 6, 7, 8, 9, 10, 11, 38, 39, 41, 42, 43, 60] [95, 96, 97, 98, 100, 111] Mz N76_ := hf_N62_.tr hs77_ (by decide) (by decide)
                      have e1_N76_ : ze N76_ 81 1 = ze N62_ 81 1 := hs77_.e (by decide)
                      have e3_N76_ : ze N76_ 81 3 = ze N62_ 81 3 := hs77_.e (by decide)
                      have e4_N76_ : ze N76_ 81 4 = ze N62_ 81 4 := hs77_.e (by decide)
                      have e5_N76_ : ze N76_ 81 5 = ze N62_ 81 5 := hs77_.e (by decide)
                      have e7_N76_ : ze N76_ 81 7 = ze N62_ 81 7 := hs77_.e (by decide)
                      have e14_N76_ : ze N76_ 81 14 = ze N62_ 81 14 := hs77_.e (by decide)
                      have e26_N76_ : ze N76_ 81 26 = ze N62_ 81 26 := hs77_.e (by decide)
                      have e38_N76_ : ze N76_ 81 38 = ze N62_ 81 38 := hs77_.e (by decide)
                      have e39_N76_ : ze N76_ 81 39 = ze N62_ 81 39 := hs77_.e (by decide)
                      have e41_N76_ : ze N76_ 81 41 = ze N62_ 81 41 := hs77_.e (by decide)
                      have e42_N76_ : ze N76_ 81 42 = ze N62_ 81 42 := hs77_.e (by decide)
                      have e43_N76_ : ze N76_ 81 43 = ze N62_ 81 43 := hs77_.e (by decide)
                      have e60_N76_ : ze N76_ 81 60 = ze N62_ 81 60 := hs77_.e (by decide)
                      have qzr95_N76_ : zr95 N76_ = zr95 N62_ := zr95_f hs77_ (by decide)
                      have c81_ : zGB T N76_ := zGB.fr hs77_ c64_ (by decide) (by decide)
                      have c82_ : zRNm nm_ (gF T).length (gmkI T) b_ n_ N76_ := zRNm.fr hs77_ c65_ (by decide) (by decide)
                      have c83_ : zTab T N76_ := zTab.fr hs77_ c66_ (by decide) (by decide)
                      have c84_ : zB 85 144 0 5 N76_ := zB.fr hs77_ c67_ (by decide) (by decide)
                      have c85_ : zJX T N76_ := zJX.fr hs77_ c68_ (by decide) (by decide)
                      have c86_ : zFirs T N76_ := zFirs.fr hs77_ c69_ (by decide) (by decide)
                      have c87_ : zSSm T N76_ := zSSm.fr hs77_ c70_ (by decide) (by decide)
                      have c88_ : zGD N76_ := zGD.fr hs77_ c71_ (by decide) (by decide)
                      have c89_ : zRmk (gF T).length (gmkI T) N76_ := zRmk.fr hs77_ c72_ (by decide) (by decide)
                      have c90_ : zRb b_ n_ N76_ := zRb.fr hs77_ c73_ (by decide) (by decide)
                      have c91_ : zRt b_ n_ N76_ := zRt.fr hs77_ c74_ (by decide) (by decide)
                      have c92_ : zSA (gF T).length s_ N76_ := zSA.fr hs77_ hp0_N62_ (by decide) (by decide)
                      have hcw_ := (show ∀ i : Nat, (i : Int) < u75_ → zg N76_ 98 i = ww_ i by assumption)
                      have h95_ : zr95 N76_ = zr95 N13_ := qzr95_N76_.trans (qzr95_N62_.trans qzr95_N48_)
                      refine zw_iload_n (pc := 67) (n := 1) (x := Int32.ofInt u75_) rfl d_M_makes_67 ?_
                      refine zw_aload_n (pc := 68) (n := 0) (x := 81) rfl d_M_makes_68 ?_
                      refine zr_getI0 hf_N76_ hW (pc := 69) (by decide) f_M_235 rfl d_M_makes_69 ?_
                      refine zr_icmp_ge (pc := 72) (tgt := 93) ⟨hu75_a, hu75_b⟩ ⟨(ze_r Mz 81 26).1, (ze_r Mz 81 26).2⟩ (by decide) d_M_makes_72 (fun hc_72 => ?_) (fun hc_72 => ?_)
                      · skip
                        refine zw_aload_n (pc := 93) (n := 0) (x := 81) rfl d_M_makes_93 ?_
                        refine zr_callV (hf_N76_.w hW) hf_N76_.x (pc := 94) [] [] l_M_484 (c_M_partsS l N76_ (hf_N76_.w hW) (gF T).length (gmkI T) (gT_zTA hTt) c89_) rfl rfl rfl (by decide) (Nat.le_of_ble_eq_true rfl) d_M_makes_94 ?_
                        rintro _ N93_ ⟨v94_, rfl, ⟨hv94_a, hv94_b⟩, hsN93_, hp0_N93_⟩
                        obtain rfl := hsN93_.eq.symm
                        replace hp0_N93_ : v94_ = ((znzc (zrw (gF T).length N76_ 98 0) (gF T).length : Nat) : Int) := hp0_N93_
                        show zW l m_M_makes (zn Mz + 0, zw Mz + 0) N76_ 97 [some (.ref 81), some (.int (Int32.ofInt u75_))] [.int (Int32.ofInt v94_)] (zpI [1, 2, 3, 4, 5, 6, 7, 8, 9, 10, 11, 38, 39, 41, 42, 43, 60] [95, 96, 97, 98, 100, 111] Mz (fun v N => ze N 81 1 = 0 ∧ (((v = -1 ∧ (¬ ∃ w_ : Nat → Int, zMkR b_ n_ (gF T).length (gmkI T) nm_ w_) ∧ zSR (gF T).length s_ N) ∨ ∃ w_ : Nat → Int, zMkR b_ n_ (gF T).length (gmkI T) nm_ w_ ∧ zfit (gF T).length (gmkI T) w_ ∧ v = ((znzc w_ (gF T).length : Nat) : Int) ∧ zSR (gF T).length (zpush s_ w_) N))))
                        have hv_ := hp0_N93_
                        have hcv_ : ∀ k_ : Nat, k_ < (gF T).length → zrw (gF T).length N76_ 98 0 k_ = ww_ k_ := fun k_ hk_ => by unfold zrw; rw [if_pos hk_, show (0 : Int).toNat + k_ = k_ by omega]; exact hcw_ k_ (by omega)
                        have hw_ := hv_.trans (congrArg (fun n_ : Nat => (n_ : Int)) (znzc_c (gF T).length hcv_))
                        have hsr_ : zSR (gF T).length (zpush s_ ww_) N76_ := c92_.ps (fun k_ hk_ => hcw_ k_ (by omega))
                        exact zr_iret (pc := 97) (ty := .int) rfl rfl ⟨by omega, by omega⟩ hf_N76_ ⟨(show ze N76_ 81 1 = 0 by first | assumption | omega), (show ((v94_ = -1 ∧ (¬ ∃ w_ : Nat → Int, zMkR b_ n_ (gF T).length (gmkI T) nm_ w_) ∧ zSR (gF T).length s_ N76_) ∨ ∃ w_ : Nat → Int, zMkR b_ n_ (gF T).length (gmkI T) nm_ w_ ∧ zfit (gF T).length (gmkI T) w_ ∧ v94_ = ((znzc w_ (gF T).length : Nat) : Int) ∧ zSR (gF T).length (zpush s_ w_) N76_) by exact Or.inr ⟨ww_, hmk_, hfit_, hw_, hsr_⟩)⟩ d_M_makes_97
                      · skip
                        refine zw_aload_n (pc := 75) (n := 0) (x := 81) rfl d_M_makes_75 ?_
                        refine zr_getF (r := 98) (hf_N76_.w hW) (pc := 76) f_M_66 rfl (zh_98 (hf_N76_.w hW)).1 d_M_makes_76 ?_
                        refine zw_iload_n (pc := 79) (n := 1) (x := Int32.ofInt u75_) rfl d_M_makes_79 ?_
                        refine zw_aload_n (pc := 80) (n := 0) (x := 81) rfl d_M_makes_80 ?_
                        refine zr_getF (r := 95) (hf_N76_.w hW) (pc := 81) f_M_56 rfl (zh_95 (hf_N76_.w hW)).1 d_M_makes_81 ?_
                        refine zw_iload_n (pc := 84) (n := 1) (x := Int32.ofInt u75_) rfl d_M_makes_84 ?_
                        refine zr_laldn (pc := 85) (zh_95 (hf_N76_.w hW)).2 (by decide) (by omega) (by omega) d_M_makes_85 (fun v95_ hv95_ hv95_a hv95_b => ?_)
                        have hx_ := zrw_at (F := (gF T).length) (M := N13_) (q := 95) (k := (u75_).toNat) (e := 0) (by omega) (by omega) (hv95_.trans (congrFun h95_ _)) (by omega)
                        rw [← hww_] at hx_
                        refine zr_last (pc := 86) (zh_98 (hf_N76_.w hW)).2 (by decide) (by decide) (by omega) (by omega) d_M_makes_86 (fun N96_ hN96_ hsN96_ => ?_)
                        have hf_N96_ : zFr [1, 2, 3, 4, 5, 6, 7, 8, 9, 10, 11, 38, 39, 41, 42, 43, 60] [95, 96, 97, 98, 100, 111] Mz N96_ := hf_N76_.tr hsN96_ (by decide) (by decide)
                        have hb0_N96_ : zFr [] [98] N62_ N96_ := hs77_.tr hsN96_ (by decide) (by decide)
                        have e1_N96_ : ze N96_ 81 1 = ze N76_ 81 1 := hsN96_.e (by decide)
                        have e3_N96_ : ze N96_ 81 3 = ze N76_ 81 3 := hsN96_.e (by decide)
                        have e4_N96_ : ze N96_ 81 4 = ze N76_ 81 4 := hsN96_.e (by decide)
                        have e5_N96_ : ze N96_ 81 5 = ze N76_ 81 5 := hsN96_.e (by decide)
                        have e7_N96_ : ze N96_ 81 7 = ze N76_ 81 7 := hsN96_.e (by decide)
                        have e14_N96_ : ze N96_ 81 14 = ze N76_ 81 14 := hsN96_.e (by decide)
                        have e26_N96_ : ze N96_ 81 26 = ze N76_ 81 26 := hsN96_.e (by decide)
                        have e38_N96_ : ze N96_ 81 38 = ze N76_ 81 38 := hsN96_.e (by decide)
                        have e39_N96_ : ze N96_ 81 39 = ze N76_ 81 39 := hsN96_.e (by decide)
                        have e41_N96_ : ze N96_ 81 41 = ze N76_ 81 41 := hsN96_.e (by decide)
                        have e42_N96_ : ze N96_ 81 42 = ze N76_ 81 42 := hsN96_.e (by decide)
                        have e43_N96_ : ze N96_ 81 43 = ze N76_ 81 43 := hsN96_.e (by decide)
                        have e60_N96_ : ze N96_ 81 60 = ze N76_ 81 60 := hsN96_.e (by decide)
                        have qzr95_N96_ : zr95 N96_ = zr95 N76_ := zr95_f hsN96_ (by decide)
                        have c97_ : zGB T N96_ := zGB.fr hsN96_ c81_ (by decide) (by decide)
                        have c98_ : zRNm nm_ (gF T).length (gmkI T) b_ n_ N96_ := zRNm.fr hsN96_ c82_ (by decide) (by decide)
                        have c99_ : zTab T N96_ := zTab.fr hsN96_ c83_ (by decide) (by decide)
                        have c100_ : zB 85 144 0 5 N96_ := zB.fr hsN96_ c84_ (by decide) (by decide)
                        have c101_ : zJX T N96_ := zJX.fr hsN96_ c85_ (by decide) (by decide)
                        have c102_ : zFirs T N96_ := zFirs.fr hsN96_ c86_ (by decide) (by decide)
                        have c103_ : zSSm T N96_ := zSSm.fr hsN96_ c87_ (by decide) (by decide)
                        have c104_ : zGD N96_ := zGD.fr hsN96_ c88_ (by decide) (by decide)
                        have c105_ : zRmk (gF T).length (gmkI T) N96_ := zRmk.fr hsN96_ c89_ (by decide) (by decide)
                        have c106_ : zRb b_ n_ N96_ := zRb.fr hsN96_ c90_ (by decide) (by decide)
                        have c107_ : zRt b_ n_ N96_ := zRt.fr hsN96_ c91_ (by decide) (by decide)
                        have c108_ : zSA (gF T).length s_ N96_ := zSA.fr hsN96_ c92_ (by decide) (by decide)
                        have hcn_ : ∀ i : Nat, (i : Int) < u75_ + 1 → zg N96_ 98 i = ww_ i := fun i_ hi_ => by by_cases g_ : (i_ : Int) = u75_; (rw [show i_ = (u75_).toNat by omega, zs_getJ hN96_ ⟨by omega, by omega⟩]; exact hx_); (rw [zs_othJ hN96_ (by omega)]; exact hcw_ i_ (by omega))
                        refine zr_iinc (pc := 87) (i := 1) (a := u75_) (n := 1) (L2 := [some (.ref 81), some (.int (Int32.ofInt (u75_ + 1)))]) rfl (by decide) rfl d_M_makes_87 ?_
                        refine zw_goto (pc := 90) (tgt := 67) (by decide) d_M_makes_90 ?_
                        exact ih_67 (u75_ + 1) (by omega) (by omega) N96_ hb0_N96_ (show 0 ≤ (u75_ + 1) by first | assumption | omega) (show (u75_ + 1) ≤ ((gF T).length : Int) by first | assumption | omega) (show ∀ i : Nat, (i : Int) < (u75_ + 1) → zg N96_ 98 i = ww_ i by exact hcn_) (by omega)
                  exact lp_67 _ 0 (by decide) (by decide) N62_ zFr.rf (show 0 ≤ (0 : Int) by first | assumption | omega) (show (0 : Int) ≤ ((gF T).length : Int) by first | assumption | omega) (show ∀ i : Nat, (i : Int) < (0 : Int) → zg N62_ 98 i = ww_ i by intro i_ hi_; omega) (Nat.lt_succ_self _)
                · skip
                  exfalso; omega
              · skip
                have hno_ : (¬ ∃ w_ : Nat → Int, zMkR b_ n_ (gF T).length (gmkI T) nm_ w_) := by rintro ⟨w_, q_, un_, e_, z_⟩; rw [hmt_, zRst_g (by omega)] at e_; have e5_ : true = false := congrArg (fun x_ : zFst => x_.2.2.2.2.2) e_; cases e5_
                refine zw_aload_n (pc := 41) (n := 0) (x := 81) rfl d_M_makes_41 ?_
                refine zw_bipush (pc := 42) (v := Int32.ofInt 6) (by decide) d_M_makes_42 ?_
                refine zw_iconst (pc := 44) (v := Int32.ofInt 0) (by decide) d_M_makes_44 ?_
                refine zr_callV (hf_N13_.w hW) hf_N13_.x (pc := 45) [.int (Int32.ofInt 6), .int (Int32.ofInt 0)] [] l_M_168 (c_M_wrongAtF l N13_ (hf_N13_.w hW) 6 (by decide) (by decide) 0 (by decide) (by decide) (show 1 ≤ 6 by first | assumption | omega)) rfl rfl rfl (by decide) (Nat.le_of_ble_eq_true rfl) d_M_makes_45 ?_
                rintro _ N109_ ⟨rfl, hsN109_, hp0_N109_⟩
                replace hp0_N109_ : 1 ≤ ze N109_ 81 7 := hp0_N109_
                have hf_N109_ : zFr [1, 2, 3, 4, 5, 6, 7, 8, 9, 10, 11, 38, 39, 41, 42, 43, 60] [95, 96, 97, 98, 100, 111] Mz N109_ := hf_N13_.tr hsN109_ (by decide) (by decide)
                have e1_N109_ : ze N109_ 81 1 = ze N13_ 81 1 := hsN109_.e (by decide)
                have e3_N109_ : ze N109_ 81 3 = ze N13_ 81 3 := hsN109_.e (by decide)
                have e4_N109_ : ze N109_ 81 4 = ze N13_ 81 4 := hsN109_.e (by decide)
                have e5_N109_ : ze N109_ 81 5 = ze N13_ 81 5 := hsN109_.e (by decide)
                have r7_N109_ := ze_r N109_ 81 7
                have e14_N109_ : ze N109_ 81 14 = ze N13_ 81 14 := hsN109_.e (by decide)
                have e26_N109_ : ze N109_ 81 26 = ze N13_ 81 26 := hsN109_.e (by decide)
                have e38_N109_ : ze N109_ 81 38 = ze N13_ 81 38 := hsN109_.e (by decide)
                have e39_N109_ : ze N109_ 81 39 = ze N13_ 81 39 := hsN109_.e (by decide)
                have e41_N109_ : ze N109_ 81 41 = ze N13_ 81 41 := hsN109_.e (by decide)
                have e42_N109_ : ze N109_ 81 42 = ze N13_ 81 42 := hsN109_.e (by decide)
                have e43_N109_ : ze N109_ 81 43 = ze N13_ 81 43 := hsN109_.e (by decide)
                have e60_N109_ : ze N109_ 81 60 = ze N13_ 81 60 := hsN109_.e (by decide)
                have qzr95_N109_ : zr95 N109_ = zr95 N13_ := zr95_f hsN109_ (by decide)
                have c111_ : zGB T N109_ := zGB.fr hsN109_ c15_ (by decide) (by decide)
                have c112_ : zRNm nm_ (gF T).length (gmkI T) b_ n_ N109_ := zRNm.fr hsN109_ c16_ (by decide) (by decide)
                have c113_ : zSR (gF T).length s_ N109_ := zSR.fr hsN109_ c17_ (by decide) (by decide)
                have c114_ : zTab T N109_ := zTab.fr hsN109_ c18_ (by decide) (by decide)
                have c115_ : zB 85 144 0 5 N109_ := zB.fr hsN109_ c19_ (by decide) (by decide)
                have c116_ : zJX T N109_ := zJX.fr hsN109_ c20_ (by decide) (by decide)
                have c117_ : zFirs T N109_ := zFirs.fr hsN109_ c21_ (by decide) (by decide)
                have c118_ : zSSm T N109_ := zSSm.fr hsN109_ c22_ (by decide) (by decide)
                have c119_ : zGD N109_ := zGD.fr hsN109_ c23_ (by decide) (by decide)
                have c120_ : zRmk (gF T).length (gmkI T) N109_ := zRmk.fr hsN109_ c24_ (by decide) (by decide)
                have c121_ : zRb b_ n_ N109_ := zRb.fr hsN109_ c25_ (by decide) (by decide)
                have c122_ : zRt b_ n_ N109_ := zRt.fr hsN109_ hp0_N13_ (by decide) (by decide)
                show zW l m_M_makes (zn Mz + 0, zw Mz + 0) N109_ 48 [some (.ref 81), none] [] (zpI [1, 2, 3, 4, 5, 6, 7, 8, 9, 10, 11, 38, 39, 41, 42, 43, 60] [95, 96, 97, 98, 100, 111] Mz (fun v N => ze N 81 1 = 0 ∧ (((v = -1 ∧ (¬ ∃ w_ : Nat → Int, zMkR b_ n_ (gF T).length (gmkI T) nm_ w_) ∧ zSR (gF T).length s_ N) ∨ ∃ w_ : Nat → Int, zMkR b_ n_ (gF T).length (gmkI T) nm_ w_ ∧ zfit (gF T).length (gmkI T) w_ ∧ v = ((znzc w_ (gF T).length : Nat) : Int) ∧ zSR (gF T).length (zpush s_ w_) N))))
                refine zw_aload_n (pc := 48) (n := 0) (x := 81) rfl d_M_makes_48 ?_
                refine zr_callV (hf_N109_.w hW) hf_N109_.x (pc := 49) [] [] l_M_373 (c_M_tells l N109_ (hf_N109_.w hW) ) rfl rfl rfl (by decide) (Nat.le_of_ble_eq_true rfl) d_M_makes_49 ?_
                rintro _ N123_ ⟨rfl, hsN123_, -⟩
                have hf_N123_ : zFr [1, 2, 3, 4, 5, 6, 7, 8, 9, 10, 11, 38, 39, 41, 42, 43, 60] [95, 96, 97, 98, 100, 111] Mz N123_ := hf_N109_.tr hsN123_ (by decide) (by decide)
                have e1_N123_ : ze N123_ 81 1 = ze N109_ 81 1 := hsN123_.e (by decide)
                have e3_N123_ : ze N123_ 81 3 = ze N109_ 81 3 := hsN123_.e (by decide)
                have e4_N123_ : ze N123_ 81 4 = ze N109_ 81 4 := hsN123_.e (by decide)
                have e5_N123_ : ze N123_ 81 5 = ze N109_ 81 5 := hsN123_.e (by decide)
                have e7_N123_ : ze N123_ 81 7 = ze N109_ 81 7 := hsN123_.e (by decide)
                have e14_N123_ : ze N123_ 81 14 = ze N109_ 81 14 := hsN123_.e (by decide)
                have e26_N123_ : ze N123_ 81 26 = ze N109_ 81 26 := hsN123_.e (by decide)
                have e38_N123_ : ze N123_ 81 38 = ze N109_ 81 38 := hsN123_.e (by decide)
                have e39_N123_ : ze N123_ 81 39 = ze N109_ 81 39 := hsN123_.e (by decide)
                have e41_N123_ : ze N123_ 81 41 = ze N109_ 81 41 := hsN123_.e (by decide)
                have e42_N123_ : ze N123_ 81 42 = ze N109_ 81 42 := hsN123_.e (by decide)
                have e43_N123_ : ze N123_ 81 43 = ze N109_ 81 43 := hsN123_.e (by decide)
                have e60_N123_ : ze N123_ 81 60 = ze N109_ 81 60 := hsN123_.e (by decide)
                have qzr95_N123_ : zr95 N123_ = zr95 N109_ := zr95_f hsN123_ (by decide)
                have c125_ : zGB T N123_ := zGB.fr hsN123_ c111_ (by decide) (by decide)
                have c126_ : zRNm nm_ (gF T).length (gmkI T) b_ n_ N123_ := zRNm.fr hsN123_ c112_ (by decide) (by decide)
                have c127_ : zSR (gF T).length s_ N123_ := zSR.fr hsN123_ c113_ (by decide) (by decide)
                have c128_ : zTab T N123_ := zTab.fr hsN123_ c114_ (by decide) (by decide)
                have c129_ : zB 85 144 0 5 N123_ := zB.fr hsN123_ c115_ (by decide) (by decide)
                have c130_ : zJX T N123_ := zJX.fr hsN123_ c116_ (by decide) (by decide)
                have c131_ : zFirs T N123_ := zFirs.fr hsN123_ c117_ (by decide) (by decide)
                have c132_ : zSSm T N123_ := zSSm.fr hsN123_ c118_ (by decide) (by decide)
                have c133_ : zGD N123_ := zGD.fr hsN123_ c119_ (by decide) (by decide)
                have c134_ : zRmk (gF T).length (gmkI T) N123_ := zRmk.fr hsN123_ c120_ (by decide) (by decide)
                have c135_ : zRb b_ n_ N123_ := zRb.fr hsN123_ c121_ (by decide) (by decide)
                have c136_ : zRt b_ n_ N123_ := zRt.fr hsN123_ c122_ (by decide) (by decide)
                show zW l m_M_makes (zn Mz + 0, zw Mz + 0) N123_ 52 [some (.ref 81), none] [] (zpI [1, 2, 3, 4, 5, 6, 7, 8, 9, 10, 11, 38, 39, 41, 42, 43, 60] [95, 96, 97, 98, 100, 111] Mz (fun v N => ze N 81 1 = 0 ∧ (((v = -1 ∧ (¬ ∃ w_ : Nat → Int, zMkR b_ n_ (gF T).length (gmkI T) nm_ w_) ∧ zSR (gF T).length s_ N) ∨ ∃ w_ : Nat → Int, zMkR b_ n_ (gF T).length (gmkI T) nm_ w_ ∧ zfit (gF T).length (gmkI T) w_ ∧ v = ((znzc w_ (gF T).length : Nat) : Int) ∧ zSR (gF T).length (zpush s_ w_) N))))
                refine zw_aload_n (pc := 52) (n := 0) (x := 81) rfl d_M_makes_52 ?_
                refine zr_getI (hf_N123_.w hW) (pc := 53) f_M_172 rfl d_M_makes_53 ?_
                refine zr_if_le (pc := 56) (tgt := 61) ⟨(ze_r N123_ 81 7).1, (ze_r N123_ 81 7).2⟩ (by decide) d_M_makes_56 (fun hc_56 => ?_) (fun hc_56 => ?_)
                · skip
                  exfalso; omega
                · skip
                  refine zw_iconst (pc := 59) (v := Int32.ofInt (-1)) (by decide) d_M_makes_59 ?_
                  exact zr_iret (pc := 60) (ty := .int) rfl rfl ⟨by omega, by omega⟩ hf_N123_ ⟨(show ze N123_ 81 1 = 0 by first | assumption | omega), (show ((((-1)) = -1 ∧ (¬ ∃ w_ : Nat → Int, zMkR b_ n_ (gF T).length (gmkI T) nm_ w_) ∧ zSR (gF T).length s_ N123_) ∨ ∃ w_ : Nat → Int, zMkR b_ n_ (gF T).length (gmkI T) nm_ w_ ∧ zfit (gF T).length (gmkI T) w_ ∧ ((-1)) = ((znzc w_ (gF T).length : Nat) : Int) ∧ zSR (gF T).length (zpush s_ w_) N123_) by exact Or.inl ⟨rfl, hno_, c127_⟩)⟩ d_M_makes_60
          · skip
            exfalso; omega
        · skip
          have hno_ : (¬ ∃ w_ : Nat → Int, zMkR b_ n_ (gF T).length (gmkI T) nm_ w_) := by rintro ⟨w_, q_, un_, e_, z_⟩; rw [hmt_] at e_; have e4_ : (ze N13_ 81 4).toNat = q_ := congrArg (fun x_ : zFst => x_.2.1) e_; rw [← e4_] at z_; omega
          refine zw_aload_n (pc := 22) (n := 0) (x := 81) rfl d_M_makes_22 ?_
          refine zw_iconst (pc := 23) (v := Int32.ofInt 2) (by decide) d_M_makes_23 ?_
          refine zr_callV (hf_N13_.w hW) hf_N13_.x (pc := 24) [.int (Int32.ofInt 2)] [] l_M_190 (c_M_wrongF l N13_ (hf_N13_.w hW) 2 (by decide) (by decide) (show 1 ≤ 2 by first | assumption | omega)) rfl rfl rfl (by decide) (Nat.le_of_ble_eq_true rfl) d_M_makes_24 ?_
          rintro _ N137_ ⟨rfl, hsN137_, hp0_N137_⟩
          replace hp0_N137_ : 1 ≤ ze N137_ 81 7 := hp0_N137_
          have hf_N137_ : zFr [1, 2, 3, 4, 5, 6, 7, 8, 9, 10, 11, 38, 39, 41, 42, 43, 60] [95, 96, 97, 98, 100, 111] Mz N137_ := hf_N13_.tr hsN137_ (by decide) (by decide)
          have e1_N137_ : ze N137_ 81 1 = ze N13_ 81 1 := hsN137_.e (by decide)
          have e3_N137_ : ze N137_ 81 3 = ze N13_ 81 3 := hsN137_.e (by decide)
          have e4_N137_ : ze N137_ 81 4 = ze N13_ 81 4 := hsN137_.e (by decide)
          have e5_N137_ : ze N137_ 81 5 = ze N13_ 81 5 := hsN137_.e (by decide)
          have r7_N137_ := ze_r N137_ 81 7
          have e14_N137_ : ze N137_ 81 14 = ze N13_ 81 14 := hsN137_.e (by decide)
          have e26_N137_ : ze N137_ 81 26 = ze N13_ 81 26 := hsN137_.e (by decide)
          have e38_N137_ : ze N137_ 81 38 = ze N13_ 81 38 := hsN137_.e (by decide)
          have e39_N137_ : ze N137_ 81 39 = ze N13_ 81 39 := hsN137_.e (by decide)
          have e41_N137_ : ze N137_ 81 41 = ze N13_ 81 41 := hsN137_.e (by decide)
          have e42_N137_ : ze N137_ 81 42 = ze N13_ 81 42 := hsN137_.e (by decide)
          have e43_N137_ : ze N137_ 81 43 = ze N13_ 81 43 := hsN137_.e (by decide)
          have e60_N137_ : ze N137_ 81 60 = ze N13_ 81 60 := hsN137_.e (by decide)
          have qzr95_N137_ : zr95 N137_ = zr95 N13_ := zr95_f hsN137_ (by decide)
          have c139_ : zGB T N137_ := zGB.fr hsN137_ c15_ (by decide) (by decide)
          have c140_ : zRNm nm_ (gF T).length (gmkI T) b_ n_ N137_ := zRNm.fr hsN137_ c16_ (by decide) (by decide)
          have c141_ : zSR (gF T).length s_ N137_ := zSR.fr hsN137_ c17_ (by decide) (by decide)
          have c142_ : zTab T N137_ := zTab.fr hsN137_ c18_ (by decide) (by decide)
          have c143_ : zB 85 144 0 5 N137_ := zB.fr hsN137_ c19_ (by decide) (by decide)
          have c144_ : zJX T N137_ := zJX.fr hsN137_ c20_ (by decide) (by decide)
          have c145_ : zFirs T N137_ := zFirs.fr hsN137_ c21_ (by decide) (by decide)
          have c146_ : zSSm T N137_ := zSSm.fr hsN137_ c22_ (by decide) (by decide)
          have c147_ : zGD N137_ := zGD.fr hsN137_ c23_ (by decide) (by decide)
          have c148_ : zRmk (gF T).length (gmkI T) N137_ := zRmk.fr hsN137_ c24_ (by decide) (by decide)
          have c149_ : zRb b_ n_ N137_ := zRb.fr hsN137_ c25_ (by decide) (by decide)
          have c150_ : zRt b_ n_ N137_ := zRt.fr hsN137_ hp0_N13_ (by decide) (by decide)
          show zW l m_M_makes (zn Mz + 0, zw Mz + 0) N137_ 27 [some (.ref 81), none] [] (zpI [1, 2, 3, 4, 5, 6, 7, 8, 9, 10, 11, 38, 39, 41, 42, 43, 60] [95, 96, 97, 98, 100, 111] Mz (fun v N => ze N 81 1 = 0 ∧ (((v = -1 ∧ (¬ ∃ w_ : Nat → Int, zMkR b_ n_ (gF T).length (gmkI T) nm_ w_) ∧ zSR (gF T).length s_ N) ∨ ∃ w_ : Nat → Int, zMkR b_ n_ (gF T).length (gmkI T) nm_ w_ ∧ zfit (gF T).length (gmkI T) w_ ∧ v = ((znzc w_ (gF T).length : Nat) : Int) ∧ zSR (gF T).length (zpush s_ w_) N))))
          refine zw_aload_n (pc := 27) (n := 0) (x := 81) rfl d_M_makes_27 ?_
          refine zr_callV (hf_N137_.w hW) hf_N137_.x (pc := 28) [] [] l_M_183 (c_M_isGood l N137_ (hf_N137_.w hW) ) rfl rfl rfl (by decide) (Nat.le_of_ble_eq_true rfl) d_M_makes_28 ?_
          rintro _ N151_ ⟨v152_, rfl, ⟨hv152_a, hv152_b⟩, hsN151_, hp0_N151_⟩
          obtain rfl := hsN151_.eq.symm
          replace hp0_N151_ : ((v152_ = 1 ∧ ze N137_ 81 7 = 0) ∨ (v152_ = 0 ∧ ze N137_ 81 7 ≠ 0)) := hp0_N151_
          rcases hp0_N151_ with ⟨rfl, ha28_0_hp0_N151_⟩ | ⟨rfl, ha28_0_hp0_N151_⟩
          · skip
            exfalso; omega
          · skip
            show zW l m_M_makes (zn Mz + 0, zw Mz + 0) N137_ 31 [some (.ref 81), none] [.int (Int32.ofInt 0)] (zpI [1, 2, 3, 4, 5, 6, 7, 8, 9, 10, 11, 38, 39, 41, 42, 43, 60] [95, 96, 97, 98, 100, 111] Mz (fun v N => ze N 81 1 = 0 ∧ (((v = -1 ∧ (¬ ∃ w_ : Nat → Int, zMkR b_ n_ (gF T).length (gmkI T) nm_ w_) ∧ zSR (gF T).length s_ N) ∨ ∃ w_ : Nat → Int, zMkR b_ n_ (gF T).length (gmkI T) nm_ w_ ∧ zfit (gF T).length (gmkI T) w_ ∧ v = ((znzc w_ (gF T).length : Nat) : Int) ∧ zSR (gF T).length (zpush s_ w_) N))))
            refine zr_if_eq (pc := 31) (tgt := 48) ⟨(by decide), (by decide)⟩ (by decide) d_M_makes_31 (fun hc_31 => ?_) (fun hc_31 => ?_)
            · skip
              refine zw_aload_n (pc := 48) (n := 0) (x := 81) rfl d_M_makes_48 ?_
              refine zr_callV (hf_N137_.w hW) hf_N137_.x (pc := 49) [] [] l_M_373 (c_M_tells l N137_ (hf_N137_.w hW) ) rfl rfl rfl (by decide) (Nat.le_of_ble_eq_true rfl) d_M_makes_49 ?_
              rintro _ N153_ ⟨rfl, hsN153_, -⟩
              have hf_N153_ : zFr [1, 2, 3, 4, 5, 6, 7, 8, 9, 10, 11, 38, 39, 41, 42, 43, 60] [95, 96, 97, 98, 100, 111] Mz N153_ := hf_N137_.tr hsN153_ (by decide) (by decide)
              have e1_N153_ : ze N153_ 81 1 = ze N137_ 81 1 := hsN153_.e (by decide)
              have e3_N153_ : ze N153_ 81 3 = ze N137_ 81 3 := hsN153_.e (by decide)
              have e4_N153_ : ze N153_ 81 4 = ze N137_ 81 4 := hsN153_.e (by decide)
              have e5_N153_ : ze N153_ 81 5 = ze N137_ 81 5 := hsN153_.e (by decide)
              have e7_N153_ : ze N153_ 81 7 = ze N137_ 81 7 := hsN153_.e (by decide)
              have e14_N153_ : ze N153_ 81 14 = ze N137_ 81 14 := hsN153_.e (by decide)
              have e26_N153_ : ze N153_ 81 26 = ze N137_ 81 26 := hsN153_.e (by decide)
              have e38_N153_ : ze N153_ 81 38 = ze N137_ 81 38 := hsN153_.e (by decide)
              have e39_N153_ : ze N153_ 81 39 = ze N137_ 81 39 := hsN153_.e (by decide)
              have e41_N153_ : ze N153_ 81 41 = ze N137_ 81 41 := hsN153_.e (by decide)
              have e42_N153_ : ze N153_ 81 42 = ze N137_ 81 42 := hsN153_.e (by decide)
              have e43_N153_ : ze N153_ 81 43 = ze N137_ 81 43 := hsN153_.e (by decide)
              have e60_N153_ : ze N153_ 81 60 = ze N137_ 81 60 := hsN153_.e (by decide)
              have qzr95_N153_ : zr95 N153_ = zr95 N137_ := zr95_f hsN153_ (by decide)
              have c155_ : zGB T N153_ := zGB.fr hsN153_ c139_ (by decide) (by decide)
              have c156_ : zRNm nm_ (gF T).length (gmkI T) b_ n_ N153_ := zRNm.fr hsN153_ c140_ (by decide) (by decide)
              have c157_ : zSR (gF T).length s_ N153_ := zSR.fr hsN153_ c141_ (by decide) (by decide)
              have c158_ : zTab T N153_ := zTab.fr hsN153_ c142_ (by decide) (by decide)
              have c159_ : zB 85 144 0 5 N153_ := zB.fr hsN153_ c143_ (by decide) (by decide)
              have c160_ : zJX T N153_ := zJX.fr hsN153_ c144_ (by decide) (by decide)
              have c161_ : zFirs T N153_ := zFirs.fr hsN153_ c145_ (by decide) (by decide)
              have c162_ : zSSm T N153_ := zSSm.fr hsN153_ c146_ (by decide) (by decide)
              have c163_ : zGD N153_ := zGD.fr hsN153_ c147_ (by decide) (by decide)
              have c164_ : zRmk (gF T).length (gmkI T) N153_ := zRmk.fr hsN153_ c148_ (by decide) (by decide)
              have c165_ : zRb b_ n_ N153_ := zRb.fr hsN153_ c149_ (by decide) (by decide)
              have c166_ : zRt b_ n_ N153_ := zRt.fr hsN153_ c150_ (by decide) (by decide)
              show zW l m_M_makes (zn Mz + 0, zw Mz + 0) N153_ 52 [some (.ref 81), none] [] (zpI [1, 2, 3, 4, 5, 6, 7, 8, 9, 10, 11, 38, 39, 41, 42, 43, 60] [95, 96, 97, 98, 100, 111] Mz (fun v N => ze N 81 1 = 0 ∧ (((v = -1 ∧ (¬ ∃ w_ : Nat → Int, zMkR b_ n_ (gF T).length (gmkI T) nm_ w_) ∧ zSR (gF T).length s_ N) ∨ ∃ w_ : Nat → Int, zMkR b_ n_ (gF T).length (gmkI T) nm_ w_ ∧ zfit (gF T).length (gmkI T) w_ ∧ v = ((znzc w_ (gF T).length : Nat) : Int) ∧ zSR (gF T).length (zpush s_ w_) N))))
              refine zw_aload_n (pc := 52) (n := 0) (x := 81) rfl d_M_makes_52 ?_
              refine zr_getI (hf_N153_.w hW) (pc := 53) f_M_172 rfl d_M_makes_53 ?_
              refine zr_if_le (pc := 56) (tgt := 61) ⟨(ze_r N153_ 81 7).1, (ze_r N153_ 81 7).2⟩ (by decide) d_M_makes_56 (fun hc_56 => ?_) (fun hc_56 => ?_)
              · skip
                exfalso; omega
              · skip
                refine zw_iconst (pc := 59) (v := Int32.ofInt (-1)) (by decide) d_M_makes_59 ?_
                exact zr_iret (pc := 60) (ty := .int) rfl rfl ⟨by omega, by omega⟩ hf_N153_ ⟨(show ze N153_ 81 1 = 0 by first | assumption | omega), (show ((((-1)) = -1 ∧ (¬ ∃ w_ : Nat → Int, zMkR b_ n_ (gF T).length (gmkI T) nm_ w_) ∧ zSR (gF T).length s_ N153_) ∨ ∃ w_ : Nat → Int, zMkR b_ n_ (gF T).length (gmkI T) nm_ w_ ∧ zfit (gF T).length (gmkI T) w_ ∧ ((-1)) = ((znzc w_ (gF T).length : Nat) : Int) ∧ zSR (gF T).length (zpush s_ w_) N153_) by exact Or.inl ⟨rfl, hno_, c157_⟩)⟩ d_M_makes_60
            · skip
              exact absurd hc_31 (by decide)
    · skip
      exfalso; omega
