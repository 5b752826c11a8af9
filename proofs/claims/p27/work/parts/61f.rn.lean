set_option maxHeartbeats 40000000 in
theorem c_M_troupeN (l : Launch) (Mz : zMem) (hW : zMt Mz) (b_ : Nat → Int) (n_ : Nat) (mv0_ : List Nat) (F0_ : Nat) (K0_ : Nat → Nat → Int) (hF0_ : F0_ ≤ 64) (nm0_ : List (Int × (Nat → Int))) (p0_ : zRp b_ n_ Mz) (p1_ : zIF Mz) (p2_ : 0 ≤ ze Mz 81 18) (p3_ : ze Mz 81 18 ≤ 8) (p4_ : zB 83 24 0 5 Mz) (p5_ : zB 85 144 0 5 Mz) (p6_ : 0 ≤ ze Mz 81 60) (p7_ : ze Mz 81 60 ≤ 12) (p8_ : zMvq mv0_ Mz) (p9_ : zRNi nm0_ F0_ K0_ Mz) : zC l m_M_troupe 0 0 [.ref 81] Mz (zpI [1, 2, 3, 4, 5, 6, 7, 8, 9, 10, 11, 12, 13, 14, 16, 17, 18, 20, 25, 26, 38, 39, 41, 42, 43, 58, 60] [83, 84, 85, 86, 87, 88, 89, 90, 91, 92, 93, 94, 95, 96, 97, 98, 100, 101, 102, 103, 104] Mz (fun v N => ze N 81 1 = 0 ∧ 0 ≤ ze N 81 14 ∧ ze N 81 14 ≤ 8 ∧ 0 ≤ ze N 81 18 ∧ ze N 81 18 ≤ 8 ∧ 0 ≤ ze N 81 60 ∧ ze N 81 60 ≤ 12 ∧ zIF N ∧ zB 83 24 0 5 N ∧ (∃ T : zGT, T ∈ gTabs ∧ zGB T N) ∧ (((v = -1 ∧ zTrB b_ n_ (zru zpB b_ n_ 0) ∧ (∃ T : zGT, T ∈ gTabs ∧ zGB T N ∧ zTm mv0_ T ∧ zCdS (ze Mz 81 16) mv0_ T N) ∧ zMvq mv0_ N ∧ ze N 81 16 = ze Mz 81 16 ∧ zRNm nm0_ F0_ K0_ b_ n_ N ∧ zRNi nm0_ F0_ K0_ N ∧ (∀ j : Nat, zg N 98 j = zg Mz 98 j) ∧ ze N 81 60 = ze Mz 81 60) ∨ ∃ P : Nat, ∃ mv : List Nat, ∃ T : zGT, ∃ nm : List (Int × (Nat → Int)), zTrN b_ n_ (zru zpB b_ n_ 0) P mv T nm ∧ v = (gN T : Int) ∧ zGB T N ∧ zMvq mv N ∧ ze N 81 16 = (P : Int) ∧ zCdS (P : Int) mv T N ∧ zRNm nm (gF T).length (gmkI T) b_ n_ N ∧ zRNi nm (gF T).length (gmkI T) N ∧ zZrJ 98 64 N ∧ ze N 81 60 = 0)))) := by
  refine zC_of (L0 := [some (.ref 81)]) md_M_troupe (Nat.le_of_ble_eq_true rfl) rfl ?_ zQ0
  have hf : zFr [1, 2, 3, 4, 5, 6, 7, 8, 9, 10, 11, 12, 13, 14, 16, 17, 18, 20, 25, 26, 38, 39, 41, 42, 43, 58, 60] [83, 84, 85, 86, 87, 88, 89, 90, 91, 92, 93, 94, 95, 96, 97, 98, 100, 101, 102, 103, 104] Mz Mz := zFr.rf
  have r_1 := ze_r Mz 81 1
  have r_4 := ze_r Mz 81 4
  have r_7 := ze_r Mz 81 7
  have r_12 := ze_r Mz 81 12
  have r_13 := ze_r Mz 81 13
  have r_14 := ze_r Mz 81 14
  have r_16 := ze_r Mz 81 16
  have r_18 := ze_r Mz 81 18
  have r_20 := ze_r Mz 81 20
  have r_60 := ze_r Mz 81 60
  refine zw_aload_n (pc := 0) (n := 0) (x := 81) rfl (zdal_p dlC_M_troupe_57 (i := 0) rfl) ?_
  refine zw_iconst (pc := 1) (v := Int32.ofInt 1) (by decide) (zdal_p dlC_M_troupe_57 (i := 1) rfl) ?_
  refine zr_putI (hf.w hW) (pc := 2) f_M_115 rfl rfl ⟨by omega, by omega⟩ rfl rfl (zdal_p dlC_M_troupe_57 (i := 2) rfl) (fun N1_ hsN1_ hvN1_ => ?_)
  have hf_N1_ : zFr [1, 2, 3, 4, 5, 6, 7, 8, 9, 10, 11, 12, 13, 14, 16, 17, 18, 20, 25, 26, 38, 39, 41, 42, 43, 58, 60] [83, 84, 85, 86, 87, 88, 89, 90, 91, 92, 93, 94, 95, 96, 97, 98, 100, 101, 102, 103, 104] Mz N1_ := hf.tr hsN1_ (by decide) (by decide)
  have e1_N1_ : ze N1_ 81 1 = ze Mz 81 1 := hsN1_.e (by decide)
  have e4_N1_ : ze N1_ 81 4 = ze Mz 81 4 := hsN1_.e (by decide)
  have e7_N1_ : ze N1_ 81 7 = ze Mz 81 7 := hsN1_.e (by decide)
  have r12_N1_ := ze_r N1_ 81 12
  have e13_N1_ : ze N1_ 81 13 = ze Mz 81 13 := hsN1_.e (by decide)
  have e14_N1_ : ze N1_ 81 14 = ze Mz 81 14 := hsN1_.e (by decide)
  have e16_N1_ : ze N1_ 81 16 = ze Mz 81 16 := hsN1_.e (by decide)
  have e18_N1_ : ze N1_ 81 18 = ze Mz 81 18 := hsN1_.e (by decide)
  have e20_N1_ : ze N1_ 81 20 = ze Mz 81 20 := hsN1_.e (by decide)
  have e60_N1_ : ze N1_ 81 60 = ze Mz 81 60 := hsN1_.e (by decide)
  have qzr98_N1_ : zr98 N1_ = zr98 Mz := zr98_f hsN1_ (by decide)
  have c2_ : zRp b_ n_ N1_ := zRp.fr hsN1_ p0_ (by decide) (by decide)
  have c3_ : zIF N1_ := zIF.fr hsN1_ p1_ (by decide) (by decide)
  have c4_ : zB 83 24 0 5 N1_ := zB.fr hsN1_ p4_ (by decide) (by decide)
  have c5_ : zB 85 144 0 5 N1_ := zB.fr hsN1_ p5_ (by decide) (by decide)
  have c6_ : zMvq mv0_ N1_ := zMvq.fr hsN1_ p8_ (by decide) (by decide)
  have c7_ : zRNi nm0_ F0_ K0_ N1_ := zRNi.fr hsN1_ p9_ (by decide) (by decide)
  refine zw_aload_n (pc := 5) (n := 0) (x := 81) rfl (zdal_p dlC_M_troupe_57 (i := 3) rfl) ?_
  refine zw_iconst (pc := 6) (v := Int32.ofInt 0) (by decide) (zdal_p dlC_M_troupe_57 (i := 4) rfl) ?_
  refine zr_putI (hf_N1_.w hW) (pc := 7) f_M_199 rfl rfl ⟨by omega, by omega⟩ rfl rfl (zdal_p dlC_M_troupe_57 (i := 5) rfl) (fun N8_ hsN8_ hvN8_ => ?_)
  have hf_N8_ : zFr [1, 2, 3, 4, 5, 6, 7, 8, 9, 10, 11, 12, 13, 14, 16, 17, 18, 20, 25, 26, 38, 39, 41, 42, 43, 58, 60] [83, 84, 85, 86, 87, 88, 89, 90, 91, 92, 93, 94, 95, 96, 97, 98, 100, 101, 102, 103, 104] Mz N8_ := hf_N1_.tr hsN8_ (by decide) (by decide)
  have e1_N8_ : ze N8_ 81 1 = ze N1_ 81 1 := hsN8_.e (by decide)
  have e4_N8_ : ze N8_ 81 4 = ze N1_ 81 4 := hsN8_.e (by decide)
  have e7_N8_ : ze N8_ 81 7 = ze N1_ 81 7 := hsN8_.e (by decide)
  have e12_N8_ : ze N8_ 81 12 = ze N1_ 81 12 := hsN8_.e (by decide)
  have r13_N8_ := ze_r N8_ 81 13
  have e14_N8_ : ze N8_ 81 14 = ze N1_ 81 14 := hsN8_.e (by decide)
  have e16_N8_ : ze N8_ 81 16 = ze N1_ 81 16 := hsN8_.e (by decide)
  have e18_N8_ : ze N8_ 81 18 = ze N1_ 81 18 := hsN8_.e (by decide)
  have e20_N8_ : ze N8_ 81 20 = ze N1_ 81 20 := hsN8_.e (by decide)
  have e60_N8_ : ze N8_ 81 60 = ze N1_ 81 60 := hsN8_.e (by decide)
  have qzr98_N8_ : zr98 N8_ = zr98 N1_ := zr98_f hsN8_ (by decide)
  have c9_ : zRp b_ n_ N8_ := zRp.fr hsN8_ c2_ (by decide) (by decide)
  have c10_ : zIF N8_ := zIF.fr hsN8_ c3_ (by decide) (by decide)
  have c11_ : zB 83 24 0 5 N8_ := zB.fr hsN8_ c4_ (by decide) (by decide)
  have c12_ : zB 85 144 0 5 N8_ := zB.fr hsN8_ c5_ (by decide) (by decide)
  have c13_ : zMvq mv0_ N8_ := zMvq.fr hsN8_ c6_ (by decide) (by decide)
  have c14_ : zRNi nm0_ F0_ K0_ N8_ := zRNi.fr hsN8_ c7_ (by decide) (by decide)
  refine zw_aload_n (pc := 10) (n := 0) (x := 81) rfl (zdal_p dlC_M_troupe_57 (i := 6) rfl) ?_
  refine zw_iconst (pc := 11) (v := Int32.ofInt 0) (by decide) (zdal_p dlC_M_troupe_57 (i := 7) rfl) ?_
  refine zr_putI (hf_N8_.w hW) (pc := 12) f_M_299 rfl rfl ⟨by omega, by omega⟩ rfl rfl (zdal_p dlC_M_troupe_57 (i := 8) rfl) (fun N15_ hsN15_ hvN15_ => ?_)
  have hf_N15_ : zFr [1, 2, 3, 4, 5, 6, 7, 8, 9, 10, 11, 12, 13, 14, 16, 17, 18, 20, 25, 26, 38, 39, 41, 42, 43, 58, 60] [83, 84, 85, 86, 87, 88, 89, 90, 91, 92, 93, 94, 95, 96, 97, 98, 100, 101, 102, 103, 104] Mz N15_ := hf_N8_.tr hsN15_ (by decide) (by decide)
  have e1_N15_ : ze N15_ 81 1 = ze N8_ 81 1 := hsN15_.e (by decide)
  have e4_N15_ : ze N15_ 81 4 = ze N8_ 81 4 := hsN15_.e (by decide)
  have e7_N15_ : ze N15_ 81 7 = ze N8_ 81 7 := hsN15_.e (by decide)
  have e12_N15_ : ze N15_ 81 12 = ze N8_ 81 12 := hsN15_.e (by decide)
  have e13_N15_ : ze N15_ 81 13 = ze N8_ 81 13 := hsN15_.e (by decide)
  have r14_N15_ := ze_r N15_ 81 14
  have e16_N15_ : ze N15_ 81 16 = ze N8_ 81 16 := hsN15_.e (by decide)
  have e18_N15_ : ze N15_ 81 18 = ze N8_ 81 18 := hsN15_.e (by decide)
  have e20_N15_ : ze N15_ 81 20 = ze N8_ 81 20 := hsN15_.e (by decide)
  have e60_N15_ : ze N15_ 81 60 = ze N8_ 81 60 := hsN15_.e (by decide)
  have qzr98_N15_ : zr98 N15_ = zr98 N8_ := zr98_f hsN15_ (by decide)
  have c16_ : zRp b_ n_ N15_ := zRp.fr hsN15_ c9_ (by decide) (by decide)
  have c17_ : zIF N15_ := zIF.fr hsN15_ c10_ (by decide) (by decide)
  have c18_ : zB 83 24 0 5 N15_ := zB.fr hsN15_ c11_ (by decide) (by decide)
  have c19_ : zB 85 144 0 5 N15_ := zB.fr hsN15_ c12_ (by decide) (by decide)
  have c20_ : zMvq mv0_ N15_ := zMvq.fr hsN15_ c13_ (by decide) (by decide)
  have c21_ : zRNi nm0_ F0_ K0_ N15_ := zRNi.fr hsN15_ c14_ (by decide) (by decide)
  refine zw_aload_n (pc := 15) (n := 0) (x := 81) rfl (zdal_p dlC_M_troupe_57 (i := 9) rfl) ?_
  refine zr_callV (hf_N15_.w hW) hf_N15_.x (pc := 16) [] [] l_M_367 (c_M_beginsF l N15_ (hf_N15_.w hW) b_ n_ c16_) rfl rfl rfl (by decide) (Nat.le_of_ble_eq_true rfl) (zdal_p dlC_M_troupe_57 (i := 10) rfl) ?_
  rintro _ N22_ ⟨rfl, hsN22_, ⟨hp0_N22_, hp1_N22_, hp2_N22_, hp3_N22_, hp4_N22_⟩⟩
  have hf_N22_ : zFr [1, 2, 3, 4, 5, 6, 7, 8, 9, 10, 11, 12, 13, 14, 16, 17, 18, 20, 25, 26, 38, 39, 41, 42, 43, 58, 60] [83, 84, 85, 86, 87, 88, 89, 90, 91, 92, 93, 94, 95, 96, 97, 98, 100, 101, 102, 103, 104] Mz N22_ := hf_N15_.tr hsN22_ (by decide) (by decide)
  have r1_N22_ := ze_r N22_ 81 1
  have r4_N22_ := ze_r N22_ 81 4
  have r7_N22_ := ze_r N22_ 81 7
  have e12_N22_ : ze N22_ 81 12 = ze N15_ 81 12 := hsN22_.e (by decide)
  have e13_N22_ : ze N22_ 81 13 = ze N15_ 81 13 := hsN22_.e (by decide)
  have e14_N22_ : ze N22_ 81 14 = ze N15_ 81 14 := hsN22_.e (by decide)
  have e16_N22_ : ze N22_ 81 16 = ze N15_ 81 16 := hsN22_.e (by decide)
  have e18_N22_ : ze N22_ 81 18 = ze N15_ 81 18 := hsN22_.e (by decide)
  have e20_N22_ : ze N22_ 81 20 = ze N15_ 81 20 := hsN22_.e (by decide)
  have e60_N22_ : ze N22_ 81 60 = ze N15_ 81 60 := hsN22_.e (by decide)
  have qzr98_N22_ : zr98 N22_ = zr98 N15_ := zr98_f hsN22_ (by decide)
  have c24_ : zIF N22_ := zIF.fr hsN22_ c17_ (by decide) (by decide)
  have c25_ : zB 83 24 0 5 N22_ := zB.fr hsN22_ c18_ (by decide) (by decide)
  have c26_ : zB 85 144 0 5 N22_ := zB.fr hsN22_ c19_ (by decide) (by decide)
  have c27_ : zMvq mv0_ N22_ := zMvq.fr hsN22_ c20_ (by decide) (by decide)
  have c28_ : zRNi nm0_ F0_ K0_ N22_ := zRNi.fr hsN22_ c21_ (by decide) (by decide)
  show zW l m_M_troupe (zn Mz + 0, zw Mz + 0) N22_ 19 [some (.ref 81)] [] _
  have hs0_ : (ze N22_ 81 4).toNat = (zru zpB b_ n_ 0) := by omega
  refine zw_aload_n (pc := 19) (n := 0) (x := 81) rfl (zdal_p dlC_M_troupe_57 (i := 11) rfl) ?_
  refine zr_callV (hf_N22_.w hW) hf_N22_.x (pc := 20) [] [] l_M_370 (c_M_readsN l N22_ (hf_N22_.w hW) b_ n_ hp0_N22_ hp1_N22_ (show ze N22_ 81 7 = 0 by first | assumption | omega) (show ze N22_ 81 13 = 0 by first | assumption | omega) (show ze N22_ 81 14 = 0 by first | assumption | omega) c25_ c26_) rfl rfl rfl (by decide) (Nat.le_of_ble_eq_true rfl) (zdal_p dlC_M_troupe_57 (i := 12) rfl) ?_
  rintro _ N29_ ⟨rfl, hsN29_, ⟨hp0_N29_, hp1_N29_, hp2_N29_, hp3_N29_, hp4_N29_, hp5_N29_, hp6_N29_, hp7_N29_⟩⟩
  have hf_N29_ : zFr [1, 2, 3, 4, 5, 6, 7, 8, 9, 10, 11, 12, 13, 14, 16, 17, 18, 20, 25, 26, 38, 39, 41, 42, 43, 58, 60] [83, 84, 85, 86, 87, 88, 89, 90, 91, 92, 93, 94, 95, 96, 97, 98, 100, 101, 102, 103, 104] Mz N29_ := hf_N22_.tr hsN29_ (by decide) (by decide)
  have e1_N29_ : ze N29_ 81 1 = ze N22_ 81 1 := hsN29_.e (by decide)
  have r4_N29_ := ze_r N29_ 81 4
  have r7_N29_ := ze_r N29_ 81 7
  have r12_N29_ := ze_r N29_ 81 12
  have r13_N29_ := ze_r N29_ 81 13
  have r14_N29_ := ze_r N29_ 81 14
  have e16_N29_ : ze N29_ 81 16 = ze N22_ 81 16 := hsN29_.e (by decide)
  have e18_N29_ : ze N29_ 81 18 = ze N22_ 81 18 := hsN29_.e (by decide)
  have r20_N29_ := ze_r N29_ 81 20
  have e60_N29_ : ze N29_ 81 60 = ze N22_ 81 60 := hsN29_.e (by decide)
  have qzr98_N29_ : zr98 N29_ = zr98 N22_ := zr98_f hsN29_ (by decide)
  have c31_ : zIF N29_ := zIF.fr hsN29_ c24_ (by decide) (by decide)
  have c32_ : zMvq mv0_ N29_ := zMvq.fr hsN29_ c27_ (by decide) (by decide)
  have c33_ : zRNi nm0_ F0_ K0_ N29_ := zRNi.fr hsN29_ c28_ (by decide) (by decide)
  have c34_ : zRb b_ n_ N29_ := zRb.fr hsN29_ hp0_N22_ (by decide) (by decide)
  rcases hp7_N29_ with ⟨ha20_0_hp7_N29_, ha20_1_hp7_N29_⟩ | ⟨ha20_0_hp7_N29_, ha20_1_hp7_N29_, ha20_2_hp7_N29_, ha20_3_hp7_N29_, ha20_4_hp7_N29_, ha20_5_hp7_N29_⟩
  · skip
    have hB_ := ha20_1_hp7_N29_
    rw [hs0_] at hB_
    show zW l m_M_troupe (zn Mz + 0, zw Mz + 0) N29_ 23 [some (.ref 81)] [] _
    refine zw_aload_n (pc := 23) (n := 0) (x := 81) rfl (zdal_p dlC_M_troupe_57 (i := 13) rfl) ?_
    refine zr_callV (hf_N29_.w hW) hf_N29_.x (pc := 24) [] [] l_M_373 (c_M_tells l N29_ (hf_N29_.w hW) ) rfl rfl rfl (by decide) (Nat.le_of_ble_eq_true rfl) (zdal_p dlC_M_troupe_57 (i := 14) rfl) ?_
    rintro _ N35_ ⟨rfl, hsN35_, -⟩
    have hf_N35_ : zFr [1, 2, 3, 4, 5, 6, 7, 8, 9, 10, 11, 12, 13, 14, 16, 17, 18, 20, 25, 26, 38, 39, 41, 42, 43, 58, 60] [83, 84, 85, 86, 87, 88, 89, 90, 91, 92, 93, 94, 95, 96, 97, 98, 100, 101, 102, 103, 104] Mz N35_ := hf_N29_.tr hsN35_ (by decide) (by decide)
    have e1_N35_ : ze N35_ 81 1 = ze N29_ 81 1 := hsN35_.e (by decide)
    have e4_N35_ : ze N35_ 81 4 = ze N29_ 81 4 := hsN35_.e (by decide)
    have e7_N35_ : ze N35_ 81 7 = ze N29_ 81 7 := hsN35_.e (by decide)
    have e12_N35_ : ze N35_ 81 12 = ze N29_ 81 12 := hsN35_.e (by decide)
    have e13_N35_ : ze N35_ 81 13 = ze N29_ 81 13 := hsN35_.e (by decide)
    have e14_N35_ : ze N35_ 81 14 = ze N29_ 81 14 := hsN35_.e (by decide)
    have e16_N35_ : ze N35_ 81 16 = ze N29_ 81 16 := hsN35_.e (by decide)
    have e18_N35_ : ze N35_ 81 18 = ze N29_ 81 18 := hsN35_.e (by decide)
    have e20_N35_ : ze N35_ 81 20 = ze N29_ 81 20 := hsN35_.e (by decide)
    have e60_N35_ : ze N35_ 81 60 = ze N29_ 81 60 := hsN35_.e (by decide)
    have qzr98_N35_ : zr98 N35_ = zr98 N29_ := zr98_f hsN35_ (by decide)
    have c37_ : zIF N35_ := zIF.fr hsN35_ c31_ (by decide) (by decide)
    have c38_ : zMvq mv0_ N35_ := zMvq.fr hsN35_ c32_ (by decide) (by decide)
    have c39_ : zRNi nm0_ F0_ K0_ N35_ := zRNi.fr hsN35_ c33_ (by decide) (by decide)
    have c40_ : zRb b_ n_ N35_ := zRb.fr hsN35_ c34_ (by decide) (by decide)
    have c41_ : zRt b_ n_ N35_ := zRt.fr hsN35_ hp0_N29_ (by decide) (by decide)
    have c42_ : zB 83 24 0 5 N35_ := zB.fr hsN35_ hp5_N29_ (by decide) (by decide)
    have c43_ : zB 85 144 0 5 N35_ := zB.fr hsN35_ hp6_N29_ (by decide) (by decide)
    show zW l m_M_troupe (zn Mz + 0, zw Mz + 0) N35_ 27 [some (.ref 81)] [] _
    refine zw_aload_n (pc := 27) (n := 0) (x := 81) rfl (zdal_p dlC_M_troupe_57 (i := 15) rfl) ?_
    refine zr_getI (hf_N35_.w hW) (pc := 28) f_M_172 rfl (zdal_p dlC_M_troupe_57 (i := 16) rfl) ?_
    refine zr_if_le (pc := 31) (tgt := 40) ⟨(ze_r N35_ 81 7).1, (ze_r N35_ 81 7).2⟩ (by decide) (zdal_p dlC_M_troupe_57 (i := 17) rfl) (fun hc_31 => ?_) (fun hc_31 => ?_)
    · skip
      exfalso; omega
    · skip
      refine zw_aload_n (pc := 34) (n := 0) (x := 81) rfl (zdal_p dlC_M_troupe_57 (i := 18) rfl) ?_
      refine zr_callV (hf_N35_.w hW) hf_N35_.x (pc := 35) [] [] l_M_376 (c_M_goesBackN l N35_ (hf_N35_.w hW) mv0_ b_ n_ F0_ K0_ hF0_ nm0_ c37_ (show 0 ≤ ze N35_ 81 18 by first | assumption | omega) (show ze N35_ 81 18 ≤ 8 by first | assumption | omega) c42_ c43_ c38_ c39_) rfl rfl rfl (by decide) (Nat.le_of_ble_eq_true rfl) (zdal_p dlC_M_troupe_57 (i := 19) rfl) ?_
      rintro _ N44_ ⟨rfl, hsN44_, ⟨hp0_N44_, hp1_N44_, hp2_N44_, hp3_N44_, hp4_N44_, hp5_N44_, hp6_N44_, hp7_N44_⟩⟩
      have hf_N44_ : zFr [1, 2, 3, 4, 5, 6, 7, 8, 9, 10, 11, 12, 13, 14, 16, 17, 18, 20, 25, 26, 38, 39, 41, 42, 43, 58, 60] [83, 84, 85, 86, 87, 88, 89, 90, 91, 92, 93, 94, 95, 96, 97, 98, 100, 101, 102, 103, 104] Mz N44_ := hf_N35_.tr hsN44_ (by decide) (by decide)
      have e1_N44_ : ze N44_ 81 1 = ze N35_ 81 1 := hsN44_.e (by decide)
      have e4_N44_ : ze N44_ 81 4 = ze N35_ 81 4 := hsN44_.e (by decide)
      have e7_N44_ : ze N44_ 81 7 = ze N35_ 81 7 := hsN44_.e (by decide)
      have r12_N44_ := ze_r N44_ 81 12
      have r13_N44_ := ze_r N44_ 81 13
      have r14_N44_ := ze_r N44_ 81 14
      have e16_N44_ : ze N44_ 81 16 = ze N35_ 81 16 := hsN44_.e (by decide)
      have e18_N44_ : ze N44_ 81 18 = ze N35_ 81 18 := hsN44_.e (by decide)
      have r20_N44_ := ze_r N44_ 81 20
      have e60_N44_ : ze N44_ 81 60 = ze N35_ 81 60 := hsN44_.e (by decide)
      have qzr98_N44_ : zr98 N44_ = zr98 N35_ := zr98_f hsN44_ (by decide)
      have c46_ : zIF N44_ := zIF.fr hsN44_ c37_ (by decide) (by decide)
      have c47_ : zMvq mv0_ N44_ := zMvq.fr hsN44_ c38_ (by decide) (by decide)
      have c48_ : zRNi nm0_ F0_ K0_ N44_ := zRNi.fr hsN44_ c39_ (by decide) (by decide)
      have c49_ : zRb b_ n_ N44_ := zRb.fr hsN44_ c40_ (by decide) (by decide)
      have c50_ : zRt b_ n_ N44_ := zRt.fr hsN44_ c41_ (by decide) (by decide)
      show zW l m_M_troupe (zn Mz + 0, zw Mz + 0) N44_ 38 [some (.ref 81)] [] _
      have hEx_ : (∃ T : zGT, T ∈ gTabs ∧ zGB T N44_) := by obtain ⟨T, hTt, hGB, -⟩ := id hp0_N44_; exact ⟨T, hTt, hGB⟩
      have hq0_ : ∃ T : zGT, T ∈ gTabs ∧ zGB T N44_ ∧ zTm mv0_ T ∧ zCdS (ze Mz 81 16) mv0_ T N44_ := by obtain ⟨T, h1_, h2_, h3_, h4_⟩ := id hp0_N44_; exact ⟨T, h1_, h2_, h3_, h4_.p (by omega)⟩
      have h98_ := qzr98_N44_.trans (qzr98_N35_.trans (qzr98_N29_.trans (qzr98_N22_.trans (qzr98_N15_.trans (qzr98_N8_.trans (qzr98_N1_))))))
      have hres_ : (((-1 : Int) = -1 ∧ zTrB b_ n_ (zru zpB b_ n_ 0) ∧ (∃ T : zGT, T ∈ gTabs ∧ zGB T N44_ ∧ zTm mv0_ T ∧ zCdS (ze Mz 81 16) mv0_ T N44_) ∧ zMvq mv0_ N44_ ∧ ze N44_ 81 16 = ze Mz 81 16 ∧ zRNm nm0_ F0_ K0_ b_ n_ N44_ ∧ zRNi nm0_ F0_ K0_ N44_ ∧ (∀ j : Nat, zg N44_ 98 j = zg Mz 98 j) ∧ ze N44_ 81 60 = ze Mz 81 60) ∨ ∃ P : Nat, ∃ mv : List Nat, ∃ T : zGT, ∃ nm : List (Int × (Nat → Int)), zTrN b_ n_ (zru zpB b_ n_ 0) P mv T nm ∧ (-1 : Int) = (gN T : Int) ∧ zGB T N44_ ∧ zMvq mv N44_ ∧ ze N44_ 81 16 = (P : Int) ∧ zCdS (P : Int) mv T N44_ ∧ zRNm nm (gF T).length (gmkI T) b_ n_ N44_ ∧ zRNi nm (gF T).length (gmkI T) N44_ ∧ zZrJ 98 64 N44_ ∧ ze N44_ 81 60 = 0) := Or.inl ⟨rfl, hB_, hq0_, hp5_N44_, by omega, hp6_N44_, hp7_N44_, fun j => congrFun h98_ j, by omega⟩
      refine zw_iconst (pc := 38) (v := Int32.ofInt (-1)) (by decide) (zdal_p dlC_M_troupe_57 (i := 20) rfl) ?_
      exact zr_iret (pc := 39) (ty := .int) rfl rfl ⟨by omega, by omega⟩ hf_N44_ ⟨(show ze N44_ 81 1 = 0 by first | assumption | omega), (show 0 ≤ ze N44_ 81 14 by first | assumption | omega), (show ze N44_ 81 14 ≤ 8 by first | assumption | omega), (show 0 ≤ ze N44_ 81 18 by first | assumption | omega), (show ze N44_ 81 18 ≤ 8 by first | assumption | omega), (show 0 ≤ ze N44_ 81 60 by first | assumption | omega), (show ze N44_ 81 60 ≤ 12 by first | assumption | omega), hp3_N44_, hp4_N44_, (show (∃ T : zGT, T ∈ gTabs ∧ zGB T N44_) by exact hEx_), (show ((((-1)) = -1 ∧ zTrB b_ n_ (zru zpB b_ n_ 0) ∧ (∃ T : zGT, T ∈ gTabs ∧ zGB T N44_ ∧ zTm mv0_ T ∧ zCdS (ze Mz 81 16) mv0_ T N44_) ∧ zMvq mv0_ N44_ ∧ ze N44_ 81 16 = ze Mz 81 16 ∧ zRNm nm0_ F0_ K0_ b_ n_ N44_ ∧ zRNi nm0_ F0_ K0_ N44_ ∧ (∀ j : Nat, zg N44_ 98 j = zg Mz 98 j) ∧ ze N44_ 81 60 = ze Mz 81 60) ∨ ∃ P : Nat, ∃ mv : List Nat, ∃ T : zGT, ∃ nm : List (Int × (Nat → Int)), zTrN b_ n_ (zru zpB b_ n_ 0) P mv T nm ∧ ((-1)) = (gN T : Int) ∧ zGB T N44_ ∧ zMvq mv N44_ ∧ ze N44_ 81 16 = (P : Int) ∧ zCdS (P : Int) mv T N44_ ∧ zRNm nm (gF T).length (gmkI T) b_ n_ N44_ ∧ zRNi nm (gF T).length (gmkI T) N44_ ∧ zZrJ 98 64 N44_ ∧ ze N44_ 81 60 = 0) by exact hres_)⟩ (zdal_p dlC_M_troupe_57 (i := 21) rfl)
  · skip
    obtain ⟨T, mv_, P_, nmt_, hTt, hGB, hG_, hMs_, hPq_, hCd_, hnm_⟩ := id ha20_5_hp7_N29_
    rw [hs0_] at hG_
    show zW l m_M_troupe (zn Mz + 0, zw Mz + 0) N29_ 23 [some (.ref 81)] [] _
    refine zw_aload_n (pc := 23) (n := 0) (x := 81) rfl (zdal_p dlC_M_troupe_57 (i := 13) rfl) ?_
    refine zr_callV (hf_N29_.w hW) hf_N29_.x (pc := 24) [] [] l_M_373 (c_M_tells l N29_ (hf_N29_.w hW) ) rfl rfl rfl (by decide) (Nat.le_of_ble_eq_true rfl) (zdal_p dlC_M_troupe_57 (i := 14) rfl) ?_
    rintro _ N51_ ⟨rfl, hsN51_, -⟩
    have hf_N51_ : zFr [1, 2, 3, 4, 5, 6, 7, 8, 9, 10, 11, 12, 13, 14, 16, 17, 18, 20, 25, 26, 38, 39, 41, 42, 43, 58, 60] [83, 84, 85, 86, 87, 88, 89, 90, 91, 92, 93, 94, 95, 96, 97, 98, 100, 101, 102, 103, 104] Mz N51_ := hf_N29_.tr hsN51_ (by decide) (by decide)
    have e1_N51_ : ze N51_ 81 1 = ze N29_ 81 1 := hsN51_.e (by decide)
    have e4_N51_ : ze N51_ 81 4 = ze N29_ 81 4 := hsN51_.e (by decide)
    have e7_N51_ : ze N51_ 81 7 = ze N29_ 81 7 := hsN51_.e (by decide)
    have e12_N51_ : ze N51_ 81 12 = ze N29_ 81 12 := hsN51_.e (by decide)
    have e13_N51_ : ze N51_ 81 13 = ze N29_ 81 13 := hsN51_.e (by decide)
    have e14_N51_ : ze N51_ 81 14 = ze N29_ 81 14 := hsN51_.e (by decide)
    have e16_N51_ : ze N51_ 81 16 = ze N29_ 81 16 := hsN51_.e (by decide)
    have e18_N51_ : ze N51_ 81 18 = ze N29_ 81 18 := hsN51_.e (by decide)
    have e20_N51_ : ze N51_ 81 20 = ze N29_ 81 20 := hsN51_.e (by decide)
    have e60_N51_ : ze N51_ 81 60 = ze N29_ 81 60 := hsN51_.e (by decide)
    have qzr98_N51_ : zr98 N51_ = zr98 N29_ := zr98_f hsN51_ (by decide)
    have c53_ : zIF N51_ := zIF.fr hsN51_ c31_ (by decide) (by decide)
    have c54_ : zMvq mv0_ N51_ := zMvq.fr hsN51_ c32_ (by decide) (by decide)
    have c55_ : zRNi nm0_ F0_ K0_ N51_ := zRNi.fr hsN51_ c33_ (by decide) (by decide)
    have c56_ : zRb b_ n_ N51_ := zRb.fr hsN51_ c34_ (by decide) (by decide)
    have c57_ : zRt b_ n_ N51_ := zRt.fr hsN51_ hp0_N29_ (by decide) (by decide)
    have c58_ : zB 83 24 0 5 N51_ := zB.fr hsN51_ hp5_N29_ (by decide) (by decide)
    have c59_ : zB 85 144 0 5 N51_ := zB.fr hsN51_ hp6_N29_ (by decide) (by decide)
    have c60_ : zPm N51_ := zPm.fr hsN51_ ha20_3_hp7_N29_ (by decide) (by decide)
    have c61_ : zFin N51_ := zFin.fr hsN51_ ha20_4_hp7_N29_ (by decide) (by decide)
    have c62_ : zGB T N51_ := zGB.fr hsN51_ hGB (by decide) (by decide)
    have c63_ : zMvt mv_ N51_ := zMvt.fr hsN51_ hMs_ (by decide) (by decide)
    have c64_ : zCdS (P_ : Int) mv_ T N51_ := zCdS.fr hsN51_ hCd_ (by decide) (by decide)
    have c65_ : zRNm nmt_ (gF T).length (gmkI T) b_ n_ N51_ := zRNm.fr hsN51_ hnm_ (by decide) (by decide)
    show zW l m_M_troupe (zn Mz + 0, zw Mz + 0) N51_ 27 [some (.ref 81)] [] _
    refine zw_aload_n (pc := 27) (n := 0) (x := 81) rfl (zdal_p dlC_M_troupe_57 (i := 15) rfl) ?_
    refine zr_getI (hf_N51_.w hW) (pc := 28) f_M_172 rfl (zdal_p dlC_M_troupe_57 (i := 16) rfl) ?_
    refine zr_if_le (pc := 31) (tgt := 40) ⟨(ze_r N51_ 81 7).1, (ze_r N51_ 81 7).2⟩ (by decide) (zdal_p dlC_M_troupe_57 (i := 17) rfl) (fun hc_31 => ?_) (fun hc_31 => ?_)
    · skip
      refine zw_aload_n (pc := 40) (n := 0) (x := 81) rfl (zdal_p dlC_M_troupe_57 (i := 22) rfl) ?_
      refine zr_callV (hf_N51_.w hW) hf_N51_.x (pc := 41) [] [] l_M_121 (c_M_inForceN l N51_ (hf_N51_.w hW) mv_ b_ n_ (gF T).length (gmkI T) (show (gF T).length ≤ 64 by have h_ := (gT_zTA hTt).1.2; omega) nmt_ (show 1 ≤ ze N51_ 81 12 by first | assumption | omega) (show ze N51_ 81 12 ≤ 6 by first | assumption | omega) (show 0 ≤ ze N51_ 81 13 by first | assumption | omega) (show ze N51_ 81 13 ≤ 4 by first | assumption | omega) c60_ c61_ c58_ (show 0 ≤ ze N51_ 81 14 by first | assumption | omega) (show ze N51_ 81 14 ≤ 8 by first | assumption | omega) c63_ c65_) rfl rfl rfl (by decide) (Nat.le_of_ble_eq_true rfl) (zdal_p dlC_M_troupe_57 (i := 23) rfl) ?_
      rintro _ N66_ ⟨rfl, hsN66_, ⟨hp0_N66_, hp1_N66_, hp2_N66_, hp3_N66_, hp4_N66_, hp5_N66_, hp6_N66_, hp7_N66_⟩⟩
      have hf_N66_ : zFr [1, 2, 3, 4, 5, 6, 7, 8, 9, 10, 11, 12, 13, 14, 16, 17, 18, 20, 25, 26, 38, 39, 41, 42, 43, 58, 60] [83, 84, 85, 86, 87, 88, 89, 90, 91, 92, 93, 94, 95, 96, 97, 98, 100, 101, 102, 103, 104] Mz N66_ := hf_N51_.tr hsN66_ (by decide) (by decide)
      have e1_N66_ : ze N66_ 81 1 = ze N51_ 81 1 := hsN66_.e (by decide)
      have e4_N66_ : ze N66_ 81 4 = ze N51_ 81 4 := hsN66_.e (by decide)
      have e7_N66_ : ze N66_ 81 7 = ze N51_ 81 7 := hsN66_.e (by decide)
      have e12_N66_ : ze N66_ 81 12 = ze N51_ 81 12 := hsN66_.e (by decide)
      have e13_N66_ : ze N66_ 81 13 = ze N51_ 81 13 := hsN66_.e (by decide)
      have e14_N66_ : ze N66_ 81 14 = ze N51_ 81 14 := hsN66_.e (by decide)
      have r16_N66_ := ze_r N66_ 81 16
      have r18_N66_ := ze_r N66_ 81 18
      have e20_N66_ : ze N66_ 81 20 = ze N51_ 81 20 := hsN66_.e (by decide)
      have r60_N66_ := ze_r N66_ 81 60
      have c68_ : zRb b_ n_ N66_ := zRb.fr hsN66_ c56_ (by decide) (by decide)
      have c69_ : zRt b_ n_ N66_ := zRt.fr hsN66_ c57_ (by decide) (by decide)
      have c70_ : zB 83 24 0 5 N66_ := zB.fr hsN66_ c58_ (by decide) (by decide)
      have c71_ : zB 85 144 0 5 N66_ := zB.fr hsN66_ c59_ (by decide) (by decide)
      have c72_ : zPm N66_ := zPm.fr hsN66_ c60_ (by decide) (by decide)
      have c73_ : zFin N66_ := zFin.fr hsN66_ c61_ (by decide) (by decide)
      have c74_ : zGB T N66_ := zGB.fr hsN66_ c62_ (by decide) (by decide)
      have c75_ : zMvt mv_ N66_ := zMvt.fr hsN66_ c63_ (by decide) (by decide)
      have c76_ : zCdS (P_ : Int) mv_ T N66_ := zCdS.fr hsN66_ c64_ (by decide) (by decide)
      have c77_ : zRNm nmt_ (gF T).length (gmkI T) b_ n_ N66_ := zRNm.fr hsN66_ c65_ (by decide) (by decide)
      show zW l m_M_troupe (zn Mz + 0, zw Mz + 0) N66_ 44 [some (.ref 81)] [] _
      have hGB2_ : zGB T N66_ := c74_
      have hEx_ : (∃ T : zGT, T ∈ gTabs ∧ zGB T N66_) := ⟨T, hTt, hGB2_⟩
      have h20_ := hGB2_.1.1
      have hres_ : (((ze N66_ 81 20) = -1 ∧ zTrB b_ n_ (zru zpB b_ n_ 0) ∧ (∃ T : zGT, T ∈ gTabs ∧ zGB T N66_ ∧ zTm mv0_ T ∧ zCdS (ze Mz 81 16) mv0_ T N66_) ∧ zMvq mv0_ N66_ ∧ ze N66_ 81 16 = ze Mz 81 16 ∧ zRNm nm0_ F0_ K0_ b_ n_ N66_ ∧ zRNi nm0_ F0_ K0_ N66_ ∧ (∀ j : Nat, zg N66_ 98 j = zg Mz 98 j) ∧ ze N66_ 81 60 = ze Mz 81 60) ∨ ∃ P : Nat, ∃ mv : List Nat, ∃ T : zGT, ∃ nm : List (Int × (Nat → Int)), zTrN b_ n_ (zru zpB b_ n_ 0) P mv T nm ∧ (ze N66_ 81 20) = (gN T : Int) ∧ zGB T N66_ ∧ zMvq mv N66_ ∧ ze N66_ 81 16 = (P : Int) ∧ zCdS (P : Int) mv T N66_ ∧ zRNm nm (gF T).length (gmkI T) b_ n_ N66_ ∧ zRNi nm (gF T).length (gmkI T) N66_ ∧ zZrJ 98 64 N66_ ∧ ze N66_ 81 60 = 0) := Or.inr ⟨P_, mv_, T, nmt_, hG_, h20_, hGB2_, hp4_N66_, by omega, c76_, c77_, hp6_N66_, hp7_N66_, by omega⟩
      refine zw_aload_n (pc := 44) (n := 0) (x := 81) rfl (zdal_p dlC_M_troupe_58 (i := 0) rfl) ?_
      refine zr_getI (hf_N66_.w hW) (pc := 45) f_M_196 rfl (zdal_p dlC_M_troupe_58 (i := 1) rfl) ?_
      exact zr_iret (pc := 48) (ty := .int) rfl rfl ⟨by omega, by omega⟩ hf_N66_ ⟨(show ze N66_ 81 1 = 0 by first | assumption | omega), (show 0 ≤ ze N66_ 81 14 by first | assumption | omega), (show ze N66_ 81 14 ≤ 8 by first | assumption | omega), (show 0 ≤ ze N66_ 81 18 by first | assumption | omega), (show ze N66_ 81 18 ≤ 8 by first | assumption | omega), (show 0 ≤ ze N66_ 81 60 by first | assumption | omega), (show ze N66_ 81 60 ≤ 12 by first | assumption | omega), hp0_N66_, c70_, (show (∃ T : zGT, T ∈ gTabs ∧ zGB T N66_) by exact hEx_), (show (((ze N66_ 81 20) = -1 ∧ zTrB b_ n_ (zru zpB b_ n_ 0) ∧ (∃ T : zGT, T ∈ gTabs ∧ zGB T N66_ ∧ zTm mv0_ T ∧ zCdS (ze Mz 81 16) mv0_ T N66_) ∧ zMvq mv0_ N66_ ∧ ze N66_ 81 16 = ze Mz 81 16 ∧ zRNm nm0_ F0_ K0_ b_ n_ N66_ ∧ zRNi nm0_ F0_ K0_ N66_ ∧ (∀ j : Nat, zg N66_ 98 j = zg Mz 98 j) ∧ ze N66_ 81 60 = ze Mz 81 60) ∨ ∃ P : Nat, ∃ mv : List Nat, ∃ T : zGT, ∃ nm : List (Int × (Nat → Int)), zTrN b_ n_ (zru zpB b_ n_ 0) P mv T nm ∧ (ze N66_ 81 20) = (gN T : Int) ∧ zGB T N66_ ∧ zMvq mv N66_ ∧ ze N66_ 81 16 = (P : Int) ∧ zCdS (P : Int) mv T N66_ ∧ zRNm nm (gF T).length (gmkI T) b_ n_ N66_ ∧ zRNi nm (gF T).length (gmkI T) N66_ ∧ zZrJ 98 64 N66_ ∧ ze N66_ 81 60 = 0) by exact hres_)⟩ (zdal_p dlC_M_troupe_58 (i := 2) rfl)
    · skip
      exfalso; omega
