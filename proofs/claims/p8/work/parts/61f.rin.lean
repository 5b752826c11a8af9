set_option maxHeartbeats 40000000 in
theorem c_M_troupeG (l : Launch) (Mz : zMem) (hW : zMt Mz) (b_ : Nat → Int) (n_ : Nat) (mv0_ : List Nat) (p0_ : zRp b_ n_ Mz) (p1_ : zIF Mz) (p2_ : 0 ≤ ze Mz 81 18) (p3_ : ze Mz 81 18 ≤ 8) (p4_ : zB 83 24 0 5 Mz) (p5_ : zB 85 144 0 5 Mz) (p6_ : 0 ≤ ze Mz 81 60) (p7_ : ze Mz 81 60 ≤ 12) (p8_ : zMvq mv0_ Mz) : zC l m_M_troupe 0 0 [.ref 81] Mz (zpI [1, 2, 3, 4, 5, 6, 7, 8, 9, 10, 11, 12, 13, 14, 16, 17, 18, 20, 25, 26, 38, 39, 41, 42, 43, 58, 60] [83, 84, 85, 86, 87, 88, 89, 90, 91, 92, 93, 94, 95, 96, 97, 98, 100, 101, 102, 103, 104] Mz (fun v N => ze N 81 1 = 0 ∧ 0 ≤ ze N 81 14 ∧ ze N 81 14 ≤ 8 ∧ 0 ≤ ze N 81 18 ∧ ze N 81 18 ≤ 8 ∧ 0 ≤ ze N 81 60 ∧ ze N 81 60 ≤ 12 ∧ zIF N ∧ zB 83 24 0 5 N ∧ (∃ T : zGT, T ∈ gTabs ∧ zGB T N) ∧ (((v = -1 ∧ zTrB b_ n_ (zru zpB b_ n_ 0) ∧ (∃ T : zGT, T ∈ gTabs ∧ zGB T N ∧ zTm mv0_ T) ∧ zMvq mv0_ N ∧ ze N 81 16 = ze Mz 81 16) ∨ ∃ P : Nat, ∃ mv : List Nat, ∃ T : zGT, zTrP b_ n_ (zru zpB b_ n_ 0) P mv T ∧ v = (gN T : Int) ∧ zGB T N ∧ zMvq mv N ∧ ze N 81 16 = (P : Int))))) := by
  refine zC_of (L0 := [some (.ref 81)]) md_M_troupe (Nat.le_of_ble_eq_true rfl) rfl ?_ zQ0
  have hf : zFr [1, 2, 3, 4, 5, 6, 7, 8, 9, 10, 11, 12, 13, 14, 16, 17, 18, 20, 25, 26, 38, 39, 41, 42, 43, 58, 60] [83, 84, 85, 86, 87, 88, 89, 90, 91, 92, 93, 94, 95, 96, 97, 98, 100, 101, 102, 103, 104] Mz Mz := zFr.rf
  have r_1 := ze_r Mz 81 1
  have r_4 := ze_r Mz 81 4
  have r_7 := ze_r Mz 81 7
  have r_12 := ze_r Mz 81 12
  have r_13 := ze_r Mz 81 13
  have r_14 := ze_r Mz 81 14
  have r_16 := ze_r Mz 81 16
  have r_18 := ze_r Mz 81 18
  have r_20 := ze_r Mz 81 20
  have r_60 := ze_r Mz 81 60
  refine zw_aload_n (pc := 0) (n := 0) (x := 81) rfl d_M_troupe_0 ?_
  refine zw_iconst (pc := 1) (v := Int32.ofInt 1) (by decide) d_M_troupe_1 ?_
  refine zr_putI (hf.w hW) (pc := 2) f_M_115 rfl rfl ⟨by omega, by omega⟩ rfl rfl d_M_troupe_2 (fun N1_ hsN1_ hvN1_ => ?_)
  have hf_N1_ : zFr [1, 2, 3, 4, 5, 6, 7, 8, 9, 10, 11, 12, 13, 14, 16, 17, 18, 20, 25, 26, 38, 39, 41, 42, 43, 58, 60] [83, 84, 85, 86, 87, 88, 89, 90, 91, 92, 93, 94, 95, 96, 97, 98, 100, 101, 102, 103, 104] Mz N1_ := hf.tr hsN1_ (by decide) (by decide)
  have e1_N1_ : ze N1_ 81 1 = ze Mz 81 1 := hsN1_.e (by decide)
  have e4_N1_ : ze N1_ 81 4 = ze Mz 81 4 := hsN1_.e (by decide)
  have e7_N1_ : ze N1_ 81 7 = ze Mz 81 7 := hsN1_.e (by decide)
  have r12_N1_ := ze_r N1_ 81 12
  have e13_N1_ : ze N1_ 81 13 = ze Mz 81 13 := hsN1_.e (by decide)
  have e14_N1_ : ze N1_ 81 14 = ze Mz 81 14 := hsN1_.e (by decide)
  have e16_N1_ : ze N1_ 81 16 = ze Mz 81 16 := hsN1_.e (by decide)
  have e18_N1_ : ze N1_ 81 18 = ze Mz 81 18 := hsN1_.e (by decide)
  have e20_N1_ : ze N1_ 81 20 = ze Mz 81 20 := hsN1_.e (by decide)
  have e60_N1_ : ze N1_ 81 60 = ze Mz 81 60 := hsN1_.e (by decide)
  have c2_ : zRp b_ n_ N1_ := zRp.fr hsN1_ p0_ (by decide) (by decide)
  have c3_ : zIF N1_ := zIF.fr hsN1_ p1_ (by decide) (by decide)
  have c4_ : zB 83 24 0 5 N1_ := zB.fr hsN1_ p4_ (by decide) (by decide)
  have c5_ : zB 85 144 0 5 N1_ := zB.fr hsN1_ p5_ (by decide) (by decide)
  have c6_ : zMvq mv0_ N1_ := zMvq.fr hsN1_ p8_ (by decide) (by decide)
  refine zw_aload_n (pc := 5) (n := 0) (x := 81) rfl d_M_troupe_5 ?_
  refine zw_iconst (pc := 6) (v := Int32.ofInt 0) (by decide) d_M_troupe_6 ?_
  refine zr_putI (hf_N1_.w hW) (pc := 7) f_M_199 rfl rfl ⟨by omega, by omega⟩ rfl rfl d_M_troupe_7 (fun N7_ hsN7_ hvN7_ => ?_)
  have hf_N7_ : zFr [1, 2, 3, 4, 5, 6, 7, 8, 9, 10, 11, 12, 13, 14, 16, 17, 18, 20, 25, 26, 38, 39, 41, 42, 43, 58, 60] [83, 84, 85, 86, 87, 88, 89, 90, 91, 92, 93, 94, 95, 96, 97, 98, 100, 101, 102, 103, 104] Mz N7_ := hf_N1_.tr hsN7_ (by decide) (by decide)
  have e1_N7_ : ze N7_ 81 1 = ze N1_ 81 1 := hsN7_.e (by decide)
  have e4_N7_ : ze N7_ 81 4 = ze N1_ 81 4 := hsN7_.e (by decide)
  have e7_N7_ : ze N7_ 81 7 = ze N1_ 81 7 := hsN7_.e (by decide)
  have e12_N7_ : ze N7_ 81 12 = ze N1_ 81 12 := hsN7_.e (by decide)
  have r13_N7_ := ze_r N7_ 81 13
  have e14_N7_ : ze N7_ 81 14 = ze N1_ 81 14 := hsN7_.e (by decide)
  have e16_N7_ : ze N7_ 81 16 = ze N1_ 81 16 := hsN7_.e (by decide)
  have e18_N7_ : ze N7_ 81 18 = ze N1_ 81 18 := hsN7_.e (by decide)
  have e20_N7_ : ze N7_ 81 20 = ze N1_ 81 20 := hsN7_.e (by decide)
  have e60_N7_ : ze N7_ 81 60 = ze N1_ 81 60 := hsN7_.e (by decide)
  have c8_ : zRp b_ n_ N7_ := zRp.fr hsN7_ c2_ (by decide) (by decide)
  have c9_ : zIF N7_ := zIF.fr hsN7_ c3_ (by decide) (by decide)
  have c10_ : zB 83 24 0 5 N7_ := zB.fr hsN7_ c4_ (by decide) (by decide)
  have c11_ : zB 85 144 0 5 N7_ := zB.fr hsN7_ c5_ (by decide) (by decide)
  have c12_ : zMvq mv0_ N7_ := zMvq.fr hsN7_ c6_ (by decide) (by decide)
  refine zw_aload_n (pc := 10) (n := 0) (x := 81) rfl d_M_troupe_10 ?_
  refine zw_iconst (pc := 11) (v := Int32.ofInt 0) (by decide) d_M_troupe_11 ?_
  refine zr_putI (hf_N7_.w hW) (pc := 12) f_M_299 rfl rfl ⟨by omega, by omega⟩ rfl rfl d_M_troupe_12 (fun N13_ hsN13_ hvN13_ => ?_)
  have hf_N13_ : zFr [1, 2, 3, 4, 5, 6, 7, 8, 9, 10, 11, 12, 13, 14, 16, 17, 18, 20, 25, 26, 38, 39, 41, 42, 43, 58, 60] [83, 84, 85, 86, 87, 88, 89, 90, 91, 92, 93, 94, 95, 96, 97, 98, 100, 101, 102, 103, 104] Mz N13_ := hf_N7_.tr hsN13_ (by decide) (by decide)
  have e1_N13_ : ze N13_ 81 1 = ze N7_ 81 1 := hsN13_.e (by decide)
  have e4_N13_ : ze N13_ 81 4 = ze N7_ 81 4 := hsN13_.e (by decide)
  have e7_N13_ : ze N13_ 81 7 = ze N7_ 81 7 := hsN13_.e (by decide)
  have e12_N13_ : ze N13_ 81 12 = ze N7_ 81 12 := hsN13_.e (by decide)
  have e13_N13_ : ze N13_ 81 13 = ze N7_ 81 13 := hsN13_.e (by decide)
  have r14_N13_ := ze_r N13_ 81 14
  have e16_N13_ : ze N13_ 81 16 = ze N7_ 81 16 := hsN13_.e (by decide)
  have e18_N13_ : ze N13_ 81 18 = ze N7_ 81 18 := hsN13_.e (by decide)
  have e20_N13_ : ze N13_ 81 20 = ze N7_ 81 20 := hsN13_.e (by decide)
  have e60_N13_ : ze N13_ 81 60 = ze N7_ 81 60 := hsN13_.e (by decide)
  have c14_ : zRp b_ n_ N13_ := zRp.fr hsN13_ c8_ (by decide) (by decide)
  have c15_ : zIF N13_ := zIF.fr hsN13_ c9_ (by decide) (by decide)
  have c16_ : zB 83 24 0 5 N13_ := zB.fr hsN13_ c10_ (by decide) (by decide)
  have c17_ : zB 85 144 0 5 N13_ := zB.fr hsN13_ c11_ (by decide) (by decide)
  have c18_ : zMvq mv0_ N13_ := zMvq.fr hsN13_ c12_ (by decide) (by decide)
  refine zw_aload_n (pc := 15) (n := 0) (x := 81) rfl d_M_troupe_15 ?_
  refine zr_callV (hf_N13_.w hW) hf_N13_.x (pc := 16) [] [] l_M_367 (c_M_beginsF l N13_ (hf_N13_.w hW) b_ n_ c14_) rfl rfl rfl (by decide) (Nat.le_of_ble_eq_true rfl) d_M_troupe_16 ?_
  rintro _ N19_ ⟨rfl, hsN19_, ⟨hp0_N19_, hp1_N19_, hp2_N19_, hp3_N19_, hp4_N19_⟩⟩
  have hf_N19_ : zFr [1, 2, 3, 4, 5, 6, 7, 8, 9, 10, 11, 12, 13, 14, 16, 17, 18, 20, 25, 26, 38, 39, 41, 42, 43, 58, 60] [83, 84, 85, 86, 87, 88, 89, 90, 91, 92, 93, 94, 95, 96, 97, 98, 100, 101, 102, 103, 104] Mz N19_ := hf_N13_.tr hsN19_ (by decide) (by decide)
  have r1_N19_ := ze_r N19_ 81 1
  have r4_N19_ := ze_r N19_ 81 4
  have r7_N19_ := ze_r N19_ 81 7
  have e12_N19_ : ze N19_ 81 12 = ze N13_ 81 12 := hsN19_.e (by decide)
  have e13_N19_ : ze N19_ 81 13 = ze N13_ 81 13 := hsN19_.e (by decide)
  have e14_N19_ : ze N19_ 81 14 = ze N13_ 81 14 := hsN19_.e (by decide)
  have e16_N19_ : ze N19_ 81 16 = ze N13_ 81 16 := hsN19_.e (by decide)
  have e18_N19_ : ze N19_ 81 18 = ze N13_ 81 18 := hsN19_.e (by decide)
  have e20_N19_ : ze N19_ 81 20 = ze N13_ 81 20 := hsN19_.e (by decide)
  have e60_N19_ : ze N19_ 81 60 = ze N13_ 81 60 := hsN19_.e (by decide)
  have c21_ : zIF N19_ := zIF.fr hsN19_ c15_ (by decide) (by decide)
  have c22_ : zB 83 24 0 5 N19_ := zB.fr hsN19_ c16_ (by decide) (by decide)
  have c23_ : zB 85 144 0 5 N19_ := zB.fr hsN19_ c17_ (by decide) (by decide)
  have c24_ : zMvq mv0_ N19_ := zMvq.fr hsN19_ c18_ (by decide) (by decide)
  show zW l m_M_troupe (zn Mz + 0, zw Mz + 0) N19_ 19 [some (.ref 81)] [] (zpI [1, 2, 3, 4, 5, 6, 7, 8, 9, 10, 11, 12, 13, 14, 16, 17, 18, 20, 25, 26, 38, 39, 41, 42, 43, 58, 60] [83, 84, 85, 86, 87, 88, 89, 90, 91, 92, 93, 94, 95, 96, 97, 98, 100, 101, 102, 103, 104] Mz (fun v N => ze N 81 1 = 0 ∧ 0 ≤ ze N 81 14 ∧ ze N 81 14 ≤ 8 ∧ 0 ≤ ze N 81 18 ∧ ze N 81 18 ≤ 8 ∧ 0 ≤ ze N 81 60 ∧ ze N 81 60 ≤ 12 ∧ zIF N ∧ zB 83 24 0 5 N ∧ (∃ T : zGT, T ∈ gTabs ∧ zGB T N) ∧ (((v = -1 ∧ zTrB b_ n_ (zru zpB b_ n_ 0) ∧ (∃ T : zGT, T ∈ gTabs ∧ zGB T N ∧ zTm mv0_ T) ∧ zMvq mv0_ N ∧ ze N 81 16 = ze Mz 81 16) ∨ ∃ P : Nat, ∃ mv : List Nat, ∃ T : zGT, zTrP b_ n_ (zru zpB b_ n_ 0) P mv T ∧ v = (gN T : Int) ∧ zGB T N ∧ zMvq mv N ∧ ze N 81 16 = (P : Int)))))
  have hs0_ : (ze N19_ 81 4).toNat = (zru zpB b_ n_ 0) := by omega
  refine zw_aload_n (pc := 19) (n := 0) (x := 81) rfl d_M_troupe_19 ?_
  refine zr_callV (hf_N19_.w hW) hf_N19_.x (pc := 20) [] [] l_M_370 (c_M_readsG l N19_ (hf_N19_.w hW) b_ n_ hp0_N19_ hp1_N19_ (show ze N19_ 81 7 = 0 by first | assumption | omega) (show ze N19_ 81 13 = 0 by first | assumption | omega) (show ze N19_ 81 14 = 0 by first | assumption | omega) c22_ c23_) rfl rfl rfl (by decide) (Nat.le_of_ble_eq_true rfl) d_M_troupe_20 ?_
  rintro _ N25_ ⟨rfl, hsN25_, ⟨hp0_N25_, hp1_N25_, hp2_N25_, hp3_N25_, hp4_N25_, hp5_N25_, hp6_N25_, hp7_N25_⟩⟩
  have hf_N25_ : zFr [1, 2, 3, 4, 5, 6, 7, 8, 9, 10, 11, 12, 13, 14, 16, 17, 18, 20, 25, 26, 38, 39, 41, 42, 43, 58, 60] [83, 84, 85, 86, 87, 88, 89, 90, 91, 92, 93, 94, 95, 96, 97, 98, 100, 101, 102, 103, 104] Mz N25_ := hf_N19_.tr hsN25_ (by decide) (by decide)
  have e1_N25_ : ze N25_ 81 1 = ze N19_ 81 1 := hsN25_.e (by decide)
  have r4_N25_ := ze_r N25_ 81 4
  have r7_N25_ := ze_r N25_ 81 7
  have r12_N25_ := ze_r N25_ 81 12
  have r13_N25_ := ze_r N25_ 81 13
  have r14_N25_ := ze_r N25_ 81 14
  have e16_N25_ : ze N25_ 81 16 = ze N19_ 81 16 := hsN25_.e (by decide)
  have e18_N25_ : ze N25_ 81 18 = ze N19_ 81 18 := hsN25_.e (by decide)
  have r20_N25_ := ze_r N25_ 81 20
  have e60_N25_ : ze N25_ 81 60 = ze N19_ 81 60 := hsN25_.e (by decide)
  have c27_ : zIF N25_ := zIF.fr hsN25_ c21_ (by decide) (by decide)
  have c28_ : zMvq mv0_ N25_ := zMvq.fr hsN25_ c24_ (by decide) (by decide)
  have c29_ : zRb b_ n_ N25_ := zRb.fr hsN25_ hp0_N19_ (by decide) (by decide)
  rcases hp7_N25_ with ⟨ha20_0_hp7_N25_, ha20_1_hp7_N25_⟩ | ⟨ha20_0_hp7_N25_, ha20_1_hp7_N25_, ha20_2_hp7_N25_, ha20_3_hp7_N25_, ha20_4_hp7_N25_, ha20_5_hp7_N25_⟩
  · skip
    have hB_ := ha20_1_hp7_N25_
    rw [hs0_] at hB_
    show zW l m_M_troupe (zn Mz + 0, zw Mz + 0) N25_ 23 [some (.ref 81)] [] (zpI [1, 2, 3, 4, 5, 6, 7, 8, 9, 10, 11, 12, 13, 14, 16, 17, 18, 20, 25, 26, 38, 39, 41, 42, 43, 58, 60] [83, 84, 85, 86, 87, 88, 89, 90, 91, 92, 93, 94, 95, 96, 97, 98, 100, 101, 102, 103, 104] Mz (fun v N => ze N 81 1 = 0 ∧ 0 ≤ ze N 81 14 ∧ ze N 81 14 ≤ 8 ∧ 0 ≤ ze N 81 18 ∧ ze N 81 18 ≤ 8 ∧ 0 ≤ ze N 81 60 ∧ ze N 81 60 ≤ 12 ∧ zIF N ∧ zB 83 24 0 5 N ∧ (∃ T : zGT, T ∈ gTabs ∧ zGB T N) ∧ (((v = -1 ∧ zTrB b_ n_ (zru zpB b_ n_ 0) ∧ (∃ T : zGT, T ∈ gTabs ∧ zGB T N ∧ zTm mv0_ T) ∧ zMvq mv0_ N ∧ ze N 81 16 = ze Mz 81 16) ∨ ∃ P : Nat, ∃ mv : List Nat, ∃ T : zGT, zTrP b_ n_ (zru zpB b_ n_ 0) P mv T ∧ v = (gN T : Int) ∧ zGB T N ∧ zMvq mv N ∧ ze N 81 16 = (P : Int)))))
    refine zw_aload_n (pc := 23) (n := 0) (x := 81) rfl d_M_troupe_23 ?_
    refine zr_callV (hf_N25_.w hW) hf_N25_.x (pc := 24) [] [] l_M_373 (c_M_tells l N25_ (hf_N25_.w hW) ) rfl rfl rfl (by decide) (Nat.le_of_ble_eq_true rfl) d_M_troupe_24 ?_
    rintro _ N30_ ⟨rfl, hsN30_, -⟩
    have hf_N30_ : zFr [1, 2, 3, 4, 5, 6, 7, 8, 9, 10, 11, 12, 13, 14, 16, 17, 18, 20, 25, 26, 38, 39, 41, 42, 43, 58, 60] [83, 84, 85, 86, 87, 88, 89, 90, 91, 92, 93, 94, 95, 96, 97, 98, 100, 101, 102, 103, 104] Mz N30_ := hf_N25_.tr hsN30_ (by decide) (by decide)
    have e1_N30_ : ze N30_ 81 1 = ze N25_ 81 1 := hsN30_.e (by decide)
    have e4_N30_ : ze N30_ 81 4 = ze N25_ 81 4 := hsN30_.e (by decide)
    have e7_N30_ : ze N30_ 81 7 = ze N25_ 81 7 := hsN30_.e (by decide)
    have e12_N30_ : ze N30_ 81 12 = ze N25_ 81 12 := hsN30_.e (by decide)
    have e13_N30_ : ze N30_ 81 13 = ze N25_ 81 13 := hsN30_.e (by decide)
    have e14_N30_ : ze N30_ 81 14 = ze N25_ 81 14 := hsN30_.e (by decide)
    have e16_N30_ : ze N30_ 81 16 = ze N25_ 81 16 := hsN30_.e (by decide)
    have e18_N30_ : ze N30_ 81 18 = ze N25_ 81 18 := hsN30_.e (by decide)
    have e20_N30_ : ze N30_ 81 20 = ze N25_ 81 20 := hsN30_.e (by decide)
    have e60_N30_ : ze N30_ 81 60 = ze N25_ 81 60 := hsN30_.e (by decide)
    have c32_ : zIF N30_ := zIF.fr hsN30_ c27_ (by decide) (by decide)
    have c33_ : zMvq mv0_ N30_ := zMvq.fr hsN30_ c28_ (by decide) (by decide)
    have c34_ : zRb b_ n_ N30_ := zRb.fr hsN30_ c29_ (by decide) (by decide)
    have c35_ : zRt b_ n_ N30_ := zRt.fr hsN30_ hp0_N25_ (by decide) (by decide)
    have c36_ : zB 83 24 0 5 N30_ := zB.fr hsN30_ hp5_N25_ (by decide) (by decide)
    have c37_ : zB 85 144 0 5 N30_ := zB.fr hsN30_ hp6_N25_ (by decide) (by decide)
    show zW l m_M_troupe (zn Mz + 0, zw Mz + 0) N30_ 27 [some (.ref 81)] [] (zpI [1, 2, 3, 4, 5, 6, 7, 8, 9, 10, 11, 12, 13, 14, 16, 17, 18, 20, 25, 26, 38, 39, 41, 42, 43, 58, 60] [83, 84, 85, 86, 87, 88, 89, 90, 91, 92, 93, 94, 95, 96, 97, 98, 100, 101, 102, 103, 104] Mz (fun v N => ze N 81 1 = 0 ∧ 0 ≤ ze N 81 14 ∧ ze N 81 14 ≤ 8 ∧ 0 ≤ ze N 81 18 ∧ ze N 81 18 ≤ 8 ∧ 0 ≤ ze N 81 60 ∧ ze N 81 60 ≤ 12 ∧ zIF N ∧ zB 83 24 0 5 N ∧ (∃ T : zGT, T ∈ gTabs ∧ zGB T N) ∧ (((v = -1 ∧ zTrB b_ n_ (zru zpB b_ n_ 0) ∧ (∃ T : zGT, T ∈ gTabs ∧ zGB T N ∧ zTm mv0_ T) ∧ zMvq mv0_ N ∧ ze N 81 16 = ze Mz 81 16) ∨ ∃ P : Nat, ∃ mv : List Nat, ∃ T : zGT, zTrP b_ n_ (zru zpB b_ n_ 0) P mv T ∧ v = (gN T : Int) ∧ zGB T N ∧ zMvq mv N ∧ ze N 81 16 = (P : Int)))))
    refine zw_aload_n (pc := 27) (n := 0) (x := 81) rfl d_M_troupe_27 ?_
    refine zr_getI (hf_N30_.w hW) (pc := 28) f_M_172 rfl d_M_troupe_28 ?_
    refine zr_if_le (pc := 31) (tgt := 40) ⟨(ze_r N30_ 81 7).1, (ze_r N30_ 81 7).2⟩ (by decide) d_M_troupe_31 (fun hc_31 => ?_) (fun hc_31 => ?_)
    · skip
      exfalso; omega
    · skip
      refine zw_aload_n (pc := 34) (n := 0) (x := 81) rfl d_M_troupe_34 ?_
      refine zr_callV (hf_N30_.w hW) hf_N30_.x (pc := 35) [] [] l_M_376 (c_M_goesBackG l N30_ (hf_N30_.w hW) mv0_ c32_ (show 0 ≤ ze N30_ 81 18 by first | assumption | omega) (show ze N30_ 81 18 ≤ 8 by first | assumption | omega) c36_ c37_ c33_) rfl rfl rfl (by decide) (Nat.le_of_ble_eq_true rfl) d_M_troupe_35 ?_
      rintro _ N38_ ⟨rfl, hsN38_, ⟨hp0_N38_, hp1_N38_, hp2_N38_, hp3_N38_, hp4_N38_, hp5_N38_⟩⟩
      have hf_N38_ : zFr [1, 2, 3, 4, 5, 6, 7, 8, 9, 10, 11, 12, 13, 14, 16, 17, 18, 20, 25, 26, 38, 39, 41, 42, 43, 58, 60] [83, 84, 85, 86, 87, 88, 89, 90, 91, 92, 93, 94, 95, 96, 97, 98, 100, 101, 102, 103, 104] Mz N38_ := hf_N30_.tr hsN38_ (by decide) (by decide)
      have e1_N38_ : ze N38_ 81 1 = ze N30_ 81 1 := hsN38_.e (by decide)
      have e4_N38_ : ze N38_ 81 4 = ze N30_ 81 4 := hsN38_.e (by decide)
      have e7_N38_ : ze N38_ 81 7 = ze N30_ 81 7 := hsN38_.e (by decide)
      have r12_N38_ := ze_r N38_ 81 12
      have r13_N38_ := ze_r N38_ 81 13
      have r14_N38_ := ze_r N38_ 81 14
      have e16_N38_ : ze N38_ 81 16 = ze N30_ 81 16 := hsN38_.e (by decide)
      have e18_N38_ : ze N38_ 81 18 = ze N30_ 81 18 := hsN38_.e (by decide)
      have r20_N38_ := ze_r N38_ 81 20
      have e60_N38_ : ze N38_ 81 60 = ze N30_ 81 60 := hsN38_.e (by decide)
      have c40_ : zIF N38_ := zIF.fr hsN38_ c32_ (by decide) (by decide)
      have c41_ : zMvq mv0_ N38_ := zMvq.fr hsN38_ c33_ (by decide) (by decide)
      have c42_ : zRb b_ n_ N38_ := zRb.fr hsN38_ c34_ (by decide) (by decide)
      have c43_ : zRt b_ n_ N38_ := zRt.fr hsN38_ c35_ (by decide) (by decide)
      show zW l m_M_troupe (zn Mz + 0, zw Mz + 0) N38_ 38 [some (.ref 81)] [] (zpI [1, 2, 3, 4, 5, 6, 7, 8, 9, 10, 11, 12, 13, 14, 16, 17, 18, 20, 25, 26, 38, 39, 41, 42, 43, 58, 60] [83, 84, 85, 86, 87, 88, 89, 90, 91, 92, 93, 94, 95, 96, 97, 98, 100, 101, 102, 103, 104] Mz (fun v N => ze N 81 1 = 0 ∧ 0 ≤ ze N 81 14 ∧ ze N 81 14 ≤ 8 ∧ 0 ≤ ze N 81 18 ∧ ze N 81 18 ≤ 8 ∧ 0 ≤ ze N 81 60 ∧ ze N 81 60 ≤ 12 ∧ zIF N ∧ zB 83 24 0 5 N ∧ (∃ T : zGT, T ∈ gTabs ∧ zGB T N) ∧ (((v = -1 ∧ zTrB b_ n_ (zru zpB b_ n_ 0) ∧ (∃ T : zGT, T ∈ gTabs ∧ zGB T N ∧ zTm mv0_ T) ∧ zMvq mv0_ N ∧ ze N 81 16 = ze Mz 81 16) ∨ ∃ P : Nat, ∃ mv : List Nat, ∃ T : zGT, zTrP b_ n_ (zru zpB b_ n_ 0) P mv T ∧ v = (gN T : Int) ∧ zGB T N ∧ zMvq mv N ∧ ze N 81 16 = (P : Int)))))
      have hEx_ : (∃ T : zGT, T ∈ gTabs ∧ zGB T N38_) := by obtain ⟨T, hTt, hGB, -⟩ := id hp0_N38_; exact ⟨T, hTt, hGB⟩
      have hres_ : (((-1 : Int) = -1 ∧ zTrB b_ n_ (zru zpB b_ n_ 0) ∧ (∃ T : zGT, T ∈ gTabs ∧ zGB T N38_ ∧ zTm mv0_ T) ∧ zMvq mv0_ N38_ ∧ ze N38_ 81 16 = ze Mz 81 16) ∨ ∃ P : Nat, ∃ mv : List Nat, ∃ T : zGT, zTrP b_ n_ (zru zpB b_ n_ 0) P mv T ∧ (-1 : Int) = (gN T : Int) ∧ zGB T N38_ ∧ zMvq mv N38_ ∧ ze N38_ 81 16 = (P : Int)) := Or.inl ⟨rfl, hB_, hp0_N38_, hp5_N38_, by omega⟩
      refine zw_iconst (pc := 38) (v := Int32.ofInt (-1)) (by decide) d_M_troupe_38 ?_
      exact zr_iret (pc := 39) (ty := .int) rfl rfl ⟨by omega, by omega⟩ hf_N38_ ⟨(show ze N38_ 81 1 = 0 by first | assumption | omega), (show 0 ≤ ze N38_ 81 14 by first | assumption | omega), (show ze N38_ 81 14 ≤ 8 by first | assumption | omega), (show 0 ≤ ze N38_ 81 18 by first | assumption | omega), (show ze N38_ 81 18 ≤ 8 by first | assumption | omega), (show 0 ≤ ze N38_ 81 60 by first | assumption | omega), (show ze N38_ 81 60 ≤ 12 by first | assumption | omega), hp3_N38_, hp4_N38_, (show (∃ T : zGT, T ∈ gTabs ∧ zGB T N38_) by exact hEx_), (show ((((-1)) = -1 ∧ zTrB b_ n_ (zru zpB b_ n_ 0) ∧ (∃ T : zGT, T ∈ gTabs ∧ zGB T N38_ ∧ zTm mv0_ T) ∧ zMvq mv0_ N38_ ∧ ze N38_ 81 16 = ze Mz 81 16) ∨ ∃ P : Nat, ∃ mv : List Nat, ∃ T : zGT, zTrP b_ n_ (zru zpB b_ n_ 0) P mv T ∧ ((-1)) = (gN T : Int) ∧ zGB T N38_ ∧ zMvq mv N38_ ∧ ze N38_ 81 16 = (P : Int)) by exact hres_)⟩ d_M_troupe_39
  · skip
    obtain ⟨T, mv_, P_, hTt, hGB, hG_, hMs_, hPq_⟩ := id ha20_5_hp7_N25_
    rw [hs0_] at hG_
    show zW l m_M_troupe (zn Mz + 0, zw Mz + 0) N25_ 23 [some (.ref 81)] [] (zpI [1, 2, 3, 4, 5, 6, 7, 8, 9, 10, 11, 12, 13, 14, 16, 17, 18, 20, 25, 26, 38, 39, 41, 42, 43, 58, 60] [83, 84, 85, 86, 87, 88, 89, 90, 91, 92, 93, 94, 95, 96, 97, 98, 100, 101, 102, 103, 104] Mz (fun v N => ze N 81 1 = 0 ∧ 0 ≤ ze N 81 14 ∧ ze N 81 14 ≤ 8 ∧ 0 ≤ ze N 81 18 ∧ ze N 81 18 ≤ 8 ∧ 0 ≤ ze N 81 60 ∧ ze N 81 60 ≤ 12 ∧ zIF N ∧ zB 83 24 0 5 N ∧ (∃ T : zGT, T ∈ gTabs ∧ zGB T N) ∧ (((v = -1 ∧ zTrB b_ n_ (zru zpB b_ n_ 0) ∧ (∃ T : zGT, T ∈ gTabs ∧ zGB T N ∧ zTm mv0_ T) ∧ zMvq mv0_ N ∧ ze N 81 16 = ze Mz 81 16) ∨ ∃ P : Nat, ∃ mv : List Nat, ∃ T : zGT, zTrP b_ n_ (zru zpB b_ n_ 0) P mv T ∧ v = (gN T : Int) ∧ zGB T N ∧ zMvq mv N ∧ ze N 81 16 = (P : Int)))))
    refine zw_aload_n (pc := 23) (n := 0) (x := 81) rfl d_M_troupe_23 ?_
    refine zr_callV (hf_N25_.w hW) hf_N25_.x (pc := 24) [] [] l_M_373 (c_M_tells l N25_ (hf_N25_.w hW) ) rfl rfl rfl (by decide) (Nat.le_of_ble_eq_true rfl) d_M_troupe_24 ?_
    rintro _ N44_ ⟨rfl, hsN44_, -⟩
    have hf_N44_ : zFr [1, 2, 3, 4, 5, 6, 7, 8, 9, 10, 11, 12, 13, 14, 16, 17, 18, 20, 25, 26, 38, 39, 41, 42, 43, 58, 60] [83, 84, 85, 86, 87, 88, 89, 90, 91, 92, 93, 94, 95, 96, 97, 98, 100, 101, 102, 103, 104] Mz N44_ := hf_N25_.tr hsN44_ (by decide) (by decide)
    have e1_N44_ : ze N44_ 81 1 = ze N25_ 81 1 := hsN44_.e (by decide)
    have e4_N44_ : ze N44_ 81 4 = ze N25_ 81 4 := hsN44_.e (by decide)
    have e7_N44_ : ze N44_ 81 7 = ze N25_ 81 7 := hsN44_.e (by decide)
    have e12_N44_ : ze N44_ 81 12 = ze N25_ 81 12 := hsN44_.e (by decide)
    have e13_N44_ : ze N44_ 81 13 = ze N25_ 81 13 := hsN44_.e (by decide)
    have e14_N44_ : ze N44_ 81 14 = ze N25_ 81 14 := hsN44_.e (by decide)
    have e16_N44_ : ze N44_ 81 16 = ze N25_ 81 16 := hsN44_.e (by decide)
    have e18_N44_ : ze N44_ 81 18 = ze N25_ 81 18 := hsN44_.e (by decide)
    have e20_N44_ : ze N44_ 81 20 = ze N25_ 81 20 := hsN44_.e (by decide)
    have e60_N44_ : ze N44_ 81 60 = ze N25_ 81 60 := hsN44_.e (by decide)
    have c46_ : zIF N44_ := zIF.fr hsN44_ c27_ (by decide) (by decide)
    have c47_ : zMvq mv0_ N44_ := zMvq.fr hsN44_ c28_ (by decide) (by decide)
    have c48_ : zRb b_ n_ N44_ := zRb.fr hsN44_ c29_ (by decide) (by decide)
    have c49_ : zRt b_ n_ N44_ := zRt.fr hsN44_ hp0_N25_ (by decide) (by decide)
    have c50_ : zB 83 24 0 5 N44_ := zB.fr hsN44_ hp5_N25_ (by decide) (by decide)
    have c51_ : zB 85 144 0 5 N44_ := zB.fr hsN44_ hp6_N25_ (by decide) (by decide)
    have c52_ : zPm N44_ := zPm.fr hsN44_ ha20_3_hp7_N25_ (by decide) (by decide)
    have c53_ : zFin N44_ := zFin.fr hsN44_ ha20_4_hp7_N25_ (by decide) (by decide)
    have c54_ : zGB T N44_ := zGB.fr hsN44_ hGB (by decide) (by decide)
    have c55_ : zMvt mv_ N44_ := zMvt.fr hsN44_ hMs_ (by decide) (by decide)
    show zW l m_M_troupe (zn Mz + 0, zw Mz + 0) N44_ 27 [some (.ref 81)] [] (zpI [1, 2, 3, 4, 5, 6, 7, 8, 9, 10, 11, 12, 13, 14, 16, 17, 18, 20, 25, 26, 38, 39, 41, 42, 43, 58, 60] [83, 84, 85, 86, 87, 88, 89, 90, 91, 92, 93, 94, 95, 96, 97, 98, 100, 101, 102, 103, 104] Mz (fun v N => ze N 81 1 = 0 ∧ 0 ≤ ze N 81 14 ∧ ze N 81 14 ≤ 8 ∧ 0 ≤ ze N 81 18 ∧ ze N 81 18 ≤ 8 ∧ 0 ≤ ze N 81 60 ∧ ze N 81 60 ≤ 12 ∧ zIF N ∧ zB 83 24 0 5 N ∧ (∃ T : zGT, T ∈ gTabs ∧ zGB T N) ∧ (((v = -1 ∧ zTrB b_ n_ (zru zpB b_ n_ 0) ∧ (∃ T : zGT, T ∈ gTabs ∧ zGB T N ∧ zTm mv0_ T) ∧ zMvq mv0_ N ∧ ze N 81 16 = ze Mz 81 16) ∨ ∃ P : Nat, ∃ mv : List Nat, ∃ T : zGT, zTrP b_ n_ (zru zpB b_ n_ 0) P mv T ∧ v = (gN T : Int) ∧ zGB T N ∧ zMvq mv N ∧ ze N 81 16 = (P : Int)))))
    refine zw_aload_n (pc := 27) (n := 0) (x := 81) rfl d_M_troupe_27 ?_
    refine zr_getI (hf_N44_.w hW) (pc := 28) f_M_172 rfl d_M_troupe_28 ?_
    refine zr_if_le (pc := 31) (tgt := 40) ⟨(ze_r N44_ 81 7).1, (ze_r N44_ 81 7).2⟩ (by decide) d_M_troupe_31 (fun hc_31 => ?_) (fun hc_31 => ?_)
    · skip
      refine zw_aload_n (pc := 40) (n := 0) (x := 81) rfl d_M_troupe_40 ?_
      refine zr_callV (hf_N44_.w hW) hf_N44_.x (pc := 41) [] [] l_M_121 (c_M_inForceG l N44_ (hf_N44_.w hW) mv_ (show 1 ≤ ze N44_ 81 12 by first | assumption | omega) (show ze N44_ 81 12 ≤ 6 by first | assumption | omega) (show 0 ≤ ze N44_ 81 13 by first | assumption | omega) (show ze N44_ 81 13 ≤ 4 by first | assumption | omega) c52_ c53_ c50_ (show 0 ≤ ze N44_ 81 14 by first | assumption | omega) (show ze N44_ 81 14 ≤ 8 by first | assumption | omega) c55_) rfl rfl rfl (by decide) (Nat.le_of_ble_eq_true rfl) d_M_troupe_41 ?_
      rintro _ N56_ ⟨rfl, hsN56_, ⟨hp0_N56_, hp1_N56_, hp2_N56_, hp3_N56_, hp4_N56_, hp5_N56_⟩⟩
      have hf_N56_ : zFr [1, 2, 3, 4, 5, 6, 7, 8, 9, 10, 11, 12, 13, 14, 16, 17, 18, 20, 25, 26, 38, 39, 41, 42, 43, 58, 60] [83, 84, 85, 86, 87, 88, 89, 90, 91, 92, 93, 94, 95, 96, 97, 98, 100, 101, 102, 103, 104] Mz N56_ := hf_N44_.tr hsN56_ (by decide) (by decide)
      have e1_N56_ : ze N56_ 81 1 = ze N44_ 81 1 := hsN56_.e (by decide)
      have e4_N56_ : ze N56_ 81 4 = ze N44_ 81 4 := hsN56_.e (by decide)
      have e7_N56_ : ze N56_ 81 7 = ze N44_ 81 7 := hsN56_.e (by decide)
      have e12_N56_ : ze N56_ 81 12 = ze N44_ 81 12 := hsN56_.e (by decide)
      have e13_N56_ : ze N56_ 81 13 = ze N44_ 81 13 := hsN56_.e (by decide)
      have e14_N56_ : ze N56_ 81 14 = ze N44_ 81 14 := hsN56_.e (by decide)
      have r16_N56_ := ze_r N56_ 81 16
      have r18_N56_ := ze_r N56_ 81 18
      have e20_N56_ : ze N56_ 81 20 = ze N44_ 81 20 := hsN56_.e (by decide)
      have r60_N56_ := ze_r N56_ 81 60
      have c58_ : zRb b_ n_ N56_ := zRb.fr hsN56_ c48_ (by decide) (by decide)
      have c59_ : zRt b_ n_ N56_ := zRt.fr hsN56_ c49_ (by decide) (by decide)
      have c60_ : zB 83 24 0 5 N56_ := zB.fr hsN56_ c50_ (by decide) (by decide)
      have c61_ : zB 85 144 0 5 N56_ := zB.fr hsN56_ c51_ (by decide) (by decide)
      have c62_ : zPm N56_ := zPm.fr hsN56_ c52_ (by decide) (by decide)
      have c63_ : zFin N56_ := zFin.fr hsN56_ c53_ (by decide) (by decide)
      have c64_ : zGB T N56_ := zGB.fr hsN56_ c54_ (by decide) (by decide)
      have c65_ : zMvt mv_ N56_ := zMvt.fr hsN56_ c55_ (by decide) (by decide)
      show zW l m_M_troupe (zn Mz + 0, zw Mz + 0) N56_ 44 [some (.ref 81)] [] (zpI [1, 2, 3, 4, 5, 6, 7, 8, 9, 10, 11, 12, 13, 14, 16, 17, 18, 20, 25, 26, 38, 39, 41, 42, 43, 58, 60] [83, 84, 85, 86, 87, 88, 89, 90, 91, 92, 93, 94, 95, 96, 97, 98, 100, 101, 102, 103, 104] Mz (fun v N => ze N 81 1 = 0 ∧ 0 ≤ ze N 81 14 ∧ ze N 81 14 ≤ 8 ∧ 0 ≤ ze N 81 18 ∧ ze N 81 18 ≤ 8 ∧ 0 ≤ ze N 81 60 ∧ ze N 81 60 ≤ 12 ∧ zIF N ∧ zB 83 24 0 5 N ∧ (∃ T : zGT, T ∈ gTabs ∧ zGB T N) ∧ (((v = -1 ∧ zTrB b_ n_ (zru zpB b_ n_ 0) ∧ (∃ T : zGT, T ∈ gTabs ∧ zGB T N ∧ zTm mv0_ T) ∧ zMvq mv0_ N ∧ ze N 81 16 = ze Mz 81 16) ∨ ∃ P : Nat, ∃ mv : List Nat, ∃ T : zGT, zTrP b_ n_ (zru zpB b_ n_ 0) P mv T ∧ v = (gN T : Int) ∧ zGB T N ∧ zMvq mv N ∧ ze N 81 16 = (P : Int)))))
      have hGB2_ : zGB T N56_ := c64_
      have hEx_ : (∃ T : zGT, T ∈ gTabs ∧ zGB T N56_) := ⟨T, hTt, hGB2_⟩
      have h20_ := hGB2_.1.1
      have hres_ : (((ze N56_ 81 20) = -1 ∧ zTrB b_ n_ (zru zpB b_ n_ 0) ∧ (∃ T : zGT, T ∈ gTabs ∧ zGB T N56_ ∧ zTm mv0_ T) ∧ zMvq mv0_ N56_ ∧ ze N56_ 81 16 = ze Mz 81 16) ∨ ∃ P : Nat, ∃ mv : List Nat, ∃ T : zGT, zTrP b_ n_ (zru zpB b_ n_ 0) P mv T ∧ (ze N56_ 81 20) = (gN T : Int) ∧ zGB T N56_ ∧ zMvq mv N56_ ∧ ze N56_ 81 16 = (P : Int)) := Or.inr ⟨P_, mv_, T, hG_, h20_, hGB2_, hp4_N56_, by omega⟩
      refine zw_aload_n (pc := 44) (n := 0) (x := 81) rfl d_M_troupe_44 ?_
      refine zr_getI (hf_N56_.w hW) (pc := 45) f_M_196 rfl d_M_troupe_45 ?_
      exact zr_iret (pc := 48) (ty := .int) rfl rfl ⟨by omega, by omega⟩ hf_N56_ ⟨(show ze N56_ 81 1 = 0 by first | assumption | omega), (show 0 ≤ ze N56_ 81 14 by first | assumption | omega), (show ze N56_ 81 14 ≤ 8 by first | assumption | omega), (show 0 ≤ ze N56_ 81 18 by first | assumption | omega), (show ze N56_ 81 18 ≤ 8 by first | assumption | omega), (show 0 ≤ ze N56_ 81 60 by first | assumption | omega), (show ze N56_ 81 60 ≤ 12 by first | assumption | omega), hp0_N56_, c60_, (show (∃ T : zGT, T ∈ gTabs ∧ zGB T N56_) by exact hEx_), (show (((ze N56_ 81 20) = -1 ∧ zTrB b_ n_ (zru zpB b_ n_ 0) ∧ (∃ T : zGT, T ∈ gTabs ∧ zGB T N56_ ∧ zTm mv0_ T) ∧ zMvq mv0_ N56_ ∧ ze N56_ 81 16 = ze Mz 81 16) ∨ ∃ P : Nat, ∃ mv : List Nat, ∃ T : zGT, zTrP b_ n_ (zru zpB b_ n_ 0) P mv T ∧ (ze N56_ 81 20) = (gN T : Int) ∧ zGB T N56_ ∧ zMvq mv N56_ ∧ ze N56_ 81 16 = (P : Int)) by exact hres_)⟩ d_M_troupe_48
    · skip
      exfalso; omega
