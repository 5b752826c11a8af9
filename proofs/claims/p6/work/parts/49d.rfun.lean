set_option maxHeartbeats 40000000 in
theorem c_M_buildsF (l : Launch) (Mz : zMem) (hW : zMt Mz) (p0_ : 1 ≤ ze Mz 81 12) (p1_ : ze Mz 81 12 ≤ 6) (p2_ : 0 ≤ ze Mz 81 13) (p3_ : ze Mz 81 13 ≤ 4) (p4_ : zPm Mz) (p5_ : zFin Mz) (p6_ : zB 83 24 0 5 Mz) (p7_ : zB 85 144 0 5 Mz) : zC l m_M_builds 0 0 [.ref 81] Mz (zpV [20, 25, 26] [85, 86, 87, 88, 89, 90, 91, 92, 93, 94] Mz (fun N => ∃ T : zGT, T ∈ gTabs ∧ zGB T N ∧ zTm (zMvs Mz) T ∧ zCdS (ze Mz 81 12) (zMvs Mz) T N)) := by
  refine zC_of (L0 := [some (.ref 81), none, none, none]) md_M_builds (Nat.le_of_ble_eq_true rfl) rfl ?_ zQ0
  have hf : zFr [20, 25, 26] [85, 86, 87, 88, 89, 90, 91, 92, 93, 94] Mz Mz := zFr.rf
  have r_12 := ze_r Mz 81 12
  have r_13 := ze_r Mz 81 13
  have r_20 := ze_r Mz 81 20
  have r_25 := ze_r Mz 81 25
  have r_26 := ze_r Mz 81 26
  refine zw_aload_n (pc := 0) (n := 0) (x := 81) rfl (zdal_p dlC_M_builds_6 (i := 0) rfl) ?_
  refine zr_callV (hf.w hW) hf.x (pc := 1) [] [] l_M_226 (c_M_buildsMembersF l Mz (hf.w hW) (show 1 ≤ ze Mz 81 12 by first | with_reducible assumption | assumption | omega) (show ze Mz 81 12 ≤ 6 by first | with_reducible assumption | assumption | omega) (show 0 ≤ ze Mz 81 13 by first | with_reducible assumption | assumption | omega) (show ze Mz 81 13 ≤ 4 by first | with_reducible assumption | assumption | omega) p4_ p6_ p7_) rfl rfl rfl (by decide) (Nat.le_of_ble_eq_true rfl) (zdal_p dlC_M_builds_6 (i := 1) rfl) ?_
  rintro _ N1_ ⟨v2_, rfl, ⟨hv2_a, hv2_b⟩, hsN1_, ⟨hp0_N1_, hp1_N1_⟩⟩
  have hf_N1_ : zFr [20, 25, 26] [85, 86, 87, 88, 89, 90, 91, 92, 93, 94] Mz N1_ := hf.tr hsN1_ (by decide) (by decide)
  have e12_N1_ : ze N1_ 81 12 = ze Mz 81 12 := hsN1_.e (by decide)
  have e13_N1_ : ze N1_ 81 13 = ze Mz 81 13 := hsN1_.e (by decide)
  have r20_N1_ := ze_r N1_ 81 20
  have e25_N1_ : ze N1_ 81 25 = ze Mz 81 25 := hsN1_.e (by decide)
  have e26_N1_ : ze N1_ 81 26 = ze Mz 81 26 := hsN1_.e (by decide)
  have c3_ : zPm N1_ := zPm.fr hsN1_ p4_ (by decide) (by decide)
  have c4_ : zFin N1_ := zFin.fr hsN1_ p5_ (by decide) (by decide)
  have c5_ : zB 83 24 0 5 N1_ := zB.fr hsN1_ p6_ (by decide) (by decide)
  rcases hp1_N1_ with ⟨rfl, ha1_0_hp1_N1_, ha1_1_hp1_N1_, ha1_2_hp1_N1_, ha1_3_hp1_N1_⟩ | ⟨rfl, ha1_0_hp1_N1_⟩
  · skip
    obtain ⟨T, hTt, hTab, hCd_⟩ := id ha1_3_hp1_N1_
    have hO := gTabs_ok T hTt
    have hG := hO.1
    have g24 := hG.2.1
    have g1 := hG.1
    have gn := hTab.1
    have gl := gF_pos hO
    have hTm_ : zTm (zMvs Mz) T := ⟨_, hCd_⟩
    show zW l m_M_builds (zn Mz + 0, zw Mz + 0) N1_ 4 [some (.ref 81), none, none, none] [.int (Int32.ofInt 1)] _
    refine zw_pop (pc := 4) rfl (zdal_p dlC_M_builds_6 (i := 2) rfl) ?_
    refine zw_aload_n (pc := 5) (n := 0) (x := 81) rfl (zdal_p dlC_M_builds_6 (i := 3) rfl) ?_
    refine zw_iconst (pc := 6) (v := Int32.ofInt 1) (by decide) (zdal_p dlC_M_builds_6 (i := 4) rfl) ?_
    refine zr_putI (hf_N1_.w hW) (pc := 7) f_M_220 rfl rfl ⟨by (exact hv2_a), by (exact hv2_b)⟩ rfl rfl (zdal_p dlC_M_builds_6 (i := 5) rfl) (fun N6_ hsN6_ hvN6_ => ?_)
    have hf_N6_ : zFr [20, 25, 26] [85, 86, 87, 88, 89, 90, 91, 92, 93, 94] Mz N6_ := hf_N1_.tr hsN6_ (by decide) (by decide)
    have e12_N6_ : ze N6_ 81 12 = ze N1_ 81 12 := hsN6_.e (by decide)
    have e13_N6_ : ze N6_ 81 13 = ze N1_ 81 13 := hsN6_.e (by decide)
    have e20_N6_ : ze N6_ 81 20 = ze N1_ 81 20 := hsN6_.e (by decide)
    have r25_N6_ := ze_r N6_ 81 25
    have e26_N6_ : ze N6_ 81 26 = ze N1_ 81 26 := hsN6_.e (by decide)
    have c7_ : zPm N6_ := zPm.fr hsN6_ c3_ (by decide) (by decide)
    have c8_ : zFin N6_ := zFin.fr hsN6_ c4_ (by decide) (by decide)
    have c9_ : zB 83 24 0 5 N6_ := zB.fr hsN6_ c5_ (by decide) (by decide)
    have c10_ : zB 85 144 0 5 N6_ := zB.fr hsN6_ hp0_N1_ (by decide) (by decide)
    have c11_ : zTab T N6_ := zTab.fr hsN6_ hTab (by decide) (by decide)
    have c12_ : zCdR (ze Mz 81 12) (zMvs Mz) T N6_ := zCdR.fr hsN6_ hCd_ (by decide) (by decide)
    refine zw_aload_n (pc := 10) (n := 0) (x := 81) rfl (zdal_p dlC_M_builds_6 (i := 6) rfl) ?_
    refine zr_getF (r := 89) (hf_N6_.w hW) (pc := 11) f_M_38 rfl (zh_89 (hf_N6_.w hW)).1 (zdal_p dlC_M_builds_6 (i := 7) rfl) ?_
    refine zw_iconst (pc := 14) (v := Int32.ofInt 0) (by decide) (zdal_p dlC_M_builds_6 (i := 8) rfl) ?_
    refine zw_iconst (pc := 15) (v := Int32.ofInt 1) (by decide) (zdal_p dlC_M_builds_6 (i := 9) rfl) ?_
    refine zr_iast (pc := 16) (zh_89 (hf_N6_.w hW)).2 (by decide) (by decide) (by (decide)) (by (decide)) (zdal_p dlC_M_builds_6 (i := 10) rfl) (fun N13_ hN13_ hsN13_ => ?_)
    have hf_N13_ : zFr [20, 25, 26] [85, 86, 87, 88, 89, 90, 91, 92, 93, 94] Mz N13_ := hf_N6_.tr hsN13_ (by decide) (by decide)
    have e12_N13_ : ze N13_ 81 12 = ze N6_ 81 12 := hsN13_.e (by decide)
    have e13_N13_ : ze N13_ 81 13 = ze N6_ 81 13 := hsN13_.e (by decide)
    have e20_N13_ : ze N13_ 81 20 = ze N6_ 81 20 := hsN13_.e (by decide)
    have e25_N13_ : ze N13_ 81 25 = ze N6_ 81 25 := hsN13_.e (by decide)
    have e26_N13_ : ze N13_ 81 26 = ze N6_ 81 26 := hsN13_.e (by decide)
    have c14_ : zPm N13_ := zPm.fr hsN13_ c7_ (by decide) (by decide)
    have c15_ : zFin N13_ := zFin.fr hsN13_ c8_ (by decide) (by decide)
    have c16_ : zB 83 24 0 5 N13_ := zB.fr hsN13_ c9_ (by decide) (by decide)
    have c17_ : zB 85 144 0 5 N13_ := zB.fr hsN13_ c10_ (by decide) (by decide)
    have c18_ : zTab T N13_ := zTab.fr hsN13_ c11_ (by decide) (by decide)
    have c19_ : zCdR (ze Mz 81 12) (zMvs Mz) T N13_ := zCdR.fr hsN13_ c12_ (by decide) (by decide)
    have hz0 : ze N13_ 89 0 = 1 := zs_get hN13_ ⟨by decide, by decide⟩
    refine zw_iconst (pc := 17) (v := Int32.ofInt 0) (by decide) (zdal_p dlC_M_builds_6 (i := 11) rfl) ?_
    refine zw_istore_n (pc := 18) (i := 1) (L2 := [some (.ref 81), some (.int (Int32.ofInt 0)), none, none]) rfl (by decide) rfl (zdal_p dlC_M_builds_6 (i := 12) rfl) ?_
    have lp_19 : ∀ (n : Nat) (u20_ : Int) (hu20_a : -2147483648 ≤ u20_) (hu20_b : u20_ < 2147483648) (N21_ : zMem) (hs22_ : zFr [25] [89] N13_ N21_) (i23_ : ze N21_ 81 20 = (gN T : Int)) (i24_ : 1 ≤ ze N21_ 81 25) (i25_ : ze N21_ 81 25 ≤ 64) (i26_ : 0 ≤ u20_) (i27_ : u20_ ≤ ze N21_ 81 25) (i28_ : zJ T N21_ (ze N21_ 81 25)) (i29_ : zX T N21_ (ze N21_ 81 25) u20_ 0), (65 - u20_).toNat < n → zW l m_M_builds (zn Mz + 0, zw Mz + 0) N21_ 19 [some (.ref 81), some (.int (Int32.ofInt u20_)), none, none] [] (zpV [20, 25, 26] [85, 86, 87, 88, 89, 90, 91, 92, 93, 94] Mz (fun N => ∃ T : zGT, T ∈ gTabs ∧ zGB T N ∧ zTm (zMvs Mz) T ∧ zCdS (ze Mz 81 12) (zMvs Mz) T N)) := by
      clear hsN1_ hv2_a hv2_b hp0_N1_ hf_N1_ e12_N1_ e13_N1_ r20_N1_ e25_N1_ e26_N1_ c3_ c4_ c5_ ha1_1_hp1_N1_ ha1_2_hp1_N1_ ha1_3_hp1_N1_ hsN6_ hvN6_ hf_N6_ e12_N6_ e13_N6_ e20_N6_ r25_N6_ e26_N6_ c7_ c8_ c9_ c10_ c11_ c12_ hsN13_ hN13_ e12_N13_ e13_N13_ e20_N13_ e25_N13_ e26_N13_
      intro n
      induction n with
      | zero =>
        intro u20_ hu20_a hu20_b N21_ hs22_ i23_ i24_ i25_ i26_ i27_ i28_ i29_ h0
        exact absurd h0 (Nat.not_lt_zero _)
      | succ n ih_19 =>
        intro u20_ hu20_a hu20_b N21_ hs22_ i23_ i24_ i25_ i26_ i27_ i28_ i29_ hlt_19
        have hf_N21_ : zFr [20, 25, 26] [85, 86, 87, 88, 89, 90, 91, 92, 93, 94] Mz N21_ := hf_N13_.tr hs22_ (by decide) (by decide)
        have e12_N21_ : ze N21_ 81 12 = ze N13_ 81 12 := hs22_.e (by decide)
        have e13_N21_ : ze N21_ 81 13 = ze N13_ 81 13 := hs22_.e (by decide)
        have e20_N21_ : ze N21_ 81 20 = ze N13_ 81 20 := hs22_.e (by decide)
        have r25_N21_ := ze_r N21_ 81 25
        have e26_N21_ : ze N21_ 81 26 = ze N13_ 81 26 := hs22_.e (by decide)
        have c30_ : zPm N21_ := zPm.fr hs22_ c14_ (by decide) (by decide)
        have c31_ : zFin N21_ := zFin.fr hs22_ c15_ (by decide) (by decide)
        have c32_ : zB 83 24 0 5 N21_ := zB.fr hs22_ c16_ (by decide) (by decide)
        have c33_ : zB 85 144 0 5 N21_ := zB.fr hs22_ c17_ (by decide) (by decide)
        have c34_ : zTab T N21_ := zTab.fr hs22_ c18_ (by decide) (by decide)
        have c35_ : zCdR (ze Mz 81 12) (zMvs Mz) T N21_ := zCdR.fr hs22_ c19_ (by decide) (by decide)
        have zz12_N21_ : ze N21_ 81 12 = ze Mz 81 12 := hf_N21_.e (by decide)
        have zz13_N21_ : ze N21_ 81 13 = ze Mz 81 13 := hf_N21_.e (by decide)
        refine zw_iload_n (pc := 19) (n := 1) (x := Int32.ofInt u20_) rfl (zdal_p dlC_M_builds_6 (i := 13) rfl) ?_
        refine zw_aload_n (pc := 20) (n := 0) (x := 81) rfl (zdal_p dlC_M_builds_6 (i := 14) rfl) ?_
        refine zr_getI (hf_N21_.w hW) (pc := 21) f_M_220 rfl (zdal_p dlC_M_builds_6 (i := 15) rfl) ?_
        refine zr_icmp_ge (pc := 24) (tgt := 112) ⟨hu20_a, hu20_b⟩ ⟨(ze_r N21_ 81 25).1, (ze_r N21_ 81 25).2⟩ (by decide) (zdal_p dlC_M_builds_6 (i := 16) rfl) (fun hc_24 => ?_) (fun hc_24 => ?_)
        · skip
          have hJX : zJX T N21_ := ⟨by assumption, by have h := (show zX T N21_ (ze N21_ 81 25) u20_ 0 by first | with_reducible assumption | assumption); rwa [show u20_ = ze N21_ 81 25 by (exact zo_516 hc_24 hu20_b i24_ i25_ i27_)] at h⟩
          refine zw_aload_n (pc := 112) (n := 0) (x := 81) rfl (zdal_p dlC_M_builds_8 (i := 16) rfl) ?_
          refine zw_iconst (pc := 113) (v := Int32.ofInt 0) (by decide) (zdal_p dlC_M_builds_8 (i := 17) rfl) ?_
          refine zr_putI (hf_N21_.w hW) (pc := 114) f_M_235 rfl rfl ⟨by (decide), by (decide)⟩ rfl rfl (zdal_p dlC_M_builds_8 (i := 18) rfl) (fun N36_ hsN36_ hvN36_ => ?_)
          have hf_N36_ : zFr [20, 25, 26] [85, 86, 87, 88, 89, 90, 91, 92, 93, 94] Mz N36_ := hf_N21_.tr hsN36_ (by decide) (by decide)
          have e12_N36_ : ze N36_ 81 12 = ze N21_ 81 12 := hsN36_.e (by decide)
          have e13_N36_ : ze N36_ 81 13 = ze N21_ 81 13 := hsN36_.e (by decide)
          have e20_N36_ : ze N36_ 81 20 = ze N21_ 81 20 := hsN36_.e (by decide)
          have e25_N36_ : ze N36_ 81 25 = ze N21_ 81 25 := hsN36_.e (by decide)
          have r26_N36_ := ze_r N36_ 81 26
          have c37_ : zPm N36_ := zPm.fr hsN36_ c30_ (by decide) (by decide)
          have c38_ : zFin N36_ := zFin.fr hsN36_ c31_ (by decide) (by decide)
          have c39_ : zB 83 24 0 5 N36_ := zB.fr hsN36_ c32_ (by decide) (by decide)
          have c40_ : zB 85 144 0 5 N36_ := zB.fr hsN36_ c33_ (by decide) (by decide)
          have c41_ : zTab T N36_ := zTab.fr hsN36_ c34_ (by decide) (by decide)
          have c42_ : zCdR (ze Mz 81 12) (zMvs Mz) T N36_ := zCdR.fr hsN36_ c35_ (by decide) (by decide)
          have c43_ : zJX T N36_ := zJX.fr hsN36_ hJX (by decide) (by decide)
          have hF0 := zFl_0 (T := T) (M := N36_) (by (exact hvN36_))
          refine zw_iconst (pc := 117) (v := Int32.ofInt 0) (by decide) (zdal_p dlC_M_builds_8 (i := 19) rfl) ?_
          refine zw_istore_n (pc := 118) (i := 1) (L2 := [some (.ref 81), some (.int (Int32.ofInt 0)), none, none]) rfl (by decide) rfl (zdal_p dlC_M_builds_8 (i := 20) rfl) ?_
          have lp_119 : ∀ (n : Nat) (u44_ : Int) (hu44_a : -2147483648 ≤ u44_) (hu44_b : u44_ < 2147483648) (N45_ : zMem) (hs46_ : zFr [26] [91] N36_ N45_) (i47_ : ze N45_ 81 20 = (gN T : Int)) (i48_ : 1 ≤ ze N45_ 81 25) (i49_ : ze N45_ 81 25 ≤ 64) (i50_ : 0 ≤ u44_) (i51_ : u44_ ≤ ze N45_ 81 25) (i52_ : zFl T N45_ u44_) (i53_ : zJX T N45_), (65 - u44_).toNat < n → zW l m_M_builds (zn Mz + 0, zw Mz + 0) N45_ 119 [some (.ref 81), some (.int (Int32.ofInt u44_)), none, none] [] (zpV [20, 25, 26] [85, 86, 87, 88, 89, 90, 91, 92, 93, 94] Mz (fun N => ∃ T : zGT, T ∈ gTabs ∧ zGB T N ∧ zTm (zMvs Mz) T ∧ zCdS (ze Mz 81 12) (zMvs Mz) T N)) := by
            clear hf_N13_ c14_ c15_ c16_ c17_ c18_ c19_ hz0 hu20_a hu20_b hs22_ i26_ e12_N21_ e13_N21_ e20_N21_ e26_N21_
            intro n
            induction n with
            | zero =>
              intro u44_ hu44_a hu44_b N45_ hs46_ i47_ i48_ i49_ i50_ i51_ i52_ i53_ h0
              exact absurd h0 (Nat.not_lt_zero _)
            | succ n ih_119 =>
              intro u44_ hu44_a hu44_b N45_ hs46_ i47_ i48_ i49_ i50_ i51_ i52_ i53_ hlt_119
              have hf_N45_ : zFr [20, 25, 26] [85, 86, 87, 88, 89, 90, 91, 92, 93, 94] Mz N45_ := hf_N36_.tr hs46_ (by decide) (by decide)
              have e12_N45_ : ze N45_ 81 12 = ze N36_ 81 12 := hs46_.e (by decide)
              have e13_N45_ : ze N45_ 81 13 = ze N36_ 81 13 := hs46_.e (by decide)
              have e20_N45_ : ze N45_ 81 20 = ze N36_ 81 20 := hs46_.e (by decide)
              have e25_N45_ : ze N45_ 81 25 = ze N36_ 81 25 := hs46_.e (by decide)
              have r26_N45_ := ze_r N45_ 81 26
              have c54_ : zPm N45_ := zPm.fr hs46_ c37_ (by decide) (by decide)
              have c55_ : zFin N45_ := zFin.fr hs46_ c38_ (by decide) (by decide)
              have c56_ : zB 83 24 0 5 N45_ := zB.fr hs46_ c39_ (by decide) (by decide)
              have c57_ : zB 85 144 0 5 N45_ := zB.fr hs46_ c40_ (by decide) (by decide)
              have c58_ : zTab T N45_ := zTab.fr hs46_ c41_ (by decide) (by decide)
              have c59_ : zCdR (ze Mz 81 12) (zMvs Mz) T N45_ := zCdR.fr hs46_ c42_ (by decide) (by decide)
              have zz12_N45_ : ze N45_ 81 12 = ze Mz 81 12 := hf_N45_.e (by decide)
              have zz13_N45_ : ze N45_ 81 13 = ze Mz 81 13 := hf_N45_.e (by decide)
              refine zw_iload_n (pc := 119) (n := 1) (x := Int32.ofInt u44_) rfl (zdal_p dlC_M_builds_8 (i := 21) rfl) ?_
              refine zw_aload_n (pc := 120) (n := 0) (x := 81) rfl (zdal_p dlC_M_builds_8 (i := 22) rfl) ?_
              refine zr_getI (hf_N45_.w hW) (pc := 121) f_M_220 rfl (zdal_p dlC_M_builds_8 (i := 23) rfl) ?_
              refine zr_icmp_ge (pc := 124) (tgt := 162) ⟨hu44_a, hu44_b⟩ ⟨(ze_r N45_ 81 25).1, (ze_r N45_ 81 25).2⟩ (by decide) (zdal_p dlC_M_builds_9 (i := 0) rfl) (fun hc_124 => ?_) (fun hc_124 => ?_)
              · skip
                have hFi : zFirs T N45_ := by have h := (show zFl T N45_ u44_ by first | with_reducible assumption | assumption); rw [show u44_ = ze N45_ 81 25 by (exact zo_516 hc_124 hu44_b i48_ i49_ i51_)] at h; exact zFl_e hO i53_.1 i53_.2 h
                have hFl := hFi.1
                refine zw_iconst (pc := 162) (v := Int32.ofInt 0) (by decide) (zdal_p dlC_M_builds_9 (i := 20) rfl) ?_
                refine zw_istore_n (pc := 163) (i := 1) (L2 := [some (.ref 81), some (.int (Int32.ofInt 0)), none, none]) rfl (by decide) rfl (zdal_p dlC_M_builds_9 (i := 21) rfl) ?_
                have lp_164 : ∀ (n : Nat) (u60_ : Int) (hu60_a : -2147483648 ≤ u60_) (hu60_b : u60_ < 2147483648) (N61_ : zMem) (hs62_ : zFr [] [92] N45_ N61_) (i63_ : ze N61_ 81 20 = (gN T : Int)) (i64_ : 1 ≤ ze N61_ 81 25) (i65_ : ze N61_ 81 25 ≤ 64) (i66_ : ze N61_ 81 26 = ((gF T).length : Int)) (i67_ : 0 ≤ u60_) (i68_ : ∀ i_ : Nat, (i_ : Int) < u60_ → ze N61_ 92 i_ = 0), (65 - u60_).toNat < n → zW l m_M_builds (zn Mz + 0, zw Mz + 0) N61_ 164 [some (.ref 81), some (.int (Int32.ofInt u60_)), none, none] [] (zpV [20, 25, 26] [85, 86, 87, 88, 89, 90, 91, 92, 93, 94] Mz (fun N => ∃ T : zGT, T ∈ gTabs ∧ zGB T N ∧ zTm (zMvs Mz) T ∧ zCdS (ze Mz 81 12) (zMvs Mz) T N)) := by
                  clear hsN36_ hvN36_ hf_N36_ e12_N36_ e13_N36_ e20_N36_ e25_N36_ r26_N36_ c37_ c38_ c39_ c40_ c41_ c42_ c43_ hF0 hu44_a hu44_b hs46_ i50_ e12_N45_ e13_N45_ e20_N45_ e25_N45_
                  intro n
                  induction n with
                  | zero =>
                    intro u60_ hu60_a hu60_b N61_ hs62_ i63_ i64_ i65_ i66_ i67_ i68_ h0
                    exact absurd h0 (Nat.not_lt_zero _)
                  | succ n ih_164 =>
                    intro u60_ hu60_a hu60_b N61_ hs62_ i63_ i64_ i65_ i66_ i67_ i68_ hlt_164
                    have hf_N61_ : zFr [20, 25, 26] [85, 86, 87, 88, 89, 90, 91, 92, 93, 94] Mz N61_ := hf_N45_.tr hs62_ (by decide) (by decide)
                    have e12_N61_ : ze N61_ 81 12 = ze N45_ 81 12 := hs62_.e (by decide)
                    have e13_N61_ : ze N61_ 81 13 = ze N45_ 81 13 := hs62_.e (by decide)
                    have e20_N61_ : ze N61_ 81 20 = ze N45_ 81 20 := hs62_.e (by decide)
                    have e25_N61_ : ze N61_ 81 25 = ze N45_ 81 25 := hs62_.e (by decide)
                    have e26_N61_ : ze N61_ 81 26 = ze N45_ 81 26 := hs62_.e (by decide)
                    have c69_ : zPm N61_ := zPm.fr hs62_ c54_ (by decide) (by decide)
                    have c70_ : zFin N61_ := zFin.fr hs62_ c55_ (by decide) (by decide)
                    have c71_ : zB 83 24 0 5 N61_ := zB.fr hs62_ c56_ (by decide) (by decide)
                    have c72_ : zB 85 144 0 5 N61_ := zB.fr hs62_ c57_ (by decide) (by decide)
                    have c73_ : zTab T N61_ := zTab.fr hs62_ c58_ (by decide) (by decide)
                    have c74_ : zCdR (ze Mz 81 12) (zMvs Mz) T N61_ := zCdR.fr hs62_ c59_ (by decide) (by decide)
                    have c75_ : zJX T N61_ := zJX.fr hs62_ i53_ (by decide) (by decide)
                    have c76_ : zFirs T N61_ := zFirs.fr hs62_ hFi (by decide) (by decide)
                    have zz12_N61_ : ze N61_ 81 12 = ze Mz 81 12 := hf_N61_.e (by decide)
                    have zz13_N61_ : ze N61_ 81 13 = ze Mz 81 13 := hf_N61_.e (by decide)
                    have hz1_ := (show ∀ i_ : Nat, (i_ : Int) < u60_ → ze N61_ 92 i_ = 0 by first | with_reducible assumption | assumption)
                    refine zw_iload_n (pc := 164) (n := 1) (x := Int32.ofInt u60_) rfl (zdal_p dlC_M_builds_9 (i := 22) rfl) ?_
                    refine zw_aload_n (pc := 165) (n := 0) (x := 81) rfl (zdal_p dlC_M_builds_9 (i := 23) rfl) ?_
                    refine zr_getI (hf_N61_.w hW) (pc := 166) f_M_235 rfl (zdal_p dlC_M_builds_10 (i := 0) rfl) ?_
                    refine zr_icmp_ge (pc := 169) (tgt := 185) ⟨hu60_a, hu60_b⟩ ⟨(ze_r N61_ 81 26).1, (ze_r N61_ 81 26).2⟩ (by decide) (zdal_p dlC_M_builds_10 (i := 1) rfl) (fun hc_169 => ?_) (fun hc_169 => ?_)
                    · skip
                      have hz3_ : ∀ i_ : Nat, (i_ : Int) < ((gF T).length : Int) → ze N61_ 92 i_ = 0 := fun i_ hi_ => hz1_ i_ (by (exact zo_517 gl.2 hc_169 hi_ i66_ i67_))
                      refine zw_iconst (pc := 185) (v := Int32.ofInt 0) (by decide) (zdal_p dlC_M_builds_10 (i := 9) rfl) ?_
                      refine zw_istore_n (pc := 186) (i := 1) (L2 := [some (.ref 81), some (.int (Int32.ofInt 0)), none, none]) rfl (by decide) rfl (zdal_p dlC_M_builds_10 (i := 10) rfl) ?_
                      have lp_187 : ∀ (n : Nat) (u77_ : Int) (hu77_a : -2147483648 ≤ u77_) (hu77_b : u77_ < 2147483648) (N78_ : zMem) (hs79_ : zFr [] [90, 92] N61_ N78_) (i80_ : ze N78_ 81 20 = (gN T : Int)) (i81_ : 1 ≤ ze N78_ 81 25) (i82_ : ze N78_ 81 25 ≤ 64) (i83_ : ze N78_ 81 26 = ((gF T).length : Int)) (i84_ : 0 ≤ u77_) (i85_ : u77_ ≤ ze N78_ 81 25) (i86_ : zSS T N78_ u77_) (i87_ : zSoF N78_ ((gF T).length : Int) u77_), (65 - u77_).toNat < n → zW l m_M_builds (zn Mz + 0, zw Mz + 0) N78_ 187 [some (.ref 81), some (.int (Int32.ofInt u77_)), none, none] [] (zpV [20, 25, 26] [85, 86, 87, 88, 89, 90, 91, 92, 93, 94] Mz (fun N => ∃ T : zGT, T ∈ gTabs ∧ zGB T N ∧ zTm (zMvs Mz) T ∧ zCdS (ze Mz 81 12) (zMvs Mz) T N)) := by
                        clear hu60_a hu60_b i67_
                        intro n
                        induction n with
                        | zero =>
                          intro u77_ hu77_a hu77_b N78_ hs79_ i80_ i81_ i82_ i83_ i84_ i85_ i86_ i87_ h0
                          exact absurd h0 (Nat.not_lt_zero _)
                        | succ n ih_187 =>
                          intro u77_ hu77_a hu77_b N78_ hs79_ i80_ i81_ i82_ i83_ i84_ i85_ i86_ i87_ hlt_187
                          have hf_N78_ : zFr [20, 25, 26] [85, 86, 87, 88, 89, 90, 91, 92, 93, 94] Mz N78_ := hf_N61_.tr hs79_ (by decide) (by decide)
                          have e12_N78_ : ze N78_ 81 12 = ze N61_ 81 12 := hs79_.e (by decide)
                          have e13_N78_ : ze N78_ 81 13 = ze N61_ 81 13 := hs79_.e (by decide)
                          have e20_N78_ : ze N78_ 81 20 = ze N61_ 81 20 := hs79_.e (by decide)
                          have e25_N78_ : ze N78_ 81 25 = ze N61_ 81 25 := hs79_.e (by decide)
                          have e26_N78_ : ze N78_ 81 26 = ze N61_ 81 26 := hs79_.e (by decide)
                          have c88_ : zPm N78_ := zPm.fr hs79_ c69_ (by decide) (by decide)
                          have c89_ : zFin N78_ := zFin.fr hs79_ c70_ (by decide) (by decide)
                          have c90_ : zB 83 24 0 5 N78_ := zB.fr hs79_ c71_ (by decide) (by decide)
                          have c91_ : zB 85 144 0 5 N78_ := zB.fr hs79_ c72_ (by decide) (by decide)
                          have c92_ : zTab T N78_ := zTab.fr hs79_ c73_ (by decide) (by decide)
                          have c93_ : zCdR (ze Mz 81 12) (zMvs Mz) T N78_ := zCdR.fr hs79_ c74_ (by decide) (by decide)
                          have c94_ : zJX T N78_ := zJX.fr hs79_ c75_ (by decide) (by decide)
                          have c95_ : zFirs T N78_ := zFirs.fr hs79_ c76_ (by decide) (by decide)
                          have zz12_N78_ : ze N78_ 81 12 = ze Mz 81 12 := hf_N78_.e (by decide)
                          have zz13_N78_ : ze N78_ 81 13 = ze Mz 81 13 := hf_N78_.e (by decide)
                          have hso_ := (show zSoF N78_ ((gF T).length : Int) u77_ by first | with_reducible assumption | assumption)
                          refine zw_iload_n (pc := 187) (n := 1) (x := Int32.ofInt u77_) rfl (zdal_p dlC_M_builds_10 (i := 11) rfl) ?_
                          refine zw_aload_n (pc := 188) (n := 0) (x := 81) rfl (zdal_p dlC_M_builds_10 (i := 12) rfl) ?_
                          refine zr_getI (hf_N78_.w hW) (pc := 189) f_M_220 rfl (zdal_p dlC_M_builds_10 (i := 13) rfl) ?_
                          refine zr_icmp_ge (pc := 192) (tgt := 236) ⟨hu77_a, hu77_b⟩ ⟨(ze_r N78_ 81 25).1, (ze_r N78_ 81 25).2⟩ (by decide) (zdal_p dlC_M_builds_10 (i := 14) rfl) (fun hc_192 => ?_) (fun hc_192 => ?_)
                          · skip
                            have hSS : zSSm T N78_ := by have h := (show zSS T N78_ u77_ by first | with_reducible assumption | assumption); rw [show u77_ = ze N78_ 81 25 by (exact zo_516 hc_192 hu77_b i81_ i82_ i85_)] at h; exact h
                            have hSoM_ : zSoM T N78_ := by have h_ := hso_; unfold zSoM; rwa [show u77_ = ze N78_ 81 25 by (exact zo_516 hc_192 hu77_b i81_ i82_ i85_)] at h_
                            refine zw_iconst (pc := 236) (v := Int32.ofInt 0) (by decide) (zdal_p dlC_M_builds_11 (i := 16) rfl) ?_
                            refine zw_istore_n (pc := 237) (i := 1) (L2 := [some (.ref 81), some (.int (Int32.ofInt 0)), none, none]) rfl (by decide) rfl (zdal_p dlC_M_builds_11 (i := 17) rfl) ?_
                            have lp_238 : ∀ (n : Nat) (u96_ : Int) (hu96_a : -2147483648 ≤ u96_) (hu96_b : u96_ < 2147483648) (N97_ : zMem) (hs98_ : zFr [] [94] N78_ N97_) (i99_ : ze N97_ 81 20 = (gN T : Int)) (i100_ : 1 ≤ ze N97_ 81 25) (i101_ : ze N97_ 81 25 ≤ 64) (i102_ : ze N97_ 81 26 = ((gF T).length : Int)) (i103_ : 0 ≤ u96_) (i104_ : u96_ ≤ ze N97_ 81 26) (i105_ : zCs T N97_ u96_), (65 - u96_).toNat < n → zW l m_M_builds (zn Mz + 0, zw Mz + 0) N97_ 238 [some (.ref 81), some (.int (Int32.ofInt u96_)), none, none] [] (zpV [20, 25, 26] [85, 86, 87, 88, 89, 90, 91, 92, 93, 94] Mz (fun N => ∃ T : zGT, T ∈ gTabs ∧ zGB T N ∧ zTm (zMvs Mz) T ∧ zCdS (ze Mz 81 12) (zMvs Mz) T N)) := by
                              clear hu77_a hu77_b i84_
                              intro n
                              induction n with
                              | zero =>
                                intro u96_ hu96_a hu96_b N97_ hs98_ i99_ i100_ i101_ i102_ i103_ i104_ i105_ h0
                                exact absurd h0 (Nat.not_lt_zero _)
                              | succ n ih_238 =>
                                intro u96_ hu96_a hu96_b N97_ hs98_ i99_ i100_ i101_ i102_ i103_ i104_ i105_ hlt_238
                                have hf_N97_ : zFr [20, 25, 26] [85, 86, 87, 88, 89, 90, 91, 92, 93, 94] Mz N97_ := hf_N78_.tr hs98_ (by decide) (by decide)
                                have e12_N97_ : ze N97_ 81 12 = ze N78_ 81 12 := hs98_.e (by decide)
                                have e13_N97_ : ze N97_ 81 13 = ze N78_ 81 13 := hs98_.e (by decide)
                                have e20_N97_ : ze N97_ 81 20 = ze N78_ 81 20 := hs98_.e (by decide)
                                have e25_N97_ : ze N97_ 81 25 = ze N78_ 81 25 := hs98_.e (by decide)
                                have e26_N97_ : ze N97_ 81 26 = ze N78_ 81 26 := hs98_.e (by decide)
                                have c106_ : zPm N97_ := zPm.fr hs98_ c88_ (by decide) (by decide)
                                have c107_ : zFin N97_ := zFin.fr hs98_ c89_ (by decide) (by decide)
                                have c108_ : zB 83 24 0 5 N97_ := zB.fr hs98_ c90_ (by decide) (by decide)
                                have c109_ : zB 85 144 0 5 N97_ := zB.fr hs98_ c91_ (by decide) (by decide)
                                have c110_ : zTab T N97_ := zTab.fr hs98_ c92_ (by decide) (by decide)
                                have c111_ : zCdR (ze Mz 81 12) (zMvs Mz) T N97_ := zCdR.fr hs98_ c93_ (by decide) (by decide)
                                have c112_ : zJX T N97_ := zJX.fr hs98_ c94_ (by decide) (by decide)
                                have c113_ : zFirs T N97_ := zFirs.fr hs98_ c95_ (by decide) (by decide)
                                have c114_ : zSSm T N97_ := zSSm.fr hs98_ hSS (by decide) (by decide)
                                have c115_ : zSoM T N97_ := zSoM.fr hs98_ hSoM_ (by decide) (by decide)
                                have zz12_N97_ : ze N97_ 81 12 = ze Mz 81 12 := hf_N97_.e (by decide)
                                have zz13_N97_ : ze N97_ 81 13 = ze Mz 81 13 := hf_N97_.e (by decide)
                                refine zw_iload_n (pc := 238) (n := 1) (x := Int32.ofInt u96_) rfl (zdal_p dlC_M_builds_11 (i := 18) rfl) ?_
                                refine zw_aload_n (pc := 239) (n := 0) (x := 81) rfl (zdal_p dlC_M_builds_11 (i := 19) rfl) ?_
                                refine zr_getI (hf_N97_.w hW) (pc := 240) f_M_235 rfl (zdal_p dlC_M_builds_11 (i := 20) rfl) ?_
                                refine zr_icmp_ge (pc := 243) (tgt := 290) ⟨hu96_a, hu96_b⟩ ⟨(ze_r N97_ 81 26).1, (ze_r N97_ 81 26).2⟩ (by decide) (zdal_p dlC_M_builds_11 (i := 21) rfl) (fun hc_243 => ?_) (fun hc_243 => ?_)
                                · skip
                                  have hCL : zCs T N97_ ((gF T).length : Int) := by have h := (show zCs T N97_ u96_ by first | with_reducible assumption | assumption); rwa [show u96_ = ((gF T).length : Int) by (exact zo_518 gl.2 hc_243 hu96_b i102_ i103_ i104_)] at h
                                  refine zw_iconst (pc := 290) (v := Int32.ofInt 0) (by decide) (zdal_p dlC_M_builds_12 (i := 23) rfl) ?_
                                  refine zw_istore_n (pc := 291) (i := 1) (L2 := [some (.ref 81), some (.int (Int32.ofInt 0)), none, none]) rfl (by decide) rfl (zdal_p dlC_M_builds_13 (i := 0) rfl) ?_
                                  have lp_292 : ∀ (n : Nat) (u116_ : Int) (hu116_a : -2147483648 ≤ u116_) (hu116_b : u116_ < 2147483648) (N117_ : zMem) (hs118_ : zFr [] [93] N97_ N117_) (i119_ : ze N117_ 81 20 = (gN T : Int)) (i120_ : 1 ≤ ze N117_ 81 25) (i121_ : ze N117_ 81 25 ≤ 64) (i122_ : ze N117_ 81 26 = ((gF T).length : Int)) (i123_ : 0 ≤ u116_) (i124_ : u116_ ≤ ze N117_ 81 26) (i125_ : zMs T N117_ u116_ 0), (65 - u116_).toNat < n → zW l m_M_builds (zn Mz + 0, zw Mz + 0) N117_ 292 [some (.ref 81), some (.int (Int32.ofInt u116_)), none, none] [] (zpV [20, 25, 26] [85, 86, 87, 88, 89, 90, 91, 92, 93, 94] Mz (fun N => ∃ T : zGT, T ∈ gTabs ∧ zGB T N ∧ zTm (zMvs Mz) T ∧ zCdS (ze Mz 81 12) (zMvs Mz) T N)) := by
                                    clear hu96_a hu96_b i103_
                                    intro n
                                    induction n with
                                    | zero =>
                                      intro u116_ hu116_a hu116_b N117_ hs118_ i119_ i120_ i121_ i122_ i123_ i124_ i125_ h0
                                      exact absurd h0 (Nat.not_lt_zero _)
                                    | succ n ih_292 =>
                                      intro u116_ hu116_a hu116_b N117_ hs118_ i119_ i120_ i121_ i122_ i123_ i124_ i125_ hlt_292
                                      have hf_N117_ : zFr [20, 25, 26] [85, 86, 87, 88, 89, 90, 91, 92, 93, 94] Mz N117_ := hf_N97_.tr hs118_ (by decide) (by decide)
                                      have e12_N117_ : ze N117_ 81 12 = ze N97_ 81 12 := hs118_.e (by decide)
                                      have e13_N117_ : ze N117_ 81 13 = ze N97_ 81 13 := hs118_.e (by decide)
                                      have e20_N117_ : ze N117_ 81 20 = ze N97_ 81 20 := hs118_.e (by decide)
                                      have e25_N117_ : ze N117_ 81 25 = ze N97_ 81 25 := hs118_.e (by decide)
                                      have e26_N117_ : ze N117_ 81 26 = ze N97_ 81 26 := hs118_.e (by decide)
                                      have c126_ : zPm N117_ := zPm.fr hs118_ c106_ (by decide) (by decide)
                                      have c127_ : zFin N117_ := zFin.fr hs118_ c107_ (by decide) (by decide)
                                      have c128_ : zB 83 24 0 5 N117_ := zB.fr hs118_ c108_ (by decide) (by decide)
                                      have c129_ : zB 85 144 0 5 N117_ := zB.fr hs118_ c109_ (by decide) (by decide)
                                      have c130_ : zTab T N117_ := zTab.fr hs118_ c110_ (by decide) (by decide)
                                      have c131_ : zCdR (ze Mz 81 12) (zMvs Mz) T N117_ := zCdR.fr hs118_ c111_ (by decide) (by decide)
                                      have c132_ : zJX T N117_ := zJX.fr hs118_ c112_ (by decide) (by decide)
                                      have c133_ : zFirs T N117_ := zFirs.fr hs118_ c113_ (by decide) (by decide)
                                      have c134_ : zSSm T N117_ := zSSm.fr hs118_ c114_ (by decide) (by decide)
                                      have c135_ : zSoM T N117_ := zSoM.fr hs118_ c115_ (by decide) (by decide)
                                      have c136_ : zCsL T N117_ := zCsL.fr hs118_ hCL (by decide) (by decide)
                                      have zz12_N117_ : ze N117_ 81 12 = ze Mz 81 12 := hf_N117_.e (by decide)
                                      have zz13_N117_ : ze N117_ 81 13 = ze Mz 81 13 := hf_N117_.e (by decide)
                                      refine zw_iload_n (pc := 292) (n := 1) (x := Int32.ofInt u116_) rfl (zdal_p dlC_M_builds_13 (i := 1) rfl) ?_
                                      refine zw_aload_n (pc := 293) (n := 0) (x := 81) rfl (zdal_p dlC_M_builds_13 (i := 2) rfl) ?_
                                      refine zr_getI (hf_N117_.w hW) (pc := 294) f_M_235 rfl (zdal_p dlC_M_builds_13 (i := 3) rfl) ?_
                                      refine zr_icmp_ge (pc := 297) (tgt := 344) ⟨hu116_a, hu116_b⟩ ⟨(ze_r N117_ 81 26).1, (ze_r N117_ 81 26).2⟩ (by decide) (zdal_p dlC_M_builds_13 (i := 4) rfl) (fun hc_297 => ?_) (fun hc_297 => ?_)
                                      · skip
                                        have hML : zMs T N117_ ((gF T).length : Int) 0 := by have h := (show zMs T N117_ u116_ 0 by first | with_reducible assumption | assumption); rwa [show u116_ = ((gF T).length : Int) by (exact zo_518 gl.2 hc_297 hu116_b i122_ i123_ i124_)] at h
                                        exact zr_vret (pc := 344) rfl hf_N117_ (show ∃ T : zGT, T ∈ gTabs ∧ zGB T N117_ ∧ zTm (zMvs Mz) T ∧ zCdS (ze Mz 81 12) (zMvs Mz) T N117_ by exact ⟨T, hTt, ⟨c130_, c129_, c132_, c133_, c134_, c136_, hML⟩, hTm_, c131_, c135_⟩) (zdal_p dlC_M_builds_14 (i := 6) rfl)
                                      · skip
                                        refine zw_iconst (pc := 300) (v := Int32.ofInt 0) (by decide) (zdal_p dlC_M_builds_13 (i := 5) rfl) ?_
                                        refine zw_istore_n (pc := 301) (i := 2) (L2 := [some (.ref 81), some (.int (Int32.ofInt u116_)), some (.int (Int32.ofInt 0)), none]) rfl (by decide) rfl (zdal_p dlC_M_builds_13 (i := 6) rfl) ?_
                                        have lp_302 : ∀ (n : Nat) (u137_ : Int) (hu137_a : -2147483648 ≤ u137_) (hu137_b : u137_ < 2147483648) (N138_ : zMem) (hs139_ : zFr [] [93] N117_ N138_) (i140_ : ze N138_ 81 20 = (gN T : Int)) (i141_ : 1 ≤ ze N138_ 81 25) (i142_ : ze N138_ 81 25 ≤ 64) (i143_ : ze N138_ 81 26 = ((gF T).length : Int)) (i144_ : 0 ≤ u116_) (i145_ : u116_ < ze N138_ 81 26) (i146_ : 0 ≤ u137_) (i147_ : u137_ ≤ ze N138_ 81 26) (i148_ : zMs T N138_ u116_ u137_), (65 - u137_).toNat < n → zW l m_M_builds (zn Mz + 0, zw Mz + 0) N138_ 302 [some (.ref 81), some (.int (Int32.ofInt u116_)), some (.int (Int32.ofInt u137_)), none] [] (zpV [20, 25, 26] [85, 86, 87, 88, 89, 90, 91, 92, 93, 94] Mz (fun N => ∃ T : zGT, T ∈ gTabs ∧ zGB T N ∧ zTm (zMvs Mz) T ∧ zCdS (ze Mz 81 12) (zMvs Mz) T N)) := by
                                          intro n
                                          induction n with
                                          | zero =>
                                            intro u137_ hu137_a hu137_b N138_ hs139_ i140_ i141_ i142_ i143_ i144_ i145_ i146_ i147_ i148_ h0
                                            exact absurd h0 (Nat.not_lt_zero _)
                                          | succ n ih_302 =>
                                            intro u137_ hu137_a hu137_b N138_ hs139_ i140_ i141_ i142_ i143_ i144_ i145_ i146_ i147_ i148_ hlt_302
                                            have hf_N138_ : zFr [20, 25, 26] [85, 86, 87, 88, 89, 90, 91, 92, 93, 94] Mz N138_ := hf_N117_.tr hs139_ (by decide) (by decide)
                                            have hb0_N138_ : zFr [] [93] N97_ N138_ := hs118_.tr hs139_ (by decide) (by decide)
                                            have e12_N138_ : ze N138_ 81 12 = ze N117_ 81 12 := hs139_.e (by decide)
                                            have e13_N138_ : ze N138_ 81 13 = ze N117_ 81 13 := hs139_.e (by decide)
                                            have e20_N138_ : ze N138_ 81 20 = ze N117_ 81 20 := hs139_.e (by decide)
                                            have e25_N138_ : ze N138_ 81 25 = ze N117_ 81 25 := hs139_.e (by decide)
                                            have e26_N138_ : ze N138_ 81 26 = ze N117_ 81 26 := hs139_.e (by decide)
                                            have c149_ : zPm N138_ := zPm.fr hs139_ c126_ (by decide) (by decide)
                                            have c150_ : zFin N138_ := zFin.fr hs139_ c127_ (by decide) (by decide)
                                            have c151_ : zB 83 24 0 5 N138_ := zB.fr hs139_ c128_ (by decide) (by decide)
                                            have c152_ : zB 85 144 0 5 N138_ := zB.fr hs139_ c129_ (by decide) (by decide)
                                            have c153_ : zTab T N138_ := zTab.fr hs139_ c130_ (by decide) (by decide)
                                            have c154_ : zCdR (ze Mz 81 12) (zMvs Mz) T N138_ := zCdR.fr hs139_ c131_ (by decide) (by decide)
                                            have c155_ : zJX T N138_ := zJX.fr hs139_ c132_ (by decide) (by decide)
                                            have c156_ : zFirs T N138_ := zFirs.fr hs139_ c133_ (by decide) (by decide)
                                            have c157_ : zSSm T N138_ := zSSm.fr hs139_ c134_ (by decide) (by decide)
                                            have c158_ : zSoM T N138_ := zSoM.fr hs139_ c135_ (by decide) (by decide)
                                            have c159_ : zCsL T N138_ := zCsL.fr hs139_ c136_ (by decide) (by decide)
                                            have zz12_N138_ : ze N138_ 81 12 = ze Mz 81 12 := hf_N138_.e (by decide)
                                            have zz13_N138_ : ze N138_ 81 13 = ze Mz 81 13 := hf_N138_.e (by decide)
                                            refine zw_iload_n (pc := 302) (n := 2) (x := Int32.ofInt u137_) rfl (zdal_p dlC_M_builds_13 (i := 7) rfl) ?_
                                            refine zw_aload_n (pc := 303) (n := 0) (x := 81) rfl (zdal_p dlC_M_builds_13 (i := 8) rfl) ?_
                                            refine zr_getI (hf_N138_.w hW) (pc := 304) f_M_235 rfl (zdal_p dlC_M_builds_13 (i := 9) rfl) ?_
                                            refine zr_icmp_ge (pc := 307) (tgt := 338) ⟨hu137_a, hu137_b⟩ ⟨(ze_r N138_ 81 26).1, (ze_r N138_ 81 26).2⟩ (by decide) (zdal_p dlC_M_builds_13 (i := 10) rfl) (fun hc_307 => ?_) (fun hc_307 => ?_)
                                            · skip
                                              refine zr_iinc (pc := 338) (i := 1) (a := u116_) (n := 1) (L2 := [some (.ref 81), some (.int (Int32.ofInt (u116_ + 1))), some (.int (Int32.ofInt u137_)), none]) rfl (by decide) rfl (zdal_p dlC_M_builds_14 (i := 4) rfl) ?_
                                              refine zw_goto (pc := 341) (tgt := 292) (by decide) (zdal_p dlC_M_builds_14 (i := 5) rfl) ?_
                                              have hMn : zMs T N138_ (u116_ + 1) 0 := zMs_n (by first | with_reducible assumption | assumption) (by (exact zo_519 gl.2 hc_307 i143_ i146_))
                                              refine zW_le [some (.ref 81), some (.int (Int32.ofInt (u116_ + 1))), none, none] (⟨rfl, rfl, trivial⟩) ?_
                                              exact ih_292 (u116_ + 1) (by (exact zo_74 i123_)) (by (exact zo_520 gl.2 hc_297 hu116_b i122_)) N138_ hb0_N138_ (show ze N138_ 81 20 = (gN T : Int) by first | with_reducible assumption | assumption | omega) (show 1 ≤ ze N138_ 81 25 by first | with_reducible assumption | assumption | omega) (show ze N138_ 81 25 ≤ 64 by first | with_reducible assumption | assumption | omega) (show ze N138_ 81 26 = ((gF T).length : Int) by first | with_reducible assumption | assumption | omega) (show 0 ≤ (u116_ + 1) by first | with_reducible assumption | (exact zo_76 i123_) | assumption) (show (u116_ + 1) ≤ ze N138_ 81 26 by first | with_reducible assumption | assumption | omega) (show zMs T N138_ (u116_ + 1) 0 by first | with_reducible assumption | assumption | omega) (by (exact zo_521 gl.2 hc_297 hlt_292 hu116_b i122_ i123_))
                                            · skip
                                              refine zw_aload_n (pc := 310) (n := 0) (x := 81) rfl (zdal_p dlC_M_builds_13 (i := 11) rfl) ?_
                                              refine zr_getF (r := 93) (hf_N138_.w hW) (pc := 311) f_M_50 rfl (zh_93 (hf_N138_.w hW)).1 (zdal_p dlC_M_builds_13 (i := 12) rfl) ?_
                                              refine zw_bipush (pc := 314) (v := Int32.ofInt 64) (by decide) (zdal_p dlC_M_builds_13 (i := 13) rfl) ?_
                                              refine zw_iload_n (pc := 316) (n := 1) (x := Int32.ofInt u116_) rfl (zdal_p dlC_M_builds_13 (i := 14) rfl) ?_
                                              refine zr_imul (pc := 317) (zdal_p dlC_M_builds_13 (i := 15) rfl) ?_
                                              refine zw_iload_n (pc := 318) (n := 2) (x := Int32.ofInt u137_) rfl (zdal_p dlC_M_builds_13 (i := 16) rfl) ?_
                                              refine zr_iadd (pc := 319) (zdal_p dlC_M_builds_13 (i := 17) rfl) ?_
                                              refine zw_aload_n (pc := 320) (n := 0) (x := 81) rfl (zdal_p dlC_M_builds_13 (i := 18) rfl) ?_
                                              refine zw_iload_n (pc := 321) (n := 1) (x := Int32.ofInt u116_) rfl (zdal_p dlC_M_builds_13 (i := 19) rfl) ?_
                                              refine zw_aload_n (pc := 322) (n := 0) (x := 81) rfl (zdal_p dlC_M_builds_13 (i := 20) rfl) ?_
                                              refine zr_getF (r := 91) (hf_N138_.w hW) (pc := 323) f_M_44 rfl (zh_91 (hf_N138_.w hW)).1 (zdal_p dlC_M_builds_13 (i := 21) rfl) ?_
                                              refine zw_iload_n (pc := 326) (n := 2) (x := Int32.ofInt u137_) rfl (zdal_p dlC_M_builds_13 (i := 22) rfl) ?_
                                              refine zr_ialdn (pc := 327) (zh_91 (hf_N138_.w hW)).2 (by decide) (by (exact i146_)) (by (exact zo_522 gl.2 hc_307 hu137_b i143_)) (zdal_p dlC_M_builds_13 (i := 23) rfl) (fun v160_ hv160_ hv160_a hv160_b => ?_)
                                              have hfi := c156_.2 (u137_).toNat (by (exact zo_523 gl.2 hc_307 hu137_b i143_ i146_))
                                              refine zr_toI (show v160_ = (((gF T).getD (u137_).toNat 0 : Nat) : Int) by (exact zo_524 hfi hv160_ hv160_b)) ?_
                                              have hcc := c159_ (u116_).toNat (by (exact zo_525 gl.2 hc_297 hu116_b i122_ i123_ i143_ i145_))
                                              refine zr_callV (hf_N138_.w hW) hf_N138_.x (pc := 328) [.int (Int32.ofInt u116_), .int (Int32.ofInt ((((gF T).getD (u137_).toNat 0 : Nat) : Int)))] [.int (Int32.ofInt ((64 * u116_) + u137_)), .ref 93] l_M_250 (c_M_fixedOf l N138_ (hf_N138_.w hW) u116_ hu116_a hu116_b ((((gF T).getD (u137_).toNat 0 : Nat) : Int)) (by (exact zo_526)) (by (exact zo_527 hfi hv160_ hv160_b)) T hG ((gF T).getD (u116_).toNat 0) c153_ (show 0 ≤ u116_ by first | with_reducible assumption | assumption | omega) (show u116_ ≤ 63 by first | with_reducible assumption | (exact zo_528 gl.2 hc_297 hu116_b i122_) | assumption) (show 0 ≤ ((((gF T).getD (u137_).toNat 0 : Nat) : Int)) by first | with_reducible assumption | (exact zo_85) | assumption) (show zCos T (u116_).toNat ((gF T).getD (u116_).toNat 0) N138_ by first | with_reducible assumption | assumption | omega)) rfl rfl rfl (by decide) (Nat.le_of_ble_eq_true rfl) (zdal_p dlC_M_builds_14 (i := 0) rfl) ?_
                                              rintro _ N161_ ⟨v162_, rfl, ⟨hv162_a, hv162_b⟩, hsN161_, ⟨hp0_N161_, hp1_N161_, hp2_N161_⟩⟩
                                              obtain rfl := hsN161_.eq.symm
                                              show zW l m_M_builds (zn Mz + 0, zw Mz + 0) N138_ 331 [some (.ref 81), some (.int (Int32.ofInt u116_)), some (.int (Int32.ofInt u137_)), none] [.int (Int32.ofInt v162_), .int (Int32.ofInt ((64 * u116_) + u137_)), .ref 93] _
                                              refine zr_iast (pc := 331) (zh_93 (hf_N138_.w hW)).2 (by decide) (by decide) (by (exact zo_529 i123_ i146_)) (by (exact zo_530 gl.2 hc_307 hu137_b i143_ i145_)) (zdal_p dlC_M_builds_14 (i := 1) rfl) (fun N163_ hN163_ hsN163_ => ?_)
                                              have hf_N163_ : zFr [20, 25, 26] [85, 86, 87, 88, 89, 90, 91, 92, 93, 94] Mz N163_ := hf_N138_.tr hsN163_ (by decide) (by decide)
                                              have hb0_N163_ : zFr [] [93] N97_ N163_ := hb0_N138_.tr hsN163_ (by decide) (by decide)
                                              have hb1_N163_ : zFr [] [93] N117_ N163_ := hs139_.tr hsN163_ (by decide) (by decide)
                                              have e12_N163_ : ze N163_ 81 12 = ze N138_ 81 12 := hsN163_.e (by decide)
                                              have e13_N163_ : ze N163_ 81 13 = ze N138_ 81 13 := hsN163_.e (by decide)
                                              have e20_N163_ : ze N163_ 81 20 = ze N138_ 81 20 := hsN163_.e (by decide)
                                              have e25_N163_ : ze N163_ 81 25 = ze N138_ 81 25 := hsN163_.e (by decide)
                                              have e26_N163_ : ze N163_ 81 26 = ze N138_ 81 26 := hsN163_.e (by decide)
                                              have c164_ : zPm N163_ := zPm.fr hsN163_ c149_ (by decide) (by decide)
                                              have c165_ : zFin N163_ := zFin.fr hsN163_ c150_ (by decide) (by decide)
                                              have c166_ : zB 83 24 0 5 N163_ := zB.fr hsN163_ c151_ (by decide) (by decide)
                                              have c167_ : zB 85 144 0 5 N163_ := zB.fr hsN163_ c152_ (by decide) (by decide)
                                              have c168_ : zTab T N163_ := zTab.fr hsN163_ c153_ (by decide) (by decide)
                                              have c169_ : zCdR (ze Mz 81 12) (zMvs Mz) T N163_ := zCdR.fr hsN163_ c154_ (by decide) (by decide)
                                              have c170_ : zJX T N163_ := zJX.fr hsN163_ c155_ (by decide) (by decide)
                                              have c171_ : zFirs T N163_ := zFirs.fr hsN163_ c156_ (by decide) (by decide)
                                              have c172_ : zSSm T N163_ := zSSm.fr hsN163_ c157_ (by decide) (by decide)
                                              have c173_ : zSoM T N163_ := zSoM.fr hsN163_ c158_ (by decide) (by decide)
                                              have c174_ : zCsL T N163_ := zCsL.fr hsN163_ c159_ (by decide) (by decide)
                                              have hMt := zMs_s gl.2 (by (exact i123_)) (by (exact i146_)) (by (exact zo_531 gl.2 hc_307 hu137_b i143_)) (show zMs T N138_ u116_ u137_ by first | with_reducible assumption | assumption) (Int.toNat_natCast _) (by first | with_reducible assumption | assumption) ⟨by (exact hv162_a), by (exact hv162_b)⟩ hN163_
                                              refine zr_iinc (pc := 332) (i := 2) (a := u137_) (n := 1) (L2 := [some (.ref 81), some (.int (Int32.ofInt u116_)), some (.int (Int32.ofInt (u137_ + 1))), none]) rfl (by decide) rfl (zdal_p dlC_M_builds_14 (i := 2) rfl) ?_
                                              refine zw_goto (pc := 335) (tgt := 302) (by decide) (zdal_p dlC_M_builds_14 (i := 3) rfl) ?_
                                              exact ih_302 (u137_ + 1) (by (exact zo_74 i146_)) (by (exact zo_520 gl.2 hc_307 hu137_b i143_)) N163_ hb1_N163_ (show ze N163_ 81 20 = (gN T : Int) by first | with_reducible assumption | (exact zo_532 e20_N163_ i140_) | assumption) (show 1 ≤ ze N163_ 81 25 by first | with_reducible assumption | (exact zo_533 e25_N163_ i141_) | assumption) (show ze N163_ 81 25 ≤ 64 by first | with_reducible assumption | (exact zo_534 e25_N163_ i142_) | assumption) (show ze N163_ 81 26 = ((gF T).length : Int) by first | with_reducible assumption | (exact zo_532 e26_N163_ i143_) | assumption) (show 0 ≤ u116_ by first | with_reducible assumption | assumption | omega) (show u116_ < ze N163_ 81 26 by first | with_reducible assumption | (exact zo_535 e26_N163_ i145_) | assumption) (show 0 ≤ (u137_ + 1) by first | with_reducible assumption | (exact zo_76 i146_) | assumption) (show (u137_ + 1) ≤ ze N163_ 81 26 by first | with_reducible assumption | (exact zo_536 e26_N163_ hc_307) | assumption) (show zMs T N163_ u116_ (u137_ + 1) by first | with_reducible assumption | assumption | omega) (by (exact zo_521 gl.2 hc_307 hlt_302 hu137_b i143_ i146_))
                                        exact lp_302 _ 0 (by decide) (by decide) N117_ zFr.rf (show ze N117_ 81 20 = (gN T : Int) by first | with_reducible assumption | assumption | omega) (show 1 ≤ ze N117_ 81 25 by first | with_reducible assumption | assumption | omega) (show ze N117_ 81 25 ≤ 64 by first | with_reducible assumption | assumption | omega) (show ze N117_ 81 26 = ((gF T).length : Int) by first | with_reducible assumption | assumption | omega) (show 0 ≤ u116_ by first | with_reducible assumption | assumption | omega) (show u116_ < ze N117_ 81 26 by first | with_reducible assumption | assumption | omega) (show 0 ≤ (0 : Int) by first | with_reducible assumption | (decide) | assumption) (show (0 : Int) ≤ ze N117_ 81 26 by first | with_reducible assumption | (exact zo_537 i122_) | assumption) (show zMs T N117_ u116_ (0 : Int) by first | with_reducible assumption | assumption | omega) (Nat.lt_succ_self _)
                                  exact lp_292 _ 0 (by decide) (by decide) N97_ zFr.rf (show ze N97_ 81 20 = (gN T : Int) by first | with_reducible assumption | assumption | omega) (show 1 ≤ ze N97_ 81 25 by first | with_reducible assumption | assumption | omega) (show ze N97_ 81 25 ≤ 64 by first | with_reducible assumption | assumption | omega) (show ze N97_ 81 26 = ((gF T).length : Int) by first | with_reducible assumption | assumption | omega) (show 0 ≤ (0 : Int) by first | with_reducible assumption | (decide) | assumption) (show (0 : Int) ≤ ze N97_ 81 26 by first | with_reducible assumption | (exact zo_537 i102_) | assumption) (show zMs T N97_ (0 : Int) 0 by exact zMs_0) (Nat.lt_succ_self _)
                                · skip
                                  refine zw_iconst (pc := 246) (v := Int32.ofInt 0) (by decide) (zdal_p dlC_M_builds_11 (i := 22) rfl) ?_
                                  refine zw_istore_n (pc := 247) (i := 2) (L2 := [some (.ref 81), some (.int (Int32.ofInt u96_)), some (.int (Int32.ofInt 0)), none]) rfl (by decide) rfl (zdal_p dlC_M_builds_11 (i := 23) rfl) ?_
                                  have lp_248 : ∀ (n : Nat) (u175_ : Int) (hu175_a : -2147483648 ≤ u175_) (hu175_b : u175_ < 2147483648) (N176_ : zMem) (hs177_ : zFr [] [94] N97_ N176_) (i178_ : ze N176_ 81 20 = (gN T : Int)) (i179_ : 1 ≤ ze N176_ 81 25) (i180_ : ze N176_ 81 25 ≤ 64) (i181_ : ze N176_ 81 26 = ((gF T).length : Int)) (i182_ : 0 ≤ u96_) (i183_ : u96_ < ze N176_ 81 26) (i184_ : 0 ≤ u175_) (i185_ : u175_ ≤ ze N176_ 81 20) (i186_ : zCs T N176_ u96_) (i187_ : zCt T N176_ u96_ u175_), (25 - u175_).toNat < n → zW l m_M_builds (zn Mz + 0, zw Mz + 0) N176_ 248 [some (.ref 81), some (.int (Int32.ofInt u96_)), some (.int (Int32.ofInt u175_)), none] [] (zpV [20, 25, 26] [85, 86, 87, 88, 89, 90, 91, 92, 93, 94] Mz (fun N => ∃ T : zGT, T ∈ gTabs ∧ zGB T N ∧ zTm (zMvs Mz) T ∧ zCdS (ze Mz 81 12) (zMvs Mz) T N)) := by
                                    intro n
                                    induction n with
                                    | zero =>
                                      intro u175_ hu175_a hu175_b N176_ hs177_ i178_ i179_ i180_ i181_ i182_ i183_ i184_ i185_ i186_ i187_ h0
                                      exact absurd h0 (Nat.not_lt_zero _)
                                    | succ n ih_248 =>
                                      intro u175_ hu175_a hu175_b N176_ hs177_ i178_ i179_ i180_ i181_ i182_ i183_ i184_ i185_ i186_ i187_ hlt_248
                                      have hf_N176_ : zFr [20, 25, 26] [85, 86, 87, 88, 89, 90, 91, 92, 93, 94] Mz N176_ := hf_N97_.tr hs177_ (by decide) (by decide)
                                      have hb0_N176_ : zFr [] [94] N78_ N176_ := hs98_.tr hs177_ (by decide) (by decide)
                                      have e12_N176_ : ze N176_ 81 12 = ze N97_ 81 12 := hs177_.e (by decide)
                                      have e13_N176_ : ze N176_ 81 13 = ze N97_ 81 13 := hs177_.e (by decide)
                                      have e20_N176_ : ze N176_ 81 20 = ze N97_ 81 20 := hs177_.e (by decide)
                                      have e25_N176_ : ze N176_ 81 25 = ze N97_ 81 25 := hs177_.e (by decide)
                                      have e26_N176_ : ze N176_ 81 26 = ze N97_ 81 26 := hs177_.e (by decide)
                                      have c188_ : zPm N176_ := zPm.fr hs177_ c106_ (by decide) (by decide)
                                      have c189_ : zFin N176_ := zFin.fr hs177_ c107_ (by decide) (by decide)
                                      have c190_ : zB 83 24 0 5 N176_ := zB.fr hs177_ c108_ (by decide) (by decide)
                                      have c191_ : zB 85 144 0 5 N176_ := zB.fr hs177_ c109_ (by decide) (by decide)
                                      have c192_ : zTab T N176_ := zTab.fr hs177_ c110_ (by decide) (by decide)
                                      have c193_ : zCdR (ze Mz 81 12) (zMvs Mz) T N176_ := zCdR.fr hs177_ c111_ (by decide) (by decide)
                                      have c194_ : zJX T N176_ := zJX.fr hs177_ c112_ (by decide) (by decide)
                                      have c195_ : zFirs T N176_ := zFirs.fr hs177_ c113_ (by decide) (by decide)
                                      have c196_ : zSSm T N176_ := zSSm.fr hs177_ c114_ (by decide) (by decide)
                                      have c197_ : zSoM T N176_ := zSoM.fr hs177_ c115_ (by decide) (by decide)
                                      have zz12_N176_ : ze N176_ 81 12 = ze Mz 81 12 := hf_N176_.e (by decide)
                                      have zz13_N176_ : ze N176_ 81 13 = ze Mz 81 13 := hf_N176_.e (by decide)
                                      refine zw_iload_n (pc := 248) (n := 2) (x := Int32.ofInt u175_) rfl (zdal_p dlC_M_builds_12 (i := 0) rfl) ?_
                                      refine zw_aload_n (pc := 249) (n := 0) (x := 81) rfl (zdal_p dlC_M_builds_12 (i := 1) rfl) ?_
                                      refine zr_getI (hf_N176_.w hW) (pc := 250) f_M_196 rfl (zdal_p dlC_M_builds_12 (i := 2) rfl) ?_
                                      refine zr_icmp_ge (pc := 253) (tgt := 284) ⟨hu175_a, hu175_b⟩ ⟨(ze_r N176_ 81 20).1, (ze_r N176_ 81 20).2⟩ (by decide) (zdal_p dlC_M_builds_12 (i := 3) rfl) (fun hc_253 => ?_) (fun hc_253 => ?_)
                                      · skip
                                        refine zr_iinc (pc := 284) (i := 1) (a := u96_) (n := 1) (L2 := [some (.ref 81), some (.int (Int32.ofInt (u96_ + 1))), some (.int (Int32.ofInt u175_)), none]) rfl (by decide) rfl (zdal_p dlC_M_builds_12 (i := 21) rfl) ?_
                                        refine zw_goto (pc := 287) (tgt := 238) (by decide) (zdal_p dlC_M_builds_12 (i := 22) rfl) ?_
                                        have hCn : zCs T N176_ (u96_ + 1) := zCs_s (by (exact i103_)) (by first | with_reducible assumption | assumption) (by first | with_reducible assumption | assumption) (by (exact zo_538 g24 hc_253 i178_ i184_))
                                        refine zW_le [some (.ref 81), some (.int (Int32.ofInt (u96_ + 1))), none, none] (⟨rfl, rfl, trivial⟩) ?_
                                        exact ih_238 (u96_ + 1) (by (exact zo_74 i103_)) (by (exact zo_539 gl.2 hu96_b i181_ i183_)) N176_ hb0_N176_ (show ze N176_ 81 20 = (gN T : Int) by first | with_reducible assumption | assumption | omega) (show 1 ≤ ze N176_ 81 25 by first | with_reducible assumption | assumption | omega) (show ze N176_ 81 25 ≤ 64 by first | with_reducible assumption | assumption | omega) (show ze N176_ 81 26 = ((gF T).length : Int) by first | with_reducible assumption | assumption | omega) (show 0 ≤ (u96_ + 1) by first | with_reducible assumption | (exact zo_76 i103_) | assumption) (show (u96_ + 1) ≤ ze N176_ 81 26 by first | with_reducible assumption | assumption | omega) (show zCs T N176_ (u96_ + 1) by first | with_reducible assumption | assumption | omega) (by (exact zo_540 gl.2 hlt_238 hu96_b i103_ i181_ i183_))
                                      · skip
                                        refine zw_aload_n (pc := 256) (n := 0) (x := 81) rfl (zdal_p dlC_M_builds_12 (i := 4) rfl) ?_
                                        refine zr_getF (r := 94) (hf_N176_.w hW) (pc := 257) f_M_53 rfl (zh_94 (hf_N176_.w hW)).1 (zdal_p dlC_M_builds_12 (i := 5) rfl) ?_
                                        refine zw_bipush (pc := 260) (v := Int32.ofInt 24) (by decide) (zdal_p dlC_M_builds_12 (i := 6) rfl) ?_
                                        refine zw_iload_n (pc := 262) (n := 1) (x := Int32.ofInt u96_) rfl (zdal_p dlC_M_builds_12 (i := 7) rfl) ?_
                                        refine zr_imul (pc := 263) (zdal_p dlC_M_builds_12 (i := 8) rfl) ?_
                                        refine zw_iload_n (pc := 264) (n := 2) (x := Int32.ofInt u175_) rfl (zdal_p dlC_M_builds_12 (i := 9) rfl) ?_
                                        refine zr_iadd (pc := 265) (zdal_p dlC_M_builds_12 (i := 10) rfl) ?_
                                        refine zw_aload_n (pc := 266) (n := 0) (x := 81) rfl (zdal_p dlC_M_builds_12 (i := 11) rfl) ?_
                                        refine zw_aload_n (pc := 267) (n := 0) (x := 81) rfl (zdal_p dlC_M_builds_12 (i := 12) rfl) ?_
                                        refine zr_getF (r := 91) (hf_N176_.w hW) (pc := 268) f_M_44 rfl (zh_91 (hf_N176_.w hW)).1 (zdal_p dlC_M_builds_12 (i := 13) rfl) ?_
                                        refine zw_iload_n (pc := 271) (n := 1) (x := Int32.ofInt u96_) rfl (zdal_p dlC_M_builds_12 (i := 14) rfl) ?_
                                        refine zr_ialdn (pc := 272) (zh_91 (hf_N176_.w hW)).2 (by decide) (by (exact i103_)) (by (exact zo_541 gl.2 hu96_b i181_ i183_)) (zdal_p dlC_M_builds_12 (i := 15) rfl) (fun v198_ hv198_ hv198_a hv198_b => ?_)
                                        have hfi := c195_.2 (u96_).toNat (by (exact zo_542 gl.2 hc_243 hu96_b i102_ i103_ i181_ i183_))
                                        refine zr_toI (show v198_ = (((gF T).getD (u96_).toNat 0 : Nat) : Int) by (exact zo_524 hfi hv198_ hv198_b)) ?_
                                        refine zw_iload_n (pc := 273) (n := 2) (x := Int32.ofInt u175_) rfl (zdal_p dlC_M_builds_12 (i := 16) rfl) ?_
                                        refine zr_callV (hf_N176_.w hW) hf_N176_.x (pc := 274) [.int (Int32.ofInt ((((gF T).getD (u96_).toNat 0 : Nat) : Int))), .int (Int32.ofInt u175_)] [.int (Int32.ofInt ((24 * u96_) + u175_)), .ref 94] l_M_247 (c_M_leastOf l N176_ (hf_N176_.w hW) ((((gF T).getD (u96_).toNat 0 : Nat) : Int)) (by (exact zo_526)) (by (exact zo_527 hfi hv198_ hv198_b)) u175_ hu175_a hu175_b T hG c192_ (show 0 ≤ ((((gF T).getD (u96_).toNat 0 : Nat) : Int)) by first | with_reducible assumption | (exact zo_85) | assumption) (show 0 ≤ u175_ by first | with_reducible assumption | assumption | omega) (show u175_ < ze N176_ 81 20 by first | with_reducible assumption | assumption | omega)) rfl rfl rfl (by decide) (Nat.le_of_ble_eq_true rfl) (zdal_p dlC_M_builds_12 (i := 17) rfl) ?_
                                        rintro _ N199_ ⟨v200_, rfl, ⟨hv200_a, hv200_b⟩, hsN199_, ⟨hp0_N199_, hp1_N199_, hp2_N199_⟩⟩
                                        obtain rfl := hsN199_.eq.symm
                                        show zW l m_M_builds (zn Mz + 0, zw Mz + 0) N176_ 277 [some (.ref 81), some (.int (Int32.ofInt u96_)), some (.int (Int32.ofInt u175_)), none] [.int (Int32.ofInt v200_), .int (Int32.ofInt ((24 * u96_) + u175_)), .ref 94] _
                                        refine zr_iast (pc := 277) (zh_94 (hf_N176_.w hW)).2 (by decide) (by decide) (by (exact zo_543 i103_ i184_)) (by (exact zo_544 g24 gl.2 hc_253 hu175_b i178_ i181_ i183_)) (zdal_p dlC_M_builds_12 (i := 18) rfl) (fun N201_ hN201_ hsN201_ => ?_)
                                        have hf_N201_ : zFr [20, 25, 26] [85, 86, 87, 88, 89, 90, 91, 92, 93, 94] Mz N201_ := hf_N176_.tr hsN201_ (by decide) (by decide)
                                        have hb0_N201_ : zFr [] [94] N78_ N201_ := hb0_N176_.tr hsN201_ (by decide) (by decide)
                                        have hb1_N201_ : zFr [] [94] N97_ N201_ := hs177_.tr hsN201_ (by decide) (by decide)
                                        have e12_N201_ : ze N201_ 81 12 = ze N176_ 81 12 := hsN201_.e (by decide)
                                        have e13_N201_ : ze N201_ 81 13 = ze N176_ 81 13 := hsN201_.e (by decide)
                                        have e20_N201_ : ze N201_ 81 20 = ze N176_ 81 20 := hsN201_.e (by decide)
                                        have e25_N201_ : ze N201_ 81 25 = ze N176_ 81 25 := hsN201_.e (by decide)
                                        have e26_N201_ : ze N201_ 81 26 = ze N176_ 81 26 := hsN201_.e (by decide)
                                        have c202_ : zPm N201_ := zPm.fr hsN201_ c188_ (by decide) (by decide)
                                        have c203_ : zFin N201_ := zFin.fr hsN201_ c189_ (by decide) (by decide)
                                        have c204_ : zB 83 24 0 5 N201_ := zB.fr hsN201_ c190_ (by decide) (by decide)
                                        have c205_ : zB 85 144 0 5 N201_ := zB.fr hsN201_ c191_ (by decide) (by decide)
                                        have c206_ : zTab T N201_ := zTab.fr hsN201_ c192_ (by decide) (by decide)
                                        have c207_ : zCdR (ze Mz 81 12) (zMvs Mz) T N201_ := zCdR.fr hsN201_ c193_ (by decide) (by decide)
                                        have c208_ : zJX T N201_ := zJX.fr hsN201_ c194_ (by decide) (by decide)
                                        have c209_ : zFirs T N201_ := zFirs.fr hsN201_ c195_ (by decide) (by decide)
                                        have c210_ : zSSm T N201_ := zSSm.fr hsN201_ c196_ (by decide) (by decide)
                                        have c211_ : zSoM T N201_ := zSoM.fr hsN201_ c197_ (by decide) (by decide)
                                        have hCt := zCt_s g24 (by (exact i103_)) (by (exact i184_)) (by (exact zo_545 g24 hc_253 hu175_b i178_)) (show zCs T N176_ u96_ by first | with_reducible assumption | assumption) (show zCt T N176_ u96_ u175_ by first | with_reducible assumption | assumption) (Int.toNat_natCast _) (by first | with_reducible assumption | assumption) ⟨by (exact hv200_a), by (exact hv200_b)⟩ hN201_
                                        obtain ⟨hc1, hc2⟩ := hCt
                                        refine zr_iinc (pc := 278) (i := 2) (a := u175_) (n := 1) (L2 := [some (.ref 81), some (.int (Int32.ofInt u96_)), some (.int (Int32.ofInt (u175_ + 1))), none]) rfl (by decide) rfl (zdal_p dlC_M_builds_12 (i := 19) rfl) ?_
                                        refine zw_goto (pc := 281) (tgt := 248) (by decide) (zdal_p dlC_M_builds_12 (i := 20) rfl) ?_
                                        exact ih_248 (u175_ + 1) (by (exact zo_74 i184_)) (by (exact zo_546 g24 hc_253 hu175_b i178_)) N201_ hb1_N201_ (show ze N201_ 81 20 = (gN T : Int) by first | with_reducible assumption | (exact zo_532 e20_N201_ i178_) | assumption) (show 1 ≤ ze N201_ 81 25 by first | with_reducible assumption | (exact zo_533 e25_N201_ i179_) | assumption) (show ze N201_ 81 25 ≤ 64 by first | with_reducible assumption | (exact zo_534 e25_N201_ i180_) | assumption) (show ze N201_ 81 26 = ((gF T).length : Int) by first | with_reducible assumption | (exact zo_532 e26_N201_ i181_) | assumption) (show 0 ≤ u96_ by first | with_reducible assumption | assumption | omega) (show u96_ < ze N201_ 81 26 by first | with_reducible assumption | (exact zo_535 e26_N201_ i183_) | assumption) (show 0 ≤ (u175_ + 1) by first | with_reducible assumption | (exact zo_76 i184_) | assumption) (show (u175_ + 1) ≤ ze N201_ 81 20 by first | with_reducible assumption | (exact zo_536 e20_N201_ hc_253) | assumption) (show zCs T N201_ u96_ by first | with_reducible assumption | assumption | omega) (show zCt T N201_ u96_ (u175_ + 1) by first | with_reducible assumption | assumption | omega) (by (exact zo_547 g24 hc_253 hlt_248 hu175_b i178_ i184_))
                                  exact lp_248 _ 0 (by decide) (by decide) N97_ zFr.rf (show ze N97_ 81 20 = (gN T : Int) by first | with_reducible assumption | assumption | omega) (show 1 ≤ ze N97_ 81 25 by first | with_reducible assumption | assumption | omega) (show ze N97_ 81 25 ≤ 64 by first | with_reducible assumption | assumption | omega) (show ze N97_ 81 26 = ((gF T).length : Int) by first | with_reducible assumption | assumption | omega) (show 0 ≤ u96_ by first | with_reducible assumption | assumption | omega) (show u96_ < ze N97_ 81 26 by first | with_reducible assumption | assumption | omega) (show 0 ≤ (0 : Int) by first | with_reducible assumption | (decide) | assumption) (show (0 : Int) ≤ ze N97_ 81 20 by first | with_reducible assumption | (exact zo_537 i99_) | assumption) (show zCs T N97_ u96_ by first | with_reducible assumption | assumption | omega) (show zCt T N97_ u96_ (0 : Int) by exact zCt_0) (Nat.lt_succ_self _)
                            exact lp_238 _ 0 (by decide) (by decide) N78_ zFr.rf (show ze N78_ 81 20 = (gN T : Int) by first | with_reducible assumption | assumption | omega) (show 1 ≤ ze N78_ 81 25 by first | with_reducible assumption | assumption | omega) (show ze N78_ 81 25 ≤ 64 by first | with_reducible assumption | assumption | omega) (show ze N78_ 81 26 = ((gF T).length : Int) by first | with_reducible assumption | assumption | omega) (show 0 ≤ (0 : Int) by first | with_reducible assumption | (decide) | assumption) (show (0 : Int) ≤ ze N78_ 81 26 by first | with_reducible assumption | (exact zo_537 i83_) | assumption) (show zCs T N78_ (0 : Int) by exact zCs_0) (Nat.lt_succ_self _)
                          · skip
                            refine zw_aload_n (pc := 195) (n := 0) (x := 81) rfl (zdal_p dlC_M_builds_10 (i := 15) rfl) ?_
                            refine zr_getF (r := 90) (hf_N78_.w hW) (pc := 196) f_M_41 rfl (zh_90 (hf_N78_.w hW)).1 (zdal_p dlC_M_builds_10 (i := 16) rfl) ?_
                            refine zw_iload_n (pc := 199) (n := 1) (x := Int32.ofInt u77_) rfl (zdal_p dlC_M_builds_10 (i := 17) rfl) ?_
                            refine zw_aload_n (pc := 200) (n := 0) (x := 81) rfl (zdal_p dlC_M_builds_10 (i := 18) rfl) ?_
                            refine zw_aload_n (pc := 201) (n := 0) (x := 81) rfl (zdal_p dlC_M_builds_10 (i := 19) rfl) ?_
                            refine zw_aload_n (pc := 202) (n := 0) (x := 81) rfl (zdal_p dlC_M_builds_10 (i := 20) rfl) ?_
                            refine zr_getF (r := 89) (hf_N78_.w hW) (pc := 203) f_M_38 rfl (zh_89 (hf_N78_.w hW)).1 (zdal_p dlC_M_builds_10 (i := 21) rfl) ?_
                            refine zw_iload_n (pc := 206) (n := 1) (x := Int32.ofInt u77_) rfl (zdal_p dlC_M_builds_10 (i := 22) rfl) ?_
                            refine zr_ialdn (pc := 207) (zh_89 (hf_N78_.w hW)).2 (by decide) (by (exact i84_)) (by (exact zo_548 hc_192 hu77_b i82_)) (zdal_p dlC_M_builds_10 (i := 23) rfl) (fun v212_ hv212_ hv212_a hv212_b => ?_)
                            have hk0 := c94_.1.2.2.1 (u77_).toNat (by (exact zo_549 hc_192 hu77_b i81_ i82_ i84_))
                            have hkb := hO.sb hk0.2
                            refine zr_toI (show v212_ = ze N78_ 89 (u77_).toNat by (exact hv212_)) ?_
                            refine zr_callV (hf_N78_.w hW) hf_N78_.x (pc := 208) [.int (Int32.ofInt (ze N78_ 89 (u77_).toNat))] [.ref 81, .int (Int32.ofInt u77_), .ref 90] l_M_238 (c_M_leastTurned l N78_ (hf_N78_.w hW) (ze N78_ 89 (u77_).toNat) (by (exact zo_168 hk0.1)) (by (exact zo_550 hv212_ hv212_b)) T hG c92_ (show 0 ≤ (ze N78_ 89 (u77_).toNat) by first | with_reducible assumption | (exact zo_57 hk0.1) | assumption) (show (ze N78_ 89 (u77_).toNat) < 16777216 by first | with_reducible assumption | assumption | omega)) rfl rfl rfl (by decide) (Nat.le_of_ble_eq_true rfl) (zdal_p dlC_M_builds_11 (i := 0) rfl) ?_
                            rintro _ N213_ ⟨v214_, rfl, ⟨hv214_a, hv214_b⟩, hsN213_, ⟨hp0_N213_, hp1_N213_, hp2_N213_⟩⟩
                            obtain rfl := hsN213_.eq.symm
                            show zW l m_M_builds (zn Mz + 0, zw Mz + 0) N78_ 211 [some (.ref 81), some (.int (Int32.ofInt u77_)), none, none] [.int (Int32.ofInt v214_), .ref 81, .int (Int32.ofInt u77_), .ref 90] _
                            refine zr_toI (show v214_ = ((glt T (ze N78_ 89 (u77_).toNat).toNat : Nat) : Int) by first | with_reducible assumption | assumption) ?_
                            refine zr_callV (hf_N78_.w hW) hf_N78_.x (pc := 211) [.int (Int32.ofInt (((glt T (ze N78_ 89 (u77_).toNat).toNat : Nat) : Int)))] [.int (Int32.ofInt u77_), .ref 90] l_M_244 (c_M_sortOfFirst l N78_ (hf_N78_.w hW) (((glt T (ze N78_ 89 (u77_).toNat).toNat : Nat) : Int)) (by (exact zo_526)) (by (exact zo_551 hp0_N213_ hv214_b)) (show 0 ≤ ze N78_ 81 26 by first | with_reducible assumption | (exact zo_537 i83_) | assumption) (show ze N78_ 81 26 ≤ 64 by first | with_reducible assumption | (exact zo_552 gl.2 i83_) | assumption)) rfl rfl rfl (by decide) (Nat.le_of_ble_eq_true rfl) (zdal_p dlC_M_builds_11 (i := 1) rfl) ?_
                            rintro _ N215_ ⟨v216_, rfl, ⟨hv216_a, hv216_b⟩, hsN215_, hp0_N215_⟩
                            obtain rfl := hsN215_.eq.symm
                            replace hp0_N215_ : ((0 ≤ v216_ ∧ v216_ < ze N78_ 81 26 ∧ ze N78_ 91 (v216_).toNat = (((glt T (ze N78_ 89 (u77_).toNat).toNat : Nat) : Int))) ∨ (v216_ = -1 ∧ ∀ k : Nat, (k : Int) < ze N78_ 81 26 → ze N78_ 91 k ≠ (((glt T (ze N78_ 89 (u77_).toNat).toNat : Nat) : Int)))) := hp0_N215_
                            rcases hp0_N215_ with ⟨ha211_0_hp0_N215_, ha211_1_hp0_N215_, ha211_2_hp0_N215_⟩ | ⟨rfl, ha211_0_hp0_N215_⟩
                            · skip
                              show zW l m_M_builds (zn Mz + 0, zw Mz + 0) N78_ 214 [some (.ref 81), some (.int (Int32.ofInt u77_)), none, none] [.int (Int32.ofInt v216_), .int (Int32.ofInt u77_), .ref 90] _
                              refine zr_iast (pc := 214) (zh_90 (hf_N78_.w hW)).2 (by decide) (by decide) (by (exact i84_)) (by (exact zo_548 hc_192 hu77_b i82_)) (zdal_p dlC_M_builds_11 (i := 2) rfl) (fun N217_ hN217_ hsN217_ => ?_)
                              have hf_N217_ : zFr [20, 25, 26] [85, 86, 87, 88, 89, 90, 91, 92, 93, 94] Mz N217_ := hf_N78_.tr hsN217_ (by decide) (by decide)
                              have hb0_N217_ : zFr [] [90, 92] N61_ N217_ := hs79_.tr hsN217_ (by decide) (by decide)
                              have e12_N217_ : ze N217_ 81 12 = ze N78_ 81 12 := hsN217_.e (by decide)
                              have e13_N217_ : ze N217_ 81 13 = ze N78_ 81 13 := hsN217_.e (by decide)
                              have e20_N217_ : ze N217_ 81 20 = ze N78_ 81 20 := hsN217_.e (by decide)
                              have e25_N217_ : ze N217_ 81 25 = ze N78_ 81 25 := hsN217_.e (by decide)
                              have e26_N217_ : ze N217_ 81 26 = ze N78_ 81 26 := hsN217_.e (by decide)
                              have c218_ : zPm N217_ := zPm.fr hsN217_ c88_ (by decide) (by decide)
                              have c219_ : zFin N217_ := zFin.fr hsN217_ c89_ (by decide) (by decide)
                              have c220_ : zB 83 24 0 5 N217_ := zB.fr hsN217_ c90_ (by decide) (by decide)
                              have c221_ : zB 85 144 0 5 N217_ := zB.fr hsN217_ c91_ (by decide) (by decide)
                              have c222_ : zTab T N217_ := zTab.fr hsN217_ c92_ (by decide) (by decide)
                              have c223_ : zCdR (ze Mz 81 12) (zMvs Mz) T N217_ := zCdR.fr hsN217_ c93_ (by decide) (by decide)
                              have c224_ : zJX T N217_ := zJX.fr hsN217_ c94_ (by decide) (by decide)
                              have c225_ : zFirs T N217_ := zFirs.fr hsN217_ c95_ (by decide) (by decide)
                              have hw0 := zs_get hN217_ ⟨by (exact hv216_a), by (exact hv216_b)⟩
                              have hSn := zSS_s (by (exact i84_)) (show zSS T N78_ u77_ by first | with_reducible assumption | assumption) hN217_ (by (exact ha211_0_hp0_N215_)) (by (exact ha211_1_hp0_N215_)) (by (exact zo_531 gl.2 ha211_1_hp0_N215_ hv216_b i83_)) rfl rfl (by first | with_reducible assumption | assumption)
                              refine zw_aload_n (pc := 215) (n := 0) (x := 81) rfl (zdal_p dlC_M_builds_11 (i := 3) rfl) ?_
                              refine zr_getF (r := 92) (hf_N217_.w hW) (pc := 216) f_M_47 rfl (zh_92 (hf_N217_.w hW)).1 (zdal_p dlC_M_builds_11 (i := 4) rfl) ?_
                              refine zw_aload_n (pc := 219) (n := 0) (x := 81) rfl (zdal_p dlC_M_builds_11 (i := 5) rfl) ?_
                              refine zr_getF (r := 90) (hf_N217_.w hW) (pc := 220) f_M_41 rfl (zh_90 (hf_N217_.w hW)).1 (zdal_p dlC_M_builds_11 (i := 6) rfl) ?_
                              refine zw_iload_n (pc := 223) (n := 1) (x := Int32.ofInt u77_) rfl (zdal_p dlC_M_builds_11 (i := 7) rfl) ?_
                              refine zr_ialdn (pc := 224) (zh_90 (hf_N217_.w hW)).2 (by decide) (by (exact i84_)) (by (exact zo_548 hc_192 hu77_b i82_)) (zdal_p dlC_M_builds_11 (i := 8) rfl) (fun v226_ hv226_ hv226_a hv226_b => ?_)
                              have hx224_ := hv226_
                              refine zw_dup2 (pc := 225) rfl rfl (zdal_p dlC_M_builds_11 (i := 9) rfl) ?_
                              refine zr_ialdn (pc := 226) (zh_92 (hf_N217_.w hW)).2 (by decide) (by (exact zo_553 ha211_0_hp0_N215_ hv226_ hv226_a hw0)) (by (exact zo_554 gl.2 ha211_1_hp0_N215_ hv226_ hv226_b hw0 i83_)) (zdal_p dlC_M_builds_11 (i := 10) rfl) (fun v227_ hv227_ hv227_a hv227_b => ?_)
                              have hx226_ := hv227_
                              refine zw_iconst (pc := 227) (v := Int32.ofInt 1) (by decide) (zdal_p dlC_M_builds_11 (i := 11) rfl) ?_
                              refine zr_iadd (pc := 228) (zdal_p dlC_M_builds_11 (i := 12) rfl) ?_
                              refine zr_iast (pc := 229) (zh_92 (hf_N217_.w hW)).2 (by decide) (by decide) (by (exact zo_553 ha211_0_hp0_N215_ hv226_ hv226_a hw0)) (by (exact zo_554 gl.2 ha211_1_hp0_N215_ hv226_ hv226_b hw0 i83_)) (zdal_p dlC_M_builds_11 (i := 13) rfl) (fun N228_ hN228_ hsN228_ => ?_)
                              have hf_N228_ : zFr [20, 25, 26] [85, 86, 87, 88, 89, 90, 91, 92, 93, 94] Mz N228_ := hf_N217_.tr hsN228_ (by decide) (by decide)
                              have hb0_N228_ : zFr [] [90, 92] N61_ N228_ := hb0_N217_.tr hsN228_ (by decide) (by decide)
                              have e12_N228_ : ze N228_ 81 12 = ze N217_ 81 12 := hsN228_.e (by decide)
                              have e13_N228_ : ze N228_ 81 13 = ze N217_ 81 13 := hsN228_.e (by decide)
                              have e20_N228_ : ze N228_ 81 20 = ze N217_ 81 20 := hsN228_.e (by decide)
                              have e25_N228_ : ze N228_ 81 25 = ze N217_ 81 25 := hsN228_.e (by decide)
                              have e26_N228_ : ze N228_ 81 26 = ze N217_ 81 26 := hsN228_.e (by decide)
                              have hSf := hSn.fr hsN228_ (by decide) (by decide)
                              have hso2_ := zSoF_s hso_ (by (exact i84_)) (by (exact zo_555 hc_192 hu77_b i82_)) hN217_ (by (exact ha211_0_hp0_N215_)) (by (exact zo_556 ha211_1_hp0_N215_ hv216_b i83_)) (by (exact zo_557 gl.2 ha211_1_hp0_N215_ hv216_b i83_)) (fun j => hsN217_.ie (q := 92) (by decide) (by decide) j) hx224_ hx226_ hN228_ (fun j => hsN228_.ie (q := 90) (by decide) (by decide) j) rfl
                              refine zr_iinc (pc := 230) (i := 1) (a := u77_) (n := 1) (L2 := [some (.ref 81), some (.int (Int32.ofInt (u77_ + 1))), none, none]) rfl (by decide) rfl (zdal_p dlC_M_builds_11 (i := 14) rfl) ?_
                              refine zw_goto (pc := 233) (tgt := 187) (by decide) (zdal_p dlC_M_builds_11 (i := 15) rfl) ?_
                              exact ih_187 (u77_ + 1) (by (exact zo_74 i84_)) (by (exact zo_558 hc_192 hu77_b i82_)) N228_ hb0_N228_ (show ze N228_ 81 20 = (gN T : Int) by first | with_reducible assumption | (exact zo_559 e20_N217_ e20_N228_ i80_) | assumption) (show 1 ≤ ze N228_ 81 25 by first | with_reducible assumption | (exact zo_560 e25_N217_ e25_N228_ i81_) | assumption) (show ze N228_ 81 25 ≤ 64 by first | with_reducible assumption | (exact zo_561 e25_N217_ e25_N228_ i82_) | assumption) (show ze N228_ 81 26 = ((gF T).length : Int) by first | with_reducible assumption | (exact zo_559 e26_N217_ e26_N228_ i83_) | assumption) (show 0 ≤ (u77_ + 1) by first | with_reducible assumption | (exact zo_76 i84_) | assumption) (show (u77_ + 1) ≤ ze N228_ 81 25 by first | with_reducible assumption | (exact zo_562 e25_N217_ e25_N228_ hc_192 hu77_b i81_ i82_) | assumption) (show zSS T N228_ (u77_ + 1) by first | with_reducible assumption | assumption | omega) (show zSoF N228_ ((gF T).length : Int) (u77_ + 1) by exact hso2_) (by (exact zo_563 hc_192 hlt_187 hu77_b i82_ i84_))
                            · skip
                              obtain ⟨i0, hi0, hi1⟩ := zFirs_f hO c95_ hk0.2
                              exact absurd hi1 (ha211_0_hp0_N215_ i0 hi0)
                      exact lp_187 _ 0 (by decide) (by decide) N61_ zFr.rf (show ze N61_ 81 20 = (gN T : Int) by first | with_reducible assumption | assumption | omega) (show 1 ≤ ze N61_ 81 25 by first | with_reducible assumption | assumption | omega) (show ze N61_ 81 25 ≤ 64 by first | with_reducible assumption | assumption | omega) (show ze N61_ 81 26 = ((gF T).length : Int) by first | with_reducible assumption | assumption | omega) (show 0 ≤ (0 : Int) by first | with_reducible assumption | (decide) | assumption) (show (0 : Int) ≤ ze N61_ 81 25 by first | with_reducible assumption | (exact zo_564 i64_) | assumption) (show zSS T N61_ (0 : Int) by exact zSS_0) (show zSoF N61_ ((gF T).length : Int) (0 : Int) by exact zSoF_0 hz3_) (Nat.lt_succ_self _)
                    · skip
                      refine zw_aload_n (pc := 172) (n := 0) (x := 81) rfl (zdal_p dlC_M_builds_10 (i := 2) rfl) ?_
                      refine zr_getF (r := 92) (hf_N61_.w hW) (pc := 173) f_M_47 rfl (zh_92 (hf_N61_.w hW)).1 (zdal_p dlC_M_builds_10 (i := 3) rfl) ?_
                      refine zw_iload_n (pc := 176) (n := 1) (x := Int32.ofInt u60_) rfl (zdal_p dlC_M_builds_10 (i := 4) rfl) ?_
                      refine zw_iconst (pc := 177) (v := Int32.ofInt 0) (by decide) (zdal_p dlC_M_builds_10 (i := 5) rfl) ?_
                      refine zr_iast (pc := 178) (zh_92 (hf_N61_.w hW)).2 (by decide) (by decide) (by (exact i67_)) (by (exact zo_522 gl.2 hc_169 hu60_b i66_)) (zdal_p dlC_M_builds_10 (i := 6) rfl) (fun N237_ hN237_ hsN237_ => ?_)
                      have hf_N237_ : zFr [20, 25, 26] [85, 86, 87, 88, 89, 90, 91, 92, 93, 94] Mz N237_ := hf_N61_.tr hsN237_ (by decide) (by decide)
                      have hb0_N237_ : zFr [] [92] N45_ N237_ := hs62_.tr hsN237_ (by decide) (by decide)
                      have e12_N237_ : ze N237_ 81 12 = ze N61_ 81 12 := hsN237_.e (by decide)
                      have e13_N237_ : ze N237_ 81 13 = ze N61_ 81 13 := hsN237_.e (by decide)
                      have e20_N237_ : ze N237_ 81 20 = ze N61_ 81 20 := hsN237_.e (by decide)
                      have e25_N237_ : ze N237_ 81 25 = ze N61_ 81 25 := hsN237_.e (by decide)
                      have e26_N237_ : ze N237_ 81 26 = ze N61_ 81 26 := hsN237_.e (by decide)
                      have hz2_ : ∀ i_ : Nat, (i_ : Int) < u60_ + 1 → ze N237_ 92 i_ = 0 := fun i_ hi_ => by by_cases g_ : i_ = (u60_).toNat; (rw [g_]; exact zs_get hN237_ ⟨by decide, by decide⟩); (rw [zs_oth hN237_ g_]; exact hz1_ i_ (by (exact zo_565 hi_ i67_ g_)))
                      refine zr_iinc (pc := 179) (i := 1) (a := u60_) (n := 1) (L2 := [some (.ref 81), some (.int (Int32.ofInt (u60_ + 1))), none, none]) rfl (by decide) rfl (zdal_p dlC_M_builds_10 (i := 7) rfl) ?_
                      refine zw_goto (pc := 182) (tgt := 164) (by decide) (zdal_p dlC_M_builds_10 (i := 8) rfl) ?_
                      exact ih_164 (u60_ + 1) (by (exact zo_74 i67_)) (by (exact zo_520 gl.2 hc_169 hu60_b i66_)) N237_ hb0_N237_ (show ze N237_ 81 20 = (gN T : Int) by first | with_reducible assumption | (exact zo_532 e20_N237_ i63_) | assumption) (show 1 ≤ ze N237_ 81 25 by first | with_reducible assumption | (exact zo_533 e25_N237_ i64_) | assumption) (show ze N237_ 81 25 ≤ 64 by first | with_reducible assumption | (exact zo_534 e25_N237_ i65_) | assumption) (show ze N237_ 81 26 = ((gF T).length : Int) by first | with_reducible assumption | (exact zo_532 e26_N237_ i66_) | assumption) (show 0 ≤ (u60_ + 1) by first | with_reducible assumption | (exact zo_76 i67_) | assumption) (show ∀ i_ : Nat, (i_ : Int) < (u60_ + 1) → ze N237_ 92 i_ = 0 by exact hz2_) (by (exact zo_521 gl.2 hc_169 hlt_164 hu60_b i66_ i67_))
                exact lp_164 _ 0 (by decide) (by decide) N45_ zFr.rf (show ze N45_ 81 20 = (gN T : Int) by first | with_reducible assumption | assumption | omega) (show 1 ≤ ze N45_ 81 25 by first | with_reducible assumption | assumption | omega) (show ze N45_ 81 25 ≤ 64 by first | with_reducible assumption | assumption | omega) (show ze N45_ 81 26 = ((gF T).length : Int) by first | with_reducible assumption | assumption | omega) (show 0 ≤ (0 : Int) by first | with_reducible assumption | (decide) | assumption) (show ∀ i_ : Nat, (i_ : Int) < (0 : Int) → ze N45_ 92 i_ = 0 by exact fun i_ hi_ => absurd hi_ (by (exact zo_131))) (Nat.lt_succ_self _)
              · skip
                refine zw_aload_n (pc := 127) (n := 0) (x := 81) rfl (zdal_p dlC_M_builds_9 (i := 1) rfl) ?_
                refine zw_aload_n (pc := 128) (n := 0) (x := 81) rfl (zdal_p dlC_M_builds_9 (i := 2) rfl) ?_
                refine zr_getF (r := 89) (hf_N45_.w hW) (pc := 129) f_M_38 rfl (zh_89 (hf_N45_.w hW)).1 (zdal_p dlC_M_builds_9 (i := 3) rfl) ?_
                refine zw_iload_n (pc := 132) (n := 1) (x := Int32.ofInt u44_) rfl (zdal_p dlC_M_builds_9 (i := 4) rfl) ?_
                refine zr_ialdn (pc := 133) (zh_89 (hf_N45_.w hW)).2 (by decide) (by (exact i50_)) (by (exact zo_548 hc_124 hu44_b i49_)) (zdal_p dlC_M_builds_9 (i := 5) rfl) (fun v246_ hv246_ hv246_a hv246_b => ?_)
                have hk0 := i53_.1.2.2.1 (u44_).toNat (by (exact zo_549 hc_124 hu44_b i48_ i49_ i50_))
                have hkb := hO.sb hk0.2
                refine zr_toI (show v246_ = ze N45_ 89 (u44_).toNat by (exact hv246_)) ?_
                refine zr_callV (hf_N45_.w hW) hf_N45_.x (pc := 134) [.int (Int32.ofInt (ze N45_ 89 (u44_).toNat))] [] l_M_238 (c_M_leastTurned l N45_ (hf_N45_.w hW) (ze N45_ 89 (u44_).toNat) (by (exact zo_168 hk0.1)) (by (exact zo_550 hv246_ hv246_b)) T hG c58_ (show 0 ≤ (ze N45_ 89 (u44_).toNat) by first | with_reducible assumption | (exact zo_57 hk0.1) | assumption) (show (ze N45_ 89 (u44_).toNat) < 16777216 by first | with_reducible assumption | assumption | omega)) rfl rfl rfl (by decide) (Nat.le_of_ble_eq_true rfl) (zdal_p dlC_M_builds_9 (i := 6) rfl) ?_
                rintro _ N247_ ⟨v248_, rfl, ⟨hv248_a, hv248_b⟩, hsN247_, ⟨hp0_N247_, hp1_N247_, hp2_N247_⟩⟩
                obtain rfl := hsN247_.eq.symm
                show zW l m_M_builds (zn Mz + 0, zw Mz + 0) N45_ 137 [some (.ref 81), some (.int (Int32.ofInt u44_)), none, none] [.int (Int32.ofInt v248_)] _
                refine zw_aload_n (pc := 137) (n := 0) (x := 81) rfl (zdal_p dlC_M_builds_9 (i := 7) rfl) ?_
                refine zr_getF (r := 89) (hf_N45_.w hW) (pc := 138) f_M_38 rfl (zh_89 (hf_N45_.w hW)).1 (zdal_p dlC_M_builds_9 (i := 8) rfl) ?_
                refine zw_iload_n (pc := 141) (n := 1) (x := Int32.ofInt u44_) rfl (zdal_p dlC_M_builds_9 (i := 9) rfl) ?_
                refine zr_ialdn (pc := 142) (zh_89 (hf_N45_.w hW)).2 (by decide) (by (exact i50_)) (by (exact zo_548 hc_124 hu44_b i49_)) (zdal_p dlC_M_builds_9 (i := 10) rfl) (fun v249_ hv249_ hv249_a hv249_b => ?_)
                refine zr_toI (show v249_ = ze N45_ 89 (u44_).toNat by (exact hv249_)) ?_
                refine zr_icmp_ne (pc := 143) (tgt := 156) ⟨hv248_a, hv248_b⟩ ⟨(by (exact zo_168 hk0.1)), (by (exact zo_550 hv249_ hv249_b))⟩ (by decide) (zdal_p dlC_M_builds_9 (i := 11) rfl) (fun hc_143 => ?_) (fun hc_143 => ?_)
                · skip
                  refine zr_iinc (pc := 156) (i := 1) (a := u44_) (n := 1) (L2 := [some (.ref 81), some (.int (Int32.ofInt (u44_ + 1))), none, none]) rfl (by decide) rfl (zdal_p dlC_M_builds_9 (i := 18) rfl) ?_
                  refine zw_goto (pc := 159) (tgt := 119) (by decide) (zdal_p dlC_M_builds_9 (i := 19) rfl) ?_
                  have hFn : zFl T N45_ (u44_ + 1) := by first | exact hFa | exact zFl_n (by (exact i50_)) (by first | with_reducible assumption | assumption) rfl (by first | with_reducible assumption | assumption) (by (exact hc_143))
                  exact ih_119 (u44_ + 1) (by (exact zo_74 i50_)) (by (exact zo_558 hc_124 hu44_b i49_)) N45_ hs46_ (show ze N45_ 81 20 = (gN T : Int) by first | with_reducible assumption | assumption | omega) (show 1 ≤ ze N45_ 81 25 by first | with_reducible assumption | assumption | omega) (show ze N45_ 81 25 ≤ 64 by first | with_reducible assumption | assumption | omega) (show 0 ≤ (u44_ + 1) by first | with_reducible assumption | (exact zo_76 i50_) | assumption) (show (u44_ + 1) ≤ ze N45_ 81 25 by first | with_reducible assumption | assumption | omega) (show zFl T N45_ (u44_ + 1) by first | with_reducible assumption | assumption | omega) i53_ (by (exact zo_563 hc_124 hlt_119 hu44_b i49_ i50_))
                · skip
                  refine zw_aload_n (pc := 146) (n := 0) (x := 81) rfl (zdal_p dlC_M_builds_9 (i := 12) rfl) ?_
                  refine zw_aload_n (pc := 147) (n := 0) (x := 81) rfl (zdal_p dlC_M_builds_9 (i := 13) rfl) ?_
                  refine zr_getF (r := 89) (hf_N45_.w hW) (pc := 148) f_M_38 rfl (zh_89 (hf_N45_.w hW)).1 (zdal_p dlC_M_builds_9 (i := 14) rfl) ?_
                  refine zw_iload_n (pc := 151) (n := 1) (x := Int32.ofInt u44_) rfl (zdal_p dlC_M_builds_9 (i := 15) rfl) ?_
                  refine zr_ialdn (pc := 152) (zh_89 (hf_N45_.w hW)).2 (by decide) (by (exact i50_)) (by (exact zo_548 hc_124 hu44_b i49_)) (zdal_p dlC_M_builds_9 (i := 16) rfl) (fun v250_ hv250_ hv250_a hv250_b => ?_)
                  refine zr_toI (show v250_ = ze N45_ 89 (u44_).toNat by (exact hv250_)) ?_
                  have hfl := (show zFl T N45_ u44_ by first | with_reducible assumption | assumption)
                  have hf1 := hfl.1
                  have hf2 := hfl.2.1
                  have hne := zFl_ne i53_.1 (by (exact i50_)) (by (exact hc_124)) (show zFl T N45_ u44_ by first | with_reducible assumption | assumption) (v := ze N45_ 89 (u44_).toNat) rfl
                  refine zr_callV (hf_N45_.w hW) hf_N45_.x (pc := 153) [.int (Int32.ofInt (ze N45_ 89 (u44_).toNat))] [] l_M_241 (c_M_comesSort l N45_ (hf_N45_.w hW) (ze N45_ 89 (u44_).toNat) (by (exact zo_168 hk0.1)) (by (exact zo_550 hv250_ hv250_b)) (show 0 ≤ ze N45_ 81 26 by first | with_reducible assumption | (exact zo_57 hf1.1) | assumption) (show ze N45_ 81 26 ≤ 63 by first | with_reducible assumption | (exact zo_566 hc_124 hf1.2 hu44_b i49_) | assumption) (show 0 ≤ (ze N45_ 89 (u44_).toNat) by first | with_reducible assumption | (exact zo_57 hk0.1) | assumption) (show (ze N45_ 89 (u44_).toNat) < 16777216 by first | with_reducible assumption | assumption | omega) (show zSo N45_ (ze N45_ 81 26) by first | with_reducible assumption | assumption | omega) (show ∀ i : Nat, (i : Int) < ze N45_ 81 26 → ze N45_ 91 i ≠ (ze N45_ 89 (u44_).toNat) by first | with_reducible assumption | assumption | omega)) rfl rfl rfl (by decide) (Nat.le_of_ble_eq_true rfl) (zdal_p dlC_M_builds_9 (i := 17) rfl) ?_
                  rintro _ N251_ ⟨rfl, hsN251_, ⟨hp0_N251_, hp1_N251_, hp2_N251_⟩⟩
                  have hf_N251_ : zFr [20, 25, 26] [85, 86, 87, 88, 89, 90, 91, 92, 93, 94] Mz N251_ := hf_N45_.tr hsN251_ (by decide) (by decide)
                  have hb0_N251_ : zFr [26] [91] N36_ N251_ := hs46_.tr hsN251_ (by decide) (by decide)
                  have e12_N251_ : ze N251_ 81 12 = ze N45_ 81 12 := hsN251_.e (by decide)
                  have e13_N251_ : ze N251_ 81 13 = ze N45_ 81 13 := hsN251_.e (by decide)
                  have e20_N251_ : ze N251_ 81 20 = ze N45_ 81 20 := hsN251_.e (by decide)
                  have e25_N251_ : ze N251_ 81 25 = ze N45_ 81 25 := hsN251_.e (by decide)
                  have r26_N251_ := ze_r N251_ 81 26
                  have c253_ : zPm N251_ := zPm.fr hsN251_ c54_ (by decide) (by decide)
                  have c254_ : zFin N251_ := zFin.fr hsN251_ c55_ (by decide) (by decide)
                  have c255_ : zB 83 24 0 5 N251_ := zB.fr hsN251_ c56_ (by decide) (by decide)
                  have c256_ : zB 85 144 0 5 N251_ := zB.fr hsN251_ c57_ (by decide) (by decide)
                  have c257_ : zTab T N251_ := zTab.fr hsN251_ c58_ (by decide) (by decide)
                  have c258_ : zCdR (ze Mz 81 12) (zMvs Mz) T N251_ := zCdR.fr hsN251_ c59_ (by decide) (by decide)
                  have c259_ : zJX T N251_ := zJX.fr hsN251_ i53_ (by decide) (by decide)
                  show zW l m_M_builds (zn Mz + 0, zw Mz + 0) N251_ 156 [some (.ref 81), some (.int (Int32.ofInt u44_)), none, none] [] _
                  have hFa := zFl_a (by (exact i50_)) (show zFl T N45_ u44_ by first | with_reducible assumption | assumption) rfl (by first | with_reducible assumption | assumption) (by (exact hc_143)) (fun j => hsN251_.ie (q := 89) (by decide) (by decide) j) hp0_N251_ hp1_N251_ hp2_N251_
                  refine zr_iinc (pc := 156) (i := 1) (a := u44_) (n := 1) (L2 := [some (.ref 81), some (.int (Int32.ofInt (u44_ + 1))), none, none]) rfl (by decide) rfl (zdal_p dlC_M_builds_9 (i := 18) rfl) ?_
                  refine zw_goto (pc := 159) (tgt := 119) (by decide) (zdal_p dlC_M_builds_9 (i := 19) rfl) ?_
                  have hFn : zFl T N251_ (u44_ + 1) := by first | exact hFa | exact zFl_n (by omega) (by first | with_reducible assumption | assumption) rfl (by first | with_reducible assumption | assumption) (by omega)
                  exact ih_119 (u44_ + 1) (by (exact zo_74 i50_)) (by (exact zo_558 hc_124 hu44_b i49_)) N251_ hb0_N251_ (show ze N251_ 81 20 = (gN T : Int) by first | with_reducible assumption | (exact zo_532 e20_N251_ i47_) | assumption) (show 1 ≤ ze N251_ 81 25 by first | with_reducible assumption | (exact zo_533 e25_N251_ i48_) | assumption) (show ze N251_ 81 25 ≤ 64 by first | with_reducible assumption | (exact zo_534 e25_N251_ i49_) | assumption) (show 0 ≤ (u44_ + 1) by first | with_reducible assumption | (exact zo_76 i50_) | assumption) (show (u44_ + 1) ≤ ze N251_ 81 25 by first | with_reducible assumption | (exact zo_567 e25_N251_ hc_124 hu44_b i48_ i49_) | assumption) (show zFl T N251_ (u44_ + 1) by first | with_reducible assumption | assumption | omega) c259_ (by (exact zo_563 hc_124 hlt_119 hu44_b i49_ i50_))
          exact lp_119 _ 0 (by decide) (by decide) N36_ zFr.rf (show ze N36_ 81 20 = (gN T : Int) by first | with_reducible assumption | (exact zo_532 e20_N36_ i23_) | assumption) (show 1 ≤ ze N36_ 81 25 by first | with_reducible assumption | (exact zo_533 e25_N36_ i24_) | assumption) (show ze N36_ 81 25 ≤ 64 by first | with_reducible assumption | (exact zo_534 e25_N36_ i25_) | assumption) (show 0 ≤ (0 : Int) by first | with_reducible assumption | (decide) | assumption) (show (0 : Int) ≤ ze N36_ 81 25 by first | with_reducible assumption | (exact zo_568 e25_N36_ i24_) | assumption) (show zFl T N36_ (0 : Int) by first | with_reducible assumption | assumption | omega) c43_ (Nat.lt_succ_self _)
        · skip
          refine zw_iconst (pc := 27) (v := Int32.ofInt 1) (by decide) (zdal_p dlC_M_builds_6 (i := 17) rfl) ?_
          refine zw_istore_n (pc := 28) (i := 2) (L2 := [some (.ref 81), some (.int (Int32.ofInt u20_)), some (.int (Int32.ofInt 1)), none]) rfl (by decide) rfl (zdal_p dlC_M_builds_6 (i := 18) rfl) ?_
          have hX1 := zX_1 hO (show zJ T N21_ (ze N21_ 81 25) by first | with_reducible assumption | assumption) (show zX T N21_ (ze N21_ 81 25) u20_ 0 by first | with_reducible assumption | assumption)
          have lp_29 : ∀ (n : Nat) (u260_ : Int) (hu260_a : -2147483648 ≤ u260_) (hu260_b : u260_ < 2147483648) (N261_ : zMem) (hs262_ : zFr [25] [89] N21_ N261_) (i263_ : ze N261_ 81 20 = (gN T : Int)) (i264_ : 1 ≤ ze N261_ 81 25) (i265_ : ze N261_ 81 25 ≤ 64) (i266_ : 0 ≤ u20_) (i267_ : u20_ < ze N261_ 81 25) (i268_ : 1 ≤ u260_) (i269_ : u260_ ≤ ze N261_ 81 20) (i270_ : zJ T N261_ (ze N261_ 81 25)) (i271_ : zX T N261_ (ze N261_ 81 25) u20_ u260_), (25 - u260_).toNat < n → zW l m_M_builds (zn Mz + 0, zw Mz + 0) N261_ 29 [some (.ref 81), some (.int (Int32.ofInt u20_)), some (.int (Int32.ofInt u260_)), none] [] (zpV [20, 25, 26] [85, 86, 87, 88, 89, 90, 91, 92, 93, 94] Mz (fun N => ∃ T : zGT, T ∈ gTabs ∧ zGB T N ∧ zTm (zMvs Mz) T ∧ zCdS (ze Mz 81 12) (zMvs Mz) T N)) := by
            intro n
            induction n with
            | zero =>
              intro u260_ hu260_a hu260_b N261_ hs262_ i263_ i264_ i265_ i266_ i267_ i268_ i269_ i270_ i271_ h0
              exact absurd h0 (Nat.not_lt_zero _)
            | succ n ih_29 =>
              intro u260_ hu260_a hu260_b N261_ hs262_ i263_ i264_ i265_ i266_ i267_ i268_ i269_ i270_ i271_ hlt_29
              have hf_N261_ : zFr [20, 25, 26] [85, 86, 87, 88, 89, 90, 91, 92, 93, 94] Mz N261_ := hf_N21_.tr hs262_ (by decide) (by decide)
              have hb0_N261_ : zFr [25] [89] N13_ N261_ := hs22_.tr hs262_ (by decide) (by decide)
              have e12_N261_ : ze N261_ 81 12 = ze N21_ 81 12 := hs262_.e (by decide)
              have e13_N261_ : ze N261_ 81 13 = ze N21_ 81 13 := hs262_.e (by decide)
              have e20_N261_ : ze N261_ 81 20 = ze N21_ 81 20 := hs262_.e (by decide)
              have r25_N261_ := ze_r N261_ 81 25
              have e26_N261_ : ze N261_ 81 26 = ze N21_ 81 26 := hs262_.e (by decide)
              have c272_ : zPm N261_ := zPm.fr hs262_ c30_ (by decide) (by decide)
              have c273_ : zFin N261_ := zFin.fr hs262_ c31_ (by decide) (by decide)
              have c274_ : zB 83 24 0 5 N261_ := zB.fr hs262_ c32_ (by decide) (by decide)
              have c275_ : zB 85 144 0 5 N261_ := zB.fr hs262_ c33_ (by decide) (by decide)
              have c276_ : zTab T N261_ := zTab.fr hs262_ c34_ (by decide) (by decide)
              have c277_ : zCdR (ze Mz 81 12) (zMvs Mz) T N261_ := zCdR.fr hs262_ c35_ (by decide) (by decide)
              have zz12_N261_ : ze N261_ 81 12 = ze Mz 81 12 := hf_N261_.e (by decide)
              have zz13_N261_ : ze N261_ 81 13 = ze Mz 81 13 := hf_N261_.e (by decide)
              refine zw_iload_n (pc := 29) (n := 2) (x := Int32.ofInt u260_) rfl (zdal_p dlC_M_builds_6 (i := 19) rfl) ?_
              refine zw_aload_n (pc := 30) (n := 0) (x := 81) rfl (zdal_p dlC_M_builds_6 (i := 20) rfl) ?_
              refine zr_getI (hf_N261_.w hW) (pc := 31) f_M_196 rfl (zdal_p dlC_M_builds_6 (i := 21) rfl) ?_
              refine zr_icmp_ge (pc := 34) (tgt := 106) ⟨hu260_a, hu260_b⟩ ⟨(ze_r N261_ 81 20).1, (ze_r N261_ 81 20).2⟩ (by decide) (zdal_p dlC_M_builds_6 (i := 22) rfl) (fun hc_34 => ?_) (fun hc_34 => ?_)
              · skip
                refine zr_iinc (pc := 106) (i := 1) (a := u20_) (n := 1) (L2 := [some (.ref 81), some (.int (Int32.ofInt (u20_ + 1))), some (.int (Int32.ofInt u260_)), none]) rfl (by decide) rfl (zdal_p dlC_M_builds_8 (i := 14) rfl) ?_
                refine zw_goto (pc := 109) (tgt := 19) (by decide) (zdal_p dlC_M_builds_8 (i := 15) rfl) ?_
                have hXn : zX T N261_ (ze N261_ 81 25) (u20_ + 1) 0 := zX_n (by first | with_reducible assumption | assumption) (by (exact zo_569 g24 hc_34 i263_ i268_))
                refine zW_le [some (.ref 81), some (.int (Int32.ofInt (u20_ + 1))), none, none] (⟨rfl, rfl, trivial⟩) ?_
                exact ih_19 (u20_ + 1) (by (exact zo_74 i26_)) (by (exact zo_570 hu20_b i265_ i267_)) N261_ hb0_N261_ (show ze N261_ 81 20 = (gN T : Int) by first | with_reducible assumption | assumption | omega) (show 1 ≤ ze N261_ 81 25 by first | with_reducible assumption | assumption | omega) (show ze N261_ 81 25 ≤ 64 by first | with_reducible assumption | assumption | omega) (show 0 ≤ (u20_ + 1) by first | with_reducible assumption | (exact zo_76 i26_) | assumption) (show (u20_ + 1) ≤ ze N261_ 81 25 by first | with_reducible assumption | assumption | omega) (show zJ T N261_ (ze N261_ 81 25) by first | with_reducible assumption | assumption | omega) (show zX T N261_ (ze N261_ 81 25) (u20_ + 1) 0 by first | with_reducible assumption | assumption | omega) (by (exact zo_571 hlt_19 hu20_b i265_ i267_ i26_))
              · skip
                refine zw_aload_n (pc := 37) (n := 0) (x := 81) rfl (zdal_p dlC_M_builds_6 (i := 23) rfl) ?_
                refine zr_getF (r := 89) (hf_N261_.w hW) (pc := 38) f_M_38 rfl (zh_89 (hf_N261_.w hW)).1 (zdal_p dlC_M_builds_7 (i := 0) rfl) ?_
                refine zw_iload_n (pc := 41) (n := 1) (x := Int32.ofInt u20_) rfl (zdal_p dlC_M_builds_7 (i := 1) rfl) ?_
                refine zr_ialdn (pc := 42) (zh_89 (hf_N261_.w hW)).2 (by decide) (by (exact i26_)) (by (exact zo_572 hu20_b i265_ i267_)) (zdal_p dlC_M_builds_7 (i := 2) rfl) (fun v278_ hv278_ hv278_a hv278_b => ?_)
                have hk0 := (show zJ T N261_ (ze N261_ 81 25) by first | with_reducible assumption | assumption).2.2.1 (u20_).toNat (by (exact zo_573 hu20_b i264_ i265_ i267_ i26_))
                have hkb := hO.sb hk0.2
                refine zw_iload_n (pc := 43) (n := 2) (x := Int32.ofInt u260_) rfl (zdal_p dlC_M_builds_7 (i := 3) rfl) ?_
                refine zr_callS hf_N261_.x (pc := 44) [.int (Int32.ofInt v278_), .int (Int32.ofInt u260_)] [] l_M_213 (c_M_holds l N261_ (hf_N261_.w hW) v278_ hv278_a hv278_b u260_ hu260_a hu260_b (show 0 ≤ v278_ by first | with_reducible assumption | (exact zo_574 hk0.1 hv278_ hv278_a) | assumption) (show 0 ≤ u260_ by first | with_reducible assumption | (exact zo_564 i268_) | assumption) (show u260_ < 32 by first | with_reducible assumption | (exact zo_575 g24 hc_34 hu260_b i263_) | assumption)) rfl rfl (by decide) (Nat.le_of_ble_eq_true rfl) (zdal_p dlC_M_builds_7 (i := 4) rfl) ?_
                rintro _ N279_ ⟨v280_, rfl, ⟨hv280_a, hv280_b⟩, hsN279_, hp0_N279_⟩
                obtain rfl := hsN279_.eq.symm
                replace hp0_N279_ : ((v280_ = 1 ∧ zbt v278_ u260_) ∨ (v280_ = 0 ∧ ¬ zbt v278_ u260_)) := hp0_N279_
                rcases hp0_N279_ with ⟨rfl, ha44_0_hp0_N279_⟩ | ⟨rfl, ha44_0_hp0_N279_⟩
                · skip
                  show zW l m_M_builds (zn Mz + 0, zw Mz + 0) N261_ 47 [some (.ref 81), some (.int (Int32.ofInt u20_)), some (.int (Int32.ofInt u260_)), none] [.int (Int32.ofInt 1)] _
                  refine zr_if_eq (pc := 47) (tgt := 53) ⟨(by decide), (by decide)⟩ (by decide) (zdal_p dlC_M_builds_7 (i := 5) rfl) (fun hc_47 => ?_) (fun hc_47 => ?_)
                  · skip
                    exact absurd hc_47 (by decide)
                  · skip
                    refine zw_goto (pc := 50) (tgt := 100) (by decide) (zdal_p dlC_M_builds_7 (i := 6) rfl) ?_
                    refine zr_iinc (pc := 100) (i := 2) (a := u260_) (n := 1) (L2 := [some (.ref 81), some (.int (Int32.ofInt u20_)), some (.int (Int32.ofInt (u260_ + 1))), none]) rfl (by decide) rfl (zdal_p dlC_M_builds_8 (i := 12) rfl) ?_
                    refine zw_goto (pc := 103) (tgt := 29) (by decide) (zdal_p dlC_M_builds_8 (i := 13) rfl) ?_
                    have hJn : zJ T N261_ (ze N261_ 81 25) := by first | with_reducible assumption | exact hJa | assumption
                    have hXn : zX T N261_ (ze N261_ 81 25) u20_ (u260_ + 1) := by first | exact hXa | exact zX_f (by omega) (by omega) (by first | with_reducible assumption | assumption) rfl hLr (by first | with_reducible assumption | assumption) (by omega) | exact zX_b (by (exact i26_)) (by (exact zo_564 i268_)) (by first | with_reducible assumption | assumption) (by first | with_reducible assumption | assumption) (by first | with_reducible assumption | assumption)
                    have hle := zJ_le hO hJn
                    exact ih_29 (u260_ + 1) (by (exact zo_576 i268_)) (by (exact zo_546 g24 hc_34 hu260_b i263_)) N261_ hs262_ (show ze N261_ 81 20 = (gN T : Int) by first | with_reducible assumption | assumption | omega) (show 1 ≤ ze N261_ 81 25 by first | with_reducible assumption | assumption | omega) (show ze N261_ 81 25 ≤ 64 by first | with_reducible assumption | assumption | omega) (show 0 ≤ u20_ by first | with_reducible assumption | assumption | omega) (show u20_ < ze N261_ 81 25 by first | with_reducible assumption | assumption | omega) (show 1 ≤ (u260_ + 1) by first | with_reducible assumption | (exact zo_577 i268_) | assumption) (show (u260_ + 1) ≤ ze N261_ 81 20 by first | with_reducible assumption | assumption | omega) (show zJ T N261_ (ze N261_ 81 25) by first | with_reducible assumption | assumption | omega) (show zX T N261_ (ze N261_ 81 25) u20_ (u260_ + 1) by first | with_reducible assumption | assumption | omega) (by (exact zo_578 g24 hc_34 hlt_29 hu260_b i263_ i268_))
                · skip
                  show zW l m_M_builds (zn Mz + 0, zw Mz + 0) N261_ 47 [some (.ref 81), some (.int (Int32.ofInt u20_)), some (.int (Int32.ofInt u260_)), none] [.int (Int32.ofInt 0)] _
                  refine zr_if_eq (pc := 47) (tgt := 53) ⟨(by decide), (by decide)⟩ (by decide) (zdal_p dlC_M_builds_7 (i := 5) rfl) (fun hc_47 => ?_) (fun hc_47 => ?_)
                  · skip
                    refine zw_aload_n (pc := 53) (n := 0) (x := 81) rfl (zdal_p dlC_M_builds_7 (i := 7) rfl) ?_
                    refine zw_aload_n (pc := 54) (n := 0) (x := 81) rfl (zdal_p dlC_M_builds_7 (i := 8) rfl) ?_
                    refine zr_getF (r := 89) (hf_N261_.w hW) (pc := 55) f_M_38 rfl (zh_89 (hf_N261_.w hW)).1 (zdal_p dlC_M_builds_7 (i := 9) rfl) ?_
                    refine zw_iload_n (pc := 58) (n := 1) (x := Int32.ofInt u20_) rfl (zdal_p dlC_M_builds_7 (i := 10) rfl) ?_
                    refine zr_ialdn (pc := 59) (zh_89 (hf_N261_.w hW)).2 (by decide) (by (exact i26_)) (by (exact zo_572 hu20_b i265_ i267_)) (zdal_p dlC_M_builds_7 (i := 11) rfl) (fun v281_ hv281_ hv281_a hv281_b => ?_)
                    refine zr_toI (show v281_ = ze N261_ 89 (u20_).toNat by (exact hv281_)) ?_
                    refine zw_iconst (pc := 60) (v := Int32.ofInt 1) (by decide) (zdal_p dlC_M_builds_7 (i := 12) rfl) ?_
                    refine zw_iload_n (pc := 61) (n := 2) (x := Int32.ofInt u260_) rfl (zdal_p dlC_M_builds_7 (i := 13) rfl) ?_
                    refine zr_ishl (pc := 62) (zdal_p dlC_M_builds_7 (i := 14) rfl) ?_
                    have hr282_ := zshl_r 1 u260_
                    have hgi := gIn_or hG (x := ze N261_ 89 (u20_).toNat) (g := u260_) hk0.1 (hO.2.1.2.2 _ hk0.2).1.2.1 (by (exact zo_564 i268_)) (by (exact zo_545 g24 hc_34 hu260_b i263_))
                    refine zr_ior (pc := 63) (zdal_p dlC_M_builds_7 (i := 15) rfl) ?_
                    have hr283_ := zor_r (ze N261_ 89 (u20_).toNat) (zshl 1 u260_)
                    have hks := (hO.2.1.2.2 _ hk0.2).1.2.1
                    refine zr_callV (hf_N261_.w hW) hf_N261_.x (pc := 64) [.int (Int32.ofInt (zor (ze N261_ 89 (u20_).toNat) (zshl 1 u260_)))] [] l_M_229 (c_M_closed l N261_ (hf_N261_.w hW) (zor (ze N261_ 89 (u20_).toNat) (zshl 1 u260_)) (by (exact zo_284 hr283_.1)) (by (exact zo_285 hr283_.2)) T hG c276_ (show gIn T (zor (ze N261_ 89 (u20_).toNat) (zshl 1 u260_)) by exact hgi.1)) rfl rfl rfl (by decide) (Nat.le_of_ble_eq_true rfl) (zdal_p dlC_M_builds_7 (i := 16) rfl) ?_
                    rintro _ N284_ ⟨v285_, rfl, ⟨hv285_a, hv285_b⟩, hsN284_, ⟨hp0_N284_, hp1_N284_, hp2_N284_⟩⟩
                    obtain rfl := hsN284_.eq.symm
                    show zW l m_M_builds (zn Mz + 0, zw Mz + 0) N261_ 67 [some (.ref 81), some (.int (Int32.ofInt u20_)), some (.int (Int32.ofInt u260_)), none] [.int (Int32.ofInt v285_)] _
                    have hLr := hp0_N284_
                    rw [hgi.2] at hLr
                    refine zw_istore_n (pc := 67) (i := 3) (L2 := [some (.ref 81), some (.int (Int32.ofInt u20_)), some (.int (Int32.ofInt u260_)), some (.int (Int32.ofInt v285_))]) rfl (by decide) rfl (zdal_p dlC_M_builds_7 (i := 17) rfl) ?_
                    refine zw_aload_n (pc := 68) (n := 0) (x := 81) rfl (zdal_p dlC_M_builds_7 (i := 18) rfl) ?_
                    refine zw_iload_n (pc := 69) (n := 3) (x := Int32.ofInt v285_) rfl (zdal_p dlC_M_builds_7 (i := 19) rfl) ?_
                    refine zr_callV (hf_N261_.w hW) hf_N261_.x (pc := 70) [.int (Int32.ofInt v285_)] [] l_M_232 (c_M_subIndex l N261_ (hf_N261_.w hW) v285_ hv285_a hv285_b (show 0 ≤ ze N261_ 81 25 by first | with_reducible assumption | (exact zo_564 i264_) | assumption) (show ze N261_ 81 25 ≤ 128 by first | with_reducible assumption | (exact zo_579 i265_) | assumption)) rfl rfl rfl (by decide) (Nat.le_of_ble_eq_true rfl) (zdal_p dlC_M_builds_7 (i := 20) rfl) ?_
                    rintro _ N286_ ⟨v287_, rfl, ⟨hv287_a, hv287_b⟩, hsN286_, hp0_N286_⟩
                    obtain rfl := hsN286_.eq.symm
                    replace hp0_N286_ : ((0 ≤ v287_ ∧ v287_ < ze N261_ 81 25 ∧ ze N261_ 89 (v287_).toNat = v285_) ∨ (v287_ = -1 ∧ ∀ k : Nat, (k : Int) < ze N261_ 81 25 → ze N261_ 89 k ≠ v285_)) := hp0_N286_
                    rcases hp0_N286_ with ⟨ha70_0_hp0_N286_, ha70_1_hp0_N286_, ha70_2_hp0_N286_⟩ | ⟨rfl, ha70_0_hp0_N286_⟩
                    · skip
                      show zW l m_M_builds (zn Mz + 0, zw Mz + 0) N261_ 73 [some (.ref 81), some (.int (Int32.ofInt u20_)), some (.int (Int32.ofInt u260_)), some (.int (Int32.ofInt v285_))] [.int (Int32.ofInt v287_)] _
                      refine zw_iconst (pc := 73) (v := Int32.ofInt (-1)) (by decide) (zdal_p dlC_M_builds_7 (i := 21) rfl) ?_
                      refine zr_icmp_eq (pc := 74) (tgt := 80) ⟨hv287_a, hv287_b⟩ ⟨(by decide), (by decide)⟩ (by decide) (zdal_p dlC_M_builds_7 (i := 22) rfl) (fun hc_74 => ?_) (fun hc_74 => ?_)
                      · skip
                        refine zw_aload_n (pc := 80) (n := 0) (x := 81) rfl (zdal_p dlC_M_builds_8 (i := 0) rfl) ?_
                        refine zr_getF (r := 89) (hf_N261_.w hW) (pc := 81) f_M_38 rfl (zh_89 (hf_N261_.w hW)).1 (zdal_p dlC_M_builds_8 (i := 1) rfl) ?_
                        refine zw_aload_n (pc := 84) (n := 0) (x := 81) rfl (zdal_p dlC_M_builds_8 (i := 2) rfl) ?_
                        refine zr_getI (hf_N261_.w hW) (pc := 85) f_M_220 rfl (zdal_p dlC_M_builds_8 (i := 3) rfl) ?_
                        refine zw_iload_n (pc := 88) (n := 3) (x := Int32.ofInt v285_) rfl (zdal_p dlC_M_builds_8 (i := 4) rfl) ?_
                        refine zr_iast (pc := 89) (zh_89 (hf_N261_.w hW)).2 (by decide) (by decide) (by (exact zo_564 i264_)) (by (exact zo_580 i265_)) (zdal_p dlC_M_builds_8 (i := 5) rfl) (fun N288_ hN288_ hsN288_ => ?_)
                        have hf_N288_ : zFr [20, 25, 26] [85, 86, 87, 88, 89, 90, 91, 92, 93, 94] Mz N288_ := hf_N261_.tr hsN288_ (by decide) (by decide)
                        have hb0_N288_ : zFr [25] [89] N13_ N288_ := hb0_N261_.tr hsN288_ (by decide) (by decide)
                        have hb1_N288_ : zFr [25] [89] N21_ N288_ := hs262_.tr hsN288_ (by decide) (by decide)
                        have e12_N288_ : ze N288_ 81 12 = ze N261_ 81 12 := hsN288_.e (by decide)
                        have e13_N288_ : ze N288_ 81 13 = ze N261_ 81 13 := hsN288_.e (by decide)
                        have e20_N288_ : ze N288_ 81 20 = ze N261_ 81 20 := hsN288_.e (by decide)
                        have e25_N288_ : ze N288_ 81 25 = ze N261_ 81 25 := hsN288_.e (by decide)
                        have e26_N288_ : ze N288_ 81 26 = ze N261_ 81 26 := hsN288_.e (by decide)
                        have c289_ : zPm N288_ := zPm.fr hsN288_ c272_ (by decide) (by decide)
                        have c290_ : zFin N288_ := zFin.fr hsN288_ c273_ (by decide) (by decide)
                        have c291_ : zB 83 24 0 5 N288_ := zB.fr hsN288_ c274_ (by decide) (by decide)
                        have c292_ : zB 85 144 0 5 N288_ := zB.fr hsN288_ c275_ (by decide) (by decide)
                        have c293_ : zTab T N288_ := zTab.fr hsN288_ c276_ (by decide) (by decide)
                        have c294_ : zCdR (ze Mz 81 12) (zMvs Mz) T N288_ := zCdR.fr hsN288_ c277_ (by decide) (by decide)
                        refine zw_aload_n (pc := 90) (n := 0) (x := 81) rfl (zdal_p dlC_M_builds_8 (i := 6) rfl) ?_
                        refine zw_dup (pc := 91) rfl (zdal_p dlC_M_builds_8 (i := 7) rfl) ?_
                        refine zr_getI (hf_N288_.w hW) (pc := 92) f_M_220 rfl (zdal_p dlC_M_builds_8 (i := 8) rfl) ?_
                        refine zw_iconst (pc := 95) (v := Int32.ofInt 1) (by decide) (zdal_p dlC_M_builds_8 (i := 9) rfl) ?_
                        refine zr_iadd (pc := 96) (zdal_p dlC_M_builds_8 (i := 10) rfl) ?_
                        refine zr_putI (hf_N288_.w hW) (pc := 97) f_M_220 rfl rfl ⟨by (exact zo_581 e25_N288_ i264_), by (exact zo_582 e25_N288_ i265_)⟩ rfl rfl (zdal_p dlC_M_builds_8 (i := 11) rfl) (fun N295_ hsN295_ hvN295_ => ?_)
                        have hf_N295_ : zFr [20, 25, 26] [85, 86, 87, 88, 89, 90, 91, 92, 93, 94] Mz N295_ := hf_N288_.tr hsN295_ (by decide) (by decide)
                        have hb0_N295_ : zFr [25] [89] N13_ N295_ := hb0_N288_.tr hsN295_ (by decide) (by decide)
                        have hb1_N295_ : zFr [25] [89] N21_ N295_ := hb1_N288_.tr hsN295_ (by decide) (by decide)
                        have e12_N295_ : ze N295_ 81 12 = ze N288_ 81 12 := hsN295_.e (by decide)
                        have e13_N295_ : ze N295_ 81 13 = ze N288_ 81 13 := hsN295_.e (by decide)
                        have e20_N295_ : ze N295_ 81 20 = ze N288_ 81 20 := hsN295_.e (by decide)
                        have r25_N295_ := ze_r N295_ 81 25
                        have e26_N295_ : ze N295_ 81 26 = ze N288_ 81 26 := hsN295_.e (by decide)
                        have c296_ : zPm N295_ := zPm.fr hsN295_ c289_ (by decide) (by decide)
                        have c297_ : zFin N295_ := zFin.fr hsN295_ c290_ (by decide) (by decide)
                        have c298_ : zB 83 24 0 5 N295_ := zB.fr hsN295_ c291_ (by decide) (by decide)
                        have c299_ : zB 85 144 0 5 N295_ := zB.fr hsN295_ c292_ (by decide) (by decide)
                        have c300_ : zTab T N295_ := zTab.fr hsN295_ c293_ (by decide) (by decide)
                        have c301_ : zCdR (ze Mz 81 12) (zMvs Mz) T N295_ := zCdR.fr hsN295_ c294_ (by decide) (by decide)
                        have hA := zJ_a hO (by (exact i26_)) (by (exact i267_)) (by (exact zo_564 i268_)) (k := u20_) (g := u260_) (show zJ T N261_ (ze N261_ 81 25) by first | with_reducible assumption | assumption) (show zX T N261_ (ze N261_ 81 25) u20_ u260_ by first | with_reducible assumption | assumption) rfl (by (exact hp1_N284_)) hLr (by first | with_reducible assumption | (intro _ _; exfalso; (exact zo_583 ha70_0_hp0_N286_ hc_74)) | assumption) hN288_
                        have hJa := zJ.e (fun k => hsN295_.ie (q := 89) (by decide) (by decide) k) hA.1
                        have hXa := zX.e (fun k => hsN295_.ie (q := 89) (by decide) (by decide) k) hA.2
                        rw [show ze N261_ 81 25 + 1 = ze N295_ 81 25 by omega] at hJa hXa
                        refine zr_iinc (pc := 100) (i := 2) (a := u260_) (n := 1) (L2 := [some (.ref 81), some (.int (Int32.ofInt u20_)), some (.int (Int32.ofInt (u260_ + 1))), some (.int (Int32.ofInt v285_))]) rfl (by decide) rfl (zdal_p dlC_M_builds_8 (i := 12) rfl) ?_
                        refine zw_goto (pc := 103) (tgt := 29) (by decide) (zdal_p dlC_M_builds_8 (i := 13) rfl) ?_
                        have hJn : zJ T N295_ (ze N295_ 81 25) := by first | with_reducible assumption | exact hJa | assumption
                        have hXn : zX T N295_ (ze N295_ 81 25) u20_ (u260_ + 1) := by first | exact hXa | exact zX_f (by omega) (by omega) (by first | with_reducible assumption | assumption) rfl hLr (by first | with_reducible assumption | assumption) (by omega) | exact zX_b (by omega) (by omega) (by first | with_reducible assumption | assumption) (by first | with_reducible assumption | assumption) (by first | with_reducible assumption | assumption)
                        have hle := zJ_le hO hJn
                        refine zW_le [some (.ref 81), some (.int (Int32.ofInt u20_)), some (.int (Int32.ofInt (u260_ + 1))), none] (⟨rfl, rfl, rfl, trivial⟩) ?_
                        exact ih_29 (u260_ + 1) (by (exact zo_576 i268_)) (by (exact zo_546 g24 hc_34 hu260_b i263_)) N295_ hb1_N295_ (show ze N295_ 81 20 = (gN T : Int) by first | with_reducible assumption | (exact zo_559 e20_N288_ e20_N295_ i263_) | assumption) (show 1 ≤ ze N295_ 81 25 by first | with_reducible assumption | (exact zo_584 e25_N288_ hvN295_ i264_ r25_N295_.1) | assumption) (show ze N295_ 81 25 ≤ 64 by first | with_reducible assumption | assumption | omega) (show 0 ≤ u20_ by first | with_reducible assumption | assumption | omega) (show u20_ < ze N295_ 81 25 by first | with_reducible assumption | (exact zo_585 e25_N288_ hu20_b hvN295_ i264_ i265_ i267_) | assumption) (show 1 ≤ (u260_ + 1) by first | with_reducible assumption | (exact zo_577 i268_) | assumption) (show (u260_ + 1) ≤ ze N295_ 81 20 by first | with_reducible assumption | (exact zo_586 e20_N288_ e20_N295_ hc_34) | assumption) (show zJ T N295_ (ze N295_ 81 25) by first | with_reducible assumption | assumption | omega) (show zX T N295_ (ze N295_ 81 25) u20_ (u260_ + 1) by first | with_reducible assumption | assumption | omega) (by (exact zo_578 g24 hc_34 hlt_29 hu260_b i263_ i268_))
                      · skip
                        refine zw_goto (pc := 77) (tgt := 100) (by decide) (zdal_p dlC_M_builds_7 (i := 23) rfl) ?_
                        refine zr_iinc (pc := 100) (i := 2) (a := u260_) (n := 1) (L2 := [some (.ref 81), some (.int (Int32.ofInt u20_)), some (.int (Int32.ofInt (u260_ + 1))), some (.int (Int32.ofInt v285_))]) rfl (by decide) rfl (zdal_p dlC_M_builds_8 (i := 12) rfl) ?_
                        refine zw_goto (pc := 103) (tgt := 29) (by decide) (zdal_p dlC_M_builds_8 (i := 13) rfl) ?_
                        have hJn : zJ T N261_ (ze N261_ 81 25) := by first | with_reducible assumption | exact hJa | assumption
                        have hXn : zX T N261_ (ze N261_ 81 25) u20_ (u260_ + 1) := by first | exact hXa | exact zX_f (by (exact i26_)) (by (exact zo_564 i268_)) (by first | with_reducible assumption | assumption) rfl hLr (by first | with_reducible assumption | assumption) (by (exact zo_587 ha70_0_hp0_N286_ ha70_1_hp0_N286_)) | exact zX_b (by omega) (by omega) (by first | with_reducible assumption | assumption) (by first | with_reducible assumption | assumption) (by first | with_reducible assumption | assumption)
                        have hle := zJ_le hO hJn
                        refine zW_le [some (.ref 81), some (.int (Int32.ofInt u20_)), some (.int (Int32.ofInt (u260_ + 1))), none] (⟨rfl, rfl, rfl, trivial⟩) ?_
                        exact ih_29 (u260_ + 1) (by (exact zo_576 i268_)) (by (exact zo_546 g24 hc_34 hu260_b i263_)) N261_ hs262_ (show ze N261_ 81 20 = (gN T : Int) by first | with_reducible assumption | assumption | omega) (show 1 ≤ ze N261_ 81 25 by first | with_reducible assumption | assumption | omega) (show ze N261_ 81 25 ≤ 64 by first | with_reducible assumption | assumption | omega) (show 0 ≤ u20_ by first | with_reducible assumption | assumption | omega) (show u20_ < ze N261_ 81 25 by first | with_reducible assumption | assumption | omega) (show 1 ≤ (u260_ + 1) by first | with_reducible assumption | (exact zo_577 i268_) | assumption) (show (u260_ + 1) ≤ ze N261_ 81 20 by first | with_reducible assumption | assumption | omega) (show zJ T N261_ (ze N261_ 81 25) by first | with_reducible assumption | assumption | omega) (show zX T N261_ (ze N261_ 81 25) u20_ (u260_ + 1) by first | with_reducible assumption | assumption | omega) (by (exact zo_578 g24 hc_34 hlt_29 hu260_b i263_ i268_))
                    · skip
                      show zW l m_M_builds (zn Mz + 0, zw Mz + 0) N261_ 73 [some (.ref 81), some (.int (Int32.ofInt u20_)), some (.int (Int32.ofInt u260_)), some (.int (Int32.ofInt v285_))] [.int (Int32.ofInt ((-1)))] _
                      refine zw_iconst (pc := 73) (v := Int32.ofInt (-1)) (by decide) (zdal_p dlC_M_builds_7 (i := 21) rfl) ?_
                      refine zr_icmp_eq (pc := 74) (tgt := 80) ⟨(by decide), (by decide)⟩ ⟨(by decide), (by decide)⟩ (by decide) (zdal_p dlC_M_builds_7 (i := 22) rfl) (fun hc_74 => ?_) (fun hc_74 => ?_)
                      · skip
                        refine zw_aload_n (pc := 80) (n := 0) (x := 81) rfl (zdal_p dlC_M_builds_8 (i := 0) rfl) ?_
                        refine zr_getF (r := 89) (hf_N261_.w hW) (pc := 81) f_M_38 rfl (zh_89 (hf_N261_.w hW)).1 (zdal_p dlC_M_builds_8 (i := 1) rfl) ?_
                        refine zw_aload_n (pc := 84) (n := 0) (x := 81) rfl (zdal_p dlC_M_builds_8 (i := 2) rfl) ?_
                        refine zr_getI (hf_N261_.w hW) (pc := 85) f_M_220 rfl (zdal_p dlC_M_builds_8 (i := 3) rfl) ?_
                        refine zw_iload_n (pc := 88) (n := 3) (x := Int32.ofInt v285_) rfl (zdal_p dlC_M_builds_8 (i := 4) rfl) ?_
                        refine zr_iast (pc := 89) (zh_89 (hf_N261_.w hW)).2 (by decide) (by decide) (by (exact zo_564 i264_)) (by (exact zo_580 i265_)) (zdal_p dlC_M_builds_8 (i := 5) rfl) (fun N302_ hN302_ hsN302_ => ?_)
                        have hf_N302_ : zFr [20, 25, 26] [85, 86, 87, 88, 89, 90, 91, 92, 93, 94] Mz N302_ := hf_N261_.tr hsN302_ (by decide) (by decide)
                        have hb0_N302_ : zFr [25] [89] N13_ N302_ := hb0_N261_.tr hsN302_ (by decide) (by decide)
                        have hb1_N302_ : zFr [25] [89] N21_ N302_ := hs262_.tr hsN302_ (by decide) (by decide)
                        have e12_N302_ : ze N302_ 81 12 = ze N261_ 81 12 := hsN302_.e (by decide)
                        have e13_N302_ : ze N302_ 81 13 = ze N261_ 81 13 := hsN302_.e (by decide)
                        have e20_N302_ : ze N302_ 81 20 = ze N261_ 81 20 := hsN302_.e (by decide)
                        have e25_N302_ : ze N302_ 81 25 = ze N261_ 81 25 := hsN302_.e (by decide)
                        have e26_N302_ : ze N302_ 81 26 = ze N261_ 81 26 := hsN302_.e (by decide)
                        have c303_ : zPm N302_ := zPm.fr hsN302_ c272_ (by decide) (by decide)
                        have c304_ : zFin N302_ := zFin.fr hsN302_ c273_ (by decide) (by decide)
                        have c305_ : zB 83 24 0 5 N302_ := zB.fr hsN302_ c274_ (by decide) (by decide)
                        have c306_ : zB 85 144 0 5 N302_ := zB.fr hsN302_ c275_ (by decide) (by decide)
                        have c307_ : zTab T N302_ := zTab.fr hsN302_ c276_ (by decide) (by decide)
                        have c308_ : zCdR (ze Mz 81 12) (zMvs Mz) T N302_ := zCdR.fr hsN302_ c277_ (by decide) (by decide)
                        refine zw_aload_n (pc := 90) (n := 0) (x := 81) rfl (zdal_p dlC_M_builds_8 (i := 6) rfl) ?_
                        refine zw_dup (pc := 91) rfl (zdal_p dlC_M_builds_8 (i := 7) rfl) ?_
                        refine zr_getI (hf_N302_.w hW) (pc := 92) f_M_220 rfl (zdal_p dlC_M_builds_8 (i := 8) rfl) ?_
                        refine zw_iconst (pc := 95) (v := Int32.ofInt 1) (by decide) (zdal_p dlC_M_builds_8 (i := 9) rfl) ?_
                        refine zr_iadd (pc := 96) (zdal_p dlC_M_builds_8 (i := 10) rfl) ?_
                        refine zr_putI (hf_N302_.w hW) (pc := 97) f_M_220 rfl rfl ⟨by (exact zo_581 e25_N302_ i264_), by (exact zo_582 e25_N302_ i265_)⟩ rfl rfl (zdal_p dlC_M_builds_8 (i := 11) rfl) (fun N309_ hsN309_ hvN309_ => ?_)
                        have hf_N309_ : zFr [20, 25, 26] [85, 86, 87, 88, 89, 90, 91, 92, 93, 94] Mz N309_ := hf_N302_.tr hsN309_ (by decide) (by decide)
                        have hb0_N309_ : zFr [25] [89] N13_ N309_ := hb0_N302_.tr hsN309_ (by decide) (by decide)
                        have hb1_N309_ : zFr [25] [89] N21_ N309_ := hb1_N302_.tr hsN309_ (by decide) (by decide)
                        have e12_N309_ : ze N309_ 81 12 = ze N302_ 81 12 := hsN309_.e (by decide)
                        have e13_N309_ : ze N309_ 81 13 = ze N302_ 81 13 := hsN309_.e (by decide)
                        have e20_N309_ : ze N309_ 81 20 = ze N302_ 81 20 := hsN309_.e (by decide)
                        have r25_N309_ := ze_r N309_ 81 25
                        have e26_N309_ : ze N309_ 81 26 = ze N302_ 81 26 := hsN309_.e (by decide)
                        have c310_ : zPm N309_ := zPm.fr hsN309_ c303_ (by decide) (by decide)
                        have c311_ : zFin N309_ := zFin.fr hsN309_ c304_ (by decide) (by decide)
                        have c312_ : zB 83 24 0 5 N309_ := zB.fr hsN309_ c305_ (by decide) (by decide)
                        have c313_ : zB 85 144 0 5 N309_ := zB.fr hsN309_ c306_ (by decide) (by decide)
                        have c314_ : zTab T N309_ := zTab.fr hsN309_ c307_ (by decide) (by decide)
                        have c315_ : zCdR (ze Mz 81 12) (zMvs Mz) T N309_ := zCdR.fr hsN309_ c308_ (by decide) (by decide)
                        have hA := zJ_a hO (by (exact i26_)) (by (exact i267_)) (by (exact zo_564 i268_)) (k := u20_) (g := u260_) (show zJ T N261_ (ze N261_ 81 25) by first | with_reducible assumption | assumption) (show zX T N261_ (ze N261_ 81 25) u20_ u260_ by first | with_reducible assumption | assumption) rfl (by (exact hp1_N284_)) hLr (by first | with_reducible assumption | assumption | (intro _ _; exfalso; omega)) hN302_
                        have hJa := zJ.e (fun k => hsN309_.ie (q := 89) (by decide) (by decide) k) hA.1
                        have hXa := zX.e (fun k => hsN309_.ie (q := 89) (by decide) (by decide) k) hA.2
                        rw [show ze N261_ 81 25 + 1 = ze N309_ 81 25 by omega] at hJa hXa
                        refine zr_iinc (pc := 100) (i := 2) (a := u260_) (n := 1) (L2 := [some (.ref 81), some (.int (Int32.ofInt u20_)), some (.int (Int32.ofInt (u260_ + 1))), some (.int (Int32.ofInt v285_))]) rfl (by decide) rfl (zdal_p dlC_M_builds_8 (i := 12) rfl) ?_
                        refine zw_goto (pc := 103) (tgt := 29) (by decide) (zdal_p dlC_M_builds_8 (i := 13) rfl) ?_
                        have hJn : zJ T N309_ (ze N309_ 81 25) := by first | with_reducible assumption | exact hJa | assumption
                        have hXn : zX T N309_ (ze N309_ 81 25) u20_ (u260_ + 1) := by first | exact hXa | exact zX_f (by omega) (by omega) (by first | with_reducible assumption | assumption) rfl hLr (by first | with_reducible assumption | assumption) (by omega) | exact zX_b (by omega) (by omega) (by first | with_reducible assumption | assumption) (by first | with_reducible assumption | assumption) (by first | with_reducible assumption | assumption)
                        have hle := zJ_le hO hJn
                        refine zW_le [some (.ref 81), some (.int (Int32.ofInt u20_)), some (.int (Int32.ofInt (u260_ + 1))), none] (⟨rfl, rfl, rfl, trivial⟩) ?_
                        exact ih_29 (u260_ + 1) (by (exact zo_576 i268_)) (by (exact zo_546 g24 hc_34 hu260_b i263_)) N309_ hb1_N309_ (show ze N309_ 81 20 = (gN T : Int) by first | with_reducible assumption | (exact zo_559 e20_N302_ e20_N309_ i263_) | assumption) (show 1 ≤ ze N309_ 81 25 by first | with_reducible assumption | (exact zo_584 e25_N302_ hvN309_ i264_ r25_N309_.1) | assumption) (show ze N309_ 81 25 ≤ 64 by first | with_reducible assumption | assumption | omega) (show 0 ≤ u20_ by first | with_reducible assumption | assumption | omega) (show u20_ < ze N309_ 81 25 by first | with_reducible assumption | (exact zo_588 e25_N302_ hc_24 hu20_b hvN309_ i25_ i264_ i267_) | assumption) (show 1 ≤ (u260_ + 1) by first | with_reducible assumption | (exact zo_577 i268_) | assumption) (show (u260_ + 1) ≤ ze N309_ 81 20 by first | with_reducible assumption | (exact zo_586 e20_N302_ e20_N309_ hc_34) | assumption) (show zJ T N309_ (ze N309_ 81 25) by first | with_reducible assumption | assumption | omega) (show zX T N309_ (ze N309_ 81 25) u20_ (u260_ + 1) by first | with_reducible assumption | assumption | omega) (by (exact zo_578 g24 hc_34 hlt_29 hu260_b i263_ i268_))
                      · skip
                        exact absurd hc_74 (by decide)
                  · skip
                    exact absurd hc_47 (by decide)
          exact lp_29 _ 1 (by decide) (by decide) N21_ zFr.rf (show ze N21_ 81 20 = (gN T : Int) by first | with_reducible assumption | assumption | omega) (show 1 ≤ ze N21_ 81 25 by first | with_reducible assumption | assumption | omega) (show ze N21_ 81 25 ≤ 64 by first | with_reducible assumption | assumption | omega) (show 0 ≤ u20_ by first | with_reducible assumption | assumption | omega) (show u20_ < ze N21_ 81 25 by first | with_reducible assumption | assumption | omega) (show 1 ≤ (1 : Int) by first | with_reducible assumption | (decide) | assumption) (show (1 : Int) ≤ ze N21_ 81 20 by first | with_reducible assumption | (exact zo_589 g1 i23_) | assumption) (show zJ T N21_ (ze N21_ 81 25) by first | with_reducible assumption | assumption | omega) (show zX T N21_ (ze N21_ 81 25) u20_ (1 : Int) by first | with_reducible assumption | assumption | omega) (Nat.lt_succ_self _)
    exact lp_19 _ 0 (by decide) (by decide) N13_ zFr.rf (show ze N13_ 81 20 = (gN T : Int) by first | with_reducible assumption | (exact zo_590 e20_N13_ e20_N6_ gn ha1_2_hp1_N1_) | assumption) (show 1 ≤ ze N13_ 81 25 by first | with_reducible assumption | (exact zo_591 e25_N13_ hvN6_) | assumption) (show ze N13_ 81 25 ≤ 64 by first | with_reducible assumption | (exact zo_592 e25_N13_ hvN6_) | assumption) (show 0 ≤ (0 : Int) by first | with_reducible assumption | (decide) | assumption) (show (0 : Int) ≤ ze N13_ 81 25 by first | with_reducible assumption | (exact zo_593 e25_N13_ hvN6_) | assumption) (show zJ T N13_ (ze N13_ 81 25) by rw [show ze N13_ 81 25 = 1 by (exact zo_594 e25_N13_ hvN6_)]; exact zJ_0 hO hz0) (show zX T N13_ (ze N13_ 81 25) (0 : Int) 0 by exact zX_0) (Nat.lt_succ_self _)
  · skip
    exact absurd p5_ ha1_0_hp1_N1_
set_option maxHeartbeats 4000000 in
theorem c_M_beginsF (l : Launch) (Mz : zMem) (hW : zMt Mz) (b_ : Nat → Int) (n_ : Nat) (p0_ : zRp b_ n_ Mz) : zC l m_M_begins 0 0 [.ref 81] Mz (zpV [1, 2, 3, 4, 5, 6, 7, 8, 11] [] Mz (fun N => zRb b_ n_ N ∧ zRt b_ n_ N ∧ ze N 81 4 = (zru zpB b_ n_ 0 : Nat) ∧ ze N 81 7 = 0 ∧ ze N 81 1 = 0)) := by
  refine zC_of (L0 := [some (.ref 81)]) md_M_begins (Nat.le_of_ble_eq_true rfl) rfl ?_ zQ0
  have hf : zFr [1, 2, 3, 4, 5, 6, 7, 8, 11] [] Mz Mz := zFr.rf
  have r_1 := ze_r Mz 81 1
  have r_2 := ze_r Mz 81 2
  have r_3 := ze_r Mz 81 3
  have r_4 := ze_r Mz 81 4
  have r_7 := ze_r Mz 81 7
  have r_8 := ze_r Mz 81 8
  obtain ⟨hq1_, hq2_, hq3_, hq4_⟩ := id p0_
  refine zw_aload_n (pc := 0) (n := 0) (x := 81) rfl (zdal_p dlC_M_begins_59 (i := 0) rfl) ?_
  refine zw_aload_n (pc := 1) (n := 0) (x := 81) rfl (zdal_p dlC_M_begins_59 (i := 1) rfl) ?_
  refine zr_getI (hf.w hW) (pc := 2) f_M_124 rfl (zdal_p dlC_M_begins_59 (i := 2) rfl) ?_
  refine zr_putI (hf.w hW) (pc := 5) f_M_138 rfl rfl ⟨by omega, by omega⟩ rfl rfl (zdal_p dlC_M_begins_59 (i := 3) rfl) (fun N1_ hsN1_ hvN1_ => ?_)
  have hf_N1_ : zFr [1, 2, 3, 4, 5, 6, 7, 8, 11] [] Mz N1_ := hf.tr hsN1_ (by decide) (by decide)
  have e1_N1_ : ze N1_ 81 1 = ze Mz 81 1 := hsN1_.e (by decide)
  have r2_N1_ := ze_r N1_ 81 2
  have e3_N1_ : ze N1_ 81 3 = ze Mz 81 3 := hsN1_.e (by decide)
  have e4_N1_ : ze N1_ 81 4 = ze Mz 81 4 := hsN1_.e (by decide)
  have e7_N1_ : ze N1_ 81 7 = ze Mz 81 7 := hsN1_.e (by decide)
  have e8_N1_ : ze N1_ 81 8 = ze Mz 81 8 := hsN1_.e (by decide)
  refine zw_aload_n (pc := 8) (n := 0) (x := 81) rfl (zdal_p dlC_M_begins_59 (i := 4) rfl) ?_
  refine zw_iconst (pc := 9) (v := Int32.ofInt 0) (by decide) (zdal_p dlC_M_begins_59 (i := 5) rfl) ?_
  refine zr_putI (hf_N1_.w hW) (pc := 10) f_M_124 rfl rfl ⟨by omega, by omega⟩ rfl rfl (zdal_p dlC_M_begins_59 (i := 6) rfl) (fun N3_ hsN3_ hvN3_ => ?_)
  have hf_N3_ : zFr [1, 2, 3, 4, 5, 6, 7, 8, 11] [] Mz N3_ := hf_N1_.tr hsN3_ (by decide) (by decide)
  have r1_N3_ := ze_r N3_ 81 1
  have e2_N3_ : ze N3_ 81 2 = ze N1_ 81 2 := hsN3_.e (by decide)
  have e3_N3_ : ze N3_ 81 3 = ze N1_ 81 3 := hsN3_.e (by decide)
  have e4_N3_ : ze N3_ 81 4 = ze N1_ 81 4 := hsN3_.e (by decide)
  have e7_N3_ : ze N3_ 81 7 = ze N1_ 81 7 := hsN3_.e (by decide)
  have e8_N3_ : ze N3_ 81 8 = ze N1_ 81 8 := hsN3_.e (by decide)
  refine zw_aload_n (pc := 13) (n := 0) (x := 81) rfl (zdal_p dlC_M_begins_59 (i := 7) rfl) ?_
  refine zw_iconst (pc := 14) (v := Int32.ofInt 0) (by decide) (zdal_p dlC_M_begins_59 (i := 8) rfl) ?_
  refine zr_putI (hf_N3_.w hW) (pc := 15) f_M_135 rfl rfl ⟨by omega, by omega⟩ rfl rfl (zdal_p dlC_M_begins_59 (i := 9) rfl) (fun N4_ hsN4_ hvN4_ => ?_)
  have hf_N4_ : zFr [1, 2, 3, 4, 5, 6, 7, 8, 11] [] Mz N4_ := hf_N3_.tr hsN4_ (by decide) (by decide)
  have e1_N4_ : ze N4_ 81 1 = ze N3_ 81 1 := hsN4_.e (by decide)
  have e2_N4_ : ze N4_ 81 2 = ze N3_ 81 2 := hsN4_.e (by decide)
  have r3_N4_ := ze_r N4_ 81 3
  have e4_N4_ : ze N4_ 81 4 = ze N3_ 81 4 := hsN4_.e (by decide)
  have e7_N4_ : ze N4_ 81 7 = ze N3_ 81 7 := hsN4_.e (by decide)
  have e8_N4_ : ze N4_ 81 8 = ze N3_ 81 8 := hsN4_.e (by decide)
  refine zw_aload_n (pc := 18) (n := 0) (x := 81) rfl (zdal_p dlC_M_begins_59 (i := 10) rfl) ?_
  refine zw_iconst (pc := 19) (v := Int32.ofInt 0) (by decide) (zdal_p dlC_M_begins_59 (i := 11) rfl) ?_
  refine zr_putI (hf_N4_.w hW) (pc := 20) f_M_172 rfl rfl ⟨by omega, by omega⟩ rfl rfl (zdal_p dlC_M_begins_59 (i := 12) rfl) (fun N5_ hsN5_ hvN5_ => ?_)
  have hf_N5_ : zFr [1, 2, 3, 4, 5, 6, 7, 8, 11] [] Mz N5_ := hf_N4_.tr hsN5_ (by decide) (by decide)
  have e1_N5_ : ze N5_ 81 1 = ze N4_ 81 1 := hsN5_.e (by decide)
  have e2_N5_ : ze N5_ 81 2 = ze N4_ 81 2 := hsN5_.e (by decide)
  have e3_N5_ : ze N5_ 81 3 = ze N4_ 81 3 := hsN5_.e (by decide)
  have e4_N5_ : ze N5_ 81 4 = ze N4_ 81 4 := hsN5_.e (by decide)
  have r7_N5_ := ze_r N5_ 81 7
  have e8_N5_ : ze N5_ 81 8 = ze N4_ 81 8 := hsN5_.e (by decide)
  refine zw_aload_n (pc := 23) (n := 0) (x := 81) rfl (zdal_p dlC_M_begins_59 (i := 13) rfl) ?_
  refine zw_iconst (pc := 24) (v := Int32.ofInt (-1)) (by decide) (zdal_p dlC_M_begins_59 (i := 14) rfl) ?_
  refine zr_putI (hf_N5_.w hW) (pc := 25) f_M_13 rfl rfl ⟨by omega, by omega⟩ rfl rfl (zdal_p dlC_M_begins_59 (i := 15) rfl) (fun N6_ hsN6_ hvN6_ => ?_)
  have hf_N6_ : zFr [1, 2, 3, 4, 5, 6, 7, 8, 11] [] Mz N6_ := hf_N5_.tr hsN6_ (by decide) (by decide)
  have e1_N6_ : ze N6_ 81 1 = ze N5_ 81 1 := hsN6_.e (by decide)
  have e2_N6_ : ze N6_ 81 2 = ze N5_ 81 2 := hsN6_.e (by decide)
  have e3_N6_ : ze N6_ 81 3 = ze N5_ 81 3 := hsN6_.e (by decide)
  have e4_N6_ : ze N6_ 81 4 = ze N5_ 81 4 := hsN6_.e (by decide)
  have e7_N6_ : ze N6_ 81 7 = ze N5_ 81 7 := hsN6_.e (by decide)
  have r8_N6_ := ze_r N6_ 81 8
  have hrb_ : zRb b_ n_ N6_ := ⟨by omega, hq2_, hq3_, fun k_ hk_ => (hf_N6_.ie (by decide) (by decide) k_).trans (hq4_ k_ hk_)⟩
  refine zw_aload_n (pc := 28) (n := 0) (x := 81) rfl (zdal_p dlC_M_begins_59 (i := 16) rfl) ?_
  refine zr_callV (hf_N6_.w hW) hf_N6_.x (pc := 29) [] [] l_M_193 (c_M_goOnF l N6_ (hf_N6_.w hW) b_ n_ hrb_ (show 0 ≤ ze N6_ 81 3 by first | with_reducible assumption | assumption | omega) (show ze N6_ 81 3 ≤ n_ by first | with_reducible assumption | assumption | omega)) rfl rfl rfl (by decide) (Nat.le_of_ble_eq_true rfl) (zdal_p dlC_M_begins_59 (i := 17) rfl) ?_
  rintro _ N7_ ⟨rfl, hsN7_, ⟨hp0_N7_, hp1_N7_⟩⟩
  have hf_N7_ : zFr [1, 2, 3, 4, 5, 6, 7, 8, 11] [] Mz N7_ := hf_N6_.tr hsN7_ (by decide) (by decide)
  have e1_N7_ : ze N7_ 81 1 = ze N6_ 81 1 := hsN7_.e (by decide)
  have e2_N7_ : ze N7_ 81 2 = ze N6_ 81 2 := hsN7_.e (by decide)
  have r3_N7_ := ze_r N7_ 81 3
  have r4_N7_ := ze_r N7_ 81 4
  have e7_N7_ : ze N7_ 81 7 = ze N6_ 81 7 := hsN7_.e (by decide)
  have e8_N7_ : ze N7_ 81 8 = ze N6_ 81 8 := hsN7_.e (by decide)
  have c9_ : zRb b_ n_ N7_ := zRb.fr hsN7_ hrb_ (by decide) (by decide)
  show zW l m_M_begins (zn Mz + 0, zw Mz + 0) N7_ 32 [some (.ref 81)] [] _
  have hq0_ := hp0_N7_
  rw [show (ze N6_ 81 3).toNat = 0 by omega] at hq0_
  exact zr_vret (pc := 32) rfl hf_N7_ ⟨c9_, hp1_N7_, (show ze N7_ 81 4 = (zru zpB b_ n_ 0 : Nat) by exact hq0_), (show ze N7_ 81 7 = 0 by first | with_reducible assumption | assumption | omega), (show ze N7_ 81 1 = 0 by first | with_reducible assumption | assumption | omega)⟩ (zdal_p dlC_M_begins_59 (i := 18) rfl)
set_option maxHeartbeats 4000000 in
theorem c_M_fourF (l : Launch) (Mz : zMem) (hW : zMt Mz) (a0_ : Int) (ha0_a : -2147483648 ≤ a0_) (ha0_b : a0_ < 2147483648) (p0_ : 0 ≤ ze Mz 81 1) (p1_ : ze Mz 81 1 ≤ 696) : zC l m_M_four 0 0 [.ref 81, .int (Int32.ofInt a0_)] Mz (zpV [1] [82] Mz (fun N => ze N 81 1 = ze Mz 81 1 + 4 ∧ (∀ j : Nat, ze N 82 j = zap (fun j => ze Mz 82 j) (ze Mz 81 1) a0_ j))) := by
  refine zC_of (L0 := [some (.ref 81), some (.int (Int32.ofInt a0_)), none]) md_M_four (Nat.le_of_ble_eq_true rfl) rfl ?_ zQ0
  have hf : zFr [1] [82] Mz Mz := zFr.rf
  have r_1 := ze_r Mz 81 1
  refine zw_bipush (pc := 0) (v := Int32.ofInt 24) (by decide) (zdal_p dlC_M_four_54 (i := 0) rfl) ?_
  refine zw_istore_n (pc := 2) (i := 2) (L2 := [some (.ref 81), some (.int (Int32.ofInt a0_)), some (.int (Int32.ofInt 24))]) rfl (by decide) rfl (zdal_p dlC_M_four_54 (i := 1) rfl) ?_
  have lp_3 : ∀ (n : Nat) (u1_ : Int) (hu1_a : -2147483648 ≤ u1_) (hu1_b : u1_ < 2147483648) (N2_ : zMem) (hs3_ : zFr [1] [82] Mz N2_) (i4_ : -8 ≤ u1_) (i5_ : u1_ ≤ 24) (i6_ : 8 * (ze N2_ 81 1 - ze Mz 81 1) = 24 - u1_) (i7_ : zApI 82 (ze Mz 81 1) (ze N2_ 81 1) a0_ Mz N2_), (u1_ + 8).toNat < n → zW l m_M_four (zn Mz + 0, zw Mz + 0) N2_ 3 [some (.ref 81), some (.int (Int32.ofInt a0_)), some (.int (Int32.ofInt u1_))] [] (zpV [1] [82] Mz (fun N => ze N 81 1 = ze Mz 81 1 + 4 ∧ (∀ j : Nat, ze N 82 j = zap (fun j => ze Mz 82 j) (ze Mz 81 1) a0_ j))) := by
    intro n
    induction n with
    | zero =>
      intro u1_ hu1_a hu1_b N2_ hs3_ i4_ i5_ i6_ i7_ h0
      exact absurd h0 (Nat.not_lt_zero _)
    | succ n ih_3 =>
      intro u1_ hu1_a hu1_b N2_ hs3_ i4_ i5_ i6_ i7_ hlt_3
      have hf_N2_ : zFr [1] [82] Mz N2_ := hf.tr hs3_ (by decide) (by decide)
      have r1_N2_ := ze_r N2_ 81 1
      have hap_ := (show zApI 82 (ze Mz 81 1) (ze N2_ 81 1) a0_ Mz N2_ by first | with_reducible assumption | assumption)
      refine zw_iload_n (pc := 3) (n := 2) (x := Int32.ofInt u1_) rfl (zdal_p dlC_M_four_54 (i := 2) rfl) ?_
      refine zr_if_lt (pc := 4) (tgt := 39) ⟨hu1_a, hu1_b⟩ (by decide) (zdal_p dlC_M_four_54 (i := 3) rfl) (fun hc_4 => ?_) (fun hc_4 => ?_)
      · skip
        exact zr_vret (pc := 39) rfl hf_N2_ ⟨(show ze N2_ 81 1 = ze Mz 81 1 + 4 by first | with_reducible assumption | assumption | omega), (show (∀ j : Nat, ze N2_ 82 j = zap (fun j => ze Mz 82 j) (ze Mz 81 1) a0_ j) by exact zApI_e hap_ (by omega))⟩ (zdal_p dlC_M_four_54 (i := 22) rfl)
      · skip
        refine zw_aload_n (pc := 7) (n := 0) (x := 81) rfl (zdal_p dlC_M_four_54 (i := 4) rfl) ?_
        refine zr_getF (r := 82) (hf_N2_.w hW) (pc := 8) f_M_7 rfl (zh_82 (hf_N2_.w hW)).1 (zdal_p dlC_M_four_54 (i := 5) rfl) ?_
        refine zw_aload_n (pc := 11) (n := 0) (x := 81) rfl (zdal_p dlC_M_four_54 (i := 6) rfl) ?_
        refine zr_getI (hf_N2_.w hW) (pc := 12) f_M_124 rfl (zdal_p dlC_M_four_54 (i := 7) rfl) ?_
        refine zw_iload_n (pc := 15) (n := 1) (x := Int32.ofInt a0_) rfl (zdal_p dlC_M_four_54 (i := 8) rfl) ?_
        refine zw_iload_n (pc := 16) (n := 2) (x := Int32.ofInt u1_) rfl (zdal_p dlC_M_four_54 (i := 9) rfl) ?_
        refine zr_ishr (pc := 17) (zdal_p dlC_M_four_54 (i := 10) rfl) ?_
        have hr8_ := zshr_r a0_ u1_
        refine zw_sipush (pc := 18) (v := Int32.ofInt 255) (by decide) (zdal_p dlC_M_four_54 (i := 11) rfl) ?_
        refine zr_iand (pc := 21) (zdal_p dlC_M_four_54 (i := 12) rfl) ?_
        have hr9_ := zand_r (zshr a0_ u1_) 255
        refine zr_iast (pc := 22) (zh_82 (hf_N2_.w hW)).2 (by decide) (by decide) (by omega) (by omega) (zdal_p dlC_M_four_54 (i := 13) rfl) (fun N10_ hN10_ hsN10_ => ?_)
        have hf_N10_ : zFr [1] [82] Mz N10_ := hf_N2_.tr hsN10_ (by decide) (by decide)
        have hb0_N10_ : zFr [1] [82] Mz N10_ := hs3_.tr hsN10_ (by decide) (by decide)
        have e1_N10_ : ze N10_ 81 1 = ze N2_ 81 1 := hsN10_.e (by decide)
        refine zw_aload_n (pc := 23) (n := 0) (x := 81) rfl (zdal_p dlC_M_four_54 (i := 14) rfl) ?_
        refine zw_dup (pc := 24) rfl (zdal_p dlC_M_four_54 (i := 15) rfl) ?_
        refine zr_getI (hf_N10_.w hW) (pc := 25) f_M_124 rfl (zdal_p dlC_M_four_54 (i := 16) rfl) ?_
        refine zw_iconst (pc := 28) (v := Int32.ofInt 1) (by decide) (zdal_p dlC_M_four_54 (i := 17) rfl) ?_
        refine zr_iadd (pc := 29) (zdal_p dlC_M_four_54 (i := 18) rfl) ?_
        refine zr_putI (hf_N10_.w hW) (pc := 30) f_M_124 rfl rfl ⟨by omega, by omega⟩ rfl rfl (zdal_p dlC_M_four_54 (i := 19) rfl) (fun N11_ hsN11_ hvN11_ => ?_)
        have hf_N11_ : zFr [1] [82] Mz N11_ := hf_N10_.tr hsN11_ (by decide) (by decide)
        have hb0_N11_ : zFr [1] [82] Mz N11_ := hb0_N10_.tr hsN11_ (by decide) (by decide)
        have r1_N11_ := ze_r N11_ 81 1
        have hap2_ := zApI_s (P := N10_) (Q := N11_) hap_ (by omega) (by omega) rfl (by omega) ⟨by omega, by omega⟩ hN10_ (fun j_ => hsN11_.ie (by decide) (by decide) j_)
        rw [show ze N2_ 81 1 + 1 = ze N11_ 81 1 by omega] at hap2_
        refine zr_iinc (pc := 33) (i := 2) (a := u1_) (n := -8) (L2 := [some (.ref 81), some (.int (Int32.ofInt a0_)), some (.int (Int32.ofInt (u1_ + (-8))))]) rfl (by decide) rfl (zdal_p dlC_M_four_54 (i := 20) rfl) ?_
        refine zw_goto (pc := 36) (tgt := 3) (by decide) (zdal_p dlC_M_four_54 (i := 21) rfl) ?_
        exact ih_3 (u1_ + (-8)) (by omega) (by omega) N11_ hb0_N11_ (show -8 ≤ (u1_ + (-8)) by first | with_reducible assumption | assumption | omega) (show (u1_ + (-8)) ≤ 24 by first | with_reducible assumption | assumption | omega) (show 8 * (ze N11_ 81 1 - ze Mz 81 1) = 24 - (u1_ + (-8)) by first | with_reducible assumption | assumption | omega) (show zApI 82 (ze Mz 81 1) (ze N11_ 81 1) a0_ Mz N11_ by exact hap2_) (by omega)
  exact lp_3 _ 24 (by decide) (by decide) Mz zFr.rf (show -8 ≤ (24 : Int) by first | with_reducible assumption | assumption | omega) (show (24 : Int) ≤ 24 by first | with_reducible assumption | assumption | omega) (show 8 * (ze Mz 81 1 - ze Mz 81 1) = 24 - (24 : Int) by first | with_reducible assumption | assumption | omega) (show zApI 82 (ze Mz 81 1) (ze Mz 81 1) a0_ Mz Mz by exact zApI_0) (Nat.lt_succ_self _)
set_option maxHeartbeats 4000000 in
theorem c_M_feedF (l : Launch) (Mz : zMem) (hW : zMt Mz) (a0_ : Int) (ha0_a : -2147483648 ≤ a0_) (ha0_b : a0_ < 2147483648) (a1_ : Int) (ha1_a : -2147483648 ≤ a1_) (ha1_b : a1_ < 2147483648) (a2_ : Int) (ha2_a : -2147483648 ≤ a2_) (ha2_b : a2_ < 2147483648) (a3_ : Int) (ha3_a : -2147483648 ≤ a3_) (ha3_b : a3_ < 2147483648) (a4_ : Int) (ha4_a : -2147483648 ≤ a4_) (ha4_b : a4_ < 2147483648) (p0_ : 0 ≤ ze Mz 81 1) (p1_ : ze Mz 81 1 ≤ 700) : zC l m_M_feed 0 0 [.ref 81, .int (Int32.ofInt a0_), .int (Int32.ofInt a1_), .int (Int32.ofInt a2_), .int (Int32.ofInt a3_), .int (Int32.ofInt a4_)] Mz (zpI [1] [82] Mz (fun v N => (((700 < ze Mz 81 1 + 20 ∧ v = -1 ∧ ze N 81 1 = ze Mz 81 1 ∧ (∀ j : Nat, ze N 82 j = ze Mz 82 j)) ∨ (ze Mz 81 1 + 20 ≤ 700 ∧ v = ze Mz 81 1 + 20 ∧ ze N 81 1 = ze Mz 81 1 + 20 ∧ (∀ j : Nat, ze N 82 j = zfd5 (fun j => ze Mz 82 j) (ze Mz 81 1) a0_ a1_ a2_ a3_ a4_ j)))))) := by
  refine zC_of (L0 := [some (.ref 81), some (.int (Int32.ofInt a0_)), some (.int (Int32.ofInt a1_)), some (.int (Int32.ofInt a2_)), some (.int (Int32.ofInt a3_)), some (.int (Int32.ofInt a4_))]) md_M_feed (Nat.le_of_ble_eq_true rfl) rfl ?_ zQ0
  have hf : zFr [1] [82] Mz Mz := zFr.rf
  have r_1 := ze_r Mz 81 1
  refine zw_aload_n (pc := 0) (n := 0) (x := 81) rfl (zdal_p dlC_M_feed_52 (i := 0) rfl) ?_
  refine zr_getI (hf.w hW) (pc := 1) f_M_124 rfl (zdal_p dlC_M_feed_52 (i := 1) rfl) ?_
  refine zw_bipush (pc := 4) (v := Int32.ofInt 20) (by decide) (zdal_p dlC_M_feed_52 (i := 2) rfl) ?_
  refine zr_iadd (pc := 6) (zdal_p dlC_M_feed_52 (i := 3) rfl) ?_
  refine zw_sipush (pc := 7) (v := Int32.ofInt 700) (by decide) (zdal_p dlC_M_feed_52 (i := 4) rfl) ?_
  refine zr_icmp_le (pc := 10) (tgt := 15) ⟨(by omega), (by omega)⟩ ⟨(by decide), (by decide)⟩ (by decide) (zdal_p dlC_M_feed_52 (i := 5) rfl) (fun hc_10 => ?_) (fun hc_10 => ?_)
  · skip
    refine zw_aload_n (pc := 15) (n := 0) (x := 81) rfl (zdal_p dlC_M_feed_52 (i := 8) rfl) ?_
    refine zw_iload_n (pc := 16) (n := 1) (x := Int32.ofInt a0_) rfl (zdal_p dlC_M_feed_52 (i := 9) rfl) ?_
    refine zr_callV (hf.w hW) hf.x (pc := 17) [.int (Int32.ofInt a0_)] [] l_M_127 (c_M_fourF l Mz (hf.w hW) a0_ ha0_a ha0_b (show 0 ≤ ze Mz 81 1 by first | with_reducible assumption | assumption | omega) (show ze Mz 81 1 ≤ 696 by first | with_reducible assumption | assumption | omega)) rfl rfl rfl (by decide) (Nat.le_of_ble_eq_true rfl) (zdal_p dlC_M_feed_52 (i := 10) rfl) ?_
    rintro _ N1_ ⟨rfl, hsN1_, ⟨hp0_N1_, hp1_N1_⟩⟩
    have hf_N1_ : zFr [1] [82] Mz N1_ := hf.tr hsN1_ (by decide) (by decide)
    have r1_N1_ := ze_r N1_ 81 1
    show zW l m_M_feed (zn Mz + 0, zw Mz + 0) N1_ 20 [some (.ref 81), some (.int (Int32.ofInt a0_)), some (.int (Int32.ofInt a1_)), some (.int (Int32.ofInt a2_)), some (.int (Int32.ofInt a3_)), some (.int (Int32.ofInt a4_))] [] _
    have hz1_ := funext hp1_N1_
    refine zw_aload_n (pc := 20) (n := 0) (x := 81) rfl (zdal_p dlC_M_feed_52 (i := 11) rfl) ?_
    refine zw_iload_n (pc := 21) (n := 2) (x := Int32.ofInt a1_) rfl (zdal_p dlC_M_feed_52 (i := 12) rfl) ?_
    refine zr_callV (hf_N1_.w hW) hf_N1_.x (pc := 22) [.int (Int32.ofInt a1_)] [] l_M_127 (c_M_fourF l N1_ (hf_N1_.w hW) a1_ ha1_a ha1_b (show 0 ≤ ze N1_ 81 1 by first | with_reducible assumption | assumption | omega) (show ze N1_ 81 1 ≤ 696 by first | with_reducible assumption | assumption | omega)) rfl rfl rfl (by decide) (Nat.le_of_ble_eq_true rfl) (zdal_p dlC_M_feed_52 (i := 13) rfl) ?_
    rintro _ N3_ ⟨rfl, hsN3_, ⟨hp0_N3_, hp1_N3_⟩⟩
    have hf_N3_ : zFr [1] [82] Mz N3_ := hf_N1_.tr hsN3_ (by decide) (by decide)
    have r1_N3_ := ze_r N3_ 81 1
    show zW l m_M_feed (zn Mz + 0, zw Mz + 0) N3_ 25 [some (.ref 81), some (.int (Int32.ofInt a0_)), some (.int (Int32.ofInt a1_)), some (.int (Int32.ofInt a2_)), some (.int (Int32.ofInt a3_)), some (.int (Int32.ofInt a4_))] [] _
    have hz2_ := funext hp1_N3_
    rw [show ze N1_ 81 1 = ze Mz 81 1 + 4 by omega, hz1_] at hz2_
    refine zw_aload_n (pc := 25) (n := 0) (x := 81) rfl (zdal_p dlC_M_feed_52 (i := 14) rfl) ?_
    refine zw_iload_n (pc := 26) (n := 3) (x := Int32.ofInt a2_) rfl (zdal_p dlC_M_feed_52 (i := 15) rfl) ?_
    refine zr_callV (hf_N3_.w hW) hf_N3_.x (pc := 27) [.int (Int32.ofInt a2_)] [] l_M_127 (c_M_fourF l N3_ (hf_N3_.w hW) a2_ ha2_a ha2_b (show 0 ≤ ze N3_ 81 1 by first | with_reducible assumption | assumption | omega) (show ze N3_ 81 1 ≤ 696 by first | with_reducible assumption | assumption | omega)) rfl rfl rfl (by decide) (Nat.le_of_ble_eq_true rfl) (zdal_p dlC_M_feed_52 (i := 16) rfl) ?_
    rintro _ N5_ ⟨rfl, hsN5_, ⟨hp0_N5_, hp1_N5_⟩⟩
    have hf_N5_ : zFr [1] [82] Mz N5_ := hf_N3_.tr hsN5_ (by decide) (by decide)
    have r1_N5_ := ze_r N5_ 81 1
    show zW l m_M_feed (zn Mz + 0, zw Mz + 0) N5_ 30 [some (.ref 81), some (.int (Int32.ofInt a0_)), some (.int (Int32.ofInt a1_)), some (.int (Int32.ofInt a2_)), some (.int (Int32.ofInt a3_)), some (.int (Int32.ofInt a4_))] [] _
    have hz3_ := funext hp1_N5_
    rw [show ze N3_ 81 1 = ze Mz 81 1 + 8 by omega, hz2_] at hz3_
    refine zw_aload_n (pc := 30) (n := 0) (x := 81) rfl (zdal_p dlC_M_feed_52 (i := 17) rfl) ?_
    refine zw_iload (pc := 31) (i := 4) (x := Int32.ofInt a3_) rfl (zdal_p dlC_M_feed_52 (i := 18) rfl) ?_
    refine zr_callV (hf_N5_.w hW) hf_N5_.x (pc := 33) [.int (Int32.ofInt a3_)] [] l_M_127 (c_M_fourF l N5_ (hf_N5_.w hW) a3_ ha3_a ha3_b (show 0 ≤ ze N5_ 81 1 by first | with_reducible assumption | assumption | omega) (show ze N5_ 81 1 ≤ 696 by first | with_reducible assumption | assumption | omega)) rfl rfl rfl (by decide) (Nat.le_of_ble_eq_true rfl) (zdal_p dlC_M_feed_52 (i := 19) rfl) ?_
    rintro _ N7_ ⟨rfl, hsN7_, ⟨hp0_N7_, hp1_N7_⟩⟩
    have hf_N7_ : zFr [1] [82] Mz N7_ := hf_N5_.tr hsN7_ (by decide) (by decide)
    have r1_N7_ := ze_r N7_ 81 1
    show zW l m_M_feed (zn Mz + 0, zw Mz + 0) N7_ 36 [some (.ref 81), some (.int (Int32.ofInt a0_)), some (.int (Int32.ofInt a1_)), some (.int (Int32.ofInt a2_)), some (.int (Int32.ofInt a3_)), some (.int (Int32.ofInt a4_))] [] _
    have hz4_ := funext hp1_N7_
    rw [show ze N5_ 81 1 = ze Mz 81 1 + 12 by omega, hz3_] at hz4_
    refine zw_aload_n (pc := 36) (n := 0) (x := 81) rfl (zdal_p dlC_M_feed_52 (i := 20) rfl) ?_
    refine zw_iload (pc := 37) (i := 5) (x := Int32.ofInt a4_) rfl (zdal_p dlC_M_feed_52 (i := 21) rfl) ?_
    refine zr_callV (hf_N7_.w hW) hf_N7_.x (pc := 39) [.int (Int32.ofInt a4_)] [] l_M_127 (c_M_fourF l N7_ (hf_N7_.w hW) a4_ ha4_a ha4_b (show 0 ≤ ze N7_ 81 1 by first | with_reducible assumption | assumption | omega) (show ze N7_ 81 1 ≤ 696 by first | with_reducible assumption | assumption | omega)) rfl rfl rfl (by decide) (Nat.le_of_ble_eq_true rfl) (zdal_p dlC_M_feed_52 (i := 22) rfl) ?_
    rintro _ N9_ ⟨rfl, hsN9_, ⟨hp0_N9_, hp1_N9_⟩⟩
    have hf_N9_ : zFr [1] [82] Mz N9_ := hf_N7_.tr hsN9_ (by decide) (by decide)
    have r1_N9_ := ze_r N9_ 81 1
    show zW l m_M_feed (zn Mz + 0, zw Mz + 0) N9_ 42 [some (.ref 81), some (.int (Int32.ofInt a0_)), some (.int (Int32.ofInt a1_)), some (.int (Int32.ofInt a2_)), some (.int (Int32.ofInt a3_)), some (.int (Int32.ofInt a4_))] [] _
    have hz5_ := funext hp1_N9_
    rw [show ze N7_ 81 1 = ze Mz 81 1 + 16 by omega, hz4_] at hz5_
    refine zw_aload_n (pc := 42) (n := 0) (x := 81) rfl (zdal_p dlC_M_feed_52 (i := 23) rfl) ?_
    refine zr_getI (hf_N9_.w hW) (pc := 43) f_M_124 rfl (zdal_p dlC_M_feed_53 (i := 0) rfl) ?_
    exact zr_iret (pc := 46) (ty := .int) rfl rfl ⟨by omega, by omega⟩ hf_N9_ (show ((700 < ze Mz 81 1 + 20 ∧ (ze N9_ 81 1) = -1 ∧ ze N9_ 81 1 = ze Mz 81 1 ∧ (∀ j : Nat, ze N9_ 82 j = ze Mz 82 j)) ∨ (ze Mz 81 1 + 20 ≤ 700 ∧ (ze N9_ 81 1) = ze Mz 81 1 + 20 ∧ ze N9_ 81 1 = ze Mz 81 1 + 20 ∧ (∀ j : Nat, ze N9_ 82 j = zfd5 (fun j => ze Mz 82 j) (ze Mz 81 1) a0_ a1_ a2_ a3_ a4_ j))) by first | exact Or.inl ⟨by omega, by omega, rfl, fun j => rfl⟩ | exact Or.inr ⟨by omega, by omega, by omega, fun j => congrFun hz5_ j⟩) (zdal_p dlC_M_feed_53 (i := 1) rfl)
  · skip
    refine zw_iconst (pc := 13) (v := Int32.ofInt (-1)) (by decide) (zdal_p dlC_M_feed_52 (i := 6) rfl) ?_
    exact zr_iret (pc := 14) (ty := .int) rfl rfl ⟨by omega, by omega⟩ hf (show ((700 < ze Mz 81 1 + 20 ∧ ((-1)) = -1 ∧ ze Mz 81 1 = ze Mz 81 1 ∧ (∀ j : Nat, ze Mz 82 j = ze Mz 82 j)) ∨ (ze Mz 81 1 + 20 ≤ 700 ∧ ((-1)) = ze Mz 81 1 + 20 ∧ ze Mz 81 1 = ze Mz 81 1 + 20 ∧ (∀ j : Nat, ze Mz 82 j = zfd5 (fun j => ze Mz 82 j) (ze Mz 81 1) a0_ a1_ a2_ a3_ a4_ j))) by first | exact Or.inl ⟨by omega, by omega, rfl, fun j => rfl⟩ | exact Or.inr ⟨by omega, by omega, by omega, fun j => congrFun hz5_ j⟩) (zdal_p dlC_M_feed_52 (i := 7) rfl)
theorem zFc.sp {d : Nat} {FA : List (Nat × Nat)} {CA : List Nat} {FR : List (Nat × Nat)} {CR : List Nat} {M N : zMem} {q j r : Nat} (h : zFc d FA CA FR CR M N) (h2 : zf M q j = some r) : zf N q j = some r := by
  rw [h.2.2.1]
  exact h2
theorem zNm_z {F d : Nat} {K : Nat → Nat → Int} {M : zMem} (h : ze M (d + 0) 6 = 0) : zNm [] F K d M := by
  refine ⟨by omega, ?_, fun k hk => absurd hk (by omega)⟩
  unfold zNl
  rw [h]
  rfl
def zSwp (d d2 : Nat) (M N : zMem) : Prop := N.1 = M.1 ∧ zsh N = zsh M ∧ (∀ q, 81 ≤ q → zi N q = zi M q ∧ zj N q = zj M q ∧ zf N q = zf M q) ∧ (zf N = zf M ∨ (zf N 0 2 = some (d + 0) ∧ zf N 0 3 = some (d2 + 0) ∧ ∀ q j, ¬ (q = 0 ∧ (j = 2 ∨ j = 3)) → zf N q j = zf M q j))
theorem zSwp_0 {d d2 : Nat} {FA : List (Nat × Nat)} {CA : List Nat} {FR : List (Nat × Nat)} {CR : List Nat} {M N : zMem} (h : zFc d FA CA FR CR M N) (hW : zKW d M) (hc : (∀ x ∈ FA, x.1 < 81) ∧ ∀ x ∈ CA, x < 81) : zSwp d d2 M N := by
  have hd := hW.2.1
  refine ⟨h.1, h.2.1, fun q hq => ?_, Or.inl h.2.2.1⟩
  have h2 := h.o (q := q) (Or.inr (by omega)) ⟨fun z => by have := hc.2 q z; omega, fun x hx e => by have := hc.1 x hx; omega⟩
  exact ⟨h2.1, h2.2, by rw [h.2.2.1]⟩
set_option maxHeartbeats 4000000 in
theorem u_Tokens_appendF (l : Launch) (d_ : Nat) (Mz : zMem) (hW : zKW d_ Mz) (a0_ : Int) (ha0_a : -2147483648 ≤ a0_) (ha0_b : a0_ < 2147483648) (p0_ : 0 ≤ ze Mz 1 1) (p1_ : ze Mz 1 1 ≤ 696) : zC l m_Tokens_append 0 0 [.ref 1, .int (Int32.ofInt a0_)] Mz (zqcV d_ [(1, 1)] [3] [] [] Mz (fun N => ze N 1 1 = ze Mz 1 1 + 4 ∧ (∀ j : Nat, ze N 3 j = zap (fun j => ze Mz 3 j) (ze Mz 1 1) a0_ j))) := by
  refine zC_of (L0 := [some (.ref 1), some (.int (Int32.ofInt a0_)), none]) md_Tokens_append (Nat.le_of_ble_eq_true rfl) rfl ?_ zQ0
  have hf : zFc d_ [(1, 1)] [3] [] [] Mz Mz := zFc.rf
  have r_A1_1 := ze_r Mz 1 1
  refine zw_bipush (pc := 0) (v := Int32.ofInt 24) (by decide) (zdal_p dlA_Tokens_append_65 (i := 0) rfl) ?_
  refine zw_istore_n (pc := 2) (i := 2) (L2 := [some (.ref 1), some (.int (Int32.ofInt a0_)), some (.int (Int32.ofInt 24))]) rfl (by decide) rfl (zdal_p dlA_Tokens_append_65 (i := 1) rfl) ?_
  have lp_3 : ∀ (n : Nat) (u1_ : Int) (hu1_a : -2147483648 ≤ u1_) (hu1_b : u1_ < 2147483648) (N2_ : zMem) (hs3_ : zFc d_ [(1, 1)] [3] [] [] Mz N2_) (i4_ : -8 ≤ u1_) (i5_ : u1_ ≤ 24) (i6_ : 8 * (ze N2_ 1 1 - ze Mz 1 1) = 24 - u1_) (i7_ : zApI 3 (ze Mz 1 1) (ze N2_ 1 1) a0_ Mz N2_), (u1_ + 8).toNat < n → zW l m_Tokens_append (zn Mz + 0, zw Mz + 0) N2_ 3 [some (.ref 1), some (.int (Int32.ofInt a0_)), some (.int (Int32.ofInt u1_))] [] (zqcV d_ [(1, 1)] [3] [] [] Mz (fun N => ze N 1 1 = ze Mz 1 1 + 4 ∧ (∀ j : Nat, ze N 3 j = zap (fun j => ze Mz 3 j) (ze Mz 1 1) a0_ j))) := by
    intro n
    induction n with
    | zero =>
      intro u1_ hu1_a hu1_b N2_ hs3_ i4_ i5_ i6_ i7_ h0
      exact absurd h0 (Nat.not_lt_zero _)
    | succ n ih_3 =>
      intro u1_ hu1_a hu1_b N2_ hs3_ i4_ i5_ i6_ i7_ hlt_3
      have hf_N2_ : zFc d_ [(1, 1)] [3] [] [] Mz N2_ := hf.tr hs3_ (by decide) (by decide) (by decide) (by decide)
      have rA1_1_N2_ := ze_r N2_ 1 1
      have hap_ := (show zApI 3 (ze Mz 1 1) (ze N2_ 1 1) a0_ Mz N2_ by first | with_reducible assumption | assumption)
      refine zw_iload_n (pc := 3) (n := 2) (x := Int32.ofInt u1_) rfl (zdal_p dlA_Tokens_append_65 (i := 2) rfl) ?_
      refine zr_if_lt (pc := 4) (tgt := 41) ⟨hu1_a, hu1_b⟩ (by decide) (zdal_p dlA_Tokens_append_65 (i := 3) rfl) (fun hc_4 => ?_) (fun hc_4 => ?_)
      · skip
        exact zk_vret (pc := 41) rfl hf_N2_ ⟨(show ze N2_ 1 1 = ze Mz 1 1 + 4 by first | with_reducible assumption | assumption | omega), (show (∀ j : Nat, ze N2_ 3 j = zap (fun j => ze Mz 3 j) (ze Mz 1 1) a0_ j) by exact zApI_e hap_ (by omega))⟩ (zdal_p dlA_Tokens_append_65 (i := 22) rfl)
      · skip
        refine zw_aload_n (pc := 7) (n := 0) (x := 1) rfl (zdal_p dlA_Tokens_append_65 (i := 4) rfl) ?_
        refine zw_getF (pc := 8) f_Tokens_14 rfl ((hf_N2_.w hW).ka (o := 1) (by decide)) ((hf_N2_.w hW).la (o := 1) (s := 0) (r := 2) (by decide)) (zdal_p dlA_Tokens_append_65 (i := 5) rfl) ?_
        refine zw_aload_n (pc := 11) (n := 0) (x := 1) rfl (zdal_p dlA_Tokens_append_65 (i := 6) rfl) ?_
        refine zk_getI (pc := 12) f_Tokens_20 rfl ((hf_N2_.w hW).ka (o := 1) (by decide)) (zdal_p dlA_Tokens_append_65 (i := 7) rfl) ?_
        refine zw_iload_n (pc := 15) (n := 1) (x := Int32.ofInt a0_) rfl (zdal_p dlA_Tokens_append_65 (i := 8) rfl) ?_
        refine zw_iload_n (pc := 16) (n := 2) (x := Int32.ofInt u1_) rfl (zdal_p dlA_Tokens_append_65 (i := 9) rfl) ?_
        refine zr_ishr (pc := 17) (zdal_p dlA_Tokens_append_65 (i := 10) rfl) ?_
        have hr8_ := zshr_r a0_ u1_
        refine zw_sipush (pc := 18) (v := Int32.ofInt 255) (by decide) (zdal_p dlA_Tokens_append_65 (i := 11) rfl) ?_
        refine zr_iand (pc := 21) (zdal_p dlA_Tokens_append_65 (i := 12) rfl) ?_
        have hr9_ := zand_r (zshr a0_ u1_) 255
        refine zk_stA hf_N2_.x (hf_N2_.w hW) (pc := 22) (by decide) l_Tokens_24 ((hf_N2_.w hW).ka (o := 2) (by decide)) ((hf_N2_.w hW).la (o := 2) (s := 0) (r := 3) (by decide)) ((hf_N2_.w hW).ra (o := 3) (t := 1) (n := 700) (by decide)) (by decide) (by omega) (by omega) (by decide) (Nat.le_of_ble_eq_true rfl) (zdal_p dlA_Tokens_append_65 (i := 13) rfl) (fun N10_ hN10_ hsN10_ => ?_)
        have hf_N10_ : zFc d_ [(1, 1)] [3] [] [] Mz N10_ := hf_N2_.tr hsN10_ (by decide) (by decide) (by decide) (by decide)
        have hb0_N10_ : zFc d_ [(1, 1)] [3] [] [] Mz N10_ := hs3_.tr hsN10_ (by decide) (by decide) (by decide) (by decide)
        have eA1_1_N10_ : ze N10_ 1 1 = ze N2_ 1 1 := hsN10_.ea (hf_N2_.w hW) (by decide)
        refine zw_aload_n (pc := 25) (n := 0) (x := 1) rfl (zdal_p dlA_Tokens_append_65 (i := 14) rfl) ?_
        refine zw_dup (pc := 26) rfl (zdal_p dlA_Tokens_append_65 (i := 15) rfl) ?_
        refine zk_getI (pc := 27) f_Tokens_20 rfl ((hf_N10_.w hW).ka (o := 1) (by decide)) (zdal_p dlA_Tokens_append_65 (i := 16) rfl) ?_
        refine zw_iconst (pc := 30) (v := Int32.ofInt 1) (by decide) (zdal_p dlA_Tokens_append_65 (i := 17) rfl) ?_
        refine zr_iadd (pc := 31) (zdal_p dlA_Tokens_append_65 (i := 18) rfl) ?_
        refine zk_putA (pc := 32) (hf_N10_.w hW) (by decide) f_Tokens_20 rfl rfl ((hf_N10_.w hW).ka (o := 1) (by decide)) ⟨by omega, by omega⟩ rfl rfl (zdal_p dlA_Tokens_append_65 (i := 19) rfl) (fun N11_ hsN11_ hvN11_ => ?_)
        have hf_N11_ : zFc d_ [(1, 1)] [3] [] [] Mz N11_ := hf_N10_.tr hsN11_ (by decide) (by decide) (by decide) (by decide)
        have hb0_N11_ : zFc d_ [(1, 1)] [3] [] [] Mz N11_ := hb0_N10_.tr hsN11_ (by decide) (by decide) (by decide) (by decide)
        have rA1_1_N11_ := ze_r N11_ 1 1
        have hap2_ := zApI_s (P := N10_) (Q := N11_) hap_ (by omega) (by omega) rfl (by omega) ⟨by omega, by omega⟩ hN10_ (fun j_ => hsN11_.ra (hf_N10_.w hW) (by decide) j_)
        rw [show ze N2_ 1 1 + 1 = ze N11_ 1 1 by omega] at hap2_
        refine zr_iinc (pc := 35) (i := 2) (a := u1_) (n := -8) (L2 := [some (.ref 1), some (.int (Int32.ofInt a0_)), some (.int (Int32.ofInt (u1_ + (-8))))]) rfl (by decide) rfl (zdal_p dlA_Tokens_append_65 (i := 20) rfl) ?_
        refine zw_goto (pc := 38) (tgt := 3) (by decide) (zdal_p dlA_Tokens_append_65 (i := 21) rfl) ?_
        exact ih_3 (u1_ + (-8)) (by omega) (by omega) N11_ hb0_N11_ (show -8 ≤ (u1_ + (-8)) by first | with_reducible assumption | assumption | omega) (show (u1_ + (-8)) ≤ 24 by first | with_reducible assumption | assumption | omega) (show 8 * (ze N11_ 1 1 - ze Mz 1 1) = 24 - (u1_ + (-8)) by first | with_reducible assumption | assumption | omega) (show zApI 3 (ze Mz 1 1) (ze N11_ 1 1) a0_ Mz N11_ by exact hap2_) (by omega)
  exact lp_3 _ 24 (by decide) (by decide) Mz zFc.rf (show -8 ≤ (24 : Int) by first | with_reducible assumption | assumption | omega) (show (24 : Int) ≤ 24 by first | with_reducible assumption | assumption | omega) (show 8 * (ze Mz 1 1 - ze Mz 1 1) = 24 - (24 : Int) by first | with_reducible assumption | assumption | omega) (show zApI 3 (ze Mz 1 1) (ze Mz 1 1) a0_ Mz Mz by exact zApI_0) (Nat.lt_succ_self _)
set_option maxHeartbeats 4000000 in
theorem u_Reader_begin (l : Launch) (d_ : Nat) (Mz : zMem) (hW : zKW d_ Mz) (b_ : Nat → Int) (n_ : Nat) (p0_ : zYb b_ n_ Mz) : zC l m_Reader_begin 0 0 [.ref 4] Mz (zqcV d_ [(1, 2), (1, 3), (1, 4), (1, 5), (4, 2), (4, 3)] [] [] [] Mz (fun N => ze N 1 2 = (zru zpB b_ n_ 0 : Nat) ∧ zYt b_ n_ N)) := by
  refine zC_of (L0 := [some (.ref 4)]) md_Reader_begin (Nat.le_of_ble_eq_true rfl) rfl ?_ zQ0
  have hf : zFc d_ [(1, 2), (1, 3), (1, 4), (1, 5), (4, 2), (4, 3)] [] [] [] Mz Mz := zFc.rf
  have r_A1_2 := ze_r Mz 1 2
  have r_A4_2 := ze_r Mz 4 2
  have r_A4_3 := ze_r Mz 4 3
  refine zw_aload_n (pc := 0) (n := 0) (x := 4) rfl (zdal_p dlA_Reader_begin_70 (i := 0) rfl) ?_
  refine zw_iconst (pc := 1) (v := Int32.ofInt 0) (by decide) (zdal_p dlA_Reader_begin_70 (i := 1) rfl) ?_
  refine zk_putA (pc := 2) (hf.w hW) (by decide) f_Reader_19 rfl rfl ((hf.w hW).ka (o := 4) (by decide)) ⟨by omega, by omega⟩ rfl rfl (zdal_p dlA_Reader_begin_70 (i := 2) rfl) (fun N1_ hsN1_ hvN1_ => ?_)
  have hf_N1_ : zFc d_ [(1, 2), (1, 3), (1, 4), (1, 5), (4, 2), (4, 3)] [] [] [] Mz N1_ := hf.tr hsN1_ (by decide) (by decide) (by decide) (by decide)
  have eA1_2_N1_ : ze N1_ 1 2 = ze Mz 1 2 := hsN1_.ea (hf.w hW) (by decide)
  have rA4_2_N1_ := ze_r N1_ 4 2
  have eA4_3_N1_ : ze N1_ 4 3 = ze Mz 4 3 := hsN1_.ea (hf.w hW) (by decide)
  have c2_ : zYb b_ n_ N1_ := zYb.fr (hf.w hW) hsN1_ p0_ (by decide)
  refine zw_aload_n (pc := 5) (n := 0) (x := 4) rfl (zdal_p dlA_Reader_begin_70 (i := 3) rfl) ?_
  refine zw_iconst (pc := 6) (v := Int32.ofInt (-1)) (by decide) (zdal_p dlA_Reader_begin_70 (i := 4) rfl) ?_
  refine zk_putA (pc := 7) (hf_N1_.w hW) (by decide) f_Reader_9 rfl rfl ((hf_N1_.w hW).ka (o := 4) (by decide)) ⟨by omega, by omega⟩ rfl rfl (zdal_p dlA_Reader_begin_70 (i := 5) rfl) (fun N3_ hsN3_ hvN3_ => ?_)
  have hf_N3_ : zFc d_ [(1, 2), (1, 3), (1, 4), (1, 5), (4, 2), (4, 3)] [] [] [] Mz N3_ := hf_N1_.tr hsN3_ (by decide) (by decide) (by decide) (by decide)
  have eA1_2_N3_ : ze N3_ 1 2 = ze N1_ 1 2 := hsN3_.ea (hf_N1_.w hW) (by decide)
  have eA4_2_N3_ : ze N3_ 4 2 = ze N1_ 4 2 := hsN3_.ea (hf_N1_.w hW) (by decide)
  have rA4_3_N3_ := ze_r N3_ 4 3
  have c4_ : zYb b_ n_ N3_ := zYb.fr (hf_N1_.w hW) hsN3_ c2_ (by decide)
  refine zw_aload_n (pc := 10) (n := 0) (x := 4) rfl (zdal_p dlA_Reader_begin_70 (i := 6) rfl) ?_
  refine zw_getF (pc := 11) f_Reader_15 rfl ((hf_N3_.w hW).ka (o := 4) (by decide)) ((hf_N3_.w hW).la (o := 4) (s := 0) (r := 1) (by decide)) (zdal_p dlA_Reader_begin_70 (i := 7) rfl) ?_
  refine zk_callV hf_N3_.x (pc := 14) [] [] l_Reader_22 (u_Tokens_rewind l d_ N3_ (hf_N3_.w hW) b_ n_ c4_) rfl rfl ((hf_N3_.w hW).ka (o := 1) (by decide)) (by decide) (by decide) (Nat.le_of_ble_eq_true rfl) (zdal_p dlA_Reader_begin_70 (i := 8) rfl) ?_
  rintro _ N5_ ⟨rfl, hsN5_, ⟨hp0_N5_, hp1_N5_⟩⟩
  have hf_N5_ : zFc d_ [(1, 2), (1, 3), (1, 4), (1, 5), (4, 2), (4, 3)] [] [] [] Mz N5_ := hf_N3_.tr hsN5_ (by decide) (by decide) (by decide) (by decide)
  have rA1_2_N5_ := ze_r N5_ 1 2
  have eA4_2_N5_ : ze N5_ 4 2 = ze N3_ 4 2 := hsN5_.ea (hf_N3_.w hW) (by decide)
  have eA4_3_N5_ : ze N5_ 4 3 = ze N3_ 4 3 := hsN5_.ea (hf_N3_.w hW) (by decide)
  show zW l m_Reader_begin (zn Mz + 0, zw Mz + 0) N5_ 17 [some (.ref 4)] [] _
  exact zk_vret (pc := 17) rfl hf_N5_ ⟨(show ze N5_ 1 2 = (zru zpB b_ n_ 0 : Nat) by first | with_reducible assumption | assumption | omega), hp1_N5_⟩ (zdal_p dlA_Reader_begin_70 (i := 9) rfl)
set_option maxHeartbeats 4000000 in
theorem u_T_feed (l : Launch) (d_ : Nat) (Mz : zMem) (hW : zKW d_ Mz) (a0_ : Int) (ha0_a : -2147483648 ≤ a0_) (ha0_b : a0_ < 2147483648) (a1_ : Int) (ha1_a : -2147483648 ≤ a1_) (ha1_b : a1_ < 2147483648) (a2_ : Int) (ha2_a : -2147483648 ≤ a2_) (ha2_b : a2_ < 2147483648) (a3_ : Int) (ha3_a : -2147483648 ≤ a3_) (ha3_b : a3_ < 2147483648) (a4_ : Int) (ha4_a : -2147483648 ≤ a4_) (ha4_b : a4_ < 2147483648) (p0_ : 0 ≤ ze Mz 1 1) (p1_ : ze Mz 1 1 ≤ 700) : zC l m_T_feed 0 0 [.ref 0, .int (Int32.ofInt a0_), .int (Int32.ofInt a1_), .int (Int32.ofInt a2_), .int (Int32.ofInt a3_), .int (Int32.ofInt a4_)] Mz (zqcI d_ [(1, 1)] [3] [] [] Mz (fun v N => (((700 < ze Mz 1 1 + 20 ∧ v = -1 ∧ ze N 1 1 = ze Mz 1 1 ∧ (∀ j : Nat, ze N 3 j = ze Mz 3 j)) ∨ (ze Mz 1 1 + 20 ≤ 700 ∧ v = ze Mz 1 1 + 20 ∧ ze N 1 1 = ze Mz 1 1 + 20 ∧ (∀ j : Nat, ze N 3 j = zfd5 (fun j => ze Mz 3 j) (ze Mz 1 1) a0_ a1_ a2_ a3_ a4_ j)))))) := by
  refine zC_of (L0 := [some (.ref 0), some (.int (Int32.ofInt a0_)), some (.int (Int32.ofInt a1_)), some (.int (Int32.ofInt a2_)), some (.int (Int32.ofInt a3_)), some (.int (Int32.ofInt a4_))]) md_T_feed (Nat.le_of_ble_eq_true rfl) rfl ?_ zQ0
  have hf : zFc d_ [(1, 1)] [3] [] [] Mz Mz := zFc.rf
  have r_A1_1 := ze_r Mz 1 1
  refine zw_aload_n (pc := 0) (n := 0) (x := 0) rfl (zdal_p dlA_T_feed_63 (i := 0) rfl) ?_
  refine zw_getF (pc := 1) f_T_10 rfl ((hf.w hW).ka (o := 0) (by decide)) ((hf.w hW).la (o := 0) (s := 0) (r := 1) (by decide)) (zdal_p dlA_T_feed_63 (i := 1) rfl) ?_
  refine zk_getI (pc := 4) f_T_42 rfl ((hf.w hW).ka (o := 1) (by decide)) (zdal_p dlA_T_feed_63 (i := 2) rfl) ?_
  refine zw_bipush (pc := 7) (v := Int32.ofInt 20) (by decide) (zdal_p dlA_T_feed_63 (i := 3) rfl) ?_
  refine zr_iadd (pc := 9) (zdal_p dlA_T_feed_63 (i := 4) rfl) ?_
  refine zw_sipush (pc := 10) (v := Int32.ofInt 700) (by decide) (zdal_p dlA_T_feed_63 (i := 5) rfl) ?_
  refine zr_icmp_le (pc := 13) (tgt := 18) ⟨(by omega), (by omega)⟩ ⟨(by decide), (by decide)⟩ (by decide) (zdal_p dlA_T_feed_63 (i := 6) rfl) (fun hc_13 => ?_) (fun hc_13 => ?_)
  · skip
    refine zw_aload_n (pc := 18) (n := 0) (x := 0) rfl (zdal_p dlA_T_feed_63 (i := 9) rfl) ?_
    refine zw_getF (pc := 19) f_T_10 rfl ((hf.w hW).ka (o := 0) (by decide)) ((hf.w hW).la (o := 0) (s := 0) (r := 1) (by decide)) (zdal_p dlA_T_feed_63 (i := 10) rfl) ?_
    refine zw_iload_n (pc := 22) (n := 1) (x := Int32.ofInt a0_) rfl (zdal_p dlA_T_feed_63 (i := 11) rfl) ?_
    refine zk_callV hf.x (pc := 23) [.int (Int32.ofInt a0_)] [] l_T_46 (u_Tokens_appendF l d_ Mz (hf.w hW) a0_ ha0_a ha0_b (show 0 ≤ ze Mz 1 1 by first | with_reducible assumption | assumption | omega) (show ze Mz 1 1 ≤ 696 by first | with_reducible assumption | assumption | omega)) rfl rfl ((hf.w hW).ka (o := 1) (by decide)) (by decide) (by decide) (Nat.le_of_ble_eq_true rfl) (zdal_p dlA_T_feed_63 (i := 12) rfl) ?_
    rintro _ N1_ ⟨rfl, hsN1_, ⟨hp0_N1_, hp1_N1_⟩⟩
    have hf_N1_ : zFc d_ [(1, 1)] [3] [] [] Mz N1_ := hf.tr hsN1_ (by decide) (by decide) (by decide) (by decide)
    have rA1_1_N1_ := ze_r N1_ 1 1
    show zW l m_T_feed (zn Mz + 0, zw Mz + 0) N1_ 26 [some (.ref 0), some (.int (Int32.ofInt a0_)), some (.int (Int32.ofInt a1_)), some (.int (Int32.ofInt a2_)), some (.int (Int32.ofInt a3_)), some (.int (Int32.ofInt a4_))] [] _
    have hz1_ := funext hp1_N1_
    refine zw_aload_n (pc := 26) (n := 0) (x := 0) rfl (zdal_p dlA_T_feed_63 (i := 13) rfl) ?_
    refine zw_getF (pc := 27) f_T_10 rfl ((hf_N1_.w hW).ka (o := 0) (by decide)) ((hf_N1_.w hW).la (o := 0) (s := 0) (r := 1) (by decide)) (zdal_p dlA_T_feed_63 (i := 14) rfl) ?_
    refine zw_iload_n (pc := 30) (n := 2) (x := Int32.ofInt a1_) rfl (zdal_p dlA_T_feed_63 (i := 15) rfl) ?_
    refine zk_callV hf_N1_.x (pc := 31) [.int (Int32.ofInt a1_)] [] l_T_46 (u_Tokens_appendF l d_ N1_ (hf_N1_.w hW) a1_ ha1_a ha1_b (show 0 ≤ ze N1_ 1 1 by first | with_reducible assumption | assumption | omega) (show ze N1_ 1 1 ≤ 696 by first | with_reducible assumption | assumption | omega)) rfl rfl ((hf_N1_.w hW).ka (o := 1) (by decide)) (by decide) (by decide) (Nat.le_of_ble_eq_true rfl) (zdal_p dlA_T_feed_63 (i := 16) rfl) ?_
    rintro _ N3_ ⟨rfl, hsN3_, ⟨hp0_N3_, hp1_N3_⟩⟩
    have hf_N3_ : zFc d_ [(1, 1)] [3] [] [] Mz N3_ := hf_N1_.tr hsN3_ (by decide) (by decide) (by decide) (by decide)
    have rA1_1_N3_ := ze_r N3_ 1 1
    show zW l m_T_feed (zn Mz + 0, zw Mz + 0) N3_ 34 [some (.ref 0), some (.int (Int32.ofInt a0_)), some (.int (Int32.ofInt a1_)), some (.int (Int32.ofInt a2_)), some (.int (Int32.ofInt a3_)), some (.int (Int32.ofInt a4_))] [] _
    have hz2_ := funext hp1_N3_
    rw [show ze N1_ 1 1 = ze Mz 1 1 + 4 by omega, hz1_] at hz2_
    refine zw_aload_n (pc := 34) (n := 0) (x := 0) rfl (zdal_p dlA_T_feed_63 (i := 17) rfl) ?_
    refine zw_getF (pc := 35) f_T_10 rfl ((hf_N3_.w hW).ka (o := 0) (by decide)) ((hf_N3_.w hW).la (o := 0) (s := 0) (r := 1) (by decide)) (zdal_p dlA_T_feed_63 (i := 18) rfl) ?_
    refine zw_iload_n (pc := 38) (n := 3) (x := Int32.ofInt a2_) rfl (zdal_p dlA_T_feed_63 (i := 19) rfl) ?_
    refine zk_callV hf_N3_.x (pc := 39) [.int (Int32.ofInt a2_)] [] l_T_46 (u_Tokens_appendF l d_ N3_ (hf_N3_.w hW) a2_ ha2_a ha2_b (show 0 ≤ ze N3_ 1 1 by first | with_reducible assumption | assumption | omega) (show ze N3_ 1 1 ≤ 696 by first | with_reducible assumption | assumption | omega)) rfl rfl ((hf_N3_.w hW).ka (o := 1) (by decide)) (by decide) (by decide) (Nat.le_of_ble_eq_true rfl) (zdal_p dlA_T_feed_63 (i := 20) rfl) ?_
    rintro _ N5_ ⟨rfl, hsN5_, ⟨hp0_N5_, hp1_N5_⟩⟩
    have hf_N5_ : zFc d_ [(1, 1)] [3] [] [] Mz N5_ := hf_N3_.tr hsN5_ (by decide) (by decide) (by decide) (by decide)
    have rA1_1_N5_ := ze_r N5_ 1 1
    show zW l m_T_feed (zn Mz + 0, zw Mz + 0) N5_ 42 [some (.ref 0), some (.int (Int32.ofInt a0_)), some (.int (Int32.ofInt a1_)), some (.int (Int32.ofInt a2_)), some (.int (Int32.ofInt a3_)), some (.int (Int32.ofInt a4_))] [] _
    have hz3_ := funext hp1_N5_
    rw [show ze N3_ 1 1 = ze Mz 1 1 + 8 by omega, hz2_] at hz3_
    refine zw_aload_n (pc := 42) (n := 0) (x := 0) rfl (zdal_p dlA_T_feed_63 (i := 21) rfl) ?_
    refine zw_getF (pc := 43) f_T_10 rfl ((hf_N5_.w hW).ka (o := 0) (by decide)) ((hf_N5_.w hW).la (o := 0) (s := 0) (r := 1) (by decide)) (zdal_p dlA_T_feed_63 (i := 22) rfl) ?_
    refine zw_iload (pc := 46) (i := 4) (x := Int32.ofInt a3_) rfl (zdal_p dlA_T_feed_63 (i := 23) rfl) ?_
    refine zk_callV hf_N5_.x (pc := 48) [.int (Int32.ofInt a3_)] [] l_T_46 (u_Tokens_appendF l d_ N5_ (hf_N5_.w hW) a3_ ha3_a ha3_b (show 0 ≤ ze N5_ 1 1 by first | with_reducible assumption | assumption | omega) (show ze N5_ 1 1 ≤ 696 by first | with_reducible assumption | assumption | omega)) rfl rfl ((hf_N5_.w hW).ka (o := 1) (by decide)) (by decide) (by decide) (Nat.le_of_ble_eq_true rfl) (zdal_p dlA_T_feed_64 (i := 0) rfl) ?_
    rintro _ N7_ ⟨rfl, hsN7_, ⟨hp0_N7_, hp1_N7_⟩⟩
    have hf_N7_ : zFc d_ [(1, 1)] [3] [] [] Mz N7_ := hf_N5_.tr hsN7_ (by decide) (by decide) (by decide) (by decide)
    have rA1_1_N7_ := ze_r N7_ 1 1
    show zW l m_T_feed (zn Mz + 0, zw Mz + 0) N7_ 51 [some (.ref 0), some (.int (Int32.ofInt a0_)), some (.int (Int32.ofInt a1_)), some (.int (Int32.ofInt a2_)), some (.int (Int32.ofInt a3_)), some (.int (Int32.ofInt a4_))] [] _
    have hz4_ := funext hp1_N7_
    rw [show ze N5_ 1 1 = ze Mz 1 1 + 12 by omega, hz3_] at hz4_
    refine zw_aload_n (pc := 51) (n := 0) (x := 0) rfl (zdal_p dlA_T_feed_64 (i := 1) rfl) ?_
    refine zw_getF (pc := 52) f_T_10 rfl ((hf_N7_.w hW).ka (o := 0) (by decide)) ((hf_N7_.w hW).la (o := 0) (s := 0) (r := 1) (by decide)) (zdal_p dlA_T_feed_64 (i := 2) rfl) ?_
    refine zw_iload (pc := 55) (i := 5) (x := Int32.ofInt a4_) rfl (zdal_p dlA_T_feed_64 (i := 3) rfl) ?_
    refine zk_callV hf_N7_.x (pc := 57) [.int (Int32.ofInt a4_)] [] l_T_46 (u_Tokens_appendF l d_ N7_ (hf_N7_.w hW) a4_ ha4_a ha4_b (show 0 ≤ ze N7_ 1 1 by first | with_reducible assumption | assumption | omega) (show ze N7_ 1 1 ≤ 696 by first | with_reducible assumption | assumption | omega)) rfl rfl ((hf_N7_.w hW).ka (o := 1) (by decide)) (by decide) (by decide) (Nat.le_of_ble_eq_true rfl) (zdal_p dlA_T_feed_64 (i := 4) rfl) ?_
    rintro _ N9_ ⟨rfl, hsN9_, ⟨hp0_N9_, hp1_N9_⟩⟩
    have hf_N9_ : zFc d_ [(1, 1)] [3] [] [] Mz N9_ := hf_N7_.tr hsN9_ (by decide) (by decide) (by decide) (by decide)
    have rA1_1_N9_ := ze_r N9_ 1 1
    show zW l m_T_feed (zn Mz + 0, zw Mz + 0) N9_ 60 [some (.ref 0), some (.int (Int32.ofInt a0_)), some (.int (Int32.ofInt a1_)), some (.int (Int32.ofInt a2_)), some (.int (Int32.ofInt a3_)), some (.int (Int32.ofInt a4_))] [] _
    have hz5_ := funext hp1_N9_
    rw [show ze N7_ 1 1 = ze Mz 1 1 + 16 by omega, hz4_] at hz5_
    refine zw_aload_n (pc := 60) (n := 0) (x := 0) rfl (zdal_p dlA_T_feed_64 (i := 5) rfl) ?_
    refine zw_getF (pc := 61) f_T_10 rfl ((hf_N9_.w hW).ka (o := 0) (by decide)) ((hf_N9_.w hW).la (o := 0) (s := 0) (r := 1) (by decide)) (zdal_p dlA_T_feed_64 (i := 6) rfl) ?_
    refine zk_getI (pc := 64) f_T_42 rfl ((hf_N9_.w hW).ka (o := 1) (by decide)) (zdal_p dlA_T_feed_64 (i := 7) rfl) ?_
    exact zk_iret (pc := 67) (ty := .int) rfl rfl ⟨by omega, by omega⟩ hf_N9_ (show ((700 < ze Mz 1 1 + 20 ∧ (ze N9_ 1 1) = -1 ∧ ze N9_ 1 1 = ze Mz 1 1 ∧ (∀ j : Nat, ze N9_ 3 j = ze Mz 3 j)) ∨ (ze Mz 1 1 + 20 ≤ 700 ∧ (ze N9_ 1 1) = ze Mz 1 1 + 20 ∧ ze N9_ 1 1 = ze Mz 1 1 + 20 ∧ (∀ j : Nat, ze N9_ 3 j = zfd5 (fun j => ze Mz 3 j) (ze Mz 1 1) a0_ a1_ a2_ a3_ a4_ j))) by first | exact Or.inl ⟨by omega, by omega, rfl, fun j => rfl⟩ | exact Or.inr ⟨by omega, by omega, by omega, fun j => congrFun hz5_ j⟩) (zdal_p dlA_T_feed_64 (i := 8) rfl)
  · skip
    refine zw_iconst (pc := 16) (v := Int32.ofInt (-1)) (by decide) (zdal_p dlA_T_feed_63 (i := 7) rfl) ?_
    exact zk_iret (pc := 17) (ty := .int) rfl rfl ⟨by omega, by omega⟩ hf (show ((700 < ze Mz 1 1 + 20 ∧ ((-1)) = -1 ∧ ze Mz 1 1 = ze Mz 1 1 ∧ (∀ j : Nat, ze Mz 3 j = ze Mz 3 j)) ∨ (ze Mz 1 1 + 20 ≤ 700 ∧ ((-1)) = ze Mz 1 1 + 20 ∧ ze Mz 1 1 = ze Mz 1 1 + 20 ∧ (∀ j : Nat, ze Mz 3 j = zfd5 (fun j => ze Mz 3 j) (ze Mz 1 1) a0_ a1_ a2_ a3_ a4_ j))) by first | exact Or.inl ⟨by omega, by omega, rfl, fun j => rfl⟩ | exact Or.inr ⟨by omega, by omega, by omega, fun j => congrFun hz5_ j⟩) (zdal_p dlA_T_feed_63 (i := 8) rfl)
set_option maxHeartbeats 4000000 in
theorem u_T_end (l : Launch) (d_ : Nat) (Mz : zMem) (hW : zKW d_ Mz) (a0_ : Int) (ha0_a : -2147483648 ≤ a0_) (ha0_b : a0_ < 2147483648) : zC l m_T_end 0 0 [.ref 0, .int (Int32.ofInt a0_)] Mz (zqcI d_ [(1, 1)] [] [] [] Mz (fun v N => ((((a0_ < 0 ∨ ze Mz 1 1 < a0_) ∧ v = -1 ∧ ze N 1 1 = ze Mz 1 1) ∨ (0 ≤ a0_ ∧ a0_ ≤ ze Mz 1 1 ∧ v = a0_ ∧ ze N 1 1 = a0_))))) := by
  refine zC_of (L0 := [some (.ref 0), some (.int (Int32.ofInt a0_))]) md_T_end (Nat.le_of_ble_eq_true rfl) rfl ?_ zQ0
  have hf : zFc d_ [(1, 1)] [] [] [] Mz Mz := zFc.rf
  have r_A1_1 := ze_r Mz 1 1
  refine zw_iload_n (pc := 0) (n := 1) (x := Int32.ofInt a0_) rfl (zdal_p dlA_T_end_66 (i := 0) rfl) ?_
  refine zr_if_lt (pc := 1) (tgt := 15) ⟨ha0_a, ha0_b⟩ (by decide) (zdal_p dlA_T_end_66 (i := 1) rfl) (fun hc_1 => ?_) (fun hc_1 => ?_)
  · skip
    refine zw_iconst (pc := 15) (v := Int32.ofInt (-1)) (by decide) (zdal_p dlA_T_end_66 (i := 7) rfl) ?_
    exact zk_iret (pc := 16) (ty := .int) rfl rfl ⟨by omega, by omega⟩ hf (show (((a0_ < 0 ∨ ze Mz 1 1 < a0_) ∧ ((-1)) = -1 ∧ ze Mz 1 1 = ze Mz 1 1) ∨ (0 ≤ a0_ ∧ a0_ ≤ ze Mz 1 1 ∧ ((-1)) = a0_ ∧ ze Mz 1 1 = a0_)) by first | with_reducible assumption | assumption | omega) (zdal_p dlA_T_end_66 (i := 8) rfl)
  · skip
    refine zw_iload_n (pc := 4) (n := 1) (x := Int32.ofInt a0_) rfl (zdal_p dlA_T_end_66 (i := 2) rfl) ?_
    refine zw_aload_n (pc := 5) (n := 0) (x := 0) rfl (zdal_p dlA_T_end_66 (i := 3) rfl) ?_
    refine zw_getF (pc := 6) f_T_10 rfl ((hf.w hW).ka (o := 0) (by decide)) ((hf.w hW).la (o := 0) (s := 0) (r := 1) (by decide)) (zdal_p dlA_T_end_66 (i := 4) rfl) ?_
    refine zk_getI (pc := 9) f_T_42 rfl ((hf.w hW).ka (o := 1) (by decide)) (zdal_p dlA_T_end_66 (i := 5) rfl) ?_
    refine zr_icmp_le (pc := 12) (tgt := 17) ⟨ha0_a, ha0_b⟩ ⟨(ze_r Mz 1 1).1, (ze_r Mz 1 1).2⟩ (by decide) (zdal_p dlA_T_end_66 (i := 6) rfl) (fun hc_12 => ?_) (fun hc_12 => ?_)
    · skip
      refine zw_aload_n (pc := 17) (n := 0) (x := 0) rfl (zdal_p dlA_T_end_66 (i := 9) rfl) ?_
      refine zw_getF (pc := 18) f_T_10 rfl ((hf.w hW).ka (o := 0) (by decide)) ((hf.w hW).la (o := 0) (s := 0) (r := 1) (by decide)) (zdal_p dlA_T_end_66 (i := 10) rfl) ?_
      refine zw_iload_n (pc := 21) (n := 1) (x := Int32.ofInt a0_) rfl (zdal_p dlA_T_end_66 (i := 11) rfl) ?_
      refine zk_putA (pc := 22) (hf.w hW) (by decide) f_T_42 rfl rfl ((hf.w hW).ka (o := 1) (by decide)) ⟨by omega, by omega⟩ rfl rfl (zdal_p dlA_T_end_66 (i := 12) rfl) (fun N1_ hsN1_ hvN1_ => ?_)
      have hf_N1_ : zFc d_ [(1, 1)] [] [] [] Mz N1_ := hf.tr hsN1_ (by decide) (by decide) (by decide) (by decide)
      have rA1_1_N1_ := ze_r N1_ 1 1
      refine zw_iload_n (pc := 25) (n := 1) (x := Int32.ofInt a0_) rfl (zdal_p dlA_T_end_66 (i := 13) rfl) ?_
      exact zk_iret (pc := 26) (ty := .int) rfl rfl ⟨by omega, by omega⟩ hf_N1_ (show (((a0_ < 0 ∨ ze Mz 1 1 < a0_) ∧ a0_ = -1 ∧ ze N1_ 1 1 = ze Mz 1 1) ∨ (0 ≤ a0_ ∧ a0_ ≤ ze Mz 1 1 ∧ a0_ = a0_ ∧ ze N1_ 1 1 = a0_)) by first | with_reducible assumption | assumption | omega) (zdal_p dlA_T_end_66 (i := 14) rfl)
    · skip
      refine zw_iconst (pc := 15) (v := Int32.ofInt (-1)) (by decide) (zdal_p dlA_T_end_66 (i := 7) rfl) ?_
      exact zk_iret (pc := 16) (ty := .int) rfl rfl ⟨by omega, by omega⟩ hf (show (((a0_ < 0 ∨ ze Mz 1 1 < a0_) ∧ ((-1)) = -1 ∧ ze Mz 1 1 = ze Mz 1 1) ∨ (0 ≤ a0_ ∧ a0_ ≤ ze Mz 1 1 ∧ ((-1)) = a0_ ∧ ze Mz 1 1 = a0_)) by first | with_reducible assumption | assumption | omega) (zdal_p dlA_T_end_66 (i := 8) rfl)
def zWd (M : zMem) : Prop := (0 ≤ ze M 81 1 ∧ ze M 81 1 ≤ 700) ∧ (0 ≤ ze M 81 14 ∧ ze M 81 14 ≤ 8) ∧ (0 ≤ ze M 81 18 ∧ ze M 81 18 ≤ 8) ∧ (0 ≤ ze M 81 60 ∧ ze M 81 60 ≤ 12) ∧ (0 ≤ ze M 81 57 ∧ ze M 81 57 ≤ 65536) ∧ zIF M ∧ zB 83 24 0 5 M ∧ zB 110 65536 0 2147483647 M ∧ ∃ T : zGT, T ∈ gTabs ∧ zGB T M
theorem zWd.b {S C : List Nat} {M N : zMem} (h : zWd M) (hf : zFr S C M N) (hs : 14 ∉ S ∧ 18 ∉ S ∧ 16 ∉ S ∧ 17 ∉ S ∧ 20 ∉ S ∧ 25 ∉ S ∧ 26 ∉ S) (hc : 83 ∉ C ∧ 84 ∉ C ∧ 85 ∉ C ∧ 87 ∉ C ∧ 88 ∉ C ∧ 89 ∉ C ∧ 90 ∉ C ∧ 91 ∉ C ∧ 93 ∉ C ∧ 94 ∉ C) (h1 : 0 ≤ ze N 81 1 ∧ ze N 81 1 ≤ 700) (h60 : 0 ≤ ze N 81 60 ∧ ze N 81 60 ≤ 12) (h57 : 0 ≤ ze N 81 57 ∧ ze N 81 57 ≤ 65536) (h110 : zB 110 65536 0 2147483647 N) : zWd N := by
  obtain ⟨-, h14, h18, -, -, hI, h83, -, T, hT, hB⟩ := h
  obtain ⟨s1, s2, s3, s4, s5, s6, s7⟩ := hs
  obtain ⟨c1, c2, c3, c4, c5, c6, c7, c8, c9, c10⟩ := hc
  refine ⟨h1, by rw [hf.e s1]; exact h14, by rw [hf.e s2]; exact h18, h60, h57, hI.fr hf ⟨s3, s4⟩ c2, zB.fr hf h83 (by decide) c1, h110, T, hT, zGB.fr hf hB ⟨s5, s6, s7⟩ ⟨c3, c4, c5, c6, c7, c8, c9, c10⟩⟩
def zOl (M N : zMem) : Prop := N.1 = M.1 ∧ zsh N = zsh M ∧ zf N = zf M ∧ ∀ q, q < 81 → zi N q = zi M q ∧ zj N q = zj M q
theorem zFr.old {S C : List Nat} {M N : zMem} (hf : zFr S C M N) (hc : ∀ c ∈ C, 81 < c) : zOl M N := ⟨hf.1, hf.2.1, hf.2.2.1, fun q hq => hf.2.2.2.1 q (by omega) (fun h => by have := hc q h; omega)⟩
def zGo (M N : zMem) (k : Int) : Prop := zOl M N ∧ zMt N ∧ zWd N ∧ ze N 81 1 = k
theorem zmk_z {M : zMem} (h : zn M = 82) (h3 : ∀ j, zi M 81 j = 0) {j : Nat} (h8 : j ≠ 8) (h10 : j ≠ 10) (h12 : j ≠ 12) : ze (zmk M) 81 j = 0 := by
  unfold ze
  rw [(zmk_o M h).2.2 j, if_neg h12, if_neg h10, if_neg h8, h3]
  rfl
theorem zmk_b {M : zMem} {q n : Nat} {hi : Int} (e : zi (zmk M) q = fun _ => 0) (h : 0 ≤ hi) : zB q n 0 hi (zmk M) := fun k _ => by
  unfold ze
  rw [e]
  show (0 : Int) ≤ (0 : Int32).toInt ∧ (0 : Int32).toInt ≤ hi
  have e0 : (0 : Int32).toInt = 0 := by decide
  rw [e0]
  exact ⟨Int.le_refl _, h⟩
def zKx (M : zMem) : Prop := zKW 5 M ∧ zKW 43 M ∧ ∃ d d2 : Nat, ((d = 5 ∧ d2 = 43) ∨ (d = 43 ∧ d2 = 5)) ∧ zf M 0 2 = some (d + 0) ∧ zf M 0 3 = some (d2 + 0)
def zTp (M : zMem) : Prop := ze M 1 1 = ze M 81 1 ∧ (∀ k : Nat, (k : Int) < ze M 81 1 → ze M 3 k = ze M 82 k) ∧ zBt (fun k => ze M 82 k) (ze M 81 1)
def zLw (M : zMem) : Prop := zn M = 114 ∧ zw M = 84410 ∧ zTy 81 M ∧ (zsh M 0).1 = 3 ∧ (zsh M 1).1 = 4 ∧ zf M 0 0 = some 1 ∧ zMt M ∧ zWd M ∧ zKx M
def zLb (M : zMem) : Prop := zLw M ∧ zTp M
section ZLW
variable {M N : zMem} {d d2 : Nat} {FA : List (Nat × Nat)} {CA : List Nat} {FR : List (Nat × Nat)} {CR : List Nat}
theorem zKW.same (h : zKW d M) (h1 : N.1 = M.1) (h2 : zsh N = zsh M) (h3 : ∀ q j, ¬ (q = 0 ∧ (j = 2 ∨ j = 3)) → zf N q j = zf M q j) : zKW d N := by
  obtain ⟨a1, a2, ⟨a3, a4, a5⟩, a6, a7, a8⟩ := h
  refine ⟨by unfold zn at a1 ⊢; rw [h1]; exact a1, a2, ⟨fun e he => ?_, fun e he => by rw [h2]; exact a4 e he, fun e he => by rw [h2]; exact a5 e he⟩, fun e he => ?_, fun e he => by rw [h2]; exact a7 e he, fun e he => by rw [h2]; exact a8 e he⟩
  · have hne : ∀ e ∈ zKt0, ¬ (0 + e.1 = 0 ∧ (e.2.1 = 2 ∨ e.2.1 = 3)) := by decide
    rw [h3 _ _ (hne e he)]
    exact a3 e he
  · rw [h3 _ _ (fun z => by omega)]
    exact a6 e he
theorem zKx.same (h : zKx M) (h1 : N.1 = M.1) (h2 : zsh N = zsh M) (h3 : zf N = zf M) : zKx N := by
  obtain ⟨a, b, e, e2, he, g1, g2⟩ := h
  exact ⟨a.same h1 h2 (fun q j _ => by rw [h3]), b.same h1 h2 (fun q j _ => by rw [h3]), e, e2, he, by rw [h3]; exact g1, by rw [h3]; exact g2⟩
theorem zLw.out (h : zLw M) (h1 : N.1 = M.1) (h2 : zsh N = zsh M) (h3 : ∀ r, 81 ≤ r → zi N r = zi M r ∧ zj N r = zj M r ∧ zf N r = zf M r) (hT : zTy 81 N) (hf : zf N 0 0 = some 1) (hk : zKx N) : zLw N := by
  obtain ⟨g1, g2, -, g4, g5, -, g7, g8, -⟩ := h
  have hfr : zFr [] (List.range 81) M (N.1, N.2.1, N.2.2.1, N.2.2.2.1, M.2.2.2.2) := by
    refine ⟨h1, h2, rfl, fun q hq hc => ?_, fun j _ => ?_⟩
    · have h81 : 81 ≤ q := by
        rcases Nat.lt_or_ge q 81 with g | g
        · exact absurd (List.mem_range.mpr g) hc
        · exact g
      exact ⟨(h3 q h81).1, (h3 q h81).2.1⟩
    · exact ⟨congrFun (h3 81 (by omega)).1 j, congrFun (h3 81 (by omega)).2.1 j⟩
  have hw : zWd (N.1, N.2.1, N.2.2.1, N.2.2.2.1, M.2.2.2.2) := zWd.b g8 hfr (by decide) (by decide) (by rw [hfr.e (by decide)]; exact g8.1) (by rw [hfr.e (by decide)]; exact g8.2.2.2.1) (by rw [hfr.e (by decide)]; exact g8.2.2.2.2.1) (zB.fr hfr g8.2.2.2.2.2.2.2.1 (by decide) (by decide))
  have hm : zMt N := by
    obtain ⟨m1, m2, m3⟩ := g7
    refine ⟨by unfold zn at m1 ⊢; rw [h1]; exact m1, by rw [h2]; exact m2, fun x hx => ?_⟩
    rw [h2, (h3 81 (by omega)).2.2]
    exact m3 x hx
  exact ⟨by unfold zn at g1 ⊢; rw [h1]; exact g1, by unfold zw at g2 ⊢; rw [h1]; exact g2, hT, by rw [h2]; exact g4, by rw [h2]; exact g5, hf, hm, hw, hk⟩
theorem zTy_q {B : Nat} (h : zTy B M) (h2 : zsh N = zsh M) (h3 : zf N = zf M) : zTy B N := by
  unfold zTy
  rw [h2, h3]
  exact h
theorem zLw.mod {S : List (Nat × Nat)} (h : zLw M) (hm : zMod 81 S M N) : zLw N := by
  obtain ⟨m1, m2, m3, m4, m5⟩ := id hm
  exact h.out m1 m2 (fun r hr => ⟨(m4 r hr).1, (m4 r hr).2, by rw [m3]⟩) (zTy_q h.2.2.1 m2 m3) (by rw [m3]; exact h.2.2.2.2.2.1) (h.2.2.2.2.2.2.2.2.same m1 m2 m3)
theorem zLw.k (h : zLw M) : ∃ d d2 : Nat, zKW d M ∧ zKW d2 M ∧ ((d = 5 ∧ d2 = 43) ∨ (d = 43 ∧ d2 = 5)) ∧ zf M 0 2 = some (d + 0) ∧ zf M 0 3 = some (d2 + 0) := by
  obtain ⟨a, b, e, e2, he, g1, g2⟩ := h.2.2.2.2.2.2.2.2
  refine ⟨e, e2, ?_, ?_, he, g1, g2⟩
  · rcases he with ⟨rfl, rfl⟩ | ⟨rfl, rfl⟩
    · exact a
    · exact b
  · rcases he with ⟨rfl, rfl⟩ | ⟨rfl, rfl⟩
    · exact b
    · exact a
theorem zFc.hi (hf : zFc d FA CA FR CR M N) (hW : zKW d M) (hc : (∀ x ∈ FA, x.1 < 81) ∧ ∀ x ∈ CA, x < 81) {q : Nat} (hq : 81 ≤ q) : zi N q = zi M q ∧ zj N q = zj M q :=
  hf.o (Or.inr (by have := hW.2.1; omega)) ⟨fun z => by have := hc.2 q z; omega, fun x hx e => by have := hc.1 x hx; omega⟩
theorem zLw.c (h : zLw M) (hf : zFc d FA CA FR CR M N) (hW : zKW d M) (hc : (∀ x ∈ FA, x.1 < 81) ∧ ∀ x ∈ CA, x < 81) : zLw N :=
  h.out hf.1 hf.2.1 (fun r hr => ⟨(hf.hi hW hc hr).1, (hf.hi hW hc hr).2, by rw [hf.2.2.1]⟩) (zTy_q h.2.2.1 hf.2.1 hf.2.2.1) (by rw [hf.2.2.1]; exact h.2.2.2.2.2.1) (h.2.2.2.2.2.2.2.2.same hf.1 hf.2.1 hf.2.2.1)
theorem ze_hi (h : ∀ q, 81 ≤ q → zi N q = zi M q ∧ zj N q = zj M q) {q : Nat} (hq : 81 ≤ q) (j : Nat) : ze N q j = ze M q j := by
  unfold ze
  rw [(h q hq).1]
theorem zLb.x (h : zLb M) (hf : zFc d FA CA FR CR M N) (hW : zKW d M) (hA : (1 ∉ CA ∧ (1, 1) ∉ FA) ∧ 3 ∉ CA ∧ ∀ x ∈ FA, x.1 ≠ 3) (hc : (∀ x ∈ FA, x.1 < 81) ∧ ∀ x ∈ CA, x < 81) : zLb N := by
  obtain ⟨hw, t1, t2, t3⟩ := h
  have e81 : ∀ j, ze N 81 j = ze M 81 j := fun j => ze_hi (fun q hq => hf.hi hW hc hq) (by omega) j
  have e82 : ∀ j, ze N 82 j = ze M 82 j := fun j => ze_hi (fun q hq => hf.hi hW hc hq) (by omega) j
  have e82f : (fun k : Nat => ze N 82 k) = fun k : Nat => ze M 82 k := funext fun k => e82 k
  refine ⟨hw.c hf hW hc, ?_, fun k hk => ?_, ?_⟩
  · rw [hf.ea hW ⟨by omega, hA.1⟩, e81]
    exact t1
  · rw [e81] at hk
    rw [hf.ra hW ⟨by omega, hA.2⟩ k, e82]
    exact t2 k hk
  · rw [e81, e82f]
    exact t3
theorem zLw.ref {k : Int} (h : zLw M) (hg : zGo M N k) : zLw N := by
  obtain ⟨h1, h2, h3, h4, h5, h6, h7, h8, h9⟩ := h
  obtain ⟨⟨o1, o2, o3, o4⟩, g2, g3, g4⟩ := hg
  exact ⟨by unfold zn at h1 ⊢; rw [o1]; exact h1, by unfold zw at h2 ⊢; rw [o1]; exact h2, zTy_q h3 o2 o3, by rw [o2]; exact h4, by rw [o2]; exact h5, by rw [o3]; exact h6, g2, g3, h9.same o1 o2 o3⟩
theorem zGo.lo {k : Int} (hg : zGo M N k) {q : Nat} (hq : q < 81) (j : Nat) : ze N q j = ze M q j := by
  unfold ze
  rw [(hg.1.2.2.2 q hq).1]
theorem zLb.ref (h : zLb M) (hg : zGo M N (ze M 81 1)) (h82 : ∀ j : Nat, ze N 82 j = ze M 82 j) : zLb N := by
  obtain ⟨hw, t1, t2, t3⟩ := h
  have e82f : (fun k : Nat => ze N 82 k) = fun k : Nat => ze M 82 k := funext fun k => h82 k
  have e1 := hg.2.2.2
  refine ⟨hw.ref hg, ?_, fun k hk => ?_, ?_⟩
  · rw [hg.lo (by omega), e1]
    exact t1
  · rw [e1] at hk
    rw [hg.lo (by omega), h82]
    exact t2 k hk
  · rw [e1, e82f]
    exact t3
theorem zLb.z (h : zLw N) (h1 : ze N 1 1 = 0) (h2 : ze N 81 1 = 0) : zLb N :=
  ⟨h, by rw [h1, h2], fun k hk => absurd hk (by omega), fun k hk => absurd hk (by omega)⟩
theorem zLw.t (h : zLw M) : 0 ≤ ze M 81 1 ∧ ze M 81 1 ≤ 700 := h.2.2.2.2.2.2.2.1.1
theorem zLb.y (h : zLb M) : zYb (fun k => ze M 82 k) (ze M 81 1).toNat M := by
  obtain ⟨hw, t1, t2, t3⟩ := h
  have ht := hw.t
  exact ⟨by omega, by omega, fun k hk => t3 k (by omega), fun k hk => t2 k (by omega)⟩
theorem zLb.r (h : zLb M) (h3 : ∀ q, 81 ≤ q → zi N q = zi M q ∧ zj N q = zj M q) : zRp (fun k => ze M 82 k) (ze M 81 1).toNat N := by
  obtain ⟨hw, t1, t2, t3⟩ := h
  have ht := hw.t
  refine ⟨by rw [ze_hi h3 (by omega)]; omega, by omega, fun k hk => t3 k (by omega), fun k hk => ze_hi h3 (by omega) k⟩
theorem zTy_sw (h : zTy 81 M) (hW : zKW d M) (hW2 : zKW d2 M) (hd : (d = 5 ∧ d2 = 43) ∨ (d = 43 ∧ d2 = 5)) (h2 : zsh N = zsh M) (h3 : zf N 0 2 = some (d2 + 0) ∧ zf N 0 3 = some (d + 0) ∧ ∀ q j, ¬ (q = 0 ∧ (j = 2 ∨ j = 3)) → zf N q j = zf M q j) (h0 : (zsh M 0).1 = 3) : zTy 81 N := by
  have k1 : (zsh M (d + 0)).1 = 7 := hW.kr (o := 0) (by decide)
  have k2 : (zsh M (d2 + 0)).1 = 7 := hW2.kr (o := 0) (by decide)
  have e2 : zH 0 2 = 7 := by decide
  have e3 : zH 0 3 = 7 := by decide
  refine ⟨fun q ci j hq hk hc hj hg => ?_, fun q hq => by rw [h2]; exact h.2 q hq⟩
  rw [h2] at hk ⊢
  by_cases g : q = 0 ∧ (j = 2 ∨ j = 3)
  · obtain ⟨rfl, g⟩ := g
    have hci : ci = 0 := by omega
    subst hci
    rcases g with rfl | rfl
    · exact ⟨d2 + 0, h3.1, by omega, by rw [k2, e2]⟩
    · exact ⟨d + 0, h3.2.1, by omega, by rw [k1, e3]⟩
  · rw [h3.2.2 q j g]
    exact h.1 q ci j hq hk hc hj hg
theorem zLw.sw (h : zLw M) (hW : zKW d M) (hW2 : zKW d2 M) (hd : (d = 5 ∧ d2 = 43) ∨ (d = 43 ∧ d2 = 5)) (hn : zf M 0 2 = some (d + 0)) (hs : zf M 0 3 = some (d2 + 0)) (hq : zSwp d2 d M N) : zLw N := by
  obtain ⟨s1, s2, s3, s4⟩ := hq
  rcases s4 with s4 | ⟨f1, f2, f3⟩
  · exact h.out s1 s2 s3 (zTy_q h.2.2.1 s2 s4) (by rw [s4]; exact h.2.2.2.2.2.1) (h.2.2.2.2.2.2.2.2.same s1 s2 s4)
  · refine h.out s1 s2 s3 (zTy_sw h.2.2.1 hW hW2 hd s2 ⟨f1, f2, f3⟩ h.2.2.2.1) (by rw [f3 0 0 (fun z => by omega)]; exact h.2.2.2.2.2.1) ?_
    have q1 := hW.same s1 s2 f3
    have q2 := hW2.same s1 s2 f3
    rcases hd with ⟨rfl, rfl⟩ | ⟨rfl, rfl⟩
    · exact ⟨q1, q2, 43, 5, Or.inr ⟨rfl, rfl⟩, f1, f2⟩
    · exact ⟨q2, q1, 5, 43, Or.inl ⟨rfl, rfl⟩, f1, f2⟩
end ZLW
def gGr (T : zGT) : Prop := gAs T ∧ ∀ a, a < gN T → gi T a < gN T ∧ gm T a (gi T a) = 0
theorem zTm.gr {mv : List Nat} {T : zGT} (h : zTm mv T) (hp : ∀ g ∈ mv, gpm g) : gGr T := by
  refine ⟨h.as hp, ?_⟩
  obtain ⟨c, a1, a2, a3, a4, a5⟩ := h
  exact a5
section GGR
variable {T : zGT} {a b x y F h s S i : Nat}
theorem gGr.l (hA : gGr T) (hG : gGd T) (ha : a < gN T) : gm T (gi T a) a = 0 := by
  obtain ⟨⟨h1, h2, h3⟩, h4⟩ := hA
  have ha1 := h4 a ha
  have hb1 := h4 (gi T a) ha1.1
  have hm := hG.2.2.2 (gi T a) a ha1.1 ha
  have e1 : gm T (gm T (gi T a) a) (gm T (gi T a) (gi T (gi T a))) = gm T (gi T a) a := by rw [hb1.2, h3 _ hm]
  rw [← e1, h1 _ _ _ ha1.1 ha (hG.2.2.2 _ _ ha1.1 hb1.1), ← h1 _ _ _ ha ha1.1 hb1.1, ha1.2, h2 _ hb1.1, hb1.2]
theorem gGr.c (hA : gGr T) (hG : gGd T) (ha : a < gN T) (hx : x < gN T) (hy : y < gN T) (e : gm T a x = gm T a y) : x = y := by
  have hl := hA.l hG ha
  obtain ⟨⟨h1, h2, h3⟩, h4⟩ := hA
  have ha1 := h4 a ha
  rw [← h2 x hx, ← h2 y hy, ← hl, h1 _ _ _ ha1.1 ha hx, h1 _ _ _ ha1.1 ha hy, e]
theorem gGr.iv (hA : gGr T) (hG : gGd T) (ha : a < gN T) (hb : b < gN T) : gi T (gm T a b) = gm T (gi T b) (gi T a) := by
  have hab := hG.2.2.2 a b ha hb
  have i1 := hA.2 a ha
  have i2 := hA.2 b hb
  have i3 := hA.2 _ hab
  have hm := hG.2.2.2 _ _ i2.1 i1.1
  refine hA.c hG hab i3.1 hm ?_
  rw [i3.2, hA.1.1 _ _ _ ha hb hm, ← hA.1.1 _ _ _ hb i2.1 i1.1, i2.2, hA.1.2.1 _ i1.1, i1.2]
theorem gtr_t (hG : gGd T) (hg : a < gN T) (y : Nat) : ∀ k, k ≤ gN T → ((gup (gtrF T S a) 0 k).testBit y = true ↔ ∃ x, x < k ∧ S.testBit x = true ∧ gm T (gm T (gi T a) x) a = y)
  | 0, _ => by
    constructor
    · intro h
      have h0 : Nat.testBit 0 y = true := h
      rw [Nat.zero_testBit] at h0
      exact absurd h0 (by decide)
    · rintro ⟨x, hx, -⟩
      omega
  | k + 1, hk => by
    have ih := gtr_t hG hg y k (by omega)
    show (gtrF T S a k (gup (gtrF T S a) 0 k)).testBit y = true ↔ _
    unfold gtrF at ih ⊢
    by_cases hb : S.testBit k = true
    · rw [if_pos hb, Nat.testBit_or, Bool.or_eq_true, ih, Nat.testBit_two_pow, decide_eq_true_iff]
      constructor
      · rintro (⟨x, h1, h2⟩ | h1)
        · exact ⟨x, by omega, h2⟩
        · exact ⟨k, by omega, hb, h1⟩
      · rintro ⟨x, h1, h2, h3⟩
        by_cases e : x = k
        · rw [e] at h3
          exact Or.inr h3
        · exact Or.inl ⟨x, by omega, h2, h3⟩
    · rw [if_neg hb, ih]
      constructor
      · rintro ⟨x, h1, h2⟩
        exact ⟨x, by omega, h2⟩
      · rintro ⟨x, h1, h2, h3⟩
        by_cases e : x = k
        · rw [e] at h2
          exact absurd h2 hb
        · exact ⟨x, by omega, h2, h3⟩
theorem gtr_x (hG : gGd T) (hg : a < gN T) (y : Nat) : (gtr T S a).testBit y = true ↔ ∃ x, x < gN T ∧ S.testBit x = true ∧ gm T (gm T (gi T a) x) a = y := gtr_t hG hg y (gN T) (Nat.le_refl _)
theorem gtr_cm (hA : gGr T) (hG : gGd T) (ha : a < gN T) (hb : b < gN T) : gtr T (gtr T S a) b = gtr T S (gm T a b) := by
  have hab := hG.2.2.2 a b ha hb
  have e : ∀ x, x < gN T → gm T (gm T (gi T b) (gm T (gm T (gi T a) x) a)) b = gm T (gm T (gi T (gm T a b)) x) (gm T a b) := fun x hx => by
    have i1 := (hA.2 a ha).1
    have i2 := (hA.2 b hb).1
    have m1 := hG.2.2.2 _ _ i1 hx
    have m2 := hG.2.2.2 _ _ i2 i1
    have as_ := hA.1.1
    rw [hA.iv hG ha hb, ← as_ _ _ _ i2 m1 ha, ← as_ _ _ _ i2 i1 hx, as_ _ _ _ (hG.2.2.2 _ _ m2 hx) ha hb]
  refine Nat.eq_of_testBit_eq fun y => ?_
  rw [Bool.eq_iff_iff, gtr_x hG hb, gtr_x hG hab]
  constructor
  · rintro ⟨z, hz, h1, h2⟩
    obtain ⟨x, hx, h3, h4⟩ := (gtr_x hG ha z).mp h1
    exact ⟨x, hx, h3, by rw [← e x hx, h4]; exact h2⟩
  · rintro ⟨x, hx, h3, h4⟩
    have hz := hG.2.2.2 _ _ (hG.2.2.2 _ _ (hA.2 a ha).1 hx) ha
    exact ⟨_, hz, (gtr_x hG ha _).mpr ⟨x, hx, h3, rfl⟩, by rw [e x hx]; exact h4⟩
theorem glt_at (T : zGT) (S : Nat) : glt T S = S ∨ ∃ g, g < gN T ∧ glt T S = gtr T S g := by
  rw [glt_e]
  have : ∀ k, k ≤ gN T → gup (gltF T S) S k = S ∨ ∃ g, g < gN T ∧ gup (gltF T S) S k = gtr T S g := by
    intro k
    induction k with
    | zero => exact fun _ => Or.inl rfl
    | succ k ih =>
      intro hk
      have ih := ih (by omega)
      show gltF T S k (gup (gltF T S) S k) = S ∨ ∃ g, g < gN T ∧ gltF T S k (gup (gltF T S) S k) = gtr T S g
      generalize gup (gltF T S) S k = q at ih ⊢
      unfold gltF
      split
      · exact Or.inr ⟨k, by omega, rfl⟩
      · exact ih
  exact this _ (Nat.le_refl _)
theorem gtr_gl (hA : gGr T) (hO : gOK T) {l : List Nat} {Kp : Nat} {KL : List Nat} (ol : gOL T l Kp KL) (hF : F ∈ gF T) (hh : h < gN T) (e : gtr T F h = s) : glt T s = F := by
  have hG := hO.1
  have hs : s ∈ gS T := by
    rw [← e]
    exact (ol.2.2.2.1 F hF h hh).1
  have hg := hO.2.2.1.1 s hs
  rcases glt_at T s with g | ⟨x, hx, g⟩
  · rw [g] at hg ⊢
    rw [← e] at hg ⊢
    exact (ol.2.2.2.1 F hF h hh).2 hg
  · rw [g, ← e, gtr_cm hA hG hh hx] at hg ⊢
    exact (ol.2.2.2.1 F hF _ (hG.2.2.2 _ _ hh hx)).2 hg
def zSrt (T : zGT) (R : Nat) (v : Int) : Prop := (0 ≤ v ∧ v < ((gF T).length : Int)) ∧ gFn T v.toNat = glt T R
theorem gFn_u (hO : gOK T) {i j : Nat} (hi : i < (gF T).length) (hj : j < (gF T).length) (e : gFn T i = gFn T j) : i = j := by
  unfold gFn at e
  rcases Nat.lt_trichotomy i j with g | g | g
  · have := hO.2.2.1.2.2 i j g hj
    rw [e] at this
    omega
  · exact g
  · have := hO.2.2.1.2.2 j i g hi
    rw [e] at this
    omega
theorem zSrt.u (hO : gOK T) {R : Nat} {v w : Int} (h1 : zSrt T R v) (h2 : zSrt T R w) : v = w := by
  have := gFn_u hO (i := v.toNat) (j := w.toNat) (by have := h1.1; omega) (by have := h2.1; omega) (h1.2.trans h2.2.symm)
  have := h1.1
  have := h2.1
  omega
end GGR
def zNq (T : zGT) (f : Nat → Int) (m : Int) (q fi : Nat → Int) (c : Int) : Prop := ∀ i : Nat, (i : Int) < m → q i ≠ -1 → (0 ≤ q i ∧ q i < c) ∧ ∃ h, h < gN T ∧ gtr T (fi (q i).toNat).toNat h = (f i).toNat
section ZNQ
variable {T : zGT} {f q q' fi fi' : Nat → Int} {m c k g : Int}
theorem zNq_0 (hq : ∀ i : Nat, (i : Int) < m → q i = -1) : zNq T f m q fi c := fun i hi hn => absurd (hq i hi) hn
theorem zNq_w (h : zNq T f m q fi c) (o : ∀ i : Nat, (i : Int) < c → fi' i = fi i) : zNq T f m q fi' (c + 1) := fun i hi hn => by
  obtain ⟨⟨h1, h2⟩, x, h3, h4⟩ := h i hi hn
  exact ⟨⟨h1, by omega⟩, x, h3, by rw [o _ (by omega)]; exact h4⟩
theorem zNq_g (h : zNq T f m q fi (c + 1)) (c0 : 0 ≤ c) (hf : fi c.toNat = f k.toNat) {v : Int} (hv : (f v.toNat).toNat = gtr T (f k.toNat).toNat g.toNat) (hg : 0 ≤ g ∧ g < gN T) (hq : ∀ j : Nat, q' j = zst q v.toNat c j) : zNq T f m q' fi (c + 1) := fun i hi hn => by
  rw [hq i] at hn ⊢
  by_cases e : i = v.toNat
  · rw [e, zst_t]
    exact ⟨by omega, g.toNat, by omega, by rw [hf]; exact hv.symm⟩
  · rw [zst_o e] at hn ⊢
    exact h i hi hn
end ZNQ
def zSbK (T : zGT) (d : Nat) (M : zMem) : Prop := zLs T (zRw d 14 M) (ze M (d + 12) 6) ∧ ∀ i : Nat, (i : Int) < ze M (d + 12) 6 → zSrt T (ze M (d + 14) i).toNat (ze M (d + 16) i)
theorem zSbK_i {T : zGT} {f q fi : Nat → Int} {m k : Int} (hA : gGr T) (hO : gOK T) {l : List Nat} {Kp : Nat} {KL : List Nat} (ol : gOL T l Kp KL) (hL : zLs T f m) (h : zNq T f m q fi ((gF T).length : Int)) (hu : zNu T f m q fi ((gF T).length : Int) k 0) (hk : m ≤ k) (hfi : ∀ i, i < (gF T).length → fi i = ((gFn T i : Nat) : Int)) : ∀ i : Nat, (i : Int) < m → zSrt T (f i).toNat (q i) := fun i hi => by
  have hs := (hL.2.1 i hi).2
  have hne : q i ≠ -1 := by
    refine (hu.1 i hi).2.mpr ?_
    obtain ⟨x, hx, e⟩ := ol.2.2.2.2.1 _ hs
    have hF := hO.2.2.1.1 _ hs
    obtain ⟨j, hj, e2⟩ := hL.2.2.1 _ (hO.2.2.1.2.1 _ hF).1
    exact ⟨j, x, by omega, hx, by rw [e2]; exact hF, by rw [e2]; exact e⟩
  obtain ⟨h1, x, hx, e⟩ := h i hi hne
  have hF := gFn_m (T := T) (i := (q i).toNat) (by omega)
  rw [hfi _ (by omega), Int.toNat_natCast] at e
  exact ⟨h1, (gtr_gl hA hO ol hF hx e).symm⟩
theorem zSbK_m {M N : zMem} {d : Nat} {T : zGT} (hL : zLs T (zRw d 14 M) (ze M (d + 12) 6)) (e6 : ze N (d + 12) 6 = ze M (d + 12) 6) (e14 : ∀ j : Nat, ze N (d + 14) j = ze M (d + 14) j) (h : ∀ i : Nat, (i : Int) < ze M (d + 12) 6 → zSrt T (ze M (d + 14) i).toNat (ze N (d + 16) i)) : zSbK T d N := by
  have ef : zRw d 14 N = zRw d 14 M := funext e14
  unfold zSbK
  rw [e6, ef]
  exact ⟨hL, fun i hi => by rw [e14 i]; exact h i hi⟩
section ZSBK
variable {M N : zMem} {d : Nat} {T : zGT} {FA : List (Nat × Nat)} {CA : List Nat} {FR : List (Nat × Nat)} {CR : List Nat}
theorem zSbK.ee (e6 : ze N (d + 12) 6 = ze M (d + 12) 6) (e14 : ∀ j, ze N (d + 14) j = ze M (d + 14) j) (e16 : ∀ j, ze N (d + 16) j = ze M (d + 16) j) (h : zSbK T d M) : zSbK T d N := by
  have ef : zRw d 14 N = zRw d 14 M := funext e14
  unfold zSbK at h ⊢
  rw [e6, ef]
  exact ⟨h.1, fun i hi => by rw [e14 i, e16 i]; exact h.2 i hi⟩
theorem zSbK.fr (_ : zKW d M) (hf : zFc d FA CA FR CR M N) (h : zSbK T d M) (hc : (12 ∉ CR ∧ (12, 6) ∉ FR) ∧ (14 ∉ CR ∧ ∀ x ∈ FR, x.1 ≠ 14) ∧ 16 ∉ CR ∧ ∀ x ∈ FR, x.1 ≠ 16) : zSbK T d N := by
  obtain ⟨⟨c1, c2⟩, c3, c4⟩ := hc
  exact h.ee (hf.e ⟨by decide, c1, c2⟩) (fun j => hf.r ⟨by decide, c3⟩ j) (fun j => hf.r ⟨by decide, c4⟩ j)
end ZSBK
noncomputable def zPi (p : Prop) (a b : Nat) : Nat := @ite Nat p (Classical.propDecidable p) a b
theorem zPi_t {p : Prop} {a b : Nat} (h : p) : zPi p a b = a := by
  unfold zPi
  exact if_pos h
theorem zPi_f {p : Prop} {a b : Nat} (h : ¬ p) : zPi p a b = b := by
  unfold zPi
  exact if_neg h
noncomputable def zct (p : Nat → Prop) : Nat → Nat
  | 0 => 0
  | k + 1 => zPi (p k) (zct p k + 1) (zct p k)
theorem zct_t {p : Nat → Prop} {k : Nat} (h : p k) : zct p (k + 1) = zct p k + 1 := zPi_t h
theorem zct_f {p : Nat → Prop} {k : Nat} (h : ¬ p k) : zct p (k + 1) = zct p k := zPi_f h
theorem zct_1 {p : Nat → Prop} {k c : Int} (k0 : 0 ≤ k) (hc : c = ((zct p k.toNat : Nat) : Int)) (h : p k.toNat) : c + 1 = ((zct p (k + 1).toNat : Nat) : Int) := by
  rw [show (k + 1).toNat = k.toNat + 1 by omega, hc, zct_t h]
  omega
theorem zct_0 {p : Nat → Prop} {k c : Int} (k0 : 0 ≤ k) (hc : c = ((zct p k.toNat : Nat) : Int)) (h : ¬ p k.toNat) : c = ((zct p (k + 1).toNat : Nat) : Int) := by
  rw [show (k + 1).toNat = k.toNat + 1 by omega, hc, zct_f h]
theorem zct_b (p : Nat → Prop) : ∀ k, zct p k ≤ k
  | 0 => Nat.le_refl _
  | k + 1 => by
    have ih := zct_b p k
    by_cases h : p k
    · rw [zct_t h]
      omega
    · rw [zct_f h]
      omega
theorem zct_c {p q : Nat → Prop} : ∀ {k : Nat}, (∀ i, i < k → (p i ↔ q i)) → zct p k = zct q k
  | 0, _ => rfl
  | k + 1, h => by
    have ih := zct_c (p := p) (q := q) (k := k) (fun i hi => h i (by omega))
    by_cases g : p k
    · rw [zct_t g, zct_t ((h k (by omega)).mp g), ih]
    · rw [zct_f g, zct_f (fun e => g ((h k (by omega)).mpr e)), ih]
theorem zct_ad (p : Nat → Prop) (j : Nat) : ∀ k, zct p (j + k) = zct p j + zct (fun i => p (j + i)) k
  | 0 => rfl
  | k + 1 => by
    have ih := zct_ad p j k
    show zct p ((j + k) + 1) = _
    by_cases g : p (j + k)
    · rw [zct_t g, zct_t (p := fun i => p (j + i)) g, ih]
      omega
    · rw [zct_f g, zct_f (p := fun i => p (j + i)) g, ih]
theorem zct_z {p : Nat → Prop} : ∀ {k : Nat}, (∀ i, i < k → ¬ p i) → zct p k = 0
  | 0, _ => rfl
  | k + 1, h => by
    rw [zct_f (h k (by omega))]
    exact zct_z (fun i hi => h i (by omega))
noncomputable def zbq (p : Nat → Prop) : Nat → Nat
  | 0 => 0
  | k + 1 => zPi (p k) (zbq p k ||| 2 ^ k) (zbq p k)
theorem zbq_y {p : Nat → Prop} {k : Nat} (h : p k) : zbq p (k + 1) = zbq p k ||| 2 ^ k := zPi_t h
theorem zbq_n {p : Nat → Prop} {k : Nat} (h : ¬ p k) : zbq p (k + 1) = zbq p k := zPi_f h
theorem zbq_lt (p : Nat → Prop) : ∀ k, zbq p k < 2 ^ k
  | 0 => Nat.zero_lt_one
  | k + 1 => by
    have ih := zbq_lt p k
    have h2 : 2 ^ k < 2 ^ (k + 1) := Nat.pow_lt_pow_right (by omega) (by omega)
    by_cases h : p k
    · rw [zbq_y h]
      exact Nat.or_lt_two_pow (by omega) h2
    · rw [zbq_n h]
      omega
theorem zbq_t (p : Nat → Prop) : ∀ k i, (zbq p k).testBit i = true ↔ i < k ∧ p i
  | 0, i => by
    constructor
    · intro h
      have h0 : Nat.testBit 0 i = true := h
      rw [Nat.zero_testBit] at h0
      exact absurd h0 (by decide)
    · rintro ⟨h, -⟩
      omega
  | k + 1, i => by
    have ih := zbq_t p k i
    by_cases h : p k
    · rw [zbq_y h, Nat.testBit_or, Bool.or_eq_true, ih, Nat.testBit_two_pow, decide_eq_true_iff]
      constructor
      · rintro (h1 | h1)
        · exact ⟨by omega, h1.2⟩
        · exact ⟨by omega, by rw [← h1]; exact h⟩
      · rintro ⟨h1, h2⟩
        by_cases e : i = k
        · exact Or.inr e.symm
        · exact Or.inl ⟨by omega, h2⟩
    · rw [zbq_n h, ih]
      constructor
      · rintro ⟨h1, h2⟩
        exact ⟨by omega, h2⟩
      · rintro ⟨h1, h2⟩
        refine ⟨?_, h2⟩
        by_cases e : i = k
        · rw [e] at h2
          exact absurd h2 h
        · omega
theorem zbq_c {p q : Nat → Prop} : ∀ {k : Nat}, (∀ i, i < k → (p i ↔ q i)) → zbq p k = zbq q k
  | 0, _ => rfl
  | k + 1, h => by
    have ih := zbq_c (p := p) (q := q) (k := k) (fun i hi => h i (by omega))
    by_cases g : p k
    · rw [zbq_y g, zbq_y ((h k (by omega)).mp g), ih]
    · rw [zbq_n g, zbq_n (fun e => g ((h k (by omega)).mpr e)), ih]
theorem zbq_1 {p : Nat → Prop} {k x : Int} (k0 : 0 ≤ k) (k1 : k < 31) (hx : x = ((zbq p k.toNat : Nat) : Int)) (h : p k.toNat) : zor x (zshl 1 k) = ((zbq p (k + 1).toNat : Nat) : Int) := by
  have hb := zbq_lt p k.toNat
  have h2 : 2 ^ k.toNat ≤ 2 ^ 30 := Nat.pow_le_pow_right (by omega) (by omega)
  rw [zorb (by omega) (by omega) k0 k1, show (k + 1).toNat = k.toNat + 1 by omega, zbq_y h, hx, Int.toNat_natCast]
theorem zbq_0 {p : Nat → Prop} {k x : Int} (k0 : 0 ≤ k) (hx : x = ((zbq p k.toNat : Nat) : Int)) (h : ¬ p k.toNat) : x = ((zbq p (k + 1).toNat : Nat) : Int) := by
  rw [show (k + 1).toNat = k.toNat + 1 by omega, zbq_n h]
  exact hx
theorem zbq_r {p : Nat → Prop} {n : Nat} (hn : n ≤ 24) {k x : Int} (k1 : k ≤ n) (hx : x = ((zbq p k.toNat : Nat) : Int)) : 0 ≤ x ∧ x < 16777216 ∧ x.toNat < 2 ^ n := by
  have hb := zbq_lt p k.toNat
  have h2 : 2 ^ k.toNat ≤ 2 ^ n := Nat.pow_le_pow_right (by omega) (by omega)
  have h3 : 2 ^ n ≤ 2 ^ 24 := Nat.pow_le_pow_right (by omega) hn
  omega
theorem gcb_c (S : Nat) : ∀ j, gup (fun k r => r + (S >>> k) % 2) 0 j = zct (fun i => S.testBit i = true) j
  | 0 => rfl
  | j + 1 => by
    have ih := gcb_c S j
    have e : S.testBit j = decide ((S >>> j) % 2 = 1) := by rw [Nat.testBit_eq_decide_div_mod_eq, Nat.shiftRight_eq_div_pow]
    show gup (fun k r => r + (S >>> k) % 2) 0 j + (S >>> j) % 2 = _
    rw [ih]
    rcases Nat.mod_two_eq_zero_or_one (S >>> j) with h | h
    · rw [zct_f (by rw [e, h]; decide), h]
      rfl
    · rw [zct_t (by rw [e, h]; rfl), h]
theorem gcb_z (p : Nat → Prop) {k : Nat} (hk : k ≤ 31) : gcb (zbq p k) = zct p k := by
  unfold gcb
  rw [gcb_c, show 31 = k + (31 - k) by omega, zct_ad, zct_z (k := 31 - k) (fun i _ h => by
    have := (zbq_t p k (k + i)).mp h
    omega)]
  exact zct_c (fun i hi => ⟨fun h => ((zbq_t p k i).mp h).2, fun h => (zbq_t p k i).mpr ⟨hi, h⟩⟩)
theorem kan {a b c d : Nat} (ha : a < 256) (hc : c < 256) : (a + 256 * b) &&& (c + 256 * d) = (a &&& c) + 256 * (b &&& d) := by
  have h1 := Nat.and_mod_two_pow (a := a + 256 * b) (b := c + 256 * d) (n := 8)
  have h2 := Nat.and_div_two_pow (a := a + 256 * b) (b := c + 256 * d) (n := 8)
  rw [show (2 : Nat) ^ 8 = 256 by decide] at h1 h2
  rw [show (a + 256 * b) % 256 = a by omega, show (c + 256 * d) % 256 = c by omega] at h1
  rw [show (a + 256 * b) / 256 = b by omega, show (c + 256 * d) / 256 = d by omega] at h2
  omega
def kf1 (M x : Nat) : Nat := x - ((x / 2) &&& M)
def kf2 (M x : Nat) : Nat := (x &&& M) + ((x / 4) &&& M)
def kf3 (M x : Nat) : Nat := (x + x / 16) &&& M
theorem kf1_b : ∀ a : Fin 256, ∀ t : Fin 2, ((a.val / 2 + 128 * t.val) &&& 85) = ((a.val / 2) &&& 85) := by decide +kernel
theorem kf2_b : ∀ a : Fin 256, ∀ t : Fin 4, ((a.val / 4 + 64 * t.val) &&& 51) = ((a.val / 4) &&& 51) := by decide +kernel
theorem kf3_b : ∀ a : Fin 69, ∀ t : Fin 5, (((a.val + a.val / 16 + 16 * t.val) &&& 15) = ((a.val + a.val / 16) &&& 15)) ∧ a.val + a.val / 16 + 16 * t.val < 256 := by decide +kernel
theorem kf_v : ∀ a : Fin 256, kf1 85 a.val < 256 ∧ kf2 51 (kf1 85 a.val) < 69 ∧ kf2 51 (kf1 85 a.val) % 16 ≤ 4 ∧ kf3 15 (kf2 51 (kf1 85 a.val)) ≤ 8 ∧ kf3 15 (kf2 51 (kf1 85 a.val)) = gup (fun k r => r + (a.val >>> k) % 2) 0 8 := by decide +kernel
theorem kf1_s {a m M : Nat} (ha : a < 256) : kf1 (85 + 256 * M) (a + 256 * m) = kf1 85 a + 256 * kf1 M m := by
  have h := kf1_b ⟨a, ha⟩ ⟨m % 2, by omega⟩
  have h2 : ((a / 2) &&& 85) ≤ a / 2 := Nat.and_le_left
  have h3 : ((m / 2) &&& M) ≤ m / 2 := Nat.and_le_left
  have h4 := kan (a := a / 2 + 128 * (m % 2)) (b := m / 2) (c := 85) (d := M) (by omega) (by omega)
  rw [show (a / 2 + 128 * (m % 2)) &&& 85 = (a / 2) &&& 85 from h] at h4
  unfold kf1
  rw [show (a + 256 * m) / 2 = a / 2 + 128 * (m % 2) + 256 * (m / 2) by omega, h4]
  omega
theorem kf2_s {a m M : Nat} (ha : a < 256) : kf2 (51 + 256 * M) (a + 256 * m) = kf2 51 a + 256 * kf2 M m := by
  have h := kf2_b ⟨a, ha⟩ ⟨m % 4, by omega⟩
  have h4 := kan (a := a / 4 + 64 * (m % 4)) (b := m / 4) (c := 51) (d := M) (by omega) (by omega)
  rw [show (a / 4 + 64 * (m % 4)) &&& 51 = (a / 4) &&& 51 from h] at h4
  unfold kf2
  rw [show (a + 256 * m) / 4 = a / 4 + 64 * (m % 4) + 256 * (m / 4) by omega, h4, kan ha (by omega)]
  omega
theorem kf3_s {a m M : Nat} (ha : a < 69) (hm : m % 16 ≤ 4) : kf3 (15 + 256 * M) (a + 256 * m) = kf3 15 a + 256 * kf3 M m := by
  have h := kf3_b ⟨a, ha⟩ ⟨m % 16, by omega⟩
  have h4 := kan (a := a + a / 16 + 16 * (m % 16)) (b := m + m / 16) (c := 15) (d := M) h.2 (by omega)
  rw [show (a + a / 16 + 16 * (m % 16)) &&& 15 = (a + a / 16) &&& 15 from h.1] at h4
  unfold kf3
  rw [show a + 256 * m + (a + 256 * m) / 16 = a + a / 16 + 16 * (m % 16) + 256 * (m + m / 16) by omega, h4]
theorem gcb_by {a m : Nat} (ha : a < 256) (k : Nat) : zct (fun i => (a + 256 * m).testBit i = true) (8 + k) = gup (fun k r => r + (a >>> k) % 2) 0 8 + zct (fun i => m.testBit i = true) k := by
  have e : a + 256 * m = 2 ^ 8 * m + a := by omega
  rw [zct_ad, gcb_c]
  congr 1
  · refine zct_c (fun i hi => ?_)
    rw [e, Nat.testBit_two_pow_mul_add m (show a < 2 ^ 8 from ha), if_pos hi]
  · refine zct_c (fun i hi => ?_)
    rw [e, Nat.testBit_two_pow_mul_add m (show a < 2 ^ 8 from ha), if_neg (by omega), show 8 + i - 8 = i by omega]
theorem kbc_g {x : Nat} (h : x < 16777216) : kbc x = gcb x := by
  obtain ⟨a, b, c, ha, hb, hc, rfl⟩ : ∃ a b c : Nat, a < 256 ∧ b < 256 ∧ c < 256 ∧ x = a + 256 * (b + 256 * (c + 256 * 0)) := ⟨x % 256, x / 256 % 256, x / 65536, by omega, by omega, by omega, by omega⟩
  have va := kf_v ⟨a, ha⟩
  have vb := kf_v ⟨b, hb⟩
  have vc := kf_v ⟨c, hc⟩
  have e1 : kbc1 (a + 256 * (b + 256 * (c + 256 * 0))) = kf1 85 a + 256 * (kf1 85 b + 256 * (kf1 85 c + 256 * kf1 85 0)) := by
    rw [← kf1_s hc, ← kf1_s hb, ← kf1_s ha]
    unfold kf1 kbc1
    show _ - (((a + 256 * (b + 256 * (c + 256 * 0))) >>> 1) &&& 1431655765) = _
    rw [Nat.shiftRight_eq_div_pow]
  have e2 : kbc2 (kbc1 (a + 256 * (b + 256 * (c + 256 * 0)))) = kf2 51 (kf1 85 a) + 256 * (kf2 51 (kf1 85 b) + 256 * (kf2 51 (kf1 85 c) + 256 * kf2 51 (kf1 85 0))) := by
    rw [e1, ← kf2_s vc.1, ← kf2_s vb.1, ← kf2_s va.1]
    unfold kf2 kbc2
    show (_ &&& 858993459) + ((_ >>> 2) &&& 858993459) = _
    rw [Nat.shiftRight_eq_div_pow]
  have z0 : kf2 51 (kf1 85 0) = 0 := by decide
  have e3 : kbc3 (kbc2 (kbc1 (a + 256 * (b + 256 * (c + 256 * 0))))) = kf3 15 (kf2 51 (kf1 85 a)) + 256 * (kf3 15 (kf2 51 (kf1 85 b)) + 256 * (kf3 15 (kf2 51 (kf1 85 c)) + 256 * kf3 15 (kf2 51 (kf1 85 0)))) := by
    rw [e2, z0, ← kf3_s (M := 15) vc.2.1 (by omega), ← kf3_s vb.2.1 (by have := vc.2.2.1; omega), ← kf3_s va.2.1 (by have := vb.2.2.1; omega)]
    unfold kf3 kbc3
    show ((_ + (_ >>> 4)) &&& 252645135) = _
    rw [Nat.shiftRight_eq_div_pow]
  have z3 : kf3 15 (kf2 51 (kf1 85 0)) = 0 := by decide
  rw [z3] at e3
  have va4 := va.2.2.2.1
  have vb4 := vb.2.2.2.1
  have vc4 := vc.2.2.2.1
  have va5 := va.2.2.2.2
  have vb5 := vb.2.2.2.2
  have vc5 := vc.2.2.2.2
  have eg : gcb (a + 256 * (b + 256 * (c + 256 * 0))) = kf3 15 (kf2 51 (kf1 85 a)) + (kf3 15 (kf2 51 (kf1 85 b)) + kf3 15 (kf2 51 (kf1 85 c))) := by
    unfold gcb
    rw [gcb_c, gcb_by ha 23, gcb_by hb 15, gcb_by hc 7, va5, vb5, vc5, zct_z (fun i _ q => by rw [Nat.zero_testBit] at q; exact absurd q (by decide))]
    rfl
  rw [eg]
  unfold kbc
  rw [e3]
  generalize kf3 15 (kf2 51 (kf1 85 a)) = p at va4 ⊢
  generalize kf3 15 (kf2 51 (kf1 85 b)) = q at vb4 ⊢
  generalize kf3 15 (kf2 51 (kf1 85 c)) = r at vc4 ⊢
  have e4 : kbc4 (p + 256 * (q + 256 * (r + 256 * 0))) = (p + q) + 256 * (q + r) + 65536 * r := by
    unfold kbc4
    show _ + (_ >>> 8) = _
    rw [Nat.shiftRight_eq_div_pow]
    omega
  rw [e4]
  unfold kbc5
  show ((_ + (_ >>> 16)) &&& 63) = _
  rw [Nat.shiftRight_eq_div_pow]
  have e5 : ∀ z : Nat, z &&& 63 = z % 64 := fun z => Nat.and_two_pow_sub_one_eq_mod z 6
  have e6 : ((p + q) + 256 * (q + r) + 65536 * r) / 2 ^ 16 = r := by
    rw [show (2 : Nat) ^ 16 = 65536 by decide]
    omega
  rw [e6, e5]
  omega
def gOr (T : zGT) (m v : Nat) : Prop := 1 ≤ v ∧ gpw T m (v - 1) = 0 ∧ ∀ k, k + 1 < v → gpw T m k ≠ 0
theorem gpw_lt {T : zGT} (hG : gGd T) {m : Nat} (hm : m < gN T) : ∀ k, gpw T m k < gN T
  | 0 => hm
  | k + 1 => hG.2.2.2 _ _ (gpw_lt hG hm k) hm
theorem gpw_sh {T : zGT} {m i j : Nat} (h : gpw T m i = gpw T m j) : ∀ t, gpw T m (i + t) = gpw T m (j + t)
  | 0 => h
  | t + 1 => by
    show gm T (gpw T m (i + t)) m = gm T (gpw T m (j + t)) m
    rw [gpw_sh h t]
theorem gpw_le {T : zGT} {m : Nat} : ∀ n, (∃ k, k ≤ n ∧ gpw T m k = 0) → ∃ k, gpw T m k = 0 ∧ ∀ j, j < k → gpw T m j ≠ 0
  | 0, ⟨k, h1, h2⟩ => ⟨k, h2, fun j hj => by omega⟩
  | n + 1, ⟨k, h1, h2⟩ => by
    by_cases g : ∃ k, k ≤ n ∧ gpw T m k = 0
    · exact gpw_le n g
    · exact ⟨k, h2, fun j hj e => g ⟨j, by omega, e⟩⟩
theorem gOr_x {T : zGT} (hG : gGd T) (hX : gEx T) {m : Nat} (hm : m < gN T) : ∃ v, gOr T m v ∧ v ≤ 24 := by
  obtain ⟨K, -, hK⟩ := hX.1 m hm
  obtain ⟨k, h1, h2⟩ := gpw_le (T := T) (m := m) K ⟨K, Nat.le_refl _, hK⟩
  have hn : ((List.range (k + 1)).map (gpw T m)).Nodup := by
    rw [List.Nodup, List.pairwise_map]
    refine List.Pairwise.imp_of_mem ?_ (List.pairwise_lt_range (n := k + 1))
    intro a b ha hb hab e
    rw [List.mem_range] at ha hb
    have h3 := gpw_sh e (k - b)
    rw [show b + (k - b) = k by omega, h1] at h3
    exact h2 (a + (k - b)) (by omega) h3
  have h4 := nodup_len _ (List.range (gN T)) hn (fun x hx => by
    obtain ⟨i, -, rfl⟩ := List.mem_map.mp hx
    exact List.mem_range.mpr (gpw_lt hG hm i))
  rw [List.length_map, List.length_range, List.length_range] at h4
  have h5 := hG.2.1
  exact ⟨k + 1, ⟨by omega, h1, fun j hj => h2 j (by omega)⟩, by omega⟩
def gCe (T : zGT) (F k : Nat) : Nat → Prop := fun y => F.testBit y = true ∧ ∀ x, x < k → F.testBit x = true → gm T x y = gm T y x
def gCw (T : zGT) (F x : Nat) : Nat → Prop := fun y => F.testBit y = true ∧ gm T x y = gm T y x
theorem gCe_0 {T : zGT} {F n : Nat} (h : F < 2 ^ n) : F = zbq (gCe T F 0) n := Nat.eq_of_testBit_eq fun i => by
  rw [Bool.eq_iff_iff, zbq_t]
  constructor
  · intro hb
    exact ⟨gbit_lt h hb, hb, fun x hx => by omega⟩
  · intro hb
    exact hb.2.1
theorem gCe_s1 {T : zGT} {F n : Nat} {x c w : Int} (x0 : 0 ≤ x) (n24 : n ≤ 24) (hb : F.testBit x.toNat = true) (hc : c = ((zbq (gCe T F x.toNat) n : Nat) : Int)) (hw : w = ((zbq (gCw T F x.toNat) n : Nat) : Int)) : zand c w = ((zbq (gCe T F (x + 1).toNat) n : Nat) : Int) := by
  have h1 := zbq_lt (gCe T F x.toNat) n
  have h2 := zbq_lt (gCw T F x.toNat) n
  have h3 : 2 ^ n ≤ 2 ^ 24 := Nat.pow_le_pow_right (by omega) n24
  rw [hc, hw, zand_n _ _ (by omega) (by omega)]
  congr 1
  refine Nat.eq_of_testBit_eq fun i => ?_
  rw [Bool.eq_iff_iff, Nat.testBit_and, Bool.and_eq_true, zbq_t, zbq_t, zbq_t]
  unfold gCe gCw
  constructor
  · rintro ⟨⟨a1, a2, a3⟩, -, -, a4⟩
    refine ⟨a1, a2, fun y hy hyb => ?_⟩
    by_cases e : y = x.toNat
    · rw [e]
      exact a4
    · exact a3 y (by omega) hyb
  · rintro ⟨a1, a2, a3⟩
    exact ⟨⟨a1, a2, fun y hy hyb => a3 y (by omega) hyb⟩, a1, a2, a3 x.toNat (by omega) hb⟩
theorem gCe_s0 {T : zGT} {F n : Nat} {x c : Int} (x0 : 0 ≤ x) (hb : ¬ F.testBit x.toNat = true) (hc : c = ((zbq (gCe T F x.toNat) n : Nat) : Int)) : c = ((zbq (gCe T F (x + 1).toNat) n : Nat) : Int) := by
  rw [hc]
  congr 1
  refine zbq_c (fun y _ => ?_)
  unfold gCe
  constructor
  · rintro ⟨a2, a3⟩
    refine ⟨a2, fun z hz hzb => ?_⟩
    by_cases e : z = x.toNat
    · rw [e] at hzb
      exact absurd hzb hb
    · exact a3 z (by omega) hzb
  · rintro ⟨a2, a3⟩
    exact ⟨a2, fun z hz hzb => a3 z (by omega) hzb⟩
def zEn (T : zGT) (f : Nat → Nat) (m : Nat) : Prop := (∀ k, k < m → f k ∈ gS T) ∧ (∀ s, s ∈ gS T → ∃ k, k < m ∧ f k = s) ∧ ∀ i j, i < j → j < m → f i ≠ f j
noncomputable def zPb (p : Prop) : Bool := @decide p (Classical.propDecidable p)
theorem zPb_t {p : Prop} : zPb p = true ↔ p := @decide_eq_true_iff p (Classical.propDecidable p)
theorem zct_l (p : Nat → Prop) : ∀ m, zct p m = ((List.range m).filter (fun k => zPb (p k))).length
  | 0 => rfl
  | m + 1 => by
    have ih := zct_l p m
    rw [List.range_succ, List.filter_append, List.length_append, ← ih]
    by_cases h : p m
    · rw [zct_t h]
      have : List.filter (fun k => zPb (p k)) [m] = [m] := List.filter_cons_of_pos (zPb_t.mpr h)
      rw [this]
      rfl
    · rw [zct_f h]
      have : List.filter (fun k => zPb (p k)) [m] = [] := List.filter_cons_of_neg (fun q => h (zPb_t.mp q))
      rw [this]
      rfl
theorem zct_el {T : zGT} {f f' : Nat → Nat} {m m' : Nat} (p : Nat → Prop) (h : zEn T f m) (h' : zEn T f' m') : zct (fun k => p (f k)) m ≤ zct (fun k => p (f' k)) m' := by
  obtain ⟨a1, a2, a3⟩ := h
  obtain ⟨b1, b2, b3⟩ := h'
  rw [zct_l, zct_l]
  have h1 := nodup_len (((List.range m).filter (fun k => zPb (p (f k)))).map f) (((List.range m').filter (fun k => zPb (p (f' k)))).map f') (by
    rw [List.Nodup, List.pairwise_map]
    refine List.Pairwise.imp_of_mem ?_ (List.Pairwise.filter _ (List.pairwise_lt_range (n := m)))
    intro i j hi hj hij
    have hj2 := (List.mem_filter.mp hj).1
    rw [List.mem_range] at hj2
    exact a3 i j hij hj2) (fun x hx => by
    obtain ⟨k, hk, rfl⟩ := List.mem_map.mp hx
    obtain ⟨hk1, hk2⟩ := List.mem_filter.mp hk
    rw [List.mem_range] at hk1
    have hk2 := zPb_t.mp hk2
    obtain ⟨j, hj, e⟩ := b2 _ (a1 k hk1)
    refine List.mem_map.mpr ⟨j, List.mem_filter.mpr ⟨List.mem_range.mpr hj, zPb_t.mpr ?_⟩, e⟩
    rw [e]
    exact hk2)
  rw [List.length_map, List.length_map] at h1
  exact h1
theorem zct_en {T : zGT} {f f' : Nat → Nat} {m m' : Nat} (p : Nat → Prop) (h : zEn T f m) (h' : zEn T f' m') : zct (fun k => p (f k)) m = zct (fun k => p (f' k)) m' := Nat.le_antisymm (zct_el p h h') (zct_el p h' h)
theorem zLs.en {T : zGT} {f : Nat → Int} {m : Int} (h : zLs T f m) : zEn T (fun k => (f k).toNat) m.toNat := by
  obtain ⟨a1, a2, a3, a4⟩ := h
  refine ⟨fun k hk => (a2 k (by omega)).2, fun s hs => ?_, fun i j hij hj e => ?_⟩
  · obtain ⟨j, hj, e⟩ := a3 s hs
    exact ⟨j, by omega, e⟩
  · have h1 := a4 i j hij (by omega)
    have e2 : (f i).toNat = (f j).toNat := e
    unfold zkyK at h1
    rw [e2] at h1
    omega
theorem zJX.en {T : zGT} (hO : gOK T) {M : zMem} (h : zJX T M) : zEn T (fun k => (ze M 89 k).toNat) (ze M 81 25).toNat := by
  have h3 := h.1
  refine ⟨fun k hk => (h3.2.2.1 k (by omega)).2, fun s hs => ?_, fun i j hij hj e => ?_⟩
  · obtain ⟨q1, q2, q3⟩ := (hO.2.1.2.2 s hs).1
    obtain ⟨k, hk, e⟩ := zJ_all h.1 h.2 q2 q3
    refine ⟨k, by omega, ?_⟩
    show (ze M 89 k).toNat = s
    omega
  · have a1 := (h3.2.2.1 i (by omega)).1
    have a2 := (h3.2.2.1 j (by omega)).1
    exact h3.2.2.2 i j hij (by omega) (by have e2 : (ze M 89 i).toNat = (ze M 89 j).toNat := e; omega)
def gWi (T : zGT) (i : Int) (F : Nat) (s : Nat) : Prop := zSrt T s i ∧ s &&& F = s
def zfWi (T : zGT) (i : Int) (F : Nat) (v : Int) : Prop := ∃ f m, zEn T f m ∧ v = ((zct (fun k => gWi T i F (f k)) m : Nat) : Int)
theorem zfWi.u {T : zGT} {i : Int} {F : Nat} {v w : Int} (h : zfWi T i F v) (h2 : zfWi T i F w) : v = w := by
  obtain ⟨f, m, a1, rfl⟩ := h
  obtain ⟨f', m', b1, rfl⟩ := h2
  rw [zct_en _ a1 b1]
theorem zSrt.q {T : zGT} (hO : gOK T) {s : Nat} {v i : Int} (h : zSrt T s v) : v = i ↔ zSrt T s i := by
  constructor
  · intro e
    rw [← e]
    exact h
  · intro h2
    exact h.u hO h2
theorem gTb_c {mv : List Nat} {T : zGT} {c c' : Nat → Nat} (h : gTb mv c T) (h' : gTb mv c' T) : ∀ i, i < gN T → c i = c' i := by
  obtain ⟨a1, a2, a3, -⟩ := h
  obtain ⟨b1, b2, b3, -⟩ := h'
  have hset : ∀ y, (∃ i, i < gN T ∧ c i = y) ↔ (∃ i, i < gN T ∧ c' i = y) := fun y => (a2 y).symm.trans (b2 y)
  exact fun i hi => (gsort_u a3 b3 hset i hi).2
theorem zGc.dg {mv : List Nat} {P : Nat} {T : zGT} {d : Nat} {M : zMem} (h : zGc mv P T d M) (hP : P ≤ 6) {i p : Nat} (hi : i < gN T) (hp : p < P) : gdg (ze M (d + 5) i).toNat p = gdg (zCo P d M i) p := by
  show _ = gdg (zkc P (ze M (d + 5) i)) p
  rw [zkc_d (h.2.2 i hi) p (by omega), if_pos hp]
theorem zCdR.dg {P : Nat} {M : zMem} (hB : zB 85 144 0 5 M) {i p : Nat} (hi : i < 24) (hp : p < P) (hP : P ≤ 6) : ze M 85 (6 * i + p) = ((gdg (zrc M 85 i P) p : Nat) : Int) := by
  have hb : ∀ q : Nat, q < 6 → 0 ≤ ze M 85 (6 * i + q) ∧ ze M 85 (6 * i + q) ≤ 5 := fun q hq => by
    have := hB.g (e := ((6 * i + q : Nat) : Int)) (by omega) (by omega)
    rw [Int.toNat_natCast] at this
    exact this
  rw [zrc_d (fun q hq => by have := (hb q (by omega)).2; omega) p (by omega)]
  unfold zrd
  rw [if_pos (by omega)]
  have := (hb p (by omega)).1
  omega
def zImg (q : Nat → Prop) (g : Nat → Nat) (k : Nat) (x : Int) : Prop := (0 ≤ x ∧ x < 16777216) ∧ ∀ y, x.toNat.testBit y = true ↔ ∃ m, m < k ∧ q m ∧ g m = y
theorem zImg_0 {q : Nat → Prop} {g : Nat → Nat} : zImg q g 0 0 := by
  refine ⟨by omega, fun y => ?_⟩
  show Nat.testBit 0 y = true ↔ _
  rw [Nat.zero_testBit]
  constructor
  · intro h
    exact absurd h (by decide)
  · rintro ⟨m, hm, -⟩
    omega
theorem zImg_1 {q : Nat → Prop} {g : Nat → Nat} {k x v : Int} (k0 : 0 ≤ k) (h : zImg q g k.toNat x) (hq : q k.toNat) (hv : v = ((g k.toNat : Nat) : Int)) (h24 : g k.toNat < 24) : zImg q g (k + 1).toNat (zor x (zshl 1 v)) := by
  obtain ⟨⟨h1, h2⟩, h3⟩ := h
  rw [zorb h1 (by omega) (by omega) (by omega)]
  have hx : x.toNat < 2 ^ 24 := by omega
  have h4 : 2 ^ v.toNat < 2 ^ 24 := Nat.pow_lt_pow_right (by omega) (by omega)
  have h5 := Nat.or_lt_two_pow hx h4
  refine ⟨by omega, fun y => ?_⟩
  rw [Int.toNat_natCast, Nat.testBit_or, Bool.or_eq_true, h3 y, Nat.testBit_two_pow, decide_eq_true_iff]
  constructor
  · rintro (⟨m, a1, a2⟩ | a1)
    · exact ⟨m, by omega, a2⟩
    · exact ⟨k.toNat, by omega, hq, by omega⟩
  · rintro ⟨m, a1, a2, a3⟩
    by_cases e : m = k.toNat
    · rw [e] at a3
      exact Or.inr (by omega)
    · exact Or.inl ⟨m, by omega, a2, a3⟩
theorem zImg_n {q : Nat → Prop} {g : Nat → Nat} {k x : Int} (k0 : 0 ≤ k) (h : zImg q g k.toNat x) (hq : ¬ q k.toNat) : zImg q g (k + 1).toNat x := by
  refine ⟨h.1, fun y => (h.2 y).trans ⟨?_, ?_⟩⟩
  · rintro ⟨m, a1, a2⟩
    exact ⟨m, by omega, a2⟩
  · rintro ⟨m, a1, a2, a3⟩
    by_cases e : m = k.toNat
    · rw [e] at a2
      exact absurd a2 hq
    · exact ⟨m, by omega, a2, a3⟩
section ZMX
variable {T : zGT} {F : Nat} {x y r v : Int}
end ZMX
theorem zSS.o {T : zGT} (hO : gOK T) {M : zMem} (hF : zFirs T M) (hS : zSSm T M) {k : Nat} (hk : (k : Int) < ze M 81 25) : zSrt T (ze M 89 k).toNat (ze M 90 k) := by
  have h := hS k hk
  have hl := hF.1
  refine ⟨⟨h.1, by omega⟩, ?_⟩
  have h2 := hF.2 (ze M 90 k).toNat (by have := h.1; omega)
  unfold gFn
  have h3 := h.2.2
  rw [h2] at h3
  omega
def gAb (T : zGT) (F : Nat) : Prop := ∀ a b, a < gN T → b < gN T → F.testBit a = true → F.testBit b = true → gm T a b = gm T b a
def gNb (T : zGT) (F : Nat) : Nat → Prop := fun g => gtr T F g = F
theorem zct_o1 {p : Nat → Prop} {a : Nat} (ha : ¬ p a) : ∀ n, a < n → zct (fun y => p y ∨ y = a) n = zct p n + 1
  | 0, h => absurd h (Nat.not_lt_zero a)
  | n + 1, h => by
    by_cases e : a = n
    · rw [← e] at h ⊢
      rw [zct_t (p := fun y => p y ∨ y = a) (Or.inr rfl), zct_f ha, zct_c (p := fun y => p y ∨ y = a) (q := p) (fun i hi => ⟨fun q => by
        rcases q with q | q
        · exact q
        · omega, Or.inl⟩)]
    · have ih := zct_o1 ha n (by omega)
      by_cases g : p n
      · rw [zct_t (p := fun y => p y ∨ y = a) (Or.inl g), zct_t g, ih]
      · rw [zct_f (p := fun y => p y ∨ y = a) (fun q => by
          rcases q with q | q
          · exact g q
          · omega), zct_f g, ih]
section GPW
variable {T : zGT} {x V F : Nat}
end GPW
def zAbI (T : zGT) (F : Nat) (x y : Int) : Prop := ∀ a b : Nat, ((a : Int) < x ∨ ((a : Int) = x ∧ (b : Int) < y)) → a < gN T → b < gN T → F.testBit a = true → F.testBit b = true → gm T a b = gm T b a
section ZAB
variable {T : zGT} {F : Nat} {x y : Int}
theorem zAbI_0 : zAbI T F 0 0 := fun a b h => by omega
theorem zAbI_s (x0 : 0 ≤ x) (y0 : 0 ≤ y) (h : zAbI T F x y) (h2 : ¬ F.testBit x.toNat = true ∨ ¬ F.testBit y.toNat = true ∨ gm T x.toNat y.toNat = gm T y.toNat x.toNat) : zAbI T F x (y + 1) := fun a b hab ha hb fa fb => by
  by_cases e : a = x.toNat ∧ b = y.toNat
  · obtain ⟨rfl, rfl⟩ := e
    rcases h2 with h2 | h2 | h2
    · exact absurd fa h2
    · exact absurd fb h2
    · exact h2
  · exact h a b (by omega) ha hb fa fb
theorem zAbI_f (hy : (gN T : Int) ≤ y) (h : zAbI T F x y) : zAbI T F (x + 1) 0 := fun a b hab ha hb fa fb => h a b (by omega) ha hb fa fb
theorem zAbI_e (hx : (gN T : Int) ≤ x) (h : zAbI T F x 0) : gAb T F := fun a b ha hb fa fb => h a b (by omega) ha hb fa fb
theorem gAb_c (hn : F < 2 ^ gN T) : zbq (gCe T F (gN T)) (gN T) = F ↔ gAb T F := by
  constructor
  · intro h a b ha hb fa fb
    rw [← h, zbq_t] at fb
    exact fb.2.2 a ha fa
  · intro h
    refine Nat.eq_of_testBit_eq fun i => ?_
    rw [Bool.eq_iff_iff, zbq_t]
    constructor
    · exact fun q => q.2.1
    · exact fun q => ⟨gbit_lt hn q, q, fun a ha fa => h a i ha (gbit_lt hn q) fa q⟩
end ZAB
theorem zct_ip {p : Nat → Prop} {g : Nat → Nat} {n : Nat} : ∀ V, (∀ k, k < V → p k → g k < n) → (∀ i j, i < j → j < V → p i → p j → g i ≠ g j) → zct (fun y => ∃ k, k < V ∧ p k ∧ g k = y) n = zct p V
  | 0, _, _ => zct_z (fun i _ q => by
    obtain ⟨k, hk, -⟩ := q
    omega)
  | V + 1, h1, h2 => by
    have ih := zct_ip V (fun k hk => h1 k (by omega)) (fun i j hij hj => h2 i j hij (by omega))
    by_cases hp : p V
    · rw [zct_t hp, ← ih, zct_c (q := fun y => (∃ k, k < V ∧ p k ∧ g k = y) ∨ y = g V) (fun i _ => ⟨fun q => by
        obtain ⟨k, hk, e0, e⟩ := q
        by_cases e2 : k = V
        · rw [e2] at e
          exact Or.inr e.symm
        · exact Or.inl ⟨k, by omega, e0, e⟩, fun q => by
        rcases q with ⟨k, hk, e0, e⟩ | e
        · exact ⟨k, by omega, e0, e⟩
        · exact ⟨V, by omega, hp, e.symm⟩⟩), zct_o1 (p := fun y => ∃ k, k < V ∧ p k ∧ g k = y) (fun q => by
        obtain ⟨k, hk, e0, e⟩ := q
        exact h2 k V hk (by omega) e0 hp e) n (h1 V (by omega) hp)]
    · rw [zct_f hp, ← ih]
      exact zct_c (fun i _ => ⟨fun q => by
        obtain ⟨k, hk, e0, e⟩ := q
        by_cases e2 : k = V
        · rw [e2] at e0
          exact absurd e0 hp
        · exact ⟨k, by omega, e0, e⟩, fun q => by
        obtain ⟨k, hk, e0, e⟩ := q
        exact ⟨k, by omega, e0, e⟩⟩)
section GRS
variable {T : zGT} {s H R g p : Nat}
theorem gcb_nz {x n : Nat} (hx : x < 2 ^ n) (hn : n ≤ 31) : gcb x = zct (fun i => x.testBit i = true) n := by
  have e : x = zbq (fun i => x.testBit i = true) n := Nat.eq_of_testBit_eq fun i => by
    rw [Bool.eq_iff_iff, zbq_t]
    exact ⟨fun h => ⟨gbit_lt hx h, h⟩, fun h => h.2⟩
  conv => lhs; rw [e]
  exact gcb_z _ hn
theorem gGr.rc (hA : gGr T) (hG : gGd T) {a x y : Nat} (ha : a < gN T) (hx : x < gN T) (hy : y < gN T) (e : gm T x a = gm T y a) : x = y := by
  have i1 := hA.2 a ha
  rw [← hA.1.2.2 x hx, ← hA.1.2.2 y hy, ← i1.2, ← hA.1.1 _ _ _ hx ha i1.1, ← hA.1.1 _ _ _ hy ha i1.1, e]
end GRS
def zTrP (b : Nat → Int) (n s P : Nat) (mv : List Nat) (T : zGT) : Prop := ∃ q q2 q3 : Nat, ∃ nm : List (Int × (Nat → Int)), zHd b n s P q ∧ zRg (zbs b n P) (0, q, []) (1, q2, mv) ∧ T ∈ gTabs ∧ zTm mv T ∧ zRg (zls b n (gF T).length (gmkI T)) (0, q2, []) (1, q3, nm)
theorem zTrP.g {b : Nat → Int} {n s P : Nat} {mv : List Nat} {T : zGT} (h : zTrP b n s P mv T) : zTrG b n s mv T := by
  obtain ⟨q, q2, q3, nm, h⟩ := h
  exact ⟨P, q, q2, q3, nm, h⟩
theorem zTrP_u {b : Nat → Int} {n s P P' : Nat} {mv mv' : List Nat} {T T' : zGT} (h : zTrP b n s P mv T) (h' : zTrP b n s P' mv' T') : P = P' ∧ mv = mv' ∧ T = T' := by
  have hT := zTrG_u h.g h'.g
  obtain ⟨q, q2, q3, nm, a1, a2, -⟩ := h
  obtain ⟨q', q2', q3', nm', b1, b2, -⟩ := h'
  obtain ⟨rfl, rfl⟩ := zHd_u a1 b1
  exact ⟨rfl, (zTrG_m (s := s) a2 b2).2, hT⟩
def zKS (P : Nat) (mv : List Nat) (T : zGT) (d : Nat) (M : zMem) : Prop := zMvK mv P d M ∧ zGc mv P T d M ∧ zTt T d M ∧ zFir T d M ∧ zKm (gF T).length (gmkI T) d M ∧ zSbK T d M
