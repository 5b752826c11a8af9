set_option maxHeartbeats 40000000 in
theorem c_M_buildsF (l : Launch) (Mz : zMem) (hW : zMt Mz) (p0_ : 1 ≤ ze Mz 81 12) (p1_ : ze Mz 81 12 ≤ 6) (p2_ : 0 ≤ ze Mz 81 13) (p3_ : ze Mz 81 13 ≤ 4) (p4_ : zPm Mz) (p5_ : zFin Mz) (p6_ : zB 83 24 0 5 Mz) (p7_ : zB 85 144 0 5 Mz) : zC l m_M_builds 0 0 [.ref 81] Mz (zpV [20, 25, 26] [85, 86, 87, 88, 89, 90, 91, 92, 93, 94] Mz (fun N => ∃ T : zGT, T ∈ gTabs ∧ zGB T N ∧ zTm (zMvs Mz) T ∧ zCdS (ze Mz 81 12) (zMvs Mz) T N)) := by
  refine zC_of (L0 := [some (.ref 81), none, none, none]) md_M_builds (Nat.le_of_ble_eq_true rfl) rfl ?_ zQ0
  have hf : zFr [20, 25, 26] [85, 86, 87, 88, 89, 90, 91, 92, 93, 94] Mz Mz := zFr.rf
  have r_12 := ze_r Mz 81 12
  have r_13 := ze_r Mz 81 13
  have r_20 := ze_r Mz 81 20
  have r_25 := ze_r Mz 81 25
  have r_26 := ze_r Mz 81 26
  refine zw_aload_n (pc := 0) (n := 0) (x := 81) rfl (zdal_p dlC_M_builds_6 (i := 0) rfl) ?_
  refine zr_callV (hf.w hW) hf.x (pc := 1) [] [] l_M_226 (c_M_buildsMembersF l Mz (hf.w hW) (show 1 ≤ ze Mz 81 12 by first | assumption | omega) (show ze Mz 81 12 ≤ 6 by first | assumption | omega) (show 0 ≤ ze Mz 81 13 by first | assumption | omega) (show ze Mz 81 13 ≤ 4 by first | assumption | omega) p4_ p6_ p7_) rfl rfl rfl (by decide) (Nat.le_of_ble_eq_true rfl) (zdal_p dlC_M_builds_6 (i := 1) rfl) ?_
  rintro _ N1_ ⟨v2_, rfl, ⟨hv2_a, hv2_b⟩, hsN1_, ⟨hp0_N1_, hp1_N1_⟩⟩
  have hf_N1_ : zFr [20, 25, 26] [85, 86, 87, 88, 89, 90, 91, 92, 93, 94] Mz N1_ := hf.tr hsN1_ (by decide) (by decide)
  have e12_N1_ : ze N1_ 81 12 = ze Mz 81 12 := hsN1_.e (by decide)
  have e13_N1_ : ze N1_ 81 13 = ze Mz 81 13 := hsN1_.e (by decide)
  have r20_N1_ := ze_r N1_ 81 20
  have e25_N1_ : ze N1_ 81 25 = ze Mz 81 25 := hsN1_.e (by decide)
  have e26_N1_ : ze N1_ 81 26 = ze Mz 81 26 := hsN1_.e (by decide)
  have c3_ : zPm N1_ := zPm.fr hsN1_ p4_ (by decide) (by decide)
  have c4_ : zFin N1_ := zFin.fr hsN1_ p5_ (by decide) (by decide)
  have c5_ : zB 83 24 0 5 N1_ := zB.fr hsN1_ p6_ (by decide) (by decide)
  rcases hp1_N1_ with ⟨rfl, ha1_0_hp1_N1_, ha1_1_hp1_N1_, ha1_2_hp1_N1_, ha1_3_hp1_N1_⟩ | ⟨rfl, ha1_0_hp1_N1_⟩
  · skip
    obtain ⟨T, hTt, hTab, hCd_⟩ := id ha1_3_hp1_N1_
    have hO := gTabs_ok T hTt
    have hG := hO.1
    have g24 := hG.2.1
    have g1 := hG.1
    have gn := hTab.1
    have gl := gF_pos hO
    have hTm_ : zTm (zMvs Mz) T := ⟨_, hCd_⟩
    show zW l m_M_builds (zn Mz + 0, zw Mz + 0) N1_ 4 [some (.ref 81), none, none, none] [.int (Int32.ofInt 1)] _
    refine zw_pop (pc := 4) rfl (zdal_p dlC_M_builds_6 (i := 2) rfl) ?_
    refine zw_aload_n (pc := 5) (n := 0) (x := 81) rfl (zdal_p dlC_M_builds_6 (i := 3) rfl) ?_
    refine zw_iconst (pc := 6) (v := Int32.ofInt 1) (by decide) (zdal_p dlC_M_builds_6 (i := 4) rfl) ?_
    refine zr_putI (hf_N1_.w hW) (pc := 7) f_M_220 rfl rfl ⟨by (exact hv2_a), by (exact hv2_b)⟩ rfl rfl (zdal_p dlC_M_builds_6 (i := 5) rfl) (fun N6_ hsN6_ hvN6_ => ?_)
    have hf_N6_ : zFr [20, 25, 26] [85, 86, 87, 88, 89, 90, 91, 92, 93, 94] Mz N6_ := hf_N1_.tr hsN6_ (by decide) (by decide)
    have e12_N6_ : ze N6_ 81 12 = ze N1_ 81 12 := hsN6_.e (by decide)
    have e13_N6_ : ze N6_ 81 13 = ze N1_ 81 13 := hsN6_.e (by decide)
    have e20_N6_ : ze N6_ 81 20 = ze N1_ 81 20 := hsN6_.e (by decide)
    have r25_N6_ := ze_r N6_ 81 25
    have e26_N6_ : ze N6_ 81 26 = ze N1_ 81 26 := hsN6_.e (by decide)
    have c7_ : zPm N6_ := zPm.fr hsN6_ c3_ (by decide) (by decide)
    have c8_ : zFin N6_ := zFin.fr hsN6_ c4_ (by decide) (by decide)
    have c9_ : zB 83 24 0 5 N6_ := zB.fr hsN6_ c5_ (by decide) (by decide)
    have c10_ : zB 85 144 0 5 N6_ := zB.fr hsN6_ hp0_N1_ (by decide) (by decide)
    have c11_ : zTab T N6_ := zTab.fr hsN6_ hTab (by decide) (by decide)
    have c12_ : zCdR (ze Mz 81 12) (zMvs Mz) T N6_ := zCdR.fr hsN6_ hCd_ (by decide) (by decide)
    refine zw_aload_n (pc := 10) (n := 0) (x := 81) rfl (zdal_p dlC_M_builds_6 (i := 6) rfl) ?_
    refine zr_getF (r := 89) (hf_N6_.w hW) (pc := 11) f_M_38 rfl (zh_89 (hf_N6_.w hW)).1 (zdal_p dlC_M_builds_6 (i := 7) rfl) ?_
    refine zw_iconst (pc := 14) (v := Int32.ofInt 0) (by decide) (zdal_p dlC_M_builds_6 (i := 8) rfl) ?_
    refine zw_iconst (pc := 15) (v := Int32.ofInt 1) (by decide) (zdal_p dlC_M_builds_6 (i := 9) rfl) ?_
    refine zr_iast (pc := 16) (zh_89 (hf_N6_.w hW)).2 (by decide) (by decide) (by (decide)) (by (decide)) (zdal_p dlC_M_builds_6 (i := 10) rfl) (fun N13_ hN13_ hsN13_ => ?_)
    have hf_N13_ : zFr [20, 25, 26] [85, 86, 87, 88, 89, 90, 91, 92, 93, 94] Mz N13_ := hf_N6_.tr hsN13_ (by decide) (by decide)
    have e12_N13_ : ze N13_ 81 12 = ze N6_ 81 12 := hsN13_.e (by decide)
    have e13_N13_ : ze N13_ 81 13 = ze N6_ 81 13 := hsN13_.e (by decide)
    have e20_N13_ : ze N13_ 81 20 = ze N6_ 81 20 := hsN13_.e (by decide)
    have e25_N13_ : ze N13_ 81 25 = ze N6_ 81 25 := hsN13_.e (by decide)
    have e26_N13_ : ze N13_ 81 26 = ze N6_ 81 26 := hsN13_.e (by decide)
    have c14_ : zPm N13_ := zPm.fr hsN13_ c7_ (by decide) (by decide)
    have c15_ : zFin N13_ := zFin.fr hsN13_ c8_ (by decide) (by decide)
    have c16_ : zB 83 24 0 5 N13_ := zB.fr hsN13_ c9_ (by decide) (by decide)
    have c17_ : zB 85 144 0 5 N13_ := zB.fr hsN13_ c10_ (by decide) (by decide)
    have c18_ : zTab T N13_ := zTab.fr hsN13_ c11_ (by decide) (by decide)
    have c19_ : zCdR (ze Mz 81 12) (zMvs Mz) T N13_ := zCdR.fr hsN13_ c12_ (by decide) (by decide)
    have hz0 : ze N13_ 89 0 = 1 := zs_get hN13_ ⟨by decide, by decide⟩
    refine zw_iconst (pc := 17) (v := Int32.ofInt 0) (by decide) (zdal_p dlC_M_builds_6 (i := 11) rfl) ?_
    refine zw_istore_n (pc := 18) (i := 1) (L2 := [some (.ref 81), some (.int (Int32.ofInt 0)), none, none]) rfl (by decide) rfl (zdal_p dlC_M_builds_6 (i := 12) rfl) ?_
    have lp_19 : ∀ (n : Nat) (u20_ : Int) (hu20_a : -2147483648 ≤ u20_) (hu20_b : u20_ < 2147483648) (N21_ : zMem) (hs22_ : zFr [25] [89] N13_ N21_) (i23_ : ze N21_ 81 20 = (gN T : Int)) (i24_ : 1 ≤ ze N21_ 81 25) (i25_ : ze N21_ 81 25 ≤ 64) (i26_ : 0 ≤ u20_) (i27_ : u20_ ≤ ze N21_ 81 25) (i28_ : zJ T N21_ (ze N21_ 81 25)) (i29_ : zX T N21_ (ze N21_ 81 25) u20_ 0), (65 - u20_).toNat < n → zW l m_M_builds (zn Mz + 0, zw Mz + 0) N21_ 19 [some (.ref 81), some (.int (Int32.ofInt u20_)), none, none] [] (zpV [20, 25, 26] [85, 86, 87, 88, 89, 90, 91, 92, 93, 94] Mz (fun N => ∃ T : zGT, T ∈ gTabs ∧ zGB T N ∧ zTm (zMvs Mz) T ∧ zCdS (ze Mz 81 12) (zMvs Mz) T N)) := by
      clear hsN1_ hv2_a hv2_b hp0_N1_ hf_N1_ e12_N1_ e13_N1_ r20_N1_ e25_N1_ e26_N1_ c3_ c4_ c5_ ha1_1_hp1_N1_ ha1_2_hp1_N1_ ha1_3_hp1_N1_ hsN6_ hvN6_ hf_N6_ e12_N6_ e13_N6_ e20_N6_ r25_N6_ e26_N6_ c7_ c8_ c9_ c10_ c11_ c12_ hsN13_ hN13_ e12_N13_ e13_N13_ e20_N13_ e25_N13_ e26_N13_
      intro n
      induction n with
      | zero =>
        intro u20_ hu20_a hu20_b N21_ hs22_ i23_ i24_ i25_ i26_ i27_ i28_ i29_ h0
        exact absurd h0 (Nat.not_lt_zero _)
      | succ n ih_19 =>
        intro u20_ hu20_a hu20_b N21_ hs22_ i23_ i24_ i25_ i26_ i27_ i28_ i29_ hlt_19
        have hf_N21_ : zFr [20, 25, 26] [85, 86, 87, 88, 89, 90, 91, 92, 93, 94] Mz N21_ := hf_N13_.tr hs22_ (by decide) (by decide)
        have e12_N21_ : ze N21_ 81 12 = ze N13_ 81 12 := hs22_.e (by decide)
        have e13_N21_ : ze N21_ 81 13 = ze N13_ 81 13 := hs22_.e (by decide)
        have e20_N21_ : ze N21_ 81 20 = ze N13_ 81 20 := hs22_.e (by decide)
        have r25_N21_ := ze_r N21_ 81 25
        have e26_N21_ : ze N21_ 81 26 = ze N13_ 81 26 := hs22_.e (by decide)
        have c30_ : zPm N21_ := zPm.fr hs22_ c14_ (by decide) (by decide)
        have c31_ : zFin N21_ := zFin.fr hs22_ c15_ (by decide) (by decide)
        have c32_ : zB 83 24 0 5 N21_ := zB.fr hs22_ c16_ (by decide) (by decide)
        have c33_ : zB 85 144 0 5 N21_ := zB.fr hs22_ c17_ (by decide) (by decide)
        have c34_ : zTab T N21_ := zTab.fr hs22_ c18_ (by decide) (by decide)
        have c35_ : zCdR (ze Mz 81 12) (zMvs Mz) T N21_ := zCdR.fr hs22_ c19_ (by decide) (by decide)
        have zz12_N21_ : ze N21_ 81 12 = ze Mz 81 12 := hf_N21_.e (by decide)
        have zz13_N21_ : ze N21_ 81 13 = ze Mz 81 13 := hf_N21_.e (by decide)
        refine zw_iload_n (pc := 19) (n := 1) (x := Int32.ofInt u20_) rfl (zdal_p dlC_M_builds_6 (i := 13) rfl) ?_
        refine zw_aload_n (pc := 20) (n := 0) (x := 81) rfl (zdal_p dlC_M_builds_6 (i := 14) rfl) ?_
        refine zr_getI (hf_N21_.w hW) (pc := 21) f_M_220 rfl (zdal_p dlC_M_builds_6 (i := 15) rfl) ?_
        refine zr_icmp_ge (pc := 24) (tgt := 112) ⟨hu20_a, hu20_b⟩ ⟨(ze_r N21_ 81 25).1, (ze_r N21_ 81 25).2⟩ (by decide) (zdal_p dlC_M_builds_6 (i := 16) rfl) (fun hc_24 => ?_) (fun hc_24 => ?_)
        · skip
          have hJX : zJX T N21_ := ⟨by assumption, by have h := (show zX T N21_ (ze N21_ 81 25) u20_ 0 by assumption); rwa [show u20_ = ze N21_ 81 25 by (exact zo_516 hc_24 hu20_b i24_ i25_ i27_)] at h⟩
          refine zw_aload_n (pc := 112) (n := 0) (x := 81) rfl (zdal_p dlC_M_builds_8 (i := 16) rfl) ?_
          refine zw_iconst (pc := 113) (v := Int32.ofInt 0) (by decide) (zdal_p dlC_M_builds_8 (i := 17) rfl) ?_
          refine zr_putI (hf_N21_.w hW) (pc := 114) f_M_235 rfl rfl ⟨by (decide), by (decide)⟩ rfl rfl (zdal_p dlC_M_builds_8 (i := 18) rfl) (fun N36_ hsN36_ hvN36_ => ?_)
          have hf_N36_ : zFr [20, 25, 26] [85, 86, 87, 88, 89, 90, 91, 92, 93, 94] Mz N36_ := hf_N21_.tr hsN36_ (by decide) (by decide)
          have e12_N36_ : ze N36_ 81 12 = ze N21_ 81 12 := hsN36_.e (by decide)
          have e13_N36_ : ze N36_ 81 13 = ze N21_ 81 13 := hsN36_.e (by decide)
          have e20_N36_ : ze N36_ 81 20 = ze N21_ 81 20 := hsN36_.e (by decide)
          have e25_N36_ : ze N36_ 81 25 = ze N21_ 81 25 := hsN36_.e (by decide)
          have r26_N36_ := ze_r N36_ 81 26
          have c37_ : zPm N36_ := zPm.fr hsN36_ c30_ (by decide) (by decide)
          have c38_ : zFin N36_ := zFin.fr hsN36_ c31_ (by decide) (by decide)
          have c39_ : zB 83 24 0 5 N36_ := zB.fr hsN36_ c32_ (by decide) (by decide)
          have c40_ : zB 85 144 0 5 N36_ := zB.fr hsN36_ c33_ (by decide) (by decide)
          have c41_ : zTab T N36_ := zTab.fr hsN36_ c34_ (by decide) (by decide)
          have c42_ : zCdR (ze Mz 81 12) (zMvs Mz) T N36_ := zCdR.fr hsN36_ c35_ (by decide) (by decide)
          have c43_ : zJX T N36_ := zJX.fr hsN36_ hJX (by decide) (by decide)
          have hF0 := zFl_0 (T := T) (M := N36_) (by (exact hvN36_))
          refine zw_iconst (pc := 117) (v := Int32.ofInt 0) (by decide) (zdal_p dlC_M_builds_8 (i := 19) rfl) ?_
          refine zw_istore_n (pc := 118) (i := 1) (L2 := [some (.ref 81), some (.int (Int32.ofInt 0)), none, none]) rfl (by decide) rfl (zdal_p dlC_M_builds_8 (i := 20) rfl) ?_
          have lp_119 : ∀ (n : Nat) (u44_ : Int) (hu44_a : -2147483648 ≤ u44_) (hu44_b : u44_ < 2147483648) (N45_ : zMem) (hs46_ : zFr [26] [91] N36_ N45_) (i47_ : ze N45_ 81 20 = (gN T : Int)) (i48_ : 1 ≤ ze N45_ 81 25) (i49_ : ze N45_ 81 25 ≤ 64) (i50_ : 0 ≤ u44_) (i51_ : u44_ ≤ ze N45_ 81 25) (i52_ : zFl T N45_ u44_) (i53_ : zJX T N45_), (65 - u44_).toNat < n → zW l m_M_builds (zn Mz + 0, zw Mz + 0) N45_ 119 [some (.ref 81), some (.int (Int32.ofInt u44_)), none, none] [] (zpV [20, 25, 26] [85, 86, 87, 88, 89, 90, 91, 92, 93, 94] Mz (fun N => ∃ T : zGT, T ∈ gTabs ∧ zGB T N ∧ zTm (zMvs Mz) T ∧ zCdS (ze Mz 81 12) (zMvs Mz) T N)) := by
            clear hf_N13_ c14_ c15_ c16_ c17_ c18_ c19_ hz0 hu20_a hu20_b hs22_ i26_ e12_N21_ e13_N21_ e20_N21_ e26_N21_
            intro n
            induction n with
            | zero =>
              intro u44_ hu44_a hu44_b N45_ hs46_ i47_ i48_ i49_ i50_ i51_ i52_ i53_ h0
              exact absurd h0 (Nat.not_lt_zero _)
            | succ n ih_119 =>
              intro u44_ hu44_a hu44_b N45_ hs46_ i47_ i48_ i49_ i50_ i51_ i52_ i53_ hlt_119
              have hf_N45_ : zFr [20, 25, 26] [85, 86, 87, 88, 89, 90, 91, 92, 93, 94] Mz N45_ := hf_N36_.tr hs46_ (by decide) (by decide)
              have e12_N45_ : ze N45_ 81 12 = ze N36_ 81 12 := hs46_.e (by decide)
              have e13_N45_ : ze N45_ 81 13 = ze N36_ 81 13 := hs46_.e (by decide)
              have e20_N45_ : ze N45_ 81 20 = ze N36_ 81 20 := hs46_.e (by decide)
              have e25_N45_ : ze N45_ 81 25 = ze N36_ 81 25 := hs46_.e (by decide)
              have r26_N45_ := ze_r N45_ 81 26
              have c54_ : zPm N45_ := zPm.fr hs46_ c37_ (by decide) (by decide)
              have c55_ : zFin N45_ := zFin.fr hs46_ c38_ (by decide) (by decide)
              have c56_ : zB 83 24 0 5 N45_ := zB.fr hs46_ c39_ (by decide) (by decide)
              have c57_ : zB 85 144 0 5 N45_ := zB.fr hs46_ c40_ (by decide) (by decide)
              have c58_ : zTab T N45_ := zTab.fr hs46_ c41_ (by decide) (by decide)
              have c59_ : zCdR (ze Mz 81 12) (zMvs Mz) T N45_ := zCdR.fr hs46_ c42_ (by decide) (by decide)
              have zz12_N45_ : ze N45_ 81 12 = ze Mz 81 12 := hf_N45_.e (by decide)
              have zz13_N45_ : ze N45_ 81 13 = ze Mz 81 13 := hf_N45_.e (by decide)
              refine zw_iload_n (pc := 119) (n := 1) (x := Int32.ofInt u44_) rfl (zdal_p dlC_M_builds_8 (i := 21) rfl) ?_
              refine zw_aload_n (pc := 120) (n := 0) (x := 81) rfl (zdal_p dlC_M_builds_8 (i := 22) rfl) ?_
              refine zr_getI (hf_N45_.w hW) (pc := 121) f_M_220 rfl (zdal_p dlC_M_builds_8 (i := 23) rfl) ?_
              refine zr_icmp_ge (pc := 124) (tgt := 162) ⟨hu44_a, hu44_b⟩ ⟨(ze_r N45_ 81 25).1, (ze_r N45_ 81 25).2⟩ (by decide) (zdal_p dlC_M_builds_9 (i := 0) rfl) (fun hc_124 => ?_) (fun hc_124 => ?_)
              · skip
                have hFi : zFirs T N45_ := by have h := (show zFl T N45_ u44_ by assumption); rw [show u44_ = ze N45_ 81 25 by (exact zo_516 hc_124 hu44_b i48_ i49_ i51_)] at h; exact zFl_e hO i53_.1 i53_.2 h
                have hFl := hFi.1
                refine zw_iconst (pc := 162) (v := Int32.ofInt 0) (by decide) (zdal_p dlC_M_builds_9 (i := 20) rfl) ?_
                refine zw_istore_n (pc := 163) (i := 1) (L2 := [some (.ref 81), some (.int (Int32.ofInt 0)), none, none]) rfl (by decide) rfl (zdal_p dlC_M_builds_9 (i := 21) rfl) ?_
                have lp_164 : ∀ (n : Nat) (u60_ : Int) (hu60_a : -2147483648 ≤ u60_) (hu60_b : u60_ < 2147483648) (N61_ : zMem) (hs62_ : zFr [] [92] N45_ N61_) (i63_ : ze N61_ 81 20 = (gN T : Int)) (i64_ : 1 ≤ ze N61_ 81 25) (i65_ : ze N61_ 81 25 ≤ 64) (i66_ : ze N61_ 81 26 = ((gF T).length : Int)) (i67_ : 0 ≤ u60_) (i68_ : ∀ i_ : Nat, (i_ : Int) < u60_ → ze N61_ 92 i_ = 0), (65 - u60_).toNat < n → zW l m_M_builds (zn Mz + 0, zw Mz + 0) N61_ 164 [some (.ref 81), some (.int (Int32.ofInt u60_)), none, none] [] (zpV [20, 25, 26] [85, 86, 87, 88, 89, 90, 91, 92, 93, 94] Mz (fun N => ∃ T : zGT, T ∈ gTabs ∧ zGB T N ∧ zTm (zMvs Mz) T ∧ zCdS (ze Mz 81 12) (zMvs Mz) T N)) := by
                  clear hsN36_ hvN36_ hf_N36_ e12_N36_ e13_N36_ e20_N36_ e25_N36_ r26_N36_ c37_ c38_ c39_ c40_ c41_ c42_ c43_ hF0 hu44_a hu44_b hs46_ i50_ e12_N45_ e13_N45_ e20_N45_ e25_N45_
                  intro n
                  induction n with
                  | zero =>
                    intro u60_ hu60_a hu60_b N61_ hs62_ i63_ i64_ i65_ i66_ i67_ i68_ h0
                    exact absurd h0 (Nat.not_lt_zero _)
                  | succ n ih_164 =>
                    intro u60_ hu60_a hu60_b N61_ hs62_ i63_ i64_ i65_ i66_ i67_ i68_ hlt_164
                    have hf_N61_ : zFr [20, 25, 26] [85, 86, 87, 88, 89, 90, 91, 92, 93, 94] Mz N61_ := hf_N45_.tr hs62_ (by decide) (by decide)
                    have e12_N61_ : ze N61_ 81 12 = ze N45_ 81 12 := hs62_.e (by decide)
                    have e13_N61_ : ze N61_ 81 13 = ze N45_ 81 13 := hs62_.e (by decide)
                    have e20_N61_ : ze N61_ 81 20 = ze N45_ 81 20 := hs62_.e (by decide)
                    have e25_N61_ : ze N61_ 81 25 = ze N45_ 81 25 := hs62_.e (by decide)
                    have e26_N61_ : ze N61_ 81 26 = ze N45_ 81 26 := hs62_.e (by decide)
                    have c69_ : zPm N61_ := zPm.fr hs62_ c54_ (by decide) (by decide)
                    have c70_ : zFin N61_ := zFin.fr hs62_ c55_ (by decide) (by decide)
                    have c71_ : zB 83 24 0 5 N61_ := zB.fr hs62_ c56_ (by decide) (by decide)
                    have c72_ : zB 85 144 0 5 N61_ := zB.fr hs62_ c57_ (by decide) (by decide)
                    have c73_ : zTab T N61_ := zTab.fr hs62_ c58_ (by decide) (by decide)
                    have c74_ : zCdR (ze Mz 81 12) (zMvs Mz) T N61_ := zCdR.fr hs62_ c59_ (by decide) (by decide)
                    have c75_ : zJX T N61_ := zJX.fr hs62_ i53_ (by decide) (by decide)
                    have c76_ : zFirs T N61_ := zFirs.fr hs62_ hFi (by decide) (by decide)
                    have zz12_N61_ : ze N61_ 81 12 = ze Mz 81 12 := hf_N61_.e (by decide)
                    have zz13_N61_ : ze N61_ 81 13 = ze Mz 81 13 := hf_N61_.e (by decide)
                    have hz1_ := (show ∀ i_ : Nat, (i_ : Int) < u60_ → ze N61_ 92 i_ = 0 by assumption)
                    refine zw_iload_n (pc := 164) (n := 1) (x := Int32.ofInt u60_) rfl (zdal_p dlC_M_builds_9 (i := 22) rfl) ?_
                    refine zw_aload_n (pc := 165) (n := 0) (x := 81) rfl (zdal_p dlC_M_builds_9 (i := 23) rfl) ?_
                    refine zr_getI (hf_N61_.w hW) (pc := 166) f_M_235 rfl (zdal_p dlC_M_builds_10 (i := 0) rfl) ?_
                    refine zr_icmp_ge (pc := 169) (tgt := 185) ⟨hu60_a, hu60_b⟩ ⟨(ze_r N61_ 81 26).1, (ze_r N61_ 81 26).2⟩ (by decide) (zdal_p dlC_M_builds_10 (i := 1) rfl) (fun hc_169 => ?_) (fun hc_169 => ?_)
                    · skip
                      have hz3_ : ∀ i_ : Nat, (i_ : Int) < ((gF T).length : Int) → ze N61_ 92 i_ = 0 := fun i_ hi_ => hz1_ i_ (by (exact zo_517 gl.2 hc_169 hi_ i66_ i67_))
                      refine zw_iconst (pc := 185) (v := Int32.ofInt 0) (by decide) (zdal_p dlC_M_builds_10 (i := 9) rfl) ?_
                      refine zw_istore_n (pc := 186) (i := 1) (L2 := [some (.ref 81), some (.int (Int32.ofInt 0)), none, none]) rfl (by decide) rfl (zdal_p dlC_M_builds_10 (i := 10) rfl) ?_
                      have lp_187 : ∀ (n : Nat) (u77_ : Int) (hu77_a : -2147483648 ≤ u77_) (hu77_b : u77_ < 2147483648) (N78_ : zMem) (hs79_ : zFr [] [90, 92] N61_ N78_) (i80_ : ze N78_ 81 20 = (gN T : Int)) (i81_ : 1 ≤ ze N78_ 81 25) (i82_ : ze N78_ 81 25 ≤ 64) (i83_ : ze N78_ 81 26 = ((gF T).length : Int)) (i84_ : 0 ≤ u77_) (i85_ : u77_ ≤ ze N78_ 81 25) (i86_ : zSS T N78_ u77_) (i87_ : zSoF N78_ ((gF T).length : Int) u77_), (65 - u77_).toNat < n → zW l m_M_builds (zn Mz + 0, zw Mz + 0) N78_ 187 [some (.ref 81), some (.int (Int32.ofInt u77_)), none, none] [] (zpV [20, 25, 26] [85, 86, 87, 88, 89, 90, 91, 92, 93, 94] Mz (fun N => ∃ T : zGT, T ∈ gTabs ∧ zGB T N ∧ zTm (zMvs Mz) T ∧ zCdS (ze Mz 81 12) (zMvs Mz) T N)) := by
                        clear hu60_a hu60_b i67_
                        intro n
                        induction n with
                        | zero =>
                          intro u77_ hu77_a hu77_b N78_ hs79_ i80_ i81_ i82_ i83_ i84_ i85_ i86_ i87_ h0
                          exact absurd h0 (Nat.not_lt_zero _)
                        | succ n ih_187 =>
                          intro u77_ hu77_a hu77_b N78_ hs79_ i80_ i81_ i82_ i83_ i84_ i85_ i86_ i87_ hlt_187
                          have hf_N78_ : zFr [20, 25, 26] [85, 86, 87, 88, 89, 90, 91, 92, 93, 94] Mz N78_ := hf_N61_.tr hs79_ (by decide) (by decide)
                          have e12_N78_ : ze N78_ 81 12 = ze N61_ 81 12 := hs79_.e (by decide)
                          have e13_N78_ : ze N78_ 81 13 = ze N61_ 81 13 := hs79_.e (by decide)
                          have e20_N78_ : ze N78_ 81 20 = ze N61_ 81 20 := hs79_.e (by decide)
                          have e25_N78_ : ze N78_ 81 25 = ze N61_ 81 25 := hs79_.e (by decide)
                          have e26_N78_ : ze N78_ 81 26 = ze N61_ 81 26 := hs79_.e (by decide)
                          have c88_ : zPm N78_ := zPm.fr hs79_ c69_ (by decide) (by decide)
                          have c89_ : zFin N78_ := zFin.fr hs79_ c70_ (by decide) (by decide)
                          have c90_ : zB 83 24 0 5 N78_ := zB.fr hs79_ c71_ (by decide) (by decide)
                          have c91_ : zB 85 144 0 5 N78_ := zB.fr hs79_ c72_ (by decide) (by decide)
                          have c92_ : zTab T N78_ := zTab.fr hs79_ c73_ (by decide) (by decide)
                          have c93_ : zCdR (ze Mz 81 12) (zMvs Mz) T N78_ := zCdR.fr hs79_ c74_ (by decide) (by decide)
                          have c94_ : zJX T N78_ := zJX.fr hs79_ c75_ (by decide) (by decide)
                          have c95_ : zFirs T N78_ := zFirs.fr hs79_ c76_ (by decide) (by decide)
                          have zz12_N78_ : ze N78_ 81 12 = ze Mz 81 12 := hf_N78_.e (by decide)
                          have zz13_N78_ : ze N78_ 81 13 = ze Mz 81 13 := hf_N78_.e (by decide)
                          have hso_ := (show zSoF N78_ ((gF T).length : Int) u77_ by assumption)
                          refine zw_iload_n (pc := 187) (n := 1) (x := Int32.ofInt u77_) rfl (zdal_p dlC_M_builds_10 (i := 11) rfl) ?_
                          refine zw_aload_n (pc := 188) (n := 0) (x := 81) rfl (zdal_p dlC_M_builds_10 (i := 12) rfl) ?_
                          refine zr_getI (hf_N78_.w hW) (pc := 189) f_M_220 rfl (zdal_p dlC_M_builds_10 (i := 13) rfl) ?_
                          refine zr_icmp_ge (pc := 192) (tgt := 236) ⟨hu77_a, hu77_b⟩ ⟨(ze_r N78_ 81 25).1, (ze_r N78_ 81 25).2⟩ (by decide) (zdal_p dlC_M_builds_10 (i := 14) rfl) (fun hc_192 => ?_) (fun hc_192 => ?_)
                          · skip
                            have hSS : zSSm T N78_ := by have h := (show zSS T N78_ u77_ by assumption); rw [show u77_ = ze N78_ 81 25 by (exact zo_516 hc_192 hu77_b i81_ i82_ i85_)] at h; exact h
                            have hSoM_ : zSoM T N78_ := by have h_ := hso_; unfold zSoM; rwa [show u77_ = ze N78_ 81 25 by (exact zo_516 hc_192 hu77_b i81_ i82_ i85_)] at h_
                            refine zw_iconst (pc := 236) (v := Int32.ofInt 0) (by decide) (zdal_p dlC_M_builds_11 (i := 16) rfl) ?_
                            refine zw_istore_n (pc := 237) (i := 1) (L2 := [some (.ref 81), some (.int (Int32.ofInt 0)), none, none]) rfl (by decide) rfl (zdal_p dlC_M_builds_11 (i := 17) rfl) ?_
                            have lp_238 : ∀ (n : Nat) (u96_ : Int) (hu96_a : -2147483648 ≤ u96_) (hu96_b : u96_ < 2147483648) (N97_ : zMem) (hs98_ : zFr [] [94] N78_ N97_) (i99_ : ze N97_ 81 20 = (gN T : Int)) (i100_ : 1 ≤ ze N97_ 81 25) (i101_ : ze N97_ 81 25 ≤ 64) (i102_ : ze N97_ 81 26 = ((gF T).length : Int)) (i103_ : 0 ≤ u96_) (i104_ : u96_ ≤ ze N97_ 81 26) (i105_ : zCs T N97_ u96_), (65 - u96_).toNat < n → zW l m_M_builds (zn Mz + 0, zw Mz + 0) N97_ 238 [some (.ref 81), some (.int (Int32.ofInt u96_)), none, none] [] (zpV [20, 25, 26] [85, 86, 87, 88, 89, 90, 91, 92, 93, 94] Mz (fun N => ∃ T : zGT, T ∈ gTabs ∧ zGB T N ∧ zTm (zMvs Mz) T ∧ zCdS (ze Mz 81 12) (zMvs Mz) T N)) := by
                              clear hu77_a hu77_b i84_
                              intro n
                              induction n with
                              | zero =>
                                intro u96_ hu96_a hu96_b N97_ hs98_ i99_ i100_ i101_ i102_ i103_ i104_ i105_ h0
                                exact absurd h0 (Nat.not_lt_zero _)
                              | succ n ih_238 =>
                                intro u96_ hu96_a hu96_b N97_ hs98_ i99_ i100_ i101_ i102_ i103_ i104_ i105_ hlt_238
                                have hf_N97_ : zFr [20, 25, 26] [85, 86, 87, 88, 89, 90, 91, 92, 93, 94] Mz N97_ := hf_N78_.tr hs98_ (by decide) (by decide)
                                have e12_N97_ : ze N97_ 81 12 = ze N78_ 81 12 := hs98_.e (by decide)
                                have e13_N97_ : ze N97_ 81 13 = ze N78_ 81 13 := hs98_.e (by decide)
                                have e20_N97_ : ze N97_ 81 20 = ze N78_ 81 20 := hs98_.e (by decide)
                                have e25_N97_ : ze N97_ 81 25 = ze N78_ 81 25 := hs98_.e (by decide)
                                have e26_N97_ : ze N97_ 81 26 = ze N78_ 81 26 := hs98_.e (by decide)
                                have c106_ : zPm N97_ := zPm.fr hs98_ c88_ (by decide) (by decide)
                                have c107_ : zFin N97_ := zFin.fr hs98_ c89_ (by decide) (by decide)
                                have c108_ : zB 83 24 0 5 N97_ := zB.fr hs98_ c90_ (by decide) (by decide)
                                have c109_ : zB 85 144 0 5 N97_ := zB.fr hs98_ c91_ (by decide) (by decide)
                                have c110_ : zTab T N97_ := zTab.fr hs98_ c92_ (by decide) (by decide)
                                have c111_ : zCdR (ze Mz 81 12) (zMvs Mz) T N97_ := zCdR.fr hs98_ c93_ (by decide) (by decide)
                                have c112_ : zJX T N97_ := zJX.fr hs98_ c94_ (by decide) (by decide)
                                have c113_ : zFirs T N97_ := zFirs.fr hs98_ c95_ (by decide) (by decide)
                                have c114_ : zSSm T N97_ := zSSm.fr hs98_ hSS (by decide) (by decide)
                                have c115_ : zSoM T N97_ := zSoM.fr hs98_ hSoM_ (by decide) (by decide)
                                have zz12_N97_ : ze N97_ 81 12 = ze Mz 81 12 := hf_N97_.e (by decide)
                                have zz13_N97_ : ze N97_ 81 13 = ze Mz 81 13 := hf_N97_.e (by decide)
                                refine zw_iload_n (pc := 238) (n := 1) (x := Int32.ofInt u96_) rfl (zdal_p dlC_M_builds_11 (i := 18) rfl) ?_
                                refine zw_aload_n (pc := 239) (n := 0) (x := 81) rfl (zdal_p dlC_M_builds_11 (i := 19) rfl) ?_
                                refine zr_getI (hf_N97_.w hW) (pc := 240) f_M_235 rfl (zdal_p dlC_M_builds_11 (i := 20) rfl) ?_
                                refine zr_icmp_ge (pc := 243) (tgt := 290) ⟨hu96_a, hu96_b⟩ ⟨(ze_r N97_ 81 26).1, (ze_r N97_ 81 26).2⟩ (by decide) (zdal_p dlC_M_builds_11 (i := 21) rfl) (fun hc_243 => ?_) (fun hc_243 => ?_)
                                · skip
                                  have hCL : zCs T N97_ ((gF T).length : Int) := by have h := (show zCs T N97_ u96_ by assumption); rwa [show u96_ = ((gF T).length : Int) by (exact zo_518 gl.2 hc_243 hu96_b i102_ i103_ i104_)] at h
                                  refine zw_iconst (pc := 290) (v := Int32.ofInt 0) (by decide) (zdal_p dlC_M_builds_12 (i := 23) rfl) ?_
                                  refine zw_istore_n (pc := 291) (i := 1) (L2 := [some (.ref 81), some (.int (Int32.ofInt 0)), none, none]) rfl (by decide) rfl (zdal_p dlC_M_builds_13 (i := 0) rfl) ?_
                                  have lp_292 : ∀ (n : Nat) (u116_ : Int) (hu116_a : -2147483648 ≤ u116_) (hu116_b : u116_ < 2147483648) (N117_ : zMem) (hs118_ : zFr [] [93] N97_ N117_) (i119_ : ze N117_ 81 20 = (gN T : Int)) (i120_ : 1 ≤ ze N117_ 81 25) (i121_ : ze N117_ 81 25 ≤ 64) (i122_ : ze N117_ 81 26 = ((gF T).length : Int)) (i123_ : 0 ≤ u116_) (i124_ : u116_ ≤ ze N117_ 81 26) (i125_ : zMs T N117_ u116_ 0), (65 - u116_).toNat < n → zW l m_M_builds (zn Mz + 0, zw Mz + 0) N117_ 292 [some (.ref 81), some (.int (Int32.ofInt u116_)), none, none] [] (zpV [20, 25, 26] [85, 86, 87, 88, 89, 90, 91, 92, 93, 94] Mz (fun N => ∃ T : zGT, T ∈ gTabs ∧ zGB T N ∧ zTm (zMvs Mz) T ∧ zCdS (ze Mz 81 12) (zMvs Mz) T N)) := by
                                    clear hu96_a hu96_b i103_
                                    intro n
                                    induction n with
                                    | zero =>
                                      intro u116_ hu116_a hu116_b N117_ hs118_ i119_ i120_ i121_ i122_ i123_ i124_ i125_ h0
                                      exact absurd h0 (Nat.not_lt_zero _)
                                    | succ n ih_292 =>
                                      intro u116_ hu116_a hu116_b N117_ hs118_ i119_ i120_ i121_ i122_ i123_ i124_ i125_ hlt_292
                                      have hf_N117_ : zFr [20, 25, 26] [85, 86, 87, 88, 89, 90, 91, 92, 93, 94] Mz N117_ := hf_N97_.tr hs118_ (by decide) (by decide)
                                      have e12_N117_ : ze N117_ 81 12 = ze N97_ 81 12 := hs118_.e (by decide)
                                      have e13_N117_ : ze N117_ 81 13 = ze N97_ 81 13 := hs118_.e (by decide)
                                      have e20_N117_ : ze N117_ 81 20 = ze N97_ 81 20 := hs118_.e (by decide)
                                      have e25_N117_ : ze N117_ 81 25 = ze N97_ 81 25 := hs118_.e (by decide)
                                      have e26_N117_ : ze N117_ 81 26 = ze N97_ 81 26 := hs118_.e (by decide)
                                      have c126_ : zPm N117_ := zPm.fr hs118_ c106_ (by decide) (by decide)
                                      have c127_ : zFin N117_ := zFin.fr hs118_ c107_ (by decide) (by decide)
                                      have c128_ : zB 83 24 0 5 N117_ := zB.fr hs118_ c108_ (by decide) (by decide)
                                      have c129_ : zB 85 144 0 5 N117_ := zB.fr hs118_ c109_ (by decide) (by decide)
                                      have c130_ : zTab T N117_ := zTab.fr hs118_ c110_ (by decide) (by decide)
                                      have c131_ : zCdR (ze Mz 81 12) (zMvs Mz) T N117_ := zCdR.fr hs118_ c111_ (by decide) (by decide)
                                      have c132_ : zJX T N117_ := zJX.fr hs118_ c112_ (by decide) (by decide)
                                      have c133_ : zFirs T N117_ := zFirs.fr hs118_ c113_ (by decide) (by decide)
                                      have c134_ : zSSm T N117_ := zSSm.fr hs118_ c114_ (by decide) (by decide)
                                      have c135_ : zSoM T N117_ := zSoM.fr hs118_ c115_ (by decide) (by decide)
                                      have c136_ : zCsL T N117_ := zCsL.fr hs118_ hCL (by decide) (by decide)
                                      have zz12_N117_ : ze N117_ 81 12 = ze Mz 81 12 := hf_N117_.e (by decide)
                                      have zz13_N117_ : ze N117_ 81 13 = ze Mz 81 13 := hf_N117_.e (by decide)
                                      refine zw_iload_n (pc := 292) (n := 1) (x := Int32.ofInt u116_) rfl (zdal_p dlC_M_builds_13 (i := 1) rfl) ?_
                                      refine zw_aload_n (pc := 293) (n := 0) (x := 81) rfl (zdal_p dlC_M_builds_13 (i := 2) rfl) ?_
                                      refine zr_getI (hf_N117_.w hW) (pc := 294) f_M_235 rfl (zdal_p dlC_M_builds_13 (i := 3) rfl) ?_
                                      refine zr_icmp_ge (pc := 297) (tgt := 344) ⟨hu116_a, hu116_b⟩ ⟨(ze_r N117_ 81 26).1, (ze_r N117_ 81 26).2⟩ (by decide) (zdal_p dlC_M_builds_13 (i := 4) rfl) (fun hc_297 => ?_) (fun hc_297 => ?_)
                                      · skip
                                        have hML : zMs T N117_ ((gF T).length : Int) 0 := by have h := (show zMs T N117_ u116_ 0 by assumption); rwa [show u116_ = ((gF T).length : Int) by (exact zo_518 gl.2 hc_297 hu116_b i122_ i123_ i124_)] at h
                                        exact zr_vret (pc := 344) rfl hf_N117_ (show ∃ T : zGT, T ∈ gTabs ∧ zGB T N117_ ∧ zTm (zMvs Mz) T ∧ zCdS (ze Mz 81 12) (zMvs Mz) T N117_ by exact ⟨T, hTt, ⟨c130_, c129_, c132_, c133_, c134_, c136_, hML⟩, hTm_, c131_, c135_⟩) (zdal_p dlC_M_builds_14 (i := 6) rfl)
                                      · skip
                                        refine zw_iconst (pc := 300) (v := Int32.ofInt 0) (by decide) (zdal_p dlC_M_builds_13 (i := 5) rfl) ?_
                                        refine zw_istore_n (pc := 301) (i := 2) (L2 := [some (.ref 81), some (.int (Int32.ofInt u116_)), some (.int (Int32.ofInt 0)), none]) rfl (by decide) rfl (zdal_p dlC_M_builds_13 (i := 6) rfl) ?_
                                        have lp_302 : ∀ (n : Nat) (u137_ : Int) (hu137_a : -2147483648 ≤ u137_) (hu137_b : u137_ < 2147483648) (N138_ : zMem) (hs139_ : zFr [] [93] N117_ N138_) (i140_ : ze N138_ 81 20 = (gN T : Int)) (i141_ : 1 ≤ ze N138_ 81 25) (i142_ : ze N138_ 81 25 ≤ 64) (i143_ : ze N138_ 81 26 = ((gF T).length : Int)) (i144_ : 0 ≤ u116_) (i145_ : u116_ < ze N138_ 81 26) (i146_ : 0 ≤ u137_) (i147_ : u137_ ≤ ze N138_ 81 26) (i148_ : zMs T N138_ u116_ u137_), (65 - u137_).toNat < n → zW l m_M_builds (zn Mz + 0, zw Mz + 0) N138_ 302 [some (.ref 81), some (.int (Int32.ofInt u116_)), some (.int (Int32.ofInt u137_)), none] [] (zpV [20, 25, 26] [85, 86, 87, 88, 89, 90, 91, 92, 93, 94] Mz (fun N => ∃ T : zGT, T ∈ gTabs ∧ zGB T N ∧ zTm (zMvs Mz) T ∧ zCdS (ze Mz 81 12) (zMvs Mz) T N)) := by
                                          intro n
                                          induction n with
                                          | zero =>
                                            intro u137_ hu137_a hu137_b N138_ hs139_ i140_ i141_ i142_ i143_ i144_ i145_ i146_ i147_ i148_ h0
                                            exact absurd h0 (Nat.not_lt_zero _)
                                          | succ n ih_302 =>
                                            intro u137_ hu137_a hu137_b N138_ hs139_ i140_ i141_ i142_ i143_ i144_ i145_ i146_ i147_ i148_ hlt_302
                                            have hf_N138_ : zFr [20, 25, 26] [85, 86, 87, 88, 89, 90, 91, 92, 93, 94] Mz N138_ := hf_N117_.tr hs139_ (by decide) (by decide)
                                            have hb0_N138_ : zFr [] [93] N97_ N138_ := hs118_.tr hs139_ (by decide) (by decide)
                                            have e12_N138_ : ze N138_ 81 12 = ze N117_ 81 12 := hs139_.e (by decide)
                                            have e13_N138_ : ze N138_ 81 13 = ze N117_ 81 13 := hs139_.e (by decide)
                                            have e20_N138_ : ze N138_ 81 20 = ze N117_ 81 20 := hs139_.e (by decide)
                                            have e25_N138_ : ze N138_ 81 25 = ze N117_ 81 25 := hs139_.e (by decide)
                                            have e26_N138_ : ze N138_ 81 26 = ze N117_ 81 26 := hs139_.e (by decide)
                                            have c149_ : zPm N138_ := zPm.fr hs139_ c126_ (by decide) (by decide)
                                            have c150_ : zFin N138_ := zFin.fr hs139_ c127_ (by decide) (by decide)
                                            have c151_ : zB 83 24 0 5 N138_ := zB.fr hs139_ c128_ (by decide) (by decide)
                                            have c152_ : zB 85 144 0 5 N138_ := zB.fr hs139_ c129_ (by decide) (by decide)
                                            have c153_ : zTab T N138_ := zTab.fr hs139_ c130_ (by decide) (by decide)
                                            have c154_ : zCdR (ze Mz 81 12) (zMvs Mz) T N138_ := zCdR.fr hs139_ c131_ (by decide) (by decide)
                                            have c155_ : zJX T N138_ := zJX.fr hs139_ c132_ (by decide) (by decide)
                                            have c156_ : zFirs T N138_ := zFirs.fr hs139_ c133_ (by decide) (by decide)
                                            have c157_ : zSSm T N138_ := zSSm.fr hs139_ c134_ (by decide) (by decide)
                                            have c158_ : zSoM T N138_ := zSoM.fr hs139_ c135_ (by decide) (by decide)
                                            have c159_ : zCsL T N138_ := zCsL.fr hs139_ c136_ (by decide) (by decide)
                                            have zz12_N138_ : ze N138_ 81 12 = ze Mz 81 12 := hf_N138_.e (by decide)
                                            have zz13_N138_ : ze N138_ 81 13 = ze Mz 81 13 := hf_N138_.e (by decide)
                                            refine zw_iload_n (pc := 302) (n := 2) (x := Int32.ofInt u137_) rfl (zdal_p dlC_M_builds_13 (i := 7) rfl) ?_
                                            refine zw_aload_n (pc := 303) (n := 0) (x := 81) rfl (zdal_p dlC_M_builds_13 (i := 8) rfl) ?_
                                            refine zr_getI (hf_N138_.w hW) (pc := 304) f_M_235 rfl (zdal_p dlC_M_builds_13 (i := 9) rfl) ?_
                                            refine zr_icmp_ge (pc := 307) (tgt := 338) ⟨hu137_a, hu137_b⟩ ⟨(ze_r N138_ 81 26).1, (ze_r N138_ 81 26).2⟩ (by decide) (zdal_p dlC_M_builds_13 (i := 10) rfl) (fun hc_307 => ?_) (fun hc_307 => ?_)
                                            · skip
                                              refine zr_iinc (pc := 338) (i := 1) (a := u116_) (n := 1) (L2 := [some (.ref 81), some (.int (Int32.ofInt (u116_ + 1))), some (.int (Int32.ofInt u137_)), none]) rfl (by decide) rfl (zdal_p dlC_M_builds_14 (i := 4) rfl) ?_
                                              refine zw_goto (pc := 341) (tgt := 292) (by decide) (zdal_p dlC_M_builds_14 (i := 5) rfl) ?_
                                              have hMn : zMs T N138_ (u116_ + 1) 0 := zMs_n (by assumption) (by (exact zo_519 gl.2 hc_307 i143_ i146_))
                                              refine zW_le [some (.ref 81), some (.int (Int32.ofInt (u116_ + 1))), none, none] (⟨rfl, rfl, trivial⟩) ?_
                                              exact ih_292 (u116_ + 1) (by (exact zo_74 i123_)) (by (exact zo_520 gl.2 hc_297 hu116_b i122_)) N138_ hb0_N138_ (show ze N138_ 81 20 = (gN T : Int) by first | assumption | omega) (show 1 ≤ ze N138_ 81 25 by first | assumption | omega) (show ze N138_ 81 25 ≤ 64 by first | assumption | omega) (show ze N138_ 81 26 = ((gF T).length : Int) by first | assumption | omega) (show 0 ≤ (u116_ + 1) by first | assumption | (exact zo_76 i123_)) (show (u116_ + 1) ≤ ze N138_ 81 26 by first | assumption | omega) (show zMs T N138_ (u116_ + 1) 0 by first | assumption | omega) (by (exact zo_521 gl.2 hc_297 hlt_292 hu116_b i122_ i123_))
                                            · skip
                                              refine zw_aload_n (pc := 310) (n := 0) (x := 81) rfl (zdal_p dlC_M_builds_13 (i := 11) rfl) ?_
                                              refine zr_getF (r := 93) (hf_N138_.w hW) (pc := 311) f_M_50 rfl (zh_93 (hf_N138_.w hW)).1 (zdal_p dlC_M_builds_13 (i := 12) rfl) ?_
                                              refine zw_bipush (pc := 314) (v := Int32.ofInt 64) (by decide) (zdal_p dlC_M_builds_13 (i := 13) rfl) ?_
                                              refine zw_iload_n (pc := 316) (n := 1) (x := Int32.ofInt u116_) rfl (zdal_p dlC_M_builds_13 (i := 14) rfl) ?_
                                              refine zr_imul (pc := 317) (zdal_p dlC_M_builds_13 (i := 15) rfl) ?_
                                              refine zw_iload_n (pc := 318) (n := 2) (x := Int32.ofInt u137_) rfl (zdal_p dlC_M_builds_13 (i := 16) rfl) ?_
                                              refine zr_iadd (pc := 319) (zdal_p dlC_M_builds_13 (i := 17) rfl) ?_
                                              refine zw_aload_n (pc := 320) (n := 0) (x := 81) rfl (zdal_p dlC_M_builds_13 (i := 18) rfl) ?_
                                              refine zw_iload_n (pc := 321) (n := 1) (x := Int32.ofInt u116_) rfl (zdal_p dlC_M_builds_13 (i := 19) rfl) ?_
                                              refine zw_aload_n (pc := 322) (n := 0) (x := 81) rfl (zdal_p dlC_M_builds_13 (i := 20) rfl) ?_
                                              refine zr_getF (r := 91) (hf_N138_.w hW) (pc := 323) f_M_44 rfl (zh_91 (hf_N138_.w hW)).1 (zdal_p dlC_M_builds_13 (i := 21) rfl) ?_
                                              refine zw_iload_n (pc := 326) (n := 2) (x := Int32.ofInt u137_) rfl (zdal_p dlC_M_builds_13 (i := 22) rfl) ?_
                                              refine zr_ialdn (pc := 327) (zh_91 (hf_N138_.w hW)).2 (by decide) (by (exact i146_)) (by (exact zo_522 gl.2 hc_307 hu137_b i143_)) (zdal_p dlC_M_builds_13 (i := 23) rfl) (fun v160_ hv160_ hv160_a hv160_b => ?_)
                                              have hfi := c156_.2 (u137_).toNat (by (exact zo_523 gl.2 hc_307 hu137_b i143_ i146_))
                                              refine zr_toI (show v160_ = (((gF T).getD (u137_).toNat 0 : Nat) : Int) by (exact zo_524 hfi hv160_ hv160_b)) ?_
                                              have hcc := c159_ (u116_).toNat (by (exact zo_525 gl.2 hc_297 hu116_b i122_ i123_ i143_ i145_))
                                              refine zr_callV (hf_N138_.w hW) hf_N138_.x (pc := 328) [.int (Int32.ofInt u116_), .int (Int32.ofInt ((((gF T).getD (u137_).toNat 0 : Nat) : Int)))] [.int (Int32.ofInt ((64 * u116_) + u137_)), .ref 93] l_M_250 (c_M_fixedOf l N138_ (hf_N138_.w hW) u116_ hu116_a hu116_b ((((gF T).getD (u137_).toNat 0 : Nat) : Int)) (by (exact zo_526)) (by (exact zo_527 hfi hv160_ hv160_b)) T hG ((gF T).getD (u116_).toNat 0) c153_ (show 0 ≤ u116_ by first | assumption | omega) (show u116_ ≤ 63 by first | assumption | (exact zo_528 gl.2 hc_297 hu116_b i122_)) (show 0 ≤ ((((gF T).getD (u137_).toNat 0 : Nat) : Int)) by first | assumption | (exact zo_85)) (show zCos T (u116_).toNat ((gF T).getD (u116_).toNat 0) N138_ by first | assumption | omega)) rfl rfl rfl (by decide) (Nat.le_of_ble_eq_true rfl) (zdal_p dlC_M_builds_14 (i := 0) rfl) ?_
                                              rintro _ N161_ ⟨v162_, rfl, ⟨hv162_a, hv162_b⟩, hsN161_, ⟨hp0_N161_, hp1_N161_, hp2_N161_⟩⟩
                                              obtain rfl := hsN161_.eq.symm
                                              show zW l m_M_builds (zn Mz + 0, zw Mz + 0) N138_ 331 [some (.ref 81), some (.int (Int32.ofInt u116_)), some (.int (Int32.ofInt u137_)), none] [.int (Int32.ofInt v162_), .int (Int32.ofInt ((64 * u116_) + u137_)), .ref 93] _
                                              refine zr_iast (pc := 331) (zh_93 (hf_N138_.w hW)).2 (by decide) (by decide) (by (exact zo_529 i123_ i146_)) (by (exact zo_530 gl.2 hc_307 hu137_b i143_ i145_)) (zdal_p dlC_M_builds_14 (i := 1) rfl) (fun N163_ hN163_ hsN163_ => ?_)
                                              have hf_N163_ : zFr [20, 25, 26] [85, 86, 87, 88, 89, 90, 91, 92, 93, 94] Mz N163_ := hf_N138_.tr hsN163_ (by decide) (by decide)
                                              have hb0_N163_ : zFr [] [93] N97_ N163_ := hb0_N138_.tr hsN163_ (by decide) (by decide)
                                              have hb1_N163_ : zFr [] [93] N117_ N163_ := hs139_.tr hsN163_ (by decide) (by decide)
                                              have e12_N163_ : ze N163_ 81 12 = ze N138_ 81 12 := hsN163_.e (by decide)
                                              have e13_N163_ : ze N163_ 81 13 = ze N138_ 81 13 := hsN163_.e (by decide)
                                              have e20_N163_ : ze N163_ 81 20 = ze N138_ 81 20 := hsN163_.e (by decide)
                                              have e25_N163_ : ze N163_ 81 25 = ze N138_ 81 25 := hsN163_.e (by decide)
                                              have e26_N163_ : ze N163_ 81 26 = ze N138_ 81 26 := hsN163_.e (by decide)
                                              have c164_ : zPm N163_ := zPm.fr hsN163_ c149_ (by decide) (by decide)
                                              have c165_ : zFin N163_ := zFin.fr hsN163_ c150_ (by decide) (by decide)
                                              have c166_ : zB 83 24 0 5 N163_ := zB.fr hsN163_ c151_ (by decide) (by decide)
                                              have c167_ : zB 85 144 0 5 N163_ := zB.fr hsN163_ c152_ (by decide) (by decide)
                                              have c168_ : zTab T N163_ := zTab.fr hsN163_ c153_ (by decide) (by decide)
                                              have c169_ : zCdR (ze Mz 81 12) (zMvs Mz) T N163_ := zCdR.fr hsN163_ c154_ (by decide) (by decide)
                                              have c170_ : zJX T N163_ := zJX.fr hsN163_ c155_ (by decide) (by decide)
                                              have c171_ : zFirs T N163_ := zFirs.fr hsN163_ c156_ (by decide) (by decide)
                                              have c172_ : zSSm T N163_ := zSSm.fr hsN163_ c157_ (by decide) (by decide)
                                              have c173_ : zSoM T N163_ := zSoM.fr hsN163_ c158_ (by decide) (by decide)
                                              have c174_ : zCsL T N163_ := zCsL.fr hsN163_ c159_ (by decide) (by decide)
                                              have hMt := zMs_s gl.2 (by (exact i123_)) (by (exact i146_)) (by (exact zo_531 gl.2 hc_307 hu137_b i143_)) (show zMs T N138_ u116_ u137_ by assumption) (Int.toNat_natCast _) (by assumption) ⟨by (exact hv162_a), by (exact hv162_b)⟩ hN163_
                                              refine zr_iinc (pc := 332) (i := 2) (a := u137_) (n := 1) (L2 := [some (.ref 81), some (.int (Int32.ofInt u116_)), some (.int (Int32.ofInt (u137_ + 1))), none]) rfl (by decide) rfl (zdal_p dlC_M_builds_14 (i := 2) rfl) ?_
                                              refine zw_goto (pc := 335) (tgt := 302) (by decide) (zdal_p dlC_M_builds_14 (i := 3) rfl) ?_
                                              exact ih_302 (u137_ + 1) (by (exact zo_74 i146_)) (by (exact zo_520 gl.2 hc_307 hu137_b i143_)) N163_ hb1_N163_ (show ze N163_ 81 20 = (gN T : Int) by first | assumption | (exact zo_532 e20_N163_ i140_)) (show 1 ≤ ze N163_ 81 25 by first | assumption | (exact zo_533 e25_N163_ i141_)) (show ze N163_ 81 25 ≤ 64 by first | assumption | (exact zo_534 e25_N163_ i142_)) (show ze N163_ 81 26 = ((gF T).length : Int) by first | assumption | (exact zo_532 e26_N163_ i143_)) (show 0 ≤ u116_ by first | assumption | omega) (show u116_ < ze N163_ 81 26 by first | assumption | (exact zo_535 e26_N163_ i145_)) (show 0 ≤ (u137_ + 1) by first | assumption | (exact zo_76 i146_)) (show (u137_ + 1) ≤ ze N163_ 81 26 by first | assumption | (exact zo_536 e26_N163_ hc_307)) (show zMs T N163_ u116_ (u137_ + 1) by first | assumption | omega) (by (exact zo_521 gl.2 hc_307 hlt_302 hu137_b i143_ i146_))
                                        exact lp_302 _ 0 (by decide) (by decide) N117_ zFr.rf (show ze N117_ 81 20 = (gN T : Int) by first | assumption | omega) (show 1 ≤ ze N117_ 81 25 by first | assumption | omega) (show ze N117_ 81 25 ≤ 64 by first | assumption | omega) (show ze N117_ 81 26 = ((gF T).length : Int) by first | assumption | omega) (show 0 ≤ u116_ by first | assumption | omega) (show u116_ < ze N117_ 81 26 by first | assumption | omega) (show 0 ≤ (0 : Int) by first | assumption | (decide)) (show (0 : Int) ≤ ze N117_ 81 26 by first | assumption | (exact zo_537 i122_)) (show zMs T N117_ u116_ (0 : Int) by first | assumption | omega) (Nat.lt_succ_self _)
                                  exact lp_292 _ 0 (by decide) (by decide) N97_ zFr.rf (show ze N97_ 81 20 = (gN T : Int) by first | assumption | omega) (show 1 ≤ ze N97_ 81 25 by first | assumption | omega) (show ze N97_ 81 25 ≤ 64 by first | assumption | omega) (show ze N97_ 81 26 = ((gF T).length : Int) by first | assumption | omega) (show 0 ≤ (0 : Int) by first | assumption | (decide)) (show (0 : Int) ≤ ze N97_ 81 26 by first | assumption | (exact zo_537 i102_)) (show zMs T N97_ (0 : Int) 0 by exact zMs_0) (Nat.lt_succ_self _)
                                · skip
                                  refine zw_iconst (pc := 246) (v := Int32.ofInt 0) (by decide) (zdal_p dlC_M_builds_11 (i := 22) rfl) ?_
                                  refine zw_istore_n (pc := 247) (i := 2) (L2 := [some (.ref 81), some (.int (Int32.ofInt u96_)), some (.int (Int32.ofInt 0)), none]) rfl (by decide) rfl (zdal_p dlC_M_builds_11 (i := 23) rfl) ?_
                                  have lp_248 : ∀ (n : Nat) (u175_ : Int) (hu175_a : -2147483648 ≤ u175_) (hu175_b : u175_ < 2147483648) (N176_ : zMem) (hs177_ : zFr [] [94] N97_ N176_) (i178_ : ze N176_ 81 20 = (gN T : Int)) (i179_ : 1 ≤ ze N176_ 81 25) (i180_ : ze N176_ 81 25 ≤ 64) (i181_ : ze N176_ 81 26 = ((gF T).length : Int)) (i182_ : 0 ≤ u96_) (i183_ : u96_ < ze N176_ 81 26) (i184_ : 0 ≤ u175_) (i185_ : u175_ ≤ ze N176_ 81 20) (i186_ : zCs T N176_ u96_) (i187_ : zCt T N176_ u96_ u175_), (25 - u175_).toNat < n → zW l m_M_builds (zn Mz + 0, zw Mz + 0) N176_ 248 [some (.ref 81), some (.int (Int32.ofInt u96_)), some (.int (Int32.ofInt u175_)), none] [] (zpV [20, 25, 26] [85, 86, 87, 88, 89, 90, 91, 92, 93, 94] Mz (fun N => ∃ T : zGT, T ∈ gTabs ∧ zGB T N ∧ zTm (zMvs Mz) T ∧ zCdS (ze Mz 81 12) (zMvs Mz) T N)) := by
                                    intro n
                                    induction n with
                                    | zero =>
                                      intro u175_ hu175_a hu175_b N176_ hs177_ i178_ i179_ i180_ i181_ i182_ i183_ i184_ i185_ i186_ i187_ h0
                                      exact absurd h0 (Nat.not_lt_zero _)
                                    | succ n ih_248 =>
                                      intro u175_ hu175_a hu175_b N176_ hs177_ i178_ i179_ i180_ i181_ i182_ i183_ i184_ i185_ i186_ i187_ hlt_248
                                      have hf_N176_ : zFr [20, 25, 26] [85, 86, 87, 88, 89, 90, 91, 92, 93, 94] Mz N176_ := hf_N97_.tr hs177_ (by decide) (by decide)
                                      have hb0_N176_ : zFr [] [94] N78_ N176_ := hs98_.tr hs177_ (by decide) (by decide)
                                      have e12_N176_ : ze N176_ 81 12 = ze N97_ 81 12 := hs177_.e (by decide)
                                      have e13_N176_ : ze N176_ 81 13 = ze N97_ 81 13 := hs177_.e (by decide)
                                      have e20_N176_ : ze N176_ 81 20 = ze N97_ 81 20 := hs177_.e (by decide)
                                      have e25_N176_ : ze N176_ 81 25 = ze N97_ 81 25 := hs177_.e (by decide)
                                      have e26_N176_ : ze N176_ 81 26 = ze N97_ 81 26 := hs177_.e (by decide)
                                      have c188_ : zPm N176_ := zPm.fr hs177_ c106_ (by decide) (by decide)
                                      have c189_ : zFin N176_ := zFin.fr hs177_ c107_ (by decide) (by decide)
                                      have c190_ : zB 83 24 0 5 N176_ := zB.fr hs177_ c108_ (by decide) (by decide)
                                      have c191_ : zB 85 144 0 5 N176_ := zB.fr hs177_ c109_ (by decide) (by decide)
                                      have c192_ : zTab T N176_ := zTab.fr hs177_ c110_ (by decide) (by decide)
                                      have c193_ : zCdR (ze Mz 81 12) (zMvs Mz) T N176_ := zCdR.fr hs177_ c111_ (by decide) (by decide)
                                      have c194_ : zJX T N176_ := zJX.fr hs177_ c112_ (by decide) (by decide)
                                      have c195_ : zFirs T N176_ := zFirs.fr hs177_ c113_ (by decide) (by decide)
                                      have c196_ : zSSm T N176_ := zSSm.fr hs177_ c114_ (by decide) (by decide)
                                      have c197_ : zSoM T N176_ := zSoM.fr hs177_ c115_ (by decide) (by decide)
                                      have zz12_N176_ : ze N176_ 81 12 = ze Mz 81 12 := hf_N176_.e (by decide)
                                      have zz13_N176_ : ze N176_ 81 13 = ze Mz 81 13 := hf_N176_.e (by decide)
                                      refine zw_iload_n (pc := 248) (n := 2) (x := Int32.ofInt u175_) rfl (zdal_p dlC_M_builds_12 (i := 0) rfl) ?_
                                      refine zw_aload_n (pc := 249) (n := 0) (x := 81) rfl (zdal_p dlC_M_builds_12 (i := 1) rfl) ?_
                                      refine zr_getI (hf_N176_.w hW) (pc := 250) f_M_196 rfl (zdal_p dlC_M_builds_12 (i := 2) rfl) ?_
                                      refine zr_icmp_ge (pc := 253) (tgt := 284) ⟨hu175_a, hu175_b⟩ ⟨(ze_r N176_ 81 20).1, (ze_r N176_ 81 20).2⟩ (by decide) (zdal_p dlC_M_builds_12 (i := 3) rfl) (fun hc_253 => ?_) (fun hc_253 => ?_)
                                      · skip
                                        refine zr_iinc (pc := 284) (i := 1) (a := u96_) (n := 1) (L2 := [some (.ref 81), some (.int (Int32.ofInt (u96_ + 1))), some (.int (Int32.ofInt u175_)), none]) rfl (by decide) rfl (zdal_p dlC_M_builds_12 (i := 21) rfl) ?_
                                        refine zw_goto (pc := 287) (tgt := 238) (by decide) (zdal_p dlC_M_builds_12 (i := 22) rfl) ?_
                                        have hCn : zCs T N176_ (u96_ + 1) := zCs_s (by (exact i103_)) (by assumption) (by assumption) (by (exact zo_538 g24 hc_253 i178_ i184_))
                                        refine zW_le [some (.ref 81), some (.int (Int32.ofInt (u96_ + 1))), none, none] (⟨rfl, rfl, trivial⟩) ?_
                                        exact ih_238 (u96_ + 1) (by (exact zo_74 i103_)) (by (exact zo_539 gl.2 hu96_b i181_ i183_)) N176_ hb0_N176_ (show ze N176_ 81 20 = (gN T : Int) by first | assumption | omega) (show 1 ≤ ze N176_ 81 25 by first | assumption | omega) (show ze N176_ 81 25 ≤ 64 by first | assumption | omega) (show ze N176_ 81 26 = ((gF T).length : Int) by first | assumption | omega) (show 0 ≤ (u96_ + 1) by first | assumption | (exact zo_76 i103_)) (show (u96_ + 1) ≤ ze N176_ 81 26 by first | assumption | omega) (show zCs T N176_ (u96_ + 1) by first | assumption | omega) (by (exact zo_540 gl.2 hlt_238 hu96_b i103_ i181_ i183_))
                                      · skip
                                        refine zw_aload_n (pc := 256) (n := 0) (x := 81) rfl (zdal_p dlC_M_builds_12 (i := 4) rfl) ?_
                                        refine zr_getF (r := 94) (hf_N176_.w hW) (pc := 257) f_M_53 rfl (zh_94 (hf_N176_.w hW)).1 (zdal_p dlC_M_builds_12 (i := 5) rfl) ?_
                                        refine zw_bipush (pc := 260) (v := Int32.ofInt 24) (by decide) (zdal_p dlC_M_builds_12 (i := 6) rfl) ?_
                                        refine zw_iload_n (pc := 262) (n := 1) (x := Int32.ofInt u96_) rfl (zdal_p dlC_M_builds_12 (i := 7) rfl) ?_
                                        refine zr_imul (pc := 263) (zdal_p dlC_M_builds_12 (i := 8) rfl) ?_
                                        refine zw_iload_n (pc := 264) (n := 2) (x := Int32.ofInt u175_) rfl (zdal_p dlC_M_builds_12 (i := 9) rfl) ?_
                                        refine zr_iadd (pc := 265) (zdal_p dlC_M_builds_12 (i := 10) rfl) ?_
                                        refine zw_aload_n (pc := 266) (n := 0) (x := 81) rfl (zdal_p dlC_M_builds_12 (i := 11) rfl) ?_
                                        refine zw_aload_n (pc := 267) (n := 0) (x := 81) rfl (zdal_p dlC_M_builds_12 (i := 12) rfl) ?_
                                        refine zr_getF (r := 91) (hf_N176_.w hW) (pc := 268) f_M_44 rfl (zh_91 (hf_N176_.w hW)).1 (zdal_p dlC_M_builds_12 (i := 13) rfl) ?_
                                        refine zw_iload_n (pc := 271) (n := 1) (x := Int32.ofInt u96_) rfl (zdal_p dlC_M_builds_12 (i := 14) rfl) ?_
                                        refine zr_ialdn (pc := 272) (zh_91 (hf_N176_.w hW)).2 (by decide) (by (exact i103_)) (by (exact zo_541 gl.2 hu96_b i181_ i183_)) (zdal_p dlC_M_builds_12 (i := 15) rfl) (fun v198_ hv198_ hv198_a hv198_b => ?_)
                                        have hfi := c195_.2 (u96_).toNat (by (exact zo_542 gl.2 hc_243 hu96_b i102_ i103_ i181_ i183_))
                                        refine zr_toI (show v198_ = (((gF T).getD (u96_).toNat 0 : Nat) : Int) by (exact zo_524 hfi hv198_ hv198_b)) ?_
                                        refine zw_iload_n (pc := 273) (n := 2) (x := Int32.ofInt u175_) rfl (zdal_p dlC_M_builds_12 (i := 16) rfl) ?_
                                        refine zr_callV (hf_N176_.w hW) hf_N176_.x (pc := 274) [.int (Int32.ofInt ((((gF T).getD (u96_).toNat 0 : Nat) : Int))), .int (Int32.ofInt u175_)] [.int (Int32.ofInt ((24 * u96_) + u175_)), .ref 94] l_M_247 (c_M_leastOf l N176_ (hf_N176_.w hW) ((((gF T).getD (u96_).toNat 0 : Nat) : Int)) (by (exact zo_526)) (by (exact zo_527 hfi hv198_ hv198_b)) u175_ hu175_a hu175_b T hG c192_ (show 0 ≤ ((((gF T).getD (u96_).toNat 0 : Nat) : Int)) by first | assumption | (exact zo_85)) (show 0 ≤ u175_ by first | assumption | omega) (show u175_ < ze N176_ 81 20 by first | assumption | omega)) rfl rfl rfl (by decide) (Nat.le_of_ble_eq_true rfl) (zdal_p dlC_M_builds_12 (i := 17) rfl) ?_
                                        rintro _ N199_ ⟨v200_, rfl, ⟨hv200_a, hv200_b⟩, hsN199_, ⟨hp0_N199_, hp1_N199_, hp2_N199_⟩⟩
                                        obtain rfl := hsN199_.eq.symm
                                        show zW l m_M_builds (zn Mz + 0, zw Mz + 0) N176_ 277 [some (.ref 81), some (.int (Int32.ofInt u96_)), some (.int (Int32.ofInt u175_)), none] [.int (Int32.ofInt v200_), .int (Int32.ofInt ((24 * u96_) + u175_)), .ref 94] _
                                        refine zr_iast (pc := 277) (zh_94 (hf_N176_.w hW)).2 (by decide) (by decide) (by (exact zo_543 i103_ i184_)) (by (exact zo_544 g24 gl.2 hc_253 hu175_b i178_ i181_ i183_)) (zdal_p dlC_M_builds_12 (i := 18) rfl) (fun N201_ hN201_ hsN201_ => ?_)
                                        have hf_N201_ : zFr [20, 25, 26] [85, 86, 87, 88, 89, 90, 91, 92, 93, 94] Mz N201_ := hf_N176_.tr hsN201_ (by decide) (by decide)
                                        have hb0_N201_ : zFr [] [94] N78_ N201_ := hb0_N176_.tr hsN201_ (by decide) (by decide)
                                        have hb1_N201_ : zFr [] [94] N97_ N201_ := hs177_.tr hsN201_ (by decide) (by decide)
                                        have e12_N201_ : ze N201_ 81 12 = ze N176_ 81 12 := hsN201_.e (by decide)
                                        have e13_N201_ : ze N201_ 81 13 = ze N176_ 81 13 := hsN201_.e (by decide)
                                        have e20_N201_ : ze N201_ 81 20 = ze N176_ 81 20 := hsN201_.e (by decide)
                                        have e25_N201_ : ze N201_ 81 25 = ze N176_ 81 25 := hsN201_.e (by decide)
                                        have e26_N201_ : ze N201_ 81 26 = ze N176_ 81 26 := hsN201_.e (by decide)
                                        have c202_ : zPm N201_ := zPm.fr hsN201_ c188_ (by decide) (by decide)
                                        have c203_ : zFin N201_ := zFin.fr hsN201_ c189_ (by decide) (by decide)
                                        have c204_ : zB 83 24 0 5 N201_ := zB.fr hsN201_ c190_ (by decide) (by decide)
                                        have c205_ : zB 85 144 0 5 N201_ := zB.fr hsN201_ c191_ (by decide) (by decide)
                                        have c206_ : zTab T N201_ := zTab.fr hsN201_ c192_ (by decide) (by decide)
                                        have c207_ : zCdR (ze Mz 81 12) (zMvs Mz) T N201_ := zCdR.fr hsN201_ c193_ (by decide) (by decide)
                                        have c208_ : zJX T N201_ := zJX.fr hsN201_ c194_ (by decide) (by decide)
                                        have c209_ : zFirs T N201_ := zFirs.fr hsN201_ c195_ (by decide) (by decide)
                                        have c210_ : zSSm T N201_ := zSSm.fr hsN201_ c196_ (by decide) (by decide)
                                        have c211_ : zSoM T N201_ := zSoM.fr hsN201_ c197_ (by decide) (by decide)
                                        have hCt := zCt_s g24 (by (exact i103_)) (by (exact i184_)) (by (exact zo_545 g24 hc_253 hu175_b i178_)) (show zCs T N176_ u96_ by assumption) (show zCt T N176_ u96_ u175_ by assumption) (Int.toNat_natCast _) (by assumption) ⟨by (exact hv200_a), by (exact hv200_b)⟩ hN201_
                                        obtain ⟨hc1, hc2⟩ := hCt
                                        refine zr_iinc (pc := 278) (i := 2) (a := u175_) (n := 1) (L2 := [some (.ref 81), some (.int (Int32.ofInt u96_)), some (.int (Int32.ofInt (u175_ + 1))), none]) rfl (by decide) rfl (zdal_p dlC_M_builds_12 (i := 19) rfl) ?_
                                        refine zw_goto (pc := 281) (tgt := 248) (by decide) (zdal_p dlC_M_builds_12 (i := 20) rfl) ?_
                                        exact ih_248 (u175_ + 1) (by (exact zo_74 i184_)) (by (exact zo_546 g24 hc_253 hu175_b i178_)) N201_ hb1_N201_ (show ze N201_ 81 20 = (gN T : Int) by first | assumption | (exact zo_532 e20_N201_ i178_)) (show 1 ≤ ze N201_ 81 25 by first | assumption | (exact zo_533 e25_N201_ i179_)) (show ze N201_ 81 25 ≤ 64 by first | assumption | (exact zo_534 e25_N201_ i180_)) (show ze N201_ 81 26 = ((gF T).length : Int) by first | assumption | (exact zo_532 e26_N201_ i181_)) (show 0 ≤ u96_ by first | assumption | omega) (show u96_ < ze N201_ 81 26 by first | assumption | (exact zo_535 e26_N201_ i183_)) (show 0 ≤ (u175_ + 1) by first | assumption | (exact zo_76 i184_)) (show (u175_ + 1) ≤ ze N201_ 81 20 by first | assumption | (exact zo_536 e20_N201_ hc_253)) (show zCs T N201_ u96_ by first | assumption | omega) (show zCt T N201_ u96_ (u175_ + 1) by first | assumption | omega) (by (exact zo_547 g24 hc_253 hlt_248 hu175_b i178_ i184_))
                                  exact lp_248 _ 0 (by decide) (by decide) N97_ zFr.rf (show ze N97_ 81 20 = (gN T : Int) by first | assumption | omega) (show 1 ≤ ze N97_ 81 25 by first | assumption | omega) (show ze N97_ 81 25 ≤ 64 by first | assumption | omega) (show ze N97_ 81 26 = ((gF T).length : Int) by first | assumption | omega) (show 0 ≤ u96_ by first | assumption | omega) (show u96_ < ze N97_ 81 26 by first | assumption | omega) (show 0 ≤ (0 : Int) by first | assumption | (decide)) (show (0 : Int) ≤ ze N97_ 81 20 by first | assumption | (exact zo_537 i99_)) (show zCs T N97_ u96_ by first | assumption | omega) (show zCt T N97_ u96_ (0 : Int) by exact zCt_0) (Nat.lt_succ_self _)
                            exact lp_238 _ 0 (by decide) (by decide) N78_ zFr.rf (show ze N78_ 81 20 = (gN T : Int) by first | assumption | omega) (show 1 ≤ ze N78_ 81 25 by first | assumption | omega) (show ze N78_ 81 25 ≤ 64 by first | assumption | omega) (show ze N78_ 81 26 = ((gF T).length : Int) by first | assumption | omega) (show 0 ≤ (0 : Int) by first | assumption | (decide)) (show (0 : Int) ≤ ze N78_ 81 26 by first | assumption | (exact zo_537 i83_)) (show zCs T N78_ (0 : Int) by exact zCs_0) (Nat.lt_succ_self _)
                          · skip
                            refine zw_aload_n (pc := 195) (n := 0) (x := 81) rfl (zdal_p dlC_M_builds_10 (i := 15) rfl) ?_
                            refine zr_getF (r := 90) (hf_N78_.w hW) (pc := 196) f_M_41 rfl (zh_90 (hf_N78_.w hW)).1 (zdal_p dlC_M_builds_10 (i := 16) rfl) ?_
                            refine zw_iload_n (pc := 199) (n := 1) (x := Int32.ofInt u77_) rfl (zdal_p dlC_M_builds_10 (i := 17) rfl) ?_
                            refine zw_aload_n (pc := 200) (n := 0) (x := 81) rfl (zdal_p dlC_M_builds_10 (i := 18) rfl) ?_
                            refine zw_aload_n (pc := 201) (n := 0) (x := 81) rfl (zdal_p dlC_M_builds_10 (i := 19) rfl) ?_
                            refine zw_aload_n (pc := 202) (n := 0) (x := 81) rfl (zdal_p dlC_M_builds_10 (i := 20) rfl) ?_
                            refine zr_getF (r := 89) (hf_N78_.w hW) (pc := 203) f_M_38 rfl (zh_89 (hf_N78_.w hW)).1 (zdal_p dlC_M_builds_10 (i := 21) rfl) ?_
                            refine zw_iload_n (pc := 206) (n := 1) (x := Int32.ofInt u77_) rfl (zdal_p dlC_M_builds_10 (i := 22) rfl) ?_
                            refine zr_ialdn (pc := 207) (zh_89 (hf_N78_.w hW)).2 (by decide) (by (exact i84_)) (by (exact zo_548 hc_192 hu77_b i82_)) (zdal_p dlC_M_builds_10 (i := 23) rfl) (fun v212_ hv212_ hv212_a hv212_b => ?_)
                            have hk0 := c94_.1.2.2.1 (u77_).toNat (by (exact zo_549 hc_192 hu77_b i81_ i82_ i84_))
                            have hkb := hO.sb hk0.2
                            refine zr_toI (show v212_ = ze N78_ 89 (u77_).toNat by (exact hv212_)) ?_
                            refine zr_callV (hf_N78_.w hW) hf_N78_.x (pc := 208) [.int (Int32.ofInt (ze N78_ 89 (u77_).toNat))] [.ref 81, .int (Int32.ofInt u77_), .ref 90] l_M_238 (c_M_leastTurned l N78_ (hf_N78_.w hW) (ze N78_ 89 (u77_).toNat) (by (exact zo_168 hk0.1)) (by (exact zo_550 hv212_ hv212_b)) T hG c92_ (show 0 ≤ (ze N78_ 89 (u77_).toNat) by first | assumption | (exact zo_57 hk0.1)) (show (ze N78_ 89 (u77_).toNat) < 16777216 by first | assumption | omega)) rfl rfl rfl (by decide) (Nat.le_of_ble_eq_true rfl) (zdal_p dlC_M_builds_11 (i := 0) rfl) ?_
                            rintro _ N213_ ⟨v214_, rfl, ⟨hv214_a, hv214_b⟩, hsN213_, ⟨hp0_N213_, hp1_N213_, hp2_N213_⟩⟩
                            obtain rfl := hsN213_.eq.symm
                            show zW l m_M_builds (zn Mz + 0, zw Mz + 0) N78_ 211 [some (.ref 81), some (.int (Int32.ofInt u77_)), none, none] [.int (Int32.ofInt v214_), .ref 81, .int (Int32.ofInt u77_), .ref 90] _
                            refine zr_toI (show v214_ = ((glt T (ze N78_ 89 (u77_).toNat).toNat : Nat) : Int) by assumption) ?_
                            refine zr_callV (hf_N78_.w hW) hf_N78_.x (pc := 211) [.int (Int32.ofInt (((glt T (ze N78_ 89 (u77_).toNat).toNat : Nat) : Int)))] [.int (Int32.ofInt u77_), .ref 90] l_M_244 (c_M_sortOfFirst l N78_ (hf_N78_.w hW) (((glt T (ze N78_ 89 (u77_).toNat).toNat : Nat) : Int)) (by (exact zo_526)) (by (exact zo_551 hp0_N213_ hv214_b)) (show 0 ≤ ze N78_ 81 26 by first | assumption | (exact zo_537 i83_)) (show ze N78_ 81 26 ≤ 64 by first | assumption | (exact zo_552 gl.2 i83_))) rfl rfl rfl (by decide) (Nat.le_of_ble_eq_true rfl) (zdal_p dlC_M_builds_11 (i := 1) rfl) ?_
                            rintro _ N215_ ⟨v216_, rfl, ⟨hv216_a, hv216_b⟩, hsN215_, hp0_N215_⟩
                            obtain rfl := hsN215_.eq.symm
                            replace hp0_N215_ : ((0 ≤ v216_ ∧ v216_ < ze N78_ 81 26 ∧ ze N78_ 91 (v216_).toNat = (((glt T (ze N78_ 89 (u77_).toNat).toNat : Nat) : Int))) ∨ (v216_ = -1 ∧ ∀ k : Nat, (k : Int) < ze N78_ 81 26 → ze N78_ 91 k ≠ (((glt T (ze N78_ 89 (u77_).toNat).toNat : Nat) : Int)))) := hp0_N215_
                            rcases hp0_N215_ with ⟨ha211_0_hp0_N215_, ha211_1_hp0_N215_, ha211_2_hp0_N215_⟩ | ⟨rfl, ha211_0_hp0_N215_⟩
                            · skip
                              show zW l m_M_builds (zn Mz + 0, zw Mz + 0) N78_ 214 [some (.ref 81), some (.int (Int32.ofInt u77_)), none, none] [.int (Int32.ofInt v216_), .int (Int32.ofInt u77_), .ref 90] _
                              refine zr_iast (pc := 214) (zh_90 (hf_N78_.w hW)).2 (by decide) (by decide) (by (exact i84_)) (by (exact zo_548 hc_192 hu77_b i82_)) (zdal_p dlC_M_builds_11 (i := 2) rfl) (fun N217_ hN217_ hsN217_ => ?_)
                              have hf_N217_ : zFr [20, 25, 26] [85, 86, 87, 88, 89, 90, 91, 92, 93, 94] Mz N217_ := hf_N78_.tr hsN217_ (by decide) (by decide)
                              have hb0_N217_ : zFr [] [90, 92] N61_ N217_ := hs79_.tr hsN217_ (by decide) (by decide)
                              have e12_N217_ : ze N217_ 81 12 = ze N78_ 81 12 := hsN217_.e (by decide)
                              have e13_N217_ : ze N217_ 81 13 = ze N78_ 81 13 := hsN217_.e (by decide)
                              have e20_N217_ : ze N217_ 81 20 = ze N78_ 81 20 := hsN217_.e (by decide)
                              have e25_N217_ : ze N217_ 81 25 = ze N78_ 81 25 := hsN217_.e (by decide)
                              have e26_N217_ : ze N217_ 81 26 = ze N78_ 81 26 := hsN217_.e (by decide)
                              have c218_ : zPm N217_ := zPm.fr hsN217_ c88_ (by decide) (by decide)
                              have c219_ : zFin N217_ := zFin.fr hsN217_ c89_ (by decide) (by decide)
                              have c220_ : zB 83 24 0 5 N217_ := zB.fr hsN217_ c90_ (by decide) (by decide)
                              have c221_ : zB 85 144 0 5 N217_ := zB.fr hsN217_ c91_ (by decide) (by decide)
                              have c222_ : zTab T N217_ := zTab.fr hsN217_ c92_ (by decide) (by decide)
                              have c223_ : zCdR (ze Mz 81 12) (zMvs Mz) T N217_ := zCdR.fr hsN217_ c93_ (by decide) (by decide)
                              have c224_ : zJX T N217_ := zJX.fr hsN217_ c94_ (by decide) (by decide)
                              have c225_ : zFirs T N217_ := zFirs.fr hsN217_ c95_ (by decide) (by decide)
                              have hw0 := zs_get hN217_ ⟨by (exact hv216_a), by (exact hv216_b)⟩
                              have hSn := zSS_s (by (exact i84_)) (show zSS T N78_ u77_ by assumption) hN217_ (by (exact ha211_0_hp0_N215_)) (by (exact ha211_1_hp0_N215_)) (by (exact zo_531 gl.2 ha211_1_hp0_N215_ hv216_b i83_)) rfl rfl (by assumption)
                              refine zw_aload_n (pc := 215) (n := 0) (x := 81) rfl (zdal_p dlC_M_builds_11 (i := 3) rfl) ?_
                              refine zr_getF (r := 92) (hf_N217_.w hW) (pc := 216) f_M_47 rfl (zh_92 (hf_N217_.w hW)).1 (zdal_p dlC_M_builds_11 (i := 4) rfl) ?_
                              refine zw_aload_n (pc := 219) (n := 0) (x := 81) rfl (zdal_p dlC_M_builds_11 (i := 5) rfl) ?_
                              refine zr_getF (r := 90) (hf_N217_.w hW) (pc := 220) f_M_41 rfl (zh_90 (hf_N217_.w hW)).1 (zdal_p dlC_M_builds_11 (i := 6) rfl) ?_
                              refine zw_iload_n (pc := 223) (n := 1) (x := Int32.ofInt u77_) rfl (zdal_p dlC_M_builds_11 (i := 7) rfl) ?_
                              refine zr_ialdn (pc := 224) (zh_90 (hf_N217_.w hW)).2 (by decide) (by (exact i84_)) (by (exact zo_548 hc_192 hu77_b i82_)) (zdal_p dlC_M_builds_11 (i := 8) rfl) (fun v226_ hv226_ hv226_a hv226_b => ?_)
                              have hx224_ := hv226_
                              refine zw_dup2 (pc := 225) rfl rfl (zdal_p dlC_M_builds_11 (i := 9) rfl) ?_
                              refine zr_ialdn (pc := 226) (zh_92 (hf_N217_.w hW)).2 (by decide) (by (exact zo_553 ha211_0_hp0_N215_ hv226_ hv226_a hw0)) (by (exact zo_554 gl.2 ha211_1_hp0_N215_ hv226_ hv226_b hw0 i83_)) (zdal_p dlC_M_builds_11 (i := 10) rfl) (fun v227_ hv227_ hv227_a hv227_b => ?_)
                              have hx226_ := hv227_
                              refine zw_iconst (pc := 227) (v := Int32.ofInt 1) (by decide) (zdal_p dlC_M_builds_11 (i := 11) rfl) ?_
                              refine zr_iadd (pc := 228) (zdal_p dlC_M_builds_11 (i := 12) rfl) ?_
                              refine zr_iast (pc := 229) (zh_92 (hf_N217_.w hW)).2 (by decide) (by decide) (by (exact zo_553 ha211_0_hp0_N215_ hv226_ hv226_a hw0)) (by (exact zo_554 gl.2 ha211_1_hp0_N215_ hv226_ hv226_b hw0 i83_)) (zdal_p dlC_M_builds_11 (i := 13) rfl) (fun N228_ hN228_ hsN228_ => ?_)
                              have hf_N228_ : zFr [20, 25, 26] [85, 86, 87, 88, 89, 90, 91, 92, 93, 94] Mz N228_ := hf_N217_.tr hsN228_ (by decide) (by decide)
                              have hb0_N228_ : zFr [] [90, 92] N61_ N228_ := hb0_N217_.tr hsN228_ (by decide) (by decide)
                              have e12_N228_ : ze N228_ 81 12 = ze N217_ 81 12 := hsN228_.e (by decide)
                              have e13_N228_ : ze N228_ 81 13 = ze N217_ 81 13 := hsN228_.e (by decide)
                              have e20_N228_ : ze N228_ 81 20 = ze N217_ 81 20 := hsN228_.e (by decide)
                              have e25_N228_ : ze N228_ 81 25 = ze N217_ 81 25 := hsN228_.e (by decide)
                              have e26_N228_ : ze N228_ 81 26 = ze N217_ 81 26 := hsN228_.e (by decide)
                              have c229_ : zPm N228_ := zPm.fr hsN228_ c218_ (by decide) (by decide)
                              have c230_ : zFin N228_ := zFin.fr hsN228_ c219_ (by decide) (by decide)
                              have c231_ : zB 83 24 0 5 N228_ := zB.fr hsN228_ c220_ (by decide) (by decide)
                              have c232_ : zB 85 144 0 5 N228_ := zB.fr hsN228_ c221_ (by decide) (by decide)
                              have c233_ : zTab T N228_ := zTab.fr hsN228_ c222_ (by decide) (by decide)
                              have c234_ : zCdR (ze Mz 81 12) (zMvs Mz) T N228_ := zCdR.fr hsN228_ c223_ (by decide) (by decide)
                              have c235_ : zJX T N228_ := zJX.fr hsN228_ c224_ (by decide) (by decide)
                              have c236_ : zFirs T N228_ := zFirs.fr hsN228_ c225_ (by decide) (by decide)
                              have hSf := hSn.fr hsN228_ (by decide) (by decide)
                              have hso2_ := zSoF_s hso_ (by (exact i84_)) (by (exact zo_555 hc_192 hu77_b i82_)) hN217_ (by (exact ha211_0_hp0_N215_)) (by (exact zo_556 ha211_1_hp0_N215_ hv216_b i83_)) (by (exact zo_557 gl.2 ha211_1_hp0_N215_ hv216_b i83_)) (fun j => hsN217_.ie (q := 92) (by decide) (by decide) j) hx224_ hx226_ hN228_ (fun j => hsN228_.ie (q := 90) (by decide) (by decide) j) rfl
                              refine zr_iinc (pc := 230) (i := 1) (a := u77_) (n := 1) (L2 := [some (.ref 81), some (.int (Int32.ofInt (u77_ + 1))), none, none]) rfl (by decide) rfl (zdal_p dlC_M_builds_11 (i := 14) rfl) ?_
                              refine zw_goto (pc := 233) (tgt := 187) (by decide) (zdal_p dlC_M_builds_11 (i := 15) rfl) ?_
                              exact ih_187 (u77_ + 1) (by (exact zo_74 i84_)) (by (exact zo_558 hc_192 hu77_b i82_)) N228_ hb0_N228_ (show ze N228_ 81 20 = (gN T : Int) by first | assumption | (exact zo_559 e20_N217_ e20_N228_ i80_)) (show 1 ≤ ze N228_ 81 25 by first | assumption | (exact zo_560 e25_N217_ e25_N228_ i81_)) (show ze N228_ 81 25 ≤ 64 by first | assumption | (exact zo_561 e25_N217_ e25_N228_ i82_)) (show ze N228_ 81 26 = ((gF T).length : Int) by first | assumption | (exact zo_559 e26_N217_ e26_N228_ i83_)) (show 0 ≤ (u77_ + 1) by first | assumption | (exact zo_76 i84_)) (show (u77_ + 1) ≤ ze N228_ 81 25 by first | assumption | (exact zo_562 e25_N217_ e25_N228_ hc_192 hu77_b i81_ i82_)) (show zSS T N228_ (u77_ + 1) by first | assumption | omega) (show zSoF N228_ ((gF T).length : Int) (u77_ + 1) by exact hso2_) (by (exact zo_563 hc_192 hlt_187 hu77_b i82_ i84_))
                            · skip
                              obtain ⟨i0, hi0, hi1⟩ := zFirs_f hO c95_ hk0.2
                              exact absurd hi1 (ha211_0_hp0_N215_ i0 hi0)
                      exact lp_187 _ 0 (by decide) (by decide) N61_ zFr.rf (show ze N61_ 81 20 = (gN T : Int) by first | assumption | omega) (show 1 ≤ ze N61_ 81 25 by first | assumption | omega) (show ze N61_ 81 25 ≤ 64 by first | assumption | omega) (show ze N61_ 81 26 = ((gF T).length : Int) by first | assumption | omega) (show 0 ≤ (0 : Int) by first | assumption | (decide)) (show (0 : Int) ≤ ze N61_ 81 25 by first | assumption | (exact zo_564 i64_)) (show zSS T N61_ (0 : Int) by exact zSS_0) (show zSoF N61_ ((gF T).length : Int) (0 : Int) by exact zSoF_0 hz3_) (Nat.lt_succ_self _)
                    · skip
                      refine zw_aload_n (pc := 172) (n := 0) (x := 81) rfl (zdal_p dlC_M_builds_10 (i := 2) rfl) ?_
                      refine zr_getF (r := 92) (hf_N61_.w hW) (pc := 173) f_M_47 rfl (zh_92 (hf_N61_.w hW)).1 (zdal_p dlC_M_builds_10 (i := 3) rfl) ?_
                      refine zw_iload_n (pc := 176) (n := 1) (x := Int32.ofInt u60_) rfl (zdal_p dlC_M_builds_10 (i := 4) rfl) ?_
                      refine zw_iconst (pc := 177) (v := Int32.ofInt 0) (by decide) (zdal_p dlC_M_builds_10 (i := 5) rfl) ?_
                      refine zr_iast (pc := 178) (zh_92 (hf_N61_.w hW)).2 (by decide) (by decide) (by (exact i67_)) (by (exact zo_522 gl.2 hc_169 hu60_b i66_)) (zdal_p dlC_M_builds_10 (i := 6) rfl) (fun N237_ hN237_ hsN237_ => ?_)
                      have hf_N237_ : zFr [20, 25, 26] [85, 86, 87, 88, 89, 90, 91, 92, 93, 94] Mz N237_ := hf_N61_.tr hsN237_ (by decide) (by decide)
                      have hb0_N237_ : zFr [] [92] N45_ N237_ := hs62_.tr hsN237_ (by decide) (by decide)
                      have e12_N237_ : ze N237_ 81 12 = ze N61_ 81 12 := hsN237_.e (by decide)
                      have e13_N237_ : ze N237_ 81 13 = ze N61_ 81 13 := hsN237_.e (by decide)
                      have e20_N237_ : ze N237_ 81 20 = ze N61_ 81 20 := hsN237_.e (by decide)
                      have e25_N237_ : ze N237_ 81 25 = ze N61_ 81 25 := hsN237_.e (by decide)
                      have e26_N237_ : ze N237_ 81 26 = ze N61_ 81 26 := hsN237_.e (by decide)
                      have c238_ : zPm N237_ := zPm.fr hsN237_ c69_ (by decide) (by decide)
                      have c239_ : zFin N237_ := zFin.fr hsN237_ c70_ (by decide) (by decide)
                      have c240_ : zB 83 24 0 5 N237_ := zB.fr hsN237_ c71_ (by decide) (by decide)
                      have c241_ : zB 85 144 0 5 N237_ := zB.fr hsN237_ c72_ (by decide) (by decide)
                      have c242_ : zTab T N237_ := zTab.fr hsN237_ c73_ (by decide) (by decide)
                      have c243_ : zCdR (ze Mz 81 12) (zMvs Mz) T N237_ := zCdR.fr hsN237_ c74_ (by decide) (by decide)
                      have c244_ : zJX T N237_ := zJX.fr hsN237_ c75_ (by decide) (by decide)
                      have c245_ : zFirs T N237_ := zFirs.fr hsN237_ c76_ (by decide) (by decide)
                      have hz2_ : ∀ i_ : Nat, (i_ : Int) < u60_ + 1 → ze N237_ 92 i_ = 0 := fun i_ hi_ => by by_cases g_ : i_ = (u60_).toNat; (rw [g_]; exact zs_get hN237_ ⟨by decide, by decide⟩); (rw [zs_oth hN237_ g_]; exact hz1_ i_ (by (exact zo_565 hi_ i67_ g_)))
                      refine zr_iinc (pc := 179) (i := 1) (a := u60_) (n := 1) (L2 := [some (.ref 81), some (.int (Int32.ofInt (u60_ + 1))), none, none]) rfl (by decide) rfl (zdal_p dlC_M_builds_10 (i := 7) rfl) ?_
                      refine zw_goto (pc := 182) (tgt := 164) (by decide) (zdal_p dlC_M_builds_10 (i := 8) rfl) ?_
                      exact ih_164 (u60_ + 1) (by (exact zo_74 i67_)) (by (exact zo_520 gl.2 hc_169 hu60_b i66_)) N237_ hb0_N237_ (show ze N237_ 81 20 = (gN T : Int) by first | assumption | (exact zo_532 e20_N237_ i63_)) (show 1 ≤ ze N237_ 81 25 by first | assumption | (exact zo_533 e25_N237_ i64_)) (show ze N237_ 81 25 ≤ 64 by first | assumption | (exact zo_534 e25_N237_ i65_)) (show ze N237_ 81 26 = ((gF T).length : Int) by first | assumption | (exact zo_532 e26_N237_ i66_)) (show 0 ≤ (u60_ + 1) by first | assumption | (exact zo_76 i67_)) (show ∀ i_ : Nat, (i_ : Int) < (u60_ + 1) → ze N237_ 92 i_ = 0 by exact hz2_) (by (exact zo_521 gl.2 hc_169 hlt_164 hu60_b i66_ i67_))
                exact lp_164 _ 0 (by decide) (by decide) N45_ zFr.rf (show ze N45_ 81 20 = (gN T : Int) by first | assumption | omega) (show 1 ≤ ze N45_ 81 25 by first | assumption | omega) (show ze N45_ 81 25 ≤ 64 by first | assumption | omega) (show ze N45_ 81 26 = ((gF T).length : Int) by first | assumption | omega) (show 0 ≤ (0 : Int) by first | assumption | (decide)) (show ∀ i_ : Nat, (i_ : Int) < (0 : Int) → ze N45_ 92 i_ = 0 by exact fun i_ hi_ => absurd hi_ (by (exact zo_131))) (Nat.lt_succ_self _)
              · skip
                refine zw_aload_n (pc := 127) (n := 0) (x := 81) rfl (zdal_p dlC_M_builds_9 (i := 1) rfl) ?_
                refine zw_aload_n (pc := 128) (n := 0) (x := 81) rfl (zdal_p dlC_M_builds_9 (i := 2) rfl) ?_
                refine zr_getF (r := 89) (hf_N45_.w hW) (pc := 129) f_M_38 rfl (zh_89 (hf_N45_.w hW)).1 (zdal_p dlC_M_builds_9 (i := 3) rfl) ?_
                refine zw_iload_n (pc := 132) (n := 1) (x := Int32.ofInt u44_) rfl (zdal_p dlC_M_builds_9 (i := 4) rfl) ?_
                refine zr_ialdn (pc := 133) (zh_89 (hf_N45_.w hW)).2 (by decide) (by (exact i50_)) (by (exact zo_548 hc_124 hu44_b i49_)) (zdal_p dlC_M_builds_9 (i := 5) rfl) (fun v246_ hv246_ hv246_a hv246_b => ?_)
                have hk0 := i53_.1.2.2.1 (u44_).toNat (by (exact zo_549 hc_124 hu44_b i48_ i49_ i50_))
                have hkb := hO.sb hk0.2
                refine zr_toI (show v246_ = ze N45_ 89 (u44_).toNat by (exact hv246_)) ?_
                refine zr_callV (hf_N45_.w hW) hf_N45_.x (pc := 134) [.int (Int32.ofInt (ze N45_ 89 (u44_).toNat))] [] l_M_238 (c_M_leastTurned l N45_ (hf_N45_.w hW) (ze N45_ 89 (u44_).toNat) (by (exact zo_168 hk0.1)) (by (exact zo_550 hv246_ hv246_b)) T hG c58_ (show 0 ≤ (ze N45_ 89 (u44_).toNat) by first | assumption | (exact zo_57 hk0.1)) (show (ze N45_ 89 (u44_).toNat) < 16777216 by first | assumption | omega)) rfl rfl rfl (by decide) (Nat.le_of_ble_eq_true rfl) (zdal_p dlC_M_builds_9 (i := 6) rfl) ?_
                rintro _ N247_ ⟨v248_, rfl, ⟨hv248_a, hv248_b⟩, hsN247_, ⟨hp0_N247_, hp1_N247_, hp2_N247_⟩⟩
                obtain rfl := hsN247_.eq.symm
                show zW l m_M_builds (zn Mz + 0, zw Mz + 0) N45_ 137 [some (.ref 81), some (.int (Int32.ofInt u44_)), none, none] [.int (Int32.ofInt v248_)] _
                refine zw_aload_n (pc := 137) (n := 0) (x := 81) rfl (zdal_p dlC_M_builds_9 (i := 7) rfl) ?_
                refine zr_getF (r := 89) (hf_N45_.w hW) (pc := 138) f_M_38 rfl (zh_89 (hf_N45_.w hW)).1 (zdal_p dlC_M_builds_9 (i := 8) rfl) ?_
                refine zw_iload_n (pc := 141) (n := 1) (x := Int32.ofInt u44_) rfl (zdal_p dlC_M_builds_9 (i := 9) rfl) ?_
                refine zr_ialdn (pc := 142) (zh_89 (hf_N45_.w hW)).2 (by decide) (by (exact i50_)) (by (exact zo_548 hc_124 hu44_b i49_)) (zdal_p dlC_M_builds_9 (i := 10) rfl) (fun v249_ hv249_ hv249_a hv249_b => ?_)
                refine zr_toI (show v249_ = ze N45_ 89 (u44_).toNat by (exact hv249_)) ?_
                refine zr_icmp_ne (pc := 143) (tgt := 156) ⟨hv248_a, hv248_b⟩ ⟨(by (exact zo_168 hk0.1)), (by (exact zo_550 hv249_ hv249_b))⟩ (by decide) (zdal_p dlC_M_builds_9 (i := 11) rfl) (fun hc_143 => ?_) (fun hc_143 => ?_)
                · skip
                  refine zr_iinc (pc := 156) (i := 1) (a := u44_) (n := 1) (L2 := [some (.ref 81), some (.int (Int32.ofInt (u44_ + 1))), none, none]) rfl (by decide) rfl (zdal_p dlC_M_builds_9 (i := 18) rfl) ?_
                  refine zw_goto (pc := 159) (tgt := 119) (by decide) (zdal_p dlC_M_builds_9 (i := 19) rfl) ?_
                  have hFn : zFl T N45_ (u44_ + 1) := by first | exact hFa | exact zFl_n (by (exact i50_)) (by assumption) rfl (by assumption) (by (exact hc_143))
                  exact ih_119 (u44_ + 1) (by (exact zo_74 i50_)) (by (exact zo_558 hc_124 hu44_b i49_)) N45_ hs46_ (show ze N45_ 81 20 = (gN T : Int) by first | assumption | omega) (show 1 ≤ ze N45_ 81 25 by first | assumption | omega) (show ze N45_ 81 25 ≤ 64 by first | assumption | omega) (show 0 ≤ (u44_ + 1) by first | assumption | (exact zo_76 i50_)) (show (u44_ + 1) ≤ ze N45_ 81 25 by first | assumption | omega) (show zFl T N45_ (u44_ + 1) by first | assumption | omega) i53_ (by (exact zo_563 hc_124 hlt_119 hu44_b i49_ i50_))
                · skip
                  refine zw_aload_n (pc := 146) (n := 0) (x := 81) rfl (zdal_p dlC_M_builds_9 (i := 12) rfl) ?_
                  refine zw_aload_n (pc := 147) (n := 0) (x := 81) rfl (zdal_p dlC_M_builds_9 (i := 13) rfl) ?_
                  refine zr_getF (r := 89) (hf_N45_.w hW) (pc := 148) f_M_38 rfl (zh_89 (hf_N45_.w hW)).1 (zdal_p dlC_M_builds_9 (i := 14) rfl) ?_
                  refine zw_iload_n (pc := 151) (n := 1) (x := Int32.ofInt u44_) rfl (zdal_p dlC_M_builds_9 (i := 15) rfl) ?_
                  refine zr_ialdn (pc := 152) (zh_89 (hf_N45_.w hW)).2 (by decide) (by (exact i50_)) (by (exact zo_548 hc_124 hu44_b i49_)) (zdal_p dlC_M_builds_9 (i := 16) rfl) (fun v250_ hv250_ hv250_a hv250_b => ?_)
                  refine zr_toI (show v250_ = ze N45_ 89 (u44_).toNat by (exact hv250_)) ?_
                  have hfl := (show zFl T N45_ u44_ by assumption)
                  have hf1 := hfl.1
                  have hf2 := hfl.2.1
                  have hne := zFl_ne i53_.1 (by (exact i50_)) (by (exact hc_124)) (show zFl T N45_ u44_ by assumption) (v := ze N45_ 89 (u44_).toNat) rfl
                  refine zr_callV (hf_N45_.w hW) hf_N45_.x (pc := 153) [.int (Int32.ofInt (ze N45_ 89 (u44_).toNat))] [] l_M_241 (c_M_comesSort l N45_ (hf_N45_.w hW) (ze N45_ 89 (u44_).toNat) (by (exact zo_168 hk0.1)) (by (exact zo_550 hv250_ hv250_b)) (show 0 ≤ ze N45_ 81 26 by first | assumption | (exact zo_57 hf1.1)) (show ze N45_ 81 26 ≤ 63 by first | assumption | (exact zo_566 hc_124 hf1.2 hu44_b i49_)) (show 0 ≤ (ze N45_ 89 (u44_).toNat) by first | assumption | (exact zo_57 hk0.1)) (show (ze N45_ 89 (u44_).toNat) < 16777216 by first | assumption | omega) (show zSo N45_ (ze N45_ 81 26) by first | assumption | omega) (show ∀ i : Nat, (i : Int) < ze N45_ 81 26 → ze N45_ 91 i ≠ (ze N45_ 89 (u44_).toNat) by first | assumption | omega)) rfl rfl rfl (by decide) (Nat.le_of_ble_eq_true rfl) (zdal_p dlC_M_builds_9 (i := 17) rfl) ?_
                  rintro _ N251_ ⟨rfl, hsN251_, ⟨hp0_N251_, hp1_N251_, hp2_N251_⟩⟩
                  have hf_N251_ : zFr [20, 25, 26] [85, 86, 87, 88, 89, 90, 91, 92, 93, 94] Mz N251_ := hf_N45_.tr hsN251_ (by decide) (by decide)
                  have hb0_N251_ : zFr [26] [91] N36_ N251_ := hs46_.tr hsN251_ (by decide) (by decide)
                  have e12_N251_ : ze N251_ 81 12 = ze N45_ 81 12 := hsN251_.e (by decide)
                  have e13_N251_ : ze N251_ 81 13 = ze N45_ 81 13 := hsN251_.e (by decide)
                  have e20_N251_ : ze N251_ 81 20 = ze N45_ 81 20 := hsN251_.e (by decide)
                  have e25_N251_ : ze N251_ 81 25 = ze N45_ 81 25 := hsN251_.e (by decide)
                  have r26_N251_ := ze_r N251_ 81 26
                  have c253_ : zPm N251_ := zPm.fr hsN251_ c54_ (by decide) (by decide)
                  have c254_ : zFin N251_ := zFin.fr hsN251_ c55_ (by decide) (by decide)
                  have c255_ : zB 83 24 0 5 N251_ := zB.fr hsN251_ c56_ (by decide) (by decide)
                  have c256_ : zB 85 144 0 5 N251_ := zB.fr hsN251_ c57_ (by decide) (by decide)
                  have c257_ : zTab T N251_ := zTab.fr hsN251_ c58_ (by decide) (by decide)
                  have c258_ : zCdR (ze Mz 81 12) (zMvs Mz) T N251_ := zCdR.fr hsN251_ c59_ (by decide) (by decide)
                  have c259_ : zJX T N251_ := zJX.fr hsN251_ i53_ (by decide) (by decide)
                  show zW l m_M_builds (zn Mz + 0, zw Mz + 0) N251_ 156 [some (.ref 81), some (.int (Int32.ofInt u44_)), none, none] [] _
                  have hFa := zFl_a (by (exact i50_)) (show zFl T N45_ u44_ by assumption) rfl (by assumption) (by (exact hc_143)) (fun j => hsN251_.ie (q := 89) (by decide) (by decide) j) hp0_N251_ hp1_N251_ hp2_N251_
                  refine zr_iinc (pc := 156) (i := 1) (a := u44_) (n := 1) (L2 := [some (.ref 81), some (.int (Int32.ofInt (u44_ + 1))), none, none]) rfl (by decide) rfl (zdal_p dlC_M_builds_9 (i := 18) rfl) ?_
                  refine zw_goto (pc := 159) (tgt := 119) (by decide) (zdal_p dlC_M_builds_9 (i := 19) rfl) ?_
                  have hFn : zFl T N251_ (u44_ + 1) := by first | exact hFa | exact zFl_n (by omega) (by assumption) rfl (by assumption) (by omega)
                  exact ih_119 (u44_ + 1) (by (exact zo_74 i50_)) (by (exact zo_558 hc_124 hu44_b i49_)) N251_ hb0_N251_ (show ze N251_ 81 20 = (gN T : Int) by first | assumption | (exact zo_532 e20_N251_ i47_)) (show 1 ≤ ze N251_ 81 25 by first | assumption | (exact zo_533 e25_N251_ i48_)) (show ze N251_ 81 25 ≤ 64 by first | assumption | (exact zo_534 e25_N251_ i49_)) (show 0 ≤ (u44_ + 1) by first | assumption | (exact zo_76 i50_)) (show (u44_ + 1) ≤ ze N251_ 81 25 by first | assumption | (exact zo_567 e25_N251_ hc_124 hu44_b i48_ i49_)) (show zFl T N251_ (u44_ + 1) by first | assumption | omega) c259_ (by (exact zo_563 hc_124 hlt_119 hu44_b i49_ i50_))
          exact lp_119 _ 0 (by decide) (by decide) N36_ zFr.rf (show ze N36_ 81 20 = (gN T : Int) by first | assumption | (exact zo_532 e20_N36_ i23_)) (show 1 ≤ ze N36_ 81 25 by first | assumption | (exact zo_533 e25_N36_ i24_)) (show ze N36_ 81 25 ≤ 64 by first | assumption | (exact zo_534 e25_N36_ i25_)) (show 0 ≤ (0 : Int) by first | assumption | (decide)) (show (0 : Int) ≤ ze N36_ 81 25 by first | assumption | (exact zo_568 e25_N36_ i24_)) (show zFl T N36_ (0 : Int) by first | assumption | omega) c43_ (Nat.lt_succ_self _)
        · skip
          refine zw_iconst (pc := 27) (v := Int32.ofInt 1) (by decide) (zdal_p dlC_M_builds_6 (i := 17) rfl) ?_
          refine zw_istore_n (pc := 28) (i := 2) (L2 := [some (.ref 81), some (.int (Int32.ofInt u20_)), some (.int (Int32.ofInt 1)), none]) rfl (by decide) rfl (zdal_p dlC_M_builds_6 (i := 18) rfl) ?_
          have hX1 := zX_1 hO (show zJ T N21_ (ze N21_ 81 25) by assumption) (show zX T N21_ (ze N21_ 81 25) u20_ 0 by assumption)
          have lp_29 : ∀ (n : Nat) (u260_ : Int) (hu260_a : -2147483648 ≤ u260_) (hu260_b : u260_ < 2147483648) (N261_ : zMem) (hs262_ : zFr [25] [89] N21_ N261_) (i263_ : ze N261_ 81 20 = (gN T : Int)) (i264_ : 1 ≤ ze N261_ 81 25) (i265_ : ze N261_ 81 25 ≤ 64) (i266_ : 0 ≤ u20_) (i267_ : u20_ < ze N261_ 81 25) (i268_ : 1 ≤ u260_) (i269_ : u260_ ≤ ze N261_ 81 20) (i270_ : zJ T N261_ (ze N261_ 81 25)) (i271_ : zX T N261_ (ze N261_ 81 25) u20_ u260_), (25 - u260_).toNat < n → zW l m_M_builds (zn Mz + 0, zw Mz + 0) N261_ 29 [some (.ref 81), some (.int (Int32.ofInt u20_)), some (.int (Int32.ofInt u260_)), none] [] (zpV [20, 25, 26] [85, 86, 87, 88, 89, 90, 91, 92, 93, 94] Mz (fun N => ∃ T : zGT, T ∈ gTabs ∧ zGB T N ∧ zTm (zMvs Mz) T ∧ zCdS (ze Mz 81 12) (zMvs Mz) T N)) := by
            intro n
            induction n with
            | zero =>
              intro u260_ hu260_a hu260_b N261_ hs262_ i263_ i264_ i265_ i266_ i267_ i268_ i269_ i270_ i271_ h0
              exact absurd h0 (Nat.not_lt_zero _)
            | succ n ih_29 =>
              intro u260_ hu260_a hu260_b N261_ hs262_ i263_ i264_ i265_ i266_ i267_ i268_ i269_ i270_ i271_ hlt_29
              have hf_N261_ : zFr [20, 25, 26] [85, 86, 87, 88, 89, 90, 91, 92, 93, 94] Mz N261_ := hf_N21_.tr hs262_ (by decide) (by decide)
              have hb0_N261_ : zFr [25] [89] N13_ N261_ := hs22_.tr hs262_ (by decide) (by decide)
              have e12_N261_ : ze N261_ 81 12 = ze N21_ 81 12 := hs262_.e (by decide)
              have e13_N261_ : ze N261_ 81 13 = ze N21_ 81 13 := hs262_.e (by decide)
              have e20_N261_ : ze N261_ 81 20 = ze N21_ 81 20 := hs262_.e (by decide)
              have r25_N261_ := ze_r N261_ 81 25
              have e26_N261_ : ze N261_ 81 26 = ze N21_ 81 26 := hs262_.e (by decide)
              have c272_ : zPm N261_ := zPm.fr hs262_ c30_ (by decide) (by decide)
              have c273_ : zFin N261_ := zFin.fr hs262_ c31_ (by decide) (by decide)
              have c274_ : zB 83 24 0 5 N261_ := zB.fr hs262_ c32_ (by decide) (by decide)
              have c275_ : zB 85 144 0 5 N261_ := zB.fr hs262_ c33_ (by decide) (by decide)
              have c276_ : zTab T N261_ := zTab.fr hs262_ c34_ (by decide) (by decide)
              have c277_ : zCdR (ze Mz 81 12) (zMvs Mz) T N261_ := zCdR.fr hs262_ c35_ (by decide) (by decide)
              have zz12_N261_ : ze N261_ 81 12 = ze Mz 81 12 := hf_N261_.e (by decide)
              have zz13_N261_ : ze N261_ 81 13 = ze Mz 81 13 := hf_N261_.e (by decide)
              refine zw_iload_n (pc := 29) (n := 2) (x := Int32.ofInt u260_) rfl (zdal_p dlC_M_builds_6 (i := 19) rfl) ?_
              refine zw_aload_n (pc := 30) (n := 0) (x := 81) rfl (zdal_p dlC_M_builds_6 (i := 20) rfl) ?_
              refine zr_getI (hf_N261_.w hW) (pc := 31) f_M_196 rfl (zdal_p dlC_M_builds_6 (i := 21) rfl) ?_
              refine zr_icmp_ge (pc := 34) (tgt := 106) ⟨hu260_a, hu260_b⟩ ⟨(ze_r N261_ 81 20).1, (ze_r N261_ 81 20).2⟩ (by decide) (zdal_p dlC_M_builds_6 (i := 22) rfl) (fun hc_34 => ?_) (fun hc_34 => ?_)
              · skip
                refine zr_iinc (pc := 106) (i := 1) (a := u20_) (n := 1) (L2 := [some (.ref 81), some (.int (Int32.ofInt (u20_ + 1))), some (.int (Int32.ofInt u260_)), none]) rfl (by decide) rfl (zdal_p dlC_M_builds_8 (i := 14) rfl) ?_
                refine zw_goto (pc := 109) (tgt := 19) (by decide) (zdal_p dlC_M_builds_8 (i := 15) rfl) ?_
                have hXn : zX T N261_ (ze N261_ 81 25) (u20_ + 1) 0 := zX_n (by assumption) (by (exact zo_569 g24 hc_34 i263_ i268_))
                refine zW_le [some (.ref 81), some (.int (Int32.ofInt (u20_ + 1))), none, none] (⟨rfl, rfl, trivial⟩) ?_
                exact ih_19 (u20_ + 1) (by (exact zo_74 i26_)) (by (exact zo_570 hu20_b i265_ i267_)) N261_ hb0_N261_ (show ze N261_ 81 20 = (gN T : Int) by first | assumption | omega) (show 1 ≤ ze N261_ 81 25 by first | assumption | omega) (show ze N261_ 81 25 ≤ 64 by first | assumption | omega) (show 0 ≤ (u20_ + 1) by first | assumption | (exact zo_76 i26_)) (show (u20_ + 1) ≤ ze N261_ 81 25 by first | assumption | omega) (show zJ T N261_ (ze N261_ 81 25) by first | assumption | omega) (show zX T N261_ (ze N261_ 81 25) (u20_ + 1) 0 by first | assumption | omega) (by (exact zo_571 hlt_19 hu20_b i265_ i267_ i26_))
              · skip
                refine zw_aload_n (pc := 37) (n := 0) (x := 81) rfl (zdal_p dlC_M_builds_6 (i := 23) rfl) ?_
                refine zr_getF (r := 89) (hf_N261_.w hW) (pc := 38) f_M_38 rfl (zh_89 (hf_N261_.w hW)).1 (zdal_p dlC_M_builds_7 (i := 0) rfl) ?_
                refine zw_iload_n (pc := 41) (n := 1) (x := Int32.ofInt u20_) rfl (zdal_p dlC_M_builds_7 (i := 1) rfl) ?_
                refine zr_ialdn (pc := 42) (zh_89 (hf_N261_.w hW)).2 (by decide) (by (exact i26_)) (by (exact zo_572 hu20_b i265_ i267_)) (zdal_p dlC_M_builds_7 (i := 2) rfl) (fun v278_ hv278_ hv278_a hv278_b => ?_)
                have hk0 := (show zJ T N261_ (ze N261_ 81 25) by assumption).2.2.1 (u20_).toNat (by (exact zo_573 hu20_b i264_ i265_ i267_ i26_))
                have hkb := hO.sb hk0.2
                refine zw_iload_n (pc := 43) (n := 2) (x := Int32.ofInt u260_) rfl (zdal_p dlC_M_builds_7 (i := 3) rfl) ?_
                refine zr_callS hf_N261_.x (pc := 44) [.int (Int32.ofInt v278_), .int (Int32.ofInt u260_)] [] l_M_213 (c_M_holds l N261_ (hf_N261_.w hW) v278_ hv278_a hv278_b u260_ hu260_a hu260_b (show 0 ≤ v278_ by first | assumption | (exact zo_574 hk0.1 hv278_ hv278_a)) (show 0 ≤ u260_ by first | assumption | (exact zo_564 i268_)) (show u260_ < 32 by first | assumption | (exact zo_575 g24 hc_34 hu260_b i263_))) rfl rfl (by decide) (Nat.le_of_ble_eq_true rfl) (zdal_p dlC_M_builds_7 (i := 4) rfl) ?_
                rintro _ N279_ ⟨v280_, rfl, ⟨hv280_a, hv280_b⟩, hsN279_, hp0_N279_⟩
                obtain rfl := hsN279_.eq.symm
                replace hp0_N279_ : ((v280_ = 1 ∧ zbt v278_ u260_) ∨ (v280_ = 0 ∧ ¬ zbt v278_ u260_)) := hp0_N279_
                rcases hp0_N279_ with ⟨rfl, ha44_0_hp0_N279_⟩ | ⟨rfl, ha44_0_hp0_N279_⟩
                · skip
                  show zW l m_M_builds (zn Mz + 0, zw Mz + 0) N261_ 47 [some (.ref 81), some (.int (Int32.ofInt u20_)), some (.int (Int32.ofInt u260_)), none] [.int (Int32.ofInt 1)] _
                  refine zr_if_eq (pc := 47) (tgt := 53) ⟨(by decide), (by decide)⟩ (by decide) (zdal_p dlC_M_builds_7 (i := 5) rfl) (fun hc_47 => ?_) (fun hc_47 => ?_)
                  · skip
                    exact absurd hc_47 (by decide)
                  · skip
                    refine zw_goto (pc := 50) (tgt := 100) (by decide) (zdal_p dlC_M_builds_7 (i := 6) rfl) ?_
                    refine zr_iinc (pc := 100) (i := 2) (a := u260_) (n := 1) (L2 := [some (.ref 81), some (.int (Int32.ofInt u20_)), some (.int (Int32.ofInt (u260_ + 1))), none]) rfl (by decide) rfl (zdal_p dlC_M_builds_8 (i := 12) rfl) ?_
                    refine zw_goto (pc := 103) (tgt := 29) (by decide) (zdal_p dlC_M_builds_8 (i := 13) rfl) ?_
                    have hJn : zJ T N261_ (ze N261_ 81 25) := by first | assumption | exact hJa
                    have hXn : zX T N261_ (ze N261_ 81 25) u20_ (u260_ + 1) := by first | exact hXa | exact zX_f (by omega) (by omega) (by assumption) rfl hLr (by assumption) (by omega) | exact zX_b (by (exact i26_)) (by (exact zo_564 i268_)) (by assumption) (by assumption) (by assumption)
                    have hle := zJ_le hO hJn
                    exact ih_29 (u260_ + 1) (by (exact zo_576 i268_)) (by (exact zo_546 g24 hc_34 hu260_b i263_)) N261_ hs262_ (show ze N261_ 81 20 = (gN T : Int) by first | assumption | omega) (show 1 ≤ ze N261_ 81 25 by first | assumption | omega) (show ze N261_ 81 25 ≤ 64 by first | assumption | omega) (show 0 ≤ u20_ by first | assumption | omega) (show u20_ < ze N261_ 81 25 by first | assumption | omega) (show 1 ≤ (u260_ + 1) by first | assumption | (exact zo_577 i268_)) (show (u260_ + 1) ≤ ze N261_ 81 20 by first | assumption | omega) (show zJ T N261_ (ze N261_ 81 25) by first | assumption | omega) (show zX T N261_ (ze N261_ 81 25) u20_ (u260_ + 1) by first | assumption | omega) (by (exact zo_578 g24 hc_34 hlt_29 hu260_b i263_ i268_))
                · skip
                  show zW l m_M_builds (zn Mz + 0, zw Mz + 0) N261_ 47 [some (.ref 81), some (.int (Int32.ofInt u20_)), some (.int (Int32.ofInt u260_)), none] [.int (Int32.ofInt 0)] _
                  refine zr_if_eq (pc := 47) (tgt := 53) ⟨(by decide), (by decide)⟩ (by decide) (zdal_p dlC_M_builds_7 (i := 5) rfl) (fun hc_47 => ?_) (fun hc_47 => ?_)
                  · skip
                    refine zw_aload_n (pc := 53) (n := 0) (x := 81) rfl (zdal_p dlC_M_builds_7 (i := 7) rfl) ?_
                    refine zw_aload_n (pc := 54) (n := 0) (x := 81) rfl (zdal_p dlC_M_builds_7 (i := 8) rfl) ?_
                    refine zr_getF (r := 89) (hf_N261_.w hW) (pc := 55) f_M_38 rfl (zh_89 (hf_N261_.w hW)).1 (zdal_p dlC_M_builds_7 (i := 9) rfl) ?_
                    refine zw_iload_n (pc := 58) (n := 1) (x := Int32.ofInt u20_) rfl (zdal_p dlC_M_builds_7 (i := 10) rfl) ?_
                    refine zr_ialdn (pc := 59) (zh_89 (hf_N261_.w hW)).2 (by decide) (by (exact i26_)) (by (exact zo_572 hu20_b i265_ i267_)) (zdal_p dlC_M_builds_7 (i := 11) rfl) (fun v281_ hv281_ hv281_a hv281_b => ?_)
                    refine zr_toI (show v281_ = ze N261_ 89 (u20_).toNat by (exact hv281_)) ?_
                    refine zw_iconst (pc := 60) (v := Int32.ofInt 1) (by decide) (zdal_p dlC_M_builds_7 (i := 12) rfl) ?_
                    refine zw_iload_n (pc := 61) (n := 2) (x := Int32.ofInt u260_) rfl (zdal_p dlC_M_builds_7 (i := 13) rfl) ?_
                    refine zr_ishl (pc := 62) (zdal_p dlC_M_builds_7 (i := 14) rfl) ?_
                    have hr282_ := zshl_r 1 u260_
                    have hgi := gIn_or hG (x := ze N261_ 89 (u20_).toNat) (g := u260_) hk0.1 (hO.2.1.2.2 _ hk0.2).1.2.1 (by (exact zo_564 i268_)) (by (exact zo_545 g24 hc_34 hu260_b i263_))
                    refine zr_ior (pc := 63) (zdal_p dlC_M_builds_7 (i := 15) rfl) ?_
                    have hr283_ := zor_r (ze N261_ 89 (u20_).toNat) (zshl 1 u260_)
                    have hks := (hO.2.1.2.2 _ hk0.2).1.2.1
                    refine zr_callV (hf_N261_.w hW) hf_N261_.x (pc := 64) [.int (Int32.ofInt (zor (ze N261_ 89 (u20_).toNat) (zshl 1 u260_)))] [] l_M_229 (c_M_closed l N261_ (hf_N261_.w hW) (zor (ze N261_ 89 (u20_).toNat) (zshl 1 u260_)) (by (exact zo_284 hr283_.1)) (by (exact zo_285 hr283_.2)) T hG c276_ (show gIn T (zor (ze N261_ 89 (u20_).toNat) (zshl 1 u260_)) by exact hgi.1)) rfl rfl rfl (by decide) (Nat.le_of_ble_eq_true rfl) (zdal_p dlC_M_builds_7 (i := 16) rfl) ?_
                    rintro _ N284_ ⟨v285_, rfl, ⟨hv285_a, hv285_b⟩, hsN284_, ⟨hp0_N284_, hp1_N284_, hp2_N284_⟩⟩
                    obtain rfl := hsN284_.eq.symm
                    show zW l m_M_builds (zn Mz + 0, zw Mz + 0) N261_ 67 [some (.ref 81), some (.int (Int32.ofInt u20_)), some (.int (Int32.ofInt u260_)), none] [.int (Int32.ofInt v285_)] _
                    have hLr := hp0_N284_
                    rw [hgi.2] at hLr
                    refine zw_istore_n (pc := 67) (i := 3) (L2 := [some (.ref 81), some (.int (Int32.ofInt u20_)), some (.int (Int32.ofInt u260_)), some (.int (Int32.ofInt v285_))]) rfl (by decide) rfl (zdal_p dlC_M_builds_7 (i := 17) rfl) ?_
                    refine zw_aload_n (pc := 68) (n := 0) (x := 81) rfl (zdal_p dlC_M_builds_7 (i := 18) rfl) ?_
                    refine zw_iload_n (pc := 69) (n := 3) (x := Int32.ofInt v285_) rfl (zdal_p dlC_M_builds_7 (i := 19) rfl) ?_
                    refine zr_callV (hf_N261_.w hW) hf_N261_.x (pc := 70) [.int (Int32.ofInt v285_)] [] l_M_232 (c_M_subIndex l N261_ (hf_N261_.w hW) v285_ hv285_a hv285_b (show 0 ≤ ze N261_ 81 25 by first | assumption | (exact zo_564 i264_)) (show ze N261_ 81 25 ≤ 128 by first | assumption | (exact zo_579 i265_))) rfl rfl rfl (by decide) (Nat.le_of_ble_eq_true rfl) (zdal_p dlC_M_builds_7 (i := 20) rfl) ?_
                    rintro _ N286_ ⟨v287_, rfl, ⟨hv287_a, hv287_b⟩, hsN286_, hp0_N286_⟩
                    obtain rfl := hsN286_.eq.symm
                    replace hp0_N286_ : ((0 ≤ v287_ ∧ v287_ < ze N261_ 81 25 ∧ ze N261_ 89 (v287_).toNat = v285_) ∨ (v287_ = -1 ∧ ∀ k : Nat, (k : Int) < ze N261_ 81 25 → ze N261_ 89 k ≠ v285_)) := hp0_N286_
                    rcases hp0_N286_ with ⟨ha70_0_hp0_N286_, ha70_1_hp0_N286_, ha70_2_hp0_N286_⟩ | ⟨rfl, ha70_0_hp0_N286_⟩
                    · skip
                      show zW l m_M_builds (zn Mz + 0, zw Mz + 0) N261_ 73 [some (.ref 81), some (.int (Int32.ofInt u20_)), some (.int (Int32.ofInt u260_)), some (.int (Int32.ofInt v285_))] [.int (Int32.ofInt v287_)] _
                      refine zw_iconst (pc := 73) (v := Int32.ofInt (-1)) (by decide) (zdal_p dlC_M_builds_7 (i := 21) rfl) ?_
                      refine zr_icmp_eq (pc := 74) (tgt := 80) ⟨hv287_a, hv287_b⟩ ⟨(by decide), (by decide)⟩ (by decide) (zdal_p dlC_M_builds_7 (i := 22) rfl) (fun hc_74 => ?_) (fun hc_74 => ?_)
                      · skip
                        refine zw_aload_n (pc := 80) (n := 0) (x := 81) rfl (zdal_p dlC_M_builds_8 (i := 0) rfl) ?_
                        refine zr_getF (r := 89) (hf_N261_.w hW) (pc := 81) f_M_38 rfl (zh_89 (hf_N261_.w hW)).1 (zdal_p dlC_M_builds_8 (i := 1) rfl) ?_
                        refine zw_aload_n (pc := 84) (n := 0) (x := 81) rfl (zdal_p dlC_M_builds_8 (i := 2) rfl) ?_
                        refine zr_getI (hf_N261_.w hW) (pc := 85) f_M_220 rfl (zdal_p dlC_M_builds_8 (i := 3) rfl) ?_
                        refine zw_iload_n (pc := 88) (n := 3) (x := Int32.ofInt v285_) rfl (zdal_p dlC_M_builds_8 (i := 4) rfl) ?_
                        refine zr_iast (pc := 89) (zh_89 (hf_N261_.w hW)).2 (by decide) (by decide) (by (exact zo_564 i264_)) (by (exact zo_580 i265_)) (zdal_p dlC_M_builds_8 (i := 5) rfl) (fun N288_ hN288_ hsN288_ => ?_)
                        have hf_N288_ : zFr [20, 25, 26] [85, 86, 87, 88, 89, 90, 91, 92, 93, 94] Mz N288_ := hf_N261_.tr hsN288_ (by decide) (by decide)
                        have hb0_N288_ : zFr [25] [89] N13_ N288_ := hb0_N261_.tr hsN288_ (by decide) (by decide)
                        have hb1_N288_ : zFr [25] [89] N21_ N288_ := hs262_.tr hsN288_ (by decide) (by decide)
                        have e12_N288_ : ze N288_ 81 12 = ze N261_ 81 12 := hsN288_.e (by decide)
                        have e13_N288_ : ze N288_ 81 13 = ze N261_ 81 13 := hsN288_.e (by decide)
                        have e20_N288_ : ze N288_ 81 20 = ze N261_ 81 20 := hsN288_.e (by decide)
                        have e25_N288_ : ze N288_ 81 25 = ze N261_ 81 25 := hsN288_.e (by decide)
                        have e26_N288_ : ze N288_ 81 26 = ze N261_ 81 26 := hsN288_.e (by decide)
                        have c289_ : zPm N288_ := zPm.fr hsN288_ c272_ (by decide) (by decide)
                        have c290_ : zFin N288_ := zFin.fr hsN288_ c273_ (by decide) (by decide)
                        have c291_ : zB 83 24 0 5 N288_ := zB.fr hsN288_ c274_ (by decide) (by decide)
                        have c292_ : zB 85 144 0 5 N288_ := zB.fr hsN288_ c275_ (by decide) (by decide)
                        have c293_ : zTab T N288_ := zTab.fr hsN288_ c276_ (by decide) (by decide)
                        have c294_ : zCdR (ze Mz 81 12) (zMvs Mz) T N288_ := zCdR.fr hsN288_ c277_ (by decide) (by decide)
                        refine zw_aload_n (pc := 90) (n := 0) (x := 81) rfl (zdal_p dlC_M_builds_8 (i := 6) rfl) ?_
                        refine zw_dup (pc := 91) rfl (zdal_p dlC_M_builds_8 (i := 7) rfl) ?_
                        refine zr_getI (hf_N288_.w hW) (pc := 92) f_M_220 rfl (zdal_p dlC_M_builds_8 (i := 8) rfl) ?_
                        refine zw_iconst (pc := 95) (v := Int32.ofInt 1) (by decide) (zdal_p dlC_M_builds_8 (i := 9) rfl) ?_
                        refine zr_iadd (pc := 96) (zdal_p dlC_M_builds_8 (i := 10) rfl) ?_
                        refine zr_putI (hf_N288_.w hW) (pc := 97) f_M_220 rfl rfl ⟨by (exact zo_581 e25_N288_ i264_), by (exact zo_582 e25_N288_ i265_)⟩ rfl rfl (zdal_p dlC_M_builds_8 (i := 11) rfl) (fun N295_ hsN295_ hvN295_ => ?_)
                        have hf_N295_ : zFr [20, 25, 26] [85, 86, 87, 88, 89, 90, 91, 92, 93, 94] Mz N295_ := hf_N288_.tr hsN295_ (by decide) (by decide)
                        have hb0_N295_ : zFr [25] [89] N13_ N295_ := hb0_N288_.tr hsN295_ (by decide) (by decide)
                        have hb1_N295_ : zFr [25] [89] N21_ N295_ := hb1_N288_.tr hsN295_ (by decide) (by decide)
                        have e12_N295_ : ze N295_ 81 12 = ze N288_ 81 12 := hsN295_.e (by decide)
                        have e13_N295_ : ze N295_ 81 13 = ze N288_ 81 13 := hsN295_.e (by decide)
                        have e20_N295_ : ze N295_ 81 20 = ze N288_ 81 20 := hsN295_.e (by decide)
                        have r25_N295_ := ze_r N295_ 81 25
                        have e26_N295_ : ze N295_ 81 26 = ze N288_ 81 26 := hsN295_.e (by decide)
                        have c296_ : zPm N295_ := zPm.fr hsN295_ c289_ (by decide) (by decide)
                        have c297_ : zFin N295_ := zFin.fr hsN295_ c290_ (by decide) (by decide)
                        have c298_ : zB 83 24 0 5 N295_ := zB.fr hsN295_ c291_ (by decide) (by decide)
                        have c299_ : zB 85 144 0 5 N295_ := zB.fr hsN295_ c292_ (by decide) (by decide)
                        have c300_ : zTab T N295_ := zTab.fr hsN295_ c293_ (by decide) (by decide)
                        have c301_ : zCdR (ze Mz 81 12) (zMvs Mz) T N295_ := zCdR.fr hsN295_ c294_ (by decide) (by decide)
                        have hA := zJ_a hO (by (exact i26_)) (by (exact i267_)) (by (exact zo_564 i268_)) (k := u20_) (g := u260_) (show zJ T N261_ (ze N261_ 81 25) by assumption) (show zX T N261_ (ze N261_ 81 25) u20_ u260_ by assumption) rfl (by (exact hp1_N284_)) hLr (by first | assumption | (intro _ _; exfalso; (exact zo_583 ha70_0_hp0_N286_ hc_74))) hN288_
                        have hJa := zJ.e (fun k => hsN295_.ie (q := 89) (by decide) (by decide) k) hA.1
                        have hXa := zX.e (fun k => hsN295_.ie (q := 89) (by decide) (by decide) k) hA.2
                        rw [show ze N261_ 81 25 + 1 = ze N295_ 81 25 by omega] at hJa hXa
                        refine zr_iinc (pc := 100) (i := 2) (a := u260_) (n := 1) (L2 := [some (.ref 81), some (.int (Int32.ofInt u20_)), some (.int (Int32.ofInt (u260_ + 1))), some (.int (Int32.ofInt v285_))]) rfl (by decide) rfl (zdal_p dlC_M_builds_8 (i := 12) rfl) ?_
                        refine zw_goto (pc := 103) (tgt := 29) (by decide) (zdal_p dlC_M_builds_8 (i := 13) rfl) ?_
                        have hJn : zJ T N295_ (ze N295_ 81 25) := by first | assumption | exact hJa
                        have hXn : zX T N295_ (ze N295_ 81 25) u20_ (u260_ + 1) := by first | exact hXa | exact zX_f (by omega) (by omega) (by assumption) rfl hLr (by assumption) (by omega) | exact zX_b (by omega) (by omega) (by assumption) (by assumption) (by assumption)
                        have hle := zJ_le hO hJn
                        refine zW_le [some (.ref 81), some (.int (Int32.ofInt u20_)), some (.int (Int32.ofInt (u260_ + 1))), none] (⟨rfl, rfl, rfl, trivial⟩) ?_
                        exact ih_29 (u260_ + 1) (by (exact zo_576 i268_)) (by (exact zo_546 g24 hc_34 hu260_b i263_)) N295_ hb1_N295_ (show ze N295_ 81 20 = (gN T : Int) by first | assumption | (exact zo_559 e20_N288_ e20_N295_ i263_)) (show 1 ≤ ze N295_ 81 25 by first | assumption | (exact zo_584 e25_N288_ hvN295_ i264_ r25_N295_.1)) (show ze N295_ 81 25 ≤ 64 by first | assumption | omega) (show 0 ≤ u20_ by first | assumption | omega) (show u20_ < ze N295_ 81 25 by first | assumption | (exact zo_585 e25_N288_ hu20_b hvN295_ i264_ i265_ i267_)) (show 1 ≤ (u260_ + 1) by first | assumption | (exact zo_577 i268_)) (show (u260_ + 1) ≤ ze N295_ 81 20 by first | assumption | (exact zo_586 e20_N288_ e20_N295_ hc_34)) (show zJ T N295_ (ze N295_ 81 25) by first | assumption | omega) (show zX T N295_ (ze N295_ 81 25) u20_ (u260_ + 1) by first | assumption | omega) (by (exact zo_578 g24 hc_34 hlt_29 hu260_b i263_ i268_))
                      · skip
                        refine zw_goto (pc := 77) (tgt := 100) (by decide) (zdal_p dlC_M_builds_7 (i := 23) rfl) ?_
                        refine zr_iinc (pc := 100) (i := 2) (a := u260_) (n := 1) (L2 := [some (.ref 81), some (.int (Int32.ofInt u20_)), some (.int (Int32.ofInt (u260_ + 1))), some (.int (Int32.ofInt v285_))]) rfl (by decide) rfl (zdal_p dlC_M_builds_8 (i := 12) rfl) ?_
                        refine zw_goto (pc := 103) (tgt := 29) (by decide) (zdal_p dlC_M_builds_8 (i := 13) rfl) ?_
                        have hJn : zJ T N261_ (ze N261_ 81 25) := by first | assumption | exact hJa
                        have hXn : zX T N261_ (ze N261_ 81 25) u20_ (u260_ + 1) := by first | exact hXa | exact zX_f (by (exact i26_)) (by (exact zo_564 i268_)) (by assumption) rfl hLr (by assumption) (by (exact zo_587 ha70_0_hp0_N286_ ha70_1_hp0_N286_)) | exact zX_b (by omega) (by omega) (by assumption) (by assumption) (by assumption)
                        have hle := zJ_le hO hJn
                        refine zW_le [some (.ref 81), some (.int (Int32.ofInt u20_)), some (.int (Int32.ofInt (u260_ + 1))), none] (⟨rfl, rfl, rfl, trivial⟩) ?_
                        exact ih_29 (u260_ + 1) (by (exact zo_576 i268_)) (by (exact zo_546 g24 hc_34 hu260_b i263_)) N261_ hs262_ (show ze N261_ 81 20 = (gN T : Int) by first | assumption | omega) (show 1 ≤ ze N261_ 81 25 by first | assumption | omega) (show ze N261_ 81 25 ≤ 64 by first | assumption | omega) (show 0 ≤ u20_ by first | assumption | omega) (show u20_ < ze N261_ 81 25 by first | assumption | omega) (show 1 ≤ (u260_ + 1) by first | assumption | (exact zo_577 i268_)) (show (u260_ + 1) ≤ ze N261_ 81 20 by first | assumption | omega) (show zJ T N261_ (ze N261_ 81 25) by first | assumption | omega) (show zX T N261_ (ze N261_ 81 25) u20_ (u260_ + 1) by first | assumption | omega) (by (exact zo_578 g24 hc_34 hlt_29 hu260_b i263_ i268_))
                    · skip
                      show zW l m_M_builds (zn Mz + 0, zw Mz + 0) N261_ 73 [some (.ref 81), some (.int (Int32.ofInt u20_)), some (.int (Int32.ofInt u260_)), some (.int (Int32.ofInt v285_))] [.int (Int32.ofInt ((-1)))] _
                      refine zw_iconst (pc := 73) (v := Int32.ofInt (-1)) (by decide) (zdal_p dlC_M_builds_7 (i := 21) rfl) ?_
                      refine zr_icmp_eq (pc := 74) (tgt := 80) ⟨(by decide), (by decide)⟩ ⟨(by decide), (by decide)⟩ (by decide) (zdal_p dlC_M_builds_7 (i := 22) rfl) (fun hc_74 => ?_) (fun hc_74 => ?_)
                      · skip
                        refine zw_aload_n (pc := 80) (n := 0) (x := 81) rfl (zdal_p dlC_M_builds_8 (i := 0) rfl) ?_
                        refine zr_getF (r := 89) (hf_N261_.w hW) (pc := 81) f_M_38 rfl (zh_89 (hf_N261_.w hW)).1 (zdal_p dlC_M_builds_8 (i := 1) rfl) ?_
                        refine zw_aload_n (pc := 84) (n := 0) (x := 81) rfl (zdal_p dlC_M_builds_8 (i := 2) rfl) ?_
                        refine zr_getI (hf_N261_.w hW) (pc := 85) f_M_220 rfl (zdal_p dlC_M_builds_8 (i := 3) rfl) ?_
                        refine zw_iload_n (pc := 88) (n := 3) (x := Int32.ofInt v285_) rfl (zdal_p dlC_M_builds_8 (i := 4) rfl) ?_
                        refine zr_iast (pc := 89) (zh_89 (hf_N261_.w hW)).2 (by decide) (by decide) (by (exact zo_564 i264_)) (by (exact zo_580 i265_)) (zdal_p dlC_M_builds_8 (i := 5) rfl) (fun N302_ hN302_ hsN302_ => ?_)
                        have hf_N302_ : zFr [20, 25, 26] [85, 86, 87, 88, 89, 90, 91, 92, 93, 94] Mz N302_ := hf_N261_.tr hsN302_ (by decide) (by decide)
                        have hb0_N302_ : zFr [25] [89] N13_ N302_ := hb0_N261_.tr hsN302_ (by decide) (by decide)
                        have hb1_N302_ : zFr [25] [89] N21_ N302_ := hs262_.tr hsN302_ (by decide) (by decide)
                        have e12_N302_ : ze N302_ 81 12 = ze N261_ 81 12 := hsN302_.e (by decide)
                        have e13_N302_ : ze N302_ 81 13 = ze N261_ 81 13 := hsN302_.e (by decide)
                        have e20_N302_ : ze N302_ 81 20 = ze N261_ 81 20 := hsN302_.e (by decide)
                        have e25_N302_ : ze N302_ 81 25 = ze N261_ 81 25 := hsN302_.e (by decide)
                        have e26_N302_ : ze N302_ 81 26 = ze N261_ 81 26 := hsN302_.e (by decide)
                        have c303_ : zPm N302_ := zPm.fr hsN302_ c272_ (by decide) (by decide)
                        have c304_ : zFin N302_ := zFin.fr hsN302_ c273_ (by decide) (by decide)
                        have c305_ : zB 83 24 0 5 N302_ := zB.fr hsN302_ c274_ (by decide) (by decide)
                        have c306_ : zB 85 144 0 5 N302_ := zB.fr hsN302_ c275_ (by decide) (by decide)
                        have c307_ : zTab T N302_ := zTab.fr hsN302_ c276_ (by decide) (by decide)
                        have c308_ : zCdR (ze Mz 81 12) (zMvs Mz) T N302_ := zCdR.fr hsN302_ c277_ (by decide) (by decide)
                        refine zw_aload_n (pc := 90) (n := 0) (x := 81) rfl (zdal_p dlC_M_builds_8 (i := 6) rfl) ?_
                        refine zw_dup (pc := 91) rfl (zdal_p dlC_M_builds_8 (i := 7) rfl) ?_
                        refine zr_getI (hf_N302_.w hW) (pc := 92) f_M_220 rfl (zdal_p dlC_M_builds_8 (i := 8) rfl) ?_
                        refine zw_iconst (pc := 95) (v := Int32.ofInt 1) (by decide) (zdal_p dlC_M_builds_8 (i := 9) rfl) ?_
                        refine zr_iadd (pc := 96) (zdal_p dlC_M_builds_8 (i := 10) rfl) ?_
                        refine zr_putI (hf_N302_.w hW) (pc := 97) f_M_220 rfl rfl ⟨by (exact zo_581 e25_N302_ i264_), by (exact zo_582 e25_N302_ i265_)⟩ rfl rfl (zdal_p dlC_M_builds_8 (i := 11) rfl) (fun N309_ hsN309_ hvN309_ => ?_)
                        have hf_N309_ : zFr [20, 25, 26] [85, 86, 87, 88, 89, 90, 91, 92, 93, 94] Mz N309_ := hf_N302_.tr hsN309_ (by decide) (by decide)
                        have hb0_N309_ : zFr [25] [89] N13_ N309_ := hb0_N302_.tr hsN309_ (by decide) (by decide)
                        have hb1_N309_ : zFr [25] [89] N21_ N309_ := hb1_N302_.tr hsN309_ (by decide) (by decide)
                        have e12_N309_ : ze N309_ 81 12 = ze N302_ 81 12 := hsN309_.e (by decide)
                        have e13_N309_ : ze N309_ 81 13 = ze N302_ 81 13 := hsN309_.e (by decide)
                        have e20_N309_ : ze N309_ 81 20 = ze N302_ 81 20 := hsN309_.e (by decide)
                        have r25_N309_ := ze_r N309_ 81 25
                        have e26_N309_ : ze N309_ 81 26 = ze N302_ 81 26 := hsN309_.e (by decide)
                        have c310_ : zPm N309_ := zPm.fr hsN309_ c303_ (by decide) (by decide)
                        have c311_ : zFin N309_ := zFin.fr hsN309_ c304_ (by decide) (by decide)
                        have c312_ : zB 83 24 0 5 N309_ := zB.fr hsN309_ c305_ (by decide) (by decide)
                        have c313_ : zB 85 144 0 5 N309_ := zB.fr hsN309_ c306_ (by decide) (by decide)
                        have c314_ : zTab T N309_ := zTab.fr hsN309_ c307_ (by decide) (by decide)
                        have c315_ : zCdR (ze Mz 81 12) (zMvs Mz) T N309_ := zCdR.fr hsN309_ c308_ (by decide) (by decide)
                        have hA := zJ_a hO (by (exact i26_)) (by (exact i267_)) (by (exact zo_564 i268_)) (k := u20_) (g := u260_) (show zJ T N261_ (ze N261_ 81 25) by assumption) (show zX T N261_ (ze N261_ 81 25) u20_ u260_ by assumption) rfl (by (exact hp1_N284_)) hLr (by first | assumption | (intro _ _; exfalso; omega)) hN302_
                        have hJa := zJ.e (fun k => hsN309_.ie (q := 89) (by decide) (by decide) k) hA.1
                        have hXa := zX.e (fun k => hsN309_.ie (q := 89) (by decide) (by decide) k) hA.2
                        rw [show ze N261_ 81 25 + 1 = ze N309_ 81 25 by omega] at hJa hXa
                        refine zr_iinc (pc := 100) (i := 2) (a := u260_) (n := 1) (L2 := [some (.ref 81), some (.int (Int32.ofInt u20_)), some (.int (Int32.ofInt (u260_ + 1))), some (.int (Int32.ofInt v285_))]) rfl (by decide) rfl (zdal_p dlC_M_builds_8 (i := 12) rfl) ?_
                        refine zw_goto (pc := 103) (tgt := 29) (by decide) (zdal_p dlC_M_builds_8 (i := 13) rfl) ?_
                        have hJn : zJ T N309_ (ze N309_ 81 25) := by first | assumption | exact hJa
                        have hXn : zX T N309_ (ze N309_ 81 25) u20_ (u260_ + 1) := by first | exact hXa | exact zX_f (by omega) (by omega) (by assumption) rfl hLr (by assumption) (by omega) | exact zX_b (by omega) (by omega) (by assumption) (by assumption) (by assumption)
                        have hle := zJ_le hO hJn
                        refine zW_le [some (.ref 81), some (.int (Int32.ofInt u20_)), some (.int (Int32.ofInt (u260_ + 1))), none] (⟨rfl, rfl, rfl, trivial⟩) ?_
                        exact ih_29 (u260_ + 1) (by (exact zo_576 i268_)) (by (exact zo_546 g24 hc_34 hu260_b i263_)) N309_ hb1_N309_ (show ze N309_ 81 20 = (gN T : Int) by first | assumption | (exact zo_559 e20_N302_ e20_N309_ i263_)) (show 1 ≤ ze N309_ 81 25 by first | assumption | (exact zo_584 e25_N302_ hvN309_ i264_ r25_N309_.1)) (show ze N309_ 81 25 ≤ 64 by first | assumption | omega) (show 0 ≤ u20_ by first | assumption | omega) (show u20_ < ze N309_ 81 25 by first | assumption | (exact zo_588 e25_N302_ hc_24 hu20_b hvN309_ i25_ i264_ i267_)) (show 1 ≤ (u260_ + 1) by first | assumption | (exact zo_577 i268_)) (show (u260_ + 1) ≤ ze N309_ 81 20 by first | assumption | (exact zo_586 e20_N302_ e20_N309_ hc_34)) (show zJ T N309_ (ze N309_ 81 25) by first | assumption | omega) (show zX T N309_ (ze N309_ 81 25) u20_ (u260_ + 1) by first | assumption | omega) (by (exact zo_578 g24 hc_34 hlt_29 hu260_b i263_ i268_))
                      · skip
                        exact absurd hc_74 (by decide)
                  · skip
                    exact absurd hc_47 (by decide)
          exact lp_29 _ 1 (by decide) (by decide) N21_ zFr.rf (show ze N21_ 81 20 = (gN T : Int) by first | assumption | omega) (show 1 ≤ ze N21_ 81 25 by first | assumption | omega) (show ze N21_ 81 25 ≤ 64 by first | assumption | omega) (show 0 ≤ u20_ by first | assumption | omega) (show u20_ < ze N21_ 81 25 by first | assumption | omega) (show 1 ≤ (1 : Int) by first | assumption | (decide)) (show (1 : Int) ≤ ze N21_ 81 20 by first | assumption | (exact zo_589 g1 i23_)) (show zJ T N21_ (ze N21_ 81 25) by first | assumption | omega) (show zX T N21_ (ze N21_ 81 25) u20_ (1 : Int) by first | assumption | omega) (Nat.lt_succ_self _)
    exact lp_19 _ 0 (by decide) (by decide) N13_ zFr.rf (show ze N13_ 81 20 = (gN T : Int) by first | assumption | (exact zo_590 e20_N13_ e20_N6_ gn ha1_2_hp1_N1_)) (show 1 ≤ ze N13_ 81 25 by first | assumption | (exact zo_591 e25_N13_ hvN6_)) (show ze N13_ 81 25 ≤ 64 by first | assumption | (exact zo_592 e25_N13_ hvN6_)) (show 0 ≤ (0 : Int) by first | assumption | (decide)) (show (0 : Int) ≤ ze N13_ 81 25 by first | assumption | (exact zo_593 e25_N13_ hvN6_)) (show zJ T N13_ (ze N13_ 81 25) by rw [show ze N13_ 81 25 = 1 by (exact zo_594 e25_N13_ hvN6_)]; exact zJ_0 hO hz0) (show zX T N13_ (ze N13_ 81 25) (0 : Int) 0 by exact zX_0) (Nat.lt_succ_self _)
  · skip
    exact absurd p5_ ha1_0_hp1_N1_
