set_option maxHeartbeats 40000000 in
theorem c_M_buildsF (l : Launch) (Mz : zMem) (hW : zMt Mz) (p0_ : 1 ≤ ze Mz 81 12) (p1_ : ze Mz 81 12 ≤ 6) (p2_ : 0 ≤ ze Mz 81 13) (p3_ : ze Mz 81 13 ≤ 4) (p4_ : zPm Mz) (p5_ : zFin Mz) (p6_ : zB 83 24 0 5 Mz) (p7_ : zB 85 144 0 5 Mz) : zC l m_M_builds 0 0 [.ref 81] Mz (zpV [20, 25, 26] [85, 86, 87, 88, 89, 90, 91, 92, 93, 94] Mz (fun N => ∃ T : zGT, T ∈ gTabs ∧ zGB T N ∧ zTm (zMvs Mz) T ∧ zCdR (ze Mz 81 12) (zMvs Mz) T N)) := by
  refine zC_of (L0 := [some (.ref 81), none, none, none]) md_M_builds (Nat.le_of_ble_eq_true rfl) rfl ?_ zQ0
  have hf : zFr [20, 25, 26] [85, 86, 87, 88, 89, 90, 91, 92, 93, 94] Mz Mz := zFr.rf
  have r_12 := ze_r Mz 81 12
  have r_13 := ze_r Mz 81 13
  have r_20 := ze_r Mz 81 20
  have r_25 := ze_r Mz 81 25
  have r_26 := ze_r Mz 81 26
  refine zw_aload_n (pc := 0) (n := 0) (x := 81) rfl d_M_builds_0 ?_
  refine zr_callV (hf.w hW) hf.x (pc := 1) [] [] l_M_226 (c_M_buildsMembersF l Mz (hf.w hW) (show 1 ≤ ze Mz 81 12 by first | assumption | omega) (show ze Mz 81 12 ≤ 6 by first | assumption | omega) (show 0 ≤ ze Mz 81 13 by first | assumption | omega) (show ze Mz 81 13 ≤ 4 by first | assumption | omega) p4_ p6_ p7_) rfl rfl rfl (by decide) (Nat.le_of_ble_eq_true rfl) d_M_builds_1 ?_
  rintro _ N1_ ⟨v2_, rfl, ⟨hv2_a, hv2_b⟩, hsN1_, ⟨hp0_N1_, hp1_N1_⟩⟩
  have hf_N1_ : zFr [20, 25, 26] [85, 86, 87, 88, 89, 90, 91, 92, 93, 94] Mz N1_ := hf.tr hsN1_ (by decide) (by decide)
  have e12_N1_ : ze N1_ 81 12 = ze Mz 81 12 := hsN1_.e (by decide)
  have e13_N1_ : ze N1_ 81 13 = ze Mz 81 13 := hsN1_.e (by decide)
  have r20_N1_ := ze_r N1_ 81 20
  have e25_N1_ : ze N1_ 81 25 = ze Mz 81 25 := hsN1_.e (by decide)
  have e26_N1_ : ze N1_ 81 26 = ze Mz 81 26 := hsN1_.e (by decide)
  have c3_ : zPm N1_ := zPm.fr hsN1_ p4_ (by decide) (by decide)
  have c4_ : zFin N1_ := zFin.fr hsN1_ p5_ (by decide) (by decide)
  have c5_ : zB 83 24 0 5 N1_ := zB.fr hsN1_ p6_ (by decide) (by decide)
  rcases hp1_N1_ with ⟨rfl, ha1_0_hp1_N1_, ha1_1_hp1_N1_, ha1_2_hp1_N1_, ha1_3_hp1_N1_⟩ | ⟨rfl, ha1_0_hp1_N1_⟩
  · skip
    obtain ⟨T, hTt, hTab, hCd_⟩ := id ha1_3_hp1_N1_
    have hO := gTabs_ok T hTt
    have hG := hO.1
    have g24 := hG.2.1
    have g1 := hG.1
    have gn := hTab.1
    have gl := gF_pos hO
    have hTm_ : zTm (zMvs Mz) T := ⟨_, hCd_⟩
    show zW l m_M_builds (zn Mz + 0, zw Mz + 0) N1_ 4 [some (.ref 81), none, none, none] [.int (Int32.ofInt 1)] (zpV [20, 25, 26] [85, 86, 87, 88, 89, 90, 91, 92, 93, 94] Mz (fun N => ∃ T : zGT, T ∈ gTabs ∧ zGB T N ∧ zTm (zMvs Mz) T ∧ zCdR (ze Mz 81 12) (zMvs Mz) T N))
    refine zw_pop (pc := 4) rfl d_M_builds_4 ?_
    refine zw_aload_n (pc := 5) (n := 0) (x := 81) rfl d_M_builds_5 ?_
    refine zw_iconst (pc := 6) (v := Int32.ofInt 1) (by decide) d_M_builds_6 ?_
    refine zr_putI (hf_N1_.w hW) (pc := 7) f_M_220 rfl rfl ⟨by omega, by omega⟩ rfl rfl d_M_builds_7 (fun N6_ hsN6_ hvN6_ => ?_)
    have hf_N6_ : zFr [20, 25, 26] [85, 86, 87, 88, 89, 90, 91, 92, 93, 94] Mz N6_ := hf_N1_.tr hsN6_ (by decide) (by decide)
    have e12_N6_ : ze N6_ 81 12 = ze N1_ 81 12 := hsN6_.e (by decide)
    have e13_N6_ : ze N6_ 81 13 = ze N1_ 81 13 := hsN6_.e (by decide)
    have e20_N6_ : ze N6_ 81 20 = ze N1_ 81 20 := hsN6_.e (by decide)
    have r25_N6_ := ze_r N6_ 81 25
    have e26_N6_ : ze N6_ 81 26 = ze N1_ 81 26 := hsN6_.e (by decide)
    have c7_ : zPm N6_ := zPm.fr hsN6_ c3_ (by decide) (by decide)
    have c8_ : zFin N6_ := zFin.fr hsN6_ c4_ (by decide) (by decide)
    have c9_ : zB 83 24 0 5 N6_ := zB.fr hsN6_ c5_ (by decide) (by decide)
    have c10_ : zB 85 144 0 5 N6_ := zB.fr hsN6_ hp0_N1_ (by decide) (by decide)
    have c11_ : zTab T N6_ := zTab.fr hsN6_ hTab (by decide) (by decide)
    have c12_ : zCdR (ze Mz 81 12) (zMvs Mz) T N6_ := zCdR.fr hsN6_ hCd_ (by decide) (by decide)
    refine zw_aload_n (pc := 10) (n := 0) (x := 81) rfl d_M_builds_10 ?_
    refine zr_getF (r := 89) (hf_N6_.w hW) (pc := 11) f_M_38 rfl (zh_89 (hf_N6_.w hW)).1 d_M_builds_11 ?_
    refine zw_iconst (pc := 14) (v := Int32.ofInt 0) (by decide) d_M_builds_14 ?_
    refine zw_iconst (pc := 15) (v := Int32.ofInt 1) (by decide) d_M_builds_15 ?_
    refine zr_iast (pc := 16) (zh_89 (hf_N6_.w hW)).2 (by decide) (by decide) (by omega) (by omega) d_M_builds_16 (fun N13_ hN13_ hsN13_ => ?_)
    have hf_N13_ : zFr [20, 25, 26] [85, 86, 87, 88, 89, 90, 91, 92, 93, 94] Mz N13_ := hf_N6_.tr hsN13_ (by decide) (by decide)
    have e12_N13_ : ze N13_ 81 12 = ze N6_ 81 12 := hsN13_.e (by decide)
    have e13_N13_ : ze N13_ 81 13 = ze N6_ 81 13 := hsN13_.e (by decide)
    have e20_N13_ : ze N13_ 81 20 = ze N6_ 81 20 := hsN13_.e (by decide)
    have e25_N13_ : ze N13_ 81 25 = ze N6_ 81 25 := hsN13_.e (by decide)
    have e26_N13_ : ze N13_ 81 26 = ze N6_ 81 26 := hsN13_.e (by decide)
    have c14_ : zPm N13_ := zPm.fr hsN13_ c7_ (by decide) (by decide)
    have c15_ : zFin N13_ := zFin.fr hsN13_ c8_ (by decide) (by decide)
    have c16_ : zB 83 24 0 5 N13_ := zB.fr hsN13_ c9_ (by decide) (by decide)
    have c17_ : zB 85 144 0 5 N13_ := zB.fr hsN13_ c10_ (by decide) (by decide)
    have c18_ : zTab T N13_ := zTab.fr hsN13_ c11_ (by decide) (by decide)
    have c19_ : zCdR (ze Mz 81 12) (zMvs Mz) T N13_ := zCdR.fr hsN13_ c12_ (by decide) (by decide)
    have hz0 : ze N13_ 89 0 = 1 := zs_get hN13_ ⟨by decide, by decide⟩
    refine zw_iconst (pc := 17) (v := Int32.ofInt 0) (by decide) d_M_builds_17 ?_
    refine zw_istore_n (pc := 18) (i := 1) (L2 := [some (.ref 81), some (.int (Int32.ofInt 0)), none, none]) rfl (by decide) rfl d_M_builds_18 ?_
    have lp_19 : ∀ (n : Nat) (u20_ : Int) (hu20_a : -2147483648 ≤ u20_) (hu20_b : u20_ < 2147483648) (N21_ : zMem) (hs22_ : zFr [25] [89] N13_ N21_) (i23_ : ze N21_ 81 20 = (gN T : Int)) (i24_ : 1 ≤ ze N21_ 81 25) (i25_ : ze N21_ 81 25 ≤ 64) (i26_ : 0 ≤ u20_) (i27_ : u20_ ≤ ze N21_ 81 25) (i28_ : zJ T N21_ (ze N21_ 81 25)) (i29_ : zX T N21_ (ze N21_ 81 25) u20_ 0), (65 - u20_).toNat < n → zW l m_M_builds (zn Mz + 0, zw Mz + 0) N21_ 19 [some (.ref 81), some (.int (Int32.ofInt u20_)), none, none] [] (zpV [20, 25, 26] [85, 86, 87, 88, 89, 90, 91, 92, 93, 94] Mz (fun N => ∃ T : zGT, T ∈ gTabs ∧ zGB T N ∧ zTm (zMvs Mz) T ∧ zCdR (ze Mz 81 12) (zMvs Mz) T N)) := by
      clear hsN1_ hv2_a hv2_b hp0_N1_ hf_N1_ e12_N1_ e13_N1_ r20_N1_ e25_N1_ e26_N1_ c3_ c4_ c5_ ha1_1_hp1_N1_ ha1_2_hp1_N1_ ha1_3_hp1_N1_ hsN6_ hvN6_ hf_N6_ e12_N6_ e13_N6_ e20_N6_ r25_N6_ e26_N6_ c7_ c8_ c9_ c10_ c11_ c12_ hsN13_ hN13_ e12_N13_ e13_N13_ e20_N13_ e25_N13_ e26_N13_
      intro n
      induction n with
      | zero =>
        intro u20_ hu20_a hu20_b N21_ hs22_ i23_ i24_ i25_ i26_ i27_ i28_ i29_ h0
        exact absurd h0 (Nat.not_lt_zero _)
      | succ n ih_19 =>
        intro u20_ hu20_a hu20_b N21_ hs22_ i23_ i24_ i25_ i26_ i27_ i28_ i29_ hlt_19
        have hf_N21_ : zFr [20, 25, 26] [85, 86, 87, 88, 89, 90, 91, 92, 93, 94] Mz N21_ := hf_N13_.tr hs22_ (by decide) (by decide)
        have e12_N21_ : ze N21_ 81 12 = ze N13_ 81 12 := hs22_.e (by decide)
        have e13_N21_ : ze N21_ 81 13 = ze N13_ 81 13 := hs22_.e (by decide)
        have e20_N21_ : ze N21_ 81 20 = ze N13_ 81 20 := hs22_.e (by decide)
        have r25_N21_ := ze_r N21_ 81 25
        have e26_N21_ : ze N21_ 81 26 = ze N13_ 81 26 := hs22_.e (by decide)
        have c30_ : zPm N21_ := zPm.fr hs22_ c14_ (by decide) (by decide)
        have c31_ : zFin N21_ := zFin.fr hs22_ c15_ (by decide) (by decide)
        have c32_ : zB 83 24 0 5 N21_ := zB.fr hs22_ c16_ (by decide) (by decide)
        have c33_ : zB 85 144 0 5 N21_ := zB.fr hs22_ c17_ (by decide) (by decide)
        have c34_ : zTab T N21_ := zTab.fr hs22_ c18_ (by decide) (by decide)
        have c35_ : zCdR (ze Mz 81 12) (zMvs Mz) T N21_ := zCdR.fr hs22_ c19_ (by decide) (by decide)
        have zz12_N21_ : ze N21_ 81 12 = ze Mz 81 12 := hf_N21_.e (by decide)
        have zz13_N21_ : ze N21_ 81 13 = ze Mz 81 13 := hf_N21_.e (by decide)
        refine zw_iload_n (pc := 19) (n := 1) (x := Int32.ofInt u20_) rfl d_M_builds_19 ?_
        refine zw_aload_n (pc := 20) (n := 0) (x := 81) rfl d_M_builds_20 ?_
        refine zr_getI (hf_N21_.w hW) (pc := 21) f_M_220 rfl d_M_builds_21 ?_
        refine zr_icmp_ge (pc := 24) (tgt := 112) ⟨hu20_a, hu20_b⟩ ⟨(ze_r N21_ 81 25).1, (ze_r N21_ 81 25).2⟩ (by decide) d_M_builds_24 (fun hc_24 => ?_) (fun hc_24 => ?_)
        · skip
          have hJX : zJX T N21_ := ⟨by assumption, by have h := (show zX T N21_ (ze N21_ 81 25) u20_ 0 by assumption); rwa [show u20_ = ze N21_ 81 25 by omega] at h⟩
          refine zw_aload_n (pc := 112) (n := 0) (x := 81) rfl d_M_builds_112 ?_
          refine zw_iconst (pc := 113) (v := Int32.ofInt 0) (by decide) d_M_builds_113 ?_
          refine zr_putI (hf_N21_.w hW) (pc := 114) f_M_235 rfl rfl ⟨by omega, by omega⟩ rfl rfl d_M_builds_114 (fun N36_ hsN36_ hvN36_ => ?_)
          have hf_N36_ : zFr [20, 25, 26] [85, 86, 87, 88, 89, 90, 91, 92, 93, 94] Mz N36_ := hf_N21_.tr hsN36_ (by decide) (by decide)
          have e12_N36_ : ze N36_ 81 12 = ze N21_ 81 12 := hsN36_.e (by decide)
          have e13_N36_ : ze N36_ 81 13 = ze N21_ 81 13 := hsN36_.e (by decide)
          have e20_N36_ : ze N36_ 81 20 = ze N21_ 81 20 := hsN36_.e (by decide)
          have e25_N36_ : ze N36_ 81 25 = ze N21_ 81 25 := hsN36_.e (by decide)
          have r26_N36_ := ze_r N36_ 81 26
          have c37_ : zPm N36_ := zPm.fr hsN36_ c30_ (by decide) (by decide)
          have c38_ : zFin N36_ := zFin.fr hsN36_ c31_ (by decide) (by decide)
          have c39_ : zB 83 24 0 5 N36_ := zB.fr hsN36_ c32_ (by decide) (by decide)
          have c40_ : zB 85 144 0 5 N36_ := zB.fr hsN36_ c33_ (by decide) (by decide)
          have c41_ : zTab T N36_ := zTab.fr hsN36_ c34_ (by decide) (by decide)
          have c42_ : zCdR (ze Mz 81 12) (zMvs Mz) T N36_ := zCdR.fr hsN36_ c35_ (by decide) (by decide)
          have c43_ : zJX T N36_ := zJX.fr hsN36_ hJX (by decide) (by decide)
          have hF0 := zFl_0 (T := T) (M := N36_) (by omega)
          refine zw_iconst (pc := 117) (v := Int32.ofInt 0) (by decide) d_M_builds_117 ?_
          refine zw_istore_n (pc := 118) (i := 1) (L2 := [some (.ref 81), some (.int (Int32.ofInt 0)), none, none]) rfl (by decide) rfl d_M_builds_118 ?_
          have lp_119 : ∀ (n : Nat) (u44_ : Int) (hu44_a : -2147483648 ≤ u44_) (hu44_b : u44_ < 2147483648) (N45_ : zMem) (hs46_ : zFr [26] [91] N36_ N45_) (i47_ : ze N45_ 81 20 = (gN T : Int)) (i48_ : 1 ≤ ze N45_ 81 25) (i49_ : ze N45_ 81 25 ≤ 64) (i50_ : 0 ≤ u44_) (i51_ : u44_ ≤ ze N45_ 81 25) (i52_ : zFl T N45_ u44_) (i53_ : zJX T N45_), (65 - u44_).toNat < n → zW l m_M_builds (zn Mz + 0, zw Mz + 0) N45_ 119 [some (.ref 81), some (.int (Int32.ofInt u44_)), none, none] [] (zpV [20, 25, 26] [85, 86, 87, 88, 89, 90, 91, 92, 93, 94] Mz (fun N => ∃ T : zGT, T ∈ gTabs ∧ zGB T N ∧ zTm (zMvs Mz) T ∧ zCdR (ze Mz 81 12) (zMvs Mz) T N)) := by
            clear hf_N13_ c14_ c15_ c16_ c17_ c18_ c19_ hz0 hu20_a hu20_b hs22_ i26_ e12_N21_ e13_N21_ e20_N21_ e26_N21_
            intro n
            induction n with
            | zero =>
              intro u44_ hu44_a hu44_b N45_ hs46_ i47_ i48_ i49_ i50_ i51_ i52_ i53_ h0
              exact absurd h0 (Nat.not_lt_zero _)
            | succ n ih_119 =>
              intro u44_ hu44_a hu44_b N45_ hs46_ i47_ i48_ i49_ i50_ i51_ i52_ i53_ hlt_119
              have hf_N45_ : zFr [20, 25, 26] [85, 86, 87, 88, 89, 90, 91, 92, 93, 94] Mz N45_ := hf_N36_.tr hs46_ (by decide) (by decide)
              have e12_N45_ : ze N45_ 81 12 = ze N36_ 81 12 := hs46_.e (by decide)
              have e13_N45_ : ze N45_ 81 13 = ze N36_ 81 13 := hs46_.e (by decide)
              have e20_N45_ : ze N45_ 81 20 = ze N36_ 81 20 := hs46_.e (by decide)
              have e25_N45_ : ze N45_ 81 25 = ze N36_ 81 25 := hs46_.e (by decide)
              have r26_N45_ := ze_r N45_ 81 26
              have c54_ : zPm N45_ := zPm.fr hs46_ c37_ (by decide) (by decide)
              have c55_ : zFin N45_ := zFin.fr hs46_ c38_ (by decide) (by decide)
              have c56_ : zB 83 24 0 5 N45_ := zB.fr hs46_ c39_ (by decide) (by decide)
              have c57_ : zB 85 144 0 5 N45_ := zB.fr hs46_ c40_ (by decide) (by decide)
              have c58_ : zTab T N45_ := zTab.fr hs46_ c41_ (by decide) (by decide)
              have c59_ : zCdR (ze Mz 81 12) (zMvs Mz) T N45_ := zCdR.fr hs46_ c42_ (by decide) (by decide)
              have zz12_N45_ : ze N45_ 81 12 = ze Mz 81 12 := hf_N45_.e (by decide)
              have zz13_N45_ : ze N45_ 81 13 = ze Mz 81 13 := hf_N45_.e (by decide)
              refine zw_iload_n (pc := 119) (n := 1) (x := Int32.ofInt u44_) rfl d_M_builds_119 ?_
              refine zw_aload_n (pc := 120) (n := 0) (x := 81) rfl d_M_builds_120 ?_
              refine zr_getI (hf_N45_.w hW) (pc := 121) f_M_220 rfl d_M_builds_121 ?_
              refine zr_icmp_ge (pc := 124) (tgt := 162) ⟨hu44_a, hu44_b⟩ ⟨(ze_r N45_ 81 25).1, (ze_r N45_ 81 25).2⟩ (by decide) d_M_builds_124 (fun hc_124 => ?_) (fun hc_124 => ?_)
              · skip
                have hFi : zFirs T N45_ := by have h := (show zFl T N45_ u44_ by assumption); rw [show u44_ = ze N45_ 81 25 by omega] at h; exact zFl_e hO i53_.1 i53_.2 h
                have hFl := hFi.1
                refine zw_iconst (pc := 162) (v := Int32.ofInt 0) (by decide) d_M_builds_162 ?_
                refine zw_istore_n (pc := 163) (i := 1) (L2 := [some (.ref 81), some (.int (Int32.ofInt 0)), none, none]) rfl (by decide) rfl d_M_builds_163 ?_
                have lp_164 : ∀ (n : Nat) (u60_ : Int) (hu60_a : -2147483648 ≤ u60_) (hu60_b : u60_ < 2147483648) (N61_ : zMem) (hs62_ : zFr [] [92] N45_ N61_) (i63_ : ze N61_ 81 20 = (gN T : Int)) (i64_ : 1 ≤ ze N61_ 81 25) (i65_ : ze N61_ 81 25 ≤ 64) (i66_ : ze N61_ 81 26 = ((gF T).length : Int)) (i67_ : 0 ≤ u60_), (65 - u60_).toNat < n → zW l m_M_builds (zn Mz + 0, zw Mz + 0) N61_ 164 [some (.ref 81), some (.int (Int32.ofInt u60_)), none, none] [] (zpV [20, 25, 26] [85, 86, 87, 88, 89, 90, 91, 92, 93, 94] Mz (fun N => ∃ T : zGT, T ∈ gTabs ∧ zGB T N ∧ zTm (zMvs Mz) T ∧ zCdR (ze Mz 81 12) (zMvs Mz) T N)) := by
                  clear hsN36_ hvN36_ hf_N36_ e12_N36_ e13_N36_ e20_N36_ e25_N36_ r26_N36_ c37_ c38_ c39_ c40_ c41_ c42_ c43_ hF0 hu44_a hu44_b hs46_ i50_ e12_N45_ e13_N45_ e20_N45_ e25_N45_
                  intro n
                  induction n with
                  | zero =>
                    intro u60_ hu60_a hu60_b N61_ hs62_ i63_ i64_ i65_ i66_ i67_ h0
                    exact absurd h0 (Nat.not_lt_zero _)
                  | succ n ih_164 =>
                    intro u60_ hu60_a hu60_b N61_ hs62_ i63_ i64_ i65_ i66_ i67_ hlt_164
                    have hf_N61_ : zFr [20, 25, 26] [85, 86, 87, 88, 89, 90, 91, 92, 93, 94] Mz N61_ := hf_N45_.tr hs62_ (by decide) (by decide)
                    have e12_N61_ : ze N61_ 81 12 = ze N45_ 81 12 := hs62_.e (by decide)
                    have e13_N61_ : ze N61_ 81 13 = ze N45_ 81 13 := hs62_.e (by decide)
                    have e20_N61_ : ze N61_ 81 20 = ze N45_ 81 20 := hs62_.e (by decide)
                    have e25_N61_ : ze N61_ 81 25 = ze N45_ 81 25 := hs62_.e (by decide)
                    have e26_N61_ : ze N61_ 81 26 = ze N45_ 81 26 := hs62_.e (by decide)
                    have c68_ : zPm N61_ := zPm.fr hs62_ c54_ (by decide) (by decide)
                    have c69_ : zFin N61_ := zFin.fr hs62_ c55_ (by decide) (by decide)
                    have c70_ : zB 83 24 0 5 N61_ := zB.fr hs62_ c56_ (by decide) (by decide)
                    have c71_ : zB 85 144 0 5 N61_ := zB.fr hs62_ c57_ (by decide) (by decide)
                    have c72_ : zTab T N61_ := zTab.fr hs62_ c58_ (by decide) (by decide)
                    have c73_ : zCdR (ze Mz 81 12) (zMvs Mz) T N61_ := zCdR.fr hs62_ c59_ (by decide) (by decide)
                    have c74_ : zJX T N61_ := zJX.fr hs62_ i53_ (by decide) (by decide)
                    have c75_ : zFirs T N61_ := zFirs.fr hs62_ hFi (by decide) (by decide)
                    have zz12_N61_ : ze N61_ 81 12 = ze Mz 81 12 := hf_N61_.e (by decide)
                    have zz13_N61_ : ze N61_ 81 13 = ze Mz 81 13 := hf_N61_.e (by decide)
                    refine zw_iload_n (pc := 164) (n := 1) (x := Int32.ofInt u60_) rfl d_M_builds_164 ?_
                    refine zw_aload_n (pc := 165) (n := 0) (x := 81) rfl d_M_builds_165 ?_
                    refine zr_getI (hf_N61_.w hW) (pc := 166) f_M_235 rfl d_M_builds_166 ?_
                    refine zr_icmp_ge (pc := 169) (tgt := 185) ⟨hu60_a, hu60_b⟩ ⟨(ze_r N61_ 81 26).1, (ze_r N61_ 81 26).2⟩ (by decide) d_M_builds_169 (fun hc_169 => ?_) (fun hc_169 => ?_)
                    · skip
                      refine zw_iconst (pc := 185) (v := Int32.ofInt 0) (by decide) d_M_builds_185 ?_
                      refine zw_istore_n (pc := 186) (i := 1) (L2 := [some (.ref 81), some (.int (Int32.ofInt 0)), none, none]) rfl (by decide) rfl d_M_builds_186 ?_
                      have lp_187 : ∀ (n : Nat) (u76_ : Int) (hu76_a : -2147483648 ≤ u76_) (hu76_b : u76_ < 2147483648) (N77_ : zMem) (hs78_ : zFr [] [90, 92] N61_ N77_) (i79_ : ze N77_ 81 20 = (gN T : Int)) (i80_ : 1 ≤ ze N77_ 81 25) (i81_ : ze N77_ 81 25 ≤ 64) (i82_ : ze N77_ 81 26 = ((gF T).length : Int)) (i83_ : 0 ≤ u76_) (i84_ : u76_ ≤ ze N77_ 81 25) (i85_ : zSS T N77_ u76_), (65 - u76_).toNat < n → zW l m_M_builds (zn Mz + 0, zw Mz + 0) N77_ 187 [some (.ref 81), some (.int (Int32.ofInt u76_)), none, none] [] (zpV [20, 25, 26] [85, 86, 87, 88, 89, 90, 91, 92, 93, 94] Mz (fun N => ∃ T : zGT, T ∈ gTabs ∧ zGB T N ∧ zTm (zMvs Mz) T ∧ zCdR (ze Mz 81 12) (zMvs Mz) T N)) := by
                        clear hu60_a hu60_b i67_
                        intro n
                        induction n with
                        | zero =>
                          intro u76_ hu76_a hu76_b N77_ hs78_ i79_ i80_ i81_ i82_ i83_ i84_ i85_ h0
                          exact absurd h0 (Nat.not_lt_zero _)
                        | succ n ih_187 =>
                          intro u76_ hu76_a hu76_b N77_ hs78_ i79_ i80_ i81_ i82_ i83_ i84_ i85_ hlt_187
                          have hf_N77_ : zFr [20, 25, 26] [85, 86, 87, 88, 89, 90, 91, 92, 93, 94] Mz N77_ := hf_N61_.tr hs78_ (by decide) (by decide)
                          have e12_N77_ : ze N77_ 81 12 = ze N61_ 81 12 := hs78_.e (by decide)
                          have e13_N77_ : ze N77_ 81 13 = ze N61_ 81 13 := hs78_.e (by decide)
                          have e20_N77_ : ze N77_ 81 20 = ze N61_ 81 20 := hs78_.e (by decide)
                          have e25_N77_ : ze N77_ 81 25 = ze N61_ 81 25 := hs78_.e (by decide)
                          have e26_N77_ : ze N77_ 81 26 = ze N61_ 81 26 := hs78_.e (by decide)
                          have c86_ : zPm N77_ := zPm.fr hs78_ c68_ (by decide) (by decide)
                          have c87_ : zFin N77_ := zFin.fr hs78_ c69_ (by decide) (by decide)
                          have c88_ : zB 83 24 0 5 N77_ := zB.fr hs78_ c70_ (by decide) (by decide)
                          have c89_ : zB 85 144 0 5 N77_ := zB.fr hs78_ c71_ (by decide) (by decide)
                          have c90_ : zTab T N77_ := zTab.fr hs78_ c72_ (by decide) (by decide)
                          have c91_ : zCdR (ze Mz 81 12) (zMvs Mz) T N77_ := zCdR.fr hs78_ c73_ (by decide) (by decide)
                          have c92_ : zJX T N77_ := zJX.fr hs78_ c74_ (by decide) (by decide)
                          have c93_ : zFirs T N77_ := zFirs.fr hs78_ c75_ (by decide) (by decide)
                          have zz12_N77_ : ze N77_ 81 12 = ze Mz 81 12 := hf_N77_.e (by decide)
                          have zz13_N77_ : ze N77_ 81 13 = ze Mz 81 13 := hf_N77_.e (by decide)
                          refine zw_iload_n (pc := 187) (n := 1) (x := Int32.ofInt u76_) rfl d_M_builds_187 ?_
                          refine zw_aload_n (pc := 188) (n := 0) (x := 81) rfl d_M_builds_188 ?_
                          refine zr_getI (hf_N77_.w hW) (pc := 189) f_M_220 rfl d_M_builds_189 ?_
                          refine zr_icmp_ge (pc := 192) (tgt := 236) ⟨hu76_a, hu76_b⟩ ⟨(ze_r N77_ 81 25).1, (ze_r N77_ 81 25).2⟩ (by decide) d_M_builds_192 (fun hc_192 => ?_) (fun hc_192 => ?_)
                          · skip
                            have hSS : zSSm T N77_ := by have h := (show zSS T N77_ u76_ by assumption); rw [show u76_ = ze N77_ 81 25 by omega] at h; exact h
                            refine zw_iconst (pc := 236) (v := Int32.ofInt 0) (by decide) d_M_builds_236 ?_
                            refine zw_istore_n (pc := 237) (i := 1) (L2 := [some (.ref 81), some (.int (Int32.ofInt 0)), none, none]) rfl (by decide) rfl d_M_builds_237 ?_
                            have lp_238 : ∀ (n : Nat) (u94_ : Int) (hu94_a : -2147483648 ≤ u94_) (hu94_b : u94_ < 2147483648) (N95_ : zMem) (hs96_ : zFr [] [94] N77_ N95_) (i97_ : ze N95_ 81 20 = (gN T : Int)) (i98_ : 1 ≤ ze N95_ 81 25) (i99_ : ze N95_ 81 25 ≤ 64) (i100_ : ze N95_ 81 26 = ((gF T).length : Int)) (i101_ : 0 ≤ u94_) (i102_ : u94_ ≤ ze N95_ 81 26) (i103_ : zCs T N95_ u94_), (65 - u94_).toNat < n → zW l m_M_builds (zn Mz + 0, zw Mz + 0) N95_ 238 [some (.ref 81), some (.int (Int32.ofInt u94_)), none, none] [] (zpV [20, 25, 26] [85, 86, 87, 88, 89, 90, 91, 92, 93, 94] Mz (fun N => ∃ T : zGT, T ∈ gTabs ∧ zGB T N ∧ zTm (zMvs Mz) T ∧ zCdR (ze Mz 81 12) (zMvs Mz) T N)) := by
                              clear hu76_a hu76_b i83_
                              intro n
                              induction n with
                              | zero =>
                                intro u94_ hu94_a hu94_b N95_ hs96_ i97_ i98_ i99_ i100_ i101_ i102_ i103_ h0
                                exact absurd h0 (Nat.not_lt_zero _)
                              | succ n ih_238 =>
                                intro u94_ hu94_a hu94_b N95_ hs96_ i97_ i98_ i99_ i100_ i101_ i102_ i103_ hlt_238
                                have hf_N95_ : zFr [20, 25, 26] [85, 86, 87, 88, 89, 90, 91, 92, 93, 94] Mz N95_ := hf_N77_.tr hs96_ (by decide) (by decide)
                                have e12_N95_ : ze N95_ 81 12 = ze N77_ 81 12 := hs96_.e (by decide)
                                have e13_N95_ : ze N95_ 81 13 = ze N77_ 81 13 := hs96_.e (by decide)
                                have e20_N95_ : ze N95_ 81 20 = ze N77_ 81 20 := hs96_.e (by decide)
                                have e25_N95_ : ze N95_ 81 25 = ze N77_ 81 25 := hs96_.e (by decide)
                                have e26_N95_ : ze N95_ 81 26 = ze N77_ 81 26 := hs96_.e (by decide)
                                have c104_ : zPm N95_ := zPm.fr hs96_ c86_ (by decide) (by decide)
                                have c105_ : zFin N95_ := zFin.fr hs96_ c87_ (by decide) (by decide)
                                have c106_ : zB 83 24 0 5 N95_ := zB.fr hs96_ c88_ (by decide) (by decide)
                                have c107_ : zB 85 144 0 5 N95_ := zB.fr hs96_ c89_ (by decide) (by decide)
                                have c108_ : zTab T N95_ := zTab.fr hs96_ c90_ (by decide) (by decide)
                                have c109_ : zCdR (ze Mz 81 12) (zMvs Mz) T N95_ := zCdR.fr hs96_ c91_ (by decide) (by decide)
                                have c110_ : zJX T N95_ := zJX.fr hs96_ c92_ (by decide) (by decide)
                                have c111_ : zFirs T N95_ := zFirs.fr hs96_ c93_ (by decide) (by decide)
                                have c112_ : zSSm T N95_ := zSSm.fr hs96_ hSS (by decide) (by decide)
                                have zz12_N95_ : ze N95_ 81 12 = ze Mz 81 12 := hf_N95_.e (by decide)
                                have zz13_N95_ : ze N95_ 81 13 = ze Mz 81 13 := hf_N95_.e (by decide)
                                refine zw_iload_n (pc := 238) (n := 1) (x := Int32.ofInt u94_) rfl d_M_builds_238 ?_
                                refine zw_aload_n (pc := 239) (n := 0) (x := 81) rfl d_M_builds_239 ?_
                                refine zr_getI (hf_N95_.w hW) (pc := 240) f_M_235 rfl d_M_builds_240 ?_
                                refine zr_icmp_ge (pc := 243) (tgt := 290) ⟨hu94_a, hu94_b⟩ ⟨(ze_r N95_ 81 26).1, (ze_r N95_ 81 26).2⟩ (by decide) d_M_builds_243 (fun hc_243 => ?_) (fun hc_243 => ?_)
                                · skip
                                  have hCL : zCs T N95_ ((gF T).length : Int) := by have h := (show zCs T N95_ u94_ by assumption); rwa [show u94_ = ((gF T).length : Int) by omega] at h
                                  refine zw_iconst (pc := 290) (v := Int32.ofInt 0) (by decide) d_M_builds_290 ?_
                                  refine zw_istore_n (pc := 291) (i := 1) (L2 := [some (.ref 81), some (.int (Int32.ofInt 0)), none, none]) rfl (by decide) rfl d_M_builds_291 ?_
                                  have lp_292 : ∀ (n : Nat) (u113_ : Int) (hu113_a : -2147483648 ≤ u113_) (hu113_b : u113_ < 2147483648) (N114_ : zMem) (hs115_ : zFr [] [93] N95_ N114_) (i116_ : ze N114_ 81 20 = (gN T : Int)) (i117_ : 1 ≤ ze N114_ 81 25) (i118_ : ze N114_ 81 25 ≤ 64) (i119_ : ze N114_ 81 26 = ((gF T).length : Int)) (i120_ : 0 ≤ u113_) (i121_ : u113_ ≤ ze N114_ 81 26) (i122_ : zMs T N114_ u113_ 0), (65 - u113_).toNat < n → zW l m_M_builds (zn Mz + 0, zw Mz + 0) N114_ 292 [some (.ref 81), some (.int (Int32.ofInt u113_)), none, none] [] (zpV [20, 25, 26] [85, 86, 87, 88, 89, 90, 91, 92, 93, 94] Mz (fun N => ∃ T : zGT, T ∈ gTabs ∧ zGB T N ∧ zTm (zMvs Mz) T ∧ zCdR (ze Mz 81 12) (zMvs Mz) T N)) := by
                                    clear hu94_a hu94_b i101_
                                    intro n
                                    induction n with
                                    | zero =>
                                      intro u113_ hu113_a hu113_b N114_ hs115_ i116_ i117_ i118_ i119_ i120_ i121_ i122_ h0
                                      exact absurd h0 (Nat.not_lt_zero _)
                                    | succ n ih_292 =>
                                      intro u113_ hu113_a hu113_b N114_ hs115_ i116_ i117_ i118_ i119_ i120_ i121_ i122_ hlt_292
                                      have hf_N114_ : zFr [20, 25, 26] [85, 86, 87, 88, 89, 90, 91, 92, 93, 94] Mz N114_ := hf_N95_.tr hs115_ (by decide) (by decide)
                                      have e12_N114_ : ze N114_ 81 12 = ze N95_ 81 12 := hs115_.e (by decide)
                                      have e13_N114_ : ze N114_ 81 13 = ze N95_ 81 13 := hs115_.e (by decide)
                                      have e20_N114_ : ze N114_ 81 20 = ze N95_ 81 20 := hs115_.e (by decide)
                                      have e25_N114_ : ze N114_ 81 25 = ze N95_ 81 25 := hs115_.e (by decide)
                                      have e26_N114_ : ze N114_ 81 26 = ze N95_ 81 26 := hs115_.e (by decide)
                                      have c123_ : zPm N114_ := zPm.fr hs115_ c104_ (by decide) (by decide)
                                      have c124_ : zFin N114_ := zFin.fr hs115_ c105_ (by decide) (by decide)
                                      have c125_ : zB 83 24 0 5 N114_ := zB.fr hs115_ c106_ (by decide) (by decide)
                                      have c126_ : zB 85 144 0 5 N114_ := zB.fr hs115_ c107_ (by decide) (by decide)
                                      have c127_ : zTab T N114_ := zTab.fr hs115_ c108_ (by decide) (by decide)
                                      have c128_ : zCdR (ze Mz 81 12) (zMvs Mz) T N114_ := zCdR.fr hs115_ c109_ (by decide) (by decide)
                                      have c129_ : zJX T N114_ := zJX.fr hs115_ c110_ (by decide) (by decide)
                                      have c130_ : zFirs T N114_ := zFirs.fr hs115_ c111_ (by decide) (by decide)
                                      have c131_ : zSSm T N114_ := zSSm.fr hs115_ c112_ (by decide) (by decide)
                                      have c132_ : zCsL T N114_ := zCsL.fr hs115_ hCL (by decide) (by decide)
                                      have zz12_N114_ : ze N114_ 81 12 = ze Mz 81 12 := hf_N114_.e (by decide)
                                      have zz13_N114_ : ze N114_ 81 13 = ze Mz 81 13 := hf_N114_.e (by decide)
                                      refine zw_iload_n (pc := 292) (n := 1) (x := Int32.ofInt u113_) rfl d_M_builds_292 ?_
                                      refine zw_aload_n (pc := 293) (n := 0) (x := 81) rfl d_M_builds_293 ?_
                                      refine zr_getI (hf_N114_.w hW) (pc := 294) f_M_235 rfl d_M_builds_294 ?_
                                      refine zr_icmp_ge (pc := 297) (tgt := 344) ⟨hu113_a, hu113_b⟩ ⟨(ze_r N114_ 81 26).1, (ze_r N114_ 81 26).2⟩ (by decide) d_M_builds_297 (fun hc_297 => ?_) (fun hc_297 => ?_)
                                      · skip
                                        have hML : zMs T N114_ ((gF T).length : Int) 0 := by have h := (show zMs T N114_ u113_ 0 by assumption); rwa [show u113_ = ((gF T).length : Int) by omega] at h
                                        exact zr_vret (pc := 344) rfl hf_N114_ (show ∃ T : zGT, T ∈ gTabs ∧ zGB T N114_ ∧ zTm (zMvs Mz) T ∧ zCdR (ze Mz 81 12) (zMvs Mz) T N114_ by exact ⟨T, hTt, ⟨c127_, c126_, c129_, c130_, c131_, c132_, hML⟩, hTm_, c128_⟩) d_M_builds_344
                                      · skip
                                        refine zw_iconst (pc := 300) (v := Int32.ofInt 0) (by decide) d_M_builds_300 ?_
                                        refine zw_istore_n (pc := 301) (i := 2) (L2 := [some (.ref 81), some (.int (Int32.ofInt u113_)), some (.int (Int32.ofInt 0)), none]) rfl (by decide) rfl d_M_builds_301 ?_
                                        have lp_302 : ∀ (n : Nat) (u133_ : Int) (hu133_a : -2147483648 ≤ u133_) (hu133_b : u133_ < 2147483648) (N134_ : zMem) (hs135_ : zFr [] [93] N114_ N134_) (i136_ : ze N134_ 81 20 = (gN T : Int)) (i137_ : 1 ≤ ze N134_ 81 25) (i138_ : ze N134_ 81 25 ≤ 64) (i139_ : ze N134_ 81 26 = ((gF T).length : Int)) (i140_ : 0 ≤ u113_) (i141_ : u113_ < ze N134_ 81 26) (i142_ : 0 ≤ u133_) (i143_ : u133_ ≤ ze N134_ 81 26) (i144_ : zMs T N134_ u113_ u133_), (65 - u133_).toNat < n → zW l m_M_builds (zn Mz + 0, zw Mz + 0) N134_ 302 [some (.ref 81), some (.int (Int32.ofInt u113_)), some (.int (Int32.ofInt u133_)), none] [] (zpV [20, 25, 26] [85, 86, 87, 88, 89, 90, 91, 92, 93, 94] Mz (fun N => ∃ T : zGT, T ∈ gTabs ∧ zGB T N ∧ zTm (zMvs Mz) T ∧ zCdR (ze Mz 81 12) (zMvs Mz) T N)) := by
                                          intro n
                                          induction n with
                                          | zero =>
                                            intro u133_ hu133_a hu133_b N134_ hs135_ i136_ i137_ i138_ i139_ i140_ i141_ i142_ i143_ i144_ h0
                                            exact absurd h0 (Nat.not_lt_zero _)
                                          | succ n ih_302 =>
                                            intro u133_ hu133_a hu133_b N134_ hs135_ i136_ i137_ i138_ i139_ i140_ i141_ i142_ i143_ i144_ hlt_302
                                            have hf_N134_ : zFr [20, 25, 26] [85, 86, 87, 88, 89, 90, 91, 92, 93, 94] Mz N134_ := hf_N114_.tr hs135_ (by decide) (by decide)
                                            have hb0_N134_ : zFr [] [93] N95_ N134_ := hs115_.tr hs135_ (by decide) (by decide)
                                            have e12_N134_ : ze N134_ 81 12 = ze N114_ 81 12 := hs135_.e (by decide)
                                            have e13_N134_ : ze N134_ 81 13 = ze N114_ 81 13 := hs135_.e (by decide)
                                            have e20_N134_ : ze N134_ 81 20 = ze N114_ 81 20 := hs135_.e (by decide)
                                            have e25_N134_ : ze N134_ 81 25 = ze N114_ 81 25 := hs135_.e (by decide)
                                            have e26_N134_ : ze N134_ 81 26 = ze N114_ 81 26 := hs135_.e (by decide)
                                            have c145_ : zPm N134_ := zPm.fr hs135_ c123_ (by decide) (by decide)
                                            have c146_ : zFin N134_ := zFin.fr hs135_ c124_ (by decide) (by decide)
                                            have c147_ : zB 83 24 0 5 N134_ := zB.fr hs135_ c125_ (by decide) (by decide)
                                            have c148_ : zB 85 144 0 5 N134_ := zB.fr hs135_ c126_ (by decide) (by decide)
                                            have c149_ : zTab T N134_ := zTab.fr hs135_ c127_ (by decide) (by decide)
                                            have c150_ : zCdR (ze Mz 81 12) (zMvs Mz) T N134_ := zCdR.fr hs135_ c128_ (by decide) (by decide)
                                            have c151_ : zJX T N134_ := zJX.fr hs135_ c129_ (by decide) (by decide)
                                            have c152_ : zFirs T N134_ := zFirs.fr hs135_ c130_ (by decide) (by decide)
                                            have c153_ : zSSm T N134_ := zSSm.fr hs135_ c131_ (by decide) (by decide)
                                            have c154_ : zCsL T N134_ := zCsL.fr hs135_ c132_ (by decide) (by decide)
                                            have zz12_N134_ : ze N134_ 81 12 = ze Mz 81 12 := hf_N134_.e (by decide)
                                            have zz13_N134_ : ze N134_ 81 13 = ze Mz 81 13 := hf_N134_.e (by decide)
                                            refine zw_iload_n (pc := 302) (n := 2) (x := Int32.ofInt u133_) rfl d_M_builds_302 ?_
                                            refine zw_aload_n (pc := 303) (n := 0) (x := 81) rfl d_M_builds_303 ?_
                                            refine zr_getI (hf_N134_.w hW) (pc := 304) f_M_235 rfl d_M_builds_304 ?_
                                            refine zr_icmp_ge (pc := 307) (tgt := 338) ⟨hu133_a, hu133_b⟩ ⟨(ze_r N134_ 81 26).1, (ze_r N134_ 81 26).2⟩ (by decide) d_M_builds_307 (fun hc_307 => ?_) (fun hc_307 => ?_)
                                            · skip
                                              refine zr_iinc (pc := 338) (i := 1) (a := u113_) (n := 1) (L2 := [some (.ref 81), some (.int (Int32.ofInt (u113_ + 1))), some (.int (Int32.ofInt u133_)), none]) rfl (by decide) rfl d_M_builds_338 ?_
                                              refine zw_goto (pc := 341) (tgt := 292) (by decide) d_M_builds_341 ?_
                                              have hMn : zMs T N134_ (u113_ + 1) 0 := zMs_n (by assumption) (by omega)
                                              refine zW_le [some (.ref 81), some (.int (Int32.ofInt (u113_ + 1))), none, none] (⟨rfl, rfl, trivial⟩) ?_
                                              exact ih_292 (u113_ + 1) (by omega) (by omega) N134_ hb0_N134_ (show ze N134_ 81 20 = (gN T : Int) by first | assumption | omega) (show 1 ≤ ze N134_ 81 25 by first | assumption | omega) (show ze N134_ 81 25 ≤ 64 by first | assumption | omega) (show ze N134_ 81 26 = ((gF T).length : Int) by first | assumption | omega) (show 0 ≤ (u113_ + 1) by first | assumption | omega) (show (u113_ + 1) ≤ ze N134_ 81 26 by first | assumption | omega) (show zMs T N134_ (u113_ + 1) 0 by first | assumption | omega) (by omega)
                                            · skip
                                              refine zw_aload_n (pc := 310) (n := 0) (x := 81) rfl d_M_builds_310 ?_
                                              refine zr_getF (r := 93) (hf_N134_.w hW) (pc := 311) f_M_50 rfl (zh_93 (hf_N134_.w hW)).1 d_M_builds_311 ?_
                                              refine zw_bipush (pc := 314) (v := Int32.ofInt 64) (by decide) d_M_builds_314 ?_
                                              refine zw_iload_n (pc := 316) (n := 1) (x := Int32.ofInt u113_) rfl d_M_builds_316 ?_
                                              refine zr_imul (pc := 317) d_M_builds_317 ?_
                                              refine zw_iload_n (pc := 318) (n := 2) (x := Int32.ofInt u133_) rfl d_M_builds_318 ?_
                                              refine zr_iadd (pc := 319) d_M_builds_319 ?_
                                              refine zw_aload_n (pc := 320) (n := 0) (x := 81) rfl d_M_builds_320 ?_
                                              refine zw_iload_n (pc := 321) (n := 1) (x := Int32.ofInt u113_) rfl d_M_builds_321 ?_
                                              refine zw_aload_n (pc := 322) (n := 0) (x := 81) rfl d_M_builds_322 ?_
                                              refine zr_getF (r := 91) (hf_N134_.w hW) (pc := 323) f_M_44 rfl (zh_91 (hf_N134_.w hW)).1 d_M_builds_323 ?_
                                              refine zw_iload_n (pc := 326) (n := 2) (x := Int32.ofInt u133_) rfl d_M_builds_326 ?_
                                              refine zr_ialdn (pc := 327) (zh_91 (hf_N134_.w hW)).2 (by decide) (by omega) (by omega) d_M_builds_327 (fun v155_ hv155_ hv155_a hv155_b => ?_)
                                              have hfi := c152_.2 (u133_).toNat (by omega)
                                              refine zr_toI (show v155_ = (((gF T).getD (u133_).toNat 0 : Nat) : Int) by omega) ?_
                                              have hcc := c154_ (u113_).toNat (by omega)
                                              refine zr_callV (hf_N134_.w hW) hf_N134_.x (pc := 328) [.int (Int32.ofInt u113_), .int (Int32.ofInt ((((gF T).getD (u133_).toNat 0 : Nat) : Int)))] [.int (Int32.ofInt ((64 * u113_) + u133_)), .ref 93] l_M_250 (c_M_fixedOf l N134_ (hf_N134_.w hW) u113_ hu113_a hu113_b ((((gF T).getD (u133_).toNat 0 : Nat) : Int)) (by omega) (by omega) T hG ((gF T).getD (u113_).toNat 0) c149_ (show 0 ≤ u113_ by first | assumption | omega) (show u113_ ≤ 63 by first | assumption | omega) (show 0 ≤ ((((gF T).getD (u133_).toNat 0 : Nat) : Int)) by first | assumption | omega) (show zCos T (u113_).toNat ((gF T).getD (u113_).toNat 0) N134_ by first | assumption | omega)) rfl rfl rfl (by decide) (Nat.le_of_ble_eq_true rfl) d_M_builds_328 ?_
                                              rintro _ N156_ ⟨v157_, rfl, ⟨hv157_a, hv157_b⟩, hsN156_, ⟨hp0_N156_, hp1_N156_, hp2_N156_⟩⟩
                                              obtain rfl := hsN156_.eq.symm
                                              show zW l m_M_builds (zn Mz + 0, zw Mz + 0) N134_ 331 [some (.ref 81), some (.int (Int32.ofInt u113_)), some (.int (Int32.ofInt u133_)), none] [.int (Int32.ofInt v157_), .int (Int32.ofInt ((64 * u113_) + u133_)), .ref 93] (zpV [20, 25, 26] [85, 86, 87, 88, 89, 90, 91, 92, 93, 94] Mz (fun N => ∃ T : zGT, T ∈ gTabs ∧ zGB T N ∧ zTm (zMvs Mz) T ∧ zCdR (ze Mz 81 12) (zMvs Mz) T N))
                                              refine zr_iast (pc := 331) (zh_93 (hf_N134_.w hW)).2 (by decide) (by decide) (by omega) (by omega) d_M_builds_331 (fun N158_ hN158_ hsN158_ => ?_)
                                              have hf_N158_ : zFr [20, 25, 26] [85, 86, 87, 88, 89, 90, 91, 92, 93, 94] Mz N158_ := hf_N134_.tr hsN158_ (by decide) (by decide)
                                              have hb0_N158_ : zFr [] [93] N95_ N158_ := hb0_N134_.tr hsN158_ (by decide) (by decide)
                                              have hb1_N158_ : zFr [] [93] N114_ N158_ := hs135_.tr hsN158_ (by decide) (by decide)
                                              have e12_N158_ : ze N158_ 81 12 = ze N134_ 81 12 := hsN158_.e (by decide)
                                              have e13_N158_ : ze N158_ 81 13 = ze N134_ 81 13 := hsN158_.e (by decide)
                                              have e20_N158_ : ze N158_ 81 20 = ze N134_ 81 20 := hsN158_.e (by decide)
                                              have e25_N158_ : ze N158_ 81 25 = ze N134_ 81 25 := hsN158_.e (by decide)
                                              have e26_N158_ : ze N158_ 81 26 = ze N134_ 81 26 := hsN158_.e (by decide)
                                              have c159_ : zPm N158_ := zPm.fr hsN158_ c145_ (by decide) (by decide)
                                              have c160_ : zFin N158_ := zFin.fr hsN158_ c146_ (by decide) (by decide)
                                              have c161_ : zB 83 24 0 5 N158_ := zB.fr hsN158_ c147_ (by decide) (by decide)
                                              have c162_ : zB 85 144 0 5 N158_ := zB.fr hsN158_ c148_ (by decide) (by decide)
                                              have c163_ : zTab T N158_ := zTab.fr hsN158_ c149_ (by decide) (by decide)
                                              have c164_ : zCdR (ze Mz 81 12) (zMvs Mz) T N158_ := zCdR.fr hsN158_ c150_ (by decide) (by decide)
                                              have c165_ : zJX T N158_ := zJX.fr hsN158_ c151_ (by decide) (by decide)
                                              have c166_ : zFirs T N158_ := zFirs.fr hsN158_ c152_ (by decide) (by decide)
                                              have c167_ : zSSm T N158_ := zSSm.fr hsN158_ c153_ (by decide) (by decide)
                                              have c168_ : zCsL T N158_ := zCsL.fr hsN158_ c154_ (by decide) (by decide)
                                              have hMt := zMs_s gl.2 (by omega) (by omega) (by omega) (show zMs T N134_ u113_ u133_ by assumption) (Int.toNat_natCast _) (by assumption) ⟨by omega, by omega⟩ hN158_
                                              refine zr_iinc (pc := 332) (i := 2) (a := u133_) (n := 1) (L2 := [some (.ref 81), some (.int (Int32.ofInt u113_)), some (.int (Int32.ofInt (u133_ + 1))), none]) rfl (by decide) rfl d_M_builds_332 ?_
                                              refine zw_goto (pc := 335) (tgt := 302) (by decide) d_M_builds_335 ?_
                                              exact ih_302 (u133_ + 1) (by omega) (by omega) N158_ hb1_N158_ (show ze N158_ 81 20 = (gN T : Int) by first | assumption | omega) (show 1 ≤ ze N158_ 81 25 by first | assumption | omega) (show ze N158_ 81 25 ≤ 64 by first | assumption | omega) (show ze N158_ 81 26 = ((gF T).length : Int) by first | assumption | omega) (show 0 ≤ u113_ by first | assumption | omega) (show u113_ < ze N158_ 81 26 by first | assumption | omega) (show 0 ≤ (u133_ + 1) by first | assumption | omega) (show (u133_ + 1) ≤ ze N158_ 81 26 by first | assumption | omega) (show zMs T N158_ u113_ (u133_ + 1) by first | assumption | omega) (by omega)
                                        exact lp_302 _ 0 (by decide) (by decide) N114_ zFr.rf (show ze N114_ 81 20 = (gN T : Int) by first | assumption | omega) (show 1 ≤ ze N114_ 81 25 by first | assumption | omega) (show ze N114_ 81 25 ≤ 64 by first | assumption | omega) (show ze N114_ 81 26 = ((gF T).length : Int) by first | assumption | omega) (show 0 ≤ u113_ by first | assumption | omega) (show u113_ < ze N114_ 81 26 by first | assumption | omega) (show 0 ≤ (0 : Int) by first | assumption | omega) (show (0 : Int) ≤ ze N114_ 81 26 by first | assumption | omega) (show zMs T N114_ u113_ (0 : Int) by first | assumption | omega) (Nat.lt_succ_self _)
                                  exact lp_292 _ 0 (by decide) (by decide) N95_ zFr.rf (show ze N95_ 81 20 = (gN T : Int) by first | assumption | omega) (show 1 ≤ ze N95_ 81 25 by first | assumption | omega) (show ze N95_ 81 25 ≤ 64 by first | assumption | omega) (show ze N95_ 81 26 = ((gF T).length : Int) by first | assumption | omega) (show 0 ≤ (0 : Int) by first | assumption | omega) (show (0 : Int) ≤ ze N95_ 81 26 by first | assumption | omega) (show zMs T N95_ (0 : Int) 0 by exact zMs_0) (Nat.lt_succ_self _)
                                · skip
                                  refine zw_iconst (pc := 246) (v := Int32.ofInt 0) (by decide) d_M_builds_246 ?_
                                  refine zw_istore_n (pc := 247) (i := 2) (L2 := [some (.ref 81), some (.int (Int32.ofInt u94_)), some (.int (Int32.ofInt 0)), none]) rfl (by decide) rfl d_M_builds_247 ?_
                                  have lp_248 : ∀ (n : Nat) (u169_ : Int) (hu169_a : -2147483648 ≤ u169_) (hu169_b : u169_ < 2147483648) (N170_ : zMem) (hs171_ : zFr [] [94] N95_ N170_) (i172_ : ze N170_ 81 20 = (gN T : Int)) (i173_ : 1 ≤ ze N170_ 81 25) (i174_ : ze N170_ 81 25 ≤ 64) (i175_ : ze N170_ 81 26 = ((gF T).length : Int)) (i176_ : 0 ≤ u94_) (i177_ : u94_ < ze N170_ 81 26) (i178_ : 0 ≤ u169_) (i179_ : u169_ ≤ ze N170_ 81 20) (i180_ : zCs T N170_ u94_) (i181_ : zCt T N170_ u94_ u169_), (25 - u169_).toNat < n → zW l m_M_builds (zn Mz + 0, zw Mz + 0) N170_ 248 [some (.ref 81), some (.int (Int32.ofInt u94_)), some (.int (Int32.ofInt u169_)), none] [] (zpV [20, 25, 26] [85, 86, 87, 88, 89, 90, 91, 92, 93, 94] Mz (fun N => ∃ T : zGT, T ∈ gTabs ∧ zGB T N ∧ zTm (zMvs Mz) T ∧ zCdR (ze Mz 81 12) (zMvs Mz) T N)) := by
                                    intro n
                                    induction n with
                                    | zero =>
                                      intro u169_ hu169_a hu169_b N170_ hs171_ i172_ i173_ i174_ i175_ i176_ i177_ i178_ i179_ i180_ i181_ h0
                                      exact absurd h0 (Nat.not_lt_zero _)
                                    | succ n ih_248 =>
                                      intro u169_ hu169_a hu169_b N170_ hs171_ i172_ i173_ i174_ i175_ i176_ i177_ i178_ i179_ i180_ i181_ hlt_248
                                      have hf_N170_ : zFr [20, 25, 26] [85, 86, 87, 88, 89, 90, 91, 92, 93, 94] Mz N170_ := hf_N95_.tr hs171_ (by decide) (by decide)
                                      have hb0_N170_ : zFr [] [94] N77_ N170_ := hs96_.tr hs171_ (by decide) (by decide)
                                      have e12_N170_ : ze N170_ 81 12 = ze N95_ 81 12 := hs171_.e (by decide)
                                      have e13_N170_ : ze N170_ 81 13 = ze N95_ 81 13 := hs171_.e (by decide)
                                      have e20_N170_ : ze N170_ 81 20 = ze N95_ 81 20 := hs171_.e (by decide)
                                      have e25_N170_ : ze N170_ 81 25 = ze N95_ 81 25 := hs171_.e (by decide)
                                      have e26_N170_ : ze N170_ 81 26 = ze N95_ 81 26 := hs171_.e (by decide)
                                      have c182_ : zPm N170_ := zPm.fr hs171_ c104_ (by decide) (by decide)
                                      have c183_ : zFin N170_ := zFin.fr hs171_ c105_ (by decide) (by decide)
                                      have c184_ : zB 83 24 0 5 N170_ := zB.fr hs171_ c106_ (by decide) (by decide)
                                      have c185_ : zB 85 144 0 5 N170_ := zB.fr hs171_ c107_ (by decide) (by decide)
                                      have c186_ : zTab T N170_ := zTab.fr hs171_ c108_ (by decide) (by decide)
                                      have c187_ : zCdR (ze Mz 81 12) (zMvs Mz) T N170_ := zCdR.fr hs171_ c109_ (by decide) (by decide)
                                      have c188_ : zJX T N170_ := zJX.fr hs171_ c110_ (by decide) (by decide)
                                      have c189_ : zFirs T N170_ := zFirs.fr hs171_ c111_ (by decide) (by decide)
                                      have c190_ : zSSm T N170_ := zSSm.fr hs171_ c112_ (by decide) (by decide)
                                      have zz12_N170_ : ze N170_ 81 12 = ze Mz 81 12 := hf_N170_.e (by decide)
                                      have zz13_N170_ : ze N170_ 81 13 = ze Mz 81 13 := hf_N170_.e (by decide)
                                      refine zw_iload_n (pc := 248) (n := 2) (x := Int32.ofInt u169_) rfl d_M_builds_248 ?_
                                      refine zw_aload_n (pc := 249) (n := 0) (x := 81) rfl d_M_builds_249 ?_
                                      refine zr_getI (hf_N170_.w hW) (pc := 250) f_M_196 rfl d_M_builds_250 ?_
                                      refine zr_icmp_ge (pc := 253) (tgt := 284) ⟨hu169_a, hu169_b⟩ ⟨(ze_r N170_ 81 20).1, (ze_r N170_ 81 20).2⟩ (by decide) d_M_builds_253 (fun hc_253 => ?_) (fun hc_253 => ?_)
                                      · skip
                                        refine zr_iinc (pc := 284) (i := 1) (a := u94_) (n := 1) (L2 := [some (.ref 81), some (.int (Int32.ofInt (u94_ + 1))), some (.int (Int32.ofInt u169_)), none]) rfl (by decide) rfl d_M_builds_284 ?_
                                        refine zw_goto (pc := 287) (tgt := 238) (by decide) d_M_builds_287 ?_
                                        have hCn : zCs T N170_ (u94_ + 1) := zCs_s (by omega) (by assumption) (by assumption) (by omega)
                                        refine zW_le [some (.ref 81), some (.int (Int32.ofInt (u94_ + 1))), none, none] (⟨rfl, rfl, trivial⟩) ?_
                                        exact ih_238 (u94_ + 1) (by omega) (by omega) N170_ hb0_N170_ (show ze N170_ 81 20 = (gN T : Int) by first | assumption | omega) (show 1 ≤ ze N170_ 81 25 by first | assumption | omega) (show ze N170_ 81 25 ≤ 64 by first | assumption | omega) (show ze N170_ 81 26 = ((gF T).length : Int) by first | assumption | omega) (show 0 ≤ (u94_ + 1) by first | assumption | omega) (show (u94_ + 1) ≤ ze N170_ 81 26 by first | assumption | omega) (show zCs T N170_ (u94_ + 1) by first | assumption | omega) (by omega)
                                      · skip
                                        refine zw_aload_n (pc := 256) (n := 0) (x := 81) rfl d_M_builds_256 ?_
                                        refine zr_getF (r := 94) (hf_N170_.w hW) (pc := 257) f_M_53 rfl (zh_94 (hf_N170_.w hW)).1 d_M_builds_257 ?_
                                        refine zw_bipush (pc := 260) (v := Int32.ofInt 24) (by decide) d_M_builds_260 ?_
                                        refine zw_iload_n (pc := 262) (n := 1) (x := Int32.ofInt u94_) rfl d_M_builds_262 ?_
                                        refine zr_imul (pc := 263) d_M_builds_263 ?_
                                        refine zw_iload_n (pc := 264) (n := 2) (x := Int32.ofInt u169_) rfl d_M_builds_264 ?_
                                        refine zr_iadd (pc := 265) d_M_builds_265 ?_
                                        refine zw_aload_n (pc := 266) (n := 0) (x := 81) rfl d_M_builds_266 ?_
                                        refine zw_aload_n (pc := 267) (n := 0) (x := 81) rfl d_M_builds_267 ?_
                                        refine zr_getF (r := 91) (hf_N170_.w hW) (pc := 268) f_M_44 rfl (zh_91 (hf_N170_.w hW)).1 d_M_builds_268 ?_
                                        refine zw_iload_n (pc := 271) (n := 1) (x := Int32.ofInt u94_) rfl d_M_builds_271 ?_
                                        refine zr_ialdn (pc := 272) (zh_91 (hf_N170_.w hW)).2 (by decide) (by omega) (by omega) d_M_builds_272 (fun v191_ hv191_ hv191_a hv191_b => ?_)
                                        have hfi := c189_.2 (u94_).toNat (by omega)
                                        refine zr_toI (show v191_ = (((gF T).getD (u94_).toNat 0 : Nat) : Int) by omega) ?_
                                        refine zw_iload_n (pc := 273) (n := 2) (x := Int32.ofInt u169_) rfl d_M_builds_273 ?_
                                        refine zr_callV (hf_N170_.w hW) hf_N170_.x (pc := 274) [.int (Int32.ofInt ((((gF T).getD (u94_).toNat 0 : Nat) : Int))), .int (Int32.ofInt u169_)] [.int (Int32.ofInt ((24 * u94_) + u169_)), .ref 94] l_M_247 (c_M_leastOf l N170_ (hf_N170_.w hW) ((((gF T).getD (u94_).toNat 0 : Nat) : Int)) (by omega) (by omega) u169_ hu169_a hu169_b T hG c186_ (show 0 ≤ ((((gF T).getD (u94_).toNat 0 : Nat) : Int)) by first | assumption | omega) (show 0 ≤ u169_ by first | assumption | omega) (show u169_ < ze N170_ 81 20 by first | assumption | omega)) rfl rfl rfl (by decide) (Nat.le_of_ble_eq_true rfl) d_M_builds_274 ?_
                                        rintro _ N192_ ⟨v193_, rfl, ⟨hv193_a, hv193_b⟩, hsN192_, ⟨hp0_N192_, hp1_N192_, hp2_N192_⟩⟩
                                        obtain rfl := hsN192_.eq.symm
                                        show zW l m_M_builds (zn Mz + 0, zw Mz + 0) N170_ 277 [some (.ref 81), some (.int (Int32.ofInt u94_)), some (.int (Int32.ofInt u169_)), none] [.int (Int32.ofInt v193_), .int (Int32.ofInt ((24 * u94_) + u169_)), .ref 94] (zpV [20, 25, 26] [85, 86, 87, 88, 89, 90, 91, 92, 93, 94] Mz (fun N => ∃ T : zGT, T ∈ gTabs ∧ zGB T N ∧ zTm (zMvs Mz) T ∧ zCdR (ze Mz 81 12) (zMvs Mz) T N))
                                        refine zr_iast (pc := 277) (zh_94 (hf_N170_.w hW)).2 (by decide) (by decide) (by omega) (by omega) d_M_builds_277 (fun N194_ hN194_ hsN194_ => ?_)
                                        have hf_N194_ : zFr [20, 25, 26] [85, 86, 87, 88, 89, 90, 91, 92, 93, 94] Mz N194_ := hf_N170_.tr hsN194_ (by decide) (by decide)
                                        have hb0_N194_ : zFr [] [94] N77_ N194_ := hb0_N170_.tr hsN194_ (by decide) (by decide)
                                        have hb1_N194_ : zFr [] [94] N95_ N194_ := hs171_.tr hsN194_ (by decide) (by decide)
                                        have e12_N194_ : ze N194_ 81 12 = ze N170_ 81 12 := hsN194_.e (by decide)
                                        have e13_N194_ : ze N194_ 81 13 = ze N170_ 81 13 := hsN194_.e (by decide)
                                        have e20_N194_ : ze N194_ 81 20 = ze N170_ 81 20 := hsN194_.e (by decide)
                                        have e25_N194_ : ze N194_ 81 25 = ze N170_ 81 25 := hsN194_.e (by decide)
                                        have e26_N194_ : ze N194_ 81 26 = ze N170_ 81 26 := hsN194_.e (by decide)
                                        have c195_ : zPm N194_ := zPm.fr hsN194_ c182_ (by decide) (by decide)
                                        have c196_ : zFin N194_ := zFin.fr hsN194_ c183_ (by decide) (by decide)
                                        have c197_ : zB 83 24 0 5 N194_ := zB.fr hsN194_ c184_ (by decide) (by decide)
                                        have c198_ : zB 85 144 0 5 N194_ := zB.fr hsN194_ c185_ (by decide) (by decide)
                                        have c199_ : zTab T N194_ := zTab.fr hsN194_ c186_ (by decide) (by decide)
                                        have c200_ : zCdR (ze Mz 81 12) (zMvs Mz) T N194_ := zCdR.fr hsN194_ c187_ (by decide) (by decide)
                                        have c201_ : zJX T N194_ := zJX.fr hsN194_ c188_ (by decide) (by decide)
                                        have c202_ : zFirs T N194_ := zFirs.fr hsN194_ c189_ (by decide) (by decide)
                                        have c203_ : zSSm T N194_ := zSSm.fr hsN194_ c190_ (by decide) (by decide)
                                        have hCt := zCt_s g24 (by omega) (by omega) (by omega) (show zCs T N170_ u94_ by assumption) (show zCt T N170_ u94_ u169_ by assumption) (Int.toNat_natCast _) (by assumption) ⟨by omega, by omega⟩ hN194_
                                        obtain ⟨hc1, hc2⟩ := hCt
                                        refine zr_iinc (pc := 278) (i := 2) (a := u169_) (n := 1) (L2 := [some (.ref 81), some (.int (Int32.ofInt u94_)), some (.int (Int32.ofInt (u169_ + 1))), none]) rfl (by decide) rfl d_M_builds_278 ?_
                                        refine zw_goto (pc := 281) (tgt := 248) (by decide) d_M_builds_281 ?_
                                        exact ih_248 (u169_ + 1) (by omega) (by omega) N194_ hb1_N194_ (show ze N194_ 81 20 = (gN T : Int) by first | assumption | omega) (show 1 ≤ ze N194_ 81 25 by first | assumption | omega) (show ze N194_ 81 25 ≤ 64 by first | assumption | omega) (show ze N194_ 81 26 = ((gF T).length : Int) by first | assumption | omega) (show 0 ≤ u94_ by first | assumption | omega) (show u94_ < ze N194_ 81 26 by first | assumption | omega) (show 0 ≤ (u169_ + 1) by first | assumption | omega) (show (u169_ + 1) ≤ ze N194_ 81 20 by first | assumption | omega) (show zCs T N194_ u94_ by first | assumption | omega) (show zCt T N194_ u94_ (u169_ + 1) by first | assumption | omega) (by omega)
                                  exact lp_248 _ 0 (by decide) (by decide) N95_ zFr.rf (show ze N95_ 81 20 = (gN T : Int) by first | assumption | omega) (show 1 ≤ ze N95_ 81 25 by first | assumption | omega) (show ze N95_ 81 25 ≤ 64 by first | assumption | omega) (show ze N95_ 81 26 = ((gF T).length : Int) by first | assumption | omega) (show 0 ≤ u94_ by first | assumption | omega) (show u94_ < ze N95_ 81 26 by first | assumption | omega) (show 0 ≤ (0 : Int) by first | assumption | omega) (show (0 : Int) ≤ ze N95_ 81 20 by first | assumption | omega) (show zCs T N95_ u94_ by first | assumption | omega) (show zCt T N95_ u94_ (0 : Int) by exact zCt_0) (Nat.lt_succ_self _)
                            exact lp_238 _ 0 (by decide) (by decide) N77_ zFr.rf (show ze N77_ 81 20 = (gN T : Int) by first | assumption | omega) (show 1 ≤ ze N77_ 81 25 by first | assumption | omega) (show ze N77_ 81 25 ≤ 64 by first | assumption | omega) (show ze N77_ 81 26 = ((gF T).length : Int) by first | assumption | omega) (show 0 ≤ (0 : Int) by first | assumption | omega) (show (0 : Int) ≤ ze N77_ 81 26 by first | assumption | omega) (show zCs T N77_ (0 : Int) by exact zCs_0) (Nat.lt_succ_self _)
                          · skip
                            refine zw_aload_n (pc := 195) (n := 0) (x := 81) rfl d_M_builds_195 ?_
                            refine zr_getF (r := 90) (hf_N77_.w hW) (pc := 196) f_M_41 rfl (zh_90 (hf_N77_.w hW)).1 d_M_builds_196 ?_
                            refine zw_iload_n (pc := 199) (n := 1) (x := Int32.ofInt u76_) rfl d_M_builds_199 ?_
                            refine zw_aload_n (pc := 200) (n := 0) (x := 81) rfl d_M_builds_200 ?_
                            refine zw_aload_n (pc := 201) (n := 0) (x := 81) rfl d_M_builds_201 ?_
                            refine zw_aload_n (pc := 202) (n := 0) (x := 81) rfl d_M_builds_202 ?_
                            refine zr_getF (r := 89) (hf_N77_.w hW) (pc := 203) f_M_38 rfl (zh_89 (hf_N77_.w hW)).1 d_M_builds_203 ?_
                            refine zw_iload_n (pc := 206) (n := 1) (x := Int32.ofInt u76_) rfl d_M_builds_206 ?_
                            refine zr_ialdn (pc := 207) (zh_89 (hf_N77_.w hW)).2 (by decide) (by omega) (by omega) d_M_builds_207 (fun v204_ hv204_ hv204_a hv204_b => ?_)
                            have hk0 := c92_.1.2.2.1 (u76_).toNat (by omega)
                            have hkb := hO.sb hk0.2
                            refine zr_toI (show v204_ = ze N77_ 89 (u76_).toNat by omega) ?_
                            refine zr_callV (hf_N77_.w hW) hf_N77_.x (pc := 208) [.int (Int32.ofInt (ze N77_ 89 (u76_).toNat))] [.ref 81, .int (Int32.ofInt u76_), .ref 90] l_M_238 (c_M_leastTurned l N77_ (hf_N77_.w hW) (ze N77_ 89 (u76_).toNat) (by omega) (by omega) T hG c90_ (show 0 ≤ (ze N77_ 89 (u76_).toNat) by first | assumption | omega) (show (ze N77_ 89 (u76_).toNat) < 16777216 by first | assumption | omega)) rfl rfl rfl (by decide) (Nat.le_of_ble_eq_true rfl) d_M_builds_208 ?_
                            rintro _ N205_ ⟨v206_, rfl, ⟨hv206_a, hv206_b⟩, hsN205_, ⟨hp0_N205_, hp1_N205_, hp2_N205_⟩⟩
                            obtain rfl := hsN205_.eq.symm
                            show zW l m_M_builds (zn Mz + 0, zw Mz + 0) N77_ 211 [some (.ref 81), some (.int (Int32.ofInt u76_)), none, none] [.int (Int32.ofInt v206_), .ref 81, .int (Int32.ofInt u76_), .ref 90] (zpV [20, 25, 26] [85, 86, 87, 88, 89, 90, 91, 92, 93, 94] Mz (fun N => ∃ T : zGT, T ∈ gTabs ∧ zGB T N ∧ zTm (zMvs Mz) T ∧ zCdR (ze Mz 81 12) (zMvs Mz) T N))
                            refine zr_toI (show v206_ = ((glt T (ze N77_ 89 (u76_).toNat).toNat : Nat) : Int) by assumption) ?_
                            refine zr_callV (hf_N77_.w hW) hf_N77_.x (pc := 211) [.int (Int32.ofInt (((glt T (ze N77_ 89 (u76_).toNat).toNat : Nat) : Int)))] [.int (Int32.ofInt u76_), .ref 90] l_M_244 (c_M_sortOfFirst l N77_ (hf_N77_.w hW) (((glt T (ze N77_ 89 (u76_).toNat).toNat : Nat) : Int)) (by omega) (by omega) (show 0 ≤ ze N77_ 81 26 by first | assumption | omega) (show ze N77_ 81 26 ≤ 64 by first | assumption | omega)) rfl rfl rfl (by decide) (Nat.le_of_ble_eq_true rfl) d_M_builds_211 ?_
                            rintro _ N207_ ⟨v208_, rfl, ⟨hv208_a, hv208_b⟩, hsN207_, hp0_N207_⟩
                            obtain rfl := hsN207_.eq.symm
                            replace hp0_N207_ : ((0 ≤ v208_ ∧ v208_ < ze N77_ 81 26 ∧ ze N77_ 91 (v208_).toNat = (((glt T (ze N77_ 89 (u76_).toNat).toNat : Nat) : Int))) ∨ (v208_ = -1 ∧ ∀ k : Nat, (k : Int) < ze N77_ 81 26 → ze N77_ 91 k ≠ (((glt T (ze N77_ 89 (u76_).toNat).toNat : Nat) : Int)))) := hp0_N207_
                            rcases hp0_N207_ with ⟨ha211_0_hp0_N207_, ha211_1_hp0_N207_, ha211_2_hp0_N207_⟩ | ⟨rfl, ha211_0_hp0_N207_⟩
                            · skip
                              show zW l m_M_builds (zn Mz + 0, zw Mz + 0) N77_ 214 [some (.ref 81), some (.int (Int32.ofInt u76_)), none, none] [.int (Int32.ofInt v208_), .int (Int32.ofInt u76_), .ref 90] (zpV [20, 25, 26] [85, 86, 87, 88, 89, 90, 91, 92, 93, 94] Mz (fun N => ∃ T : zGT, T ∈ gTabs ∧ zGB T N ∧ zTm (zMvs Mz) T ∧ zCdR (ze Mz 81 12) (zMvs Mz) T N))
                              refine zr_iast (pc := 214) (zh_90 (hf_N77_.w hW)).2 (by decide) (by decide) (by omega) (by omega) d_M_builds_214 (fun N209_ hN209_ hsN209_ => ?_)
                              have hf_N209_ : zFr [20, 25, 26] [85, 86, 87, 88, 89, 90, 91, 92, 93, 94] Mz N209_ := hf_N77_.tr hsN209_ (by decide) (by decide)
                              have hb0_N209_ : zFr [] [90, 92] N61_ N209_ := hs78_.tr hsN209_ (by decide) (by decide)
                              have e12_N209_ : ze N209_ 81 12 = ze N77_ 81 12 := hsN209_.e (by decide)
                              have e13_N209_ : ze N209_ 81 13 = ze N77_ 81 13 := hsN209_.e (by decide)
                              have e20_N209_ : ze N209_ 81 20 = ze N77_ 81 20 := hsN209_.e (by decide)
                              have e25_N209_ : ze N209_ 81 25 = ze N77_ 81 25 := hsN209_.e (by decide)
                              have e26_N209_ : ze N209_ 81 26 = ze N77_ 81 26 := hsN209_.e (by decide)
                              have c210_ : zPm N209_ := zPm.fr hsN209_ c86_ (by decide) (by decide)
                              have c211_ : zFin N209_ := zFin.fr hsN209_ c87_ (by decide) (by decide)
                              have c212_ : zB 83 24 0 5 N209_ := zB.fr hsN209_ c88_ (by decide) (by decide)
                              have c213_ : zB 85 144 0 5 N209_ := zB.fr hsN209_ c89_ (by decide) (by decide)
                              have c214_ : zTab T N209_ := zTab.fr hsN209_ c90_ (by decide) (by decide)
                              have c215_ : zCdR (ze Mz 81 12) (zMvs Mz) T N209_ := zCdR.fr hsN209_ c91_ (by decide) (by decide)
                              have c216_ : zJX T N209_ := zJX.fr hsN209_ c92_ (by decide) (by decide)
                              have c217_ : zFirs T N209_ := zFirs.fr hsN209_ c93_ (by decide) (by decide)
                              have hw0 := zs_get hN209_ ⟨by omega, by omega⟩
                              have hSn := zSS_s (by omega) (show zSS T N77_ u76_ by assumption) hN209_ (by omega) (by omega) (by omega) rfl rfl (by assumption)
                              refine zw_aload_n (pc := 215) (n := 0) (x := 81) rfl d_M_builds_215 ?_
                              refine zr_getF (r := 92) (hf_N209_.w hW) (pc := 216) f_M_47 rfl (zh_92 (hf_N209_.w hW)).1 d_M_builds_216 ?_
                              refine zw_aload_n (pc := 219) (n := 0) (x := 81) rfl d_M_builds_219 ?_
                              refine zr_getF (r := 90) (hf_N209_.w hW) (pc := 220) f_M_41 rfl (zh_90 (hf_N209_.w hW)).1 d_M_builds_220 ?_
                              refine zw_iload_n (pc := 223) (n := 1) (x := Int32.ofInt u76_) rfl d_M_builds_223 ?_
                              refine zr_ialdn (pc := 224) (zh_90 (hf_N209_.w hW)).2 (by decide) (by omega) (by omega) d_M_builds_224 (fun v218_ hv218_ hv218_a hv218_b => ?_)
                              refine zw_dup2 (pc := 225) rfl rfl d_M_builds_225 ?_
                              refine zr_ialdn (pc := 226) (zh_92 (hf_N209_.w hW)).2 (by decide) (by omega) (by omega) d_M_builds_226 (fun v219_ hv219_ hv219_a hv219_b => ?_)
                              refine zw_iconst (pc := 227) (v := Int32.ofInt 1) (by decide) d_M_builds_227 ?_
                              refine zr_iadd (pc := 228) d_M_builds_228 ?_
                              refine zr_iast (pc := 229) (zh_92 (hf_N209_.w hW)).2 (by decide) (by decide) (by omega) (by omega) d_M_builds_229 (fun N220_ hN220_ hsN220_ => ?_)
                              have hf_N220_ : zFr [20, 25, 26] [85, 86, 87, 88, 89, 90, 91, 92, 93, 94] Mz N220_ := hf_N209_.tr hsN220_ (by decide) (by decide)
                              have hb0_N220_ : zFr [] [90, 92] N61_ N220_ := hb0_N209_.tr hsN220_ (by decide) (by decide)
                              have e12_N220_ : ze N220_ 81 12 = ze N209_ 81 12 := hsN220_.e (by decide)
                              have e13_N220_ : ze N220_ 81 13 = ze N209_ 81 13 := hsN220_.e (by decide)
                              have e20_N220_ : ze N220_ 81 20 = ze N209_ 81 20 := hsN220_.e (by decide)
                              have e25_N220_ : ze N220_ 81 25 = ze N209_ 81 25 := hsN220_.e (by decide)
                              have e26_N220_ : ze N220_ 81 26 = ze N209_ 81 26 := hsN220_.e (by decide)
                              have c221_ : zPm N220_ := zPm.fr hsN220_ c210_ (by decide) (by decide)
                              have c222_ : zFin N220_ := zFin.fr hsN220_ c211_ (by decide) (by decide)
                              have c223_ : zB 83 24 0 5 N220_ := zB.fr hsN220_ c212_ (by decide) (by decide)
                              have c224_ : zB 85 144 0 5 N220_ := zB.fr hsN220_ c213_ (by decide) (by decide)
                              have c225_ : zTab T N220_ := zTab.fr hsN220_ c214_ (by decide) (by decide)
                              have c226_ : zCdR (ze Mz 81 12) (zMvs Mz) T N220_ := zCdR.fr hsN220_ c215_ (by decide) (by decide)
                              have c227_ : zJX T N220_ := zJX.fr hsN220_ c216_ (by decide) (by decide)
                              have c228_ : zFirs T N220_ := zFirs.fr hsN220_ c217_ (by decide) (by decide)
                              have hSf := hSn.fr hsN220_ (by decide) (by decide)
                              refine zr_iinc (pc := 230) (i := 1) (a := u76_) (n := 1) (L2 := [some (.ref 81), some (.int (Int32.ofInt (u76_ + 1))), none, none]) rfl (by decide) rfl d_M_builds_230 ?_
                              refine zw_goto (pc := 233) (tgt := 187) (by decide) d_M_builds_233 ?_
                              exact ih_187 (u76_ + 1) (by omega) (by omega) N220_ hb0_N220_ (show ze N220_ 81 20 = (gN T : Int) by first | assumption | omega) (show 1 ≤ ze N220_ 81 25 by first | assumption | omega) (show ze N220_ 81 25 ≤ 64 by first | assumption | omega) (show ze N220_ 81 26 = ((gF T).length : Int) by first | assumption | omega) (show 0 ≤ (u76_ + 1) by first | assumption | omega) (show (u76_ + 1) ≤ ze N220_ 81 25 by first | assumption | omega) (show zSS T N220_ (u76_ + 1) by first | assumption | omega) (by omega)
                            · skip
                              obtain ⟨i0, hi0, hi1⟩ := zFirs_f hO c93_ hk0.2
                              exact absurd hi1 (ha211_0_hp0_N207_ i0 hi0)
                      exact lp_187 _ 0 (by decide) (by decide) N61_ zFr.rf (show ze N61_ 81 20 = (gN T : Int) by first | assumption | omega) (show 1 ≤ ze N61_ 81 25 by first | assumption | omega) (show ze N61_ 81 25 ≤ 64 by first | assumption | omega) (show ze N61_ 81 26 = ((gF T).length : Int) by first | assumption | omega) (show 0 ≤ (0 : Int) by first | assumption | omega) (show (0 : Int) ≤ ze N61_ 81 25 by first | assumption | omega) (show zSS T N61_ (0 : Int) by exact zSS_0) (Nat.lt_succ_self _)
                    · skip
                      refine zw_aload_n (pc := 172) (n := 0) (x := 81) rfl d_M_builds_172 ?_
                      refine zr_getF (r := 92) (hf_N61_.w hW) (pc := 173) f_M_47 rfl (zh_92 (hf_N61_.w hW)).1 d_M_builds_173 ?_
                      refine zw_iload_n (pc := 176) (n := 1) (x := Int32.ofInt u60_) rfl d_M_builds_176 ?_
                      refine zw_iconst (pc := 177) (v := Int32.ofInt 0) (by decide) d_M_builds_177 ?_
                      refine zr_iast (pc := 178) (zh_92 (hf_N61_.w hW)).2 (by decide) (by decide) (by omega) (by omega) d_M_builds_178 (fun N229_ hN229_ hsN229_ => ?_)
                      have hf_N229_ : zFr [20, 25, 26] [85, 86, 87, 88, 89, 90, 91, 92, 93, 94] Mz N229_ := hf_N61_.tr hsN229_ (by decide) (by decide)
                      have hb0_N229_ : zFr [] [92] N45_ N229_ := hs62_.tr hsN229_ (by decide) (by decide)
                      have e12_N229_ : ze N229_ 81 12 = ze N61_ 81 12 := hsN229_.e (by decide)
                      have e13_N229_ : ze N229_ 81 13 = ze N61_ 81 13 := hsN229_.e (by decide)
                      have e20_N229_ : ze N229_ 81 20 = ze N61_ 81 20 := hsN229_.e (by decide)
                      have e25_N229_ : ze N229_ 81 25 = ze N61_ 81 25 := hsN229_.e (by decide)
                      have e26_N229_ : ze N229_ 81 26 = ze N61_ 81 26 := hsN229_.e (by decide)
                      have c230_ : zPm N229_ := zPm.fr hsN229_ c68_ (by decide) (by decide)
                      have c231_ : zFin N229_ := zFin.fr hsN229_ c69_ (by decide) (by decide)
                      have c232_ : zB 83 24 0 5 N229_ := zB.fr hsN229_ c70_ (by decide) (by decide)
                      have c233_ : zB 85 144 0 5 N229_ := zB.fr hsN229_ c71_ (by decide) (by decide)
                      have c234_ : zTab T N229_ := zTab.fr hsN229_ c72_ (by decide) (by decide)
                      have c235_ : zCdR (ze Mz 81 12) (zMvs Mz) T N229_ := zCdR.fr hsN229_ c73_ (by decide) (by decide)
                      have c236_ : zJX T N229_ := zJX.fr hsN229_ c74_ (by decide) (by decide)
                      have c237_ : zFirs T N229_ := zFirs.fr hsN229_ c75_ (by decide) (by decide)
                      refine zr_iinc (pc := 179) (i := 1) (a := u60_) (n := 1) (L2 := [some (.ref 81), some (.int (Int32.ofInt (u60_ + 1))), none, none]) rfl (by decide) rfl d_M_builds_179 ?_
                      refine zw_goto (pc := 182) (tgt := 164) (by decide) d_M_builds_182 ?_
                      exact ih_164 (u60_ + 1) (by omega) (by omega) N229_ hb0_N229_ (show ze N229_ 81 20 = (gN T : Int) by first | assumption | omega) (show 1 ≤ ze N229_ 81 25 by first | assumption | omega) (show ze N229_ 81 25 ≤ 64 by first | assumption | omega) (show ze N229_ 81 26 = ((gF T).length : Int) by first | assumption | omega) (show 0 ≤ (u60_ + 1) by first | assumption | omega) (by omega)
                exact lp_164 _ 0 (by decide) (by decide) N45_ zFr.rf (show ze N45_ 81 20 = (gN T : Int) by first | assumption | omega) (show 1 ≤ ze N45_ 81 25 by first | assumption | omega) (show ze N45_ 81 25 ≤ 64 by first | assumption | omega) (show ze N45_ 81 26 = ((gF T).length : Int) by first | assumption | omega) (show 0 ≤ (0 : Int) by first | assumption | omega) (Nat.lt_succ_self _)
              · skip
                refine zw_aload_n (pc := 127) (n := 0) (x := 81) rfl d_M_builds_127 ?_
                refine zw_aload_n (pc := 128) (n := 0) (x := 81) rfl d_M_builds_128 ?_
                refine zr_getF (r := 89) (hf_N45_.w hW) (pc := 129) f_M_38 rfl (zh_89 (hf_N45_.w hW)).1 d_M_builds_129 ?_
                refine zw_iload_n (pc := 132) (n := 1) (x := Int32.ofInt u44_) rfl d_M_builds_132 ?_
                refine zr_ialdn (pc := 133) (zh_89 (hf_N45_.w hW)).2 (by decide) (by omega) (by omega) d_M_builds_133 (fun v238_ hv238_ hv238_a hv238_b => ?_)
                have hk0 := i53_.1.2.2.1 (u44_).toNat (by omega)
                have hkb := hO.sb hk0.2
                refine zr_toI (show v238_ = ze N45_ 89 (u44_).toNat by omega) ?_
                refine zr_callV (hf_N45_.w hW) hf_N45_.x (pc := 134) [.int (Int32.ofInt (ze N45_ 89 (u44_).toNat))] [] l_M_238 (c_M_leastTurned l N45_ (hf_N45_.w hW) (ze N45_ 89 (u44_).toNat) (by omega) (by omega) T hG c58_ (show 0 ≤ (ze N45_ 89 (u44_).toNat) by first | assumption | omega) (show (ze N45_ 89 (u44_).toNat) < 16777216 by first | assumption | omega)) rfl rfl rfl (by decide) (Nat.le_of_ble_eq_true rfl) d_M_builds_134 ?_
                rintro _ N239_ ⟨v240_, rfl, ⟨hv240_a, hv240_b⟩, hsN239_, ⟨hp0_N239_, hp1_N239_, hp2_N239_⟩⟩
                obtain rfl := hsN239_.eq.symm
                show zW l m_M_builds (zn Mz + 0, zw Mz + 0) N45_ 137 [some (.ref 81), some (.int (Int32.ofInt u44_)), none, none] [.int (Int32.ofInt v240_)] (zpV [20, 25, 26] [85, 86, 87, 88, 89, 90, 91, 92, 93, 94] Mz (fun N => ∃ T : zGT, T ∈ gTabs ∧ zGB T N ∧ zTm (zMvs Mz) T ∧ zCdR (ze Mz 81 12) (zMvs Mz) T N))
                refine zw_aload_n (pc := 137) (n := 0) (x := 81) rfl d_M_builds_137 ?_
                refine zr_getF (r := 89) (hf_N45_.w hW) (pc := 138) f_M_38 rfl (zh_89 (hf_N45_.w hW)).1 d_M_builds_138 ?_
                refine zw_iload_n (pc := 141) (n := 1) (x := Int32.ofInt u44_) rfl d_M_builds_141 ?_
                refine zr_ialdn (pc := 142) (zh_89 (hf_N45_.w hW)).2 (by decide) (by omega) (by omega) d_M_builds_142 (fun v241_ hv241_ hv241_a hv241_b => ?_)
                refine zr_toI (show v241_ = ze N45_ 89 (u44_).toNat by omega) ?_
                refine zr_icmp_ne (pc := 143) (tgt := 156) ⟨hv240_a, hv240_b⟩ ⟨(by omega), (by omega)⟩ (by decide) d_M_builds_143 (fun hc_143 => ?_) (fun hc_143 => ?_)
                · skip
                  refine zr_iinc (pc := 156) (i := 1) (a := u44_) (n := 1) (L2 := [some (.ref 81), some (.int (Int32.ofInt (u44_ + 1))), none, none]) rfl (by decide) rfl d_M_builds_156 ?_
                  refine zw_goto (pc := 159) (tgt := 119) (by decide) d_M_builds_159 ?_
                  have hFn : zFl T N45_ (u44_ + 1) := by first | exact hFa | exact zFl_n (by omega) (by assumption) rfl (by assumption) (by omega)
                  exact ih_119 (u44_ + 1) (by omega) (by omega) N45_ hs46_ (show ze N45_ 81 20 = (gN T : Int) by first | assumption | omega) (show 1 ≤ ze N45_ 81 25 by first | assumption | omega) (show ze N45_ 81 25 ≤ 64 by first | assumption | omega) (show 0 ≤ (u44_ + 1) by first | assumption | omega) (show (u44_ + 1) ≤ ze N45_ 81 25 by first | assumption | omega) (show zFl T N45_ (u44_ + 1) by first | assumption | omega) i53_ (by omega)
                · skip
                  refine zw_aload_n (pc := 146) (n := 0) (x := 81) rfl d_M_builds_146 ?_
                  refine zw_aload_n (pc := 147) (n := 0) (x := 81) rfl d_M_builds_147 ?_
                  refine zr_getF (r := 89) (hf_N45_.w hW) (pc := 148) f_M_38 rfl (zh_89 (hf_N45_.w hW)).1 d_M_builds_148 ?_
                  refine zw_iload_n (pc := 151) (n := 1) (x := Int32.ofInt u44_) rfl d_M_builds_151 ?_
                  refine zr_ialdn (pc := 152) (zh_89 (hf_N45_.w hW)).2 (by decide) (by omega) (by omega) d_M_builds_152 (fun v242_ hv242_ hv242_a hv242_b => ?_)
                  refine zr_toI (show v242_ = ze N45_ 89 (u44_).toNat by omega) ?_
                  have hfl := (show zFl T N45_ u44_ by assumption)
                  have hf1 := hfl.1
                  have hf2 := hfl.2.1
                  have hne := zFl_ne i53_.1 (by omega) (by omega) (show zFl T N45_ u44_ by assumption) (v := ze N45_ 89 (u44_).toNat) rfl
                  refine zr_callV (hf_N45_.w hW) hf_N45_.x (pc := 153) [.int (Int32.ofInt (ze N45_ 89 (u44_).toNat))] [] l_M_241 (c_M_comesSort l N45_ (hf_N45_.w hW) (ze N45_ 89 (u44_).toNat) (by omega) (by omega) (show 0 ≤ ze N45_ 81 26 by first | assumption | omega) (show ze N45_ 81 26 ≤ 63 by first | assumption | omega) (show 0 ≤ (ze N45_ 89 (u44_).toNat) by first | assumption | omega) (show (ze N45_ 89 (u44_).toNat) < 16777216 by first | assumption | omega) (show zSo N45_ (ze N45_ 81 26) by first | assumption | omega) (show ∀ i : Nat, (i : Int) < ze N45_ 81 26 → ze N45_ 91 i ≠ (ze N45_ 89 (u44_).toNat) by first | assumption | omega)) rfl rfl rfl (by decide) (Nat.le_of_ble_eq_true rfl) d_M_builds_153 ?_
                  rintro _ N243_ ⟨rfl, hsN243_, ⟨hp0_N243_, hp1_N243_, hp2_N243_⟩⟩
                  have hf_N243_ : zFr [20, 25, 26] [85, 86, 87, 88, 89, 90, 91, 92, 93, 94] Mz N243_ := hf_N45_.tr hsN243_ (by decide) (by decide)
                  have hb0_N243_ : zFr [26] [91] N36_ N243_ := hs46_.tr hsN243_ (by decide) (by decide)
                  have e12_N243_ : ze N243_ 81 12 = ze N45_ 81 12 := hsN243_.e (by decide)
                  have e13_N243_ : ze N243_ 81 13 = ze N45_ 81 13 := hsN243_.e (by decide)
                  have e20_N243_ : ze N243_ 81 20 = ze N45_ 81 20 := hsN243_.e (by decide)
                  have e25_N243_ : ze N243_ 81 25 = ze N45_ 81 25 := hsN243_.e (by decide)
                  have r26_N243_ := ze_r N243_ 81 26
                  have c245_ : zPm N243_ := zPm.fr hsN243_ c54_ (by decide) (by decide)
                  have c246_ : zFin N243_ := zFin.fr hsN243_ c55_ (by decide) (by decide)
                  have c247_ : zB 83 24 0 5 N243_ := zB.fr hsN243_ c56_ (by decide) (by decide)
                  have c248_ : zB 85 144 0 5 N243_ := zB.fr hsN243_ c57_ (by decide) (by decide)
                  have c249_ : zTab T N243_ := zTab.fr hsN243_ c58_ (by decide) (by decide)
                  have c250_ : zCdR (ze Mz 81 12) (zMvs Mz) T N243_ := zCdR.fr hsN243_ c59_ (by decide) (by decide)
                  have c251_ : zJX T N243_ := zJX.fr hsN243_ i53_ (by decide) (by decide)
                  show zW l m_M_builds (zn Mz + 0, zw Mz + 0) N243_ 156 [some (.ref 81), some (.int (Int32.ofInt u44_)), none, none] [] (zpV [20, 25, 26] [85, 86, 87, 88, 89, 90, 91, 92, 93, 94] Mz (fun N => ∃ T : zGT, T ∈ gTabs ∧ zGB T N ∧ zTm (zMvs Mz) T ∧ zCdR (ze Mz 81 12) (zMvs Mz) T N))
                  have hFa := zFl_a (by omega) (show zFl T N45_ u44_ by assumption) rfl (by assumption) (by omega) (fun j => hsN243_.ie (q := 89) (by decide) (by decide) j) hp0_N243_ hp1_N243_ hp2_N243_
                  refine zr_iinc (pc := 156) (i := 1) (a := u44_) (n := 1) (L2 := [some (.ref 81), some (.int (Int32.ofInt (u44_ + 1))), none, none]) rfl (by decide) rfl d_M_builds_156 ?_
                  refine zw_goto (pc := 159) (tgt := 119) (by decide) d_M_builds_159 ?_
                  have hFn : zFl T N243_ (u44_ + 1) := by first | exact hFa | exact zFl_n (by omega) (by assumption) rfl (by assumption) (by omega)
                  exact ih_119 (u44_ + 1) (by omega) (by omega) N243_ hb0_N243_ (show ze N243_ 81 20 = (gN T : Int) by first | assumption | omega) (show 1 ≤ ze N243_ 81 25 by first | assumption | omega) (show ze N243_ 81 25 ≤ 64 by first | assumption | omega) (show 0 ≤ (u44_ + 1) by first | assumption | omega) (show (u44_ + 1) ≤ ze N243_ 81 25 by first | assumption | omega) (show zFl T N243_ (u44_ + 1) by first | assumption | omega) c251_ (by omega)
          exact lp_119 _ 0 (by decide) (by decide) N36_ zFr.rf (show ze N36_ 81 20 = (gN T : Int) by first | assumption | omega) (show 1 ≤ ze N36_ 81 25 by first | assumption | omega) (show ze N36_ 81 25 ≤ 64 by first | assumption | omega) (show 0 ≤ (0 : Int) by first | assumption | omega) (show (0 : Int) ≤ ze N36_ 81 25 by first | assumption | omega) (show zFl T N36_ (0 : Int) by first | assumption | omega) c43_ (Nat.lt_succ_self _)
        · skip
          refine zw_iconst (pc := 27) (v := Int32.ofInt 1) (by decide) d_M_builds_27 ?_
          refine zw_istore_n (pc := 28) (i := 2) (L2 := [some (.ref 81), some (.int (Int32.ofInt u20_)), some (.int (Int32.ofInt 1)), none]) rfl (by decide) rfl d_M_builds_28 ?_
          have hX1 := zX_1 hO (show zJ T N21_ (ze N21_ 81 25) by assumption) (show zX T N21_ (ze N21_ 81 25) u20_ 0 by assumption)
          have lp_29 : ∀ (n : Nat) (u252_ : Int) (hu252_a : -2147483648 ≤ u252_) (hu252_b : u252_ < 2147483648) (N253_ : zMem) (hs254_ : zFr [25] [89] N21_ N253_) (i255_ : ze N253_ 81 20 = (gN T : Int)) (i256_ : 1 ≤ ze N253_ 81 25) (i257_ : ze N253_ 81 25 ≤ 64) (i258_ : 0 ≤ u20_) (i259_ : u20_ < ze N253_ 81 25) (i260_ : 1 ≤ u252_) (i261_ : u252_ ≤ ze N253_ 81 20) (i262_ : zJ T N253_ (ze N253_ 81 25)) (i263_ : zX T N253_ (ze N253_ 81 25) u20_ u252_), (25 - u252_).toNat < n → zW l m_M_builds (zn Mz + 0, zw Mz + 0) N253_ 29 [some (.ref 81), some (.int (Int32.ofInt u20_)), some (.int (Int32.ofInt u252_)), none] [] (zpV [20, 25, 26] [85, 86, 87, 88, 89, 90, 91, 92, 93, 94] Mz (fun N => ∃ T : zGT, T ∈ gTabs ∧ zGB T N ∧ zTm (zMvs Mz) T ∧ zCdR (ze Mz 81 12) (zMvs Mz) T N)) := by
            intro n
            induction n with
            | zero =>
              intro u252_ hu252_a hu252_b N253_ hs254_ i255_ i256_ i257_ i258_ i259_ i260_ i261_ i262_ i263_ h0
              exact absurd h0 (Nat.not_lt_zero _)
            | succ n ih_29 =>
              intro u252_ hu252_a hu252_b N253_ hs254_ i255_ i256_ i257_ i258_ i259_ i260_ i261_ i262_ i263_ hlt_29
              have hf_N253_ : zFr [20, 25, 26] [85, 86, 87, 88, 89, 90, 91, 92, 93, 94] Mz N253_ := hf_N21_.tr hs254_ (by decide) (by decide)
              have hb0_N253_ : zFr [25] [89] N13_ N253_ := hs22_.tr hs254_ (by decide) (by decide)
              have e12_N253_ : ze N253_ 81 12 = ze N21_ 81 12 := hs254_.e (by decide)
              have e13_N253_ : ze N253_ 81 13 = ze N21_ 81 13 := hs254_.e (by decide)
              have e20_N253_ : ze N253_ 81 20 = ze N21_ 81 20 := hs254_.e (by decide)
              have r25_N253_ := ze_r N253_ 81 25
              have e26_N253_ : ze N253_ 81 26 = ze N21_ 81 26 := hs254_.e (by decide)
              have c264_ : zPm N253_ := zPm.fr hs254_ c30_ (by decide) (by decide)
              have c265_ : zFin N253_ := zFin.fr hs254_ c31_ (by decide) (by decide)
              have c266_ : zB 83 24 0 5 N253_ := zB.fr hs254_ c32_ (by decide) (by decide)
              have c267_ : zB 85 144 0 5 N253_ := zB.fr hs254_ c33_ (by decide) (by decide)
              have c268_ : zTab T N253_ := zTab.fr hs254_ c34_ (by decide) (by decide)
              have c269_ : zCdR (ze Mz 81 12) (zMvs Mz) T N253_ := zCdR.fr hs254_ c35_ (by decide) (by decide)
              have zz12_N253_ : ze N253_ 81 12 = ze Mz 81 12 := hf_N253_.e (by decide)
              have zz13_N253_ : ze N253_ 81 13 = ze Mz 81 13 := hf_N253_.e (by decide)
              refine zw_iload_n (pc := 29) (n := 2) (x := Int32.ofInt u252_) rfl d_M_builds_29 ?_
              refine zw_aload_n (pc := 30) (n := 0) (x := 81) rfl d_M_builds_30 ?_
              refine zr_getI (hf_N253_.w hW) (pc := 31) f_M_196 rfl d_M_builds_31 ?_
              refine zr_icmp_ge (pc := 34) (tgt := 106) ⟨hu252_a, hu252_b⟩ ⟨(ze_r N253_ 81 20).1, (ze_r N253_ 81 20).2⟩ (by decide) d_M_builds_34 (fun hc_34 => ?_) (fun hc_34 => ?_)
              · skip
                refine zr_iinc (pc := 106) (i := 1) (a := u20_) (n := 1) (L2 := [some (.ref 81), some (.int (Int32.ofInt (u20_ + 1))), some (.int (Int32.ofInt u252_)), none]) rfl (by decide) rfl d_M_builds_106 ?_
                refine zw_goto (pc := 109) (tgt := 19) (by decide) d_M_builds_109 ?_
                have hXn : zX T N253_ (ze N253_ 81 25) (u20_ + 1) 0 := zX_n (by assumption) (by omega)
                refine zW_le [some (.ref 81), some (.int (Int32.ofInt (u20_ + 1))), none, none] (⟨rfl, rfl, trivial⟩) ?_
                exact ih_19 (u20_ + 1) (by omega) (by omega) N253_ hb0_N253_ (show ze N253_ 81 20 = (gN T : Int) by first | assumption | omega) (show 1 ≤ ze N253_ 81 25 by first | assumption | omega) (show ze N253_ 81 25 ≤ 64 by first | assumption | omega) (show 0 ≤ (u20_ + 1) by first | assumption | omega) (show (u20_ + 1) ≤ ze N253_ 81 25 by first | assumption | omega) (show zJ T N253_ (ze N253_ 81 25) by first | assumption | omega) (show zX T N253_ (ze N253_ 81 25) (u20_ + 1) 0 by first | assumption | omega) (by omega)
              · skip
                refine zw_aload_n (pc := 37) (n := 0) (x := 81) rfl d_M_builds_37 ?_
                refine zr_getF (r := 89) (hf_N253_.w hW) (pc := 38) f_M_38 rfl (zh_89 (hf_N253_.w hW)).1 d_M_builds_38 ?_
                refine zw_iload_n (pc := 41) (n := 1) (x := Int32.ofInt u20_) rfl d_M_builds_41 ?_
                refine zr_ialdn (pc := 42) (zh_89 (hf_N253_.w hW)).2 (by decide) (by omega) (by omega) d_M_builds_42 (fun v270_ hv270_ hv270_a hv270_b => ?_)
                have hk0 := (show zJ T N253_ (ze N253_ 81 25) by assumption).2.2.1 (u20_).toNat (by omega)
                have hkb := hO.sb hk0.2
                refine zw_iload_n (pc := 43) (n := 2) (x := Int32.ofInt u252_) rfl d_M_builds_43 ?_
                refine zr_callS hf_N253_.x (pc := 44) [.int (Int32.ofInt v270_), .int (Int32.ofInt u252_)] [] l_M_213 (c_M_holds l N253_ (hf_N253_.w hW) v270_ hv270_a hv270_b u252_ hu252_a hu252_b (show 0 ≤ v270_ by first | assumption | omega) (show 0 ≤ u252_ by first | assumption | omega) (show u252_ < 32 by first | assumption | omega)) rfl rfl (by decide) (Nat.le_of_ble_eq_true rfl) d_M_builds_44 ?_
                rintro _ N271_ ⟨v272_, rfl, ⟨hv272_a, hv272_b⟩, hsN271_, hp0_N271_⟩
                obtain rfl := hsN271_.eq.symm
                replace hp0_N271_ : ((v272_ = 1 ∧ zbt v270_ u252_) ∨ (v272_ = 0 ∧ ¬ zbt v270_ u252_)) := hp0_N271_
                rcases hp0_N271_ with ⟨rfl, ha44_0_hp0_N271_⟩ | ⟨rfl, ha44_0_hp0_N271_⟩
                · skip
                  show zW l m_M_builds (zn Mz + 0, zw Mz + 0) N253_ 47 [some (.ref 81), some (.int (Int32.ofInt u20_)), some (.int (Int32.ofInt u252_)), none] [.int (Int32.ofInt 1)] (zpV [20, 25, 26] [85, 86, 87, 88, 89, 90, 91, 92, 93, 94] Mz (fun N => ∃ T : zGT, T ∈ gTabs ∧ zGB T N ∧ zTm (zMvs Mz) T ∧ zCdR (ze Mz 81 12) (zMvs Mz) T N))
                  refine zr_if_eq (pc := 47) (tgt := 53) ⟨(by decide), (by decide)⟩ (by decide) d_M_builds_47 (fun hc_47 => ?_) (fun hc_47 => ?_)
                  · skip
                    exact absurd hc_47 (by decide)
                  · skip
                    refine zw_goto (pc := 50) (tgt := 100) (by decide) d_M_builds_50 ?_
                    refine zr_iinc (pc := 100) (i := 2) (a := u252_) (n := 1) (L2 := [some (.ref 81), some (.int (Int32.ofInt u20_)), some (.int (Int32.ofInt (u252_ + 1))), none]) rfl (by decide) rfl d_M_builds_100 ?_
                    refine zw_goto (pc := 103) (tgt := 29) (by decide) d_M_builds_103 ?_
                    have hJn : zJ T N253_ (ze N253_ 81 25) := by first | assumption | exact hJa
                    have hXn : zX T N253_ (ze N253_ 81 25) u20_ (u252_ + 1) := by first | exact hXa | exact zX_f (by omega) (by omega) (by assumption) rfl hLr (by assumption) (by omega) | exact zX_b (by omega) (by omega) (by assumption) (by assumption) (by assumption)
                    have hle := zJ_le hO hJn
                    exact ih_29 (u252_ + 1) (by omega) (by omega) N253_ hs254_ (show ze N253_ 81 20 = (gN T : Int) by first | assumption | omega) (show 1 ≤ ze N253_ 81 25 by first | assumption | omega) (show ze N253_ 81 25 ≤ 64 by first | assumption | omega) (show 0 ≤ u20_ by first | assumption | omega) (show u20_ < ze N253_ 81 25 by first | assumption | omega) (show 1 ≤ (u252_ + 1) by first | assumption | omega) (show (u252_ + 1) ≤ ze N253_ 81 20 by first | assumption | omega) (show zJ T N253_ (ze N253_ 81 25) by first | assumption | omega) (show zX T N253_ (ze N253_ 81 25) u20_ (u252_ + 1) by first | assumption | omega) (by omega)
                · skip
                  show zW l m_M_builds (zn Mz + 0, zw Mz + 0) N253_ 47 [some (.ref 81), some (.int (Int32.ofInt u20_)), some (.int (Int32.ofInt u252_)), none] [.int (Int32.ofInt 0)] (zpV [20, 25, 26] [85, 86, 87, 88, 89, 90, 91, 92, 93, 94] Mz (fun N => ∃ T : zGT, T ∈ gTabs ∧ zGB T N ∧ zTm (zMvs Mz) T ∧ zCdR (ze Mz 81 12) (zMvs Mz) T N))
                  refine zr_if_eq (pc := 47) (tgt := 53) ⟨(by decide), (by decide)⟩ (by decide) d_M_builds_47 (fun hc_47 => ?_) (fun hc_47 => ?_)
                  · skip
                    refine zw_aload_n (pc := 53) (n := 0) (x := 81) rfl d_M_builds_53 ?_
                    refine zw_aload_n (pc := 54) (n := 0) (x := 81) rfl d_M_builds_54 ?_
                    refine zr_getF (r := 89) (hf_N253_.w hW) (pc := 55) f_M_38 rfl (zh_89 (hf_N253_.w hW)).1 d_M_builds_55 ?_
                    refine zw_iload_n (pc := 58) (n := 1) (x := Int32.ofInt u20_) rfl d_M_builds_58 ?_
                    refine zr_ialdn (pc := 59) (zh_89 (hf_N253_.w hW)).2 (by decide) (by omega) (by omega) d_M_builds_59 (fun v273_ hv273_ hv273_a hv273_b => ?_)
                    refine zr_toI (show v273_ = ze N253_ 89 (u20_).toNat by omega) ?_
                    refine zw_iconst (pc := 60) (v := Int32.ofInt 1) (by decide) d_M_builds_60 ?_
                    refine zw_iload_n (pc := 61) (n := 2) (x := Int32.ofInt u252_) rfl d_M_builds_61 ?_
                    refine zr_ishl (pc := 62) d_M_builds_62 ?_
                    have hr274_ := zshl_r 1 u252_
                    have hgi := gIn_or hG (x := ze N253_ 89 (u20_).toNat) (g := u252_) hk0.1 (hO.2.1.2.2 _ hk0.2).1.2.1 (by omega) (by omega)
                    refine zr_ior (pc := 63) d_M_builds_63 ?_
                    have hr275_ := zor_r (ze N253_ 89 (u20_).toNat) (zshl 1 u252_)
                    have hks := (hO.2.1.2.2 _ hk0.2).1.2.1
                    refine zr_callV (hf_N253_.w hW) hf_N253_.x (pc := 64) [.int (Int32.ofInt (zor (ze N253_ 89 (u20_).toNat) (zshl 1 u252_)))] [] l_M_229 (c_M_closed l N253_ (hf_N253_.w hW) (zor (ze N253_ 89 (u20_).toNat) (zshl 1 u252_)) (by omega) (by omega) T hG c268_ (show gIn T (zor (ze N253_ 89 (u20_).toNat) (zshl 1 u252_)) by exact hgi.1)) rfl rfl rfl (by decide) (Nat.le_of_ble_eq_true rfl) d_M_builds_64 ?_
                    rintro _ N276_ ⟨v277_, rfl, ⟨hv277_a, hv277_b⟩, hsN276_, ⟨hp0_N276_, hp1_N276_, hp2_N276_⟩⟩
                    obtain rfl := hsN276_.eq.symm
                    show zW l m_M_builds (zn Mz + 0, zw Mz + 0) N253_ 67 [some (.ref 81), some (.int (Int32.ofInt u20_)), some (.int (Int32.ofInt u252_)), none] [.int (Int32.ofInt v277_)] (zpV [20, 25, 26] [85, 86, 87, 88, 89, 90, 91, 92, 93, 94] Mz (fun N => ∃ T : zGT, T ∈ gTabs ∧ zGB T N ∧ zTm (zMvs Mz) T ∧ zCdR (ze Mz 81 12) (zMvs Mz) T N))
                    have hLr := hp0_N276_
                    rw [hgi.2] at hLr
                    refine zw_istore_n (pc := 67) (i := 3) (L2 := [some (.ref 81), some (.int (Int32.ofInt u20_)), some (.int (Int32.ofInt u252_)), some (.int (Int32.ofInt v277_))]) rfl (by decide) rfl d_M_builds_67 ?_
                    refine zw_aload_n (pc := 68) (n := 0) (x := 81) rfl d_M_builds_68 ?_
                    refine zw_iload_n (pc := 69) (n := 3) (x := Int32.ofInt v277_) rfl d_M_builds_69 ?_
                    refine zr_callV (hf_N253_.w hW) hf_N253_.x (pc := 70) [.int (Int32.ofInt v277_)] [] l_M_232 (c_M_subIndex l N253_ (hf_N253_.w hW) v277_ hv277_a hv277_b (show 0 ≤ ze N253_ 81 25 by first | assumption | omega) (show ze N253_ 81 25 ≤ 128 by first | assumption | omega)) rfl rfl rfl (by decide) (Nat.le_of_ble_eq_true rfl) d_M_builds_70 ?_
                    rintro _ N278_ ⟨v279_, rfl, ⟨hv279_a, hv279_b⟩, hsN278_, hp0_N278_⟩
                    obtain rfl := hsN278_.eq.symm
                    replace hp0_N278_ : ((0 ≤ v279_ ∧ v279_ < ze N253_ 81 25 ∧ ze N253_ 89 (v279_).toNat = v277_) ∨ (v279_ = -1 ∧ ∀ k : Nat, (k : Int) < ze N253_ 81 25 → ze N253_ 89 k ≠ v277_)) := hp0_N278_
                    rcases hp0_N278_ with ⟨ha70_0_hp0_N278_, ha70_1_hp0_N278_, ha70_2_hp0_N278_⟩ | ⟨rfl, ha70_0_hp0_N278_⟩
                    · skip
                      show zW l m_M_builds (zn Mz + 0, zw Mz + 0) N253_ 73 [some (.ref 81), some (.int (Int32.ofInt u20_)), some (.int (Int32.ofInt u252_)), some (.int (Int32.ofInt v277_))] [.int (Int32.ofInt v279_)] (zpV [20, 25, 26] [85, 86, 87, 88, 89, 90, 91, 92, 93, 94] Mz (fun N => ∃ T : zGT, T ∈ gTabs ∧ zGB T N ∧ zTm (zMvs Mz) T ∧ zCdR (ze Mz 81 12) (zMvs Mz) T N))
                      refine zw_iconst (pc := 73) (v := Int32.ofInt (-1)) (by decide) d_M_builds_73 ?_
                      refine zr_icmp_eq (pc := 74) (tgt := 80) ⟨hv279_a, hv279_b⟩ ⟨(by decide), (by decide)⟩ (by decide) d_M_builds_74 (fun hc_74 => ?_) (fun hc_74 => ?_)
                      · skip
                        refine zw_aload_n (pc := 80) (n := 0) (x := 81) rfl d_M_builds_80 ?_
                        refine zr_getF (r := 89) (hf_N253_.w hW) (pc := 81) f_M_38 rfl (zh_89 (hf_N253_.w hW)).1 d_M_builds_81 ?_
                        refine zw_aload_n (pc := 84) (n := 0) (x := 81) rfl d_M_builds_84 ?_
                        refine zr_getI (hf_N253_.w hW) (pc := 85) f_M_220 rfl d_M_builds_85 ?_
                        refine zw_iload_n (pc := 88) (n := 3) (x := Int32.ofInt v277_) rfl d_M_builds_88 ?_
                        refine zr_iast (pc := 89) (zh_89 (hf_N253_.w hW)).2 (by decide) (by decide) (by omega) (by omega) d_M_builds_89 (fun N280_ hN280_ hsN280_ => ?_)
                        have hf_N280_ : zFr [20, 25, 26] [85, 86, 87, 88, 89, 90, 91, 92, 93, 94] Mz N280_ := hf_N253_.tr hsN280_ (by decide) (by decide)
                        have hb0_N280_ : zFr [25] [89] N13_ N280_ := hb0_N253_.tr hsN280_ (by decide) (by decide)
                        have hb1_N280_ : zFr [25] [89] N21_ N280_ := hs254_.tr hsN280_ (by decide) (by decide)
                        have e12_N280_ : ze N280_ 81 12 = ze N253_ 81 12 := hsN280_.e (by decide)
                        have e13_N280_ : ze N280_ 81 13 = ze N253_ 81 13 := hsN280_.e (by decide)
                        have e20_N280_ : ze N280_ 81 20 = ze N253_ 81 20 := hsN280_.e (by decide)
                        have e25_N280_ : ze N280_ 81 25 = ze N253_ 81 25 := hsN280_.e (by decide)
                        have e26_N280_ : ze N280_ 81 26 = ze N253_ 81 26 := hsN280_.e (by decide)
                        have c281_ : zPm N280_ := zPm.fr hsN280_ c264_ (by decide) (by decide)
                        have c282_ : zFin N280_ := zFin.fr hsN280_ c265_ (by decide) (by decide)
                        have c283_ : zB 83 24 0 5 N280_ := zB.fr hsN280_ c266_ (by decide) (by decide)
                        have c284_ : zB 85 144 0 5 N280_ := zB.fr hsN280_ c267_ (by decide) (by decide)
                        have c285_ : zTab T N280_ := zTab.fr hsN280_ c268_ (by decide) (by decide)
                        have c286_ : zCdR (ze Mz 81 12) (zMvs Mz) T N280_ := zCdR.fr hsN280_ c269_ (by decide) (by decide)
                        refine zw_aload_n (pc := 90) (n := 0) (x := 81) rfl d_M_builds_90 ?_
                        refine zw_dup (pc := 91) rfl d_M_builds_91 ?_
                        refine zr_getI (hf_N280_.w hW) (pc := 92) f_M_220 rfl d_M_builds_92 ?_
                        refine zw_iconst (pc := 95) (v := Int32.ofInt 1) (by decide) d_M_builds_95 ?_
                        refine zr_iadd (pc := 96) d_M_builds_96 ?_
                        refine zr_putI (hf_N280_.w hW) (pc := 97) f_M_220 rfl rfl ⟨by omega, by omega⟩ rfl rfl d_M_builds_97 (fun N287_ hsN287_ hvN287_ => ?_)
                        have hf_N287_ : zFr [20, 25, 26] [85, 86, 87, 88, 89, 90, 91, 92, 93, 94] Mz N287_ := hf_N280_.tr hsN287_ (by decide) (by decide)
                        have hb0_N287_ : zFr [25] [89] N13_ N287_ := hb0_N280_.tr hsN287_ (by decide) (by decide)
                        have hb1_N287_ : zFr [25] [89] N21_ N287_ := hb1_N280_.tr hsN287_ (by decide) (by decide)
                        have e12_N287_ : ze N287_ 81 12 = ze N280_ 81 12 := hsN287_.e (by decide)
                        have e13_N287_ : ze N287_ 81 13 = ze N280_ 81 13 := hsN287_.e (by decide)
                        have e20_N287_ : ze N287_ 81 20 = ze N280_ 81 20 := hsN287_.e (by decide)
                        have r25_N287_ := ze_r N287_ 81 25
                        have e26_N287_ : ze N287_ 81 26 = ze N280_ 81 26 := hsN287_.e (by decide)
                        have c288_ : zPm N287_ := zPm.fr hsN287_ c281_ (by decide) (by decide)
                        have c289_ : zFin N287_ := zFin.fr hsN287_ c282_ (by decide) (by decide)
                        have c290_ : zB 83 24 0 5 N287_ := zB.fr hsN287_ c283_ (by decide) (by decide)
                        have c291_ : zB 85 144 0 5 N287_ := zB.fr hsN287_ c284_ (by decide) (by decide)
                        have c292_ : zTab T N287_ := zTab.fr hsN287_ c285_ (by decide) (by decide)
                        have c293_ : zCdR (ze Mz 81 12) (zMvs Mz) T N287_ := zCdR.fr hsN287_ c286_ (by decide) (by decide)
                        have hA := zJ_a hO (by omega) (by omega) (by omega) (k := u20_) (g := u252_) (show zJ T N253_ (ze N253_ 81 25) by assumption) (show zX T N253_ (ze N253_ 81 25) u20_ u252_ by assumption) rfl (by omega) hLr (by first | assumption | (intro _ _; exfalso; omega)) hN280_
                        have hJa := zJ.e (fun k => hsN287_.ie (q := 89) (by decide) (by decide) k) hA.1
                        have hXa := zX.e (fun k => hsN287_.ie (q := 89) (by decide) (by decide) k) hA.2
                        rw [show ze N253_ 81 25 + 1 = ze N287_ 81 25 by omega] at hJa hXa
                        refine zr_iinc (pc := 100) (i := 2) (a := u252_) (n := 1) (L2 := [some (.ref 81), some (.int (Int32.ofInt u20_)), some (.int (Int32.ofInt (u252_ + 1))), some (.int (Int32.ofInt v277_))]) rfl (by decide) rfl d_M_builds_100 ?_
                        refine zw_goto (pc := 103) (tgt := 29) (by decide) d_M_builds_103 ?_
                        have hJn : zJ T N287_ (ze N287_ 81 25) := by first | assumption | exact hJa
                        have hXn : zX T N287_ (ze N287_ 81 25) u20_ (u252_ + 1) := by first | exact hXa | exact zX_f (by omega) (by omega) (by assumption) rfl hLr (by assumption) (by omega) | exact zX_b (by omega) (by omega) (by assumption) (by assumption) (by assumption)
                        have hle := zJ_le hO hJn
                        refine zW_le [some (.ref 81), some (.int (Int32.ofInt u20_)), some (.int (Int32.ofInt (u252_ + 1))), none] (⟨rfl, rfl, rfl, trivial⟩) ?_
                        exact ih_29 (u252_ + 1) (by omega) (by omega) N287_ hb1_N287_ (show ze N287_ 81 20 = (gN T : Int) by first | assumption | omega) (show 1 ≤ ze N287_ 81 25 by first | assumption | omega) (show ze N287_ 81 25 ≤ 64 by first | assumption | omega) (show 0 ≤ u20_ by first | assumption | omega) (show u20_ < ze N287_ 81 25 by first | assumption | omega) (show 1 ≤ (u252_ + 1) by first | assumption | omega) (show (u252_ + 1) ≤ ze N287_ 81 20 by first | assumption | omega) (show zJ T N287_ (ze N287_ 81 25) by first | assumption | omega) (show zX T N287_ (ze N287_ 81 25) u20_ (u252_ + 1) by first | assumption | omega) (by omega)
                      · skip
                        refine zw_goto (pc := 77) (tgt := 100) (by decide) d_M_builds_77 ?_
                        refine zr_iinc (pc := 100) (i := 2) (a := u252_) (n := 1) (L2 := [some (.ref 81), some (.int (Int32.ofInt u20_)), some (.int (Int32.ofInt (u252_ + 1))), some (.int (Int32.ofInt v277_))]) rfl (by decide) rfl d_M_builds_100 ?_
                        refine zw_goto (pc := 103) (tgt := 29) (by decide) d_M_builds_103 ?_
                        have hJn : zJ T N253_ (ze N253_ 81 25) := by first | assumption | exact hJa
                        have hXn : zX T N253_ (ze N253_ 81 25) u20_ (u252_ + 1) := by first | exact hXa | exact zX_f (by omega) (by omega) (by assumption) rfl hLr (by assumption) (by omega) | exact zX_b (by omega) (by omega) (by assumption) (by assumption) (by assumption)
                        have hle := zJ_le hO hJn
                        refine zW_le [some (.ref 81), some (.int (Int32.ofInt u20_)), some (.int (Int32.ofInt (u252_ + 1))), none] (⟨rfl, rfl, rfl, trivial⟩) ?_
                        exact ih_29 (u252_ + 1) (by omega) (by omega) N253_ hs254_ (show ze N253_ 81 20 = (gN T : Int) by first | assumption | omega) (show 1 ≤ ze N253_ 81 25 by first | assumption | omega) (show ze N253_ 81 25 ≤ 64 by first | assumption | omega) (show 0 ≤ u20_ by first | assumption | omega) (show u20_ < ze N253_ 81 25 by first | assumption | omega) (show 1 ≤ (u252_ + 1) by first | assumption | omega) (show (u252_ + 1) ≤ ze N253_ 81 20 by first | assumption | omega) (show zJ T N253_ (ze N253_ 81 25) by first | assumption | omega) (show zX T N253_ (ze N253_ 81 25) u20_ (u252_ + 1) by first | assumption | omega) (by omega)
                    · skip
                      show zW l m_M_builds (zn Mz + 0, zw Mz + 0) N253_ 73 [some (.ref 81), some (.int (Int32.ofInt u20_)), some (.int (Int32.ofInt u252_)), some (.int (Int32.ofInt v277_))] [.int (Int32.ofInt ((-1)))] (zpV [20, 25, 26] [85, 86, 87, 88, 89, 90, 91, 92, 93, 94] Mz (fun N => ∃ T : zGT, T ∈ gTabs ∧ zGB T N ∧ zTm (zMvs Mz) T ∧ zCdR (ze Mz 81 12) (zMvs Mz) T N))
                      refine zw_iconst (pc := 73) (v := Int32.ofInt (-1)) (by decide) d_M_builds_73 ?_
                      refine zr_icmp_eq (pc := 74) (tgt := 80) ⟨(by decide), (by decide)⟩ ⟨(by decide), (by decide)⟩ (by decide) d_M_builds_74 (fun hc_74 => ?_) (fun hc_74 => ?_)
                      · skip
                        refine zw_aload_n (pc := 80) (n := 0) (x := 81) rfl d_M_builds_80 ?_
                        refine zr_getF (r := 89) (hf_N253_.w hW) (pc := 81) f_M_38 rfl (zh_89 (hf_N253_.w hW)).1 d_M_builds_81 ?_
                        refine zw_aload_n (pc := 84) (n := 0) (x := 81) rfl d_M_builds_84 ?_
                        refine zr_getI (hf_N253_.w hW) (pc := 85) f_M_220 rfl d_M_builds_85 ?_
                        refine zw_iload_n (pc := 88) (n := 3) (x := Int32.ofInt v277_) rfl d_M_builds_88 ?_
                        refine zr_iast (pc := 89) (zh_89 (hf_N253_.w hW)).2 (by decide) (by decide) (by omega) (by omega) d_M_builds_89 (fun N294_ hN294_ hsN294_ => ?_)
                        have hf_N294_ : zFr [20, 25, 26] [85, 86, 87, 88, 89, 90, 91, 92, 93, 94] Mz N294_ := hf_N253_.tr hsN294_ (by decide) (by decide)
                        have hb0_N294_ : zFr [25] [89] N13_ N294_ := hb0_N253_.tr hsN294_ (by decide) (by decide)
                        have hb1_N294_ : zFr [25] [89] N21_ N294_ := hs254_.tr hsN294_ (by decide) (by decide)
                        have e12_N294_ : ze N294_ 81 12 = ze N253_ 81 12 := hsN294_.e (by decide)
                        have e13_N294_ : ze N294_ 81 13 = ze N253_ 81 13 := hsN294_.e (by decide)
                        have e20_N294_ : ze N294_ 81 20 = ze N253_ 81 20 := hsN294_.e (by decide)
                        have e25_N294_ : ze N294_ 81 25 = ze N253_ 81 25 := hsN294_.e (by decide)
                        have e26_N294_ : ze N294_ 81 26 = ze N253_ 81 26 := hsN294_.e (by decide)
                        have c295_ : zPm N294_ := zPm.fr hsN294_ c264_ (by decide) (by decide)
                        have c296_ : zFin N294_ := zFin.fr hsN294_ c265_ (by decide) (by decide)
                        have c297_ : zB 83 24 0 5 N294_ := zB.fr hsN294_ c266_ (by decide) (by decide)
                        have c298_ : zB 85 144 0 5 N294_ := zB.fr hsN294_ c267_ (by decide) (by decide)
                        have c299_ : zTab T N294_ := zTab.fr hsN294_ c268_ (by decide) (by decide)
                        have c300_ : zCdR (ze Mz 81 12) (zMvs Mz) T N294_ := zCdR.fr hsN294_ c269_ (by decide) (by decide)
                        refine zw_aload_n (pc := 90) (n := 0) (x := 81) rfl d_M_builds_90 ?_
                        refine zw_dup (pc := 91) rfl d_M_builds_91 ?_
                        refine zr_getI (hf_N294_.w hW) (pc := 92) f_M_220 rfl d_M_builds_92 ?_
                        refine zw_iconst (pc := 95) (v := Int32.ofInt 1) (by decide) d_M_builds_95 ?_
                        refine zr_iadd (pc := 96) d_M_builds_96 ?_
                        refine zr_putI (hf_N294_.w hW) (pc := 97) f_M_220 rfl rfl ⟨by omega, by omega⟩ rfl rfl d_M_builds_97 (fun N301_ hsN301_ hvN301_ => ?_)
                        have hf_N301_ : zFr [20, 25, 26] [85, 86, 87, 88, 89, 90, 91, 92, 93, 94] Mz N301_ := hf_N294_.tr hsN301_ (by decide) (by decide)
                        have hb0_N301_ : zFr [25] [89] N13_ N301_ := hb0_N294_.tr hsN301_ (by decide) (by decide)
                        have hb1_N301_ : zFr [25] [89] N21_ N301_ := hb1_N294_.tr hsN301_ (by decide) (by decide)
                        have e12_N301_ : ze N301_ 81 12 = ze N294_ 81 12 := hsN301_.e (by decide)
                        have e13_N301_ : ze N301_ 81 13 = ze N294_ 81 13 := hsN301_.e (by decide)
                        have e20_N301_ : ze N301_ 81 20 = ze N294_ 81 20 := hsN301_.e (by decide)
                        have r25_N301_ := ze_r N301_ 81 25
                        have e26_N301_ : ze N301_ 81 26 = ze N294_ 81 26 := hsN301_.e (by decide)
                        have c302_ : zPm N301_ := zPm.fr hsN301_ c295_ (by decide) (by decide)
                        have c303_ : zFin N301_ := zFin.fr hsN301_ c296_ (by decide) (by decide)
                        have c304_ : zB 83 24 0 5 N301_ := zB.fr hsN301_ c297_ (by decide) (by decide)
                        have c305_ : zB 85 144 0 5 N301_ := zB.fr hsN301_ c298_ (by decide) (by decide)
                        have c306_ : zTab T N301_ := zTab.fr hsN301_ c299_ (by decide) (by decide)
                        have c307_ : zCdR (ze Mz 81 12) (zMvs Mz) T N301_ := zCdR.fr hsN301_ c300_ (by decide) (by decide)
                        have hA := zJ_a hO (by omega) (by omega) (by omega) (k := u20_) (g := u252_) (show zJ T N253_ (ze N253_ 81 25) by assumption) (show zX T N253_ (ze N253_ 81 25) u20_ u252_ by assumption) rfl (by omega) hLr (by first | assumption | (intro _ _; exfalso; omega)) hN294_
                        have hJa := zJ.e (fun k => hsN301_.ie (q := 89) (by decide) (by decide) k) hA.1
                        have hXa := zX.e (fun k => hsN301_.ie (q := 89) (by decide) (by decide) k) hA.2
                        rw [show ze N253_ 81 25 + 1 = ze N301_ 81 25 by omega] at hJa hXa
                        refine zr_iinc (pc := 100) (i := 2) (a := u252_) (n := 1) (L2 := [some (.ref 81), some (.int (Int32.ofInt u20_)), some (.int (Int32.ofInt (u252_ + 1))), some (.int (Int32.ofInt v277_))]) rfl (by decide) rfl d_M_builds_100 ?_
                        refine zw_goto (pc := 103) (tgt := 29) (by decide) d_M_builds_103 ?_
                        have hJn : zJ T N301_ (ze N301_ 81 25) := by first | assumption | exact hJa
                        have hXn : zX T N301_ (ze N301_ 81 25) u20_ (u252_ + 1) := by first | exact hXa | exact zX_f (by omega) (by omega) (by assumption) rfl hLr (by assumption) (by omega) | exact zX_b (by omega) (by omega) (by assumption) (by assumption) (by assumption)
                        have hle := zJ_le hO hJn
                        refine zW_le [some (.ref 81), some (.int (Int32.ofInt u20_)), some (.int (Int32.ofInt (u252_ + 1))), none] (⟨rfl, rfl, rfl, trivial⟩) ?_
                        exact ih_29 (u252_ + 1) (by omega) (by omega) N301_ hb1_N301_ (show ze N301_ 81 20 = (gN T : Int) by first | assumption | omega) (show 1 ≤ ze N301_ 81 25 by first | assumption | omega) (show ze N301_ 81 25 ≤ 64 by first | assumption | omega) (show 0 ≤ u20_ by first | assumption | omega) (show u20_ < ze N301_ 81 25 by first | assumption | omega) (show 1 ≤ (u252_ + 1) by first | assumption | omega) (show (u252_ + 1) ≤ ze N301_ 81 20 by first | assumption | omega) (show zJ T N301_ (ze N301_ 81 25) by first | assumption | omega) (show zX T N301_ (ze N301_ 81 25) u20_ (u252_ + 1) by first | assumption | omega) (by omega)
                      · skip
                        exact absurd hc_74 (by decide)
                  · skip
                    exact absurd hc_47 (by decide)
          exact lp_29 _ 1 (by decide) (by decide) N21_ zFr.rf (show ze N21_ 81 20 = (gN T : Int) by first | assumption | omega) (show 1 ≤ ze N21_ 81 25 by first | assumption | omega) (show ze N21_ 81 25 ≤ 64 by first | assumption | omega) (show 0 ≤ u20_ by first | assumption | omega) (show u20_ < ze N21_ 81 25 by first | assumption | omega) (show 1 ≤ (1 : Int) by first | assumption | omega) (show (1 : Int) ≤ ze N21_ 81 20 by first | assumption | omega) (show zJ T N21_ (ze N21_ 81 25) by first | assumption | omega) (show zX T N21_ (ze N21_ 81 25) u20_ (1 : Int) by first | assumption | omega) (Nat.lt_succ_self _)
    exact lp_19 _ 0 (by decide) (by decide) N13_ zFr.rf (show ze N13_ 81 20 = (gN T : Int) by first | assumption | omega) (show 1 ≤ ze N13_ 81 25 by first | assumption | omega) (show ze N13_ 81 25 ≤ 64 by first | assumption | omega) (show 0 ≤ (0 : Int) by first | assumption | omega) (show (0 : Int) ≤ ze N13_ 81 25 by first | assumption | omega) (show zJ T N13_ (ze N13_ 81 25) by rw [show ze N13_ 81 25 = 1 by omega]; exact zJ_0 hO hz0) (show zX T N13_ (ze N13_ 81 25) (0 : Int) 0 by exact zX_0) (Nat.lt_succ_self _)
  · skip
    exact absurd p5_ ha1_0_hp1_N1_
