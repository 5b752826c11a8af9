set_option maxHeartbeats 40000000 in
theorem c_M_buildsF (l : Launch) (Mz : zMem) (hW : zMt Mz) (p0_ : 1 ≤ ze Mz 81 12) (p1_ : ze Mz 81 12 ≤ 6) (p2_ : 0 ≤ ze Mz 81 13) (p3_ : ze Mz 81 13 ≤ 4) (p4_ : zPm Mz) (p5_ : zFin Mz) (p6_ : zB 83 24 0 5 Mz) (p7_ : zB 85 144 0 5 Mz) : zC l m_M_builds 0 0 [.ref 81] Mz (zpV [20, 25, 26] [85, 86, 87, 88, 89, 90, 91, 92, 93, 94] Mz (fun N => ∃ T : zGT, T ∈ gTabs ∧ zGB T N ∧ zTm (zMvs Mz) T)) := by
  refine zC_of (L0 := [some (.ref 81), none, none, none]) md_M_builds (Nat.le_of_ble_eq_true rfl) rfl ?_ zQ0
  have hf : zFr [20, 25, 26] [85, 86, 87, 88, 89, 90, 91, 92, 93, 94] Mz Mz := zFr.rf
  have r_12 := ze_r Mz 81 12
  have r_13 := ze_r Mz 81 13
  have r_20 := ze_r Mz 81 20
  have r_25 := ze_r Mz 81 25
  have r_26 := ze_r Mz 81 26
  refine zw_aload_n (pc := 0) (n := 0) (x := 81) rfl d_M_builds_0 ?_
  refine zr_callV (hf.w hW) hf.x (pc := 1) [] [] l_M_226 (c_M_buildsMembersF l Mz (hf.w hW) (show 1 ≤ ze Mz 81 12 by first | assumption | omega) (show ze Mz 81 12 ≤ 6 by first | assumption | omega) (show 0 ≤ ze Mz 81 13 by first | assumption | omega) (show ze Mz 81 13 ≤ 4 by first | assumption | omega) p4_ p6_ p7_) rfl rfl rfl (by decide) (Nat.le_of_ble_eq_true rfl) d_M_builds_1 ?_
  rintro _ N1_ ⟨v2_, rfl, ⟨hv2_a, hv2_b⟩, hsN1_, ⟨hp0_N1_, hp1_N1_⟩⟩
  have hf_N1_ : zFr [20, 25, 26] [85, 86, 87, 88, 89, 90, 91, 92, 93, 94] Mz N1_ := hf.tr hsN1_ (by decide) (by decide)
  have e12_N1_ : ze N1_ 81 12 = ze Mz 81 12 := hsN1_.e (by decide)
  have e13_N1_ : ze N1_ 81 13 = ze Mz 81 13 := hsN1_.e (by decide)
  have r20_N1_ := ze_r N1_ 81 20
  have e25_N1_ : ze N1_ 81 25 = ze Mz 81 25 := hsN1_.e (by decide)
  have e26_N1_ : ze N1_ 81 26 = ze Mz 81 26 := hsN1_.e (by decide)
  have c3_ : zPm N1_ := zPm.fr hsN1_ p4_ (by decide) (by decide)
  have c4_ : zFin N1_ := zFin.fr hsN1_ p5_ (by decide) (by decide)
  have c5_ : zB 83 24 0 5 N1_ := zB.fr hsN1_ p6_ (by decide) (by decide)
  rcases hp1_N1_ with ⟨rfl, ha1_0_hp1_N1_, ha1_1_hp1_N1_, ha1_2_hp1_N1_, ha1_3_hp1_N1_⟩ | ⟨rfl, ha1_0_hp1_N1_⟩
  · skip
    obtain ⟨T, hTt, hTab, hTm_⟩ := id ha1_3_hp1_N1_
    have hO := gTabs_ok T hTt
    have hG := hO.1
    have g24 := hG.2.1
    have g1 := hG.1
    have gn := hTab.1
    have gl := gF_pos hO
    show zW l m_M_builds (zn Mz + 0, zw Mz + 0) N1_ 4 [some (.ref 81), none, none, none] [.int (Int32.ofInt 1)] (zpV [20, 25, 26] [85, 86, 87, 88, 89, 90, 91, 92, 93, 94] Mz (fun N => ∃ T : zGT, T ∈ gTabs ∧ zGB T N ∧ zTm (zMvs Mz) T))
    refine zw_pop (pc := 4) rfl d_M_builds_4 ?_
    refine zw_aload_n (pc := 5) (n := 0) (x := 81) rfl d_M_builds_5 ?_
    refine zw_iconst (pc := 6) (v := Int32.ofInt 1) (by decide) d_M_builds_6 ?_
    refine zr_putI (hf_N1_.w hW) (pc := 7) f_M_220 rfl rfl ⟨by omega, by omega⟩ rfl rfl d_M_builds_7 (fun N6_ hsN6_ hvN6_ => ?_)
    have hf_N6_ : zFr [20, 25, 26] [85, 86, 87, 88, 89, 90, 91, 92, 93, 94] Mz N6_ := hf_N1_.tr hsN6_ (by decide) (by decide)
    have e12_N6_ : ze N6_ 81 12 = ze N1_ 81 12 := hsN6_.e (by decide)
    have e13_N6_ : ze N6_ 81 13 = ze N1_ 81 13 := hsN6_.e (by decide)
    have e20_N6_ : ze N6_ 81 20 = ze N1_ 81 20 := hsN6_.e (by decide)
    have r25_N6_ := ze_r N6_ 81 25
    have e26_N6_ : ze N6_ 81 26 = ze N1_ 81 26 := hsN6_.e (by decide)
    have c7_ : zPm N6_ := zPm.fr hsN6_ c3_ (by decide) (by decide)
    have c8_ : zFin N6_ := zFin.fr hsN6_ c4_ (by decide) (by decide)
    have c9_ : zB 83 24 0 5 N6_ := zB.fr hsN6_ c5_ (by decide) (by decide)
    have c10_ : zB 85 144 0 5 N6_ := zB.fr hsN6_ hp0_N1_ (by decide) (by decide)
    have c11_ : zTab T N6_ := zTab.fr hsN6_ hTab (by decide) (by decide)
    refine zw_aload_n (pc := 10) (n := 0) (x := 81) rfl d_M_builds_10 ?_
    refine zr_getF (r := 89) (hf_N6_.w hW) (pc := 11) f_M_38 rfl (zh_89 (hf_N6_.w hW)).1 d_M_builds_11 ?_
    refine zw_iconst (pc := 14) (v := Int32.ofInt 0) (by decide) d_M_builds_14 ?_
    refine zw_iconst (pc := 15) (v := Int32.ofInt 1) (by decide) d_M_builds_15 ?_
    refine zr_iast (pc := 16) (zh_89 (hf_N6_.w hW)).2 (by decide) (by decide) (by omega) (by omega) d_M_builds_16 (fun N12_ hN12_ hsN12_ => ?_)
    have hf_N12_ : zFr [20, 25, 26] [85, 86, 87, 88, 89, 90, 91, 92, 93, 94] Mz N12_ := hf_N6_.tr hsN12_ (by decide) (by decide)
    have e12_N12_ : ze N12_ 81 12 = ze N6_ 81 12 := hsN12_.e (by decide)
    have e13_N12_ : ze N12_ 81 13 = ze N6_ 81 13 := hsN12_.e (by decide)
    have e20_N12_ : ze N12_ 81 20 = ze N6_ 81 20 := hsN12_.e (by decide)
    have e25_N12_ : ze N12_ 81 25 = ze N6_ 81 25 := hsN12_.e (by decide)
    have e26_N12_ : ze N12_ 81 26 = ze N6_ 81 26 := hsN12_.e (by decide)
    have c13_ : zPm N12_ := zPm.fr hsN12_ c7_ (by decide) (by decide)
    have c14_ : zFin N12_ := zFin.fr hsN12_ c8_ (by decide) (by decide)
    have c15_ : zB 83 24 0 5 N12_ := zB.fr hsN12_ c9_ (by decide) (by decide)
    have c16_ : zB 85 144 0 5 N12_ := zB.fr hsN12_ c10_ (by decide) (by decide)
    have c17_ : zTab T N12_ := zTab.fr hsN12_ c11_ (by decide) (by decide)
    have hz0 : ze N12_ 89 0 = 1 := zs_get hN12_ ⟨by decide, by decide⟩
    refine zw_iconst (pc := 17) (v := Int32.ofInt 0) (by decide) d_M_builds_17 ?_
    refine zw_istore_n (pc := 18) (i := 1) (L2 := [some (.ref 81), some (.int (Int32.ofInt 0)), none, none]) rfl (by decide) rfl d_M_builds_18 ?_
    have lp_19 : ∀ (n : Nat) (u18_ : Int) (hu18_a : -2147483648 ≤ u18_) (hu18_b : u18_ < 2147483648) (N19_ : zMem) (hs20_ : zFr [25] [89] N12_ N19_) (i21_ : ze N19_ 81 20 = (gN T : Int)) (i22_ : 1 ≤ ze N19_ 81 25) (i23_ : ze N19_ 81 25 ≤ 64) (i24_ : 0 ≤ u18_) (i25_ : u18_ ≤ ze N19_ 81 25) (i26_ : zJ T N19_ (ze N19_ 81 25)) (i27_ : zX T N19_ (ze N19_ 81 25) u18_ 0), (65 - u18_).toNat < n → zW l m_M_builds (zn Mz + 0, zw Mz + 0) N19_ 19 [some (.ref 81), some (.int (Int32.ofInt u18_)), none, none] [] (zpV [20, 25, 26] [85, 86, 87, 88, 89, 90, 91, 92, 93, 94] Mz (fun N => ∃ T : zGT, T ∈ gTabs ∧ zGB T N ∧ zTm (zMvs Mz) T)) := by
      clear hsN1_ hv2_a hv2_b hp0_N1_ hf_N1_ e12_N1_ e13_N1_ r20_N1_ e25_N1_ e26_N1_ c3_ c4_ c5_ ha1_1_hp1_N1_ ha1_2_hp1_N1_ ha1_3_hp1_N1_ hsN6_ hvN6_ hf_N6_ e12_N6_ e13_N6_ e20_N6_ r25_N6_ e26_N6_ c7_ c8_ c9_ c10_ c11_ hsN12_ hN12_ e12_N12_ e13_N12_ e20_N12_ e25_N12_ e26_N12_
      intro n
      induction n with
      | zero =>
        intro u18_ hu18_a hu18_b N19_ hs20_ i21_ i22_ i23_ i24_ i25_ i26_ i27_ h0
        exact absurd h0 (Nat.not_lt_zero _)
      | succ n ih_19 =>
        intro u18_ hu18_a hu18_b N19_ hs20_ i21_ i22_ i23_ i24_ i25_ i26_ i27_ hlt_19
        have hf_N19_ : zFr [20, 25, 26] [85, 86, 87, 88, 89, 90, 91, 92, 93, 94] Mz N19_ := hf_N12_.tr hs20_ (by decide) (by decide)
        have e12_N19_ : ze N19_ 81 12 = ze N12_ 81 12 := hs20_.e (by decide)
        have e13_N19_ : ze N19_ 81 13 = ze N12_ 81 13 := hs20_.e (by decide)
        have e20_N19_ : ze N19_ 81 20 = ze N12_ 81 20 := hs20_.e (by decide)
        have r25_N19_ := ze_r N19_ 81 25
        have e26_N19_ : ze N19_ 81 26 = ze N12_ 81 26 := hs20_.e (by decide)
        have c28_ : zPm N19_ := zPm.fr hs20_ c13_ (by decide) (by decide)
        have c29_ : zFin N19_ := zFin.fr hs20_ c14_ (by decide) (by decide)
        have c30_ : zB 83 24 0 5 N19_ := zB.fr hs20_ c15_ (by decide) (by decide)
        have c31_ : zB 85 144 0 5 N19_ := zB.fr hs20_ c16_ (by decide) (by decide)
        have c32_ : zTab T N19_ := zTab.fr hs20_ c17_ (by decide) (by decide)
        have zz12_N19_ : ze N19_ 81 12 = ze Mz 81 12 := hf_N19_.e (by decide)
        have zz13_N19_ : ze N19_ 81 13 = ze Mz 81 13 := hf_N19_.e (by decide)
        refine zw_iload_n (pc := 19) (n := 1) (x := Int32.ofInt u18_) rfl d_M_builds_19 ?_
        refine zw_aload_n (pc := 20) (n := 0) (x := 81) rfl d_M_builds_20 ?_
        refine zr_getI (hf_N19_.w hW) (pc := 21) f_M_220 rfl d_M_builds_21 ?_
        refine zr_icmp_ge (pc := 24) (tgt := 112) ⟨hu18_a, hu18_b⟩ ⟨(ze_r N19_ 81 25).1, (ze_r N19_ 81 25).2⟩ (by decide) d_M_builds_24 (fun hc_24 => ?_) (fun hc_24 => ?_)
        · skip
          have hJX : zJX T N19_ := ⟨by assumption, by have h := (show zX T N19_ (ze N19_ 81 25) u18_ 0 by assumption); rwa [show u18_ = ze N19_ 81 25 by omega] at h⟩
          refine zw_aload_n (pc := 112) (n := 0) (x := 81) rfl d_M_builds_112 ?_
          refine zw_iconst (pc := 113) (v := Int32.ofInt 0) (by decide) d_M_builds_113 ?_
          refine zr_putI (hf_N19_.w hW) (pc := 114) f_M_235 rfl rfl ⟨by omega, by omega⟩ rfl rfl d_M_builds_114 (fun N33_ hsN33_ hvN33_ => ?_)
          have hf_N33_ : zFr [20, 25, 26] [85, 86, 87, 88, 89, 90, 91, 92, 93, 94] Mz N33_ := hf_N19_.tr hsN33_ (by decide) (by decide)
          have e12_N33_ : ze N33_ 81 12 = ze N19_ 81 12 := hsN33_.e (by decide)
          have e13_N33_ : ze N33_ 81 13 = ze N19_ 81 13 := hsN33_.e (by decide)
          have e20_N33_ : ze N33_ 81 20 = ze N19_ 81 20 := hsN33_.e (by decide)
          have e25_N33_ : ze N33_ 81 25 = ze N19_ 81 25 := hsN33_.e (by decide)
          have r26_N33_ := ze_r N33_ 81 26
          have c34_ : zPm N33_ := zPm.fr hsN33_ c28_ (by decide) (by decide)
          have c35_ : zFin N33_ := zFin.fr hsN33_ c29_ (by decide) (by decide)
          have c36_ : zB 83 24 0 5 N33_ := zB.fr hsN33_ c30_ (by decide) (by decide)
          have c37_ : zB 85 144 0 5 N33_ := zB.fr hsN33_ c31_ (by decide) (by decide)
          have c38_ : zTab T N33_ := zTab.fr hsN33_ c32_ (by decide) (by decide)
          have c39_ : zJX T N33_ := zJX.fr hsN33_ hJX (by decide) (by decide)
          have hF0 := zFl_0 (T := T) (M := N33_) (by omega)
          refine zw_iconst (pc := 117) (v := Int32.ofInt 0) (by decide) d_M_builds_117 ?_
          refine zw_istore_n (pc := 118) (i := 1) (L2 := [some (.ref 81), some (.int (Int32.ofInt 0)), none, none]) rfl (by decide) rfl d_M_builds_118 ?_
          have lp_119 : ∀ (n : Nat) (u40_ : Int) (hu40_a : -2147483648 ≤ u40_) (hu40_b : u40_ < 2147483648) (N41_ : zMem) (hs42_ : zFr [26] [91] N33_ N41_) (i43_ : ze N41_ 81 20 = (gN T : Int)) (i44_ : 1 ≤ ze N41_ 81 25) (i45_ : ze N41_ 81 25 ≤ 64) (i46_ : 0 ≤ u40_) (i47_ : u40_ ≤ ze N41_ 81 25) (i48_ : zFl T N41_ u40_) (i49_ : zJX T N41_), (65 - u40_).toNat < n → zW l m_M_builds (zn Mz + 0, zw Mz + 0) N41_ 119 [some (.ref 81), some (.int (Int32.ofInt u40_)), none, none] [] (zpV [20, 25, 26] [85, 86, 87, 88, 89, 90, 91, 92, 93, 94] Mz (fun N => ∃ T : zGT, T ∈ gTabs ∧ zGB T N ∧ zTm (zMvs Mz) T)) := by
            clear hf_N12_ c13_ c14_ c15_ c16_ c17_ hz0 hu18_a hu18_b hs20_ i24_ e12_N19_ e13_N19_ e20_N19_ e26_N19_
            intro n
            induction n with
            | zero =>
              intro u40_ hu40_a hu40_b N41_ hs42_ i43_ i44_ i45_ i46_ i47_ i48_ i49_ h0
              exact absurd h0 (Nat.not_lt_zero _)
            | succ n ih_119 =>
              intro u40_ hu40_a hu40_b N41_ hs42_ i43_ i44_ i45_ i46_ i47_ i48_ i49_ hlt_119
              have hf_N41_ : zFr [20, 25, 26] [85, 86, 87, 88, 89, 90, 91, 92, 93, 94] Mz N41_ := hf_N33_.tr hs42_ (by decide) (by decide)
              have e12_N41_ : ze N41_ 81 12 = ze N33_ 81 12 := hs42_.e (by decide)
              have e13_N41_ : ze N41_ 81 13 = ze N33_ 81 13 := hs42_.e (by decide)
              have e20_N41_ : ze N41_ 81 20 = ze N33_ 81 20 := hs42_.e (by decide)
              have e25_N41_ : ze N41_ 81 25 = ze N33_ 81 25 := hs42_.e (by decide)
              have r26_N41_ := ze_r N41_ 81 26
              have c50_ : zPm N41_ := zPm.fr hs42_ c34_ (by decide) (by decide)
              have c51_ : zFin N41_ := zFin.fr hs42_ c35_ (by decide) (by decide)
              have c52_ : zB 83 24 0 5 N41_ := zB.fr hs42_ c36_ (by decide) (by decide)
              have c53_ : zB 85 144 0 5 N41_ := zB.fr hs42_ c37_ (by decide) (by decide)
              have c54_ : zTab T N41_ := zTab.fr hs42_ c38_ (by decide) (by decide)
              have zz12_N41_ : ze N41_ 81 12 = ze Mz 81 12 := hf_N41_.e (by decide)
              have zz13_N41_ : ze N41_ 81 13 = ze Mz 81 13 := hf_N41_.e (by decide)
              refine zw_iload_n (pc := 119) (n := 1) (x := Int32.ofInt u40_) rfl d_M_builds_119 ?_
              refine zw_aload_n (pc := 120) (n := 0) (x := 81) rfl d_M_builds_120 ?_
              refine zr_getI (hf_N41_.w hW) (pc := 121) f_M_220 rfl d_M_builds_121 ?_
              refine zr_icmp_ge (pc := 124) (tgt := 162) ⟨hu40_a, hu40_b⟩ ⟨(ze_r N41_ 81 25).1, (ze_r N41_ 81 25).2⟩ (by decide) d_M_builds_124 (fun hc_124 => ?_) (fun hc_124 => ?_)
              · skip
                have hFi : zFirs T N41_ := by have h := (show zFl T N41_ u40_ by assumption); rw [show u40_ = ze N41_ 81 25 by omega] at h; exact zFl_e hO i49_.1 i49_.2 h
                have hFl := hFi.1
                refine zw_iconst (pc := 162) (v := Int32.ofInt 0) (by decide) d_M_builds_162 ?_
                refine zw_istore_n (pc := 163) (i := 1) (L2 := [some (.ref 81), some (.int (Int32.ofInt 0)), none, none]) rfl (by decide) rfl d_M_builds_163 ?_
                have lp_164 : ∀ (n : Nat) (u55_ : Int) (hu55_a : -2147483648 ≤ u55_) (hu55_b : u55_ < 2147483648) (N56_ : zMem) (hs57_ : zFr [] [92] N41_ N56_) (i58_ : ze N56_ 81 20 = (gN T : Int)) (i59_ : 1 ≤ ze N56_ 81 25) (i60_ : ze N56_ 81 25 ≤ 64) (i61_ : ze N56_ 81 26 = ((gF T).length : Int)) (i62_ : 0 ≤ u55_), (65 - u55_).toNat < n → zW l m_M_builds (zn Mz + 0, zw Mz + 0) N56_ 164 [some (.ref 81), some (.int (Int32.ofInt u55_)), none, none] [] (zpV [20, 25, 26] [85, 86, 87, 88, 89, 90, 91, 92, 93, 94] Mz (fun N => ∃ T : zGT, T ∈ gTabs ∧ zGB T N ∧ zTm (zMvs Mz) T)) := by
                  clear hsN33_ hvN33_ hf_N33_ e12_N33_ e13_N33_ e20_N33_ e25_N33_ r26_N33_ c34_ c35_ c36_ c37_ c38_ c39_ hF0 hu40_a hu40_b hs42_ i46_ e12_N41_ e13_N41_ e20_N41_ e25_N41_
                  intro n
                  induction n with
                  | zero =>
                    intro u55_ hu55_a hu55_b N56_ hs57_ i58_ i59_ i60_ i61_ i62_ h0
                    exact absurd h0 (Nat.not_lt_zero _)
                  | succ n ih_164 =>
                    intro u55_ hu55_a hu55_b N56_ hs57_ i58_ i59_ i60_ i61_ i62_ hlt_164
                    have hf_N56_ : zFr [20, 25, 26] [85, 86, 87, 88, 89, 90, 91, 92, 93, 94] Mz N56_ := hf_N41_.tr hs57_ (by decide) (by decide)
                    have e12_N56_ : ze N56_ 81 12 = ze N41_ 81 12 := hs57_.e (by decide)
                    have e13_N56_ : ze N56_ 81 13 = ze N41_ 81 13 := hs57_.e (by decide)
                    have e20_N56_ : ze N56_ 81 20 = ze N41_ 81 20 := hs57_.e (by decide)
                    have e25_N56_ : ze N56_ 81 25 = ze N41_ 81 25 := hs57_.e (by decide)
                    have e26_N56_ : ze N56_ 81 26 = ze N41_ 81 26 := hs57_.e (by decide)
                    have c63_ : zPm N56_ := zPm.fr hs57_ c50_ (by decide) (by decide)
                    have c64_ : zFin N56_ := zFin.fr hs57_ c51_ (by decide) (by decide)
                    have c65_ : zB 83 24 0 5 N56_ := zB.fr hs57_ c52_ (by decide) (by decide)
                    have c66_ : zB 85 144 0 5 N56_ := zB.fr hs57_ c53_ (by decide) (by decide)
                    have c67_ : zTab T N56_ := zTab.fr hs57_ c54_ (by decide) (by decide)
                    have c68_ : zJX T N56_ := zJX.fr hs57_ i49_ (by decide) (by decide)
                    have c69_ : zFirs T N56_ := zFirs.fr hs57_ hFi (by decide) (by decide)
                    have zz12_N56_ : ze N56_ 81 12 = ze Mz 81 12 := hf_N56_.e (by decide)
                    have zz13_N56_ : ze N56_ 81 13 = ze Mz 81 13 := hf_N56_.e (by decide)
                    refine zw_iload_n (pc := 164) (n := 1) (x := Int32.ofInt u55_) rfl d_M_builds_164 ?_
                    refine zw_aload_n (pc := 165) (n := 0) (x := 81) rfl d_M_builds_165 ?_
                    refine zr_getI (hf_N56_.w hW) (pc := 166) f_M_235 rfl d_M_builds_166 ?_
                    refine zr_icmp_ge (pc := 169) (tgt := 185) ⟨hu55_a, hu55_b⟩ ⟨(ze_r N56_ 81 26).1, (ze_r N56_ 81 26).2⟩ (by decide) d_M_builds_169 (fun hc_169 => ?_) (fun hc_169 => ?_)
                    · skip
                      refine zw_iconst (pc := 185) (v := Int32.ofInt 0) (by decide) d_M_builds_185 ?_
                      refine zw_istore_n (pc := 186) (i := 1) (L2 := [some (.ref 81), some (.int (Int32.ofInt 0)), none, none]) rfl (by decide) rfl d_M_builds_186 ?_
                      have lp_187 : ∀ (n : Nat) (u70_ : Int) (hu70_a : -2147483648 ≤ u70_) (hu70_b : u70_ < 2147483648) (N71_ : zMem) (hs72_ : zFr [] [90, 92] N56_ N71_) (i73_ : ze N71_ 81 20 = (gN T : Int)) (i74_ : 1 ≤ ze N71_ 81 25) (i75_ : ze N71_ 81 25 ≤ 64) (i76_ : ze N71_ 81 26 = ((gF T).length : Int)) (i77_ : 0 ≤ u70_) (i78_ : u70_ ≤ ze N71_ 81 25) (i79_ : zSS T N71_ u70_), (65 - u70_).toNat < n → zW l m_M_builds (zn Mz + 0, zw Mz + 0) N71_ 187 [some (.ref 81), some (.int (Int32.ofInt u70_)), none, none] [] (zpV [20, 25, 26] [85, 86, 87, 88, 89, 90, 91, 92, 93, 94] Mz (fun N => ∃ T : zGT, T ∈ gTabs ∧ zGB T N ∧ zTm (zMvs Mz) T)) := by
                        clear hu55_a hu55_b i62_
                        intro n
                        induction n with
                        | zero =>
                          intro u70_ hu70_a hu70_b N71_ hs72_ i73_ i74_ i75_ i76_ i77_ i78_ i79_ h0
                          exact absurd h0 (Nat.not_lt_zero _)
                        | succ n ih_187 =>
                          intro u70_ hu70_a hu70_b N71_ hs72_ i73_ i74_ i75_ i76_ i77_ i78_ i79_ hlt_187
                          have hf_N71_ : zFr [20, 25, 26] [85, 86, 87, 88, 89, 90, 91, 92, 93, 94] Mz N71_ := hf_N56_.tr hs72_ (by decide) (by decide)
                          have e12_N71_ : ze N71_ 81 12 = ze N56_ 81 12 := hs72_.e (by decide)
                          have e13_N71_ : ze N71_ 81 13 = ze N56_ 81 13 := hs72_.e (by decide)
                          have e20_N71_ : ze N71_ 81 20 = ze N56_ 81 20 := hs72_.e (by decide)
                          have e25_N71_ : ze N71_ 81 25 = ze N56_ 81 25 := hs72_.e (by decide)
                          have e26_N71_ : ze N71_ 81 26 = ze N56_ 81 26 := hs72_.e (by decide)
                          have c80_ : zPm N71_ := zPm.fr hs72_ c63_ (by decide) (by decide)
                          have c81_ : zFin N71_ := zFin.fr hs72_ c64_ (by decide) (by decide)
                          have c82_ : zB 83 24 0 5 N71_ := zB.fr hs72_ c65_ (by decide) (by decide)
                          have c83_ : zB 85 144 0 5 N71_ := zB.fr hs72_ c66_ (by decide) (by decide)
                          have c84_ : zTab T N71_ := zTab.fr hs72_ c67_ (by decide) (by decide)
                          have c85_ : zJX T N71_ := zJX.fr hs72_ c68_ (by decide) (by decide)
                          have c86_ : zFirs T N71_ := zFirs.fr hs72_ c69_ (by decide) (by decide)
                          have zz12_N71_ : ze N71_ 81 12 = ze Mz 81 12 := hf_N71_.e (by decide)
                          have zz13_N71_ : ze N71_ 81 13 = ze Mz 81 13 := hf_N71_.e (by decide)
                          refine zw_iload_n (pc := 187) (n := 1) (x := Int32.ofInt u70_) rfl d_M_builds_187 ?_
                          refine zw_aload_n (pc := 188) (n := 0) (x := 81) rfl d_M_builds_188 ?_
                          refine zr_getI (hf_N71_.w hW) (pc := 189) f_M_220 rfl d_M_builds_189 ?_
                          refine zr_icmp_ge (pc := 192) (tgt := 236) ⟨hu70_a, hu70_b⟩ ⟨(ze_r N71_ 81 25).1, (ze_r N71_ 81 25).2⟩ (by decide) d_M_builds_192 (fun hc_192 => ?_) (fun hc_192 => ?_)
                          · skip
                            have hSS : zSSm T N71_ := by have h := (show zSS T N71_ u70_ by assumption); rw [show u70_ = ze N71_ 81 25 by omega] at h; exact h
                            refine zw_iconst (pc := 236) (v := Int32.ofInt 0) (by decide) d_M_builds_236 ?_
                            refine zw_istore_n (pc := 237) (i := 1) (L2 := [some (.ref 81), some (.int (Int32.ofInt 0)), none, none]) rfl (by decide) rfl d_M_builds_237 ?_
                            have lp_238 : ∀ (n : Nat) (u87_ : Int) (hu87_a : -2147483648 ≤ u87_) (hu87_b : u87_ < 2147483648) (N88_ : zMem) (hs89_ : zFr [] [94] N71_ N88_) (i90_ : ze N88_ 81 20 = (gN T : Int)) (i91_ : 1 ≤ ze N88_ 81 25) (i92_ : ze N88_ 81 25 ≤ 64) (i93_ : ze N88_ 81 26 = ((gF T).length : Int)) (i94_ : 0 ≤ u87_) (i95_ : u87_ ≤ ze N88_ 81 26) (i96_ : zCs T N88_ u87_), (65 - u87_).toNat < n → zW l m_M_builds (zn Mz + 0, zw Mz + 0) N88_ 238 [some (.ref 81), some (.int (Int32.ofInt u87_)), none, none] [] (zpV [20, 25, 26] [85, 86, 87, 88, 89, 90, 91, 92, 93, 94] Mz (fun N => ∃ T : zGT, T ∈ gTabs ∧ zGB T N ∧ zTm (zMvs Mz) T)) := by
                              clear hu70_a hu70_b i77_
                              intro n
                              induction n with
                              | zero =>
                                intro u87_ hu87_a hu87_b N88_ hs89_ i90_ i91_ i92_ i93_ i94_ i95_ i96_ h0
                                exact absurd h0 (Nat.not_lt_zero _)
                              | succ n ih_238 =>
                                intro u87_ hu87_a hu87_b N88_ hs89_ i90_ i91_ i92_ i93_ i94_ i95_ i96_ hlt_238
                                have hf_N88_ : zFr [20, 25, 26] [85, 86, 87, 88, 89, 90, 91, 92, 93, 94] Mz N88_ := hf_N71_.tr hs89_ (by decide) (by decide)
                                have e12_N88_ : ze N88_ 81 12 = ze N71_ 81 12 := hs89_.e (by decide)
                                have e13_N88_ : ze N88_ 81 13 = ze N71_ 81 13 := hs89_.e (by decide)
                                have e20_N88_ : ze N88_ 81 20 = ze N71_ 81 20 := hs89_.e (by decide)
                                have e25_N88_ : ze N88_ 81 25 = ze N71_ 81 25 := hs89_.e (by decide)
                                have e26_N88_ : ze N88_ 81 26 = ze N71_ 81 26 := hs89_.e (by decide)
                                have c97_ : zPm N88_ := zPm.fr hs89_ c80_ (by decide) (by decide)
                                have c98_ : zFin N88_ := zFin.fr hs89_ c81_ (by decide) (by decide)
                                have c99_ : zB 83 24 0 5 N88_ := zB.fr hs89_ c82_ (by decide) (by decide)
                                have c100_ : zB 85 144 0 5 N88_ := zB.fr hs89_ c83_ (by decide) (by decide)
                                have c101_ : zTab T N88_ := zTab.fr hs89_ c84_ (by decide) (by decide)
                                have c102_ : zJX T N88_ := zJX.fr hs89_ c85_ (by decide) (by decide)
                                have c103_ : zFirs T N88_ := zFirs.fr hs89_ c86_ (by decide) (by decide)
                                have c104_ : zSSm T N88_ := zSSm.fr hs89_ hSS (by decide) (by decide)
                                have zz12_N88_ : ze N88_ 81 12 = ze Mz 81 12 := hf_N88_.e (by decide)
                                have zz13_N88_ : ze N88_ 81 13 = ze Mz 81 13 := hf_N88_.e (by decide)
                                refine zw_iload_n (pc := 238) (n := 1) (x := Int32.ofInt u87_) rfl d_M_builds_238 ?_
                                refine zw_aload_n (pc := 239) (n := 0) (x := 81) rfl d_M_builds_239 ?_
                                refine zr_getI (hf_N88_.w hW) (pc := 240) f_M_235 rfl d_M_builds_240 ?_
                                refine zr_icmp_ge (pc := 243) (tgt := 290) ⟨hu87_a, hu87_b⟩ ⟨(ze_r N88_ 81 26).1, (ze_r N88_ 81 26).2⟩ (by decide) d_M_builds_243 (fun hc_243 => ?_) (fun hc_243 => ?_)
                                · skip
                                  have hCL : zCs T N88_ ((gF T).length : Int) := by have h := (show zCs T N88_ u87_ by assumption); rwa [show u87_ = ((gF T).length : Int) by omega] at h
                                  refine zw_iconst (pc := 290) (v := Int32.ofInt 0) (by decide) d_M_builds_290 ?_
                                  refine zw_istore_n (pc := 291) (i := 1) (L2 := [some (.ref 81), some (.int (Int32.ofInt 0)), none, none]) rfl (by decide) rfl d_M_builds_291 ?_
                                  have lp_292 : ∀ (n : Nat) (u105_ : Int) (hu105_a : -2147483648 ≤ u105_) (hu105_b : u105_ < 2147483648) (N106_ : zMem) (hs107_ : zFr [] [93] N88_ N106_) (i108_ : ze N106_ 81 20 = (gN T : Int)) (i109_ : 1 ≤ ze N106_ 81 25) (i110_ : ze N106_ 81 25 ≤ 64) (i111_ : ze N106_ 81 26 = ((gF T).length : Int)) (i112_ : 0 ≤ u105_) (i113_ : u105_ ≤ ze N106_ 81 26) (i114_ : zMs T N106_ u105_ 0), (65 - u105_).toNat < n → zW l m_M_builds (zn Mz + 0, zw Mz + 0) N106_ 292 [some (.ref 81), some (.int (Int32.ofInt u105_)), none, none] [] (zpV [20, 25, 26] [85, 86, 87, 88, 89, 90, 91, 92, 93, 94] Mz (fun N => ∃ T : zGT, T ∈ gTabs ∧ zGB T N ∧ zTm (zMvs Mz) T)) := by
                                    clear hu87_a hu87_b i94_
                                    intro n
                                    induction n with
                                    | zero =>
                                      intro u105_ hu105_a hu105_b N106_ hs107_ i108_ i109_ i110_ i111_ i112_ i113_ i114_ h0
                                      exact absurd h0 (Nat.not_lt_zero _)
                                    | succ n ih_292 =>
                                      intro u105_ hu105_a hu105_b N106_ hs107_ i108_ i109_ i110_ i111_ i112_ i113_ i114_ hlt_292
                                      have hf_N106_ : zFr [20, 25, 26] [85, 86, 87, 88, 89, 90, 91, 92, 93, 94] Mz N106_ := hf_N88_.tr hs107_ (by decide) (by decide)
                                      have e12_N106_ : ze N106_ 81 12 = ze N88_ 81 12 := hs107_.e (by decide)
                                      have e13_N106_ : ze N106_ 81 13 = ze N88_ 81 13 := hs107_.e (by decide)
                                      have e20_N106_ : ze N106_ 81 20 = ze N88_ 81 20 := hs107_.e (by decide)
                                      have e25_N106_ : ze N106_ 81 25 = ze N88_ 81 25 := hs107_.e (by decide)
                                      have e26_N106_ : ze N106_ 81 26 = ze N88_ 81 26 := hs107_.e (by decide)
                                      have c115_ : zPm N106_ := zPm.fr hs107_ c97_ (by decide) (by decide)
                                      have c116_ : zFin N106_ := zFin.fr hs107_ c98_ (by decide) (by decide)
                                      have c117_ : zB 83 24 0 5 N106_ := zB.fr hs107_ c99_ (by decide) (by decide)
                                      have c118_ : zB 85 144 0 5 N106_ := zB.fr hs107_ c100_ (by decide) (by decide)
                                      have c119_ : zTab T N106_ := zTab.fr hs107_ c101_ (by decide) (by decide)
                                      have c120_ : zJX T N106_ := zJX.fr hs107_ c102_ (by decide) (by decide)
                                      have c121_ : zFirs T N106_ := zFirs.fr hs107_ c103_ (by decide) (by decide)
                                      have c122_ : zSSm T N106_ := zSSm.fr hs107_ c104_ (by decide) (by decide)
                                      have c123_ : zCsL T N106_ := zCsL.fr hs107_ hCL (by decide) (by decide)
                                      have zz12_N106_ : ze N106_ 81 12 = ze Mz 81 12 := hf_N106_.e (by decide)
                                      have zz13_N106_ : ze N106_ 81 13 = ze Mz 81 13 := hf_N106_.e (by decide)
                                      refine zw_iload_n (pc := 292) (n := 1) (x := Int32.ofInt u105_) rfl d_M_builds_292 ?_
                                      refine zw_aload_n (pc := 293) (n := 0) (x := 81) rfl d_M_builds_293 ?_
                                      refine zr_getI (hf_N106_.w hW) (pc := 294) f_M_235 rfl d_M_builds_294 ?_
                                      refine zr_icmp_ge (pc := 297) (tgt := 344) ⟨hu105_a, hu105_b⟩ ⟨(ze_r N106_ 81 26).1, (ze_r N106_ 81 26).2⟩ (by decide) d_M_builds_297 (fun hc_297 => ?_) (fun hc_297 => ?_)
                                      · skip
                                        have hML : zMs T N106_ ((gF T).length : Int) 0 := by have h := (show zMs T N106_ u105_ 0 by assumption); rwa [show u105_ = ((gF T).length : Int) by omega] at h
                                        exact zr_vret (pc := 344) rfl hf_N106_ (show ∃ T : zGT, T ∈ gTabs ∧ zGB T N106_ ∧ zTm (zMvs Mz) T by exact ⟨T, hTt, ⟨c119_, c118_, c120_, c121_, c122_, c123_, hML⟩, hTm_⟩) d_M_builds_344
                                      · skip
                                        refine zw_iconst (pc := 300) (v := Int32.ofInt 0) (by decide) d_M_builds_300 ?_
                                        refine zw_istore_n (pc := 301) (i := 2) (L2 := [some (.ref 81), some (.int (Int32.ofInt u105_)), some (.int (Int32.ofInt 0)), none]) rfl (by decide) rfl d_M_builds_301 ?_
                                        have lp_302 : ∀ (n : Nat) (u124_ : Int) (hu124_a : -2147483648 ≤ u124_) (hu124_b : u124_ < 2147483648) (N125_ : zMem) (hs126_ : zFr [] [93] N106_ N125_) (i127_ : ze N125_ 81 20 = (gN T : Int)) (i128_ : 1 ≤ ze N125_ 81 25) (i129_ : ze N125_ 81 25 ≤ 64) (i130_ : ze N125_ 81 26 = ((gF T).length : Int)) (i131_ : 0 ≤ u105_) (i132_ : u105_ < ze N125_ 81 26) (i133_ : 0 ≤ u124_) (i134_ : u124_ ≤ ze N125_ 81 26) (i135_ : zMs T N125_ u105_ u124_), (65 - u124_).toNat < n → zW l m_M_builds (zn Mz + 0, zw Mz + 0) N125_ 302 [some (.ref 81), some (.int (Int32.ofInt u105_)), some (.int (Int32.ofInt u124_)), none] [] (zpV [20, 25, 26] [85, 86, 87, 88, 89, 90, 91, 92, 93, 94] Mz (fun N => ∃ T : zGT, T ∈ gTabs ∧ zGB T N ∧ zTm (zMvs Mz) T)) := by
                                          intro n
                                          induction n with
                                          | zero =>
                                            intro u124_ hu124_a hu124_b N125_ hs126_ i127_ i128_ i129_ i130_ i131_ i132_ i133_ i134_ i135_ h0
                                            exact absurd h0 (Nat.not_lt_zero _)
                                          | succ n ih_302 =>
                                            intro u124_ hu124_a hu124_b N125_ hs126_ i127_ i128_ i129_ i130_ i131_ i132_ i133_ i134_ i135_ hlt_302
                                            have hf_N125_ : zFr [20, 25, 26] [85, 86, 87, 88, 89, 90, 91, 92, 93, 94] Mz N125_ := hf_N106_.tr hs126_ (by decide) (by decide)
                                            have hb0_N125_ : zFr [] [93] N88_ N125_ := hs107_.tr hs126_ (by decide) (by decide)
                                            have e12_N125_ : ze N125_ 81 12 = ze N106_ 81 12 := hs126_.e (by decide)
                                            have e13_N125_ : ze N125_ 81 13 = ze N106_ 81 13 := hs126_.e (by decide)
                                            have e20_N125_ : ze N125_ 81 20 = ze N106_ 81 20 := hs126_.e (by decide)
                                            have e25_N125_ : ze N125_ 81 25 = ze N106_ 81 25 := hs126_.e (by decide)
                                            have e26_N125_ : ze N125_ 81 26 = ze N106_ 81 26 := hs126_.e (by decide)
                                            have c136_ : zPm N125_ := zPm.fr hs126_ c115_ (by decide) (by decide)
                                            have c137_ : zFin N125_ := zFin.fr hs126_ c116_ (by decide) (by decide)
                                            have c138_ : zB 83 24 0 5 N125_ := zB.fr hs126_ c117_ (by decide) (by decide)
                                            have c139_ : zB 85 144 0 5 N125_ := zB.fr hs126_ c118_ (by decide) (by decide)
                                            have c140_ : zTab T N125_ := zTab.fr hs126_ c119_ (by decide) (by decide)
                                            have c141_ : zJX T N125_ := zJX.fr hs126_ c120_ (by decide) (by decide)
                                            have c142_ : zFirs T N125_ := zFirs.fr hs126_ c121_ (by decide) (by decide)
                                            have c143_ : zSSm T N125_ := zSSm.fr hs126_ c122_ (by decide) (by decide)
                                            have c144_ : zCsL T N125_ := zCsL.fr hs126_ c123_ (by decide) (by decide)
                                            have zz12_N125_ : ze N125_ 81 12 = ze Mz 81 12 := hf_N125_.e (by decide)
                                            have zz13_N125_ : ze N125_ 81 13 = ze Mz 81 13 := hf_N125_.e (by decide)
                                            refine zw_iload_n (pc := 302) (n := 2) (x := Int32.ofInt u124_) rfl d_M_builds_302 ?_
                                            refine zw_aload_n (pc := 303) (n := 0) (x := 81) rfl d_M_builds_303 ?_
                                            refine zr_getI (hf_N125_.w hW) (pc := 304) f_M_235 rfl d_M_builds_304 ?_
                                            refine zr_icmp_ge (pc := 307) (tgt := 338) ⟨hu124_a, hu124_b⟩ ⟨(ze_r N125_ 81 26).1, (ze_r N125_ 81 26).2⟩ (by decide) d_M_builds_307 (fun hc_307 => ?_) (fun hc_307 => ?_)
                                            · skip
                                              refine zr_iinc (pc := 338) (i := 1) (a := u105_) (n := 1) (L2 := [some (.ref 81), some (.int (Int32.ofInt (u105_ + 1))), some (.int (Int32.ofInt u124_)), none]) rfl (by decide) rfl d_M_builds_338 ?_
                                              refine zw_goto (pc := 341) (tgt := 292) (by decide) d_M_builds_341 ?_
                                              have hMn : zMs T N125_ (u105_ + 1) 0 := zMs_n (by assumption) (by omega)
                                              refine zW_le [some (.ref 81), some (.int (Int32.ofInt (u105_ + 1))), none, none] (⟨rfl, rfl, trivial⟩) ?_
                                              exact ih_292 (u105_ + 1) (by omega) (by omega) N125_ hb0_N125_ (show ze N125_ 81 20 = (gN T : Int) by first | assumption | omega) (show 1 ≤ ze N125_ 81 25 by first | assumption | omega) (show ze N125_ 81 25 ≤ 64 by first | assumption | omega) (show ze N125_ 81 26 = ((gF T).length : Int) by first | assumption | omega) (show 0 ≤ (u105_ + 1) by first | assumption | omega) (show (u105_ + 1) ≤ ze N125_ 81 26 by first | assumption | omega) (show zMs T N125_ (u105_ + 1) 0 by first | assumption | omega) (by omega)
                                            · skip
                                              refine zw_aload_n (pc := 310) (n := 0) (x := 81) rfl d_M_builds_310 ?_
                                              refine zr_getF (r := 93) (hf_N125_.w hW) (pc := 311) f_M_50 rfl (zh_93 (hf_N125_.w hW)).1 d_M_builds_311 ?_
                                              refine zw_bipush (pc := 314) (v := Int32.ofInt 64) (by decide) d_M_builds_314 ?_
                                              refine zw_iload_n (pc := 316) (n := 1) (x := Int32.ofInt u105_) rfl d_M_builds_316 ?_
                                              refine zr_imul (pc := 317) d_M_builds_317 ?_
                                              refine zw_iload_n (pc := 318) (n := 2) (x := Int32.ofInt u124_) rfl d_M_builds_318 ?_
                                              refine zr_iadd (pc := 319) d_M_builds_319 ?_
                                              refine zw_aload_n (pc := 320) (n := 0) (x := 81) rfl d_M_builds_320 ?_
                                              refine zw_iload_n (pc := 321) (n := 1) (x := Int32.ofInt u105_) rfl d_M_builds_321 ?_
                                              refine zw_aload_n (pc := 322) (n := 0) (x := 81) rfl d_M_builds_322 ?_
                                              refine zr_getF (r := 91) (hf_N125_.w hW) (pc := 323) f_M_44 rfl (zh_91 (hf_N125_.w hW)).1 d_M_builds_323 ?_
                                              refine zw_iload_n (pc := 326) (n := 2) (x := Int32.ofInt u124_) rfl d_M_builds_326 ?_
                                              refine zr_ialdn (pc := 327) (zh_91 (hf_N125_.w hW)).2 (by decide) (by omega) (by omega) d_M_builds_327 (fun v145_ hv145_ hv145_a hv145_b => ?_)
                                              have hfi := c142_.2 (u124_).toNat (by omega)
                                              refine zr_toI (show v145_ = (((gF T).getD (u124_).toNat 0 : Nat) : Int) by omega) ?_
                                              have hcc := c144_ (u105_).toNat (by omega)
                                              refine zr_callV (hf_N125_.w hW) hf_N125_.x (pc := 328) [.int (Int32.ofInt u105_), .int (Int32.ofInt ((((gF T).getD (u124_).toNat 0 : Nat) : Int)))] [.int (Int32.ofInt ((64 * u105_) + u124_)), .ref 93] l_M_250 (c_M_fixedOf l N125_ (hf_N125_.w hW) u105_ hu105_a hu105_b ((((gF T).getD (u124_).toNat 0 : Nat) : Int)) (by omega) (by omega) T hG ((gF T).getD (u105_).toNat 0) c140_ (show 0 ≤ u105_ by first | assumption | omega) (show u105_ ≤ 63 by first | assumption | omega) (show 0 ≤ ((((gF T).getD (u124_).toNat 0 : Nat) : Int)) by first | assumption | omega) (show zCos T (u105_).toNat ((gF T).getD (u105_).toNat 0) N125_ by first | assumption | omega)) rfl rfl rfl (by decide) (Nat.le_of_ble_eq_true rfl) d_M_builds_328 ?_
                                              rintro _ N146_ ⟨v147_, rfl, ⟨hv147_a, hv147_b⟩, hsN146_, ⟨hp0_N146_, hp1_N146_, hp2_N146_⟩⟩
                                              obtain rfl := hsN146_.eq.symm
                                              show zW l m_M_builds (zn Mz + 0, zw Mz + 0) N125_ 331 [some (.ref 81), some (.int (Int32.ofInt u105_)), some (.int (Int32.ofInt u124_)), none] [.int (Int32.ofInt v147_), .int (Int32.ofInt ((64 * u105_) + u124_)), .ref 93] (zpV [20, 25, 26] [85, 86, 87, 88, 89, 90, 91, 92, 93, 94] Mz (fun N => ∃ T : zGT, T ∈ gTabs ∧ zGB T N ∧ zTm (zMvs Mz) T))
                                              refine zr_iast (pc := 331) (zh_93 (hf_N125_.w hW)).2 (by decide) (by decide) (by omega) (by omega) d_M_builds_331 (fun N148_ hN148_ hsN148_ => ?_)
                                              have hf_N148_ : zFr [20, 25, 26] [85, 86, 87, 88, 89, 90, 91, 92, 93, 94] Mz N148_ := hf_N125_.tr hsN148_ (by decide) (by decide)
                                              have hb0_N148_ : zFr [] [93] N88_ N148_ := hb0_N125_.tr hsN148_ (by decide) (by decide)
                                              have hb1_N148_ : zFr [] [93] N106_ N148_ := hs126_.tr hsN148_ (by decide) (by decide)
                                              have e12_N148_ : ze N148_ 81 12 = ze N125_ 81 12 := hsN148_.e (by decide)
                                              have e13_N148_ : ze N148_ 81 13 = ze N125_ 81 13 := hsN148_.e (by decide)
                                              have e20_N148_ : ze N148_ 81 20 = ze N125_ 81 20 := hsN148_.e (by decide)
                                              have e25_N148_ : ze N148_ 81 25 = ze N125_ 81 25 := hsN148_.e (by decide)
                                              have e26_N148_ : ze N148_ 81 26 = ze N125_ 81 26 := hsN148_.e (by decide)
                                              have c149_ : zPm N148_ := zPm.fr hsN148_ c136_ (by decide) (by decide)
                                              have c150_ : zFin N148_ := zFin.fr hsN148_ c137_ (by decide) (by decide)
                                              have c151_ : zB 83 24 0 5 N148_ := zB.fr hsN148_ c138_ (by decide) (by decide)
                                              have c152_ : zB 85 144 0 5 N148_ := zB.fr hsN148_ c139_ (by decide) (by decide)
                                              have c153_ : zTab T N148_ := zTab.fr hsN148_ c140_ (by decide) (by decide)
                                              have c154_ : zJX T N148_ := zJX.fr hsN148_ c141_ (by decide) (by decide)
                                              have c155_ : zFirs T N148_ := zFirs.fr hsN148_ c142_ (by decide) (by decide)
                                              have c156_ : zSSm T N148_ := zSSm.fr hsN148_ c143_ (by decide) (by decide)
                                              have c157_ : zCsL T N148_ := zCsL.fr hsN148_ c144_ (by decide) (by decide)
                                              have hMt := zMs_s gl.2 (by omega) (by omega) (by omega) (show zMs T N125_ u105_ u124_ by assumption) (Int.toNat_natCast _) (by assumption) ⟨by omega, by omega⟩ hN148_
                                              refine zr_iinc (pc := 332) (i := 2) (a := u124_) (n := 1) (L2 := [some (.ref 81), some (.int (Int32.ofInt u105_)), some (.int (Int32.ofInt (u124_ + 1))), none]) rfl (by decide) rfl d_M_builds_332 ?_
                                              refine zw_goto (pc := 335) (tgt := 302) (by decide) d_M_builds_335 ?_
                                              exact ih_302 (u124_ + 1) (by omega) (by omega) N148_ hb1_N148_ (show ze N148_ 81 20 = (gN T : Int) by first | assumption | omega) (show 1 ≤ ze N148_ 81 25 by first | assumption | omega) (show ze N148_ 81 25 ≤ 64 by first | assumption | omega) (show ze N148_ 81 26 = ((gF T).length : Int) by first | assumption | omega) (show 0 ≤ u105_ by first | assumption | omega) (show u105_ < ze N148_ 81 26 by first | assumption | omega) (show 0 ≤ (u124_ + 1) by first | assumption | omega) (show (u124_ + 1) ≤ ze N148_ 81 26 by first | assumption | omega) (show zMs T N148_ u105_ (u124_ + 1) by first | assumption | omega) (by omega)
                                        exact lp_302 _ 0 (by decide) (by decide) N106_ zFr.rf (show ze N106_ 81 20 = (gN T : Int) by first | assumption | omega) (show 1 ≤ ze N106_ 81 25 by first | assumption | omega) (show ze N106_ 81 25 ≤ 64 by first | assumption | omega) (show ze N106_ 81 26 = ((gF T).length : Int) by first | assumption | omega) (show 0 ≤ u105_ by first | assumption | omega) (show u105_ < ze N106_ 81 26 by first | assumption | omega) (show 0 ≤ (0 : Int) by first | assumption | omega) (show (0 : Int) ≤ ze N106_ 81 26 by first | assumption | omega) (show zMs T N106_ u105_ (0 : Int) by first | assumption | omega) (Nat.lt_succ_self _)
                                  exact lp_292 _ 0 (by decide) (by decide) N88_ zFr.rf (show ze N88_ 81 20 = (gN T : Int) by first | assumption | omega) (show 1 ≤ ze N88_ 81 25 by first | assumption | omega) (show ze N88_ 81 25 ≤ 64 by first | assumption | omega) (show ze N88_ 81 26 = ((gF T).length : Int) by first | assumption | omega) (show 0 ≤ (0 : Int) by first | assumption | omega) (show (0 : Int) ≤ ze N88_ 81 26 by first | assumption | omega) (show zMs T N88_ (0 : Int) 0 by exact zMs_0) (Nat.lt_succ_self _)
                                · skip
                                  refine zw_iconst (pc := 246) (v := Int32.ofInt 0) (by decide) d_M_builds_246 ?_
                                  refine zw_istore_n (pc := 247) (i := 2) (L2 := [some (.ref 81), some (.int (Int32.ofInt u87_)), some (.int (Int32.ofInt 0)), none]) rfl (by decide) rfl d_M_builds_247 ?_
                                  have lp_248 : ∀ (n : Nat) (u158_ : Int) (hu158_a : -2147483648 ≤ u158_) (hu158_b : u158_ < 2147483648) (N159_ : zMem) (hs160_ : zFr [] [94] N88_ N159_) (i161_ : ze N159_ 81 20 = (gN T : Int)) (i162_ : 1 ≤ ze N159_ 81 25) (i163_ : ze N159_ 81 25 ≤ 64) (i164_ : ze N159_ 81 26 = ((gF T).length : Int)) (i165_ : 0 ≤ u87_) (i166_ : u87_ < ze N159_ 81 26) (i167_ : 0 ≤ u158_) (i168_ : u158_ ≤ ze N159_ 81 20) (i169_ : zCs T N159_ u87_) (i170_ : zCt T N159_ u87_ u158_), (25 - u158_).toNat < n → zW l m_M_builds (zn Mz + 0, zw Mz + 0) N159_ 248 [some (.ref 81), some (.int (Int32.ofInt u87_)), some (.int (Int32.ofInt u158_)), none] [] (zpV [20, 25, 26] [85, 86, 87, 88, 89, 90, 91, 92, 93, 94] Mz (fun N => ∃ T : zGT, T ∈ gTabs ∧ zGB T N ∧ zTm (zMvs Mz) T)) := by
                                    intro n
                                    induction n with
                                    | zero =>
                                      intro u158_ hu158_a hu158_b N159_ hs160_ i161_ i162_ i163_ i164_ i165_ i166_ i167_ i168_ i169_ i170_ h0
                                      exact absurd h0 (Nat.not_lt_zero _)
                                    | succ n ih_248 =>
                                      intro u158_ hu158_a hu158_b N159_ hs160_ i161_ i162_ i163_ i164_ i165_ i166_ i167_ i168_ i169_ i170_ hlt_248
                                      have hf_N159_ : zFr [20, 25, 26] [85, 86, 87, 88, 89, 90, 91, 92, 93, 94] Mz N159_ := hf_N88_.tr hs160_ (by decide) (by decide)
                                      have hb0_N159_ : zFr [] [94] N71_ N159_ := hs89_.tr hs160_ (by decide) (by decide)
                                      have e12_N159_ : ze N159_ 81 12 = ze N88_ 81 12 := hs160_.e (by decide)
                                      have e13_N159_ : ze N159_ 81 13 = ze N88_ 81 13 := hs160_.e (by decide)
                                      have e20_N159_ : ze N159_ 81 20 = ze N88_ 81 20 := hs160_.e (by decide)
                                      have e25_N159_ : ze N159_ 81 25 = ze N88_ 81 25 := hs160_.e (by decide)
                                      have e26_N159_ : ze N159_ 81 26 = ze N88_ 81 26 := hs160_.e (by decide)
                                      have c171_ : zPm N159_ := zPm.fr hs160_ c97_ (by decide) (by decide)
                                      have c172_ : zFin N159_ := zFin.fr hs160_ c98_ (by decide) (by decide)
                                      have c173_ : zB 83 24 0 5 N159_ := zB.fr hs160_ c99_ (by decide) (by decide)
                                      have c174_ : zB 85 144 0 5 N159_ := zB.fr hs160_ c100_ (by decide) (by decide)
                                      have c175_ : zTab T N159_ := zTab.fr hs160_ c101_ (by decide) (by decide)
                                      have c176_ : zJX T N159_ := zJX.fr hs160_ c102_ (by decide) (by decide)
                                      have c177_ : zFirs T N159_ := zFirs.fr hs160_ c103_ (by decide) (by decide)
                                      have c178_ : zSSm T N159_ := zSSm.fr hs160_ c104_ (by decide) (by decide)
                                      have zz12_N159_ : ze N159_ 81 12 = ze Mz 81 12 := hf_N159_.e (by decide)
                                      have zz13_N159_ : ze N159_ 81 13 = ze Mz 81 13 := hf_N159_.e (by decide)
                                      refine zw_iload_n (pc := 248) (n := 2) (x := Int32.ofInt u158_) rfl d_M_builds_248 ?_
                                      refine zw_aload_n (pc := 249) (n := 0) (x := 81) rfl d_M_builds_249 ?_
                                      refine zr_getI (hf_N159_.w hW) (pc := 250) f_M_196 rfl d_M_builds_250 ?_
                                      refine zr_icmp_ge (pc := 253) (tgt := 284) ⟨hu158_a, hu158_b⟩ ⟨(ze_r N159_ 81 20).1, (ze_r N159_ 81 20).2⟩ (by decide) d_M_builds_253 (fun hc_253 => ?_) (fun hc_253 => ?_)
                                      · skip
                                        refine zr_iinc (pc := 284) (i := 1) (a := u87_) (n := 1) (L2 := [some (.ref 81), some (.int (Int32.ofInt (u87_ + 1))), some (.int (Int32.ofInt u158_)), none]) rfl (by decide) rfl d_M_builds_284 ?_
                                        refine zw_goto (pc := 287) (tgt := 238) (by decide) d_M_builds_287 ?_
                                        have hCn : zCs T N159_ (u87_ + 1) := zCs_s (by omega) (by assumption) (by assumption) (by omega)
                                        refine zW_le [some (.ref 81), some (.int (Int32.ofInt (u87_ + 1))), none, none] (⟨rfl, rfl, trivial⟩) ?_
                                        exact ih_238 (u87_ + 1) (by omega) (by omega) N159_ hb0_N159_ (show ze N159_ 81 20 = (gN T : Int) by first | assumption | omega) (show 1 ≤ ze N159_ 81 25 by first | assumption | omega) (show ze N159_ 81 25 ≤ 64 by first | assumption | omega) (show ze N159_ 81 26 = ((gF T).length : Int) by first | assumption | omega) (show 0 ≤ (u87_ + 1) by first | assumption | omega) (show (u87_ + 1) ≤ ze N159_ 81 26 by first | assumption | omega) (show zCs T N159_ (u87_ + 1) by first | assumption | omega) (by omega)
                                      · skip
                                        refine zw_aload_n (pc := 256) (n := 0) (x := 81) rfl d_M_builds_256 ?_
                                        refine zr_getF (r := 94) (hf_N159_.w hW) (pc := 257) f_M_53 rfl (zh_94 (hf_N159_.w hW)).1 d_M_builds_257 ?_
                                        refine zw_bipush (pc := 260) (v := Int32.ofInt 24) (by decide) d_M_builds_260 ?_
                                        refine zw_iload_n (pc := 262) (n := 1) (x := Int32.ofInt u87_) rfl d_M_builds_262 ?_
                                        refine zr_imul (pc := 263) d_M_builds_263 ?_
                                        refine zw_iload_n (pc := 264) (n := 2) (x := Int32.ofInt u158_) rfl d_M_builds_264 ?_
                                        refine zr_iadd (pc := 265) d_M_builds_265 ?_
                                        refine zw_aload_n (pc := 266) (n := 0) (x := 81) rfl d_M_builds_266 ?_
                                        refine zw_aload_n (pc := 267) (n := 0) (x := 81) rfl d_M_builds_267 ?_
                                        refine zr_getF (r := 91) (hf_N159_.w hW) (pc := 268) f_M_44 rfl (zh_91 (hf_N159_.w hW)).1 d_M_builds_268 ?_
                                        refine zw_iload_n (pc := 271) (n := 1) (x := Int32.ofInt u87_) rfl d_M_builds_271 ?_
                                        refine zr_ialdn (pc := 272) (zh_91 (hf_N159_.w hW)).2 (by decide) (by omega) (by omega) d_M_builds_272 (fun v179_ hv179_ hv179_a hv179_b => ?_)
                                        have hfi := c177_.2 (u87_).toNat (by omega)
                                        refine zr_toI (show v179_ = (((gF T).getD (u87_).toNat 0 : Nat) : Int) by omega) ?_
                                        refine zw_iload_n (pc := 273) (n := 2) (x := Int32.ofInt u158_) rfl d_M_builds_273 ?_
                                        refine zr_callV (hf_N159_.w hW) hf_N159_.x (pc := 274) [.int (Int32.ofInt ((((gF T).getD (u87_).toNat 0 : Nat) : Int))), .int (Int32.ofInt u158_)] [.int (Int32.ofInt ((24 * u87_) + u158_)), .ref 94] l_M_247 (c_M_leastOf l N159_ (hf_N159_.w hW) ((((gF T).getD (u87_).toNat 0 : Nat) : Int)) (by omega) (by omega) u158_ hu158_a hu158_b T hG c175_ (show 0 ≤ ((((gF T).getD (u87_).toNat 0 : Nat) : Int)) by first | assumption | omega) (show 0 ≤ u158_ by first | assumption | omega) (show u158_ < ze N159_ 81 20 by first | assumption | omega)) rfl rfl rfl (by decide) (Nat.le_of_ble_eq_true rfl) d_M_builds_274 ?_
                                        rintro _ N180_ ⟨v181_, rfl, ⟨hv181_a, hv181_b⟩, hsN180_, ⟨hp0_N180_, hp1_N180_, hp2_N180_⟩⟩
                                        obtain rfl := hsN180_.eq.symm
                                        show zW l m_M_builds (zn Mz + 0, zw Mz + 0) N159_ 277 [some (.ref 81), some (.int (Int32.ofInt u87_)), some (.int (Int32.ofInt u158_)), none] [.int (Int32.ofInt v181_), .int (Int32.ofInt ((24 * u87_) + u158_)), .ref 94] (zpV [20, 25, 26] [85, 86, 87, 88, 89, 90, 91, 92, 93, 94] Mz (fun N => ∃ T : zGT, T ∈ gTabs ∧ zGB T N ∧ zTm (zMvs Mz) T))
                                        refine zr_iast (pc := 277) (zh_94 (hf_N159_.w hW)).2 (by decide) (by decide) (by omega) (by omega) d_M_builds_277 (fun N182_ hN182_ hsN182_ => ?_)
                                        have hf_N182_ : zFr [20, 25, 26] [85, 86, 87, 88, 89, 90, 91, 92, 93, 94] Mz N182_ := hf_N159_.tr hsN182_ (by decide) (by decide)
                                        have hb0_N182_ : zFr [] [94] N71_ N182_ := hb0_N159_.tr hsN182_ (by decide) (by decide)
                                        have hb1_N182_ : zFr [] [94] N88_ N182_ := hs160_.tr hsN182_ (by decide) (by decide)
                                        have e12_N182_ : ze N182_ 81 12 = ze N159_ 81 12 := hsN182_.e (by decide)
                                        have e13_N182_ : ze N182_ 81 13 = ze N159_ 81 13 := hsN182_.e (by decide)
                                        have e20_N182_ : ze N182_ 81 20 = ze N159_ 81 20 := hsN182_.e (by decide)
                                        have e25_N182_ : ze N182_ 81 25 = ze N159_ 81 25 := hsN182_.e (by decide)
                                        have e26_N182_ : ze N182_ 81 26 = ze N159_ 81 26 := hsN182_.e (by decide)
                                        have c183_ : zPm N182_ := zPm.fr hsN182_ c171_ (by decide) (by decide)
                                        have c184_ : zFin N182_ := zFin.fr hsN182_ c172_ (by decide) (by decide)
                                        have c185_ : zB 83 24 0 5 N182_ := zB.fr hsN182_ c173_ (by decide) (by decide)
                                        have c186_ : zB 85 144 0 5 N182_ := zB.fr hsN182_ c174_ (by decide) (by decide)
                                        have c187_ : zTab T N182_ := zTab.fr hsN182_ c175_ (by decide) (by decide)
                                        have c188_ : zJX T N182_ := zJX.fr hsN182_ c176_ (by decide) (by decide)
                                        have c189_ : zFirs T N182_ := zFirs.fr hsN182_ c177_ (by decide) (by decide)
                                        have c190_ : zSSm T N182_ := zSSm.fr hsN182_ c178_ (by decide) (by decide)
                                        have hCt := zCt_s g24 (by omega) (by omega) (by omega) (show zCs T N159_ u87_ by assumption) (show zCt T N159_ u87_ u158_ by assumption) (Int.toNat_natCast _) (by assumption) ⟨by omega, by omega⟩ hN182_
                                        obtain ⟨hc1, hc2⟩ := hCt
                                        refine zr_iinc (pc := 278) (i := 2) (a := u158_) (n := 1) (L2 := [some (.ref 81), some (.int (Int32.ofInt u87_)), some (.int (Int32.ofInt (u158_ + 1))), none]) rfl (by decide) rfl d_M_builds_278 ?_
                                        refine zw_goto (pc := 281) (tgt := 248) (by decide) d_M_builds_281 ?_
                                        exact ih_248 (u158_ + 1) (by omega) (by omega) N182_ hb1_N182_ (show ze N182_ 81 20 = (gN T : Int) by first | assumption | omega) (show 1 ≤ ze N182_ 81 25 by first | assumption | omega) (show ze N182_ 81 25 ≤ 64 by first | assumption | omega) (show ze N182_ 81 26 = ((gF T).length : Int) by first | assumption | omega) (show 0 ≤ u87_ by first | assumption | omega) (show u87_ < ze N182_ 81 26 by first | assumption | omega) (show 0 ≤ (u158_ + 1) by first | assumption | omega) (show (u158_ + 1) ≤ ze N182_ 81 20 by first | assumption | omega) (show zCs T N182_ u87_ by first | assumption | omega) (show zCt T N182_ u87_ (u158_ + 1) by first | assumption | omega) (by omega)
                                  exact lp_248 _ 0 (by decide) (by decide) N88_ zFr.rf (show ze N88_ 81 20 = (gN T : Int) by first | assumption | omega) (show 1 ≤ ze N88_ 81 25 by first | assumption | omega) (show ze N88_ 81 25 ≤ 64 by first | assumption | omega) (show ze N88_ 81 26 = ((gF T).length : Int) by first | assumption | omega) (show 0 ≤ u87_ by first | assumption | omega) (show u87_ < ze N88_ 81 26 by first | assumption | omega) (show 0 ≤ (0 : Int) by first | assumption | omega) (show (0 : Int) ≤ ze N88_ 81 20 by first | assumption | omega) (show zCs T N88_ u87_ by first | assumption | omega) (show zCt T N88_ u87_ (0 : Int) by exact zCt_0) (Nat.lt_succ_self _)
                            exact lp_238 _ 0 (by decide) (by decide) N71_ zFr.rf (show ze N71_ 81 20 = (gN T : Int) by first | assumption | omega) (show 1 ≤ ze N71_ 81 25 by first | assumption | omega) (show ze N71_ 81 25 ≤ 64 by first | assumption | omega) (show ze N71_ 81 26 = ((gF T).length : Int) by first | assumption | omega) (show 0 ≤ (0 : Int) by first | assumption | omega) (show (0 : Int) ≤ ze N71_ 81 26 by first | assumption | omega) (show zCs T N71_ (0 : Int) by exact zCs_0) (Nat.lt_succ_self _)
                          · skip
                            refine zw_aload_n (pc := 195) (n := 0) (x := 81) rfl d_M_builds_195 ?_
                            refine zr_getF (r := 90) (hf_N71_.w hW) (pc := 196) f_M_41 rfl (zh_90 (hf_N71_.w hW)).1 d_M_builds_196 ?_
                            refine zw_iload_n (pc := 199) (n := 1) (x := Int32.ofInt u70_) rfl d_M_builds_199 ?_
                            refine zw_aload_n (pc := 200) (n := 0) (x := 81) rfl d_M_builds_200 ?_
                            refine zw_aload_n (pc := 201) (n := 0) (x := 81) rfl d_M_builds_201 ?_
                            refine zw_aload_n (pc := 202) (n := 0) (x := 81) rfl d_M_builds_202 ?_
                            refine zr_getF (r := 89) (hf_N71_.w hW) (pc := 203) f_M_38 rfl (zh_89 (hf_N71_.w hW)).1 d_M_builds_203 ?_
                            refine zw_iload_n (pc := 206) (n := 1) (x := Int32.ofInt u70_) rfl d_M_builds_206 ?_
                            refine zr_ialdn (pc := 207) (zh_89 (hf_N71_.w hW)).2 (by decide) (by omega) (by omega) d_M_builds_207 (fun v191_ hv191_ hv191_a hv191_b => ?_)
                            have hk0 := c85_.1.2.2.1 (u70_).toNat (by omega)
                            have hkb := hO.sb hk0.2
                            refine zr_toI (show v191_ = ze N71_ 89 (u70_).toNat by omega) ?_
                            refine zr_callV (hf_N71_.w hW) hf_N71_.x (pc := 208) [.int (Int32.ofInt (ze N71_ 89 (u70_).toNat))] [.ref 81, .int (Int32.ofInt u70_), .ref 90] l_M_238 (c_M_leastTurned l N71_ (hf_N71_.w hW) (ze N71_ 89 (u70_).toNat) (by omega) (by omega) T hG c84_ (show 0 ≤ (ze N71_ 89 (u70_).toNat) by first | assumption | omega) (show (ze N71_ 89 (u70_).toNat) < 16777216 by first | assumption | omega)) rfl rfl rfl (by decide) (Nat.le_of_ble_eq_true rfl) d_M_builds_208 ?_
                            rintro _ N192_ ⟨v193_, rfl, ⟨hv193_a, hv193_b⟩, hsN192_, ⟨hp0_N192_, hp1_N192_, hp2_N192_⟩⟩
                            obtain rfl := hsN192_.eq.symm
                            show zW l m_M_builds (zn Mz + 0, zw Mz + 0) N71_ 211 [some (.ref 81), some (.int (Int32.ofInt u70_)), none, none] [.int (Int32.ofInt v193_), .ref 81, .int (Int32.ofInt u70_), .ref 90] (zpV [20, 25, 26] [85, 86, 87, 88, 89, 90, 91, 92, 93, 94] Mz (fun N => ∃ T : zGT, T ∈ gTabs ∧ zGB T N ∧ zTm (zMvs Mz) T))
                            refine zr_toI (show v193_ = ((glt T (ze N71_ 89 (u70_).toNat).toNat : Nat) : Int) by assumption) ?_
                            refine zr_callV (hf_N71_.w hW) hf_N71_.x (pc := 211) [.int (Int32.ofInt (((glt T (ze N71_ 89 (u70_).toNat).toNat : Nat) : Int)))] [.int (Int32.ofInt u70_), .ref 90] l_M_244 (c_M_sortOfFirst l N71_ (hf_N71_.w hW) (((glt T (ze N71_ 89 (u70_).toNat).toNat : Nat) : Int)) (by omega) (by omega) (show 0 ≤ ze N71_ 81 26 by first | assumption | omega) (show ze N71_ 81 26 ≤ 64 by first | assumption | omega)) rfl rfl rfl (by decide) (Nat.le_of_ble_eq_true rfl) d_M_builds_211 ?_
                            rintro _ N194_ ⟨v195_, rfl, ⟨hv195_a, hv195_b⟩, hsN194_, hp0_N194_⟩
                            obtain rfl := hsN194_.eq.symm
                            replace hp0_N194_ : ((0 ≤ v195_ ∧ v195_ < ze N71_ 81 26 ∧ ze N71_ 91 (v195_).toNat = (((glt T (ze N71_ 89 (u70_).toNat).toNat : Nat) : Int))) ∨ (v195_ = -1 ∧ ∀ k : Nat, (k : Int) < ze N71_ 81 26 → ze N71_ 91 k ≠ (((glt T (ze N71_ 89 (u70_).toNat).toNat : Nat) : Int)))) := hp0_N194_
                            rcases hp0_N194_ with ⟨ha211_0_hp0_N194_, ha211_1_hp0_N194_, ha211_2_hp0_N194_⟩ | ⟨rfl, ha211_0_hp0_N194_⟩
                            · skip
                              show zW l m_M_builds (zn Mz + 0, zw Mz + 0) N71_ 214 [some (.ref 81), some (.int (Int32.ofInt u70_)), none, none] [.int (Int32.ofInt v195_), .int (Int32.ofInt u70_), .ref 90] (zpV [20, 25, 26] [85, 86, 87, 88, 89, 90, 91, 92, 93, 94] Mz (fun N => ∃ T : zGT, T ∈ gTabs ∧ zGB T N ∧ zTm (zMvs Mz) T))
                              refine zr_iast (pc := 214) (zh_90 (hf_N71_.w hW)).2 (by decide) (by decide) (by omega) (by omega) d_M_builds_214 (fun N196_ hN196_ hsN196_ => ?_)
                              have hf_N196_ : zFr [20, 25, 26] [85, 86, 87, 88, 89, 90, 91, 92, 93, 94] Mz N196_ := hf_N71_.tr hsN196_ (by decide) (by decide)
                              have hb0_N196_ : zFr [] [90, 92] N56_ N196_ := hs72_.tr hsN196_ (by decide) (by decide)
                              have e12_N196_ : ze N196_ 81 12 = ze N71_ 81 12 := hsN196_.e (by decide)
                              have e13_N196_ : ze N196_ 81 13 = ze N71_ 81 13 := hsN196_.e (by decide)
                              have e20_N196_ : ze N196_ 81 20 = ze N71_ 81 20 := hsN196_.e (by decide)
                              have e25_N196_ : ze N196_ 81 25 = ze N71_ 81 25 := hsN196_.e (by decide)
                              have e26_N196_ : ze N196_ 81 26 = ze N71_ 81 26 := hsN196_.e (by decide)
                              have c197_ : zPm N196_ := zPm.fr hsN196_ c80_ (by decide) (by decide)
                              have c198_ : zFin N196_ := zFin.fr hsN196_ c81_ (by decide) (by decide)
                              have c199_ : zB 83 24 0 5 N196_ := zB.fr hsN196_ c82_ (by decide) (by decide)
                              have c200_ : zB 85 144 0 5 N196_ := zB.fr hsN196_ c83_ (by decide) (by decide)
                              have c201_ : zTab T N196_ := zTab.fr hsN196_ c84_ (by decide) (by decide)
                              have c202_ : zJX T N196_ := zJX.fr hsN196_ c85_ (by decide) (by decide)
                              have c203_ : zFirs T N196_ := zFirs.fr hsN196_ c86_ (by decide) (by decide)
                              have hw0 := zs_get hN196_ ⟨by omega, by omega⟩
                              have hSn := zSS_s (by omega) (show zSS T N71_ u70_ by assumption) hN196_ (by omega) (by omega) (by omega) rfl rfl (by assumption)
                              refine zw_aload_n (pc := 215) (n := 0) (x := 81) rfl d_M_builds_215 ?_
                              refine zr_getF (r := 92) (hf_N196_.w hW) (pc := 216) f_M_47 rfl (zh_92 (hf_N196_.w hW)).1 d_M_builds_216 ?_
                              refine zw_aload_n (pc := 219) (n := 0) (x := 81) rfl d_M_builds_219 ?_
                              refine zr_getF (r := 90) (hf_N196_.w hW) (pc := 220) f_M_41 rfl (zh_90 (hf_N196_.w hW)).1 d_M_builds_220 ?_
                              refine zw_iload_n (pc := 223) (n := 1) (x := Int32.ofInt u70_) rfl d_M_builds_223 ?_
                              refine zr_ialdn (pc := 224) (zh_90 (hf_N196_.w hW)).2 (by decide) (by omega) (by omega) d_M_builds_224 (fun v204_ hv204_ hv204_a hv204_b => ?_)
                              refine zw_dup2 (pc := 225) rfl rfl d_M_builds_225 ?_
                              refine zr_ialdn (pc := 226) (zh_92 (hf_N196_.w hW)).2 (by decide) (by omega) (by omega) d_M_builds_226 (fun v205_ hv205_ hv205_a hv205_b => ?_)
                              refine zw_iconst (pc := 227) (v := Int32.ofInt 1) (by decide) d_M_builds_227 ?_
                              refine zr_iadd (pc := 228) d_M_builds_228 ?_
                              refine zr_iast (pc := 229) (zh_92 (hf_N196_.w hW)).2 (by decide) (by decide) (by omega) (by omega) d_M_builds_229 (fun N206_ hN206_ hsN206_ => ?_)
                              have hf_N206_ : zFr [20, 25, 26] [85, 86, 87, 88, 89, 90, 91, 92, 93, 94] Mz N206_ := hf_N196_.tr hsN206_ (by decide) (by decide)
                              have hb0_N206_ : zFr [] [90, 92] N56_ N206_ := hb0_N196_.tr hsN206_ (by decide) (by decide)
                              have e12_N206_ : ze N206_ 81 12 = ze N196_ 81 12 := hsN206_.e (by decide)
                              have e13_N206_ : ze N206_ 81 13 = ze N196_ 81 13 := hsN206_.e (by decide)
                              have e20_N206_ : ze N206_ 81 20 = ze N196_ 81 20 := hsN206_.e (by decide)
                              have e25_N206_ : ze N206_ 81 25 = ze N196_ 81 25 := hsN206_.e (by decide)
                              have e26_N206_ : ze N206_ 81 26 = ze N196_ 81 26 := hsN206_.e (by decide)
                              have c207_ : zPm N206_ := zPm.fr hsN206_ c197_ (by decide) (by decide)
                              have c208_ : zFin N206_ := zFin.fr hsN206_ c198_ (by decide) (by decide)
                              have c209_ : zB 83 24 0 5 N206_ := zB.fr hsN206_ c199_ (by decide) (by decide)
                              have c210_ : zB 85 144 0 5 N206_ := zB.fr hsN206_ c200_ (by decide) (by decide)
                              have c211_ : zTab T N206_ := zTab.fr hsN206_ c201_ (by decide) (by decide)
                              have c212_ : zJX T N206_ := zJX.fr hsN206_ c202_ (by decide) (by decide)
                              have c213_ : zFirs T N206_ := zFirs.fr hsN206_ c203_ (by decide) (by decide)
                              have hSf := hSn.fr hsN206_ (by decide) (by decide)
                              refine zr_iinc (pc := 230) (i := 1) (a := u70_) (n := 1) (L2 := [some (.ref 81), some (.int (Int32.ofInt (u70_ + 1))), none, none]) rfl (by decide) rfl d_M_builds_230 ?_
                              refine zw_goto (pc := 233) (tgt := 187) (by decide) d_M_builds_233 ?_
                              exact ih_187 (u70_ + 1) (by omega) (by omega) N206_ hb0_N206_ (show ze N206_ 81 20 = (gN T : Int) by first | assumption | omega) (show 1 ≤ ze N206_ 81 25 by first | assumption | omega) (show ze N206_ 81 25 ≤ 64 by first | assumption | omega) (show ze N206_ 81 26 = ((gF T).length : Int) by first | assumption | omega) (show 0 ≤ (u70_ + 1) by first | assumption | omega) (show (u70_ + 1) ≤ ze N206_ 81 25 by first | assumption | omega) (show zSS T N206_ (u70_ + 1) by first | assumption | omega) (by omega)
                            · skip
                              obtain ⟨i0, hi0, hi1⟩ := zFirs_f hO c86_ hk0.2
                              exact absurd hi1 (ha211_0_hp0_N194_ i0 hi0)
                      exact lp_187 _ 0 (by decide) (by decide) N56_ zFr.rf (show ze N56_ 81 20 = (gN T : Int) by first | assumption | omega) (show 1 ≤ ze N56_ 81 25 by first | assumption | omega) (show ze N56_ 81 25 ≤ 64 by first | assumption | omega) (show ze N56_ 81 26 = ((gF T).length : Int) by first | assumption | omega) (show 0 ≤ (0 : Int) by first | assumption | omega) (show (0 : Int) ≤ ze N56_ 81 25 by first | assumption | omega) (show zSS T N56_ (0 : Int) by exact zSS_0) (Nat.lt_succ_self _)
                    · skip
                      refine zw_aload_n (pc := 172) (n := 0) (x := 81) rfl d_M_builds_172 ?_
                      refine zr_getF (r := 92) (hf_N56_.w hW) (pc := 173) f_M_47 rfl (zh_92 (hf_N56_.w hW)).1 d_M_builds_173 ?_
                      refine zw_iload_n (pc := 176) (n := 1) (x := Int32.ofInt u55_) rfl d_M_builds_176 ?_
                      refine zw_iconst (pc := 177) (v := Int32.ofInt 0) (by decide) d_M_builds_177 ?_
                      refine zr_iast (pc := 178) (zh_92 (hf_N56_.w hW)).2 (by decide) (by decide) (by omega) (by omega) d_M_builds_178 (fun N214_ hN214_ hsN214_ => ?_)
                      have hf_N214_ : zFr [20, 25, 26] [85, 86, 87, 88, 89, 90, 91, 92, 93, 94] Mz N214_ := hf_N56_.tr hsN214_ (by decide) (by decide)
                      have hb0_N214_ : zFr [] [92] N41_ N214_ := hs57_.tr hsN214_ (by decide) (by decide)
                      have e12_N214_ : ze N214_ 81 12 = ze N56_ 81 12 := hsN214_.e (by decide)
                      have e13_N214_ : ze N214_ 81 13 = ze N56_ 81 13 := hsN214_.e (by decide)
                      have e20_N214_ : ze N214_ 81 20 = ze N56_ 81 20 := hsN214_.e (by decide)
                      have e25_N214_ : ze N214_ 81 25 = ze N56_ 81 25 := hsN214_.e (by decide)
                      have e26_N214_ : ze N214_ 81 26 = ze N56_ 81 26 := hsN214_.e (by decide)
                      have c215_ : zPm N214_ := zPm.fr hsN214_ c63_ (by decide) (by decide)
                      have c216_ : zFin N214_ := zFin.fr hsN214_ c64_ (by decide) (by decide)
                      have c217_ : zB 83 24 0 5 N214_ := zB.fr hsN214_ c65_ (by decide) (by decide)
                      have c218_ : zB 85 144 0 5 N214_ := zB.fr hsN214_ c66_ (by decide) (by decide)
                      have c219_ : zTab T N214_ := zTab.fr hsN214_ c67_ (by decide) (by decide)
                      have c220_ : zJX T N214_ := zJX.fr hsN214_ c68_ (by decide) (by decide)
                      have c221_ : zFirs T N214_ := zFirs.fr hsN214_ c69_ (by decide) (by decide)
                      refine zr_iinc (pc := 179) (i := 1) (a := u55_) (n := 1) (L2 := [some (.ref 81), some (.int (Int32.ofInt (u55_ + 1))), none, none]) rfl (by decide) rfl d_M_builds_179 ?_
                      refine zw_goto (pc := 182) (tgt := 164) (by decide) d_M_builds_182 ?_
                      exact ih_164 (u55_ + 1) (by omega) (by omega) N214_ hb0_N214_ (show ze N214_ 81 20 = (gN T : Int) by first | assumption | omega) (show 1 ≤ ze N214_ 81 25 by first | assumption | omega) (show ze N214_ 81 25 ≤ 64 by first | assumption | omega) (show ze N214_ 81 26 = ((gF T).length : Int) by first | assumption | omega) (show 0 ≤ (u55_ + 1) by first | assumption | omega) (by omega)
                exact lp_164 _ 0 (by decide) (by decide) N41_ zFr.rf (show ze N41_ 81 20 = (gN T : Int) by first | assumption | omega) (show 1 ≤ ze N41_ 81 25 by first | assumption | omega) (show ze N41_ 81 25 ≤ 64 by first | assumption | omega) (show ze N41_ 81 26 = ((gF T).length : Int) by first | assumption | omega) (show 0 ≤ (0 : Int) by first | assumption | omega) (Nat.lt_succ_self _)
              · skip
                refine zw_aload_n (pc := 127) (n := 0) (x := 81) rfl d_M_builds_127 ?_
                refine zw_aload_n (pc := 128) (n := 0) (x := 81) rfl d_M_builds_128 ?_
                refine zr_getF (r := 89) (hf_N41_.w hW) (pc := 129) f_M_38 rfl (zh_89 (hf_N41_.w hW)).1 d_M_builds_129 ?_
                refine zw_iload_n (pc := 132) (n := 1) (x := Int32.ofInt u40_) rfl d_M_builds_132 ?_
                refine zr_ialdn (pc := 133) (zh_89 (hf_N41_.w hW)).2 (by decide) (by omega) (by omega) d_M_builds_133 (fun v222_ hv222_ hv222_a hv222_b => ?_)
                have hk0 := i49_.1.2.2.1 (u40_).toNat (by omega)
                have hkb := hO.sb hk0.2
                refine zr_toI (show v222_ = ze N41_ 89 (u40_).toNat by omega) ?_
                refine zr_callV (hf_N41_.w hW) hf_N41_.x (pc := 134) [.int (Int32.ofInt (ze N41_ 89 (u40_).toNat))] [] l_M_238 (c_M_leastTurned l N41_ (hf_N41_.w hW) (ze N41_ 89 (u40_).toNat) (by omega) (by omega) T hG c54_ (show 0 ≤ (ze N41_ 89 (u40_).toNat) by first | assumption | omega) (show (ze N41_ 89 (u40_).toNat) < 16777216 by first | assumption | omega)) rfl rfl rfl (by decide) (Nat.le_of_ble_eq_true rfl) d_M_builds_134 ?_
                rintro _ N223_ ⟨v224_, rfl, ⟨hv224_a, hv224_b⟩, hsN223_, ⟨hp0_N223_, hp1_N223_, hp2_N223_⟩⟩
                obtain rfl := hsN223_.eq.symm
                show zW l m_M_builds (zn Mz + 0, zw Mz + 0) N41_ 137 [some (.ref 81), some (.int (Int32.ofInt u40_)), none, none] [.int (Int32.ofInt v224_)] (zpV [20, 25, 26] [85, 86, 87, 88, 89, 90, 91, 92, 93, 94] Mz (fun N => ∃ T : zGT, T ∈ gTabs ∧ zGB T N ∧ zTm (zMvs Mz) T))
                refine zw_aload_n (pc := 137) (n := 0) (x := 81) rfl d_M_builds_137 ?_
                refine zr_getF (r := 89) (hf_N41_.w hW) (pc := 138) f_M_38 rfl (zh_89 (hf_N41_.w hW)).1 d_M_builds_138 ?_
                refine zw_iload_n (pc := 141) (n := 1) (x := Int32.ofInt u40_) rfl d_M_builds_141 ?_
                refine zr_ialdn (pc := 142) (zh_89 (hf_N41_.w hW)).2 (by decide) (by omega) (by omega) d_M_builds_142 (fun v225_ hv225_ hv225_a hv225_b => ?_)
                refine zr_toI (show v225_ = ze N41_ 89 (u40_).toNat by omega) ?_
                refine zr_icmp_ne (pc := 143) (tgt := 156) ⟨hv224_a, hv224_b⟩ ⟨(by omega), (by omega)⟩ (by decide) d_M_builds_143 (fun hc_143 => ?_) (fun hc_143 => ?_)
                · skip
                  refine zr_iinc (pc := 156) (i := 1) (a := u40_) (n := 1) (L2 := [some (.ref 81), some (.int (Int32.ofInt (u40_ + 1))), none, none]) rfl (by decide) rfl d_M_builds_156 ?_
                  refine zw_goto (pc := 159) (tgt := 119) (by decide) d_M_builds_159 ?_
                  have hFn : zFl T N41_ (u40_ + 1) := by first | exact hFa | exact zFl_n (by omega) (by assumption) rfl (by assumption) (by omega)
                  exact ih_119 (u40_ + 1) (by omega) (by omega) N41_ hs42_ (show ze N41_ 81 20 = (gN T : Int) by first | assumption | omega) (show 1 ≤ ze N41_ 81 25 by first | assumption | omega) (show ze N41_ 81 25 ≤ 64 by first | assumption | omega) (show 0 ≤ (u40_ + 1) by first | assumption | omega) (show (u40_ + 1) ≤ ze N41_ 81 25 by first | assumption | omega) (show zFl T N41_ (u40_ + 1) by first | assumption | omega) i49_ (by omega)
                · skip
                  refine zw_aload_n (pc := 146) (n := 0) (x := 81) rfl d_M_builds_146 ?_
                  refine zw_aload_n (pc := 147) (n := 0) (x := 81) rfl d_M_builds_147 ?_
                  refine zr_getF (r := 89) (hf_N41_.w hW) (pc := 148) f_M_38 rfl (zh_89 (hf_N41_.w hW)).1 d_M_builds_148 ?_
                  refine zw_iload_n (pc := 151) (n := 1) (x := Int32.ofInt u40_) rfl d_M_builds_151 ?_
                  refine zr_ialdn (pc := 152) (zh_89 (hf_N41_.w hW)).2 (by decide) (by omega) (by omega) d_M_builds_152 (fun v226_ hv226_ hv226_a hv226_b => ?_)
                  refine zr_toI (show v226_ = ze N41_ 89 (u40_).toNat by omega) ?_
                  have hfl := (show zFl T N41_ u40_ by assumption)
                  have hf1 := hfl.1
                  have hf2 := hfl.2.1
                  have hne := zFl_ne i49_.1 (by omega) (by omega) (show zFl T N41_ u40_ by assumption) (v := ze N41_ 89 (u40_).toNat) rfl
                  refine zr_callV (hf_N41_.w hW) hf_N41_.x (pc := 153) [.int (Int32.ofInt (ze N41_ 89 (u40_).toNat))] [] l_M_241 (c_M_comesSort l N41_ (hf_N41_.w hW) (ze N41_ 89 (u40_).toNat) (by omega) (by omega) (show 0 ≤ ze N41_ 81 26 by first | assumption | omega) (show ze N41_ 81 26 ≤ 63 by first | assumption | omega) (show 0 ≤ (ze N41_ 89 (u40_).toNat) by first | assumption | omega) (show (ze N41_ 89 (u40_).toNat) < 16777216 by first | assumption | omega) (show zSo N41_ (ze N41_ 81 26) by first | assumption | omega) (show ∀ i : Nat, (i : Int) < ze N41_ 81 26 → ze N41_ 91 i ≠ (ze N41_ 89 (u40_).toNat) by first | assumption | omega)) rfl rfl rfl (by decide) (Nat.le_of_ble_eq_true rfl) d_M_builds_153 ?_
                  rintro _ N227_ ⟨rfl, hsN227_, ⟨hp0_N227_, hp1_N227_, hp2_N227_⟩⟩
                  have hf_N227_ : zFr [20, 25, 26] [85, 86, 87, 88, 89, 90, 91, 92, 93, 94] Mz N227_ := hf_N41_.tr hsN227_ (by decide) (by decide)
                  have hb0_N227_ : zFr [26] [91] N33_ N227_ := hs42_.tr hsN227_ (by decide) (by decide)
                  have e12_N227_ : ze N227_ 81 12 = ze N41_ 81 12 := hsN227_.e (by decide)
                  have e13_N227_ : ze N227_ 81 13 = ze N41_ 81 13 := hsN227_.e (by decide)
                  have e20_N227_ : ze N227_ 81 20 = ze N41_ 81 20 := hsN227_.e (by decide)
                  have e25_N227_ : ze N227_ 81 25 = ze N41_ 81 25 := hsN227_.e (by decide)
                  have r26_N227_ := ze_r N227_ 81 26
                  have c229_ : zPm N227_ := zPm.fr hsN227_ c50_ (by decide) (by decide)
                  have c230_ : zFin N227_ := zFin.fr hsN227_ c51_ (by decide) (by decide)
                  have c231_ : zB 83 24 0 5 N227_ := zB.fr hsN227_ c52_ (by decide) (by decide)
                  have c232_ : zB 85 144 0 5 N227_ := zB.fr hsN227_ c53_ (by decide) (by decide)
                  have c233_ : zTab T N227_ := zTab.fr hsN227_ c54_ (by decide) (by decide)
                  have c234_ : zJX T N227_ := zJX.fr hsN227_ i49_ (by decide) (by decide)
                  show zW l m_M_builds (zn Mz + 0, zw Mz + 0) N227_ 156 [some (.ref 81), some (.int (Int32.ofInt u40_)), none, none] [] (zpV [20, 25, 26] [85, 86, 87, 88, 89, 90, 91, 92, 93, 94] Mz (fun N => ∃ T : zGT, T ∈ gTabs ∧ zGB T N ∧ zTm (zMvs Mz) T))
                  have hFa := zFl_a (by omega) (show zFl T N41_ u40_ by assumption) rfl (by assumption) (by omega) (fun j => hsN227_.ie (q := 89) (by decide) (by decide) j) hp0_N227_ hp1_N227_ hp2_N227_
                  refine zr_iinc (pc := 156) (i := 1) (a := u40_) (n := 1) (L2 := [some (.ref 81), some (.int (Int32.ofInt (u40_ + 1))), none, none]) rfl (by decide) rfl d_M_builds_156 ?_
                  refine zw_goto (pc := 159) (tgt := 119) (by decide) d_M_builds_159 ?_
                  have hFn : zFl T N227_ (u40_ + 1) := by first | exact hFa | exact zFl_n (by omega) (by assumption) rfl (by assumption) (by omega)
                  exact ih_119 (u40_ + 1) (by omega) (by omega) N227_ hb0_N227_ (show ze N227_ 81 20 = (gN T : Int) by first | assumption | omega) (show 1 ≤ ze N227_ 81 25 by first | assumption | omega) (show ze N227_ 81 25 ≤ 64 by first | assumption | omega) (show 0 ≤ (u40_ + 1) by first | assumption | omega) (show (u40_ + 1) ≤ ze N227_ 81 25 by first | assumption | omega) (show zFl T N227_ (u40_ + 1) by first | assumption | omega) c234_ (by omega)
          exact lp_119 _ 0 (by decide) (by decide) N33_ zFr.rf (show ze N33_ 81 20 = (gN T : Int) by first | assumption | omega) (show 1 ≤ ze N33_ 81 25 by first | assumption | omega) (show ze N33_ 81 25 ≤ 64 by first | assumption | omega) (show 0 ≤ (0 : Int) by first | assumption | omega) (show (0 : Int) ≤ ze N33_ 81 25 by first | assumption | omega) (show zFl T N33_ (0 : Int) by first | assumption | omega) c39_ (Nat.lt_succ_self _)
        · skip
          refine zw_iconst (pc := 27) (v := Int32.ofInt 1) (by decide) d_M_builds_27 ?_
          refine zw_istore_n (pc := 28) (i := 2) (L2 := [some (.ref 81), some (.int (Int32.ofInt u18_)), some (.int (Int32.ofInt 1)), none]) rfl (by decide) rfl d_M_builds_28 ?_
          have hX1 := zX_1 hO (show zJ T N19_ (ze N19_ 81 25) by assumption) (show zX T N19_ (ze N19_ 81 25) u18_ 0 by assumption)
          have lp_29 : ∀ (n : Nat) (u235_ : Int) (hu235_a : -2147483648 ≤ u235_) (hu235_b : u235_ < 2147483648) (N236_ : zMem) (hs237_ : zFr [25] [89] N19_ N236_) (i238_ : ze N236_ 81 20 = (gN T : Int)) (i239_ : 1 ≤ ze N236_ 81 25) (i240_ : ze N236_ 81 25 ≤ 64) (i241_ : 0 ≤ u18_) (i242_ : u18_ < ze N236_ 81 25) (i243_ : 1 ≤ u235_) (i244_ : u235_ ≤ ze N236_ 81 20) (i245_ : zJ T N236_ (ze N236_ 81 25)) (i246_ : zX T N236_ (ze N236_ 81 25) u18_ u235_), (25 - u235_).toNat < n → zW l m_M_builds (zn Mz + 0, zw Mz + 0) N236_ 29 [some (.ref 81), some (.int (Int32.ofInt u18_)), some (.int (Int32.ofInt u235_)), none] [] (zpV [20, 25, 26] [85, 86, 87, 88, 89, 90, 91, 92, 93, 94] Mz (fun N => ∃ T : zGT, T ∈ gTabs ∧ zGB T N ∧ zTm (zMvs Mz) T)) := by
            intro n
            induction n with
            | zero =>
              intro u235_ hu235_a hu235_b N236_ hs237_ i238_ i239_ i240_ i241_ i242_ i243_ i244_ i245_ i246_ h0
              exact absurd h0 (Nat.not_lt_zero _)
            | succ n ih_29 =>
              intro u235_ hu235_a hu235_b N236_ hs237_ i238_ i239_ i240_ i241_ i242_ i243_ i244_ i245_ i246_ hlt_29
              have hf_N236_ : zFr [20, 25, 26] [85, 86, 87, 88, 89, 90, 91, 92, 93, 94] Mz N236_ := hf_N19_.tr hs237_ (by decide) (by decide)
              have hb0_N236_ : zFr [25] [89] N12_ N236_ := hs20_.tr hs237_ (by decide) (by decide)
              have e12_N236_ : ze N236_ 81 12 = ze N19_ 81 12 := hs237_.e (by decide)
              have e13_N236_ : ze N236_ 81 13 = ze N19_ 81 13 := hs237_.e (by decide)
              have e20_N236_ : ze N236_ 81 20 = ze N19_ 81 20 := hs237_.e (by decide)
              have r25_N236_ := ze_r N236_ 81 25
              have e26_N236_ : ze N236_ 81 26 = ze N19_ 81 26 := hs237_.e (by decide)
              have c247_ : zPm N236_ := zPm.fr hs237_ c28_ (by decide) (by decide)
              have c248_ : zFin N236_ := zFin.fr hs237_ c29_ (by decide) (by decide)
              have c249_ : zB 83 24 0 5 N236_ := zB.fr hs237_ c30_ (by decide) (by decide)
              have c250_ : zB 85 144 0 5 N236_ := zB.fr hs237_ c31_ (by decide) (by decide)
              have c251_ : zTab T N236_ := zTab.fr hs237_ c32_ (by decide) (by decide)
              have zz12_N236_ : ze N236_ 81 12 = ze Mz 81 12 := hf_N236_.e (by decide)
              have zz13_N236_ : ze N236_ 81 13 = ze Mz 81 13 := hf_N236_.e (by decide)
              refine zw_iload_n (pc := 29) (n := 2) (x := Int32.ofInt u235_) rfl d_M_builds_29 ?_
              refine zw_aload_n (pc := 30) (n := 0) (x := 81) rfl d_M_builds_30 ?_
              refine zr_getI (hf_N236_.w hW) (pc := 31) f_M_196 rfl d_M_builds_31 ?_
              refine zr_icmp_ge (pc := 34) (tgt := 106) ⟨hu235_a, hu235_b⟩ ⟨(ze_r N236_ 81 20).1, (ze_r N236_ 81 20).2⟩ (by decide) d_M_builds_34 (fun hc_34 => ?_) (fun hc_34 => ?_)
              · skip
                refine zr_iinc (pc := 106) (i := 1) (a := u18_) (n := 1) (L2 := [some (.ref 81), some (.int (Int32.ofInt (u18_ + 1))), some (.int (Int32.ofInt u235_)), none]) rfl (by decide) rfl d_M_builds_106 ?_
                refine zw_goto (pc := 109) (tgt := 19) (by decide) d_M_builds_109 ?_
                have hXn : zX T N236_ (ze N236_ 81 25) (u18_ + 1) 0 := zX_n (by assumption) (by omega)
                refine zW_le [some (.ref 81), some (.int (Int32.ofInt (u18_ + 1))), none, none] (⟨rfl, rfl, trivial⟩) ?_
                exact ih_19 (u18_ + 1) (by omega) (by omega) N236_ hb0_N236_ (show ze N236_ 81 20 = (gN T : Int) by first | assumption | omega) (show 1 ≤ ze N236_ 81 25 by first | assumption | omega) (show ze N236_ 81 25 ≤ 64 by first | assumption | omega) (show 0 ≤ (u18_ + 1) by first | assumption | omega) (show (u18_ + 1) ≤ ze N236_ 81 25 by first | assumption | omega) (show zJ T N236_ (ze N236_ 81 25) by first | assumption | omega) (show zX T N236_ (ze N236_ 81 25) (u18_ + 1) 0 by first | assumption | omega) (by omega)
              · skip
                refine zw_aload_n (pc := 37) (n := 0) (x := 81) rfl d_M_builds_37 ?_
                refine zr_getF (r := 89) (hf_N236_.w hW) (pc := 38) f_M_38 rfl (zh_89 (hf_N236_.w hW)).1 d_M_builds_38 ?_
                refine zw_iload_n (pc := 41) (n := 1) (x := Int32.ofInt u18_) rfl d_M_builds_41 ?_
                refine zr_ialdn (pc := 42) (zh_89 (hf_N236_.w hW)).2 (by decide) (by omega) (by omega) d_M_builds_42 (fun v252_ hv252_ hv252_a hv252_b => ?_)
                have hk0 := (show zJ T N236_ (ze N236_ 81 25) by assumption).2.2.1 (u18_).toNat (by omega)
                have hkb := hO.sb hk0.2
                refine zw_iload_n (pc := 43) (n := 2) (x := Int32.ofInt u235_) rfl d_M_builds_43 ?_
                refine zr_callS hf_N236_.x (pc := 44) [.int (Int32.ofInt v252_), .int (Int32.ofInt u235_)] [] l_M_213 (c_M_holds l N236_ (hf_N236_.w hW) v252_ hv252_a hv252_b u235_ hu235_a hu235_b (show 0 ≤ v252_ by first | assumption | omega) (show 0 ≤ u235_ by first | assumption | omega) (show u235_ < 32 by first | assumption | omega)) rfl rfl (by decide) (Nat.le_of_ble_eq_true rfl) d_M_builds_44 ?_
                rintro _ N253_ ⟨v254_, rfl, ⟨hv254_a, hv254_b⟩, hsN253_, hp0_N253_⟩
                obtain rfl := hsN253_.eq.symm
                replace hp0_N253_ : ((v254_ = 1 ∧ zbt v252_ u235_) ∨ (v254_ = 0 ∧ ¬ zbt v252_ u235_)) := hp0_N253_
                rcases hp0_N253_ with ⟨rfl, ha44_0_hp0_N253_⟩ | ⟨rfl, ha44_0_hp0_N253_⟩
                · skip
                  show zW l m_M_builds (zn Mz + 0, zw Mz + 0) N236_ 47 [some (.ref 81), some (.int (Int32.ofInt u18_)), some (.int (Int32.ofInt u235_)), none] [.int (Int32.ofInt 1)] (zpV [20, 25, 26] [85, 86, 87, 88, 89, 90, 91, 92, 93, 94] Mz (fun N => ∃ T : zGT, T ∈ gTabs ∧ zGB T N ∧ zTm (zMvs Mz) T))
                  refine zr_if_eq (pc := 47) (tgt := 53) ⟨(by decide), (by decide)⟩ (by decide) d_M_builds_47 (fun hc_47 => ?_) (fun hc_47 => ?_)
                  · skip
                    exact absurd hc_47 (by decide)
                  · skip
                    refine zw_goto (pc := 50) (tgt := 100) (by decide) d_M_builds_50 ?_
                    refine zr_iinc (pc := 100) (i := 2) (a := u235_) (n := 1) (L2 := [some (.ref 81), some (.int (Int32.ofInt u18_)), some (.int (Int32.ofInt (u235_ + 1))), none]) rfl (by decide) rfl d_M_builds_100 ?_
                    refine zw_goto (pc := 103) (tgt := 29) (by decide) d_M_builds_103 ?_
                    have hJn : zJ T N236_ (ze N236_ 81 25) := by first | assumption | exact hJa
                    have hXn : zX T N236_ (ze N236_ 81 25) u18_ (u235_ + 1) := by first | exact hXa | exact zX_f (by omega) (by omega) (by assumption) rfl hLr (by assumption) (by omega) | exact zX_b (by omega) (by omega) (by assumption) (by assumption) (by assumption)
                    have hle := zJ_le hO hJn
                    exact ih_29 (u235_ + 1) (by omega) (by omega) N236_ hs237_ (show ze N236_ 81 20 = (gN T : Int) by first | assumption | omega) (show 1 ≤ ze N236_ 81 25 by first | assumption | omega) (show ze N236_ 81 25 ≤ 64 by first | assumption | omega) (show 0 ≤ u18_ by first | assumption | omega) (show u18_ < ze N236_ 81 25 by first | assumption | omega) (show 1 ≤ (u235_ + 1) by first | assumption | omega) (show (u235_ + 1) ≤ ze N236_ 81 20 by first | assumption | omega) (show zJ T N236_ (ze N236_ 81 25) by first | assumption | omega) (show zX T N236_ (ze N236_ 81 25) u18_ (u235_ + 1) by first | assumption | omega) (by omega)
                · skip
                  show zW l m_M_builds (zn Mz + 0, zw Mz + 0) N236_ 47 [some (.ref 81), some (.int (Int32.ofInt u18_)), some (.int (Int32.ofInt u235_)), none] [.int (Int32.ofInt 0)] (zpV [20, 25, 26] [85, 86, 87, 88, 89, 90, 91, 92, 93, 94] Mz (fun N => ∃ T : zGT, T ∈ gTabs ∧ zGB T N ∧ zTm (zMvs Mz) T))
                  refine zr_if_eq (pc := 47) (tgt := 53) ⟨(by decide), (by decide)⟩ (by decide) d_M_builds_47 (fun hc_47 => ?_) (fun hc_47 => ?_)
                  · skip
                    refine zw_aload_n (pc := 53) (n := 0) (x := 81) rfl d_M_builds_53 ?_
                    refine zw_aload_n (pc := 54) (n := 0) (x := 81) rfl d_M_builds_54 ?_
                    refine zr_getF (r := 89) (hf_N236_.w hW) (pc := 55) f_M_38 rfl (zh_89 (hf_N236_.w hW)).1 d_M_builds_55 ?_
                    refine zw_iload_n (pc := 58) (n := 1) (x := Int32.ofInt u18_) rfl d_M_builds_58 ?_
                    refine zr_ialdn (pc := 59) (zh_89 (hf_N236_.w hW)).2 (by decide) (by omega) (by omega) d_M_builds_59 (fun v255_ hv255_ hv255_a hv255_b => ?_)
                    refine zr_toI (show v255_ = ze N236_ 89 (u18_).toNat by omega) ?_
                    refine zw_iconst (pc := 60) (v := Int32.ofInt 1) (by decide) d_M_builds_60 ?_
                    refine zw_iload_n (pc := 61) (n := 2) (x := Int32.ofInt u235_) rfl d_M_builds_61 ?_
                    refine zr_ishl (pc := 62) d_M_builds_62 ?_
                    have hr256_ := zshl_r 1 u235_
                    have hgi := gIn_or hG (x := ze N236_ 89 (u18_).toNat) (g := u235_) hk0.1 (hO.2.1.2.2 _ hk0.2).1.2.1 (by omega) (by omega)
                    refine zr_ior (pc := 63) d_M_builds_63 ?_
                    have hr257_ := zor_r (ze N236_ 89 (u18_).toNat) (zshl 1 u235_)
                    have hks := (hO.2.1.2.2 _ hk0.2).1.2.1
                    refine zr_callV (hf_N236_.w hW) hf_N236_.x (pc := 64) [.int (Int32.ofInt (zor (ze N236_ 89 (u18_).toNat) (zshl 1 u235_)))] [] l_M_229 (c_M_closed l N236_ (hf_N236_.w hW) (zor (ze N236_ 89 (u18_).toNat) (zshl 1 u235_)) (by omega) (by omega) T hG c251_ (show gIn T (zor (ze N236_ 89 (u18_).toNat) (zshl 1 u235_)) by exact hgi.1)) rfl rfl rfl (by decide) (Nat.le_of_ble_eq_true rfl) d_M_builds_64 ?_
                    rintro _ N258_ ⟨v259_, rfl, ⟨hv259_a, hv259_b⟩, hsN258_, ⟨hp0_N258_, hp1_N258_, hp2_N258_⟩⟩
                    obtain rfl := hsN258_.eq.symm
                    show zW l m_M_builds (zn Mz + 0, zw Mz + 0) N236_ 67 [some (.ref 81), some (.int (Int32.ofInt u18_)), some (.int (Int32.ofInt u235_)), none] [.int (Int32.ofInt v259_)] (zpV [20, 25, 26] [85, 86, 87, 88, 89, 90, 91, 92, 93, 94] Mz (fun N => ∃ T : zGT, T ∈ gTabs ∧ zGB T N ∧ zTm (zMvs Mz) T))
                    have hLr := hp0_N258_
                    rw [hgi.2] at hLr
                    refine zw_istore_n (pc := 67) (i := 3) (L2 := [some (.ref 81), some (.int (Int32.ofInt u18_)), some (.int (Int32.ofInt u235_)), some (.int (Int32.ofInt v259_))]) rfl (by decide) rfl d_M_builds_67 ?_
                    refine zw_aload_n (pc := 68) (n := 0) (x := 81) rfl d_M_builds_68 ?_
                    refine zw_iload_n (pc := 69) (n := 3) (x := Int32.ofInt v259_) rfl d_M_builds_69 ?_
                    refine zr_callV (hf_N236_.w hW) hf_N236_.x (pc := 70) [.int (Int32.ofInt v259_)] [] l_M_232 (c_M_subIndex l N236_ (hf_N236_.w hW) v259_ hv259_a hv259_b (show 0 ≤ ze N236_ 81 25 by first | assumption | omega) (show ze N236_ 81 25 ≤ 128 by first | assumption | omega)) rfl rfl rfl (by decide) (Nat.le_of_ble_eq_true rfl) d_M_builds_70 ?_
                    rintro _ N260_ ⟨v261_, rfl, ⟨hv261_a, hv261_b⟩, hsN260_, hp0_N260_⟩
                    obtain rfl := hsN260_.eq.symm
                    replace hp0_N260_ : ((0 ≤ v261_ ∧ v261_ < ze N236_ 81 25 ∧ ze N236_ 89 (v261_).toNat = v259_) ∨ (v261_ = -1 ∧ ∀ k : Nat, (k : Int) < ze N236_ 81 25 → ze N236_ 89 k ≠ v259_)) := hp0_N260_
                    rcases hp0_N260_ with ⟨ha70_0_hp0_N260_, ha70_1_hp0_N260_, ha70_2_hp0_N260_⟩ | ⟨rfl, ha70_0_hp0_N260_⟩
                    · skip
                      show zW l m_M_builds (zn Mz + 0, zw Mz + 0) N236_ 73 [some (.ref 81), some (.int (Int32.ofInt u18_)), some (.int (Int32.ofInt u235_)), some (.int (Int32.ofInt v259_))] [.int (Int32.ofInt v261_)] (zpV [20, 25, 26] [85, 86, 87, 88, 89, 90, 91, 92, 93, 94] Mz (fun N => ∃ T : zGT, T ∈ gTabs ∧ zGB T N ∧ zTm (zMvs Mz) T))
                      refine zw_iconst (pc := 73) (v := Int32.ofInt (-1)) (by decide) d_M_builds_73 ?_
                      refine zr_icmp_eq (pc := 74) (tgt := 80) ⟨hv261_a, hv261_b⟩ ⟨(by decide), (by decide)⟩ (by decide) d_M_builds_74 (fun hc_74 => ?_) (fun hc_74 => ?_)
                      · skip
                        refine zw_aload_n (pc := 80) (n := 0) (x := 81) rfl d_M_builds_80 ?_
                        refine zr_getF (r := 89) (hf_N236_.w hW) (pc := 81) f_M_38 rfl (zh_89 (hf_N236_.w hW)).1 d_M_builds_81 ?_
                        refine zw_aload_n (pc := 84) (n := 0) (x := 81) rfl d_M_builds_84 ?_
                        refine zr_getI (hf_N236_.w hW) (pc := 85) f_M_220 rfl d_M_builds_85 ?_
                        refine zw_iload_n (pc := 88) (n := 3) (x := Int32.ofInt v259_) rfl d_M_builds_88 ?_
                        refine zr_iast (pc := 89) (zh_89 (hf_N236_.w hW)).2 (by decide) (by decide) (by omega) (by omega) d_M_builds_89 (fun N262_ hN262_ hsN262_ => ?_)
                        have hf_N262_ : zFr [20, 25, 26] [85, 86, 87, 88, 89, 90, 91, 92, 93, 94] Mz N262_ := hf_N236_.tr hsN262_ (by decide) (by decide)
                        have hb0_N262_ : zFr [25] [89] N12_ N262_ := hb0_N236_.tr hsN262_ (by decide) (by decide)
                        have hb1_N262_ : zFr [25] [89] N19_ N262_ := hs237_.tr hsN262_ (by decide) (by decide)
                        have e12_N262_ : ze N262_ 81 12 = ze N236_ 81 12 := hsN262_.e (by decide)
                        have e13_N262_ : ze N262_ 81 13 = ze N236_ 81 13 := hsN262_.e (by decide)
                        have e20_N262_ : ze N262_ 81 20 = ze N236_ 81 20 := hsN262_.e (by decide)
                        have e25_N262_ : ze N262_ 81 25 = ze N236_ 81 25 := hsN262_.e (by decide)
                        have e26_N262_ : ze N262_ 81 26 = ze N236_ 81 26 := hsN262_.e (by decide)
                        have c263_ : zPm N262_ := zPm.fr hsN262_ c247_ (by decide) (by decide)
                        have c264_ : zFin N262_ := zFin.fr hsN262_ c248_ (by decide) (by decide)
                        have c265_ : zB 83 24 0 5 N262_ := zB.fr hsN262_ c249_ (by decide) (by decide)
                        have c266_ : zB 85 144 0 5 N262_ := zB.fr hsN262_ c250_ (by decide) (by decide)
                        have c267_ : zTab T N262_ := zTab.fr hsN262_ c251_ (by decide) (by decide)
                        refine zw_aload_n (pc := 90) (n := 0) (x := 81) rfl d_M_builds_90 ?_
                        refine zw_dup (pc := 91) rfl d_M_builds_91 ?_
                        refine zr_getI (hf_N262_.w hW) (pc := 92) f_M_220 rfl d_M_builds_92 ?_
                        refine zw_iconst (pc := 95) (v := Int32.ofInt 1) (by decide) d_M_builds_95 ?_
                        refine zr_iadd (pc := 96) d_M_builds_96 ?_
                        refine zr_putI (hf_N262_.w hW) (pc := 97) f_M_220 rfl rfl ⟨by omega, by omega⟩ rfl rfl d_M_builds_97 (fun N268_ hsN268_ hvN268_ => ?_)
                        have hf_N268_ : zFr [20, 25, 26] [85, 86, 87, 88, 89, 90, 91, 92, 93, 94] Mz N268_ := hf_N262_.tr hsN268_ (by decide) (by decide)
                        have hb0_N268_ : zFr [25] [89] N12_ N268_ := hb0_N262_.tr hsN268_ (by decide) (by decide)
                        have hb1_N268_ : zFr [25] [89] N19_ N268_ := hb1_N262_.tr hsN268_ (by decide) (by decide)
                        have e12_N268_ : ze N268_ 81 12 = ze N262_ 81 12 := hsN268_.e (by decide)
                        have e13_N268_ : ze N268_ 81 13 = ze N262_ 81 13 := hsN268_.e (by decide)
                        have e20_N268_ : ze N268_ 81 20 = ze N262_ 81 20 := hsN268_.e (by decide)
                        have r25_N268_ := ze_r N268_ 81 25
                        have e26_N268_ : ze N268_ 81 26 = ze N262_ 81 26 := hsN268_.e (by decide)
                        have c269_ : zPm N268_ := zPm.fr hsN268_ c263_ (by decide) (by decide)
                        have c270_ : zFin N268_ := zFin.fr hsN268_ c264_ (by decide) (by decide)
                        have c271_ : zB 83 24 0 5 N268_ := zB.fr hsN268_ c265_ (by decide) (by decide)
                        have c272_ : zB 85 144 0 5 N268_ := zB.fr hsN268_ c266_ (by decide) (by decide)
                        have c273_ : zTab T N268_ := zTab.fr hsN268_ c267_ (by decide) (by decide)
                        have hA := zJ_a hO (by omega) (by omega) (by omega) (k := u18_) (g := u235_) (show zJ T N236_ (ze N236_ 81 25) by assumption) (show zX T N236_ (ze N236_ 81 25) u18_ u235_ by assumption) rfl (by omega) hLr (by first | assumption | (intro _ _; exfalso; omega)) hN262_
                        have hJa := zJ.e (fun k => hsN268_.ie (q := 89) (by decide) (by decide) k) hA.1
                        have hXa := zX.e (fun k => hsN268_.ie (q := 89) (by decide) (by decide) k) hA.2
                        rw [show ze N236_ 81 25 + 1 = ze N268_ 81 25 by omega] at hJa hXa
                        refine zr_iinc (pc := 100) (i := 2) (a := u235_) (n := 1) (L2 := [some (.ref 81), some (.int (Int32.ofInt u18_)), some (.int (Int32.ofInt (u235_ + 1))), some (.int (Int32.ofInt v259_))]) rfl (by decide) rfl d_M_builds_100 ?_
                        refine zw_goto (pc := 103) (tgt := 29) (by decide) d_M_builds_103 ?_
                        have hJn : zJ T N268_ (ze N268_ 81 25) := by first | assumption | exact hJa
                        have hXn : zX T N268_ (ze N268_ 81 25) u18_ (u235_ + 1) := by first | exact hXa | exact zX_f (by omega) (by omega) (by assumption) rfl hLr (by assumption) (by omega) | exact zX_b (by omega) (by omega) (by assumption) (by assumption) (by assumption)
                        have hle := zJ_le hO hJn
                        refine zW_le [some (.ref 81), some (.int (Int32.ofInt u18_)), some (.int (Int32.ofInt (u235_ + 1))), none] (⟨rfl, rfl, rfl, trivial⟩) ?_
                        exact ih_29 (u235_ + 1) (by omega) (by omega) N268_ hb1_N268_ (show ze N268_ 81 20 = (gN T : Int) by first | assumption | omega) (show 1 ≤ ze N268_ 81 25 by first | assumption | omega) (show ze N268_ 81 25 ≤ 64 by first | assumption | omega) (show 0 ≤ u18_ by first | assumption | omega) (show u18_ < ze N268_ 81 25 by first | assumption | omega) (show 1 ≤ (u235_ + 1) by first | assumption | omega) (show (u235_ + 1) ≤ ze N268_ 81 20 by first | assumption | omega) (show zJ T N268_ (ze N268_ 81 25) by first | assumption | omega) (show zX T N268_ (ze N268_ 81 25) u18_ (u235_ + 1) by first | assumption | omega) (by omega)
                      · skip
                        refine zw_goto (pc := 77) (tgt := 100) (by decide) d_M_builds_77 ?_
                        refine zr_iinc (pc := 100) (i := 2) (a := u235_) (n := 1) (L2 := [some (.ref 81), some (.int (Int32.ofInt u18_)), some (.int (Int32.ofInt (u235_ + 1))), some (.int (Int32.ofInt v259_))]) rfl (by decide) rfl d_M_builds_100 ?_
                        refine zw_goto (pc := 103) (tgt := 29) (by decide) d_M_builds_103 ?_
                        have hJn : zJ T N236_ (ze N236_ 81 25) := by first | assumption | exact hJa
                        have hXn : zX T N236_ (ze N236_ 81 25) u18_ (u235_ + 1) := by first | exact hXa | exact zX_f (by omega) (by omega) (by assumption) rfl hLr (by assumption) (by omega) | exact zX_b (by omega) (by omega) (by assumption) (by assumption) (by assumption)
                        have hle := zJ_le hO hJn
                        refine zW_le [some (.ref 81), some (.int (Int32.ofInt u18_)), some (.int (Int32.ofInt (u235_ + 1))), none] (⟨rfl, rfl, rfl, trivial⟩) ?_
                        exact ih_29 (u235_ + 1) (by omega) (by omega) N236_ hs237_ (show ze N236_ 81 20 = (gN T : Int) by first | assumption | omega) (show 1 ≤ ze N236_ 81 25 by first | assumption | omega) (show ze N236_ 81 25 ≤ 64 by first | assumption | omega) (show 0 ≤ u18_ by first | assumption | omega) (show u18_ < ze N236_ 81 25 by first | assumption | omega) (show 1 ≤ (u235_ + 1) by first | assumption | omega) (show (u235_ + 1) ≤ ze N236_ 81 20 by first | assumption | omega) (show zJ T N236_ (ze N236_ 81 25) by first | assumption | omega) (show zX T N236_ (ze N236_ 81 25) u18_ (u235_ + 1) by first | assumption | omega) (by omega)
                    · skip
                      show zW l m_M_builds (zn Mz + 0, zw Mz + 0) N236_ 73 [some (.ref 81), some (.int (Int32.ofInt u18_)), some (.int (Int32.ofInt u235_)), some (.int (Int32.ofInt v259_))] [.int (Int32.ofInt ((-1)))] (zpV [20, 25, 26] [85, 86, 87, 88, 89, 90, 91, 92, 93, 94] Mz (fun N => ∃ T : zGT, T ∈ gTabs ∧ zGB T N ∧ zTm (zMvs Mz) T))
                      refine zw_iconst (pc := 73) (v := Int32.ofInt (-1)) (by decide) d_M_builds_73 ?_
                      refine zr_icmp_eq (pc := 74) (tgt := 80) ⟨(by decide), (by decide)⟩ ⟨(by decide), (by decide)⟩ (by decide) d_M_builds_74 (fun hc_74 => ?_) (fun hc_74 => ?_)
                      · skip
                        refine zw_aload_n (pc := 80) (n := 0) (x := 81) rfl d_M_builds_80 ?_
                        refine zr_getF (r := 89) (hf_N236_.w hW) (pc := 81) f_M_38 rfl (zh_89 (hf_N236_.w hW)).1 d_M_builds_81 ?_
                        refine zw_aload_n (pc := 84) (n := 0) (x := 81) rfl d_M_builds_84 ?_
                        refine zr_getI (hf_N236_.w hW) (pc := 85) f_M_220 rfl d_M_builds_85 ?_
                        refine zw_iload_n (pc := 88) (n := 3) (x := Int32.ofInt v259_) rfl d_M_builds_88 ?_
                        refine zr_iast (pc := 89) (zh_89 (hf_N236_.w hW)).2 (by decide) (by decide) (by omega) (by omega) d_M_builds_89 (fun N274_ hN274_ hsN274_ => ?_)
                        have hf_N274_ : zFr [20, 25, 26] [85, 86, 87, 88, 89, 90, 91, 92, 93, 94] Mz N274_ := hf_N236_.tr hsN274_ (by decide) (by decide)
                        have hb0_N274_ : zFr [25] [89] N12_ N274_ := hb0_N236_.tr hsN274_ (by decide) (by decide)
                        have hb1_N274_ : zFr [25] [89] N19_ N274_ := hs237_.tr hsN274_ (by decide) (by decide)
                        have e12_N274_ : ze N274_ 81 12 = ze N236_ 81 12 := hsN274_.e (by decide)
                        have e13_N274_ : ze N274_ 81 13 = ze N236_ 81 13 := hsN274_.e (by decide)
                        have e20_N274_ : ze N274_ 81 20 = ze N236_ 81 20 := hsN274_.e (by decide)
                        have e25_N274_ : ze N274_ 81 25 = ze N236_ 81 25 := hsN274_.e (by decide)
                        have e26_N274_ : ze N274_ 81 26 = ze N236_ 81 26 := hsN274_.e (by decide)
                        have c275_ : zPm N274_ := zPm.fr hsN274_ c247_ (by decide) (by decide)
                        have c276_ : zFin N274_ := zFin.fr hsN274_ c248_ (by decide) (by decide)
                        have c277_ : zB 83 24 0 5 N274_ := zB.fr hsN274_ c249_ (by decide) (by decide)
                        have c278_ : zB 85 144 0 5 N274_ := zB.fr hsN274_ c250_ (by decide) (by decide)
                        have c279_ : zTab T N274_ := zTab.fr hsN274_ c251_ (by decide) (by decide)
                        refine zw_aload_n (pc := 90) (n := 0) (x := 81) rfl d_M_builds_90 ?_
                        refine zw_dup (pc := 91) rfl d_M_builds_91 ?_
                        refine zr_getI (hf_N274_.w hW) (pc := 92) f_M_220 rfl d_M_builds_92 ?_
                        refine zw_iconst (pc := 95) (v := Int32.ofInt 1) (by decide) d_M_builds_95 ?_
                        refine zr_iadd (pc := 96) d_M_builds_96 ?_
                        refine zr_putI (hf_N274_.w hW) (pc := 97) f_M_220 rfl rfl ⟨by omega, by omega⟩ rfl rfl d_M_builds_97 (fun N280_ hsN280_ hvN280_ => ?_)
                        have hf_N280_ : zFr [20, 25, 26] [85, 86, 87, 88, 89, 90, 91, 92, 93, 94] Mz N280_ := hf_N274_.tr hsN280_ (by decide) (by decide)
                        have hb0_N280_ : zFr [25] [89] N12_ N280_ := hb0_N274_.tr hsN280_ (by decide) (by decide)
                        have hb1_N280_ : zFr [25] [89] N19_ N280_ := hb1_N274_.tr hsN280_ (by decide) (by decide)
                        have e12_N280_ : ze N280_ 81 12 = ze N274_ 81 12 := hsN280_.e (by decide)
                        have e13_N280_ : ze N280_ 81 13 = ze N274_ 81 13 := hsN280_.e (by decide)
                        have e20_N280_ : ze N280_ 81 20 = ze N274_ 81 20 := hsN280_.e (by decide)
                        have r25_N280_ := ze_r N280_ 81 25
                        have e26_N280_ : ze N280_ 81 26 = ze N274_ 81 26 := hsN280_.e (by decide)
                        have c281_ : zPm N280_ := zPm.fr hsN280_ c275_ (by decide) (by decide)
                        have c282_ : zFin N280_ := zFin.fr hsN280_ c276_ (by decide) (by decide)
                        have c283_ : zB 83 24 0 5 N280_ := zB.fr hsN280_ c277_ (by decide) (by decide)
                        have c284_ : zB 85 144 0 5 N280_ := zB.fr hsN280_ c278_ (by decide) (by decide)
                        have c285_ : zTab T N280_ := zTab.fr hsN280_ c279_ (by decide) (by decide)
                        have hA := zJ_a hO (by omega) (by omega) (by omega) (k := u18_) (g := u235_) (show zJ T N236_ (ze N236_ 81 25) by assumption) (show zX T N236_ (ze N236_ 81 25) u18_ u235_ by assumption) rfl (by omega) hLr (by first | assumption | (intro _ _; exfalso; omega)) hN274_
                        have hJa := zJ.e (fun k => hsN280_.ie (q := 89) (by decide) (by decide) k) hA.1
                        have hXa := zX.e (fun k => hsN280_.ie (q := 89) (by decide) (by decide) k) hA.2
                        rw [show ze N236_ 81 25 + 1 = ze N280_ 81 25 by omega] at hJa hXa
                        refine zr_iinc (pc := 100) (i := 2) (a := u235_) (n := 1) (L2 := [some (.ref 81), some (.int (Int32.ofInt u18_)), some (.int (Int32.ofInt (u235_ + 1))), some (.int (Int32.ofInt v259_))]) rfl (by decide) rfl d_M_builds_100 ?_
                        refine zw_goto (pc := 103) (tgt := 29) (by decide) d_M_builds_103 ?_
                        have hJn : zJ T N280_ (ze N280_ 81 25) := by first | assumption | exact hJa
                        have hXn : zX T N280_ (ze N280_ 81 25) u18_ (u235_ + 1) := by first | exact hXa | exact zX_f (by omega) (by omega) (by assumption) rfl hLr (by assumption) (by omega) | exact zX_b (by omega) (by omega) (by assumption) (by assumption) (by assumption)
                        have hle := zJ_le hO hJn
                        refine zW_le [some (.ref 81), some (.int (Int32.ofInt u18_)), some (.int (Int32.ofInt (u235_ + 1))), none] (⟨rfl, rfl, rfl, trivial⟩) ?_
                        exact ih_29 (u235_ + 1) (by omega) (by omega) N280_ hb1_N280_ (show ze N280_ 81 20 = (gN T : Int) by first | assumption | omega) (show 1 ≤ ze N280_ 81 25 by first | assumption | omega) (show ze N280_ 81 25 ≤ 64 by first | assumption | omega) (show 0 ≤ u18_ by first | assumption | omega) (show u18_ < ze N280_ 81 25 by first | assumption | omega) (show 1 ≤ (u235_ + 1) by first | assumption | omega) (show (u235_ + 1) ≤ ze N280_ 81 20 by first | assumption | omega) (show zJ T N280_ (ze N280_ 81 25) by first | assumption | omega) (show zX T N280_ (ze N280_ 81 25) u18_ (u235_ + 1) by first | assumption | omega) (by omega)
                      · skip
                        exact absurd hc_74 (by decide)
                  · skip
                    exact absurd hc_47 (by decide)
          exact lp_29 _ 1 (by decide) (by decide) N19_ zFr.rf (show ze N19_ 81 20 = (gN T : Int) by first | assumption | omega) (show 1 ≤ ze N19_ 81 25 by first | assumption | omega) (show ze N19_ 81 25 ≤ 64 by first | assumption | omega) (show 0 ≤ u18_ by first | assumption | omega) (show u18_ < ze N19_ 81 25 by first | assumption | omega) (show 1 ≤ (1 : Int) by first | assumption | omega) (show (1 : Int) ≤ ze N19_ 81 20 by first | assumption | omega) (show zJ T N19_ (ze N19_ 81 25) by first | assumption | omega) (show zX T N19_ (ze N19_ 81 25) u18_ (1 : Int) by first | assumption | omega) (Nat.lt_succ_self _)
    exact lp_19 _ 0 (by decide) (by decide) N12_ zFr.rf (show ze N12_ 81 20 = (gN T : Int) by first | assumption | omega) (show 1 ≤ ze N12_ 81 25 by first | assumption | omega) (show ze N12_ 81 25 ≤ 64 by first | assumption | omega) (show 0 ≤ (0 : Int) by first | assumption | omega) (show (0 : Int) ≤ ze N12_ 81 25 by first | assumption | omega) (show zJ T N12_ (ze N12_ 81 25) by rw [show ze N12_ 81 25 = 1 by omega]; exact zJ_0 hO hz0) (show zX T N12_ (ze N12_ 81 25) (0 : Int) 0 by exact zX_0) (Nat.lt_succ_self _)
  · skip
    exact absurd p5_ ha1_0_hp1_N1_
