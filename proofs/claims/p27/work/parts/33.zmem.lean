set_option maxHeartbeats 40000000 in
theorem c_M_buildsMembers (l : Launch) (Mz : zMem) (hW : zMt Mz) (p0_ : 1 ≤ ze Mz 81 12) (p1_ : ze Mz 81 12 ≤ 6) (p2_ : 0 ≤ ze Mz 81 13) (p3_ : ze Mz 81 13 ≤ 4) (p4_ : zPm Mz) (p5_ : zB 83 24 0 5 Mz) (p6_ : zB 85 144 0 5 Mz) : zC l m_M_buildsMembers 0 0 [.ref 81] Mz (zpI [20] [85, 86, 87, 88] Mz (fun v N => zB 85 144 0 5 N ∧ (((v = 1 ∧ zFin Mz ∧ 1 ≤ ze N 81 20 ∧ ze N 81 20 ≤ 24 ∧ (∃ T : zGT, T ∈ gTabs ∧ zTab T N)) ∨ (v = 0 ∧ ¬ zFin Mz))))) := by
  refine zC_of (L0 := [some (.ref 81), none, none, none]) md_M_buildsMembers (Nat.le_of_ble_eq_true rfl) rfl ?_ zQ0
  have hf : zFr [20] [85, 86, 87, 88] Mz Mz := zFr.rf
  have r_12 := ze_r Mz 81 12
  have r_13 := ze_r Mz 81 13
  have r_20 := ze_r Mz 81 20
  have hPS_ : zPS Mz := ⟨⟨p0_, p1_⟩, ⟨p2_, p3_⟩, p4_, p5_⟩
  refine zw_aload_n (pc := 0) (n := 0) (x := 81) rfl (zdal_p dlC_M_buildsMembers_15 (i := 0) rfl) ?_
  refine zw_iconst (pc := 1) (v := Int32.ofInt 1) (by decide) (zdal_p dlC_M_buildsMembers_15 (i := 1) rfl) ?_
  refine zr_putI (hf.w hW) (pc := 2) f_M_196 rfl rfl ⟨by (decide), by (decide)⟩ rfl rfl (zdal_p dlC_M_buildsMembers_15 (i := 2) rfl) (fun N1_ hsN1_ hvN1_ => ?_)
  have hf_N1_ : zFr [20] [85, 86, 87, 88] Mz N1_ := hf.tr hsN1_ (by decide) (by decide)
  have e12_N1_ : ze N1_ 81 12 = ze Mz 81 12 := hsN1_.e (by decide)
  have e13_N1_ : ze N1_ 81 13 = ze Mz 81 13 := hsN1_.e (by decide)
  have r20_N1_ := ze_r N1_ 81 20
  have c2_ : zPm N1_ := zPm.fr hsN1_ p4_ (by decide) (by decide)
  have c3_ : zB 83 24 0 5 N1_ := zB.fr hsN1_ p5_ (by decide) (by decide)
  have c4_ : zB 85 144 0 5 N1_ := zB.fr hsN1_ p6_ (by decide) (by decide)
  refine zw_iconst (pc := 5) (v := Int32.ofInt 0) (by decide) (zdal_p dlC_M_buildsMembers_15 (i := 3) rfl) ?_
  refine zw_istore_n (pc := 6) (i := 1) (L2 := [some (.ref 81), some (.int (Int32.ofInt 0)), none, none]) rfl (by decide) rfl (zdal_p dlC_M_buildsMembers_15 (i := 4) rfl) ?_
  have lp_7 : ∀ (n : Nat) (u5_ : Int) (hu5_a : -2147483648 ≤ u5_) (hu5_b : u5_ < 2147483648) (N6_ : zMem) (hs7_ : zFr [] [85] N1_ N6_) (i8_ : 0 ≤ u5_) (i9_ : u5_ ≤ 6) (i10_ : ∀ q : Nat, (q : Int) < u5_ → ze N6_ 85 q = q) (i11_ : ze N6_ 81 20 = 1) (i12_ : zB 85 144 0 5 N6_), (6 - u5_).toNat < n → zW l m_M_buildsMembers (zn Mz + 0, zw Mz + 0) N6_ 7 [some (.ref 81), some (.int (Int32.ofInt u5_)), none, none] [] (zpI [20] [85, 86, 87, 88] Mz (fun v N => zB 85 144 0 5 N ∧ (((v = 1 ∧ zFin Mz ∧ 1 ≤ ze N 81 20 ∧ ze N 81 20 ≤ 24 ∧ (∃ T : zGT, T ∈ gTabs ∧ zTab T N)) ∨ (v = 0 ∧ ¬ zFin Mz))))) := by
    intro n
    induction n with
    | zero =>
      intro u5_ hu5_a hu5_b N6_ hs7_ i8_ i9_ i10_ i11_ i12_ h0
      exact absurd h0 (Nat.not_lt_zero _)
    | succ n ih_7 =>
      intro u5_ hu5_a hu5_b N6_ hs7_ i8_ i9_ i10_ i11_ i12_ hlt_7
      have hf_N6_ : zFr [20] [85, 86, 87, 88] Mz N6_ := hf_N1_.tr hs7_ (by decide) (by decide)
      have e12_N6_ : ze N6_ 81 12 = ze N1_ 81 12 := hs7_.e (by decide)
      have e13_N6_ : ze N6_ 81 13 = ze N1_ 81 13 := hs7_.e (by decide)
      have e20_N6_ : ze N6_ 81 20 = ze N1_ 81 20 := hs7_.e (by decide)
      have c13_ : zPm N6_ := zPm.fr hs7_ c2_ (by decide) (by decide)
      have c14_ : zB 83 24 0 5 N6_ := zB.fr hs7_ c3_ (by decide) (by decide)
      refine zw_iload_n (pc := 7) (n := 1) (x := Int32.ofInt u5_) rfl (zdal_p dlC_M_buildsMembers_15 (i := 5) rfl) ?_
      refine zw_bipush (pc := 8) (v := Int32.ofInt 6) (by decide) (zdal_p dlC_M_buildsMembers_15 (i := 6) rfl) ?_
      refine zr_icmp_ge (pc := 10) (tgt := 26) ⟨hu5_a, hu5_b⟩ ⟨(by decide), (by decide)⟩ (by decide) (zdal_p dlC_M_buildsMembers_15 (i := 7) rfl) (fun hc_10 => ?_) (fun hc_10 => ?_)
      · skip
        have hB0_ := zBs_0 (M0 := Mz) (N := N6_) (by (exact i11_)) (fun q hq => (show ∀ q : Nat, (q : Int) < u5_ → ze N6_ 85 q = q by assumption) q (by (exact zo_635 hc_10 hq)))
        refine zw_iconst (pc := 26) (v := Int32.ofInt 0) (by decide) (zdal_p dlC_M_buildsMembers_15 (i := 15) rfl) ?_
        refine zw_istore_n (pc := 27) (i := 1) (L2 := [some (.ref 81), some (.int (Int32.ofInt 0)), none, none]) rfl (by decide) rfl (zdal_p dlC_M_buildsMembers_15 (i := 16) rfl) ?_
        have lp_28 : ∀ (n : Nat) (u15_ : Int) (hu15_a : -2147483648 ≤ u15_) (hu15_b : u15_ < 2147483648) (N16_ : zMem) (hs17_ : zFr [20] [85, 86] N6_ N16_) (i18_ : 0 ≤ u15_) (i19_ : u15_ ≤ ze N16_ 81 20) (i20_ : zBs Mz N16_) (i21_ : zBc Mz N16_ u15_ 0) (i22_ : 1 ≤ ze N16_ 81 20) (i23_ : ze N16_ 81 20 ≤ 24) (i24_ : zB 85 144 0 5 N16_), (25 - u15_).toNat < n → zW l m_M_buildsMembers (zn Mz + 0, zw Mz + 0) N16_ 28 [some (.ref 81), some (.int (Int32.ofInt u15_)), none, none] [] (zpI [20] [85, 86, 87, 88] Mz (fun v N => zB 85 144 0 5 N ∧ (((v = 1 ∧ zFin Mz ∧ 1 ≤ ze N 81 20 ∧ ze N 81 20 ≤ 24 ∧ (∃ T : zGT, T ∈ gTabs ∧ zTab T N)) ∨ (v = 0 ∧ ¬ zFin Mz))))) := by
          intro n
          induction n with
          | zero =>
            intro u15_ hu15_a hu15_b N16_ hs17_ i18_ i19_ i20_ i21_ i22_ i23_ i24_ h0
            exact absurd h0 (Nat.not_lt_zero _)
          | succ n ih_28 =>
            intro u15_ hu15_a hu15_b N16_ hs17_ i18_ i19_ i20_ i21_ i22_ i23_ i24_ hlt_28
            have hf_N16_ : zFr [20] [85, 86, 87, 88] Mz N16_ := hf_N6_.tr hs17_ (by decide) (by decide)
            have e12_N16_ : ze N16_ 81 12 = ze N6_ 81 12 := hs17_.e (by decide)
            have e13_N16_ : ze N16_ 81 13 = ze N6_ 81 13 := hs17_.e (by decide)
            have r20_N16_ := ze_r N16_ 81 20
            have c25_ : zPm N16_ := zPm.fr hs17_ c13_ (by decide) (by decide)
            have c26_ : zB 83 24 0 5 N16_ := zB.fr hs17_ c14_ (by decide) (by decide)
            refine zw_iload_n (pc := 28) (n := 1) (x := Int32.ofInt u15_) rfl (zdal_p dlC_M_buildsMembers_15 (i := 17) rfl) ?_
            refine zw_aload_n (pc := 29) (n := 0) (x := 81) rfl (zdal_p dlC_M_buildsMembers_15 (i := 18) rfl) ?_
            refine zr_getI (hf_N16_.w hW) (pc := 30) f_M_196 rfl (zdal_p dlC_M_buildsMembers_15 (i := 19) rfl) ?_
            refine zr_icmp_ge (pc := 33) (tgt := 169) ⟨hu15_a, hu15_b⟩ ⟨(ze_r N16_ 81 20).1, (ze_r N16_ 81 20).2⟩ (by decide) (zdal_p dlC_M_buildsMembers_15 (i := 20) rfl) (fun hc_33 => ?_) (fun hc_33 => ?_)
            · skip
              have hGr_ := zGr_i (show zBs Mz N16_ by assumption) (show zBc Mz N16_ u15_ 0 by assumption) (by (exact hc_33))
              have hFin_ := hGr_.2
              refine zw_iconst (pc := 169) (v := Int32.ofInt 0) (by decide) (zdal_p dlC_M_buildsMembers_19 (i := 0) rfl) ?_
              refine zw_istore_n (pc := 170) (i := 1) (L2 := [some (.ref 81), some (.int (Int32.ofInt 0)), none, none]) rfl (by decide) rfl (zdal_p dlC_M_buildsMembers_19 (i := 1) rfl) ?_
              have lp_171 : ∀ (n : Nat) (u27_ : Int) (hu27_a : -2147483648 ≤ u27_) (hu27_b : u27_ < 2147483648) (N28_ : zMem) (hs29_ : zFr [] [85] N16_ N28_) (i30_ : 0 ≤ u27_) (i31_ : u27_ ≤ ze N28_ 81 20) (i32_ : zGr Mz N28_) (i33_ : zSt Mz N28_ u27_) (i34_ : 1 ≤ ze N28_ 81 20) (i35_ : ze N28_ 81 20 ≤ 24) (i36_ : zB 85 144 0 5 N28_), (25 - u27_).toNat < n → zW l m_M_buildsMembers (zn Mz + 0, zw Mz + 0) N28_ 171 [some (.ref 81), some (.int (Int32.ofInt u27_)), none, none] [] (zpI [20] [85, 86, 87, 88] Mz (fun v N => zB 85 144 0 5 N ∧ (((v = 1 ∧ zFin Mz ∧ 1 ≤ ze N 81 20 ∧ ze N 81 20 ≤ 24 ∧ (∃ T : zGT, T ∈ gTabs ∧ zTab T N)) ∨ (v = 0 ∧ ¬ zFin Mz))))) := by
                intro n
                induction n with
                | zero =>
                  intro u27_ hu27_a hu27_b N28_ hs29_ i30_ i31_ i32_ i33_ i34_ i35_ i36_ h0
                  exact absurd h0 (Nat.not_lt_zero _)
                | succ n ih_171 =>
                  intro u27_ hu27_a hu27_b N28_ hs29_ i30_ i31_ i32_ i33_ i34_ i35_ i36_ hlt_171
                  have hf_N28_ : zFr [20] [85, 86, 87, 88] Mz N28_ := hf_N16_.tr hs29_ (by decide) (by decide)
                  have e12_N28_ : ze N28_ 81 12 = ze N16_ 81 12 := hs29_.e (by decide)
                  have e13_N28_ : ze N28_ 81 13 = ze N16_ 81 13 := hs29_.e (by decide)
                  have e20_N28_ : ze N28_ 81 20 = ze N16_ 81 20 := hs29_.e (by decide)
                  have c37_ : zPm N28_ := zPm.fr hs29_ c25_ (by decide) (by decide)
                  have c38_ : zB 83 24 0 5 N28_ := zB.fr hs29_ c26_ (by decide) (by decide)
                  refine zw_iload_n (pc := 171) (n := 1) (x := Int32.ofInt u27_) rfl (zdal_p dlC_M_buildsMembers_19 (i := 2) rfl) ?_
                  refine zw_aload_n (pc := 172) (n := 0) (x := 81) rfl (zdal_p dlC_M_buildsMembers_19 (i := 3) rfl) ?_
                  refine zr_getI (hf_N28_.w hW) (pc := 173) f_M_196 rfl (zdal_p dlC_M_buildsMembers_19 (i := 4) rfl) ?_
                  refine zr_icmp_ge (pc := 176) (tgt := 218) ⟨hu27_a, hu27_b⟩ ⟨(ze_r N28_ 81 20).1, (ze_r N28_ 81 20).2⟩ (by decide) (zdal_p dlC_M_buildsMembers_19 (i := 5) rfl) (fun hc_176 => ?_) (fun hc_176 => ?_)
                  · skip
                    obtain ⟨T, hT_⟩ := zTb_i p4_ hFin_ (show zGr Mz N28_ by assumption) (show zSt Mz N28_ u27_ by assumption) (by (exact hc_176))
                    have hgn_ := hT_.2.1
                    have h24_ : gN T ≤ 24 := by (exact zo_636 hgn_ i35_)
                    refine zw_iconst (pc := 218) (v := Int32.ofInt 0) (by decide) (zdal_p dlC_M_buildsMembers_20 (i := 3) rfl) ?_
                    refine zw_istore_n (pc := 219) (i := 1) (L2 := [some (.ref 81), some (.int (Int32.ofInt 0)), none, none]) rfl (by decide) rfl (zdal_p dlC_M_buildsMembers_20 (i := 4) rfl) ?_
                    have lp_220 : ∀ (n : Nat) (u39_ : Int) (hu39_a : -2147483648 ≤ u39_) (hu39_b : u39_ < 2147483648) (N40_ : zMem) (hs41_ : zFr [] [86, 87, 88] N28_ N40_) (i42_ : 0 ≤ u39_) (i43_ : u39_ ≤ ze N40_ 81 20) (i44_ : zTb Mz N40_ T) (i45_ : zGr Mz N40_) (i46_ : zPq N40_ T u39_ 0) (i47_ : ze N40_ 81 20 = (gN T : Int)) (i48_ : 1 ≤ ze N40_ 81 20) (i49_ : ze N40_ 81 20 ≤ 24), (25 - u39_).toNat < n → zW l m_M_buildsMembers (zn Mz + 0, zw Mz + 0) N40_ 220 [some (.ref 81), some (.int (Int32.ofInt u39_)), none, none] [] (zpI [20] [85, 86, 87, 88] Mz (fun v N => zB 85 144 0 5 N ∧ (((v = 1 ∧ zFin Mz ∧ 1 ≤ ze N 81 20 ∧ ze N 81 20 ≤ 24 ∧ (∃ T : zGT, T ∈ gTabs ∧ zTab T N)) ∨ (v = 0 ∧ ¬ zFin Mz))))) := by
                      intro n
                      induction n with
                      | zero =>
                        intro u39_ hu39_a hu39_b N40_ hs41_ i42_ i43_ i44_ i45_ i46_ i47_ i48_ i49_ h0
                        exact absurd h0 (Nat.not_lt_zero _)
                      | succ n ih_220 =>
                        intro u39_ hu39_a hu39_b N40_ hs41_ i42_ i43_ i44_ i45_ i46_ i47_ i48_ i49_ hlt_220
                        have hf_N40_ : zFr [20] [85, 86, 87, 88] Mz N40_ := hf_N28_.tr hs41_ (by decide) (by decide)
                        have e12_N40_ : ze N40_ 81 12 = ze N28_ 81 12 := hs41_.e (by decide)
                        have e13_N40_ : ze N40_ 81 13 = ze N28_ 81 13 := hs41_.e (by decide)
                        have e20_N40_ : ze N40_ 81 20 = ze N28_ 81 20 := hs41_.e (by decide)
                        have c50_ : zPm N40_ := zPm.fr hs41_ c37_ (by decide) (by decide)
                        have c51_ : zB 83 24 0 5 N40_ := zB.fr hs41_ c38_ (by decide) (by decide)
                        have c52_ : zB 85 144 0 5 N40_ := zB.fr hs41_ i36_ (by decide) (by decide)
                        refine zw_iload_n (pc := 220) (n := 1) (x := Int32.ofInt u39_) rfl (zdal_p dlC_M_buildsMembers_20 (i := 5) rfl) ?_
                        refine zw_aload_n (pc := 221) (n := 0) (x := 81) rfl (zdal_p dlC_M_buildsMembers_20 (i := 6) rfl) ?_
                        refine zr_getI (hf_N40_.w hW) (pc := 222) f_M_196 rfl (zdal_p dlC_M_buildsMembers_20 (i := 7) rfl) ?_
                        refine zr_icmp_ge (pc := 225) (tgt := 329) ⟨hu39_a, hu39_b⟩ ⟨(ze_r N40_ 81 20).1, (ze_r N40_ 81 20).2⟩ (by decide) (zdal_p dlC_M_buildsMembers_20 (i := 8) rfl) (fun hc_225 => ?_) (fun hc_225 => ?_)
                        · skip
                          refine zw_iconst (pc := 329) (v := Int32.ofInt 1) (by decide) (zdal_p dlC_M_buildsMembers_22 (i := 22) rfl) ?_
                          exact zr_iret (pc := 330) (ty := .boolean) rfl (z_narB (by (decide))) ⟨by (decide), by (decide)⟩ hf_N40_ ⟨c52_, (show ((1 = 1 ∧ zFin Mz ∧ 1 ≤ ze N40_ 81 20 ∧ ze N40_ 81 20 ≤ 24 ∧ (∃ T : zGT, T ∈ gTabs ∧ zTab T N40_)) ∨ (1 = 0 ∧ ¬ zFin Mz)) from Or.inl (⟨(show 1 = 1 by first | exact hFin_ | (decide) | exact ⟨T, hT_.1, zPq_e (show zTb Mz N40_ T by assumption) (show zPq N40_ T u39_ 0 by assumption) (by omega)⟩), (show zFin Mz by first | exact hFin_ | omega | exact ⟨T, hT_.1, zPq_e (show zTb Mz N40_ T by assumption) (show zPq N40_ T u39_ 0 by assumption) (by omega)⟩), (show 1 ≤ ze N40_ 81 20 by first | exact hFin_ | (exact i48_) | exact ⟨T, hT_.1, zPq_e (show zTb Mz N40_ T by assumption) (show zPq N40_ T u39_ 0 by assumption) (by omega)⟩), (show ze N40_ 81 20 ≤ 24 by first | exact hFin_ | (exact i49_) | exact ⟨T, hT_.1, zPq_e (show zTb Mz N40_ T by assumption) (show zPq N40_ T u39_ 0 by assumption) (by omega)⟩), (show (∃ T : zGT, T ∈ gTabs ∧ zTab T N40_) by first | exact hFin_ | omega | exact ⟨T, hT_.1, zPq_e (show zTb Mz N40_ T by assumption) (show zPq N40_ T u39_ 0 by assumption) (by (exact zo_637 h24_ hc_225 i42_ i47_))⟩)⟩))⟩ (zdal_p dlC_M_buildsMembers_22 (i := 23) rfl)
                        · skip
                          refine zw_iconst (pc := 228) (v := Int32.ofInt 0) (by decide) (zdal_p dlC_M_buildsMembers_20 (i := 9) rfl) ?_
                          refine zw_istore_n (pc := 229) (i := 2) (L2 := [some (.ref 81), some (.int (Int32.ofInt u39_)), some (.int (Int32.ofInt 0)), none]) rfl (by decide) rfl (zdal_p dlC_M_buildsMembers_20 (i := 10) rfl) ?_
                          have lp_230 : ∀ (n : Nat) (u53_ : Int) (hu53_a : -2147483648 ≤ u53_) (hu53_b : u53_ < 2147483648) (N54_ : zMem) (hs55_ : zFr [] [86, 87, 88] N40_ N54_) (i56_ : u39_ < ze N54_ 81 20) (i57_ : 0 ≤ u53_) (i58_ : u53_ ≤ ze N54_ 81 20) (i59_ : zTb Mz N54_ T) (i60_ : zGr Mz N54_) (i61_ : zPq N54_ T u39_ u53_) (i62_ : zPu N54_ T u39_ u53_) (i63_ : ze N54_ 81 20 = (gN T : Int)) (i64_ : 1 ≤ ze N54_ 81 20) (i65_ : ze N54_ 81 20 ≤ 24), (25 - u53_).toNat < n → zW l m_M_buildsMembers (zn Mz + 0, zw Mz + 0) N54_ 230 [some (.ref 81), some (.int (Int32.ofInt u39_)), some (.int (Int32.ofInt u53_)), none] [] (zpI [20] [85, 86, 87, 88] Mz (fun v N => zB 85 144 0 5 N ∧ (((v = 1 ∧ zFin Mz ∧ 1 ≤ ze N 81 20 ∧ ze N 81 20 ≤ 24 ∧ (∃ T : zGT, T ∈ gTabs ∧ zTab T N)) ∨ (v = 0 ∧ ¬ zFin Mz))))) := by
                            intro n
                            induction n with
                            | zero =>
                              intro u53_ hu53_a hu53_b N54_ hs55_ i56_ i57_ i58_ i59_ i60_ i61_ i62_ i63_ i64_ i65_ h0
                              exact absurd h0 (Nat.not_lt_zero _)
                            | succ n ih_230 =>
                              intro u53_ hu53_a hu53_b N54_ hs55_ i56_ i57_ i58_ i59_ i60_ i61_ i62_ i63_ i64_ i65_ hlt_230
                              have hf_N54_ : zFr [20] [85, 86, 87, 88] Mz N54_ := hf_N40_.tr hs55_ (by decide) (by decide)
                              have hb0_N54_ : zFr [] [86, 87, 88] N28_ N54_ := hs41_.tr hs55_ (by decide) (by decide)
                              have e12_N54_ : ze N54_ 81 12 = ze N40_ 81 12 := hs55_.e (by decide)
                              have e13_N54_ : ze N54_ 81 13 = ze N40_ 81 13 := hs55_.e (by decide)
                              have e20_N54_ : ze N54_ 81 20 = ze N40_ 81 20 := hs55_.e (by decide)
                              have c66_ : zPm N54_ := zPm.fr hs55_ c50_ (by decide) (by decide)
                              have c67_ : zB 83 24 0 5 N54_ := zB.fr hs55_ c51_ (by decide) (by decide)
                              have c68_ : zB 85 144 0 5 N54_ := zB.fr hs55_ c52_ (by decide) (by decide)
                              refine zw_iload_n (pc := 230) (n := 2) (x := Int32.ofInt u53_) rfl (zdal_p dlC_M_buildsMembers_20 (i := 11) rfl) ?_
                              refine zw_aload_n (pc := 231) (n := 0) (x := 81) rfl (zdal_p dlC_M_buildsMembers_20 (i := 12) rfl) ?_
                              refine zr_getI (hf_N54_.w hW) (pc := 232) f_M_196 rfl (zdal_p dlC_M_buildsMembers_20 (i := 13) rfl) ?_
                              refine zr_icmp_ge (pc := 235) (tgt := 323) ⟨hu53_a, hu53_b⟩ ⟨(ze_r N54_ 81 20).1, (ze_r N54_ 81 20).2⟩ (by decide) (zdal_p dlC_M_buildsMembers_20 (i := 14) rfl) (fun hc_235 => ?_) (fun hc_235 => ?_)
                              · skip
                                have n1_ := zPq_n (show zTb Mz N54_ T by assumption) (by (exact i42_)) (show zPq N54_ T u39_ u53_ by assumption) (show zPu N54_ T u39_ u53_ by assumption) (by (exact zo_638 h24_ hc_235 hu53_b i57_ i58_ i63_ i65_))
                                refine zr_iinc (pc := 323) (i := 1) (a := u39_) (n := 1) (L2 := [some (.ref 81), some (.int (Int32.ofInt (u39_ + 1))), some (.int (Int32.ofInt u53_)), none]) rfl (by decide) rfl (zdal_p dlC_M_buildsMembers_22 (i := 20) rfl) ?_
                                refine zw_goto (pc := 326) (tgt := 220) (by decide) (zdal_p dlC_M_buildsMembers_22 (i := 21) rfl) ?_
                                refine zW_le [some (.ref 81), some (.int (Int32.ofInt (u39_ + 1))), none, none] (⟨rfl, rfl, trivial⟩) ?_
                                exact ih_220 (u39_ + 1) (by (exact zo_74 i42_)) (by (exact zo_639 hc_225 hu39_b i49_)) N54_ hb0_N54_ (show 0 ≤ (u39_ + 1) by first | assumption | (exact zo_76 i42_)) (show (u39_ + 1) ≤ ze N54_ 81 20 by first | assumption | omega) (show zTb Mz N54_ T by first | assumption | omega) (show zGr Mz N54_ by first | assumption | omega) (show zPq N54_ T (u39_ + 1) 0 by exact n1_) (show ze N54_ 81 20 = (gN T : Int) by first | assumption | omega) (show 1 ≤ ze N54_ 81 20 by first | assumption | omega) (show ze N54_ 81 20 ≤ 24 by first | assumption | omega) (by (exact zo_640 hc_225 hlt_220 hu39_b i42_ i49_))
                              · skip
                                refine zw_iconst (pc := 238) (v := Int32.ofInt 0) (by decide) (zdal_p dlC_M_buildsMembers_20 (i := 15) rfl) ?_
                                refine zw_istore_n (pc := 239) (i := 3) (L2 := [some (.ref 81), some (.int (Int32.ofInt u39_)), some (.int (Int32.ofInt u53_)), some (.int (Int32.ofInt 0))]) rfl (by decide) rfl (zdal_p dlC_M_buildsMembers_20 (i := 16) rfl) ?_
                                have lp_240 : ∀ (n : Nat) (u69_ : Int) (hu69_a : -2147483648 ≤ u69_) (hu69_b : u69_ < 2147483648) (N70_ : zMem) (hs71_ : zFr [] [86] N54_ N70_) (i72_ : 0 ≤ u69_) (i73_ : u69_ ≤ ze Mz 81 12) (i74_ : zCg Mz N70_ u39_ u53_ 1 u69_) (i75_ : zTb Mz N70_ T) (i76_ : zGr Mz N70_) (i77_ : zPq N70_ T u39_ u53_) (i78_ : zPu N70_ T u39_ u53_), (ze Mz 81 12 - u69_).toNat < n → zW l m_M_buildsMembers (zn Mz + 0, zw Mz + 0) N70_ 240 [some (.ref 81), some (.int (Int32.ofInt u39_)), some (.int (Int32.ofInt u53_)), some (.int (Int32.ofInt u69_))] [] (zpI [20] [85, 86, 87, 88] Mz (fun v N => zB 85 144 0 5 N ∧ (((v = 1 ∧ zFin Mz ∧ 1 ≤ ze N 81 20 ∧ ze N 81 20 ≤ 24 ∧ (∃ T : zGT, T ∈ gTabs ∧ zTab T N)) ∨ (v = 0 ∧ ¬ zFin Mz))))) := by
                                  intro n
                                  induction n with
                                  | zero =>
                                    intro u69_ hu69_a hu69_b N70_ hs71_ i72_ i73_ i74_ i75_ i76_ i77_ i78_ h0
                                    exact absurd h0 (Nat.not_lt_zero _)
                                  | succ n ih_240 =>
                                    intro u69_ hu69_a hu69_b N70_ hs71_ i72_ i73_ i74_ i75_ i76_ i77_ i78_ hlt_240
                                    have hf_N70_ : zFr [20] [85, 86, 87, 88] Mz N70_ := hf_N54_.tr hs71_ (by decide) (by decide)
                                    have hb0_N70_ : zFr [] [86, 87, 88] N28_ N70_ := hb0_N54_.tr hs71_ (by decide) (by decide)
                                    have hb1_N70_ : zFr [] [86, 87, 88] N40_ N70_ := hs55_.tr hs71_ (by decide) (by decide)
                                    have e12_N70_ : ze N70_ 81 12 = ze N54_ 81 12 := hs71_.e (by decide)
                                    have e13_N70_ : ze N70_ 81 13 = ze N54_ 81 13 := hs71_.e (by decide)
                                    have e20_N70_ : ze N70_ 81 20 = ze N54_ 81 20 := hs71_.e (by decide)
                                    have c79_ : zPm N70_ := zPm.fr hs71_ c66_ (by decide) (by decide)
                                    have c80_ : zB 83 24 0 5 N70_ := zB.fr hs71_ c67_ (by decide) (by decide)
                                    have c81_ : zB 85 144 0 5 N70_ := zB.fr hs71_ c68_ (by decide) (by decide)
                                    refine zw_iload_n (pc := 240) (n := 3) (x := Int32.ofInt u69_) rfl (zdal_p dlC_M_buildsMembers_20 (i := 17) rfl) ?_
                                    refine zw_aload_n (pc := 241) (n := 0) (x := 81) rfl (zdal_p dlC_M_buildsMembers_20 (i := 18) rfl) ?_
                                    refine zr_getI0 hf_N70_ hW (pc := 242) (by decide) f_M_115 rfl (zdal_p dlC_M_buildsMembers_20 (i := 19) rfl) ?_
                                    refine zr_icmp_ge (pc := 245) (tgt := 281) ⟨hu69_a, hu69_b⟩ ⟨(ze_r Mz 81 12).1, (ze_r Mz 81 12).2⟩ (by decide) (zdal_p dlC_M_buildsMembers_20 (i := 20) rfl) (fun hc_245 => ?_) (fun hc_245 => ?_)
                                    · skip
                                      have hcg_ := (show zCg Mz N70_ u39_ u53_ 1 u69_ by assumption)
                                      have hgr_ := (show zGr Mz N70_ by assumption)
                                      have hcc_ := zCg_c hPS_ c81_ (by (exact zo_641 hu39_b i42_ i56_ i65_)) (hgr_.g (i := (u39_).toNat) (by (exact zo_642 e20_N70_ hu39_b i42_ i56_ i64_ i65_))) (by (exact hc_245)) hcg_ (Or.inr ⟨rfl, by (exact i57_), by (exact zo_643 hc_235 hu53_b i65_)⟩)
                                      rw [if_neg (by decide)] at hcc_
                                      have hcb_ := zCg_b (P := ze Mz 81 12) hcg_ (by (exact hc_245))
                                      refine zw_aload_n (pc := 281) (n := 0) (x := 81) rfl (zdal_p dlC_M_buildsMembers_21 (i := 18) rfl) ?_
                                      refine zr_getF (r := 87) (hf_N70_.w hW) (pc := 282) f_M_32 rfl (zh_87 (hf_N70_.w hW)).1 (zdal_p dlC_M_buildsMembers_21 (i := 19) rfl) ?_
                                      refine zw_bipush (pc := 285) (v := Int32.ofInt 24) (by decide) (zdal_p dlC_M_buildsMembers_21 (i := 20) rfl) ?_
                                      refine zw_iload_n (pc := 287) (n := 1) (x := Int32.ofInt u39_) rfl (zdal_p dlC_M_buildsMembers_21 (i := 21) rfl) ?_
                                      refine zr_imul (pc := 288) (zdal_p dlC_M_buildsMembers_21 (i := 22) rfl) ?_
                                      refine zw_iload_n (pc := 289) (n := 2) (x := Int32.ofInt u53_) rfl (zdal_p dlC_M_buildsMembers_21 (i := 23) rfl) ?_
                                      refine zr_iadd (pc := 290) (zdal_p dlC_M_buildsMembers_22 (i := 0) rfl) ?_
                                      refine zw_aload_n (pc := 291) (n := 0) (x := 81) rfl (zdal_p dlC_M_buildsMembers_22 (i := 1) rfl) ?_
                                      refine zr_callV (hf_N70_.w hW) hf_N70_.x (pc := 292) [] [.int (Int32.ofInt ((24 * u39_) + u53_)), .ref 87] l_M_202 (c_M_indexOf l N70_ (hf_N70_.w hW) (ze Mz 81 12) (show 0 ≤ ze N70_ 81 20 by first | assumption | (exact zo_568 e20_N70_ i64_)) (show ze N70_ 81 20 ≤ 24 by first | assumption | (exact zo_644 e20_N70_ i65_)) (show ze N70_ 81 12 = (ze Mz 81 12) by first | assumption | (exact zo_645 e12_N16_ e12_N1_ e12_N28_ e12_N40_ e12_N54_ e12_N6_ e12_N70_)) (show 1 ≤ (ze Mz 81 12) by first | assumption | omega) (show (ze Mz 81 12) ≤ 6 by first | assumption | omega) c81_ (show zCb N70_ (ze Mz 81 12) by first | assumption | omega)) rfl rfl rfl (by decide) (Nat.le_of_ble_eq_true rfl) (zdal_p dlC_M_buildsMembers_22 (i := 2) rfl) ?_
                                      rintro _ N82_ ⟨v83_, rfl, ⟨hv83_a, hv83_b⟩, hsN82_, hp0_N82_⟩
                                      obtain rfl := hsN82_.eq.symm
                                      replace hp0_N82_ : ((0 ≤ v83_ ∧ v83_ < ze N70_ 81 20 ∧ zFnd N70_ v83_ (ze Mz 81 12)) ∨ (v83_ = -1 ∧ zNo2 N70_ (ze Mz 81 12))) := hp0_N82_
                                      rcases hp0_N82_ with ⟨ha292_0_hp0_N82_, ha292_1_hp0_N82_, ha292_2_hp0_N82_⟩ | ⟨rfl, ha292_0_hp0_N82_⟩
                                      · skip
                                        have hpv_ := zTb.p (show zTb Mz N70_ T by assumption) ⟨by (exact i42_), by (exact zo_646 e20_N70_ ha292_0_hp0_N82_ ha292_1_hp0_N82_ hu39_b i56_ i65_)⟩ ⟨by (exact i57_), by (exact zo_647 e20_N70_ ha292_0_hp0_N82_ ha292_1_hp0_N82_ hc_235 hu53_b i65_)⟩ hcc_ (Or.inl ⟨ha292_0_hp0_N82_, ha292_1_hp0_N82_, ha292_2_hp0_N82_⟩)
                                        show zW l m_M_buildsMembers (zn Mz + 0, zw Mz + 0) N70_ 295 [some (.ref 81), some (.int (Int32.ofInt u39_)), some (.int (Int32.ofInt u53_)), some (.int (Int32.ofInt u69_))] [.int (Int32.ofInt v83_), .int (Int32.ofInt ((24 * u39_) + u53_)), .ref 87] _
                                        refine zr_iast (pc := 295) (zh_87 (hf_N70_.w hW)).2 (by decide) (by decide) (by (exact zo_543 i42_ i57_)) (by (exact zo_648 hc_225 hc_235 hu53_b i49_ i65_)) (zdal_p dlC_M_buildsMembers_22 (i := 3) rfl) (fun N84_ hN84_ hsN84_ => ?_)
                                        have hf_N84_ : zFr [20] [85, 86, 87, 88] Mz N84_ := hf_N70_.tr hsN84_ (by decide) (by decide)
                                        have hb0_N84_ : zFr [] [86, 87, 88] N28_ N84_ := hb0_N70_.tr hsN84_ (by decide) (by decide)
                                        have hb1_N84_ : zFr [] [86, 87, 88] N40_ N84_ := hb1_N70_.tr hsN84_ (by decide) (by decide)
                                        have e12_N84_ : ze N84_ 81 12 = ze N70_ 81 12 := hsN84_.e (by decide)
                                        have e13_N84_ : ze N84_ 81 13 = ze N70_ 81 13 := hsN84_.e (by decide)
                                        have e20_N84_ : ze N84_ 81 20 = ze N70_ 81 20 := hsN84_.e (by decide)
                                        have c85_ : zPm N84_ := zPm.fr hsN84_ c79_ (by decide) (by decide)
                                        have c86_ : zB 83 24 0 5 N84_ := zB.fr hsN84_ c80_ (by decide) (by decide)
                                        have c87_ : zB 85 144 0 5 N84_ := zB.fr hsN84_ c81_ (by decide) (by decide)
                                        have hq_ := zPq_s h24_ (by (exact i42_)) (by (exact i57_)) (by (exact zo_649 hc_235 hu53_b i63_ i65_)) (by (exact zo_650 hc_225 hu39_b i47_ i56_ i65_)) (show zPq N70_ T u39_ u53_ by assumption) (show zPu N70_ T u39_ u53_ by assumption) hpv_.1 (by (exact zo_651 e20_N70_ ha292_1_hp0_N82_ hv83_b i65_)) hN84_
                                        have hq3_ := hq_.2.2
                                        have hg1_ := zTb.fr hsN84_ (show zTb Mz N70_ T by assumption) (by decide) (by decide)
                                        have hg2_ := zGr.fr hsN84_ (show zGr Mz N70_ by assumption) (by decide) (by decide)
                                        refine zw_aload_n (pc := 296) (n := 0) (x := 81) rfl (zdal_p dlC_M_buildsMembers_22 (i := 4) rfl) ?_
                                        refine zr_getF (r := 87) (hf_N84_.w hW) (pc := 297) f_M_32 rfl (zh_87 (hf_N84_.w hW)).1 (zdal_p dlC_M_buildsMembers_22 (i := 5) rfl) ?_
                                        refine zw_bipush (pc := 300) (v := Int32.ofInt 24) (by decide) (zdal_p dlC_M_buildsMembers_22 (i := 6) rfl) ?_
                                        refine zw_iload_n (pc := 302) (n := 1) (x := Int32.ofInt u39_) rfl (zdal_p dlC_M_buildsMembers_22 (i := 7) rfl) ?_
                                        refine zr_imul (pc := 303) (zdal_p dlC_M_buildsMembers_22 (i := 8) rfl) ?_
                                        refine zw_iload_n (pc := 304) (n := 2) (x := Int32.ofInt u53_) rfl (zdal_p dlC_M_buildsMembers_22 (i := 9) rfl) ?_
                                        refine zr_iadd (pc := 305) (zdal_p dlC_M_buildsMembers_22 (i := 10) rfl) ?_
                                        refine zr_ialdn (pc := 306) (zh_87 (hf_N84_.w hW)).2 (by decide) (by (exact zo_543 i42_ i57_)) (by (exact zo_648 hc_225 hc_235 hu53_b i49_ i65_)) (zdal_p dlC_M_buildsMembers_22 (i := 11) rfl) (fun v88_ hv88_ hv88_a hv88_b => ?_)
                                        refine zr_if_ne (pc := 307) (tgt := 317) ⟨hv88_a, hv88_b⟩ (by decide) (zdal_p dlC_M_buildsMembers_22 (i := 12) rfl) (fun hc_307 => ?_) (fun hc_307 => ?_)
                                        · skip
                                          refine zr_iinc (pc := 317) (i := 2) (a := u53_) (n := 1) (L2 := [some (.ref 81), some (.int (Int32.ofInt u39_)), some (.int (Int32.ofInt (u53_ + 1))), some (.int (Int32.ofInt u69_))]) rfl (by decide) rfl (zdal_p dlC_M_buildsMembers_22 (i := 18) rfl) ?_
                                          refine zw_goto (pc := 320) (tgt := 230) (by decide) (zdal_p dlC_M_buildsMembers_22 (i := 19) rfl) ?_
                                          have k1_ : zPq N84_ T u39_ (u53_ + 1) := by first | exact hw_.1 | exact hq_.1
                                          have k2_ : zPu N84_ T u39_ (u53_ + 1) := by first | exact hw_.2 | exact zPu_n (by (exact i57_)) hq_.2.1 (by (exact zo_652 ha292_0_hp0_N82_ hpv_.1 hq_.2.2 hv88_ hc_307))
                                          have k3_ : zTb Mz N84_ T := by first | exact hj1_ | exact hg1_
                                          have k4_ : zGr Mz N84_ := by first | exact hj2_ | exact hg2_
                                          refine zW_le [some (.ref 81), some (.int (Int32.ofInt u39_)), some (.int (Int32.ofInt (u53_ + 1))), none] (⟨rfl, rfl, rfl, trivial⟩) ?_
                                          exact ih_230 (u53_ + 1) (by (exact zo_74 i57_)) (by (exact zo_639 hc_235 hu53_b i65_)) N84_ hb1_N84_ (show u39_ < ze N84_ 81 20 by first | assumption | (exact zo_653 e20_N70_ e20_N84_ hu39_b i56_ i64_ i65_)) (show 0 ≤ (u53_ + 1) by first | assumption | (exact zo_76 i57_)) (show (u53_ + 1) ≤ ze N84_ 81 20 by first | assumption | (exact zo_654 e20_N70_ e20_N84_ hc_235 hu53_b i64_ i65_)) (show zTb Mz N84_ T by exact k3_) (show zGr Mz N84_ by exact k4_) (show zPq N84_ T u39_ (u53_ + 1) by exact k1_) (show zPu N84_ T u39_ (u53_ + 1) by exact k2_) (show ze N84_ 81 20 = (gN T : Int) by first | assumption | (exact zo_655 e20_N70_ e20_N84_ i63_ i65_)) (show 1 ≤ ze N84_ 81 20 by first | assumption | (exact zo_560 e20_N70_ e20_N84_ i64_)) (show ze N84_ 81 20 ≤ 24 by first | assumption | (exact zo_656 e20_N70_ e20_N84_ i65_)) (by (exact zo_640 hc_235 hlt_230 hu53_b i57_ i65_))
                                        · skip
                                          refine zw_aload_n (pc := 310) (n := 0) (x := 81) rfl (zdal_p dlC_M_buildsMembers_22 (i := 13) rfl) ?_
                                          refine zr_getF (r := 88) (hf_N84_.w hW) (pc := 311) f_M_35 rfl (zh_88 (hf_N84_.w hW)).1 (zdal_p dlC_M_buildsMembers_22 (i := 14) rfl) ?_
                                          refine zw_iload_n (pc := 314) (n := 1) (x := Int32.ofInt u39_) rfl (zdal_p dlC_M_buildsMembers_22 (i := 15) rfl) ?_
                                          refine zw_iload_n (pc := 315) (n := 2) (x := Int32.ofInt u53_) rfl (zdal_p dlC_M_buildsMembers_22 (i := 16) rfl) ?_
                                          refine zr_iast (pc := 316) (zh_88 (hf_N84_.w hW)).2 (by decide) (by decide) (by (exact i42_)) (by (exact zo_657 hu39_b i56_ i65_)) (zdal_p dlC_M_buildsMembers_22 (i := 17) rfl) (fun N89_ hN89_ hsN89_ => ?_)
                                          have hf_N89_ : zFr [20] [85, 86, 87, 88] Mz N89_ := hf_N84_.tr hsN89_ (by decide) (by decide)
                                          have hb0_N89_ : zFr [] [86, 87, 88] N28_ N89_ := hb0_N84_.tr hsN89_ (by decide) (by decide)
                                          have hb1_N89_ : zFr [] [86, 87, 88] N40_ N89_ := hb1_N84_.tr hsN89_ (by decide) (by decide)
                                          have e12_N89_ : ze N89_ 81 12 = ze N84_ 81 12 := hsN89_.e (by decide)
                                          have e13_N89_ : ze N89_ 81 13 = ze N84_ 81 13 := hsN89_.e (by decide)
                                          have e20_N89_ : ze N89_ 81 20 = ze N84_ 81 20 := hsN89_.e (by decide)
                                          have c90_ : zPm N89_ := zPm.fr hsN89_ c85_ (by decide) (by decide)
                                          have c91_ : zB 83 24 0 5 N89_ := zB.fr hsN89_ c86_ (by decide) (by decide)
                                          have c92_ : zB 85 144 0 5 N89_ := zB.fr hsN89_ c87_ (by decide) (by decide)
                                          have hw_ := zPu_s h24_ (by (exact i42_)) (by (exact i57_)) (by (exact zo_643 hc_235 hu53_b i65_)) hq_.1 (by (exact zo_658 hc_307 hpv_.1 hq_.2.2 hv83_b hv88_)) hN89_
                                          have hj1_ := zTb.fr hsN89_ hg1_ (by decide) (by decide)
                                          have hj2_ := zGr.fr hsN89_ hg2_ (by decide) (by decide)
                                          refine zr_iinc (pc := 317) (i := 2) (a := u53_) (n := 1) (L2 := [some (.ref 81), some (.int (Int32.ofInt u39_)), some (.int (Int32.ofInt (u53_ + 1))), some (.int (Int32.ofInt u69_))]) rfl (by decide) rfl (zdal_p dlC_M_buildsMembers_22 (i := 18) rfl) ?_
                                          refine zw_goto (pc := 320) (tgt := 230) (by decide) (zdal_p dlC_M_buildsMembers_22 (i := 19) rfl) ?_
                                          have k1_ : zPq N89_ T u39_ (u53_ + 1) := by first | exact hw_.1 | exact hq_.1
                                          have k2_ : zPu N89_ T u39_ (u53_ + 1) := by first | exact hw_.2 | exact zPu_n (by omega) hq_.2.1 (by omega)
                                          have k3_ : zTb Mz N89_ T := by first | exact hj1_ | exact hg1_
                                          have k4_ : zGr Mz N89_ := by first | exact hj2_ | exact hg2_
                                          refine zW_le [some (.ref 81), some (.int (Int32.ofInt u39_)), some (.int (Int32.ofInt (u53_ + 1))), none] (⟨rfl, rfl, rfl, trivial⟩) ?_
                                          exact ih_230 (u53_ + 1) (by (exact zo_74 i57_)) (by (exact zo_639 hc_235 hu53_b i65_)) N89_ hb1_N89_ (show u39_ < ze N89_ 81 20 by first | assumption | (exact zo_659 e20_N70_ e20_N84_ e20_N89_ hu39_b i56_ i64_ i65_)) (show 0 ≤ (u53_ + 1) by first | assumption | (exact zo_76 i57_)) (show (u53_ + 1) ≤ ze N89_ 81 20 by first | assumption | (exact zo_660 e20_N70_ e20_N84_ e20_N89_ hc_235 hu53_b i64_ i65_)) (show zTb Mz N89_ T by exact k3_) (show zGr Mz N89_ by exact k4_) (show zPq N89_ T u39_ (u53_ + 1) by exact k1_) (show zPu N89_ T u39_ (u53_ + 1) by exact k2_) (show ze N89_ 81 20 = (gN T : Int) by first | assumption | (exact zo_661 e20_N70_ e20_N84_ e20_N89_ i63_ i65_)) (show 1 ≤ ze N89_ 81 20 by first | assumption | (exact zo_662 e20_N70_ e20_N84_ e20_N89_ i64_)) (show ze N89_ 81 20 ≤ 24 by first | assumption | (exact zo_663 e20_N70_ e20_N84_ e20_N89_ i65_)) (by (exact zo_640 hc_235 hlt_230 hu53_b i57_ i65_))
                                      · skip
                                        have hpv_ := zTb.p (v := -1) (show zTb Mz N70_ T by assumption) ⟨by (exact i42_), by (exact zo_664 e20_N70_ hu39_b i56_ i64_ i65_)⟩ ⟨by (exact i57_), by (exact zo_665 e20_N70_ hc_235 hu53_b i64_ i65_)⟩ hcc_ (Or.inr ⟨rfl, ha292_0_hp0_N82_⟩)
                                        exact absurd hpv_.2.1 (by decide)
                                    · skip
                                      refine zw_aload_n (pc := 248) (n := 0) (x := 81) rfl (zdal_p dlC_M_buildsMembers_20 (i := 21) rfl) ?_
                                      refine zr_getF (r := 86) (hf_N70_.w hW) (pc := 249) f_M_29 rfl (zh_86 (hf_N70_.w hW)).1 (zdal_p dlC_M_buildsMembers_20 (i := 22) rfl) ?_
                                      refine zw_iload_n (pc := 252) (n := 3) (x := Int32.ofInt u69_) rfl (zdal_p dlC_M_buildsMembers_20 (i := 23) rfl) ?_
                                      refine zw_aload_n (pc := 253) (n := 0) (x := 81) rfl (zdal_p dlC_M_buildsMembers_21 (i := 0) rfl) ?_
                                      refine zr_getF (r := 85) (hf_N70_.w hW) (pc := 254) f_M_26 rfl (zh_85 (hf_N70_.w hW)).1 (zdal_p dlC_M_buildsMembers_21 (i := 1) rfl) ?_
                                      refine zw_bipush (pc := 257) (v := Int32.ofInt 6) (by decide) (zdal_p dlC_M_buildsMembers_21 (i := 2) rfl) ?_
                                      refine zw_iload_n (pc := 259) (n := 2) (x := Int32.ofInt u53_) rfl (zdal_p dlC_M_buildsMembers_21 (i := 3) rfl) ?_
                                      refine zr_imul (pc := 260) (zdal_p dlC_M_buildsMembers_21 (i := 4) rfl) ?_
                                      refine zw_aload_n (pc := 261) (n := 0) (x := 81) rfl (zdal_p dlC_M_buildsMembers_21 (i := 5) rfl) ?_
                                      refine zr_getF (r := 85) (hf_N70_.w hW) (pc := 262) f_M_26 rfl (zh_85 (hf_N70_.w hW)).1 (zdal_p dlC_M_buildsMembers_21 (i := 6) rfl) ?_
                                      refine zw_bipush (pc := 265) (v := Int32.ofInt 6) (by decide) (zdal_p dlC_M_buildsMembers_21 (i := 7) rfl) ?_
                                      refine zw_iload_n (pc := 267) (n := 1) (x := Int32.ofInt u39_) rfl (zdal_p dlC_M_buildsMembers_21 (i := 8) rfl) ?_
                                      refine zr_imul (pc := 268) (zdal_p dlC_M_buildsMembers_21 (i := 9) rfl) ?_
                                      refine zw_iload_n (pc := 269) (n := 3) (x := Int32.ofInt u69_) rfl (zdal_p dlC_M_buildsMembers_21 (i := 10) rfl) ?_
                                      refine zr_iadd (pc := 270) (zdal_p dlC_M_buildsMembers_21 (i := 11) rfl) ?_
                                      refine zr_ialdn (pc := 271) (zh_85 (hf_N70_.w hW)).2 (by decide) (by (exact zo_666 i42_ i72_)) (by (exact zo_667 hc_245 i56_ i65_ p1_)) (zdal_p dlC_M_buildsMembers_21 (i := 12) rfl) (fun v93_ hv93_ hv93_a hv93_b => ?_)
                                      have hr94_ := c81_.g (e := (6 * u39_) + u69_) (by (exact zo_666 i42_ i72_)) (by (exact zo_667 hc_245 i56_ i65_ p1_))
                                      rw [← hv93_] at hr94_
                                      refine zr_toI (show v93_ = ze N70_ 85 (6 * u39_ + u69_).toNat by (exact hv93_)) ?_
                                      refine zr_iadd (pc := 272) (zdal_p dlC_M_buildsMembers_21 (i := 13) rfl) ?_
                                      refine zr_ialdn (pc := 273) (zh_85 (hf_N70_.w hW)).2 (by decide) (by (exact zo_668 hr94_.1 hv93_ i57_)) (by (exact zo_669 hc_235 hr94_.2 hu53_b hv93_ i65_)) (zdal_p dlC_M_buildsMembers_21 (i := 14) rfl) (fun v95_ hv95_ hv95_a hv95_b => ?_)
                                      have hr96_ := c81_.g (e := (6 * u53_) + (ze N70_ 85 (6 * u39_ + u69_).toNat)) (by (exact zo_668 hr94_.1 hv93_ i57_)) (by (exact zo_669 hc_235 hr94_.2 hu53_b hv93_ i65_))
                                      rw [← hv95_] at hr96_
                                      refine zr_iast (pc := 274) (zh_86 (hf_N70_.w hW)).2 (by decide) (by decide) (by (exact i72_)) (by (exact zo_670 hc_245 p1_)) (zdal_p dlC_M_buildsMembers_21 (i := 15) rfl) (fun N97_ hN97_ hsN97_ => ?_)
                                      have hf_N97_ : zFr [20] [85, 86, 87, 88] Mz N97_ := hf_N70_.tr hsN97_ (by decide) (by decide)
                                      have hb0_N97_ : zFr [] [86, 87, 88] N28_ N97_ := hb0_N70_.tr hsN97_ (by decide) (by decide)
                                      have hb1_N97_ : zFr [] [86, 87, 88] N40_ N97_ := hb1_N70_.tr hsN97_ (by decide) (by decide)
                                      have hb2_N97_ : zFr [] [86] N54_ N97_ := hs71_.tr hsN97_ (by decide) (by decide)
                                      have e12_N97_ : ze N97_ 81 12 = ze N70_ 81 12 := hsN97_.e (by decide)
                                      have e13_N97_ : ze N97_ 81 13 = ze N70_ 81 13 := hsN97_.e (by decide)
                                      have e20_N97_ : ze N97_ 81 20 = ze N70_ 81 20 := hsN97_.e (by decide)
                                      have c98_ : zPm N97_ := zPm.fr hsN97_ c79_ (by decide) (by decide)
                                      have c99_ : zB 83 24 0 5 N97_ := zB.fr hsN97_ c80_ (by decide) (by decide)
                                      have c100_ : zB 85 144 0 5 N97_ := zB.fr hsN97_ c81_ (by decide) (by decide)
                                      have hG_ := zCg_s (show zCg Mz N70_ u39_ u53_ 1 u69_ by assumption) (by (exact i72_)) (by (exact hr96_)) (by rw [if_neg (by decide)]; assumption) (by (exact i42_)) hN97_
                                      have hf0_ := zTb.fr hsN97_ (show zTb Mz N70_ T by assumption) (by decide) (by decide)
                                      have hf1_ := zGr.fr hsN97_ (show zGr Mz N70_ by assumption) (by decide) (by decide)
                                      have hf2_ := zPq.fr hsN97_ (show zPq N70_ T u39_ u53_ by assumption) (by decide)
                                      have hf3_ := zPu.fr hsN97_ (show zPu N70_ T u39_ u53_ by assumption) (by decide)
                                      refine zr_iinc (pc := 275) (i := 3) (a := u69_) (n := 1) (L2 := [some (.ref 81), some (.int (Int32.ofInt u39_)), some (.int (Int32.ofInt u53_)), some (.int (Int32.ofInt (u69_ + 1)))]) rfl (by decide) rfl (zdal_p dlC_M_buildsMembers_21 (i := 16) rfl) ?_
                                      refine zw_goto (pc := 278) (tgt := 240) (by decide) (zdal_p dlC_M_buildsMembers_21 (i := 17) rfl) ?_
                                      exact ih_240 (u69_ + 1) (by (exact zo_74 i72_)) (by (exact zo_671 hc_245 p1_)) N97_ hb2_N97_ (show 0 ≤ (u69_ + 1) by first | assumption | (exact zo_76 i72_)) (show (u69_ + 1) ≤ ze Mz 81 12 by first | assumption | omega) (show zCg Mz N97_ u39_ u53_ 1 (u69_ + 1) by exact hG_) (show zTb Mz N97_ T by exact hf0_) (show zGr Mz N97_ by exact hf1_) (show zPq N97_ T u39_ u53_ by exact hf2_) (show zPu N97_ T u39_ u53_ by exact hf3_) (by (exact zo_147 hc_245 hlt_240))
                                exact lp_240 _ 0 (by decide) (by decide) N54_ zFr.rf (show 0 ≤ (0 : Int) by first | assumption | (decide)) (show (0 : Int) ≤ ze Mz 81 12 by first | assumption | (exact zo_564 p0_)) (show zCg Mz N54_ u39_ u53_ 1 (0 : Int) by exact zCg_0) (show zTb Mz N54_ T by first | assumption | omega) (show zGr Mz N54_ by first | assumption | omega) (show zPq N54_ T u39_ u53_ by first | assumption | omega) (show zPu N54_ T u39_ u53_ by first | assumption | omega) (Nat.lt_succ_self _)
                          exact lp_230 _ 0 (by decide) (by decide) N40_ zFr.rf (show u39_ < ze N40_ 81 20 by first | assumption | omega) (show 0 ≤ (0 : Int) by first | assumption | (decide)) (show (0 : Int) ≤ ze N40_ 81 20 by first | assumption | (exact zo_564 i48_)) (show zTb Mz N40_ T by first | assumption | omega) (show zGr Mz N40_ by first | assumption | omega) (show zPq N40_ T u39_ (0 : Int) by first | assumption | omega) (show zPu N40_ T u39_ (0 : Int) by exact zPu_0) (show ze N40_ 81 20 = (gN T : Int) by first | assumption | omega) (show 1 ≤ ze N40_ 81 20 by first | assumption | omega) (show ze N40_ 81 20 ≤ 24 by first | assumption | omega) (Nat.lt_succ_self _)
                    exact lp_220 _ 0 (by decide) (by decide) N28_ zFr.rf (show 0 ≤ (0 : Int) by first | assumption | (decide)) (show (0 : Int) ≤ ze N28_ 81 20 by first | assumption | (exact zo_564 i34_)) (show zTb Mz N28_ T by exact hT_) (show zGr Mz N28_ by first | assumption | omega) (show zPq N28_ T (0 : Int) 0 by exact zPq_0) (show ze N28_ 81 20 = (gN T : Int) by first | assumption | omega) (show 1 ≤ ze N28_ 81 20 by first | assumption | omega) (show ze N28_ 81 20 ≤ 24 by first | assumption | omega) (Nat.lt_succ_self _)
                  · skip
                    refine zw_iload_n (pc := 179) (n := 1) (x := Int32.ofInt u27_) rfl (zdal_p dlC_M_buildsMembers_19 (i := 6) rfl) ?_
                    refine zw_iconst (pc := 180) (v := Int32.ofInt 1) (by decide) (zdal_p dlC_M_buildsMembers_19 (i := 7) rfl) ?_
                    refine zr_iadd (pc := 181) (zdal_p dlC_M_buildsMembers_19 (i := 8) rfl) ?_
                    refine zw_istore_n (pc := 182) (i := 2) (L2 := [some (.ref 81), some (.int (Int32.ofInt u27_)), some (.int (Int32.ofInt (u27_ + 1))), none]) rfl (by decide) rfl (zdal_p dlC_M_buildsMembers_19 (i := 9) rfl) ?_
                    have lp_183 : ∀ (n : Nat) (u101_ : Int) (hu101_a : -2147483648 ≤ u101_) (hu101_b : u101_ < 2147483648) (N102_ : zMem) (hs103_ : zFr [] [85] N28_ N102_) (i104_ : u27_ < ze N102_ 81 20) (i105_ : u27_ < u101_) (i106_ : u101_ ≤ ze N102_ 81 20) (i107_ : zGr Mz N102_) (i108_ : zSt Mz N102_ u27_) (i109_ : zSu Mz N102_ u27_ u101_) (i110_ : 1 ≤ ze N102_ 81 20) (i111_ : ze N102_ 81 20 ≤ 24) (i112_ : zB 85 144 0 5 N102_), (25 - u101_).toNat < n → zW l m_M_buildsMembers (zn Mz + 0, zw Mz + 0) N102_ 183 [some (.ref 81), some (.int (Int32.ofInt u27_)), some (.int (Int32.ofInt u101_)), none] [] (zpI [20] [85, 86, 87, 88] Mz (fun v N => zB 85 144 0 5 N ∧ (((v = 1 ∧ zFin Mz ∧ 1 ≤ ze N 81 20 ∧ ze N 81 20 ≤ 24 ∧ (∃ T : zGT, T ∈ gTabs ∧ zTab T N)) ∨ (v = 0 ∧ ¬ zFin Mz))))) := by
                      intro n
                      induction n with
                      | zero =>
                        intro u101_ hu101_a hu101_b N102_ hs103_ i104_ i105_ i106_ i107_ i108_ i109_ i110_ i111_ i112_ h0
                        exact absurd h0 (Nat.not_lt_zero _)
                      | succ n ih_183 =>
                        intro u101_ hu101_a hu101_b N102_ hs103_ i104_ i105_ i106_ i107_ i108_ i109_ i110_ i111_ i112_ hlt_183
                        have hf_N102_ : zFr [20] [85, 86, 87, 88] Mz N102_ := hf_N28_.tr hs103_ (by decide) (by decide)
                        have hb0_N102_ : zFr [] [85] N16_ N102_ := hs29_.tr hs103_ (by decide) (by decide)
                        have e12_N102_ : ze N102_ 81 12 = ze N28_ 81 12 := hs103_.e (by decide)
                        have e13_N102_ : ze N102_ 81 13 = ze N28_ 81 13 := hs103_.e (by decide)
                        have e20_N102_ : ze N102_ 81 20 = ze N28_ 81 20 := hs103_.e (by decide)
                        have c113_ : zPm N102_ := zPm.fr hs103_ c37_ (by decide) (by decide)
                        have c114_ : zB 83 24 0 5 N102_ := zB.fr hs103_ c38_ (by decide) (by decide)
                        refine zw_iload_n (pc := 183) (n := 2) (x := Int32.ofInt u101_) rfl (zdal_p dlC_M_buildsMembers_19 (i := 10) rfl) ?_
                        refine zw_aload_n (pc := 184) (n := 0) (x := 81) rfl (zdal_p dlC_M_buildsMembers_19 (i := 11) rfl) ?_
                        refine zr_getI (hf_N102_.w hW) (pc := 185) f_M_196 rfl (zdal_p dlC_M_buildsMembers_19 (i := 12) rfl) ?_
                        refine zr_icmp_ge (pc := 188) (tgt := 212) ⟨hu101_a, hu101_b⟩ ⟨(ze_r N102_ 81 20).1, (ze_r N102_ 81 20).2⟩ (by decide) (zdal_p dlC_M_buildsMembers_19 (i := 13) rfl) (fun hc_188 => ?_) (fun hc_188 => ?_)
                        · skip
                          have h4_ := zSt_n (by (exact i30_)) (show zSt Mz N102_ u27_ by assumption) (show zSu Mz N102_ u27_ u101_ by assumption) (by (exact hc_188))
                          refine zr_iinc (pc := 212) (i := 1) (a := u27_) (n := 1) (L2 := [some (.ref 81), some (.int (Int32.ofInt (u27_ + 1))), some (.int (Int32.ofInt u101_)), none]) rfl (by decide) rfl (zdal_p dlC_M_buildsMembers_20 (i := 1) rfl) ?_
                          refine zw_goto (pc := 215) (tgt := 171) (by decide) (zdal_p dlC_M_buildsMembers_20 (i := 2) rfl) ?_
                          refine zW_le [some (.ref 81), some (.int (Int32.ofInt (u27_ + 1))), none, none] (⟨rfl, rfl, trivial⟩) ?_
                          exact ih_171 (u27_ + 1) (by (exact zo_74 i30_)) (by (exact zo_672 hu27_b i104_ i111_)) N102_ hb0_N102_ (show 0 ≤ (u27_ + 1) by first | assumption | (exact zo_76 i30_)) (show (u27_ + 1) ≤ ze N102_ 81 20 by first | assumption | omega) (show zGr Mz N102_ by first | assumption | omega) (show zSt Mz N102_ (u27_ + 1) by exact h4_) (show 1 ≤ ze N102_ 81 20 by first | assumption | omega) (show ze N102_ 81 20 ≤ 24 by first | assumption | omega) i112_ (by (exact zo_673 hlt_171 hu27_b i104_ i111_ i30_))
                        · skip
                          refine zw_aload_n (pc := 191) (n := 0) (x := 81) rfl (zdal_p dlC_M_buildsMembers_19 (i := 14) rfl) ?_
                          refine zw_iload_n (pc := 192) (n := 1) (x := Int32.ofInt u27_) rfl (zdal_p dlC_M_buildsMembers_19 (i := 15) rfl) ?_
                          refine zw_iload_n (pc := 193) (n := 2) (x := Int32.ofInt u101_) rfl (zdal_p dlC_M_buildsMembers_19 (i := 16) rfl) ?_
                          refine zr_callV (hf_N102_.w hW) hf_N102_.x (pc := 194) [.int (Int32.ofInt u27_), .int (Int32.ofInt u101_)] [] l_M_206 (c_M_isBehind l N102_ (hf_N102_.w hW) u27_ hu27_a hu27_b u101_ hu101_a hu101_b (ze Mz 81 12) (show 0 ≤ u27_ by first | assumption | omega) (show u27_ ≤ 23 by first | assumption | (exact zo_674 hu27_b i104_ i111_)) (show 0 ≤ u101_ by first | assumption | (exact zo_675 hu101_a i105_ i30_)) (show u101_ ≤ 23 by first | assumption | (exact zo_676 hc_188 hu101_b i111_)) (show ze N102_ 81 12 = (ze Mz 81 12) by first | assumption | (exact zo_677 e12_N102_ e12_N16_ e12_N1_ e12_N28_ e12_N6_)) (show 1 ≤ (ze Mz 81 12) by first | assumption | omega) (show (ze Mz 81 12) ≤ 6 by first | assumption | omega) (show 1 ≤ ze N102_ 81 12 by first | assumption | (exact zo_678 e12_N102_ e12_N16_ e12_N1_ e12_N28_ e12_N6_ p0_)) i112_) rfl rfl rfl (by decide) (Nat.le_of_ble_eq_true rfl) (zdal_p dlC_M_buildsMembers_19 (i := 17) rfl) ?_
                          rintro _ N115_ ⟨v116_, rfl, ⟨hv116_a, hv116_b⟩, hsN115_, hp0_N115_⟩
                          obtain rfl := hsN115_.eq.symm
                          replace hp0_N115_ : ((v116_ = 1 ∧ zrc N102_ 85 (u101_).toNat (ze Mz 81 12) < zrc N102_ 85 (u27_).toNat (ze Mz 81 12)) ∨ (v116_ = 0 ∧ zrc N102_ 85 (u27_).toNat (ze Mz 81 12) ≤ zrc N102_ 85 (u101_).toNat (ze Mz 81 12))) := hp0_N115_
                          rcases hp0_N115_ with ⟨rfl, ha194_0_hp0_N115_⟩ | ⟨rfl, ha194_0_hp0_N115_⟩
                          · skip
                            have hlt_ := ha194_0_hp0_N115_
                            show zW l m_M_buildsMembers (zn Mz + 0, zw Mz + 0) N102_ 197 [some (.ref 81), some (.int (Int32.ofInt u27_)), some (.int (Int32.ofInt u101_)), none] [.int (Int32.ofInt 1)] _
                            refine zr_if_eq (pc := 197) (tgt := 206) ⟨(by decide), (by decide)⟩ (by decide) (zdal_p dlC_M_buildsMembers_19 (i := 18) rfl) (fun hc_197 => ?_) (fun hc_197 => ?_)
                            · skip
                              exact absurd hc_197 (by decide)
                            · skip
                              refine zw_aload_n (pc := 200) (n := 0) (x := 81) rfl (zdal_p dlC_M_buildsMembers_19 (i := 19) rfl) ?_
                              refine zw_iload_n (pc := 201) (n := 1) (x := Int32.ofInt u27_) rfl (zdal_p dlC_M_buildsMembers_19 (i := 20) rfl) ?_
                              refine zw_iload_n (pc := 202) (n := 2) (x := Int32.ofInt u101_) rfl (zdal_p dlC_M_buildsMembers_19 (i := 21) rfl) ?_
                              refine zr_callV (hf_N102_.w hW) hf_N102_.x (pc := 203) [.int (Int32.ofInt u27_), .int (Int32.ofInt u101_)] [] l_M_210 (c_M_exchanges l N102_ (hf_N102_.w hW) u27_ hu27_a hu27_b u101_ hu101_a hu101_b (show 0 ≤ u27_ by first | assumption | omega) (show u27_ < u101_ by first | assumption | omega) (show u101_ ≤ 23 by first | assumption | (exact zo_676 hc_188 hu101_b i111_)) i112_) rfl rfl rfl (by decide) (Nat.le_of_ble_eq_true rfl) (zdal_p dlC_M_buildsMembers_19 (i := 22) rfl) ?_
                              rintro _ N117_ ⟨rfl, hsN117_, ⟨hp0_N117_, hp1_N117_⟩⟩
                              have hf_N117_ : zFr [20] [85, 86, 87, 88] Mz N117_ := hf_N102_.tr hsN117_ (by decide) (by decide)
                              have hb0_N117_ : zFr [] [85] N16_ N117_ := hb0_N102_.tr hsN117_ (by decide) (by decide)
                              have hb1_N117_ : zFr [] [85] N28_ N117_ := hs103_.tr hsN117_ (by decide) (by decide)
                              have e12_N117_ : ze N117_ 81 12 = ze N102_ 81 12 := hsN117_.e (by decide)
                              have e13_N117_ : ze N117_ 81 13 = ze N102_ 81 13 := hsN117_.e (by decide)
                              have e20_N117_ : ze N117_ 81 20 = ze N102_ 81 20 := hsN117_.e (by decide)
                              have c119_ : zPm N117_ := zPm.fr hsN117_ c113_ (by decide) (by decide)
                              have c120_ : zB 83 24 0 5 N117_ := zB.fr hsN117_ c114_ (by decide) (by decide)
                              show zW l m_M_buildsMembers (zn Mz + 0, zw Mz + 0) N117_ 206 [some (.ref 81), some (.int (Int32.ofInt u27_)), some (.int (Int32.ofInt u101_)), none] [] _
                              have hE_ := zEx_g (by (exact p1_)) (by (exact i30_)) (by (exact i105_)) (by (exact hc_188)) (show zGr Mz N102_ by assumption) hp0_N117_ (by (exact e20_N117_)) (show zSt Mz N102_ u27_ by assumption) (show zSu Mz N102_ u27_ u101_ by assumption) hlt_
                              refine zr_iinc (pc := 206) (i := 2) (a := u101_) (n := 1) (L2 := [some (.ref 81), some (.int (Int32.ofInt u27_)), some (.int (Int32.ofInt (u101_ + 1))), none]) rfl (by decide) rfl (zdal_p dlC_M_buildsMembers_19 (i := 23) rfl) ?_
                              refine zw_goto (pc := 209) (tgt := 183) (by decide) (zdal_p dlC_M_buildsMembers_20 (i := 0) rfl) ?_
                              have h1_ : zGr Mz N117_ := by first | exact hE_.1 | assumption
                              have h2_ : zSt Mz N117_ u27_ := by first | exact hE_.2.1 | assumption
                              have h3_ : zSu Mz N117_ u27_ (u101_ + 1) := by first | exact hE_.2.2 | exact hu_
                              exact ih_183 (u101_ + 1) (by (exact zo_679 hu101_a)) (by (exact zo_639 hc_188 hu101_b i111_)) N117_ hb1_N117_ (show u27_ < ze N117_ 81 20 by first | assumption | (exact zo_664 e20_N117_ hu27_b i104_ i110_ i111_)) (show u27_ < (u101_ + 1) by first | assumption | (exact zo_680 hu101_a hu27_b i104_ i105_ i111_)) (show (u101_ + 1) ≤ ze N117_ 81 20 by first | assumption | (exact zo_681 e20_N117_ hc_188 hu101_b i110_ i111_)) (show zGr Mz N117_ by exact h1_) (show zSt Mz N117_ u27_ by exact h2_) (show zSu Mz N117_ u27_ (u101_ + 1) by exact h3_) (show 1 ≤ ze N117_ 81 20 by first | assumption | (exact zo_533 e20_N117_ i110_)) (show ze N117_ 81 20 ≤ 24 by first | assumption | (exact zo_644 e20_N117_ i111_)) hp1_N117_ (by (exact zo_682 hc_188 hlt_183 hu101_a hu101_b i111_))
                          · skip
                            have hu_ := zSu_s (by (exact i30_)) (by (exact i105_)) (show zGr Mz N102_ by assumption) (show zSu Mz N102_ u27_ u101_ by assumption) (by (exact hc_188)) ha194_0_hp0_N115_
                            show zW l m_M_buildsMembers (zn Mz + 0, zw Mz + 0) N102_ 197 [some (.ref 81), some (.int (Int32.ofInt u27_)), some (.int (Int32.ofInt u101_)), none] [.int (Int32.ofInt 0)] _
                            refine zr_if_eq (pc := 197) (tgt := 206) ⟨(by decide), (by decide)⟩ (by decide) (zdal_p dlC_M_buildsMembers_19 (i := 18) rfl) (fun hc_197 => ?_) (fun hc_197 => ?_)
                            · skip
                              refine zr_iinc (pc := 206) (i := 2) (a := u101_) (n := 1) (L2 := [some (.ref 81), some (.int (Int32.ofInt u27_)), some (.int (Int32.ofInt (u101_ + 1))), none]) rfl (by decide) rfl (zdal_p dlC_M_buildsMembers_19 (i := 23) rfl) ?_
                              refine zw_goto (pc := 209) (tgt := 183) (by decide) (zdal_p dlC_M_buildsMembers_20 (i := 0) rfl) ?_
                              have h1_ : zGr Mz N102_ := by first | exact hE_.1 | assumption
                              have h2_ : zSt Mz N102_ u27_ := by first | exact hE_.2.1 | assumption
                              have h3_ : zSu Mz N102_ u27_ (u101_ + 1) := by first | exact hE_.2.2 | exact hu_
                              exact ih_183 (u101_ + 1) (by (exact zo_679 hu101_a)) (by (exact zo_639 hc_188 hu101_b i111_)) N102_ hs103_ (show u27_ < ze N102_ 81 20 by first | assumption | omega) (show u27_ < (u101_ + 1) by first | assumption | (exact zo_680 hu101_a hu27_b i104_ i105_ i111_)) (show (u101_ + 1) ≤ ze N102_ 81 20 by first | assumption | omega) (show zGr Mz N102_ by exact h1_) (show zSt Mz N102_ u27_ by exact h2_) (show zSu Mz N102_ u27_ (u101_ + 1) by exact h3_) (show 1 ≤ ze N102_ 81 20 by first | assumption | omega) (show ze N102_ 81 20 ≤ 24 by first | assumption | omega) i112_ (by (exact zo_682 hc_188 hlt_183 hu101_a hu101_b i111_))
                            · skip
                              exact absurd hc_197 (by decide)
                    exact lp_183 _ (u27_ + 1) (by (exact zo_74 i30_)) (by (exact zo_639 hc_176 hu27_b i35_)) N28_ zFr.rf (show u27_ < ze N28_ 81 20 by first | assumption | omega) (show u27_ < (u27_ + 1) by first | assumption | (exact zo_683)) (show (u27_ + 1) ≤ ze N28_ 81 20 by first | assumption | omega) (show zGr Mz N28_ by first | assumption | omega) (show zSt Mz N28_ u27_ by first | assumption | omega) (show zSu Mz N28_ u27_ (u27_ + 1) by exact zSu_0) (show 1 ≤ ze N28_ 81 20 by first | assumption | omega) (show ze N28_ 81 20 ≤ 24 by first | assumption | omega) i36_ (Nat.lt_succ_self _)
              exact lp_171 _ 0 (by decide) (by decide) N16_ zFr.rf (show 0 ≤ (0 : Int) by first | assumption | (decide)) (show (0 : Int) ≤ ze N16_ 81 20 by first | assumption | (exact zo_564 i22_)) (show zGr Mz N16_ by exact hGr_.1) (show zSt Mz N16_ (0 : Int) by exact zSt_0) (show 1 ≤ ze N16_ 81 20 by first | assumption | omega) (show ze N16_ 81 20 ≤ 24 by first | assumption | omega) i24_ (Nat.lt_succ_self _)
            · skip
              refine zw_iconst (pc := 36) (v := Int32.ofInt 0) (by decide) (zdal_p dlC_M_buildsMembers_15 (i := 21) rfl) ?_
              refine zw_istore_n (pc := 37) (i := 2) (L2 := [some (.ref 81), some (.int (Int32.ofInt u15_)), some (.int (Int32.ofInt 0)), none]) rfl (by decide) rfl (zdal_p dlC_M_buildsMembers_15 (i := 22) rfl) ?_
              have lp_38 : ∀ (n : Nat) (u121_ : Int) (hu121_a : -2147483648 ≤ u121_) (hu121_b : u121_ < 2147483648) (N122_ : zMem) (hs123_ : zFr [20] [85, 86] N16_ N122_) (i124_ : 0 ≤ u15_) (i125_ : u15_ < ze N122_ 81 20) (i126_ : 0 ≤ u121_) (i127_ : u121_ ≤ ze Mz 81 13) (i128_ : zBs Mz N122_) (i129_ : zBc Mz N122_ u15_ u121_) (i130_ : 1 ≤ ze N122_ 81 20) (i131_ : ze N122_ 81 20 ≤ 24) (i132_ : zB 85 144 0 5 N122_), (ze Mz 81 13 - u121_).toNat < n → zW l m_M_buildsMembers (zn Mz + 0, zw Mz + 0) N122_ 38 [some (.ref 81), some (.int (Int32.ofInt u15_)), some (.int (Int32.ofInt u121_)), none] [] (zpI [20] [85, 86, 87, 88] Mz (fun v N => zB 85 144 0 5 N ∧ (((v = 1 ∧ zFin Mz ∧ 1 ≤ ze N 81 20 ∧ ze N 81 20 ≤ 24 ∧ (∃ T : zGT, T ∈ gTabs ∧ zTab T N)) ∨ (v = 0 ∧ ¬ zFin Mz))))) := by
                intro n
                induction n with
                | zero =>
                  intro u121_ hu121_a hu121_b N122_ hs123_ i124_ i125_ i126_ i127_ i128_ i129_ i130_ i131_ i132_ h0
                  exact absurd h0 (Nat.not_lt_zero _)
                | succ n ih_38 =>
                  intro u121_ hu121_a hu121_b N122_ hs123_ i124_ i125_ i126_ i127_ i128_ i129_ i130_ i131_ i132_ hlt_38
                  have hf_N122_ : zFr [20] [85, 86, 87, 88] Mz N122_ := hf_N16_.tr hs123_ (by decide) (by decide)
                  have hb0_N122_ : zFr [20] [85, 86] N6_ N122_ := hs17_.tr hs123_ (by decide) (by decide)
                  have e12_N122_ : ze N122_ 81 12 = ze N16_ 81 12 := hs123_.e (by decide)
                  have e13_N122_ : ze N122_ 81 13 = ze N16_ 81 13 := hs123_.e (by decide)
                  have r20_N122_ := ze_r N122_ 81 20
                  have c133_ : zPm N122_ := zPm.fr hs123_ c25_ (by decide) (by decide)
                  have c134_ : zB 83 24 0 5 N122_ := zB.fr hs123_ c26_ (by decide) (by decide)
                  refine zw_iload_n (pc := 38) (n := 2) (x := Int32.ofInt u121_) rfl (zdal_p dlC_M_buildsMembers_15 (i := 23) rfl) ?_
                  refine zw_aload_n (pc := 39) (n := 0) (x := 81) rfl (zdal_p dlC_M_buildsMembers_16 (i := 0) rfl) ?_
                  refine zr_getI0 hf_N122_ hW (pc := 40) (by decide) f_M_199 rfl (zdal_p dlC_M_buildsMembers_16 (i := 1) rfl) ?_
                  refine zr_icmp_ge (pc := 43) (tgt := 163) ⟨hu121_a, hu121_b⟩ ⟨(ze_r Mz 81 13).1, (ze_r Mz 81 13).2⟩ (by decide) (zdal_p dlC_M_buildsMembers_16 (i := 2) rfl) (fun hc_43 => ?_) (fun hc_43 => ?_)
                  · skip
                    have hb3_ := zBc_n (show zBc Mz N122_ u15_ u121_ by assumption) (by (exact hc_43))
                    refine zr_iinc (pc := 163) (i := 1) (a := u15_) (n := 1) (L2 := [some (.ref 81), some (.int (Int32.ofInt (u15_ + 1))), some (.int (Int32.ofInt u121_)), none]) rfl (by decide) rfl (zdal_p dlC_M_buildsMembers_18 (i := 22) rfl) ?_
                    refine zw_goto (pc := 166) (tgt := 28) (by decide) (zdal_p dlC_M_buildsMembers_18 (i := 23) rfl) ?_
                    refine zW_le [some (.ref 81), some (.int (Int32.ofInt (u15_ + 1))), none, none] (⟨rfl, rfl, trivial⟩) ?_
                    exact ih_28 (u15_ + 1) (by (exact zo_74 i18_)) (by (exact zo_639 hc_33 hu15_b i23_)) N122_ hb0_N122_ (show 0 ≤ (u15_ + 1) by first | assumption | (exact zo_76 i18_)) (show (u15_ + 1) ≤ ze N122_ 81 20 by first | assumption | omega) (show zBs Mz N122_ by assumption) (show zBc Mz N122_ (u15_ + 1) 0 by exact hb3_) (show 1 ≤ ze N122_ 81 20 by first | assumption | omega) (show ze N122_ 81 20 ≤ 24 by first | assumption | omega) i132_ (by (exact zo_684 hc_33 hlt_28 hu15_b i125_ i131_ i18_ i23_))
                  · skip
                    refine zw_iconst (pc := 46) (v := Int32.ofInt 0) (by decide) (zdal_p dlC_M_buildsMembers_16 (i := 3) rfl) ?_
                    refine zw_istore_n (pc := 47) (i := 3) (L2 := [some (.ref 81), some (.int (Int32.ofInt u15_)), some (.int (Int32.ofInt u121_)), some (.int (Int32.ofInt 0))]) rfl (by decide) rfl (zdal_p dlC_M_buildsMembers_16 (i := 4) rfl) ?_
                    have lp_48 : ∀ (n : Nat) (u135_ : Int) (hu135_a : -2147483648 ≤ u135_) (hu135_b : u135_ < 2147483648) (N136_ : zMem) (hs137_ : zFr [] [86] N122_ N136_) (i138_ : 0 ≤ u135_) (i139_ : u135_ ≤ ze Mz 81 12) (i140_ : zCg Mz N136_ u15_ u121_ 0 u135_) (i141_ : zBs Mz N136_) (i142_ : zBc Mz N136_ u15_ u121_), (ze Mz 81 12 - u135_).toNat < n → zW l m_M_buildsMembers (zn Mz + 0, zw Mz + 0) N136_ 48 [some (.ref 81), some (.int (Int32.ofInt u15_)), some (.int (Int32.ofInt u121_)), some (.int (Int32.ofInt u135_))] [] (zpI [20] [85, 86, 87, 88] Mz (fun v N => zB 85 144 0 5 N ∧ (((v = 1 ∧ zFin Mz ∧ 1 ≤ ze N 81 20 ∧ ze N 81 20 ≤ 24 ∧ (∃ T : zGT, T ∈ gTabs ∧ zTab T N)) ∨ (v = 0 ∧ ¬ zFin Mz))))) := by
                      intro n
                      induction n with
                      | zero =>
                        intro u135_ hu135_a hu135_b N136_ hs137_ i138_ i139_ i140_ i141_ i142_ h0
                        exact absurd h0 (Nat.not_lt_zero _)
                      | succ n ih_48 =>
                        intro u135_ hu135_a hu135_b N136_ hs137_ i138_ i139_ i140_ i141_ i142_ hlt_48
                        have hf_N136_ : zFr [20] [85, 86, 87, 88] Mz N136_ := hf_N122_.tr hs137_ (by decide) (by decide)
                        have hb0_N136_ : zFr [20] [85, 86] N6_ N136_ := hb0_N122_.tr hs137_ (by decide) (by decide)
                        have hb1_N136_ : zFr [20] [85, 86] N16_ N136_ := hs123_.tr hs137_ (by decide) (by decide)
                        have e12_N136_ : ze N136_ 81 12 = ze N122_ 81 12 := hs137_.e (by decide)
                        have e13_N136_ : ze N136_ 81 13 = ze N122_ 81 13 := hs137_.e (by decide)
                        have e20_N136_ : ze N136_ 81 20 = ze N122_ 81 20 := hs137_.e (by decide)
                        have c143_ : zPm N136_ := zPm.fr hs137_ c133_ (by decide) (by decide)
                        have c144_ : zB 83 24 0 5 N136_ := zB.fr hs137_ c134_ (by decide) (by decide)
                        have c145_ : zB 85 144 0 5 N136_ := zB.fr hs137_ i132_ (by decide) (by decide)
                        refine zw_iload_n (pc := 48) (n := 3) (x := Int32.ofInt u135_) rfl (zdal_p dlC_M_buildsMembers_16 (i := 5) rfl) ?_
                        refine zw_aload_n (pc := 49) (n := 0) (x := 81) rfl (zdal_p dlC_M_buildsMembers_16 (i := 6) rfl) ?_
                        refine zr_getI0 hf_N136_ hW (pc := 50) (by decide) f_M_115 rfl (zdal_p dlC_M_buildsMembers_16 (i := 7) rfl) ?_
                        refine zr_icmp_ge (pc := 53) (tgt := 89) ⟨hu135_a, hu135_b⟩ ⟨(ze_r Mz 81 12).1, (ze_r Mz 81 12).2⟩ (by decide) (zdal_p dlC_M_buildsMembers_16 (i := 8) rfl) (fun hc_53 => ?_) (fun hc_53 => ?_)
                        · skip
                          have hcg_ := (show zCg Mz N136_ u15_ u121_ 0 u135_ by assumption)
                          have hbs_ := (show zBs Mz N136_ by assumption)
                          have hcc_ := zCg_c hPS_ c145_ (by (exact zo_685 hc_33 hu15_b i125_ i131_ i18_ i23_)) (hbs_.2.1 (u15_).toNat (by (exact zo_686 e20_N136_ hc_33 hu15_b i125_ i130_ i18_ i23_))) (by (exact hc_53)) hcg_ (Or.inl ⟨rfl, by (exact i126_), by (exact hc_43)⟩)
                          rw [if_pos rfl] at hcc_
                          have hcb_ := zCg_b (P := ze Mz 81 12) hcg_ (by (exact hc_53))
                          refine zw_aload_n (pc := 89) (n := 0) (x := 81) rfl (zdal_p dlC_M_buildsMembers_17 (i := 6) rfl) ?_
                          refine zr_callV (hf_N136_.w hW) hf_N136_.x (pc := 90) [] [] l_M_202 (c_M_indexOf l N136_ (hf_N136_.w hW) (ze Mz 81 12) (show 0 ≤ ze N136_ 81 20 by first | assumption | (exact zo_568 e20_N136_ i130_)) (show ze N136_ 81 20 ≤ 24 by first | assumption | (exact zo_644 e20_N136_ i131_)) (show ze N136_ 81 12 = (ze Mz 81 12) by first | assumption | (exact zo_687 e12_N122_ e12_N136_ e12_N16_ e12_N1_ e12_N6_)) (show 1 ≤ (ze Mz 81 12) by first | assumption | omega) (show (ze Mz 81 12) ≤ 6 by first | assumption | omega) c145_ (show zCb N136_ (ze Mz 81 12) by first | assumption | omega)) rfl rfl rfl (by decide) (Nat.le_of_ble_eq_true rfl) (zdal_p dlC_M_buildsMembers_17 (i := 7) rfl) ?_
                          rintro _ N146_ ⟨v147_, rfl, ⟨hv147_a, hv147_b⟩, hsN146_, hp0_N146_⟩
                          obtain rfl := hsN146_.eq.symm
                          replace hp0_N146_ : ((0 ≤ v147_ ∧ v147_ < ze N136_ 81 20 ∧ zFnd N136_ v147_ (ze Mz 81 12)) ∨ (v147_ = -1 ∧ zNo2 N136_ (ze Mz 81 12))) := hp0_N146_
                          rcases hp0_N146_ with ⟨ha90_0_hp0_N146_, ha90_1_hp0_N146_, ha90_2_hp0_N146_⟩ | ⟨rfl, ha90_0_hp0_N146_⟩
                          · skip
                            have hbq_ := zBc_f (show zBc Mz N136_ u15_ u121_ by assumption) (by (exact i18_)) (by (exact i126_)) ⟨ha90_0_hp0_N146_, ha90_1_hp0_N146_⟩ ha90_2_hp0_N146_ hcc_
                            show zW l m_M_buildsMembers (zn Mz + 0, zw Mz + 0) N136_ 93 [some (.ref 81), some (.int (Int32.ofInt u15_)), some (.int (Int32.ofInt u121_)), some (.int (Int32.ofInt u135_))] [.int (Int32.ofInt v147_)] _
                            refine zw_iconst (pc := 93) (v := Int32.ofInt (-1)) (by decide) (zdal_p dlC_M_buildsMembers_17 (i := 8) rfl) ?_
                            refine zr_icmp_eq (pc := 94) (tgt := 100) ⟨hv147_a, hv147_b⟩ ⟨(by decide), (by decide)⟩ (by decide) (zdal_p dlC_M_buildsMembers_17 (i := 9) rfl) (fun hc_94 => ?_) (fun hc_94 => ?_)
                            · skip
                              have hnf_ : zNf Mz N136_ u15_ u121_ := by first | exact ⟨hbs_, (show zBc Mz N136_ u15_ u121_ by assumption), hcb_, (show zNo2 N136_ (ze Mz 81 12) by assumption), hcc_⟩ | (exfalso; (exact zo_583 ha90_0_hp0_N146_ hc_94))
                              refine zw_aload_n (pc := 100) (n := 0) (x := 81) rfl (zdal_p dlC_M_buildsMembers_17 (i := 11) rfl) ?_
                              refine zr_getI (hf_N136_.w hW) (pc := 101) f_M_196 rfl (zdal_p dlC_M_buildsMembers_17 (i := 12) rfl) ?_
                              refine zw_bipush (pc := 104) (v := Int32.ofInt 24) (by decide) (zdal_p dlC_M_buildsMembers_17 (i := 13) rfl) ?_
                              refine zr_icmp_ne (pc := 106) (tgt := 111) ⟨(ze_r N136_ 81 20).1, (ze_r N136_ 81 20).2⟩ ⟨(by decide), (by decide)⟩ (by decide) (zdal_p dlC_M_buildsMembers_17 (i := 14) rfl) (fun hc_106 => ?_) (fun hc_106 => ?_)
                              · skip
                                refine zw_iconst (pc := 111) (v := Int32.ofInt 0) (by decide) (zdal_p dlC_M_buildsMembers_17 (i := 17) rfl) ?_
                                refine zw_istore_n (pc := 112) (i := 3) (L2 := [some (.ref 81), some (.int (Int32.ofInt u15_)), some (.int (Int32.ofInt u121_)), some (.int (Int32.ofInt 0))]) rfl (by decide) rfl (zdal_p dlC_M_buildsMembers_17 (i := 18) rfl) ?_
                                have lp_113 : ∀ (n : Nat) (u148_ : Int) (hu148_a : -2147483648 ≤ u148_) (hu148_b : u148_ < 2147483648) (N149_ : zMem) (hs150_ : zFr [] [85] N136_ N149_) (i151_ : 0 ≤ u148_) (i152_ : u148_ ≤ ze Mz 81 12) (i153_ : zNf Mz N149_ u15_ u121_) (i154_ : zAp N149_ (ze N149_ 81 20) u148_) (i155_ : zB 85 144 0 5 N149_), (ze Mz 81 12 - u148_).toNat < n → zW l m_M_buildsMembers (zn Mz + 0, zw Mz + 0) N149_ 113 [some (.ref 81), some (.int (Int32.ofInt u15_)), some (.int (Int32.ofInt u121_)), some (.int (Int32.ofInt u148_))] [] (zpI [20] [85, 86, 87, 88] Mz (fun v N => zB 85 144 0 5 N ∧ (((v = 1 ∧ zFin Mz ∧ 1 ≤ ze N 81 20 ∧ ze N 81 20 ≤ 24 ∧ (∃ T : zGT, T ∈ gTabs ∧ zTab T N)) ∨ (v = 0 ∧ ¬ zFin Mz))))) := by
                                  intro n
                                  induction n with
                                  | zero =>
                                    intro u148_ hu148_a hu148_b N149_ hs150_ i151_ i152_ i153_ i154_ i155_ h0
                                    exact absurd h0 (Nat.not_lt_zero _)
                                  | succ n ih_113 =>
                                    intro u148_ hu148_a hu148_b N149_ hs150_ i151_ i152_ i153_ i154_ i155_ hlt_113
                                    have hf_N149_ : zFr [20] [85, 86, 87, 88] Mz N149_ := hf_N136_.tr hs150_ (by decide) (by decide)
                                    have hb0_N149_ : zFr [20] [85, 86] N6_ N149_ := hb0_N136_.tr hs150_ (by decide) (by decide)
                                    have hb1_N149_ : zFr [20] [85, 86] N16_ N149_ := hb1_N136_.tr hs150_ (by decide) (by decide)
                                    have e12_N149_ : ze N149_ 81 12 = ze N136_ 81 12 := hs150_.e (by decide)
                                    have e13_N149_ : ze N149_ 81 13 = ze N136_ 81 13 := hs150_.e (by decide)
                                    have e20_N149_ : ze N149_ 81 20 = ze N136_ 81 20 := hs150_.e (by decide)
                                    have c156_ : zPm N149_ := zPm.fr hs150_ c143_ (by decide) (by decide)
                                    have c157_ : zB 83 24 0 5 N149_ := zB.fr hs150_ c144_ (by decide) (by decide)
                                    refine zw_iload_n (pc := 113) (n := 3) (x := Int32.ofInt u148_) rfl (zdal_p dlC_M_buildsMembers_17 (i := 19) rfl) ?_
                                    refine zw_aload_n (pc := 114) (n := 0) (x := 81) rfl (zdal_p dlC_M_buildsMembers_17 (i := 20) rfl) ?_
                                    refine zr_getI0 hf_N149_ hW (pc := 115) (by decide) f_M_115 rfl (zdal_p dlC_M_buildsMembers_17 (i := 21) rfl) ?_
                                    refine zr_icmp_ge (pc := 118) (tgt := 147) ⟨hu148_a, hu148_b⟩ ⟨(ze_r Mz 81 12).1, (ze_r Mz 81 12).2⟩ (by decide) (zdal_p dlC_M_buildsMembers_17 (i := 22) rfl) (fun hc_118 => ?_) (fun hc_118 => ?_)
                                    · skip
                                      refine zw_aload_n (pc := 147) (n := 0) (x := 81) rfl (zdal_p dlC_M_buildsMembers_18 (i := 14) rfl) ?_
                                      refine zw_dup (pc := 148) rfl (zdal_p dlC_M_buildsMembers_18 (i := 15) rfl) ?_
                                      refine zr_getI (hf_N149_.w hW) (pc := 149) f_M_196 rfl (zdal_p dlC_M_buildsMembers_18 (i := 16) rfl) ?_
                                      refine zw_iconst (pc := 152) (v := Int32.ofInt 1) (by decide) (zdal_p dlC_M_buildsMembers_18 (i := 17) rfl) ?_
                                      refine zr_iadd (pc := 153) (zdal_p dlC_M_buildsMembers_18 (i := 18) rfl) ?_
                                      refine zr_putI (hf_N149_.w hW) (pc := 154) f_M_196 rfl rfl ⟨by (exact zo_688 e20_N149_ ha90_0_hp0_N146_ ha90_1_hp0_N146_), by (exact zo_689 e20_N136_ e20_N149_ i131_)⟩ rfl rfl (zdal_p dlC_M_buildsMembers_18 (i := 19) rfl) (fun N158_ hsN158_ hvN158_ => ?_)
                                      have hf_N158_ : zFr [20] [85, 86, 87, 88] Mz N158_ := hf_N149_.tr hsN158_ (by decide) (by decide)
                                      have hb0_N158_ : zFr [20] [85, 86] N6_ N158_ := hb0_N149_.tr hsN158_ (by decide) (by decide)
                                      have hb1_N158_ : zFr [20] [85, 86] N16_ N158_ := hb1_N149_.tr hsN158_ (by decide) (by decide)
                                      have e12_N158_ : ze N158_ 81 12 = ze N149_ 81 12 := hsN158_.e (by decide)
                                      have e13_N158_ : ze N158_ 81 13 = ze N149_ 81 13 := hsN158_.e (by decide)
                                      have r20_N158_ := ze_r N158_ 81 20
                                      have c159_ : zPm N158_ := zPm.fr hsN158_ c156_ (by decide) (by decide)
                                      have c160_ : zB 83 24 0 5 N158_ := zB.fr hsN158_ c157_ (by decide) (by decide)
                                      have c161_ : zB 85 144 0 5 N158_ := zB.fr hsN158_ i155_ (by decide) (by decide)
                                      have hNe_ := zNf_e hPS_ ⟨by (exact i18_), by (exact zo_690 e20_N136_ e20_N149_ ha90_0_hp0_N146_ ha90_1_hp0_N146_ hc_33 hu15_b i125_ i23_)⟩ ⟨by (exact i126_), by (exact hc_43)⟩ (show zNf Mz N149_ u15_ u121_ by assumption) (show zAp N149_ (ze N149_ 81 20) u148_ by assumption) (by (exact hc_118)) (by (exact zo_691 ha90_0_hp0_N146_ hc_94)) hsN158_ (by (exact hvN158_))
                                      have ho_ := hNe_.1.1
                                      refine zr_iinc (pc := 157) (i := 2) (a := u121_) (n := 1) (L2 := [some (.ref 81), some (.int (Int32.ofInt u15_)), some (.int (Int32.ofInt (u121_ + 1))), some (.int (Int32.ofInt u148_))]) rfl (by decide) rfl d_M_buildsMembers_157 ?_
                                      refine zw_goto (pc := 160) (tgt := 38) (by decide) d_M_buildsMembers_160 ?_
                                      have hb1_ : zBc Mz N158_ u15_ (u121_ + 1) := by first | exact hNe_.2 | exact hbq_
                                      have hb2_ : zBs Mz N158_ := by first | exact hNe_.1 | exact hbs_
                                      refine zW_le [some (.ref 81), some (.int (Int32.ofInt u15_)), some (.int (Int32.ofInt (u121_ + 1))), none] (⟨rfl, rfl, rfl, trivial⟩) ?_
                                      exact ih_38 (u121_ + 1) (by (exact zo_74 i126_)) (by (exact zo_692 hc_43 p3_)) N158_ hb1_N158_ (show 0 ≤ u15_ by first | assumption | omega) (show u15_ < ze N158_ 81 20 by first | assumption | (exact zo_693 e20_N136_ e20_N149_ ho_.1 hu15_b hvN158_ i125_ i131_)) (show 0 ≤ (u121_ + 1) by first | assumption | (exact zo_76 i126_)) (show (u121_ + 1) ≤ ze Mz 81 13 by first | assumption | omega) (show zBs Mz N158_ by exact hb2_) (show zBc Mz N158_ u15_ (u121_ + 1) by exact hb1_) (show 1 ≤ ze N158_ 81 20 by first | assumption | (exact zo_694 ho_.1)) (show ze N158_ 81 20 ≤ 24 by first | assumption | (exact zo_0 ho_.2)) c161_ (by (exact zo_147 hc_43 hlt_38))
                                    · skip
                                      refine zw_aload_n (pc := 121) (n := 0) (x := 81) rfl (zdal_p dlC_M_buildsMembers_17 (i := 23) rfl) ?_
                                      refine zr_getF (r := 85) (hf_N149_.w hW) (pc := 122) f_M_26 rfl (zh_85 (hf_N149_.w hW)).1 (zdal_p dlC_M_buildsMembers_18 (i := 0) rfl) ?_
                                      refine zw_bipush (pc := 125) (v := Int32.ofInt 6) (by decide) (zdal_p dlC_M_buildsMembers_18 (i := 1) rfl) ?_
                                      refine zw_aload_n (pc := 127) (n := 0) (x := 81) rfl (zdal_p dlC_M_buildsMembers_18 (i := 2) rfl) ?_
                                      refine zr_getI (hf_N149_.w hW) (pc := 128) f_M_196 rfl (zdal_p dlC_M_buildsMembers_18 (i := 3) rfl) ?_
                                      refine zr_imul (pc := 131) (zdal_p dlC_M_buildsMembers_18 (i := 4) rfl) ?_
                                      refine zw_iload_n (pc := 132) (n := 3) (x := Int32.ofInt u148_) rfl (zdal_p dlC_M_buildsMembers_18 (i := 5) rfl) ?_
                                      refine zr_iadd (pc := 133) (zdal_p dlC_M_buildsMembers_18 (i := 6) rfl) ?_
                                      refine zw_aload_n (pc := 134) (n := 0) (x := 81) rfl (zdal_p dlC_M_buildsMembers_18 (i := 7) rfl) ?_
                                      refine zr_getF (r := 86) (hf_N149_.w hW) (pc := 135) f_M_29 rfl (zh_86 (hf_N149_.w hW)).1 (zdal_p dlC_M_buildsMembers_18 (i := 8) rfl) ?_
                                      refine zw_iload_n (pc := 138) (n := 3) (x := Int32.ofInt u148_) rfl (zdal_p dlC_M_buildsMembers_18 (i := 9) rfl) ?_
                                      refine zr_ialdn (pc := 139) (zh_86 (hf_N149_.w hW)).2 (by decide) (by (exact i151_)) (by (exact zo_670 hc_118 p1_)) (zdal_p dlC_M_buildsMembers_18 (i := 10) rfl) (fun v162_ hv162_ hv162_a hv162_b => ?_)
                                      have hcv_ := (show zNf Mz N149_ u15_ u121_ by assumption).2.2.1 (u148_).toNat (by (exact zo_695 hc_118 i151_))
                                      refine zr_iast (pc := 140) (zh_85 (hf_N149_.w hW)).2 (by decide) (by decide) (by (exact zo_696 e20_N149_ ha90_0_hp0_N146_ ha90_1_hp0_N146_ i151_)) (by (exact zo_697 e20_N136_ e20_N149_ ha90_0_hp0_N146_ hc_118 hc_94 i131_ p1_)) (zdal_p dlC_M_buildsMembers_18 (i := 11) rfl) (fun N163_ hN163_ hsN163_ => ?_)
                                      have hf_N163_ : zFr [20] [85, 86, 87, 88] Mz N163_ := hf_N149_.tr hsN163_ (by decide) (by decide)
                                      have hb0_N163_ : zFr [20] [85, 86] N6_ N163_ := hb0_N149_.tr hsN163_ (by decide) (by decide)
                                      have hb1_N163_ : zFr [20] [85, 86] N16_ N163_ := hb1_N149_.tr hsN163_ (by decide) (by decide)
                                      have hb2_N163_ : zFr [] [85] N136_ N163_ := hs150_.tr hsN163_ (by decide) (by decide)
                                      have e12_N163_ : ze N163_ 81 12 = ze N149_ 81 12 := hsN163_.e (by decide)
                                      have e13_N163_ : ze N163_ 81 13 = ze N149_ 81 13 := hsN163_.e (by decide)
                                      have e20_N163_ : ze N163_ 81 20 = ze N149_ 81 20 := hsN163_.e (by decide)
                                      have c164_ : zPm N163_ := zPm.fr hsN163_ c156_ (by decide) (by decide)
                                      have c165_ : zB 83 24 0 5 N163_ := zB.fr hsN163_ c157_ (by decide) (by decide)
                                      have c166_ : zB 85 144 0 5 N163_ := zB.s i155_ hN163_ (by (exact zo_574 hcv_.1 hv162_ hv162_a)) (by (exact zo_698 hcv_.2 hv162_ hv162_b)) (by decide) (by decide)
                                      have hAp_ := zAp_s ⟨by (exact i18_), by (exact zo_699 e20_N136_ e20_N149_ ha90_0_hp0_N146_ ha90_1_hp0_N146_ hu15_b i125_ i131_)⟩ (show zNf Mz N149_ u15_ u121_ by assumption) (show zAp N149_ (ze N149_ 81 20) u148_ by assumption) (by (exact i151_)) (by (exact zo_700 hc_118 p1_)) (by assumption) hN163_
                                      refine zr_iinc (pc := 141) (i := 3) (a := u148_) (n := 1) (L2 := [some (.ref 81), some (.int (Int32.ofInt u15_)), some (.int (Int32.ofInt u121_)), some (.int (Int32.ofInt (u148_ + 1)))]) rfl (by decide) rfl (zdal_p dlC_M_buildsMembers_18 (i := 12) rfl) ?_
                                      refine zw_goto (pc := 144) (tgt := 113) (by decide) (zdal_p dlC_M_buildsMembers_18 (i := 13) rfl) ?_
                                      exact ih_113 (u148_ + 1) (by (exact zo_74 i151_)) (by (exact zo_671 hc_118 p1_)) N163_ hb2_N163_ (show 0 ≤ (u148_ + 1) by first | assumption | (exact zo_76 i151_)) (show (u148_ + 1) ≤ ze Mz 81 12 by first | assumption | omega) (show zNf Mz N163_ u15_ u121_ by exact hAp_.1) (show zAp N163_ (ze N163_ 81 20) (u148_ + 1) by exact hAp_.2) c166_ (by (exact zo_147 hc_118 hlt_113))
                                exact lp_113 _ 0 (by decide) (by decide) N136_ zFr.rf (show 0 ≤ (0 : Int) by first | assumption | (decide)) (show (0 : Int) ≤ ze Mz 81 12 by first | assumption | (exact zo_564 p0_)) (show zNf Mz N136_ u15_ u121_ by exact hnf_) (show zAp N136_ (ze N136_ 81 20) (0 : Int) by exact zAp_0) c145_ (Nat.lt_succ_self _)
                              · skip
                                refine zw_iconst (pc := 109) (v := Int32.ofInt 0) (by decide) (zdal_p dlC_M_buildsMembers_17 (i := 15) rfl) ?_
                                exact zr_iret (pc := 110) (ty := .boolean) rfl (z_narB (by (decide))) ⟨by (decide), by (decide)⟩ hf_N136_ ⟨c145_, (show ((0 = 1 ∧ zFin Mz ∧ 1 ≤ ze N136_ 81 20 ∧ ze N136_ 81 20 ≤ 24 ∧ (∃ T : zGT, T ∈ gTabs ∧ zTab T N136_)) ∨ (0 = 0 ∧ ¬ zFin Mz)) from Or.inr (⟨(show 0 = 0 by first | exact zBs_24 ⟨by (exact i18_), by (exact zo_701 e20_N136_ hc_106 hu15_b i125_ i131_)⟩ ⟨by (exact i126_), by (exact hc_43)⟩ hnf_ (by (exact hc_106)) | (decide)), (show ¬ zFin Mz by first | exact zBs_24 ⟨by (exact i18_), by (exact zo_701 e20_N136_ hc_106 hu15_b i125_ i131_)⟩ ⟨by (exact i126_), by (exact hc_43)⟩ hnf_ (by (exact hc_106)) | omega)⟩))⟩ (zdal_p dlC_M_buildsMembers_17 (i := 16) rfl)
                            · skip
                              refine zw_goto (pc := 97) (tgt := 157) (by decide) (zdal_p dlC_M_buildsMembers_17 (i := 10) rfl) ?_
                              refine zr_iinc (pc := 157) (i := 2) (a := u121_) (n := 1) (L2 := [some (.ref 81), some (.int (Int32.ofInt u15_)), some (.int (Int32.ofInt (u121_ + 1))), some (.int (Int32.ofInt u135_))]) rfl (by decide) rfl d_M_buildsMembers_157 ?_
                              refine zw_goto (pc := 160) (tgt := 38) (by decide) d_M_buildsMembers_160 ?_
                              have hb1_ : zBc Mz N136_ u15_ (u121_ + 1) := by first | exact hNe_.2 | exact hbq_
                              have hb2_ : zBs Mz N136_ := by first | exact hNe_.1 | exact hbs_
                              refine zW_le [some (.ref 81), some (.int (Int32.ofInt u15_)), some (.int (Int32.ofInt (u121_ + 1))), none] (⟨rfl, rfl, rfl, trivial⟩) ?_
                              exact ih_38 (u121_ + 1) (by (exact zo_74 i126_)) (by (exact zo_692 hc_43 p3_)) N136_ hb1_N136_ (show 0 ≤ u15_ by first | assumption | omega) (show u15_ < ze N136_ 81 20 by first | assumption | (exact zo_702 e20_N136_ ha90_0_hp0_N146_ ha90_1_hp0_N146_ hc_33 hu15_b i125_ i23_)) (show 0 ≤ (u121_ + 1) by first | assumption | (exact zo_76 i126_)) (show (u121_ + 1) ≤ ze Mz 81 13 by first | assumption | omega) (show zBs Mz N136_ by exact hb2_) (show zBc Mz N136_ u15_ (u121_ + 1) by exact hb1_) (show 1 ≤ ze N136_ 81 20 by first | assumption | (exact zo_703 ha90_0_hp0_N146_ ha90_1_hp0_N146_)) (show ze N136_ 81 20 ≤ 24 by first | assumption | (exact zo_644 e20_N136_ i131_)) c145_ (by (exact zo_147 hc_43 hlt_38))
                          · skip
                            show zW l m_M_buildsMembers (zn Mz + 0, zw Mz + 0) N136_ 93 [some (.ref 81), some (.int (Int32.ofInt u15_)), some (.int (Int32.ofInt u121_)), some (.int (Int32.ofInt u135_))] [.int (Int32.ofInt ((-1)))] _
                            refine zw_iconst (pc := 93) (v := Int32.ofInt (-1)) (by decide) (zdal_p dlC_M_buildsMembers_17 (i := 8) rfl) ?_
                            refine zr_icmp_eq (pc := 94) (tgt := 100) ⟨(by decide), (by decide)⟩ ⟨(by decide), (by decide)⟩ (by decide) (zdal_p dlC_M_buildsMembers_17 (i := 9) rfl) (fun hc_94 => ?_) (fun hc_94 => ?_)
                            · skip
                              have hnf_ : zNf Mz N136_ u15_ u121_ := by first | exact ⟨hbs_, (show zBc Mz N136_ u15_ u121_ by assumption), hcb_, (show zNo2 N136_ (ze Mz 81 12) by assumption), hcc_⟩ | (exfalso; omega)
                              refine zw_aload_n (pc := 100) (n := 0) (x := 81) rfl (zdal_p dlC_M_buildsMembers_17 (i := 11) rfl) ?_
                              refine zr_getI (hf_N136_.w hW) (pc := 101) f_M_196 rfl (zdal_p dlC_M_buildsMembers_17 (i := 12) rfl) ?_
                              refine zw_bipush (pc := 104) (v := Int32.ofInt 24) (by decide) (zdal_p dlC_M_buildsMembers_17 (i := 13) rfl) ?_
                              refine zr_icmp_ne (pc := 106) (tgt := 111) ⟨(ze_r N136_ 81 20).1, (ze_r N136_ 81 20).2⟩ ⟨(by decide), (by decide)⟩ (by decide) (zdal_p dlC_M_buildsMembers_17 (i := 14) rfl) (fun hc_106 => ?_) (fun hc_106 => ?_)
                              · skip
                                refine zw_iconst (pc := 111) (v := Int32.ofInt 0) (by decide) (zdal_p dlC_M_buildsMembers_17 (i := 17) rfl) ?_
                                refine zw_istore_n (pc := 112) (i := 3) (L2 := [some (.ref 81), some (.int (Int32.ofInt u15_)), some (.int (Int32.ofInt u121_)), some (.int (Int32.ofInt 0))]) rfl (by decide) rfl (zdal_p dlC_M_buildsMembers_17 (i := 18) rfl) ?_
                                have lp_113 : ∀ (n : Nat) (u167_ : Int) (hu167_a : -2147483648 ≤ u167_) (hu167_b : u167_ < 2147483648) (N168_ : zMem) (hs169_ : zFr [] [85] N136_ N168_) (i170_ : 0 ≤ u167_) (i171_ : u167_ ≤ ze Mz 81 12) (i172_ : zNf Mz N168_ u15_ u121_) (i173_ : zAp N168_ (ze N168_ 81 20) u167_) (i174_ : zB 85 144 0 5 N168_), (ze Mz 81 12 - u167_).toNat < n → zW l m_M_buildsMembers (zn Mz + 0, zw Mz + 0) N168_ 113 [some (.ref 81), some (.int (Int32.ofInt u15_)), some (.int (Int32.ofInt u121_)), some (.int (Int32.ofInt u167_))] [] (zpI [20] [85, 86, 87, 88] Mz (fun v N => zB 85 144 0 5 N ∧ (((v = 1 ∧ zFin Mz ∧ 1 ≤ ze N 81 20 ∧ ze N 81 20 ≤ 24 ∧ (∃ T : zGT, T ∈ gTabs ∧ zTab T N)) ∨ (v = 0 ∧ ¬ zFin Mz))))) := by
                                  intro n
                                  induction n with
                                  | zero =>
                                    intro u167_ hu167_a hu167_b N168_ hs169_ i170_ i171_ i172_ i173_ i174_ h0
                                    exact absurd h0 (Nat.not_lt_zero _)
                                  | succ n ih_113 =>
                                    intro u167_ hu167_a hu167_b N168_ hs169_ i170_ i171_ i172_ i173_ i174_ hlt_113
                                    have hf_N168_ : zFr [20] [85, 86, 87, 88] Mz N168_ := hf_N136_.tr hs169_ (by decide) (by decide)
                                    have hb0_N168_ : zFr [20] [85, 86] N6_ N168_ := hb0_N136_.tr hs169_ (by decide) (by decide)
                                    have hb1_N168_ : zFr [20] [85, 86] N16_ N168_ := hb1_N136_.tr hs169_ (by decide) (by decide)
                                    have e12_N168_ : ze N168_ 81 12 = ze N136_ 81 12 := hs169_.e (by decide)
                                    have e13_N168_ : ze N168_ 81 13 = ze N136_ 81 13 := hs169_.e (by decide)
                                    have e20_N168_ : ze N168_ 81 20 = ze N136_ 81 20 := hs169_.e (by decide)
                                    have c175_ : zPm N168_ := zPm.fr hs169_ c143_ (by decide) (by decide)
                                    have c176_ : zB 83 24 0 5 N168_ := zB.fr hs169_ c144_ (by decide) (by decide)
                                    refine zw_iload_n (pc := 113) (n := 3) (x := Int32.ofInt u167_) rfl (zdal_p dlC_M_buildsMembers_17 (i := 19) rfl) ?_
                                    refine zw_aload_n (pc := 114) (n := 0) (x := 81) rfl (zdal_p dlC_M_buildsMembers_17 (i := 20) rfl) ?_
                                    refine zr_getI0 hf_N168_ hW (pc := 115) (by decide) f_M_115 rfl (zdal_p dlC_M_buildsMembers_17 (i := 21) rfl) ?_
                                    refine zr_icmp_ge (pc := 118) (tgt := 147) ⟨hu167_a, hu167_b⟩ ⟨(ze_r Mz 81 12).1, (ze_r Mz 81 12).2⟩ (by decide) (zdal_p dlC_M_buildsMembers_17 (i := 22) rfl) (fun hc_118 => ?_) (fun hc_118 => ?_)
                                    · skip
                                      refine zw_aload_n (pc := 147) (n := 0) (x := 81) rfl (zdal_p dlC_M_buildsMembers_18 (i := 14) rfl) ?_
                                      refine zw_dup (pc := 148) rfl (zdal_p dlC_M_buildsMembers_18 (i := 15) rfl) ?_
                                      refine zr_getI (hf_N168_.w hW) (pc := 149) f_M_196 rfl (zdal_p dlC_M_buildsMembers_18 (i := 16) rfl) ?_
                                      refine zw_iconst (pc := 152) (v := Int32.ofInt 1) (by decide) (zdal_p dlC_M_buildsMembers_18 (i := 17) rfl) ?_
                                      refine zr_iadd (pc := 153) (zdal_p dlC_M_buildsMembers_18 (i := 18) rfl) ?_
                                      refine zr_putI (hf_N168_.w hW) (pc := 154) f_M_196 rfl rfl ⟨by (exact zo_704 e20_N136_ e20_N168_ i130_), by (exact zo_689 e20_N136_ e20_N168_ i131_)⟩ rfl rfl (zdal_p dlC_M_buildsMembers_18 (i := 19) rfl) (fun N177_ hsN177_ hvN177_ => ?_)
                                      have hf_N177_ : zFr [20] [85, 86, 87, 88] Mz N177_ := hf_N168_.tr hsN177_ (by decide) (by decide)
                                      have hb0_N177_ : zFr [20] [85, 86] N6_ N177_ := hb0_N168_.tr hsN177_ (by decide) (by decide)
                                      have hb1_N177_ : zFr [20] [85, 86] N16_ N177_ := hb1_N168_.tr hsN177_ (by decide) (by decide)
                                      have e12_N177_ : ze N177_ 81 12 = ze N168_ 81 12 := hsN177_.e (by decide)
                                      have e13_N177_ : ze N177_ 81 13 = ze N168_ 81 13 := hsN177_.e (by decide)
                                      have r20_N177_ := ze_r N177_ 81 20
                                      have c178_ : zPm N177_ := zPm.fr hsN177_ c175_ (by decide) (by decide)
                                      have c179_ : zB 83 24 0 5 N177_ := zB.fr hsN177_ c176_ (by decide) (by decide)
                                      have c180_ : zB 85 144 0 5 N177_ := zB.fr hsN177_ i174_ (by decide) (by decide)
                                      have hNe_ := zNf_e hPS_ ⟨by (exact i18_), by (exact zo_653 e20_N136_ e20_N168_ hu15_b i125_ i130_ i131_)⟩ ⟨by (exact i126_), by (exact hc_43)⟩ (show zNf Mz N168_ u15_ u121_ by assumption) (show zAp N168_ (ze N168_ 81 20) u167_ by assumption) (by (exact hc_118)) (by (exact zo_705 e20_N168_ hc_106)) hsN177_ (by (exact hvN177_))
                                      have ho_ := hNe_.1.1
                                      refine zr_iinc (pc := 157) (i := 2) (a := u121_) (n := 1) (L2 := [some (.ref 81), some (.int (Int32.ofInt u15_)), some (.int (Int32.ofInt (u121_ + 1))), some (.int (Int32.ofInt u167_))]) rfl (by decide) rfl d_M_buildsMembers_157 ?_
                                      refine zw_goto (pc := 160) (tgt := 38) (by decide) d_M_buildsMembers_160 ?_
                                      have hb1_ : zBc Mz N177_ u15_ (u121_ + 1) := by first | exact hNe_.2 | exact hbq_
                                      have hb2_ : zBs Mz N177_ := by first | exact hNe_.1 | exact hbs_
                                      refine zW_le [some (.ref 81), some (.int (Int32.ofInt u15_)), some (.int (Int32.ofInt (u121_ + 1))), none] (⟨rfl, rfl, rfl, trivial⟩) ?_
                                      exact ih_38 (u121_ + 1) (by (exact zo_74 i126_)) (by (exact zo_692 hc_43 p3_)) N177_ hb1_N177_ (show 0 ≤ u15_ by first | assumption | omega) (show u15_ < ze N177_ 81 20 by first | assumption | (exact zo_693 e20_N136_ e20_N168_ ho_.1 hu15_b hvN177_ i125_ i131_)) (show 0 ≤ (u121_ + 1) by first | assumption | (exact zo_76 i126_)) (show (u121_ + 1) ≤ ze Mz 81 13 by first | assumption | omega) (show zBs Mz N177_ by exact hb2_) (show zBc Mz N177_ u15_ (u121_ + 1) by exact hb1_) (show 1 ≤ ze N177_ 81 20 by first | assumption | (exact zo_694 ho_.1)) (show ze N177_ 81 20 ≤ 24 by first | assumption | (exact zo_0 ho_.2)) c180_ (by (exact zo_147 hc_43 hlt_38))
                                    · skip
                                      refine zw_aload_n (pc := 121) (n := 0) (x := 81) rfl (zdal_p dlC_M_buildsMembers_17 (i := 23) rfl) ?_
                                      refine zr_getF (r := 85) (hf_N168_.w hW) (pc := 122) f_M_26 rfl (zh_85 (hf_N168_.w hW)).1 (zdal_p dlC_M_buildsMembers_18 (i := 0) rfl) ?_
                                      refine zw_bipush (pc := 125) (v := Int32.ofInt 6) (by decide) (zdal_p dlC_M_buildsMembers_18 (i := 1) rfl) ?_
                                      refine zw_aload_n (pc := 127) (n := 0) (x := 81) rfl (zdal_p dlC_M_buildsMembers_18 (i := 2) rfl) ?_
                                      refine zr_getI (hf_N168_.w hW) (pc := 128) f_M_196 rfl (zdal_p dlC_M_buildsMembers_18 (i := 3) rfl) ?_
                                      refine zr_imul (pc := 131) (zdal_p dlC_M_buildsMembers_18 (i := 4) rfl) ?_
                                      refine zw_iload_n (pc := 132) (n := 3) (x := Int32.ofInt u167_) rfl (zdal_p dlC_M_buildsMembers_18 (i := 5) rfl) ?_
                                      refine zr_iadd (pc := 133) (zdal_p dlC_M_buildsMembers_18 (i := 6) rfl) ?_
                                      refine zw_aload_n (pc := 134) (n := 0) (x := 81) rfl (zdal_p dlC_M_buildsMembers_18 (i := 7) rfl) ?_
                                      refine zr_getF (r := 86) (hf_N168_.w hW) (pc := 135) f_M_29 rfl (zh_86 (hf_N168_.w hW)).1 (zdal_p dlC_M_buildsMembers_18 (i := 8) rfl) ?_
                                      refine zw_iload_n (pc := 138) (n := 3) (x := Int32.ofInt u167_) rfl (zdal_p dlC_M_buildsMembers_18 (i := 9) rfl) ?_
                                      refine zr_ialdn (pc := 139) (zh_86 (hf_N168_.w hW)).2 (by decide) (by (exact i170_)) (by (exact zo_670 hc_118 p1_)) (zdal_p dlC_M_buildsMembers_18 (i := 10) rfl) (fun v181_ hv181_ hv181_a hv181_b => ?_)
                                      have hcv_ := (show zNf Mz N168_ u15_ u121_ by assumption).2.2.1 (u167_).toNat (by (exact zo_695 hc_118 i170_))
                                      refine zr_iast (pc := 140) (zh_85 (hf_N168_.w hW)).2 (by decide) (by decide) (by (exact zo_706 e20_N136_ e20_N168_ i130_ i170_)) (by (exact zo_707 e20_N136_ e20_N168_ hc_118 i131_ p1_ hc_106)) (zdal_p dlC_M_buildsMembers_18 (i := 11) rfl) (fun N182_ hN182_ hsN182_ => ?_)
                                      have hf_N182_ : zFr [20] [85, 86, 87, 88] Mz N182_ := hf_N168_.tr hsN182_ (by decide) (by decide)
                                      have hb0_N182_ : zFr [20] [85, 86] N6_ N182_ := hb0_N168_.tr hsN182_ (by decide) (by decide)
                                      have hb1_N182_ : zFr [20] [85, 86] N16_ N182_ := hb1_N168_.tr hsN182_ (by decide) (by decide)
                                      have hb2_N182_ : zFr [] [85] N136_ N182_ := hs169_.tr hsN182_ (by decide) (by decide)
                                      have e12_N182_ : ze N182_ 81 12 = ze N168_ 81 12 := hsN182_.e (by decide)
                                      have e13_N182_ : ze N182_ 81 13 = ze N168_ 81 13 := hsN182_.e (by decide)
                                      have e20_N182_ : ze N182_ 81 20 = ze N168_ 81 20 := hsN182_.e (by decide)
                                      have c183_ : zPm N182_ := zPm.fr hsN182_ c175_ (by decide) (by decide)
                                      have c184_ : zB 83 24 0 5 N182_ := zB.fr hsN182_ c176_ (by decide) (by decide)
                                      have c185_ : zB 85 144 0 5 N182_ := zB.s i174_ hN182_ (by (exact zo_574 hcv_.1 hv181_ hv181_a)) (by (exact zo_698 hcv_.2 hv181_ hv181_b)) (by decide) (by decide)
                                      have hAp_ := zAp_s ⟨by (exact i18_), by (exact zo_708 e20_N136_ e20_N168_ hc_33 hu15_b i125_ i130_ i23_)⟩ (show zNf Mz N168_ u15_ u121_ by assumption) (show zAp N168_ (ze N168_ 81 20) u167_ by assumption) (by (exact i170_)) (by (exact zo_700 hc_118 p1_)) (by assumption) hN182_
                                      refine zr_iinc (pc := 141) (i := 3) (a := u167_) (n := 1) (L2 := [some (.ref 81), some (.int (Int32.ofInt u15_)), some (.int (Int32.ofInt u121_)), some (.int (Int32.ofInt (u167_ + 1)))]) rfl (by decide) rfl (zdal_p dlC_M_buildsMembers_18 (i := 12) rfl) ?_
                                      refine zw_goto (pc := 144) (tgt := 113) (by decide) (zdal_p dlC_M_buildsMembers_18 (i := 13) rfl) ?_
                                      exact ih_113 (u167_ + 1) (by (exact zo_74 i170_)) (by (exact zo_671 hc_118 p1_)) N182_ hb2_N182_ (show 0 ≤ (u167_ + 1) by first | assumption | (exact zo_76 i170_)) (show (u167_ + 1) ≤ ze Mz 81 12 by first | assumption | omega) (show zNf Mz N182_ u15_ u121_ by exact hAp_.1) (show zAp N182_ (ze N182_ 81 20) (u167_ + 1) by exact hAp_.2) c185_ (by (exact zo_147 hc_118 hlt_113))
                                exact lp_113 _ 0 (by decide) (by decide) N136_ zFr.rf (show 0 ≤ (0 : Int) by first | assumption | (decide)) (show (0 : Int) ≤ ze Mz 81 12 by first | assumption | (exact zo_564 p0_)) (show zNf Mz N136_ u15_ u121_ by exact hnf_) (show zAp N136_ (ze N136_ 81 20) (0 : Int) by exact zAp_0) c145_ (Nat.lt_succ_self _)
                              · skip
                                refine zw_iconst (pc := 109) (v := Int32.ofInt 0) (by decide) (zdal_p dlC_M_buildsMembers_17 (i := 15) rfl) ?_
                                exact zr_iret (pc := 110) (ty := .boolean) rfl (z_narB (by (decide))) ⟨by (decide), by (decide)⟩ hf_N136_ ⟨c145_, (show ((0 = 1 ∧ zFin Mz ∧ 1 ≤ ze N136_ 81 20 ∧ ze N136_ 81 20 ≤ 24 ∧ (∃ T : zGT, T ∈ gTabs ∧ zTab T N136_)) ∨ (0 = 0 ∧ ¬ zFin Mz)) from Or.inr (⟨(show 0 = 0 by first | exact zBs_24 ⟨by (exact i18_), by (exact zo_701 e20_N136_ hc_106 hu15_b i125_ i131_)⟩ ⟨by (exact i126_), by (exact hc_43)⟩ hnf_ (by (exact hc_106)) | (decide)), (show ¬ zFin Mz by first | exact zBs_24 ⟨by (exact i18_), by (exact zo_701 e20_N136_ hc_106 hu15_b i125_ i131_)⟩ ⟨by (exact i126_), by (exact hc_43)⟩ hnf_ (by (exact hc_106)) | omega)⟩))⟩ (zdal_p dlC_M_buildsMembers_17 (i := 16) rfl)
                            · skip
                              exact absurd hc_94 (by decide)
                        · skip
                          refine zw_aload_n (pc := 56) (n := 0) (x := 81) rfl (zdal_p dlC_M_buildsMembers_16 (i := 9) rfl) ?_
                          refine zr_getF (r := 86) (hf_N136_.w hW) (pc := 57) f_M_29 rfl (zh_86 (hf_N136_.w hW)).1 (zdal_p dlC_M_buildsMembers_16 (i := 10) rfl) ?_
                          refine zw_iload_n (pc := 60) (n := 3) (x := Int32.ofInt u135_) rfl (zdal_p dlC_M_buildsMembers_16 (i := 11) rfl) ?_
                          refine zw_aload_n (pc := 61) (n := 0) (x := 81) rfl (zdal_p dlC_M_buildsMembers_16 (i := 12) rfl) ?_
                          refine zr_getF (r := 83) (hf_N136_.w hW) (pc := 62) f_M_20 rfl (zh_83 (hf_N136_.w hW)).1 (zdal_p dlC_M_buildsMembers_16 (i := 13) rfl) ?_
                          refine zw_bipush (pc := 65) (v := Int32.ofInt 6) (by decide) (zdal_p dlC_M_buildsMembers_16 (i := 14) rfl) ?_
                          refine zw_iload_n (pc := 67) (n := 2) (x := Int32.ofInt u121_) rfl (zdal_p dlC_M_buildsMembers_16 (i := 15) rfl) ?_
                          refine zr_imul (pc := 68) (zdal_p dlC_M_buildsMembers_16 (i := 16) rfl) ?_
                          refine zw_aload_n (pc := 69) (n := 0) (x := 81) rfl (zdal_p dlC_M_buildsMembers_16 (i := 17) rfl) ?_
                          refine zr_getF (r := 85) (hf_N136_.w hW) (pc := 70) f_M_26 rfl (zh_85 (hf_N136_.w hW)).1 (zdal_p dlC_M_buildsMembers_16 (i := 18) rfl) ?_
                          refine zw_bipush (pc := 73) (v := Int32.ofInt 6) (by decide) (zdal_p dlC_M_buildsMembers_16 (i := 19) rfl) ?_
                          refine zw_iload_n (pc := 75) (n := 1) (x := Int32.ofInt u15_) rfl (zdal_p dlC_M_buildsMembers_16 (i := 20) rfl) ?_
                          refine zr_imul (pc := 76) (zdal_p dlC_M_buildsMembers_16 (i := 21) rfl) ?_
                          refine zw_iload_n (pc := 77) (n := 3) (x := Int32.ofInt u135_) rfl (zdal_p dlC_M_buildsMembers_16 (i := 22) rfl) ?_
                          refine zr_iadd (pc := 78) (zdal_p dlC_M_buildsMembers_16 (i := 23) rfl) ?_
                          refine zr_ialdn (pc := 79) (zh_85 (hf_N136_.w hW)).2 (by decide) (by (exact zo_709 i138_ i18_)) (by (exact zo_667 hc_53 i125_ i131_ p1_)) (zdal_p dlC_M_buildsMembers_17 (i := 0) rfl) (fun v186_ hv186_ hv186_a hv186_b => ?_)
                          have hr187_ := c145_.g (e := (6 * u15_) + u135_) (by (exact zo_709 i138_ i18_)) (by (exact zo_667 hc_53 i125_ i131_ p1_))
                          rw [← hv186_] at hr187_
                          refine zr_toI (show v186_ = ze N136_ 85 (6 * u15_ + u135_).toNat by (exact hv186_)) ?_
                          refine zr_iadd (pc := 80) (zdal_p dlC_M_buildsMembers_17 (i := 1) rfl) ?_
                          refine zr_ialdn (pc := 81) (zh_83 (hf_N136_.w hW)).2 (by decide) (by (exact zo_668 hr187_.1 hv186_ i126_)) (by (exact zo_710 hc_43 hr187_.2 hv186_ p3_)) (zdal_p dlC_M_buildsMembers_17 (i := 2) rfl) (fun v188_ hv188_ hv188_a hv188_b => ?_)
                          have hr189_ := c144_.g (e := (6 * u121_) + (ze N136_ 85 (6 * u15_ + u135_).toNat)) (by (exact zo_668 hr187_.1 hv186_ i126_)) (by (exact zo_710 hc_43 hr187_.2 hv186_ p3_))
                          rw [← hv188_] at hr189_
                          rw [hf_N136_.ie (by decide) (by decide)] at hv188_
                          refine zr_iast (pc := 82) (zh_86 (hf_N136_.w hW)).2 (by decide) (by decide) (by (exact i138_)) (by (exact zo_670 hc_53 p1_)) (zdal_p dlC_M_buildsMembers_17 (i := 3) rfl) (fun N190_ hN190_ hsN190_ => ?_)
                          have hf_N190_ : zFr [20] [85, 86, 87, 88] Mz N190_ := hf_N136_.tr hsN190_ (by decide) (by decide)
                          have hb0_N190_ : zFr [20] [85, 86] N6_ N190_ := hb0_N136_.tr hsN190_ (by decide) (by decide)
                          have hb1_N190_ : zFr [20] [85, 86] N16_ N190_ := hb1_N136_.tr hsN190_ (by decide) (by decide)
                          have hb2_N190_ : zFr [] [86] N122_ N190_ := hs137_.tr hsN190_ (by decide) (by decide)
                          have e12_N190_ : ze N190_ 81 12 = ze N136_ 81 12 := hsN190_.e (by decide)
                          have e13_N190_ : ze N190_ 81 13 = ze N136_ 81 13 := hsN190_.e (by decide)
                          have e20_N190_ : ze N190_ 81 20 = ze N136_ 81 20 := hsN190_.e (by decide)
                          have c191_ : zPm N190_ := zPm.fr hsN190_ c143_ (by decide) (by decide)
                          have c192_ : zB 83 24 0 5 N190_ := zB.fr hsN190_ c144_ (by decide) (by decide)
                          have c193_ : zB 85 144 0 5 N190_ := zB.fr hsN190_ c145_ (by decide) (by decide)
                          have hG_ := zCg_s (show zCg Mz N136_ u15_ u121_ 0 u135_ by assumption) (by (exact i138_)) (by (exact hr189_)) (by rw [if_pos rfl]; assumption) (by (exact i18_)) hN190_
                          have hf1_ := zBs.fr hsN190_ (show zBs Mz N136_ by assumption) (by decide) (by decide)
                          have hf2_ := zBc.fr hsN190_ (show zBc Mz N136_ u15_ u121_ by assumption) (by decide) (by decide)
                          refine zr_iinc (pc := 83) (i := 3) (a := u135_) (n := 1) (L2 := [some (.ref 81), some (.int (Int32.ofInt u15_)), some (.int (Int32.ofInt u121_)), some (.int (Int32.ofInt (u135_ + 1)))]) rfl (by decide) rfl (zdal_p dlC_M_buildsMembers_17 (i := 4) rfl) ?_
                          refine zw_goto (pc := 86) (tgt := 48) (by decide) (zdal_p dlC_M_buildsMembers_17 (i := 5) rfl) ?_
                          exact ih_48 (u135_ + 1) (by (exact zo_74 i138_)) (by (exact zo_671 hc_53 p1_)) N190_ hb2_N190_ (show 0 ≤ (u135_ + 1) by first | assumption | (exact zo_76 i138_)) (show (u135_ + 1) ≤ ze Mz 81 12 by first | assumption | omega) (show zCg Mz N190_ u15_ u121_ 0 (u135_ + 1) by exact hG_) (show zBs Mz N190_ by exact hf1_) (show zBc Mz N190_ u15_ u121_ by exact hf2_) (by (exact zo_147 hc_53 hlt_48))
                    exact lp_48 _ 0 (by decide) (by decide) N122_ zFr.rf (show 0 ≤ (0 : Int) by first | assumption | (decide)) (show (0 : Int) ≤ ze Mz 81 12 by first | assumption | (exact zo_564 p0_)) (show zCg Mz N122_ u15_ u121_ 0 (0 : Int) by exact zCg_0) (show zBs Mz N122_ by first | assumption | omega) (show zBc Mz N122_ u15_ u121_ by first | assumption | omega) (Nat.lt_succ_self _)
              exact lp_38 _ 0 (by decide) (by decide) N16_ zFr.rf (show 0 ≤ u15_ by first | assumption | omega) (show u15_ < ze N16_ 81 20 by first | assumption | omega) (show 0 ≤ (0 : Int) by first | assumption | (decide)) (show (0 : Int) ≤ ze Mz 81 13 by first | assumption | omega) (show zBs Mz N16_ by first | assumption | omega) (show zBc Mz N16_ u15_ (0 : Int) by first | assumption | omega) (show 1 ≤ ze N16_ 81 20 by first | assumption | omega) (show ze N16_ 81 20 ≤ 24 by first | assumption | omega) i24_ (Nat.lt_succ_self _)
        exact lp_28 _ 0 (by decide) (by decide) N6_ zFr.rf (show 0 ≤ (0 : Int) by first | assumption | (decide)) (show (0 : Int) ≤ ze N6_ 81 20 by first | assumption | (exact zo_711 i11_)) (show zBs Mz N6_ by exact hB0_.1) (show zBc Mz N6_ (0 : Int) 0 by exact hB0_.2) (show 1 ≤ ze N6_ 81 20 by first | assumption | (exact zo_712 i11_)) (show ze N6_ 81 20 ≤ 24 by first | assumption | (exact zo_713 i11_)) i12_ (Nat.lt_succ_self _)
      · skip
        refine zw_aload_n (pc := 13) (n := 0) (x := 81) rfl (zdal_p dlC_M_buildsMembers_15 (i := 8) rfl) ?_
        refine zr_getF (r := 85) (hf_N6_.w hW) (pc := 14) f_M_26 rfl (zh_85 (hf_N6_.w hW)).1 (zdal_p dlC_M_buildsMembers_15 (i := 9) rfl) ?_
        refine zw_iload_n (pc := 17) (n := 1) (x := Int32.ofInt u5_) rfl (zdal_p dlC_M_buildsMembers_15 (i := 10) rfl) ?_
        refine zw_iload_n (pc := 18) (n := 1) (x := Int32.ofInt u5_) rfl (zdal_p dlC_M_buildsMembers_15 (i := 11) rfl) ?_
        refine zr_iast (pc := 19) (zh_85 (hf_N6_.w hW)).2 (by decide) (by decide) (by (exact i8_)) (by (exact zo_714 hc_10)) (zdal_p dlC_M_buildsMembers_15 (i := 12) rfl) (fun N194_ hN194_ hsN194_ => ?_)
        have hf_N194_ : zFr [20] [85, 86, 87, 88] Mz N194_ := hf_N6_.tr hsN194_ (by decide) (by decide)
        have hb0_N194_ : zFr [] [85] N1_ N194_ := hs7_.tr hsN194_ (by decide) (by decide)
        have e12_N194_ : ze N194_ 81 12 = ze N6_ 81 12 := hsN194_.e (by decide)
        have e13_N194_ : ze N194_ 81 13 = ze N6_ 81 13 := hsN194_.e (by decide)
        have e20_N194_ : ze N194_ 81 20 = ze N6_ 81 20 := hsN194_.e (by decide)
        have c195_ : zPm N194_ := zPm.fr hsN194_ c13_ (by decide) (by decide)
        have c196_ : zB 83 24 0 5 N194_ := zB.fr hsN194_ c14_ (by decide) (by decide)
        have c197_ : zB 85 144 0 5 N194_ := zB.s i12_ hN194_ (by (exact i8_)) (by (exact zo_715 hc_10)) (by decide) (by decide)
        have hI_ := zid_s (by (exact i8_)) (by (exact zo_716 hc_10)) (show ∀ q : Nat, (q : Int) < u5_ → ze N6_ 85 q = q by assumption) hN194_
        refine zr_iinc (pc := 20) (i := 1) (a := u5_) (n := 1) (L2 := [some (.ref 81), some (.int (Int32.ofInt (u5_ + 1))), none, none]) rfl (by decide) rfl (zdal_p dlC_M_buildsMembers_15 (i := 13) rfl) ?_
        refine zw_goto (pc := 23) (tgt := 7) (by decide) (zdal_p dlC_M_buildsMembers_15 (i := 14) rfl) ?_
        exact ih_7 (u5_ + 1) (by (exact zo_74 i8_)) (by (exact zo_193 hc_10)) N194_ hb0_N194_ (show 0 ≤ (u5_ + 1) by first | assumption | (exact zo_76 i8_)) (show (u5_ + 1) ≤ 6 by first | assumption | omega) (show ∀ q : Nat, (q : Int) < (u5_ + 1) → ze N194_ 85 q = q by exact hI_) (show ze N194_ 81 20 = 1 by first | assumption | (exact zo_594 e20_N194_ i11_)) c197_ (by (exact zo_717 hc_10 hlt_7 i8_))
  exact lp_7 _ 0 (by decide) (by decide) N1_ zFr.rf (show 0 ≤ (0 : Int) by first | assumption | (decide)) (show (0 : Int) ≤ 6 by first | assumption | (decide)) (show ∀ q : Nat, (q : Int) < (0 : Int) → ze N1_ 85 q = q by exact zall_0) (show ze N1_ 81 20 = 1 by first | assumption | omega) c4_ (Nat.lt_succ_self _)
