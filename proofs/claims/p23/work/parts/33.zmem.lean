set_option maxHeartbeats 40000000 in
theorem c_M_buildsMembers (l : Launch) (Mz : zMem) (hW : zMt Mz) (p0_ : 1 ≤ ze Mz 81 12) (p1_ : ze Mz 81 12 ≤ 6) (p2_ : 0 ≤ ze Mz 81 13) (p3_ : ze Mz 81 13 ≤ 4) (p4_ : zPm Mz) (p5_ : zB 83 24 0 5 Mz) (p6_ : zB 85 144 0 5 Mz) : zC l m_M_buildsMembers 0 0 [.ref 81] Mz (zpI [20] [85, 86, 87, 88] Mz (fun v N => zB 85 144 0 5 N ∧ (((v = 1 ∧ zFin Mz ∧ 1 ≤ ze N 81 20 ∧ ze N 81 20 ≤ 24 ∧ (∃ T : zGT, T ∈ gTabs ∧ zTab T N)) ∨ (v = 0 ∧ ¬ zFin Mz))))) := by
  refine zC_of (L0 := [some (.ref 81), none, none, none]) md_M_buildsMembers (Nat.le_of_ble_eq_true rfl) rfl ?_ zQ0
  have hf : zFr [20] [85, 86, 87, 88] Mz Mz := zFr.rf
  have r_12 := ze_r Mz 81 12
  have r_13 := ze_r Mz 81 13
  have r_20 := ze_r Mz 81 20
  have hPS_ : zPS Mz := ⟨⟨p0_, p1_⟩, ⟨p2_, p3_⟩, p4_, p5_⟩
  refine zw_aload_n (pc := 0) (n := 0) (x := 81) rfl (zdal_p dlC_M_buildsMembers_15 (i := 0) rfl) ?_
  refine zw_iconst (pc := 1) (v := Int32.ofInt 1) (by decide) (zdal_p dlC_M_buildsMembers_15 (i := 1) rfl) ?_
  refine zr_putI (hf.w hW) (pc := 2) f_M_196 rfl rfl ⟨by (decide), by (decide)⟩ rfl rfl (zdal_p dlC_M_buildsMembers_15 (i := 2) rfl) (fun N1_ hsN1_ hvN1_ => ?_)
  have hf_N1_ : zFr [20] [85, 86, 87, 88] Mz N1_ := hf.tr hsN1_ (by decide) (by decide)
  have e12_N1_ : ze N1_ 81 12 = ze Mz 81 12 := hsN1_.e (by decide)
  have e13_N1_ : ze N1_ 81 13 = ze Mz 81 13 := hsN1_.e (by decide)
  have r20_N1_ := ze_r N1_ 81 20
  have c2_ : zPm N1_ := zPm.fr hsN1_ p4_ (by decide) (by decide)
  have c3_ : zB 83 24 0 5 N1_ := zB.fr hsN1_ p5_ (by decide) (by decide)
  have c4_ : zB 85 144 0 5 N1_ := zB.fr hsN1_ p6_ (by decide) (by decide)
  refine zw_iconst (pc := 5) (v := Int32.ofInt 0) (by decide) (zdal_p dlC_M_buildsMembers_15 (i := 3) rfl) ?_
  refine zw_istore_n (pc := 6) (i := 1) (L2 := [some (.ref 81), some (.int (Int32.ofInt 0)), none, none]) rfl (by decide) rfl (zdal_p dlC_M_buildsMembers_15 (i := 4) rfl) ?_
  have lp_7 : ∀ (n : Nat) (u5_ : Int) (hu5_a : -2147483648 ≤ u5_) (hu5_b : u5_ < 2147483648) (N6_ : zMem) (hs7_ : zFr [] [85] N1_ N6_) (i8_ : 0 ≤ u5_) (i9_ : u5_ ≤ 6) (i10_ : ∀ q : Nat, (q : Int) < u5_ → ze N6_ 85 q = q) (i11_ : ze N6_ 81 20 = 1) (i12_ : zB 85 144 0 5 N6_), (6 - u5_).toNat < n → zW l m_M_buildsMembers (zn Mz + 0, zw Mz + 0) N6_ 7 [some (.ref 81), some (.int (Int32.ofInt u5_)), none, none] [] (zpI [20] [85, 86, 87, 88] Mz (fun v N => zB 85 144 0 5 N ∧ (((v = 1 ∧ zFin Mz ∧ 1 ≤ ze N 81 20 ∧ ze N 81 20 ≤ 24 ∧ (∃ T : zGT, T ∈ gTabs ∧ zTab T N)) ∨ (v = 0 ∧ ¬ zFin Mz))))) := by
    intro n
    induction n with
    | zero =>
      intro u5_ hu5_a hu5_b N6_ hs7_ i8_ i9_ i10_ i11_ i12_ h0
      exact absurd h0 (Nat.not_lt_zero _)
    | succ n ih_7 =>
      intro u5_ hu5_a hu5_b N6_ hs7_ i8_ i9_ i10_ i11_ i12_ hlt_7
      have hf_N6_ : zFr [20] [85, 86, 87, 88] Mz N6_ := hf_N1_.tr hs7_ (by decide) (by decide)
      have e12_N6_ : ze N6_ 81 12 = ze N1_ 81 12 := hs7_.e (by decide)
      have e13_N6_ : ze N6_ 81 13 = ze N1_ 81 13 := hs7_.e (by decide)
      have e20_N6_ : ze N6_ 81 20 = ze N1_ 81 20 := hs7_.e (by decide)
      have c13_ : zPm N6_ := zPm.fr hs7_ c2_ (by decide) (by decide)
      have c14_ : zB 83 24 0 5 N6_ := zB.fr hs7_ c3_ (by decide) (by decide)
      refine zw_iload_n (pc := 7) (n := 1) (x := Int32.ofInt u5_) rfl (zdal_p dlC_M_buildsMembers_15 (i := 5) rfl) ?_
      refine zw_bipush (pc := 8) (v := Int32.ofInt 6) (by decide) (zdal_p dlC_M_buildsMembers_15 (i := 6) rfl) ?_
      refine zr_icmp_ge (pc := 10) (tgt := 26) ⟨hu5_a, hu5_b⟩ ⟨(by decide), (by decide)⟩ (by decide) (zdal_p dlC_M_buildsMembers_15 (i := 7) rfl) (fun hc_10 => ?_) (fun hc_10 => ?_)
      · skip
        have hB0_ := zBs_0 (M0 := Mz) (N := N6_) (by (exact i11_)) (fun q hq => (show ∀ q : Nat, (q : Int) < u5_ → ze N6_ 85 q = q by assumption) q (by (exact zo_635 hc_10 hq)))
        refine zw_iconst (pc := 26) (v := Int32.ofInt 0) (by decide) (zdal_p dlC_M_buildsMembers_15 (i := 15) rfl) ?_
        refine zw_istore_n (pc := 27) (i := 1) (L2 := [some (.ref 81), some (.int (Int32.ofInt 0)), none, none]) rfl (by decide) rfl (zdal_p dlC_M_buildsMembers_15 (i := 16) rfl) ?_
        have lp_28 : ∀ (n : Nat) (u15_ : Int) (hu15_a : -2147483648 ≤ u15_) (hu15_b : u15_ < 2147483648) (N16_ : zMem) (hs17_ : zFr [20] [85, 86] N6_ N16_) (i18_ : 0 ≤ u15_) (i19_ : u15_ ≤ ze N16_ 81 20) (i20_ : zBs Mz N16_) (i21_ : zBc Mz N16_ u15_ 0) (i22_ : 1 ≤ ze N16_ 81 20) (i23_ : ze N16_ 81 20 ≤ 24) (i24_ : zB 85 144 0 5 N16_), (25 - u15_).toNat < n → zW l m_M_buildsMembers (zn Mz + 0, zw Mz + 0) N16_ 28 [some (.ref 81), some (.int (Int32.ofInt u15_)), none, none] [] (zpI [20] [85, 86, 87, 88] Mz (fun v N => zB 85 144 0 5 N ∧ (((v = 1 ∧ zFin Mz ∧ 1 ≤ ze N 81 20 ∧ ze N 81 20 ≤ 24 ∧ (∃ T : zGT, T ∈ gTabs ∧ zTab T N)) ∨ (v = 0 ∧ ¬ zFin Mz))))) := by
          intro n
          induction n with
          | zero =>
            intro u15_ hu15_a hu15_b N16_ hs17_ i18_ i19_ i20_ i21_ i22_ i23_ i24_ h0
            exact absurd h0 (Nat.not_lt_zero _)
          | succ n ih_28 =>
            intro u15_ hu15_a hu15_b N16_ hs17_ i18_ i19_ i20_ i21_ i22_ i23_ i24_ hlt_28
            have hf_N16_ : zFr [20] [85, 86, 87, 88] Mz N16_ := hf_N6_.tr hs17_ (by decide) (by decide)
            have e12_N16_ : ze N16_ 81 12 = ze N6_ 81 12 := hs17_.e (by decide)
            have e13_N16_ : ze N16_ 81 13 = ze N6_ 81 13 := hs17_.e (by decide)
            have r20_N16_ := ze_r N16_ 81 20
            have c25_ : zPm N16_ := zPm.fr hs17_ c13_ (by decide) (by decide)
            have c26_ : zB 83 24 0 5 N16_ := zB.fr hs17_ c14_ (by decide) (by decide)
            refine zw_iload_n (pc := 28) (n := 1) (x := Int32.ofInt u15_) rfl (zdal_p dlC_M_buildsMembers_15 (i := 17) rfl) ?_
            refine zw_aload_n (pc := 29) (n := 0) (x := 81) rfl (zdal_p dlC_M_buildsMembers_15 (i := 18) rfl) ?_
            refine zr_getI (hf_N16_.w hW) (pc := 30) f_M_196 rfl (zdal_p dlC_M_buildsMembers_15 (i := 19) rfl) ?_
            refine zr_icmp_ge (pc := 33) (tgt := 169) ⟨hu15_a, hu15_b⟩ ⟨(ze_r N16_ 81 20).1, (ze_r N16_ 81 20).2⟩ (by decide) (zdal_p dlC_M_buildsMembers_15 (i := 20) rfl) (fun hc_33 => ?_) (fun hc_33 => ?_)
            · skip
              have hGr_ := zGr_i (show zBs Mz N16_ by assumption) (show zBc Mz N16_ u15_ 0 by assumption) (by (exact hc_33))
              have hFin_ := hGr_.2
              refine zw_iconst (pc := 169) (v := Int32.ofInt 0) (by decide) (zdal_p dlC_M_buildsMembers_19 (i := 0) rfl) ?_
              refine zw_istore_n (pc := 170) (i := 1) (L2 := [some (.ref 81), some (.int (Int32.ofInt 0)), none, none]) rfl (by decide) rfl (zdal_p dlC_M_buildsMembers_19 (i := 1) rfl) ?_
              have lp_171 : ∀ (n : Nat) (u27_ : Int) (hu27_a : -2147483648 ≤ u27_) (hu27_b : u27_ < 2147483648) (N28_ : zMem) (hs29_ : zFr [] [85] N16_ N28_) (i30_ : 0 ≤ u27_) (i31_ : u27_ ≤ ze N28_ 81 20) (i32_ : zGr Mz N28_) (i33_ : zSt Mz N28_ u27_) (i34_ : 1 ≤ ze N28_ 81 20) (i35_ : ze N28_ 81 20 ≤ 24) (i36_ : zB 85 144 0 5 N28_), (25 - u27_).toNat < n → zW l m_M_buildsMembers (zn Mz + 0, zw Mz + 0) N28_ 171 [some (.ref 81), some (.int (Int32.ofInt u27_)), none, none] [] (zpI [20] [85, 86, 87, 88] Mz (fun v N => zB 85 144 0 5 N ∧ (((v = 1 ∧ zFin Mz ∧ 1 ≤ ze N 81 20 ∧ ze N 81 20 ≤ 24 ∧ (∃ T : zGT, T ∈ gTabs ∧ zTab T N)) ∨ (v = 0 ∧ ¬ zFin Mz))))) := by
                intro n
                induction n with
                | zero =>
                  intro u27_ hu27_a hu27_b N28_ hs29_ i30_ i31_ i32_ i33_ i34_ i35_ i36_ h0
                  exact absurd h0 (Nat.not_lt_zero _)
                | succ n ih_171 =>
                  intro u27_ hu27_a hu27_b N28_ hs29_ i30_ i31_ i32_ i33_ i34_ i35_ i36_ hlt_171
                  have hf_N28_ : zFr [20] [85, 86, 87, 88] Mz N28_ := hf_N16_.tr hs29_ (by decide) (by decide)
                  have e12_N28_ : ze N28_ 81 12 = ze N16_ 81 12 := hs29_.e (by decide)
                  have e13_N28_ : ze N28_ 81 13 = ze N16_ 81 13 := hs29_.e (by decide)
                  have e20_N28_ : ze N28_ 81 20 = ze N16_ 81 20 := hs29_.e (by decide)
                  refine zw_iload_n (pc := 171) (n := 1) (x := Int32.ofInt u27_) rfl (zdal_p dlC_M_buildsMembers_19 (i := 2) rfl) ?_
                  refine zw_aload_n (pc := 172) (n := 0) (x := 81) rfl (zdal_p dlC_M_buildsMembers_19 (i := 3) rfl) ?_
                  refine zr_getI (hf_N28_.w hW) (pc := 173) f_M_196 rfl (zdal_p dlC_M_buildsMembers_19 (i := 4) rfl) ?_
                  refine zr_icmp_ge (pc := 176) (tgt := 218) ⟨hu27_a, hu27_b⟩ ⟨(ze_r N28_ 81 20).1, (ze_r N28_ 81 20).2⟩ (by decide) (zdal_p dlC_M_buildsMembers_19 (i := 5) rfl) (fun hc_176 => ?_) (fun hc_176 => ?_)
                  · skip
                    obtain ⟨T, hT_⟩ := zTb_i p4_ hFin_ (show zGr Mz N28_ by assumption) (show zSt Mz N28_ u27_ by assumption) (by (exact hc_176))
                    have hgn_ := hT_.2.1
                    have h24_ : gN T ≤ 24 := by (exact zo_636 hgn_ i35_)
                    refine zw_iconst (pc := 218) (v := Int32.ofInt 0) (by decide) (zdal_p dlC_M_buildsMembers_20 (i := 3) rfl) ?_
                    refine zw_istore_n (pc := 219) (i := 1) (L2 := [some (.ref 81), some (.int (Int32.ofInt 0)), none, none]) rfl (by decide) rfl (zdal_p dlC_M_buildsMembers_20 (i := 4) rfl) ?_
                    have lp_220 : ∀ (n : Nat) (u39_ : Int) (hu39_a : -2147483648 ≤ u39_) (hu39_b : u39_ < 2147483648) (N40_ : zMem) (hs41_ : zFr [] [86, 87, 88] N28_ N40_) (i42_ : 0 ≤ u39_) (i43_ : u39_ ≤ ze N40_ 81 20) (i44_ : zTb Mz N40_ T) (i45_ : zGr Mz N40_) (i46_ : zPq N40_ T u39_ 0) (i47_ : ze N40_ 81 20 = (gN T : Int)) (i48_ : 1 ≤ ze N40_ 81 20) (i49_ : ze N40_ 81 20 ≤ 24), (25 - u39_).toNat < n → zW l m_M_buildsMembers (zn Mz + 0, zw Mz + 0) N40_ 220 [some (.ref 81), some (.int (Int32.ofInt u39_)), none, none] [] (zpI [20] [85, 86, 87, 88] Mz (fun v N => zB 85 144 0 5 N ∧ (((v = 1 ∧ zFin Mz ∧ 1 ≤ ze N 81 20 ∧ ze N 81 20 ≤ 24 ∧ (∃ T : zGT, T ∈ gTabs ∧ zTab T N)) ∨ (v = 0 ∧ ¬ zFin Mz))))) := by
                      intro n
                      induction n with
                      | zero =>
                        intro u39_ hu39_a hu39_b N40_ hs41_ i42_ i43_ i44_ i45_ i46_ i47_ i48_ i49_ h0
                        exact absurd h0 (Nat.not_lt_zero _)
                      | succ n ih_220 =>
                        intro u39_ hu39_a hu39_b N40_ hs41_ i42_ i43_ i44_ i45_ i46_ i47_ i48_ i49_ hlt_220
                        have hf_N40_ : zFr [20] [85, 86, 87, 88] Mz N40_ := hf_N28_.tr hs41_ (by decide) (by decide)
                        have e12_N40_ : ze N40_ 81 12 = ze N28_ 81 12 := hs41_.e (by decide)
                        have e13_N40_ : ze N40_ 81 13 = ze N28_ 81 13 := hs41_.e (by decide)
                        have e20_N40_ : ze N40_ 81 20 = ze N28_ 81 20 := hs41_.e (by decide)
                        have c52_ : zB 85 144 0 5 N40_ := zB.fr hs41_ i36_ (by decide) (by decide)
                        refine zw_iload_n (pc := 220) (n := 1) (x := Int32.ofInt u39_) rfl (zdal_p dlC_M_buildsMembers_20 (i := 5) rfl) ?_
                        refine zw_aload_n (pc := 221) (n := 0) (x := 81) rfl (zdal_p dlC_M_buildsMembers_20 (i := 6) rfl) ?_
                        refine zr_getI (hf_N40_.w hW) (pc := 222) f_M_196 rfl (zdal_p dlC_M_buildsMembers_20 (i := 7) rfl) ?_
                        refine zr_icmp_ge (pc := 225) (tgt := 329) ⟨hu39_a, hu39_b⟩ ⟨(ze_r N40_ 81 20).1, (ze_r N40_ 81 20).2⟩ (by decide) (zdal_p dlC_M_buildsMembers_20 (i := 8) rfl) (fun hc_225 => ?_) (fun hc_225 => ?_)
                        · skip
                          refine zw_iconst (pc := 329) (v := Int32.ofInt 1) (by decide) (zdal_p dlC_M_buildsMembers_22 (i := 22) rfl) ?_
                          exact zr_iret (pc := 330) (ty := .boolean) rfl (z_narB (by (decide))) ⟨by (decide), by (decide)⟩ hf_N40_ ⟨c52_, (show ((1 = 1 ∧ zFin Mz ∧ 1 ≤ ze N40_ 81 20 ∧ ze N40_ 81 20 ≤ 24 ∧ (∃ T : zGT, T ∈ gTabs ∧ zTab T N40_)) ∨ (1 = 0 ∧ ¬ zFin Mz)) from Or.inl (⟨(show 1 = 1 by first | exact hFin_ | (decide) | exact ⟨T, hT_.1, zPq_e (show zTb Mz N40_ T by assumption) (show zPq N40_ T u39_ 0 by assumption) (by omega)⟩), (show zFin Mz by first | exact hFin_ | omega | exact ⟨T, hT_.1, zPq_e (show zTb Mz N40_ T by assumption) (show zPq N40_ T u39_ 0 by assumption) (by omega)⟩), (show 1 ≤ ze N40_ 81 20 by first | exact hFin_ | (exact i48_) | exact ⟨T, hT_.1, zPq_e (show zTb Mz N40_ T by assumption) (show zPq N40_ T u39_ 0 by assumption) (by omega)⟩), (show ze N40_ 81 20 ≤ 24 by first | exact hFin_ | (exact i49_) | exact ⟨T, hT_.1, zPq_e (show zTb Mz N40_ T by assumption) (show zPq N40_ T u39_ 0 by assumption) (by omega)⟩), (show (∃ T : zGT, T ∈ gTabs ∧ zTab T N40_) by first | exact hFin_ | omega | exact ⟨T, hT_.1, zPq_e (show zTb Mz N40_ T by assumption) (show zPq N40_ T u39_ 0 by assumption) (by (exact zo_637 h24_ hc_225 i42_ i47_))⟩)⟩))⟩ (zdal_p dlC_M_buildsMembers_22 (i := 23) rfl)
                        · skip
                          refine zw_iconst (pc := 228) (v := Int32.ofInt 0) (by decide) (zdal_p dlC_M_buildsMembers_20 (i := 9) rfl) ?_
                          refine zw_istore_n (pc := 229) (i := 2) (L2 := [some (.ref 81), some (.int (Int32.ofInt u39_)), some (.int (Int32.ofInt 0)), none]) rfl (by decide) rfl (zdal_p dlC_M_buildsMembers_20 (i := 10) rfl) ?_
                          have lp_230 : ∀ (n : Nat) (u53_ : Int) (hu53_a : -2147483648 ≤ u53_) (hu53_b : u53_ < 2147483648) (N54_ : zMem) (hs55_ : zFr [] [86, 87, 88] N40_ N54_) (i56_ : u39_ < ze N54_ 81 20) (i57_ : 0 ≤ u53_) (i58_ : u53_ ≤ ze N54_ 81 20) (i59_ : zTb Mz N54_ T) (i60_ : zGr Mz N54_) (i61_ : zPq N54_ T u39_ u53_) (i62_ : zPu N54_ T u39_ u53_) (i63_ : ze N54_ 81 20 = (gN T : Int)) (i64_ : 1 ≤ ze N54_ 81 20) (i65_ : ze N54_ 81 20 ≤ 24), (25 - u53_).toNat < n → zW l m_M_buildsMembers (zn Mz + 0, zw Mz + 0) N54_ 230 [some (.ref 81), some (.int (Int32.ofInt u39_)), some (.int (Int32.ofInt u53_)), none] [] (zpI [20] [85, 86, 87, 88] Mz (fun v N => zB 85 144 0 5 N ∧ (((v = 1 ∧ zFin Mz ∧ 1 ≤ ze N 81 20 ∧ ze N 81 20 ≤ 24 ∧ (∃ T : zGT, T ∈ gTabs ∧ zTab T N)) ∨ (v = 0 ∧ ¬ zFin Mz))))) := by
                            intro n
                            induction n with
                            | zero =>
                              intro u53_ hu53_a hu53_b N54_ hs55_ i56_ i57_ i58_ i59_ i60_ i61_ i62_ i63_ i64_ i65_ h0
                              exact absurd h0 (Nat.not_lt_zero _)
                            | succ n ih_230 =>
                              intro u53_ hu53_a hu53_b N54_ hs55_ i56_ i57_ i58_ i59_ i60_ i61_ i62_ i63_ i64_ i65_ hlt_230
                              have hf_N54_ : zFr [20] [85, 86, 87, 88] Mz N54_ := hf_N40_.tr hs55_ (by decide) (by decide)
                              have hb0_N54_ : zFr [] [86, 87, 88] N28_ N54_ := hs41_.tr hs55_ (by decide) (by decide)
                              have e12_N54_ : ze N54_ 81 12 = ze N40_ 81 12 := hs55_.e (by decide)
                              have e13_N54_ : ze N54_ 81 13 = ze N40_ 81 13 := hs55_.e (by decide)
                              have e20_N54_ : ze N54_ 81 20 = ze N40_ 81 20 := hs55_.e (by decide)
                              have c68_ : zB 85 144 0 5 N54_ := zB.fr hs55_ c52_ (by decide) (by decide)
                              refine zw_iload_n (pc := 230) (n := 2) (x := Int32.ofInt u53_) rfl (zdal_p dlC_M_buildsMembers_20 (i := 11) rfl) ?_
                              refine zw_aload_n (pc := 231) (n := 0) (x := 81) rfl (zdal_p dlC_M_buildsMembers_20 (i := 12) rfl) ?_
                              refine zr_getI (hf_N54_.w hW) (pc := 232) f_M_196 rfl (zdal_p dlC_M_buildsMembers_20 (i := 13) rfl) ?_
                              refine zr_icmp_ge (pc := 235) (tgt := 323) ⟨hu53_a, hu53_b⟩ ⟨(ze_r N54_ 81 20).1, (ze_r N54_ 81 20).2⟩ (by decide) (zdal_p dlC_M_buildsMembers_20 (i := 14) rfl) (fun hc_235 => ?_) (fun hc_235 => ?_)
                              · skip
                                have n1_ := zPq_n (show zTb Mz N54_ T by assumption) (by (exact i42_)) (show zPq N54_ T u39_ u53_ by assumption) (show zPu N54_ T u39_ u53_ by assumption) (by (exact zo_638 h24_ hc_235 hu53_b i57_ i58_ i63_ i65_))
                                refine zr_iinc (pc := 323) (i := 1) (a := u39_) (n := 1) (L2 := [some (.ref 81), some (.int (Int32.ofInt (u39_ + 1))), some (.int (Int32.ofInt u53_)), none]) rfl (by decide) rfl (zdal_p dlC_M_buildsMembers_22 (i := 20) rfl) ?_
                                refine zw_goto (pc := 326) (tgt := 220) (by decide) (zdal_p dlC_M_buildsMembers_22 (i := 21) rfl) ?_
                                refine zW_le [some (.ref 81), some (.int (Int32.ofInt (u39_ + 1))), none, none] (⟨rfl, rfl, trivial⟩) ?_
                                exact ih_220 (u39_ + 1) (by (exact zo_74 i42_)) (by (exact zo_639 hc_225 hu39_b i49_)) N54_ hb0_N54_ (show 0 ≤ (u39_ + 1) by first | assumption | (exact zo_76 i42_)) (show (u39_ + 1) ≤ ze N54_ 81 20 by first | assumption | omega) (show zTb Mz N54_ T by first | assumption | omega) (show zGr Mz N54_ by first | assumption | omega) (show zPq N54_ T (u39_ + 1) 0 by exact n1_) (show ze N54_ 81 20 = (gN T : Int) by first | assumption | omega) (show 1 ≤ ze N54_ 81 20 by first | assumption | omega) (show ze N54_ 81 20 ≤ 24 by first | assumption | omega) (by (exact zo_640 hc_225 hlt_220 hu39_b i42_ i49_))
                              · skip
                                refine zw_iconst (pc := 238) (v := Int32.ofInt 0) (by decide) (zdal_p dlC_M_buildsMembers_20 (i := 15) rfl) ?_
                                refine zw_istore_n (pc := 239) (i := 3) (L2 := [some (.ref 81), some (.int (Int32.ofInt u39_)), some (.int (Int32.ofInt u53_)), some (.int (Int32.ofInt 0))]) rfl (by decide) rfl (zdal_p dlC_M_buildsMembers_20 (i := 16) rfl) ?_
                                have lp_240 : ∀ (n : Nat) (u69_ : Int) (hu69_a : -2147483648 ≤ u69_) (hu69_b : u69_ < 2147483648) (N70_ : zMem) (hs71_ : zFr [] [86] N54_ N70_) (i72_ : 0 ≤ u69_) (i73_ : u69_ ≤ ze Mz 81 12) (i74_ : zCg Mz N70_ u39_ u53_ 1 u69_) (i75_ : zTb Mz N70_ T) (i76_ : zGr Mz N70_) (i77_ : zPq N70_ T u39_ u53_) (i78_ : zPu N70_ T u39_ u53_), (ze Mz 81 12 - u69_).toNat < n → zW l m_M_buildsMembers (zn Mz + 0, zw Mz + 0) N70_ 240 [some (.ref 81), some (.int (Int32.ofInt u39_)), some (.int (Int32.ofInt u53_)), some (.int (Int32.ofInt u69_))] [] (zpI [20] [85, 86, 87, 88] Mz (fun v N => zB 85 144 0 5 N ∧ (((v = 1 ∧ zFin Mz ∧ 1 ≤ ze N 81 20 ∧ ze N 81 20 ≤ 24 ∧ (∃ T : zGT, T ∈ gTabs ∧ zTab T N)) ∨ (v = 0 ∧ ¬ zFin Mz))))) := by
                                  intro n
                                  induction n with
                                  | zero =>
                                    intro u69_ hu69_a hu69_b N70_ hs71_ i72_ i73_ i74_ i75_ i76_ i77_ i78_ h0
                                    exact absurd h0 (Nat.not_lt_zero _)
                                  | succ n ih_240 =>
                                    intro u69_ hu69_a hu69_b N70_ hs71_ i72_ i73_ i74_ i75_ i76_ i77_ i78_ hlt_240
                                    have hf_N70_ : zFr [20] [85, 86, 87, 88] Mz N70_ := hf_N54_.tr hs71_ (by decide) (by decide)
                                    have hb0_N70_ : zFr [] [86, 87, 88] N28_ N70_ := hb0_N54_.tr hs71_ (by decide) (by decide)
                                    have hb1_N70_ : zFr [] [86, 87, 88] N40_ N70_ := hs55_.tr hs71_ (by decide) (by decide)
                                    have e12_N70_ : ze N70_ 81 12 = ze N54_ 81 12 := hs71_.e (by decide)
                                    have e13_N70_ : ze N70_ 81 13 = ze N54_ 81 13 := hs71_.e (by decide)
                                    have e20_N70_ : ze N70_ 81 20 = ze N54_ 81 20 := hs71_.e (by decide)
                                    have c81_ : zB 85 144 0 5 N70_ := zB.fr hs71_ c68_ (by decide) (by decide)
                                    refine zw_iload_n (pc := 240) (n := 3) (x := Int32.ofInt u69_) rfl (zdal_p dlC_M_buildsMembers_20 (i := 17) rfl) ?_
                                    refine zw_aload_n (pc := 241) (n := 0) (x := 81) rfl (zdal_p dlC_M_buildsMembers_20 (i := 18) rfl) ?_
                                    refine zr_getI0 hf_N70_ hW (pc := 242) (by decide) f_M_115 rfl (zdal_p dlC_M_buildsMembers_20 (i := 19) rfl) ?_
                                    refine zr_icmp_ge (pc := 245) (tgt := 281) ⟨hu69_a, hu69_b⟩ ⟨(ze_r Mz 81 12).1, (ze_r Mz 81 12).2⟩ (by decide) (zdal_p dlC_M_buildsMembers_20 (i := 20) rfl) (fun hc_245 => ?_) (fun hc_245 => ?_)
                                    · skip
                                      have hcg_ := (show zCg Mz N70_ u39_ u53_ 1 u69_ by assumption)
                                      have hgr_ := (show zGr Mz N70_ by assumption)
                                      have hcc_ := zCg_c hPS_ c81_ (by (exact zo_641 hu39_b i42_ i56_ i65_)) (hgr_.g (i := (u39_).toNat) (by (exact zo_642 e20_N70_ hu39_b i42_ i56_ i64_ i65_))) (by (exact hc_245)) hcg_ (Or.inr ⟨rfl, by (exact i57_), by (exact zo_643 hc_235 hu53_b i65_)⟩)
                                      rw [if_neg (by decide)] at hcc_
                                      have hcb_ := zCg_b (P := ze Mz 81 12) hcg_ (by (exact hc_245))
                                      refine zw_aload_n (pc := 281) (n := 0) (x := 81) rfl (zdal_p dlC_M_buildsMembers_21 (i := 18) rfl) ?_
                                      refine zr_getF (r := 87) (hf_N70_.w hW) (pc := 282) f_M_32 rfl (zh_87 (hf_N70_.w hW)).1 (zdal_p dlC_M_buildsMembers_21 (i := 19) rfl) ?_
                                      refine zw_bipush (pc := 285) (v := Int32.ofInt 24) (by decide) (zdal_p dlC_M_buildsMembers_21 (i := 20) rfl) ?_
                                      refine zw_iload_n (pc := 287) (n := 1) (x := Int32.ofInt u39_) rfl (zdal_p dlC_M_buildsMembers_21 (i := 21) rfl) ?_
                                      refine zr_imul (pc := 288) (zdal_p dlC_M_buildsMembers_21 (i := 22) rfl) ?_
                                      refine zw_iload_n (pc := 289) (n := 2) (x := Int32.ofInt u53_) rfl (zdal_p dlC_M_buildsMembers_21 (i := 23) rfl) ?_
                                      refine zr_iadd (pc := 290) (zdal_p dlC_M_buildsMembers_22 (i := 0) rfl) ?_
                                      refine zw_aload_n (pc := 291) (n := 0) (x := 81) rfl (zdal_p dlC_M_buildsMembers_22 (i := 1) rfl) ?_
                                      refine zr_callV (hf_N70_.w hW) hf_N70_.x (pc := 292) [] [.int (Int32.ofInt ((24 * u39_) + u53_)), .ref 87] l_M_202 (c_M_indexOf l N70_ (hf_N70_.w hW) (ze Mz 81 12) (show 0 ≤ ze N70_ 81 20 by first | assumption | (exact zo_568 e20_N70_ i64_)) (show ze N70_ 81 20 ≤ 24 by first | assumption | (exact zo_644 e20_N70_ i65_)) (show ze N70_ 81 12 = (ze Mz 81 12) by first | assumption | (exact zo_645 e12_N16_ e12_N1_ e12_N28_ e12_N40_ e12_N54_ e12_N6_ e12_N70_)) (show 1 ≤ (ze Mz 81 12) by first | assumption | omega) (show (ze Mz 81 12) ≤ 6 by first | assumption | omega) c81_ (show zCb N70_ (ze Mz 81 12) by first | assumption | omega)) rfl rfl rfl (by decide) (Nat.le_of_ble_eq_true rfl) (zdal_p dlC_M_buildsMembers_22 (i := 2) rfl) ?_
                                      rintro _ N82_ ⟨v83_, rfl, ⟨hv83_a, hv83_b⟩, hsN82_, hp0_N82_⟩
                                      obtain rfl := hsN82_.eq.symm
                                      replace hp0_N82_ : ((0 ≤ v83_ ∧ v83_ < ze N70_ 81 20 ∧ zFnd N70_ v83_ (ze Mz 81 12)) ∨ (v83_ = -1 ∧ zNo2 N70_ (ze Mz 81 12))) := hp0_N82_
                                      rcases hp0_N82_ with ⟨ha292_0_hp0_N82_, ha292_1_hp0_N82_, ha292_2_hp0_N82_⟩ | ⟨rfl, ha292_0_hp0_N82_⟩
                                      · skip
                                        have hpv_ := zTb.p (show zTb Mz N70_ T by assumption) ⟨by (exact i42_), by (exact zo_646 e20_N70_ ha292_0_hp0_N82_ ha292_1_hp0_N82_ hu39_b i56_ i65_)⟩ ⟨by (exact i57_), by (exact zo_647 e20_N70_ ha292_0_hp0_N82_ ha292_1_hp0_N82_ hc_235 hu53_b i65_)⟩ hcc_ (Or.inl ⟨ha292_0_hp0_N82_, ha292_1_hp0_N82_, ha292_2_hp0_N82_⟩)
                                        show zW l m_M_buildsMembers (zn Mz + 0, zw Mz + 0) N70_ 295 [some (.ref 81), some (.int (Int32.ofInt u39_)), some (.int (Int32.ofInt u53_)), some (.int (Int32.ofInt u69_))] [.int (Int32.ofInt v83_), .int (Int32.ofInt ((24 * u39_) + u53_)), .ref 87] _
                                        refine zr_iast (pc := 295) (zh_87 (hf_N70_.w hW)).2 (by decide) (by decide) (by (exact zo_543 i42_ i57_)) (by (exact zo_648 hc_225 hc_235 hu53_b i49_ i65_)) (zdal_p dlC_M_buildsMembers_22 (i := 3) rfl) (fun N84_ hN84_ hsN84_ => ?_)
                                        have hf_N84_ : zFr [20] [85, 86, 87, 88] Mz N84_ := hf_N70_.tr hsN84_ (by decide) (by decide)
                                        have hb0_N84_ : zFr [] [86, 87, 88] N28_ N84_ := hb0_N70_.tr hsN84_ (by decide) (by decide)
                                        have hb1_N84_ : zFr [] [86, 87, 88] N40_ N84_ := hb1_N70_.tr hsN84_ (by decide) (by decide)
                                        have e12_N84_ : ze N84_ 81 12 = ze N70_ 81 12 := hsN84_.e (by decide)
                                        have e13_N84_ : ze N84_ 81 13 = ze N70_ 81 13 := hsN84_.e (by decide)
                                        have e20_N84_ : ze N84_ 81 20 = ze N70_ 81 20 := hsN84_.e (by decide)
                                        have hq_ := zPq_s h24_ (by (exact i42_)) (by (exact i57_)) (by (exact zo_649 hc_235 hu53_b i63_ i65_)) (by (exact zo_650 hc_225 hu39_b i47_ i56_ i65_)) (show zPq N70_ T u39_ u53_ by assumption) (show zPu N70_ T u39_ u53_ by assumption) hpv_.1 (by (exact zo_651 e20_N70_ ha292_1_hp0_N82_ hv83_b i65_)) hN84_
                                        have hq3_ := hq_.2.2
                                        have hg1_ := zTb.fr hsN84_ (show zTb Mz N70_ T by assumption) (by decide) (by decide)
                                        have hg2_ := zGr.fr hsN84_ (show zGr Mz N70_ by assumption) (by decide) (by decide)
                                        refine zw_aload_n (pc := 296) (n := 0) (x := 81) rfl (zdal_p dlC_M_buildsMembers_22 (i := 4) rfl) ?_
                                        refine zr_getF (r := 87) (hf_N84_.w hW) (pc := 297) f_M_32 rfl (zh_87 (hf_N84_.w hW)).1 (zdal_p dlC_M_buildsMembers_22 (i := 5) rfl) ?_
                                        refine zw_bipush (pc := 300) (v := Int32.ofInt 24) (by decide) (zdal_p dlC_M_buildsMembers_22 (i := 6) rfl) ?_
                                        refine zw_iload_n (pc := 302) (n := 1) (x := Int32.ofInt u39_) rfl (zdal_p dlC_M_buildsMembers_22 (i := 7) rfl) ?_
                                        refine zr_imul (pc := 303) (zdal_p dlC_M_buildsMembers_22 (i := 8) rfl) ?_
                                        refine zw_iload_n (pc := 304) (n := 2) (x := Int32.ofInt u53_) rfl (zdal_p dlC_M_buildsMembers_22 (i := 9) rfl) ?_
                                        refine zr_iadd (pc := 305) (zdal_p dlC_M_buildsMembers_22 (i := 10) rfl) ?_
                                        refine zr_ialdn (pc := 306) (zh_87 (hf_N84_.w hW)).2 (by decide) (by (exact zo_543 i42_ i57_)) (by (exact zo_648 hc_225 hc_235 hu53_b i49_ i65_)) (zdal_p dlC_M_buildsMembers_22 (i := 11) rfl) (fun v88_ hv88_ hv88_a hv88_b => ?_)
                                        refine zr_if_ne (pc := 307) (tgt := 317) ⟨hv88_a, hv88_b⟩ (by decide) (zdal_p dlC_M_buildsMembers_22 (i := 12) rfl) (fun hc_307 => ?_) (fun hc_307 => ?_)
                                        · skip
                                          refine zr_iinc (pc := 317) (i := 2) (a := u53_) (n := 1) (L2 := [some (.ref 81), some (.int (Int32.ofInt u39_)), some (.int (Int32.ofInt (u53_ + 1))), some (.int (Int32.ofInt u69_))]) rfl (by decide) rfl (zdal_p dlC_M_buildsMembers_22 (i := 18) rfl) ?_
                                          refine zw_goto (pc := 320) (tgt := 230) (by decide) (zdal_p dlC_M_buildsMembers_22 (i := 19) rfl) ?_
                                          have k1_ : zPq N84_ T u39_ (u53_ + 1) := by first | exact hw_.1 | exact hq_.1
                                          have k2_ : zPu N84_ T u39_ (u53_ + 1) := by first | exact hw_.2 | exact zPu_n (by (exact i57_)) hq_.2.1 (by (exact zo_652 ha292_0_hp0_N82_ hpv_.1 hq_.2.2 hv88_ hc_307))
                                          have k3_ : zTb Mz N84_ T := by first | exact hj1_ | exact hg1_
                                          have k4_ : zGr Mz N84_ := by first | exact hj2_ | exact hg2_
                                          refine zW_le [some (.ref 81), some (.int (Int32.ofInt u39_)), some (.int (Int32.ofInt (u53_ + 1))), none] (⟨rfl, rfl, rfl, trivial⟩) ?_
                                          exact ih_230 (u53_ + 1) (by (exact zo_74 i57_)) (by (exact zo_639 hc_235 hu53_b i65_)) N84_ hb1_N84_ (show u39_ < ze N84_ 81 20 by first | assumption | (exact zo_653 e20_N70_ e20_N84_ hu39_b i56_ i64_ i65_)) (show 0 ≤ (u53_ + 1) by first | assumption | (exact zo_76 i57_)) (show (u53_ + 1) ≤ ze N84_ 81 20 by first | assumption | (exact zo_654 e20_N70_ e20_N84_ hc_235 hu53_b i64_ i65_)) (show zTb Mz N84_ T by exact k3_) (show zGr Mz N84_ by exact k4_) (show zPq N84_ T u39_ (u53_ + 1) by exact k1_) (show zPu N84_ T u39_ (u53_ + 1) by exact k2_) (show ze N84_ 81 20 = (gN T : Int) by first | assumption | (exact zo_655 e20_N70_ e20_N84_ i63_ i65_)) (show 1 ≤ ze N84_ 81 20 by first | assumption | (exact zo_560 e20_N70_ e20_N84_ i64_)) (show ze N84_ 81 20 ≤ 24 by first | assumption | (exact zo_656 e20_N70_ e20_N84_ i65_)) (by (exact zo_640 hc_235 hlt_230 hu53_b i57_ i65_))
                                        · skip
                                          refine zw_aload_n (pc := 310) (n := 0) (x := 81) rfl (zdal_p dlC_M_buildsMembers_22 (i := 13) rfl) ?_
                                          refine zr_getF (r := 88) (hf_N84_.w hW) (pc := 311) f_M_35 rfl (zh_88 (hf_N84_.w hW)).1 (zdal_p dlC_M_buildsMembers_22 (i := 14) rfl) ?_
                                          refine zw_iload_n (pc := 314) (n := 1) (x := Int32.ofInt u39_) rfl (zdal_p dlC_M_buildsMembers_22 (i := 15) rfl) ?_
                                          refine zw_iload_n (pc := 315) (n := 2) (x := Int32.ofInt u53_) rfl (zdal_p dlC_M_buildsMembers_22 (i := 16) rfl) ?_
                                          refine zr_iast (pc := 316) (zh_88 (hf_N84_.w hW)).2 (by decide) (by decide) (by (exact i42_)) (by (exact zo_657 hu39_b i56_ i65_)) (zdal_p dlC_M_buildsMembers_22 (i := 17) rfl) (fun N89_ hN89_ hsN89_ => ?_)
                                          have hf_N89_ : zFr [20] [85, 86, 87, 88] Mz N89_ := hf_N84_.tr hsN89_ (by decide) (by decide)
                                          have hb0_N89_ : zFr [] [86, 87, 88] N28_ N89_ := hb0_N84_.tr hsN89_ (by decide) (by decide)
                                          have hb1_N89_ : zFr [] [86, 87, 88] N40_ N89_ := hb1_N84_.tr hsN89_ (by decide) (by decide)
                                          have e12_N89_ : ze N89_ 81 12 = ze N84_ 81 12 := hsN89_.e (by decide)
                                          have e13_N89_ : ze N89_ 81 13 = ze N84_ 81 13 := hsN89_.e (by decide)
                                          have e20_N89_ : ze N89_ 81 20 = ze N84_ 81 20 := hsN89_.e (by decide)
                                          have hw_ := zPu_s h24_ (by (exact i42_)) (by (exact i57_)) (by (exact zo_643 hc_235 hu53_b i65_)) hq_.1 (by (exact zo_658 hc_307 hpv_.1 hq_.2.2 hv83_b hv88_)) hN89_
                                          have hj1_ := zTb.fr hsN89_ hg1_ (by decide) (by decide)
                                          have hj2_ := zGr.fr hsN89_ hg2_ (by decide) (by decide)
                                          refine zr_iinc (pc := 317) (i := 2) (a := u53_) (n := 1) (L2 := [some (.ref 81), some (.int (Int32.ofInt u39_)), some (.int (Int32.ofInt (u53_ + 1))), some (.int (Int32.ofInt u69_))]) rfl (by decide) rfl (zdal_p dlC_M_buildsMembers_22 (i := 18) rfl) ?_
                                          refine zw_goto (pc := 320) (tgt := 230) (by decide) (zdal_p dlC_M_buildsMembers_22 (i := 19) rfl) ?_
                                          have k1_ : zPq N89_ T u39_ (u53_ + 1) := by first | exact hw_.1 | exact hq_.1
                                          have k2_ : zPu N89_ T u39_ (u53_ + 1) := by first | exact hw_.2 | exact zPu_n (by omega) hq_.2.1 (by omega)
                                          have k3_ : zTb Mz N89_ T := by first | exact hj1_ | exact hg1_
                                          have k4_ : zGr Mz N89_ := by first | exact hj2_ | exact hg2_
                                          refine zW_le [some (.ref 81), some (.int (Int32.ofInt u39_)), some (.int (Int32.ofInt (u53_ + 1))), none] (⟨rfl, rfl, rfl, trivial⟩) ?_
                                          exact ih_230 (u53_ + 1) (by (exact zo_74 i57_)) (by (exact zo_639 hc_235 hu53_b i65_)) N89_ hb1_N89_ (show u39_ < ze N89_ 81 20 by first | assumption | (exact zo_659 e20_N70_ e20_N84_ e20_N89_ hu39_b i56_ i64_ i65_)) (show 0 ≤ (u53_ + 1) by first | assumption | (exact zo_76 i57_)) (show (u53_ + 1) ≤ ze N89_ 81 20 by first | assumption | (exact zo_660 e20_N70_ e20_N84_ e20_N89_ hc_235 hu53_b i64_ i65_)) (show zTb Mz N89_ T by exact k3_) (show zGr Mz N89_ by exact k4_) (show zPq N89_ T u39_ (u53_ + 1) by exact k1_) (show zPu N89_ T u39_ (u53_ + 1) by exact k2_) (show ze N89_ 81 20 = (gN T : Int) by first | assumption | (exact zo_661 e20_N70_ e20_N84_ e20_N89_ i63_ i65_)) (show 1 ≤ ze N89_ 81 20 by first | assumption | (exact zo_662 e20_N70_ e20_N84_ e20_N89_ i64_)) (show ze N89_ 81 20 ≤ 24 by first | assumption | (exact zo_663 e20_N70_ e20_N84_ e20_N89_ i65_)) (by (exact zo_640 hc_235 hlt_230 hu53_b i57_ i65_))
                                      · skip
                                        have hpv_ := zTb.p (v := -1) (show zTb Mz N70_ T by assumption) ⟨by (exact i42_), by (exact zo_664 e20_N70_ hu39_b i56_ i64_ i65_)⟩ ⟨by (exact i57_), by (exact zo_665 e20_N70_ hc_235 hu53_b i64_ i65_)⟩ hcc_ (Or.inr ⟨rfl, ha292_0_hp0_N82_⟩)
                                        exact absurd hpv_.2.1 (by decide)
                                    · skip
                                      refine zw_aload_n (pc := 248) (n := 0) (x := 81) rfl (zdal_p dlC_M_buildsMembers_20 (i := 21) rfl) ?_
                                      refine zr_getF (r := 86) (hf_N70_.w hW) (pc := 249) f_M_29 rfl (zh_86 (hf_N70_.w hW)).1 (zdal_p dlC_M_buildsMembers_20 (i := 22) rfl) ?_
                                      refine zw_iload_n (pc := 252) (n := 3) (x := Int32.ofInt u69_) rfl (zdal_p dlC_M_buildsMembers_20 (i := 23) rfl) ?_
                                      refine zw_aload_n (pc := 253) (n := 0) (x := 81) rfl (zdal_p dlC_M_buildsMembers_21 (i := 0) rfl) ?_
                                      refine zr_getF (r := 85) (hf_N70_.w hW) (pc := 254) f_M_26 rfl (zh_85 (hf_N70_.w hW)).1 (zdal_p dlC_M_buildsMembers_21 (i := 1) rfl) ?_
                                      refine zw_bipush (pc := 257) (v := Int32.ofInt 6) (by decide) (zdal_p dlC_M_buildsMembers_21 (i := 2) rfl) ?_
                                      refine zw_iload_n (pc := 259) (n := 2) (x := Int32.ofInt u53_) rfl (zdal_p dlC_M_buildsMembers_21 (i := 3) rfl) ?_
                                      refine zr_imul (pc := 260) (zdal_p dlC_M_buildsMembers_21 (i := 4) rfl) ?_
                                      refine zw_aload_n (pc := 261) (n := 0) (x := 81) rfl (zdal_p dlC_M_buildsMembers_21 (i := 5) rfl) ?_
                                      refine zr_getF (r := 85) (hf_N70_.w hW) (pc := 262) f_M_26 rfl (zh_85 (hf_N70_.w hW)).1 (zdal_p dlC_M_buildsMembers_21 (i := 6) rfl) ?_
                                      refine zw_bipush (pc := 265) (v := Int32.ofInt 6) (by decide) (zdal_p dlC_M_buildsMembers_21 (i := 7) rfl) ?_
                                      refine zw_iload_n (pc := 267) (n := 1) (x := Int32.ofInt u39_) rfl (zdal_p dlC_M_buildsMembers_21 (i := 8) rfl) ?_
                                      refine zr_imul (pc := 268) (zdal_p dlC_M_buildsMembers_21 (i := 9) rfl) ?_
                                      refine zw_iload_n (pc := 269) (n := 3) (x := Int32.ofInt u69_) rfl (zdal_p dlC_M_buildsMembers_21 (i := 10) rfl) ?_
                                      refine zr_iadd (pc := 270) (zdal_p dlC_M_buildsMembers_21 (i := 11) rfl) ?_
                                      refine zr_ialdn (pc := 271) (zh_85 (hf_N70_.w hW)).2 (by decide) (by (exact zo_666 i42_ i72_)) (by (exact zo_667 hc_245 i56_ i65_ p1_)) (zdal_p dlC_M_buildsMembers_21 (i := 12) rfl) (fun v93_ hv93_ hv93_a hv93_b => ?_)
                                      have hr94_ := c81_.g (e := (6 * u39_) + u69_) (by (exact zo_666 i42_ i72_)) (by (exact zo_667 hc_245 i56_ i65_ p1_))
                                      rw [← hv93_] at hr94_
                                      refine zr_toI (show v93_ = ze N70_ 85 (6 * u39_ + u69_).toNat by (exact hv93_)) ?_
                                      refine zr_iadd (pc := 272) (zdal_p dlC_M_buildsMembers_21 (i := 13) rfl) ?_
                                      refine zr_ialdn (pc := 273) (zh_85 (hf_N70_.w hW)).2 (by decide) (by (exact zo_668 hr94_.1 hv93_ i57_)) (by (exact zo_669 hc_235 hr94_.2 hu53_b hv93_ i65_)) (zdal_p dlC_M_buildsMembers_21 (i := 14) rfl) (fun v95_ hv95_ hv95_a hv95_b => ?_)
                                      have hr96_ := c81_.g (e := (6 * u53_) + (ze N70_ 85 (6 * u39_ + u69_).toNat)) (by (exact zo_668 hr94_.1 hv93_ i57_)) (by (exact zo_669 hc_235 hr94_.2 hu53_b hv93_ i65_))
                                      rw [← hv95_] at hr96_
                                      refine zr_iast (pc := 274) (zh_86 (hf_N70_.w hW)).2 (by decide) (by decide) (by (exact i72_)) (by (exact zo_670 hc_245 p1_)) (zdal_p dlC_M_buildsMembers_21 (i := 15) rfl) (fun N97_ hN97_ hsN97_ => ?_)
                                      have hf_N97_ : zFr [20] [85, 86, 87, 88] Mz N97_ := hf_N70_.tr hsN97_ (by decide) (by decide)
                                      have hb0_N97_ : zFr [] [86, 87, 88] N28_ N97_ := hb0_N70_.tr hsN97_ (by decide) (by decide)
                                      have hb1_N97_ : zFr [] [86, 87, 88] N40_ N97_ := hb1_N70_.tr hsN97_ (by decide) (by decide)
                                      have hb2_N97_ : zFr [] [86] N54_ N97_ := hs71_.tr hsN97_ (by decide) (by decide)
                                      have hG_ := zCg_s (show zCg Mz N70_ u39_ u53_ 1 u69_ by assumption) (by (exact i72_)) (by (exact hr96_)) (by rw [if_neg (by decide)]; assumption) (by (exact i42_)) hN97_
                                      have hf0_ := zTb.fr hsN97_ (show zTb Mz N70_ T by assumption) (by decide) (by decide)
                                      have hf1_ := zGr.fr hsN97_ (show zGr Mz N70_ by assumption) (by decide) (by decide)
                                      have hf2_ := zPq.fr hsN97_ (show zPq N70_ T u39_ u53_ by assumption) (by decide)
                                      have hf3_ := zPu.fr hsN97_ (show zPu N70_ T u39_ u53_ by assumption) (by decide)
                                      refine zr_iinc (pc := 275) (i := 3) (a := u69_) (n := 1) (L2 := [some (.ref 81), some (.int (Int32.ofInt u39_)), some (.int (Int32.ofInt u53_)), some (.int (Int32.ofInt (u69_ + 1)))]) rfl (by decide) rfl (zdal_p dlC_M_buildsMembers_21 (i := 16) rfl) ?_
                                      refine zw_goto (pc := 278) (tgt := 240) (by decide) (zdal_p dlC_M_buildsMembers_21 (i := 17) rfl) ?_
                                      exact ih_240 (u69_ + 1) (by (exact zo_74 i72_)) (by (exact zo_671 hc_245 p1_)) N97_ hb2_N97_ (show 0 ≤ (u69_ + 1) by first | assumption | (exact zo_76 i72_)) (show (u69_ + 1) ≤ ze Mz 81 12 by first | assumption | omega) (show zCg Mz N97_ u39_ u53_ 1 (u69_ + 1) by exact hG_) (show zTb Mz N97_ T by exact hf0_) (show zGr Mz N97_ by exact hf1_) (show zPq N97_ T u39_ u53_ by exact hf2_) (show zPu N97_ T u39_ u53_ by exact hf3_) (by (exact zo_147 hc_245 hlt_240))
                                exact lp_240 _ 0 (by decide) (by decide) N54_ zFr.rf (show 0 ≤ (0 : Int) by first | assumption | (decide)) (show (0 : Int) ≤ ze Mz 81 12 by first | assumption | (exact zo_564 p0_)) (show zCg Mz N54_ u39_ u53_ 1 (0 : Int) by exact zCg_0) (show zTb Mz N54_ T by first | assumption | omega) (show zGr Mz N54_ by first | assumption | omega) (show zPq N54_ T u39_ u53_ by first | assumption | omega) (show zPu N54_ T u39_ u53_ by first | assumption | omega) (Nat.lt_succ_self _)
                          exact lp_230 _ 0 (by decide) (by decide) N40_ zFr.rf (show u39_ < ze N40_ 81 20 by first | assumption | omega) (show 0 ≤ (0 : Int) by first | assumption | (decide)) (show (0 : Int) ≤ ze N40_ 81 20 by first | assumption | (exact zo_564 i48_)) (show zTb Mz N40_ T by first | assumption | omega) (show zGr Mz N40_ by first | assumption | omega) (show zPq N40_ T u39_ (0 : Int) by first | assumption | omega) (show zPu N40_ T u39_ (0 : Int) by exact zPu_0) (show ze N40_ 81 20 = (gN T : Int) by first | assumption | omega) (show 1 ≤ ze N40_ 81 20 by first | assumption | omega) (show ze N40_ 81 20 ≤ 24 by first | assumption | omega) (Nat.lt_succ_self _)
                    exact lp_220 _ 0 (by decide) (by decide) N28_ zFr.rf (show 0 ≤ (0 : Int) by first | assumption | (decide)) (show (0 : Int) ≤ ze N28_ 81 20 by first | assumption | (exact zo_564 i34_)) (show zTb Mz N28_ T by exact hT_) (show zGr Mz N28_ by first | assumption | omega) (show zPq N28_ T (0 : Int) 0 by exact zPq_0) (show ze N28_ 81 20 = (gN T : Int) by first | assumption | omega) (show 1 ≤ ze N28_ 81 20 by first | assumption | omega) (show ze N28_ 81 20 ≤ 24 by first | assumption | omega) (Nat.lt_succ_self _)
                  · skip
                    refine zw_iload_n (pc := 179) (n := 1) (x := Int32.ofInt u27_) rfl (zdal_p dlC_M_buildsMembers_19 (i := 6) rfl) ?_
                    refine zw_iconst (pc := 180) (v := Int32.ofInt 1) (by decide) (zdal_p dlC_M_buildsMembers_19 (i := 7) rfl) ?_
                    refine zr_iadd (pc := 181) (zdal_p dlC_M_buildsMembers_19 (i := 8) rfl) ?_
                    refine zw_istore_n (pc := 182) (i := 2) (L2 := [some (.ref 81), some (.int (Int32.ofInt u27_)), some (.int (Int32.ofInt (u27_ + 1))), none]) rfl (by decide) rfl (zdal_p dlC_M_buildsMembers_19 (i := 9) rfl) ?_
                    have lp_183 : ∀ (n : Nat) (u101_ : Int) (hu101_a : -2147483648 ≤ u101_) (hu101_b : u101_ < 2147483648) (N102_ : zMem) (hs103_ : zFr [] [85] N28_ N102_) (i104_ : u27_ < ze N102_ 81 20) (i105_ : u27_ < u101_) (i106_ : u101_ ≤ ze N102_ 81 20) (i107_ : zGr Mz N102_) (i108_ : zSt Mz N102_ u27_) (i109_ : zSu Mz N102_ u27_ u101_) (i110_ : 1 ≤ ze N102_ 81 20) (i111_ : ze N102_ 81 20 ≤ 24) (i112_ : zB 85 144 0 5 N102_), (25 - u101_).toNat < n → zW l m_M_buildsMembers (zn Mz + 0, zw Mz + 0) N102_ 183 [some (.ref 81), some (.int (Int32.ofInt u27_)), some (.int (Int32.ofInt u101_)), none] [] (zpI [20] [85, 86, 87, 88] Mz (fun v N => zB 85 144 0 5 N ∧ (((v = 1 ∧ zFin Mz ∧ 1 ≤ ze N 81 20 ∧ ze N 81 20 ≤ 24 ∧ (∃ T : zGT, T ∈ gTabs ∧ zTab T N)) ∨ (v = 0 ∧ ¬ zFin Mz))))) := by
                      intro n
                      induction n with
                      | zero =>
                        intro u101_ hu101_a hu101_b N102_ hs103_ i104_ i105_ i106_ i107_ i108_ i109_ i110_ i111_ i112_ h0
                        exact absurd h0 (Nat.not_lt_zero _)
                      | succ n ih_183 =>
                        intro u101_ hu101_a hu101_b N102_ hs103_ i104_ i105_ i106_ i107_ i108_ i109_ i110_ i111_ i112_ hlt_183
                        have hf_N102_ : zFr [20] [85, 86, 87, 88] Mz N102_ := hf_N28_.tr hs103_ (by decide) (by decide)
                        have hb0_N102_ : zFr [] [85] N16_ N102_ := hs29_.tr hs103_ (by decide) (by decide)
                        have e12_N102_ : ze N102_ 81 12 = ze N28_ 81 12 := hs103_.e (by decide)
                        refine zw_iload_n (pc := 183) (n := 2) (x := Int32.ofInt u101_) rfl (zdal_p dlC_M_buildsMembers_19 (i := 10) rfl) ?_
                        refine zw_aload_n (pc := 184) (n := 0) (x := 81) rfl (zdal_p dlC_M_buildsMembers_19 (i := 11) rfl) ?_
                        refine zr_getI (hf_N102_.w hW) (pc := 185) f_M_196 rfl (zdal_p dlC_M_buildsMembers_19 (i := 12) rfl) ?_
                        refine zr_icmp_ge (pc := 188) (tgt := 212) ⟨hu101_a, hu101_b⟩ ⟨(ze_r N102_ 81 20).1, (ze_r N102_ 81 20).2⟩ (by decide) (zdal_p dlC_M_buildsMembers_19 (i := 13) rfl) (fun hc_188 => ?_) (fun hc_188 => ?_)
                        · skip
                          have h4_ := zSt_n (by (exact i30_)) (show zSt Mz N102_ u27_ by assumption) (show zSu Mz N102_ u27_ u101_ by assumption) (by (exact hc_188))
                          refine zr_iinc (pc := 212) (i := 1) (a := u27_) (n := 1) (L2 := [some (.ref 81), some (.int (Int32.ofInt (u27_ + 1))), some (.int (Int32.ofInt u101_)), none]) rfl (by decide) rfl (zdal_p dlC_M_buildsMembers_20 (i := 1) rfl) ?_
                          refine zw_goto (pc := 215) (tgt := 171) (by decide) (zdal_p dlC_M_buildsMembers_20 (i := 2) rfl) ?_
                          refine zW_le [some (.ref 81), some (.int (Int32.ofInt (u27_ + 1))), none, none] (⟨rfl, rfl, trivial⟩) ?_
                          exact ih_171 (u27_ + 1) (by (exact zo_74 i30_)) (by (exact zo_672 hu27_b i104_ i111_)) N102_ hb0_N102_ (show 0 ≤ (u27_ + 1) by first | assumption | (exact zo_76 i30_)) (show (u27_ + 1) ≤ ze N102_ 81 20 by first | assumption | omega) (show zGr Mz N102_ by first | assumption | omega) (show zSt Mz N102_ (u27_ + 1) by exact h4_) (show 1 ≤ ze N102_ 81 20 by first | assumption | omega) (show ze N102_ 81 20 ≤ 24 by first | assumption | omega) i112_ (by (exact zo_673 hlt_171 hu27_b i104_ i111_ i30_))
                        · skip
                          refine zw_aload_n (pc := 191) (n := 0) (x := 81) rfl (zdal_p dlC_M_buildsMembers_19 (i := 14) rfl) ?_
                          refine zw_iload_n (pc := 192) (n := 1) (x := Int32.ofInt u27_) rfl (zdal_p dlC_M_buildsMembers_19 (i := 15) rfl) ?_
                          refine zw_iload_n (pc := 193) (n := 2) (x := Int32.ofInt u101_) rfl (zdal_p dlC_M_buildsMembers_19 (i := 16) rfl) ?_
                          refine zr_callV (hf_N102_.w hW) hf_N102_.x (pc := 194) [.int (Int32.ofInt u27_), .int (Int32.ofInt u101_)] [] l_M_206 (c_M_isBehind l N102_ (hf_N102_.w hW) u27_ hu27_a hu27_b u101_ hu101_a hu101_b (ze Mz 81 12) (show 0 ≤ u27_ by first | assumption | omega) (show u27_ ≤ 23 by first | assumption | (exact zo_674 hu27_b i104_ i111_)) (show 0 ≤ u101_ by first | assumption | (exact zo_675 hu101_a i105_ i30_)) (show u101_ ≤ 23 by first | assumption | (exact zo_676 hc_188 hu101_b i111_)) (show ze N102_ 81 12 = (ze Mz 81 12) by first | assumption | (exact zo_677 e12_N102_ e12_N16_ e12_N1_ e12_N28_ e12_N6_)) (show 1 ≤ (ze Mz 81 12) by first | assumption | omega) (show (ze Mz 81 12) ≤ 6 by first | assumption | omega) (show 1 ≤ ze N102_ 81 12 by first | assumption | (exact zo_678 e12_N102_ e12_N16_ e12_N1_ e12_N28_ e12_N6_ p0_)) i112_) rfl rfl rfl (by decide) (Nat.le_of_ble_eq_true rfl) (zdal_p dlC_M_buildsMembers_19 (i := 17) rfl) ?_
                          rintro _ N115_ ⟨v116_, rfl, ⟨hv116_a, hv116_b⟩, hsN115_, hp0_N115_⟩
                          obtain rfl := hsN115_.eq.symm
                          replace hp0_N115_ : ((v116_ = 1 ∧ zrc N102_ 85 (u101_).toNat (ze Mz 81 12) < zrc N102_ 85 (u27_).toNat (ze Mz 81 12)) ∨ (v116_ = 0 ∧ zrc N102_ 85 (u27_).toNat (ze Mz 81 12) ≤ zrc N102_ 85 (u101_).toNat (ze Mz 81 12))) := hp0_N115_
                          rcases hp0_N115_ with ⟨rfl, ha194_0_hp0_N115_⟩ | ⟨rfl, ha194_0_hp0_N115_⟩
                          · skip
                            have hlt_ := ha194_0_hp0_N115_
                            show zW l m_M_buildsMembers (zn Mz + 0, zw Mz + 0) N102_ 197 [some (.ref 81), some (.int (Int32.ofInt u27_)), some (.int (Int32.ofInt u101_)), none] [.int (Int32.ofInt 1)] _
                            refine zr_if_eq (pc := 197) (tgt := 206) ⟨(by decide), (by decide)⟩ (by decide) (zdal_p dlC_M_buildsMembers_19 (i := 18) rfl) (fun hc_197 => ?_) (fun hc_197 => ?_)
                            · skip
                              exact absurd hc_197 (by decide)
                            · skip
                              refine zw_aload_n (pc := 200) (n := 0) (x := 81) rfl (zdal_p dlC_M_buildsMembers_19 (i := 19) rfl) ?_
                              refine zw_iload_n (pc := 201) (n := 1) (x := Int32.ofInt u27_) rfl (zdal_p dlC_M_buildsMembers_19 (i := 20) rfl) ?_
                              refine zw_iload_n (pc := 202) (n := 2) (x := Int32.ofInt u101_) rfl (zdal_p dlC_M_buildsMembers_19 (i := 21) rfl) ?_
                              refine zr_callV (hf_N102_.w hW) hf_N102_.x (pc := 203) [.int (Int32.ofInt u27_), .int (Int32.ofInt u101_)] [] l_M_210 (c_M_exchanges l N102_ (hf_N102_.w hW) u27_ hu27_a hu27_b u101_ hu101_a hu101_b (show 0 ≤ u27_ by first | assumption | omega) (show u27_ < u101_ by first | assumption | omega) (show u101_ ≤ 23 by first | assumption | (exact zo_676 hc_188 hu101_b i111_)) i112_) rfl rfl rfl (by decide) (Nat.le_of_ble_eq_true rfl) (zdal_p dlC_M_buildsMembers_19 (i := 22) rfl) ?_
                              rintro _ N117_ ⟨rfl, hsN117_, ⟨hp0_N117_, hp1_N117_⟩⟩
                              have hf_N117_ : zFr [20] [85, 86, 87, 88] Mz N117_ := hf_N102_.tr hsN117_ (by decide) (by decide)
                              have hb0_N117_ : zFr [] [85] N16_ N117_ := hb0_N102_.tr hsN117_ (by decide) (by decide)
                              have hb1_N117_ : zFr [] [85] N28_ N117_ := hs103_.tr hsN117_ (by decide) (by decide)
                              have e20_N117_ : ze N117_ 81 20 = ze N102_ 81 20 := hsN117_.e (by decide)
                              show zW l m_M_buildsMembers (zn Mz + 0, zw Mz + 0) N117_ 206 [some (.ref 81), some (.int (Int32.ofInt u27_)), some (.int (Int32.ofInt u101_)), none] [] _
                              have hE_ := zEx_g (by (exact p1_)) (by (exact i30_)) (by (exact i105_)) (by (exact hc_188)) (show zGr Mz N102_ by assumption) hp0_N117_ (by (exact e20_N117_)) (show zSt Mz N102_ u27_ by assumption) (show zSu Mz N102_ u27_ u101_ by assumption) hlt_
                              refine zr_iinc (pc := 206) (i := 2) (a := u101_) (n := 1) (L2 := [some (.ref 81), some (.int (Int32.ofInt u27_)), some (.int (Int32.ofInt (u101_ + 1))), none]) rfl (by decide) rfl (zdal_p dlC_M_buildsMembers_19 (i := 23) rfl) ?_
                              refine zw_goto (pc := 209) (tgt := 183) (by decide) (zdal_p dlC_M_buildsMembers_20 (i := 0) rfl) ?_
                              have h1_ : zGr Mz N117_ := by first | exact hE_.1 | assumption
                              have h2_ : zSt Mz N117_ u27_ := by first | exact hE_.2.1 | assumption
                              have h3_ : zSu Mz N117_ u27_ (u101_ + 1) := by first | exact hE_.2.2 | exact hu_
                              exact ih_183 (u101_ + 1) (by (exact zo_679 hu101_a)) (by (exact zo_639 hc_188 hu101_b i111_)) N117_ hb1_N117_ (show u27_ < ze N117_ 81 20 by first | assumption | (exact zo_664 e20_N117_ hu27_b i104_ i110_ i111_)) (show u27_ < (u101_ + 1) by first | assumption | (exact zo_680 hu101_a hu27_b i104_ i105_ i111_)) (show (u101_ + 1) ≤ ze N117_ 81 20 by first | assumption | (exact zo_681 e20_N117_ hc_188 hu101_b i110_ i111_)) (show zGr Mz N117_ by exact h1_) (show zSt Mz N117_ u27_ by exact h2_) (show zSu Mz N117_ u27_ (u101_ + 1) by exact h3_) (show 1 ≤ ze N117_ 81 20 by first | assumption | (exact zo_533 e20_N117_ i110_)) (show ze N117_ 81 20 ≤ 24 by first | assumption | (exact zo_644 e20_N117_ i111_)) hp1_N117_ (by (exact zo_682 hc_188 hlt_183 hu101_a hu101_b i111_))
                          · skip
                            have hu_ := zSu_s (by (exact i30_)) (by (exact i105_)) (show zGr Mz N102_ by assumption) (show zSu Mz N102_ u27_ u101_ by assumption) (by (exact hc_188)) ha194_0_hp0_N115_
                            show zW l m_M_buildsMembers (zn Mz + 0, zw Mz + 0) N102_ 197 [some (.ref 81), some (.int (Int32.ofInt u27_)), some (.int (Int32.ofInt u101_)), none] [.int (Int32.ofInt 0)] _
                            refine zr_if_eq (pc := 197) (tgt := 206) ⟨(by decide), (by decide)⟩ (by decide) (zdal_p dlC_M_buildsMembers_19 (i := 18) rfl) (fun hc_197 => ?_) (fun hc_197 => ?_)
                            · skip
                              refine zr_iinc (pc := 206) (i := 2) (a := u101_) (n := 1) (L2 := [some (.ref 81), some (.int (Int32.ofInt u27_)), some (.int (Int32.ofInt (u101_ + 1))), none]) rfl (by decide) rfl (zdal_p dlC_M_buildsMembers_19 (i := 23) rfl) ?_
                              refine zw_goto (pc := 209) (tgt := 183) (by decide) (zdal_p dlC_M_buildsMembers_20 (i := 0) rfl) ?_
                              have h1_ : zGr Mz N102_ := by first | exact hE_.1 | assumption
                              have h2_ : zSt Mz N102_ u27_ := by first | exact hE_.2.1 | assumption
                              have h3_ : zSu Mz N102_ u27_ (u101_ + 1) := by first | exact hE_.2.2 | exact hu_
                              exact ih_183 (u101_ + 1) (by (exact zo_679 hu101_a)) (by (exact zo_639 hc_188 hu101_b i111_)) N102_ hs103_ (show u27_ < ze N102_ 81 20 by first | assumption | omega) (show u27_ < (u101_ + 1) by first | assumption | (exact zo_680 hu101_a hu27_b i104_ i105_ i111_)) (show (u101_ + 1) ≤ ze N102_ 81 20 by first | assumption | omega) (show zGr Mz N102_ by exact h1_) (show zSt Mz N102_ u27_ by exact h2_) (show zSu Mz N102_ u27_ (u101_ + 1) by exact h3_) (show 1 ≤ ze N102_ 81 20 by first | assumption | omega) (show ze N102_ 81 20 ≤ 24 by first | assumption | omega) i112_ (by (exact zo_682 hc_188 hlt_183 hu101_a hu101_b i111_))
                            · skip
                              exact absurd hc_197 (by decide)
                    exact lp_183 _ (u27_ + 1) (by (exact zo_74 i30_)) (by (exact zo_639 hc_176 hu27_b i35_)) N28_ zFr.rf (show u27_ < ze N28_ 81 20 by first | assumption | omega) (show u27_ < (u27_ + 1) by first | assumption | (exact zo_683)) (show (u27_ + 1) ≤ ze N28_ 81 20 by first | assumption | omega) (show zGr Mz N28_ by first | assumption | omega) (show zSt Mz N28_ u27_ by first | assumption | omega) (show zSu Mz N28_ u27_ (u27_ + 1) by exact zSu_0) (show 1 ≤ ze N28_ 81 20 by first | assumption | omega) (show ze N28_ 81 20 ≤ 24 by first | assumption | omega) i36_ (Nat.lt_succ_self _)
              exact lp_171 _ 0 (by decide) (by decide) N16_ zFr.rf (show 0 ≤ (0 : Int) by first | assumption | (decide)) (show (0 : Int) ≤ ze N16_ 81 20 by first | assumption | (exact zo_564 i22_)) (show zGr Mz N16_ by exact hGr_.1) (show zSt Mz N16_ (0 : Int) by exact zSt_0) (show 1 ≤ ze N16_ 81 20 by first | assumption | omega) (show ze N16_ 81 20 ≤ 24 by first | assumption | omega) i24_ (Nat.lt_succ_self _)
            · skip
              refine zw_iconst (pc := 36) (v := Int32.ofInt 0) (by decide) (zdal_p dlC_M_buildsMembers_15 (i := 21) rfl) ?_
              refine zw_istore_n (pc := 37) (i := 2) (L2 := [some (.ref 81), some (.int (Int32.ofInt u15_)), some (.int (Int32.ofInt 0)), none]) rfl (by decide) rfl (zdal_p dlC_M_buildsMembers_15 (i := 22) rfl) ?_
              have lp_38 : ∀ (n : Nat) (u121_ : Int) (hu121_a : -2147483648 ≤ u121_) (hu121_b : u121_ < 2147483648) (N122_ : zMem) (hs123_ : zFr [20] [85, 86] N16_ N122_) (i124_ : 0 ≤ u15_) (i125_ : u15_ < ze N122_ 81 20) (i126_ : 0 ≤ u121_) (i127_ : u121_ ≤ ze Mz 81 13) (i128_ : zBs Mz N122_) (i129_ : zBc Mz N122_ u15_ u121_) (i130_ : 1 ≤ ze N122_ 81 20) (i131_ : ze N122_ 81 20 ≤ 24) (i132_ : zB 85 144 0 5 N122_), (ze Mz 81 13 - u121_).toNat < n → zW l m_M_buildsMembers (zn Mz + 0, zw Mz + 0) N122_ 38 [some (.ref 81), some (.int (Int32.ofInt u15_)), some (.int (Int32.ofInt u121_)), none] [] (zpI [20] [85, 86, 87, 88] Mz (fun v N => zB 85 144 0 5 N ∧ (((v = 1 ∧ zFin Mz ∧ 1 ≤ ze N 81 20 ∧ ze N 81 20 ≤ 24 ∧ (∃ T : zGT, T ∈ gTabs ∧ zTab T N)) ∨ (v = 0 ∧ ¬ zFin Mz))))) := by
                intro n
                induction n with
                | zero =>
                  intro u121_ hu121_a hu121_b N122_ hs123_ i124_ i125_ i126_ i127_ i128_ i129_ i130_ i131_ i132_ h0
                  exact absurd h0 (Nat.not_lt_zero _)
                | succ n ih_38 =>
                  intro u121_ hu121_a hu121_b N122_ hs123_ i124_ i125_ i126_ i127_ i128_ i129_ i130_ i131_ i132_ hlt_38
                  have hf_N122_ : zFr [20] [85, 86, 87, 88] Mz N122_ := hf_N16_.tr hs123_ (by decide) (by decide)
                  have hb0_N122_ : zFr [20] [85, 86] N6_ N122_ := hs17_.tr hs123_ (by decide) (by decide)
                  have e12_N122_ : ze N122_ 81 12 = ze N16_ 81 12 := hs123_.e (by decide)
                  have e13_N122_ : ze N122_ 81 13 = ze N16_ 81 13 := hs123_.e (by decide)
                  have r20_N122_ := ze_r N122_ 81 20
                  have c133_ : zPm N122_ := zPm.fr hs123_ c25_ (by decide) (by decide)
                  have c134_ : zB 83 24 0 5 N122_ := zB.fr hs123_ c26_ (by decide) (by decide)
                  refine zw_iload_n (pc := 38) (n := 2) (x := Int32.ofInt u121_) rfl (zdal_p dlC_M_buildsMembers_15 (i := 23) rfl) ?_
                  refine zw_aload_n (pc := 39) (n := 0) (x := 81) rfl (zdal_p dlC_M_buildsMembers_16 (i := 0) rfl) ?_
                  refine zr_getI0 hf_N122_ hW (pc := 40) (by decide) f_M_199 rfl (zdal_p dlC_M_buildsMembers_16 (i := 1) rfl) ?_
                  refine zr_icmp_ge (pc := 43) (tgt := 163) ⟨hu121_a, hu121_b⟩ ⟨(ze_r Mz 81 13).1, (ze_r Mz 81 13).2⟩ (by decide) (zdal_p dlC_M_buildsMembers_16 (i := 2) rfl) (fun hc_43 => ?_) (fun hc_43 => ?_)
                  · skip
                    have hb3_ := zBc_n (show zBc Mz N122_ u15_ u121_ by assumption) (by (exact hc_43))
                    refine zr_iinc (pc := 163) (i := 1) (a := u15_) (n := 1) (L2 := [some (.ref 81), some (.int (Int32.ofInt (u15_ + 1))), some (.int (Int32.ofInt u121_)), none]) rfl (by decide) rfl (zdal_p dlC_M_buildsMembers_18 (i := 22) rfl) ?_
                    refine zw_goto (pc := 166) (tgt := 28) (by decide) (zdal_p dlC_M_buildsMembers_18 (i := 23) rfl) ?_
                    refine zW_le [some (.ref 81), some (.int (Int32.ofInt (u15_ + 1))), none, none] (⟨rfl, rfl, trivial⟩) ?_
                    exact ih_28 (u15_ + 1) (by (exact zo_74 i18_)) (by (exact zo_639 hc_33 hu15_b i23_)) N122_ hb0_N122_ (show 0 ≤ (u15_ + 1) by first | assumption | (exact zo_76 i18_)) (show (u15_ + 1) ≤ ze N122_ 81 20 by first | assumption | omega) (show zBs Mz N122_ by assumption) (show zBc Mz N122_ (u15_ + 1) 0 by exact hb3_) (show 1 ≤ ze N122_ 81 20 by first | assumption | omega) (show ze N122_ 81 20 ≤ 24 by first | assumption | omega) i132_ (by (exact zo_684 hc_33 hlt_28 hu15_b i125_ i131_ i18_ i23_))
                  · skip
                    refine zw_iconst (pc := 46) (v := Int32.ofInt 0) (by decide) (zdal_p dlC_M_buildsMembers_16 (i := 3) rfl) ?_
                    refine zw_istore_n (pc := 47) (i := 3) (L2 := [some (.ref 81), some (.int (Int32.ofInt u15_)), some (.int (Int32.ofInt u121_)), some (.int (Int32.ofInt 0))]) rfl (by decide) rfl (zdal_p dlC_M_buildsMembers_16 (i := 4) rfl) ?_
                    have lp_48 : ∀ (n : Nat) (u135_ : Int) (hu135_a : -2147483648 ≤ u135_) (hu135_b : u135_ < 2147483648) (N136_ : zMem) (hs137_ : zFr [] [86] N122_ N136_) (i138_ : 0 ≤ u135_) (i139_ : u135_ ≤ ze Mz 81 12) (i140_ : zCg Mz N136_ u15_ u121_ 0 u135_) (i141_ : zBs Mz N136_) (i142_ : zBc Mz N136_ u15_ u121_), (ze Mz 81 12 - u135_).toNat < n → zW l m_M_buildsMembers (zn Mz + 0, zw Mz + 0) N136_ 48 [some (.ref 81), some (.int (Int32.ofInt u15_)), some (.int (Int32.ofInt u121_)), some (.int (Int32.ofInt u135_))] [] (zpI [20] [85, 86, 87, 88] Mz (fun v N => zB 85 144 0 5 N ∧ (((v = 1 ∧ zFin Mz ∧ 1 ≤ ze N 81 20 ∧ ze N 81 20 ≤ 24 ∧ (∃ T : zGT, T ∈ gTabs ∧ zTab T N)) ∨ (v = 0 ∧ ¬ zFin Mz))))) := by
                      intro n
                      induction n with
                      | zero =>
                        intro u135_ hu135_a hu135_b N136_ hs137_ i138_ i139_ i140_ i141_ i142_ h0
                        exact absurd h0 (Nat.not_lt_zero _)
                      | succ n ih_48 =>
                        intro u135_ hu135_a hu135_b N136_ hs137_ i138_ i139_ i140_ i141_ i142_ hlt_48
                        have hf_N136_ : zFr [20] [85, 86, 87, 88] Mz N136_ := hf_N122_.tr hs137_ (by decide) (by decide)
                        have hb0_N136_ : zFr [20] [85, 86] N6_ N136_ := hb0_N122_.tr hs137_ (by decide) (by decide)
                        have hb1_N136_ : zFr [20] [85, 86] N16_ N136_ := hs123_.tr hs137_ (by decide) (by decide)
                        have e12_N136_ : ze N136_ 81 12 = ze N122_ 81 12 := hs137_.e (by decide)
                        have e13_N136_ : ze N136_ 81 13 = ze N122_ 81 13 := hs137_.e (by decide)
                        have e20_N136_ : ze N136_ 81 20 = ze N122_ 81 20 := hs137_.e (by decide)
                        have c143_ : zPm N136_ := zPm.fr hs137_ c133_ (by decide) (by decide)
                        have c144_ : zB 83 24 0 5 N136_ := zB.fr hs137_ c134_ (by decide) (by decide)
                        have c145_ : zB 85 144 0 5 N136_ := zB.fr hs137_ i132_ (by decide) (by decide)
                        refine zw_iload_n (pc := 48) (n := 3) (x := Int32.ofInt u135_) rfl (zdal_p dlC_M_buildsMembers_16 (i := 5) rfl) ?_
                        refine zw_aload_n (pc := 49) (n := 0) (x := 81) rfl (zdal_p dlC_M_buildsMembers_16 (i := 6) rfl) ?_
                        refine zr_getI0 hf_N136_ hW (pc := 50) (by decide) f_M_115 rfl (zdal_p dlC_M_buildsMembers_16 (i := 7) rfl) ?_
                        refine zr_icmp_ge (pc := 53) (tgt := 89) ⟨hu135_a, hu135_b⟩ ⟨(ze_r Mz 81 12).1, (ze_r Mz 81 12).2⟩ (by decide) (zdal_p dlC_M_buildsMembers_16 (i := 8) rfl) (fun hc_53 => ?_) (fun hc_53 => ?_)
                        · skip
                          have hcg_ := (show zCg Mz N136_ u15_ u121_ 0 u135_ by assumption)
                          have hbs_ := (show zBs Mz N136_ by assumption)
                          have hcc_ := zCg_c hPS_ c145_ (by (exact zo_685 hc_33 hu15_b i125_ i131_ i18_ i23_)) (hbs_.2.1 (u15_).toNat (by (exact zo_686 e20_N136_ hc_33 hu15_b i125_ i130_ i18_ i23_))) (by (exact hc_53)) hcg_ (Or.inl ⟨rfl, by (exact i126_), by (exact hc_43)⟩)
                          rw [if_pos rfl] at hcc_
                          have hcb_ := zCg_b (P := ze Mz 81 12) hcg_ (by (exact hc_53))
                          refine zw_aload_n (pc := 89) (n := 0) (x := 81) rfl (zdal_p dlC_M_buildsMembers_17 (i := 6) rfl) ?_
                          refine zr_callV (hf_N136_.w hW) hf_N136_.x (pc := 90) [] [] l_M_202 (c_M_indexOf l N136_ (hf_N136_.w hW) (ze Mz 81 12) (show 0 ≤ ze N136_ 81 20 by first | assumption | (exact zo_568 e20_N136_ i130_)) (show ze N136_ 81 20 ≤ 24 by first | assumption | (exact zo_644 e20_N136_ i131_)) (show ze N136_ 81 12 = (ze Mz 81 12) by first | assumption | (exact zo_687 e12_N122_ e12_N136_ e12_N16_ e12_N1_ e12_N6_)) (show 1 ≤ (ze Mz 81 12) by first | assumption | omega) (show (ze Mz 81 12) ≤ 6 by first | assumption | omega) c145_ (show zCb N136_ (ze Mz 81 12) by first | assumption | omega)) rfl rfl rfl (by decide) (Nat.le_of_ble_eq_true rfl) (zdal_p dlC_M_buildsMembers_17 (i := 7) rfl) ?_
                          rintro _ N146_ ⟨v147_, rfl, ⟨hv147_a, hv147_b⟩, hsN146_, hp0_N146_⟩
                          obtain rfl := hsN146_.eq.symm
                          replace hp0_N146_ : ((0 ≤ v147_ ∧ v147_ < ze N136_ 81 20 ∧ zFnd N136_ v147_ (ze Mz 81 12)) ∨ (v147_ = -1 ∧ zNo2 N136_ (ze Mz 81 12))) := hp0_N146_
                          rcases hp0_N146_ with ⟨ha90_0_hp0_N146_, ha90_1_hp0_N146_, ha90_2_hp0_N146_⟩ | ⟨rfl, ha90_0_hp0_N146_⟩
                          · skip
                            have hbq_ := zBc_f (show zBc Mz N136_ u15_ u121_ by assumption) (by (exact i18_)) (by (exact i126_)) ⟨ha90_0_hp0_N146_, ha90_1_hp0_N146_⟩ ha90_2_hp0_N146_ hcc_
                            show zW l m_M_buildsMembers (zn Mz + 0, zw Mz + 0) N136_ 93 [some (.ref 81), some (.int (Int32.ofInt u15_)), some (.int (Int32.ofInt u121_)), some (.int (Int32.ofInt u135_))] [.int (Int32.ofInt v147_)] _
                            refine zw_iconst (pc := 93) (v := Int32.ofInt (-1)) (by decide) (zdal_p dlC_M_buildsMembers_17 (i := 8) rfl) ?_
                            refine zr_icmp_eq (pc := 94) (tgt := 100) ⟨hv147_a, hv147_b⟩ ⟨(by decide), (by decide)⟩ (by decide) (zdal_p dlC_M_buildsMembers_17 (i := 9) rfl) (fun hc_94 => ?_) (fun hc_94 => ?_)
                            · skip
                              have hnf_ : zNf Mz N136_ u15_ u121_ := by first | exact ⟨hbs_, (show zBc Mz N136_ u15_ u121_ by assumption), hcb_, (show zNo2 N136_ (ze Mz 81 12) by assumption), hcc_⟩ | (exfalso; (exact zo_583 ha90_0_hp0_N146_ hc_94))
                              refine zw_aload_n (pc := 100) (n := 0) (x := 81) rfl (zdal_p dlC_M_buildsMembers_17 (i := 11) rfl) ?_
                              refine zr_getI (hf_N136_.w hW) (pc := 101) f_M_196 rfl (zdal_p dlC_M_buildsMembers_17 (i := 12) rfl) ?_
                              refine zw_bipush (pc := 104) (v := Int32.ofInt 24) (by decide) (zdal_p dlC_M_buildsMembers_17 (i := 13) rfl) ?_
                              refine zr_icmp_ne (pc := 106) (tgt := 111) ⟨(ze_r N136_ 81 20).1, (ze_r N136_ 81 20).2⟩ ⟨(by decide), (by decide)⟩ (by decide) (zdal_p dlC_M_buildsMembers_17 (i := 14) rfl) (fun hc_106 => ?_) (fun hc_106 => ?_)
                              · skip
                                refine zw_iconst (pc := 111) (v := Int32.ofInt 0) (by decide) (zdal_p dlC_M_buildsMembers_17 (i := 17) rfl) ?_
                                refine zw_istore_n (pc := 112) (i := 3) (L2 := [some (.ref 81), some (.int (Int32.ofInt u15_)), some (.int (Int32.ofInt u121_)), some (.int (Int32.ofInt 0))]) rfl (by decide) rfl (zdal_p dlC_M_buildsMembers_17 (i := 18) rfl) ?_
                                have lp_113 : ∀ (n : Nat) (u148_ : Int) (hu148_a : -2147483648 ≤ u148_) (hu148_b : u148_ < 2147483648) (N149_ : zMem) (hs150_ : zFr [] [85] N136_ N149_) (i151_ : 0 ≤ u148_) (i152_ : u148_ ≤ ze Mz 81 12) (i153_ : zNf Mz N149_ u15_ u121_) (i154_ : zAp N149_ (ze N149_ 81 20) u148_) (i155_ : zB 85 144 0 5 N149_), (ze Mz 81 12 - u148_).toNat < n → zW l m_M_buildsMembers (zn Mz + 0, zw Mz + 0) N149_ 113 [some (.ref 81), some (.int (Int32.ofInt u15_)), some (.int (Int32.ofInt u121_)), some (.int (Int32.ofInt u148_))] [] (zpI [20] [85, 86, 87, 88] Mz (fun v N => zB 85 144 0 5 N ∧ (((v = 1 ∧ zFin Mz ∧ 1 ≤ ze N 81 20 ∧ ze N 81 20 ≤ 24 ∧ (∃ T : zGT, T ∈ gTabs ∧ zTab T N)) ∨ (v = 0 ∧ ¬ zFin Mz))))) := by
                                  intro n
                                  induction n with
                                  | zero =>
                                    intro u148_ hu148_a hu148_b N149_ hs150_ i151_ i152_ i153_ i154_ i155_ h0
                                    exact absurd h0 (Nat.not_lt_zero _)
                                  | succ n ih_113 =>
                                    intro u148_ hu148_a hu148_b N149_ hs150_ i151_ i152_ i153_ i154_ i155_ hlt_113
                                    have hf_N149_ : zFr [20] [85, 86, 87, 88] Mz N149_ := hf_N136_.tr hs150_ (by decide) (by decide)
                                    have hb0_N149_ : zFr [20] [85, 86] N6_ N149_ := hb0_N136_.tr hs150_ (by decide) (by decide)
                                    have hb1_N149_ : zFr [20] [85, 86] N16_ N149_ := hb1_N136_.tr hs150_ (by decide) (by decide)
                                    have e20_N149_ : ze N149_ 81 20 = ze N136_ 81 20 := hs150_.e (by decide)
                                    have c156_ : zPm N149_ := zPm.fr hs150_ c143_ (by decide) (by decide)
                                    have c157_ : zB 83 24 0 5 N149_ := zB.fr hs150_ c144_ (by decide) (by decide)
                                    refine zw_iload_n (pc := 113) (n := 3) (x := Int32.ofInt u148_) rfl (zdal_p dlC_M_buildsMembers_17 (i := 19) rfl) ?_
                                    refine zw_aload_n (pc := 114) (n := 0) (x := 81) rfl (zdal_p dlC_M_buildsMembers_17 (i := 20) rfl) ?_
                                    refine zr_getI0 hf_N149_ hW (pc := 115) (by decide) f_M_115 rfl (zdal_p dlC_M_buildsMembers_17 (i := 21) rfl) ?_
                                    refine zr_icmp_ge (pc := 118) (tgt := 147) ⟨hu148_a, hu148_b⟩ ⟨(ze_r Mz 81 12).1, (ze_r Mz 81 12).2⟩ (by decide) (zdal_p dlC_M_buildsMembers_17 (i := 22) rfl) (fun hc_118 => ?_) (fun hc_118 => ?_)
                                    · skip
                                      refine zw_aload_n (pc := 147) (n := 0) (x := 81) rfl (zdal_p dlC_M_buildsMembers_18 (i := 14) rfl) ?_
                                      refine zw_dup (pc := 148) rfl (zdal_p dlC_M_buildsMembers_18 (i := 15) rfl) ?_
                                      refine zr_getI (hf_N149_.w hW) (pc := 149) f_M_196 rfl (zdal_p dlC_M_buildsMembers_18 (i := 16) rfl) ?_
                                      refine zw_iconst (pc := 152) (v := Int32.ofInt 1) (by decide) (zdal_p dlC_M_buildsMembers_18 (i := 17) rfl) ?_
                                      refine zr_iadd (pc := 153) (zdal_p dlC_M_buildsMembers_18 (i := 18) rfl) ?_
                                      refine zr_putI (hf_N149_.w hW) (pc := 154) f_M_196 rfl rfl ⟨by (exact zo_688 e20_N149_ ha90_0_hp0_N146_ ha90_1_hp0_N146_), by (exact zo_689 e20_N136_ e20_N149_ i131_)⟩ rfl rfl (zdal_p dlC_M_buildsMembers_18 (i := 19) rfl) (fun N158_ hsN158_ hvN158_ => ?_)
                                      have hf_N158_ : zFr [20] [85, 86, 87, 88] Mz N158_ := hf_N149_.tr hsN158_ (by decide) (by decide)
                                      have hb0_N158_ : zFr [20] [85, 86] N6_ N158_ := hb0_N149_.tr hsN158_ (by decide) (by decide)
                                      have hb1_N158_ : zFr [20] [85, 86] N16_ N158_ := hb1_N149_.tr hsN158_ (by decide) (by decide)
                                      have c161_ : zB 85 144 0 5 N158_ := zB.fr hsN158_ i155_ (by decide) (by decide)
                                      have hNe_ := zNf_e hPS_ ⟨by (exact i18_), by (exact zo_690 e20_N136_ e20_N149_ ha90_0_hp0_N146_ ha90_1_hp0_N146_ hc_33 hu15_b i125_ i23_)⟩ ⟨by (exact i126_), by (exact hc_43)⟩ (show zNf Mz N149_ u15_ u121_ by assumption) (show zAp N149_ (ze N149_ 81 20) u148_ by assumption) (by (exact hc_118)) (by (exact zo_691 ha90_0_hp0_N146_ hc_94)) hsN158_ (by (exact hvN158_))
                                      have ho_ := hNe_.1.1
                                      refine zr_iinc (pc := 157) (i := 2) (a := u121_) (n := 1) (L2 := [some (.ref 81), some (.int (Int32.ofInt u15_)), some (.int (Int32.ofInt (u121_ + 1))), some (.int (Int32.ofInt u148_))]) rfl (by decide) rfl d_M_buildsMembers_157 ?_
                                      refine zw_goto (pc := 160) (tgt := 38) (by decide) d_M_buildsMembers_160 ?_
                                      have hb1_ : zBc Mz N158_ u15_ (u121_ + 1) := by first | exact hNe_.2 | exact hbq_
                                      have hb2_ : zBs Mz N158_ := by first | exact hNe_.1 | exact hbs_
                                      refine zW_le [some (.ref 81), some (.int (Int32.ofInt u15_)), some (.int (Int32.ofInt (u121_ + 1))), none] (⟨rfl, rfl, rfl, trivial⟩) ?_
                                      exact ih_38 (u121_ + 1) (by (exact zo_74 i126_)) (by (exact zo_692 hc_43 p3_)) N158_ hb1_N158_ (show 0 ≤ u15_ by first | assumption | omega) (show u15_ < ze N158_ 81 20 by first | assumption | (exact zo_693 e20_N136_ e20_N149_ ho_.1 hu15_b hvN158_ i125_ i131_)) (show 0 ≤ (u121_ + 1) by first | assumption | (exact zo_76 i126_)) (show (u121_ + 1) ≤ ze Mz 81 13 by first | assumption | omega) (show zBs Mz N158_ by exact hb2_) (show zBc Mz N158_ u15_ (u121_ + 1) by exact hb1_) (show 1 ≤ ze N158_ 81 20 by first | assumption | (exact zo_694 ho_.1)) (show ze N158_ 81 20 ≤ 24 by first | assumption | (exact zo_0 ho_.2)) c161_ (by (exact zo_147 hc_43 hlt_38))
                                    · skip
                                      refine zw_aload_n (pc := 121) (n := 0) (x := 81) rfl (zdal_p dlC_M_buildsMembers_17 (i := 23) rfl) ?_
                                      refine zr_getF (r := 85) (hf_N149_.w hW) (pc := 122) f_M_26 rfl (zh_85 (hf_N149_.w hW)).1 (zdal_p dlC_M_buildsMembers_18 (i := 0) rfl) ?_
                                      refine zw_bipush (pc := 125) (v := Int32.ofInt 6) (by decide) (zdal_p dlC_M_buildsMembers_18 (i := 1) rfl) ?_
                                      refine zw_aload_n (pc := 127) (n := 0) (x := 81) rfl (zdal_p dlC_M_buildsMembers_18 (i := 2) rfl) ?_
                                      refine zr_getI (hf_N149_.w hW) (pc := 128) f_M_196 rfl (zdal_p dlC_M_buildsMembers_18 (i := 3) rfl) ?_
                                      refine zr_imul (pc := 131) (zdal_p dlC_M_buildsMembers_18 (i := 4) rfl) ?_
                                      refine zw_iload_n (pc := 132) (n := 3) (x := Int32.ofInt u148_) rfl (zdal_p dlC_M_buildsMembers_18 (i := 5) rfl) ?_
                                      refine zr_iadd (pc := 133) (zdal_p dlC_M_buildsMembers_18 (i := 6) rfl) ?_
                                      refine zw_aload_n (pc := 134) (n := 0) (x := 81) rfl (zdal_p dlC_M_buildsMembers_18 (i := 7) rfl) ?_
                                      refine zr_getF (r := 86) (hf_N149_.w hW) (pc := 135) f_M_29 rfl (zh_86 (hf_N149_.w hW)).1 (zdal_p dlC_M_buildsMembers_18 (i := 8) rfl) ?_
                                      refine zw_iload_n (pc := 138) (n := 3) (x := Int32.ofInt u148_) rfl (zdal_p dlC_M_buildsMembers_18 (i := 9) rfl) ?_
                                      refine zr_ialdn (pc := 139) (zh_86 (hf_N149_.w hW)).2 (by decide) (by (exact i151_)) (by (exact zo_670 hc_118 p1_)) (zdal_p dlC_M_buildsMembers_18 (i := 10) rfl) (fun v162_ hv162_ hv162_a hv162_b => ?_)
                                      have hcv_ := (show zNf Mz N149_ u15_ u121_ by assumption).2.2.1 (u148_).toNat (by (exact zo_695 hc_118 i151_))
                                      refine zr_iast (pc := 140) (zh_85 (hf_N149_.w hW)).2 (by decide) (by decide) (by (exact zo_696 e20_N149_ ha90_0_hp0_N146_ ha90_1_hp0_N146_ i151_)) (by (exact zo_697 e20_N136_ e20_N149_ ha90_0_hp0_N146_ hc_118 hc_94 i131_ p1_)) (zdal_p dlC_M_buildsMembers_18 (i := 11) rfl) (fun N163_ hN163_ hsN163_ => ?_)
                                      have hf_N163_ : zFr [20] [85, 86, 87, 88] Mz N163_ := hf_N149_.tr hsN163_ (by decide) (by decide)
                                      have hb0_N163_ : zFr [20] [85, 86] N6_ N163_ := hb0_N149_.tr hsN163_ (by decide) (by decide)
                                      have hb1_N163_ : zFr [20] [85, 86] N16_ N163_ := hb1_N149_.tr hsN163_ (by decide) (by decide)
                                      have hb2_N163_ : zFr [] [85] N136_ N163_ := hs150_.tr hsN163_ (by decide) (by decide)
                                      have c164_ : zPm N163_ := zPm.fr hsN163_ c156_ (by decide) (by decide)
                                      have c165_ : zB 83 24 0 5 N163_ := zB.fr hsN163_ c157_ (by decide) (by decide)
                                      have c166_ : zB 85 144 0 5 N163_ := zB.s i155_ hN163_ (by (exact zo_574 hcv_.1 hv162_ hv162_a)) (by (exact zo_698 hcv_.2 hv162_ hv162_b)) (by decide) (by decide)
                                      have hAp_ := zAp_s ⟨by (exact i18_), by (exact zo_699 e20_N136_ e20_N149_ ha90_0_hp0_N146_ ha90_1_hp0_N146_ hu15_b i125_ i131_)⟩ (show zNf Mz N149_ u15_ u121_ by assumption) (show zAp N149_ (ze N149_ 81 20) u148_ by assumption) (by (exact i151_)) (by (exact zo_700 hc_118 p1_)) (by assumption) hN163_
                                      refine zr_iinc (pc := 141) (i := 3) (a := u148_) (n := 1) (L2 := [some (.ref 81), some (.int (Int32.ofInt u15_)), some (.int (Int32.ofInt u121_)), some (.int (Int32.ofInt (u148_ + 1)))]) rfl (by decide) rfl (zdal_p dlC_M_buildsMembers_18 (i := 12) rfl) ?_
                                      refine zw_goto (pc := 144) (tgt := 113) (by decide) (zdal_p dlC_M_buildsMembers_18 (i := 13) rfl) ?_
                                      exact ih_113 (u148_ + 1) (by (exact zo_74 i151_)) (by (exact zo_671 hc_118 p1_)) N163_ hb2_N163_ (show 0 ≤ (u148_ + 1) by first | assumption | (exact zo_76 i151_)) (show (u148_ + 1) ≤ ze Mz 81 12 by first | assumption | omega) (show zNf Mz N163_ u15_ u121_ by exact hAp_.1) (show zAp N163_ (ze N163_ 81 20) (u148_ + 1) by exact hAp_.2) c166_ (by (exact zo_147 hc_118 hlt_113))
                                exact lp_113 _ 0 (by decide) (by decide) N136_ zFr.rf (show 0 ≤ (0 : Int) by first | assumption | (decide)) (show (0 : Int) ≤ ze Mz 81 12 by first | assumption | (exact zo_564 p0_)) (show zNf Mz N136_ u15_ u121_ by exact hnf_) (show zAp N136_ (ze N136_ 81 20) (0 : Int) by exact zAp_0) c145_ (Nat.lt_succ_self _)
                              · skip
                                refine zw_iconst (pc := 109) (v := Int32.ofInt 0) (by decide) (zdal_p dlC_M_buildsMembers_17 (i := 15) rfl) ?_
                                exact zr_iret (pc := 110) (ty := .boolean) rfl (z_narB (by (decide))) ⟨by (decide), by (decide)⟩ hf_N136_ ⟨c145_, (show ((0 = 1 ∧ zFin Mz ∧ 1 ≤ ze N136_ 81 20 ∧ ze N136_ 81 20 ≤ 24 ∧ (∃ T : zGT, T ∈ gTabs ∧ zTab T N136_)) ∨ (0 = 0 ∧ ¬ zFin Mz)) from Or.inr (⟨(show 0 = 0 by first | exact zBs_24 ⟨by (exact i18_), by (exact zo_701 e20_N136_ hc_106 hu15_b i125_ i131_)⟩ ⟨by (exact i126_), by (exact hc_43)⟩ hnf_ (by (exact hc_106)) | (decide)), (show ¬ zFin Mz by first | exact zBs_24 ⟨by (exact i18_), by (exact zo_701 e20_N136_ hc_106 hu15_b i125_ i131_)⟩ ⟨by (exact i126_), by (exact hc_43)⟩ hnf_ (by (exact hc_106)) | omega)⟩))⟩ (zdal_p dlC_M_buildsMembers_17 (i := 16) rfl)
                            · skip
                              refine zw_goto (pc := 97) (tgt := 157) (by decide) (zdal_p dlC_M_buildsMembers_17 (i := 10) rfl) ?_
                              refine zr_iinc (pc := 157) (i := 2) (a := u121_) (n := 1) (L2 := [some (.ref 81), some (.int (Int32.ofInt u15_)), some (.int (Int32.ofInt (u121_ + 1))), some (.int (Int32.ofInt u135_))]) rfl (by decide) rfl d_M_buildsMembers_157 ?_
                              refine zw_goto (pc := 160) (tgt := 38) (by decide) d_M_buildsMembers_160 ?_
                              have hb1_ : zBc Mz N136_ u15_ (u121_ + 1) := by first | exact hNe_.2 | exact hbq_
                              have hb2_ : zBs Mz N136_ := by first | exact hNe_.1 | exact hbs_
                              refine zW_le [some (.ref 81), some (.int (Int32.ofInt u15_)), some (.int (Int32.ofInt (u121_ + 1))), none] (⟨rfl, rfl, rfl, trivial⟩) ?_
                              exact ih_38 (u121_ + 1) (by (exact zo_74 i126_)) (by (exact zo_692 hc_43 p3_)) N136_ hb1_N136_ (show 0 ≤ u15_ by first | assumption | omega) (show u15_ < ze N136_ 81 20 by first | assumption | (exact zo_702 e20_N136_ ha90_0_hp0_N146_ ha90_1_hp0_N146_ hc_33 hu15_b i125_ i23_)) (show 0 ≤ (u121_ + 1) by first | assumption | (exact zo_76 i126_)) (show (u121_ + 1) ≤ ze Mz 81 13 by first | assumption | omega) (show zBs Mz N136_ by exact hb2_) (show zBc Mz N136_ u15_ (u121_ + 1) by exact hb1_) (show 1 ≤ ze N136_ 81 20 by first | assumption | (exact zo_703 ha90_0_hp0_N146_ ha90_1_hp0_N146_)) (show ze N136_ 81 20 ≤ 24 by first | assumption | (exact zo_644 e20_N136_ i131_)) c145_ (by (exact zo_147 hc_43 hlt_38))
                          · skip
                            show zW l m_M_buildsMembers (zn Mz + 0, zw Mz + 0) N136_ 93 [some (.ref 81), some (.int (Int32.ofInt u15_)), some (.int (Int32.ofInt u121_)), some (.int (Int32.ofInt u135_))] [.int (Int32.ofInt ((-1)))] _
                            refine zw_iconst (pc := 93) (v := Int32.ofInt (-1)) (by decide) (zdal_p dlC_M_buildsMembers_17 (i := 8) rfl) ?_
                            refine zr_icmp_eq (pc := 94) (tgt := 100) ⟨(by decide), (by decide)⟩ ⟨(by decide), (by decide)⟩ (by decide) (zdal_p dlC_M_buildsMembers_17 (i := 9) rfl) (fun hc_94 => ?_) (fun hc_94 => ?_)
                            · skip
                              have hnf_ : zNf Mz N136_ u15_ u121_ := by first | exact ⟨hbs_, (show zBc Mz N136_ u15_ u121_ by assumption), hcb_, (show zNo2 N136_ (ze Mz 81 12) by assumption), hcc_⟩ | (exfalso; omega)
                              refine zw_aload_n (pc := 100) (n := 0) (x := 81) rfl (zdal_p dlC_M_buildsMembers_17 (i := 11) rfl) ?_
                              refine zr_getI (hf_N136_.w hW) (pc := 101) f_M_196 rfl (zdal_p dlC_M_buildsMembers_17 (i := 12) rfl) ?_
                              refine zw_bipush (pc := 104) (v := Int32.ofInt 24) (by decide) (zdal_p dlC_M_buildsMembers_17 (i := 13) rfl) ?_
                              refine zr_icmp_ne (pc := 106) (tgt := 111) ⟨(ze_r N136_ 81 20).1, (ze_r N136_ 81 20).2⟩ ⟨(by decide), (by decide)⟩ (by decide) (zdal_p dlC_M_buildsMembers_17 (i := 14) rfl) (fun hc_106 => ?_) (fun hc_106 => ?_)
                              · skip
                                refine zw_iconst (pc := 111) (v := Int32.ofInt 0) (by decide) (zdal_p dlC_M_buildsMembers_17 (i := 17) rfl) ?_
                                refine zw_istore_n (pc := 112) (i := 3) (L2 := [some (.ref 81), some (.int (Int32.ofInt u15_)), some (.int (Int32.ofInt u121_)), some (.int (Int32.ofInt 0))]) rfl (by decide) rfl (zdal_p dlC_M_buildsMembers_17 (i := 18) rfl) ?_
                                have lp_113 : ∀ (n : Nat) (u167_ : Int) (hu167_a : -2147483648 ≤ u167_) (hu167_b : u167_ < 2147483648) (N168_ : zMem) (hs169_ : zFr [] [85] N136_ N168_) (i170_ : 0 ≤ u167_) (i171_ : u167_ ≤ ze Mz 81 12) (i172_ : zNf Mz N168_ u15_ u121_) (i173_ : zAp N168_ (ze N168_ 81 20) u167_) (i174_ : zB 85 144 0 5 N168_), (ze Mz 81 12 - u167_).toNat < n → zW l m_M_buildsMembers (zn Mz + 0, zw Mz + 0) N168_ 113 [some (.ref 81), some (.int (Int32.ofInt u15_)), some (.int (Int32.ofInt u121_)), some (.int (Int32.ofInt u167_))] [] (zpI [20] [85, 86, 87, 88] Mz (fun v N => zB 85 144 0 5 N ∧ (((v = 1 ∧ zFin Mz ∧ 1 ≤ ze N 81 20 ∧ ze N 81 20 ≤ 24 ∧ (∃ T : zGT, T ∈ gTabs ∧ zTab T N)) ∨ (v = 0 ∧ ¬ zFin Mz))))) := by
                                  intro n
                                  induction n with
                                  | zero =>
                                    intro u167_ hu167_a hu167_b N168_ hs169_ i170_ i171_ i172_ i173_ i174_ h0
                                    exact absurd h0 (Nat.not_lt_zero _)
                                  | succ n ih_113 =>
                                    intro u167_ hu167_a hu167_b N168_ hs169_ i170_ i171_ i172_ i173_ i174_ hlt_113
                                    have hf_N168_ : zFr [20] [85, 86, 87, 88] Mz N168_ := hf_N136_.tr hs169_ (by decide) (by decide)
                                    have hb0_N168_ : zFr [20] [85, 86] N6_ N168_ := hb0_N136_.tr hs169_ (by decide) (by decide)
                                    have hb1_N168_ : zFr [20] [85, 86] N16_ N168_ := hb1_N136_.tr hs169_ (by decide) (by decide)
                                    have e20_N168_ : ze N168_ 81 20 = ze N136_ 81 20 := hs169_.e (by decide)
                                    have c175_ : zPm N168_ := zPm.fr hs169_ c143_ (by decide) (by decide)
                                    have c176_ : zB 83 24 0 5 N168_ := zB.fr hs169_ c144_ (by decide) (by decide)
                                    refine zw_iload_n (pc := 113) (n := 3) (x := Int32.ofInt u167_) rfl (zdal_p dlC_M_buildsMembers_17 (i := 19) rfl) ?_
                                    refine zw_aload_n (pc := 114) (n := 0) (x := 81) rfl (zdal_p dlC_M_buildsMembers_17 (i := 20) rfl) ?_
                                    refine zr_getI0 hf_N168_ hW (pc := 115) (by decide) f_M_115 rfl (zdal_p dlC_M_buildsMembers_17 (i := 21) rfl) ?_
                                    refine zr_icmp_ge (pc := 118) (tgt := 147) ⟨hu167_a, hu167_b⟩ ⟨(ze_r Mz 81 12).1, (ze_r Mz 81 12).2⟩ (by decide) (zdal_p dlC_M_buildsMembers_17 (i := 22) rfl) (fun hc_118 => ?_) (fun hc_118 => ?_)
                                    · skip
                                      refine zw_aload_n (pc := 147) (n := 0) (x := 81) rfl (zdal_p dlC_M_buildsMembers_18 (i := 14) rfl) ?_
                                      refine zw_dup (pc := 148) rfl (zdal_p dlC_M_buildsMembers_18 (i := 15) rfl) ?_
                                      refine zr_getI (hf_N168_.w hW) (pc := 149) f_M_196 rfl (zdal_p dlC_M_buildsMembers_18 (i := 16) rfl) ?_
                                      refine zw_iconst (pc := 152) (v := Int32.ofInt 1) (by decide) (zdal_p dlC_M_buildsMembers_18 (i := 17) rfl) ?_
                                      refine zr_iadd (pc := 153) (zdal_p dlC_M_buildsMembers_18 (i := 18) rfl) ?_
                                      refine zr_putI (hf_N168_.w hW) (pc := 154) f_M_196 rfl rfl ⟨by (exact zo_704 e20_N136_ e20_N168_ i130_), by (exact zo_689 e20_N136_ e20_N168_ i131_)⟩ rfl rfl (zdal_p dlC_M_buildsMembers_18 (i := 19) rfl) (fun N177_ hsN177_ hvN177_ => ?_)
                                      have hf_N177_ : zFr [20] [85, 86, 87, 88] Mz N177_ := hf_N168_.tr hsN177_ (by decide) (by decide)
                                      have hb0_N177_ : zFr [20] [85, 86] N6_ N177_ := hb0_N168_.tr hsN177_ (by decide) (by decide)
                                      have hb1_N177_ : zFr [20] [85, 86] N16_ N177_ := hb1_N168_.tr hsN177_ (by decide) (by decide)
                                      have c180_ : zB 85 144 0 5 N177_ := zB.fr hsN177_ i174_ (by decide) (by decide)
                                      have hNe_ := zNf_e hPS_ ⟨by (exact i18_), by (exact zo_653 e20_N136_ e20_N168_ hu15_b i125_ i130_ i131_)⟩ ⟨by (exact i126_), by (exact hc_43)⟩ (show zNf Mz N168_ u15_ u121_ by assumption) (show zAp N168_ (ze N168_ 81 20) u167_ by assumption) (by (exact hc_118)) (by (exact zo_705 e20_N168_ hc_106)) hsN177_ (by (exact hvN177_))
                                      have ho_ := hNe_.1.1
                                      refine zr_iinc (pc := 157) (i := 2) (a := u121_) (n := 1) (L2 := [some (.ref 81), some (.int (Int32.ofInt u15_)), some (.int (Int32.ofInt (u121_ + 1))), some (.int (Int32.ofInt u167_))]) rfl (by decide) rfl d_M_buildsMembers_157 ?_
                                      refine zw_goto (pc := 160) (tgt := 38) (by decide) d_M_buildsMembers_160 ?_
                                      have hb1_ : zBc Mz N177_ u15_ (u121_ + 1) := by first | exact hNe_.2 | exact hbq_
                                      have hb2_ : zBs Mz N177_ := by first | exact hNe_.1 | exact hbs_
                                      refine zW_le [some (.ref 81), some (.int (Int32.ofInt u15_)), some (.int (Int32.ofInt (u121_ + 1))), none] (⟨rfl, rfl, rfl, trivial⟩) ?_
                                      exact ih_38 (u121_ + 1) (by (exact zo_74 i126_)) (by (exact zo_692 hc_43 p3_)) N177_ hb1_N177_ (show 0 ≤ u15_ by first | assumption | omega) (show u15_ < ze N177_ 81 20 by first | assumption | (exact zo_693 e20_N136_ e20_N168_ ho_.1 hu15_b hvN177_ i125_ i131_)) (show 0 ≤ (u121_ + 1) by first | assumption | (exact zo_76 i126_)) (show (u121_ + 1) ≤ ze Mz 81 13 by first | assumption | omega) (show zBs Mz N177_ by exact hb2_) (show zBc Mz N177_ u15_ (u121_ + 1) by exact hb1_) (show 1 ≤ ze N177_ 81 20 by first | assumption | (exact zo_694 ho_.1)) (show ze N177_ 81 20 ≤ 24 by first | assumption | (exact zo_0 ho_.2)) c180_ (by (exact zo_147 hc_43 hlt_38))
                                    · skip
                                      refine zw_aload_n (pc := 121) (n := 0) (x := 81) rfl (zdal_p dlC_M_buildsMembers_17 (i := 23) rfl) ?_
                                      refine zr_getF (r := 85) (hf_N168_.w hW) (pc := 122) f_M_26 rfl (zh_85 (hf_N168_.w hW)).1 (zdal_p dlC_M_buildsMembers_18 (i := 0) rfl) ?_
                                      refine zw_bipush (pc := 125) (v := Int32.ofInt 6) (by decide) (zdal_p dlC_M_buildsMembers_18 (i := 1) rfl) ?_
                                      refine zw_aload_n (pc := 127) (n := 0) (x := 81) rfl (zdal_p dlC_M_buildsMembers_18 (i := 2) rfl) ?_
                                      refine zr_getI (hf_N168_.w hW) (pc := 128) f_M_196 rfl (zdal_p dlC_M_buildsMembers_18 (i := 3) rfl) ?_
                                      refine zr_imul (pc := 131) (zdal_p dlC_M_buildsMembers_18 (i := 4) rfl) ?_
                                      refine zw_iload_n (pc := 132) (n := 3) (x := Int32.ofInt u167_) rfl (zdal_p dlC_M_buildsMembers_18 (i := 5) rfl) ?_
                                      refine zr_iadd (pc := 133) (zdal_p dlC_M_buildsMembers_18 (i := 6) rfl) ?_
                                      refine zw_aload_n (pc := 134) (n := 0) (x := 81) rfl (zdal_p dlC_M_buildsMembers_18 (i := 7) rfl) ?_
                                      refine zr_getF (r := 86) (hf_N168_.w hW) (pc := 135) f_M_29 rfl (zh_86 (hf_N168_.w hW)).1 (zdal_p dlC_M_buildsMembers_18 (i := 8) rfl) ?_
                                      refine zw_iload_n (pc := 138) (n := 3) (x := Int32.ofInt u167_) rfl (zdal_p dlC_M_buildsMembers_18 (i := 9) rfl) ?_
                                      refine zr_ialdn (pc := 139) (zh_86 (hf_N168_.w hW)).2 (by decide) (by (exact i170_)) (by (exact zo_670 hc_118 p1_)) (zdal_p dlC_M_buildsMembers_18 (i := 10) rfl) (fun v181_ hv181_ hv181_a hv181_b => ?_)
                                      have hcv_ := (show zNf Mz N168_ u15_ u121_ by assumption).2.2.1 (u167_).toNat (by (exact zo_695 hc_118 i170_))
                                      refine zr_iast (pc := 140) (zh_85 (hf_N168_.w hW)).2 (by decide) (by decide) (by (exact zo_706 e20_N136_ e20_N168_ i130_ i170_)) (by (exact zo_707 e20_N136_ e20_N168_ hc_118 i131_ p1_ hc_106)) (zdal_p dlC_M_buildsMembers_18 (i := 11) rfl) (fun N182_ hN182_ hsN182_ => ?_)
                                      have hf_N182_ : zFr [20] [85, 86, 87, 88] Mz N182_ := hf_N168_.tr hsN182_ (by decide) (by decide)
                                      have hb0_N182_ : zFr [20] [85, 86] N6_ N182_ := hb0_N168_.tr hsN182_ (by decide) (by decide)
                                      have hb1_N182_ : zFr [20] [85, 86] N16_ N182_ := hb1_N168_.tr hsN182_ (by decide) (by decide)
                                      have hb2_N182_ : zFr [] [85] N136_ N182_ := hs169_.tr hsN182_ (by decide) (by decide)
                                      have c183_ : zPm N182_ := zPm.fr hsN182_ c175_ (by decide) (by decide)
                                      have c184_ : zB 83 24 0 5 N182_ := zB.fr hsN182_ c176_ (by decide) (by decide)
                                      have c185_ : zB 85 144 0 5 N182_ := zB.s i174_ hN182_ (by (exact zo_574 hcv_.1 hv181_ hv181_a)) (by (exact zo_698 hcv_.2 hv181_ hv181_b)) (by decide) (by decide)
                                      have hAp_ := zAp_s ⟨by (exact i18_), by (exact zo_708 e20_N136_ e20_N168_ hc_33 hu15_b i125_ i130_ i23_)⟩ (show zNf Mz N168_ u15_ u121_ by assumption) (show zAp N168_ (ze N168_ 81 20) u167_ by assumption) (by (exact i170_)) (by (exact zo_700 hc_118 p1_)) (by assumption) hN182_
                                      refine zr_iinc (pc := 141) (i := 3) (a := u167_) (n := 1) (L2 := [some (.ref 81), some (.int (Int32.ofInt u15_)), some (.int (Int32.ofInt u121_)), some (.int (Int32.ofInt (u167_ + 1)))]) rfl (by decide) rfl (zdal_p dlC_M_buildsMembers_18 (i := 12) rfl) ?_
                                      refine zw_goto (pc := 144) (tgt := 113) (by decide) (zdal_p dlC_M_buildsMembers_18 (i := 13) rfl) ?_
                                      exact ih_113 (u167_ + 1) (by (exact zo_74 i170_)) (by (exact zo_671 hc_118 p1_)) N182_ hb2_N182_ (show 0 ≤ (u167_ + 1) by first | assumption | (exact zo_76 i170_)) (show (u167_ + 1) ≤ ze Mz 81 12 by first | assumption | omega) (show zNf Mz N182_ u15_ u121_ by exact hAp_.1) (show zAp N182_ (ze N182_ 81 20) (u167_ + 1) by exact hAp_.2) c185_ (by (exact zo_147 hc_118 hlt_113))
                                exact lp_113 _ 0 (by decide) (by decide) N136_ zFr.rf (show 0 ≤ (0 : Int) by first | assumption | (decide)) (show (0 : Int) ≤ ze Mz 81 12 by first | assumption | (exact zo_564 p0_)) (show zNf Mz N136_ u15_ u121_ by exact hnf_) (show zAp N136_ (ze N136_ 81 20) (0 : Int) by exact zAp_0) c145_ (Nat.lt_succ_self _)
                              · skip
                                refine zw_iconst (pc := 109) (v := Int32.ofInt 0) (by decide) (zdal_p dlC_M_buildsMembers_17 (i := 15) rfl) ?_
                                exact zr_iret (pc := 110) (ty := .boolean) rfl (z_narB (by (decide))) ⟨by (decide), by (decide)⟩ hf_N136_ ⟨c145_, (show ((0 = 1 ∧ zFin Mz ∧ 1 ≤ ze N136_ 81 20 ∧ ze N136_ 81 20 ≤ 24 ∧ (∃ T : zGT, T ∈ gTabs ∧ zTab T N136_)) ∨ (0 = 0 ∧ ¬ zFin Mz)) from Or.inr (⟨(show 0 = 0 by first | exact zBs_24 ⟨by (exact i18_), by (exact zo_701 e20_N136_ hc_106 hu15_b i125_ i131_)⟩ ⟨by (exact i126_), by (exact hc_43)⟩ hnf_ (by (exact hc_106)) | (decide)), (show ¬ zFin Mz by first | exact zBs_24 ⟨by (exact i18_), by (exact zo_701 e20_N136_ hc_106 hu15_b i125_ i131_)⟩ ⟨by (exact i126_), by (exact hc_43)⟩ hnf_ (by (exact hc_106)) | omega)⟩))⟩ (zdal_p dlC_M_buildsMembers_17 (i := 16) rfl)
                            · skip
                              exact absurd hc_94 (by decide)
                        · skip
                          refine zw_aload_n (pc := 56) (n := 0) (x := 81) rfl (zdal_p dlC_M_buildsMembers_16 (i := 9) rfl) ?_
                          refine zr_getF (r := 86) (hf_N136_.w hW) (pc := 57) f_M_29 rfl (zh_86 (hf_N136_.w hW)).1 (zdal_p dlC_M_buildsMembers_16 (i := 10) rfl) ?_
                          refine zw_iload_n (pc := 60) (n := 3) (x := Int32.ofInt u135_) rfl (zdal_p dlC_M_buildsMembers_16 (i := 11) rfl) ?_
                          refine zw_aload_n (pc := 61) (n := 0) (x := 81) rfl (zdal_p dlC_M_buildsMembers_16 (i := 12) rfl) ?_
                          refine zr_getF (r := 83) (hf_N136_.w hW) (pc := 62) f_M_20 rfl (zh_83 (hf_N136_.w hW)).1 (zdal_p dlC_M_buildsMembers_16 (i := 13) rfl) ?_
                          refine zw_bipush (pc := 65) (v := Int32.ofInt 6) (by decide) (zdal_p dlC_M_buildsMembers_16 (i := 14) rfl) ?_
                          refine zw_iload_n (pc := 67) (n := 2) (x := Int32.ofInt u121_) rfl (zdal_p dlC_M_buildsMembers_16 (i := 15) rfl) ?_
                          refine zr_imul (pc := 68) (zdal_p dlC_M_buildsMembers_16 (i := 16) rfl) ?_
                          refine zw_aload_n (pc := 69) (n := 0) (x := 81) rfl (zdal_p dlC_M_buildsMembers_16 (i := 17) rfl) ?_
                          refine zr_getF (r := 85) (hf_N136_.w hW) (pc := 70) f_M_26 rfl (zh_85 (hf_N136_.w hW)).1 (zdal_p dlC_M_buildsMembers_16 (i := 18) rfl) ?_
                          refine zw_bipush (pc := 73) (v := Int32.ofInt 6) (by decide) (zdal_p dlC_M_buildsMembers_16 (i := 19) rfl) ?_
                          refine zw_iload_n (pc := 75) (n := 1) (x := Int32.ofInt u15_) rfl (zdal_p dlC_M_buildsMembers_16 (i := 20) rfl) ?_
                          refine zr_imul (pc := 76) (zdal_p dlC_M_buildsMembers_16 (i := 21) rfl) ?_
                          refine zw_iload_n (pc := 77) (n := 3) (x := Int32.ofInt u135_) rfl (zdal_p dlC_M_buildsMembers_16 (i := 22) rfl) ?_
                          refine zr_iadd (pc := 78) (zdal_p dlC_M_buildsMembers_16 (i := 23) rfl) ?_
                          refine zr_ialdn (pc := 79) (zh_85 (hf_N136_.w hW)).2 (by decide) (by (exact zo_709 i138_ i18_)) (by (exact zo_667 hc_53 i125_ i131_ p1_)) (zdal_p dlC_M_buildsMembers_17 (i := 0) rfl) (fun v186_ hv186_ hv186_a hv186_b => ?_)
                          have hr187_ := c145_.g (e := (6 * u15_) + u135_) (by (exact zo_709 i138_ i18_)) (by (exact zo_667 hc_53 i125_ i131_ p1_))
                          rw [← hv186_] at hr187_
                          refine zr_toI (show v186_ = ze N136_ 85 (6 * u15_ + u135_).toNat by (exact hv186_)) ?_
                          refine zr_iadd (pc := 80) (zdal_p dlC_M_buildsMembers_17 (i := 1) rfl) ?_
                          refine zr_ialdn (pc := 81) (zh_83 (hf_N136_.w hW)).2 (by decide) (by (exact zo_668 hr187_.1 hv186_ i126_)) (by (exact zo_710 hc_43 hr187_.2 hv186_ p3_)) (zdal_p dlC_M_buildsMembers_17 (i := 2) rfl) (fun v188_ hv188_ hv188_a hv188_b => ?_)
                          have hr189_ := c144_.g (e := (6 * u121_) + (ze N136_ 85 (6 * u15_ + u135_).toNat)) (by (exact zo_668 hr187_.1 hv186_ i126_)) (by (exact zo_710 hc_43 hr187_.2 hv186_ p3_))
                          rw [← hv188_] at hr189_
                          rw [hf_N136_.ie (by decide) (by decide)] at hv188_
                          refine zr_iast (pc := 82) (zh_86 (hf_N136_.w hW)).2 (by decide) (by decide) (by (exact i138_)) (by (exact zo_670 hc_53 p1_)) (zdal_p dlC_M_buildsMembers_17 (i := 3) rfl) (fun N190_ hN190_ hsN190_ => ?_)
                          have hf_N190_ : zFr [20] [85, 86, 87, 88] Mz N190_ := hf_N136_.tr hsN190_ (by decide) (by decide)
                          have hb0_N190_ : zFr [20] [85, 86] N6_ N190_ := hb0_N136_.tr hsN190_ (by decide) (by decide)
                          have hb1_N190_ : zFr [20] [85, 86] N16_ N190_ := hb1_N136_.tr hsN190_ (by decide) (by decide)
                          have hb2_N190_ : zFr [] [86] N122_ N190_ := hs137_.tr hsN190_ (by decide) (by decide)
                          have hG_ := zCg_s (show zCg Mz N136_ u15_ u121_ 0 u135_ by assumption) (by (exact i138_)) (by (exact hr189_)) (by rw [if_pos rfl]; assumption) (by (exact i18_)) hN190_
                          have hf1_ := zBs.fr hsN190_ (show zBs Mz N136_ by assumption) (by decide) (by decide)
                          have hf2_ := zBc.fr hsN190_ (show zBc Mz N136_ u15_ u121_ by assumption) (by decide) (by decide)
                          refine zr_iinc (pc := 83) (i := 3) (a := u135_) (n := 1) (L2 := [some (.ref 81), some (.int (Int32.ofInt u15_)), some (.int (Int32.ofInt u121_)), some (.int (Int32.ofInt (u135_ + 1)))]) rfl (by decide) rfl (zdal_p dlC_M_buildsMembers_17 (i := 4) rfl) ?_
                          refine zw_goto (pc := 86) (tgt := 48) (by decide) (zdal_p dlC_M_buildsMembers_17 (i := 5) rfl) ?_
                          exact ih_48 (u135_ + 1) (by (exact zo_74 i138_)) (by (exact zo_671 hc_53 p1_)) N190_ hb2_N190_ (show 0 ≤ (u135_ + 1) by first | assumption | (exact zo_76 i138_)) (show (u135_ + 1) ≤ ze Mz 81 12 by first | assumption | omega) (show zCg Mz N190_ u15_ u121_ 0 (u135_ + 1) by exact hG_) (show zBs Mz N190_ by exact hf1_) (show zBc Mz N190_ u15_ u121_ by exact hf2_) (by (exact zo_147 hc_53 hlt_48))
                    exact lp_48 _ 0 (by decide) (by decide) N122_ zFr.rf (show 0 ≤ (0 : Int) by first | assumption | (decide)) (show (0 : Int) ≤ ze Mz 81 12 by first | assumption | (exact zo_564 p0_)) (show zCg Mz N122_ u15_ u121_ 0 (0 : Int) by exact zCg_0) (show zBs Mz N122_ by first | assumption | omega) (show zBc Mz N122_ u15_ u121_ by first | assumption | omega) (Nat.lt_succ_self _)
              exact lp_38 _ 0 (by decide) (by decide) N16_ zFr.rf (show 0 ≤ u15_ by first | assumption | omega) (show u15_ < ze N16_ 81 20 by first | assumption | omega) (show 0 ≤ (0 : Int) by first | assumption | (decide)) (show (0 : Int) ≤ ze Mz 81 13 by first | assumption | omega) (show zBs Mz N16_ by first | assumption | omega) (show zBc Mz N16_ u15_ (0 : Int) by first | assumption | omega) (show 1 ≤ ze N16_ 81 20 by first | assumption | omega) (show ze N16_ 81 20 ≤ 24 by first | assumption | omega) i24_ (Nat.lt_succ_self _)
        exact lp_28 _ 0 (by decide) (by decide) N6_ zFr.rf (show 0 ≤ (0 : Int) by first | assumption | (decide)) (show (0 : Int) ≤ ze N6_ 81 20 by first | assumption | (exact zo_711 i11_)) (show zBs Mz N6_ by exact hB0_.1) (show zBc Mz N6_ (0 : Int) 0 by exact hB0_.2) (show 1 ≤ ze N6_ 81 20 by first | assumption | (exact zo_712 i11_)) (show ze N6_ 81 20 ≤ 24 by first | assumption | (exact zo_713 i11_)) i12_ (Nat.lt_succ_self _)
      · skip
        refine zw_aload_n (pc := 13) (n := 0) (x := 81) rfl (zdal_p dlC_M_buildsMembers_15 (i := 8) rfl) ?_
        refine zr_getF (r := 85) (hf_N6_.w hW) (pc := 14) f_M_26 rfl (zh_85 (hf_N6_.w hW)).1 (zdal_p dlC_M_buildsMembers_15 (i := 9) rfl) ?_
        refine zw_iload_n (pc := 17) (n := 1) (x := Int32.ofInt u5_) rfl (zdal_p dlC_M_buildsMembers_15 (i := 10) rfl) ?_
        refine zw_iload_n (pc := 18) (n := 1) (x := Int32.ofInt u5_) rfl (zdal_p dlC_M_buildsMembers_15 (i := 11) rfl) ?_
        refine zr_iast (pc := 19) (zh_85 (hf_N6_.w hW)).2 (by decide) (by decide) (by (exact i8_)) (by (exact zo_714 hc_10)) (zdal_p dlC_M_buildsMembers_15 (i := 12) rfl) (fun N194_ hN194_ hsN194_ => ?_)
        have hf_N194_ : zFr [20] [85, 86, 87, 88] Mz N194_ := hf_N6_.tr hsN194_ (by decide) (by decide)
        have hb0_N194_ : zFr [] [85] N1_ N194_ := hs7_.tr hsN194_ (by decide) (by decide)
        have e20_N194_ : ze N194_ 81 20 = ze N6_ 81 20 := hsN194_.e (by decide)
        have c197_ : zB 85 144 0 5 N194_ := zB.s i12_ hN194_ (by (exact i8_)) (by (exact zo_715 hc_10)) (by decide) (by decide)
        have hI_ := zid_s (by (exact i8_)) (by (exact zo_716 hc_10)) (show ∀ q : Nat, (q : Int) < u5_ → ze N6_ 85 q = q by assumption) hN194_
        refine zr_iinc (pc := 20) (i := 1) (a := u5_) (n := 1) (L2 := [some (.ref 81), some (.int (Int32.ofInt (u5_ + 1))), none, none]) rfl (by decide) rfl (zdal_p dlC_M_buildsMembers_15 (i := 13) rfl) ?_
        refine zw_goto (pc := 23) (tgt := 7) (by decide) (zdal_p dlC_M_buildsMembers_15 (i := 14) rfl) ?_
        exact ih_7 (u5_ + 1) (by (exact zo_74 i8_)) (by (exact zo_193 hc_10)) N194_ hb0_N194_ (show 0 ≤ (u5_ + 1) by first | assumption | (exact zo_76 i8_)) (show (u5_ + 1) ≤ 6 by first | assumption | omega) (show ∀ q : Nat, (q : Int) < (u5_ + 1) → ze N194_ 85 q = q by exact hI_) (show ze N194_ 81 20 = 1 by first | assumption | (exact zo_594 e20_N194_ i11_)) c197_ (by (exact zo_717 hc_10 hlt_7 i8_))
  exact lp_7 _ 0 (by decide) (by decide) N1_ zFr.rf (show 0 ≤ (0 : Int) by first | assumption | (decide)) (show (0 : Int) ≤ 6 by first | assumption | (decide)) (show ∀ q : Nat, (q : Int) < (0 : Int) → ze N1_ 85 q = q by exact zall_0) (show ze N1_ 81 20 = 1 by first | assumption | omega) c4_ (Nat.lt_succ_self _)
theorem gmkc_add (d t : Nat → Nat) : gmkc (fun p => d p + t p) = gmkc d + gmkc t := by
  show (d 0 + t 0) * 32768 + (d 1 + t 1) * 4096 + (d 2 + t 2) * 512 + (d 3 + t 3) * 64 + (d 4 + t 4) * 8 + (d 5 + t 5) = (d 0 * 32768 + d 1 * 4096 + d 2 * 512 + d 3 * 64 + d 4 * 8 + d 5) + (t 0 * 32768 + t 1 * 4096 + t 2 * 512 + t 3 * 64 + t 4 * 8 + t 5)
  omega
def gtl (P : Nat) : Nat := gmkc (fun p => if p < P then 0 else p)
def zkc (P : Nat) (c : Int) : Nat := c.toNat + gtl P
def zkv (P : Nat) (c : Int) : Prop := 0 ≤ c ∧ c < 262144 ∧ (∀ p, p < P → p < 6 → gdg c.toNat p < P) ∧ ∀ p, P ≤ p → p < 6 → gdg c.toNat p = 0
section ZKG
variable {P : Nat} {c l : Int}
theorem zkc_m (h : zkv P c) : zkc P c = gmkc (fun p => if p < P then gdg c.toNat p else p) := by
  have e := gmkc_e (c := c.toNat) (by have := h.2.1; omega)
  unfold zkc gtl
  rw [← e, ← gmkc_add, e]
  refine gmkc_c (fun p hp => ?_)
  by_cases g : p < P
  · rw [if_pos g, if_pos g, Nat.add_zero]
  · rw [if_neg g, if_neg g, h.2.2.2 p (by omega) hp, Nat.zero_add]
theorem zkc_8 (P : Nat) (c : Int) : ∀ p, p < 6 → (fun p => if p < P then gdg c.toNat p else p) p < 8 := fun p hp => by
  show (if p < P then gdg c.toNat p else p) < 8
  split
  · exact gdg_lt _ _
  · omega
theorem zkc_d (h : zkv P c) : ∀ p, p < 6 → gdg (zkc P c) p = if p < P then gdg c.toNat p else p := by
  rw [zkc_m h]
  exact gmkc_d (zkc_8 P c)
theorem zkc_i {a b : Int} (ha : 0 ≤ a) (hb : 0 ≤ b) : zkc P a = zkc P b ↔ a = b := by
  unfold zkc
  omega
theorem zkc_l {a b : Int} (ha : 0 ≤ a) (hb : 0 ≤ b) : zkc P a < zkc P b ↔ a < b := by
  unfold zkc
  omega
def zdc (f : Nat → Nat) (k : Nat) : Nat := gmkc (fun p => if p < k then f p else 0)
theorem zdc_d {f : Nat → Nat} {k : Nat} (h : ∀ p, p < 6 → p < k → f p < 8) : ∀ p, p < 6 → gdg (zdc f k) p = if p < k then f p else 0 := by
  refine gmkc_d (fun p hp => ?_)
  show (if p < k then f p else 0) < 8
  split
  · exact h p hp (by omega)
  · omega
theorem zdc_b {f : Nat → Nat} {k : Nat} (h : ∀ p, p < 6 → p < k → f p < 8) : zdc f k < 262144 := by
  refine gmkc_lt (fun p hp => ?_)
  show (if p < k then f p else 0) < 8
  split
  · exact h p hp (by omega)
  · omega
theorem zdc_v {f : Nat → Nat} (hP : P ≤ 6) (h : ∀ p, p < P → f p < P) : zkv P ((zdc f P : Nat) : Int) := by
  have h8 : ∀ p, p < 6 → p < P → f p < 8 := fun p _ hp => by have := h p hp; omega
  refine ⟨by omega, by have := zdc_b h8; omega, fun p hp h6 => ?_, fun p hp h6 => ?_⟩
  · rw [Int.toNat_natCast, zdc_d h8 p h6, if_pos hp]
    exact h p hp
  · rw [Int.toNat_natCast, zdc_d h8 p h6, if_neg (by omega)]
theorem zdc_c {f : Nat → Nat} (hP : P ≤ 6) (h : ∀ p, p < P → f p < P) : zkc P ((zdc f P : Nat) : Int) = gmkc (fun p => if p < P then f p else p) := by
  have h8 : ∀ p, p < 6 → p < P → f p < 8 := fun p _ hp => by have := h p hp; omega
  rw [zkc_m (zdc_v hP h)]
  refine gmkc_c (fun p hp => ?_)
  by_cases g : p < P
  · rw [if_pos g, if_pos g, Int.toNat_natCast, zdc_d h8 p hp, if_pos g]
  · rw [if_neg g, if_neg g]
theorem zdc_u (f : Nat → Nat) (k : Nat) : zdc f k = (if 0 < k then f 0 else 0) * 32768 + (if 1 < k then f 1 else 0) * 4096 + (if 2 < k then f 2 else 0) * 512 + (if 3 < k then f 3 else 0) * 64 + (if 4 < k then f 4 else 0) * 8 + (if 5 < k then f 5 else 0) := rfl
theorem zdc_n (f : Nat → Nat) : zdc f 0 = 0 ∧ zdc f 1 = f 0 * 32768 ∧ zdc f 2 = f 0 * 32768 + f 1 * 4096 ∧ zdc f 3 = f 0 * 32768 + f 1 * 4096 + f 2 * 512 ∧ zdc f 4 = f 0 * 32768 + f 1 * 4096 + f 2 * 512 + f 3 * 64 ∧ zdc f 5 = f 0 * 32768 + f 1 * 4096 + f 2 * 512 + f 3 * 64 + f 4 * 8 ∧ zdc f 6 = f 0 * 32768 + f 1 * 4096 + f 2 * 512 + f 3 * 64 + f 4 * 8 + f 5 := by
  refine ⟨?_, ?_, ?_, ?_, ?_, ?_, ?_⟩ <;> simp [zdc_u]
theorem zdc_0 (f : Nat → Nat) : zdc f 0 = 0 := (zdc_n f).1
def zw5 (k : Nat) : Nat := [32768, 4096, 512, 64, 8, 1].getD k 1
theorem zw5_n : zw5 0 = 32768 ∧ zw5 1 = 4096 ∧ zw5 2 = 512 ∧ zw5 3 = 64 ∧ zw5 4 = 8 ∧ zw5 5 = 1 := by decide
theorem zw5_b : ∀ j, j < 6 → zw5 j ≤ 32768 := by decide
theorem zdc_s {f : Nat → Nat} {k : Nat} (hk : k < 6) (h : ∀ p, p < 6 → p ≤ k → f p < 8) : zdc f k ||| f k * zw5 k = zdc f (k + 1) := by
  obtain ⟨n0, n1, n2, n3, n4, n5, n6⟩ := zdc_n f
  obtain ⟨w0, w1, w2, w3, w4, w5⟩ := zw5_n
  have hfk := h k hk (Nat.le_refl _)
  have p0 : (2 : Nat) ^ 18 = 262144 := rfl
  have p1 : (2 : Nat) ^ 15 = 32768 := rfl
  have p2 : (2 : Nat) ^ 12 = 4096 := rfl
  have p3 : (2 : Nat) ^ 9 = 512 := rfl
  have p4 : (2 : Nat) ^ 6 = 64 := rfl
  have p5 : (2 : Nat) ^ 3 = 8 := rfl
  have key : ∀ (s a y : Nat), zdc f k = 2 ^ s * a → f k * zw5 k = y → y < 2 ^ s → zdc f (k + 1) = 2 ^ s * a + y → zdc f k ||| f k * zw5 k = zdc f (k + 1) := by
    intro s a y e1 e2 e3 e4
    rw [e4, e1, e2, Nat.two_pow_add_eq_or_of_lt e3]
  obtain rfl | rfl | rfl | rfl | rfl | rfl : k = 0 ∨ k = 1 ∨ k = 2 ∨ k = 3 ∨ k = 4 ∨ k = 5 := by omega
  · exact key 18 0 (f 0 * 32768) (by rw [n0]) (by rw [w0]) (by omega) (by rw [n1]; omega)
  · exact key 15 (f 0) (f 1 * 4096) (by rw [n1, p1]; omega) (by rw [w1]) (by omega) (by rw [n2, p1]; omega)
  · exact key 12 (f 0 * 8 + f 1) (f 2 * 512) (by rw [n2, p2]; omega) (by rw [w2]) (by omega) (by rw [n3, p2]; omega)
  · exact key 9 (f 0 * 64 + f 1 * 8 + f 2) (f 3 * 64) (by rw [n3, p3]; omega) (by rw [w3]) (by omega) (by rw [n4, p3]; omega)
  · exact key 6 (f 0 * 512 + f 1 * 64 + f 2 * 8 + f 3) (f 4 * 8) (by rw [n4, p4]; omega) (by rw [w4]) (by omega) (by rw [n5, p4]; omega)
  · exact key 3 (f 0 * 4096 + f 1 * 512 + f 2 * 64 + f 3 * 8 + f 4) (f 5) (by rw [n5, p5]; omega) (by rw [w5, Nat.mul_one]) (by omega) (by rw [n6, p5]; omega)
def zbe (P : Nat) (c l : Int) : Nat := zdc (fun p => gdg l.toNat (gdg c.toNat p)) P
theorem zbe_v (hP : P ≤ 6) (hc : zkv P c) (hl : zkv P l) : zkv P ((zbe P c l : Nat) : Int) := zdc_v hP (fun p hp => hl.2.2.1 _ (hc.2.2.1 p hp (by omega)) (by have := hc.2.2.1 p hp (by omega); omega))
theorem zbe_c (hP : P ≤ 6) (hc : zkv P c) (hl : zkv P l) : zkc P ((zbe P c l : Nat) : Int) = gco (zkc P c) (zkc P l) := by
  unfold zbe
  rw [zdc_c hP (fun p hp => hl.2.2.1 _ (hc.2.2.1 p hp (by omega)) (by have := hc.2.2.1 p hp (by omega); omega)), gco_m]
  refine gmkc_c (fun p hp => ?_)
  rw [zkc_d hc p hp]
  by_cases g : p < P
  · have hg := hc.2.2.1 p g hp
    rw [if_pos g, if_pos g, zkc_d hl _ (by omega), if_pos hg]
  · rw [if_neg g, if_neg g, zkc_d hl p hp, if_neg g]
theorem zid_v (hP : P ≤ 6) : zkv P ((zdc (fun p => p) P : Nat) : Int) := zdc_v hP (fun p hp => hp)
theorem zid_c (hP : P ≤ 6) : zkc P ((zdc (fun p => p) P : Nat) : Int) = gid := by
  rw [zdc_c hP (fun p hp => hp)]
  have : gid = gmkc (fun p => p) := rfl
  rw [this]
  exact gmkc_c (fun p _ => by split <;> rfl)
end ZKG
theorem zsh5_k : ∀ t : Fin 8, ∀ k : Fin 6, zshl ((t.val : Nat) : Int) (3 * (5 - ((k.val : Nat) : Int))) = ((t.val * zw5 k.val : Nat) : Int) := by decide +kernel
theorem zsh5 {t k : Int} (t0 : 0 ≤ t) (t7 : t ≤ 7) (k0 : 0 ≤ k) (k5 : k ≤ 5) : zshl t (3 * (5 - k)) = ((t.toNat * zw5 k.toNat : Nat) : Int) := by
  have h := zsh5_k ⟨t.toNat, by omega⟩ ⟨k.toNat, by omega⟩
  simp only [Int.toNat_of_nonneg t0, Int.toNat_of_nonneg k0] at h
  exact h
theorem zpl5 {c k : Int} (c0 : 0 ≤ c) (c1 : c < 2147483648) (k0 : 0 ≤ k) (k5 : k ≤ 5) : zand (zshr c (3 * (5 - k))) 7 = ((gdg c.toNat k.toNat : Nat) : Int) := by
  obtain ⟨m, rfl⟩ := Int.eq_ofNat_of_zero_le c0
  obtain ⟨j, rfl⟩ := Int.eq_ofNat_of_zero_le k0
  have e1 : (3 * (5 - (j : Int))) = ((3 * (5 - j) : Nat) : Int) := by omega
  rw [e1, zshr_n m _ (by omega) (by omega)]
  have e2 := zand_n (m >>> (3 * (5 - j))) 7 (Nat.lt_of_le_of_lt (Nat.shiftRight_le _ _) (by omega)) (by omega)
  have e3 : ((7 : Nat) : Int) = 7 := rfl
  rw [e3] at e2
  rw [e2, Int.toNat_natCast, Int.toNat_natCast]
  have e4 : (m >>> (3 * (5 - j))) &&& 7 = (m >>> (3 * (5 - j))) % 8 := Nat.and_two_pow_sub_one_eq_mod _ 3
  rw [e4]
  rfl
theorem zdc_z {f : Nat → Nat} {k v t : Int} (k0 : 0 ≤ k) (k6 : k ≤ 5) (h : ∀ p : Nat, p < 6 → (p : Int) ≤ k → f p < 8) (hv : v = ((zdc f k.toNat : Nat) : Int)) (ht : t = ((f k.toNat * zw5 k.toNat : Nat) : Int)) : zor v t = ((zdc f (k + 1).toNat : Nat) : Int) ∧ 0 ≤ zor v t ∧ zor v t < 262144 := by
  have hb : zdc f k.toNat < 262144 := zdc_b (fun p hp hk => h p hp (by omega))
  have hb2 : zdc f (k + 1).toNat < 262144 := zdc_b (fun p hp hk => h p hp (by omega))
  have hs := zdc_s (f := f) (k := k.toNat) (by omega) (fun p hp hk => h p hp (by omega))
  have hf := h k.toNat (by omega) (by omega)
  have hw : zw5 k.toNat ≤ 32768 := zw5_b _ (by omega)
  have hm : f k.toNat * zw5 k.toNat ≤ 8 * 32768 := Nat.mul_le_mul (by omega) hw
  have e : zor v t = ((zdc f (k + 1).toNat : Nat) : Int) := by
    rw [hv, ht, zor_n _ _ (by omega) (by omega), hs, show (k + 1).toNat = k.toNat + 1 by omega]
  rw [e]
  omega
noncomputable def zrm (b : Nat → Int) (n P : Nat) : Nat → Nat → List Nat → Option (Nat × List Nat)
  | 0, p, l => some (p, l)
  | k + 1, p, l => zif (zkd b n p = 2 ∧ znu b n p < P ∧ (znu b n p).toNat ∉ l) (zrm b n P k (znx b n p) (l ++ [(znu b n p).toNat])) none
theorem zrm_t {b : Nat → Int} {n P k p : Nat} {l : List Nat} (h : zkd b n p = 2 ∧ znu b n p < P ∧ (znu b n p).toNat ∉ l) : zrm b n P (k + 1) p l = zrm b n P k (znx b n p) (l ++ [(znu b n p).toNat]) := by
  show zif _ _ _ = _
  rw [zif_t h]
theorem zrm_f {b : Nat → Int} {n P k p : Nat} {l : List Nat} (h : ¬ (zkd b n p = 2 ∧ znu b n p < P ∧ (znu b n p).toNat ∉ l)) : zrm b n P (k + 1) p l = none := by
  show zif _ _ _ = _
  rw [zif_f h]
def zmc (P : Nat) (l : List Nat) : Nat := gmkc (fun p => if p < P then l.getD p 0 else p)
def gFin (mv : List Nat) : Prop := ∃ C : List Nat, C.length ≤ 24 ∧ gid ∈ C ∧ ∀ c ∈ C, ∀ g ∈ mv, gco c g ∈ C
abbrev zMst : Type := Nat × Nat × List Nat
def zMf : zMst := (2, 0, [])
noncomputable def zbs (b : Nat → Int) (n P : Nat) : zMst → zMst
  | (0, p, mv) => zif (zkd b n p = 1 ∧ zkey b n p = zkw 1)
      (zif (mv.length < 4) (match zrm b n P P (znx b n p) [] with | none => zMf | some e => zif (zisg b n e.1 59 ∧ gFin (mv ++ [zmc P e.2])) (0, znx b n e.1, mv ++ [zmc P e.2]) zMf) zMf) (1, p, mv)
  | s => s
section ZBS
variable {b : Nat → Int} {n P p q : Nat} {mv l : List Nat}
theorem zbs_0 : zbs b n P (0, p, mv) = zif (zkd b n p = 1 ∧ zkey b n p = zkw 1)
      (zif (mv.length < 4) (match zrm b n P P (znx b n p) [] with | none => zMf | some e => zif (zisg b n e.1 59 ∧ gFin (mv ++ [zmc P e.2])) (0, znx b n e.1, mv ++ [zmc P e.2]) zMf) zMf) (1, p, mv) := rfl
theorem zbs_1 : zbs b n P (1, p, mv) = (1, p, mv) := rfl
theorem zbs_F : zbs b n P zMf = zMf := rfl
theorem zbs_e (h : ¬ (zkd b n p = 1 ∧ zkey b n p = zkw 1)) : zbs b n P (0, p, mv) = (1, p, mv) := by
  rw [zbs_0, zif_f h]
theorem zbs_4 (h : zkd b n p = 1 ∧ zkey b n p = zkw 1) (h4 : ¬ mv.length < 4) : zbs b n P (0, p, mv) = zMf := by
  rw [zbs_0, zif_t h, zif_f h4]
theorem zbs_n (h : zkd b n p = 1 ∧ zkey b n p = zkw 1) (hr : zrm b n P P (znx b n p) [] = none) : zbs b n P (0, p, mv) = zMf := by
  rw [zbs_0, zif_t h, hr]
  by_cases h4 : mv.length < 4
  · rw [zif_t h4]
  · rw [zif_f h4]
theorem zbs_f (h : zkd b n p = 1 ∧ zkey b n p = zkw 1) (hr : zrm b n P P (znx b n p) [] = some (q, l)) (h2 : ¬ (zisg b n q 59 ∧ gFin (mv ++ [zmc P l]))) : zbs b n P (0, p, mv) = zMf := by
  rw [zbs_0, zif_t h, hr]
  by_cases h4 : mv.length < 4
  · rw [zif_t h4]
    show zif _ _ _ = _
    rw [zif_f h2]
  · rw [zif_f h4]
theorem zbs_t (h : zkd b n p = 1 ∧ zkey b n p = zkw 1) (h4 : mv.length < 4) (hr : zrm b n P P (znx b n p) [] = some (q, l)) (h2 : zisg b n q 59 ∧ gFin (mv ++ [zmc P l])) : zbs b n P (0, p, mv) = (0, znx b n q, mv ++ [zmc P l]) := by
  rw [zbs_0, zif_t h, hr, zif_t h4]
  show zif _ _ _ = _
  rw [zif_t h2]
end ZBS
theorem zap_1 {l : List Nat} {v i : Nat} (h : i < l.length) : (l ++ [v]).getD i 0 = l.getD i 0 := by
  rw [List.getD_eq_getElem?_getD, List.getElem?_append_left h, ← List.getD_eq_getElem?_getD]
theorem zap_2 {l : List Nat} {v : Nat} : (l ++ [v]).getD l.length 0 = v := by
  rw [List.getD_eq_getElem?_getD, List.getElem?_append_right (Nat.le_refl _), Nat.sub_self]
  rfl
theorem zap_m {l : List Nat} {v : Nat} : v ∈ l ↔ ∃ i, i < l.length ∧ l.getD i 0 = v := by
  rw [List.mem_iff_getElem]
  constructor
  · rintro ⟨i, hi, e⟩
    refine ⟨i, hi, ?_⟩
    rw [List.getD_eq_getElem?_getD, List.getElem?_eq_getElem hi]
    exact e
  · rintro ⟨i, hi, e⟩
    refine ⟨i, hi, ?_⟩
    rw [List.getD_eq_getElem?_getD, List.getElem?_eq_getElem hi] at e
    exact e
def zmV (P : Nat) (l : List Nat) : Prop := (∀ i, i < l.length → l.getD i 0 < P) ∧ ∀ i j, i < j → j < l.length → l.getD i 0 ≠ l.getD j 0
theorem zmV_0 (P : Nat) : zmV P [] := ⟨fun i h => absurd h (Nat.not_lt_zero i), fun i j _ h => absurd h (Nat.not_lt_zero j)⟩
theorem zmV.s {P v : Nat} {l : List Nat} (h : zmV P l) (hv : v < P) (hn : v ∉ l) : zmV P (l ++ [v]) := by
  refine ⟨fun i hi => ?_, fun i j hij hj => ?_⟩
  · rw [List.length_append, List.length_singleton] at hi
    by_cases g : i < l.length
    · rw [zap_1 g]
      exact h.1 i g
    · rw [show i = l.length by omega, zap_2]
      exact hv
  · rw [List.length_append, List.length_singleton] at hj
    rw [zap_1 (show i < l.length by omega)]
    by_cases g : j < l.length
    · rw [zap_1 g]
      exact h.2 i j hij g
    · rw [show j = l.length by omega, zap_2]
      exact fun e => hn (zap_m.mpr ⟨i, by omega, e⟩)
theorem zmc_8 {P : Nat} {l : List Nat} (hP : P ≤ 6) (hl : l.length = P) (h : zmV P l) : ∀ p, p < 6 → (fun p => if p < P then l.getD p 0 else p) p < 8 := fun p hp => by
  show (if p < P then l.getD p 0 else p) < 8
  split
  · have := h.1 p (by omega); omega
  · omega
theorem zmc_d {P : Nat} {l : List Nat} (hP : P ≤ 6) (hl : l.length = P) (h : zmV P l) : ∀ p, p < 6 → gdg (zmc P l) p = if p < P then l.getD p 0 else p := gmkc_d (zmc_8 hP hl h)
theorem zmc_p {P : Nat} {l : List Nat} (hP : P ≤ 6) (hl : l.length = P) (h : zmV P l) : gpm (zmc P l) ∧ gfix P (zmc P l) := by
  have hd := zmc_d hP hl h
  have hlt : ∀ p, p < 6 → gdg (zmc P l) p < 6 ∧ (gdg (zmc P l) p < P ↔ p < P) := fun p hp => by
    rw [hd p hp]
    by_cases g : p < P
    · rw [if_pos g]
      have := h.1 p (by omega)
      omega
    · rw [if_neg g]
      omega
  refine ⟨⟨gmkc_lt (zmc_8 hP hl h), fun p hp => (hlt p hp).1, fun p q hp hq e => ?_⟩, fun p h1 h2 => ?_⟩
  · have e1 := (hlt p hp).2
    have e2 := (hlt q hq).2
    rw [← e] at e2
    by_cases g : p < P
    · have gq : q < P := e2.mp (e1.mpr g)
      rw [hd p hp, hd q hq, if_pos g, if_pos gq] at e
      rcases Nat.lt_trichotomy p q with k | k | k
      · exact absurd e (h.2 p q k (by omega))
      · exact k
      · exact absurd e.symm (h.2 q p k (by omega))
    · have gq : ¬ q < P := fun k => g (e1.mp (e2.mpr k))
      rw [hd p hp, hd q hq, if_neg g, if_neg gq] at e
      exact e
  · rw [hd p h2, if_neg (by omega)]
def zmt (t : Int) (l : List Nat) : Prop := (0 ≤ t ∧ t < 64) ∧ ∀ v : Nat, v < 6 → (zbt t v ↔ v ∈ l)
theorem zmt_0 : zmt 0 [] := by
  refine ⟨by omega, fun v _ => ⟨fun h => ?_, fun h => absurd h List.not_mem_nil⟩⟩
  unfold zbt at h
  rw [show (0 : Int).toNat = 0 from rfl, Nat.zero_testBit] at h
  cases h
theorem zmt.s {t : Int} {l : List Nat} {v : Int} (h : zmt t l) (v0 : 0 ≤ v) (v6 : v < 6) : zmt (zor t (zshl 1 v)) (l ++ [v.toNat]) := by
  obtain ⟨⟨h1, h2⟩, h3⟩ := h
  have e := zorb (x := t) (k := v) h1 (by omega) v0 (by omega)
  have hp : 2 ^ v.toNat < 2 ^ 6 := Nat.pow_lt_pow_right (by omega) (by omega)
  have hlt : t.toNat ||| 2 ^ v.toNat < 2 ^ 6 := Nat.or_lt_two_pow (by omega) hp
  refine ⟨by rw [e]; omega, fun w hw => ?_⟩
  have h4 := h3 w hw
  unfold zbt at h4 ⊢
  rw [e, Int.toNat_natCast, Int.toNat_natCast, Nat.testBit_or, Nat.testBit_two_pow, List.mem_append, List.mem_singleton, Bool.or_eq_true, decide_eq_true_iff]
  rw [Int.toNat_natCast] at h4
  rw [h4]
  constructor
  · rintro (k | k)
    · exact Or.inl k
    · exact Or.inr k.symm
  · rintro (k | k)
    · exact Or.inl k
    · exact Or.inr k.symm
def gbS (mv : List Nat) (c : Nat → Nat) (s : Int) : Prop := (1 ≤ s ∧ s ≤ 24) ∧ (∀ i : Nat, (i : Int) < s → gGen mv (c i)) ∧ (∀ i j : Nat, i < j → (j : Int) < s → c i ≠ c j) ∧ c 0 = gid
def gbC (mv : List Nat) (c : Nat → Nat) (s m k : Int) : Prop := ∀ i q : Nat, (i : Int) < s → q < mv.length → ((i : Int) < m ∨ ((i : Int) = m ∧ (q : Int) < k)) → ∃ j : Nat, (j : Int) < s ∧ c j = gco (c i) (mv.getD q 0)
def gGp (mv : List Nat) (c : Nat → Nat) (s : Int) : Prop := (1 ≤ s ∧ s ≤ 24) ∧ (∀ x, gGen mv x ↔ ∃ i : Nat, (i : Int) < s ∧ c i = x) ∧ (∀ i j : Nat, i < j → (j : Int) < s → c i ≠ c j) ∧ gFin mv
section GBS
variable {mv : List Nat} {c c' : Nat → Nat} {s m k : Int}
theorem gmv_m {q : Nat} (h : q < mv.length) : mv.getD q 0 ∈ mv := zap_m.mpr ⟨q, h, rfl⟩
theorem gbS_0 (h : c 0 = gid) : gbS mv c 1 ∧ gbC mv c 1 0 0 := by
  refine ⟨⟨by omega, fun i hi => ?_, fun i j h1 h2 => absurd h2 (by omega), h⟩, fun i q _ _ hd => absurd hd (by omega)⟩
  rw [show i = 0 by omega, h]
  exact gGen.id mv
theorem gbC_f {v : Nat} (hm : 0 ≤ m) (hk : 0 ≤ k) (hC : gbC mv c s m k) (hv : (v : Int) < s) (e : c v = gco (c m.toNat) (mv.getD k.toNat 0)) : gbC mv c s m (k + 1) := fun i q hi hq hd => by
  by_cases g : (i : Int) = m ∧ (q : Int) = k
  · refine ⟨v, hv, ?_⟩
    rw [e, show i = m.toNat by omega, show q = k.toNat by omega]
  · exact hC i q hi hq (by omega)
theorem gbS_a (hm : 0 ≤ m ∧ m < s) (hk : 0 ≤ k ∧ k < mv.length) (hS : gbS mv c s) (hC : gbC mv c s m k) (s24 : s ≤ 23) (hn : ∀ i : Nat, (i : Int) < s → c i ≠ gco (c m.toNat) (mv.getD k.toNat 0)) (hc : ∀ i : Nat, (i : Int) < s → c' i = c i) (e : c' s.toNat = gco (c m.toNat) (mv.getD k.toNat 0)) : gbS mv c' (s + 1) ∧ gbC mv c' (s + 1) m (k + 1) := by
  obtain ⟨a1, a2, a3, a4⟩ := hS
  refine ⟨⟨by omega, fun i hi => ?_, fun i j hij hj => ?_, by rw [hc 0 (by omega)]; exact a4⟩, fun i q hi hq hd => ?_⟩
  · by_cases g : (i : Int) = s
    · rw [show i = s.toNat by omega, e]
      exact (a2 m.toNat (by omega)).g (gmv_m (by omega))
    · rw [hc i (by omega)]
      exact a2 i (by omega)
  · rw [hc i (by omega)]
    by_cases g : (j : Int) = s
    · rw [show j = s.toNat by omega, e]
      exact hn i (by omega)
    · rw [hc j (by omega)]
      exact a3 i j hij (by omega)
  · by_cases g : (i : Int) = m ∧ (q : Int) = k
    · refine ⟨s.toNat, by omega, ?_⟩
      rw [e, hc i (by omega), show i = m.toNat by omega, show q = k.toNat by omega]
    · obtain ⟨j, hj, e2⟩ := hC i q (by omega) hq (by omega)
      refine ⟨j, by omega, ?_⟩
      rw [hc j hj, hc i (by omega)]
      exact e2
theorem gbC_n (h : gbC mv c s m k) (hk : (mv.length : Int) ≤ k) : gbC mv c s (m + 1) 0 := fun i q hi hq hd => h i q hi hq (by omega)
theorem gbS_24 (hm : 0 ≤ m ∧ m < s) (hk : 0 ≤ k ∧ k < mv.length) (hS : gbS mv c s) (s24 : 24 ≤ s) (hn : ∀ i : Nat, (i : Int) < s → c i ≠ gco (c m.toNat) (mv.getD k.toNat 0)) : ¬ gFin mv := by
  rintro ⟨C, c1, c2, c3⟩
  obtain ⟨a1, a2, a3, a4⟩ := hS
  have hin : ∀ x, gGen mv x → x ∈ C := fun x hx => hx (fun y => y ∈ C) c2 (fun y g hy hg => c3 y hy g hg)
  have hnew : gGen mv (gco (c m.toNat) (mv.getD k.toNat 0)) := (a2 m.toNat (by omega)).g (gmv_m (by omega))
  have := nodup_len (gco (c m.toNat) (mv.getD k.toNat 0) :: (List.range 24).map (fun i => c i)) C (by
    refine List.nodup_cons.mpr ⟨fun hx => ?_, ?_⟩
    · obtain ⟨i, hi, e⟩ := List.mem_map.mp hx
      rw [List.mem_range] at hi
      exact hn i (by omega) e
    · rw [List.Nodup, List.pairwise_map]
      refine List.Pairwise.imp_of_mem ?_ (List.pairwise_lt_range (n := 24))
      intro i j hi hj hij
      rw [List.mem_range] at hi hj
      exact a3 i j hij (by omega)) (fun x hx => by
    rcases List.mem_cons.mp hx with rfl | hx
    · exact hin _ hnew
    · obtain ⟨i, hi, rfl⟩ := List.mem_map.mp hx
      rw [List.mem_range] at hi
      exact hin _ (a2 i (by omega)))
  rw [List.length_cons, List.length_map, List.length_range] at this
  omega
theorem gbS_e (hS : gbS mv c s) (hC : gbC mv c s m 0) (hm : s ≤ m) : gGp mv c s := by
  obtain ⟨a1, a2, a3, a4⟩ := hS
  have hcl : ∀ x g, (∃ i : Nat, (i : Int) < s ∧ c i = x) → g ∈ mv → ∃ i : Nat, (i : Int) < s ∧ c i = gco x g := by
    rintro _ g ⟨i, hi, rfl⟩ hg
    obtain ⟨q, hq, rfl⟩ := zap_m.mp hg
    exact hC i q hi hq (by omega)
  have h0 : ∃ i : Nat, (i : Int) < s ∧ c i = gid := ⟨0, by omega, a4⟩
  refine ⟨a1, fun x => ⟨fun hx => hx (fun x => ∃ i : Nat, (i : Int) < s ∧ c i = x) h0 (fun c g hc hg => hcl c g hc hg), ?_⟩, a3, (List.range s.toNat).map c, ?_, ?_, ?_⟩
  · rintro ⟨i, hi, rfl⟩
    exact a2 i hi
  · rw [List.length_map, List.length_range]
    omega
  · obtain ⟨i, hi, e⟩ := h0
    exact List.mem_map.mpr ⟨i, List.mem_range.mpr (by omega), e⟩
  · intro x hx g hg
    obtain ⟨i, hi, e⟩ := List.mem_map.mp hx
    rw [List.mem_range] at hi
    obtain ⟨j, hj, e2⟩ := hcl x g ⟨i, by omega, e⟩ hg
    exact List.mem_map.mpr ⟨j, List.mem_range.mpr (by omega), e2⟩
end GBS
def zMvK (mv : List Nat) (P d : Nat) (Mz : zMem) : Prop := (ze Mz (d + 1) 5 = P ∧ 1 ≤ P ∧ P ≤ 6) ∧ ze Mz (d + 1) 6 = (mv.length : Int) ∧ mv.length ≤ 4 ∧ ∀ k, k < mv.length → zkv P (ze Mz (d + 3) k) ∧ zkc P (ze Mz (d + 3) k) = mv.getD k 0
def zCo (P d : Nat) (Mz : zMem) : Nat → Nat := fun i => zkc P (ze Mz (d + 5) i)
def zGI (mv : List Nat) (P d : Nat) (Mz : zMem) (m k : Int) : Prop := (∀ i : Nat, (i : Int) < ze Mz (d + 1) 7 → zkv P (ze Mz (d + 5) i)) ∧ gbS mv (zCo P d Mz) (ze Mz (d + 1) 7) ∧ gbC mv (zCo P d Mz) (ze Mz (d + 1) 7) m k
def zGg (mv : List Nat) (P d : Nat) (Mz : zMem) : Prop := (∀ i : Nat, (i : Int) < ze Mz (d + 1) 7 → zkv P (ze Mz (d + 5) i)) ∧ gGp mv (zCo P d Mz) (ze Mz (d + 1) 7)
section ZKH
variable {d P : Nat} {mv : List Nat} {FA : List (Nat × Nat)} {CA : List Nat} {FR : List (Nat × Nat)} {CR : List Nat} {Mz Nz Pz : zMem} {m k : Int}
theorem zMvK.fr (_ : zKW d Mz) (hf : zFc d FA CA FR CR Mz Nz) (h : zMvK mv P d Mz) (hd : (1 < 38 ∧ 1 ∉ CR ∧ (1, 5) ∉ FR) ∧ (1 < 38 ∧ 1 ∉ CR ∧ (1, 6) ∉ FR) ∧ 3 < 38 ∧ 3 ∉ CR ∧ ∀ x ∈ FR, x.1 ≠ 3) : zMvK mv P d Nz := by
  unfold zMvK
  rw [hf.e hd.1, hf.e hd.2.1]
  exact ⟨h.1, h.2.1, h.2.2.1, fun k hk => by rw [hf.r hd.2.2]; exact h.2.2.2 k hk⟩
theorem zGg.fr (_ : zKW d Mz) (hf : zFc d FA CA FR CR Mz Nz) (h : zGg mv P d Mz) (hd : (1 < 38 ∧ 1 ∉ CR ∧ (1, 7) ∉ FR) ∧ 5 < 38 ∧ 5 ∉ CR ∧ ∀ x ∈ FR, x.1 ≠ 5) : zGg mv P d Nz := by
  have e : zCo P d Nz = zCo P d Mz := funext fun i => by
    unfold zCo
    rw [hf.r hd.2]
  unfold zGg
  rw [hf.e hd.1, e]
  exact ⟨fun i hi => by rw [hf.r hd.2]; exact h.1 i hi, h.2⟩
theorem zGI_0 (hP : P ≤ 6) (h7 : ze Mz (d + 1) 7 = 1) (h0 : ze Mz (d + 5) 0 = ((zdc (fun p => p) P : Nat) : Int)) : zGI mv P d Mz 0 0 := by
  have e : zCo P d Mz 0 = gid := by
    unfold zCo
    rw [h0]
    exact zid_c hP
  unfold zGI
  rw [h7]
  exact ⟨fun i hi => by rw [show i = 0 by omega, h0]; exact zid_v hP, gbS_0 e⟩
theorem zGI_b (hv : zMvK mv P d Mz) (h : zGI mv P d Mz m k) (hm : 0 ≤ m ∧ m < ze Mz (d + 1) 7) (hk : 0 ≤ k ∧ k < ze Mz (d + 1) 6) : zkv P (ze Mz (d + 5) m.toNat) ∧ zkv P (ze Mz (d + 3) k.toNat) ∧ zkc P ((zbe P (ze Mz (d + 5) m.toNat) (ze Mz (d + 3) k.toNat) : Nat) : Int) = gco (zCo P d Mz m.toNat) (mv.getD k.toNat 0) ∧ zkv P ((zbe P (ze Mz (d + 5) m.toNat) (ze Mz (d + 3) k.toNat) : Nat) : Int) := by
  have h1 := h.1 m.toNat (by omega)
  have h2 := hv.2.2.2 k.toNat (by have := hv.2.1; omega)
  refine ⟨h1, h2.1, ?_, zbe_v hv.1.2.2 h1 h2.1⟩
  rw [zbe_c hv.1.2.2 h1 h2.1, h2.2]
  rfl
theorem zGI_f (hv : zMvK mv P d Mz) (h : zGI mv P d Mz m k) (hm : 0 ≤ m ∧ m < ze Mz (d + 1) 7) (hk : 0 ≤ k ∧ k < ze Mz (d + 1) 6) {v x : Int} (v0 : 0 ≤ v) (v1 : v < ze Mz (d + 1) 7) (hx : x = ((zbe P (ze Mz (d + 5) m.toNat) (ze Mz (d + 3) k.toNat) : Nat) : Int)) (e : ze Mz (d + 5) v.toNat = x) : zGI mv P d Mz m (k + 1) := by
  have hb := zGI_b hv h hm hk
  refine ⟨h.1, h.2.1, gbC_f (v := v.toNat) hm.1 hk.1 h.2.2 (by omega) ?_⟩
  rw [← hb.2.2.1, ← hx, ← e]
  rfl
theorem zGI_x (hv : zMvK mv P d Mz) (h : zGI mv P d Mz m k) (hm : 0 ≤ m ∧ m < ze Mz (d + 1) 7) (hk : 0 ≤ k ∧ k < ze Mz (d + 1) 6) {x : Int} (hx : x = ((zbe P (ze Mz (d + 5) m.toNat) (ze Mz (d + 3) k.toNat) : Nat) : Int)) (e : ∀ i : Nat, (i : Int) < ze Mz (d + 1) 7 → ze Mz (d + 5) i ≠ x) : ∀ i : Nat, (i : Int) < ze Mz (d + 1) 7 → zCo P d Mz i ≠ gco (zCo P d Mz m.toNat) (mv.getD k.toNat 0) := by
  have hb := zGI_b hv h hm hk
  intro i hi he
  rw [← hb.2.2.1, ← hx] at he
  exact e i hi ((zkc_i (h.1 i hi).1 (by rw [hx]; exact hb.2.2.2.1)).mp he)
theorem zGI_24 (hv : zMvK mv P d Mz) (h : zGI mv P d Mz m k) (hm : 0 ≤ m ∧ m < ze Mz (d + 1) 7) (hk : 0 ≤ k ∧ k < ze Mz (d + 1) 6) {x : Int} (hx : x = ((zbe P (ze Mz (d + 5) m.toNat) (ze Mz (d + 3) k.toNat) : Nat) : Int)) (e : ∀ i : Nat, (i : Int) < ze Mz (d + 1) 7 → ze Mz (d + 5) i ≠ x) (h24 : 24 ≤ ze Mz (d + 1) 7) : ¬ gFin mv := gbS_24 hm (by have := hv.2.1; omega) h.2.1 h24 (zGI_x hv h hm hk hx e)
theorem zGI_a (hv : zMvK mv P d Mz) (h : zGI mv P d Mz m k) (hm : 0 ≤ m ∧ m < ze Mz (d + 1) 7) (hk : 0 ≤ k ∧ k < ze Mz (d + 1) 6) {x : Int} (hx : x = ((zbe P (ze Mz (d + 5) m.toNat) (ze Mz (d + 3) k.toNat) : Nat) : Int)) (e : ∀ i : Nat, (i : Int) < ze Mz (d + 1) 7 → ze Mz (d + 5) i ≠ x) (h24 : ze Mz (d + 1) 7 ≤ 23) (h7 : ze Nz (d + 1) 7 = ze Mz (d + 1) 7 + 1) (hc : ∀ i : Nat, (i : Int) < ze Mz (d + 1) 7 → ze Nz (d + 5) i = ze Mz (d + 5) i) (hn : ze Nz (d + 5) (ze Mz (d + 1) 7).toNat = x) : zGI mv P d Nz m (k + 1) := by
  have hb := zGI_b hv h hm hk
  have hl := hv.2.1
  have hs := h.2.1.1
  have ha := gbS_a (c' := zCo P d Nz) hm (by omega) h.2.1 h.2.2 h24 (zGI_x hv h hm hk hx e) (fun i hi => by unfold zCo; rw [hc i hi]) (by unfold zCo; rw [hn, hx]; exact hb.2.2.1)
  unfold zGI
  rw [h7]
  refine ⟨fun i hi => ?_, ha⟩
  by_cases g : (i : Int) = ze Mz (d + 1) 7
  · rw [show i = (ze Mz (d + 1) 7).toNat by omega, hn, hx]
    exact hb.2.2.2
  · rw [hc i (by omega)]
    exact h.1 i (by omega)
theorem zGI_n (h : zGI mv P d Mz m k) (hk : (mv.length : Int) ≤ k) : zGI mv P d Mz (m + 1) 0 := ⟨h.1, h.2.1, gbC_n h.2.2 hk⟩
theorem zGI_e (h : zGI mv P d Mz m 0) (hm : ze Mz (d + 1) 7 ≤ m) : zGg mv P d Mz := ⟨h.1, gbS_e h.2.1 h.2.2 hm⟩
theorem zMvK.u {x : Int} (h : zMvK mv P d Mz) (h4 : ze Mz (d + 1) 6 ≤ 3) (h5 : ze Nz (d + 1) 5 = ze Mz (d + 1) 5) (h6 : ze Nz (d + 1) 6 = ze Mz (d + 1) 6 + 1) (hx : zkv P x) (hn : ze Nz (d + 3) (ze Mz (d + 1) 6).toNat = x) (hc : ∀ i : Nat, (i : Int) < ze Mz (d + 1) 6 → ze Nz (d + 3) i = ze Mz (d + 3) i) : zMvK (mv ++ [zkc P x]) P d Nz := by
  obtain ⟨a1, a2, a3, a4⟩ := h
  refine ⟨by rw [h5]; exact a1, ?_, ?_, fun k hk => ?_⟩
  · rw [List.length_append, List.length_singleton]
    omega
  · rw [List.length_append, List.length_singleton]
    omega
  · rw [List.length_append, List.length_singleton] at hk
    by_cases g : k < mv.length
    · rw [hc k (by omega), zap_1 g]
      exact a4 k g
    · have e : k = (ze Mz (d + 1) 6).toNat := by omega
      rw [e, hn, show (ze Mz (d + 1) 6).toNat = mv.length by omega, zap_2]
      exact ⟨hx, rfl⟩
end ZKH
theorem zdc_e {f g : Nat → Nat} {k : Nat} (h : ∀ p, p < k → f p = g p) : zdc f k = zdc g k := gmkc_c (fun p _ => by
  show (if p < k then f p else 0) = if p < k then g p else 0
  by_cases e : p < k
  · rw [if_pos e, if_pos e, h p e]
  · rw [if_neg e, if_neg e])
theorem gFin_0 : gFin [] := ⟨[gid], by decide, List.mem_singleton.mpr rfl, fun _ _ g hg => absurd hg List.not_mem_nil⟩
def zHd (b : Nat → Int) (n p P q : Nat) : Prop := (zkd b n p = 1 ∧ zkey b n p = zkw 0) ∧ (zkd b n (znx b n p) = 2 ∧ znu b n (znx b n p) = P ∧ 1 ≤ P ∧ P ≤ 6) ∧ zisg b n (znx b n (znx b n p)) 59 ∧ q = znx b n (znx b n (znx b n p))
theorem zmv_s {P : Nat} {l : List Nat} {t v c k w : Int} (hP : P ≤ 6) (hV : zmV P l) (hl : (l.length : Int) = k) (ht : zmt t l) (hc : c = ((zdc (fun p => l.getD p 0) k.toNat : Nat) : Int)) (v0 : 0 ≤ v) (vP : v < P) (kP : k < P) (hn : v.toNat ∉ l) (hw : w = ((v.toNat * zw5 k.toNat : Nat) : Int)) : zmV P (l ++ [v.toNat]) ∧ ((l ++ [v.toNat]).length : Int) = k + 1 ∧ zmt (zor t (zshl 1 v)) (l ++ [v.toNat]) ∧ zor c w = ((zdc (fun p => (l ++ [v.toNat]).getD p 0) (k + 1).toNat : Nat) : Int) := by
  refine ⟨hV.s (by omega) hn, by rw [List.length_append, List.length_singleton]; omega, ht.s v0 (by omega), ?_⟩
  have e1 : zdc (fun p => l.getD p 0) k.toNat = zdc (fun p => (l ++ [v.toNat]).getD p 0) k.toNat := zdc_e (fun p hp => (zap_1 (by omega)).symm)
  have e2 : (l ++ [v.toNat]).getD k.toNat 0 = v.toNat := by
    rw [show k.toNat = l.length by omega]
    exact zap_2
  rw [e1] at hc
  refine (zdc_z (f := fun p => (l ++ [v.toNat]).getD p 0) (k := k) (v := c) (t := w) (by omega) (by omega) (fun p hp hk => ?_) hc ?_).1
  · show (l ++ [v.toNat]).getD p 0 < 8
    by_cases g : p < l.length
    · rw [zap_1 g]
      have := hV.1 p g
      omega
    · rw [show p = l.length by omega, zap_2]
      omega
  · show w = (((l ++ [v.toNat]).getD k.toNat 0 * zw5 k.toNat : Nat) : Int)
    rw [e2]
    exact hw
theorem zmc_z {P : Nat} {l : List Nat} (hP : P ≤ 6) (hV : zmV P l) (hl : l.length = P) : zkv P ((zdc (fun p => l.getD p 0) P : Nat) : Int) ∧ zkc P ((zdc (fun p => l.getD p 0) P : Nat) : Int) = zmc P l :=
  ⟨zdc_v hP (fun p hp => hV.1 p (by omega)), zdc_c hP (fun p hp => hV.1 p (by omega))⟩
set_option maxHeartbeats 4000000 in
theorem u_T_placeIn (l : Launch) (d_ : Nat) (Mz : zMem) (hW : zKW d_ Mz) (a0_ : Int) (ha0_a : -2147483648 ≤ a0_) (ha0_b : a0_ < 2147483648) (a1_ : Int) (ha1_a : -2147483648 ≤ a1_) (ha1_b : a1_ < 2147483648) (p0_ : 0 ≤ a0_) (p1_ : a0_ < 262144) (p2_ : 0 ≤ a1_) (p3_ : a1_ ≤ 5) : zC l m_T_placeIn 0 0 [.int (Int32.ofInt a0_), .int (Int32.ofInt a1_)] Mz (zqcI d_ [] [] [] [] Mz (fun v N => v = (gdg (a0_).toNat (a1_).toNat : Nat))) := by
  refine zC_of (L0 := [some (.int (Int32.ofInt a0_)), some (.int (Int32.ofInt a1_))]) md_T_placeIn (Nat.le_of_ble_eq_true rfl) rfl ?_ zQ0
  have hf : zFc d_ [] [] [] [] Mz Mz := zFc.rf
  refine zw_iload_n (pc := 0) (n := 0) (x := Int32.ofInt a0_) rfl (zdal_p dlA_T_placeIn_25 (i := 0) rfl) ?_
  refine zw_iconst (pc := 1) (v := Int32.ofInt 3) (by decide) (zdal_p dlA_T_placeIn_25 (i := 1) rfl) ?_
  refine zw_iconst (pc := 2) (v := Int32.ofInt 5) (by decide) (zdal_p dlA_T_placeIn_25 (i := 2) rfl) ?_
  refine zw_iload_n (pc := 3) (n := 1) (x := Int32.ofInt a1_) rfl (zdal_p dlA_T_placeIn_25 (i := 3) rfl) ?_
  refine zr_isub (pc := 4) (zdal_p dlA_T_placeIn_25 (i := 4) rfl) ?_
  refine zr_imul (pc := 5) (zdal_p dlA_T_placeIn_25 (i := 5) rfl) ?_
  refine zr_ishr (pc := 6) (zdal_p dlA_T_placeIn_25 (i := 6) rfl) ?_
  have hr1_ := zshr_r a0_ (3 * (5 - a1_))
  refine zw_bipush (pc := 7) (v := Int32.ofInt 7) (by decide) (zdal_p dlA_T_placeIn_25 (i := 7) rfl) ?_
  refine zr_iand (pc := 9) (zdal_p dlA_T_placeIn_25 (i := 8) rfl) ?_
  have hr2_ := zand_r (zshr a0_ (3 * (5 - a1_))) 7
  exact zk_iret (pc := 10) (ty := .int) rfl rfl ⟨by omega, by omega⟩ hf (show (zand (zshr a0_ (3 * (5 - a1_))) 7) = (gdg (a0_).toNat (a1_).toNat : Nat) by exact zpl5 (by omega) (by omega) (by omega) (by omega)) (zdal_p dlA_T_placeIn_25 (i := 9) rfl)
set_option maxHeartbeats 4000000 in
theorem u_T_codeOf (l : Launch) (d_ : Nat) (Mz : zMem) (hW : zKW d_ Mz) (a0_ : Int) (ha0_a : -2147483648 ≤ a0_) (ha0_b : a0_ < 2147483648) (a1_ : Int) (ha1_a : -2147483648 ≤ a1_) (ha1_b : a1_ < 2147483648) (p0_ : 0 ≤ a0_) (p1_ : a0_ ≤ 7) (p2_ : 0 ≤ a1_) (p3_ : a1_ ≤ 5) : zC l m_T_codeOf 0 0 [.int (Int32.ofInt a0_), .int (Int32.ofInt a1_)] Mz (zqcI d_ [] [] [] [] Mz (fun v N => v = ((a0_).toNat * zw5 (a1_).toNat : Nat))) := by
  refine zC_of (L0 := [some (.int (Int32.ofInt a0_)), some (.int (Int32.ofInt a1_))]) md_T_codeOf (Nat.le_of_ble_eq_true rfl) rfl ?_ zQ0
  have hf : zFc d_ [] [] [] [] Mz Mz := zFc.rf
  refine zw_iload_n (pc := 0) (n := 0) (x := Int32.ofInt a0_) rfl (zdal_p dlA_T_codeOf_21 (i := 0) rfl) ?_
  refine zw_iconst (pc := 1) (v := Int32.ofInt 3) (by decide) (zdal_p dlA_T_codeOf_21 (i := 1) rfl) ?_
  refine zw_iconst (pc := 2) (v := Int32.ofInt 5) (by decide) (zdal_p dlA_T_codeOf_21 (i := 2) rfl) ?_
  refine zw_iload_n (pc := 3) (n := 1) (x := Int32.ofInt a1_) rfl (zdal_p dlA_T_codeOf_21 (i := 3) rfl) ?_
  refine zr_isub (pc := 4) (zdal_p dlA_T_codeOf_21 (i := 4) rfl) ?_
  refine zr_imul (pc := 5) (zdal_p dlA_T_codeOf_21 (i := 5) rfl) ?_
  refine zr_ishl (pc := 6) (zdal_p dlA_T_codeOf_21 (i := 6) rfl) ?_
  have hr1_ := zshl_r a0_ (3 * (5 - a1_))
  exact zk_iret (pc := 7) (ty := .int) rfl rfl ⟨by omega, by omega⟩ hf (show (zshl a0_ (3 * (5 - a1_))) = ((a0_).toNat * zw5 (a1_).toNat : Nat) by exact zsh5 (by omega) (by omega) (by omega) (by omega)) (zdal_p dlA_T_codeOf_21 (i := 7) rfl)
set_option maxHeartbeats 4000000 in
theorem u_T_isIn (l : Launch) (d_ : Nat) (Mz : zMem) (hW : zKW d_ Mz) (a0_ : Int) (ha0_a : -2147483648 ≤ a0_) (ha0_b : a0_ < 2147483648) (a1_ : Int) (ha1_a : -2147483648 ≤ a1_) (ha1_b : a1_ < 2147483648) (p0_ : 0 ≤ a0_) (p1_ : a0_ < 2147483648) (p2_ : 0 ≤ a1_) (p3_ : a1_ < 31) : zC l m_T_isIn 0 0 [.int (Int32.ofInt a0_), .int (Int32.ofInt a1_)] Mz (zqcI d_ [] [] [] [] Mz (fun v N => (((v = 1 ∧ zbt a0_ a1_) ∨ (v = 0 ∧ ¬ zbt a0_ a1_))))) := by
  refine zC_of (L0 := [some (.int (Int32.ofInt a0_)), some (.int (Int32.ofInt a1_))]) md_T_isIn (Nat.le_of_ble_eq_true rfl) rfl ?_ zQ0
  have hf : zFc d_ [] [] [] [] Mz Mz := zFc.rf
  have hbb_ := zbit (x := a0_) (k := a1_) (by omega) (by omega) (by omega) (by omega)
  refine zw_iload_n (pc := 0) (n := 0) (x := Int32.ofInt a0_) rfl (zdal_p dlA_T_isIn_35 (i := 0) rfl) ?_
  refine zw_iload_n (pc := 1) (n := 1) (x := Int32.ofInt a1_) rfl (zdal_p dlA_T_isIn_35 (i := 1) rfl) ?_
  refine zr_ishr (pc := 2) (zdal_p dlA_T_isIn_35 (i := 2) rfl) ?_
  have hr1_ := zshr_r a0_ a1_
  refine zw_iconst (pc := 3) (v := Int32.ofInt 1) (by decide) (zdal_p dlA_T_isIn_35 (i := 3) rfl) ?_
  refine zr_iand (pc := 4) (zdal_p dlA_T_isIn_35 (i := 4) rfl) ?_
  have hr2_ := zand_r (zshr a0_ a1_) 1
  refine zr_if_eq (pc := 5) (tgt := 12) ⟨(by omega), (by omega)⟩ (by decide) (zdal_p dlA_T_isIn_35 (i := 5) rfl) (fun hc_5 => ?_) (fun hc_5 => ?_)
  · skip
    refine zw_iconst (pc := 12) (v := Int32.ofInt 0) (by decide) (zdal_p dlA_T_isIn_35 (i := 8) rfl) ?_
    exact zk_iret (pc := 13) (ty := .boolean) rfl (z_narB (by omega)) ⟨by omega, by omega⟩ hf (show ((0 = 1 ∧ zbt a0_ a1_) ∨ (0 = 0 ∧ ¬ zbt a0_ a1_)) from Or.inr (⟨(show 0 = 0 by first | rfl | (rcases hbb_ with ⟨h1_, h2_⟩ | ⟨h1_, h2_⟩; exfalso; omega; exact h1_)), (show ¬ zbt a0_ a1_ by first | rfl | (rcases hbb_ with ⟨h1_, h2_⟩ | ⟨h1_, h2_⟩; exfalso; omega; exact h1_))⟩)) (zdal_p dlA_T_isIn_35 (i := 9) rfl)
  · skip
    refine zw_iconst (pc := 8) (v := Int32.ofInt 1) (by decide) (zdal_p dlA_T_isIn_35 (i := 6) rfl) ?_
    refine zw_goto (pc := 9) (tgt := 13) (by decide) (zdal_p dlA_T_isIn_35 (i := 7) rfl) ?_
    exact zk_iret (pc := 13) (ty := .boolean) rfl (z_narB (by omega)) ⟨by omega, by omega⟩ hf (show ((1 = 1 ∧ zbt a0_ a1_) ∨ (1 = 0 ∧ ¬ zbt a0_ a1_)) from Or.inl (⟨(show 1 = 1 by first | rfl | (rcases hbb_ with ⟨h1_, h2_⟩ | ⟨h1_, h2_⟩; exact h1_; exfalso; omega)), (show zbt a0_ a1_ by first | rfl | (rcases hbb_ with ⟨h1_, h2_⟩ | ⟨h1_, h2_⟩; exact h1_; exfalso; omega))⟩)) (zdal_p dlA_T_isIn_35 (i := 9) rfl)
set_option maxHeartbeats 4000000 in
theorem u_Group_behind (l : Launch) (d_ : Nat) (Mz : zMem) (hW : zKW d_ Mz) (a0_ : Int) (ha0_a : -2147483648 ≤ a0_) (ha0_b : a0_ < 2147483648) (a1_ : Int) (ha1_a : -2147483648 ≤ a1_) (ha1_b : a1_ < 2147483648) (P_ : Nat) (p0_ : ze Mz (d_ + 1) 5 = P_) (p1_ : P_ ≤ 6) (p2_ : zkv P_ a0_) (p3_ : zkv P_ a1_) : zC l m_Group_behind 0 0 [.ref (d_ + 1), .int (Int32.ofInt a0_), .int (Int32.ofInt a1_)] Mz (zqcI d_ [] [] [] [] Mz (fun v N => v = (zbe P_ a0_ a1_ : Nat))) := by
  refine zC_of (L0 := [some (.ref (d_ + 1)), some (.int (Int32.ofInt a0_)), some (.int (Int32.ofInt a1_)), none, none]) md_Group_behind (Nat.le_of_ble_eq_true rfl) rfl ?_ zQ0
  have hf : zFc d_ [] [] [] [] Mz Mz := zFc.rf
  have r_D1_5 := ze_r Mz (d_ + 1) 5
  obtain ⟨c1_, c2_, c3_, c4_⟩ := id p2_
  obtain ⟨l1_, l2_, l3_, l4_⟩ := id p3_
  refine zw_iconst (pc := 0) (v := Int32.ofInt 0) (by decide) (zdal_p dlA_Group_behind_24 (i := 0) rfl) ?_
  refine zw_istore_n (pc := 1) (i := 3) (L2 := [some (.ref (d_ + 1)), some (.int (Int32.ofInt a0_)), some (.int (Int32.ofInt a1_)), some (.int (Int32.ofInt 0)), none]) rfl (by decide) rfl (zdal_p dlA_Group_behind_24 (i := 1) rfl) ?_
  refine zw_iconst (pc := 2) (v := Int32.ofInt 0) (by decide) (zdal_p dlA_Group_behind_24 (i := 2) rfl) ?_
  refine zw_istore (pc := 3) (i := 4) (L2 := [some (.ref (d_ + 1)), some (.int (Int32.ofInt a0_)), some (.int (Int32.ofInt a1_)), some (.int (Int32.ofInt 0)), some (.int (Int32.ofInt 0))]) (by decide) rfl (zdal_p dlA_Group_behind_24 (i := 3) rfl) ?_
  have lp_5 : ∀ (n : Nat) (u1_ : Int) (hu1_a : -2147483648 ≤ u1_) (hu1_b : u1_ < 2147483648) (u2_ : Int) (hu2_a : -2147483648 ≤ u2_) (hu2_b : u2_ < 2147483648) (i3_ : 0 ≤ u2_) (i4_ : u2_ ≤ P_) (i5_ : u1_ = (zdc (fun p_ => gdg (a1_).toNat (gdg (a0_).toNat p_)) (u2_).toNat : Nat)), (P_ - u2_).toNat < n → zW l m_Group_behind (zn Mz + 0, zw Mz + 0) Mz 5 [some (.ref (d_ + 1)), some (.int (Int32.ofInt a0_)), some (.int (Int32.ofInt a1_)), some (.int (Int32.ofInt u1_)), some (.int (Int32.ofInt u2_))] [] (zqcI d_ [] [] [] [] Mz (fun v N => v = (zbe P_ a0_ a1_ : Nat))) := by
    intro n
    induction n with
    | zero =>
      intro u1_ hu1_a hu1_b u2_ hu2_a hu2_b i3_ i4_ i5_ h0
      exact absurd h0 (Nat.not_lt_zero _)
    | succ n ih_5 =>
      intro u1_ hu1_a hu1_b u2_ hu2_a hu2_b i3_ i4_ i5_ hlt_5
      have hd0_ := gdg_lt (a0_).toNat (u2_).toNat
      have hdl_ := (show u1_ = (zdc (fun p_ => gdg (a1_).toNat (gdg (a0_).toNat p_)) (u2_).toNat : Nat) by assumption)
      refine zw_iload (pc := 5) (i := 4) (x := Int32.ofInt u2_) rfl (zdal_p dlA_Group_behind_24 (i := 4) rfl) ?_
      refine zw_aload_n (pc := 7) (n := 0) (x := (d_ + 1)) rfl (zdal_p dlA_Group_behind_24 (i := 5) rfl) ?_
      refine zk_getI (pc := 8) f_Group_32 rfl ((hf.w hW).kr (o := 1) (by decide)) (zdal_p dlA_Group_behind_24 (i := 6) rfl) ?_
      refine zr_icmp_ge (pc := 11) (tgt := 38) ⟨hu2_a, hu2_b⟩ ⟨(ze_r Mz (d_ + 1) 5).1, (ze_r Mz (d_ + 1) 5).2⟩ (by decide) (zdal_p dlA_Group_behind_24 (i := 7) rfl) (fun hc_11 => ?_) (fun hc_11 => ?_)
      · skip
        refine zw_iload_n (pc := 38) (n := 3) (x := Int32.ofInt u1_) rfl (zdal_p dlA_Group_behind_24 (i := 20) rfl) ?_
        exact zk_iret (pc := 39) (ty := .int) rfl rfl ⟨by omega, by omega⟩ hf (show u1_ = (zbe P_ a0_ a1_ : Nat) by rw [hdl_, show (u2_).toNat = P_ by omega]; rfl) (zdal_p dlA_Group_behind_24 (i := 21) rfl)
      · skip
        refine zw_iload_n (pc := 14) (n := 3) (x := Int32.ofInt u1_) rfl (zdal_p dlA_Group_behind_24 (i := 8) rfl) ?_
        refine zw_iload_n (pc := 15) (n := 2) (x := Int32.ofInt a1_) rfl (zdal_p dlA_Group_behind_24 (i := 9) rfl) ?_
        refine zw_iload_n (pc := 16) (n := 1) (x := Int32.ofInt a0_) rfl (zdal_p dlA_Group_behind_24 (i := 10) rfl) ?_
        refine zw_iload (pc := 17) (i := 4) (x := Int32.ofInt u2_) rfl (zdal_p dlA_Group_behind_24 (i := 11) rfl) ?_
        refine zr_callS hf.x (pc := 19) [.int (Int32.ofInt a0_), .int (Int32.ofInt u2_)] [.int (Int32.ofInt a1_), .int (Int32.ofInt u1_)] l_Group_64 (u_T_placeIn l d_ Mz (hf.w hW) a0_ ha0_a ha0_b u2_ hu2_a hu2_b (show 0 ≤ a0_ by first | assumption | omega) (show a0_ < 262144 by omega) (show 0 ≤ u2_ by first | assumption | omega) (show u2_ ≤ 5 by first | assumption | omega)) rfl rfl (by decide) (Nat.le_of_ble_eq_true rfl) (zdal_p dlA_Group_behind_24 (i := 12) rfl) ?_
        rintro _ N6_ ⟨v7_, rfl, ⟨hv7_a, hv7_b⟩, hsN6_, hp0_N6_⟩
        obtain rfl := hsN6_.eq.symm
        replace hp0_N6_ : v7_ = (gdg (a0_).toNat (u2_).toNat : Nat) := hp0_N6_
        show zW l m_Group_behind (zn Mz + 0, zw Mz + 0) Mz 22 [some (.ref (d_ + 1)), some (.int (Int32.ofInt a0_)), some (.int (Int32.ofInt a1_)), some (.int (Int32.ofInt u1_)), some (.int (Int32.ofInt u2_))] [.int (Int32.ofInt v7_), .int (Int32.ofInt a1_), .int (Int32.ofInt u1_)] _
        have hq1_ := hp0_N6_
        have hq2_ := c3_ (u2_).toNat (by omega) (by omega)
        have hd1_ := gdg_lt (a1_).toNat (v7_).toNat
        refine zr_callS hf.x (pc := 22) [.int (Int32.ofInt a1_), .int (Int32.ofInt v7_)] [.int (Int32.ofInt u1_)] l_Group_64 (u_T_placeIn l d_ Mz (hf.w hW) a1_ ha1_a ha1_b v7_ hv7_a hv7_b (show 0 ≤ a1_ by first | assumption | omega) (show a1_ < 262144 by first | assumption | omega) (show 0 ≤ v7_ by omega) (show v7_ ≤ 5 by first | assumption | omega)) rfl rfl (by decide) (Nat.le_of_ble_eq_true rfl) (zdal_p dlA_Group_behind_24 (i := 13) rfl) ?_
        rintro _ N8_ ⟨v9_, rfl, ⟨hv9_a, hv9_b⟩, hsN8_, hp0_N8_⟩
        obtain rfl := hsN8_.eq.symm
        replace hp0_N8_ : v9_ = (gdg (a1_).toNat (v7_).toNat : Nat) := hp0_N8_
        show zW l m_Group_behind (zn Mz + 0, zw Mz + 0) Mz 25 [some (.ref (d_ + 1)), some (.int (Int32.ofInt a0_)), some (.int (Int32.ofInt a1_)), some (.int (Int32.ofInt u1_)), some (.int (Int32.ofInt u2_))] [.int (Int32.ofInt v9_), .int (Int32.ofInt u1_)] _
        have hq3_ := hp0_N8_
        have hd2_ := gdg_lt (a1_).toNat (gdg (a0_).toNat (u2_).toNat)
        refine zw_iload (pc := 25) (i := 4) (x := Int32.ofInt u2_) rfl (zdal_p dlA_Group_behind_24 (i := 14) rfl) ?_
        refine zr_callS hf.x (pc := 27) [.int (Int32.ofInt v9_), .int (Int32.ofInt u2_)] [.int (Int32.ofInt u1_)] l_Group_50 (u_T_codeOf l d_ Mz (hf.w hW) v9_ hv9_a hv9_b u2_ hu2_a hu2_b (show 0 ≤ v9_ by first | assumption | omega) (show v9_ ≤ 7 by first | assumption | omega) (show 0 ≤ u2_ by first | assumption | omega) (show u2_ ≤ 5 by first | assumption | omega)) rfl rfl (by decide) (Nat.le_of_ble_eq_true rfl) (zdal_p dlA_Group_behind_24 (i := 15) rfl) ?_
        rintro _ N10_ ⟨v11_, rfl, ⟨hv11_a, hv11_b⟩, hsN10_, hp0_N10_⟩
        obtain rfl := hsN10_.eq.symm
        replace hp0_N10_ : v11_ = ((v9_).toNat * zw5 (u2_).toNat : Nat) := hp0_N10_
        show zW l m_Group_behind (zn Mz + 0, zw Mz + 0) Mz 30 [some (.ref (d_ + 1)), some (.int (Int32.ofInt a0_)), some (.int (Int32.ofInt a1_)), some (.int (Int32.ofInt u1_)), some (.int (Int32.ofInt u2_))] [.int (Int32.ofInt v11_), .int (Int32.ofInt u1_)] _
        have hq4_ := hp0_N10_
        obtain ⟨hz1_, hz2_, hz3_⟩ := zdc_z (f := (fun p_ => gdg (a1_).toNat (gdg (a0_).toNat p_))) (k := u2_) (v := u1_) (t := v11_) (by omega) (by omega) (fun p hp hk => gdg_lt _ _) hdl_ (hq4_.trans (by rw [hq3_, hq1_, Int.toNat_natCast, Int.toNat_natCast]))
        refine zr_ior (pc := 30) (zdal_p dlA_Group_behind_24 (i := 16) rfl) ?_
        have hr12_ := zor_r u1_ v11_
        refine zw_istore_n (pc := 31) (i := 3) (L2 := [some (.ref (d_ + 1)), some (.int (Int32.ofInt a0_)), some (.int (Int32.ofInt a1_)), some (.int (Int32.ofInt (zor u1_ v11_))), some (.int (Int32.ofInt u2_))]) rfl (by decide) rfl (zdal_p dlA_Group_behind_24 (i := 17) rfl) ?_
        refine zr_iinc (pc := 32) (i := 4) (a := u2_) (n := 1) (L2 := [some (.ref (d_ + 1)), some (.int (Int32.ofInt a0_)), some (.int (Int32.ofInt a1_)), some (.int (Int32.ofInt (zor u1_ v11_))), some (.int (Int32.ofInt (u2_ + 1)))]) rfl (by decide) rfl (zdal_p dlA_Group_behind_24 (i := 18) rfl) ?_
        refine zw_goto (pc := 35) (tgt := 5) (by decide) (zdal_p dlA_Group_behind_24 (i := 19) rfl) ?_
        exact ih_5 (zor u1_ v11_) (by omega) (by omega) (u2_ + 1) (by omega) (by omega) (show 0 ≤ (u2_ + 1) by first | assumption | omega) (show (u2_ + 1) ≤ P_ by first | assumption | omega) (show (zor u1_ v11_) = (zdc (fun p_ => gdg (a1_).toNat (gdg (a0_).toNat p_)) ((u2_ + 1)).toNat : Nat) by exact hz1_) (by omega)
  exact lp_5 _ 0 (by decide) (by decide) 0 (by decide) (by decide) (show 0 ≤ (0 : Int) by first | assumption | omega) (show (0 : Int) ≤ P_ by first | assumption | omega) (show (0 : Int) = (zdc (fun p_ => gdg (a1_).toNat (gdg (a0_).toNat p_)) ((0 : Int)).toNat : Nat) by rw [show (0 : Int).toNat = 0 from rfl, zdc_0]; rfl) (Nat.lt_succ_self _)
set_option maxHeartbeats 4000000 in
theorem u_Group_indexOf (l : Launch) (d_ : Nat) (Mz : zMem) (hW : zKW d_ Mz) (a0_ : Int) (ha0_a : -2147483648 ≤ a0_) (ha0_b : a0_ < 2147483648) (p0_ : 0 ≤ ze Mz (d_ + 1) 7) (p1_ : ze Mz (d_ + 1) 7 ≤ 24) : zC l m_Group_indexOf 0 0 [.ref (d_ + 1), .int (Int32.ofInt a0_)] Mz (zqcI d_ [] [] [] [] Mz (fun v N => (((v = -1 ∧ (∀ i : Nat, (i : Int) < ze Mz (d_ + 1) 7 → ze Mz (d_ + 5) i ≠ a0_)) ∨ (0 ≤ v ∧ v < ze Mz (d_ + 1) 7 ∧ ze Mz (d_ + 5) (v).toNat = a0_))))) := by
  refine zC_of (L0 := [some (.ref (d_ + 1)), some (.int (Int32.ofInt a0_)), none]) md_Group_indexOf (Nat.le_of_ble_eq_true rfl) rfl ?_ zQ0
  have hf : zFc d_ [] [] [] [] Mz Mz := zFc.rf
  have r_D1_7 := ze_r Mz (d_ + 1) 7
  refine zw_iconst (pc := 0) (v := Int32.ofInt 0) (by decide) (zdal_p dlA_Group_indexOf_26 (i := 0) rfl) ?_
  refine zw_istore_n (pc := 1) (i := 2) (L2 := [some (.ref (d_ + 1)), some (.int (Int32.ofInt a0_)), some (.int (Int32.ofInt 0))]) rfl (by decide) rfl (zdal_p dlA_Group_indexOf_26 (i := 1) rfl) ?_
  have lp_2 : ∀ (n : Nat) (u1_ : Int) (hu1_a : -2147483648 ≤ u1_) (hu1_b : u1_ < 2147483648) (i2_ : 0 ≤ u1_) (i3_ : ∀ i : Nat, (i : Int) < u1_ → ze Mz (d_ + 5) i ≠ a0_), (ze Mz (d_ + 1) 7 - u1_).toNat < n → zW l m_Group_indexOf (zn Mz + 0, zw Mz + 0) Mz 2 [some (.ref (d_ + 1)), some (.int (Int32.ofInt a0_)), some (.int (Int32.ofInt u1_))] [] (zqcI d_ [] [] [] [] Mz (fun v N => (((v = -1 ∧ (∀ i : Nat, (i : Int) < ze Mz (d_ + 1) 7 → ze Mz (d_ + 5) i ≠ a0_)) ∨ (0 ≤ v ∧ v < ze Mz (d_ + 1) 7 ∧ ze Mz (d_ + 5) (v).toNat = a0_))))) := by
    intro n
    induction n with
    | zero =>
      intro u1_ hu1_a hu1_b i2_ i3_ h0
      exact absurd h0 (Nat.not_lt_zero _)
    | succ n ih_2 =>
      intro u1_ hu1_a hu1_b i2_ i3_ hlt_2
      have hno_ := (show ∀ i : Nat, (i : Int) < u1_ → ze Mz (d_ + 5) i ≠ a0_ by assumption)
      refine zw_iload_n (pc := 2) (n := 2) (x := Int32.ofInt u1_) rfl (zdal_p dlA_Group_indexOf_26 (i := 2) rfl) ?_
      refine zw_aload_n (pc := 3) (n := 0) (x := (d_ + 1)) rfl (zdal_p dlA_Group_indexOf_26 (i := 3) rfl) ?_
      refine zk_getI (pc := 4) f_Group_39 rfl ((hf.w hW).kr (o := 1) (by decide)) (zdal_p dlA_Group_indexOf_26 (i := 4) rfl) ?_
      refine zr_icmp_ge (pc := 7) (tgt := 30) ⟨hu1_a, hu1_b⟩ ⟨(ze_r Mz (d_ + 1) 7).1, (ze_r Mz (d_ + 1) 7).2⟩ (by decide) (zdal_p dlA_Group_indexOf_26 (i := 5) rfl) (fun hc_7 => ?_) (fun hc_7 => ?_)
      · skip
        refine zw_iconst (pc := 30) (v := Int32.ofInt (-1)) (by decide) (zdal_p dlA_Group_indexOf_26 (i := 16) rfl) ?_
        exact zk_iret (pc := 31) (ty := .int) rfl rfl ⟨by omega, by omega⟩ hf (show ((((-1)) = -1 ∧ (∀ i : Nat, (i : Int) < ze Mz (d_ + 1) 7 → ze Mz (d_ + 5) i ≠ a0_)) ∨ (0 ≤ ((-1)) ∧ ((-1)) < ze Mz (d_ + 1) 7 ∧ ze Mz (d_ + 5) (((-1))).toNat = a0_)) from Or.inl (⟨(show ((-1)) = -1 by first | rfl | exact fun i hi => hno_ i (by omega)), (show (∀ i : Nat, (i : Int) < ze Mz (d_ + 1) 7 → ze Mz (d_ + 5) i ≠ a0_) by first | rfl | exact fun i hi => hno_ i (by omega))⟩)) (zdal_p dlA_Group_indexOf_26 (i := 17) rfl)
      · skip
        refine zw_aload_n (pc := 10) (n := 0) (x := (d_ + 1)) rfl (zdal_p dlA_Group_indexOf_26 (i := 6) rfl) ?_
        refine zw_getF (pc := 11) f_Group_20 rfl ((hf.w hW).kr (o := 1) (by decide)) ((hf.w hW).lr (o := 1) (s := 1) (r := 4) (by decide)) (zdal_p dlA_Group_indexOf_26 (i := 7) rfl) ?_
        refine zw_iload_n (pc := 14) (n := 2) (x := Int32.ofInt u1_) rfl (zdal_p dlA_Group_indexOf_26 (i := 8) rfl) ?_
        refine zk_at hf.x (pc := 15) l_Group_54 ((hf.w hW).kr (o := 4) (by decide)) ((hf.w hW).lr (o := 4) (s := 0) (r := 5) (by decide)) ((hf.w hW).rr (o := 5) (t := 1) (n := 24) (by decide)) (by decide) (by omega) (by omega) (by decide) (Nat.le_of_ble_eq_true rfl) (zdal_p dlA_Group_indexOf_26 (i := 9) rfl) (fun v4_ hv4_ hv4_a hv4_b => ?_)
        have hvv_ := hv4_
        refine zw_iload_n (pc := 18) (n := 1) (x := Int32.ofInt a0_) rfl (zdal_p dlA_Group_indexOf_26 (i := 10) rfl) ?_
        refine zr_icmp_ne (pc := 19) (tgt := 24) ⟨hv4_a, hv4_b⟩ ⟨ha0_a, ha0_b⟩ (by decide) (zdal_p dlA_Group_indexOf_26 (i := 11) rfl) (fun hc_19 => ?_) (fun hc_19 => ?_)
        · skip
          refine zr_iinc (pc := 24) (i := 2) (a := u1_) (n := 1) (L2 := [some (.ref (d_ + 1)), some (.int (Int32.ofInt a0_)), some (.int (Int32.ofInt (u1_ + 1)))]) rfl (by decide) rfl (zdal_p dlA_Group_indexOf_26 (i := 14) rfl) ?_
          refine zw_goto (pc := 27) (tgt := 2) (by decide) (zdal_p dlA_Group_indexOf_26 (i := 15) rfl) ?_
          have hn2_ : ∀ i : Nat, (i : Int) < (u1_ + 1) → ze Mz (d_ + 5) i ≠ a0_ := fun i hi => by by_cases g_ : (i : Int) < (u1_ + 1) - 1; exact hno_ i (by omega); rw [show i = (((u1_ + 1)) - 1).toNat by omega]; intro q_; rw [ Int.add_sub_cancel] at q_; omega
          exact ih_2 (u1_ + 1) (by omega) (by omega) (show 0 ≤ (u1_ + 1) by first | assumption | omega) (show ∀ i : Nat, (i : Int) < (u1_ + 1) → ze Mz (d_ + 5) i ≠ a0_ by exact hn2_) (by omega)
        · skip
          refine zw_iload_n (pc := 22) (n := 2) (x := Int32.ofInt u1_) rfl (zdal_p dlA_Group_indexOf_26 (i := 12) rfl) ?_
          exact zk_iret (pc := 23) (ty := .int) rfl rfl ⟨by omega, by omega⟩ hf (show ((u1_ = -1 ∧ (∀ i : Nat, (i : Int) < ze Mz (d_ + 1) 7 → ze Mz (d_ + 5) i ≠ a0_)) ∨ (0 ≤ u1_ ∧ u1_ < ze Mz (d_ + 1) 7 ∧ ze Mz (d_ + 5) (u1_).toNat = a0_)) from Or.inr (⟨(show 0 ≤ u1_ by omega), (show u1_ < ze Mz (d_ + 1) 7 by omega), (show ze Mz (d_ + 5) (u1_).toNat = a0_ by omega)⟩)) (zdal_p dlA_Group_indexOf_26 (i := 13) rfl)
  exact lp_2 _ 0 (by decide) (by decide) (show 0 ≤ (0 : Int) by first | assumption | omega) (show ∀ i : Nat, (i : Int) < (0 : Int) → ze Mz (d_ + 5) i ≠ a0_ by intro i hi; omega) (Nat.lt_succ_self _)
set_option maxHeartbeats 4000000 in
theorem u_Group_gather (l : Launch) (d_ : Nat) (Mz : zMem) (hW : zKW d_ Mz) (P_ : Nat) (mv_ : List Nat) (p0_ : zMvK mv_ P_ d_ Mz) : zC l m_Group_gather 0 0 [.ref (d_ + 1)] Mz (zqcI d_ [] [] [(1, 7)] [5] Mz (fun v N => zMvK mv_ P_ d_ N ∧ (((v = 1 ∧ zGg mv_ P_ d_ N) ∨ (v = 0 ∧ ¬ gFin mv_))))) := by
  refine zC_of (L0 := [some (.ref (d_ + 1)), none, none, none, none]) md_Group_gather (Nat.le_of_ble_eq_true rfl) rfl ?_ zQ0
  have hf : zFc d_ [] [] [(1, 7)] [5] Mz Mz := zFc.rf
  have r_D1_5 := ze_r Mz (d_ + 1) 5
  have r_D1_6 := ze_r Mz (d_ + 1) 6
  have r_D1_7 := ze_r Mz (d_ + 1) 7
  obtain ⟨⟨hP0_, hP1_, hP6_⟩, hc1_, hc2_, hc3_⟩ := id p0_
  refine zw_iconst (pc := 0) (v := Int32.ofInt 0) (by decide) (zdal_p dlA_Group_gather_17 (i := 0) rfl) ?_
  refine zw_istore_n (pc := 1) (i := 1) (L2 := [some (.ref (d_ + 1)), some (.int (Int32.ofInt 0)), none, none, none]) rfl (by decide) rfl (zdal_p dlA_Group_gather_17 (i := 1) rfl) ?_
  refine zw_iconst (pc := 2) (v := Int32.ofInt 0) (by decide) (zdal_p dlA_Group_gather_17 (i := 2) rfl) ?_
  refine zw_istore_n (pc := 3) (i := 2) (L2 := [some (.ref (d_ + 1)), some (.int (Int32.ofInt 0)), some (.int (Int32.ofInt 0)), none, none]) rfl (by decide) rfl (zdal_p dlA_Group_gather_17 (i := 3) rfl) ?_
  have lp_4 : ∀ (n : Nat) (u1_ : Int) (hu1_a : -2147483648 ≤ u1_) (hu1_b : u1_ < 2147483648) (u2_ : Int) (hu2_a : -2147483648 ≤ u2_) (hu2_b : u2_ < 2147483648) (i3_ : 0 ≤ u2_) (i4_ : u2_ ≤ P_) (i5_ : u1_ = (zdc (fun p_ => p_) (u2_).toNat : Nat)), (P_ - u2_).toNat < n → zW l m_Group_gather (zn Mz + 0, zw Mz + 0) Mz 4 [some (.ref (d_ + 1)), some (.int (Int32.ofInt u1_)), some (.int (Int32.ofInt u2_)), none, none] [] (zqcI d_ [] [] [(1, 7)] [5] Mz (fun v N => zMvK mv_ P_ d_ N ∧ (((v = 1 ∧ zGg mv_ P_ d_ N) ∨ (v = 0 ∧ ¬ gFin mv_))))) := by
    intro n
    induction n with
    | zero =>
      intro u1_ hu1_a hu1_b u2_ hu2_a hu2_b i3_ i4_ i5_ h0
      exact absurd h0 (Nat.not_lt_zero _)
    | succ n ih_4 =>
      intro u1_ hu1_a hu1_b u2_ hu2_a hu2_b i3_ i4_ i5_ hlt_4
      have hdl_ := (show u1_ = (zdc (fun p_ => p_) (u2_).toNat : Nat) by assumption)
      refine zw_iload_n (pc := 4) (n := 2) (x := Int32.ofInt u2_) rfl (zdal_p dlA_Group_gather_17 (i := 4) rfl) ?_
      refine zw_aload_n (pc := 5) (n := 0) (x := (d_ + 1)) rfl (zdal_p dlA_Group_gather_17 (i := 5) rfl) ?_
      refine zk_getI (pc := 6) f_Group_32 rfl ((hf.w hW).kr (o := 1) (by decide)) (zdal_p dlA_Group_gather_17 (i := 6) rfl) ?_
      refine zr_icmp_ge (pc := 9) (tgt := 26) ⟨hu2_a, hu2_b⟩ ⟨(ze_r Mz (d_ + 1) 5).1, (ze_r Mz (d_ + 1) 5).2⟩ (by decide) (zdal_p dlA_Group_gather_17 (i := 7) rfl) (fun hc_9 => ?_) (fun hc_9 => ?_)
      · skip
        refine zw_aload_n (pc := 26) (n := 0) (x := (d_ + 1)) rfl (zdal_p dlA_Group_gather_17 (i := 16) rfl) ?_
        refine zw_getF (pc := 27) f_Group_20 rfl ((hf.w hW).kr (o := 1) (by decide)) ((hf.w hW).lr (o := 1) (s := 1) (r := 4) (by decide)) (zdal_p dlA_Group_gather_17 (i := 17) rfl) ?_
        refine zw_iconst (pc := 30) (v := Int32.ofInt 0) (by decide) (zdal_p dlA_Group_gather_17 (i := 18) rfl) ?_
        refine zw_iload_n (pc := 31) (n := 1) (x := Int32.ofInt u1_) rfl (zdal_p dlA_Group_gather_17 (i := 19) rfl) ?_
        refine zk_st hf.x (pc := 32) (o := 5) (by decide) l_Group_46 ((hf.w hW).kr (o := 4) (by decide)) ((hf.w hW).lr (o := 4) (s := 0) (r := 5) (by decide)) ((hf.w hW).rr (o := 5) (t := 1) (n := 24) (by decide)) (by decide) (by omega) (by omega) (by decide) (Nat.le_of_ble_eq_true rfl) (zdal_p dlA_Group_gather_17 (i := 20) rfl) (fun N6_ hN6_ hsN6_ => ?_)
        have hf_N6_ : zFc d_ [] [] [(1, 7)] [5] Mz N6_ := hf.tr hsN6_ (by decide) (by decide) (by decide) (by decide)
        have eD1_5_N6_ : ze N6_ (d_ + 1) 5 = ze Mz (d_ + 1) 5 := hsN6_.e (by decide)
        have eD1_6_N6_ : ze N6_ (d_ + 1) 6 = ze Mz (d_ + 1) 6 := hsN6_.e (by decide)
        have eD1_7_N6_ : ze N6_ (d_ + 1) 7 = ze Mz (d_ + 1) 7 := hsN6_.e (by decide)
        have c7_ : zMvK mv_ P_ d_ N6_ := zMvK.fr (hf.w hW) hsN6_ p0_ (by decide)
        have hst_ := zs_get hN6_ ⟨by omega, by omega⟩
        refine zw_aload_n (pc := 35) (n := 0) (x := (d_ + 1)) rfl (zdal_p dlA_Group_gather_17 (i := 21) rfl) ?_
        refine zw_iconst (pc := 36) (v := Int32.ofInt 1) (by decide) (zdal_p dlA_Group_gather_17 (i := 22) rfl) ?_
        refine zk_putR (pc := 37) (o := 1) (by decide) f_Group_39 rfl rfl ((hf_N6_.w hW).kr (o := 1) (by decide)) ⟨by omega, by omega⟩ rfl rfl (zdal_p dlA_Group_gather_17 (i := 23) rfl) (fun N8_ hsN8_ hvN8_ => ?_)
        have hf_N8_ : zFc d_ [] [] [(1, 7)] [5] Mz N8_ := hf_N6_.tr hsN8_ (by decide) (by decide) (by decide) (by decide)
        have eD1_5_N8_ : ze N8_ (d_ + 1) 5 = ze N6_ (d_ + 1) 5 := hsN8_.e (by decide)
        have eD1_6_N8_ : ze N8_ (d_ + 1) 6 = ze N6_ (d_ + 1) 6 := hsN8_.e (by decide)
        have rD1_7_N8_ := ze_r N8_ (d_ + 1) 7
        have c9_ : zMvK mv_ P_ d_ N8_ := zMvK.fr (hf_N6_.w hW) hsN8_ c7_ (by decide)
        have hst2_ := (hsN8_.r (by decide) 0).trans hst_
        have hgi0_ : zGI mv_ P_ d_ N8_ 0 0 := zGI_0 (by omega) (by omega) (hst2_.trans (by rw [hdl_, show (u2_).toNat = P_ by omega]))
        refine zw_iconst (pc := 40) (v := Int32.ofInt 0) (by decide) (zdal_p dlA_Group_gather_18 (i := 0) rfl) ?_
        refine zw_istore_n (pc := 41) (i := 2) (L2 := [some (.ref (d_ + 1)), some (.int (Int32.ofInt u1_)), some (.int (Int32.ofInt 0)), none, none]) rfl (by decide) rfl (zdal_p dlA_Group_gather_18 (i := 1) rfl) ?_
        have lp_42 : ∀ (n : Nat) (u10_ : Int) (hu10_a : -2147483648 ≤ u10_) (hu10_b : u10_ < 2147483648) (N11_ : zMem) (hs12_ : zFc d_ [] [] [(1, 7)] [5] N8_ N11_) (i13_ : 0 ≤ u10_) (i14_ : zGI mv_ P_ d_ N11_ u10_ 0) (i15_ : zMvK mv_ P_ d_ N11_), (25 - u10_).toNat < n → zW l m_Group_gather (zn Mz + 0, zw Mz + 0) N11_ 42 [some (.ref (d_ + 1)), some (.int (Int32.ofInt u1_)), some (.int (Int32.ofInt u10_)), none, none] [] (zqcI d_ [] [] [(1, 7)] [5] Mz (fun v N => zMvK mv_ P_ d_ N ∧ (((v = 1 ∧ zGg mv_ P_ d_ N) ∨ (v = 0 ∧ ¬ gFin mv_))))) := by
          intro n
          induction n with
          | zero =>
            intro u10_ hu10_a hu10_b N11_ hs12_ i13_ i14_ i15_ h0
            exact absurd h0 (Nat.not_lt_zero _)
          | succ n ih_42 =>
            intro u10_ hu10_a hu10_b N11_ hs12_ i13_ i14_ i15_ hlt_42
            have hf_N11_ : zFc d_ [] [] [(1, 7)] [5] Mz N11_ := hf_N8_.tr hs12_ (by decide) (by decide) (by decide) (by decide)
            have eD1_5_N11_ : ze N11_ (d_ + 1) 5 = ze N8_ (d_ + 1) 5 := hs12_.e (by decide)
            have eD1_6_N11_ : ze N11_ (d_ + 1) 6 = ze N8_ (d_ + 1) 6 := hs12_.e (by decide)
            have rD1_7_N11_ := ze_r N11_ (d_ + 1) 7
            have hgi_ := (show zGI mv_ P_ d_ N11_ u10_ 0 by assumption)
            have hmv_ := i15_
            have hsz_ := hgi_.2.1.1
            refine zw_iload_n (pc := 42) (n := 2) (x := Int32.ofInt u10_) rfl (zdal_p dlA_Group_gather_18 (i := 2) rfl) ?_
            refine zw_aload_n (pc := 43) (n := 0) (x := (d_ + 1)) rfl (zdal_p dlA_Group_gather_18 (i := 3) rfl) ?_
            refine zk_getI (pc := 44) f_Group_39 rfl ((hf_N11_.w hW).kr (o := 1) (by decide)) (zdal_p dlA_Group_gather_18 (i := 4) rfl) ?_
            refine zr_icmp_ge (pc := 47) (tgt := 147) ⟨hu10_a, hu10_b⟩ ⟨(ze_r N11_ (d_ + 1) 7).1, (ze_r N11_ (d_ + 1) 7).2⟩ (by decide) (zdal_p dlA_Group_gather_18 (i := 5) rfl) (fun hc_47 => ?_) (fun hc_47 => ?_)
            · skip
              refine zw_iconst (pc := 147) (v := Int32.ofInt 1) (by decide) (zdal_p dlA_Group_gather_20 (i := 6) rfl) ?_
              exact zk_iret (pc := 148) (ty := .boolean) rfl (z_narB (by omega)) ⟨by omega, by omega⟩ hf_N11_ ⟨i15_, (show ((1 = 1 ∧ zGg mv_ P_ d_ N11_) ∨ (1 = 0 ∧ ¬ gFin mv_)) from Or.inl (⟨(show 1 = 1 by first | rfl | exact zGI_e hgi_ (by omega)), (show zGg mv_ P_ d_ N11_ by first | rfl | exact zGI_e hgi_ (by omega))⟩))⟩ (zdal_p dlA_Group_gather_20 (i := 7) rfl)
            · skip
              refine zw_iload_n (pc := 50) (n := 2) (x := Int32.ofInt u10_) rfl (zdal_p dlA_Group_gather_18 (i := 6) rfl) ?_
              refine zw_bipush (pc := 51) (v := Int32.ofInt 24) (by decide) (zdal_p dlA_Group_gather_18 (i := 7) rfl) ?_
              refine zr_icmp_ge (pc := 53) (tgt := 147) ⟨hu10_a, hu10_b⟩ ⟨(by decide), (by decide)⟩ (by decide) (zdal_p dlA_Group_gather_18 (i := 8) rfl) (fun hc_53 => ?_) (fun hc_53 => ?_)
              · skip
                refine zw_iconst (pc := 147) (v := Int32.ofInt 1) (by decide) (zdal_p dlA_Group_gather_20 (i := 6) rfl) ?_
                exact zk_iret (pc := 148) (ty := .boolean) rfl (z_narB (by omega)) ⟨by omega, by omega⟩ hf_N11_ ⟨i15_, (show ((1 = 1 ∧ zGg mv_ P_ d_ N11_) ∨ (1 = 0 ∧ ¬ gFin mv_)) from Or.inl (⟨(show 1 = 1 by first | rfl | exact zGI_e hgi_ (by omega)), (show zGg mv_ P_ d_ N11_ by first | rfl | exact zGI_e hgi_ (by omega))⟩))⟩ (zdal_p dlA_Group_gather_20 (i := 7) rfl)
              · skip
                refine zw_iconst (pc := 56) (v := Int32.ofInt 0) (by decide) (zdal_p dlA_Group_gather_18 (i := 9) rfl) ?_
                refine zw_istore_n (pc := 57) (i := 3) (L2 := [some (.ref (d_ + 1)), some (.int (Int32.ofInt u1_)), some (.int (Int32.ofInt u10_)), some (.int (Int32.ofInt 0)), none]) rfl (by decide) rfl (zdal_p dlA_Group_gather_18 (i := 10) rfl) ?_
                have lp_58 : ∀ (n : Nat) (u16_ : Int) (hu16_a : -2147483648 ≤ u16_) (hu16_b : u16_ < 2147483648) (N17_ : zMem) (hs18_ : zFc d_ [] [] [(1, 7)] [5] N11_ N17_) (i19_ : 0 ≤ u16_) (i20_ : u10_ < ze N17_ (d_ + 1) 7) (i21_ : zGI mv_ P_ d_ N17_ u10_ u16_) (i22_ : zMvK mv_ P_ d_ N17_), (5 - u16_).toNat < n → zW l m_Group_gather (zn Mz + 0, zw Mz + 0) N17_ 58 [some (.ref (d_ + 1)), some (.int (Int32.ofInt u1_)), some (.int (Int32.ofInt u10_)), some (.int (Int32.ofInt u16_)), none] [] (zqcI d_ [] [] [(1, 7)] [5] Mz (fun v N => zMvK mv_ P_ d_ N ∧ (((v = 1 ∧ zGg mv_ P_ d_ N) ∨ (v = 0 ∧ ¬ gFin mv_))))) := by
                  intro n
                  induction n with
                  | zero =>
                    intro u16_ hu16_a hu16_b N17_ hs18_ i19_ i20_ i21_ i22_ h0
                    exact absurd h0 (Nat.not_lt_zero _)
                  | succ n ih_58 =>
                    intro u16_ hu16_a hu16_b N17_ hs18_ i19_ i20_ i21_ i22_ hlt_58
                    have hf_N17_ : zFc d_ [] [] [(1, 7)] [5] Mz N17_ := hf_N11_.tr hs18_ (by decide) (by decide) (by decide) (by decide)
                    have hb0_N17_ : zFc d_ [] [] [(1, 7)] [5] N8_ N17_ := hs12_.tr hs18_ (by decide) (by decide) (by decide) (by decide)
                    have eD1_5_N17_ : ze N17_ (d_ + 1) 5 = ze N11_ (d_ + 1) 5 := hs18_.e (by decide)
                    have eD1_6_N17_ : ze N17_ (d_ + 1) 6 = ze N11_ (d_ + 1) 6 := hs18_.e (by decide)
                    have rD1_7_N17_ := ze_r N17_ (d_ + 1) 7
                    have hgj_ := (show zGI mv_ P_ d_ N17_ u10_ u16_ by assumption)
                    have hmw_ := i22_
                    have hsy_ := hgj_.2.1.1
                    have hml_ := hmw_.2.1
                    refine zw_iload_n (pc := 58) (n := 3) (x := Int32.ofInt u16_) rfl (zdal_p dlA_Group_gather_18 (i := 11) rfl) ?_
                    refine zw_aload_n (pc := 59) (n := 0) (x := (d_ + 1)) rfl (zdal_p dlA_Group_gather_18 (i := 12) rfl) ?_
                    refine zk_getI (pc := 60) f_Group_36 rfl ((hf_N17_.w hW).kr (o := 1) (by decide)) (zdal_p dlA_Group_gather_18 (i := 13) rfl) ?_
                    rw [hf_N17_.e (by decide)]
                    refine zr_icmp_ge (pc := 63) (tgt := 141) ⟨hu16_a, hu16_b⟩ ⟨(ze_r Mz (d_ + 1) 6).1, (ze_r Mz (d_ + 1) 6).2⟩ (by decide) (zdal_p dlA_Group_gather_18 (i := 14) rfl) (fun hc_63 => ?_) (fun hc_63 => ?_)
                    · skip
                      refine zr_iinc (pc := 141) (i := 2) (a := u10_) (n := 1) (L2 := [some (.ref (d_ + 1)), some (.int (Int32.ofInt u1_)), some (.int (Int32.ofInt (u10_ + 1))), some (.int (Int32.ofInt u16_)), none]) rfl (by decide) rfl (zdal_p dlA_Group_gather_20 (i := 4) rfl) ?_
                      refine zw_goto (pc := 144) (tgt := 42) (by decide) (zdal_p dlA_Group_gather_20 (i := 5) rfl) ?_
                      refine zW_le [some (.ref (d_ + 1)), some (.int (Int32.ofInt u1_)), some (.int (Int32.ofInt (u10_ + 1))), none, none] (⟨rfl, rfl, rfl, trivial⟩) ?_
                      exact ih_42 (u10_ + 1) (by omega) (by omega) N17_ hb0_N17_ (show 0 ≤ (u10_ + 1) by first | assumption | omega) (show zGI mv_ P_ d_ N17_ (u10_ + 1) 0 by exact zGI_n hgj_ (by omega)) i22_ (by omega)
                    · skip
                      refine zw_aload_n (pc := 66) (n := 0) (x := (d_ + 1)) rfl (zdal_p dlA_Group_gather_18 (i := 15) rfl) ?_
                      refine zw_aload_n (pc := 67) (n := 0) (x := (d_ + 1)) rfl (zdal_p dlA_Group_gather_18 (i := 16) rfl) ?_
                      refine zw_getF (pc := 68) f_Group_20 rfl ((hf_N17_.w hW).kr (o := 1) (by decide)) ((hf_N17_.w hW).lr (o := 1) (s := 1) (r := 4) (by decide)) (zdal_p dlA_Group_gather_18 (i := 17) rfl) ?_
                      refine zw_iload_n (pc := 71) (n := 2) (x := Int32.ofInt u10_) rfl (zdal_p dlA_Group_gather_18 (i := 18) rfl) ?_
                      refine zk_at hf_N17_.x (pc := 72) l_Group_54 ((hf_N17_.w hW).kr (o := 4) (by decide)) ((hf_N17_.w hW).lr (o := 4) (s := 0) (r := 5) (by decide)) ((hf_N17_.w hW).rr (o := 5) (t := 1) (n := 24) (by decide)) (by decide) (by omega) (by omega) (by decide) (Nat.le_of_ble_eq_true rfl) (zdal_p dlA_Group_gather_18 (i := 19) rfl) (fun v23_ hv23_ hv23_a hv23_b => ?_)
                      have hv1_ := hv23_
                      refine zw_aload_n (pc := 75) (n := 0) (x := (d_ + 1)) rfl (zdal_p dlA_Group_gather_18 (i := 20) rfl) ?_
                      refine zw_getF (pc := 76) f_Group_14 rfl ((hf_N17_.w hW).kr (o := 1) (by decide)) ((hf_N17_.w hW).lr (o := 1) (s := 0) (r := 2) (by decide)) (zdal_p dlA_Group_gather_18 (i := 21) rfl) ?_
                      refine zw_iload_n (pc := 79) (n := 3) (x := Int32.ofInt u16_) rfl (zdal_p dlA_Group_gather_18 (i := 22) rfl) ?_
                      refine zk_at hf_N17_.x (pc := 80) l_Group_54 ((hf_N17_.w hW).kr (o := 2) (by decide)) ((hf_N17_.w hW).lr (o := 2) (s := 0) (r := 3) (by decide)) ((hf_N17_.w hW).rr (o := 3) (t := 1) (n := 4) (by decide)) (by decide) (by omega) (by omega) (by decide) (Nat.le_of_ble_eq_true rfl) (zdal_p dlA_Group_gather_18 (i := 23) rfl) (fun v24_ hv24_ hv24_a hv24_b => ?_)
                      rw [hf_N17_.r (by decide)] at hv24_
                      have hv2_ : v24_ = ze N17_ (d_ + 3) (u16_).toNat := hv24_.trans (hf_N17_.r (by decide) _).symm
                      have hb4_ := zGI_b hmw_ hgj_ (by omega) (by omega)
                      refine zk_callV hf_N17_.x (pc := 83) [.int (Int32.ofInt v23_), .int (Int32.ofInt v24_)] [] l_Group_58 (u_Group_behind l d_ N17_ (hf_N17_.w hW) v23_ hv23_a hv23_b v24_ hv24_a hv24_b P_ (show ze N17_ (d_ + 1) 5 = P_ by first | assumption | omega) (show P_ ≤ 6 by first | assumption | omega) (show zkv P_ v23_ by rw [hv1_]; exact hb4_.1) (show zkv P_ v24_ by rw [hv2_]; exact hb4_.2.1)) rfl rfl ((hf_N17_.w hW).kr (o := 1) (by decide)) (by decide) (by decide) (Nat.le_of_ble_eq_true rfl) (zdal_p dlA_Group_gather_19 (i := 0) rfl) ?_
                      rintro _ N25_ ⟨v26_, rfl, ⟨hv26_a, hv26_b⟩, hsN25_, hp0_N25_⟩
                      obtain rfl := hsN25_.eq.symm
                      replace hp0_N25_ : v26_ = (zbe P_ v23_ v24_ : Nat) := hp0_N25_
                      show zW l m_Group_gather (zn Mz + 0, zw Mz + 0) N17_ 86 [some (.ref (d_ + 1)), some (.int (Int32.ofInt u1_)), some (.int (Int32.ofInt u10_)), some (.int (Int32.ofInt u16_)), none] [.int (Int32.ofInt v26_)] _
                      have hx_ := hp0_N25_
                      rw [hv1_, hv2_] at hx_
                      refine zw_istore (pc := 86) (i := 4) (L2 := [some (.ref (d_ + 1)), some (.int (Int32.ofInt u1_)), some (.int (Int32.ofInt u10_)), some (.int (Int32.ofInt u16_)), some (.int (Int32.ofInt v26_))]) (by decide) rfl (zdal_p dlA_Group_gather_19 (i := 1) rfl) ?_
                      refine zw_aload_n (pc := 88) (n := 0) (x := (d_ + 1)) rfl (zdal_p dlA_Group_gather_19 (i := 2) rfl) ?_
                      refine zw_iload (pc := 89) (i := 4) (x := Int32.ofInt v26_) rfl (zdal_p dlA_Group_gather_19 (i := 3) rfl) ?_
                      refine zk_callV hf_N17_.x (pc := 91) [.int (Int32.ofInt v26_)] [] l_Group_61 (u_Group_indexOf l d_ N17_ (hf_N17_.w hW) v26_ hv26_a hv26_b (show 0 ≤ ze N17_ (d_ + 1) 7 by first | assumption | omega) (show ze N17_ (d_ + 1) 7 ≤ 24 by first | assumption | omega)) rfl rfl ((hf_N17_.w hW).kr (o := 1) (by decide)) (by decide) (by decide) (Nat.le_of_ble_eq_true rfl) (zdal_p dlA_Group_gather_19 (i := 4) rfl) ?_
                      rintro _ N27_ ⟨v28_, rfl, ⟨hv28_a, hv28_b⟩, hsN27_, hp0_N27_⟩
                      obtain rfl := hsN27_.eq.symm
                      replace hp0_N27_ : ((v28_ = -1 ∧ (∀ i : Nat, (i : Int) < ze N17_ (d_ + 1) 7 → ze N17_ (d_ + 5) i ≠ v26_)) ∨ (0 ≤ v28_ ∧ v28_ < ze N17_ (d_ + 1) 7 ∧ ze N17_ (d_ + 5) (v28_).toNat = v26_)) := hp0_N27_
                      rcases hp0_N27_ with ⟨rfl, ha91_0_hp0_N27_⟩ | ⟨ha91_0_hp0_N27_, ha91_1_hp0_N27_, ha91_2_hp0_N27_⟩
                      · skip
                        have hno_ := ha91_0_hp0_N27_
                        show zW l m_Group_gather (zn Mz + 0, zw Mz + 0) N17_ 94 [some (.ref (d_ + 1)), some (.int (Int32.ofInt u1_)), some (.int (Int32.ofInt u10_)), some (.int (Int32.ofInt u16_)), some (.int (Int32.ofInt v26_))] [.int (Int32.ofInt ((-1)))] _
                        refine zw_iconst (pc := 94) (v := Int32.ofInt (-1)) (by decide) (zdal_p dlA_Group_gather_19 (i := 5) rfl) ?_
                        refine zr_icmp_eq (pc := 95) (tgt := 101) ⟨(by decide), (by decide)⟩ ⟨(by decide), (by decide)⟩ (by decide) (zdal_p dlA_Group_gather_19 (i := 6) rfl) (fun hc_95 => ?_) (fun hc_95 => ?_)
                        · skip
                          refine zw_aload_n (pc := 101) (n := 0) (x := (d_ + 1)) rfl (zdal_p dlA_Group_gather_19 (i := 8) rfl) ?_
                          refine zk_getI (pc := 102) f_Group_39 rfl ((hf_N17_.w hW).kr (o := 1) (by decide)) (zdal_p dlA_Group_gather_19 (i := 9) rfl) ?_
                          refine zw_bipush (pc := 105) (v := Int32.ofInt 24) (by decide) (zdal_p dlA_Group_gather_19 (i := 10) rfl) ?_
                          refine zr_icmp_lt (pc := 107) (tgt := 112) ⟨(ze_r N17_ (d_ + 1) 7).1, (ze_r N17_ (d_ + 1) 7).2⟩ ⟨(by decide), (by decide)⟩ (by decide) (zdal_p dlA_Group_gather_19 (i := 11) rfl) (fun hc_107 => ?_) (fun hc_107 => ?_)
                          · skip
                            refine zw_aload_n (pc := 112) (n := 0) (x := (d_ + 1)) rfl (zdal_p dlA_Group_gather_19 (i := 14) rfl) ?_
                            refine zw_getF (pc := 113) f_Group_20 rfl ((hf_N17_.w hW).kr (o := 1) (by decide)) ((hf_N17_.w hW).lr (o := 1) (s := 1) (r := 4) (by decide)) (zdal_p dlA_Group_gather_19 (i := 15) rfl) ?_
                            refine zw_aload_n (pc := 116) (n := 0) (x := (d_ + 1)) rfl (zdal_p dlA_Group_gather_19 (i := 16) rfl) ?_
                            refine zk_getI (pc := 117) f_Group_39 rfl ((hf_N17_.w hW).kr (o := 1) (by decide)) (zdal_p dlA_Group_gather_19 (i := 17) rfl) ?_
                            refine zw_iload (pc := 120) (i := 4) (x := Int32.ofInt v26_) rfl (zdal_p dlA_Group_gather_19 (i := 18) rfl) ?_
                            refine zk_st hf_N17_.x (pc := 122) (o := 5) (by decide) l_Group_46 ((hf_N17_.w hW).kr (o := 4) (by decide)) ((hf_N17_.w hW).lr (o := 4) (s := 0) (r := 5) (by decide)) ((hf_N17_.w hW).rr (o := 5) (t := 1) (n := 24) (by decide)) (by decide) (by omega) (by omega) (by decide) (Nat.le_of_ble_eq_true rfl) (zdal_p dlA_Group_gather_19 (i := 19) rfl) (fun N29_ hN29_ hsN29_ => ?_)
                            have hf_N29_ : zFc d_ [] [] [(1, 7)] [5] Mz N29_ := hf_N17_.tr hsN29_ (by decide) (by decide) (by decide) (by decide)
                            have hb0_N29_ : zFc d_ [] [] [(1, 7)] [5] N8_ N29_ := hb0_N17_.tr hsN29_ (by decide) (by decide) (by decide) (by decide)
                            have hb1_N29_ : zFc d_ [] [] [(1, 7)] [5] N11_ N29_ := hs18_.tr hsN29_ (by decide) (by decide) (by decide) (by decide)
                            have eD1_5_N29_ : ze N29_ (d_ + 1) 5 = ze N17_ (d_ + 1) 5 := hsN29_.e (by decide)
                            have eD1_6_N29_ : ze N29_ (d_ + 1) 6 = ze N17_ (d_ + 1) 6 := hsN29_.e (by decide)
                            have eD1_7_N29_ : ze N29_ (d_ + 1) 7 = ze N17_ (d_ + 1) 7 := hsN29_.e (by decide)
                            have c30_ : zMvK mv_ P_ d_ N29_ := zMvK.fr (hf_N17_.w hW) hsN29_ i22_ (by decide)
                            have hst_ := zs_get hN29_ ⟨by omega, by omega⟩
                            have hot_ := fun (i : Nat) (hi : (i : Int) < ze N17_ (d_ + 1) 7) => zs_oth hN29_ (j := i) (by omega)
                            refine zw_aload_n (pc := 125) (n := 0) (x := (d_ + 1)) rfl (zdal_p dlA_Group_gather_19 (i := 20) rfl) ?_
                            refine zw_dup (pc := 126) rfl (zdal_p dlA_Group_gather_19 (i := 21) rfl) ?_
                            refine zk_getI (pc := 127) f_Group_39 rfl ((hf_N29_.w hW).kr (o := 1) (by decide)) (zdal_p dlA_Group_gather_19 (i := 22) rfl) ?_
                            refine zw_iconst (pc := 130) (v := Int32.ofInt 1) (by decide) (zdal_p dlA_Group_gather_19 (i := 23) rfl) ?_
                            refine zr_iadd (pc := 131) (zdal_p dlA_Group_gather_20 (i := 0) rfl) ?_
                            refine zk_putR (pc := 132) (o := 1) (by decide) f_Group_39 rfl rfl ((hf_N29_.w hW).kr (o := 1) (by decide)) ⟨by omega, by omega⟩ rfl rfl (zdal_p dlA_Group_gather_20 (i := 1) rfl) (fun N31_ hsN31_ hvN31_ => ?_)
                            have hf_N31_ : zFc d_ [] [] [(1, 7)] [5] Mz N31_ := hf_N29_.tr hsN31_ (by decide) (by decide) (by decide) (by decide)
                            have hb0_N31_ : zFc d_ [] [] [(1, 7)] [5] N8_ N31_ := hb0_N29_.tr hsN31_ (by decide) (by decide) (by decide) (by decide)
                            have hb1_N31_ : zFc d_ [] [] [(1, 7)] [5] N11_ N31_ := hb1_N29_.tr hsN31_ (by decide) (by decide) (by decide) (by decide)
                            have eD1_5_N31_ : ze N31_ (d_ + 1) 5 = ze N29_ (d_ + 1) 5 := hsN31_.e (by decide)
                            have eD1_6_N31_ : ze N31_ (d_ + 1) 6 = ze N29_ (d_ + 1) 6 := hsN31_.e (by decide)
                            have rD1_7_N31_ := ze_r N31_ (d_ + 1) 7
                            have c32_ : zMvK mv_ P_ d_ N31_ := zMvK.fr (hf_N29_.w hW) hsN31_ c30_ (by decide)
                            have hga_ := zGI_a (Nz := N31_) hmw_ hgj_ (by omega) (by omega) hx_ hno_ (by omega) (by omega) (fun i hi => (hsN31_.r (by decide) i).trans (hot_ i hi)) ((hsN31_.r (by decide) _).trans hst_)
                            refine zr_iinc (pc := 135) (i := 3) (a := u16_) (n := 1) (L2 := [some (.ref (d_ + 1)), some (.int (Int32.ofInt u1_)), some (.int (Int32.ofInt u10_)), some (.int (Int32.ofInt (u16_ + 1))), some (.int (Int32.ofInt v26_))]) rfl (by decide) rfl (zdal_p dlA_Group_gather_20 (i := 2) rfl) ?_
                            refine zw_goto (pc := 138) (tgt := 58) (by decide) (zdal_p dlA_Group_gather_20 (i := 3) rfl) ?_
                            refine zW_le [some (.ref (d_ + 1)), some (.int (Int32.ofInt u1_)), some (.int (Int32.ofInt u10_)), some (.int (Int32.ofInt (u16_ + 1))), none] (⟨rfl, rfl, rfl, rfl, trivial⟩) ?_
                            exact ih_58 (u16_ + 1) (by omega) (by omega) N31_ hb1_N31_ (show 0 ≤ (u16_ + 1) by first | assumption | omega) (show u10_ < ze N31_ (d_ + 1) 7 by first | assumption | omega) (show zGI mv_ P_ d_ N31_ u10_ (u16_ + 1) by first | exact hgf_ | exact hga_) c32_ (by omega)
                          · skip
                            refine zw_iconst (pc := 110) (v := Int32.ofInt 0) (by decide) (zdal_p dlA_Group_gather_19 (i := 12) rfl) ?_
                            exact zk_iret (pc := 111) (ty := .boolean) rfl (z_narB (by omega)) ⟨by omega, by omega⟩ hf_N17_ ⟨i22_, (show ((0 = 1 ∧ zGg mv_ P_ d_ N17_) ∨ (0 = 0 ∧ ¬ gFin mv_)) from Or.inr (⟨(show 0 = 0 by first | rfl | exact zGI_24 hmw_ hgj_ (by omega) (by omega) hx_ hno_ (by omega)), (show ¬ gFin mv_ by first | rfl | exact zGI_24 hmw_ hgj_ (by omega) (by omega) hx_ hno_ (by omega))⟩))⟩ (zdal_p dlA_Group_gather_19 (i := 13) rfl)
                        · skip
                          exact absurd hc_95 (by decide)
                      · skip
                        have hv0_ := ha91_0_hp0_N27_
                        have hgf_ := zGI_f hmw_ hgj_ (by omega) (by omega) ha91_0_hp0_N27_ ha91_1_hp0_N27_ hx_ ha91_2_hp0_N27_
                        show zW l m_Group_gather (zn Mz + 0, zw Mz + 0) N17_ 94 [some (.ref (d_ + 1)), some (.int (Int32.ofInt u1_)), some (.int (Int32.ofInt u10_)), some (.int (Int32.ofInt u16_)), some (.int (Int32.ofInt v26_))] [.int (Int32.ofInt v28_)] _
                        refine zw_iconst (pc := 94) (v := Int32.ofInt (-1)) (by decide) (zdal_p dlA_Group_gather_19 (i := 5) rfl) ?_
                        refine zr_icmp_eq (pc := 95) (tgt := 101) ⟨hv28_a, hv28_b⟩ ⟨(by decide), (by decide)⟩ (by decide) (zdal_p dlA_Group_gather_19 (i := 6) rfl) (fun hc_95 => ?_) (fun hc_95 => ?_)
                        · skip
                          exfalso; omega
                        · skip
                          refine zw_goto (pc := 98) (tgt := 135) (by decide) (zdal_p dlA_Group_gather_19 (i := 7) rfl) ?_
                          refine zr_iinc (pc := 135) (i := 3) (a := u16_) (n := 1) (L2 := [some (.ref (d_ + 1)), some (.int (Int32.ofInt u1_)), some (.int (Int32.ofInt u10_)), some (.int (Int32.ofInt (u16_ + 1))), some (.int (Int32.ofInt v26_))]) rfl (by decide) rfl (zdal_p dlA_Group_gather_20 (i := 2) rfl) ?_
                          refine zw_goto (pc := 138) (tgt := 58) (by decide) (zdal_p dlA_Group_gather_20 (i := 3) rfl) ?_
                          refine zW_le [some (.ref (d_ + 1)), some (.int (Int32.ofInt u1_)), some (.int (Int32.ofInt u10_)), some (.int (Int32.ofInt (u16_ + 1))), none] (⟨rfl, rfl, rfl, rfl, trivial⟩) ?_
                          exact ih_58 (u16_ + 1) (by omega) (by omega) N17_ hs18_ (show 0 ≤ (u16_ + 1) by first | assumption | omega) (show u10_ < ze N17_ (d_ + 1) 7 by first | assumption | omega) (show zGI mv_ P_ d_ N17_ u10_ (u16_ + 1) by first | exact hgf_ | exact hga_) i22_ (by omega)
                exact lp_58 _ 0 (by decide) (by decide) N11_ zFc.rf (show 0 ≤ (0 : Int) by first | assumption | omega) (show u10_ < ze N11_ (d_ + 1) 7 by first | assumption | omega) (show zGI mv_ P_ d_ N11_ u10_ (0 : Int) by exact hgi_) i15_ (Nat.lt_succ_self _)
        exact lp_42 _ 0 (by decide) (by decide) N8_ zFc.rf (show 0 ≤ (0 : Int) by first | assumption | omega) (show zGI mv_ P_ d_ N8_ (0 : Int) 0 by exact hgi0_) c9_ (Nat.lt_succ_self _)
      · skip
        refine zw_iload_n (pc := 12) (n := 1) (x := Int32.ofInt u1_) rfl (zdal_p dlA_Group_gather_17 (i := 8) rfl) ?_
        refine zw_iload_n (pc := 13) (n := 2) (x := Int32.ofInt u2_) rfl (zdal_p dlA_Group_gather_17 (i := 9) rfl) ?_
        refine zw_iload_n (pc := 14) (n := 2) (x := Int32.ofInt u2_) rfl (zdal_p dlA_Group_gather_17 (i := 10) rfl) ?_
        refine zr_callS hf.x (pc := 15) [.int (Int32.ofInt u2_), .int (Int32.ofInt u2_)] [.int (Int32.ofInt u1_)] l_Group_50 (u_T_codeOf l d_ Mz (hf.w hW) u2_ hu2_a hu2_b u2_ hu2_a hu2_b (show 0 ≤ u2_ by first | assumption | omega) (show u2_ ≤ 7 by first | assumption | omega) (show 0 ≤ u2_ by first | assumption | omega) (show u2_ ≤ 5 by first | assumption | omega)) rfl rfl (by decide) (Nat.le_of_ble_eq_true rfl) (zdal_p dlA_Group_gather_17 (i := 11) rfl) ?_
        rintro _ N33_ ⟨v34_, rfl, ⟨hv34_a, hv34_b⟩, hsN33_, hp0_N33_⟩
        obtain rfl := hsN33_.eq.symm
        replace hp0_N33_ : v34_ = ((u2_).toNat * zw5 (u2_).toNat : Nat) := hp0_N33_
        show zW l m_Group_gather (zn Mz + 0, zw Mz + 0) Mz 18 [some (.ref (d_ + 1)), some (.int (Int32.ofInt u1_)), some (.int (Int32.ofInt u2_)), none, none] [.int (Int32.ofInt v34_), .int (Int32.ofInt u1_)] _
        have hq0_ := hp0_N33_
        obtain ⟨hz1_, hz2_, hz3_⟩ := zdc_z (f := fun p_ => p_) (k := u2_) (v := u1_) (t := v34_) (by omega) (by omega) (fun p hp hk => by show p < 8; omega) hdl_ hq0_
        refine zr_ior (pc := 18) (zdal_p dlA_Group_gather_17 (i := 12) rfl) ?_
        have hr35_ := zor_r u1_ v34_
        refine zw_istore_n (pc := 19) (i := 1) (L2 := [some (.ref (d_ + 1)), some (.int (Int32.ofInt (zor u1_ v34_))), some (.int (Int32.ofInt u2_)), none, none]) rfl (by decide) rfl (zdal_p dlA_Group_gather_17 (i := 13) rfl) ?_
        refine zr_iinc (pc := 20) (i := 2) (a := u2_) (n := 1) (L2 := [some (.ref (d_ + 1)), some (.int (Int32.ofInt (zor u1_ v34_))), some (.int (Int32.ofInt (u2_ + 1))), none, none]) rfl (by decide) rfl (zdal_p dlA_Group_gather_17 (i := 14) rfl) ?_
        refine zw_goto (pc := 23) (tgt := 4) (by decide) (zdal_p dlA_Group_gather_17 (i := 15) rfl) ?_
        exact ih_4 (zor u1_ v34_) (by omega) (by omega) (u2_ + 1) (by omega) (by omega) (show 0 ≤ (u2_ + 1) by first | assumption | omega) (show (u2_ + 1) ≤ P_ by first | assumption | omega) (show (zor u1_ v34_) = (zdc (fun p_ => p_) ((u2_ + 1)).toNat : Nat) by exact hz1_) (by omega)
  exact lp_4 _ 0 (by decide) (by decide) 0 (by decide) (by decide) (show 0 ≤ (0 : Int) by first | assumption | omega) (show (0 : Int) ≤ P_ by first | assumption | omega) (show (0 : Int) = (zdc (fun p_ => p_) ((0 : Int)).toNat : Nat) by rw [show (0 : Int).toNat = 0 from rfl, zdc_0]; rfl) (Nat.lt_succ_self _)
set_option maxHeartbeats 4000000 in
theorem u_Group_begin (l : Launch) (d_ : Nat) (Mz : zMem) (hW : zKW d_ Mz) (a0_ : Int) (ha0_a : -2147483648 ≤ a0_) (ha0_b : a0_ < 2147483648) (P_ : Nat) (p0_ : a0_ = P_) (p1_ : 1 ≤ P_) (p2_ : P_ ≤ 6) : zC l m_Group_begin 0 0 [.ref (d_ + 1), .int (Int32.ofInt a0_)] Mz (zqcV d_ [] [] [(1, 5), (1, 6), (1, 7)] [5] Mz (fun N => zMvK [] P_ d_ N ∧ zGg [] P_ d_ N)) := by
  refine zC_of (L0 := [some (.ref (d_ + 1)), some (.int (Int32.ofInt a0_))]) md_Group_begin (Nat.le_of_ble_eq_true rfl) rfl ?_ zQ0
  have hf : zFc d_ [] [] [(1, 5), (1, 6), (1, 7)] [5] Mz Mz := zFc.rf
  have r_D1_5 := ze_r Mz (d_ + 1) 5
  have r_D1_6 := ze_r Mz (d_ + 1) 6
  have r_D1_7 := ze_r Mz (d_ + 1) 7
  refine zw_aload_n (pc := 0) (n := 0) (x := (d_ + 1)) rfl (zdal_p dlA_Group_begin_16 (i := 0) rfl) ?_
  refine zw_iload_n (pc := 1) (n := 1) (x := Int32.ofInt a0_) rfl (zdal_p dlA_Group_begin_16 (i := 1) rfl) ?_
  refine zk_putR (pc := 2) (o := 1) (by decide) f_Group_32 rfl rfl ((hf.w hW).kr (o := 1) (by decide)) ⟨by (exact ha0_a), by (exact ha0_b)⟩ rfl rfl (zdal_p dlA_Group_begin_16 (i := 2) rfl) (fun N1_ hsN1_ hvN1_ => ?_)
  have hf_N1_ : zFc d_ [] [] [(1, 5), (1, 6), (1, 7)] [5] Mz N1_ := hf.tr hsN1_ (by decide) (by decide) (by decide) (by decide)
  have rD1_5_N1_ := ze_r N1_ (d_ + 1) 5
  have eD1_6_N1_ : ze N1_ (d_ + 1) 6 = ze Mz (d_ + 1) 6 := hsN1_.e (by decide)
  have eD1_7_N1_ : ze N1_ (d_ + 1) 7 = ze Mz (d_ + 1) 7 := hsN1_.e (by decide)
  refine zw_aload_n (pc := 5) (n := 0) (x := (d_ + 1)) rfl (zdal_p dlA_Group_begin_16 (i := 3) rfl) ?_
  refine zw_iconst (pc := 6) (v := Int32.ofInt 0) (by decide) (zdal_p dlA_Group_begin_16 (i := 4) rfl) ?_
  refine zk_putR (pc := 7) (o := 1) (by decide) f_Group_36 rfl rfl ((hf_N1_.w hW).kr (o := 1) (by decide)) ⟨by (decide), by (decide)⟩ rfl rfl (zdal_p dlA_Group_begin_16 (i := 5) rfl) (fun N2_ hsN2_ hvN2_ => ?_)
  have hf_N2_ : zFc d_ [] [] [(1, 5), (1, 6), (1, 7)] [5] Mz N2_ := hf_N1_.tr hsN2_ (by decide) (by decide) (by decide) (by decide)
  have eD1_5_N2_ : ze N2_ (d_ + 1) 5 = ze N1_ (d_ + 1) 5 := hsN2_.e (by decide)
  have rD1_6_N2_ := ze_r N2_ (d_ + 1) 6
  have eD1_7_N2_ : ze N2_ (d_ + 1) 7 = ze N1_ (d_ + 1) 7 := hsN2_.e (by decide)
  refine zw_aload_n (pc := 10) (n := 0) (x := (d_ + 1)) rfl (zdal_p dlA_Group_begin_16 (i := 6) rfl) ?_
  refine zw_iconst (pc := 11) (v := Int32.ofInt 0) (by decide) (zdal_p dlA_Group_begin_16 (i := 7) rfl) ?_
  refine zk_putR (pc := 12) (o := 1) (by decide) f_Group_39 rfl rfl ((hf_N2_.w hW).kr (o := 1) (by decide)) ⟨by (decide), by (decide)⟩ rfl rfl (zdal_p dlA_Group_begin_16 (i := 8) rfl) (fun N3_ hsN3_ hvN3_ => ?_)
  have hf_N3_ : zFc d_ [] [] [(1, 5), (1, 6), (1, 7)] [5] Mz N3_ := hf_N2_.tr hsN3_ (by decide) (by decide) (by decide) (by decide)
  have eD1_5_N3_ : ze N3_ (d_ + 1) 5 = ze N2_ (d_ + 1) 5 := hsN3_.e (by decide)
  have eD1_6_N3_ : ze N3_ (d_ + 1) 6 = ze N2_ (d_ + 1) 6 := hsN3_.e (by decide)
  have rD1_7_N3_ := ze_r N3_ (d_ + 1) 7
  have hm0_ : zMvK [] P_ d_ N3_ := ⟨⟨by omega, by (exact p1_), by (exact p2_)⟩, by show _ = ((0 : Nat) : Int); omega, Nat.zero_le 4, fun k h => absurd h (Nat.not_lt_zero k)⟩
  refine zw_aload_n (pc := 15) (n := 0) (x := (d_ + 1)) rfl (zdal_p dlA_Group_begin_16 (i := 9) rfl) ?_
  refine zk_callV hf_N3_.x (pc := 16) [] [] l_Group_42 (u_Group_gather l d_ N3_ (hf_N3_.w hW) P_ [] hm0_) rfl rfl ((hf_N3_.w hW).kr (o := 1) (by decide)) (by decide) (by decide) (Nat.le_of_ble_eq_true rfl) (zdal_p dlA_Group_begin_16 (i := 10) rfl) ?_
  rintro _ N4_ ⟨v5_, rfl, ⟨hv5_a, hv5_b⟩, hsN4_, ⟨hp0_N4_, hp1_N4_⟩⟩
  have hf_N4_ : zFc d_ [] [] [(1, 5), (1, 6), (1, 7)] [5] Mz N4_ := hf_N3_.tr hsN4_ (by decide) (by decide) (by decide) (by decide)
  have eD1_5_N4_ : ze N4_ (d_ + 1) 5 = ze N3_ (d_ + 1) 5 := hsN4_.e (by decide)
  have eD1_6_N4_ : ze N4_ (d_ + 1) 6 = ze N3_ (d_ + 1) 6 := hsN4_.e (by decide)
  have rD1_7_N4_ := ze_r N4_ (d_ + 1) 7
  have c6_ : zMvK [] P_ d_ N4_ := zMvK.fr (hf_N3_.w hW) hsN4_ hm0_ (by decide)
  rcases hp1_N4_ with ⟨rfl, ha16_0_hp1_N4_⟩ | ⟨rfl, ha16_0_hp1_N4_⟩
  · skip
    have hg0_ := ha16_0_hp1_N4_
    show zW l m_Group_begin (zn Mz + 0, zw Mz + 0) N4_ 19 [some (.ref (d_ + 1)), some (.int (Int32.ofInt a0_))] [.int (Int32.ofInt 1)] _
    refine zw_pop (pc := 19) rfl (zdal_p dlA_Group_begin_16 (i := 11) rfl) ?_
    exact zk_vret (pc := 20) rfl hf_N4_ ⟨hp0_N4_, hg0_⟩ (zdal_p dlA_Group_begin_16 (i := 12) rfl)
  · skip
    exact absurd gFin_0 ha16_0_hp1_N4_
set_option maxHeartbeats 4000000 in
theorem u_Group_addMove (l : Launch) (d_ : Nat) (Mz : zMem) (hW : zKW d_ Mz) (a0_ : Int) (ha0_a : -2147483648 ≤ a0_) (ha0_b : a0_ < 2147483648) (P_ : Nat) (mv_ : List Nat) (p0_ : zMvK mv_ P_ d_ Mz) (p1_ : zkv P_ a0_) (p2_ : mv_.length ≤ 3) : zC l m_Group_addMove 0 0 [.ref (d_ + 1), .int (Int32.ofInt a0_)] Mz (zqcI d_ [] [] [(1, 6), (1, 7)] [3, 5] Mz (fun v N => zMvK (mv_ ++ [zkc P_ a0_]) P_ d_ N ∧ (((v = 1 ∧ zGg (mv_ ++ [zkc P_ a0_]) P_ d_ N) ∨ (v = 0 ∧ ¬ gFin (mv_ ++ [zkc P_ a0_])))))) := by
  refine zC_of (L0 := [some (.ref (d_ + 1)), some (.int (Int32.ofInt a0_))]) md_Group_addMove (Nat.le_of_ble_eq_true rfl) rfl ?_ zQ0
  have hf : zFc d_ [] [] [(1, 6), (1, 7)] [3, 5] Mz Mz := zFc.rf
  have r_D1_5 := ze_r Mz (d_ + 1) 5
  have r_D1_6 := ze_r Mz (d_ + 1) 6
  have hml_ := p0_.2.1
  refine zw_aload_n (pc := 0) (n := 0) (x := (d_ + 1)) rfl (zdal_p dlA_Group_addMove_102 (i := 0) rfl) ?_
  refine zk_getI (pc := 1) f_Group_36 rfl ((hf.w hW).kr (o := 1) (by decide)) (zdal_p dlA_Group_addMove_102 (i := 1) rfl) ?_
  refine zw_iconst (pc := 4) (v := Int32.ofInt 4) (by decide) (zdal_p dlA_Group_addMove_102 (i := 2) rfl) ?_
  refine zr_icmp_lt (pc := 5) (tgt := 10) ⟨(ze_r Mz (d_ + 1) 6).1, (ze_r Mz (d_ + 1) 6).2⟩ ⟨(by decide), (by decide)⟩ (by decide) (zdal_p dlA_Group_addMove_102 (i := 3) rfl) (fun hc_5 => ?_) (fun hc_5 => ?_)
  · skip
    refine zw_aload_n (pc := 10) (n := 0) (x := (d_ + 1)) rfl (zdal_p dlA_Group_addMove_102 (i := 6) rfl) ?_
    refine zw_getF (pc := 11) f_Group_14 rfl ((hf.w hW).kr (o := 1) (by decide)) ((hf.w hW).lr (o := 1) (s := 0) (r := 2) (by decide)) (zdal_p dlA_Group_addMove_102 (i := 7) rfl) ?_
    refine zw_aload_n (pc := 14) (n := 0) (x := (d_ + 1)) rfl (zdal_p dlA_Group_addMove_102 (i := 8) rfl) ?_
    refine zk_getI (pc := 15) f_Group_36 rfl ((hf.w hW).kr (o := 1) (by decide)) (zdal_p dlA_Group_addMove_102 (i := 9) rfl) ?_
    refine zw_iload_n (pc := 18) (n := 1) (x := Int32.ofInt a0_) rfl (zdal_p dlA_Group_addMove_102 (i := 10) rfl) ?_
    refine zk_st hf.x (pc := 19) (o := 3) (by decide) l_Group_46 ((hf.w hW).kr (o := 2) (by decide)) ((hf.w hW).lr (o := 2) (s := 0) (r := 3) (by decide)) ((hf.w hW).rr (o := 3) (t := 1) (n := 4) (by decide)) (by decide) (by (exact zo_2336 hml_ r_D1_6.1)) (by omega) (by decide) (Nat.le_of_ble_eq_true rfl) (zdal_p dlA_Group_addMove_102 (i := 11) rfl) (fun N1_ hN1_ hsN1_ => ?_)
    have hf_N1_ : zFc d_ [] [] [(1, 6), (1, 7)] [3, 5] Mz N1_ := hf.tr hsN1_ (by decide) (by decide) (by decide) (by decide)
    have eD1_5_N1_ : ze N1_ (d_ + 1) 5 = ze Mz (d_ + 1) 5 := hsN1_.e (by decide)
    have eD1_6_N1_ : ze N1_ (d_ + 1) 6 = ze Mz (d_ + 1) 6 := hsN1_.e (by decide)
    have hst_ := zs_get hN1_ ⟨by (exact ha0_a), by (exact ha0_b)⟩
    have hot_ := fun (i : Nat) (hi : (i : Int) < ze Mz (d_ + 1) 6) => zs_oth hN1_ (j := i) (by (exact zo_732 hi))
    refine zw_aload_n (pc := 22) (n := 0) (x := (d_ + 1)) rfl (zdal_p dlA_Group_addMove_102 (i := 12) rfl) ?_
    refine zw_dup (pc := 23) rfl (zdal_p dlA_Group_addMove_102 (i := 13) rfl) ?_
    refine zk_getI (pc := 24) f_Group_36 rfl ((hf_N1_.w hW).kr (o := 1) (by decide)) (zdal_p dlA_Group_addMove_102 (i := 14) rfl) ?_
    refine zw_iconst (pc := 27) (v := Int32.ofInt 1) (by decide) (zdal_p dlA_Group_addMove_102 (i := 15) rfl) ?_
    refine zr_iadd (pc := 28) (zdal_p dlA_Group_addMove_102 (i := 16) rfl) ?_
    refine zk_putR (pc := 29) (o := 1) (by decide) f_Group_36 rfl rfl ((hf_N1_.w hW).kr (o := 1) (by decide)) ⟨by (exact zo_1139 eD1_6_N1_ r_D1_6.1), by omega⟩ rfl rfl (zdal_p dlA_Group_addMove_102 (i := 17) rfl) (fun N2_ hsN2_ hvN2_ => ?_)
    have hf_N2_ : zFc d_ [] [] [(1, 6), (1, 7)] [3, 5] Mz N2_ := hf_N1_.tr hsN2_ (by decide) (by decide) (by decide) (by decide)
    have eD1_5_N2_ : ze N2_ (d_ + 1) 5 = ze N1_ (d_ + 1) 5 := hsN2_.e (by decide)
    have rD1_6_N2_ := ze_r N2_ (d_ + 1) 6
    have hm1_ := p0_.u (Nz := N2_) (by omega) (by (exact zo_53 eD1_5_N1_ eD1_5_N2_)) (by omega) p1_ ((hsN2_.r (by decide) _).trans hst_) (fun i hi => (hsN2_.r (by decide) i).trans (hot_ i hi))
    refine zw_aload_n (pc := 32) (n := 0) (x := (d_ + 1)) rfl (zdal_p dlA_Group_addMove_102 (i := 18) rfl) ?_
    refine zk_callV hf_N2_.x (pc := 33) [] [] l_Group_42 (u_Group_gather l d_ N2_ (hf_N2_.w hW) P_ (mv_ ++ [zkc P_ a0_]) hm1_) rfl rfl ((hf_N2_.w hW).kr (o := 1) (by decide)) (by decide) (by decide) (Nat.le_of_ble_eq_true rfl) (zdal_p dlA_Group_addMove_102 (i := 19) rfl) ?_
    rintro _ N3_ ⟨v4_, rfl, ⟨hv4_a, hv4_b⟩, hsN3_, ⟨hp0_N3_, hp1_N3_⟩⟩
    have hf_N3_ : zFc d_ [] [] [(1, 6), (1, 7)] [3, 5] Mz N3_ := hf_N2_.tr hsN3_ (by decide) (by decide) (by decide) (by decide)
    have eD1_5_N3_ : ze N3_ (d_ + 1) 5 = ze N2_ (d_ + 1) 5 := hsN3_.e (by decide)
    have eD1_6_N3_ : ze N3_ (d_ + 1) 6 = ze N2_ (d_ + 1) 6 := hsN3_.e (by decide)
    have c5_ : zMvK (mv_ ++ [zkc P_ a0_]) P_ d_ N3_ := zMvK.fr (hf_N2_.w hW) hsN3_ hm1_ (by decide)
    rcases hp1_N3_ with ⟨rfl, ha33_0_hp1_N3_⟩ | ⟨rfl, ha33_0_hp1_N3_⟩
    · skip
      have hg0_ := ha33_0_hp1_N3_
      have hmm_ := hp0_N3_
      show zW l m_Group_addMove (zn Mz + 0, zw Mz + 0) N3_ 36 [some (.ref (d_ + 1)), some (.int (Int32.ofInt a0_))] [.int (Int32.ofInt 1)] _
      exact zk_iret (pc := 36) (ty := .boolean) rfl (z_narB (by (decide))) ⟨by (exact hv4_a), by (exact hv4_b)⟩ hf_N3_ ⟨(show zMvK (mv_ ++ [zkc P_ a0_]) P_ d_ N3_ by first | exact hmm_ | (exfalso; omega)), (show ((1 = 1 ∧ zGg (mv_ ++ [zkc P_ a0_]) P_ d_ N3_) ∨ (1 = 0 ∧ ¬ gFin (mv_ ++ [zkc P_ a0_]))) from Or.inl (⟨(show 1 = 1 by first | rfl | exact hg0_ | (exfalso; omega)), (show zGg (mv_ ++ [zkc P_ a0_]) P_ d_ N3_ by first | rfl | exact hg0_ | (exfalso; omega))⟩))⟩ (zdal_p dlA_Group_addMove_102 (i := 20) rfl)
    · skip
      have hg0_ := ha33_0_hp1_N3_
      have hmm_ := hp0_N3_
      show zW l m_Group_addMove (zn Mz + 0, zw Mz + 0) N3_ 36 [some (.ref (d_ + 1)), some (.int (Int32.ofInt a0_))] [.int (Int32.ofInt 0)] _
      exact zk_iret (pc := 36) (ty := .boolean) rfl (z_narB (by (decide))) ⟨by (exact hv4_a), by (exact hv4_b)⟩ hf_N3_ ⟨(show zMvK (mv_ ++ [zkc P_ a0_]) P_ d_ N3_ by first | exact hmm_ | (exfalso; omega)), (show ((0 = 1 ∧ zGg (mv_ ++ [zkc P_ a0_]) P_ d_ N3_) ∨ (0 = 0 ∧ ¬ gFin (mv_ ++ [zkc P_ a0_]))) from Or.inr (⟨(show 0 = 0 by first | rfl | exact hg0_ | (exfalso; omega)), (show ¬ gFin (mv_ ++ [zkc P_ a0_]) by first | rfl | exact hg0_ | (exfalso; omega))⟩))⟩ (zdal_p dlA_Group_addMove_102 (i := 20) rfl)
  · skip
    refine zw_iconst (pc := 8) (v := Int32.ofInt 0) (by decide) (zdal_p dlA_Group_addMove_102 (i := 4) rfl) ?_
    exact zk_iret (pc := 9) (ty := .boolean) rfl (z_narB (by (decide))) ⟨by (decide), by (decide)⟩ hf ⟨(show zMvK (mv_ ++ [zkc P_ a0_]) P_ d_ Mz by first | exact hmm_ | (exfalso; omega)), (show ((0 = 1 ∧ zGg (mv_ ++ [zkc P_ a0_]) P_ d_ Mz) ∨ (0 = 0 ∧ ¬ gFin (mv_ ++ [zkc P_ a0_]))) from Or.inr (⟨(show 0 = 0 by first | rfl | exact hg0_ | (exfalso; omega)), (show ¬ gFin (mv_ ++ [zkc P_ a0_]) by first | rfl | exact hg0_ | (exfalso; omega))⟩))⟩ (zdal_p dlA_Group_addMove_102 (i := 5) rfl)
set_option maxHeartbeats 4000000 in
theorem u_Reader_readMove (l : Launch) (d_ : Nat) (Mz : zMem) (hW : zKW d_ Mz) (a0_ : Int) (ha0_a : -2147483648 ≤ a0_) (ha0_b : a0_ < 2147483648) (b_ : Nat → Int) (n_ : Nat) (P_ : Nat) (p0_ : zYb b_ n_ Mz) (p1_ : zYt b_ n_ Mz) (p2_ : a0_ = P_) (p3_ : P_ ≤ 6) : zC l m_Reader_readMove 0 0 [.ref 4, .int (Int32.ofInt a0_)] Mz (zqcI d_ [(1, 2), (1, 3), (1, 4), (1, 5), (4, 2), (4, 3)] [] [] [] Mz (fun v N => zYt b_ n_ N ∧ (((v = -1 ∧ zrm b_ n_ P_ P_ (ze Mz 1 2).toNat [] = none) ∨ (0 ≤ v ∧ (∃ l : List Nat, zrm b_ n_ P_ P_ (ze Mz 1 2).toNat [] = some ((ze N 1 2).toNat, l) ∧ zmV P_ l ∧ l.length = P_ ∧ v = ((zdc (fun p_ => l.getD p_ 0) P_ : Nat) : Int))))))) := by
  refine zC_of (L0 := [some (.ref 4), some (.int (Int32.ofInt a0_)), none, none, none, none]) md_Reader_readMove (Nat.le_of_ble_eq_true rfl) rfl ?_ zQ0
  have hf : zFc d_ [(1, 2), (1, 3), (1, 4), (1, 5), (4, 2), (4, 3)] [] [] [] Mz Mz := zFc.rf
  have r_A1_2 := ze_r Mz 1 2
  have r_A1_3 := ze_r Mz 1 3
  have r_A1_5 := ze_r Mz 1 5
  refine zw_iconst (pc := 0) (v := Int32.ofInt 0) (by decide) (zdal_p dlA_Reader_readMove_99 (i := 0) rfl) ?_
  refine zw_istore_n (pc := 1) (i := 2) (L2 := [some (.ref 4), some (.int (Int32.ofInt a0_)), some (.int (Int32.ofInt 0)), none, none, none]) rfl (by decide) rfl (zdal_p dlA_Reader_readMove_99 (i := 1) rfl) ?_
  refine zw_iconst (pc := 2) (v := Int32.ofInt 0) (by decide) (zdal_p dlA_Reader_readMove_99 (i := 2) rfl) ?_
  refine zw_istore_n (pc := 3) (i := 3) (L2 := [some (.ref 4), some (.int (Int32.ofInt a0_)), some (.int (Int32.ofInt 0)), some (.int (Int32.ofInt 0)), none, none]) rfl (by decide) rfl (zdal_p dlA_Reader_readMove_99 (i := 3) rfl) ?_
  refine zw_iconst (pc := 4) (v := Int32.ofInt 0) (by decide) (zdal_p dlA_Reader_readMove_99 (i := 4) rfl) ?_
  refine zw_istore (pc := 5) (i := 4) (L2 := [some (.ref 4), some (.int (Int32.ofInt a0_)), some (.int (Int32.ofInt 0)), some (.int (Int32.ofInt 0)), some (.int (Int32.ofInt 0)), none]) (by decide) rfl (zdal_p dlA_Reader_readMove_99 (i := 5) rfl) ?_
  have lp_7 : ∀ (n : Nat) (u1_ : Int) (hu1_a : -2147483648 ≤ u1_) (hu1_b : u1_ < 2147483648) (u2_ : Int) (hu2_a : -2147483648 ≤ u2_) (hu2_b : u2_ < 2147483648) (u3_ : Int) (hu3_a : -2147483648 ≤ u3_) (hu3_b : u3_ < 2147483648) (N4_ : zMem) (hs5_ : zFc d_ [(1, 2), (1, 3), (1, 4), (1, 5)] [] [] [] Mz N4_) (i6_ : 0 ≤ u3_) (i7_ : u3_ ≤ P_) (i8_ : ∃ l : List Nat, zrm b_ n_ P_ P_ (ze Mz 1 2).toNat [] = zrm b_ n_ P_ (P_ - (u3_).toNat) (ze N4_ 1 2).toNat l ∧ zmV P_ l ∧ (l.length : Int) = u3_ ∧ zmt u2_ l ∧ u1_ = (zdc (fun p_ => l.getD p_ 0) (u3_).toNat : Nat)) (i9_ : zYt b_ n_ N4_), (P_ - u3_).toNat < n → zW l m_Reader_readMove (zn Mz + 0, zw Mz + 0) N4_ 7 [some (.ref 4), some (.int (Int32.ofInt a0_)), some (.int (Int32.ofInt u1_)), some (.int (Int32.ofInt u2_)), some (.int (Int32.ofInt u3_)), none] [] (zqcI d_ [(1, 2), (1, 3), (1, 4), (1, 5), (4, 2), (4, 3)] [] [] [] Mz (fun v N => zYt b_ n_ N ∧ (((v = -1 ∧ zrm b_ n_ P_ P_ (ze Mz 1 2).toNat [] = none) ∨ (0 ≤ v ∧ (∃ l : List Nat, zrm b_ n_ P_ P_ (ze Mz 1 2).toNat [] = some ((ze N 1 2).toNat, l) ∧ zmV P_ l ∧ l.length = P_ ∧ v = ((zdc (fun p_ => l.getD p_ 0) P_ : Nat) : Int))))))) := by
    intro n
    induction n with
    | zero =>
      intro u1_ hu1_a hu1_b u2_ hu2_a hu2_b u3_ hu3_a hu3_b N4_ hs5_ i6_ i7_ i8_ i9_ h0
      exact absurd h0 (Nat.not_lt_zero _)
    | succ n ih_7 =>
      intro u1_ hu1_a hu1_b u2_ hu2_a hu2_b u3_ hu3_a hu3_b N4_ hs5_ i6_ i7_ i8_ i9_ hlt_7
      have hf_N4_ : zFc d_ [(1, 2), (1, 3), (1, 4), (1, 5), (4, 2), (4, 3)] [] [] [] Mz N4_ := hf.tr hs5_ (by decide) (by decide) (by decide) (by decide)
      have rA1_2_N4_ := ze_r N4_ 1 2
      have rA1_3_N4_ := ze_r N4_ 1 3
      have rA1_5_N4_ := ze_r N4_ 1 5
      have c10_ : zYb b_ n_ N4_ := zYb.fr (hf.w hW) hs5_ p0_ (by decide)
      obtain ⟨l_, hz1_, hz2_, hz3_, hz4_, hz5_⟩ := (show ∃ l : List Nat, zrm b_ n_ P_ P_ (ze Mz 1 2).toNat [] = zrm b_ n_ P_ (P_ - (u3_).toNat) (ze N4_ 1 2).toNat l ∧ zmV P_ l ∧ (l.length : Int) = u3_ ∧ zmt u2_ l ∧ u1_ = (zdc (fun p_ => l.getD p_ 0) (u3_).toNat : Nat) by assumption)
      obtain ⟨⟨ht1_, ht2_⟩, ht3_⟩ := id hz4_
      refine zw_iload (pc := 7) (i := 4) (x := Int32.ofInt u3_) rfl (zdal_p dlA_Reader_readMove_99 (i := 6) rfl) ?_
      refine zw_iload_n (pc := 9) (n := 1) (x := Int32.ofInt a0_) rfl (zdal_p dlA_Reader_readMove_99 (i := 7) rfl) ?_
      refine zr_icmp_ge (pc := 10) (tgt := 93) ⟨hu3_a, hu3_b⟩ ⟨ha0_a, ha0_b⟩ (by decide) (zdal_p dlA_Reader_readMove_99 (i := 8) rfl) (fun hc_10 => ?_) (fun hc_10 => ?_)
      · skip
        refine zw_iload_n (pc := 93) (n := 2) (x := Int32.ofInt u1_) rfl (zdal_p dlA_Reader_readMove_101 (i := 5) rfl) ?_
        exact zk_iret (pc := 94) (ty := .int) rfl rfl ⟨by (exact hu1_a), by (exact hu1_b)⟩ hf_N4_ ⟨i9_, (show ((u1_ = -1 ∧ zrm b_ n_ P_ P_ (ze Mz 1 2).toNat [] = none) ∨ (0 ≤ u1_ ∧ (∃ l : List Nat, zrm b_ n_ P_ P_ (ze Mz 1 2).toNat [] = some ((ze N4_ 1 2).toNat, l) ∧ zmV P_ l ∧ l.length = P_ ∧ u1_ = ((zdc (fun p_ => l.getD p_ 0) P_ : Nat) : Int)))) from Or.inr (⟨(show 0 ≤ u1_ by first | (exact zo_2360 hu1_a hz5_) | exact ⟨l_, hz1_.trans (by rw [show P_ - (u3_).toNat = 0 by omega]; rfl), hz2_, by omega, hz5_.trans (by rw [show (u3_).toNat = P_ by omega])⟩), (show (∃ l : List Nat, zrm b_ n_ P_ P_ (ze Mz 1 2).toNat [] = some ((ze N4_ 1 2).toNat, l) ∧ zmV P_ l ∧ l.length = P_ ∧ u1_ = ((zdc (fun p_ => l.getD p_ 0) P_ : Nat) : Int)) by first | omega | exact ⟨l_, hz1_.trans (by rw [show P_ - (u3_).toNat = 0 by omega]; rfl), hz2_, by omega, hz5_.trans (by rw [show (u3_).toNat = P_ by omega])⟩)⟩))⟩ (zdal_p dlA_Reader_readMove_101 (i := 6) rfl)
      · skip
        refine zw_aload_n (pc := 13) (n := 0) (x := 4) rfl (zdal_p dlA_Reader_readMove_99 (i := 9) rfl) ?_
        refine zw_getF (pc := 14) f_Reader_15 rfl ((hf_N4_.w hW).ka (o := 4) (by decide)) ((hf_N4_.w hW).la (o := 4) (s := 0) (r := 1) (by decide)) (zdal_p dlA_Reader_readMove_99 (i := 10) rfl) ?_
        refine zk_callV hf_N4_.x (pc := 17) [] [] l_Reader_53 (u_Tokens_isNumber l d_ N4_ (hf_N4_.w hW) b_ n_ i9_) rfl rfl ((hf_N4_.w hW).ka (o := 1) (by decide)) (by decide) (by decide) (Nat.le_of_ble_eq_true rfl) (zdal_p dlA_Reader_readMove_99 (i := 11) rfl) ?_
        rintro _ N11_ ⟨v12_, rfl, ⟨hv12_a, hv12_b⟩, hsN11_, hp0_N11_⟩
        obtain rfl := hsN11_.eq.symm
        replace hp0_N11_ : ((v12_ = 1 ∧ zkd b_ n_ (ze N4_ 1 2).toNat = 2) ∨ (v12_ = 0 ∧ zkd b_ n_ (ze N4_ 1 2).toNat ≠ 2)) := hp0_N11_
        rcases hp0_N11_ with ⟨rfl, ha17_0_hp0_N11_⟩ | ⟨rfl, ha17_0_hp0_N11_⟩
        · skip
          have hk2_ := ha17_0_hp0_N11_
          have hv2_ := i9_.v2 hk2_
          show zW l m_Reader_readMove (zn Mz + 0, zw Mz + 0) N4_ 20 [some (.ref 4), some (.int (Int32.ofInt a0_)), some (.int (Int32.ofInt u1_)), some (.int (Int32.ofInt u2_)), some (.int (Int32.ofInt u3_)), none] [.int (Int32.ofInt 1)] _
          refine zr_if_ne (pc := 20) (tgt := 31) ⟨(by decide), (by decide)⟩ (by decide) (zdal_p dlA_Reader_readMove_99 (i := 12) rfl) (fun hc_20 => ?_) (fun hc_20 => ?_)
          · skip
            refine zw_aload_n (pc := 31) (n := 0) (x := 4) rfl (zdal_p dlA_Reader_readMove_99 (i := 19) rfl) ?_
            refine zw_getF (pc := 32) f_Reader_15 rfl ((hf_N4_.w hW).ka (o := 4) (by decide)) ((hf_N4_.w hW).la (o := 4) (s := 0) (r := 1) (by decide)) (zdal_p dlA_Reader_readMove_99 (i := 20) rfl) ?_
            refine zk_getI (pc := 35) f_Reader_57 rfl ((hf_N4_.w hW).ka (o := 1) (by decide)) (zdal_p dlA_Reader_readMove_99 (i := 21) rfl) ?_
            refine zw_istore (pc := 38) (i := 5) (L2 := [some (.ref 4), some (.int (Int32.ofInt a0_)), some (.int (Int32.ofInt u1_)), some (.int (Int32.ofInt u2_)), some (.int (Int32.ofInt u3_)), some (.int (Int32.ofInt (ze N4_ 1 5)))]) (by decide) rfl (zdal_p dlA_Reader_readMove_99 (i := 22) rfl) ?_
            refine zw_iload (pc := 40) (i := 5) (x := Int32.ofInt (ze N4_ 1 5)) rfl (zdal_p dlA_Reader_readMove_99 (i := 23) rfl) ?_
            refine zw_iload_n (pc := 42) (n := 1) (x := Int32.ofInt a0_) rfl (zdal_p dlA_Reader_readMove_100 (i := 0) rfl) ?_
            refine zr_icmp_ge (pc := 43) (tgt := 55) ⟨(ze_r N4_ 1 5).1, (ze_r N4_ 1 5).2⟩ ⟨ha0_a, ha0_b⟩ (by decide) (zdal_p dlA_Reader_readMove_100 (i := 1) rfl) (fun hc_43 => ?_) (fun hc_43 => ?_)
            · skip
              refine zw_aload_n (pc := 55) (n := 0) (x := 4) rfl (zdal_p dlA_Reader_readMove_100 (i := 6) rfl) ?_
              refine zw_iconst (pc := 56) (v := Int32.ofInt 4) (by decide) (zdal_p dlA_Reader_readMove_100 (i := 7) rfl) ?_
              refine zk_callV hf_N4_.x (pc := 57) [.int (Int32.ofInt 4)] [] l_Reader_41 (u_Reader_refuse l d_ N4_ (hf_N4_.w hW) 4 (by decide) (by decide)) rfl rfl ((hf_N4_.w hW).ka (o := 4) (by decide)) (by decide) (by decide) (Nat.le_of_ble_eq_true rfl) (zdal_p dlA_Reader_readMove_100 (i := 8) rfl) ?_
              rintro _ N13_ ⟨v14_, rfl, ⟨hv14_a, hv14_b⟩, hsN13_, hp0_N13_⟩
              replace hp0_N13_ : ((v14_ = 0)) := hp0_N13_
              have hf_N13_ : zFc d_ [(1, 2), (1, 3), (1, 4), (1, 5), (4, 2), (4, 3)] [] [] [] Mz N13_ := hf_N4_.tr hsN13_ (by decide) (by decide) (by decide) (by decide)
              have eA1_2_N13_ : ze N13_ 1 2 = ze N4_ 1 2 := hsN13_.ea (hf_N4_.w hW) (by decide)
              have eA1_3_N13_ : ze N13_ 1 3 = ze N4_ 1 3 := hsN13_.ea (hf_N4_.w hW) (by decide)
              have eA1_5_N13_ : ze N13_ 1 5 = ze N4_ 1 5 := hsN13_.ea (hf_N4_.w hW) (by decide)
              have c15_ : zYb b_ n_ N13_ := zYb.fr (hf_N4_.w hW) hsN13_ c10_ (by decide)
              have c16_ : zYt b_ n_ N13_ := zYt.fr (hf_N4_.w hW) hsN13_ i9_ (by decide)
              rcases hp0_N13_ with rfl
              · skip
                show zW l m_Reader_readMove (zn Mz + 0, zw Mz + 0) N13_ 60 [some (.ref 4), some (.int (Int32.ofInt a0_)), some (.int (Int32.ofInt u1_)), some (.int (Int32.ofInt u2_)), some (.int (Int32.ofInt u3_)), some (.int (Int32.ofInt (ze N4_ 1 5)))] [.int (Int32.ofInt 0)] _
                refine zw_pop (pc := 60) rfl (zdal_p dlA_Reader_readMove_100 (i := 9) rfl) ?_
                refine zw_iconst (pc := 61) (v := Int32.ofInt (-1)) (by decide) (zdal_p dlA_Reader_readMove_100 (i := 10) rfl) ?_
                exact zk_iret (pc := 62) (ty := .int) rfl rfl ⟨by (decide), by (decide)⟩ hf_N13_ ⟨c16_, (show ((((-1)) = -1 ∧ zrm b_ n_ P_ P_ (ze Mz 1 2).toNat [] = none) ∨ (0 ≤ ((-1)) ∧ (∃ l : List Nat, zrm b_ n_ P_ P_ (ze Mz 1 2).toNat [] = some ((ze N13_ 1 2).toNat, l) ∧ zmV P_ l ∧ l.length = P_ ∧ ((-1)) = ((zdc (fun p_ => l.getD p_ 0) P_ : Nat) : Int)))) from Or.inl (⟨(show ((-1)) = -1 by first | rfl | exact hrt_ | (rw [hz1_, show P_ - (u3_).toNat = (P_ - (u3_).toNat - 1) + 1 by omega]; exact zrm_f (fun q_ => by have := q_.2.1; omega))), (show zrm b_ n_ P_ P_ (ze Mz 1 2).toNat [] = none by first | rfl | exact hrt_ | (rw [hz1_, show P_ - (u3_).toNat = (P_ - (u3_).toNat - 1) + 1 by omega]; exact zrm_f (fun q_ => by have := q_.2.1; omega)))⟩))⟩ (zdal_p dlA_Reader_readMove_100 (i := 11) rfl)
            · skip
              refine zw_iload_n (pc := 46) (n := 3) (x := Int32.ofInt u2_) rfl (zdal_p dlA_Reader_readMove_100 (i := 2) rfl) ?_
              refine zw_iload (pc := 47) (i := 5) (x := Int32.ofInt (ze N4_ 1 5)) rfl (zdal_p dlA_Reader_readMove_100 (i := 3) rfl) ?_
              refine zr_callS hf_N4_.x (pc := 49) [.int (Int32.ofInt u2_), .int (Int32.ofInt (ze N4_ 1 5))] [] l_Reader_89 (u_T_isIn l d_ N4_ (hf_N4_.w hW) u2_ hu2_a hu2_b (ze N4_ 1 5) (ze_r N4_ 1 5).1 (ze_r N4_ 1 5).2 (show 0 ≤ u2_ by first | assumption | omega) (show u2_ < 2147483648 by first | assumption | omega) (show 0 ≤ (ze N4_ 1 5) by first | assumption | (exact zo_57 hv2_.2.1)) (show (ze N4_ 1 5) < 31 by first | assumption | omega)) rfl rfl (by decide) (Nat.le_of_ble_eq_true rfl) (zdal_p dlA_Reader_readMove_100 (i := 4) rfl) ?_
              rintro _ N17_ ⟨v18_, rfl, ⟨hv18_a, hv18_b⟩, hsN17_, hp0_N17_⟩
              obtain rfl := hsN17_.eq.symm
              replace hp0_N17_ : ((v18_ = 1 ∧ zbt u2_ (ze N4_ 1 5)) ∨ (v18_ = 0 ∧ ¬ zbt u2_ (ze N4_ 1 5))) := hp0_N17_
              rcases hp0_N17_ with ⟨rfl, ha49_0_hp0_N17_⟩ | ⟨rfl, ha49_0_hp0_N17_⟩
              · skip
                have hin_ := ha49_0_hp0_N17_
                have hrt_ : zrm b_ n_ P_ P_ (ze Mz 1 2).toNat [] = none := by rw [hz1_, show P_ - (u3_).toNat = (P_ - (u3_).toNat - 1) + 1 by omega]; exact zrm_f (fun q_ => q_.2.2 (by have h3_ := (ht3_ ((ze N4_ 1 5)).toNat (by omega)).mp (by rw [Int.toNat_of_nonneg (by (exact zo_57 hv2_.2.1))]; exact hin_); rwa [ hv2_.1] at h3_))
                show zW l m_Reader_readMove (zn Mz + 0, zw Mz + 0) N4_ 52 [some (.ref 4), some (.int (Int32.ofInt a0_)), some (.int (Int32.ofInt u1_)), some (.int (Int32.ofInt u2_)), some (.int (Int32.ofInt u3_)), some (.int (Int32.ofInt (ze N4_ 1 5)))] [.int (Int32.ofInt 1)] _
                refine zr_if_eq (pc := 52) (tgt := 63) ⟨(by decide), (by decide)⟩ (by decide) (zdal_p dlA_Reader_readMove_100 (i := 5) rfl) (fun hc_52 => ?_) (fun hc_52 => ?_)
                · skip
                  exact absurd hc_52 (by decide)
                · skip
                  refine zw_aload_n (pc := 55) (n := 0) (x := 4) rfl (zdal_p dlA_Reader_readMove_100 (i := 6) rfl) ?_
                  refine zw_iconst (pc := 56) (v := Int32.ofInt 4) (by decide) (zdal_p dlA_Reader_readMove_100 (i := 7) rfl) ?_
                  refine zk_callV hf_N4_.x (pc := 57) [.int (Int32.ofInt 4)] [] l_Reader_41 (u_Reader_refuse l d_ N4_ (hf_N4_.w hW) 4 (by decide) (by decide)) rfl rfl ((hf_N4_.w hW).ka (o := 4) (by decide)) (by decide) (by decide) (Nat.le_of_ble_eq_true rfl) (zdal_p dlA_Reader_readMove_100 (i := 8) rfl) ?_
                  rintro _ N19_ ⟨v20_, rfl, ⟨hv20_a, hv20_b⟩, hsN19_, hp0_N19_⟩
                  replace hp0_N19_ : ((v20_ = 0)) := hp0_N19_
                  have hf_N19_ : zFc d_ [(1, 2), (1, 3), (1, 4), (1, 5), (4, 2), (4, 3)] [] [] [] Mz N19_ := hf_N4_.tr hsN19_ (by decide) (by decide) (by decide) (by decide)
                  have eA1_2_N19_ : ze N19_ 1 2 = ze N4_ 1 2 := hsN19_.ea (hf_N4_.w hW) (by decide)
                  have eA1_3_N19_ : ze N19_ 1 3 = ze N4_ 1 3 := hsN19_.ea (hf_N4_.w hW) (by decide)
                  have eA1_5_N19_ : ze N19_ 1 5 = ze N4_ 1 5 := hsN19_.ea (hf_N4_.w hW) (by decide)
                  have c21_ : zYb b_ n_ N19_ := zYb.fr (hf_N4_.w hW) hsN19_ c10_ (by decide)
                  have c22_ : zYt b_ n_ N19_ := zYt.fr (hf_N4_.w hW) hsN19_ i9_ (by decide)
                  rcases hp0_N19_ with rfl
                  · skip
                    show zW l m_Reader_readMove (zn Mz + 0, zw Mz + 0) N19_ 60 [some (.ref 4), some (.int (Int32.ofInt a0_)), some (.int (Int32.ofInt u1_)), some (.int (Int32.ofInt u2_)), some (.int (Int32.ofInt u3_)), some (.int (Int32.ofInt (ze N4_ 1 5)))] [.int (Int32.ofInt 0)] _
                    refine zw_pop (pc := 60) rfl (zdal_p dlA_Reader_readMove_100 (i := 9) rfl) ?_
                    refine zw_iconst (pc := 61) (v := Int32.ofInt (-1)) (by decide) (zdal_p dlA_Reader_readMove_100 (i := 10) rfl) ?_
                    exact zk_iret (pc := 62) (ty := .int) rfl rfl ⟨by (decide), by (decide)⟩ hf_N19_ ⟨c22_, (show ((((-1)) = -1 ∧ zrm b_ n_ P_ P_ (ze Mz 1 2).toNat [] = none) ∨ (0 ≤ ((-1)) ∧ (∃ l : List Nat, zrm b_ n_ P_ P_ (ze Mz 1 2).toNat [] = some ((ze N19_ 1 2).toNat, l) ∧ zmV P_ l ∧ l.length = P_ ∧ ((-1)) = ((zdc (fun p_ => l.getD p_ 0) P_ : Nat) : Int)))) from Or.inl (⟨(show ((-1)) = -1 by first | rfl | exact hrt_ | (rw [hz1_, show P_ - (u3_).toNat = (P_ - (u3_).toNat - 1) + 1 by omega]; exact zrm_f (fun q_ => by have := q_.2.1; omega))), (show zrm b_ n_ P_ P_ (ze Mz 1 2).toNat [] = none by first | rfl | exact hrt_ | (rw [hz1_, show P_ - (u3_).toNat = (P_ - (u3_).toNat - 1) + 1 by omega]; exact zrm_f (fun q_ => by have := q_.2.1; omega)))⟩))⟩ (zdal_p dlA_Reader_readMove_100 (i := 11) rfl)
              · skip
                have hni_ := ha49_0_hp0_N17_
                have hnm_ : ((ze N4_ 1 5)).toNat ∉ l_ := fun q_ => hni_ (by have h3_ := (ht3_ ((ze N4_ 1 5)).toNat (by omega)).mpr q_; rwa [Int.toNat_of_nonneg (by (exact zo_57 hv2_.2.1))] at h3_)
                show zW l m_Reader_readMove (zn Mz + 0, zw Mz + 0) N4_ 52 [some (.ref 4), some (.int (Int32.ofInt a0_)), some (.int (Int32.ofInt u1_)), some (.int (Int32.ofInt u2_)), some (.int (Int32.ofInt u3_)), some (.int (Int32.ofInt (ze N4_ 1 5)))] [.int (Int32.ofInt 0)] _
                refine zr_if_eq (pc := 52) (tgt := 63) ⟨(by decide), (by decide)⟩ (by decide) (zdal_p dlA_Reader_readMove_100 (i := 5) rfl) (fun hc_52 => ?_) (fun hc_52 => ?_)
                · skip
                  refine zw_iload_n (pc := 63) (n := 3) (x := Int32.ofInt u2_) rfl (zdal_p dlA_Reader_readMove_100 (i := 12) rfl) ?_
                  refine zw_iconst (pc := 64) (v := Int32.ofInt 1) (by decide) (zdal_p dlA_Reader_readMove_100 (i := 13) rfl) ?_
                  refine zw_iload (pc := 65) (i := 5) (x := Int32.ofInt (ze N4_ 1 5)) rfl (zdal_p dlA_Reader_readMove_100 (i := 14) rfl) ?_
                  refine zr_ishl (pc := 67) (zdal_p dlA_Reader_readMove_100 (i := 15) rfl) ?_
                  have hr23_ := zshl_r 1 (ze N4_ 1 5)
                  refine zr_ior (pc := 68) (zdal_p dlA_Reader_readMove_100 (i := 16) rfl) ?_
                  have hr24_ := zor_r u2_ (zshl 1 (ze N4_ 1 5))
                  refine zw_istore_n (pc := 69) (i := 3) (L2 := [some (.ref 4), some (.int (Int32.ofInt a0_)), some (.int (Int32.ofInt u1_)), some (.int (Int32.ofInt (zor u2_ (zshl 1 (ze N4_ 1 5))))), some (.int (Int32.ofInt u3_)), some (.int (Int32.ofInt (ze N4_ 1 5)))]) rfl (by decide) rfl (zdal_p dlA_Reader_readMove_100 (i := 17) rfl) ?_
                  refine zw_iload_n (pc := 70) (n := 2) (x := Int32.ofInt u1_) rfl (zdal_p dlA_Reader_readMove_100 (i := 18) rfl) ?_
                  refine zw_iload (pc := 71) (i := 5) (x := Int32.ofInt (ze N4_ 1 5)) rfl (zdal_p dlA_Reader_readMove_100 (i := 19) rfl) ?_
                  refine zw_iload (pc := 73) (i := 4) (x := Int32.ofInt u3_) rfl (zdal_p dlA_Reader_readMove_100 (i := 20) rfl) ?_
                  refine zr_callS hf_N4_.x (pc := 75) [.int (Int32.ofInt (ze N4_ 1 5)), .int (Int32.ofInt u3_)] [.int (Int32.ofInt u1_)] l_Reader_92 (u_T_codeOf l d_ N4_ (hf_N4_.w hW) (ze N4_ 1 5) (ze_r N4_ 1 5).1 (ze_r N4_ 1 5).2 u3_ hu3_a hu3_b (show 0 ≤ (ze N4_ 1 5) by first | assumption | (exact zo_57 hv2_.2.1)) (show (ze N4_ 1 5) ≤ 7 by first | assumption | omega) (show 0 ≤ u3_ by first | assumption | omega) (show u3_ ≤ 5 by first | assumption | omega)) rfl rfl (by decide) (Nat.le_of_ble_eq_true rfl) (zdal_p dlA_Reader_readMove_100 (i := 21) rfl) ?_
                  rintro _ N25_ ⟨v26_, rfl, ⟨hv26_a, hv26_b⟩, hsN25_, hp0_N25_⟩
                  obtain rfl := hsN25_.eq.symm
                  replace hp0_N25_ : v26_ = (((ze N4_ 1 5)).toNat * zw5 (u3_).toNat : Nat) := hp0_N25_
                  show zW l m_Reader_readMove (zn Mz + 0, zw Mz + 0) N4_ 78 [some (.ref 4), some (.int (Int32.ofInt a0_)), some (.int (Int32.ofInt u1_)), some (.int (Int32.ofInt (zor u2_ (zshl 1 (ze N4_ 1 5))))), some (.int (Int32.ofInt u3_)), some (.int (Int32.ofInt (ze N4_ 1 5)))] [.int (Int32.ofInt v26_), .int (Int32.ofInt u1_)] _
                  have hcw_ := hp0_N25_
                  obtain ⟨w_, hw_⟩ : ∃ w, w = v26_ := ⟨_, rfl⟩
                  rw [← hw_] at hcw_
                  obtain ⟨g1_, g2_, g3_, g4_⟩ := zmv_s p3_ hz2_ hz3_ hz4_ hz5_ (by (exact zo_57 hv2_.2.1)) (by omega) (by omega) hnm_ hcw_
                  rw [hw_] at g4_
                  refine zr_ior (pc := 78) (zdal_p dlA_Reader_readMove_100 (i := 22) rfl) ?_
                  have hr27_ := zor_r u1_ v26_
                  refine zw_istore_n (pc := 79) (i := 2) (L2 := [some (.ref 4), some (.int (Int32.ofInt a0_)), some (.int (Int32.ofInt (zor u1_ v26_))), some (.int (Int32.ofInt (zor u2_ (zshl 1 (ze N4_ 1 5))))), some (.int (Int32.ofInt u3_)), some (.int (Int32.ofInt (ze N4_ 1 5)))]) rfl (by decide) rfl (zdal_p dlA_Reader_readMove_100 (i := 23) rfl) ?_
                  have hyt_ := i9_
                  have hyx_ := hyt_.x
                  refine zw_aload_n (pc := 80) (n := 0) (x := 4) rfl (zdal_p dlA_Reader_readMove_101 (i := 0) rfl) ?_
                  refine zw_getF (pc := 81) f_Reader_15 rfl ((hf_N4_.w hW).ka (o := 4) (by decide)) ((hf_N4_.w hW).la (o := 4) (s := 0) (r := 1) (by decide)) (zdal_p dlA_Reader_readMove_101 (i := 1) rfl) ?_
                  refine zk_callV hf_N4_.x (pc := 84) [] [] l_Reader_44 (u_Tokens_step l d_ N4_ (hf_N4_.w hW) b_ n_ c10_ (show 0 ≤ ze N4_ 1 3 by first | assumption | (exact zo_57 hyx_.2.1)) (show ze N4_ 1 3 ≤ n_ by first | assumption | (exact zo_277 hyx_.2.2 rA1_3_N4_.2))) rfl rfl ((hf_N4_.w hW).ka (o := 1) (by decide)) (by decide) (by decide) (Nat.le_of_ble_eq_true rfl) (zdal_p dlA_Reader_readMove_101 (i := 2) rfl) ?_
                  rintro _ N28_ ⟨rfl, hsN28_, ⟨hp0_N28_, hp1_N28_⟩⟩
                  have hf_N28_ : zFc d_ [(1, 2), (1, 3), (1, 4), (1, 5), (4, 2), (4, 3)] [] [] [] Mz N28_ := hf_N4_.tr hsN28_ (by decide) (by decide) (by decide) (by decide)
                  have hb0_N28_ : zFc d_ [(1, 2), (1, 3), (1, 4), (1, 5)] [] [] [] Mz N28_ := hs5_.tr hsN28_ (by decide) (by decide) (by decide) (by decide)
                  have rA1_2_N28_ := ze_r N28_ 1 2
                  have rA1_3_N28_ := ze_r N28_ 1 3
                  have rA1_5_N28_ := ze_r N28_ 1 5
                  have c30_ : zYb b_ n_ N28_ := zYb.fr (hf_N4_.w hW) hsN28_ c10_ (by decide)
                  show zW l m_Reader_readMove (zn Mz + 0, zw Mz + 0) N28_ 87 [some (.ref 4), some (.int (Int32.ofInt a0_)), some (.int (Int32.ofInt (zor u1_ v26_))), some (.int (Int32.ofInt (zor u2_ (zshl 1 (ze N4_ 1 5))))), some (.int (Int32.ofInt u3_)), some (.int (Int32.ofInt (ze N4_ 1 5)))] [] _
                  have hnn_ := hyt_.n hp0_N28_
                  have hk_ : P_ - (u3_).toNat = (P_ - (u3_ + 1).toNat) + 1 := by omega
                  rw [show (ze N4_ 1 2).toNat = (ze N4_ 1 2).toNat by omega] at hnn_
                  refine zr_iinc (pc := 87) (i := 4) (a := u3_) (n := 1) (L2 := [some (.ref 4), some (.int (Int32.ofInt a0_)), some (.int (Int32.ofInt (zor u1_ v26_))), some (.int (Int32.ofInt (zor u2_ (zshl 1 (ze N4_ 1 5))))), some (.int (Int32.ofInt (u3_ + 1))), some (.int (Int32.ofInt (ze N4_ 1 5)))]) rfl (by decide) rfl (zdal_p dlA_Reader_readMove_101 (i := 3) rfl) ?_
                  refine zw_goto (pc := 90) (tgt := 7) (by decide) (zdal_p dlA_Reader_readMove_101 (i := 4) rfl) ?_
                  have hbk_ : zrm b_ n_ P_ P_ (ze Mz 1 2).toNat [] = zrm b_ n_ P_ (P_ - ((u3_ + 1)).toNat) (ze N28_ 1 2).toNat (l_ ++ [((ze N4_ 1 5)).toNat]) := by rw [hz1_, hk_, zrm_t ⟨hk2_, by omega, by rw [← hv2_.1]; exact hnm_⟩, hnn_.2, ← hv2_.1]
                  refine zW_le [some (.ref 4), some (.int (Int32.ofInt a0_)), some (.int (Int32.ofInt (zor u1_ v26_))), some (.int (Int32.ofInt (zor u2_ (zshl 1 (ze N4_ 1 5))))), some (.int (Int32.ofInt (u3_ + 1))), none] (⟨rfl, rfl, rfl, rfl, rfl, trivial⟩) ?_
                  exact ih_7 (zor u1_ v26_) (by (exact zo_284 hr27_.1)) (by (exact zo_285 hr27_.2)) (zor u2_ (zshl 1 (ze N4_ 1 5))) (by (exact zo_284 hr24_.1)) (by (exact zo_285 hr24_.2)) (u3_ + 1) (by (exact zo_74 i6_)) (by omega) N28_ hb0_N28_ (show 0 ≤ (u3_ + 1) by first | assumption | (exact zo_76 i6_)) (show (u3_ + 1) ≤ P_ by first | assumption | omega) (show ∃ l : List Nat, zrm b_ n_ P_ P_ (ze Mz 1 2).toNat [] = zrm b_ n_ P_ (P_ - ((u3_ + 1)).toNat) (ze N28_ 1 2).toNat l ∧ zmV P_ l ∧ (l.length : Int) = (u3_ + 1) ∧ zmt (zor u2_ (zshl 1 (ze N4_ 1 5))) l ∧ (zor u1_ v26_) = (zdc (fun p_ => l.getD p_ 0) ((u3_ + 1)).toNat : Nat) by exact ⟨_, hbk_, g1_, g2_, g3_, g4_⟩) hp1_N28_ (by omega)
                · skip
                  exact absurd hc_52 (by decide)
          · skip
            exact absurd hc_20 (by decide)
        · skip
          have hrt_ : zrm b_ n_ P_ P_ (ze Mz 1 2).toNat [] = none := by rw [hz1_, show P_ - (u3_).toNat = (P_ - (u3_).toNat - 1) + 1 by omega]; exact zrm_f (fun q_ => ha17_0_hp0_N11_ q_.1)
          show zW l m_Reader_readMove (zn Mz + 0, zw Mz + 0) N4_ 20 [some (.ref 4), some (.int (Int32.ofInt a0_)), some (.int (Int32.ofInt u1_)), some (.int (Int32.ofInt u2_)), some (.int (Int32.ofInt u3_)), none] [.int (Int32.ofInt 0)] _
          refine zr_if_ne (pc := 20) (tgt := 31) ⟨(by decide), (by decide)⟩ (by decide) (zdal_p dlA_Reader_readMove_99 (i := 12) rfl) (fun hc_20 => ?_) (fun hc_20 => ?_)
          · skip
            exact absurd hc_20 (by decide)
          · skip
            refine zw_aload_n (pc := 23) (n := 0) (x := 4) rfl (zdal_p dlA_Reader_readMove_99 (i := 13) rfl) ?_
            refine zw_iconst (pc := 24) (v := Int32.ofInt 2) (by decide) (zdal_p dlA_Reader_readMove_99 (i := 14) rfl) ?_
            refine zk_callV hf_N4_.x (pc := 25) [.int (Int32.ofInt 2)] [] l_Reader_41 (u_Reader_refuse l d_ N4_ (hf_N4_.w hW) 2 (by decide) (by decide)) rfl rfl ((hf_N4_.w hW).ka (o := 4) (by decide)) (by decide) (by decide) (Nat.le_of_ble_eq_true rfl) (zdal_p dlA_Reader_readMove_99 (i := 15) rfl) ?_
            rintro _ N31_ ⟨v32_, rfl, ⟨hv32_a, hv32_b⟩, hsN31_, hp0_N31_⟩
            replace hp0_N31_ : ((v32_ = 0)) := hp0_N31_
            have hf_N31_ : zFc d_ [(1, 2), (1, 3), (1, 4), (1, 5), (4, 2), (4, 3)] [] [] [] Mz N31_ := hf_N4_.tr hsN31_ (by decide) (by decide) (by decide) (by decide)
            have eA1_2_N31_ : ze N31_ 1 2 = ze N4_ 1 2 := hsN31_.ea (hf_N4_.w hW) (by decide)
            have eA1_3_N31_ : ze N31_ 1 3 = ze N4_ 1 3 := hsN31_.ea (hf_N4_.w hW) (by decide)
            have eA1_5_N31_ : ze N31_ 1 5 = ze N4_ 1 5 := hsN31_.ea (hf_N4_.w hW) (by decide)
            have c33_ : zYb b_ n_ N31_ := zYb.fr (hf_N4_.w hW) hsN31_ c10_ (by decide)
            have c34_ : zYt b_ n_ N31_ := zYt.fr (hf_N4_.w hW) hsN31_ i9_ (by decide)
            rcases hp0_N31_ with rfl
            · skip
              show zW l m_Reader_readMove (zn Mz + 0, zw Mz + 0) N31_ 28 [some (.ref 4), some (.int (Int32.ofInt a0_)), some (.int (Int32.ofInt u1_)), some (.int (Int32.ofInt u2_)), some (.int (Int32.ofInt u3_)), none] [.int (Int32.ofInt 0)] _
              refine zw_pop (pc := 28) rfl (zdal_p dlA_Reader_readMove_99 (i := 16) rfl) ?_
              refine zw_iconst (pc := 29) (v := Int32.ofInt (-1)) (by decide) (zdal_p dlA_Reader_readMove_99 (i := 17) rfl) ?_
              exact zk_iret (pc := 30) (ty := .int) rfl rfl ⟨by (decide), by (decide)⟩ hf_N31_ ⟨c34_, (show ((((-1)) = -1 ∧ zrm b_ n_ P_ P_ (ze Mz 1 2).toNat [] = none) ∨ (0 ≤ ((-1)) ∧ (∃ l : List Nat, zrm b_ n_ P_ P_ (ze Mz 1 2).toNat [] = some ((ze N31_ 1 2).toNat, l) ∧ zmV P_ l ∧ l.length = P_ ∧ ((-1)) = ((zdc (fun p_ => l.getD p_ 0) P_ : Nat) : Int)))) from Or.inl (⟨(show ((-1)) = -1 by first | rfl | exact hrt_ | (rw [hz1_, show P_ - (u3_).toNat = (P_ - (u3_).toNat - 1) + 1 by omega]; exact zrm_f (fun q_ => by have := q_.2.1; omega))), (show zrm b_ n_ P_ P_ (ze Mz 1 2).toNat [] = none by first | rfl | exact hrt_ | (rw [hz1_, show P_ - (u3_).toNat = (P_ - (u3_).toNat - 1) + 1 by omega]; exact zrm_f (fun q_ => by have := q_.2.1; omega)))⟩))⟩ (zdal_p dlA_Reader_readMove_99 (i := 18) rfl)
  exact lp_7 _ 0 (by decide) (by decide) 0 (by decide) (by decide) 0 (by decide) (by decide) Mz zFc.rf (show 0 ≤ (0 : Int) by first | assumption | (decide)) (show (0 : Int) ≤ P_ by first | assumption | (exact zo_85)) (show ∃ l : List Nat, zrm b_ n_ P_ P_ (ze Mz 1 2).toNat [] = zrm b_ n_ P_ (P_ - ((0 : Int)).toNat) (ze Mz 1 2).toNat l ∧ zmV P_ l ∧ (l.length : Int) = (0 : Int) ∧ zmt (0 : Int) l ∧ (0 : Int) = (zdc (fun p_ => l.getD p_ 0) ((0 : Int)).toNat : Nat) by exact ⟨[], by rw [show P_ - (0 : Int).toNat = P_ from rfl], zmV_0 P_, rfl, zmt_0, rfl⟩) p1_ (Nat.lt_succ_self _)
set_option maxHeartbeats 4000000 in
theorem u_Reader_readMoves (l : Launch) (d_ : Nat) (Mz : zMem) (hW : zKW d_ Mz) (b_ : Nat → Int) (n_ : Nat) (P_ : Nat) (p0_ : zYb b_ n_ Mz) (p1_ : zYt b_ n_ Mz) (p2_ : zMvK [] P_ d_ Mz) (p3_ : zGg [] P_ d_ Mz) : zC l m_Reader_readMoves 0 0 [.ref 4, .ref (d_ + 0)] Mz (zqcI d_ [(1, 2), (1, 3), (1, 4), (1, 5), (4, 2), (4, 3)] [] [(1, 6), (1, 7)] [3, 5] Mz (fun v N => zYt b_ n_ N ∧ (((v = 1 ∧ (∃ mv : List Nat, zRg (zbs b_ n_ P_) (0, (ze Mz 1 2).toNat, []) (1, (ze N 1 2).toNat, mv) ∧ zMvK mv P_ d_ N ∧ zGg mv P_ d_ N ∧ ∀ g ∈ mv, gpm g)) ∨ (v = 0 ∧ zRg (zbs b_ n_ P_) (0, (ze Mz 1 2).toNat, []) zMf))))) := by
  refine zC_of (L0 := [some (.ref 4), some (.ref (d_ + 0)), none, none, none]) md_Reader_readMoves (Nat.le_of_ble_eq_true rfl) rfl ?_ zQ0
  have hf : zFc d_ [(1, 2), (1, 3), (1, 4), (1, 5), (4, 2), (4, 3)] [] [(1, 6), (1, 7)] [3, 5] Mz Mz := zFc.rf
  have r_A1_2 := ze_r Mz 1 2
  have r_A1_3 := ze_r Mz 1 3
  have r_D1_5 := ze_r Mz (d_ + 1) 5
  have r_D1_6 := ze_r Mz (d_ + 1) 6
  obtain ⟨⟨hP0_, hP1_, hP6_⟩, hc1_, hc2_, hc3_⟩ := id p2_
  refine zw_iconst (pc := 0) (v := Int32.ofInt 0) (by decide) (zdal_p dlA_Reader_readMoves_96 (i := 0) rfl) ?_
  refine zw_istore_n (pc := 1) (i := 2) (L2 := [some (.ref 4), some (.ref (d_ + 0)), some (.int (Int32.ofInt 0)), none, none]) rfl (by decide) rfl (zdal_p dlA_Reader_readMoves_96 (i := 1) rfl) ?_
  have lp_2 : ∀ (n : Nat) (u1_ : Int) (hu1_a : -2147483648 ≤ u1_) (hu1_b : u1_ < 2147483648) (N2_ : zMem) (hs3_ : zFc d_ [(1, 2), (1, 3), (1, 4), (1, 5), (4, 2), (4, 3)] [] [(1, 6), (1, 7)] [3, 5] Mz N2_) (i4_ : 0 ≤ u1_) (i5_ : u1_ ≤ ze N2_ (d_ + 1) 6) (i6_ : zYt b_ n_ N2_) (i7_ : ∃ mv : List Nat, zRg (zbs b_ n_ P_) (0, (ze Mz 1 2).toNat, []) (0, (ze N2_ 1 2).toNat, mv) ∧ zMvK mv P_ d_ N2_ ∧ zGg mv P_ d_ N2_ ∧ ∀ g ∈ mv, gpm g), (5 - u1_).toNat < n → zW l m_Reader_readMoves (zn Mz + 0, zw Mz + 0) N2_ 2 [some (.ref 4), some (.ref (d_ + 0)), some (.int (Int32.ofInt u1_)), none, none] [] (zqcI d_ [(1, 2), (1, 3), (1, 4), (1, 5), (4, 2), (4, 3)] [] [(1, 6), (1, 7)] [3, 5] Mz (fun v N => zYt b_ n_ N ∧ (((v = 1 ∧ (∃ mv : List Nat, zRg (zbs b_ n_ P_) (0, (ze Mz 1 2).toNat, []) (1, (ze N 1 2).toNat, mv) ∧ zMvK mv P_ d_ N ∧ zGg mv P_ d_ N ∧ ∀ g ∈ mv, gpm g)) ∨ (v = 0 ∧ zRg (zbs b_ n_ P_) (0, (ze Mz 1 2).toNat, []) zMf))))) := by
    intro n
    induction n with
    | zero =>
      intro u1_ hu1_a hu1_b N2_ hs3_ i4_ i5_ i6_ i7_ h0
      exact absurd h0 (Nat.not_lt_zero _)
    | succ n ih_2 =>
      intro u1_ hu1_a hu1_b N2_ hs3_ i4_ i5_ i6_ i7_ hlt_2
      have hf_N2_ : zFc d_ [(1, 2), (1, 3), (1, 4), (1, 5), (4, 2), (4, 3)] [] [(1, 6), (1, 7)] [3, 5] Mz N2_ := hf.tr hs3_ (by decide) (by decide) (by decide) (by decide)
      have rA1_2_N2_ := ze_r N2_ 1 2
      have rA1_3_N2_ := ze_r N2_ 1 3
      have eD1_5_N2_ : ze N2_ (d_ + 1) 5 = ze Mz (d_ + 1) 5 := hs3_.e (by decide)
      have rD1_6_N2_ := ze_r N2_ (d_ + 1) 6
      have c8_ : zYb b_ n_ N2_ := zYb.fr (hf.w hW) hs3_ p0_ (by decide)
      obtain ⟨mv_, hre_, hmv_, hgg_, hpm_⟩ := (show ∃ mv : List Nat, zRg (zbs b_ n_ P_) (0, (ze Mz 1 2).toNat, []) (0, (ze N2_ 1 2).toNat, mv) ∧ zMvK mv P_ d_ N2_ ∧ zGg mv P_ d_ N2_ ∧ ∀ g ∈ mv, gpm g by assumption)
      obtain ⟨⟨hQ0_, hQ1_, hQ6_⟩, hd1_, hd2_, hd3_⟩ := id hmv_
      refine zw_iload_n (pc := 2) (n := 2) (x := Int32.ofInt u1_) rfl (zdal_p dlA_Reader_readMoves_96 (i := 2) rfl) ?_
      refine zw_iconst (pc := 3) (v := Int32.ofInt 4) (by decide) (zdal_p dlA_Reader_readMoves_96 (i := 3) rfl) ?_
      refine zr_icmp_gt (pc := 4) (tgt := 106) ⟨hu1_a, hu1_b⟩ ⟨(by decide), (by decide)⟩ (by decide) (zdal_p dlA_Reader_readMoves_96 (i := 4) rfl) (fun hc_4 => ?_) (fun hc_4 => ?_)
      · skip
        refine zw_iconst (pc := 106) (v := Int32.ofInt 1) (by decide) (zdal_p dlA_Reader_readMoves_98 (i := 5) rfl) ?_
        exact zk_iret (pc := 107) (ty := .boolean) rfl (z_narB (by (decide))) ⟨by (decide), by (decide)⟩ hf_N2_ ⟨i6_, (show ((1 = 1 ∧ (∃ mv : List Nat, zRg (zbs b_ n_ P_) (0, (ze Mz 1 2).toNat, []) (1, (ze N2_ 1 2).toNat, mv) ∧ zMvK mv P_ d_ N2_ ∧ zGg mv P_ d_ N2_ ∧ ∀ g ∈ mv, gpm g)) ∨ (1 = 0 ∧ zRg (zbs b_ n_ P_) (0, (ze Mz 1 2).toNat, []) zMf)) from Or.inl (⟨(show 1 = 1 by first | rfl | exact ⟨mv_, hre_.tr (zRg.st (zbs_e hl1_)), hmv_, hgg_, hpm_⟩ | (exfalso; omega)), (show (∃ mv : List Nat, zRg (zbs b_ n_ P_) (0, (ze Mz 1 2).toNat, []) (1, (ze N2_ 1 2).toNat, mv) ∧ zMvK mv P_ d_ N2_ ∧ zGg mv P_ d_ N2_ ∧ ∀ g ∈ mv, gpm g) by first | rfl | exact ⟨mv_, hre_.tr (zRg.st (zbs_e hl1_)), hmv_, hgg_, hpm_⟩ | (exfalso; omega))⟩))⟩ (zdal_p dlA_Reader_readMoves_98 (i := 6) rfl)
      · skip
        refine zw_aload_n (pc := 7) (n := 0) (x := 4) rfl (zdal_p dlA_Reader_readMoves_96 (i := 5) rfl) ?_
        refine zw_getF (pc := 8) f_Reader_15 rfl ((hf_N2_.w hW).ka (o := 4) (by decide)) ((hf_N2_.w hW).la (o := 4) (s := 0) (r := 1) (by decide)) (zdal_p dlA_Reader_readMoves_96 (i := 6) rfl) ?_
        refine zw_ldcs (pc := 11) (i := 1) (List.mem_of_getElem? (i := 1) rfl) (zdal_p dlA_Reader_readMoves_96 (i := 7) rfl) ?_
        refine zk_callV hf_N2_.x (pc := 13) [.ref (zK 1)] [] l_Reader_49 (u_Tokens_isWord l d_ N2_ (hf_N2_.w hW) 1 (by decide) b_ n_ c8_ i6_) rfl rfl ((hf_N2_.w hW).ka (o := 1) (by decide)) (by decide) (by decide) (Nat.le_of_ble_eq_true rfl) (zdal_p dlA_Reader_readMoves_96 (i := 8) rfl) ?_
        rintro _ N9_ ⟨v10_, rfl, ⟨hv10_a, hv10_b⟩, hsN9_, hp0_N9_⟩
        obtain rfl := hsN9_.eq.symm
        replace hp0_N9_ : ((v10_ = 1 ∧ zkd b_ n_ (ze N2_ 1 2).toNat = 1 ∧ zkey b_ n_ (ze N2_ 1 2).toNat = zkw 1) ∨ (v10_ = 0 ∧ ¬ (zkd b_ n_ (ze N2_ 1 2).toNat = 1 ∧ zkey b_ n_ (ze N2_ 1 2).toNat = zkw 1))) := hp0_N9_
        rcases hp0_N9_ with ⟨rfl, ha13_0_hp0_N9_, ha13_1_hp0_N9_⟩ | ⟨rfl, ha13_0_hp0_N9_⟩
        · skip
          have hl0_ : zkd b_ n_ (ze N2_ 1 2).toNat = 1 ∧ zkey b_ n_ (ze N2_ 1 2).toNat = zkw 1 := ⟨ha13_0_hp0_N9_, ha13_1_hp0_N9_⟩
          show zW l m_Reader_readMoves (zn Mz + 0, zw Mz + 0) N2_ 16 [some (.ref 4), some (.ref (d_ + 0)), some (.int (Int32.ofInt u1_)), none, none] [.int (Int32.ofInt 1)] _
          refine zr_if_eq (pc := 16) (tgt := 106) ⟨(by decide), (by decide)⟩ (by decide) (zdal_p dlA_Reader_readMoves_96 (i := 9) rfl) (fun hc_16 => ?_) (fun hc_16 => ?_)
          · skip
            exact absurd hc_16 (by decide)
          · skip
            refine zw_aload_n (pc := 19) (n := 0) (x := 4) rfl (zdal_p dlA_Reader_readMoves_96 (i := 10) rfl) ?_
            refine zw_getF (pc := 20) f_Reader_15 rfl ((hf_N2_.w hW).ka (o := 4) (by decide)) ((hf_N2_.w hW).la (o := 4) (s := 0) (r := 1) (by decide)) (zdal_p dlA_Reader_readMoves_96 (i := 11) rfl) ?_
            refine zk_getI (pc := 23) f_Reader_30 rfl ((hf_N2_.w hW).ka (o := 1) (by decide)) (zdal_p dlA_Reader_readMoves_96 (i := 12) rfl) ?_
            refine zw_istore_n (pc := 26) (i := 3) (L2 := [some (.ref 4), some (.ref (d_ + 0)), some (.int (Int32.ofInt u1_)), some (.int (Int32.ofInt (ze N2_ 1 2))), none]) rfl (by decide) rfl (zdal_p dlA_Reader_readMoves_96 (i := 13) rfl) ?_
            refine zw_aload_n (pc := 27) (n := 1) (x := (d_ + 0)) rfl (zdal_p dlA_Reader_readMoves_96 (i := 14) rfl) ?_
            refine zw_getF (pc := 28) f_Reader_71 rfl ((hf_N2_.w hW).kr (o := 0) (by decide)) ((hf_N2_.w hW).lr (o := 0) (s := 0) (r := 1) (by decide)) (zdal_p dlA_Reader_readMoves_96 (i := 15) rfl) ?_
            refine zk_getI (pc := 31) f_Reader_75 rfl ((hf_N2_.w hW).kr (o := 1) (by decide)) (zdal_p dlA_Reader_readMoves_96 (i := 16) rfl) ?_
            refine zw_iconst (pc := 34) (v := Int32.ofInt 4) (by decide) (zdal_p dlA_Reader_readMoves_96 (i := 17) rfl) ?_
            refine zr_icmp_lt (pc := 35) (tgt := 44) ⟨(ze_r N2_ (d_ + 1) 6).1, (ze_r N2_ (d_ + 1) 6).2⟩ ⟨(by decide), (by decide)⟩ (by decide) (zdal_p dlA_Reader_readMoves_96 (i := 18) rfl) (fun hc_35 => ?_) (fun hc_35 => ?_)
            · skip
              have hyt_ := i6_
              have hyx_ := hyt_.x
              refine zw_aload_n (pc := 44) (n := 0) (x := 4) rfl (zdal_p dlA_Reader_readMoves_96 (i := 23) rfl) ?_
              refine zw_getF (pc := 45) f_Reader_15 rfl ((hf_N2_.w hW).ka (o := 4) (by decide)) ((hf_N2_.w hW).la (o := 4) (s := 0) (r := 1) (by decide)) (zdal_p dlA_Reader_readMoves_97 (i := 0) rfl) ?_
              refine zk_callV hf_N2_.x (pc := 48) [] [] l_Reader_44 (u_Tokens_step l d_ N2_ (hf_N2_.w hW) b_ n_ c8_ (show 0 ≤ ze N2_ 1 3 by first | assumption | (exact zo_57 hyx_.2.1)) (show ze N2_ 1 3 ≤ n_ by first | assumption | (exact zo_277 hyx_.2.2 rA1_3_N2_.2))) rfl rfl ((hf_N2_.w hW).ka (o := 1) (by decide)) (by decide) (by decide) (Nat.le_of_ble_eq_true rfl) (zdal_p dlA_Reader_readMoves_97 (i := 1) rfl) ?_
              rintro _ N11_ ⟨rfl, hsN11_, ⟨hp0_N11_, hp1_N11_⟩⟩
              have hf_N11_ : zFc d_ [(1, 2), (1, 3), (1, 4), (1, 5), (4, 2), (4, 3)] [] [(1, 6), (1, 7)] [3, 5] Mz N11_ := hf_N2_.tr hsN11_ (by decide) (by decide) (by decide) (by decide)
              have hb0_N11_ : zFc d_ [(1, 2), (1, 3), (1, 4), (1, 5), (4, 2), (4, 3)] [] [(1, 6), (1, 7)] [3, 5] Mz N11_ := hs3_.tr hsN11_ (by decide) (by decide) (by decide) (by decide)
              have rA1_2_N11_ := ze_r N11_ 1 2
              have rA1_3_N11_ := ze_r N11_ 1 3
              have eD1_5_N11_ : ze N11_ (d_ + 1) 5 = ze N2_ (d_ + 1) 5 := hsN11_.e (by decide)
              have eD1_6_N11_ : ze N11_ (d_ + 1) 6 = ze N2_ (d_ + 1) 6 := hsN11_.e (by decide)
              have c13_ : zYb b_ n_ N11_ := zYb.fr (hf_N2_.w hW) hsN11_ c8_ (by decide)
              have c14_ : zMvK mv_ P_ d_ N11_ := zMvK.fr (hf_N2_.w hW) hsN11_ hmv_ (by decide)
              have c15_ : zGg mv_ P_ d_ N11_ := zGg.fr (hf_N2_.w hW) hsN11_ hgg_ (by decide)
              show zW l m_Reader_readMoves (zn Mz + 0, zw Mz + 0) N11_ 51 [some (.ref 4), some (.ref (d_ + 0)), some (.int (Int32.ofInt u1_)), some (.int (Int32.ofInt (ze N2_ 1 2))), none] [] _
              have hnn_ := hyt_.n hp0_N11_
              have hx1_ : (ze N11_ 1 2).toNat = znx b_ n_ (ze N2_ 1 2).toNat := hnn_.2.trans (by rw [show ze N2_ 1 2 = ze N2_ 1 2 by (exact zo_62)])
              refine zw_aload_n (pc := 51) (n := 0) (x := 4) rfl (zdal_p dlA_Reader_readMoves_97 (i := 2) rfl) ?_
              refine zw_aload_n (pc := 52) (n := 1) (x := (d_ + 0)) rfl (zdal_p dlA_Reader_readMoves_97 (i := 3) rfl) ?_
              refine zw_getF (pc := 53) f_Reader_71 rfl ((hf_N11_.w hW).kr (o := 0) (by decide)) ((hf_N11_.w hW).lr (o := 0) (s := 0) (r := 1) (by decide)) (zdal_p dlA_Reader_readMoves_97 (i := 4) rfl) ?_
              refine zk_getI (pc := 56) f_Reader_80 rfl ((hf_N11_.w hW).kr (o := 1) (by decide)) (zdal_p dlA_Reader_readMoves_97 (i := 5) rfl) ?_
              rw [hf_N11_.e (by decide)]
              refine zk_callV hf_N11_.x (pc := 59) [.int (Int32.ofInt (ze Mz (d_ + 1) 5))] [] l_Reader_82 (u_Reader_readMove l d_ N11_ (hf_N11_.w hW) (ze Mz (d_ + 1) 5) (ze_r Mz (d_ + 1) 5).1 (ze_r Mz (d_ + 1) 5).2 b_ n_ P_ c13_ hp1_N11_ (show (ze Mz (d_ + 1) 5) = P_ by first | assumption | omega) (show P_ ≤ 6 by first | assumption | omega)) rfl rfl ((hf_N11_.w hW).ka (o := 4) (by decide)) (by decide) (by decide) (Nat.le_of_ble_eq_true rfl) (zdal_p dlA_Reader_readMoves_97 (i := 6) rfl) ?_
              rintro _ N16_ ⟨v17_, rfl, ⟨hv17_a, hv17_b⟩, hsN16_, ⟨hp0_N16_, hp1_N16_⟩⟩
              have hf_N16_ : zFc d_ [(1, 2), (1, 3), (1, 4), (1, 5), (4, 2), (4, 3)] [] [(1, 6), (1, 7)] [3, 5] Mz N16_ := hf_N11_.tr hsN16_ (by decide) (by decide) (by decide) (by decide)
              have hb0_N16_ : zFc d_ [(1, 2), (1, 3), (1, 4), (1, 5), (4, 2), (4, 3)] [] [(1, 6), (1, 7)] [3, 5] Mz N16_ := hb0_N11_.tr hsN16_ (by decide) (by decide) (by decide) (by decide)
              have rA1_2_N16_ := ze_r N16_ 1 2
              have rA1_3_N16_ := ze_r N16_ 1 3
              have eD1_5_N16_ : ze N16_ (d_ + 1) 5 = ze N11_ (d_ + 1) 5 := hsN16_.e (by decide)
              have eD1_6_N16_ : ze N16_ (d_ + 1) 6 = ze N11_ (d_ + 1) 6 := hsN16_.e (by decide)
              have c18_ : zYb b_ n_ N16_ := zYb.fr (hf_N11_.w hW) hsN16_ c13_ (by decide)
              have c19_ : zMvK mv_ P_ d_ N16_ := zMvK.fr (hf_N11_.w hW) hsN16_ c14_ (by decide)
              have c20_ : zGg mv_ P_ d_ N16_ := zGg.fr (hf_N11_.w hW) hsN16_ c15_ (by decide)
              rcases hp1_N16_ with ⟨rfl, ha59_0_hp1_N16_⟩ | ⟨ha59_0_hp1_N16_, ha59_1_hp1_N16_⟩
              · skip
                have hr0_ := ha59_0_hp1_N16_
                rw [hx1_] at hr0_
                have hrt_ := hre_.tr (zRg.st (zbs_n hl0_ hr0_))
                show zW l m_Reader_readMoves (zn Mz + 0, zw Mz + 0) N16_ 62 [some (.ref 4), some (.ref (d_ + 0)), some (.int (Int32.ofInt u1_)), some (.int (Int32.ofInt (ze N2_ 1 2))), none] [.int (Int32.ofInt ((-1)))] _
                refine zw_istore (pc := 62) (i := 4) (L2 := [some (.ref 4), some (.ref (d_ + 0)), some (.int (Int32.ofInt u1_)), some (.int (Int32.ofInt (ze N2_ 1 2))), some (.int (Int32.ofInt ((-1))))]) (by decide) rfl (zdal_p dlA_Reader_readMoves_97 (i := 7) rfl) ?_
                refine zw_iload (pc := 64) (i := 4) (x := Int32.ofInt ((-1))) rfl (zdal_p dlA_Reader_readMoves_97 (i := 8) rfl) ?_
                refine zw_iconst (pc := 66) (v := Int32.ofInt (-1)) (by decide) (zdal_p dlA_Reader_readMoves_97 (i := 9) rfl) ?_
                refine zr_icmp_eq (pc := 67) (tgt := 79) ⟨(by decide), (by decide)⟩ ⟨(by decide), (by decide)⟩ (by decide) (zdal_p dlA_Reader_readMoves_97 (i := 10) rfl) (fun hc_67 => ?_) (fun hc_67 => ?_)
                · skip
                  refine zw_iconst (pc := 79) (v := Int32.ofInt 0) (by decide) (zdal_p dlA_Reader_readMoves_97 (i := 15) rfl) ?_
                  exact zk_iret (pc := 80) (ty := .boolean) rfl (z_narB (by (decide))) ⟨by (decide), by (decide)⟩ hf_N16_ ⟨hp0_N16_, (show ((0 = 1 ∧ (∃ mv : List Nat, zRg (zbs b_ n_ P_) (0, (ze Mz 1 2).toNat, []) (1, (ze N16_ 1 2).toNat, mv) ∧ zMvK mv P_ d_ N16_ ∧ zGg mv P_ d_ N16_ ∧ ∀ g ∈ mv, gpm g)) ∨ (0 = 0 ∧ zRg (zbs b_ n_ P_) (0, (ze Mz 1 2).toNat, []) zMf)) from Or.inr (⟨(show 0 = 0 by first | rfl | exact hrt_ | exact hre_.tr (zRg.st (zbs_4 hl0_ (by omega))) | (exfalso; omega)), (show zRg (zbs b_ n_ P_) (0, (ze Mz 1 2).toNat, []) zMf by first | rfl | exact hrt_ | exact hre_.tr (zRg.st (zbs_4 hl0_ (by omega))) | (exfalso; omega))⟩))⟩ (zdal_p dlA_Reader_readMoves_97 (i := 16) rfl)
                · skip
                  exact absurd hc_67 (by decide)
              · skip
                have hr0_ := ha59_0_hp1_N16_
                obtain ⟨l_, hr1_, hr2_, hr3_, hr4_⟩ := ha59_1_hp1_N16_
                rw [hx1_] at hr1_
                obtain ⟨hr5_, hr6_⟩ := zmc_z (by (exact hP6_)) hr2_ hr3_
                rw [← hr4_] at hr5_ hr6_
                show zW l m_Reader_readMoves (zn Mz + 0, zw Mz + 0) N16_ 62 [some (.ref 4), some (.ref (d_ + 0)), some (.int (Int32.ofInt u1_)), some (.int (Int32.ofInt (ze N2_ 1 2))), none] [.int (Int32.ofInt v17_)] _
                refine zw_istore (pc := 62) (i := 4) (L2 := [some (.ref 4), some (.ref (d_ + 0)), some (.int (Int32.ofInt u1_)), some (.int (Int32.ofInt (ze N2_ 1 2))), some (.int (Int32.ofInt v17_))]) (by decide) rfl (zdal_p dlA_Reader_readMoves_97 (i := 7) rfl) ?_
                refine zw_iload (pc := 64) (i := 4) (x := Int32.ofInt v17_) rfl (zdal_p dlA_Reader_readMoves_97 (i := 8) rfl) ?_
                refine zw_iconst (pc := 66) (v := Int32.ofInt (-1)) (by decide) (zdal_p dlA_Reader_readMoves_97 (i := 9) rfl) ?_
                refine zr_icmp_eq (pc := 67) (tgt := 79) ⟨hv17_a, hv17_b⟩ ⟨(by decide), (by decide)⟩ (by decide) (zdal_p dlA_Reader_readMoves_97 (i := 10) rfl) (fun hc_67 => ?_) (fun hc_67 => ?_)
                · skip
                  refine zw_iconst (pc := 79) (v := Int32.ofInt 0) (by decide) (zdal_p dlA_Reader_readMoves_97 (i := 15) rfl) ?_
                  exact zk_iret (pc := 80) (ty := .boolean) rfl (z_narB (by (decide))) ⟨by (decide), by (decide)⟩ hf_N16_ ⟨hp0_N16_, (show ((0 = 1 ∧ (∃ mv : List Nat, zRg (zbs b_ n_ P_) (0, (ze Mz 1 2).toNat, []) (1, (ze N16_ 1 2).toNat, mv) ∧ zMvK mv P_ d_ N16_ ∧ zGg mv P_ d_ N16_ ∧ ∀ g ∈ mv, gpm g)) ∨ (0 = 0 ∧ zRg (zbs b_ n_ P_) (0, (ze Mz 1 2).toNat, []) zMf)) from Or.inr (⟨(show 0 = 0 by first | rfl | exact hrt_ | exact hre_.tr (zRg.st (zbs_4 hl0_ (by omega))) | (exfalso; omega)), (show zRg (zbs b_ n_ P_) (0, (ze Mz 1 2).toNat, []) zMf by first | rfl | exact hrt_ | exact hre_.tr (zRg.st (zbs_4 hl0_ (by omega))) | (exfalso; omega))⟩))⟩ (zdal_p dlA_Reader_readMoves_97 (i := 16) rfl)
                · skip
                  refine zw_aload_n (pc := 70) (n := 0) (x := 4) rfl (zdal_p dlA_Reader_readMoves_97 (i := 11) rfl) ?_
                  refine zw_bipush (pc := 71) (v := Int32.ofInt 59) (by decide) (zdal_p dlA_Reader_readMoves_97 (i := 12) rfl) ?_
                  refine zk_callV hf_N16_.x (pc := 73) [.int (Int32.ofInt 59)] [] l_Reader_66 (u_Reader_passSign l d_ N16_ (hf_N16_.w hW) 59 (by decide) (by decide) b_ n_ c18_ hp0_N16_) rfl rfl ((hf_N16_.w hW).ka (o := 4) (by decide)) (by decide) (by decide) (Nat.le_of_ble_eq_true rfl) (zdal_p dlA_Reader_readMoves_97 (i := 13) rfl) ?_
                  rintro _ N21_ ⟨v22_, rfl, ⟨hv22_a, hv22_b⟩, hsN21_, ⟨hp0_N21_, hp1_N21_⟩⟩
                  have hf_N21_ : zFc d_ [(1, 2), (1, 3), (1, 4), (1, 5), (4, 2), (4, 3)] [] [(1, 6), (1, 7)] [3, 5] Mz N21_ := hf_N16_.tr hsN21_ (by decide) (by decide) (by decide) (by decide)
                  have hb0_N21_ : zFc d_ [(1, 2), (1, 3), (1, 4), (1, 5), (4, 2), (4, 3)] [] [(1, 6), (1, 7)] [3, 5] Mz N21_ := hb0_N16_.tr hsN21_ (by decide) (by decide) (by decide) (by decide)
                  have rA1_2_N21_ := ze_r N21_ 1 2
                  have rA1_3_N21_ := ze_r N21_ 1 3
                  have eD1_5_N21_ : ze N21_ (d_ + 1) 5 = ze N16_ (d_ + 1) 5 := hsN21_.e (by decide)
                  have eD1_6_N21_ : ze N21_ (d_ + 1) 6 = ze N16_ (d_ + 1) 6 := hsN21_.e (by decide)
                  have c23_ : zYb b_ n_ N21_ := zYb.fr (hf_N16_.w hW) hsN21_ c18_ (by decide)
                  have c24_ : zMvK mv_ P_ d_ N21_ := zMvK.fr (hf_N16_.w hW) hsN21_ c19_ (by decide)
                  have c25_ : zGg mv_ P_ d_ N21_ := zGg.fr (hf_N16_.w hW) hsN21_ c20_ (by decide)
                  rcases hp1_N21_ with ⟨rfl, ha73_0_hp1_N21_, ha73_1_hp1_N21_⟩ | ⟨rfl, ha73_0_hp1_N21_⟩
                  · skip
                    have hs1_ := ha73_0_hp1_N21_
                    have hs2_ := ha73_1_hp1_N21_
                    show zW l m_Reader_readMoves (zn Mz + 0, zw Mz + 0) N21_ 76 [some (.ref 4), some (.ref (d_ + 0)), some (.int (Int32.ofInt u1_)), some (.int (Int32.ofInt (ze N2_ 1 2))), some (.int (Int32.ofInt v17_))] [.int (Int32.ofInt 1)] _
                    refine zr_if_ne (pc := 76) (tgt := 81) ⟨(by decide), (by decide)⟩ (by decide) (zdal_p dlA_Reader_readMoves_97 (i := 14) rfl) (fun hc_76 => ?_) (fun hc_76 => ?_)
                    · skip
                      refine zw_aload_n (pc := 81) (n := 1) (x := (d_ + 0)) rfl (zdal_p dlA_Reader_readMoves_97 (i := 17) rfl) ?_
                      refine zw_getF (pc := 82) f_Reader_71 rfl ((hf_N21_.w hW).kr (o := 0) (by decide)) ((hf_N21_.w hW).lr (o := 0) (s := 0) (r := 1) (by decide)) (zdal_p dlA_Reader_readMoves_97 (i := 18) rfl) ?_
                      refine zw_iload (pc := 85) (i := 4) (x := Int32.ofInt v17_) rfl (zdal_p dlA_Reader_readMoves_97 (i := 19) rfl) ?_
                      refine zk_callV hf_N21_.x (pc := 87) [.int (Int32.ofInt v17_)] [] l_Reader_86 (u_Group_addMove l d_ N21_ (hf_N21_.w hW) v17_ hv17_a hv17_b P_ mv_ c24_ (show zkv P_ v17_ by first | assumption | omega) (show mv_.length ≤ 3 by first | assumption | omega)) rfl rfl ((hf_N21_.w hW).kr (o := 1) (by decide)) (by decide) (by decide) (Nat.le_of_ble_eq_true rfl) (zdal_p dlA_Reader_readMoves_97 (i := 20) rfl) ?_
                      rintro _ N26_ ⟨v27_, rfl, ⟨hv27_a, hv27_b⟩, hsN26_, ⟨hp0_N26_, hp1_N26_⟩⟩
                      have hf_N26_ : zFc d_ [(1, 2), (1, 3), (1, 4), (1, 5), (4, 2), (4, 3)] [] [(1, 6), (1, 7)] [3, 5] Mz N26_ := hf_N21_.tr hsN26_ (by decide) (by decide) (by decide) (by decide)
                      have hb0_N26_ : zFc d_ [(1, 2), (1, 3), (1, 4), (1, 5), (4, 2), (4, 3)] [] [(1, 6), (1, 7)] [3, 5] Mz N26_ := hb0_N21_.tr hsN26_ (by decide) (by decide) (by decide) (by decide)
                      have eA1_2_N26_ : ze N26_ 1 2 = ze N21_ 1 2 := hsN26_.ea (hf_N21_.w hW) (by decide)
                      have eA1_3_N26_ : ze N26_ 1 3 = ze N21_ 1 3 := hsN26_.ea (hf_N21_.w hW) (by decide)
                      have eD1_5_N26_ : ze N26_ (d_ + 1) 5 = ze N21_ (d_ + 1) 5 := hsN26_.e (by decide)
                      have rD1_6_N26_ := ze_r N26_ (d_ + 1) 6
                      have c28_ : zYb b_ n_ N26_ := zYb.fr (hf_N21_.w hW) hsN26_ c23_ (by decide)
                      have c29_ : zYt b_ n_ N26_ := zYt.fr (hf_N21_.w hW) hsN26_ hp0_N21_ (by decide)
                      rcases hp1_N26_ with ⟨rfl, ha87_0_hp1_N26_⟩ | ⟨rfl, ha87_0_hp1_N26_⟩
                      · skip
                        have hf0_ := ha87_0_hp1_N26_
                        have hf1_ := hp0_N26_
                        rw [hr6_] at hf0_ hf1_
                        have hbk_ := hre_.tr (zRg.st (zbs_t hl0_ (by omega) hr1_ ⟨hs1_, hf0_.2.2.2.2⟩))
                        rw [← hs2_, show (ze N21_ 1 2).toNat = (ze N26_ 1 2).toNat by rw [show ze N21_ 1 2 = ze N26_ 1 2 by omega]] at hbk_
                        show zW l m_Reader_readMoves (zn Mz + 0, zw Mz + 0) N26_ 90 [some (.ref 4), some (.ref (d_ + 0)), some (.int (Int32.ofInt u1_)), some (.int (Int32.ofInt (ze N2_ 1 2))), some (.int (Int32.ofInt v17_))] [.int (Int32.ofInt 1)] _
                        refine zr_if_ne (pc := 90) (tgt := 100) ⟨(by decide), (by decide)⟩ (by decide) (zdal_p dlA_Reader_readMoves_97 (i := 21) rfl) (fun hc_90 => ?_) (fun hc_90 => ?_)
                        · skip
                          refine zr_iinc (pc := 100) (i := 2) (a := u1_) (n := 1) (L2 := [some (.ref 4), some (.ref (d_ + 0)), some (.int (Int32.ofInt (u1_ + 1))), some (.int (Int32.ofInt (ze N2_ 1 2))), some (.int (Int32.ofInt v17_))]) rfl (by decide) rfl (zdal_p dlA_Reader_readMoves_98 (i := 3) rfl) ?_
                          refine zw_goto (pc := 103) (tgt := 2) (by decide) (zdal_p dlA_Reader_readMoves_98 (i := 4) rfl) ?_
                          refine zW_le [some (.ref 4), some (.ref (d_ + 0)), some (.int (Int32.ofInt (u1_ + 1))), none, none] (⟨rfl, rfl, rfl, trivial⟩) ?_
                          exact ih_2 (u1_ + 1) (by (exact zo_74 i4_)) (by omega) N26_ hb0_N26_ (show 0 ≤ (u1_ + 1) by first | assumption | (exact zo_76 i4_)) (show (u1_ + 1) ≤ ze N26_ (d_ + 1) 6 by have h1_ := hf1_.2.1; rw [List.length_append, List.length_singleton] at h1_; omega) c29_ (show ∃ mv : List Nat, zRg (zbs b_ n_ P_) (0, (ze Mz 1 2).toNat, []) (0, (ze N26_ 1 2).toNat, mv) ∧ zMvK mv P_ d_ N26_ ∧ zGg mv P_ d_ N26_ ∧ ∀ g ∈ mv, gpm g by exact ⟨_, hbk_, hf1_, hf0_, fun g hg => (List.mem_append.mp hg).elim (hpm_ g) (fun e_ => by rw [List.mem_singleton.mp e_]; exact (zmc_p (by (exact hP6_)) hr3_ hr2_).1)⟩) (by omega)
                        · skip
                          exact absurd hc_90 (by decide)
                      · skip
                        have hf0_ := ha87_0_hp1_N26_
                        rw [hr6_] at hf0_
                        have hrt_ := hre_.tr (zRg.st (zbs_f hl0_ hr1_ (fun q_ => hf0_ q_.2)))
                        show zW l m_Reader_readMoves (zn Mz + 0, zw Mz + 0) N26_ 90 [some (.ref 4), some (.ref (d_ + 0)), some (.int (Int32.ofInt u1_)), some (.int (Int32.ofInt (ze N2_ 1 2))), some (.int (Int32.ofInt v17_))] [.int (Int32.ofInt 0)] _
                        refine zr_if_ne (pc := 90) (tgt := 100) ⟨(by decide), (by decide)⟩ (by decide) (zdal_p dlA_Reader_readMoves_97 (i := 21) rfl) (fun hc_90 => ?_) (fun hc_90 => ?_)
                        · skip
                          exact absurd hc_90 (by decide)
                        · skip
                          refine zw_aload_n (pc := 93) (n := 0) (x := 4) rfl (zdal_p dlA_Reader_readMoves_97 (i := 22) rfl) ?_
                          refine zw_iconst (pc := 94) (v := Int32.ofInt 5) (by decide) (zdal_p dlA_Reader_readMoves_97 (i := 23) rfl) ?_
                          refine zw_iload_n (pc := 95) (n := 3) (x := Int32.ofInt (ze N2_ 1 2)) rfl (zdal_p dlA_Reader_readMoves_98 (i := 0) rfl) ?_
                          refine zk_callV hf_N26_.x (pc := 96) [.int (Int32.ofInt 5), .int (Int32.ofInt (ze N2_ 1 2))] [] l_Reader_33 (u_Reader_refuseAt l d_ N26_ (hf_N26_.w hW) 5 (by decide) (by decide) (ze N2_ 1 2) (ze_r N2_ 1 2).1 (ze_r N2_ 1 2).2) rfl rfl ((hf_N26_.w hW).ka (o := 4) (by decide)) (by decide) (by decide) (Nat.le_of_ble_eq_true rfl) (zdal_p dlA_Reader_readMoves_98 (i := 1) rfl) ?_
                          rintro _ N30_ ⟨v31_, rfl, ⟨hv31_a, hv31_b⟩, hsN30_, hp0_N30_⟩
                          replace hp0_N30_ : ((v31_ = 0)) := hp0_N30_
                          have hf_N30_ : zFc d_ [(1, 2), (1, 3), (1, 4), (1, 5), (4, 2), (4, 3)] [] [(1, 6), (1, 7)] [3, 5] Mz N30_ := hf_N26_.tr hsN30_ (by decide) (by decide) (by decide) (by decide)
                          have eA1_2_N30_ : ze N30_ 1 2 = ze N26_ 1 2 := hsN30_.ea (hf_N26_.w hW) (by decide)
                          have eA1_3_N30_ : ze N30_ 1 3 = ze N26_ 1 3 := hsN30_.ea (hf_N26_.w hW) (by decide)
                          have eD1_5_N30_ : ze N30_ (d_ + 1) 5 = ze N26_ (d_ + 1) 5 := hsN30_.e (by decide)
                          have eD1_6_N30_ : ze N30_ (d_ + 1) 6 = ze N26_ (d_ + 1) 6 := hsN30_.e (by decide)
                          have c32_ : zYb b_ n_ N30_ := zYb.fr (hf_N26_.w hW) hsN30_ c28_ (by decide)
                          have c33_ : zYt b_ n_ N30_ := zYt.fr (hf_N26_.w hW) hsN30_ c29_ (by decide)
                          rcases hp0_N30_ with rfl
                          · skip
                            show zW l m_Reader_readMoves (zn Mz + 0, zw Mz + 0) N30_ 99 [some (.ref 4), some (.ref (d_ + 0)), some (.int (Int32.ofInt u1_)), some (.int (Int32.ofInt (ze N2_ 1 2))), some (.int (Int32.ofInt v17_))] [.int (Int32.ofInt 0)] _
                            exact zk_iret (pc := 99) (ty := .boolean) rfl (z_narB (by (decide))) ⟨by (exact hv27_a), by (exact hv27_b)⟩ hf_N30_ ⟨c33_, (show ((0 = 1 ∧ (∃ mv : List Nat, zRg (zbs b_ n_ P_) (0, (ze Mz 1 2).toNat, []) (1, (ze N30_ 1 2).toNat, mv) ∧ zMvK mv P_ d_ N30_ ∧ zGg mv P_ d_ N30_ ∧ ∀ g ∈ mv, gpm g)) ∨ (0 = 0 ∧ zRg (zbs b_ n_ P_) (0, (ze Mz 1 2).toNat, []) zMf)) from Or.inr (⟨(show 0 = 0 by first | rfl | exact hrt_ | exact hre_.tr (zRg.st (zbs_4 hl0_ (by omega))) | (exfalso; omega)), (show zRg (zbs b_ n_ P_) (0, (ze Mz 1 2).toNat, []) zMf by first | rfl | exact hrt_ | exact hre_.tr (zRg.st (zbs_4 hl0_ (by omega))) | (exfalso; omega))⟩))⟩ (zdal_p dlA_Reader_readMoves_98 (i := 2) rfl)
                    · skip
                      exact absurd hc_76 (by decide)
                  · skip
                    have hrt_ := hre_.tr (zRg.st (zbs_f hl0_ hr1_ (fun q_ => ha73_0_hp1_N21_ q_.1)))
                    show zW l m_Reader_readMoves (zn Mz + 0, zw Mz + 0) N21_ 76 [some (.ref 4), some (.ref (d_ + 0)), some (.int (Int32.ofInt u1_)), some (.int (Int32.ofInt (ze N2_ 1 2))), some (.int (Int32.ofInt v17_))] [.int (Int32.ofInt 0)] _
                    refine zr_if_ne (pc := 76) (tgt := 81) ⟨(by decide), (by decide)⟩ (by decide) (zdal_p dlA_Reader_readMoves_97 (i := 14) rfl) (fun hc_76 => ?_) (fun hc_76 => ?_)
                    · skip
                      exact absurd hc_76 (by decide)
                    · skip
                      refine zw_iconst (pc := 79) (v := Int32.ofInt 0) (by decide) (zdal_p dlA_Reader_readMoves_97 (i := 15) rfl) ?_
                      exact zk_iret (pc := 80) (ty := .boolean) rfl (z_narB (by (decide))) ⟨by (exact hv22_a), by (exact hv22_b)⟩ hf_N21_ ⟨hp0_N21_, (show ((0 = 1 ∧ (∃ mv : List Nat, zRg (zbs b_ n_ P_) (0, (ze Mz 1 2).toNat, []) (1, (ze N21_ 1 2).toNat, mv) ∧ zMvK mv P_ d_ N21_ ∧ zGg mv P_ d_ N21_ ∧ ∀ g ∈ mv, gpm g)) ∨ (0 = 0 ∧ zRg (zbs b_ n_ P_) (0, (ze Mz 1 2).toNat, []) zMf)) from Or.inr (⟨(show 0 = 0 by first | rfl | exact hrt_ | exact hre_.tr (zRg.st (zbs_4 hl0_ (by omega))) | (exfalso; omega)), (show zRg (zbs b_ n_ P_) (0, (ze Mz 1 2).toNat, []) zMf by first | rfl | exact hrt_ | exact hre_.tr (zRg.st (zbs_4 hl0_ (by omega))) | (exfalso; omega))⟩))⟩ (zdal_p dlA_Reader_readMoves_97 (i := 16) rfl)
            · skip
              refine zw_aload_n (pc := 38) (n := 0) (x := 4) rfl (zdal_p dlA_Reader_readMoves_96 (i := 19) rfl) ?_
              refine zw_iconst (pc := 39) (v := Int32.ofInt 5) (by decide) (zdal_p dlA_Reader_readMoves_96 (i := 20) rfl) ?_
              refine zk_callV hf_N2_.x (pc := 40) [.int (Int32.ofInt 5)] [] l_Reader_41 (u_Reader_refuse l d_ N2_ (hf_N2_.w hW) 5 (by decide) (by decide)) rfl rfl ((hf_N2_.w hW).ka (o := 4) (by decide)) (by decide) (by decide) (Nat.le_of_ble_eq_true rfl) (zdal_p dlA_Reader_readMoves_96 (i := 21) rfl) ?_
              rintro _ N34_ ⟨v35_, rfl, ⟨hv35_a, hv35_b⟩, hsN34_, hp0_N34_⟩
              replace hp0_N34_ : ((v35_ = 0)) := hp0_N34_
              have hf_N34_ : zFc d_ [(1, 2), (1, 3), (1, 4), (1, 5), (4, 2), (4, 3)] [] [(1, 6), (1, 7)] [3, 5] Mz N34_ := hf_N2_.tr hsN34_ (by decide) (by decide) (by decide) (by decide)
              have eA1_2_N34_ : ze N34_ 1 2 = ze N2_ 1 2 := hsN34_.ea (hf_N2_.w hW) (by decide)
              have eA1_3_N34_ : ze N34_ 1 3 = ze N2_ 1 3 := hsN34_.ea (hf_N2_.w hW) (by decide)
              have eD1_5_N34_ : ze N34_ (d_ + 1) 5 = ze N2_ (d_ + 1) 5 := hsN34_.e (by decide)
              have eD1_6_N34_ : ze N34_ (d_ + 1) 6 = ze N2_ (d_ + 1) 6 := hsN34_.e (by decide)
              have c36_ : zYb b_ n_ N34_ := zYb.fr (hf_N2_.w hW) hsN34_ c8_ (by decide)
              have c37_ : zYt b_ n_ N34_ := zYt.fr (hf_N2_.w hW) hsN34_ i6_ (by decide)
              have c38_ : zMvK mv_ P_ d_ N34_ := zMvK.fr (hf_N2_.w hW) hsN34_ hmv_ (by decide)
              have c39_ : zGg mv_ P_ d_ N34_ := zGg.fr (hf_N2_.w hW) hsN34_ hgg_ (by decide)
              rcases hp0_N34_ with rfl
              · skip
                show zW l m_Reader_readMoves (zn Mz + 0, zw Mz + 0) N34_ 43 [some (.ref 4), some (.ref (d_ + 0)), some (.int (Int32.ofInt u1_)), some (.int (Int32.ofInt (ze N2_ 1 2))), none] [.int (Int32.ofInt 0)] _
                exact zk_iret (pc := 43) (ty := .boolean) rfl (z_narB (by (decide))) ⟨by (exact hv35_a), by (exact hv35_b)⟩ hf_N34_ ⟨c37_, (show ((0 = 1 ∧ (∃ mv : List Nat, zRg (zbs b_ n_ P_) (0, (ze Mz 1 2).toNat, []) (1, (ze N34_ 1 2).toNat, mv) ∧ zMvK mv P_ d_ N34_ ∧ zGg mv P_ d_ N34_ ∧ ∀ g ∈ mv, gpm g)) ∨ (0 = 0 ∧ zRg (zbs b_ n_ P_) (0, (ze Mz 1 2).toNat, []) zMf)) from Or.inr (⟨(show 0 = 0 by first | rfl | exact hrt_ | exact hre_.tr (zRg.st (zbs_4 hl0_ (by omega))) | (exfalso; omega)), (show zRg (zbs b_ n_ P_) (0, (ze Mz 1 2).toNat, []) zMf by first | rfl | exact hrt_ | exact hre_.tr (zRg.st (zbs_4 hl0_ (by omega))) | (exfalso; omega))⟩))⟩ (zdal_p dlA_Reader_readMoves_96 (i := 22) rfl)
        · skip
          have hl1_ := ha13_0_hp0_N9_
          show zW l m_Reader_readMoves (zn Mz + 0, zw Mz + 0) N2_ 16 [some (.ref 4), some (.ref (d_ + 0)), some (.int (Int32.ofInt u1_)), none, none] [.int (Int32.ofInt 0)] _
          refine zr_if_eq (pc := 16) (tgt := 106) ⟨(by decide), (by decide)⟩ (by decide) (zdal_p dlA_Reader_readMoves_96 (i := 9) rfl) (fun hc_16 => ?_) (fun hc_16 => ?_)
          · skip
            refine zw_iconst (pc := 106) (v := Int32.ofInt 1) (by decide) (zdal_p dlA_Reader_readMoves_98 (i := 5) rfl) ?_
            exact zk_iret (pc := 107) (ty := .boolean) rfl (z_narB (by (decide))) ⟨by (decide), by (decide)⟩ hf_N2_ ⟨i6_, (show ((1 = 1 ∧ (∃ mv : List Nat, zRg (zbs b_ n_ P_) (0, (ze Mz 1 2).toNat, []) (1, (ze N2_ 1 2).toNat, mv) ∧ zMvK mv P_ d_ N2_ ∧ zGg mv P_ d_ N2_ ∧ ∀ g ∈ mv, gpm g)) ∨ (1 = 0 ∧ zRg (zbs b_ n_ P_) (0, (ze Mz 1 2).toNat, []) zMf)) from Or.inl (⟨(show 1 = 1 by first | rfl | exact ⟨mv_, hre_.tr (zRg.st (zbs_e hl1_)), hmv_, hgg_, hpm_⟩ | (exfalso; omega)), (show (∃ mv : List Nat, zRg (zbs b_ n_ P_) (0, (ze Mz 1 2).toNat, []) (1, (ze N2_ 1 2).toNat, mv) ∧ zMvK mv P_ d_ N2_ ∧ zGg mv P_ d_ N2_ ∧ ∀ g ∈ mv, gpm g) by first | rfl | exact ⟨mv_, hre_.tr (zRg.st (zbs_e hl1_)), hmv_, hgg_, hpm_⟩ | (exfalso; omega))⟩))⟩ (zdal_p dlA_Reader_readMoves_98 (i := 6) rfl)
          · skip
            exact absurd hc_16 (by decide)
  exact lp_2 _ 0 (by decide) (by decide) Mz zFc.rf (show 0 ≤ (0 : Int) by first | assumption | (decide)) (show (0 : Int) ≤ ze Mz (d_ + 1) 6 by first | assumption | (exact zo_2336 hc1_ r_D1_6.1)) p1_ (show ∃ mv : List Nat, zRg (zbs b_ n_ P_) (0, (ze Mz 1 2).toNat, []) (0, (ze Mz 1 2).toNat, mv) ∧ zMvK mv P_ d_ Mz ∧ zGg mv P_ d_ Mz ∧ ∀ g ∈ mv, gpm g by exact ⟨[], zRg.rf, p2_, p3_, fun g hg => absurd hg List.not_mem_nil⟩) (Nat.lt_succ_self _)
def gTb (mv : List Nat) (c : Nat → Nat) (T : zGT) : Prop := T ∈ gTabs ∧ (∀ x, gGen mv x ↔ ∃ i, i < gN T ∧ c i = x) ∧ (∀ i j, i < j → j < gN T → c i < c j) ∧ (∀ a b, a < gN T → b < gN T → gm T a b < gN T ∧ c (gm T a b) = gco (c a) (c b)) ∧ ∀ a, a < gN T → gi T a < gN T ∧ gm T a (gi T a) = 0
def zTm (mv : List Nat) (T : zGT) : Prop := ∃ c, gTb mv c T
theorem gTb_i {mv : List Nat} {c : Nat → Nat} {n : Nat} (hp : ∀ g ∈ mv, gpm g) (hF : gFin mv) (hs : ∀ x, gGen mv x ↔ ∃ i, i < n ∧ c i = x) (hc : ∀ i j, i < j → j < n → c i < c j) : ∃ T, gTb mv c T ∧ gN T = n := by
  obtain ⟨e, he, hex⟩ := gcls gGL_w mv hp hF
  obtain ⟨d1, d2, d3, d4, T, hT, t1, t2, t3⟩ := gGL_d e he
  have hset : ∀ y, (∃ i, i < n ∧ c i = y) ↔ (∃ i, i < en e ∧ kL (eL e) i = y) := by
    intro y
    have h1 := hs y
    have h2 := hex y
    constructor
    · intro h
      exact h2.mp (h1.mpr h)
    · intro hy
      exact h1.mp (h2.mpr hy)
  have u1 := gsort_u (a := c) (b := fun i => kL (eL e) i) hc d3 hset
  have u2 := gsort_u (a := fun i => kL (eL e) i) (b := c) d3 hc (fun y => (hset y).symm)
  have hl : n = en e := by
    refine Nat.le_antisymm ?_ ?_
    · rcases Nat.lt_or_ge (en e) n with g | g
      · have := (u1 _ g).1; omega
      · exact g
    · rcases Nat.lt_or_ge n (en e) with g | g
      · have := (u2 _ g).1; omega
      · exact g
  have hn : gN T = n := by omega
  refine ⟨T, ⟨hT, fun x => by rw [hn]; exact hs x, fun i j h1 h2 => hc i j h1 (by omega), fun a b h1 h2 => ?_, fun a h1 => ?_⟩, hn⟩
  · obtain ⟨v1, v2⟩ := t2 a b (by omega) (by omega)
    refine ⟨by omega, ?_⟩
    rw [(u1 _ (by omega : gm T a b < n)).2, (u1 a (by omega)).2, (u1 b (by omega)).2]
    exact v2
  · obtain ⟨v1, v2⟩ := t3 a (by omega)
    exact ⟨by omega, v2⟩
def gdj : List zGT → Bool
  | [] => true
  | T :: l => l.all (fun U => !(Nat.beq T.1 U.1 && Nat.beq T.2.1 U.2.1)) && gdj l
def gnz (T : zGT) : Bool := Nat.ble (gN T) 24 && Nat.blt T.2.1 (2 ^ (120 * gN T)) && (List.range (gN T)).all (fun a => Nat.beq ((T.2.1 >>> (5 * (24 * a + gN T))) % 2 ^ (5 * (24 - gN T))) 0)
theorem gTabs_dj : gdj gTabs = true := by decide +kernel
theorem gTabs_nz : gTabs.all gnz = true := by decide +kernel
theorem gdj_u : ∀ (l : List zGT), gdj l = true → ∀ T ∈ l, ∀ U ∈ l, T.1 = U.1 → T.2.1 = U.2.1 → T = U
  | [], _, T, hT, _, _, _, _ => absurd hT List.not_mem_nil
  | X :: l, h, T, hT, U, hU, e1, e2 => by
    have h' : (l.all (fun U => !(Nat.beq X.1 U.1 && Nat.beq X.2.1 U.2.1)) && gdj l) = true := h
    rw [Bool.and_eq_true, List.all_eq_true] at h'
    obtain ⟨h1, h2⟩ := h'
    have hX : ∀ Y ∈ l, X.1 = Y.1 → X.2.1 = Y.2.1 → False := fun Y hY f1 f2 => by
      have := h1 Y hY
      rw [f1, f2, Nat.beq_refl, Nat.beq_refl] at this
      exact absurd this (by decide)
    rcases List.mem_cons.mp hT with q1 | q1
    · rcases List.mem_cons.mp hU with q2 | q2
      · rw [q1, q2]
      · rw [q1] at e1 e2
        exact (hX U q2 e1 e2).elim
    · rcases List.mem_cons.mp hU with q2 | q2
      · rw [q2] at e1 e2
        exact (hX T q1 e1.symm e2.symm).elim
      · exact gdj_u l h2 T q1 U q2 e1 e2
theorem gdig {x y : Nat} : ∀ k : Nat, (∀ i, i < k → (x >>> (5 * i)) % 32 = (y >>> (5 * i)) % 32) → x % 2 ^ (5 * k) = y % 2 ^ (5 * k)
  | 0, _ => by rw [Nat.mul_zero, Nat.pow_zero, Nat.mod_one, Nat.mod_one]
  | k + 1, h => by
    have ih := gdig k (fun i hi => h i (by omega))
    have hk := h k (by omega)
    rw [Nat.shiftRight_eq_div_pow, Nat.shiftRight_eq_div_pow] at hk
    have e : 2 ^ (5 * (k + 1)) = 2 ^ (5 * k) * 32 := by
      rw [show 5 * (k + 1) = 5 * k + 5 by omega, Nat.pow_add]
    rw [e, Nat.mod_mul, Nat.mod_mul, ih, hk]
theorem gT_uq {T U : zGT} (hT : T ∈ gTabs) (hU : U ∈ gTabs) (hn : gN T = gN U) (hm : ∀ a b, a < gN T → b < gN T → gm T a b = gm U a b) : T = U := by
  have key : ∀ V ∈ gTabs, gN V ≤ 24 ∧ V.2.1 < 2 ^ (5 * (24 * gN V)) ∧ ∀ a, a < gN V → ∀ b, gN V ≤ b → b < 24 → (V.2.1 >>> (5 * (24 * a + b))) % 32 = 0 := by
    intro V hV
    have h := List.all_eq_true.mp gTabs_nz V hV
    unfold gnz at h
    rw [Bool.and_eq_true, Bool.and_eq_true, List.all_eq_true] at h
    obtain ⟨⟨h1, h2⟩, h3⟩ := h
    have h24 : gN V ≤ 24 := Nat.le_of_ble_eq_true h1
    have hlt : V.2.1 < 2 ^ (120 * gN V) := by
      have h4 : Nat.ble (V.2.1 + 1) (2 ^ (120 * gN V)) = true := h2
      exact Nat.le_of_ble_eq_true h4
    refine ⟨h24, by rw [show 5 * (24 * gN V) = 120 * gN V by omega]; exact hlt, fun a ha b hb1 hb2 => ?_⟩
    have h5 := Nat.eq_of_beq_eq_true (h3 a (List.mem_range.mpr ha))
    have e1 : V.2.1 >>> (5 * (24 * a + b)) = (V.2.1 >>> (5 * (24 * a + gN V))) >>> (5 * (b - gN V)) := by
      rw [← Nat.shiftRight_add]
      congr 1
      omega
    rw [e1]
    generalize V.2.1 >>> (5 * (24 * a + gN V)) = z at h5
    have e2 : 2 ^ (5 * (24 - gN V)) = 2 ^ (5 * (b - gN V)) * (32 * 2 ^ (5 * (23 - b))) := by
      rw [show (32 : Nat) = 2 ^ 5 from rfl, ← Nat.pow_add, ← Nat.pow_add]
      congr 1
      omega
    rw [e2] at h5
    rw [Nat.shiftRight_eq_div_pow]
    have h6 := Nat.mod_mul (a := 2 ^ (5 * (b - gN V))) (b := 32 * 2 ^ (5 * (23 - b))) (x := z)
    rw [h5] at h6
    have h7 : z / 2 ^ (5 * (b - gN V)) % (32 * 2 ^ (5 * (23 - b))) = 0 := by
      have hp : 0 < 2 ^ (5 * (b - gN V)) := Nat.two_pow_pos _
      rcases Nat.eq_zero_or_pos (z / 2 ^ (5 * (b - gN V)) % (32 * 2 ^ (5 * (23 - b)))) with g | g
      · exact g
      · have := Nat.mul_pos hp g
        omega
    have h8 := Nat.mod_mul (a := 32) (b := 2 ^ (5 * (23 - b))) (x := z / 2 ^ (5 * (b - gN V)))
    rw [h7] at h8
    omega
  obtain ⟨a1, a2, a3⟩ := key T hT
  obtain ⟨b1, b2, b3⟩ := key U hU
  refine gdj_u gTabs gTabs_dj T hT U hU hn ?_
  have hd := gdig (x := T.2.1) (y := U.2.1) (24 * gN T) (fun i hi => by
    have e : i = 24 * (i / 24) + i % 24 := by omega
    have hb : i % 24 < 24 := Nat.mod_lt _ (by decide)
    have ha : i / 24 < gN T := by omega
    by_cases g : i % 24 < gN T
    · have := hm (i / 24) (i % 24) ha g
      unfold gm at this
      rw [← e] at this
      exact this
    · have h1 := a3 (i / 24) ha (i % 24) (by omega) hb
      have h2 := b3 (i / 24) (by omega) (i % 24) (by omega) hb
      rw [← e] at h1 h2
      rw [h1, h2])
  rw [Nat.mod_eq_of_lt a2, hn, Nat.mod_eq_of_lt b2] at hd
  exact hd
theorem zTm_uq {mv : List Nat} {T U : zGT} (hT : zTm mv T) (hU : zTm mv U) : T = U := by
  obtain ⟨c, a1, a2, a3, a4, a5⟩ := hT
  obtain ⟨e, b1, b2, b3, b4, b5⟩ := hU
  have hset : ∀ y, (∃ i, i < gN T ∧ c i = y) ↔ (∃ i, i < gN U ∧ e i = y) := fun y => (a2 y).symm.trans (b2 y)
  have u1 := gsort_u (a := c) (b := e) a3 b3 hset
  have u2 := gsort_u (a := e) (b := c) b3 a3 (fun y => (hset y).symm)
  have hn : gN T = gN U := by
    refine Nat.le_antisymm ?_ ?_
    · rcases Nat.lt_or_ge (gN U) (gN T) with g | g
      · have := (u1 _ g).1; omega
      · exact g
    · rcases Nat.lt_or_ge (gN T) (gN U) with g | g
      · have := (u2 _ g).1; omega
      · exact g
  refine gT_uq a1 b1 hn (fun a b ha hb => ?_)
  obtain ⟨p1, p2⟩ := a4 a b ha hb
  obtain ⟨q1, q2⟩ := b4 a b (by omega) (by omega)
  rw [(u1 a ha).2, (u1 b hb).2, ← q2, (u1 _ p1).2] at p2
  rcases Nat.lt_trichotomy (gm T a b) (gm U a b) with g | g | g
  · have := b3 _ _ g q1
    omega
  · exact g
  · have := b3 _ _ g (by omega)
    omega
def zst (f : Nat → Int) (t : Nat) (c : Int) : Nat → Int := fun j => if j = t then c else f j
def ziA (f0 g : Nat → Int) (n : Nat) : Prop := ∀ y, (∃ j, j < n ∧ g j = y) ↔ ∃ j, j < n ∧ f0 j = y
def ziB (κ : Int → Int) (g : Nat → Int) (n : Nat) : Prop := ∀ a b, a < n → b < n → a ≠ b → κ (g a) ≠ κ (g b)
def ziS (κ : Int → Int) (f : Nat → Int) (i : Nat) : Prop := ∀ a b, a < b → b < i → κ (f a) < κ (f b)
def zSoK (κ : Int → Int) (f0 f : Nat → Int) (n i : Nat) : Prop := ziA f0 f n ∧ ziB κ f n ∧ ziS κ f i
def zSj (κ : Int → Int) (f0 f : Nat → Int) (n i t : Nat) (c : Int) : Prop := (t ≤ i ∧ i < n) ∧ ziA f0 (zst f t c) n ∧ ziB κ (zst f t c) n ∧ (∀ a b, a < b → b ≤ i → a ≠ t → b ≠ t → κ (f a) < κ (f b)) ∧ ∀ b, t < b → b ≤ i → κ c < κ (f b)
section ZSO
variable {κ : Int → Int} {f0 f f' : Nat → Int} {n i t : Nat} {c : Int}
theorem zst_t : zst f t c t = c := if_pos rfl
theorem zst_o {j : Nat} (h : j ≠ t) : zst f t c j = f j := if_neg h
theorem zSo_0 (hB : ziB κ f n) : zSoK κ f f n 1 := ⟨fun _ => Iff.rfl, hB, fun a b h1 h2 => absurd h2 (by omega)⟩
theorem zSj_0 (h : zSoK κ f0 f n i) (hi : i < n) : zSj κ f0 f n i i (f i) := by
  have e : zst f i (f i) = f := funext fun j => by
    unfold zst
    split
    · rename_i g; rw [g]
    · rfl
  refine ⟨⟨Nat.le_refl _, hi⟩, by rw [e]; exact h.1, by rw [e]; exact h.2.1, fun a b h1 h2 _ h4 => h.2.2 a b h1 (by omega), fun b h1 h2 => absurd h1 (by omega)⟩
theorem zSj_s (h : zSj κ f0 f n i t c) (t1 : 1 ≤ t) (hc : κ c < κ (f (t - 1))) (hf : ∀ j, f' j = zst f t (f (t - 1)) j) : zSj κ f0 f' n i (t - 1) c := by
  obtain ⟨⟨a1, a2⟩, a3, a4, a5, a6⟩ := h
  have g1 : ∀ j, zst f' (t - 1) c j = zst f t c (if j = t - 1 then t else if j = t then t - 1 else j) := by
    intro j
    by_cases e1 : j = t - 1
    · rw [if_pos e1, e1, zst_t, zst_t]
    · rw [if_neg e1, zst_o e1, hf j]
      by_cases e2 : j = t
      · rw [if_pos e2, e2, zst_t, zst_o (by omega)]
      · rw [if_neg e2, zst_o e2, zst_o e2]
  refine ⟨⟨by omega, a2⟩, fun y => ?_, fun a b ha hb hab => ?_, fun a b h1 h2 h3 h4 => ?_, fun b h1 h2 => ?_⟩
  · rw [← a3 y]
    constructor
    · rintro ⟨j, hj, e⟩
      rw [g1] at e
      refine ⟨_, ?_, e⟩
      split
      · omega
      · split <;> omega
    · rintro ⟨j, hj, e⟩
      refine ⟨if j = t - 1 then t else if j = t then t - 1 else j, ?_, ?_⟩
      · split
        · omega
        · split <;> omega
      · rw [g1]
        by_cases e1 : j = t - 1
        · rw [if_pos e1, if_neg (by omega), if_pos rfl, ← e1]
          exact e
        · rw [if_neg e1]
          by_cases e2 : j = t
          · rw [if_pos e2, if_pos rfl]
            rw [e2] at e
            exact e
          · rw [if_neg e2, if_neg e1, if_neg e2]
            exact e
  · rw [g1, g1]
    refine a4 _ _ ?_ ?_ ?_
    · split
      · omega
      · split <;> omega
    · split
      · omega
      · split <;> omega
    · intro e
      split at e
      · split at e
        · omega
        · split at e <;> omega
      · split at e
        · split at e
          · omega
          · split at e <;> omega
        · split at e
          · omega
          · split at e <;> omega
  · rw [hf a, hf b]
    by_cases e1 : b = t
    · rw [e1, zst_t, zst_o (by omega)]
      exact a5 a (t - 1) (by omega) (by omega) (by omega) (by omega)
    · rw [zst_o e1]
      by_cases e2 : a = t
      · rw [e2, zst_t]
        exact a5 (t - 1) b (by omega) h2 (by omega) e1
      · rw [zst_o e2]
        exact a5 a b h1 h2 e2 e1
  · rw [hf b]
    by_cases e1 : b = t
    · rw [e1, zst_t]
      exact hc
    · rw [zst_o e1]
      exact a6 b (by omega) h2
theorem zSj_e (h : zSj κ f0 f n i t c) (hc : t = 0 ∨ ¬ κ c < κ (f (t - 1))) (hf : ∀ j, f' j = zst f t c j) : zSoK κ f0 f' n (i + 1) := by
  obtain ⟨⟨a1, a2⟩, a3, a4, a5, a6⟩ := h
  have e : f' = zst f t c := funext hf
  rw [e]
  refine ⟨a3, a4, fun a b h1 h2 => ?_⟩
  by_cases e1 : a = t
  · rw [e1, zst_t, zst_o (by omega)]
    exact a6 b (by omega) (by omega)
  · rw [zst_o e1]
    by_cases e2 : b = t
    · rw [e2, zst_t]
      have h3 : t ≠ 0 := by omega
      have h4 : ¬ κ c < κ (f (t - 1)) := hc.resolve_left h3
      have h5 := a4 (t - 1) t (by omega) (by omega) (by omega)
      rw [zst_t, zst_o (by omega)] at h5
      by_cases e3 : a = t - 1
      · rw [e3]
        omega
      · have := a5 a (t - 1) (by omega) (by omega) (by omega) (by omega)
        omega
    · rw [zst_o e2]
      exact a5 a b h1 (by omega) e1 e2
end ZSO
def zRw (d o : Nat) (Mz : zMem) : Nat → Int := fun j => ze Mz (d + o) j
theorem zRw_w {d o : Nat} {Mz Nz : zMem} {t v : Int} (h : Nz = zsI Mz (d + o) t.toNat (Int32.ofInt v)) (hv : zn32 v) : ∀ j, zRw d o Nz j = zst (zRw d o Mz) t.toNat v j := fun j => by
  unfold zst zRw
  by_cases g : j = t.toNat
  · rw [if_pos g, g]
    exact zs_get h hv
  · rw [if_neg g]
    exact zs_oth h g
def zGc (mv : List Nat) (P : Nat) (T : zGT) (d : Nat) (Mz : zMem) : Prop := gTb mv (zCo P d Mz) T ∧ ze Mz (d + 1) 7 = (gN T : Int) ∧ ∀ i, i < gN T → zkv P (ze Mz (d + 5) i)
def zTt (T : zGT) (d : Nat) (Mz : zMem) : Prop := ze Mz (d + 1) 7 = (gN T : Int) ∧ (∀ x y, x < gN T → y < gN T → ze Mz (d + 7) (24 * x + y) = ((gm T x y : Nat) : Int)) ∧ ∀ x, x < gN T → ze Mz (d + 9) x = ((gi T x : Nat) : Int)
def zPkK (T : zGT) (d : Nat) (Mz : zMem) (a b : Int) : Prop := (∀ x y : Nat, x < gN T → y < gN T → ((x : Int) < a ∨ ((x : Int) = a ∧ (y : Int) < b)) → ze Mz (d + 7) (24 * x + y) = ((gm T x y : Nat) : Int)) ∧ ∀ x : Nat, x < gN T → (x : Int) < a → ze Mz (d + 9) x = ((gi T x : Nat) : Int)
def zPv (T : zGT) (d : Nat) (Mz : zMem) (a b : Int) : Prop := (∀ y : Nat, (y : Int) < b → gm T a.toNat y ≠ 0) ∨ ze Mz (d + 9) a.toNat = ((gup (giF T a.toNat) 0 b.toNat : Nat) : Int)
section ZKQ
variable {d P : Nat} {T : zGT} {mv : List Nat} {FA : List (Nat × Nat)} {CA : List Nat} {FR : List (Nat × Nat)} {CR : List Nat} {Mz Nz : zMem} {a b : Int}
theorem zGc.fr (_ : zKW d Mz) (hf : zFc d FA CA FR CR Mz Nz) (h : zGc mv P T d Mz) (hd : (1 < 38 ∧ 1 ∉ CR ∧ (1, 7) ∉ FR) ∧ 5 < 38 ∧ 5 ∉ CR ∧ ∀ x ∈ FR, x.1 ≠ 5) : zGc mv P T d Nz := by
  have e : zCo P d Nz = zCo P d Mz := funext fun i => by
    unfold zCo
    rw [hf.r hd.2]
  unfold zGc
  rw [hf.e hd.1, e]
  exact ⟨h.1, h.2.1, fun i hi => by rw [hf.r hd.2]; exact h.2.2 i hi⟩
theorem zTt.fr (_ : zKW d Mz) (hf : zFc d FA CA FR CR Mz Nz) (h : zTt T d Mz) (hd : (1 < 38 ∧ 1 ∉ CR ∧ (1, 7) ∉ FR) ∧ (7 < 38 ∧ 7 ∉ CR ∧ ∀ x ∈ FR, x.1 ≠ 7) ∧ 9 < 38 ∧ 9 ∉ CR ∧ ∀ x ∈ FR, x.1 ≠ 9) : zTt T d Nz := by
  unfold zTt
  rw [hf.e hd.1]
  exact ⟨h.1, fun x y hx hy => by rw [hf.r hd.2.1]; exact h.2.1 x y hx hy, fun x hx => by rw [hf.r hd.2.2]; exact h.2.2 x hx⟩
theorem zGg.s (h : zGg mv P d Mz) : zSoK (fun x => x) (zRw d 5 Mz) (zRw d 5 Mz) (ze Mz (d + 1) 7).toNat 1 := by
  obtain ⟨h1, h2, h3, h4, h5⟩ := h
  have key : ∀ i j : Nat, i < j → (j : Int) < ze Mz (d + 1) 7 → ze Mz (d + 5) i ≠ ze Mz (d + 5) j := fun i j hij hj e => h4 i j hij hj (by unfold zCo; rw [e])
  refine zSo_0 (fun a b ha hb hab => ?_)
  rcases Nat.lt_or_ge a b with g | g
  · exact key a b g (by omega)
  · exact fun e => key b a (by omega) (by omega) e.symm
theorem zGg.t (h : zGg mv P d Mz) (hp : ∀ g ∈ mv, gpm g) {i : Nat} (hs : zSoK (fun x => x) (zRw d 5 Mz) (zRw d 5 Nz) (ze Mz (d + 1) 7).toNat i) (hi : (ze Mz (d + 1) 7).toNat ≤ i) (h7 : ze Nz (d + 1) 7 = ze Mz (d + 1) 7) : ∃ T, zGc mv P T d Nz := by
  obtain ⟨h1, h2, h3, h4, h5⟩ := h
  obtain ⟨a1, a2, a3⟩ := hs
  have hv : ∀ j : Nat, (j : Int) < ze Mz (d + 1) 7 → zkv P (ze Nz (d + 5) j) := fun j hj => by
    obtain ⟨k, hk, e⟩ := (a1 (ze Nz (d + 5) j)).mp ⟨j, by omega, rfl⟩
    have e' : ze Mz (d + 5) k = ze Nz (d + 5) j := e
    rw [← e']
    exact h1 k (by omega)
  have hset : ∀ x, gGen mv x ↔ ∃ j, j < (ze Mz (d + 1) 7).toNat ∧ zCo P d Nz j = x := fun x => by
    rw [h3 x]
    constructor
    · rintro ⟨k, hk, rfl⟩
      obtain ⟨j, hj, e⟩ := (a1 (ze Mz (d + 5) k)).mpr ⟨k, by omega, rfl⟩
      have e' : ze Nz (d + 5) j = ze Mz (d + 5) k := e
      exact ⟨j, hj, by unfold zCo; rw [e']⟩
    · rintro ⟨j, hj, rfl⟩
      obtain ⟨k, hk, e⟩ := (a1 (ze Nz (d + 5) j)).mp ⟨j, hj, rfl⟩
      have e' : ze Mz (d + 5) k = ze Nz (d + 5) j := e
      exact ⟨k, by omega, by unfold zCo; rw [e']⟩
  obtain ⟨T, hT, hn⟩ := gTb_i hp h5 hset (fun x y hxy hy => by
    have := a3 x y hxy (by omega)
    unfold zCo
    exact (zkc_l (hv x (by omega)).1 (hv y (by omega)).1).mpr this)
  exact ⟨T, hT, by omega, fun j hj => hv j (by omega)⟩
theorem zGc.v (h : zGc mv P T d Mz) (hP : P ≤ 6) (ha : 0 ≤ a ∧ a < ze Mz (d + 1) 7) (hb : 0 ≤ b ∧ b < ze Mz (d + 1) 7) {x y z v : Int} (hy : y = ze Mz (d + 5) a.toNat) (hz : z = ze Mz (d + 5) b.toNat) (hx : x = ((zbe P y z : Nat) : Int)) : (0 ≤ v → v < ze Mz (d + 1) 7 → ze Mz (d + 5) v.toNat = x → v = ((gm T a.toNat b.toNat : Nat) : Int)) ∧ ¬ ∀ i : Nat, (i : Int) < ze Mz (d + 1) 7 → ze Mz (d + 5) i ≠ x := by
  obtain ⟨⟨a1, a2, a3, a4, a5⟩, h7, hk⟩ := h
  obtain ⟨p1, p2⟩ := a4 a.toNat b.toNat (by omega) (by omega)
  have ka := hk a.toNat (by omega)
  have kb := hk b.toNat (by omega)
  rw [← hy] at ka
  rw [← hz] at kb
  have e : zkc P x = zCo P d Mz (gm T a.toNat b.toNat) := by
    rw [p2, hx, zbe_c hP ka kb, hy, hz]
    rfl
  have x0 : 0 ≤ x := by omega
  have em : ze Mz (d + 5) (gm T a.toNat b.toNat) = x := ((zkc_i (hk _ p1).1 x0).mp e.symm)
  refine ⟨fun v0 v1 hv => ?_, fun hn => hn _ (by omega) em⟩
  have e2 : zCo P d Mz v.toNat = zCo P d Mz (gm T a.toNat b.toNat) := by
    unfold zCo
    rw [hv, em]
  rcases Nat.lt_trichotomy v.toNat (gm T a.toNat b.toNat) with g | g | g
  · have := a3 _ _ g p1
    omega
  · omega
  · have := a3 _ _ g (by omega)
    omega
theorem zPkK_0 : zPkK T d Mz 0 0 := ⟨fun x y _ _ h => absurd h (by omega), fun x _ h => absurd h (by omega)⟩
theorem zPv_0 : zPv T d Mz a 0 := Or.inl (fun y h => absurd h (by omega))
theorem zPk_s {v : Int} (h24 : gN T ≤ 24) (a0 : 0 ≤ a) (b0 : 0 ≤ b) (bn : b < (gN T : Int)) (an : a < (gN T : Int)) (h : zPkK T d Mz a b) (hu : zPv T d Mz a b) (hv : v = ((gm T a.toNat b.toNat : Nat) : Int)) (v1 : v < 24) (hN : Nz = zsI Mz (d + 7) (a * 24 + b).toNat (Int32.ofInt v)) (h9 : ∀ j : Nat, ze Nz (d + 9) j = ze Mz (d + 9) j) : zPkK T d Nz a (b + 1) ∧ zPv T d Nz a b := by
  refine ⟨⟨fun x y hx hy hd => ?_, fun x hx hxa => ?_⟩, ?_⟩
  · by_cases g : (x : Int) = a ∧ (y : Int) = b
    · rw [show 24 * x + y = (a * 24 + b).toNat by omega, zs_get hN ⟨by omega, by omega⟩, hv, show a.toNat = x by omega, show b.toNat = y by omega]
    · rw [zs_oth hN (by omega)]
      exact h.1 x y hx hy (by omega)
  · rw [h9]
    exact h.2 x hx hxa
  · unfold zPv
    rw [h9]
    exact hu
theorem zPv_n (b0 : 0 ≤ b) (hu : zPv T d Mz a b) (hz : gm T a.toNat b.toNat ≠ 0) : zPv T d Mz a (b + 1) := by
  unfold zPv at hu ⊢
  rw [show (b + 1).toNat = b.toNat + 1 by omega]
  rcases hu with h | h
  · refine Or.inl (fun y hy => ?_)
    by_cases g : (y : Int) = b
    · rw [show y = b.toNat by omega]
      exact hz
    · exact h y (by omega)
  · refine Or.inr ?_
    show _ = ((giF T a.toNat b.toNat (gup (giF T a.toNat) 0 b.toNat) : Nat) : Int)
    unfold giF at h ⊢
    rw [if_neg hz]
    exact h
theorem zPv_s (h24 : gN T ≤ 24) (a0 : 0 ≤ a) (b0 : 0 ≤ b) (b1 : b < 24) (h : zPkK T d Mz a (b + 1)) (hz : gm T a.toNat b.toNat = 0) (hN : Nz = zsI Mz (d + 9) a.toNat (Int32.ofInt b)) (h7 : ∀ j : Nat, ze Nz (d + 7) j = ze Mz (d + 7) j) : zPkK T d Nz a (b + 1) ∧ zPv T d Nz a (b + 1) := by
  refine ⟨⟨fun x y hx hy hd => by rw [h7]; exact h.1 x y hx hy hd, fun x hx hxa => ?_⟩, Or.inr ?_⟩
  · rw [zs_oth hN (by omega)]
    exact h.2 x hx hxa
  · rw [zs_get hN ⟨by omega, by omega⟩, show (b + 1).toNat = b.toNat + 1 by omega]
    show _ = ((giF T a.toNat b.toNat (gup (giF T a.toNat) 0 b.toNat) : Nat) : Int)
    unfold giF
    rw [if_pos hz]
    omega
theorem zPk_n (hi : ∀ x, x < gN T → gi T x < gN T ∧ gm T x (gi T x) = 0) (a0 : 0 ≤ a) (an : a < (gN T : Int)) (h : zPkK T d Mz a b) (hu : zPv T d Mz a b) (hb : b = (gN T : Int)) : zPkK T d Mz (a + 1) 0 := by
  refine ⟨fun x y hx hy hd => h.1 x y hx hy (by omega), fun x hx hxa => ?_⟩
  by_cases g : (x : Int) = a
  · have e : a.toNat = x := by omega
    unfold zPv at hu
    rw [e] at hu
    rcases hu with hu | hu
    · have := hi x hx
      exact absurd this.2 (hu _ (by omega))
    · rw [hu, hb, Int.toNat_natCast]
      rfl
  · exact h.2 x hx (by omega)
theorem zPk_e (h7 : ze Mz (d + 1) 7 = (gN T : Int)) (h : zPkK T d Mz a 0) (ha : (gN T : Int) ≤ a) : zTt T d Mz := ⟨h7, fun x y hx hy => h.1 x y hx hy (by omega), fun x hx => h.2 x hx (by omega)⟩
end ZKQ
noncomputable def kexk (n : Nat) (p : Nat → Bool) : Bool := Nat.rec false (fun k ih => cond (p k) true ih) n
theorem kexk_s {p : Nat → Bool} : ∀ {n : Nat}, kexk n p = true → ∃ k, k < n ∧ p k = true
  | 0, h => by cases h
  | n + 1, h => by
    have h' : cond (p n) true (kexk n p) = true := h
    cases hp : p n with
    | true => exact ⟨n, by omega, hp⟩
    | false =>
      rw [hp] at h'
      obtain ⟨k, h1, h2⟩ := kexk_s (n := n) h'
      exact ⟨k, by omega, h2⟩
noncomputable def ksr (l : List Nat) : Nat → Bool := List.rec (fun _ => true) (fun x _ ih k => cond (Nat.ble (Nat.succ k) (kky x)) (ih (kky x)) false) l
theorem ksr_s : ∀ (l : List Nat) (k : Nat), ksr l k = true → (∀ i, i < l.length → k < kky (l.getD i 0)) ∧ ∀ i j, i < j → j < l.length → kky (l.getD i 0) < kky (l.getD j 0)
  | [], k, _ => ⟨fun i h => absurd h (Nat.not_lt_zero i), fun i j _ h => absurd h (Nat.not_lt_zero j)⟩
  | x :: l, k, h => by
    have h' : cond (Nat.ble (Nat.succ k) (kky x)) (ksr l (kky x)) false = true := h
    obtain ⟨h1, h2⟩ := kcd.mp h'
    have h1 := kbl.mp h1
    obtain ⟨r1, r2⟩ := ksr_s l _ h2
    have g0 : (x :: l).getD 0 0 = x := rfl
    have gs : ∀ i, (x :: l).getD (i + 1) 0 = l.getD i 0 := fun i => rfl
    refine ⟨fun i hi => ?_, fun i j hij hj => ?_⟩
    · cases i with
      | zero => rw [g0]; exact h1
      | succ i =>
        rw [gs]
        have := r1 i (by rw [List.length_cons] at hi; omega)
        omega
    · cases j with
      | zero => omega
      | succ j =>
        rw [List.length_cons] at hj
        cases i with
        | zero =>
          rw [g0, gs]
          exact r1 j (by omega)
        | succ i =>
          rw [gs, gs]
          exact r2 i j (by omega) (by omega)
noncomputable def kct (n P Fp Ip i j : Nat) : Nat := kup (fun g r => cond (Nat.beq (Nat.land (ktr n P Ip (kF Fp j) g) (kF Fp i)) (ktr n P Ip (kF Fp j) g)) (Nat.succ r) r) 0 n
def kbc3 (y : Nat) : Nat := Nat.land (Nat.add y (Nat.shiftRight y 4)) 252645135
def kbc4 (y : Nat) : Nat := Nat.add y (Nat.shiftRight y 8)
def kbc5 (y : Nat) : Nat := Nat.land (Nat.add y (Nat.shiftRight y 16)) 63
def kbc1 (x : Nat) : Nat := Nat.sub x (Nat.land (Nat.shiftRight x 1) 1431655765)
def kbc2 (y : Nat) : Nat := Nat.add (Nat.land y 858993459) (Nat.land (Nat.shiftRight y 2) 858993459)
def kbc (x : Nat) : Nat := kbc5 (kbc4 (kbc3 (kbc2 (kbc1 x))))
noncomputable def kchk2 (n P : Nat) (S L F : List Nat) (Fp Ip Kp : Nat) (KL : List Nat) : Bool := cond (cond (Nat.ble (klen S) 35) (Nat.ble (klen F) 27) false) (cond (cond (kall S (fun s => kmem L s)) (kall L (fun s => kmem S s)) false) (cond (cond (ksr L 0) (kall S (fun s => Nat.beq (kbc s) (kcb s))) false) (cond (kall F (fun f => klt n (fun g => cond (kmem S (ktr n P Ip f g)) (cond (kmem F (ktr n P Ip f g)) (Nat.beq (ktr n P Ip f g) f) true) false))) (cond (kall S (fun s => kexk n (fun g => Nat.beq (ktr n P Ip (kle n P Ip s) g) s))) (cond (klt (klen F) (fun i => klt (klen F) (fun j => Nat.beq (kct n P Fp Ip i j) (Nat.mul (kK Kp i j) (kcb (kF Fp i)))))) (kmem KL (Nat.add (Nat.mul Kp 64) (klen F))) false) false) false) false) false) false
def gct (T : zGT) (F H : Nat) : Nat := gup (fun g r => if gtr T H g &&& F = gtr T H g then r + 1 else r) 0 (gN T)
def gOL (T : zGT) (L : List Nat) (Kp : Nat) (KL : List Nat) : Prop := ((gS T).length ≤ 35 ∧ (gF T).length ≤ 27) ∧ (∀ s, s ∈ gS T ↔ s ∈ L) ∧ (∀ i j, i < j → j < L.length → gky (L.getD i 0) < gky (L.getD j 0)) ∧ (∀ f ∈ gF T, ∀ g, g < gN T → gtr T f g ∈ gS T ∧ (gtr T f g ∈ gF T → gtr T f g = f)) ∧ (∀ s ∈ gS T, ∃ g, g < gN T ∧ gtr T (glt T s) g = s) ∧ (∀ i j, i < (gF T).length → j < (gF T).length → gct T ((gF T).getD i 0) ((gF T).getD j 0) = gmk T ((gF T).getD i 0) ((gF T).getD j 0) * gcb ((gF T).getD i 0)) ∧ (∀ i j, i < (gF T).length → j < (gF T).length → gmk T ((gF T).getD i 0) ((gF T).getD j 0) = kK Kp i j) ∧ Kp * 64 + (gF T).length ∈ KL ∧ (∀ s ∈ gS T, gcb (glt T s) = gcb s) ∧ ∀ s ∈ gS T, kbc s = gcb s
theorem kchk2_s {n P : Nat} {S L F : List Nat} {Fp Ip Cp Kp Qp Dp : Nat} {KL B W E : List Nat} (h0 : kall4 n P S F Fp Ip Cp Kp Qp Dp B W E = true) (h2 : kchk2 n P S L F Fp Ip Kp KL = true) : gOL (n, P, S, F, []) L Kp KL := by
  have h : kchk n P S F Fp Ip Cp Kp Qp Dp = true := (kcd.mp h0).1
  obtain ⟨hA, hr⟩ := kcd.mp h
  obtain ⟨hB, hr⟩ := kcd.mp hr
  obtain ⟨hE, hr⟩ := kcd.mp hr
  obtain ⟨hg, hr⟩ := kcd.mp hr
  clear h hr hB
  generalize eT : ((n, P, S, F, []) : zGT) = T
  have tN : gN T = n := by rw [← eT]; rfl
  have tP : T.2.1 = P := by rw [← eT]
  have tS : gS T = S := by rw [← eT]; rfl
  have tF : gF T = F := by rw [← eT]; rfl
  have hgm : ∀ a b, kgm P a b = gm T a b := fun a b => by rw [← tP]; rfl
  obtain ⟨a1, a2⟩ := kcd.mp hA
  obtain ⟨a2, a3⟩ := kcd.mp a2
  have a1 := kbl.mp a1
  have a2 := kbl.mp a2
  have a3 := klt_s a3
  have hI : ∀ a, a < n → kI Ip a = gi T a := by
    intro a ha
    obtain ⟨-, b2⟩ := kcd.mp (a3 a ha)
    obtain ⟨b2, -⟩ := kcd.mp b2
    rw [← kbq.mp b2]
    unfold gi
    rw [tN]
    exact kup_c 0 n (fun k r _ => by rw [kif, hgm])
  have hG : gGd T := by
    refine ⟨by omega, by omega, fun a ha => ?_, fun a b ha hb => ?_⟩
    · rw [tN] at ha ⊢
      rw [← hI a ha]
      exact kbl.mp (kcd.mp (a3 a ha)).1
    · rw [tN] at ha hb ⊢
      rw [← hgm]
      exact kbl.mp (klt_s (kcd.mp (kcd.mp (a3 a ha)).2).2 b hb)
  have htr : ∀ X g, g < n → ktr n P Ip X g = gtr T X g := by
    intro X g hgn
    rw [gtr_e, tN]
    refine kup_c 0 n (fun k r _ => ?_)
    rw [kib, hgm, hgm, hI g hgn]
    rfl
  have hle : ∀ X, kle n P Ip X = glt T X := by
    intro X
    rw [glt_e, tN]
    refine kup_c X n (fun k r hk => ?_)
    rw [kil, htr X k hk]
    rfl
  have hcb : ∀ X, kcb X = gcb X := fun X => kup_e _ _ _
  have hky : ∀ X, kky X = gky X := fun X => by
    show kcb X * 16777216 + X = _
    rw [hcb]; rfl
  obtain ⟨e1, e2⟩ := kcd.mp hE
  obtain ⟨e2, -⟩ := kcd.mp e2
  have hFi : ∀ i, i < F.length → F.getD i 0 = kF Fp i := fun i hi => by
    have := kfl_s e1 i hi
    rwa [Nat.zero_add] at this
  obtain ⟨g1, g2⟩ := kcd.mp hg
  obtain ⟨g2, g3⟩ := kcd.mp g2
  obtain ⟨g3, -⟩ := kcd.mp g3
  rw [klen_e] at g2 g3
  have hC : ∀ i x, i < F.length → x < n → kC Cp i x = gcos T (F.getD i 0) x := by
    intro i x hi hx
    have := kbq.mp (klt_s (klt_s g2 i hi) x hx)
    rw [← this, gcos_e, tN, hFi i hi]
    refine kup_c x n (fun k r _ => ?_)
    rw [kib, kil, hgm]
    show _ = (if (kF Fp i).testBit k && decide (gm T k x < r) then gm T k x else r)
    cases (kF Fp i).testBit k <;> simp
  have hfx : ∀ i H x, i < F.length → x < n → kfx n P Cp i H x = gfx T (F.getD i 0) H x := by
    intro i H x hi hx
    refine Bool.eq_iff_iff.mpr ?_
    rw [gfx_t]
    unfold kfx
    rw [kcd, kbq, hC i x hi hx, tN]
    refine and_congr Iff.rfl ⟨fun h k hk hb => ?_, fun h => klt_i fun k hk => ?_⟩
    · have := klt_s h k hk
      rw [kib, if_pos hb, kbq, hgm, hC i _ hi (by have := hG.2.2.2 x k (by omega) (by omega); omega)] at this
      exact this
    · rw [kib]
      split
      · rename_i hb
        rw [kbq, hgm, hC i _ hi (by have := hG.2.2.2 x k (by omega) (by omega); omega)]
        exact h k hk hb
      · rfl
  have hmk : ∀ i k, i < F.length → k < F.length → kK Kp i k = gmk T (F.getD i 0) (F.getD k 0) := by
    intro i k hi hk
    rw [← kbq.mp (klt_s (klt_s g3 i hi) k hk), gmk_e, tN, ← hFi k hk]
    refine kup_c 0 n (fun x r hx => ?_)
    rw [hfx i _ x hi hx]
    show _ = r + (gfx T (F.getD i 0) (F.getD k 0) x).toNat
    cases gfx T (F.getD i 0) (F.getD k 0) x <;> rfl
  -- the second check
  obtain ⟨u1, hr⟩ := kcd.mp h2
  obtain ⟨u2, hr⟩ := kcd.mp hr
  obtain ⟨u3, hr⟩ := kcd.mp hr
  obtain ⟨u4, hr⟩ := kcd.mp hr
  obtain ⟨u5, hr⟩ := kcd.mp hr
  obtain ⟨u6, u7⟩ := kcd.mp hr
  have hnt : ∀ s, s ∈ S → ∃ g, g < n ∧ gtr T (glt T s) g = s := fun s hs => by
    obtain ⟨g, hg1, hg2⟩ := kexk_s (kall_s u5 s hs)
    rw [kbq, hle, htr _ _ hg1] at hg2
    exact ⟨g, hg1, hg2⟩
  unfold gOL
  rw [tN, tS, tF]
  obtain ⟨l1, l2⟩ := kcd.mp u1
  rw [klen_e] at l1 l2 u6 u7
  refine ⟨⟨kbl.mp l1, kbl.mp l2⟩, fun s => ⟨fun hs => kmem_s (kall_s (kcd.mp u2).1 s hs), fun hs => kmem_s (kall_s (kcd.mp u2).2 s hs)⟩, fun i j hij hj => ?_, fun f hf g hgn => ?_, hnt, fun i j hi hj => ?_, fun i j hi hj => (hmk i j hi hj).symm, kmem_s u7, fun s hs => ?_, fun s hs => ?_⟩
  · have := (ksr_s L 0 (kcd.mp u3).1).2 i j hij hj
    rwa [hky, hky] at this
  · have h4 := klt_s (kall_s u4 f hf) g hgn
    obtain ⟨h5, h6⟩ := kcd.mp h4
    rw [htr f g hgn] at h5 h6
    refine ⟨kmem_s h5, fun hm => ?_⟩
    cases hmm : kmem F (gtr T f g) with
    | true =>
      rw [hmm] at h6
      exact kbq.mp h6
    | false =>
      exact absurd (kmem_i hm) (by rw [hmm]; decide)
  · have h6 := kbq.mp (klt_s (klt_s u6 i hi) j hj)
    have h7 : kct n P Fp Ip i j = gct T (F.getD i 0) (F.getD j 0) := by
      unfold gct
      rw [tN]
      refine kup_c 0 n (fun g r hgn => ?_)
      rw [kif, htr _ g hgn, hFi i hi, hFi j hj]
      rfl
    rw [← h7, h6, ← hmk i j hi hj, hFi i hi, hcb]
    rfl
  · have h8 := kbq.mp (kcd.mp (kall_s e2 s hs)).2
    rwa [hle, hcb, hcb] at h8
  · have h8 := kbq.mp (kall_s (kcd.mp u3).2 s hs)
    rwa [hcb] at h8
noncomputable def kct5 (n P Fp Ip i j : Nat) : Nat := kup (fun g r => cond (Nat.beq (Nat.land (kt5 n P Ip (kF Fp j) g) (kF Fp i)) (kt5 n P Ip (kF Fp j) g)) (Nat.succ r) r) 0 n
noncomputable def kchk5 (n P : Nat) (S L F : List Nat) (Fp Ip Kp : Nat) (KL : List Nat) : Bool := cond (cond (Nat.ble (klen S) 35) (Nat.ble (klen F) 27) false) (cond (cond (kall S (fun s => kmem L s)) (kall L (fun s => kmem S s)) false) (cond (cond (ksr L 0) (kall S (fun s => Nat.beq (kbc s) (kcb s))) false) (cond (kall F (fun f => klt n (fun g => cond (kmem S (kt5 n P Ip f g)) (cond (kmem F (kt5 n P Ip f g)) (Nat.beq (kt5 n P Ip f g) f) true) false))) (cond (kall S (fun s => cond (Nat.ble (Nat.succ (kle5 n P Ip s)) (Nat.pow 2 n)) (kexk n (fun g => Nat.beq (kt5 n P Ip (kle5 n P Ip s) g) s)) false)) (cond (klt (klen F) (fun i => klt (klen F) (fun j => Nat.beq (kct5 n P Fp Ip i j) (Nat.mul (kK Kp i j) (kcb (kF Fp i)))))) (kmem KL (Nat.add (Nat.mul Kp 64) (klen F))) false) false) false) false) false) false
theorem kexk_i {p : Nat → Bool} : ∀ {n k : Nat}, k < n → p k = true → kexk n p = true
  | 0, k, h, _ => absurd h (Nat.not_lt_zero k)
  | n + 1, k, h, hp => by
    show cond (p n) true (kexk n p) = true
    cases hq : p n with
    | true => rfl
    | false =>
      show kexk n p = true
      refine kexk_i (k := k) ?_ hp
      rcases Nat.lt_or_ge k n with g | g
      · exact g
      · rw [show k = n by omega, hq] at hp
        cases hp
theorem kchk5_s {n P : Nat} {S L F : List Nat} {Fp Ip Cp Kp Qp Dp : Nat} {KL B W E : List Nat} (h0 : kall5 n P S F Fp Ip Cp Kp Qp Dp B W E = true) (h5 : kchk5 n P S L F Fp Ip Kp KL = true) : gOL (n, P, S, F, []) L Kp KL := by
  obtain ⟨h4, hC, hS, hF, hFi⟩ := k5_4 h0
  refine kchk2_s h4 ?_
  obtain ⟨u1, hr⟩ := kcd.mp h5
  obtain ⟨u2, hr⟩ := kcd.mp hr
  obtain ⟨u3, hr⟩ := kcd.mp hr
  obtain ⟨u4, hr⟩ := kcd.mp hr
  obtain ⟨u5, hr⟩ := kcd.mp hr
  obtain ⟨u6, u7⟩ := kcd.mp hr
  have hFk : ∀ i, i < klen F → kF Fp i < 2 ^ n := fun i hi => hFi i (by rw [klen_e] at hi; exact hi)
  refine kcd.mpr ⟨u1, kcd.mpr ⟨u2, kcd.mpr ⟨u3, kcd.mpr ⟨kall5_i fun f hf => klt_i fun g hg => ?_, kcd.mpr ⟨kall5_i fun s hs => ?_, kcd.mpr ⟨klt_i fun i hi => klt_i fun j hj => ?_, u7⟩⟩⟩⟩⟩⟩
  · have h := klt_s (kall_s u4 f hf) g hg
    have h : cond (kmem S (kt5 n P Ip f g)) (cond (kmem F (kt5 n P Ip f g)) (Nat.beq (kt5 n P Ip f g) f) true) false = true := h
    rw [hC f g (hF f hf) hg] at h
    exact h
  · obtain ⟨h1, h2⟩ := kcd.mp (kall_s u5 s hs)
    have h1 : kle5 n P Ip s < 2 ^ n := kbl.mp h1
    obtain ⟨g, hg, h3⟩ := kexk_s h2
    have h3 : Nat.beq (kt5 n P Ip (kle5 n P Ip s) g) s = true := h3
    rw [hC _ g h1 hg, kle5_e hC (hS s hs)] at h3
    exact kexk_i hg h3
  · have h := klt_s (klt_s u6 i hi) j hj
    have h : Nat.beq (kct5 n P Fp Ip i j) (Nat.mul (kK Kp i j) (kcb (kF Fp i))) = true := h
    have e : kct n P Fp Ip i j = kct5 n P Fp Ip i j := kup_q 0 n (fun g r hg => by
      show cond (Nat.beq (Nat.land (ktr n P Ip (kF Fp j) g) (kF Fp i)) (ktr n P Ip (kF Fp j) g)) (Nat.succ r) r = cond (Nat.beq (Nat.land (kt5 n P Ip (kF Fp j) g) (kF Fp i)) (kt5 n P Ip (kF Fp j) g)) (Nat.succ r) r
      rw [hC _ g (hFk j hj) hg])
    show Nat.beq (kct n P Fp Ip i j) (Nat.mul (kK Kp i j) (kcb (kF Fp i))) = true
    rw [e]
    exact h
