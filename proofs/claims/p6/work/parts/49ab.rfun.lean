set_option maxHeartbeats 40000000 in
theorem c_M_buildsMembersF (l : Launch) (Mz : zMem) (hW : zMt Mz) (p0_ : 1 ≤ ze Mz 81 12) (p1_ : ze Mz 81 12 ≤ 6) (p2_ : 0 ≤ ze Mz 81 13) (p3_ : ze Mz 81 13 ≤ 4) (p4_ : zPm Mz) (p5_ : zB 83 24 0 5 Mz) (p6_ : zB 85 144 0 5 Mz) : zC l m_M_buildsMembers 0 0 [.ref 81] Mz (zpI [20] [85, 86, 87, 88] Mz (fun v N => zB 85 144 0 5 N ∧ (((v = 1 ∧ zFin Mz ∧ 1 ≤ ze N 81 20 ∧ ze N 81 20 ≤ 24 ∧ (∃ T : zGT, T ∈ gTabs ∧ zTab T N ∧ zCdR (ze Mz 81 12) (zMvs Mz) T N)) ∨ (v = 0 ∧ ¬ zFin Mz))))) := by
  refine zC_of (L0 := [some (.ref 81), none, none, none]) md_M_buildsMembers (Nat.le_of_ble_eq_true rfl) rfl ?_ zQ0
  have hf : zFr [20] [85, 86, 87, 88] Mz Mz := zFr.rf
  have r_12 := ze_r Mz 81 12
  have r_13 := ze_r Mz 81 13
  have r_20 := ze_r Mz 81 20
  have hPS_ : zPS Mz := ⟨⟨p0_, p1_⟩, ⟨p2_, p3_⟩, p4_, p5_⟩
  refine zw_aload_n (pc := 0) (n := 0) (x := 81) rfl (zdal_p dlC_M_buildsMembers_15 (i := 0) rfl) ?_
  refine zw_iconst (pc := 1) (v := Int32.ofInt 1) (by decide) (zdal_p dlC_M_buildsMembers_15 (i := 1) rfl) ?_
  refine zr_putI (hf.w hW) (pc := 2) f_M_196 rfl rfl ⟨by (decide), by (decide)⟩ rfl rfl (zdal_p dlC_M_buildsMembers_15 (i := 2) rfl) (fun N1_ hsN1_ hvN1_ => ?_)
  have hf_N1_ : zFr [20] [85, 86, 87, 88] Mz N1_ := hf.tr hsN1_ (by decide) (by decide)
  have e12_N1_ : ze N1_ 81 12 = ze Mz 81 12 := hsN1_.e (by decide)
  have e13_N1_ : ze N1_ 81 13 = ze Mz 81 13 := hsN1_.e (by decide)
  have r20_N1_ := ze_r N1_ 81 20
  have c2_ : zPm N1_ := zPm.fr hsN1_ p4_ (by decide) (by decide)
  have c3_ : zB 83 24 0 5 N1_ := zB.fr hsN1_ p5_ (by decide) (by decide)
  have c4_ : zB 85 144 0 5 N1_ := zB.fr hsN1_ p6_ (by decide) (by decide)
  refine zw_iconst (pc := 5) (v := Int32.ofInt 0) (by decide) (zdal_p dlC_M_buildsMembers_15 (i := 3) rfl) ?_
  refine zw_istore_n (pc := 6) (i := 1) (L2 := [some (.ref 81), some (.int (Int32.ofInt 0)), none, none]) rfl (by decide) rfl (zdal_p dlC_M_buildsMembers_15 (i := 4) rfl) ?_
  have lp_7 : ∀ (n : Nat) (u5_ : Int) (hu5_a : -2147483648 ≤ u5_) (hu5_b : u5_ < 2147483648) (N6_ : zMem) (hs7_ : zFr [] [85] N1_ N6_) (i8_ : 0 ≤ u5_) (i9_ : u5_ ≤ 6) (i10_ : ∀ q : Nat, (q : Int) < u5_ → ze N6_ 85 q = q) (i11_ : ze N6_ 81 20 = 1) (i12_ : zB 85 144 0 5 N6_), (6 - u5_).toNat < n → zW l m_M_buildsMembers (zn Mz + 0, zw Mz + 0) N6_ 7 [some (.ref 81), some (.int (Int32.ofInt u5_)), none, none] [] (zpI [20] [85, 86, 87, 88] Mz (fun v N => zB 85 144 0 5 N ∧ (((v = 1 ∧ zFin Mz ∧ 1 ≤ ze N 81 20 ∧ ze N 81 20 ≤ 24 ∧ (∃ T : zGT, T ∈ gTabs ∧ zTab T N ∧ zCdR (ze Mz 81 12) (zMvs Mz) T N)) ∨ (v = 0 ∧ ¬ zFin Mz))))) := by
    intro n
    induction n with
    | zero =>
      intro u5_ hu5_a hu5_b N6_ hs7_ i8_ i9_ i10_ i11_ i12_ h0
      exact absurd h0 (Nat.not_lt_zero _)
    | succ n ih_7 =>
      intro u5_ hu5_a hu5_b N6_ hs7_ i8_ i9_ i10_ i11_ i12_ hlt_7
      have hf_N6_ : zFr [20] [85, 86, 87, 88] Mz N6_ := hf_N1_.tr hs7_ (by decide) (by decide)
      have e12_N6_ : ze N6_ 81 12 = ze N1_ 81 12 := hs7_.e (by decide)
      have e13_N6_ : ze N6_ 81 13 = ze N1_ 81 13 := hs7_.e (by decide)
      have e20_N6_ : ze N6_ 81 20 = ze N1_ 81 20 := hs7_.e (by decide)
      have c13_ : zPm N6_ := zPm.fr hs7_ c2_ (by decide) (by decide)
      have c14_ : zB 83 24 0 5 N6_ := zB.fr hs7_ c3_ (by decide) (by decide)
      refine zw_iload_n (pc := 7) (n := 1) (x := Int32.ofInt u5_) rfl (zdal_p dlC_M_buildsMembers_15 (i := 5) rfl) ?_
      refine zw_bipush (pc := 8) (v := Int32.ofInt 6) (by decide) (zdal_p dlC_M_buildsMembers_15 (i := 6) rfl) ?_
      refine zr_icmp_ge (pc := 10) (tgt := 26) ⟨hu5_a, hu5_b⟩ ⟨(by decide), (by decide)⟩ (by decide) (zdal_p dlC_M_buildsMembers_15 (i := 7) rfl) (fun hc_10 => ?_) (fun hc_10 => ?_)
      · skip
        have hB0_ := zBs_0 (M0 := Mz) (N := N6_) (by (exact i11_)) (fun q hq => (show ∀ q : Nat, (q : Int) < u5_ → ze N6_ 85 q = q by first | with_reducible assumption | assumption) q (by (exact zo_635 hc_10 hq)))
        refine zw_iconst (pc := 26) (v := Int32.ofInt 0) (by decide) (zdal_p dlC_M_buildsMembers_15 (i := 15) rfl) ?_
        refine zw_istore_n (pc := 27) (i := 1) (L2 := [some (.ref 81), some (.int (Int32.ofInt 0)), none, none]) rfl (by decide) rfl (zdal_p dlC_M_buildsMembers_15 (i := 16) rfl) ?_
        have lp_28 : ∀ (n : Nat) (u15_ : Int) (hu15_a : -2147483648 ≤ u15_) (hu15_b : u15_ < 2147483648) (N16_ : zMem) (hs17_ : zFr [20] [85, 86] N6_ N16_) (i18_ : 0 ≤ u15_) (i19_ : u15_ ≤ ze N16_ 81 20) (i20_ : zBs Mz N16_) (i21_ : zBc Mz N16_ u15_ 0) (i22_ : 1 ≤ ze N16_ 81 20) (i23_ : ze N16_ 81 20 ≤ 24) (i24_ : zB 85 144 0 5 N16_), (25 - u15_).toNat < n → zW l m_M_buildsMembers (zn Mz + 0, zw Mz + 0) N16_ 28 [some (.ref 81), some (.int (Int32.ofInt u15_)), none, none] [] (zpI [20] [85, 86, 87, 88] Mz (fun v N => zB 85 144 0 5 N ∧ (((v = 1 ∧ zFin Mz ∧ 1 ≤ ze N 81 20 ∧ ze N 81 20 ≤ 24 ∧ (∃ T : zGT, T ∈ gTabs ∧ zTab T N ∧ zCdR (ze Mz 81 12) (zMvs Mz) T N)) ∨ (v = 0 ∧ ¬ zFin Mz))))) := by
          intro n
          induction n with
          | zero =>
            intro u15_ hu15_a hu15_b N16_ hs17_ i18_ i19_ i20_ i21_ i22_ i23_ i24_ h0
            exact absurd h0 (Nat.not_lt_zero _)
          | succ n ih_28 =>
            intro u15_ hu15_a hu15_b N16_ hs17_ i18_ i19_ i20_ i21_ i22_ i23_ i24_ hlt_28
            have hf_N16_ : zFr [20] [85, 86, 87, 88] Mz N16_ := hf_N6_.tr hs17_ (by decide) (by decide)
            have e12_N16_ : ze N16_ 81 12 = ze N6_ 81 12 := hs17_.e (by decide)
            have e13_N16_ : ze N16_ 81 13 = ze N6_ 81 13 := hs17_.e (by decide)
            have r20_N16_ := ze_r N16_ 81 20
            have c25_ : zPm N16_ := zPm.fr hs17_ c13_ (by decide) (by decide)
            have c26_ : zB 83 24 0 5 N16_ := zB.fr hs17_ c14_ (by decide) (by decide)
            refine zw_iload_n (pc := 28) (n := 1) (x := Int32.ofInt u15_) rfl (zdal_p dlC_M_buildsMembers_15 (i := 17) rfl) ?_
            refine zw_aload_n (pc := 29) (n := 0) (x := 81) rfl (zdal_p dlC_M_buildsMembers_15 (i := 18) rfl) ?_
            refine zr_getI (hf_N16_.w hW) (pc := 30) f_M_196 rfl (zdal_p dlC_M_buildsMembers_15 (i := 19) rfl) ?_
            refine zr_icmp_ge (pc := 33) (tgt := 169) ⟨hu15_a, hu15_b⟩ ⟨(ze_r N16_ 81 20).1, (ze_r N16_ 81 20).2⟩ (by decide) (zdal_p dlC_M_buildsMembers_15 (i := 20) rfl) (fun hc_33 => ?_) (fun hc_33 => ?_)
            · skip
              have hGr_ := zGr_i (show zBs Mz N16_ by first | with_reducible assumption | assumption) (show zBc Mz N16_ u15_ 0 by first | with_reducible assumption | assumption) (by (exact hc_33))
              have hFin_ := hGr_.2
              refine zw_iconst (pc := 169) (v := Int32.ofInt 0) (by decide) (zdal_p dlC_M_buildsMembers_19 (i := 0) rfl) ?_
              refine zw_istore_n (pc := 170) (i := 1) (L2 := [some (.ref 81), some (.int (Int32.ofInt 0)), none, none]) rfl (by decide) rfl (zdal_p dlC_M_buildsMembers_19 (i := 1) rfl) ?_
              have lp_171 : ∀ (n : Nat) (u27_ : Int) (hu27_a : -2147483648 ≤ u27_) (hu27_b : u27_ < 2147483648) (N28_ : zMem) (hs29_ : zFr [] [85] N16_ N28_) (i30_ : 0 ≤ u27_) (i31_ : u27_ ≤ ze N28_ 81 20) (i32_ : zGr Mz N28_) (i33_ : zSt Mz N28_ u27_) (i34_ : 1 ≤ ze N28_ 81 20) (i35_ : ze N28_ 81 20 ≤ 24) (i36_ : zB 85 144 0 5 N28_), (25 - u27_).toNat < n → zW l m_M_buildsMembers (zn Mz + 0, zw Mz + 0) N28_ 171 [some (.ref 81), some (.int (Int32.ofInt u27_)), none, none] [] (zpI [20] [85, 86, 87, 88] Mz (fun v N => zB 85 144 0 5 N ∧ (((v = 1 ∧ zFin Mz ∧ 1 ≤ ze N 81 20 ∧ ze N 81 20 ≤ 24 ∧ (∃ T : zGT, T ∈ gTabs ∧ zTab T N ∧ zCdR (ze Mz 81 12) (zMvs Mz) T N)) ∨ (v = 0 ∧ ¬ zFin Mz))))) := by
                intro n
                induction n with
                | zero =>
                  intro u27_ hu27_a hu27_b N28_ hs29_ i30_ i31_ i32_ i33_ i34_ i35_ i36_ h0
                  exact absurd h0 (Nat.not_lt_zero _)
                | succ n ih_171 =>
                  intro u27_ hu27_a hu27_b N28_ hs29_ i30_ i31_ i32_ i33_ i34_ i35_ i36_ hlt_171
                  have hf_N28_ : zFr [20] [85, 86, 87, 88] Mz N28_ := hf_N16_.tr hs29_ (by decide) (by decide)
                  have e12_N28_ : ze N28_ 81 12 = ze N16_ 81 12 := hs29_.e (by decide)
                  have e13_N28_ : ze N28_ 81 13 = ze N16_ 81 13 := hs29_.e (by decide)
                  have e20_N28_ : ze N28_ 81 20 = ze N16_ 81 20 := hs29_.e (by decide)
                  refine zw_iload_n (pc := 171) (n := 1) (x := Int32.ofInt u27_) rfl (zdal_p dlC_M_buildsMembers_19 (i := 2) rfl) ?_
                  refine zw_aload_n (pc := 172) (n := 0) (x := 81) rfl (zdal_p dlC_M_buildsMembers_19 (i := 3) rfl) ?_
                  refine zr_getI (hf_N28_.w hW) (pc := 173) f_M_196 rfl (zdal_p dlC_M_buildsMembers_19 (i := 4) rfl) ?_
                  refine zr_icmp_ge (pc := 176) (tgt := 218) ⟨hu27_a, hu27_b⟩ ⟨(ze_r N28_ 81 20).1, (ze_r N28_ 81 20).2⟩ (by decide) (zdal_p dlC_M_buildsMembers_19 (i := 5) rfl) (fun hc_176 => ?_) (fun hc_176 => ?_)
                  · skip
                    obtain ⟨T, hT_, hTm_⟩ := zTb_g p4_ hFin_ (show zGr Mz N28_ by first | with_reducible assumption | assumption) (show zSt Mz N28_ u27_ by first | with_reducible assumption | assumption) (by (exact hc_176))
                    have hgn_ := hT_.2.1
                    have h24_ : gN T ≤ 24 := by (exact zo_636 hgn_ i35_)
                    refine zw_iconst (pc := 218) (v := Int32.ofInt 0) (by decide) (zdal_p dlC_M_buildsMembers_20 (i := 3) rfl) ?_
                    refine zw_istore_n (pc := 219) (i := 1) (L2 := [some (.ref 81), some (.int (Int32.ofInt 0)), none, none]) rfl (by decide) rfl (zdal_p dlC_M_buildsMembers_20 (i := 4) rfl) ?_
                    have lp_220 : ∀ (n : Nat) (u39_ : Int) (hu39_a : -2147483648 ≤ u39_) (hu39_b : u39_ < 2147483648) (N40_ : zMem) (hs41_ : zFr [] [86, 87, 88] N28_ N40_) (i42_ : 0 ≤ u39_) (i43_ : u39_ ≤ ze N40_ 81 20) (i44_ : zTb Mz N40_ T) (i45_ : zGr Mz N40_) (i46_ : zPq N40_ T u39_ 0) (i47_ : ze N40_ 81 20 = (gN T : Int)) (i48_ : 1 ≤ ze N40_ 81 20) (i49_ : ze N40_ 81 20 ≤ 24), (25 - u39_).toNat < n → zW l m_M_buildsMembers (zn Mz + 0, zw Mz + 0) N40_ 220 [some (.ref 81), some (.int (Int32.ofInt u39_)), none, none] [] (zpI [20] [85, 86, 87, 88] Mz (fun v N => zB 85 144 0 5 N ∧ (((v = 1 ∧ zFin Mz ∧ 1 ≤ ze N 81 20 ∧ ze N 81 20 ≤ 24 ∧ (∃ T : zGT, T ∈ gTabs ∧ zTab T N ∧ zCdR (ze Mz 81 12) (zMvs Mz) T N)) ∨ (v = 0 ∧ ¬ zFin Mz))))) := by
                      intro n
                      induction n with
                      | zero =>
                        intro u39_ hu39_a hu39_b N40_ hs41_ i42_ i43_ i44_ i45_ i46_ i47_ i48_ i49_ h0
                        exact absurd h0 (Nat.not_lt_zero _)
                      | succ n ih_220 =>
                        intro u39_ hu39_a hu39_b N40_ hs41_ i42_ i43_ i44_ i45_ i46_ i47_ i48_ i49_ hlt_220
                        have hf_N40_ : zFr [20] [85, 86, 87, 88] Mz N40_ := hf_N28_.tr hs41_ (by decide) (by decide)
                        have e12_N40_ : ze N40_ 81 12 = ze N28_ 81 12 := hs41_.e (by decide)
                        have e13_N40_ : ze N40_ 81 13 = ze N28_ 81 13 := hs41_.e (by decide)
                        have e20_N40_ : ze N40_ 81 20 = ze N28_ 81 20 := hs41_.e (by decide)
                        have c52_ : zB 85 144 0 5 N40_ := zB.fr hs41_ i36_ (by decide) (by decide)
                        have c53_ : zCdR (ze Mz 81 12) (zMvs Mz) T N40_ := zCdR.fr hs41_ hTm_ (by decide) (by decide)
                        refine zw_iload_n (pc := 220) (n := 1) (x := Int32.ofInt u39_) rfl (zdal_p dlC_M_buildsMembers_20 (i := 5) rfl) ?_
                        refine zw_aload_n (pc := 221) (n := 0) (x := 81) rfl (zdal_p dlC_M_buildsMembers_20 (i := 6) rfl) ?_
                        refine zr_getI (hf_N40_.w hW) (pc := 222) f_M_196 rfl (zdal_p dlC_M_buildsMembers_20 (i := 7) rfl) ?_
                        refine zr_icmp_ge (pc := 225) (tgt := 329) ⟨hu39_a, hu39_b⟩ ⟨(ze_r N40_ 81 20).1, (ze_r N40_ 81 20).2⟩ (by decide) (zdal_p dlC_M_buildsMembers_20 (i := 8) rfl) (fun hc_225 => ?_) (fun hc_225 => ?_)
                        · skip
                          refine zw_iconst (pc := 329) (v := Int32.ofInt 1) (by decide) (zdal_p dlC_M_buildsMembers_22 (i := 22) rfl) ?_
                          exact zr_iret (pc := 330) (ty := .boolean) rfl (z_narB (by (decide))) ⟨by (decide), by (decide)⟩ hf_N40_ ⟨c52_, (show ((1 = 1 ∧ zFin Mz ∧ 1 ≤ ze N40_ 81 20 ∧ ze N40_ 81 20 ≤ 24 ∧ (∃ T : zGT, T ∈ gTabs ∧ zTab T N40_ ∧ zCdR (ze Mz 81 12) (zMvs Mz) T N40_)) ∨ (1 = 0 ∧ ¬ zFin Mz)) from Or.inl (⟨(show 1 = 1 by first | exact hFin_ | (decide) | exact ⟨T, hT_.1, zPq_e (show zTb Mz N40_ T by first | with_reducible assumption | assumption) (show zPq N40_ T u39_ 0 by first | with_reducible assumption | assumption) (by omega), c53_⟩), (show zFin Mz by first | exact hFin_ | omega | exact ⟨T, hT_.1, zPq_e (show zTb Mz N40_ T by first | with_reducible assumption | assumption) (show zPq N40_ T u39_ 0 by first | with_reducible assumption | assumption) (by omega), c53_⟩), (show 1 ≤ ze N40_ 81 20 by first | exact hFin_ | (exact i48_) | exact ⟨T, hT_.1, zPq_e (show zTb Mz N40_ T by first | with_reducible assumption | assumption) (show zPq N40_ T u39_ 0 by first | with_reducible assumption | assumption) (by omega), c53_⟩), (show ze N40_ 81 20 ≤ 24 by first | exact hFin_ | (exact i49_) | exact ⟨T, hT_.1, zPq_e (show zTb Mz N40_ T by first | with_reducible assumption | assumption) (show zPq N40_ T u39_ 0 by first | with_reducible assumption | assumption) (by omega), c53_⟩), (show (∃ T : zGT, T ∈ gTabs ∧ zTab T N40_ ∧ zCdR (ze Mz 81 12) (zMvs Mz) T N40_) by first | exact hFin_ | omega | exact ⟨T, hT_.1, zPq_e (show zTb Mz N40_ T by first | with_reducible assumption | assumption) (show zPq N40_ T u39_ 0 by first | with_reducible assumption | assumption) (by (exact zo_637 h24_ hc_225 i42_ i47_)), c53_⟩)⟩))⟩ (zdal_p dlC_M_buildsMembers_22 (i := 23) rfl)
                        · skip
                          refine zw_iconst (pc := 228) (v := Int32.ofInt 0) (by decide) (zdal_p dlC_M_buildsMembers_20 (i := 9) rfl) ?_
                          refine zw_istore_n (pc := 229) (i := 2) (L2 := [some (.ref 81), some (.int (Int32.ofInt u39_)), some (.int (Int32.ofInt 0)), none]) rfl (by decide) rfl (zdal_p dlC_M_buildsMembers_20 (i := 10) rfl) ?_
                          have lp_230 : ∀ (n : Nat) (u54_ : Int) (hu54_a : -2147483648 ≤ u54_) (hu54_b : u54_ < 2147483648) (N55_ : zMem) (hs56_ : zFr [] [86, 87, 88] N40_ N55_) (i57_ : u39_ < ze N55_ 81 20) (i58_ : 0 ≤ u54_) (i59_ : u54_ ≤ ze N55_ 81 20) (i60_ : zTb Mz N55_ T) (i61_ : zGr Mz N55_) (i62_ : zPq N55_ T u39_ u54_) (i63_ : zPu N55_ T u39_ u54_) (i64_ : ze N55_ 81 20 = (gN T : Int)) (i65_ : 1 ≤ ze N55_ 81 20) (i66_ : ze N55_ 81 20 ≤ 24), (25 - u54_).toNat < n → zW l m_M_buildsMembers (zn Mz + 0, zw Mz + 0) N55_ 230 [some (.ref 81), some (.int (Int32.ofInt u39_)), some (.int (Int32.ofInt u54_)), none] [] (zpI [20] [85, 86, 87, 88] Mz (fun v N => zB 85 144 0 5 N ∧ (((v = 1 ∧ zFin Mz ∧ 1 ≤ ze N 81 20 ∧ ze N 81 20 ≤ 24 ∧ (∃ T : zGT, T ∈ gTabs ∧ zTab T N ∧ zCdR (ze Mz 81 12) (zMvs Mz) T N)) ∨ (v = 0 ∧ ¬ zFin Mz))))) := by
                            intro n
                            induction n with
                            | zero =>
                              intro u54_ hu54_a hu54_b N55_ hs56_ i57_ i58_ i59_ i60_ i61_ i62_ i63_ i64_ i65_ i66_ h0
                              exact absurd h0 (Nat.not_lt_zero _)
                            | succ n ih_230 =>
                              intro u54_ hu54_a hu54_b N55_ hs56_ i57_ i58_ i59_ i60_ i61_ i62_ i63_ i64_ i65_ i66_ hlt_230
                              have hf_N55_ : zFr [20] [85, 86, 87, 88] Mz N55_ := hf_N40_.tr hs56_ (by decide) (by decide)
                              have hb0_N55_ : zFr [] [86, 87, 88] N28_ N55_ := hs41_.tr hs56_ (by decide) (by decide)
                              have e12_N55_ : ze N55_ 81 12 = ze N40_ 81 12 := hs56_.e (by decide)
                              have e13_N55_ : ze N55_ 81 13 = ze N40_ 81 13 := hs56_.e (by decide)
                              have e20_N55_ : ze N55_ 81 20 = ze N40_ 81 20 := hs56_.e (by decide)
                              have c69_ : zB 85 144 0 5 N55_ := zB.fr hs56_ c52_ (by decide) (by decide)
                              refine zw_iload_n (pc := 230) (n := 2) (x := Int32.ofInt u54_) rfl (zdal_p dlC_M_buildsMembers_20 (i := 11) rfl) ?_
                              refine zw_aload_n (pc := 231) (n := 0) (x := 81) rfl (zdal_p dlC_M_buildsMembers_20 (i := 12) rfl) ?_
                              refine zr_getI (hf_N55_.w hW) (pc := 232) f_M_196 rfl (zdal_p dlC_M_buildsMembers_20 (i := 13) rfl) ?_
                              refine zr_icmp_ge (pc := 235) (tgt := 323) ⟨hu54_a, hu54_b⟩ ⟨(ze_r N55_ 81 20).1, (ze_r N55_ 81 20).2⟩ (by decide) (zdal_p dlC_M_buildsMembers_20 (i := 14) rfl) (fun hc_235 => ?_) (fun hc_235 => ?_)
                              · skip
                                have n1_ := zPq_n (show zTb Mz N55_ T by first | with_reducible assumption | assumption) (by (exact i42_)) (show zPq N55_ T u39_ u54_ by first | with_reducible assumption | assumption) (show zPu N55_ T u39_ u54_ by first | with_reducible assumption | assumption) (by (exact zo_638 h24_ hc_235 hu54_b i58_ i59_ i64_ i66_))
                                refine zr_iinc (pc := 323) (i := 1) (a := u39_) (n := 1) (L2 := [some (.ref 81), some (.int (Int32.ofInt (u39_ + 1))), some (.int (Int32.ofInt u54_)), none]) rfl (by decide) rfl (zdal_p dlC_M_buildsMembers_22 (i := 20) rfl) ?_
                                refine zw_goto (pc := 326) (tgt := 220) (by decide) (zdal_p dlC_M_buildsMembers_22 (i := 21) rfl) ?_
                                refine zW_le [some (.ref 81), some (.int (Int32.ofInt (u39_ + 1))), none, none] (⟨rfl, rfl, trivial⟩) ?_
                                exact ih_220 (u39_ + 1) (by (exact zo_74 i42_)) (by (exact zo_639 hc_225 hu39_b i49_)) N55_ hb0_N55_ (show 0 ≤ (u39_ + 1) by first | with_reducible assumption | (exact zo_76 i42_) | assumption) (show (u39_ + 1) ≤ ze N55_ 81 20 by first | with_reducible assumption | assumption | omega) (show zTb Mz N55_ T by first | with_reducible assumption | assumption | omega) (show zGr Mz N55_ by first | with_reducible assumption | assumption | omega) (show zPq N55_ T (u39_ + 1) 0 by exact n1_) (show ze N55_ 81 20 = (gN T : Int) by first | with_reducible assumption | assumption | omega) (show 1 ≤ ze N55_ 81 20 by first | with_reducible assumption | assumption | omega) (show ze N55_ 81 20 ≤ 24 by first | with_reducible assumption | assumption | omega) (by (exact zo_640 hc_225 hlt_220 hu39_b i42_ i49_))
                              · skip
                                refine zw_iconst (pc := 238) (v := Int32.ofInt 0) (by decide) (zdal_p dlC_M_buildsMembers_20 (i := 15) rfl) ?_
                                refine zw_istore_n (pc := 239) (i := 3) (L2 := [some (.ref 81), some (.int (Int32.ofInt u39_)), some (.int (Int32.ofInt u54_)), some (.int (Int32.ofInt 0))]) rfl (by decide) rfl (zdal_p dlC_M_buildsMembers_20 (i := 16) rfl) ?_
                                have lp_240 : ∀ (n : Nat) (u71_ : Int) (hu71_a : -2147483648 ≤ u71_) (hu71_b : u71_ < 2147483648) (N72_ : zMem) (hs73_ : zFr [] [86] N55_ N72_) (i74_ : 0 ≤ u71_) (i75_ : u71_ ≤ ze Mz 81 12) (i76_ : zCg Mz N72_ u39_ u54_ 1 u71_) (i77_ : zTb Mz N72_ T) (i78_ : zGr Mz N72_) (i79_ : zPq N72_ T u39_ u54_) (i80_ : zPu N72_ T u39_ u54_), (ze Mz 81 12 - u71_).toNat < n → zW l m_M_buildsMembers (zn Mz + 0, zw Mz + 0) N72_ 240 [some (.ref 81), some (.int (Int32.ofInt u39_)), some (.int (Int32.ofInt u54_)), some (.int (Int32.ofInt u71_))] [] (zpI [20] [85, 86, 87, 88] Mz (fun v N => zB 85 144 0 5 N ∧ (((v = 1 ∧ zFin Mz ∧ 1 ≤ ze N 81 20 ∧ ze N 81 20 ≤ 24 ∧ (∃ T : zGT, T ∈ gTabs ∧ zTab T N ∧ zCdR (ze Mz 81 12) (zMvs Mz) T N)) ∨ (v = 0 ∧ ¬ zFin Mz))))) := by
                                  intro n
                                  induction n with
                                  | zero =>
                                    intro u71_ hu71_a hu71_b N72_ hs73_ i74_ i75_ i76_ i77_ i78_ i79_ i80_ h0
                                    exact absurd h0 (Nat.not_lt_zero _)
                                  | succ n ih_240 =>
                                    intro u71_ hu71_a hu71_b N72_ hs73_ i74_ i75_ i76_ i77_ i78_ i79_ i80_ hlt_240
                                    have hf_N72_ : zFr [20] [85, 86, 87, 88] Mz N72_ := hf_N55_.tr hs73_ (by decide) (by decide)
                                    have hb0_N72_ : zFr [] [86, 87, 88] N28_ N72_ := hb0_N55_.tr hs73_ (by decide) (by decide)
                                    have hb1_N72_ : zFr [] [86, 87, 88] N40_ N72_ := hs56_.tr hs73_ (by decide) (by decide)
                                    have e12_N72_ : ze N72_ 81 12 = ze N55_ 81 12 := hs73_.e (by decide)
                                    have e13_N72_ : ze N72_ 81 13 = ze N55_ 81 13 := hs73_.e (by decide)
                                    have e20_N72_ : ze N72_ 81 20 = ze N55_ 81 20 := hs73_.e (by decide)
                                    have c83_ : zB 85 144 0 5 N72_ := zB.fr hs73_ c69_ (by decide) (by decide)
                                    refine zw_iload_n (pc := 240) (n := 3) (x := Int32.ofInt u71_) rfl (zdal_p dlC_M_buildsMembers_20 (i := 17) rfl) ?_
                                    refine zw_aload_n (pc := 241) (n := 0) (x := 81) rfl (zdal_p dlC_M_buildsMembers_20 (i := 18) rfl) ?_
                                    refine zr_getI0 hf_N72_ hW (pc := 242) (by decide) f_M_115 rfl (zdal_p dlC_M_buildsMembers_20 (i := 19) rfl) ?_
                                    refine zr_icmp_ge (pc := 245) (tgt := 281) ⟨hu71_a, hu71_b⟩ ⟨(ze_r Mz 81 12).1, (ze_r Mz 81 12).2⟩ (by decide) (zdal_p dlC_M_buildsMembers_20 (i := 20) rfl) (fun hc_245 => ?_) (fun hc_245 => ?_)
                                    · skip
                                      have hcg_ := (show zCg Mz N72_ u39_ u54_ 1 u71_ by first | with_reducible assumption | assumption)
                                      have hgr_ := (show zGr Mz N72_ by first | with_reducible assumption | assumption)
                                      have hcc_ := zCg_c hPS_ c83_ (by (exact zo_641 hu39_b i42_ i57_ i66_)) (hgr_.g (i := (u39_).toNat) (by (exact zo_642 e20_N72_ hu39_b i42_ i57_ i65_ i66_))) (by (exact hc_245)) hcg_ (Or.inr ⟨rfl, by (exact i58_), by (exact zo_643 hc_235 hu54_b i66_)⟩)
                                      rw [if_neg (by decide)] at hcc_
                                      have hcb_ := zCg_b (P := ze Mz 81 12) hcg_ (by (exact hc_245))
                                      refine zw_aload_n (pc := 281) (n := 0) (x := 81) rfl (zdal_p dlC_M_buildsMembers_21 (i := 18) rfl) ?_
                                      refine zr_getF (r := 87) (hf_N72_.w hW) (pc := 282) f_M_32 rfl (zh_87 (hf_N72_.w hW)).1 (zdal_p dlC_M_buildsMembers_21 (i := 19) rfl) ?_
                                      refine zw_bipush (pc := 285) (v := Int32.ofInt 24) (by decide) (zdal_p dlC_M_buildsMembers_21 (i := 20) rfl) ?_
                                      refine zw_iload_n (pc := 287) (n := 1) (x := Int32.ofInt u39_) rfl (zdal_p dlC_M_buildsMembers_21 (i := 21) rfl) ?_
                                      refine zr_imul (pc := 288) (zdal_p dlC_M_buildsMembers_21 (i := 22) rfl) ?_
                                      refine zw_iload_n (pc := 289) (n := 2) (x := Int32.ofInt u54_) rfl (zdal_p dlC_M_buildsMembers_21 (i := 23) rfl) ?_
                                      refine zr_iadd (pc := 290) (zdal_p dlC_M_buildsMembers_22 (i := 0) rfl) ?_
                                      refine zw_aload_n (pc := 291) (n := 0) (x := 81) rfl (zdal_p dlC_M_buildsMembers_22 (i := 1) rfl) ?_
                                      refine zr_callV (hf_N72_.w hW) hf_N72_.x (pc := 292) [] [.int (Int32.ofInt ((24 * u39_) + u54_)), .ref 87] l_M_202 (c_M_indexOf l N72_ (hf_N72_.w hW) (ze Mz 81 12) (show 0 ≤ ze N72_ 81 20 by first | with_reducible assumption | (exact zo_568 e20_N72_ i65_) | assumption) (show ze N72_ 81 20 ≤ 24 by first | with_reducible assumption | (exact zo_644 e20_N72_ i66_) | assumption) (show ze N72_ 81 12 = (ze Mz 81 12) by first | with_reducible assumption | (exact zo_645 e12_N16_ e12_N1_ e12_N28_ e12_N40_ e12_N55_ e12_N6_ e12_N72_) | assumption) (show 1 ≤ (ze Mz 81 12) by first | with_reducible assumption | assumption | omega) (show (ze Mz 81 12) ≤ 6 by first | with_reducible assumption | assumption | omega) c83_ (show zCb N72_ (ze Mz 81 12) by first | with_reducible assumption | assumption | omega)) rfl rfl rfl (by decide) (Nat.le_of_ble_eq_true rfl) (zdal_p dlC_M_buildsMembers_22 (i := 2) rfl) ?_
                                      rintro _ N85_ ⟨v86_, rfl, ⟨hv86_a, hv86_b⟩, hsN85_, hp0_N85_⟩
                                      obtain rfl := hsN85_.eq.symm
                                      replace hp0_N85_ : ((0 ≤ v86_ ∧ v86_ < ze N72_ 81 20 ∧ zFnd N72_ v86_ (ze Mz 81 12)) ∨ (v86_ = -1 ∧ zNo2 N72_ (ze Mz 81 12))) := hp0_N85_
                                      rcases hp0_N85_ with ⟨ha292_0_hp0_N85_, ha292_1_hp0_N85_, ha292_2_hp0_N85_⟩ | ⟨rfl, ha292_0_hp0_N85_⟩
                                      · skip
                                        have hpv_ := zTb.p (show zTb Mz N72_ T by first | with_reducible assumption | assumption) ⟨by (exact i42_), by (exact zo_646 e20_N72_ ha292_0_hp0_N85_ ha292_1_hp0_N85_ hu39_b i57_ i66_)⟩ ⟨by (exact i58_), by (exact zo_647 e20_N72_ ha292_0_hp0_N85_ ha292_1_hp0_N85_ hc_235 hu54_b i66_)⟩ hcc_ (Or.inl ⟨ha292_0_hp0_N85_, ha292_1_hp0_N85_, ha292_2_hp0_N85_⟩)
                                        show zW l m_M_buildsMembers (zn Mz + 0, zw Mz + 0) N72_ 295 [some (.ref 81), some (.int (Int32.ofInt u39_)), some (.int (Int32.ofInt u54_)), some (.int (Int32.ofInt u71_))] [.int (Int32.ofInt v86_), .int (Int32.ofInt ((24 * u39_) + u54_)), .ref 87] _
                                        refine zr_iast (pc := 295) (zh_87 (hf_N72_.w hW)).2 (by decide) (by decide) (by (exact zo_543 i42_ i58_)) (by (exact zo_648 hc_225 hc_235 hu54_b i49_ i66_)) (zdal_p dlC_M_buildsMembers_22 (i := 3) rfl) (fun N87_ hN87_ hsN87_ => ?_)
                                        have hf_N87_ : zFr [20] [85, 86, 87, 88] Mz N87_ := hf_N72_.tr hsN87_ (by decide) (by decide)
                                        have hb0_N87_ : zFr [] [86, 87, 88] N28_ N87_ := hb0_N72_.tr hsN87_ (by decide) (by decide)
                                        have hb1_N87_ : zFr [] [86, 87, 88] N40_ N87_ := hb1_N72_.tr hsN87_ (by decide) (by decide)
                                        have e12_N87_ : ze N87_ 81 12 = ze N72_ 81 12 := hsN87_.e (by decide)
                                        have e13_N87_ : ze N87_ 81 13 = ze N72_ 81 13 := hsN87_.e (by decide)
                                        have e20_N87_ : ze N87_ 81 20 = ze N72_ 81 20 := hsN87_.e (by decide)
                                        have hq_ := zPq_s h24_ (by (exact i42_)) (by (exact i58_)) (by (exact zo_649 hc_235 hu54_b i64_ i66_)) (by (exact zo_650 hc_225 hu39_b i47_ i57_ i66_)) (show zPq N72_ T u39_ u54_ by first | with_reducible assumption | assumption) (show zPu N72_ T u39_ u54_ by first | with_reducible assumption | assumption) hpv_.1 (by (exact zo_651 e20_N72_ ha292_1_hp0_N85_ hv86_b i66_)) hN87_
                                        have hq3_ := hq_.2.2
                                        have hg1_ := zTb.fr hsN87_ (show zTb Mz N72_ T by first | with_reducible assumption | assumption) (by decide) (by decide)
                                        have hg2_ := zGr.fr hsN87_ (show zGr Mz N72_ by first | with_reducible assumption | assumption) (by decide) (by decide)
                                        refine zw_aload_n (pc := 296) (n := 0) (x := 81) rfl (zdal_p dlC_M_buildsMembers_22 (i := 4) rfl) ?_
                                        refine zr_getF (r := 87) (hf_N87_.w hW) (pc := 297) f_M_32 rfl (zh_87 (hf_N87_.w hW)).1 (zdal_p dlC_M_buildsMembers_22 (i := 5) rfl) ?_
                                        refine zw_bipush (pc := 300) (v := Int32.ofInt 24) (by decide) (zdal_p dlC_M_buildsMembers_22 (i := 6) rfl) ?_
                                        refine zw_iload_n (pc := 302) (n := 1) (x := Int32.ofInt u39_) rfl (zdal_p dlC_M_buildsMembers_22 (i := 7) rfl) ?_
                                        refine zr_imul (pc := 303) (zdal_p dlC_M_buildsMembers_22 (i := 8) rfl) ?_
                                        refine zw_iload_n (pc := 304) (n := 2) (x := Int32.ofInt u54_) rfl (zdal_p dlC_M_buildsMembers_22 (i := 9) rfl) ?_
                                        refine zr_iadd (pc := 305) (zdal_p dlC_M_buildsMembers_22 (i := 10) rfl) ?_
                                        refine zr_ialdn (pc := 306) (zh_87 (hf_N87_.w hW)).2 (by decide) (by (exact zo_543 i42_ i58_)) (by (exact zo_648 hc_225 hc_235 hu54_b i49_ i66_)) (zdal_p dlC_M_buildsMembers_22 (i := 11) rfl) (fun v92_ hv92_ hv92_a hv92_b => ?_)
                                        refine zr_if_ne (pc := 307) (tgt := 317) ⟨hv92_a, hv92_b⟩ (by decide) (zdal_p dlC_M_buildsMembers_22 (i := 12) rfl) (fun hc_307 => ?_) (fun hc_307 => ?_)
                                        · skip
                                          refine zr_iinc (pc := 317) (i := 2) (a := u54_) (n := 1) (L2 := [some (.ref 81), some (.int (Int32.ofInt u39_)), some (.int (Int32.ofInt (u54_ + 1))), some (.int (Int32.ofInt u71_))]) rfl (by decide) rfl (zdal_p dlC_M_buildsMembers_22 (i := 18) rfl) ?_
                                          refine zw_goto (pc := 320) (tgt := 230) (by decide) (zdal_p dlC_M_buildsMembers_22 (i := 19) rfl) ?_
                                          have k1_ : zPq N87_ T u39_ (u54_ + 1) := by first | exact hw_.1 | exact hq_.1
                                          have k2_ : zPu N87_ T u39_ (u54_ + 1) := by first | exact hw_.2 | exact zPu_n (by (exact i58_)) hq_.2.1 (by (exact zo_652 ha292_0_hp0_N85_ hpv_.1 hq_.2.2 hv92_ hc_307))
                                          have k3_ : zTb Mz N87_ T := by first | exact hj1_ | exact hg1_
                                          have k4_ : zGr Mz N87_ := by first | exact hj2_ | exact hg2_
                                          refine zW_le [some (.ref 81), some (.int (Int32.ofInt u39_)), some (.int (Int32.ofInt (u54_ + 1))), none] (⟨rfl, rfl, rfl, trivial⟩) ?_
                                          exact ih_230 (u54_ + 1) (by (exact zo_74 i58_)) (by (exact zo_639 hc_235 hu54_b i66_)) N87_ hb1_N87_ (show u39_ < ze N87_ 81 20 by first | with_reducible assumption | (exact zo_653 e20_N72_ e20_N87_ hu39_b i57_ i65_ i66_) | assumption) (show 0 ≤ (u54_ + 1) by first | with_reducible assumption | (exact zo_76 i58_) | assumption) (show (u54_ + 1) ≤ ze N87_ 81 20 by first | with_reducible assumption | (exact zo_654 e20_N72_ e20_N87_ hc_235 hu54_b i65_ i66_) | assumption) (show zTb Mz N87_ T by exact k3_) (show zGr Mz N87_ by exact k4_) (show zPq N87_ T u39_ (u54_ + 1) by exact k1_) (show zPu N87_ T u39_ (u54_ + 1) by exact k2_) (show ze N87_ 81 20 = (gN T : Int) by first | with_reducible assumption | (exact zo_655 e20_N72_ e20_N87_ i64_ i66_) | assumption) (show 1 ≤ ze N87_ 81 20 by first | with_reducible assumption | (exact zo_560 e20_N72_ e20_N87_ i65_) | assumption) (show ze N87_ 81 20 ≤ 24 by first | with_reducible assumption | (exact zo_656 e20_N72_ e20_N87_ i66_) | assumption) (by (exact zo_640 hc_235 hlt_230 hu54_b i58_ i66_))
                                        · skip
                                          refine zw_aload_n (pc := 310) (n := 0) (x := 81) rfl (zdal_p dlC_M_buildsMembers_22 (i := 13) rfl) ?_
                                          refine zr_getF (r := 88) (hf_N87_.w hW) (pc := 311) f_M_35 rfl (zh_88 (hf_N87_.w hW)).1 (zdal_p dlC_M_buildsMembers_22 (i := 14) rfl) ?_
                                          refine zw_iload_n (pc := 314) (n := 1) (x := Int32.ofInt u39_) rfl (zdal_p dlC_M_buildsMembers_22 (i := 15) rfl) ?_
                                          refine zw_iload_n (pc := 315) (n := 2) (x := Int32.ofInt u54_) rfl (zdal_p dlC_M_buildsMembers_22 (i := 16) rfl) ?_
                                          refine zr_iast (pc := 316) (zh_88 (hf_N87_.w hW)).2 (by decide) (by decide) (by (exact i42_)) (by (exact zo_657 hu39_b i57_ i66_)) (zdal_p dlC_M_buildsMembers_22 (i := 17) rfl) (fun N93_ hN93_ hsN93_ => ?_)
                                          have hf_N93_ : zFr [20] [85, 86, 87, 88] Mz N93_ := hf_N87_.tr hsN93_ (by decide) (by decide)
                                          have hb0_N93_ : zFr [] [86, 87, 88] N28_ N93_ := hb0_N87_.tr hsN93_ (by decide) (by decide)
                                          have hb1_N93_ : zFr [] [86, 87, 88] N40_ N93_ := hb1_N87_.tr hsN93_ (by decide) (by decide)
                                          have e12_N93_ : ze N93_ 81 12 = ze N87_ 81 12 := hsN93_.e (by decide)
                                          have e13_N93_ : ze N93_ 81 13 = ze N87_ 81 13 := hsN93_.e (by decide)
                                          have e20_N93_ : ze N93_ 81 20 = ze N87_ 81 20 := hsN93_.e (by decide)
                                          have hw_ := zPu_s h24_ (by (exact i42_)) (by (exact i58_)) (by (exact zo_643 hc_235 hu54_b i66_)) hq_.1 (by (exact zo_658 hc_307 hpv_.1 hq_.2.2 hv86_b hv92_)) hN93_
                                          have hj1_ := zTb.fr hsN93_ hg1_ (by decide) (by decide)
                                          have hj2_ := zGr.fr hsN93_ hg2_ (by decide) (by decide)
                                          refine zr_iinc (pc := 317) (i := 2) (a := u54_) (n := 1) (L2 := [some (.ref 81), some (.int (Int32.ofInt u39_)), some (.int (Int32.ofInt (u54_ + 1))), some (.int (Int32.ofInt u71_))]) rfl (by decide) rfl (zdal_p dlC_M_buildsMembers_22 (i := 18) rfl) ?_
                                          refine zw_goto (pc := 320) (tgt := 230) (by decide) (zdal_p dlC_M_buildsMembers_22 (i := 19) rfl) ?_
                                          have k1_ : zPq N93_ T u39_ (u54_ + 1) := by first | exact hw_.1 | exact hq_.1
                                          have k2_ : zPu N93_ T u39_ (u54_ + 1) := by first | exact hw_.2 | exact zPu_n (by omega) hq_.2.1 (by omega)
                                          have k3_ : zTb Mz N93_ T := by first | exact hj1_ | exact hg1_
                                          have k4_ : zGr Mz N93_ := by first | exact hj2_ | exact hg2_
                                          refine zW_le [some (.ref 81), some (.int (Int32.ofInt u39_)), some (.int (Int32.ofInt (u54_ + 1))), none] (⟨rfl, rfl, rfl, trivial⟩) ?_
                                          exact ih_230 (u54_ + 1) (by (exact zo_74 i58_)) (by (exact zo_639 hc_235 hu54_b i66_)) N93_ hb1_N93_ (show u39_ < ze N93_ 81 20 by first | with_reducible assumption | (exact zo_659 e20_N72_ e20_N87_ e20_N93_ hu39_b i57_ i65_ i66_) | assumption) (show 0 ≤ (u54_ + 1) by first | with_reducible assumption | (exact zo_76 i58_) | assumption) (show (u54_ + 1) ≤ ze N93_ 81 20 by first | with_reducible assumption | (exact zo_660 e20_N72_ e20_N87_ e20_N93_ hc_235 hu54_b i65_ i66_) | assumption) (show zTb Mz N93_ T by exact k3_) (show zGr Mz N93_ by exact k4_) (show zPq N93_ T u39_ (u54_ + 1) by exact k1_) (show zPu N93_ T u39_ (u54_ + 1) by exact k2_) (show ze N93_ 81 20 = (gN T : Int) by first | with_reducible assumption | (exact zo_661 e20_N72_ e20_N87_ e20_N93_ i64_ i66_) | assumption) (show 1 ≤ ze N93_ 81 20 by first | with_reducible assumption | (exact zo_662 e20_N72_ e20_N87_ e20_N93_ i65_) | assumption) (show ze N93_ 81 20 ≤ 24 by first | with_reducible assumption | (exact zo_663 e20_N72_ e20_N87_ e20_N93_ i66_) | assumption) (by (exact zo_640 hc_235 hlt_230 hu54_b i58_ i66_))
                                      · skip
                                        have hpv_ := zTb.p (v := -1) (show zTb Mz N72_ T by first | with_reducible assumption | assumption) ⟨by (exact i42_), by (exact zo_664 e20_N72_ hu39_b i57_ i65_ i66_)⟩ ⟨by (exact i58_), by (exact zo_665 e20_N72_ hc_235 hu54_b i65_ i66_)⟩ hcc_ (Or.inr ⟨rfl, ha292_0_hp0_N85_⟩)
                                        exact absurd hpv_.2.1 (by decide)
                                    · skip
                                      refine zw_aload_n (pc := 248) (n := 0) (x := 81) rfl (zdal_p dlC_M_buildsMembers_20 (i := 21) rfl) ?_
                                      refine zr_getF (r := 86) (hf_N72_.w hW) (pc := 249) f_M_29 rfl (zh_86 (hf_N72_.w hW)).1 (zdal_p dlC_M_buildsMembers_20 (i := 22) rfl) ?_
                                      refine zw_iload_n (pc := 252) (n := 3) (x := Int32.ofInt u71_) rfl (zdal_p dlC_M_buildsMembers_20 (i := 23) rfl) ?_
                                      refine zw_aload_n (pc := 253) (n := 0) (x := 81) rfl (zdal_p dlC_M_buildsMembers_21 (i := 0) rfl) ?_
                                      refine zr_getF (r := 85) (hf_N72_.w hW) (pc := 254) f_M_26 rfl (zh_85 (hf_N72_.w hW)).1 (zdal_p dlC_M_buildsMembers_21 (i := 1) rfl) ?_
                                      refine zw_bipush (pc := 257) (v := Int32.ofInt 6) (by decide) (zdal_p dlC_M_buildsMembers_21 (i := 2) rfl) ?_
                                      refine zw_iload_n (pc := 259) (n := 2) (x := Int32.ofInt u54_) rfl (zdal_p dlC_M_buildsMembers_21 (i := 3) rfl) ?_
                                      refine zr_imul (pc := 260) (zdal_p dlC_M_buildsMembers_21 (i := 4) rfl) ?_
                                      refine zw_aload_n (pc := 261) (n := 0) (x := 81) rfl (zdal_p dlC_M_buildsMembers_21 (i := 5) rfl) ?_
                                      refine zr_getF (r := 85) (hf_N72_.w hW) (pc := 262) f_M_26 rfl (zh_85 (hf_N72_.w hW)).1 (zdal_p dlC_M_buildsMembers_21 (i := 6) rfl) ?_
                                      refine zw_bipush (pc := 265) (v := Int32.ofInt 6) (by decide) (zdal_p dlC_M_buildsMembers_21 (i := 7) rfl) ?_
                                      refine zw_iload_n (pc := 267) (n := 1) (x := Int32.ofInt u39_) rfl (zdal_p dlC_M_buildsMembers_21 (i := 8) rfl) ?_
                                      refine zr_imul (pc := 268) (zdal_p dlC_M_buildsMembers_21 (i := 9) rfl) ?_
                                      refine zw_iload_n (pc := 269) (n := 3) (x := Int32.ofInt u71_) rfl (zdal_p dlC_M_buildsMembers_21 (i := 10) rfl) ?_
                                      refine zr_iadd (pc := 270) (zdal_p dlC_M_buildsMembers_21 (i := 11) rfl) ?_
                                      refine zr_ialdn (pc := 271) (zh_85 (hf_N72_.w hW)).2 (by decide) (by (exact zo_666 i42_ i74_)) (by (exact zo_667 hc_245 i57_ i66_ p1_)) (zdal_p dlC_M_buildsMembers_21 (i := 12) rfl) (fun v98_ hv98_ hv98_a hv98_b => ?_)
                                      have hr99_ := c83_.g (e := (6 * u39_) + u71_) (by (exact zo_666 i42_ i74_)) (by (exact zo_667 hc_245 i57_ i66_ p1_))
                                      rw [← hv98_] at hr99_
                                      refine zr_toI (show v98_ = ze N72_ 85 (6 * u39_ + u71_).toNat by (exact hv98_)) ?_
                                      refine zr_iadd (pc := 272) (zdal_p dlC_M_buildsMembers_21 (i := 13) rfl) ?_
                                      refine zr_ialdn (pc := 273) (zh_85 (hf_N72_.w hW)).2 (by decide) (by (exact zo_668 hr99_.1 hv98_ i58_)) (by (exact zo_669 hc_235 hr99_.2 hu54_b hv98_ i66_)) (zdal_p dlC_M_buildsMembers_21 (i := 14) rfl) (fun v100_ hv100_ hv100_a hv100_b => ?_)
                                      have hr101_ := c83_.g (e := (6 * u54_) + (ze N72_ 85 (6 * u39_ + u71_).toNat)) (by (exact zo_668 hr99_.1 hv98_ i58_)) (by (exact zo_669 hc_235 hr99_.2 hu54_b hv98_ i66_))
                                      rw [← hv100_] at hr101_
                                      refine zr_iast (pc := 274) (zh_86 (hf_N72_.w hW)).2 (by decide) (by decide) (by (exact i74_)) (by (exact zo_670 hc_245 p1_)) (zdal_p dlC_M_buildsMembers_21 (i := 15) rfl) (fun N102_ hN102_ hsN102_ => ?_)
                                      have hf_N102_ : zFr [20] [85, 86, 87, 88] Mz N102_ := hf_N72_.tr hsN102_ (by decide) (by decide)
                                      have hb0_N102_ : zFr [] [86, 87, 88] N28_ N102_ := hb0_N72_.tr hsN102_ (by decide) (by decide)
                                      have hb1_N102_ : zFr [] [86, 87, 88] N40_ N102_ := hb1_N72_.tr hsN102_ (by decide) (by decide)
                                      have hb2_N102_ : zFr [] [86] N55_ N102_ := hs73_.tr hsN102_ (by decide) (by decide)
                                      have e12_N102_ : ze N102_ 81 12 = ze N72_ 81 12 := hsN102_.e (by decide)
                                      have e13_N102_ : ze N102_ 81 13 = ze N72_ 81 13 := hsN102_.e (by decide)
                                      have e20_N102_ : ze N102_ 81 20 = ze N72_ 81 20 := hsN102_.e (by decide)
                                      have hG_ := zCg_s (show zCg Mz N72_ u39_ u54_ 1 u71_ by first | with_reducible assumption | assumption) (by (exact i74_)) (by (exact hr101_)) (by rw [if_neg (by decide)]; assumption) (by (exact i42_)) hN102_
                                      have hf0_ := zTb.fr hsN102_ (show zTb Mz N72_ T by first | with_reducible assumption | assumption) (by decide) (by decide)
                                      have hf1_ := zGr.fr hsN102_ (show zGr Mz N72_ by first | with_reducible assumption | assumption) (by decide) (by decide)
                                      have hf2_ := zPq.fr hsN102_ (show zPq N72_ T u39_ u54_ by first | with_reducible assumption | assumption) (by decide)
                                      have hf3_ := zPu.fr hsN102_ (show zPu N72_ T u39_ u54_ by first | with_reducible assumption | assumption) (by decide)
                                      refine zr_iinc (pc := 275) (i := 3) (a := u71_) (n := 1) (L2 := [some (.ref 81), some (.int (Int32.ofInt u39_)), some (.int (Int32.ofInt u54_)), some (.int (Int32.ofInt (u71_ + 1)))]) rfl (by decide) rfl (zdal_p dlC_M_buildsMembers_21 (i := 16) rfl) ?_
                                      refine zw_goto (pc := 278) (tgt := 240) (by decide) (zdal_p dlC_M_buildsMembers_21 (i := 17) rfl) ?_
                                      exact ih_240 (u71_ + 1) (by (exact zo_74 i74_)) (by (exact zo_671 hc_245 p1_)) N102_ hb2_N102_ (show 0 ≤ (u71_ + 1) by first | with_reducible assumption | (exact zo_76 i74_) | assumption) (show (u71_ + 1) ≤ ze Mz 81 12 by first | with_reducible assumption | assumption | omega) (show zCg Mz N102_ u39_ u54_ 1 (u71_ + 1) by exact hG_) (show zTb Mz N102_ T by exact hf0_) (show zGr Mz N102_ by exact hf1_) (show zPq N102_ T u39_ u54_ by exact hf2_) (show zPu N102_ T u39_ u54_ by exact hf3_) (by (exact zo_147 hc_245 hlt_240))
                                exact lp_240 _ 0 (by decide) (by decide) N55_ zFr.rf (show 0 ≤ (0 : Int) by first | with_reducible assumption | (decide) | assumption) (show (0 : Int) ≤ ze Mz 81 12 by first | with_reducible assumption | (exact zo_564 p0_) | assumption) (show zCg Mz N55_ u39_ u54_ 1 (0 : Int) by exact zCg_0) (show zTb Mz N55_ T by first | with_reducible assumption | assumption | omega) (show zGr Mz N55_ by first | with_reducible assumption | assumption | omega) (show zPq N55_ T u39_ u54_ by first | with_reducible assumption | assumption | omega) (show zPu N55_ T u39_ u54_ by first | with_reducible assumption | assumption | omega) (Nat.lt_succ_self _)
                          exact lp_230 _ 0 (by decide) (by decide) N40_ zFr.rf (show u39_ < ze N40_ 81 20 by first | with_reducible assumption | assumption | omega) (show 0 ≤ (0 : Int) by first | with_reducible assumption | (decide) | assumption) (show (0 : Int) ≤ ze N40_ 81 20 by first | with_reducible assumption | (exact zo_564 i48_) | assumption) (show zTb Mz N40_ T by first | with_reducible assumption | assumption | omega) (show zGr Mz N40_ by first | with_reducible assumption | assumption | omega) (show zPq N40_ T u39_ (0 : Int) by first | with_reducible assumption | assumption | omega) (show zPu N40_ T u39_ (0 : Int) by exact zPu_0) (show ze N40_ 81 20 = (gN T : Int) by first | with_reducible assumption | assumption | omega) (show 1 ≤ ze N40_ 81 20 by first | with_reducible assumption | assumption | omega) (show ze N40_ 81 20 ≤ 24 by first | with_reducible assumption | assumption | omega) (Nat.lt_succ_self _)
                    exact lp_220 _ 0 (by decide) (by decide) N28_ zFr.rf (show 0 ≤ (0 : Int) by first | with_reducible assumption | (decide) | assumption) (show (0 : Int) ≤ ze N28_ 81 20 by first | with_reducible assumption | (exact zo_564 i34_) | assumption) (show zTb Mz N28_ T by exact hT_) (show zGr Mz N28_ by first | with_reducible assumption | assumption | omega) (show zPq N28_ T (0 : Int) 0 by exact zPq_0) (show ze N28_ 81 20 = (gN T : Int) by first | with_reducible assumption | assumption | omega) (show 1 ≤ ze N28_ 81 20 by first | with_reducible assumption | assumption | omega) (show ze N28_ 81 20 ≤ 24 by first | with_reducible assumption | assumption | omega) (Nat.lt_succ_self _)
                  · skip
                    refine zw_iload_n (pc := 179) (n := 1) (x := Int32.ofInt u27_) rfl (zdal_p dlC_M_buildsMembers_19 (i := 6) rfl) ?_
                    refine zw_iconst (pc := 180) (v := Int32.ofInt 1) (by decide) (zdal_p dlC_M_buildsMembers_19 (i := 7) rfl) ?_
                    refine zr_iadd (pc := 181) (zdal_p dlC_M_buildsMembers_19 (i := 8) rfl) ?_
                    refine zw_istore_n (pc := 182) (i := 2) (L2 := [some (.ref 81), some (.int (Int32.ofInt u27_)), some (.int (Int32.ofInt (u27_ + 1))), none]) rfl (by decide) rfl (zdal_p dlC_M_buildsMembers_19 (i := 9) rfl) ?_
                    have lp_183 : ∀ (n : Nat) (u107_ : Int) (hu107_a : -2147483648 ≤ u107_) (hu107_b : u107_ < 2147483648) (N108_ : zMem) (hs109_ : zFr [] [85] N28_ N108_) (i110_ : u27_ < ze N108_ 81 20) (i111_ : u27_ < u107_) (i112_ : u107_ ≤ ze N108_ 81 20) (i113_ : zGr Mz N108_) (i114_ : zSt Mz N108_ u27_) (i115_ : zSu Mz N108_ u27_ u107_) (i116_ : 1 ≤ ze N108_ 81 20) (i117_ : ze N108_ 81 20 ≤ 24) (i118_ : zB 85 144 0 5 N108_), (25 - u107_).toNat < n → zW l m_M_buildsMembers (zn Mz + 0, zw Mz + 0) N108_ 183 [some (.ref 81), some (.int (Int32.ofInt u27_)), some (.int (Int32.ofInt u107_)), none] [] (zpI [20] [85, 86, 87, 88] Mz (fun v N => zB 85 144 0 5 N ∧ (((v = 1 ∧ zFin Mz ∧ 1 ≤ ze N 81 20 ∧ ze N 81 20 ≤ 24 ∧ (∃ T : zGT, T ∈ gTabs ∧ zTab T N ∧ zCdR (ze Mz 81 12) (zMvs Mz) T N)) ∨ (v = 0 ∧ ¬ zFin Mz))))) := by
                      intro n
                      induction n with
                      | zero =>
                        intro u107_ hu107_a hu107_b N108_ hs109_ i110_ i111_ i112_ i113_ i114_ i115_ i116_ i117_ i118_ h0
                        exact absurd h0 (Nat.not_lt_zero _)
                      | succ n ih_183 =>
                        intro u107_ hu107_a hu107_b N108_ hs109_ i110_ i111_ i112_ i113_ i114_ i115_ i116_ i117_ i118_ hlt_183
                        have hf_N108_ : zFr [20] [85, 86, 87, 88] Mz N108_ := hf_N28_.tr hs109_ (by decide) (by decide)
                        have hb0_N108_ : zFr [] [85] N16_ N108_ := hs29_.tr hs109_ (by decide) (by decide)
                        have e12_N108_ : ze N108_ 81 12 = ze N28_ 81 12 := hs109_.e (by decide)
                        have e13_N108_ : ze N108_ 81 13 = ze N28_ 81 13 := hs109_.e (by decide)
                        have e20_N108_ : ze N108_ 81 20 = ze N28_ 81 20 := hs109_.e (by decide)
                        refine zw_iload_n (pc := 183) (n := 2) (x := Int32.ofInt u107_) rfl (zdal_p dlC_M_buildsMembers_19 (i := 10) rfl) ?_
                        refine zw_aload_n (pc := 184) (n := 0) (x := 81) rfl (zdal_p dlC_M_buildsMembers_19 (i := 11) rfl) ?_
                        refine zr_getI (hf_N108_.w hW) (pc := 185) f_M_196 rfl (zdal_p dlC_M_buildsMembers_19 (i := 12) rfl) ?_
                        refine zr_icmp_ge (pc := 188) (tgt := 212) ⟨hu107_a, hu107_b⟩ ⟨(ze_r N108_ 81 20).1, (ze_r N108_ 81 20).2⟩ (by decide) (zdal_p dlC_M_buildsMembers_19 (i := 13) rfl) (fun hc_188 => ?_) (fun hc_188 => ?_)
                        · skip
                          have h4_ := zSt_n (by (exact i30_)) (show zSt Mz N108_ u27_ by first | with_reducible assumption | assumption) (show zSu Mz N108_ u27_ u107_ by first | with_reducible assumption | assumption) (by (exact hc_188))
                          refine zr_iinc (pc := 212) (i := 1) (a := u27_) (n := 1) (L2 := [some (.ref 81), some (.int (Int32.ofInt (u27_ + 1))), some (.int (Int32.ofInt u107_)), none]) rfl (by decide) rfl (zdal_p dlC_M_buildsMembers_20 (i := 1) rfl) ?_
                          refine zw_goto (pc := 215) (tgt := 171) (by decide) (zdal_p dlC_M_buildsMembers_20 (i := 2) rfl) ?_
                          refine zW_le [some (.ref 81), some (.int (Int32.ofInt (u27_ + 1))), none, none] (⟨rfl, rfl, trivial⟩) ?_
                          exact ih_171 (u27_ + 1) (by (exact zo_74 i30_)) (by (exact zo_672 hu27_b i110_ i117_)) N108_ hb0_N108_ (show 0 ≤ (u27_ + 1) by first | with_reducible assumption | (exact zo_76 i30_) | assumption) (show (u27_ + 1) ≤ ze N108_ 81 20 by first | with_reducible assumption | assumption | omega) (show zGr Mz N108_ by first | with_reducible assumption | assumption | omega) (show zSt Mz N108_ (u27_ + 1) by exact h4_) (show 1 ≤ ze N108_ 81 20 by first | with_reducible assumption | assumption | omega) (show ze N108_ 81 20 ≤ 24 by first | with_reducible assumption | assumption | omega) i118_ (by (exact zo_673 hlt_171 hu27_b i110_ i117_ i30_))
                        · skip
                          refine zw_aload_n (pc := 191) (n := 0) (x := 81) rfl (zdal_p dlC_M_buildsMembers_19 (i := 14) rfl) ?_
                          refine zw_iload_n (pc := 192) (n := 1) (x := Int32.ofInt u27_) rfl (zdal_p dlC_M_buildsMembers_19 (i := 15) rfl) ?_
                          refine zw_iload_n (pc := 193) (n := 2) (x := Int32.ofInt u107_) rfl (zdal_p dlC_M_buildsMembers_19 (i := 16) rfl) ?_
                          refine zr_callV (hf_N108_.w hW) hf_N108_.x (pc := 194) [.int (Int32.ofInt u27_), .int (Int32.ofInt u107_)] [] l_M_206 (c_M_isBehind l N108_ (hf_N108_.w hW) u27_ hu27_a hu27_b u107_ hu107_a hu107_b (ze Mz 81 12) (show 0 ≤ u27_ by first | with_reducible assumption | assumption | omega) (show u27_ ≤ 23 by first | with_reducible assumption | (exact zo_674 hu27_b i110_ i117_) | assumption) (show 0 ≤ u107_ by first | with_reducible assumption | (exact zo_675 hu107_a i111_ i30_) | assumption) (show u107_ ≤ 23 by first | with_reducible assumption | (exact zo_676 hc_188 hu107_b i117_) | assumption) (show ze N108_ 81 12 = (ze Mz 81 12) by first | with_reducible assumption | (exact zo_677 e12_N108_ e12_N16_ e12_N1_ e12_N28_ e12_N6_) | assumption) (show 1 ≤ (ze Mz 81 12) by first | with_reducible assumption | assumption | omega) (show (ze Mz 81 12) ≤ 6 by first | with_reducible assumption | assumption | omega) (show 1 ≤ ze N108_ 81 12 by first | with_reducible assumption | (exact zo_678 e12_N108_ e12_N16_ e12_N1_ e12_N28_ e12_N6_ p0_) | assumption) i118_) rfl rfl rfl (by decide) (Nat.le_of_ble_eq_true rfl) (zdal_p dlC_M_buildsMembers_19 (i := 17) rfl) ?_
                          rintro _ N121_ ⟨v122_, rfl, ⟨hv122_a, hv122_b⟩, hsN121_, hp0_N121_⟩
                          obtain rfl := hsN121_.eq.symm
                          replace hp0_N121_ : ((v122_ = 1 ∧ zrc N108_ 85 (u107_).toNat (ze Mz 81 12) < zrc N108_ 85 (u27_).toNat (ze Mz 81 12)) ∨ (v122_ = 0 ∧ zrc N108_ 85 (u27_).toNat (ze Mz 81 12) ≤ zrc N108_ 85 (u107_).toNat (ze Mz 81 12))) := hp0_N121_
                          rcases hp0_N121_ with ⟨rfl, ha194_0_hp0_N121_⟩ | ⟨rfl, ha194_0_hp0_N121_⟩
                          · skip
                            have hlt_ := ha194_0_hp0_N121_
                            show zW l m_M_buildsMembers (zn Mz + 0, zw Mz + 0) N108_ 197 [some (.ref 81), some (.int (Int32.ofInt u27_)), some (.int (Int32.ofInt u107_)), none] [.int (Int32.ofInt 1)] _
                            refine zr_if_eq (pc := 197) (tgt := 206) ⟨(by decide), (by decide)⟩ (by decide) (zdal_p dlC_M_buildsMembers_19 (i := 18) rfl) (fun hc_197 => ?_) (fun hc_197 => ?_)
                            · skip
                              exact absurd hc_197 (by decide)
                            · skip
                              refine zw_aload_n (pc := 200) (n := 0) (x := 81) rfl (zdal_p dlC_M_buildsMembers_19 (i := 19) rfl) ?_
                              refine zw_iload_n (pc := 201) (n := 1) (x := Int32.ofInt u27_) rfl (zdal_p dlC_M_buildsMembers_19 (i := 20) rfl) ?_
                              refine zw_iload_n (pc := 202) (n := 2) (x := Int32.ofInt u107_) rfl (zdal_p dlC_M_buildsMembers_19 (i := 21) rfl) ?_
                              refine zr_callV (hf_N108_.w hW) hf_N108_.x (pc := 203) [.int (Int32.ofInt u27_), .int (Int32.ofInt u107_)] [] l_M_210 (c_M_exchanges l N108_ (hf_N108_.w hW) u27_ hu27_a hu27_b u107_ hu107_a hu107_b (show 0 ≤ u27_ by first | with_reducible assumption | assumption | omega) (show u27_ < u107_ by first | with_reducible assumption | assumption | omega) (show u107_ ≤ 23 by first | with_reducible assumption | (exact zo_676 hc_188 hu107_b i117_) | assumption) i118_) rfl rfl rfl (by decide) (Nat.le_of_ble_eq_true rfl) (zdal_p dlC_M_buildsMembers_19 (i := 22) rfl) ?_
                              rintro _ N123_ ⟨rfl, hsN123_, ⟨hp0_N123_, hp1_N123_⟩⟩
                              have hf_N123_ : zFr [20] [85, 86, 87, 88] Mz N123_ := hf_N108_.tr hsN123_ (by decide) (by decide)
                              have hb0_N123_ : zFr [] [85] N16_ N123_ := hb0_N108_.tr hsN123_ (by decide) (by decide)
                              have hb1_N123_ : zFr [] [85] N28_ N123_ := hs109_.tr hsN123_ (by decide) (by decide)
                              have e12_N123_ : ze N123_ 81 12 = ze N108_ 81 12 := hsN123_.e (by decide)
                              have e13_N123_ : ze N123_ 81 13 = ze N108_ 81 13 := hsN123_.e (by decide)
                              have e20_N123_ : ze N123_ 81 20 = ze N108_ 81 20 := hsN123_.e (by decide)
                              show zW l m_M_buildsMembers (zn Mz + 0, zw Mz + 0) N123_ 206 [some (.ref 81), some (.int (Int32.ofInt u27_)), some (.int (Int32.ofInt u107_)), none] [] _
                              have hE_ := zEx_g (by (exact p1_)) (by (exact i30_)) (by (exact i111_)) (by (exact hc_188)) (show zGr Mz N108_ by first | with_reducible assumption | assumption) hp0_N123_ (by (exact e20_N123_)) (show zSt Mz N108_ u27_ by first | with_reducible assumption | assumption) (show zSu Mz N108_ u27_ u107_ by first | with_reducible assumption | assumption) hlt_
                              refine zr_iinc (pc := 206) (i := 2) (a := u107_) (n := 1) (L2 := [some (.ref 81), some (.int (Int32.ofInt u27_)), some (.int (Int32.ofInt (u107_ + 1))), none]) rfl (by decide) rfl (zdal_p dlC_M_buildsMembers_19 (i := 23) rfl) ?_
                              refine zw_goto (pc := 209) (tgt := 183) (by decide) (zdal_p dlC_M_buildsMembers_20 (i := 0) rfl) ?_
                              have h1_ : zGr Mz N123_ := by first | exact hE_.1 | assumption
                              have h2_ : zSt Mz N123_ u27_ := by first | exact hE_.2.1 | assumption
                              have h3_ : zSu Mz N123_ u27_ (u107_ + 1) := by first | exact hE_.2.2 | exact hu_
                              exact ih_183 (u107_ + 1) (by (exact zo_679 hu107_a)) (by (exact zo_639 hc_188 hu107_b i117_)) N123_ hb1_N123_ (show u27_ < ze N123_ 81 20 by first | with_reducible assumption | (exact zo_664 e20_N123_ hu27_b i110_ i116_ i117_) | assumption) (show u27_ < (u107_ + 1) by first | with_reducible assumption | (exact zo_680 hu107_a hu27_b i110_ i111_ i117_) | assumption) (show (u107_ + 1) ≤ ze N123_ 81 20 by first | with_reducible assumption | (exact zo_681 e20_N123_ hc_188 hu107_b i116_ i117_) | assumption) (show zGr Mz N123_ by exact h1_) (show zSt Mz N123_ u27_ by exact h2_) (show zSu Mz N123_ u27_ (u107_ + 1) by exact h3_) (show 1 ≤ ze N123_ 81 20 by first | with_reducible assumption | (exact zo_533 e20_N123_ i116_) | assumption) (show ze N123_ 81 20 ≤ 24 by first | with_reducible assumption | (exact zo_644 e20_N123_ i117_) | assumption) hp1_N123_ (by (exact zo_682 hc_188 hlt_183 hu107_a hu107_b i117_))
                          · skip
                            have hu_ := zSu_s (by (exact i30_)) (by (exact i111_)) (show zGr Mz N108_ by first | with_reducible assumption | assumption) (show zSu Mz N108_ u27_ u107_ by first | with_reducible assumption | assumption) (by (exact hc_188)) ha194_0_hp0_N121_
                            show zW l m_M_buildsMembers (zn Mz + 0, zw Mz + 0) N108_ 197 [some (.ref 81), some (.int (Int32.ofInt u27_)), some (.int (Int32.ofInt u107_)), none] [.int (Int32.ofInt 0)] _
                            refine zr_if_eq (pc := 197) (tgt := 206) ⟨(by decide), (by decide)⟩ (by decide) (zdal_p dlC_M_buildsMembers_19 (i := 18) rfl) (fun hc_197 => ?_) (fun hc_197 => ?_)
                            · skip
                              refine zr_iinc (pc := 206) (i := 2) (a := u107_) (n := 1) (L2 := [some (.ref 81), some (.int (Int32.ofInt u27_)), some (.int (Int32.ofInt (u107_ + 1))), none]) rfl (by decide) rfl (zdal_p dlC_M_buildsMembers_19 (i := 23) rfl) ?_
                              refine zw_goto (pc := 209) (tgt := 183) (by decide) (zdal_p dlC_M_buildsMembers_20 (i := 0) rfl) ?_
                              have h1_ : zGr Mz N108_ := by first | exact hE_.1 | assumption
                              have h2_ : zSt Mz N108_ u27_ := by first | exact hE_.2.1 | assumption
                              have h3_ : zSu Mz N108_ u27_ (u107_ + 1) := by first | exact hE_.2.2 | exact hu_
                              exact ih_183 (u107_ + 1) (by (exact zo_679 hu107_a)) (by (exact zo_639 hc_188 hu107_b i117_)) N108_ hs109_ (show u27_ < ze N108_ 81 20 by first | with_reducible assumption | assumption | omega) (show u27_ < (u107_ + 1) by first | with_reducible assumption | (exact zo_680 hu107_a hu27_b i110_ i111_ i117_) | assumption) (show (u107_ + 1) ≤ ze N108_ 81 20 by first | with_reducible assumption | assumption | omega) (show zGr Mz N108_ by exact h1_) (show zSt Mz N108_ u27_ by exact h2_) (show zSu Mz N108_ u27_ (u107_ + 1) by exact h3_) (show 1 ≤ ze N108_ 81 20 by first | with_reducible assumption | assumption | omega) (show ze N108_ 81 20 ≤ 24 by first | with_reducible assumption | assumption | omega) i118_ (by (exact zo_682 hc_188 hlt_183 hu107_a hu107_b i117_))
                            · skip
                              exact absurd hc_197 (by decide)
                    exact lp_183 _ (u27_ + 1) (by (exact zo_74 i30_)) (by (exact zo_639 hc_176 hu27_b i35_)) N28_ zFr.rf (show u27_ < ze N28_ 81 20 by first | with_reducible assumption | assumption | omega) (show u27_ < (u27_ + 1) by first | with_reducible assumption | (exact zo_683) | assumption) (show (u27_ + 1) ≤ ze N28_ 81 20 by first | with_reducible assumption | assumption | omega) (show zGr Mz N28_ by first | with_reducible assumption | assumption | omega) (show zSt Mz N28_ u27_ by first | with_reducible assumption | assumption | omega) (show zSu Mz N28_ u27_ (u27_ + 1) by exact zSu_0) (show 1 ≤ ze N28_ 81 20 by first | with_reducible assumption | assumption | omega) (show ze N28_ 81 20 ≤ 24 by first | with_reducible assumption | assumption | omega) i36_ (Nat.lt_succ_self _)
              exact lp_171 _ 0 (by decide) (by decide) N16_ zFr.rf (show 0 ≤ (0 : Int) by first | with_reducible assumption | (decide) | assumption) (show (0 : Int) ≤ ze N16_ 81 20 by first | with_reducible assumption | (exact zo_564 i22_) | assumption) (show zGr Mz N16_ by exact hGr_.1) (show zSt Mz N16_ (0 : Int) by exact zSt_0) (show 1 ≤ ze N16_ 81 20 by first | with_reducible assumption | assumption | omega) (show ze N16_ 81 20 ≤ 24 by first | with_reducible assumption | assumption | omega) i24_ (Nat.lt_succ_self _)
            · skip
              refine zw_iconst (pc := 36) (v := Int32.ofInt 0) (by decide) (zdal_p dlC_M_buildsMembers_15 (i := 21) rfl) ?_
              refine zw_istore_n (pc := 37) (i := 2) (L2 := [some (.ref 81), some (.int (Int32.ofInt u15_)), some (.int (Int32.ofInt 0)), none]) rfl (by decide) rfl (zdal_p dlC_M_buildsMembers_15 (i := 22) rfl) ?_
              have lp_38 : ∀ (n : Nat) (u127_ : Int) (hu127_a : -2147483648 ≤ u127_) (hu127_b : u127_ < 2147483648) (N128_ : zMem) (hs129_ : zFr [20] [85, 86] N16_ N128_) (i130_ : 0 ≤ u15_) (i131_ : u15_ < ze N128_ 81 20) (i132_ : 0 ≤ u127_) (i133_ : u127_ ≤ ze Mz 81 13) (i134_ : zBs Mz N128_) (i135_ : zBc Mz N128_ u15_ u127_) (i136_ : 1 ≤ ze N128_ 81 20) (i137_ : ze N128_ 81 20 ≤ 24) (i138_ : zB 85 144 0 5 N128_), (ze Mz 81 13 - u127_).toNat < n → zW l m_M_buildsMembers (zn Mz + 0, zw Mz + 0) N128_ 38 [some (.ref 81), some (.int (Int32.ofInt u15_)), some (.int (Int32.ofInt u127_)), none] [] (zpI [20] [85, 86, 87, 88] Mz (fun v N => zB 85 144 0 5 N ∧ (((v = 1 ∧ zFin Mz ∧ 1 ≤ ze N 81 20 ∧ ze N 81 20 ≤ 24 ∧ (∃ T : zGT, T ∈ gTabs ∧ zTab T N ∧ zCdR (ze Mz 81 12) (zMvs Mz) T N)) ∨ (v = 0 ∧ ¬ zFin Mz))))) := by
                intro n
                induction n with
                | zero =>
                  intro u127_ hu127_a hu127_b N128_ hs129_ i130_ i131_ i132_ i133_ i134_ i135_ i136_ i137_ i138_ h0
                  exact absurd h0 (Nat.not_lt_zero _)
                | succ n ih_38 =>
                  intro u127_ hu127_a hu127_b N128_ hs129_ i130_ i131_ i132_ i133_ i134_ i135_ i136_ i137_ i138_ hlt_38
                  have hf_N128_ : zFr [20] [85, 86, 87, 88] Mz N128_ := hf_N16_.tr hs129_ (by decide) (by decide)
                  have hb0_N128_ : zFr [20] [85, 86] N6_ N128_ := hs17_.tr hs129_ (by decide) (by decide)
                  have e12_N128_ : ze N128_ 81 12 = ze N16_ 81 12 := hs129_.e (by decide)
                  have e13_N128_ : ze N128_ 81 13 = ze N16_ 81 13 := hs129_.e (by decide)
                  have r20_N128_ := ze_r N128_ 81 20
                  have c139_ : zPm N128_ := zPm.fr hs129_ c25_ (by decide) (by decide)
                  have c140_ : zB 83 24 0 5 N128_ := zB.fr hs129_ c26_ (by decide) (by decide)
                  refine zw_iload_n (pc := 38) (n := 2) (x := Int32.ofInt u127_) rfl (zdal_p dlC_M_buildsMembers_15 (i := 23) rfl) ?_
                  refine zw_aload_n (pc := 39) (n := 0) (x := 81) rfl (zdal_p dlC_M_buildsMembers_16 (i := 0) rfl) ?_
                  refine zr_getI0 hf_N128_ hW (pc := 40) (by decide) f_M_199 rfl (zdal_p dlC_M_buildsMembers_16 (i := 1) rfl) ?_
                  refine zr_icmp_ge (pc := 43) (tgt := 163) ⟨hu127_a, hu127_b⟩ ⟨(ze_r Mz 81 13).1, (ze_r Mz 81 13).2⟩ (by decide) (zdal_p dlC_M_buildsMembers_16 (i := 2) rfl) (fun hc_43 => ?_) (fun hc_43 => ?_)
                  · skip
                    have hb3_ := zBc_n (show zBc Mz N128_ u15_ u127_ by first | with_reducible assumption | assumption) (by (exact hc_43))
                    refine zr_iinc (pc := 163) (i := 1) (a := u15_) (n := 1) (L2 := [some (.ref 81), some (.int (Int32.ofInt (u15_ + 1))), some (.int (Int32.ofInt u127_)), none]) rfl (by decide) rfl (zdal_p dlC_M_buildsMembers_18 (i := 22) rfl) ?_
                    refine zw_goto (pc := 166) (tgt := 28) (by decide) (zdal_p dlC_M_buildsMembers_18 (i := 23) rfl) ?_
                    refine zW_le [some (.ref 81), some (.int (Int32.ofInt (u15_ + 1))), none, none] (⟨rfl, rfl, trivial⟩) ?_
                    exact ih_28 (u15_ + 1) (by (exact zo_74 i18_)) (by (exact zo_639 hc_33 hu15_b i23_)) N128_ hb0_N128_ (show 0 ≤ (u15_ + 1) by first | with_reducible assumption | (exact zo_76 i18_) | assumption) (show (u15_ + 1) ≤ ze N128_ 81 20 by first | with_reducible assumption | assumption | omega) (show zBs Mz N128_ by first | with_reducible assumption | assumption) (show zBc Mz N128_ (u15_ + 1) 0 by exact hb3_) (show 1 ≤ ze N128_ 81 20 by first | with_reducible assumption | assumption | omega) (show ze N128_ 81 20 ≤ 24 by first | with_reducible assumption | assumption | omega) i138_ (by (exact zo_684 hc_33 hlt_28 hu15_b i131_ i137_ i18_ i23_))
                  · skip
                    refine zw_iconst (pc := 46) (v := Int32.ofInt 0) (by decide) (zdal_p dlC_M_buildsMembers_16 (i := 3) rfl) ?_
                    refine zw_istore_n (pc := 47) (i := 3) (L2 := [some (.ref 81), some (.int (Int32.ofInt u15_)), some (.int (Int32.ofInt u127_)), some (.int (Int32.ofInt 0))]) rfl (by decide) rfl (zdal_p dlC_M_buildsMembers_16 (i := 4) rfl) ?_
                    have lp_48 : ∀ (n : Nat) (u141_ : Int) (hu141_a : -2147483648 ≤ u141_) (hu141_b : u141_ < 2147483648) (N142_ : zMem) (hs143_ : zFr [] [86] N128_ N142_) (i144_ : 0 ≤ u141_) (i145_ : u141_ ≤ ze Mz 81 12) (i146_ : zCg Mz N142_ u15_ u127_ 0 u141_) (i147_ : zBs Mz N142_) (i148_ : zBc Mz N142_ u15_ u127_), (ze Mz 81 12 - u141_).toNat < n → zW l m_M_buildsMembers (zn Mz + 0, zw Mz + 0) N142_ 48 [some (.ref 81), some (.int (Int32.ofInt u15_)), some (.int (Int32.ofInt u127_)), some (.int (Int32.ofInt u141_))] [] (zpI [20] [85, 86, 87, 88] Mz (fun v N => zB 85 144 0 5 N ∧ (((v = 1 ∧ zFin Mz ∧ 1 ≤ ze N 81 20 ∧ ze N 81 20 ≤ 24 ∧ (∃ T : zGT, T ∈ gTabs ∧ zTab T N ∧ zCdR (ze Mz 81 12) (zMvs Mz) T N)) ∨ (v = 0 ∧ ¬ zFin Mz))))) := by
                      intro n
                      induction n with
                      | zero =>
                        intro u141_ hu141_a hu141_b N142_ hs143_ i144_ i145_ i146_ i147_ i148_ h0
                        exact absurd h0 (Nat.not_lt_zero _)
                      | succ n ih_48 =>
                        intro u141_ hu141_a hu141_b N142_ hs143_ i144_ i145_ i146_ i147_ i148_ hlt_48
                        have hf_N142_ : zFr [20] [85, 86, 87, 88] Mz N142_ := hf_N128_.tr hs143_ (by decide) (by decide)
                        have hb0_N142_ : zFr [20] [85, 86] N6_ N142_ := hb0_N128_.tr hs143_ (by decide) (by decide)
                        have hb1_N142_ : zFr [20] [85, 86] N16_ N142_ := hs129_.tr hs143_ (by decide) (by decide)
                        have e12_N142_ : ze N142_ 81 12 = ze N128_ 81 12 := hs143_.e (by decide)
                        have e13_N142_ : ze N142_ 81 13 = ze N128_ 81 13 := hs143_.e (by decide)
                        have e20_N142_ : ze N142_ 81 20 = ze N128_ 81 20 := hs143_.e (by decide)
                        have c149_ : zPm N142_ := zPm.fr hs143_ c139_ (by decide) (by decide)
                        have c150_ : zB 83 24 0 5 N142_ := zB.fr hs143_ c140_ (by decide) (by decide)
                        have c151_ : zB 85 144 0 5 N142_ := zB.fr hs143_ i138_ (by decide) (by decide)
                        refine zw_iload_n (pc := 48) (n := 3) (x := Int32.ofInt u141_) rfl (zdal_p dlC_M_buildsMembers_16 (i := 5) rfl) ?_
                        refine zw_aload_n (pc := 49) (n := 0) (x := 81) rfl (zdal_p dlC_M_buildsMembers_16 (i := 6) rfl) ?_
                        refine zr_getI0 hf_N142_ hW (pc := 50) (by decide) f_M_115 rfl (zdal_p dlC_M_buildsMembers_16 (i := 7) rfl) ?_
                        refine zr_icmp_ge (pc := 53) (tgt := 89) ⟨hu141_a, hu141_b⟩ ⟨(ze_r Mz 81 12).1, (ze_r Mz 81 12).2⟩ (by decide) (zdal_p dlC_M_buildsMembers_16 (i := 8) rfl) (fun hc_53 => ?_) (fun hc_53 => ?_)
                        · skip
                          have hcg_ := (show zCg Mz N142_ u15_ u127_ 0 u141_ by first | with_reducible assumption | assumption)
                          have hbs_ := (show zBs Mz N142_ by first | with_reducible assumption | assumption)
                          have hcc_ := zCg_c hPS_ c151_ (by (exact zo_685 hc_33 hu15_b i131_ i137_ i18_ i23_)) (hbs_.2.1 (u15_).toNat (by (exact zo_686 e20_N142_ hc_33 hu15_b i131_ i136_ i18_ i23_))) (by (exact hc_53)) hcg_ (Or.inl ⟨rfl, by (exact i132_), by (exact hc_43)⟩)
                          rw [if_pos rfl] at hcc_
                          have hcb_ := zCg_b (P := ze Mz 81 12) hcg_ (by (exact hc_53))
                          refine zw_aload_n (pc := 89) (n := 0) (x := 81) rfl (zdal_p dlC_M_buildsMembers_17 (i := 6) rfl) ?_
                          refine zr_callV (hf_N142_.w hW) hf_N142_.x (pc := 90) [] [] l_M_202 (c_M_indexOf l N142_ (hf_N142_.w hW) (ze Mz 81 12) (show 0 ≤ ze N142_ 81 20 by first | with_reducible assumption | (exact zo_568 e20_N142_ i136_) | assumption) (show ze N142_ 81 20 ≤ 24 by first | with_reducible assumption | (exact zo_644 e20_N142_ i137_) | assumption) (show ze N142_ 81 12 = (ze Mz 81 12) by first | with_reducible assumption | (exact zo_687 e12_N128_ e12_N142_ e12_N16_ e12_N1_ e12_N6_) | assumption) (show 1 ≤ (ze Mz 81 12) by first | with_reducible assumption | assumption | omega) (show (ze Mz 81 12) ≤ 6 by first | with_reducible assumption | assumption | omega) c151_ (show zCb N142_ (ze Mz 81 12) by first | with_reducible assumption | assumption | omega)) rfl rfl rfl (by decide) (Nat.le_of_ble_eq_true rfl) (zdal_p dlC_M_buildsMembers_17 (i := 7) rfl) ?_
                          rintro _ N152_ ⟨v153_, rfl, ⟨hv153_a, hv153_b⟩, hsN152_, hp0_N152_⟩
                          obtain rfl := hsN152_.eq.symm
                          replace hp0_N152_ : ((0 ≤ v153_ ∧ v153_ < ze N142_ 81 20 ∧ zFnd N142_ v153_ (ze Mz 81 12)) ∨ (v153_ = -1 ∧ zNo2 N142_ (ze Mz 81 12))) := hp0_N152_
                          rcases hp0_N152_ with ⟨ha90_0_hp0_N152_, ha90_1_hp0_N152_, ha90_2_hp0_N152_⟩ | ⟨rfl, ha90_0_hp0_N152_⟩
                          · skip
                            have hbq_ := zBc_f (show zBc Mz N142_ u15_ u127_ by first | with_reducible assumption | assumption) (by (exact i18_)) (by (exact i132_)) ⟨ha90_0_hp0_N152_, ha90_1_hp0_N152_⟩ ha90_2_hp0_N152_ hcc_
                            show zW l m_M_buildsMembers (zn Mz + 0, zw Mz + 0) N142_ 93 [some (.ref 81), some (.int (Int32.ofInt u15_)), some (.int (Int32.ofInt u127_)), some (.int (Int32.ofInt u141_))] [.int (Int32.ofInt v153_)] _
                            refine zw_iconst (pc := 93) (v := Int32.ofInt (-1)) (by decide) (zdal_p dlC_M_buildsMembers_17 (i := 8) rfl) ?_
                            refine zr_icmp_eq (pc := 94) (tgt := 100) ⟨hv153_a, hv153_b⟩ ⟨(by decide), (by decide)⟩ (by decide) (zdal_p dlC_M_buildsMembers_17 (i := 9) rfl) (fun hc_94 => ?_) (fun hc_94 => ?_)
                            · skip
                              have hnf_ : zNf Mz N142_ u15_ u127_ := by first | exact ⟨hbs_, (show zBc Mz N142_ u15_ u127_ by first | with_reducible assumption | assumption), hcb_, (show zNo2 N142_ (ze Mz 81 12) by first | with_reducible assumption | assumption), hcc_⟩ | (exfalso; (exact zo_583 ha90_0_hp0_N152_ hc_94))
                              refine zw_aload_n (pc := 100) (n := 0) (x := 81) rfl (zdal_p dlC_M_buildsMembers_17 (i := 11) rfl) ?_
                              refine zr_getI (hf_N142_.w hW) (pc := 101) f_M_196 rfl (zdal_p dlC_M_buildsMembers_17 (i := 12) rfl) ?_
                              refine zw_bipush (pc := 104) (v := Int32.ofInt 24) (by decide) (zdal_p dlC_M_buildsMembers_17 (i := 13) rfl) ?_
                              refine zr_icmp_ne (pc := 106) (tgt := 111) ⟨(ze_r N142_ 81 20).1, (ze_r N142_ 81 20).2⟩ ⟨(by decide), (by decide)⟩ (by decide) (zdal_p dlC_M_buildsMembers_17 (i := 14) rfl) (fun hc_106 => ?_) (fun hc_106 => ?_)
                              · skip
                                refine zw_iconst (pc := 111) (v := Int32.ofInt 0) (by decide) (zdal_p dlC_M_buildsMembers_17 (i := 17) rfl) ?_
                                refine zw_istore_n (pc := 112) (i := 3) (L2 := [some (.ref 81), some (.int (Int32.ofInt u15_)), some (.int (Int32.ofInt u127_)), some (.int (Int32.ofInt 0))]) rfl (by decide) rfl (zdal_p dlC_M_buildsMembers_17 (i := 18) rfl) ?_
                                have lp_113 : ∀ (n : Nat) (u154_ : Int) (hu154_a : -2147483648 ≤ u154_) (hu154_b : u154_ < 2147483648) (N155_ : zMem) (hs156_ : zFr [] [85] N142_ N155_) (i157_ : 0 ≤ u154_) (i158_ : u154_ ≤ ze Mz 81 12) (i159_ : zNf Mz N155_ u15_ u127_) (i160_ : zAp N155_ (ze N155_ 81 20) u154_) (i161_ : zB 85 144 0 5 N155_), (ze Mz 81 12 - u154_).toNat < n → zW l m_M_buildsMembers (zn Mz + 0, zw Mz + 0) N155_ 113 [some (.ref 81), some (.int (Int32.ofInt u15_)), some (.int (Int32.ofInt u127_)), some (.int (Int32.ofInt u154_))] [] (zpI [20] [85, 86, 87, 88] Mz (fun v N => zB 85 144 0 5 N ∧ (((v = 1 ∧ zFin Mz ∧ 1 ≤ ze N 81 20 ∧ ze N 81 20 ≤ 24 ∧ (∃ T : zGT, T ∈ gTabs ∧ zTab T N ∧ zCdR (ze Mz 81 12) (zMvs Mz) T N)) ∨ (v = 0 ∧ ¬ zFin Mz))))) := by
                                  intro n
                                  induction n with
                                  | zero =>
                                    intro u154_ hu154_a hu154_b N155_ hs156_ i157_ i158_ i159_ i160_ i161_ h0
                                    exact absurd h0 (Nat.not_lt_zero _)
                                  | succ n ih_113 =>
                                    intro u154_ hu154_a hu154_b N155_ hs156_ i157_ i158_ i159_ i160_ i161_ hlt_113
                                    have hf_N155_ : zFr [20] [85, 86, 87, 88] Mz N155_ := hf_N142_.tr hs156_ (by decide) (by decide)
                                    have hb0_N155_ : zFr [20] [85, 86] N6_ N155_ := hb0_N142_.tr hs156_ (by decide) (by decide)
                                    have hb1_N155_ : zFr [20] [85, 86] N16_ N155_ := hb1_N142_.tr hs156_ (by decide) (by decide)
                                    have e12_N155_ : ze N155_ 81 12 = ze N142_ 81 12 := hs156_.e (by decide)
                                    have e13_N155_ : ze N155_ 81 13 = ze N142_ 81 13 := hs156_.e (by decide)
                                    have e20_N155_ : ze N155_ 81 20 = ze N142_ 81 20 := hs156_.e (by decide)
                                    have c162_ : zPm N155_ := zPm.fr hs156_ c149_ (by decide) (by decide)
                                    have c163_ : zB 83 24 0 5 N155_ := zB.fr hs156_ c150_ (by decide) (by decide)
                                    refine zw_iload_n (pc := 113) (n := 3) (x := Int32.ofInt u154_) rfl (zdal_p dlC_M_buildsMembers_17 (i := 19) rfl) ?_
                                    refine zw_aload_n (pc := 114) (n := 0) (x := 81) rfl (zdal_p dlC_M_buildsMembers_17 (i := 20) rfl) ?_
                                    refine zr_getI0 hf_N155_ hW (pc := 115) (by decide) f_M_115 rfl (zdal_p dlC_M_buildsMembers_17 (i := 21) rfl) ?_
                                    refine zr_icmp_ge (pc := 118) (tgt := 147) ⟨hu154_a, hu154_b⟩ ⟨(ze_r Mz 81 12).1, (ze_r Mz 81 12).2⟩ (by decide) (zdal_p dlC_M_buildsMembers_17 (i := 22) rfl) (fun hc_118 => ?_) (fun hc_118 => ?_)
                                    · skip
                                      refine zw_aload_n (pc := 147) (n := 0) (x := 81) rfl (zdal_p dlC_M_buildsMembers_18 (i := 14) rfl) ?_
                                      refine zw_dup (pc := 148) rfl (zdal_p dlC_M_buildsMembers_18 (i := 15) rfl) ?_
                                      refine zr_getI (hf_N155_.w hW) (pc := 149) f_M_196 rfl (zdal_p dlC_M_buildsMembers_18 (i := 16) rfl) ?_
                                      refine zw_iconst (pc := 152) (v := Int32.ofInt 1) (by decide) (zdal_p dlC_M_buildsMembers_18 (i := 17) rfl) ?_
                                      refine zr_iadd (pc := 153) (zdal_p dlC_M_buildsMembers_18 (i := 18) rfl) ?_
                                      refine zr_putI (hf_N155_.w hW) (pc := 154) f_M_196 rfl rfl ⟨by (exact zo_688 e20_N155_ ha90_0_hp0_N152_ ha90_1_hp0_N152_), by (exact zo_689 e20_N142_ e20_N155_ i137_)⟩ rfl rfl (zdal_p dlC_M_buildsMembers_18 (i := 19) rfl) (fun N164_ hsN164_ hvN164_ => ?_)
                                      have hf_N164_ : zFr [20] [85, 86, 87, 88] Mz N164_ := hf_N155_.tr hsN164_ (by decide) (by decide)
                                      have hb0_N164_ : zFr [20] [85, 86] N6_ N164_ := hb0_N155_.tr hsN164_ (by decide) (by decide)
                                      have hb1_N164_ : zFr [20] [85, 86] N16_ N164_ := hb1_N155_.tr hsN164_ (by decide) (by decide)
                                      have e12_N164_ : ze N164_ 81 12 = ze N155_ 81 12 := hsN164_.e (by decide)
                                      have e13_N164_ : ze N164_ 81 13 = ze N155_ 81 13 := hsN164_.e (by decide)
                                      have r20_N164_ := ze_r N164_ 81 20
                                      have c167_ : zB 85 144 0 5 N164_ := zB.fr hsN164_ i161_ (by decide) (by decide)
                                      have hNe_ := zNf_e hPS_ ⟨by (exact i18_), by (exact zo_690 e20_N142_ e20_N155_ ha90_0_hp0_N152_ ha90_1_hp0_N152_ hc_33 hu15_b i131_ i23_)⟩ ⟨by (exact i132_), by (exact hc_43)⟩ (show zNf Mz N155_ u15_ u127_ by first | with_reducible assumption | assumption) (show zAp N155_ (ze N155_ 81 20) u154_ by first | with_reducible assumption | assumption) (by (exact hc_118)) (by (exact zo_691 ha90_0_hp0_N152_ hc_94)) hsN164_ (by (exact hvN164_))
                                      have ho_ := hNe_.1.1
                                      refine zr_iinc (pc := 157) (i := 2) (a := u127_) (n := 1) (L2 := [some (.ref 81), some (.int (Int32.ofInt u15_)), some (.int (Int32.ofInt (u127_ + 1))), some (.int (Int32.ofInt u154_))]) rfl (by decide) rfl (zdal_p dlC_M_buildsMembers_18 (i := 20) rfl) ?_
                                      refine zw_goto (pc := 160) (tgt := 38) (by decide) (zdal_p dlC_M_buildsMembers_18 (i := 21) rfl) ?_
                                      have hb1_ : zBc Mz N164_ u15_ (u127_ + 1) := by first | exact hNe_.2 | exact hbq_
                                      have hb2_ : zBs Mz N164_ := by first | exact hNe_.1 | exact hbs_
                                      refine zW_le [some (.ref 81), some (.int (Int32.ofInt u15_)), some (.int (Int32.ofInt (u127_ + 1))), none] (⟨rfl, rfl, rfl, trivial⟩) ?_
                                      exact ih_38 (u127_ + 1) (by (exact zo_74 i132_)) (by (exact zo_692 hc_43 p3_)) N164_ hb1_N164_ (show 0 ≤ u15_ by first | with_reducible assumption | assumption | omega) (show u15_ < ze N164_ 81 20 by first | with_reducible assumption | (exact zo_693 e20_N142_ e20_N155_ ho_.1 hu15_b hvN164_ i131_ i137_) | assumption) (show 0 ≤ (u127_ + 1) by first | with_reducible assumption | (exact zo_76 i132_) | assumption) (show (u127_ + 1) ≤ ze Mz 81 13 by first | with_reducible assumption | assumption | omega) (show zBs Mz N164_ by exact hb2_) (show zBc Mz N164_ u15_ (u127_ + 1) by exact hb1_) (show 1 ≤ ze N164_ 81 20 by first | with_reducible assumption | (exact zo_694 ho_.1) | assumption) (show ze N164_ 81 20 ≤ 24 by first | with_reducible assumption | (exact zo_0 ho_.2) | assumption) c167_ (by (exact zo_147 hc_43 hlt_38))
                                    · skip
                                      refine zw_aload_n (pc := 121) (n := 0) (x := 81) rfl (zdal_p dlC_M_buildsMembers_17 (i := 23) rfl) ?_
                                      refine zr_getF (r := 85) (hf_N155_.w hW) (pc := 122) f_M_26 rfl (zh_85 (hf_N155_.w hW)).1 (zdal_p dlC_M_buildsMembers_18 (i := 0) rfl) ?_
                                      refine zw_bipush (pc := 125) (v := Int32.ofInt 6) (by decide) (zdal_p dlC_M_buildsMembers_18 (i := 1) rfl) ?_
                                      refine zw_aload_n (pc := 127) (n := 0) (x := 81) rfl (zdal_p dlC_M_buildsMembers_18 (i := 2) rfl) ?_
                                      refine zr_getI (hf_N155_.w hW) (pc := 128) f_M_196 rfl (zdal_p dlC_M_buildsMembers_18 (i := 3) rfl) ?_
                                      refine zr_imul (pc := 131) (zdal_p dlC_M_buildsMembers_18 (i := 4) rfl) ?_
                                      refine zw_iload_n (pc := 132) (n := 3) (x := Int32.ofInt u154_) rfl (zdal_p dlC_M_buildsMembers_18 (i := 5) rfl) ?_
                                      refine zr_iadd (pc := 133) (zdal_p dlC_M_buildsMembers_18 (i := 6) rfl) ?_
                                      refine zw_aload_n (pc := 134) (n := 0) (x := 81) rfl (zdal_p dlC_M_buildsMembers_18 (i := 7) rfl) ?_
                                      refine zr_getF (r := 86) (hf_N155_.w hW) (pc := 135) f_M_29 rfl (zh_86 (hf_N155_.w hW)).1 (zdal_p dlC_M_buildsMembers_18 (i := 8) rfl) ?_
                                      refine zw_iload_n (pc := 138) (n := 3) (x := Int32.ofInt u154_) rfl (zdal_p dlC_M_buildsMembers_18 (i := 9) rfl) ?_
                                      refine zr_ialdn (pc := 139) (zh_86 (hf_N155_.w hW)).2 (by decide) (by (exact i157_)) (by (exact zo_670 hc_118 p1_)) (zdal_p dlC_M_buildsMembers_18 (i := 10) rfl) (fun v168_ hv168_ hv168_a hv168_b => ?_)
                                      have hcv_ := (show zNf Mz N155_ u15_ u127_ by first | with_reducible assumption | assumption).2.2.1 (u154_).toNat (by (exact zo_695 hc_118 i157_))
                                      refine zr_iast (pc := 140) (zh_85 (hf_N155_.w hW)).2 (by decide) (by decide) (by (exact zo_696 e20_N155_ ha90_0_hp0_N152_ ha90_1_hp0_N152_ i157_)) (by (exact zo_697 e20_N142_ e20_N155_ ha90_0_hp0_N152_ hc_118 hc_94 i137_ p1_)) (zdal_p dlC_M_buildsMembers_18 (i := 11) rfl) (fun N169_ hN169_ hsN169_ => ?_)
                                      have hf_N169_ : zFr [20] [85, 86, 87, 88] Mz N169_ := hf_N155_.tr hsN169_ (by decide) (by decide)
                                      have hb0_N169_ : zFr [20] [85, 86] N6_ N169_ := hb0_N155_.tr hsN169_ (by decide) (by decide)
                                      have hb1_N169_ : zFr [20] [85, 86] N16_ N169_ := hb1_N155_.tr hsN169_ (by decide) (by decide)
                                      have hb2_N169_ : zFr [] [85] N142_ N169_ := hs156_.tr hsN169_ (by decide) (by decide)
                                      have e12_N169_ : ze N169_ 81 12 = ze N155_ 81 12 := hsN169_.e (by decide)
                                      have e13_N169_ : ze N169_ 81 13 = ze N155_ 81 13 := hsN169_.e (by decide)
                                      have e20_N169_ : ze N169_ 81 20 = ze N155_ 81 20 := hsN169_.e (by decide)
                                      have c170_ : zPm N169_ := zPm.fr hsN169_ c162_ (by decide) (by decide)
                                      have c171_ : zB 83 24 0 5 N169_ := zB.fr hsN169_ c163_ (by decide) (by decide)
                                      have c172_ : zB 85 144 0 5 N169_ := zB.s i161_ hN169_ (by (exact zo_574 hcv_.1 hv168_ hv168_a)) (by (exact zo_698 hcv_.2 hv168_ hv168_b)) (by decide) (by decide)
                                      have hAp_ := zAp_s ⟨by (exact i18_), by (exact zo_699 e20_N142_ e20_N155_ ha90_0_hp0_N152_ ha90_1_hp0_N152_ hu15_b i131_ i137_)⟩ (show zNf Mz N155_ u15_ u127_ by first | with_reducible assumption | assumption) (show zAp N155_ (ze N155_ 81 20) u154_ by first | with_reducible assumption | assumption) (by (exact i157_)) (by (exact zo_700 hc_118 p1_)) (by first | with_reducible assumption | assumption) hN169_
                                      refine zr_iinc (pc := 141) (i := 3) (a := u154_) (n := 1) (L2 := [some (.ref 81), some (.int (Int32.ofInt u15_)), some (.int (Int32.ofInt u127_)), some (.int (Int32.ofInt (u154_ + 1)))]) rfl (by decide) rfl (zdal_p dlC_M_buildsMembers_18 (i := 12) rfl) ?_
                                      refine zw_goto (pc := 144) (tgt := 113) (by decide) (zdal_p dlC_M_buildsMembers_18 (i := 13) rfl) ?_
                                      exact ih_113 (u154_ + 1) (by (exact zo_74 i157_)) (by (exact zo_671 hc_118 p1_)) N169_ hb2_N169_ (show 0 ≤ (u154_ + 1) by first | with_reducible assumption | (exact zo_76 i157_) | assumption) (show (u154_ + 1) ≤ ze Mz 81 12 by first | with_reducible assumption | assumption | omega) (show zNf Mz N169_ u15_ u127_ by exact hAp_.1) (show zAp N169_ (ze N169_ 81 20) (u154_ + 1) by exact hAp_.2) c172_ (by (exact zo_147 hc_118 hlt_113))
                                exact lp_113 _ 0 (by decide) (by decide) N142_ zFr.rf (show 0 ≤ (0 : Int) by first | with_reducible assumption | (decide) | assumption) (show (0 : Int) ≤ ze Mz 81 12 by first | with_reducible assumption | (exact zo_564 p0_) | assumption) (show zNf Mz N142_ u15_ u127_ by exact hnf_) (show zAp N142_ (ze N142_ 81 20) (0 : Int) by exact zAp_0) c151_ (Nat.lt_succ_self _)
                              · skip
                                refine zw_iconst (pc := 109) (v := Int32.ofInt 0) (by decide) (zdal_p dlC_M_buildsMembers_17 (i := 15) rfl) ?_
                                exact zr_iret (pc := 110) (ty := .boolean) rfl (z_narB (by (decide))) ⟨by (decide), by (decide)⟩ hf_N142_ ⟨c151_, (show ((0 = 1 ∧ zFin Mz ∧ 1 ≤ ze N142_ 81 20 ∧ ze N142_ 81 20 ≤ 24 ∧ (∃ T : zGT, T ∈ gTabs ∧ zTab T N142_ ∧ zCdR (ze Mz 81 12) (zMvs Mz) T N142_)) ∨ (0 = 0 ∧ ¬ zFin Mz)) from Or.inr (⟨(show 0 = 0 by first | exact zBs_24 ⟨by (exact i18_), by (exact zo_701 e20_N142_ hc_106 hu15_b i131_ i137_)⟩ ⟨by (exact i132_), by (exact hc_43)⟩ hnf_ (by (exact hc_106)) | (decide)), (show ¬ zFin Mz by first | exact zBs_24 ⟨by (exact i18_), by (exact zo_701 e20_N142_ hc_106 hu15_b i131_ i137_)⟩ ⟨by (exact i132_), by (exact hc_43)⟩ hnf_ (by (exact hc_106)) | omega)⟩))⟩ (zdal_p dlC_M_buildsMembers_17 (i := 16) rfl)
                            · skip
                              refine zw_goto (pc := 97) (tgt := 157) (by decide) (zdal_p dlC_M_buildsMembers_17 (i := 10) rfl) ?_
                              refine zr_iinc (pc := 157) (i := 2) (a := u127_) (n := 1) (L2 := [some (.ref 81), some (.int (Int32.ofInt u15_)), some (.int (Int32.ofInt (u127_ + 1))), some (.int (Int32.ofInt u141_))]) rfl (by decide) rfl (zdal_p dlC_M_buildsMembers_18 (i := 20) rfl) ?_
                              refine zw_goto (pc := 160) (tgt := 38) (by decide) (zdal_p dlC_M_buildsMembers_18 (i := 21) rfl) ?_
                              have hb1_ : zBc Mz N142_ u15_ (u127_ + 1) := by first | exact hNe_.2 | exact hbq_
                              have hb2_ : zBs Mz N142_ := by first | exact hNe_.1 | exact hbs_
                              refine zW_le [some (.ref 81), some (.int (Int32.ofInt u15_)), some (.int (Int32.ofInt (u127_ + 1))), none] (⟨rfl, rfl, rfl, trivial⟩) ?_
                              exact ih_38 (u127_ + 1) (by (exact zo_74 i132_)) (by (exact zo_692 hc_43 p3_)) N142_ hb1_N142_ (show 0 ≤ u15_ by first | with_reducible assumption | assumption | omega) (show u15_ < ze N142_ 81 20 by first | with_reducible assumption | (exact zo_702 e20_N142_ ha90_0_hp0_N152_ ha90_1_hp0_N152_ hc_33 hu15_b i131_ i23_) | assumption) (show 0 ≤ (u127_ + 1) by first | with_reducible assumption | (exact zo_76 i132_) | assumption) (show (u127_ + 1) ≤ ze Mz 81 13 by first | with_reducible assumption | assumption | omega) (show zBs Mz N142_ by exact hb2_) (show zBc Mz N142_ u15_ (u127_ + 1) by exact hb1_) (show 1 ≤ ze N142_ 81 20 by first | with_reducible assumption | (exact zo_703 ha90_0_hp0_N152_ ha90_1_hp0_N152_) | assumption) (show ze N142_ 81 20 ≤ 24 by first | with_reducible assumption | (exact zo_644 e20_N142_ i137_) | assumption) c151_ (by (exact zo_147 hc_43 hlt_38))
                          · skip
                            show zW l m_M_buildsMembers (zn Mz + 0, zw Mz + 0) N142_ 93 [some (.ref 81), some (.int (Int32.ofInt u15_)), some (.int (Int32.ofInt u127_)), some (.int (Int32.ofInt u141_))] [.int (Int32.ofInt ((-1)))] _
                            refine zw_iconst (pc := 93) (v := Int32.ofInt (-1)) (by decide) (zdal_p dlC_M_buildsMembers_17 (i := 8) rfl) ?_
                            refine zr_icmp_eq (pc := 94) (tgt := 100) ⟨(by decide), (by decide)⟩ ⟨(by decide), (by decide)⟩ (by decide) (zdal_p dlC_M_buildsMembers_17 (i := 9) rfl) (fun hc_94 => ?_) (fun hc_94 => ?_)
                            · skip
                              have hnf_ : zNf Mz N142_ u15_ u127_ := by first | exact ⟨hbs_, (show zBc Mz N142_ u15_ u127_ by first | with_reducible assumption | assumption), hcb_, (show zNo2 N142_ (ze Mz 81 12) by first | with_reducible assumption | assumption), hcc_⟩ | (exfalso; omega)
                              refine zw_aload_n (pc := 100) (n := 0) (x := 81) rfl (zdal_p dlC_M_buildsMembers_17 (i := 11) rfl) ?_
                              refine zr_getI (hf_N142_.w hW) (pc := 101) f_M_196 rfl (zdal_p dlC_M_buildsMembers_17 (i := 12) rfl) ?_
                              refine zw_bipush (pc := 104) (v := Int32.ofInt 24) (by decide) (zdal_p dlC_M_buildsMembers_17 (i := 13) rfl) ?_
                              refine zr_icmp_ne (pc := 106) (tgt := 111) ⟨(ze_r N142_ 81 20).1, (ze_r N142_ 81 20).2⟩ ⟨(by decide), (by decide)⟩ (by decide) (zdal_p dlC_M_buildsMembers_17 (i := 14) rfl) (fun hc_106 => ?_) (fun hc_106 => ?_)
                              · skip
                                refine zw_iconst (pc := 111) (v := Int32.ofInt 0) (by decide) (zdal_p dlC_M_buildsMembers_17 (i := 17) rfl) ?_
                                refine zw_istore_n (pc := 112) (i := 3) (L2 := [some (.ref 81), some (.int (Int32.ofInt u15_)), some (.int (Int32.ofInt u127_)), some (.int (Int32.ofInt 0))]) rfl (by decide) rfl (zdal_p dlC_M_buildsMembers_17 (i := 18) rfl) ?_
                                have lp_113 : ∀ (n : Nat) (u173_ : Int) (hu173_a : -2147483648 ≤ u173_) (hu173_b : u173_ < 2147483648) (N174_ : zMem) (hs175_ : zFr [] [85] N142_ N174_) (i176_ : 0 ≤ u173_) (i177_ : u173_ ≤ ze Mz 81 12) (i178_ : zNf Mz N174_ u15_ u127_) (i179_ : zAp N174_ (ze N174_ 81 20) u173_) (i180_ : zB 85 144 0 5 N174_), (ze Mz 81 12 - u173_).toNat < n → zW l m_M_buildsMembers (zn Mz + 0, zw Mz + 0) N174_ 113 [some (.ref 81), some (.int (Int32.ofInt u15_)), some (.int (Int32.ofInt u127_)), some (.int (Int32.ofInt u173_))] [] (zpI [20] [85, 86, 87, 88] Mz (fun v N => zB 85 144 0 5 N ∧ (((v = 1 ∧ zFin Mz ∧ 1 ≤ ze N 81 20 ∧ ze N 81 20 ≤ 24 ∧ (∃ T : zGT, T ∈ gTabs ∧ zTab T N ∧ zCdR (ze Mz 81 12) (zMvs Mz) T N)) ∨ (v = 0 ∧ ¬ zFin Mz))))) := by
                                  intro n
                                  induction n with
                                  | zero =>
                                    intro u173_ hu173_a hu173_b N174_ hs175_ i176_ i177_ i178_ i179_ i180_ h0
                                    exact absurd h0 (Nat.not_lt_zero _)
                                  | succ n ih_113 =>
                                    intro u173_ hu173_a hu173_b N174_ hs175_ i176_ i177_ i178_ i179_ i180_ hlt_113
                                    have hf_N174_ : zFr [20] [85, 86, 87, 88] Mz N174_ := hf_N142_.tr hs175_ (by decide) (by decide)
                                    have hb0_N174_ : zFr [20] [85, 86] N6_ N174_ := hb0_N142_.tr hs175_ (by decide) (by decide)
                                    have hb1_N174_ : zFr [20] [85, 86] N16_ N174_ := hb1_N142_.tr hs175_ (by decide) (by decide)
                                    have e12_N174_ : ze N174_ 81 12 = ze N142_ 81 12 := hs175_.e (by decide)
                                    have e13_N174_ : ze N174_ 81 13 = ze N142_ 81 13 := hs175_.e (by decide)
                                    have e20_N174_ : ze N174_ 81 20 = ze N142_ 81 20 := hs175_.e (by decide)
                                    have c181_ : zPm N174_ := zPm.fr hs175_ c149_ (by decide) (by decide)
                                    have c182_ : zB 83 24 0 5 N174_ := zB.fr hs175_ c150_ (by decide) (by decide)
                                    refine zw_iload_n (pc := 113) (n := 3) (x := Int32.ofInt u173_) rfl (zdal_p dlC_M_buildsMembers_17 (i := 19) rfl) ?_
                                    refine zw_aload_n (pc := 114) (n := 0) (x := 81) rfl (zdal_p dlC_M_buildsMembers_17 (i := 20) rfl) ?_
                                    refine zr_getI0 hf_N174_ hW (pc := 115) (by decide) f_M_115 rfl (zdal_p dlC_M_buildsMembers_17 (i := 21) rfl) ?_
                                    refine zr_icmp_ge (pc := 118) (tgt := 147) ⟨hu173_a, hu173_b⟩ ⟨(ze_r Mz 81 12).1, (ze_r Mz 81 12).2⟩ (by decide) (zdal_p dlC_M_buildsMembers_17 (i := 22) rfl) (fun hc_118 => ?_) (fun hc_118 => ?_)
                                    · skip
                                      refine zw_aload_n (pc := 147) (n := 0) (x := 81) rfl (zdal_p dlC_M_buildsMembers_18 (i := 14) rfl) ?_
                                      refine zw_dup (pc := 148) rfl (zdal_p dlC_M_buildsMembers_18 (i := 15) rfl) ?_
                                      refine zr_getI (hf_N174_.w hW) (pc := 149) f_M_196 rfl (zdal_p dlC_M_buildsMembers_18 (i := 16) rfl) ?_
                                      refine zw_iconst (pc := 152) (v := Int32.ofInt 1) (by decide) (zdal_p dlC_M_buildsMembers_18 (i := 17) rfl) ?_
                                      refine zr_iadd (pc := 153) (zdal_p dlC_M_buildsMembers_18 (i := 18) rfl) ?_
                                      refine zr_putI (hf_N174_.w hW) (pc := 154) f_M_196 rfl rfl ⟨by (exact zo_704 e20_N142_ e20_N174_ i136_), by (exact zo_689 e20_N142_ e20_N174_ i137_)⟩ rfl rfl (zdal_p dlC_M_buildsMembers_18 (i := 19) rfl) (fun N183_ hsN183_ hvN183_ => ?_)
                                      have hf_N183_ : zFr [20] [85, 86, 87, 88] Mz N183_ := hf_N174_.tr hsN183_ (by decide) (by decide)
                                      have hb0_N183_ : zFr [20] [85, 86] N6_ N183_ := hb0_N174_.tr hsN183_ (by decide) (by decide)
                                      have hb1_N183_ : zFr [20] [85, 86] N16_ N183_ := hb1_N174_.tr hsN183_ (by decide) (by decide)
                                      have e12_N183_ : ze N183_ 81 12 = ze N174_ 81 12 := hsN183_.e (by decide)
                                      have e13_N183_ : ze N183_ 81 13 = ze N174_ 81 13 := hsN183_.e (by decide)
                                      have r20_N183_ := ze_r N183_ 81 20
                                      have c186_ : zB 85 144 0 5 N183_ := zB.fr hsN183_ i180_ (by decide) (by decide)
                                      have hNe_ := zNf_e hPS_ ⟨by (exact i18_), by (exact zo_653 e20_N142_ e20_N174_ hu15_b i131_ i136_ i137_)⟩ ⟨by (exact i132_), by (exact hc_43)⟩ (show zNf Mz N174_ u15_ u127_ by first | with_reducible assumption | assumption) (show zAp N174_ (ze N174_ 81 20) u173_ by first | with_reducible assumption | assumption) (by (exact hc_118)) (by (exact zo_705 e20_N174_ hc_106)) hsN183_ (by (exact hvN183_))
                                      have ho_ := hNe_.1.1
                                      refine zr_iinc (pc := 157) (i := 2) (a := u127_) (n := 1) (L2 := [some (.ref 81), some (.int (Int32.ofInt u15_)), some (.int (Int32.ofInt (u127_ + 1))), some (.int (Int32.ofInt u173_))]) rfl (by decide) rfl (zdal_p dlC_M_buildsMembers_18 (i := 20) rfl) ?_
                                      refine zw_goto (pc := 160) (tgt := 38) (by decide) (zdal_p dlC_M_buildsMembers_18 (i := 21) rfl) ?_
                                      have hb1_ : zBc Mz N183_ u15_ (u127_ + 1) := by first | exact hNe_.2 | exact hbq_
                                      have hb2_ : zBs Mz N183_ := by first | exact hNe_.1 | exact hbs_
                                      refine zW_le [some (.ref 81), some (.int (Int32.ofInt u15_)), some (.int (Int32.ofInt (u127_ + 1))), none] (⟨rfl, rfl, rfl, trivial⟩) ?_
                                      exact ih_38 (u127_ + 1) (by (exact zo_74 i132_)) (by (exact zo_692 hc_43 p3_)) N183_ hb1_N183_ (show 0 ≤ u15_ by first | with_reducible assumption | assumption | omega) (show u15_ < ze N183_ 81 20 by first | with_reducible assumption | (exact zo_693 e20_N142_ e20_N174_ ho_.1 hu15_b hvN183_ i131_ i137_) | assumption) (show 0 ≤ (u127_ + 1) by first | with_reducible assumption | (exact zo_76 i132_) | assumption) (show (u127_ + 1) ≤ ze Mz 81 13 by first | with_reducible assumption | assumption | omega) (show zBs Mz N183_ by exact hb2_) (show zBc Mz N183_ u15_ (u127_ + 1) by exact hb1_) (show 1 ≤ ze N183_ 81 20 by first | with_reducible assumption | (exact zo_694 ho_.1) | assumption) (show ze N183_ 81 20 ≤ 24 by first | with_reducible assumption | (exact zo_0 ho_.2) | assumption) c186_ (by (exact zo_147 hc_43 hlt_38))
                                    · skip
                                      refine zw_aload_n (pc := 121) (n := 0) (x := 81) rfl (zdal_p dlC_M_buildsMembers_17 (i := 23) rfl) ?_
                                      refine zr_getF (r := 85) (hf_N174_.w hW) (pc := 122) f_M_26 rfl (zh_85 (hf_N174_.w hW)).1 (zdal_p dlC_M_buildsMembers_18 (i := 0) rfl) ?_
                                      refine zw_bipush (pc := 125) (v := Int32.ofInt 6) (by decide) (zdal_p dlC_M_buildsMembers_18 (i := 1) rfl) ?_
                                      refine zw_aload_n (pc := 127) (n := 0) (x := 81) rfl (zdal_p dlC_M_buildsMembers_18 (i := 2) rfl) ?_
                                      refine zr_getI (hf_N174_.w hW) (pc := 128) f_M_196 rfl (zdal_p dlC_M_buildsMembers_18 (i := 3) rfl) ?_
                                      refine zr_imul (pc := 131) (zdal_p dlC_M_buildsMembers_18 (i := 4) rfl) ?_
                                      refine zw_iload_n (pc := 132) (n := 3) (x := Int32.ofInt u173_) rfl (zdal_p dlC_M_buildsMembers_18 (i := 5) rfl) ?_
                                      refine zr_iadd (pc := 133) (zdal_p dlC_M_buildsMembers_18 (i := 6) rfl) ?_
                                      refine zw_aload_n (pc := 134) (n := 0) (x := 81) rfl (zdal_p dlC_M_buildsMembers_18 (i := 7) rfl) ?_
                                      refine zr_getF (r := 86) (hf_N174_.w hW) (pc := 135) f_M_29 rfl (zh_86 (hf_N174_.w hW)).1 (zdal_p dlC_M_buildsMembers_18 (i := 8) rfl) ?_
                                      refine zw_iload_n (pc := 138) (n := 3) (x := Int32.ofInt u173_) rfl (zdal_p dlC_M_buildsMembers_18 (i := 9) rfl) ?_
                                      refine zr_ialdn (pc := 139) (zh_86 (hf_N174_.w hW)).2 (by decide) (by (exact i176_)) (by (exact zo_670 hc_118 p1_)) (zdal_p dlC_M_buildsMembers_18 (i := 10) rfl) (fun v187_ hv187_ hv187_a hv187_b => ?_)
                                      have hcv_ := (show zNf Mz N174_ u15_ u127_ by first | with_reducible assumption | assumption).2.2.1 (u173_).toNat (by (exact zo_695 hc_118 i176_))
                                      refine zr_iast (pc := 140) (zh_85 (hf_N174_.w hW)).2 (by decide) (by decide) (by (exact zo_706 e20_N142_ e20_N174_ i136_ i176_)) (by (exact zo_707 e20_N142_ e20_N174_ hc_118 i137_ p1_ hc_106)) (zdal_p dlC_M_buildsMembers_18 (i := 11) rfl) (fun N188_ hN188_ hsN188_ => ?_)
                                      have hf_N188_ : zFr [20] [85, 86, 87, 88] Mz N188_ := hf_N174_.tr hsN188_ (by decide) (by decide)
                                      have hb0_N188_ : zFr [20] [85, 86] N6_ N188_ := hb0_N174_.tr hsN188_ (by decide) (by decide)
                                      have hb1_N188_ : zFr [20] [85, 86] N16_ N188_ := hb1_N174_.tr hsN188_ (by decide) (by decide)
                                      have hb2_N188_ : zFr [] [85] N142_ N188_ := hs175_.tr hsN188_ (by decide) (by decide)
                                      have e12_N188_ : ze N188_ 81 12 = ze N174_ 81 12 := hsN188_.e (by decide)
                                      have e13_N188_ : ze N188_ 81 13 = ze N174_ 81 13 := hsN188_.e (by decide)
                                      have e20_N188_ : ze N188_ 81 20 = ze N174_ 81 20 := hsN188_.e (by decide)
                                      have c189_ : zPm N188_ := zPm.fr hsN188_ c181_ (by decide) (by decide)
                                      have c190_ : zB 83 24 0 5 N188_ := zB.fr hsN188_ c182_ (by decide) (by decide)
                                      have c191_ : zB 85 144 0 5 N188_ := zB.s i180_ hN188_ (by (exact zo_574 hcv_.1 hv187_ hv187_a)) (by (exact zo_698 hcv_.2 hv187_ hv187_b)) (by decide) (by decide)
                                      have hAp_ := zAp_s ⟨by (exact i18_), by (exact zo_708 e20_N142_ e20_N174_ hc_33 hu15_b i131_ i136_ i23_)⟩ (show zNf Mz N174_ u15_ u127_ by first | with_reducible assumption | assumption) (show zAp N174_ (ze N174_ 81 20) u173_ by first | with_reducible assumption | assumption) (by (exact i176_)) (by (exact zo_700 hc_118 p1_)) (by first | with_reducible assumption | assumption) hN188_
                                      refine zr_iinc (pc := 141) (i := 3) (a := u173_) (n := 1) (L2 := [some (.ref 81), some (.int (Int32.ofInt u15_)), some (.int (Int32.ofInt u127_)), some (.int (Int32.ofInt (u173_ + 1)))]) rfl (by decide) rfl (zdal_p dlC_M_buildsMembers_18 (i := 12) rfl) ?_
                                      refine zw_goto (pc := 144) (tgt := 113) (by decide) (zdal_p dlC_M_buildsMembers_18 (i := 13) rfl) ?_
                                      exact ih_113 (u173_ + 1) (by (exact zo_74 i176_)) (by (exact zo_671 hc_118 p1_)) N188_ hb2_N188_ (show 0 ≤ (u173_ + 1) by first | with_reducible assumption | (exact zo_76 i176_) | assumption) (show (u173_ + 1) ≤ ze Mz 81 12 by first | with_reducible assumption | assumption | omega) (show zNf Mz N188_ u15_ u127_ by exact hAp_.1) (show zAp N188_ (ze N188_ 81 20) (u173_ + 1) by exact hAp_.2) c191_ (by (exact zo_147 hc_118 hlt_113))
                                exact lp_113 _ 0 (by decide) (by decide) N142_ zFr.rf (show 0 ≤ (0 : Int) by first | with_reducible assumption | (decide) | assumption) (show (0 : Int) ≤ ze Mz 81 12 by first | with_reducible assumption | (exact zo_564 p0_) | assumption) (show zNf Mz N142_ u15_ u127_ by exact hnf_) (show zAp N142_ (ze N142_ 81 20) (0 : Int) by exact zAp_0) c151_ (Nat.lt_succ_self _)
                              · skip
                                refine zw_iconst (pc := 109) (v := Int32.ofInt 0) (by decide) (zdal_p dlC_M_buildsMembers_17 (i := 15) rfl) ?_
                                exact zr_iret (pc := 110) (ty := .boolean) rfl (z_narB (by (decide))) ⟨by (decide), by (decide)⟩ hf_N142_ ⟨c151_, (show ((0 = 1 ∧ zFin Mz ∧ 1 ≤ ze N142_ 81 20 ∧ ze N142_ 81 20 ≤ 24 ∧ (∃ T : zGT, T ∈ gTabs ∧ zTab T N142_ ∧ zCdR (ze Mz 81 12) (zMvs Mz) T N142_)) ∨ (0 = 0 ∧ ¬ zFin Mz)) from Or.inr (⟨(show 0 = 0 by first | exact zBs_24 ⟨by (exact i18_), by (exact zo_701 e20_N142_ hc_106 hu15_b i131_ i137_)⟩ ⟨by (exact i132_), by (exact hc_43)⟩ hnf_ (by (exact hc_106)) | (decide)), (show ¬ zFin Mz by first | exact zBs_24 ⟨by (exact i18_), by (exact zo_701 e20_N142_ hc_106 hu15_b i131_ i137_)⟩ ⟨by (exact i132_), by (exact hc_43)⟩ hnf_ (by (exact hc_106)) | omega)⟩))⟩ (zdal_p dlC_M_buildsMembers_17 (i := 16) rfl)
                            · skip
                              exact absurd hc_94 (by decide)
                        · skip
                          refine zw_aload_n (pc := 56) (n := 0) (x := 81) rfl (zdal_p dlC_M_buildsMembers_16 (i := 9) rfl) ?_
                          refine zr_getF (r := 86) (hf_N142_.w hW) (pc := 57) f_M_29 rfl (zh_86 (hf_N142_.w hW)).1 (zdal_p dlC_M_buildsMembers_16 (i := 10) rfl) ?_
                          refine zw_iload_n (pc := 60) (n := 3) (x := Int32.ofInt u141_) rfl (zdal_p dlC_M_buildsMembers_16 (i := 11) rfl) ?_
                          refine zw_aload_n (pc := 61) (n := 0) (x := 81) rfl (zdal_p dlC_M_buildsMembers_16 (i := 12) rfl) ?_
                          refine zr_getF (r := 83) (hf_N142_.w hW) (pc := 62) f_M_20 rfl (zh_83 (hf_N142_.w hW)).1 (zdal_p dlC_M_buildsMembers_16 (i := 13) rfl) ?_
                          refine zw_bipush (pc := 65) (v := Int32.ofInt 6) (by decide) (zdal_p dlC_M_buildsMembers_16 (i := 14) rfl) ?_
                          refine zw_iload_n (pc := 67) (n := 2) (x := Int32.ofInt u127_) rfl (zdal_p dlC_M_buildsMembers_16 (i := 15) rfl) ?_
                          refine zr_imul (pc := 68) (zdal_p dlC_M_buildsMembers_16 (i := 16) rfl) ?_
                          refine zw_aload_n (pc := 69) (n := 0) (x := 81) rfl (zdal_p dlC_M_buildsMembers_16 (i := 17) rfl) ?_
                          refine zr_getF (r := 85) (hf_N142_.w hW) (pc := 70) f_M_26 rfl (zh_85 (hf_N142_.w hW)).1 (zdal_p dlC_M_buildsMembers_16 (i := 18) rfl) ?_
                          refine zw_bipush (pc := 73) (v := Int32.ofInt 6) (by decide) (zdal_p dlC_M_buildsMembers_16 (i := 19) rfl) ?_
                          refine zw_iload_n (pc := 75) (n := 1) (x := Int32.ofInt u15_) rfl (zdal_p dlC_M_buildsMembers_16 (i := 20) rfl) ?_
                          refine zr_imul (pc := 76) (zdal_p dlC_M_buildsMembers_16 (i := 21) rfl) ?_
                          refine zw_iload_n (pc := 77) (n := 3) (x := Int32.ofInt u141_) rfl (zdal_p dlC_M_buildsMembers_16 (i := 22) rfl) ?_
                          refine zr_iadd (pc := 78) (zdal_p dlC_M_buildsMembers_16 (i := 23) rfl) ?_
                          refine zr_ialdn (pc := 79) (zh_85 (hf_N142_.w hW)).2 (by decide) (by (exact zo_709 i144_ i18_)) (by (exact zo_667 hc_53 i131_ i137_ p1_)) (zdal_p dlC_M_buildsMembers_17 (i := 0) rfl) (fun v192_ hv192_ hv192_a hv192_b => ?_)
                          have hr193_ := c151_.g (e := (6 * u15_) + u141_) (by (exact zo_709 i144_ i18_)) (by (exact zo_667 hc_53 i131_ i137_ p1_))
                          rw [← hv192_] at hr193_
                          refine zr_toI (show v192_ = ze N142_ 85 (6 * u15_ + u141_).toNat by (exact hv192_)) ?_
                          refine zr_iadd (pc := 80) (zdal_p dlC_M_buildsMembers_17 (i := 1) rfl) ?_
                          refine zr_ialdn (pc := 81) (zh_83 (hf_N142_.w hW)).2 (by decide) (by (exact zo_668 hr193_.1 hv192_ i132_)) (by (exact zo_710 hc_43 hr193_.2 hv192_ p3_)) (zdal_p dlC_M_buildsMembers_17 (i := 2) rfl) (fun v194_ hv194_ hv194_a hv194_b => ?_)
                          have hr195_ := c150_.g (e := (6 * u127_) + (ze N142_ 85 (6 * u15_ + u141_).toNat)) (by (exact zo_668 hr193_.1 hv192_ i132_)) (by (exact zo_710 hc_43 hr193_.2 hv192_ p3_))
                          rw [← hv194_] at hr195_
                          rw [hf_N142_.ie (by decide) (by decide)] at hv194_
                          refine zr_iast (pc := 82) (zh_86 (hf_N142_.w hW)).2 (by decide) (by decide) (by (exact i144_)) (by (exact zo_670 hc_53 p1_)) (zdal_p dlC_M_buildsMembers_17 (i := 3) rfl) (fun N196_ hN196_ hsN196_ => ?_)
                          have hf_N196_ : zFr [20] [85, 86, 87, 88] Mz N196_ := hf_N142_.tr hsN196_ (by decide) (by decide)
                          have hb0_N196_ : zFr [20] [85, 86] N6_ N196_ := hb0_N142_.tr hsN196_ (by decide) (by decide)
                          have hb1_N196_ : zFr [20] [85, 86] N16_ N196_ := hb1_N142_.tr hsN196_ (by decide) (by decide)
                          have hb2_N196_ : zFr [] [86] N128_ N196_ := hs143_.tr hsN196_ (by decide) (by decide)
                          have e12_N196_ : ze N196_ 81 12 = ze N142_ 81 12 := hsN196_.e (by decide)
                          have e13_N196_ : ze N196_ 81 13 = ze N142_ 81 13 := hsN196_.e (by decide)
                          have e20_N196_ : ze N196_ 81 20 = ze N142_ 81 20 := hsN196_.e (by decide)
                          have hG_ := zCg_s (show zCg Mz N142_ u15_ u127_ 0 u141_ by first | with_reducible assumption | assumption) (by (exact i144_)) (by (exact hr195_)) (by rw [if_pos rfl]; assumption) (by (exact i18_)) hN196_
                          have hf1_ := zBs.fr hsN196_ (show zBs Mz N142_ by first | with_reducible assumption | assumption) (by decide) (by decide)
                          have hf2_ := zBc.fr hsN196_ (show zBc Mz N142_ u15_ u127_ by first | with_reducible assumption | assumption) (by decide) (by decide)
                          refine zr_iinc (pc := 83) (i := 3) (a := u141_) (n := 1) (L2 := [some (.ref 81), some (.int (Int32.ofInt u15_)), some (.int (Int32.ofInt u127_)), some (.int (Int32.ofInt (u141_ + 1)))]) rfl (by decide) rfl (zdal_p dlC_M_buildsMembers_17 (i := 4) rfl) ?_
                          refine zw_goto (pc := 86) (tgt := 48) (by decide) (zdal_p dlC_M_buildsMembers_17 (i := 5) rfl) ?_
                          exact ih_48 (u141_ + 1) (by (exact zo_74 i144_)) (by (exact zo_671 hc_53 p1_)) N196_ hb2_N196_ (show 0 ≤ (u141_ + 1) by first | with_reducible assumption | (exact zo_76 i144_) | assumption) (show (u141_ + 1) ≤ ze Mz 81 12 by first | with_reducible assumption | assumption | omega) (show zCg Mz N196_ u15_ u127_ 0 (u141_ + 1) by exact hG_) (show zBs Mz N196_ by exact hf1_) (show zBc Mz N196_ u15_ u127_ by exact hf2_) (by (exact zo_147 hc_53 hlt_48))
                    exact lp_48 _ 0 (by decide) (by decide) N128_ zFr.rf (show 0 ≤ (0 : Int) by first | with_reducible assumption | (decide) | assumption) (show (0 : Int) ≤ ze Mz 81 12 by first | with_reducible assumption | (exact zo_564 p0_) | assumption) (show zCg Mz N128_ u15_ u127_ 0 (0 : Int) by exact zCg_0) (show zBs Mz N128_ by first | with_reducible assumption | assumption | omega) (show zBc Mz N128_ u15_ u127_ by first | with_reducible assumption | assumption | omega) (Nat.lt_succ_self _)
              exact lp_38 _ 0 (by decide) (by decide) N16_ zFr.rf (show 0 ≤ u15_ by first | with_reducible assumption | assumption | omega) (show u15_ < ze N16_ 81 20 by first | with_reducible assumption | assumption | omega) (show 0 ≤ (0 : Int) by first | with_reducible assumption | (decide) | assumption) (show (0 : Int) ≤ ze Mz 81 13 by first | with_reducible assumption | assumption | omega) (show zBs Mz N16_ by first | with_reducible assumption | assumption | omega) (show zBc Mz N16_ u15_ (0 : Int) by first | with_reducible assumption | assumption | omega) (show 1 ≤ ze N16_ 81 20 by first | with_reducible assumption | assumption | omega) (show ze N16_ 81 20 ≤ 24 by first | with_reducible assumption | assumption | omega) i24_ (Nat.lt_succ_self _)
        exact lp_28 _ 0 (by decide) (by decide) N6_ zFr.rf (show 0 ≤ (0 : Int) by first | with_reducible assumption | (decide) | assumption) (show (0 : Int) ≤ ze N6_ 81 20 by first | with_reducible assumption | (exact zo_711 i11_) | assumption) (show zBs Mz N6_ by exact hB0_.1) (show zBc Mz N6_ (0 : Int) 0 by exact hB0_.2) (show 1 ≤ ze N6_ 81 20 by first | with_reducible assumption | (exact zo_712 i11_) | assumption) (show ze N6_ 81 20 ≤ 24 by first | with_reducible assumption | (exact zo_713 i11_) | assumption) i12_ (Nat.lt_succ_self _)
      · skip
        refine zw_aload_n (pc := 13) (n := 0) (x := 81) rfl (zdal_p dlC_M_buildsMembers_15 (i := 8) rfl) ?_
        refine zr_getF (r := 85) (hf_N6_.w hW) (pc := 14) f_M_26 rfl (zh_85 (hf_N6_.w hW)).1 (zdal_p dlC_M_buildsMembers_15 (i := 9) rfl) ?_
        refine zw_iload_n (pc := 17) (n := 1) (x := Int32.ofInt u5_) rfl (zdal_p dlC_M_buildsMembers_15 (i := 10) rfl) ?_
        refine zw_iload_n (pc := 18) (n := 1) (x := Int32.ofInt u5_) rfl (zdal_p dlC_M_buildsMembers_15 (i := 11) rfl) ?_
        refine zr_iast (pc := 19) (zh_85 (hf_N6_.w hW)).2 (by decide) (by decide) (by (exact i8_)) (by (exact zo_714 hc_10)) (zdal_p dlC_M_buildsMembers_15 (i := 12) rfl) (fun N200_ hN200_ hsN200_ => ?_)
        have hf_N200_ : zFr [20] [85, 86, 87, 88] Mz N200_ := hf_N6_.tr hsN200_ (by decide) (by decide)
        have hb0_N200_ : zFr [] [85] N1_ N200_ := hs7_.tr hsN200_ (by decide) (by decide)
        have e12_N200_ : ze N200_ 81 12 = ze N6_ 81 12 := hsN200_.e (by decide)
        have e13_N200_ : ze N200_ 81 13 = ze N6_ 81 13 := hsN200_.e (by decide)
        have e20_N200_ : ze N200_ 81 20 = ze N6_ 81 20 := hsN200_.e (by decide)
        have c203_ : zB 85 144 0 5 N200_ := zB.s i12_ hN200_ (by (exact i8_)) (by (exact zo_715 hc_10)) (by decide) (by decide)
        have hI_ := zid_s (by (exact i8_)) (by (exact zo_716 hc_10)) (show ∀ q : Nat, (q : Int) < u5_ → ze N6_ 85 q = q by first | with_reducible assumption | assumption) hN200_
        refine zr_iinc (pc := 20) (i := 1) (a := u5_) (n := 1) (L2 := [some (.ref 81), some (.int (Int32.ofInt (u5_ + 1))), none, none]) rfl (by decide) rfl (zdal_p dlC_M_buildsMembers_15 (i := 13) rfl) ?_
        refine zw_goto (pc := 23) (tgt := 7) (by decide) (zdal_p dlC_M_buildsMembers_15 (i := 14) rfl) ?_
        exact ih_7 (u5_ + 1) (by (exact zo_74 i8_)) (by (exact zo_193 hc_10)) N200_ hb0_N200_ (show 0 ≤ (u5_ + 1) by first | with_reducible assumption | (exact zo_76 i8_) | assumption) (show (u5_ + 1) ≤ 6 by first | with_reducible assumption | assumption | omega) (show ∀ q : Nat, (q : Int) < (u5_ + 1) → ze N200_ 85 q = q by exact hI_) (show ze N200_ 81 20 = 1 by first | with_reducible assumption | (exact zo_594 e20_N200_ i11_) | assumption) c203_ (by (exact zo_717 hc_10 hlt_7 i8_))
  exact lp_7 _ 0 (by decide) (by decide) N1_ zFr.rf (show 0 ≤ (0 : Int) by first | with_reducible assumption | (decide) | assumption) (show (0 : Int) ≤ 6 by first | with_reducible assumption | (decide) | assumption) (show ∀ q : Nat, (q : Int) < (0 : Int) → ze N1_ 85 q = q by exact zall_0) (show ze N1_ 81 20 = 1 by first | with_reducible assumption | assumption | omega) c4_ (Nat.lt_succ_self _)
theorem zC_le {l : Launch} {k : zMeth} {mc ms : Nat} {vs : List Value} {M : zMem} {Q Q' : Option Value → zMem → Prop} (h : zC l k mc ms vs M Q) (hq : ∀ r N, Q r N → Q' r N) : zC l k mc ms vs M Q' := by
  intro D cI cJ ad adV p e h1 h2 h3 s m args below h4 h5 h6 h7
  obtain ⟨n, o, a1, a2, a3, ⟨⟨r, M', b1, b2, b3⟩, b4⟩, b5⟩ := h D cI cJ ad adV p e h1 h2 h3 s m args below h4 h5 h6 h7
  exact ⟨n, o, a1, a2, a3, ⟨⟨r, M', b1, hq r M' b2, b3⟩, b4⟩, b5⟩
theorem c_M_buildsMembers (l : Launch) (Mz : zMem) (hW : zMt Mz) (p0_ : 1 ≤ ze Mz 81 12) (p1_ : ze Mz 81 12 ≤ 6) (p2_ : 0 ≤ ze Mz 81 13) (p3_ : ze Mz 81 13 ≤ 4) (p4_ : zPm Mz) (p5_ : zB 83 24 0 5 Mz) (p6_ : zB 85 144 0 5 Mz) : zC l m_M_buildsMembers 0 0 [.ref 81] Mz (zpI [20] [85, 86, 87, 88] Mz (fun v N => zB 85 144 0 5 N ∧ (((v = 1 ∧ zFin Mz ∧ 1 ≤ ze N 81 20 ∧ ze N 81 20 ≤ 24 ∧ (∃ T : zGT, T ∈ gTabs ∧ zTab T N)) ∨ (v = 0 ∧ ¬ zFin Mz))))) := by
  refine zC_le (c_M_buildsMembersF l Mz hW p0_ p1_ p2_ p3_ p4_ p5_ p6_) (fun r N h => ?_)
  obtain ⟨v, h1, h2, h3, h4, h5⟩ := h
  refine ⟨v, h1, h2, h3, h4, ?_⟩
  rcases h5 with ⟨a, b, c, d, T, t1, t2, -⟩ | h5
  · exact Or.inl ⟨a, b, c, d, T, t1, t2⟩
  · exact Or.inr h5
set_option maxHeartbeats 40000000 in
theorem c_M_moveLineF (l : Launch) (Mz : zMem) (hW : zMt Mz) (b_ : Nat → Int) (n_ : Nat) (p0_ : zRb b_ n_ Mz) (p1_ : zRt b_ n_ Mz) (p2_ : ze Mz 81 7 = 0) (p3_ : zkd b_ n_ (ze Mz 81 4).toNat = 1) (p4_ : zkey b_ n_ (ze Mz 81 4).toNat = zkw 1) (p5_ : 1 ≤ ze Mz 81 12) (p6_ : ze Mz 81 12 ≤ 6) (p7_ : 0 ≤ ze Mz 81 13) (p8_ : ze Mz 81 13 ≤ 4) (p9_ : zPm Mz) (p10_ : zB 83 24 0 5 Mz) (p11_ : zB 85 144 0 5 Mz) : zC l m_M_moveLine 0 0 [.ref 81] Mz (zpV [3, 4, 5, 6, 7, 8, 11, 13, 20] [83, 85, 86, 87, 88] Mz (fun N => zRt b_ n_ N ∧ 0 ≤ ze N 81 13 ∧ ze N 81 13 ≤ 4 ∧ zB 83 24 0 5 N ∧ zB 85 144 0 5 N ∧ (((1 ≤ ze N 81 7 ∧ zbs b_ n_ (ze Mz 81 12).toNat (0, (ze Mz 81 4).toNat, zMvs Mz) = zMf) ∨ (ze N 81 7 = 0 ∧ zbs b_ n_ (ze Mz 81 12).toNat (0, (ze Mz 81 4).toNat, zMvs Mz) = (0, (ze N 81 4).toNat, zMvs N) ∧ zPm N ∧ zFin N ∧ ze Mz 81 4 < ze N 81 4))))) := by
  refine zC_of (L0 := [some (.ref 81), none, none, none, none]) md_M_moveLine (Nat.le_of_ble_eq_true rfl) rfl ?_ zQ0
  have hf : zFr [3, 4, 5, 6, 7, 8, 11, 13, 20] [83, 85, 86, 87, 88] Mz Mz := zFr.rf
  have r_3 := ze_r Mz 81 3
  have r_4 := ze_r Mz 81 4
  have r_5 := ze_r Mz 81 5
  have r_6 := ze_r Mz 81 6
  have r_7 := ze_r Mz 81 7
  have r_12 := ze_r Mz 81 12
  have r_13 := ze_r Mz 81 13
  have r_20 := ze_r Mz 81 20
  have hl0_ := And.intro p3_ p4_
  have hml_ := zMvs_l Mz
  refine zw_aload_n (pc := 0) (n := 0) (x := 81) rfl (zdal_p dlC_M_moveLine_82 (i := 0) rfl) ?_
  refine zr_getI (hf.w hW) (pc := 1) f_M_145 rfl (zdal_p dlC_M_moveLine_82 (i := 1) rfl) ?_
  refine zw_istore_n (pc := 4) (i := 1) (L2 := [some (.ref 81), some (.int (Int32.ofInt (ze Mz 81 4))), none, none, none]) rfl (by decide) rfl (zdal_p dlC_M_moveLine_82 (i := 2) rfl) ?_
  refine zw_aload_n (pc := 5) (n := 0) (x := 81) rfl (zdal_p dlC_M_moveLine_82 (i := 3) rfl) ?_
  refine zr_getI (hf.w hW) (pc := 6) f_M_199 rfl (zdal_p dlC_M_moveLine_82 (i := 4) rfl) ?_
  refine zw_iconst (pc := 9) (v := Int32.ofInt 4) (by decide) (zdal_p dlC_M_moveLine_82 (i := 5) rfl) ?_
  refine zr_icmp_ne (pc := 10) (tgt := 18) ⟨(ze_r Mz 81 13).1, (ze_r Mz 81 13).2⟩ ⟨(by decide), (by decide)⟩ (by decide) (zdal_p dlC_M_moveLine_82 (i := 6) rfl) (fun hc_10 => ?_) (fun hc_10 => ?_)
  · skip
    refine zw_aload_n (pc := 18) (n := 0) (x := 81) rfl (zdal_p dlC_M_moveLine_82 (i := 10) rfl) ?_
    refine zr_callV (hf.w hW) hf.x (pc := 19) [] [] l_M_183 (c_M_isGood l Mz (hf.w hW) ) rfl rfl rfl (by decide) (Nat.le_of_ble_eq_true rfl) (zdal_p dlC_M_moveLine_82 (i := 11) rfl) ?_
    rintro _ N1_ ⟨v2_, rfl, ⟨hv2_a, hv2_b⟩, hsN1_, hp0_N1_⟩
    obtain rfl := hsN1_.eq.symm
    replace hp0_N1_ : ((v2_ = 1 ∧ ze Mz 81 7 = 0) ∨ (v2_ = 0 ∧ ze Mz 81 7 ≠ 0)) := hp0_N1_
    rcases hp0_N1_ with ⟨rfl, ha19_0_hp0_N1_⟩ | ⟨rfl, ha19_0_hp0_N1_⟩
    · skip
      show zW l m_M_moveLine (zn Mz + 0, zw Mz + 0) Mz 22 [some (.ref 81), some (.int (Int32.ofInt (ze Mz 81 4))), none, none, none] [.int (Int32.ofInt 1)] _
      refine zr_if_eq (pc := 22) (tgt := 29) ⟨(by decide), (by decide)⟩ (by decide) (zdal_p dlC_M_moveLine_82 (i := 12) rfl) (fun hc_22 => ?_) (fun hc_22 => ?_)
      · skip
        exact absurd hc_22 (by decide)
      · skip
        have hyt_ := p1_
        have hyx_ := hyt_.x
        refine zw_aload_n (pc := 25) (n := 0) (x := 81) rfl (zdal_p dlC_M_moveLine_82 (i := 13) rfl) ?_
        refine zr_callV (hf.w hW) hf.x (pc := 26) [] [] l_M_193 (c_M_goOnF l Mz (hf.w hW) b_ n_ p0_ (show 0 ≤ ze Mz 81 3 by first | with_reducible assumption | (exact zo_57 hyx_.2.1) | assumption) (show ze Mz 81 3 ≤ n_ by first | with_reducible assumption | (exact zo_277 hyx_.2.2 r_3.2) | assumption)) rfl rfl rfl (by decide) (Nat.le_of_ble_eq_true rfl) (zdal_p dlC_M_moveLine_82 (i := 14) rfl) ?_
        rintro _ N3_ ⟨rfl, hsN3_, ⟨hp0_N3_, hp1_N3_⟩⟩
        have hf_N3_ : zFr [3, 4, 5, 6, 7, 8, 11, 13, 20] [83, 85, 86, 87, 88] Mz N3_ := hf.tr hsN3_ (by decide) (by decide)
        have r3_N3_ := ze_r N3_ 81 3
        have r4_N3_ := ze_r N3_ 81 4
        have r5_N3_ := ze_r N3_ 81 5
        have r6_N3_ := ze_r N3_ 81 6
        have e7_N3_ : ze N3_ 81 7 = ze Mz 81 7 := hsN3_.e (by decide)
        have e12_N3_ : ze N3_ 81 12 = ze Mz 81 12 := hsN3_.e (by decide)
        have e13_N3_ : ze N3_ 81 13 = ze Mz 81 13 := hsN3_.e (by decide)
        have e20_N3_ : ze N3_ 81 20 = ze Mz 81 20 := hsN3_.e (by decide)
        have c5_ : zRb b_ n_ N3_ := zRb.fr hsN3_ p0_ (by decide) (by decide)
        have c7_ : zB 83 24 0 5 N3_ := zB.fr hsN3_ p10_ (by decide) (by decide)
        have c8_ : zB 85 144 0 5 N3_ := zB.fr hsN3_ p11_ (by decide) (by decide)
        show zW l m_M_moveLine (zn Mz + 0, zw Mz + 0) N3_ 29 [some (.ref 81), some (.int (Int32.ofInt (ze Mz 81 4))), none, none, none] [] _
        have hnn_ := hyt_.nx hp0_N3_
        have hx1_ := hnn_.2
        have hg1_ := znx_g (b := b_) (n := n_) (s := (ze Mz 81 4).toNat) (by omega)
        have hml0_ : zMrI b_ n_ (ze Mz 81 12).toNat (znx b_ n_ (ze Mz 81 4).toNat) (ze Mz 81 13) N3_ 0 0 := zMrI_0 hx1_
        have hkp0_ : zKp Mz N3_ (6 * ze Mz 81 13) := zKp_0 hsN3_ (by decide)
        refine zw_iconst (pc := 29) (v := Int32.ofInt 0) (by decide) (zdal_p dlC_M_moveLine_82 (i := 15) rfl) ?_
        refine zw_istore_n (pc := 30) (i := 2) (L2 := [some (.ref 81), some (.int (Int32.ofInt (ze Mz 81 4))), some (.int (Int32.ofInt 0)), none, none]) rfl (by decide) rfl (zdal_p dlC_M_moveLine_82 (i := 16) rfl) ?_
        refine zw_iconst (pc := 31) (v := Int32.ofInt 0) (by decide) (zdal_p dlC_M_moveLine_82 (i := 17) rfl) ?_
        refine zw_istore_n (pc := 32) (i := 3) (L2 := [some (.ref 81), some (.int (Int32.ofInt (ze Mz 81 4))), some (.int (Int32.ofInt 0)), some (.int (Int32.ofInt 0)), none]) rfl (by decide) rfl (zdal_p dlC_M_moveLine_82 (i := 18) rfl) ?_
        have lp_33 : ∀ (n : Nat) (u9_ : Int) (hu9_a : -2147483648 ≤ u9_) (hu9_b : u9_ < 2147483648) (u10_ : Int) (hu10_a : -2147483648 ≤ u10_) (hu10_b : u10_ < 2147483648) (N11_ : zMem) (hs12_ : zFr [3, 4, 5, 6, 7, 8, 11] [83] N3_ N11_) (i13_ : zRt b_ n_ N11_) (i14_ : 0 ≤ u10_) (i15_ : u10_ ≤ ze Mz 81 12) (i16_ : (1 ≤ ze N11_ 81 7 ∧ zbs b_ n_ (ze Mz 81 12).toNat (0, (ze Mz 81 4).toNat, zMvs Mz) = zMf) ∨ (ze N11_ 81 7 = 0 ∧ ze Mz 81 13 ≤ 3 ∧ zMrI b_ n_ (ze Mz 81 12).toNat (znx b_ n_ (ze Mz 81 4).toNat) (ze Mz 81 13) N11_ u10_ u9_ ∧ zKp Mz N11_ (6 * ze Mz 81 13) ∧ ze Mz 81 4 < ze N11_ 81 4)) (i17_ : zB 83 24 0 5 N11_), (ze Mz 81 12 - u10_).toNat < n → zW l m_M_moveLine (zn Mz + 0, zw Mz + 0) N11_ 33 [some (.ref 81), some (.int (Int32.ofInt (ze Mz 81 4))), some (.int (Int32.ofInt u9_)), some (.int (Int32.ofInt u10_)), none] [] (zpV [3, 4, 5, 6, 7, 8, 11, 13, 20] [83, 85, 86, 87, 88] Mz (fun N => zRt b_ n_ N ∧ 0 ≤ ze N 81 13 ∧ ze N 81 13 ≤ 4 ∧ zB 83 24 0 5 N ∧ zB 85 144 0 5 N ∧ (((1 ≤ ze N 81 7 ∧ zbs b_ n_ (ze Mz 81 12).toNat (0, (ze Mz 81 4).toNat, zMvs Mz) = zMf) ∨ (ze N 81 7 = 0 ∧ zbs b_ n_ (ze Mz 81 12).toNat (0, (ze Mz 81 4).toNat, zMvs Mz) = (0, (ze N 81 4).toNat, zMvs N) ∧ zPm N ∧ zFin N ∧ ze Mz 81 4 < ze N 81 4))))) := by
          clear hv2_a hv2_b
          intro n
          induction n with
          | zero =>
            intro u9_ hu9_a hu9_b u10_ hu10_a hu10_b N11_ hs12_ i13_ i14_ i15_ i16_ i17_ h0
            exact absurd h0 (Nat.not_lt_zero _)
          | succ n ih_33 =>
            intro u9_ hu9_a hu9_b u10_ hu10_a hu10_b N11_ hs12_ i13_ i14_ i15_ i16_ i17_ hlt_33
            have hf_N11_ : zFr [3, 4, 5, 6, 7, 8, 11, 13, 20] [83, 85, 86, 87, 88] Mz N11_ := hf_N3_.tr hs12_ (by decide) (by decide)
            have r3_N11_ := ze_r N11_ 81 3
            have r4_N11_ := ze_r N11_ 81 4
            have r5_N11_ := ze_r N11_ 81 5
            have r6_N11_ := ze_r N11_ 81 6
            have r7_N11_ := ze_r N11_ 81 7
            have e12_N11_ : ze N11_ 81 12 = ze N3_ 81 12 := hs12_.e (by decide)
            have e13_N11_ : ze N11_ 81 13 = ze N3_ 81 13 := hs12_.e (by decide)
            have e20_N11_ : ze N11_ 81 20 = ze N3_ 81 20 := hs12_.e (by decide)
            have c18_ : zRb b_ n_ N11_ := zRb.fr hs12_ c5_ (by decide) (by decide)
            have c19_ : zB 85 144 0 5 N11_ := zB.fr hs12_ c8_ (by decide) (by decide)
            have zz12_N11_ : ze N11_ 81 12 = ze Mz 81 12 := hf_N11_.e (by decide)
            rcases i16_ with ⟨hl33_0_i16_, hl33_1_i16_⟩ | ⟨hl33_0_i16_, hl33_1_i16_, hl33_2_i16_, hl33_3_i16_, hl33_4_i16_⟩
            · skip
              refine zw_iload_n (pc := 33) (n := 3) (x := Int32.ofInt u10_) rfl (zdal_p dlC_M_moveLine_82 (i := 19) rfl) ?_
              refine zw_aload_n (pc := 34) (n := 0) (x := 81) rfl (zdal_p dlC_M_moveLine_82 (i := 20) rfl) ?_
              refine zr_getI0 hf_N11_ hW (pc := 35) (by decide) f_M_115 rfl (zdal_p dlC_M_moveLine_82 (i := 21) rfl) ?_
              refine zr_icmp_ge (pc := 38) (tgt := 138) ⟨hu10_a, hu10_b⟩ ⟨(ze_r Mz 81 12).1, (ze_r Mz 81 12).2⟩ (by decide) (zdal_p dlC_M_moveLine_82 (i := 22) rfl) (fun hc_38 => ?_) (fun hc_38 => ?_)
              · skip
                refine zw_aload_n (pc := 138) (n := 0) (x := 81) rfl d_M_moveLine_138 ?_
                refine zw_bipush (pc := 139) (v := Int32.ofInt 59) (by decide) d_M_moveLine_139 ?_
                refine zr_callV (hf_N11_.w hW) hf_N11_.x (pc := 141) [.int (Int32.ofInt 59)] [] l_M_355 (c_M_mustF l N11_ (hf_N11_.w hW) 59 (by decide) (by decide) b_ n_ c18_ i13_ (show 0 ≤ ze N11_ 81 7 by first | with_reducible assumption | (exact zo_564 hl33_0_i16_) | assumption)) rfl rfl rfl (by decide) (Nat.le_of_ble_eq_true rfl) d_M_moveLine_141 ?_
                rintro _ N20_ ⟨rfl, hsN20_, ⟨hp0_N20_, hp1_N20_⟩⟩
                have hf_N20_ : zFr [3, 4, 5, 6, 7, 8, 11, 13, 20] [83, 85, 86, 87, 88] Mz N20_ := hf_N11_.tr hsN20_ (by decide) (by decide)
                have r3_N20_ := ze_r N20_ 81 3
                have r4_N20_ := ze_r N20_ 81 4
                have r5_N20_ := ze_r N20_ 81 5
                have r6_N20_ := ze_r N20_ 81 6
                have r7_N20_ := ze_r N20_ 81 7
                have e12_N20_ : ze N20_ 81 12 = ze N11_ 81 12 := hsN20_.e (by decide)
                have e13_N20_ : ze N20_ 81 13 = ze N11_ 81 13 := hsN20_.e (by decide)
                have e20_N20_ : ze N20_ 81 20 = ze N11_ 81 20 := hsN20_.e (by decide)
                have c23_ : zB 85 144 0 5 N20_ := zB.fr hsN20_ c19_ (by decide) (by decide)
                have c24_ : zB 83 24 0 5 N20_ := zB.fr hsN20_ i17_ (by decide) (by decide)
                rcases hp1_N20_ with ⟨ha141_0_hp1_N20_, ha141_1_hp1_N20_⟩ | ⟨ha141_0_hp1_N20_, ha141_1_hp1_N20_, ha141_2_hp1_N20_, ha141_3_hp1_N20_⟩
                · skip
                  have hrt2_ : zbs b_ n_ (ze Mz 81 12).toNat (0, (ze Mz 81 4).toNat, zMvs Mz) = zMf := by first | with_reducible assumption | exact hrt_ | assumption | (obtain ⟨l_, hl1_, -⟩ := zMrI_e hmi_ (by omega); exact zbs_f hl0_ hl1_ (fun q_ => ha141_1_hp1_N20_ (by omega) q_.1))
                  show zW l m_M_moveLine (zn Mz + 0, zw Mz + 0) N20_ 144 [some (.ref 81), some (.int (Int32.ofInt (ze Mz 81 4))), some (.int (Int32.ofInt u9_)), some (.int (Int32.ofInt u10_)), none] [] _
                  refine zw_aload_n (pc := 144) (n := 0) (x := 81) rfl d_M_moveLine_144 ?_
                  refine zr_getI (hf_N20_.w hW) (pc := 145) f_M_172 rfl d_M_moveLine_145 ?_
                  refine zr_if_le (pc := 148) (tgt := 152) ⟨(ze_r N20_ 81 7).1, (ze_r N20_ 81 7).2⟩ (by decide) d_M_moveLine_148 (fun hc_148 => ?_) (fun hc_148 => ?_)
                  · skip
                    exfalso; (exact zo_61 ha141_0_hp1_N20_ hc_148)
                  · skip
                    exact zr_vret (pc := 151) rfl hf_N20_ ⟨hp0_N20_, (show 0 ≤ ze N20_ 81 13 by first | with_reducible assumption | (exact zo_1334 e13_N11_ e13_N20_ e13_N3_ p7_) | assumption), (show ze N20_ 81 13 ≤ 4 by first | with_reducible assumption | (exact zo_1335 e13_N11_ e13_N20_ e13_N3_ p8_) | assumption), c24_, c23_, (show ((1 ≤ ze N20_ 81 7 ∧ zbs b_ n_ (ze Mz 81 12).toNat (0, (ze Mz 81 4).toNat, zMvs Mz) = zMf) ∨ (ze N20_ 81 7 = 0 ∧ zbs b_ n_ (ze Mz 81 12).toNat (0, (ze Mz 81 4).toNat, zMvs Mz) = (0, (ze N20_ 81 4).toNat, zMvs N20_) ∧ zPm N20_ ∧ zFin N20_ ∧ ze Mz 81 4 < ze N20_ 81 4)) from Or.inl (⟨(show 1 ≤ ze N20_ 81 7 by first | with_reducible assumption | assumption | omega | exact hrt_ | exact hrt2_), (show zbs b_ n_ (ze Mz 81 12).toNat (0, (ze Mz 81 4).toNat, zMvs Mz) = zMf by first | with_reducible assumption | assumption | omega | exact hrt_ | exact hrt2_)⟩))⟩ d_M_moveLine_151
                · skip
                  exfalso; (exact zo_281 ha141_1_hp1_N20_ hl33_0_i16_)
              · skip
                refine zw_aload_n (pc := 41) (n := 0) (x := 81) rfl (zdal_p dlC_M_moveLine_82 (i := 23) rfl) ?_
                refine zr_callV (hf_N11_.w hW) hf_N11_.x (pc := 42) [] [] l_M_183 (c_M_isGood l N11_ (hf_N11_.w hW) ) rfl rfl rfl (by decide) (Nat.le_of_ble_eq_true rfl) (zdal_p dlC_M_moveLine_83 (i := 0) rfl) ?_
                rintro _ N25_ ⟨v26_, rfl, ⟨hv26_a, hv26_b⟩, hsN25_, hp0_N25_⟩
                obtain rfl := hsN25_.eq.symm
                replace hp0_N25_ : ((v26_ = 1 ∧ ze N11_ 81 7 = 0) ∨ (v26_ = 0 ∧ ze N11_ 81 7 ≠ 0)) := hp0_N25_
                rcases hp0_N25_ with ⟨rfl, ha42_0_hp0_N25_⟩ | ⟨rfl, ha42_0_hp0_N25_⟩
                · skip
                  exfalso; (exact zo_281 ha42_0_hp0_N25_ hl33_0_i16_)
                · skip
                  show zW l m_M_moveLine (zn Mz + 0, zw Mz + 0) N11_ 45 [some (.ref 81), some (.int (Int32.ofInt (ze Mz 81 4))), some (.int (Int32.ofInt u9_)), some (.int (Int32.ofInt u10_)), none] [.int (Int32.ofInt 0)] _
                  refine zr_if_eq (pc := 45) (tgt := 138) ⟨(by decide), (by decide)⟩ (by decide) (zdal_p dlC_M_moveLine_83 (i := 1) rfl) (fun hc_45 => ?_) (fun hc_45 => ?_)
                  · skip
                    refine zw_aload_n (pc := 138) (n := 0) (x := 81) rfl d_M_moveLine_138 ?_
                    refine zw_bipush (pc := 139) (v := Int32.ofInt 59) (by decide) d_M_moveLine_139 ?_
                    refine zr_callV (hf_N11_.w hW) hf_N11_.x (pc := 141) [.int (Int32.ofInt 59)] [] l_M_355 (c_M_mustF l N11_ (hf_N11_.w hW) 59 (by decide) (by decide) b_ n_ c18_ i13_ (show 0 ≤ ze N11_ 81 7 by first | with_reducible assumption | (exact zo_564 hl33_0_i16_) | assumption)) rfl rfl rfl (by decide) (Nat.le_of_ble_eq_true rfl) d_M_moveLine_141 ?_
                    rintro _ N27_ ⟨rfl, hsN27_, ⟨hp0_N27_, hp1_N27_⟩⟩
                    have hf_N27_ : zFr [3, 4, 5, 6, 7, 8, 11, 13, 20] [83, 85, 86, 87, 88] Mz N27_ := hf_N11_.tr hsN27_ (by decide) (by decide)
                    have r3_N27_ := ze_r N27_ 81 3
                    have r4_N27_ := ze_r N27_ 81 4
                    have r5_N27_ := ze_r N27_ 81 5
                    have r6_N27_ := ze_r N27_ 81 6
                    have r7_N27_ := ze_r N27_ 81 7
                    have e12_N27_ : ze N27_ 81 12 = ze N11_ 81 12 := hsN27_.e (by decide)
                    have e13_N27_ : ze N27_ 81 13 = ze N11_ 81 13 := hsN27_.e (by decide)
                    have e20_N27_ : ze N27_ 81 20 = ze N11_ 81 20 := hsN27_.e (by decide)
                    have c30_ : zB 85 144 0 5 N27_ := zB.fr hsN27_ c19_ (by decide) (by decide)
                    have c31_ : zB 83 24 0 5 N27_ := zB.fr hsN27_ i17_ (by decide) (by decide)
                    rcases hp1_N27_ with ⟨ha141_0_hp1_N27_, ha141_1_hp1_N27_⟩ | ⟨ha141_0_hp1_N27_, ha141_1_hp1_N27_, ha141_2_hp1_N27_, ha141_3_hp1_N27_⟩
                    · skip
                      have hrt2_ : zbs b_ n_ (ze Mz 81 12).toNat (0, (ze Mz 81 4).toNat, zMvs Mz) = zMf := by first | with_reducible assumption | exact hrt_ | assumption | (obtain ⟨l_, hl1_, -⟩ := zMrI_e hmi_ (by omega); exact zbs_f hl0_ hl1_ (fun q_ => ha141_1_hp1_N27_ (by omega) q_.1))
                      show zW l m_M_moveLine (zn Mz + 0, zw Mz + 0) N27_ 144 [some (.ref 81), some (.int (Int32.ofInt (ze Mz 81 4))), some (.int (Int32.ofInt u9_)), some (.int (Int32.ofInt u10_)), none] [] _
                      refine zw_aload_n (pc := 144) (n := 0) (x := 81) rfl d_M_moveLine_144 ?_
                      refine zr_getI (hf_N27_.w hW) (pc := 145) f_M_172 rfl d_M_moveLine_145 ?_
                      refine zr_if_le (pc := 148) (tgt := 152) ⟨(ze_r N27_ 81 7).1, (ze_r N27_ 81 7).2⟩ (by decide) d_M_moveLine_148 (fun hc_148 => ?_) (fun hc_148 => ?_)
                      · skip
                        exfalso; (exact zo_61 ha141_0_hp1_N27_ hc_148)
                      · skip
                        exact zr_vret (pc := 151) rfl hf_N27_ ⟨hp0_N27_, (show 0 ≤ ze N27_ 81 13 by first | with_reducible assumption | (exact zo_1334 e13_N11_ e13_N27_ e13_N3_ p7_) | assumption), (show ze N27_ 81 13 ≤ 4 by first | with_reducible assumption | (exact zo_1335 e13_N11_ e13_N27_ e13_N3_ p8_) | assumption), c31_, c30_, (show ((1 ≤ ze N27_ 81 7 ∧ zbs b_ n_ (ze Mz 81 12).toNat (0, (ze Mz 81 4).toNat, zMvs Mz) = zMf) ∨ (ze N27_ 81 7 = 0 ∧ zbs b_ n_ (ze Mz 81 12).toNat (0, (ze Mz 81 4).toNat, zMvs Mz) = (0, (ze N27_ 81 4).toNat, zMvs N27_) ∧ zPm N27_ ∧ zFin N27_ ∧ ze Mz 81 4 < ze N27_ 81 4)) from Or.inl (⟨(show 1 ≤ ze N27_ 81 7 by first | with_reducible assumption | assumption | omega | exact hrt_ | exact hrt2_), (show zbs b_ n_ (ze Mz 81 12).toNat (0, (ze Mz 81 4).toNat, zMvs Mz) = zMf by first | with_reducible assumption | assumption | omega | exact hrt_ | exact hrt2_)⟩))⟩ d_M_moveLine_151
                    · skip
                      exfalso; (exact zo_281 ha141_1_hp1_N27_ hl33_0_i16_)
                  · skip
                    exact absurd hc_45 (by decide)
            · skip
              have hmi_ := hl33_2_i16_
              have hkp_ := hl33_3_i16_
              obtain ⟨lm_, -, -, -, hmt_, -⟩ := id hmi_
              have hme_ := hmt_.1
              refine zw_iload_n (pc := 33) (n := 3) (x := Int32.ofInt u10_) rfl (zdal_p dlC_M_moveLine_82 (i := 19) rfl) ?_
              refine zw_aload_n (pc := 34) (n := 0) (x := 81) rfl (zdal_p dlC_M_moveLine_82 (i := 20) rfl) ?_
              refine zr_getI0 hf_N11_ hW (pc := 35) (by decide) f_M_115 rfl (zdal_p dlC_M_moveLine_82 (i := 21) rfl) ?_
              refine zr_icmp_ge (pc := 38) (tgt := 138) ⟨hu10_a, hu10_b⟩ ⟨(ze_r Mz 81 12).1, (ze_r Mz 81 12).2⟩ (by decide) (zdal_p dlC_M_moveLine_82 (i := 22) rfl) (fun hc_38 => ?_) (fun hc_38 => ?_)
              · skip
                refine zw_aload_n (pc := 138) (n := 0) (x := 81) rfl d_M_moveLine_138 ?_
                refine zw_bipush (pc := 139) (v := Int32.ofInt 59) (by decide) d_M_moveLine_139 ?_
                refine zr_callV (hf_N11_.w hW) hf_N11_.x (pc := 141) [.int (Int32.ofInt 59)] [] l_M_355 (c_M_mustF l N11_ (hf_N11_.w hW) 59 (by decide) (by decide) b_ n_ c18_ i13_ (show 0 ≤ ze N11_ 81 7 by first | with_reducible assumption | (exact zo_718 hl33_0_i16_) | assumption)) rfl rfl rfl (by decide) (Nat.le_of_ble_eq_true rfl) d_M_moveLine_141 ?_
                rintro _ N32_ ⟨rfl, hsN32_, ⟨hp0_N32_, hp1_N32_⟩⟩
                have hf_N32_ : zFr [3, 4, 5, 6, 7, 8, 11, 13, 20] [83, 85, 86, 87, 88] Mz N32_ := hf_N11_.tr hsN32_ (by decide) (by decide)
                have r3_N32_ := ze_r N32_ 81 3
                have r4_N32_ := ze_r N32_ 81 4
                have r5_N32_ := ze_r N32_ 81 5
                have r6_N32_ := ze_r N32_ 81 6
                have r7_N32_ := ze_r N32_ 81 7
                have e12_N32_ : ze N32_ 81 12 = ze N11_ 81 12 := hsN32_.e (by decide)
                have e13_N32_ : ze N32_ 81 13 = ze N11_ 81 13 := hsN32_.e (by decide)
                have e20_N32_ : ze N32_ 81 20 = ze N11_ 81 20 := hsN32_.e (by decide)
                have c35_ : zB 85 144 0 5 N32_ := zB.fr hsN32_ c19_ (by decide) (by decide)
                have c36_ : zB 83 24 0 5 N32_ := zB.fr hsN32_ i17_ (by decide) (by decide)
                rcases hp1_N32_ with ⟨ha141_0_hp1_N32_, ha141_1_hp1_N32_⟩ | ⟨ha141_0_hp1_N32_, ha141_1_hp1_N32_, ha141_2_hp1_N32_, ha141_3_hp1_N32_⟩
                · skip
                  have hrt2_ : zbs b_ n_ (ze Mz 81 12).toNat (0, (ze Mz 81 4).toNat, zMvs Mz) = zMf := by first | with_reducible assumption | exact hrt_ | (obtain ⟨l_, hl1_, -⟩ := zMrI_e hmi_ (by (exact zo_1336 hc_38 i15_ p5_)); exact zbs_f hl0_ hl1_ (fun q_ => ha141_1_hp1_N32_ (by (exact hl33_0_i16_)) q_.1)) | assumption
                  show zW l m_M_moveLine (zn Mz + 0, zw Mz + 0) N32_ 144 [some (.ref 81), some (.int (Int32.ofInt (ze Mz 81 4))), some (.int (Int32.ofInt u9_)), some (.int (Int32.ofInt u10_)), none] [] _
                  refine zw_aload_n (pc := 144) (n := 0) (x := 81) rfl d_M_moveLine_144 ?_
                  refine zr_getI (hf_N32_.w hW) (pc := 145) f_M_172 rfl d_M_moveLine_145 ?_
                  refine zr_if_le (pc := 148) (tgt := 152) ⟨(ze_r N32_ 81 7).1, (ze_r N32_ 81 7).2⟩ (by decide) d_M_moveLine_148 (fun hc_148 => ?_) (fun hc_148 => ?_)
                  · skip
                    exfalso; (exact zo_61 ha141_0_hp1_N32_ hc_148)
                  · skip
                    exact zr_vret (pc := 151) rfl hf_N32_ ⟨hp0_N32_, (show 0 ≤ ze N32_ 81 13 by first | with_reducible assumption | (exact zo_1334 e13_N11_ e13_N32_ e13_N3_ p7_) | assumption), (show ze N32_ 81 13 ≤ 4 by first | with_reducible assumption | (exact zo_1335 e13_N11_ e13_N32_ e13_N3_ p8_) | assumption), c36_, c35_, (show ((1 ≤ ze N32_ 81 7 ∧ zbs b_ n_ (ze Mz 81 12).toNat (0, (ze Mz 81 4).toNat, zMvs Mz) = zMf) ∨ (ze N32_ 81 7 = 0 ∧ zbs b_ n_ (ze Mz 81 12).toNat (0, (ze Mz 81 4).toNat, zMvs Mz) = (0, (ze N32_ 81 4).toNat, zMvs N32_) ∧ zPm N32_ ∧ zFin N32_ ∧ ze Mz 81 4 < ze N32_ 81 4)) from Or.inl (⟨(show 1 ≤ ze N32_ 81 7 by first | with_reducible assumption | assumption | omega | exact hrt_ | exact hrt2_), (show zbs b_ n_ (ze Mz 81 12).toNat (0, (ze Mz 81 4).toNat, zMvs Mz) = zMf by first | with_reducible assumption | assumption | omega | exact hrt_ | exact hrt2_)⟩))⟩ d_M_moveLine_151
                · skip
                  have hsg_ := ha141_2_hp1_N32_
                  have hx4_ := ha141_3_hp1_N32_
                  obtain ⟨l_, hl1_, hl2_, hl3_, hl4_⟩ := zMrI_e hmi_ (by (exact zo_1336 hc_38 i15_ p5_))
                  have hg4_ := znx_ge (b := b_) (n := n_) (s := (ze N11_ 81 4).toNat)
                  have hkm_ := zKp.fr hsN32_ hkp_ (by decide)
                  have hl5_ : ∀ i : Nat, i < (ze Mz 81 12).toNat → ze N32_ 83 (6 * (ze Mz 81 13).toNat + i) = ((l_.getD i 0 : Nat) : Int) := fun i hi => (hsN32_.ie (by decide) (by decide) _).trans (hl4_ i hi)
                  show zW l m_M_moveLine (zn Mz + 0, zw Mz + 0) N32_ 144 [some (.ref 81), some (.int (Int32.ofInt (ze Mz 81 4))), some (.int (Int32.ofInt u9_)), some (.int (Int32.ofInt u10_)), none] [] _
                  refine zw_aload_n (pc := 144) (n := 0) (x := 81) rfl d_M_moveLine_144 ?_
                  refine zr_getI (hf_N32_.w hW) (pc := 145) f_M_172 rfl d_M_moveLine_145 ?_
                  refine zr_if_le (pc := 148) (tgt := 152) ⟨(ze_r N32_ 81 7).1, (ze_r N32_ 81 7).2⟩ (by decide) d_M_moveLine_148 (fun hc_148 => ?_) (fun hc_148 => ?_)
                  · skip
                    refine zw_aload_n (pc := 152) (n := 0) (x := 81) rfl (zdal_p dlC_M_moveLine_85 (i := 9) rfl) ?_
                    refine zw_dup (pc := 153) rfl (zdal_p dlC_M_moveLine_85 (i := 10) rfl) ?_
                    refine zr_getI (hf_N32_.w hW) (pc := 154) f_M_199 rfl (zdal_p dlC_M_moveLine_85 (i := 11) rfl) ?_
                    refine zw_iconst (pc := 157) (v := Int32.ofInt 1) (by decide) (zdal_p dlC_M_moveLine_85 (i := 12) rfl) ?_
                    refine zr_iadd (pc := 158) (zdal_p dlC_M_moveLine_85 (i := 13) rfl) ?_
                    refine zr_putI (hf_N32_.w hW) (pc := 159) f_M_199 rfl rfl ⟨by (exact zo_1337 e13_N11_ e13_N32_ e13_N3_ p7_), by (exact zo_1338 e13_N11_ e13_N32_ e13_N3_ p8_)⟩ rfl rfl (zdal_p dlC_M_moveLine_85 (i := 14) rfl) (fun N37_ hsN37_ hvN37_ => ?_)
                    have hf_N37_ : zFr [3, 4, 5, 6, 7, 8, 11, 13, 20] [83, 85, 86, 87, 88] Mz N37_ := hf_N32_.tr hsN37_ (by decide) (by decide)
                    have e3_N37_ : ze N37_ 81 3 = ze N32_ 81 3 := hsN37_.e (by decide)
                    have e4_N37_ : ze N37_ 81 4 = ze N32_ 81 4 := hsN37_.e (by decide)
                    have e5_N37_ : ze N37_ 81 5 = ze N32_ 81 5 := hsN37_.e (by decide)
                    have e6_N37_ : ze N37_ 81 6 = ze N32_ 81 6 := hsN37_.e (by decide)
                    have e7_N37_ : ze N37_ 81 7 = ze N32_ 81 7 := hsN37_.e (by decide)
                    have e12_N37_ : ze N37_ 81 12 = ze N32_ 81 12 := hsN37_.e (by decide)
                    have r13_N37_ := ze_r N37_ 81 13
                    have e20_N37_ : ze N37_ 81 20 = ze N32_ 81 20 := hsN37_.e (by decide)
                    have c39_ : zB 85 144 0 5 N37_ := zB.fr hsN37_ c35_ (by decide) (by decide)
                    have c40_ : zB 83 24 0 5 N37_ := zB.fr hsN37_ c36_ (by decide) (by decide)
                    have c41_ : zRt b_ n_ N37_ := zRt.fr hsN37_ hp0_N32_ (by decide) (by decide)
                    have hmv_ := zMvs_u (M := Mz) (N := N37_) (l := l_) (P := (ze Mz 81 12).toNat) (by (exact zo_1339 p5_)) (by (exact zo_1340 p5_ p6_)) (by (exact p7_)) (by (exact zo_230 e12_N32_ e12_N37_ zz12_N11_)) (by (exact zo_1341 e13_N11_ e13_N32_ e13_N3_ hl33_1_i16_ hvN37_ p7_ r13_N37_.1 r13_N37_.2)) (zKp.fr hsN37_ hkm_ (by decide)) (fun i hi => (hsN37_.ie (by decide) (by decide) _).trans (hl5_ i hi))
                    have hpl_ := zmc_p (P := (ze Mz 81 12).toNat) (l := l_) (by (exact zo_1340 p5_ p6_)) hl3_ hl2_
                    have hPm_ : zPm N37_ := fun g_ hg_ => by rw [hmv_] at hg_; exact (List.mem_append.mp hg_).elim (p9_ g_) (fun e_ => by rw [List.mem_singleton.mp e_]; exact hpl_.1)
                    refine zw_aload_n (pc := 162) (n := 0) (x := 81) rfl (zdal_p dlC_M_moveLine_85 (i := 15) rfl) ?_
                    refine zr_callV (hf_N37_.w hW) hf_N37_.x (pc := 163) [] [] l_M_226 (c_M_buildsMembers l N37_ (hf_N37_.w hW) (show 1 ≤ ze N37_ 81 12 by first | with_reducible assumption | (exact zo_1342 e12_N32_ e12_N37_ p5_ zz12_N11_) | assumption) (show ze N37_ 81 12 ≤ 6 by first | with_reducible assumption | (exact zo_1343 e12_N32_ e12_N37_ p6_ zz12_N11_) | assumption) (show 0 ≤ ze N37_ 81 13 by first | with_reducible assumption | (exact zo_1344 e13_N11_ e13_N32_ e13_N3_ hvN37_ p7_ r13_N37_.1) | assumption) (show ze N37_ 81 13 ≤ 4 by first | with_reducible assumption | (exact zo_1345 e13_N11_ e13_N32_ e13_N3_ hl33_1_i16_ hvN37_ r13_N37_.2) | assumption) hPm_ c40_ c39_) rfl rfl rfl (by decide) (Nat.le_of_ble_eq_true rfl) (zdal_p dlC_M_moveLine_85 (i := 16) rfl) ?_
                    rintro _ N42_ ⟨v43_, rfl, ⟨hv43_a, hv43_b⟩, hsN42_, ⟨hp0_N42_, hp1_N42_⟩⟩
                    have hf_N42_ : zFr [3, 4, 5, 6, 7, 8, 11, 13, 20] [83, 85, 86, 87, 88] Mz N42_ := hf_N37_.tr hsN42_ (by decide) (by decide)
                    have e3_N42_ : ze N42_ 81 3 = ze N37_ 81 3 := hsN42_.e (by decide)
                    have e4_N42_ : ze N42_ 81 4 = ze N37_ 81 4 := hsN42_.e (by decide)
                    have e5_N42_ : ze N42_ 81 5 = ze N37_ 81 5 := hsN42_.e (by decide)
                    have e6_N42_ : ze N42_ 81 6 = ze N37_ 81 6 := hsN42_.e (by decide)
                    have e7_N42_ : ze N42_ 81 7 = ze N37_ 81 7 := hsN42_.e (by decide)
                    have e12_N42_ : ze N42_ 81 12 = ze N37_ 81 12 := hsN42_.e (by decide)
                    have e13_N42_ : ze N42_ 81 13 = ze N37_ 81 13 := hsN42_.e (by decide)
                    have r20_N42_ := ze_r N42_ 81 20
                    have c45_ : zB 83 24 0 5 N42_ := zB.fr hsN42_ c40_ (by decide) (by decide)
                    have c46_ : zRt b_ n_ N42_ := zRt.fr hsN42_ c41_ (by decide) (by decide)
                    have c47_ : zPm N42_ := zPm.fr hsN42_ hPm_ (by decide) (by decide)
                    rcases hp1_N42_ with ⟨rfl, ha163_0_hp1_N42_, ha163_1_hp1_N42_, ha163_2_hp1_N42_, ha163_3_hp1_N42_⟩ | ⟨rfl, ha163_0_hp1_N42_⟩
                    · skip
                      have hPq_ : zPm N42_ := zPm.fr hsN42_ hPm_ (by decide) (by decide)
                      have hFq_ : zFin N42_ := zFin.fr hsN42_ ha163_0_hp1_N42_ (by decide) (by decide)
                      have hmq_ : zMvs N42_ = zMvs Mz ++ [zmc (ze Mz 81 12).toNat l_] := (zMvs_f hsN42_ (by decide) (by decide)).trans hmv_
                      have hgf_ : gFin (zMvs Mz ++ [zmc (ze Mz 81 12).toNat l_]) := by rw [← hmq_]; exact hFq_
                      have hfin_ : zbs b_ n_ (ze Mz 81 12).toNat (0, (ze Mz 81 4).toNat, zMvs Mz) = (0, (ze N42_ 81 4).toNat, zMvs N42_) := by rw [hmq_, zbs_t hl0_ (by (exact zo_1346 hl33_1_i16_ hml_ p7_ p8_)) hl1_ ⟨hsg_, hgf_⟩, ← hx4_, show ze N42_ 81 4 = ze N32_ 81 4 by omega]
                      show zW l m_M_moveLine (zn Mz + 0, zw Mz + 0) N42_ 166 [some (.ref 81), some (.int (Int32.ofInt (ze Mz 81 4))), some (.int (Int32.ofInt u9_)), some (.int (Int32.ofInt u10_)), none] [.int (Int32.ofInt 1)] _
                      refine zr_if_ne (pc := 166) (tgt := 175) ⟨(by decide), (by decide)⟩ (by decide) (zdal_p dlC_M_moveLine_85 (i := 17) rfl) (fun hc_166 => ?_) (fun hc_166 => ?_)
                      · skip
                        exact zr_vret (pc := 175) rfl hf_N42_ ⟨c46_, (show 0 ≤ ze N42_ 81 13 by first | with_reducible assumption | assumption | omega), (show ze N42_ 81 13 ≤ 4 by first | with_reducible assumption | assumption | omega), c45_, hp0_N42_, (show ((1 ≤ ze N42_ 81 7 ∧ zbs b_ n_ (ze Mz 81 12).toNat (0, (ze Mz 81 4).toNat, zMvs Mz) = zMf) ∨ (ze N42_ 81 7 = 0 ∧ zbs b_ n_ (ze Mz 81 12).toNat (0, (ze Mz 81 4).toNat, zMvs Mz) = (0, (ze N42_ 81 4).toNat, zMvs N42_) ∧ zPm N42_ ∧ zFin N42_ ∧ ze Mz 81 4 < ze N42_ 81 4)) from Or.inr (⟨(show ze N42_ 81 7 = 0 by first | omega | exact hfin_ | exact hPq_ | exact hFq_), (show zbs b_ n_ (ze Mz 81 12).toNat (0, (ze Mz 81 4).toNat, zMvs Mz) = (0, (ze N42_ 81 4).toNat, zMvs N42_) by first | omega | exact hfin_ | exact hPq_ | exact hFq_), (show zPm N42_ by first | omega | exact hfin_ | exact hPq_ | exact hFq_), (show zFin N42_ by first | omega | exact hfin_ | exact hPq_ | exact hFq_), (show ze Mz 81 4 < ze N42_ 81 4 by first | omega | exact hfin_ | exact hPq_ | exact hFq_)⟩))⟩ (zdal_p dlC_M_moveLine_85 (i := 22) rfl)
                      · skip
                        exact absurd hc_166 (by decide)
                    · skip
                      have hnf_ := ha163_0_hp1_N42_
                      have hrt_ : zbs b_ n_ (ze Mz 81 12).toNat (0, (ze Mz 81 4).toNat, zMvs Mz) = zMf := zbs_f hl0_ hl1_ (fun q_ => hnf_ (by have h_ := q_.2; rw [← hmv_] at h_; exact h_))
                      show zW l m_M_moveLine (zn Mz + 0, zw Mz + 0) N42_ 166 [some (.ref 81), some (.int (Int32.ofInt (ze Mz 81 4))), some (.int (Int32.ofInt u9_)), some (.int (Int32.ofInt u10_)), none] [.int (Int32.ofInt 0)] _
                      refine zr_if_ne (pc := 166) (tgt := 175) ⟨(by decide), (by decide)⟩ (by decide) (zdal_p dlC_M_moveLine_85 (i := 17) rfl) (fun hc_166 => ?_) (fun hc_166 => ?_)
                      · skip
                        exact absurd hc_166 (by decide)
                      · skip
                        refine zw_aload_n (pc := 169) (n := 0) (x := 81) rfl (zdal_p dlC_M_moveLine_85 (i := 18) rfl) ?_
                        refine zw_iconst (pc := 170) (v := Int32.ofInt 5) (by decide) (zdal_p dlC_M_moveLine_85 (i := 19) rfl) ?_
                        refine zw_iload_n (pc := 171) (n := 1) (x := Int32.ofInt (ze Mz 81 4)) rfl (zdal_p dlC_M_moveLine_85 (i := 20) rfl) ?_
                        refine zr_callV (hf_N42_.w hW) hf_N42_.x (pc := 172) [.int (Int32.ofInt 5), .int (Int32.ofInt (ze Mz 81 4))] [] l_M_168 (c_M_wrongAtF l N42_ (hf_N42_.w hW) 5 (by decide) (by decide) (ze Mz 81 4) (ze_r Mz 81 4).1 (ze_r Mz 81 4).2 (show 1 ≤ 5 by first | with_reducible assumption | assumption | omega)) rfl rfl rfl (by decide) (Nat.le_of_ble_eq_true rfl) (zdal_p dlC_M_moveLine_85 (i := 21) rfl) ?_
                        rintro _ N48_ ⟨rfl, hsN48_, hp0_N48_⟩
                        replace hp0_N48_ : 1 ≤ ze N48_ 81 7 := hp0_N48_
                        have hf_N48_ : zFr [3, 4, 5, 6, 7, 8, 11, 13, 20] [83, 85, 86, 87, 88] Mz N48_ := hf_N42_.tr hsN48_ (by decide) (by decide)
                        have e3_N48_ : ze N48_ 81 3 = ze N42_ 81 3 := hsN48_.e (by decide)
                        have e4_N48_ : ze N48_ 81 4 = ze N42_ 81 4 := hsN48_.e (by decide)
                        have e5_N48_ : ze N48_ 81 5 = ze N42_ 81 5 := hsN48_.e (by decide)
                        have e6_N48_ : ze N48_ 81 6 = ze N42_ 81 6 := hsN48_.e (by decide)
                        have r7_N48_ := ze_r N48_ 81 7
                        have e12_N48_ : ze N48_ 81 12 = ze N42_ 81 12 := hsN48_.e (by decide)
                        have e13_N48_ : ze N48_ 81 13 = ze N42_ 81 13 := hsN48_.e (by decide)
                        have e20_N48_ : ze N48_ 81 20 = ze N42_ 81 20 := hsN48_.e (by decide)
                        have c51_ : zB 83 24 0 5 N48_ := zB.fr hsN48_ c45_ (by decide) (by decide)
                        have c52_ : zRt b_ n_ N48_ := zRt.fr hsN48_ c46_ (by decide) (by decide)
                        have c53_ : zPm N48_ := zPm.fr hsN48_ c47_ (by decide) (by decide)
                        have c54_ : zB 85 144 0 5 N48_ := zB.fr hsN48_ hp0_N42_ (by decide) (by decide)
                        show zW l m_M_moveLine (zn Mz + 0, zw Mz + 0) N48_ 175 [some (.ref 81), some (.int (Int32.ofInt (ze Mz 81 4))), some (.int (Int32.ofInt u9_)), some (.int (Int32.ofInt u10_)), none] [] _
                        exact zr_vret (pc := 175) rfl hf_N48_ ⟨c52_, (show 0 ≤ ze N48_ 81 13 by first | with_reducible assumption | assumption | omega), (show ze N48_ 81 13 ≤ 4 by first | with_reducible assumption | assumption | omega), c51_, c54_, (show ((1 ≤ ze N48_ 81 7 ∧ zbs b_ n_ (ze Mz 81 12).toNat (0, (ze Mz 81 4).toNat, zMvs Mz) = zMf) ∨ (ze N48_ 81 7 = 0 ∧ zbs b_ n_ (ze Mz 81 12).toNat (0, (ze Mz 81 4).toNat, zMvs Mz) = (0, (ze N48_ 81 4).toNat, zMvs N48_) ∧ zPm N48_ ∧ zFin N48_ ∧ ze Mz 81 4 < ze N48_ 81 4)) from Or.inl (⟨(show 1 ≤ ze N48_ 81 7 by first | with_reducible assumption | assumption | omega | exact hrt_ | exact hrt2_), (show zbs b_ n_ (ze Mz 81 12).toNat (0, (ze Mz 81 4).toNat, zMvs Mz) = zMf by first | with_reducible assumption | assumption | omega | exact hrt_ | exact hrt2_)⟩))⟩ (zdal_p dlC_M_moveLine_85 (i := 22) rfl)
                  · skip
                    exfalso; (exact zo_1328 ha141_0_hp1_N32_ hc_148)
              · skip
                refine zw_aload_n (pc := 41) (n := 0) (x := 81) rfl (zdal_p dlC_M_moveLine_82 (i := 23) rfl) ?_
                refine zr_callV (hf_N11_.w hW) hf_N11_.x (pc := 42) [] [] l_M_183 (c_M_isGood l N11_ (hf_N11_.w hW) ) rfl rfl rfl (by decide) (Nat.le_of_ble_eq_true rfl) (zdal_p dlC_M_moveLine_83 (i := 0) rfl) ?_
                rintro _ N55_ ⟨v56_, rfl, ⟨hv56_a, hv56_b⟩, hsN55_, hp0_N55_⟩
                obtain rfl := hsN55_.eq.symm
                replace hp0_N55_ : ((v56_ = 1 ∧ ze N11_ 81 7 = 0) ∨ (v56_ = 0 ∧ ze N11_ 81 7 ≠ 0)) := hp0_N55_
                rcases hp0_N55_ with ⟨rfl, ha42_0_hp0_N55_⟩ | ⟨rfl, ha42_0_hp0_N55_⟩
                · skip
                  show zW l m_M_moveLine (zn Mz + 0, zw Mz + 0) N11_ 45 [some (.ref 81), some (.int (Int32.ofInt (ze Mz 81 4))), some (.int (Int32.ofInt u9_)), some (.int (Int32.ofInt u10_)), none] [.int (Int32.ofInt 1)] _
                  refine zr_if_eq (pc := 45) (tgt := 138) ⟨(by decide), (by decide)⟩ (by decide) (zdal_p dlC_M_moveLine_83 (i := 1) rfl) (fun hc_45 => ?_) (fun hc_45 => ?_)
                  · skip
                    exact absurd hc_45 (by decide)
                  · skip
                    have hyt_ := i13_
                    have hyx_ := hyt_.x
                    have h5_ := hyt_.2.2.1
                    refine zw_aload_n (pc := 48) (n := 0) (x := 81) rfl (zdal_p dlC_M_moveLine_83 (i := 2) rfl) ?_
                    refine zr_getI (hf_N11_.w hW) (pc := 49) f_M_155 rfl (zdal_p dlC_M_moveLine_83 (i := 3) rfl) ?_
                    refine zw_iconst (pc := 52) (v := Int32.ofInt 2) (by decide) (zdal_p dlC_M_moveLine_83 (i := 4) rfl) ?_
                    refine zr_icmp_eq (pc := 53) (tgt := 61) ⟨(ze_r N11_ 81 5).1, (ze_r N11_ 81 5).2⟩ ⟨(by decide), (by decide)⟩ (by decide) (zdal_p dlC_M_moveLine_83 (i := 5) rfl) (fun hc_53 => ?_) (fun hc_53 => ?_)
                    · skip
                      have hv2_ : ze N11_ 81 7 = 0 → ze N11_ 81 6 = znu b_ n_ (ze N11_ 81 4).toNat ∧ 0 ≤ ze N11_ 81 6 ∧ ze N11_ 81 6 ≤ 999 := fun q_ => i13_.v2 (by (exact zo_759 h5_ hc_53))
                      refine zw_aload_n (pc := 61) (n := 0) (x := 81) rfl (zdal_p dlC_M_moveLine_83 (i := 9) rfl) ?_
                      refine zr_getI (hf_N11_.w hW) (pc := 62) f_M_152 rfl (zdal_p dlC_M_moveLine_83 (i := 10) rfl) ?_
                      refine zw_istore (pc := 65) (i := 4) (L2 := [some (.ref 81), some (.int (Int32.ofInt (ze Mz 81 4))), some (.int (Int32.ofInt u9_)), some (.int (Int32.ofInt u10_)), some (.int (Int32.ofInt (ze N11_ 81 6)))]) (by decide) rfl (zdal_p dlC_M_moveLine_83 (i := 11) rfl) ?_
                      refine zw_aload_n (pc := 67) (n := 0) (x := 81) rfl (zdal_p dlC_M_moveLine_83 (i := 12) rfl) ?_
                      refine zr_callV (hf_N11_.w hW) hf_N11_.x (pc := 68) [] [] l_M_183 (c_M_isGood l N11_ (hf_N11_.w hW) ) rfl rfl rfl (by decide) (Nat.le_of_ble_eq_true rfl) (zdal_p dlC_M_moveLine_83 (i := 13) rfl) ?_
                      rintro _ N57_ ⟨v58_, rfl, ⟨hv58_a, hv58_b⟩, hsN57_, hp0_N57_⟩
                      obtain rfl := hsN57_.eq.symm
                      replace hp0_N57_ : ((v58_ = 1 ∧ ze N11_ 81 7 = 0) ∨ (v58_ = 0 ∧ ze N11_ 81 7 ≠ 0)) := hp0_N57_
                      rcases hp0_N57_ with ⟨rfl, ha68_0_hp0_N57_⟩ | ⟨rfl, ha68_0_hp0_N57_⟩
                      · skip
                        show zW l m_M_moveLine (zn Mz + 0, zw Mz + 0) N11_ 71 [some (.ref 81), some (.int (Int32.ofInt (ze Mz 81 4))), some (.int (Int32.ofInt u9_)), some (.int (Int32.ofInt u10_)), some (.int (Int32.ofInt (ze N11_ 81 6)))] [.int (Int32.ofInt 1)] _
                        refine zr_if_eq (pc := 71) (tgt := 97) ⟨(by decide), (by decide)⟩ (by decide) (zdal_p dlC_M_moveLine_83 (i := 14) rfl) (fun hc_71 => ?_) (fun hc_71 => ?_)
                        · skip
                          exact absurd hc_71 (by decide)
                        · skip
                          refine zw_iload (pc := 74) (i := 4) (x := Int32.ofInt (ze N11_ 81 6)) rfl (zdal_p dlC_M_moveLine_83 (i := 15) rfl) ?_
                          refine zw_aload_n (pc := 76) (n := 0) (x := 81) rfl (zdal_p dlC_M_moveLine_83 (i := 16) rfl) ?_
                          refine zr_getI0 hf_N11_ hW (pc := 77) (by decide) f_M_115 rfl (zdal_p dlC_M_moveLine_83 (i := 17) rfl) ?_
                          refine zr_icmp_ge (pc := 80) (tgt := 92) ⟨(ze_r N11_ 81 6).1, (ze_r N11_ 81 6).2⟩ ⟨(ze_r Mz 81 12).1, (ze_r Mz 81 12).2⟩ (by decide) (zdal_p dlC_M_moveLine_83 (i := 18) rfl) (fun hc_80 => ?_) (fun hc_80 => ?_)
                          · skip
                            have hno_ : zrm b_ n_ (ze Mz 81 12).toNat (ze Mz 81 12).toNat (znx b_ n_ (ze Mz 81 4).toNat) [] = none := zMrI_f hmi_ (by (exact i14_)) (by (exact zo_1347 hc_38)) (fun q_ => by have h1_ := q_.2.1; have h2_ := hv2_ (by (exact hl33_0_i16_)); first | (exact zo_1348 h2_.1 hc_80 p5_ q_.2.1) | (have h3_ := q_.2.2; rw [← h2_.1] at h3_; exact h3_ hbt_)) (by (exact zo_1340 p5_ p6_))
                            have hrt_ : zbs b_ n_ (ze Mz 81 12).toNat (0, (ze Mz 81 4).toNat, zMvs Mz) = zMf := zbs_n hl0_ hno_
                            refine zw_aload_n (pc := 92) (n := 0) (x := 81) rfl (zdal_p dlC_M_moveLine_83 (i := 23) rfl) ?_
                            refine zw_iconst (pc := 93) (v := Int32.ofInt 4) (by decide) (zdal_p dlC_M_moveLine_84 (i := 0) rfl) ?_
                            refine zr_callV (hf_N11_.w hW) hf_N11_.x (pc := 94) [.int (Int32.ofInt 4)] [] l_M_190 (c_M_wrongF l N11_ (hf_N11_.w hW) 4 (by decide) (by decide) (show 1 ≤ 4 by first | with_reducible assumption | (decide) | assumption)) rfl rfl rfl (by decide) (Nat.le_of_ble_eq_true rfl) (zdal_p dlC_M_moveLine_84 (i := 1) rfl) ?_
                            rintro _ N59_ ⟨rfl, hsN59_, hp0_N59_⟩
                            replace hp0_N59_ : 1 ≤ ze N59_ 81 7 := hp0_N59_
                            have hf_N59_ : zFr [3, 4, 5, 6, 7, 8, 11, 13, 20] [83, 85, 86, 87, 88] Mz N59_ := hf_N11_.tr hsN59_ (by decide) (by decide)
                            have hb0_N59_ : zFr [3, 4, 5, 6, 7, 8, 11] [83] N3_ N59_ := hs12_.tr hsN59_ (by decide) (by decide)
                            have e3_N59_ : ze N59_ 81 3 = ze N11_ 81 3 := hsN59_.e (by decide)
                            have e4_N59_ : ze N59_ 81 4 = ze N11_ 81 4 := hsN59_.e (by decide)
                            have e5_N59_ : ze N59_ 81 5 = ze N11_ 81 5 := hsN59_.e (by decide)
                            have e6_N59_ : ze N59_ 81 6 = ze N11_ 81 6 := hsN59_.e (by decide)
                            have r7_N59_ := ze_r N59_ 81 7
                            have e12_N59_ : ze N59_ 81 12 = ze N11_ 81 12 := hsN59_.e (by decide)
                            have e13_N59_ : ze N59_ 81 13 = ze N11_ 81 13 := hsN59_.e (by decide)
                            have e20_N59_ : ze N59_ 81 20 = ze N11_ 81 20 := hsN59_.e (by decide)
                            have c62_ : zB 85 144 0 5 N59_ := zB.fr hsN59_ c19_ (by decide) (by decide)
                            have c63_ : zRt b_ n_ N59_ := zRt.fr hsN59_ i13_ (by decide) (by decide)
                            have c64_ : zB 83 24 0 5 N59_ := zB.fr hsN59_ i17_ (by decide) (by decide)
                            show zW l m_M_moveLine (zn Mz + 0, zw Mz + 0) N59_ 97 [some (.ref 81), some (.int (Int32.ofInt (ze Mz 81 4))), some (.int (Int32.ofInt u9_)), some (.int (Int32.ofInt u10_)), some (.int (Int32.ofInt (ze N11_ 81 6)))] [] _
                            refine zw_aload_n (pc := 97) (n := 0) (x := 81) rfl d_M_moveLine_97 ?_
                            refine zr_getI (hf_N59_.w hW) (pc := 98) f_M_172 rfl d_M_moveLine_98 ?_
                            refine zr_if_le (pc := 101) (tgt := 105) ⟨(ze_r N59_ 81 7).1, (ze_r N59_ 81 7).2⟩ (by decide) d_M_moveLine_101 (fun hc_101 => ?_) (fun hc_101 => ?_)
                            · skip
                              exfalso; (exact zo_1329 hc_101 hp0_N59_)
                            · skip
                              exact zr_vret (pc := 104) rfl hf_N59_ ⟨c63_, (show 0 ≤ ze N59_ 81 13 by first | with_reducible assumption | (exact zo_1349 e13_N11_ e13_N3_ e13_N59_ p7_) | assumption), (show ze N59_ 81 13 ≤ 4 by first | with_reducible assumption | (exact zo_1350 e13_N11_ e13_N3_ e13_N59_ p8_) | assumption), c64_, c62_, (show ((1 ≤ ze N59_ 81 7 ∧ zbs b_ n_ (ze Mz 81 12).toNat (0, (ze Mz 81 4).toNat, zMvs Mz) = zMf) ∨ (ze N59_ 81 7 = 0 ∧ zbs b_ n_ (ze Mz 81 12).toNat (0, (ze Mz 81 4).toNat, zMvs Mz) = (0, (ze N59_ 81 4).toNat, zMvs N59_) ∧ zPm N59_ ∧ zFin N59_ ∧ ze Mz 81 4 < ze N59_ 81 4)) from Or.inl (⟨(show 1 ≤ ze N59_ 81 7 by first | with_reducible assumption | assumption | omega | exact hrt_ | exact hrt2_), (show zbs b_ n_ (ze Mz 81 12).toNat (0, (ze Mz 81 4).toNat, zMvs Mz) = zMf by first | with_reducible assumption | assumption | omega | exact hrt_ | exact hrt2_)⟩))⟩ d_M_moveLine_104
                          · skip
                            refine zw_iload_n (pc := 83) (n := 2) (x := Int32.ofInt u9_) rfl (zdal_p dlC_M_moveLine_83 (i := 19) rfl) ?_
                            refine zw_iload (pc := 84) (i := 4) (x := Int32.ofInt (ze N11_ 81 6)) rfl (zdal_p dlC_M_moveLine_83 (i := 20) rfl) ?_
                            refine zr_callS hf_N11_.x (pc := 86) [.int (Int32.ofInt u9_), .int (Int32.ofInt (ze N11_ 81 6))] [] l_M_213 (c_M_holds l N11_ (hf_N11_.w hW) u9_ hu9_a hu9_b (ze N11_ 81 6) (ze_r N11_ 81 6).1 (ze_r N11_ 81 6).2 (show 0 ≤ u9_ by first | with_reducible assumption | (exact zo_57 hme_.1) | assumption) (show 0 ≤ (ze N11_ 81 6) by first | with_reducible assumption | assumption | omega) (show (ze N11_ 81 6) < 32 by first | with_reducible assumption | (exact zo_1351 hc_80 p6_ r6_N11_.2) | assumption)) rfl rfl (by decide) (Nat.le_of_ble_eq_true rfl) (zdal_p dlC_M_moveLine_83 (i := 21) rfl) ?_
                            rintro _ N65_ ⟨v66_, rfl, ⟨hv66_a, hv66_b⟩, hsN65_, hp0_N65_⟩
                            obtain rfl := hsN65_.eq.symm
                            replace hp0_N65_ : ((v66_ = 1 ∧ zbt u9_ (ze N11_ 81 6)) ∨ (v66_ = 0 ∧ ¬ zbt u9_ (ze N11_ 81 6))) := hp0_N65_
                            rcases hp0_N65_ with ⟨rfl, ha86_0_hp0_N65_⟩ | ⟨rfl, ha86_0_hp0_N65_⟩
                            · skip
                              have hbt_ := ha86_0_hp0_N65_
                              show zW l m_M_moveLine (zn Mz + 0, zw Mz + 0) N11_ 89 [some (.ref 81), some (.int (Int32.ofInt (ze Mz 81 4))), some (.int (Int32.ofInt u9_)), some (.int (Int32.ofInt u10_)), some (.int (Int32.ofInt (ze N11_ 81 6)))] [.int (Int32.ofInt 1)] _
                              refine zr_if_eq (pc := 89) (tgt := 97) ⟨(by decide), (by decide)⟩ (by decide) (zdal_p dlC_M_moveLine_83 (i := 22) rfl) (fun hc_89 => ?_) (fun hc_89 => ?_)
                              · skip
                                exact absurd hc_89 (by decide)
                              · skip
                                have hno_ : zrm b_ n_ (ze Mz 81 12).toNat (ze Mz 81 12).toNat (znx b_ n_ (ze Mz 81 4).toNat) [] = none := zMrI_f hmi_ (by (exact i14_)) (by (exact zo_1347 hc_38)) (fun q_ => by have h1_ := q_.2.1; have h2_ := hv2_ (by (exact hl33_0_i16_)); first | omega | (have h3_ := q_.2.2; rw [← h2_.1] at h3_; exact h3_ hbt_)) (by (exact zo_1340 p5_ p6_))
                                have hrt_ : zbs b_ n_ (ze Mz 81 12).toNat (0, (ze Mz 81 4).toNat, zMvs Mz) = zMf := zbs_n hl0_ hno_
                                refine zw_aload_n (pc := 92) (n := 0) (x := 81) rfl (zdal_p dlC_M_moveLine_83 (i := 23) rfl) ?_
                                refine zw_iconst (pc := 93) (v := Int32.ofInt 4) (by decide) (zdal_p dlC_M_moveLine_84 (i := 0) rfl) ?_
                                refine zr_callV (hf_N11_.w hW) hf_N11_.x (pc := 94) [.int (Int32.ofInt 4)] [] l_M_190 (c_M_wrongF l N11_ (hf_N11_.w hW) 4 (by decide) (by decide) (show 1 ≤ 4 by first | with_reducible assumption | (decide) | assumption)) rfl rfl rfl (by decide) (Nat.le_of_ble_eq_true rfl) (zdal_p dlC_M_moveLine_84 (i := 1) rfl) ?_
                                rintro _ N67_ ⟨rfl, hsN67_, hp0_N67_⟩
                                replace hp0_N67_ : 1 ≤ ze N67_ 81 7 := hp0_N67_
                                have hf_N67_ : zFr [3, 4, 5, 6, 7, 8, 11, 13, 20] [83, 85, 86, 87, 88] Mz N67_ := hf_N11_.tr hsN67_ (by decide) (by decide)
                                have hb0_N67_ : zFr [3, 4, 5, 6, 7, 8, 11] [83] N3_ N67_ := hs12_.tr hsN67_ (by decide) (by decide)
                                have e3_N67_ : ze N67_ 81 3 = ze N11_ 81 3 := hsN67_.e (by decide)
                                have e4_N67_ : ze N67_ 81 4 = ze N11_ 81 4 := hsN67_.e (by decide)
                                have e5_N67_ : ze N67_ 81 5 = ze N11_ 81 5 := hsN67_.e (by decide)
                                have e6_N67_ : ze N67_ 81 6 = ze N11_ 81 6 := hsN67_.e (by decide)
                                have r7_N67_ := ze_r N67_ 81 7
                                have e12_N67_ : ze N67_ 81 12 = ze N11_ 81 12 := hsN67_.e (by decide)
                                have e13_N67_ : ze N67_ 81 13 = ze N11_ 81 13 := hsN67_.e (by decide)
                                have e20_N67_ : ze N67_ 81 20 = ze N11_ 81 20 := hsN67_.e (by decide)
                                have c70_ : zB 85 144 0 5 N67_ := zB.fr hsN67_ c19_ (by decide) (by decide)
                                have c71_ : zRt b_ n_ N67_ := zRt.fr hsN67_ i13_ (by decide) (by decide)
                                have c72_ : zB 83 24 0 5 N67_ := zB.fr hsN67_ i17_ (by decide) (by decide)
                                show zW l m_M_moveLine (zn Mz + 0, zw Mz + 0) N67_ 97 [some (.ref 81), some (.int (Int32.ofInt (ze Mz 81 4))), some (.int (Int32.ofInt u9_)), some (.int (Int32.ofInt u10_)), some (.int (Int32.ofInt (ze N11_ 81 6)))] [] _
                                refine zw_aload_n (pc := 97) (n := 0) (x := 81) rfl d_M_moveLine_97 ?_
                                refine zr_getI (hf_N67_.w hW) (pc := 98) f_M_172 rfl d_M_moveLine_98 ?_
                                refine zr_if_le (pc := 101) (tgt := 105) ⟨(ze_r N67_ 81 7).1, (ze_r N67_ 81 7).2⟩ (by decide) d_M_moveLine_101 (fun hc_101 => ?_) (fun hc_101 => ?_)
                                · skip
                                  exfalso; (exact zo_1329 hc_101 hp0_N67_)
                                · skip
                                  exact zr_vret (pc := 104) rfl hf_N67_ ⟨c71_, (show 0 ≤ ze N67_ 81 13 by first | with_reducible assumption | (exact zo_1349 e13_N11_ e13_N3_ e13_N67_ p7_) | assumption), (show ze N67_ 81 13 ≤ 4 by first | with_reducible assumption | (exact zo_1350 e13_N11_ e13_N3_ e13_N67_ p8_) | assumption), c72_, c70_, (show ((1 ≤ ze N67_ 81 7 ∧ zbs b_ n_ (ze Mz 81 12).toNat (0, (ze Mz 81 4).toNat, zMvs Mz) = zMf) ∨ (ze N67_ 81 7 = 0 ∧ zbs b_ n_ (ze Mz 81 12).toNat (0, (ze Mz 81 4).toNat, zMvs Mz) = (0, (ze N67_ 81 4).toNat, zMvs N67_) ∧ zPm N67_ ∧ zFin N67_ ∧ ze Mz 81 4 < ze N67_ 81 4)) from Or.inl (⟨(show 1 ≤ ze N67_ 81 7 by first | with_reducible assumption | assumption | omega | exact hrt_ | exact hrt2_), (show zbs b_ n_ (ze Mz 81 12).toNat (0, (ze Mz 81 4).toNat, zMvs Mz) = zMf by first | with_reducible assumption | assumption | omega | exact hrt_ | exact hrt2_)⟩))⟩ d_M_moveLine_104
                            · skip
                              have hnb_ := ha86_0_hp0_N65_
                              show zW l m_M_moveLine (zn Mz + 0, zw Mz + 0) N11_ 89 [some (.ref 81), some (.int (Int32.ofInt (ze Mz 81 4))), some (.int (Int32.ofInt u9_)), some (.int (Int32.ofInt u10_)), some (.int (Int32.ofInt (ze N11_ 81 6)))] [.int (Int32.ofInt 0)] _
                              refine zr_if_eq (pc := 89) (tgt := 97) ⟨(by decide), (by decide)⟩ (by decide) (zdal_p dlC_M_moveLine_83 (i := 22) rfl) (fun hc_89 => ?_) (fun hc_89 => ?_)
                              · skip
                                refine zw_aload_n (pc := 97) (n := 0) (x := 81) rfl d_M_moveLine_97 ?_
                                refine zr_getI (hf_N11_.w hW) (pc := 98) f_M_172 rfl d_M_moveLine_98 ?_
                                refine zr_if_le (pc := 101) (tgt := 105) ⟨(ze_r N11_ 81 7).1, (ze_r N11_ 81 7).2⟩ (by decide) d_M_moveLine_101 (fun hc_101 => ?_) (fun hc_101 => ?_)
                                · skip
                                  have hv3_ := hv2_ (by (exact hl33_0_i16_))
                                  refine zw_iload_n (pc := 105) (n := 2) (x := Int32.ofInt u9_) rfl (zdal_p dlC_M_moveLine_84 (i := 6) rfl) ?_
                                  refine zw_iconst (pc := 106) (v := Int32.ofInt 1) (by decide) (zdal_p dlC_M_moveLine_84 (i := 7) rfl) ?_
                                  refine zw_iload (pc := 107) (i := 4) (x := Int32.ofInt (ze N11_ 81 6)) rfl (zdal_p dlC_M_moveLine_84 (i := 8) rfl) ?_
                                  refine zr_ishl (pc := 109) (zdal_p dlC_M_moveLine_84 (i := 9) rfl) ?_
                                  have hr73_ := zshl_r 1 (ze N11_ 81 6)
                                  refine zr_ior (pc := 110) (zdal_p dlC_M_moveLine_84 (i := 10) rfl) ?_
                                  have hr74_ := zor_r u9_ (zshl 1 (ze N11_ 81 6))
                                  refine zw_istore_n (pc := 111) (i := 2) (L2 := [some (.ref 81), some (.int (Int32.ofInt (ze Mz 81 4))), some (.int (Int32.ofInt (zor u9_ (zshl 1 (ze N11_ 81 6))))), some (.int (Int32.ofInt u10_)), some (.int (Int32.ofInt (ze N11_ 81 6)))]) rfl (by decide) rfl (zdal_p dlC_M_moveLine_84 (i := 11) rfl) ?_
                                  refine zw_aload_n (pc := 112) (n := 0) (x := 81) rfl (zdal_p dlC_M_moveLine_84 (i := 12) rfl) ?_
                                  refine zr_getF (r := 83) (hf_N11_.w hW) (pc := 113) f_M_20 rfl (zh_83 (hf_N11_.w hW)).1 (zdal_p dlC_M_moveLine_84 (i := 13) rfl) ?_
                                  refine zw_bipush (pc := 116) (v := Int32.ofInt 6) (by decide) (zdal_p dlC_M_moveLine_84 (i := 14) rfl) ?_
                                  refine zw_aload_n (pc := 118) (n := 0) (x := 81) rfl (zdal_p dlC_M_moveLine_84 (i := 15) rfl) ?_
                                  refine zr_getI (hf_N11_.w hW) (pc := 119) f_M_199 rfl (zdal_p dlC_M_moveLine_84 (i := 16) rfl) ?_
                                  refine zr_imul (pc := 122) (zdal_p dlC_M_moveLine_84 (i := 17) rfl) ?_
                                  refine zw_iload_n (pc := 123) (n := 3) (x := Int32.ofInt u10_) rfl (zdal_p dlC_M_moveLine_84 (i := 18) rfl) ?_
                                  refine zr_iadd (pc := 124) (zdal_p dlC_M_moveLine_84 (i := 19) rfl) ?_
                                  refine zr_toI (show ((6 * (ze N11_ 81 13)) + u10_) = 6 * ze Mz 81 13 + u10_ by (exact zo_1352 e13_N11_ e13_N3_)) ?_
                                  refine zw_iload (pc := 125) (i := 4) (x := Int32.ofInt (ze N11_ 81 6)) rfl (zdal_p dlC_M_moveLine_84 (i := 20) rfl) ?_
                                  refine zr_iast (pc := 127) (zh_83 (hf_N11_.w hW)).2 (by decide) (by decide) (by (exact zo_709 i14_ p7_)) (by (exact zo_1353 hc_38 hl33_1_i16_ p6_)) (zdal_p dlC_M_moveLine_84 (i := 21) rfl) (fun N75_ hN75_ hsN75_ => ?_)
                                  have hf_N75_ : zFr [3, 4, 5, 6, 7, 8, 11, 13, 20] [83, 85, 86, 87, 88] Mz N75_ := hf_N11_.tr hsN75_ (by decide) (by decide)
                                  have hb0_N75_ : zFr [3, 4, 5, 6, 7, 8, 11] [83] N3_ N75_ := hs12_.tr hsN75_ (by decide) (by decide)
                                  have e3_N75_ : ze N75_ 81 3 = ze N11_ 81 3 := hsN75_.e (by decide)
                                  have e4_N75_ : ze N75_ 81 4 = ze N11_ 81 4 := hsN75_.e (by decide)
                                  have e5_N75_ : ze N75_ 81 5 = ze N11_ 81 5 := hsN75_.e (by decide)
                                  have e6_N75_ : ze N75_ 81 6 = ze N11_ 81 6 := hsN75_.e (by decide)
                                  have e7_N75_ : ze N75_ 81 7 = ze N11_ 81 7 := hsN75_.e (by decide)
                                  have e12_N75_ : ze N75_ 81 12 = ze N11_ 81 12 := hsN75_.e (by decide)
                                  have e13_N75_ : ze N75_ 81 13 = ze N11_ 81 13 := hsN75_.e (by decide)
                                  have e20_N75_ : ze N75_ 81 20 = ze N11_ 81 20 := hsN75_.e (by decide)
                                  have c76_ : zRb b_ n_ N75_ := zRb.fr hsN75_ c18_ (by decide) (by decide)
                                  have c78_ : zRt b_ n_ N75_ := zRt.fr hsN75_ i13_ (by decide) (by decide)
                                  have c79_ : zB 83 24 0 5 N75_ := zB.s i17_ hN75_ (by (exact zo_57 hv3_.2.1)) (by (exact zo_1354 hc_80 hv3_.2.2 p6_)) (by decide) (by decide)
                                  have hK1_ := zKp_s hkp_ (by (exact zo_1355 i14_)) (by (exact zo_709 i14_ p7_)) hN75_
                                  have hyt_ := c78_
                                  have hyx_ := hyt_.x
                                  refine zw_aload_n (pc := 128) (n := 0) (x := 81) rfl (zdal_p dlC_M_moveLine_84 (i := 22) rfl) ?_
                                  refine zr_callV (hf_N75_.w hW) hf_N75_.x (pc := 129) [] [] l_M_193 (c_M_goOnF l N75_ (hf_N75_.w hW) b_ n_ c76_ (show 0 ≤ ze N75_ 81 3 by first | with_reducible assumption | (exact zo_57 hyx_.2.1) | assumption) (show ze N75_ 81 3 ≤ n_ by first | with_reducible assumption | (exact zo_605 hyx_.2.2) | assumption)) rfl rfl rfl (by decide) (Nat.le_of_ble_eq_true rfl) (zdal_p dlC_M_moveLine_84 (i := 23) rfl) ?_
                                  rintro _ N80_ ⟨rfl, hsN80_, ⟨hp0_N80_, hp1_N80_⟩⟩
                                  have hf_N80_ : zFr [3, 4, 5, 6, 7, 8, 11, 13, 20] [83, 85, 86, 87, 88] Mz N80_ := hf_N75_.tr hsN80_ (by decide) (by decide)
                                  have hb0_N80_ : zFr [3, 4, 5, 6, 7, 8, 11] [83] N3_ N80_ := hb0_N75_.tr hsN80_ (by decide) (by decide)
                                  have r3_N80_ := ze_r N80_ 81 3
                                  have r4_N80_ := ze_r N80_ 81 4
                                  have r5_N80_ := ze_r N80_ 81 5
                                  have r6_N80_ := ze_r N80_ 81 6
                                  have e7_N80_ : ze N80_ 81 7 = ze N75_ 81 7 := hsN80_.e (by decide)
                                  have e12_N80_ : ze N80_ 81 12 = ze N75_ 81 12 := hsN80_.e (by decide)
                                  have e13_N80_ : ze N80_ 81 13 = ze N75_ 81 13 := hsN80_.e (by decide)
                                  have e20_N80_ : ze N80_ 81 20 = ze N75_ 81 20 := hsN80_.e (by decide)
                                  have c84_ : zB 83 24 0 5 N80_ := zB.fr hsN80_ c79_ (by decide) (by decide)
                                  show zW l m_M_moveLine (zn Mz + 0, zw Mz + 0) N80_ 132 [some (.ref 81), some (.int (Int32.ofInt (ze Mz 81 4))), some (.int (Int32.ofInt (zor u9_ (zshl 1 (ze N11_ 81 6))))), some (.int (Int32.ofInt u10_)), some (.int (Int32.ofInt (ze N11_ 81 6)))] [] _
                                  have hnn_ := hyt_.nx hp0_N80_
                                  have hR2_ := zMrI_s (M := N11_) (N := N75_) (N2 := N80_) hmi_ (by (exact i14_)) (by (exact zo_1347 hc_38)) (by (exact zo_1340 p5_ p6_)) (by (exact p7_)) (by omega) hv3_.1 (by (exact zo_57 hv3_.2.1)) (by (exact zo_1356 hc_80 hv3_.2.2)) hnb_ hN75_ (fun j_ => hsN80_.ie (by decide) (by decide) j_) (hnn_.2.trans (by rw [show ze N75_ 81 4 = ze N11_ 81 4 by (exact e4_N75_)]))
                                  have hK2_ := zKp.fr hsN80_ hK1_ (by decide)
                                  have hg2_ := znx_ge (b := b_) (n := n_) (s := (ze N75_ 81 4).toNat)
                                  refine zr_iinc (pc := 132) (i := 3) (a := u10_) (n := 1) (L2 := [some (.ref 81), some (.int (Int32.ofInt (ze Mz 81 4))), some (.int (Int32.ofInt (zor u9_ (zshl 1 (ze N11_ 81 6))))), some (.int (Int32.ofInt (u10_ + 1))), some (.int (Int32.ofInt (ze N11_ 81 6)))]) rfl (by decide) rfl (zdal_p dlC_M_moveLine_85 (i := 0) rfl) ?_
                                  refine zw_goto (pc := 135) (tgt := 33) (by decide) (zdal_p dlC_M_moveLine_85 (i := 1) rfl) ?_
                                  refine zW_le [some (.ref 81), some (.int (Int32.ofInt (ze Mz 81 4))), some (.int (Int32.ofInt (zor u9_ (zshl 1 (ze N11_ 81 6))))), some (.int (Int32.ofInt (u10_ + 1))), none] (⟨rfl, rfl, rfl, rfl, trivial⟩) ?_
                                  exact ih_33 (zor u9_ (zshl 1 (ze N11_ 81 6))) (by (exact zo_284 hr74_.1)) (by (exact zo_285 hr74_.2)) (u10_ + 1) (by (exact zo_74 i14_)) (by (exact zo_671 hc_38 p6_)) N80_ hb0_N80_ hp1_N80_ (show 0 ≤ (u10_ + 1) by first | with_reducible assumption | (exact zo_76 i14_) | assumption) (show (u10_ + 1) ≤ ze Mz 81 12 by first | with_reducible assumption | assumption | omega) (show (1 ≤ ze N80_ 81 7 ∧ zbs b_ n_ (ze Mz 81 12).toNat (0, (ze Mz 81 4).toNat, zMvs Mz) = zMf) ∨ (ze N80_ 81 7 = 0 ∧ ze Mz 81 13 ≤ 3 ∧ zMrI b_ n_ (ze Mz 81 12).toNat (znx b_ n_ (ze Mz 81 4).toNat) (ze Mz 81 13) N80_ (u10_ + 1) (zor u9_ (zshl 1 (ze N11_ 81 6))) ∧ zKp Mz N80_ (6 * ze Mz 81 13) ∧ ze Mz 81 4 < ze N80_ 81 4) from Or.inr (⟨(show ze N80_ 81 7 = 0 by first | with_reducible assumption | (exact zo_596 e7_N75_ e7_N80_ hl33_0_i16_) | exact hR2_ | exact hK2_ | assumption), (show ze Mz 81 13 ≤ 3 by first | with_reducible assumption | assumption | omega | exact hR2_ | exact hK2_), (show zMrI b_ n_ (ze Mz 81 12).toNat (znx b_ n_ (ze Mz 81 4).toNat) (ze Mz 81 13) N80_ (u10_ + 1) (zor u9_ (zshl 1 (ze N11_ 81 6))) by first | with_reducible assumption | assumption | omega | exact hR2_ | exact hK2_), (show zKp Mz N80_ (6 * ze Mz 81 13) by first | with_reducible assumption | assumption | omega | exact hR2_ | exact hK2_), (show ze Mz 81 4 < ze N80_ 81 4 by first | with_reducible assumption | (exact zo_1357 e4_N75_ hg2_ hl33_4_i16_ hnn_.2 hp0_N80_ r4_N80_.1 r_4.2) | exact hR2_ | exact hK2_ | assumption)⟩)) c84_ (by (exact zo_147 hc_38 hlt_33))
                                · skip
                                  exfalso; (exact zo_1358 hc_101 hl33_0_i16_)
                              · skip
                                exact absurd hc_89 (by decide)
                      · skip
                        exfalso; (exact zo_260 hl33_0_i16_ ha68_0_hp0_N57_)
                    · skip
                      have hno_ : zrm b_ n_ (ze Mz 81 12).toNat (ze Mz 81 12).toNat (znx b_ n_ (ze Mz 81 4).toNat) [] = none := zMrI_f hmi_ (by (exact i14_)) (by (exact zo_1347 hc_38)) (fun q_ => by have h1_ := q_.1; omega) (by (exact zo_1340 p5_ p6_))
                      have hrt_ : zbs b_ n_ (ze Mz 81 12).toNat (0, (ze Mz 81 4).toNat, zMvs Mz) = zMf := zbs_n hl0_ hno_
                      refine zw_aload_n (pc := 56) (n := 0) (x := 81) rfl (zdal_p dlC_M_moveLine_83 (i := 6) rfl) ?_
                      refine zw_iconst (pc := 57) (v := Int32.ofInt 2) (by decide) (zdal_p dlC_M_moveLine_83 (i := 7) rfl) ?_
                      refine zr_callV (hf_N11_.w hW) hf_N11_.x (pc := 58) [.int (Int32.ofInt 2)] [] l_M_190 (c_M_wrongF l N11_ (hf_N11_.w hW) 2 (by decide) (by decide) (show 1 ≤ 2 by first | with_reducible assumption | (decide) | assumption)) rfl rfl rfl (by decide) (Nat.le_of_ble_eq_true rfl) (zdal_p dlC_M_moveLine_83 (i := 8) rfl) ?_
                      rintro _ N85_ ⟨rfl, hsN85_, hp0_N85_⟩
                      replace hp0_N85_ : 1 ≤ ze N85_ 81 7 := hp0_N85_
                      have hf_N85_ : zFr [3, 4, 5, 6, 7, 8, 11, 13, 20] [83, 85, 86, 87, 88] Mz N85_ := hf_N11_.tr hsN85_ (by decide) (by decide)
                      have hb0_N85_ : zFr [3, 4, 5, 6, 7, 8, 11] [83] N3_ N85_ := hs12_.tr hsN85_ (by decide) (by decide)
                      have e3_N85_ : ze N85_ 81 3 = ze N11_ 81 3 := hsN85_.e (by decide)
                      have e4_N85_ : ze N85_ 81 4 = ze N11_ 81 4 := hsN85_.e (by decide)
                      have e5_N85_ : ze N85_ 81 5 = ze N11_ 81 5 := hsN85_.e (by decide)
                      have e6_N85_ : ze N85_ 81 6 = ze N11_ 81 6 := hsN85_.e (by decide)
                      have r7_N85_ := ze_r N85_ 81 7
                      have e12_N85_ : ze N85_ 81 12 = ze N11_ 81 12 := hsN85_.e (by decide)
                      have e13_N85_ : ze N85_ 81 13 = ze N11_ 81 13 := hsN85_.e (by decide)
                      have e20_N85_ : ze N85_ 81 20 = ze N11_ 81 20 := hsN85_.e (by decide)
                      have c88_ : zB 85 144 0 5 N85_ := zB.fr hsN85_ c19_ (by decide) (by decide)
                      have c89_ : zRt b_ n_ N85_ := zRt.fr hsN85_ i13_ (by decide) (by decide)
                      have c90_ : zB 83 24 0 5 N85_ := zB.fr hsN85_ i17_ (by decide) (by decide)
                      show zW l m_M_moveLine (zn Mz + 0, zw Mz + 0) N85_ 61 [some (.ref 81), some (.int (Int32.ofInt (ze Mz 81 4))), some (.int (Int32.ofInt u9_)), some (.int (Int32.ofInt u10_)), none] [] _
                      have hv2_ : ze N85_ 81 7 = 0 → ze N85_ 81 6 = znu b_ n_ (ze N85_ 81 4).toNat ∧ 0 ≤ ze N85_ 81 6 ∧ ze N85_ 81 6 ≤ 999 := fun q_ => c89_.v2 (by omega)
                      refine zw_aload_n (pc := 61) (n := 0) (x := 81) rfl (zdal_p dlC_M_moveLine_83 (i := 9) rfl) ?_
                      refine zr_getI (hf_N85_.w hW) (pc := 62) f_M_152 rfl (zdal_p dlC_M_moveLine_83 (i := 10) rfl) ?_
                      refine zw_istore (pc := 65) (i := 4) (L2 := [some (.ref 81), some (.int (Int32.ofInt (ze Mz 81 4))), some (.int (Int32.ofInt u9_)), some (.int (Int32.ofInt u10_)), some (.int (Int32.ofInt (ze N85_ 81 6)))]) (by decide) rfl (zdal_p dlC_M_moveLine_83 (i := 11) rfl) ?_
                      refine zw_aload_n (pc := 67) (n := 0) (x := 81) rfl (zdal_p dlC_M_moveLine_83 (i := 12) rfl) ?_
                      refine zr_callV (hf_N85_.w hW) hf_N85_.x (pc := 68) [] [] l_M_183 (c_M_isGood l N85_ (hf_N85_.w hW) ) rfl rfl rfl (by decide) (Nat.le_of_ble_eq_true rfl) (zdal_p dlC_M_moveLine_83 (i := 13) rfl) ?_
                      rintro _ N91_ ⟨v92_, rfl, ⟨hv92_a, hv92_b⟩, hsN91_, hp0_N91_⟩
                      obtain rfl := hsN91_.eq.symm
                      replace hp0_N91_ : ((v92_ = 1 ∧ ze N85_ 81 7 = 0) ∨ (v92_ = 0 ∧ ze N85_ 81 7 ≠ 0)) := hp0_N91_
                      rcases hp0_N91_ with ⟨rfl, ha68_0_hp0_N91_⟩ | ⟨rfl, ha68_0_hp0_N91_⟩
                      · skip
                        exfalso; (exact zo_281 ha68_0_hp0_N91_ hp0_N85_)
                      · skip
                        show zW l m_M_moveLine (zn Mz + 0, zw Mz + 0) N85_ 71 [some (.ref 81), some (.int (Int32.ofInt (ze Mz 81 4))), some (.int (Int32.ofInt u9_)), some (.int (Int32.ofInt u10_)), some (.int (Int32.ofInt (ze N85_ 81 6)))] [.int (Int32.ofInt 0)] _
                        refine zr_if_eq (pc := 71) (tgt := 97) ⟨(by decide), (by decide)⟩ (by decide) (zdal_p dlC_M_moveLine_83 (i := 14) rfl) (fun hc_71 => ?_) (fun hc_71 => ?_)
                        · skip
                          refine zw_aload_n (pc := 97) (n := 0) (x := 81) rfl d_M_moveLine_97 ?_
                          refine zr_getI (hf_N85_.w hW) (pc := 98) f_M_172 rfl d_M_moveLine_98 ?_
                          refine zr_if_le (pc := 101) (tgt := 105) ⟨(ze_r N85_ 81 7).1, (ze_r N85_ 81 7).2⟩ (by decide) d_M_moveLine_101 (fun hc_101 => ?_) (fun hc_101 => ?_)
                          · skip
                            exfalso; (exact zo_1329 hc_101 hp0_N85_)
                          · skip
                            exact zr_vret (pc := 104) rfl hf_N85_ ⟨c89_, (show 0 ≤ ze N85_ 81 13 by first | with_reducible assumption | (exact zo_1349 e13_N11_ e13_N3_ e13_N85_ p7_) | assumption), (show ze N85_ 81 13 ≤ 4 by first | with_reducible assumption | (exact zo_1350 e13_N11_ e13_N3_ e13_N85_ p8_) | assumption), c90_, c88_, (show ((1 ≤ ze N85_ 81 7 ∧ zbs b_ n_ (ze Mz 81 12).toNat (0, (ze Mz 81 4).toNat, zMvs Mz) = zMf) ∨ (ze N85_ 81 7 = 0 ∧ zbs b_ n_ (ze Mz 81 12).toNat (0, (ze Mz 81 4).toNat, zMvs Mz) = (0, (ze N85_ 81 4).toNat, zMvs N85_) ∧ zPm N85_ ∧ zFin N85_ ∧ ze Mz 81 4 < ze N85_ 81 4)) from Or.inl (⟨(show 1 ≤ ze N85_ 81 7 by first | with_reducible assumption | assumption | omega | exact hrt_ | exact hrt2_), (show zbs b_ n_ (ze Mz 81 12).toNat (0, (ze Mz 81 4).toNat, zMvs Mz) = zMf by first | with_reducible assumption | assumption | omega | exact hrt_ | exact hrt2_)⟩))⟩ d_M_moveLine_104
                        · skip
                          exact absurd hc_71 (by decide)
                · skip
                  exfalso; (exact zo_260 hl33_0_i16_ ha42_0_hp0_N55_)
        exact lp_33 _ 0 (by decide) (by decide) 0 (by decide) (by decide) N3_ zFr.rf hp1_N3_ (show 0 ≤ (0 : Int) by first | with_reducible assumption | (decide) | assumption) (show (0 : Int) ≤ ze Mz 81 12 by first | with_reducible assumption | (exact zo_564 p5_) | assumption) (show (1 ≤ ze N3_ 81 7 ∧ zbs b_ n_ (ze Mz 81 12).toNat (0, (ze Mz 81 4).toNat, zMvs Mz) = zMf) ∨ (ze N3_ 81 7 = 0 ∧ ze Mz 81 13 ≤ 3 ∧ zMrI b_ n_ (ze Mz 81 12).toNat (znx b_ n_ (ze Mz 81 4).toNat) (ze Mz 81 13) N3_ (0 : Int) (0 : Int) ∧ zKp Mz N3_ (6 * ze Mz 81 13) ∧ ze Mz 81 4 < ze N3_ 81 4) from Or.inr (⟨(show ze N3_ 81 7 = 0 by first | with_reducible assumption | (exact zo_610 e7_N3_ p2_) | exact hml0_ | exact hkp0_ | assumption), (show ze Mz 81 13 ≤ 3 by first | with_reducible assumption | (exact zo_1359 p8_ hc_10) | exact hml0_ | exact hkp0_ | assumption), (show zMrI b_ n_ (ze Mz 81 12).toNat (znx b_ n_ (ze Mz 81 4).toNat) (ze Mz 81 13) N3_ (0 : Int) (0 : Int) by first | with_reducible assumption | assumption | omega | exact hml0_ | exact hkp0_), (show zKp Mz N3_ (6 * ze Mz 81 13) by first | with_reducible assumption | assumption | omega | exact hml0_ | exact hkp0_), (show ze Mz 81 4 < ze N3_ 81 4 by first | with_reducible assumption | (exact zo_1360 hg1_ hnn_.2 hp0_N3_ r4_N3_.1 r_4.2) | exact hml0_ | exact hkp0_ | assumption)⟩)) c7_ (Nat.lt_succ_self _)
    · skip
      exfalso; (exact zo_260 p2_ ha19_0_hp0_N1_)
  · skip
    have hrt_ : zbs b_ n_ (ze Mz 81 12).toNat (0, (ze Mz 81 4).toNat, zMvs Mz) = zMf := zbs_4 hl0_ (by (exact zo_1361 hc_10 hml_))
    refine zw_aload_n (pc := 13) (n := 0) (x := 81) rfl (zdal_p dlC_M_moveLine_82 (i := 7) rfl) ?_
    refine zw_iconst (pc := 14) (v := Int32.ofInt 5) (by decide) (zdal_p dlC_M_moveLine_82 (i := 8) rfl) ?_
    refine zr_callV (hf.w hW) hf.x (pc := 15) [.int (Int32.ofInt 5)] [] l_M_190 (c_M_wrongF l Mz (hf.w hW) 5 (by decide) (by decide) (show 1 ≤ 5 by first | with_reducible assumption | (decide) | assumption)) rfl rfl rfl (by decide) (Nat.le_of_ble_eq_true rfl) (zdal_p dlC_M_moveLine_82 (i := 9) rfl) ?_
    rintro _ N93_ ⟨rfl, hsN93_, hp0_N93_⟩
    replace hp0_N93_ : 1 ≤ ze N93_ 81 7 := hp0_N93_
    have hf_N93_ : zFr [3, 4, 5, 6, 7, 8, 11, 13, 20] [83, 85, 86, 87, 88] Mz N93_ := hf.tr hsN93_ (by decide) (by decide)
    have e3_N93_ : ze N93_ 81 3 = ze Mz 81 3 := hsN93_.e (by decide)
    have e4_N93_ : ze N93_ 81 4 = ze Mz 81 4 := hsN93_.e (by decide)
    have e5_N93_ : ze N93_ 81 5 = ze Mz 81 5 := hsN93_.e (by decide)
    have e6_N93_ : ze N93_ 81 6 = ze Mz 81 6 := hsN93_.e (by decide)
    have r7_N93_ := ze_r N93_ 81 7
    have e12_N93_ : ze N93_ 81 12 = ze Mz 81 12 := hsN93_.e (by decide)
    have e13_N93_ : ze N93_ 81 13 = ze Mz 81 13 := hsN93_.e (by decide)
    have e20_N93_ : ze N93_ 81 20 = ze Mz 81 20 := hsN93_.e (by decide)
    have c95_ : zRb b_ n_ N93_ := zRb.fr hsN93_ p0_ (by decide) (by decide)
    have c96_ : zRt b_ n_ N93_ := zRt.fr hsN93_ p1_ (by decide) (by decide)
    have c98_ : zB 83 24 0 5 N93_ := zB.fr hsN93_ p10_ (by decide) (by decide)
    have c99_ : zB 85 144 0 5 N93_ := zB.fr hsN93_ p11_ (by decide) (by decide)
    show zW l m_M_moveLine (zn Mz + 0, zw Mz + 0) N93_ 18 [some (.ref 81), some (.int (Int32.ofInt (ze Mz 81 4))), none, none, none] [] _
    refine zw_aload_n (pc := 18) (n := 0) (x := 81) rfl (zdal_p dlC_M_moveLine_82 (i := 10) rfl) ?_
    refine zr_callV (hf_N93_.w hW) hf_N93_.x (pc := 19) [] [] l_M_183 (c_M_isGood l N93_ (hf_N93_.w hW) ) rfl rfl rfl (by decide) (Nat.le_of_ble_eq_true rfl) (zdal_p dlC_M_moveLine_82 (i := 11) rfl) ?_
    rintro _ N100_ ⟨v101_, rfl, ⟨hv101_a, hv101_b⟩, hsN100_, hp0_N100_⟩
    obtain rfl := hsN100_.eq.symm
    replace hp0_N100_ : ((v101_ = 1 ∧ ze N93_ 81 7 = 0) ∨ (v101_ = 0 ∧ ze N93_ 81 7 ≠ 0)) := hp0_N100_
    rcases hp0_N100_ with ⟨rfl, ha19_0_hp0_N100_⟩ | ⟨rfl, ha19_0_hp0_N100_⟩
    · skip
      exfalso; (exact zo_281 ha19_0_hp0_N100_ hp0_N93_)
    · skip
      show zW l m_M_moveLine (zn Mz + 0, zw Mz + 0) N93_ 22 [some (.ref 81), some (.int (Int32.ofInt (ze Mz 81 4))), none, none, none] [.int (Int32.ofInt 0)] _
      refine zr_if_eq (pc := 22) (tgt := 29) ⟨(by decide), (by decide)⟩ (by decide) (zdal_p dlC_M_moveLine_82 (i := 12) rfl) (fun hc_22 => ?_) (fun hc_22 => ?_)
      · skip
        refine zw_iconst (pc := 29) (v := Int32.ofInt 0) (by decide) (zdal_p dlC_M_moveLine_82 (i := 15) rfl) ?_
        refine zw_istore_n (pc := 30) (i := 2) (L2 := [some (.ref 81), some (.int (Int32.ofInt (ze Mz 81 4))), some (.int (Int32.ofInt 0)), none, none]) rfl (by decide) rfl (zdal_p dlC_M_moveLine_82 (i := 16) rfl) ?_
        refine zw_iconst (pc := 31) (v := Int32.ofInt 0) (by decide) (zdal_p dlC_M_moveLine_82 (i := 17) rfl) ?_
        refine zw_istore_n (pc := 32) (i := 3) (L2 := [some (.ref 81), some (.int (Int32.ofInt (ze Mz 81 4))), some (.int (Int32.ofInt 0)), some (.int (Int32.ofInt 0)), none]) rfl (by decide) rfl (zdal_p dlC_M_moveLine_82 (i := 18) rfl) ?_
        have lp_33 : ∀ (n : Nat) (u102_ : Int) (hu102_a : -2147483648 ≤ u102_) (hu102_b : u102_ < 2147483648) (u103_ : Int) (hu103_a : -2147483648 ≤ u103_) (hu103_b : u103_ < 2147483648) (N104_ : zMem) (hs105_ : zFr [3, 4, 5, 6, 7, 8, 11] [83] N93_ N104_) (i106_ : zRt b_ n_ N104_) (i107_ : 0 ≤ u103_) (i108_ : u103_ ≤ ze Mz 81 12) (i109_ : (1 ≤ ze N104_ 81 7 ∧ zbs b_ n_ (ze Mz 81 12).toNat (0, (ze Mz 81 4).toNat, zMvs Mz) = zMf) ∨ (ze N104_ 81 7 = 0 ∧ ze Mz 81 13 ≤ 3 ∧ zMrI b_ n_ (ze Mz 81 12).toNat (znx b_ n_ (ze Mz 81 4).toNat) (ze Mz 81 13) N104_ u103_ u102_ ∧ zKp Mz N104_ (6 * ze Mz 81 13) ∧ ze Mz 81 4 < ze N104_ 81 4)) (i110_ : zB 83 24 0 5 N104_), (ze Mz 81 12 - u103_).toNat < n → zW l m_M_moveLine (zn Mz + 0, zw Mz + 0) N104_ 33 [some (.ref 81), some (.int (Int32.ofInt (ze Mz 81 4))), some (.int (Int32.ofInt u102_)), some (.int (Int32.ofInt u103_)), none] [] (zpV [3, 4, 5, 6, 7, 8, 11, 13, 20] [83, 85, 86, 87, 88] Mz (fun N => zRt b_ n_ N ∧ 0 ≤ ze N 81 13 ∧ ze N 81 13 ≤ 4 ∧ zB 83 24 0 5 N ∧ zB 85 144 0 5 N ∧ (((1 ≤ ze N 81 7 ∧ zbs b_ n_ (ze Mz 81 12).toNat (0, (ze Mz 81 4).toNat, zMvs Mz) = zMf) ∨ (ze N 81 7 = 0 ∧ zbs b_ n_ (ze Mz 81 12).toNat (0, (ze Mz 81 4).toNat, zMvs Mz) = (0, (ze N 81 4).toNat, zMvs N) ∧ zPm N ∧ zFin N ∧ ze Mz 81 4 < ze N 81 4))))) := by
          clear hv101_a hv101_b
          intro n
          induction n with
          | zero =>
            intro u102_ hu102_a hu102_b u103_ hu103_a hu103_b N104_ hs105_ i106_ i107_ i108_ i109_ i110_ h0
            exact absurd h0 (Nat.not_lt_zero _)
          | succ n ih_33 =>
            intro u102_ hu102_a hu102_b u103_ hu103_a hu103_b N104_ hs105_ i106_ i107_ i108_ i109_ i110_ hlt_33
            have hf_N104_ : zFr [3, 4, 5, 6, 7, 8, 11, 13, 20] [83, 85, 86, 87, 88] Mz N104_ := hf_N93_.tr hs105_ (by decide) (by decide)
            have r3_N104_ := ze_r N104_ 81 3
            have r4_N104_ := ze_r N104_ 81 4
            have r5_N104_ := ze_r N104_ 81 5
            have r6_N104_ := ze_r N104_ 81 6
            have r7_N104_ := ze_r N104_ 81 7
            have e12_N104_ : ze N104_ 81 12 = ze N93_ 81 12 := hs105_.e (by decide)
            have e13_N104_ : ze N104_ 81 13 = ze N93_ 81 13 := hs105_.e (by decide)
            have e20_N104_ : ze N104_ 81 20 = ze N93_ 81 20 := hs105_.e (by decide)
            have c111_ : zRb b_ n_ N104_ := zRb.fr hs105_ c95_ (by decide) (by decide)
            have c112_ : zB 85 144 0 5 N104_ := zB.fr hs105_ c99_ (by decide) (by decide)
            have zz12_N104_ : ze N104_ 81 12 = ze Mz 81 12 := hf_N104_.e (by decide)
            rcases i109_ with ⟨hl33_0_i109_, hl33_1_i109_⟩ | ⟨hl33_0_i109_, hl33_1_i109_, hl33_2_i109_, hl33_3_i109_, hl33_4_i109_⟩
            · skip
              refine zw_iload_n (pc := 33) (n := 3) (x := Int32.ofInt u103_) rfl (zdal_p dlC_M_moveLine_82 (i := 19) rfl) ?_
              refine zw_aload_n (pc := 34) (n := 0) (x := 81) rfl (zdal_p dlC_M_moveLine_82 (i := 20) rfl) ?_
              refine zr_getI0 hf_N104_ hW (pc := 35) (by decide) f_M_115 rfl (zdal_p dlC_M_moveLine_82 (i := 21) rfl) ?_
              refine zr_icmp_ge (pc := 38) (tgt := 138) ⟨hu103_a, hu103_b⟩ ⟨(ze_r Mz 81 12).1, (ze_r Mz 81 12).2⟩ (by decide) (zdal_p dlC_M_moveLine_82 (i := 22) rfl) (fun hc_38 => ?_) (fun hc_38 => ?_)
              · skip
                refine zw_aload_n (pc := 138) (n := 0) (x := 81) rfl d_M_moveLine_138 ?_
                refine zw_bipush (pc := 139) (v := Int32.ofInt 59) (by decide) d_M_moveLine_139 ?_
                refine zr_callV (hf_N104_.w hW) hf_N104_.x (pc := 141) [.int (Int32.ofInt 59)] [] l_M_355 (c_M_mustF l N104_ (hf_N104_.w hW) 59 (by decide) (by decide) b_ n_ c111_ i106_ (show 0 ≤ ze N104_ 81 7 by first | with_reducible assumption | (exact zo_564 hl33_0_i109_) | assumption)) rfl rfl rfl (by decide) (Nat.le_of_ble_eq_true rfl) d_M_moveLine_141 ?_
                rintro _ N113_ ⟨rfl, hsN113_, ⟨hp0_N113_, hp1_N113_⟩⟩
                have hf_N113_ : zFr [3, 4, 5, 6, 7, 8, 11, 13, 20] [83, 85, 86, 87, 88] Mz N113_ := hf_N104_.tr hsN113_ (by decide) (by decide)
                have r3_N113_ := ze_r N113_ 81 3
                have r4_N113_ := ze_r N113_ 81 4
                have r5_N113_ := ze_r N113_ 81 5
                have r6_N113_ := ze_r N113_ 81 6
                have r7_N113_ := ze_r N113_ 81 7
                have e12_N113_ : ze N113_ 81 12 = ze N104_ 81 12 := hsN113_.e (by decide)
                have e13_N113_ : ze N113_ 81 13 = ze N104_ 81 13 := hsN113_.e (by decide)
                have e20_N113_ : ze N113_ 81 20 = ze N104_ 81 20 := hsN113_.e (by decide)
                have c116_ : zB 85 144 0 5 N113_ := zB.fr hsN113_ c112_ (by decide) (by decide)
                have c117_ : zB 83 24 0 5 N113_ := zB.fr hsN113_ i110_ (by decide) (by decide)
                rcases hp1_N113_ with ⟨ha141_0_hp1_N113_, ha141_1_hp1_N113_⟩ | ⟨ha141_0_hp1_N113_, ha141_1_hp1_N113_, ha141_2_hp1_N113_, ha141_3_hp1_N113_⟩
                · skip
                  have hrt2_ : zbs b_ n_ (ze Mz 81 12).toNat (0, (ze Mz 81 4).toNat, zMvs Mz) = zMf := by first | with_reducible assumption | exact hrt_ | assumption | (obtain ⟨l_, hl1_, -⟩ := zMrI_e hmi_ (by omega); exact zbs_f hl0_ hl1_ (fun q_ => ha141_1_hp1_N113_ (by omega) q_.1))
                  show zW l m_M_moveLine (zn Mz + 0, zw Mz + 0) N113_ 144 [some (.ref 81), some (.int (Int32.ofInt (ze Mz 81 4))), some (.int (Int32.ofInt u102_)), some (.int (Int32.ofInt u103_)), none] [] _
                  refine zw_aload_n (pc := 144) (n := 0) (x := 81) rfl d_M_moveLine_144 ?_
                  refine zr_getI (hf_N113_.w hW) (pc := 145) f_M_172 rfl d_M_moveLine_145 ?_
                  refine zr_if_le (pc := 148) (tgt := 152) ⟨(ze_r N113_ 81 7).1, (ze_r N113_ 81 7).2⟩ (by decide) d_M_moveLine_148 (fun hc_148 => ?_) (fun hc_148 => ?_)
                  · skip
                    exfalso; (exact zo_61 ha141_0_hp1_N113_ hc_148)
                  · skip
                    exact zr_vret (pc := 151) rfl hf_N113_ ⟨hp0_N113_, (show 0 ≤ ze N113_ 81 13 by first | with_reducible assumption | (exact zo_1362 e13_N104_ e13_N113_ e13_N93_ hc_10) | assumption), (show ze N113_ 81 13 ≤ 4 by first | with_reducible assumption | (exact zo_1335 e13_N104_ e13_N113_ e13_N93_ p8_) | assumption), c117_, c116_, (show ((1 ≤ ze N113_ 81 7 ∧ zbs b_ n_ (ze Mz 81 12).toNat (0, (ze Mz 81 4).toNat, zMvs Mz) = zMf) ∨ (ze N113_ 81 7 = 0 ∧ zbs b_ n_ (ze Mz 81 12).toNat (0, (ze Mz 81 4).toNat, zMvs Mz) = (0, (ze N113_ 81 4).toNat, zMvs N113_) ∧ zPm N113_ ∧ zFin N113_ ∧ ze Mz 81 4 < ze N113_ 81 4)) from Or.inl (⟨(show 1 ≤ ze N113_ 81 7 by first | with_reducible assumption | assumption | omega | exact hrt_ | exact hrt2_), (show zbs b_ n_ (ze Mz 81 12).toNat (0, (ze Mz 81 4).toNat, zMvs Mz) = zMf by first | with_reducible assumption | assumption | omega | exact hrt_ | exact hrt2_)⟩))⟩ d_M_moveLine_151
                · skip
                  exfalso; (exact zo_281 ha141_1_hp1_N113_ hl33_0_i109_)
              · skip
                refine zw_aload_n (pc := 41) (n := 0) (x := 81) rfl (zdal_p dlC_M_moveLine_82 (i := 23) rfl) ?_
                refine zr_callV (hf_N104_.w hW) hf_N104_.x (pc := 42) [] [] l_M_183 (c_M_isGood l N104_ (hf_N104_.w hW) ) rfl rfl rfl (by decide) (Nat.le_of_ble_eq_true rfl) (zdal_p dlC_M_moveLine_83 (i := 0) rfl) ?_
                rintro _ N118_ ⟨v119_, rfl, ⟨hv119_a, hv119_b⟩, hsN118_, hp0_N118_⟩
                obtain rfl := hsN118_.eq.symm
                replace hp0_N118_ : ((v119_ = 1 ∧ ze N104_ 81 7 = 0) ∨ (v119_ = 0 ∧ ze N104_ 81 7 ≠ 0)) := hp0_N118_
                rcases hp0_N118_ with ⟨rfl, ha42_0_hp0_N118_⟩ | ⟨rfl, ha42_0_hp0_N118_⟩
                · skip
                  exfalso; (exact zo_281 ha42_0_hp0_N118_ hl33_0_i109_)
                · skip
                  show zW l m_M_moveLine (zn Mz + 0, zw Mz + 0) N104_ 45 [some (.ref 81), some (.int (Int32.ofInt (ze Mz 81 4))), some (.int (Int32.ofInt u102_)), some (.int (Int32.ofInt u103_)), none] [.int (Int32.ofInt 0)] _
                  refine zr_if_eq (pc := 45) (tgt := 138) ⟨(by decide), (by decide)⟩ (by decide) (zdal_p dlC_M_moveLine_83 (i := 1) rfl) (fun hc_45 => ?_) (fun hc_45 => ?_)
                  · skip
                    refine zw_aload_n (pc := 138) (n := 0) (x := 81) rfl d_M_moveLine_138 ?_
                    refine zw_bipush (pc := 139) (v := Int32.ofInt 59) (by decide) d_M_moveLine_139 ?_
                    refine zr_callV (hf_N104_.w hW) hf_N104_.x (pc := 141) [.int (Int32.ofInt 59)] [] l_M_355 (c_M_mustF l N104_ (hf_N104_.w hW) 59 (by decide) (by decide) b_ n_ c111_ i106_ (show 0 ≤ ze N104_ 81 7 by first | with_reducible assumption | (exact zo_564 hl33_0_i109_) | assumption)) rfl rfl rfl (by decide) (Nat.le_of_ble_eq_true rfl) d_M_moveLine_141 ?_
                    rintro _ N120_ ⟨rfl, hsN120_, ⟨hp0_N120_, hp1_N120_⟩⟩
                    have hf_N120_ : zFr [3, 4, 5, 6, 7, 8, 11, 13, 20] [83, 85, 86, 87, 88] Mz N120_ := hf_N104_.tr hsN120_ (by decide) (by decide)
                    have r3_N120_ := ze_r N120_ 81 3
                    have r4_N120_ := ze_r N120_ 81 4
                    have r5_N120_ := ze_r N120_ 81 5
                    have r6_N120_ := ze_r N120_ 81 6
                    have r7_N120_ := ze_r N120_ 81 7
                    have e12_N120_ : ze N120_ 81 12 = ze N104_ 81 12 := hsN120_.e (by decide)
                    have e13_N120_ : ze N120_ 81 13 = ze N104_ 81 13 := hsN120_.e (by decide)
                    have e20_N120_ : ze N120_ 81 20 = ze N104_ 81 20 := hsN120_.e (by decide)
                    have c123_ : zB 85 144 0 5 N120_ := zB.fr hsN120_ c112_ (by decide) (by decide)
                    have c124_ : zB 83 24 0 5 N120_ := zB.fr hsN120_ i110_ (by decide) (by decide)
                    rcases hp1_N120_ with ⟨ha141_0_hp1_N120_, ha141_1_hp1_N120_⟩ | ⟨ha141_0_hp1_N120_, ha141_1_hp1_N120_, ha141_2_hp1_N120_, ha141_3_hp1_N120_⟩
                    · skip
                      have hrt2_ : zbs b_ n_ (ze Mz 81 12).toNat (0, (ze Mz 81 4).toNat, zMvs Mz) = zMf := by first | with_reducible assumption | exact hrt_ | assumption | (obtain ⟨l_, hl1_, -⟩ := zMrI_e hmi_ (by omega); exact zbs_f hl0_ hl1_ (fun q_ => ha141_1_hp1_N120_ (by omega) q_.1))
                      show zW l m_M_moveLine (zn Mz + 0, zw Mz + 0) N120_ 144 [some (.ref 81), some (.int (Int32.ofInt (ze Mz 81 4))), some (.int (Int32.ofInt u102_)), some (.int (Int32.ofInt u103_)), none] [] _
                      refine zw_aload_n (pc := 144) (n := 0) (x := 81) rfl d_M_moveLine_144 ?_
                      refine zr_getI (hf_N120_.w hW) (pc := 145) f_M_172 rfl d_M_moveLine_145 ?_
                      refine zr_if_le (pc := 148) (tgt := 152) ⟨(ze_r N120_ 81 7).1, (ze_r N120_ 81 7).2⟩ (by decide) d_M_moveLine_148 (fun hc_148 => ?_) (fun hc_148 => ?_)
                      · skip
                        exfalso; (exact zo_61 ha141_0_hp1_N120_ hc_148)
                      · skip
                        exact zr_vret (pc := 151) rfl hf_N120_ ⟨hp0_N120_, (show 0 ≤ ze N120_ 81 13 by first | with_reducible assumption | (exact zo_1362 e13_N104_ e13_N120_ e13_N93_ hc_10) | assumption), (show ze N120_ 81 13 ≤ 4 by first | with_reducible assumption | (exact zo_1335 e13_N104_ e13_N120_ e13_N93_ p8_) | assumption), c124_, c123_, (show ((1 ≤ ze N120_ 81 7 ∧ zbs b_ n_ (ze Mz 81 12).toNat (0, (ze Mz 81 4).toNat, zMvs Mz) = zMf) ∨ (ze N120_ 81 7 = 0 ∧ zbs b_ n_ (ze Mz 81 12).toNat (0, (ze Mz 81 4).toNat, zMvs Mz) = (0, (ze N120_ 81 4).toNat, zMvs N120_) ∧ zPm N120_ ∧ zFin N120_ ∧ ze Mz 81 4 < ze N120_ 81 4)) from Or.inl (⟨(show 1 ≤ ze N120_ 81 7 by first | with_reducible assumption | assumption | omega | exact hrt_ | exact hrt2_), (show zbs b_ n_ (ze Mz 81 12).toNat (0, (ze Mz 81 4).toNat, zMvs Mz) = zMf by first | with_reducible assumption | assumption | omega | exact hrt_ | exact hrt2_)⟩))⟩ d_M_moveLine_151
                    · skip
                      exfalso; (exact zo_281 ha141_1_hp1_N120_ hl33_0_i109_)
                  · skip
                    exact absurd hc_45 (by decide)
            · skip
              have hmi_ := hl33_2_i109_
              have hkp_ := hl33_3_i109_
              obtain ⟨lm_, -, -, -, hmt_, -⟩ := id hmi_
              have hme_ := hmt_.1
              refine zw_iload_n (pc := 33) (n := 3) (x := Int32.ofInt u103_) rfl (zdal_p dlC_M_moveLine_82 (i := 19) rfl) ?_
              refine zw_aload_n (pc := 34) (n := 0) (x := 81) rfl (zdal_p dlC_M_moveLine_82 (i := 20) rfl) ?_
              refine zr_getI0 hf_N104_ hW (pc := 35) (by decide) f_M_115 rfl (zdal_p dlC_M_moveLine_82 (i := 21) rfl) ?_
              refine zr_icmp_ge (pc := 38) (tgt := 138) ⟨hu103_a, hu103_b⟩ ⟨(ze_r Mz 81 12).1, (ze_r Mz 81 12).2⟩ (by decide) (zdal_p dlC_M_moveLine_82 (i := 22) rfl) (fun hc_38 => ?_) (fun hc_38 => ?_)
              · skip
                refine zw_aload_n (pc := 138) (n := 0) (x := 81) rfl d_M_moveLine_138 ?_
                refine zw_bipush (pc := 139) (v := Int32.ofInt 59) (by decide) d_M_moveLine_139 ?_
                refine zr_callV (hf_N104_.w hW) hf_N104_.x (pc := 141) [.int (Int32.ofInt 59)] [] l_M_355 (c_M_mustF l N104_ (hf_N104_.w hW) 59 (by decide) (by decide) b_ n_ c111_ i106_ (show 0 ≤ ze N104_ 81 7 by first | with_reducible assumption | (exact zo_718 hl33_0_i109_) | assumption)) rfl rfl rfl (by decide) (Nat.le_of_ble_eq_true rfl) d_M_moveLine_141 ?_
                rintro _ N125_ ⟨rfl, hsN125_, ⟨hp0_N125_, hp1_N125_⟩⟩
                have hf_N125_ : zFr [3, 4, 5, 6, 7, 8, 11, 13, 20] [83, 85, 86, 87, 88] Mz N125_ := hf_N104_.tr hsN125_ (by decide) (by decide)
                have r3_N125_ := ze_r N125_ 81 3
                have r4_N125_ := ze_r N125_ 81 4
                have r5_N125_ := ze_r N125_ 81 5
                have r6_N125_ := ze_r N125_ 81 6
                have r7_N125_ := ze_r N125_ 81 7
                have e12_N125_ : ze N125_ 81 12 = ze N104_ 81 12 := hsN125_.e (by decide)
                have e13_N125_ : ze N125_ 81 13 = ze N104_ 81 13 := hsN125_.e (by decide)
                have e20_N125_ : ze N125_ 81 20 = ze N104_ 81 20 := hsN125_.e (by decide)
                have c128_ : zB 85 144 0 5 N125_ := zB.fr hsN125_ c112_ (by decide) (by decide)
                have c129_ : zB 83 24 0 5 N125_ := zB.fr hsN125_ i110_ (by decide) (by decide)
                rcases hp1_N125_ with ⟨ha141_0_hp1_N125_, ha141_1_hp1_N125_⟩ | ⟨ha141_0_hp1_N125_, ha141_1_hp1_N125_, ha141_2_hp1_N125_, ha141_3_hp1_N125_⟩
                · skip
                  have hrt2_ : zbs b_ n_ (ze Mz 81 12).toNat (0, (ze Mz 81 4).toNat, zMvs Mz) = zMf := by first | with_reducible assumption | exact hrt_ | assumption | (obtain ⟨l_, hl1_, -⟩ := zMrI_e hmi_ (by omega); exact zbs_f hl0_ hl1_ (fun q_ => ha141_1_hp1_N125_ (by omega) q_.1))
                  show zW l m_M_moveLine (zn Mz + 0, zw Mz + 0) N125_ 144 [some (.ref 81), some (.int (Int32.ofInt (ze Mz 81 4))), some (.int (Int32.ofInt u102_)), some (.int (Int32.ofInt u103_)), none] [] _
                  refine zw_aload_n (pc := 144) (n := 0) (x := 81) rfl d_M_moveLine_144 ?_
                  refine zr_getI (hf_N125_.w hW) (pc := 145) f_M_172 rfl d_M_moveLine_145 ?_
                  refine zr_if_le (pc := 148) (tgt := 152) ⟨(ze_r N125_ 81 7).1, (ze_r N125_ 81 7).2⟩ (by decide) d_M_moveLine_148 (fun hc_148 => ?_) (fun hc_148 => ?_)
                  · skip
                    exfalso; (exact zo_61 ha141_0_hp1_N125_ hc_148)
                  · skip
                    exact zr_vret (pc := 151) rfl hf_N125_ ⟨hp0_N125_, (show 0 ≤ ze N125_ 81 13 by first | with_reducible assumption | (exact zo_1362 e13_N104_ e13_N125_ e13_N93_ hc_10) | assumption), (show ze N125_ 81 13 ≤ 4 by first | with_reducible assumption | (exact zo_1335 e13_N104_ e13_N125_ e13_N93_ p8_) | assumption), c129_, c128_, (show ((1 ≤ ze N125_ 81 7 ∧ zbs b_ n_ (ze Mz 81 12).toNat (0, (ze Mz 81 4).toNat, zMvs Mz) = zMf) ∨ (ze N125_ 81 7 = 0 ∧ zbs b_ n_ (ze Mz 81 12).toNat (0, (ze Mz 81 4).toNat, zMvs Mz) = (0, (ze N125_ 81 4).toNat, zMvs N125_) ∧ zPm N125_ ∧ zFin N125_ ∧ ze Mz 81 4 < ze N125_ 81 4)) from Or.inl (⟨(show 1 ≤ ze N125_ 81 7 by first | with_reducible assumption | assumption | omega | exact hrt_ | exact hrt2_), (show zbs b_ n_ (ze Mz 81 12).toNat (0, (ze Mz 81 4).toNat, zMvs Mz) = zMf by first | with_reducible assumption | assumption | omega | exact hrt_ | exact hrt2_)⟩))⟩ d_M_moveLine_151
                · skip
                  have hsg_ := ha141_2_hp1_N125_
                  have hx4_ := ha141_3_hp1_N125_
                  obtain ⟨l_, hl1_, hl2_, hl3_, hl4_⟩ := zMrI_e hmi_ (by (exact zo_1336 hc_38 i108_ p5_))
                  have hg4_ := znx_ge (b := b_) (n := n_) (s := (ze N104_ 81 4).toNat)
                  have hkm_ := zKp.fr hsN125_ hkp_ (by decide)
                  have hl5_ : ∀ i : Nat, i < (ze Mz 81 12).toNat → ze N125_ 83 (6 * (ze Mz 81 13).toNat + i) = ((l_.getD i 0 : Nat) : Int) := fun i hi => (hsN125_.ie (by decide) (by decide) _).trans (hl4_ i hi)
                  show zW l m_M_moveLine (zn Mz + 0, zw Mz + 0) N125_ 144 [some (.ref 81), some (.int (Int32.ofInt (ze Mz 81 4))), some (.int (Int32.ofInt u102_)), some (.int (Int32.ofInt u103_)), none] [] _
                  refine zw_aload_n (pc := 144) (n := 0) (x := 81) rfl d_M_moveLine_144 ?_
                  refine zr_getI (hf_N125_.w hW) (pc := 145) f_M_172 rfl d_M_moveLine_145 ?_
                  refine zr_if_le (pc := 148) (tgt := 152) ⟨(ze_r N125_ 81 7).1, (ze_r N125_ 81 7).2⟩ (by decide) d_M_moveLine_148 (fun hc_148 => ?_) (fun hc_148 => ?_)
                  · skip
                    refine zw_aload_n (pc := 152) (n := 0) (x := 81) rfl (zdal_p dlC_M_moveLine_85 (i := 9) rfl) ?_
                    refine zw_dup (pc := 153) rfl (zdal_p dlC_M_moveLine_85 (i := 10) rfl) ?_
                    refine zr_getI (hf_N125_.w hW) (pc := 154) f_M_199 rfl (zdal_p dlC_M_moveLine_85 (i := 11) rfl) ?_
                    refine zw_iconst (pc := 157) (v := Int32.ofInt 1) (by decide) (zdal_p dlC_M_moveLine_85 (i := 12) rfl) ?_
                    refine zr_iadd (pc := 158) (zdal_p dlC_M_moveLine_85 (i := 13) rfl) ?_
                    refine zr_putI (hf_N125_.w hW) (pc := 159) f_M_199 rfl rfl ⟨by (exact zo_1363 e13_N104_ e13_N125_ e13_N93_ hc_10), by (exact zo_1338 e13_N104_ e13_N125_ e13_N93_ p8_)⟩ rfl rfl (zdal_p dlC_M_moveLine_85 (i := 14) rfl) (fun N130_ hsN130_ hvN130_ => ?_)
                    have hf_N130_ : zFr [3, 4, 5, 6, 7, 8, 11, 13, 20] [83, 85, 86, 87, 88] Mz N130_ := hf_N125_.tr hsN130_ (by decide) (by decide)
                    have e3_N130_ : ze N130_ 81 3 = ze N125_ 81 3 := hsN130_.e (by decide)
                    have e4_N130_ : ze N130_ 81 4 = ze N125_ 81 4 := hsN130_.e (by decide)
                    have e5_N130_ : ze N130_ 81 5 = ze N125_ 81 5 := hsN130_.e (by decide)
                    have e6_N130_ : ze N130_ 81 6 = ze N125_ 81 6 := hsN130_.e (by decide)
                    have e7_N130_ : ze N130_ 81 7 = ze N125_ 81 7 := hsN130_.e (by decide)
                    have e12_N130_ : ze N130_ 81 12 = ze N125_ 81 12 := hsN130_.e (by decide)
                    have r13_N130_ := ze_r N130_ 81 13
                    have e20_N130_ : ze N130_ 81 20 = ze N125_ 81 20 := hsN130_.e (by decide)
                    have c132_ : zB 85 144 0 5 N130_ := zB.fr hsN130_ c128_ (by decide) (by decide)
                    have c133_ : zB 83 24 0 5 N130_ := zB.fr hsN130_ c129_ (by decide) (by decide)
                    have c134_ : zRt b_ n_ N130_ := zRt.fr hsN130_ hp0_N125_ (by decide) (by decide)
                    have hmv_ := zMvs_u (M := Mz) (N := N130_) (l := l_) (P := (ze Mz 81 12).toNat) (by (exact zo_1339 p5_)) (by (exact zo_1340 p5_ p6_)) (by (exact p7_)) (by (exact zo_230 e12_N125_ e12_N130_ zz12_N104_)) (by (exact zo_1364 e13_N104_ e13_N125_ e13_N93_ hc_10 hl33_1_i109_ hvN130_ r13_N130_.1 r13_N130_.2)) (zKp.fr hsN130_ hkm_ (by decide)) (fun i hi => (hsN130_.ie (by decide) (by decide) _).trans (hl5_ i hi))
                    have hpl_ := zmc_p (P := (ze Mz 81 12).toNat) (l := l_) (by (exact zo_1340 p5_ p6_)) hl3_ hl2_
                    have hPm_ : zPm N130_ := fun g_ hg_ => by rw [hmv_] at hg_; exact (List.mem_append.mp hg_).elim (p9_ g_) (fun e_ => by rw [List.mem_singleton.mp e_]; exact hpl_.1)
                    refine zw_aload_n (pc := 162) (n := 0) (x := 81) rfl (zdal_p dlC_M_moveLine_85 (i := 15) rfl) ?_
                    refine zr_callV (hf_N130_.w hW) hf_N130_.x (pc := 163) [] [] l_M_226 (c_M_buildsMembers l N130_ (hf_N130_.w hW) (show 1 ≤ ze N130_ 81 12 by first | with_reducible assumption | (exact zo_1342 e12_N125_ e12_N130_ p5_ zz12_N104_) | assumption) (show ze N130_ 81 12 ≤ 6 by first | with_reducible assumption | (exact zo_1343 e12_N125_ e12_N130_ p6_ zz12_N104_) | assumption) (show 0 ≤ ze N130_ 81 13 by first | with_reducible assumption | (exact zo_1365 e13_N104_ e13_N125_ e13_N93_ hc_10 hvN130_ r13_N130_.1) | assumption) (show ze N130_ 81 13 ≤ 4 by first | with_reducible assumption | (exact zo_1345 e13_N104_ e13_N125_ e13_N93_ hl33_1_i109_ hvN130_ r13_N130_.2) | assumption) hPm_ c133_ c132_) rfl rfl rfl (by decide) (Nat.le_of_ble_eq_true rfl) (zdal_p dlC_M_moveLine_85 (i := 16) rfl) ?_
                    rintro _ N135_ ⟨v136_, rfl, ⟨hv136_a, hv136_b⟩, hsN135_, ⟨hp0_N135_, hp1_N135_⟩⟩
                    have hf_N135_ : zFr [3, 4, 5, 6, 7, 8, 11, 13, 20] [83, 85, 86, 87, 88] Mz N135_ := hf_N130_.tr hsN135_ (by decide) (by decide)
                    have e3_N135_ : ze N135_ 81 3 = ze N130_ 81 3 := hsN135_.e (by decide)
                    have e4_N135_ : ze N135_ 81 4 = ze N130_ 81 4 := hsN135_.e (by decide)
                    have e5_N135_ : ze N135_ 81 5 = ze N130_ 81 5 := hsN135_.e (by decide)
                    have e6_N135_ : ze N135_ 81 6 = ze N130_ 81 6 := hsN135_.e (by decide)
                    have e7_N135_ : ze N135_ 81 7 = ze N130_ 81 7 := hsN135_.e (by decide)
                    have e12_N135_ : ze N135_ 81 12 = ze N130_ 81 12 := hsN135_.e (by decide)
                    have e13_N135_ : ze N135_ 81 13 = ze N130_ 81 13 := hsN135_.e (by decide)
                    have r20_N135_ := ze_r N135_ 81 20
                    have c138_ : zB 83 24 0 5 N135_ := zB.fr hsN135_ c133_ (by decide) (by decide)
                    have c139_ : zRt b_ n_ N135_ := zRt.fr hsN135_ c134_ (by decide) (by decide)
                    have c140_ : zPm N135_ := zPm.fr hsN135_ hPm_ (by decide) (by decide)
                    rcases hp1_N135_ with ⟨rfl, ha163_0_hp1_N135_, ha163_1_hp1_N135_, ha163_2_hp1_N135_, ha163_3_hp1_N135_⟩ | ⟨rfl, ha163_0_hp1_N135_⟩
                    · skip
                      have hPq_ : zPm N135_ := zPm.fr hsN135_ hPm_ (by decide) (by decide)
                      have hFq_ : zFin N135_ := zFin.fr hsN135_ ha163_0_hp1_N135_ (by decide) (by decide)
                      have hmq_ : zMvs N135_ = zMvs Mz ++ [zmc (ze Mz 81 12).toNat l_] := (zMvs_f hsN135_ (by decide) (by decide)).trans hmv_
                      have hgf_ : gFin (zMvs Mz ++ [zmc (ze Mz 81 12).toNat l_]) := by rw [← hmq_]; exact hFq_
                      have hfin_ : zbs b_ n_ (ze Mz 81 12).toNat (0, (ze Mz 81 4).toNat, zMvs Mz) = (0, (ze N135_ 81 4).toNat, zMvs N135_) := by rw [hmq_, zbs_t hl0_ (by (exact zo_1366 hc_10 hl33_1_i109_ hml_ p8_)) hl1_ ⟨hsg_, hgf_⟩, ← hx4_, show ze N135_ 81 4 = ze N125_ 81 4 by omega]
                      show zW l m_M_moveLine (zn Mz + 0, zw Mz + 0) N135_ 166 [some (.ref 81), some (.int (Int32.ofInt (ze Mz 81 4))), some (.int (Int32.ofInt u102_)), some (.int (Int32.ofInt u103_)), none] [.int (Int32.ofInt 1)] _
                      refine zr_if_ne (pc := 166) (tgt := 175) ⟨(by decide), (by decide)⟩ (by decide) (zdal_p dlC_M_moveLine_85 (i := 17) rfl) (fun hc_166 => ?_) (fun hc_166 => ?_)
                      · skip
                        exact zr_vret (pc := 175) rfl hf_N135_ ⟨c139_, (show 0 ≤ ze N135_ 81 13 by first | with_reducible assumption | assumption | omega), (show ze N135_ 81 13 ≤ 4 by first | with_reducible assumption | assumption | omega), c138_, hp0_N135_, (show ((1 ≤ ze N135_ 81 7 ∧ zbs b_ n_ (ze Mz 81 12).toNat (0, (ze Mz 81 4).toNat, zMvs Mz) = zMf) ∨ (ze N135_ 81 7 = 0 ∧ zbs b_ n_ (ze Mz 81 12).toNat (0, (ze Mz 81 4).toNat, zMvs Mz) = (0, (ze N135_ 81 4).toNat, zMvs N135_) ∧ zPm N135_ ∧ zFin N135_ ∧ ze Mz 81 4 < ze N135_ 81 4)) from Or.inr (⟨(show ze N135_ 81 7 = 0 by first | omega | exact hfin_ | exact hPq_ | exact hFq_), (show zbs b_ n_ (ze Mz 81 12).toNat (0, (ze Mz 81 4).toNat, zMvs Mz) = (0, (ze N135_ 81 4).toNat, zMvs N135_) by first | omega | exact hfin_ | exact hPq_ | exact hFq_), (show zPm N135_ by first | omega | exact hfin_ | exact hPq_ | exact hFq_), (show zFin N135_ by first | omega | exact hfin_ | exact hPq_ | exact hFq_), (show ze Mz 81 4 < ze N135_ 81 4 by first | omega | exact hfin_ | exact hPq_ | exact hFq_)⟩))⟩ (zdal_p dlC_M_moveLine_85 (i := 22) rfl)
                      · skip
                        exact absurd hc_166 (by decide)
                    · skip
                      have hnf_ := ha163_0_hp1_N135_
                      have hrt_ : zbs b_ n_ (ze Mz 81 12).toNat (0, (ze Mz 81 4).toNat, zMvs Mz) = zMf := zbs_f hl0_ hl1_ (fun q_ => hnf_ (by have h_ := q_.2; rw [← hmv_] at h_; exact h_))
                      show zW l m_M_moveLine (zn Mz + 0, zw Mz + 0) N135_ 166 [some (.ref 81), some (.int (Int32.ofInt (ze Mz 81 4))), some (.int (Int32.ofInt u102_)), some (.int (Int32.ofInt u103_)), none] [.int (Int32.ofInt 0)] _
                      refine zr_if_ne (pc := 166) (tgt := 175) ⟨(by decide), (by decide)⟩ (by decide) (zdal_p dlC_M_moveLine_85 (i := 17) rfl) (fun hc_166 => ?_) (fun hc_166 => ?_)
                      · skip
                        exact absurd hc_166 (by decide)
                      · skip
                        refine zw_aload_n (pc := 169) (n := 0) (x := 81) rfl (zdal_p dlC_M_moveLine_85 (i := 18) rfl) ?_
                        refine zw_iconst (pc := 170) (v := Int32.ofInt 5) (by decide) (zdal_p dlC_M_moveLine_85 (i := 19) rfl) ?_
                        refine zw_iload_n (pc := 171) (n := 1) (x := Int32.ofInt (ze Mz 81 4)) rfl (zdal_p dlC_M_moveLine_85 (i := 20) rfl) ?_
                        refine zr_callV (hf_N135_.w hW) hf_N135_.x (pc := 172) [.int (Int32.ofInt 5), .int (Int32.ofInt (ze Mz 81 4))] [] l_M_168 (c_M_wrongAtF l N135_ (hf_N135_.w hW) 5 (by decide) (by decide) (ze Mz 81 4) (ze_r Mz 81 4).1 (ze_r Mz 81 4).2 (show 1 ≤ 5 by first | with_reducible assumption | assumption | omega)) rfl rfl rfl (by decide) (Nat.le_of_ble_eq_true rfl) (zdal_p dlC_M_moveLine_85 (i := 21) rfl) ?_
                        rintro _ N141_ ⟨rfl, hsN141_, hp0_N141_⟩
                        replace hp0_N141_ : 1 ≤ ze N141_ 81 7 := hp0_N141_
                        have hf_N141_ : zFr [3, 4, 5, 6, 7, 8, 11, 13, 20] [83, 85, 86, 87, 88] Mz N141_ := hf_N135_.tr hsN141_ (by decide) (by decide)
                        have e3_N141_ : ze N141_ 81 3 = ze N135_ 81 3 := hsN141_.e (by decide)
                        have e4_N141_ : ze N141_ 81 4 = ze N135_ 81 4 := hsN141_.e (by decide)
                        have e5_N141_ : ze N141_ 81 5 = ze N135_ 81 5 := hsN141_.e (by decide)
                        have e6_N141_ : ze N141_ 81 6 = ze N135_ 81 6 := hsN141_.e (by decide)
                        have r7_N141_ := ze_r N141_ 81 7
                        have e12_N141_ : ze N141_ 81 12 = ze N135_ 81 12 := hsN141_.e (by decide)
                        have e13_N141_ : ze N141_ 81 13 = ze N135_ 81 13 := hsN141_.e (by decide)
                        have e20_N141_ : ze N141_ 81 20 = ze N135_ 81 20 := hsN141_.e (by decide)
                        have c144_ : zB 83 24 0 5 N141_ := zB.fr hsN141_ c138_ (by decide) (by decide)
                        have c145_ : zRt b_ n_ N141_ := zRt.fr hsN141_ c139_ (by decide) (by decide)
                        have c146_ : zPm N141_ := zPm.fr hsN141_ c140_ (by decide) (by decide)
                        have c147_ : zB 85 144 0 5 N141_ := zB.fr hsN141_ hp0_N135_ (by decide) (by decide)
                        show zW l m_M_moveLine (zn Mz + 0, zw Mz + 0) N141_ 175 [some (.ref 81), some (.int (Int32.ofInt (ze Mz 81 4))), some (.int (Int32.ofInt u102_)), some (.int (Int32.ofInt u103_)), none] [] _
                        exact zr_vret (pc := 175) rfl hf_N141_ ⟨c145_, (show 0 ≤ ze N141_ 81 13 by first | with_reducible assumption | assumption | omega), (show ze N141_ 81 13 ≤ 4 by first | with_reducible assumption | assumption | omega), c144_, c147_, (show ((1 ≤ ze N141_ 81 7 ∧ zbs b_ n_ (ze Mz 81 12).toNat (0, (ze Mz 81 4).toNat, zMvs Mz) = zMf) ∨ (ze N141_ 81 7 = 0 ∧ zbs b_ n_ (ze Mz 81 12).toNat (0, (ze Mz 81 4).toNat, zMvs Mz) = (0, (ze N141_ 81 4).toNat, zMvs N141_) ∧ zPm N141_ ∧ zFin N141_ ∧ ze Mz 81 4 < ze N141_ 81 4)) from Or.inl (⟨(show 1 ≤ ze N141_ 81 7 by first | with_reducible assumption | assumption | omega | exact hrt_ | exact hrt2_), (show zbs b_ n_ (ze Mz 81 12).toNat (0, (ze Mz 81 4).toNat, zMvs Mz) = zMf by first | with_reducible assumption | assumption | omega | exact hrt_ | exact hrt2_)⟩))⟩ (zdal_p dlC_M_moveLine_85 (i := 22) rfl)
                  · skip
                    exfalso; (exact zo_1328 ha141_0_hp1_N125_ hc_148)
              · skip
                refine zw_aload_n (pc := 41) (n := 0) (x := 81) rfl (zdal_p dlC_M_moveLine_82 (i := 23) rfl) ?_
                refine zr_callV (hf_N104_.w hW) hf_N104_.x (pc := 42) [] [] l_M_183 (c_M_isGood l N104_ (hf_N104_.w hW) ) rfl rfl rfl (by decide) (Nat.le_of_ble_eq_true rfl) (zdal_p dlC_M_moveLine_83 (i := 0) rfl) ?_
                rintro _ N148_ ⟨v149_, rfl, ⟨hv149_a, hv149_b⟩, hsN148_, hp0_N148_⟩
                obtain rfl := hsN148_.eq.symm
                replace hp0_N148_ : ((v149_ = 1 ∧ ze N104_ 81 7 = 0) ∨ (v149_ = 0 ∧ ze N104_ 81 7 ≠ 0)) := hp0_N148_
                rcases hp0_N148_ with ⟨rfl, ha42_0_hp0_N148_⟩ | ⟨rfl, ha42_0_hp0_N148_⟩
                · skip
                  show zW l m_M_moveLine (zn Mz + 0, zw Mz + 0) N104_ 45 [some (.ref 81), some (.int (Int32.ofInt (ze Mz 81 4))), some (.int (Int32.ofInt u102_)), some (.int (Int32.ofInt u103_)), none] [.int (Int32.ofInt 1)] _
                  refine zr_if_eq (pc := 45) (tgt := 138) ⟨(by decide), (by decide)⟩ (by decide) (zdal_p dlC_M_moveLine_83 (i := 1) rfl) (fun hc_45 => ?_) (fun hc_45 => ?_)
                  · skip
                    exact absurd hc_45 (by decide)
                  · skip
                    have hyt_ := i106_
                    have hyx_ := hyt_.x
                    have h5_ := hyt_.2.2.1
                    refine zw_aload_n (pc := 48) (n := 0) (x := 81) rfl (zdal_p dlC_M_moveLine_83 (i := 2) rfl) ?_
                    refine zr_getI (hf_N104_.w hW) (pc := 49) f_M_155 rfl (zdal_p dlC_M_moveLine_83 (i := 3) rfl) ?_
                    refine zw_iconst (pc := 52) (v := Int32.ofInt 2) (by decide) (zdal_p dlC_M_moveLine_83 (i := 4) rfl) ?_
                    refine zr_icmp_eq (pc := 53) (tgt := 61) ⟨(ze_r N104_ 81 5).1, (ze_r N104_ 81 5).2⟩ ⟨(by decide), (by decide)⟩ (by decide) (zdal_p dlC_M_moveLine_83 (i := 5) rfl) (fun hc_53 => ?_) (fun hc_53 => ?_)
                    · skip
                      have hv2_ : ze N104_ 81 7 = 0 → ze N104_ 81 6 = znu b_ n_ (ze N104_ 81 4).toNat ∧ 0 ≤ ze N104_ 81 6 ∧ ze N104_ 81 6 ≤ 999 := fun q_ => i106_.v2 (by (exact zo_759 h5_ hc_53))
                      refine zw_aload_n (pc := 61) (n := 0) (x := 81) rfl (zdal_p dlC_M_moveLine_83 (i := 9) rfl) ?_
                      refine zr_getI (hf_N104_.w hW) (pc := 62) f_M_152 rfl (zdal_p dlC_M_moveLine_83 (i := 10) rfl) ?_
                      refine zw_istore (pc := 65) (i := 4) (L2 := [some (.ref 81), some (.int (Int32.ofInt (ze Mz 81 4))), some (.int (Int32.ofInt u102_)), some (.int (Int32.ofInt u103_)), some (.int (Int32.ofInt (ze N104_ 81 6)))]) (by decide) rfl (zdal_p dlC_M_moveLine_83 (i := 11) rfl) ?_
                      refine zw_aload_n (pc := 67) (n := 0) (x := 81) rfl (zdal_p dlC_M_moveLine_83 (i := 12) rfl) ?_
                      refine zr_callV (hf_N104_.w hW) hf_N104_.x (pc := 68) [] [] l_M_183 (c_M_isGood l N104_ (hf_N104_.w hW) ) rfl rfl rfl (by decide) (Nat.le_of_ble_eq_true rfl) (zdal_p dlC_M_moveLine_83 (i := 13) rfl) ?_
                      rintro _ N150_ ⟨v151_, rfl, ⟨hv151_a, hv151_b⟩, hsN150_, hp0_N150_⟩
                      obtain rfl := hsN150_.eq.symm
                      replace hp0_N150_ : ((v151_ = 1 ∧ ze N104_ 81 7 = 0) ∨ (v151_ = 0 ∧ ze N104_ 81 7 ≠ 0)) := hp0_N150_
                      rcases hp0_N150_ with ⟨rfl, ha68_0_hp0_N150_⟩ | ⟨rfl, ha68_0_hp0_N150_⟩
                      · skip
                        show zW l m_M_moveLine (zn Mz + 0, zw Mz + 0) N104_ 71 [some (.ref 81), some (.int (Int32.ofInt (ze Mz 81 4))), some (.int (Int32.ofInt u102_)), some (.int (Int32.ofInt u103_)), some (.int (Int32.ofInt (ze N104_ 81 6)))] [.int (Int32.ofInt 1)] _
                        refine zr_if_eq (pc := 71) (tgt := 97) ⟨(by decide), (by decide)⟩ (by decide) (zdal_p dlC_M_moveLine_83 (i := 14) rfl) (fun hc_71 => ?_) (fun hc_71 => ?_)
                        · skip
                          exact absurd hc_71 (by decide)
                        · skip
                          refine zw_iload (pc := 74) (i := 4) (x := Int32.ofInt (ze N104_ 81 6)) rfl (zdal_p dlC_M_moveLine_83 (i := 15) rfl) ?_
                          refine zw_aload_n (pc := 76) (n := 0) (x := 81) rfl (zdal_p dlC_M_moveLine_83 (i := 16) rfl) ?_
                          refine zr_getI0 hf_N104_ hW (pc := 77) (by decide) f_M_115 rfl (zdal_p dlC_M_moveLine_83 (i := 17) rfl) ?_
                          refine zr_icmp_ge (pc := 80) (tgt := 92) ⟨(ze_r N104_ 81 6).1, (ze_r N104_ 81 6).2⟩ ⟨(ze_r Mz 81 12).1, (ze_r Mz 81 12).2⟩ (by decide) (zdal_p dlC_M_moveLine_83 (i := 18) rfl) (fun hc_80 => ?_) (fun hc_80 => ?_)
                          · skip
                            have hno_ : zrm b_ n_ (ze Mz 81 12).toNat (ze Mz 81 12).toNat (znx b_ n_ (ze Mz 81 4).toNat) [] = none := zMrI_f hmi_ (by (exact i107_)) (by (exact zo_1347 hc_38)) (fun q_ => by have h1_ := q_.2.1; have h2_ := hv2_ (by (exact hl33_0_i109_)); first | (exact zo_1367 hc_10 hl33_1_i109_) | (have h3_ := q_.2.2; rw [← h2_.1] at h3_; exact h3_ hbt_)) (by (exact zo_1340 p5_ p6_))
                            have hrt_ : zbs b_ n_ (ze Mz 81 12).toNat (0, (ze Mz 81 4).toNat, zMvs Mz) = zMf := zbs_n hl0_ hno_
                            refine zw_aload_n (pc := 92) (n := 0) (x := 81) rfl (zdal_p dlC_M_moveLine_83 (i := 23) rfl) ?_
                            refine zw_iconst (pc := 93) (v := Int32.ofInt 4) (by decide) (zdal_p dlC_M_moveLine_84 (i := 0) rfl) ?_
                            refine zr_callV (hf_N104_.w hW) hf_N104_.x (pc := 94) [.int (Int32.ofInt 4)] [] l_M_190 (c_M_wrongF l N104_ (hf_N104_.w hW) 4 (by decide) (by decide) (show 1 ≤ 4 by first | with_reducible assumption | (decide) | assumption)) rfl rfl rfl (by decide) (Nat.le_of_ble_eq_true rfl) (zdal_p dlC_M_moveLine_84 (i := 1) rfl) ?_
                            rintro _ N152_ ⟨rfl, hsN152_, hp0_N152_⟩
                            replace hp0_N152_ : 1 ≤ ze N152_ 81 7 := hp0_N152_
                            have hf_N152_ : zFr [3, 4, 5, 6, 7, 8, 11, 13, 20] [83, 85, 86, 87, 88] Mz N152_ := hf_N104_.tr hsN152_ (by decide) (by decide)
                            have hb0_N152_ : zFr [3, 4, 5, 6, 7, 8, 11] [83] N93_ N152_ := hs105_.tr hsN152_ (by decide) (by decide)
                            have e3_N152_ : ze N152_ 81 3 = ze N104_ 81 3 := hsN152_.e (by decide)
                            have e4_N152_ : ze N152_ 81 4 = ze N104_ 81 4 := hsN152_.e (by decide)
                            have e5_N152_ : ze N152_ 81 5 = ze N104_ 81 5 := hsN152_.e (by decide)
                            have e6_N152_ : ze N152_ 81 6 = ze N104_ 81 6 := hsN152_.e (by decide)
                            have r7_N152_ := ze_r N152_ 81 7
                            have e12_N152_ : ze N152_ 81 12 = ze N104_ 81 12 := hsN152_.e (by decide)
                            have e13_N152_ : ze N152_ 81 13 = ze N104_ 81 13 := hsN152_.e (by decide)
                            have e20_N152_ : ze N152_ 81 20 = ze N104_ 81 20 := hsN152_.e (by decide)
                            have c155_ : zB 85 144 0 5 N152_ := zB.fr hsN152_ c112_ (by decide) (by decide)
                            have c156_ : zRt b_ n_ N152_ := zRt.fr hsN152_ i106_ (by decide) (by decide)
                            have c157_ : zB 83 24 0 5 N152_ := zB.fr hsN152_ i110_ (by decide) (by decide)
                            show zW l m_M_moveLine (zn Mz + 0, zw Mz + 0) N152_ 97 [some (.ref 81), some (.int (Int32.ofInt (ze Mz 81 4))), some (.int (Int32.ofInt u102_)), some (.int (Int32.ofInt u103_)), some (.int (Int32.ofInt (ze N104_ 81 6)))] [] _
                            refine zw_aload_n (pc := 97) (n := 0) (x := 81) rfl d_M_moveLine_97 ?_
                            refine zr_getI (hf_N152_.w hW) (pc := 98) f_M_172 rfl d_M_moveLine_98 ?_
                            refine zr_if_le (pc := 101) (tgt := 105) ⟨(ze_r N152_ 81 7).1, (ze_r N152_ 81 7).2⟩ (by decide) d_M_moveLine_101 (fun hc_101 => ?_) (fun hc_101 => ?_)
                            · skip
                              exfalso; (exact zo_1329 hc_101 hp0_N152_)
                            · skip
                              exact zr_vret (pc := 104) rfl hf_N152_ ⟨c156_, (show 0 ≤ ze N152_ 81 13 by first | with_reducible assumption | (exact zo_1362 e13_N104_ e13_N152_ e13_N93_ hc_10) | assumption), (show ze N152_ 81 13 ≤ 4 by first | with_reducible assumption | (exact zo_1335 e13_N104_ e13_N152_ e13_N93_ p8_) | assumption), c157_, c155_, (show ((1 ≤ ze N152_ 81 7 ∧ zbs b_ n_ (ze Mz 81 12).toNat (0, (ze Mz 81 4).toNat, zMvs Mz) = zMf) ∨ (ze N152_ 81 7 = 0 ∧ zbs b_ n_ (ze Mz 81 12).toNat (0, (ze Mz 81 4).toNat, zMvs Mz) = (0, (ze N152_ 81 4).toNat, zMvs N152_) ∧ zPm N152_ ∧ zFin N152_ ∧ ze Mz 81 4 < ze N152_ 81 4)) from Or.inl (⟨(show 1 ≤ ze N152_ 81 7 by first | with_reducible assumption | assumption | omega | exact hrt_ | exact hrt2_), (show zbs b_ n_ (ze Mz 81 12).toNat (0, (ze Mz 81 4).toNat, zMvs Mz) = zMf by first | with_reducible assumption | assumption | omega | exact hrt_ | exact hrt2_)⟩))⟩ d_M_moveLine_104
                          · skip
                            refine zw_iload_n (pc := 83) (n := 2) (x := Int32.ofInt u102_) rfl (zdal_p dlC_M_moveLine_83 (i := 19) rfl) ?_
                            refine zw_iload (pc := 84) (i := 4) (x := Int32.ofInt (ze N104_ 81 6)) rfl (zdal_p dlC_M_moveLine_83 (i := 20) rfl) ?_
                            refine zr_callS hf_N104_.x (pc := 86) [.int (Int32.ofInt u102_), .int (Int32.ofInt (ze N104_ 81 6))] [] l_M_213 (c_M_holds l N104_ (hf_N104_.w hW) u102_ hu102_a hu102_b (ze N104_ 81 6) (ze_r N104_ 81 6).1 (ze_r N104_ 81 6).2 (show 0 ≤ u102_ by first | with_reducible assumption | (exact zo_57 hme_.1) | assumption) (show 0 ≤ (ze N104_ 81 6) by first | with_reducible assumption | assumption | omega) (show (ze N104_ 81 6) < 32 by first | with_reducible assumption | (exact zo_1351 hc_80 p6_ r6_N104_.2) | assumption)) rfl rfl (by decide) (Nat.le_of_ble_eq_true rfl) (zdal_p dlC_M_moveLine_83 (i := 21) rfl) ?_
                            rintro _ N158_ ⟨v159_, rfl, ⟨hv159_a, hv159_b⟩, hsN158_, hp0_N158_⟩
                            obtain rfl := hsN158_.eq.symm
                            replace hp0_N158_ : ((v159_ = 1 ∧ zbt u102_ (ze N104_ 81 6)) ∨ (v159_ = 0 ∧ ¬ zbt u102_ (ze N104_ 81 6))) := hp0_N158_
                            rcases hp0_N158_ with ⟨rfl, ha86_0_hp0_N158_⟩ | ⟨rfl, ha86_0_hp0_N158_⟩
                            · skip
                              have hbt_ := ha86_0_hp0_N158_
                              show zW l m_M_moveLine (zn Mz + 0, zw Mz + 0) N104_ 89 [some (.ref 81), some (.int (Int32.ofInt (ze Mz 81 4))), some (.int (Int32.ofInt u102_)), some (.int (Int32.ofInt u103_)), some (.int (Int32.ofInt (ze N104_ 81 6)))] [.int (Int32.ofInt 1)] _
                              refine zr_if_eq (pc := 89) (tgt := 97) ⟨(by decide), (by decide)⟩ (by decide) (zdal_p dlC_M_moveLine_83 (i := 22) rfl) (fun hc_89 => ?_) (fun hc_89 => ?_)
                              · skip
                                exact absurd hc_89 (by decide)
                              · skip
                                have hno_ : zrm b_ n_ (ze Mz 81 12).toNat (ze Mz 81 12).toNat (znx b_ n_ (ze Mz 81 4).toNat) [] = none := zMrI_f hmi_ (by (exact i107_)) (by (exact zo_1347 hc_38)) (fun q_ => by have h1_ := q_.2.1; have h2_ := hv2_ (by (exact hl33_0_i109_)); first | (exact zo_1367 hc_10 hl33_1_i109_) | (have h3_ := q_.2.2; rw [← h2_.1] at h3_; exact h3_ hbt_)) (by (exact zo_1340 p5_ p6_))
                                have hrt_ : zbs b_ n_ (ze Mz 81 12).toNat (0, (ze Mz 81 4).toNat, zMvs Mz) = zMf := zbs_n hl0_ hno_
                                refine zw_aload_n (pc := 92) (n := 0) (x := 81) rfl (zdal_p dlC_M_moveLine_83 (i := 23) rfl) ?_
                                refine zw_iconst (pc := 93) (v := Int32.ofInt 4) (by decide) (zdal_p dlC_M_moveLine_84 (i := 0) rfl) ?_
                                refine zr_callV (hf_N104_.w hW) hf_N104_.x (pc := 94) [.int (Int32.ofInt 4)] [] l_M_190 (c_M_wrongF l N104_ (hf_N104_.w hW) 4 (by decide) (by decide) (show 1 ≤ 4 by first | with_reducible assumption | (decide) | assumption)) rfl rfl rfl (by decide) (Nat.le_of_ble_eq_true rfl) (zdal_p dlC_M_moveLine_84 (i := 1) rfl) ?_
                                rintro _ N160_ ⟨rfl, hsN160_, hp0_N160_⟩
                                replace hp0_N160_ : 1 ≤ ze N160_ 81 7 := hp0_N160_
                                have hf_N160_ : zFr [3, 4, 5, 6, 7, 8, 11, 13, 20] [83, 85, 86, 87, 88] Mz N160_ := hf_N104_.tr hsN160_ (by decide) (by decide)
                                have hb0_N160_ : zFr [3, 4, 5, 6, 7, 8, 11] [83] N93_ N160_ := hs105_.tr hsN160_ (by decide) (by decide)
                                have e3_N160_ : ze N160_ 81 3 = ze N104_ 81 3 := hsN160_.e (by decide)
                                have e4_N160_ : ze N160_ 81 4 = ze N104_ 81 4 := hsN160_.e (by decide)
                                have e5_N160_ : ze N160_ 81 5 = ze N104_ 81 5 := hsN160_.e (by decide)
                                have e6_N160_ : ze N160_ 81 6 = ze N104_ 81 6 := hsN160_.e (by decide)
                                have r7_N160_ := ze_r N160_ 81 7
                                have e12_N160_ : ze N160_ 81 12 = ze N104_ 81 12 := hsN160_.e (by decide)
                                have e13_N160_ : ze N160_ 81 13 = ze N104_ 81 13 := hsN160_.e (by decide)
                                have e20_N160_ : ze N160_ 81 20 = ze N104_ 81 20 := hsN160_.e (by decide)
                                have c163_ : zB 85 144 0 5 N160_ := zB.fr hsN160_ c112_ (by decide) (by decide)
                                have c164_ : zRt b_ n_ N160_ := zRt.fr hsN160_ i106_ (by decide) (by decide)
                                have c165_ : zB 83 24 0 5 N160_ := zB.fr hsN160_ i110_ (by decide) (by decide)
                                show zW l m_M_moveLine (zn Mz + 0, zw Mz + 0) N160_ 97 [some (.ref 81), some (.int (Int32.ofInt (ze Mz 81 4))), some (.int (Int32.ofInt u102_)), some (.int (Int32.ofInt u103_)), some (.int (Int32.ofInt (ze N104_ 81 6)))] [] _
                                refine zw_aload_n (pc := 97) (n := 0) (x := 81) rfl d_M_moveLine_97 ?_
                                refine zr_getI (hf_N160_.w hW) (pc := 98) f_M_172 rfl d_M_moveLine_98 ?_
                                refine zr_if_le (pc := 101) (tgt := 105) ⟨(ze_r N160_ 81 7).1, (ze_r N160_ 81 7).2⟩ (by decide) d_M_moveLine_101 (fun hc_101 => ?_) (fun hc_101 => ?_)
                                · skip
                                  exfalso; (exact zo_1329 hc_101 hp0_N160_)
                                · skip
                                  exact zr_vret (pc := 104) rfl hf_N160_ ⟨c164_, (show 0 ≤ ze N160_ 81 13 by first | with_reducible assumption | (exact zo_1362 e13_N104_ e13_N160_ e13_N93_ hc_10) | assumption), (show ze N160_ 81 13 ≤ 4 by first | with_reducible assumption | (exact zo_1335 e13_N104_ e13_N160_ e13_N93_ p8_) | assumption), c165_, c163_, (show ((1 ≤ ze N160_ 81 7 ∧ zbs b_ n_ (ze Mz 81 12).toNat (0, (ze Mz 81 4).toNat, zMvs Mz) = zMf) ∨ (ze N160_ 81 7 = 0 ∧ zbs b_ n_ (ze Mz 81 12).toNat (0, (ze Mz 81 4).toNat, zMvs Mz) = (0, (ze N160_ 81 4).toNat, zMvs N160_) ∧ zPm N160_ ∧ zFin N160_ ∧ ze Mz 81 4 < ze N160_ 81 4)) from Or.inl (⟨(show 1 ≤ ze N160_ 81 7 by first | with_reducible assumption | assumption | omega | exact hrt_ | exact hrt2_), (show zbs b_ n_ (ze Mz 81 12).toNat (0, (ze Mz 81 4).toNat, zMvs Mz) = zMf by first | with_reducible assumption | assumption | omega | exact hrt_ | exact hrt2_)⟩))⟩ d_M_moveLine_104
                            · skip
                              have hnb_ := ha86_0_hp0_N158_
                              show zW l m_M_moveLine (zn Mz + 0, zw Mz + 0) N104_ 89 [some (.ref 81), some (.int (Int32.ofInt (ze Mz 81 4))), some (.int (Int32.ofInt u102_)), some (.int (Int32.ofInt u103_)), some (.int (Int32.ofInt (ze N104_ 81 6)))] [.int (Int32.ofInt 0)] _
                              refine zr_if_eq (pc := 89) (tgt := 97) ⟨(by decide), (by decide)⟩ (by decide) (zdal_p dlC_M_moveLine_83 (i := 22) rfl) (fun hc_89 => ?_) (fun hc_89 => ?_)
                              · skip
                                refine zw_aload_n (pc := 97) (n := 0) (x := 81) rfl d_M_moveLine_97 ?_
                                refine zr_getI (hf_N104_.w hW) (pc := 98) f_M_172 rfl d_M_moveLine_98 ?_
                                refine zr_if_le (pc := 101) (tgt := 105) ⟨(ze_r N104_ 81 7).1, (ze_r N104_ 81 7).2⟩ (by decide) d_M_moveLine_101 (fun hc_101 => ?_) (fun hc_101 => ?_)
                                · skip
                                  have hv3_ := hv2_ (by (exact hl33_0_i109_))
                                  refine zw_iload_n (pc := 105) (n := 2) (x := Int32.ofInt u102_) rfl (zdal_p dlC_M_moveLine_84 (i := 6) rfl) ?_
                                  refine zw_iconst (pc := 106) (v := Int32.ofInt 1) (by decide) (zdal_p dlC_M_moveLine_84 (i := 7) rfl) ?_
                                  refine zw_iload (pc := 107) (i := 4) (x := Int32.ofInt (ze N104_ 81 6)) rfl (zdal_p dlC_M_moveLine_84 (i := 8) rfl) ?_
                                  refine zr_ishl (pc := 109) (zdal_p dlC_M_moveLine_84 (i := 9) rfl) ?_
                                  have hr166_ := zshl_r 1 (ze N104_ 81 6)
                                  refine zr_ior (pc := 110) (zdal_p dlC_M_moveLine_84 (i := 10) rfl) ?_
                                  have hr167_ := zor_r u102_ (zshl 1 (ze N104_ 81 6))
                                  refine zw_istore_n (pc := 111) (i := 2) (L2 := [some (.ref 81), some (.int (Int32.ofInt (ze Mz 81 4))), some (.int (Int32.ofInt (zor u102_ (zshl 1 (ze N104_ 81 6))))), some (.int (Int32.ofInt u103_)), some (.int (Int32.ofInt (ze N104_ 81 6)))]) rfl (by decide) rfl (zdal_p dlC_M_moveLine_84 (i := 11) rfl) ?_
                                  refine zw_aload_n (pc := 112) (n := 0) (x := 81) rfl (zdal_p dlC_M_moveLine_84 (i := 12) rfl) ?_
                                  refine zr_getF (r := 83) (hf_N104_.w hW) (pc := 113) f_M_20 rfl (zh_83 (hf_N104_.w hW)).1 (zdal_p dlC_M_moveLine_84 (i := 13) rfl) ?_
                                  refine zw_bipush (pc := 116) (v := Int32.ofInt 6) (by decide) (zdal_p dlC_M_moveLine_84 (i := 14) rfl) ?_
                                  refine zw_aload_n (pc := 118) (n := 0) (x := 81) rfl (zdal_p dlC_M_moveLine_84 (i := 15) rfl) ?_
                                  refine zr_getI (hf_N104_.w hW) (pc := 119) f_M_199 rfl (zdal_p dlC_M_moveLine_84 (i := 16) rfl) ?_
                                  refine zr_imul (pc := 122) (zdal_p dlC_M_moveLine_84 (i := 17) rfl) ?_
                                  refine zw_iload_n (pc := 123) (n := 3) (x := Int32.ofInt u103_) rfl (zdal_p dlC_M_moveLine_84 (i := 18) rfl) ?_
                                  refine zr_iadd (pc := 124) (zdal_p dlC_M_moveLine_84 (i := 19) rfl) ?_
                                  refine zr_toI (show ((6 * (ze N104_ 81 13)) + u103_) = 6 * ze Mz 81 13 + u103_ by (exact zo_1352 e13_N104_ e13_N93_)) ?_
                                  refine zw_iload (pc := 125) (i := 4) (x := Int32.ofInt (ze N104_ 81 6)) rfl (zdal_p dlC_M_moveLine_84 (i := 20) rfl) ?_
                                  refine zr_iast (pc := 127) (zh_83 (hf_N104_.w hW)).2 (by decide) (by decide) (by (exact zo_1368 hc_10 i107_)) (by (exact zo_1353 hc_38 hl33_1_i109_ p6_)) (zdal_p dlC_M_moveLine_84 (i := 21) rfl) (fun N168_ hN168_ hsN168_ => ?_)
                                  have hf_N168_ : zFr [3, 4, 5, 6, 7, 8, 11, 13, 20] [83, 85, 86, 87, 88] Mz N168_ := hf_N104_.tr hsN168_ (by decide) (by decide)
                                  have hb0_N168_ : zFr [3, 4, 5, 6, 7, 8, 11] [83] N93_ N168_ := hs105_.tr hsN168_ (by decide) (by decide)
                                  have e3_N168_ : ze N168_ 81 3 = ze N104_ 81 3 := hsN168_.e (by decide)
                                  have e4_N168_ : ze N168_ 81 4 = ze N104_ 81 4 := hsN168_.e (by decide)
                                  have e5_N168_ : ze N168_ 81 5 = ze N104_ 81 5 := hsN168_.e (by decide)
                                  have e6_N168_ : ze N168_ 81 6 = ze N104_ 81 6 := hsN168_.e (by decide)
                                  have e7_N168_ : ze N168_ 81 7 = ze N104_ 81 7 := hsN168_.e (by decide)
                                  have e12_N168_ : ze N168_ 81 12 = ze N104_ 81 12 := hsN168_.e (by decide)
                                  have e13_N168_ : ze N168_ 81 13 = ze N104_ 81 13 := hsN168_.e (by decide)
                                  have e20_N168_ : ze N168_ 81 20 = ze N104_ 81 20 := hsN168_.e (by decide)
                                  have c169_ : zRb b_ n_ N168_ := zRb.fr hsN168_ c111_ (by decide) (by decide)
                                  have c171_ : zRt b_ n_ N168_ := zRt.fr hsN168_ i106_ (by decide) (by decide)
                                  have c172_ : zB 83 24 0 5 N168_ := zB.s i110_ hN168_ (by (exact zo_57 hv3_.2.1)) (by (exact zo_1354 hc_80 hv3_.2.2 p6_)) (by decide) (by decide)
                                  have hK1_ := zKp_s hkp_ (by (exact zo_1355 i107_)) (by (exact zo_1368 hc_10 i107_)) hN168_
                                  have hyt_ := c171_
                                  have hyx_ := hyt_.x
                                  refine zw_aload_n (pc := 128) (n := 0) (x := 81) rfl (zdal_p dlC_M_moveLine_84 (i := 22) rfl) ?_
                                  refine zr_callV (hf_N168_.w hW) hf_N168_.x (pc := 129) [] [] l_M_193 (c_M_goOnF l N168_ (hf_N168_.w hW) b_ n_ c169_ (show 0 ≤ ze N168_ 81 3 by first | with_reducible assumption | (exact zo_57 hyx_.2.1) | assumption) (show ze N168_ 81 3 ≤ n_ by first | with_reducible assumption | (exact zo_605 hyx_.2.2) | assumption)) rfl rfl rfl (by decide) (Nat.le_of_ble_eq_true rfl) (zdal_p dlC_M_moveLine_84 (i := 23) rfl) ?_
                                  rintro _ N173_ ⟨rfl, hsN173_, ⟨hp0_N173_, hp1_N173_⟩⟩
                                  have hf_N173_ : zFr [3, 4, 5, 6, 7, 8, 11, 13, 20] [83, 85, 86, 87, 88] Mz N173_ := hf_N168_.tr hsN173_ (by decide) (by decide)
                                  have hb0_N173_ : zFr [3, 4, 5, 6, 7, 8, 11] [83] N93_ N173_ := hb0_N168_.tr hsN173_ (by decide) (by decide)
                                  have r3_N173_ := ze_r N173_ 81 3
                                  have r4_N173_ := ze_r N173_ 81 4
                                  have r5_N173_ := ze_r N173_ 81 5
                                  have r6_N173_ := ze_r N173_ 81 6
                                  have e7_N173_ : ze N173_ 81 7 = ze N168_ 81 7 := hsN173_.e (by decide)
                                  have e12_N173_ : ze N173_ 81 12 = ze N168_ 81 12 := hsN173_.e (by decide)
                                  have e13_N173_ : ze N173_ 81 13 = ze N168_ 81 13 := hsN173_.e (by decide)
                                  have e20_N173_ : ze N173_ 81 20 = ze N168_ 81 20 := hsN173_.e (by decide)
                                  have c177_ : zB 83 24 0 5 N173_ := zB.fr hsN173_ c172_ (by decide) (by decide)
                                  show zW l m_M_moveLine (zn Mz + 0, zw Mz + 0) N173_ 132 [some (.ref 81), some (.int (Int32.ofInt (ze Mz 81 4))), some (.int (Int32.ofInt (zor u102_ (zshl 1 (ze N104_ 81 6))))), some (.int (Int32.ofInt u103_)), some (.int (Int32.ofInt (ze N104_ 81 6)))] [] _
                                  have hnn_ := hyt_.nx hp0_N173_
                                  have hR2_ := zMrI_s (M := N104_) (N := N168_) (N2 := N173_) hmi_ (by (exact i107_)) (by (exact zo_1347 hc_38)) (by (exact zo_1340 p5_ p6_)) (by (exact p7_)) (by omega) hv3_.1 (by (exact zo_57 hv3_.2.1)) (by (exact zo_1356 hc_80 hv3_.2.2)) hnb_ hN168_ (fun j_ => hsN173_.ie (by decide) (by decide) j_) (hnn_.2.trans (by rw [show ze N168_ 81 4 = ze N104_ 81 4 by (exact e4_N168_)]))
                                  have hK2_ := zKp.fr hsN173_ hK1_ (by decide)
                                  have hg2_ := znx_ge (b := b_) (n := n_) (s := (ze N168_ 81 4).toNat)
                                  refine zr_iinc (pc := 132) (i := 3) (a := u103_) (n := 1) (L2 := [some (.ref 81), some (.int (Int32.ofInt (ze Mz 81 4))), some (.int (Int32.ofInt (zor u102_ (zshl 1 (ze N104_ 81 6))))), some (.int (Int32.ofInt (u103_ + 1))), some (.int (Int32.ofInt (ze N104_ 81 6)))]) rfl (by decide) rfl (zdal_p dlC_M_moveLine_85 (i := 0) rfl) ?_
                                  refine zw_goto (pc := 135) (tgt := 33) (by decide) (zdal_p dlC_M_moveLine_85 (i := 1) rfl) ?_
                                  refine zW_le [some (.ref 81), some (.int (Int32.ofInt (ze Mz 81 4))), some (.int (Int32.ofInt (zor u102_ (zshl 1 (ze N104_ 81 6))))), some (.int (Int32.ofInt (u103_ + 1))), none] (⟨rfl, rfl, rfl, rfl, trivial⟩) ?_
                                  exact ih_33 (zor u102_ (zshl 1 (ze N104_ 81 6))) (by (exact zo_284 hr167_.1)) (by (exact zo_285 hr167_.2)) (u103_ + 1) (by (exact zo_74 i107_)) (by (exact zo_671 hc_38 p6_)) N173_ hb0_N173_ hp1_N173_ (show 0 ≤ (u103_ + 1) by first | with_reducible assumption | (exact zo_76 i107_) | assumption) (show (u103_ + 1) ≤ ze Mz 81 12 by first | with_reducible assumption | assumption | omega) (show (1 ≤ ze N173_ 81 7 ∧ zbs b_ n_ (ze Mz 81 12).toNat (0, (ze Mz 81 4).toNat, zMvs Mz) = zMf) ∨ (ze N173_ 81 7 = 0 ∧ ze Mz 81 13 ≤ 3 ∧ zMrI b_ n_ (ze Mz 81 12).toNat (znx b_ n_ (ze Mz 81 4).toNat) (ze Mz 81 13) N173_ (u103_ + 1) (zor u102_ (zshl 1 (ze N104_ 81 6))) ∧ zKp Mz N173_ (6 * ze Mz 81 13) ∧ ze Mz 81 4 < ze N173_ 81 4) from Or.inr (⟨(show ze N173_ 81 7 = 0 by first | with_reducible assumption | (exact zo_596 e7_N168_ e7_N173_ hl33_0_i109_) | exact hR2_ | exact hK2_ | assumption), (show ze Mz 81 13 ≤ 3 by first | with_reducible assumption | assumption | omega | exact hR2_ | exact hK2_), (show zMrI b_ n_ (ze Mz 81 12).toNat (znx b_ n_ (ze Mz 81 4).toNat) (ze Mz 81 13) N173_ (u103_ + 1) (zor u102_ (zshl 1 (ze N104_ 81 6))) by first | with_reducible assumption | assumption | omega | exact hR2_ | exact hK2_), (show zKp Mz N173_ (6 * ze Mz 81 13) by first | with_reducible assumption | assumption | omega | exact hR2_ | exact hK2_), (show ze Mz 81 4 < ze N173_ 81 4 by first | with_reducible assumption | (exact zo_1357 e4_N168_ hg2_ hl33_4_i109_ hnn_.2 hp0_N173_ r4_N173_.1 r_4.2) | exact hR2_ | exact hK2_ | assumption)⟩)) c177_ (by (exact zo_147 hc_38 hlt_33))
                                · skip
                                  exfalso; (exact zo_1358 hc_101 hl33_0_i109_)
                              · skip
                                exact absurd hc_89 (by decide)
                      · skip
                        exfalso; (exact zo_1367 hc_10 hl33_1_i109_)
                    · skip
                      have hno_ : zrm b_ n_ (ze Mz 81 12).toNat (ze Mz 81 12).toNat (znx b_ n_ (ze Mz 81 4).toNat) [] = none := zMrI_f hmi_ (by (exact i107_)) (by (exact zo_1347 hc_38)) (fun q_ => by have h1_ := q_.1; (exact zo_1367 hc_10 hl33_1_i109_)) (by (exact zo_1340 p5_ p6_))
                      have hrt_ : zbs b_ n_ (ze Mz 81 12).toNat (0, (ze Mz 81 4).toNat, zMvs Mz) = zMf := zbs_n hl0_ hno_
                      refine zw_aload_n (pc := 56) (n := 0) (x := 81) rfl (zdal_p dlC_M_moveLine_83 (i := 6) rfl) ?_
                      refine zw_iconst (pc := 57) (v := Int32.ofInt 2) (by decide) (zdal_p dlC_M_moveLine_83 (i := 7) rfl) ?_
                      refine zr_callV (hf_N104_.w hW) hf_N104_.x (pc := 58) [.int (Int32.ofInt 2)] [] l_M_190 (c_M_wrongF l N104_ (hf_N104_.w hW) 2 (by decide) (by decide) (show 1 ≤ 2 by first | with_reducible assumption | (decide) | assumption)) rfl rfl rfl (by decide) (Nat.le_of_ble_eq_true rfl) (zdal_p dlC_M_moveLine_83 (i := 8) rfl) ?_
                      rintro _ N178_ ⟨rfl, hsN178_, hp0_N178_⟩
                      replace hp0_N178_ : 1 ≤ ze N178_ 81 7 := hp0_N178_
                      have hf_N178_ : zFr [3, 4, 5, 6, 7, 8, 11, 13, 20] [83, 85, 86, 87, 88] Mz N178_ := hf_N104_.tr hsN178_ (by decide) (by decide)
                      have hb0_N178_ : zFr [3, 4, 5, 6, 7, 8, 11] [83] N93_ N178_ := hs105_.tr hsN178_ (by decide) (by decide)
                      have e3_N178_ : ze N178_ 81 3 = ze N104_ 81 3 := hsN178_.e (by decide)
                      have e4_N178_ : ze N178_ 81 4 = ze N104_ 81 4 := hsN178_.e (by decide)
                      have e5_N178_ : ze N178_ 81 5 = ze N104_ 81 5 := hsN178_.e (by decide)
                      have e6_N178_ : ze N178_ 81 6 = ze N104_ 81 6 := hsN178_.e (by decide)
                      have r7_N178_ := ze_r N178_ 81 7
                      have e12_N178_ : ze N178_ 81 12 = ze N104_ 81 12 := hsN178_.e (by decide)
                      have e13_N178_ : ze N178_ 81 13 = ze N104_ 81 13 := hsN178_.e (by decide)
                      have e20_N178_ : ze N178_ 81 20 = ze N104_ 81 20 := hsN178_.e (by decide)
                      have c181_ : zB 85 144 0 5 N178_ := zB.fr hsN178_ c112_ (by decide) (by decide)
                      have c182_ : zRt b_ n_ N178_ := zRt.fr hsN178_ i106_ (by decide) (by decide)
                      have c183_ : zB 83 24 0 5 N178_ := zB.fr hsN178_ i110_ (by decide) (by decide)
                      show zW l m_M_moveLine (zn Mz + 0, zw Mz + 0) N178_ 61 [some (.ref 81), some (.int (Int32.ofInt (ze Mz 81 4))), some (.int (Int32.ofInt u102_)), some (.int (Int32.ofInt u103_)), none] [] _
                      have hv2_ : ze N178_ 81 7 = 0 → ze N178_ 81 6 = znu b_ n_ (ze N178_ 81 4).toNat ∧ 0 ≤ ze N178_ 81 6 ∧ ze N178_ 81 6 ≤ 999 := fun q_ => c182_.v2 (by omega)
                      refine zw_aload_n (pc := 61) (n := 0) (x := 81) rfl (zdal_p dlC_M_moveLine_83 (i := 9) rfl) ?_
                      refine zr_getI (hf_N178_.w hW) (pc := 62) f_M_152 rfl (zdal_p dlC_M_moveLine_83 (i := 10) rfl) ?_
                      refine zw_istore (pc := 65) (i := 4) (L2 := [some (.ref 81), some (.int (Int32.ofInt (ze Mz 81 4))), some (.int (Int32.ofInt u102_)), some (.int (Int32.ofInt u103_)), some (.int (Int32.ofInt (ze N178_ 81 6)))]) (by decide) rfl (zdal_p dlC_M_moveLine_83 (i := 11) rfl) ?_
                      refine zw_aload_n (pc := 67) (n := 0) (x := 81) rfl (zdal_p dlC_M_moveLine_83 (i := 12) rfl) ?_
                      refine zr_callV (hf_N178_.w hW) hf_N178_.x (pc := 68) [] [] l_M_183 (c_M_isGood l N178_ (hf_N178_.w hW) ) rfl rfl rfl (by decide) (Nat.le_of_ble_eq_true rfl) (zdal_p dlC_M_moveLine_83 (i := 13) rfl) ?_
                      rintro _ N184_ ⟨v185_, rfl, ⟨hv185_a, hv185_b⟩, hsN184_, hp0_N184_⟩
                      obtain rfl := hsN184_.eq.symm
                      replace hp0_N184_ : ((v185_ = 1 ∧ ze N178_ 81 7 = 0) ∨ (v185_ = 0 ∧ ze N178_ 81 7 ≠ 0)) := hp0_N184_
                      rcases hp0_N184_ with ⟨rfl, ha68_0_hp0_N184_⟩ | ⟨rfl, ha68_0_hp0_N184_⟩
                      · skip
                        exfalso; (exact zo_281 ha68_0_hp0_N184_ hp0_N178_)
                      · skip
                        show zW l m_M_moveLine (zn Mz + 0, zw Mz + 0) N178_ 71 [some (.ref 81), some (.int (Int32.ofInt (ze Mz 81 4))), some (.int (Int32.ofInt u102_)), some (.int (Int32.ofInt u103_)), some (.int (Int32.ofInt (ze N178_ 81 6)))] [.int (Int32.ofInt 0)] _
                        refine zr_if_eq (pc := 71) (tgt := 97) ⟨(by decide), (by decide)⟩ (by decide) (zdal_p dlC_M_moveLine_83 (i := 14) rfl) (fun hc_71 => ?_) (fun hc_71 => ?_)
                        · skip
                          refine zw_aload_n (pc := 97) (n := 0) (x := 81) rfl d_M_moveLine_97 ?_
                          refine zr_getI (hf_N178_.w hW) (pc := 98) f_M_172 rfl d_M_moveLine_98 ?_
                          refine zr_if_le (pc := 101) (tgt := 105) ⟨(ze_r N178_ 81 7).1, (ze_r N178_ 81 7).2⟩ (by decide) d_M_moveLine_101 (fun hc_101 => ?_) (fun hc_101 => ?_)
                          · skip
                            exfalso; (exact zo_1329 hc_101 hp0_N178_)
                          · skip
                            exact zr_vret (pc := 104) rfl hf_N178_ ⟨c182_, (show 0 ≤ ze N178_ 81 13 by first | with_reducible assumption | (exact zo_1362 e13_N104_ e13_N178_ e13_N93_ hc_10) | assumption), (show ze N178_ 81 13 ≤ 4 by first | with_reducible assumption | (exact zo_1335 e13_N104_ e13_N178_ e13_N93_ p8_) | assumption), c183_, c181_, (show ((1 ≤ ze N178_ 81 7 ∧ zbs b_ n_ (ze Mz 81 12).toNat (0, (ze Mz 81 4).toNat, zMvs Mz) = zMf) ∨ (ze N178_ 81 7 = 0 ∧ zbs b_ n_ (ze Mz 81 12).toNat (0, (ze Mz 81 4).toNat, zMvs Mz) = (0, (ze N178_ 81 4).toNat, zMvs N178_) ∧ zPm N178_ ∧ zFin N178_ ∧ ze Mz 81 4 < ze N178_ 81 4)) from Or.inl (⟨(show 1 ≤ ze N178_ 81 7 by first | with_reducible assumption | assumption | omega | exact hrt_ | exact hrt2_), (show zbs b_ n_ (ze Mz 81 12).toNat (0, (ze Mz 81 4).toNat, zMvs Mz) = zMf by first | with_reducible assumption | assumption | omega | exact hrt_ | exact hrt2_)⟩))⟩ d_M_moveLine_104
                        · skip
                          exact absurd hc_71 (by decide)
                · skip
                  exfalso; (exact zo_1367 hc_10 hl33_1_i109_)
        exact lp_33 _ 0 (by decide) (by decide) 0 (by decide) (by decide) N93_ zFr.rf c96_ (show 0 ≤ (0 : Int) by first | with_reducible assumption | (decide) | assumption) (show (0 : Int) ≤ ze Mz 81 12 by first | with_reducible assumption | (exact zo_564 p5_) | assumption) (show (1 ≤ ze N93_ 81 7 ∧ zbs b_ n_ (ze Mz 81 12).toNat (0, (ze Mz 81 4).toNat, zMvs Mz) = zMf) ∨ (ze N93_ 81 7 = 0 ∧ ze Mz 81 13 ≤ 3 ∧ zMrI b_ n_ (ze Mz 81 12).toNat (znx b_ n_ (ze Mz 81 4).toNat) (ze Mz 81 13) N93_ (0 : Int) (0 : Int) ∧ zKp Mz N93_ (6 * ze Mz 81 13) ∧ ze Mz 81 4 < ze N93_ 81 4) from Or.inl (⟨(show 1 ≤ ze N93_ 81 7 by first | with_reducible assumption | assumption | omega | exact hml0_ | exact hkp0_), (show zbs b_ n_ (ze Mz 81 12).toNat (0, (ze Mz 81 4).toNat, zMvs Mz) = zMf by first | with_reducible assumption | assumption | omega | exact hml0_ | exact hkp0_)⟩)) c98_ (Nat.lt_succ_self _)
      · skip
        exact absurd hc_22 (by decide)
