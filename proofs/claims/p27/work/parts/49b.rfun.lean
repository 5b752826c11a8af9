set_option maxHeartbeats 40000000 in
theorem c_M_moveLineF (l : Launch) (Mz : zMem) (hW : zMt Mz) (b_ : Nat → Int) (n_ : Nat) (p0_ : zRb b_ n_ Mz) (p1_ : zRt b_ n_ Mz) (p2_ : ze Mz 81 7 = 0) (p3_ : zkd b_ n_ (ze Mz 81 4).toNat = 1) (p4_ : zkey b_ n_ (ze Mz 81 4).toNat = zkw 1) (p5_ : 1 ≤ ze Mz 81 12) (p6_ : ze Mz 81 12 ≤ 6) (p7_ : 0 ≤ ze Mz 81 13) (p8_ : ze Mz 81 13 ≤ 4) (p9_ : zPm Mz) (p10_ : zB 83 24 0 5 Mz) (p11_ : zB 85 144 0 5 Mz) : zC l m_M_moveLine 0 0 [.ref 81] Mz (zpV [3, 4, 5, 6, 7, 8, 11, 13, 20] [83, 85, 86, 87, 88] Mz (fun N => zRt b_ n_ N ∧ 0 ≤ ze N 81 13 ∧ ze N 81 13 ≤ 4 ∧ zB 83 24 0 5 N ∧ zB 85 144 0 5 N ∧ (((1 ≤ ze N 81 7 ∧ zbs b_ n_ (ze Mz 81 12).toNat (0, (ze Mz 81 4).toNat, zMvs Mz) = zMf) ∨ (ze N 81 7 = 0 ∧ zbs b_ n_ (ze Mz 81 12).toNat (0, (ze Mz 81 4).toNat, zMvs Mz) = (0, (ze N 81 4).toNat, zMvs N) ∧ zPm N ∧ zFin N ∧ ze Mz 81 4 < ze N 81 4))))) := by
  refine zC_of (L0 := [some (.ref 81), none, none, none, none]) md_M_moveLine (Nat.le_of_ble_eq_true rfl) rfl ?_ zQ0
  have hf : zFr [3, 4, 5, 6, 7, 8, 11, 13, 20] [83, 85, 86, 87, 88] Mz Mz := zFr.rf
  have r_3 := ze_r Mz 81 3
  have r_4 := ze_r Mz 81 4
  have r_5 := ze_r Mz 81 5
  have r_6 := ze_r Mz 81 6
  have r_7 := ze_r Mz 81 7
  have r_12 := ze_r Mz 81 12
  have r_13 := ze_r Mz 81 13
  have r_20 := ze_r Mz 81 20
  have hl0_ := And.intro p3_ p4_
  have hml_ := zMvs_l Mz
  refine zw_aload_n (pc := 0) (n := 0) (x := 81) rfl (zdal_p dlC_M_moveLine_82 (i := 0) rfl) ?_
  refine zr_getI (hf.w hW) (pc := 1) f_M_145 rfl (zdal_p dlC_M_moveLine_82 (i := 1) rfl) ?_
  refine zw_istore_n (pc := 4) (i := 1) (L2 := [some (.ref 81), some (.int (Int32.ofInt (ze Mz 81 4))), none, none, none]) rfl (by decide) rfl (zdal_p dlC_M_moveLine_82 (i := 2) rfl) ?_
  refine zw_aload_n (pc := 5) (n := 0) (x := 81) rfl (zdal_p dlC_M_moveLine_82 (i := 3) rfl) ?_
  refine zr_getI (hf.w hW) (pc := 6) f_M_199 rfl (zdal_p dlC_M_moveLine_82 (i := 4) rfl) ?_
  refine zw_iconst (pc := 9) (v := Int32.ofInt 4) (by decide) (zdal_p dlC_M_moveLine_82 (i := 5) rfl) ?_
  refine zr_icmp_ne (pc := 10) (tgt := 18) ⟨(ze_r Mz 81 13).1, (ze_r Mz 81 13).2⟩ ⟨(by decide), (by decide)⟩ (by decide) (zdal_p dlC_M_moveLine_82 (i := 6) rfl) (fun hc_10 => ?_) (fun hc_10 => ?_)
  · skip
    refine zw_aload_n (pc := 18) (n := 0) (x := 81) rfl (zdal_p dlC_M_moveLine_82 (i := 10) rfl) ?_
    refine zr_callV (hf.w hW) hf.x (pc := 19) [] [] l_M_183 (c_M_isGood l Mz (hf.w hW) ) rfl rfl rfl (by decide) (Nat.le_of_ble_eq_true rfl) (zdal_p dlC_M_moveLine_82 (i := 11) rfl) ?_
    rintro _ N1_ ⟨v2_, rfl, ⟨hv2_a, hv2_b⟩, hsN1_, hp0_N1_⟩
    obtain rfl := hsN1_.eq.symm
    replace hp0_N1_ : ((v2_ = 1 ∧ ze Mz 81 7 = 0) ∨ (v2_ = 0 ∧ ze Mz 81 7 ≠ 0)) := hp0_N1_
    rcases hp0_N1_ with ⟨rfl, ha19_0_hp0_N1_⟩ | ⟨rfl, ha19_0_hp0_N1_⟩
    · skip
      show zW l m_M_moveLine (zn Mz + 0, zw Mz + 0) Mz 22 [some (.ref 81), some (.int (Int32.ofInt (ze Mz 81 4))), none, none, none] [.int (Int32.ofInt 1)] _
      refine zr_if_eq (pc := 22) (tgt := 29) ⟨(by decide), (by decide)⟩ (by decide) (zdal_p dlC_M_moveLine_82 (i := 12) rfl) (fun hc_22 => ?_) (fun hc_22 => ?_)
      · skip
        exact absurd hc_22 (by decide)
      · skip
        have hyt_ := p1_
        have hyx_ := hyt_.x
        refine zw_aload_n (pc := 25) (n := 0) (x := 81) rfl (zdal_p dlC_M_moveLine_82 (i := 13) rfl) ?_
        refine zr_callV (hf.w hW) hf.x (pc := 26) [] [] l_M_193 (c_M_goOnF l Mz (hf.w hW) b_ n_ p0_ (show 0 ≤ ze Mz 81 3 by first | assumption | omega) (show ze Mz 81 3 ≤ n_ by first | assumption | omega)) rfl rfl rfl (by decide) (Nat.le_of_ble_eq_true rfl) (zdal_p dlC_M_moveLine_82 (i := 14) rfl) ?_
        rintro _ N3_ ⟨rfl, hsN3_, ⟨hp0_N3_, hp1_N3_⟩⟩
        have hf_N3_ : zFr [3, 4, 5, 6, 7, 8, 11, 13, 20] [83, 85, 86, 87, 88] Mz N3_ := hf.tr hsN3_ (by decide) (by decide)
        have r3_N3_ := ze_r N3_ 81 3
        have r4_N3_ := ze_r N3_ 81 4
        have r5_N3_ := ze_r N3_ 81 5
        have r6_N3_ := ze_r N3_ 81 6
        have e7_N3_ : ze N3_ 81 7 = ze Mz 81 7 := hsN3_.e (by decide)
        have e12_N3_ : ze N3_ 81 12 = ze Mz 81 12 := hsN3_.e (by decide)
        have e13_N3_ : ze N3_ 81 13 = ze Mz 81 13 := hsN3_.e (by decide)
        have e20_N3_ : ze N3_ 81 20 = ze Mz 81 20 := hsN3_.e (by decide)
        have c5_ : zRb b_ n_ N3_ := zRb.fr hsN3_ p0_ (by decide) (by decide)
        have c6_ : zPm N3_ := zPm.fr hsN3_ p9_ (by decide) (by decide)
        have c7_ : zB 83 24 0 5 N3_ := zB.fr hsN3_ p10_ (by decide) (by decide)
        have c8_ : zB 85 144 0 5 N3_ := zB.fr hsN3_ p11_ (by decide) (by decide)
        show zW l m_M_moveLine (zn Mz + 0, zw Mz + 0) N3_ 29 [some (.ref 81), some (.int (Int32.ofInt (ze Mz 81 4))), none, none, none] [] _
        have hnn_ := hyt_.nx hp0_N3_
        have hx1_ := hnn_.2
        have hg1_ := znx_g (b := b_) (n := n_) (s := (ze Mz 81 4).toNat) (by omega)
        have hml0_ : zMrI b_ n_ (ze Mz 81 12).toNat (znx b_ n_ (ze Mz 81 4).toNat) (ze Mz 81 13) N3_ 0 0 := zMrI_0 hx1_
        have hkp0_ : zKp Mz N3_ (6 * ze Mz 81 13) := zKp_0 hsN3_ (by decide)
        refine zw_iconst (pc := 29) (v := Int32.ofInt 0) (by decide) (zdal_p dlC_M_moveLine_82 (i := 15) rfl) ?_
        refine zw_istore_n (pc := 30) (i := 2) (L2 := [some (.ref 81), some (.int (Int32.ofInt (ze Mz 81 4))), some (.int (Int32.ofInt 0)), none, none]) rfl (by decide) rfl (zdal_p dlC_M_moveLine_82 (i := 16) rfl) ?_
        refine zw_iconst (pc := 31) (v := Int32.ofInt 0) (by decide) (zdal_p dlC_M_moveLine_82 (i := 17) rfl) ?_
        refine zw_istore_n (pc := 32) (i := 3) (L2 := [some (.ref 81), some (.int (Int32.ofInt (ze Mz 81 4))), some (.int (Int32.ofInt 0)), some (.int (Int32.ofInt 0)), none]) rfl (by decide) rfl (zdal_p dlC_M_moveLine_82 (i := 18) rfl) ?_
        have lp_33 : ∀ (n : Nat) (u9_ : Int) (hu9_a : -2147483648 ≤ u9_) (hu9_b : u9_ < 2147483648) (u10_ : Int) (hu10_a : -2147483648 ≤ u10_) (hu10_b : u10_ < 2147483648) (N11_ : zMem) (hs12_ : zFr [3, 4, 5, 6, 7, 8, 11] [83] N3_ N11_) (i13_ : zRt b_ n_ N11_) (i14_ : 0 ≤ u10_) (i15_ : u10_ ≤ ze Mz 81 12) (i16_ : (1 ≤ ze N11_ 81 7 ∧ zbs b_ n_ (ze Mz 81 12).toNat (0, (ze Mz 81 4).toNat, zMvs Mz) = zMf) ∨ (ze N11_ 81 7 = 0 ∧ ze Mz 81 13 ≤ 3 ∧ zMrI b_ n_ (ze Mz 81 12).toNat (znx b_ n_ (ze Mz 81 4).toNat) (ze Mz 81 13) N11_ u10_ u9_ ∧ zKp Mz N11_ (6 * ze Mz 81 13) ∧ ze Mz 81 4 < ze N11_ 81 4)) (i17_ : zB 83 24 0 5 N11_), (ze Mz 81 12 - u10_).toNat < n → zW l m_M_moveLine (zn Mz + 0, zw Mz + 0) N11_ 33 [some (.ref 81), some (.int (Int32.ofInt (ze Mz 81 4))), some (.int (Int32.ofInt u9_)), some (.int (Int32.ofInt u10_)), none] [] (zpV [3, 4, 5, 6, 7, 8, 11, 13, 20] [83, 85, 86, 87, 88] Mz (fun N => zRt b_ n_ N ∧ 0 ≤ ze N 81 13 ∧ ze N 81 13 ≤ 4 ∧ zB 83 24 0 5 N ∧ zB 85 144 0 5 N ∧ (((1 ≤ ze N 81 7 ∧ zbs b_ n_ (ze Mz 81 12).toNat (0, (ze Mz 81 4).toNat, zMvs Mz) = zMf) ∨ (ze N 81 7 = 0 ∧ zbs b_ n_ (ze Mz 81 12).toNat (0, (ze Mz 81 4).toNat, zMvs Mz) = (0, (ze N 81 4).toNat, zMvs N) ∧ zPm N ∧ zFin N ∧ ze Mz 81 4 < ze N 81 4))))) := by
          clear hv2_a hv2_b
          intro n
          induction n with
          | zero =>
            intro u9_ hu9_a hu9_b u10_ hu10_a hu10_b N11_ hs12_ i13_ i14_ i15_ i16_ i17_ h0
            exact absurd h0 (Nat.not_lt_zero _)
          | succ n ih_33 =>
            intro u9_ hu9_a hu9_b u10_ hu10_a hu10_b N11_ hs12_ i13_ i14_ i15_ i16_ i17_ hlt_33
            have hf_N11_ : zFr [3, 4, 5, 6, 7, 8, 11, 13, 20] [83, 85, 86, 87, 88] Mz N11_ := hf_N3_.tr hs12_ (by decide) (by decide)
            have r3_N11_ := ze_r N11_ 81 3
            have r4_N11_ := ze_r N11_ 81 4
            have r5_N11_ := ze_r N11_ 81 5
            have r6_N11_ := ze_r N11_ 81 6
            have r7_N11_ := ze_r N11_ 81 7
            have e12_N11_ : ze N11_ 81 12 = ze N3_ 81 12 := hs12_.e (by decide)
            have e13_N11_ : ze N11_ 81 13 = ze N3_ 81 13 := hs12_.e (by decide)
            have e20_N11_ : ze N11_ 81 20 = ze N3_ 81 20 := hs12_.e (by decide)
            have c18_ : zRb b_ n_ N11_ := zRb.fr hs12_ c5_ (by decide) (by decide)
            have c19_ : zB 85 144 0 5 N11_ := zB.fr hs12_ c8_ (by decide) (by decide)
            have zz12_N11_ : ze N11_ 81 12 = ze Mz 81 12 := hf_N11_.e (by decide)
            rcases i16_ with ⟨hl33_0_i16_, hl33_1_i16_⟩ | ⟨hl33_0_i16_, hl33_1_i16_, hl33_2_i16_, hl33_3_i16_, hl33_4_i16_⟩
            · skip
              refine zw_iload_n (pc := 33) (n := 3) (x := Int32.ofInt u10_) rfl (zdal_p dlC_M_moveLine_82 (i := 19) rfl) ?_
              refine zw_aload_n (pc := 34) (n := 0) (x := 81) rfl (zdal_p dlC_M_moveLine_82 (i := 20) rfl) ?_
              refine zr_getI0 hf_N11_ hW (pc := 35) (by decide) f_M_115 rfl (zdal_p dlC_M_moveLine_82 (i := 21) rfl) ?_
              refine zr_icmp_ge (pc := 38) (tgt := 138) ⟨hu10_a, hu10_b⟩ ⟨(ze_r Mz 81 12).1, (ze_r Mz 81 12).2⟩ (by decide) (zdal_p dlC_M_moveLine_82 (i := 22) rfl) (fun hc_38 => ?_) (fun hc_38 => ?_)
              · skip
                refine zw_aload_n (pc := 138) (n := 0) (x := 81) rfl d_M_moveLine_138 ?_
                refine zw_bipush (pc := 139) (v := Int32.ofInt 59) (by decide) d_M_moveLine_139 ?_
                refine zr_callV (hf_N11_.w hW) hf_N11_.x (pc := 141) [.int (Int32.ofInt 59)] [] l_M_355 (c_M_mustF l N11_ (hf_N11_.w hW) 59 (by decide) (by decide) b_ n_ c18_ i13_ (show 0 ≤ ze N11_ 81 7 by first | assumption | omega)) rfl rfl rfl (by decide) (Nat.le_of_ble_eq_true rfl) d_M_moveLine_141 ?_
                rintro _ N20_ ⟨rfl, hsN20_, ⟨hp0_N20_, hp1_N20_⟩⟩
                have hf_N20_ : zFr [3, 4, 5, 6, 7, 8, 11, 13, 20] [83, 85, 86, 87, 88] Mz N20_ := hf_N11_.tr hsN20_ (by decide) (by decide)
                have r3_N20_ := ze_r N20_ 81 3
                have r4_N20_ := ze_r N20_ 81 4
                have r5_N20_ := ze_r N20_ 81 5
                have r6_N20_ := ze_r N20_ 81 6
                have r7_N20_ := ze_r N20_ 81 7
                have e12_N20_ : ze N20_ 81 12 = ze N11_ 81 12 := hsN20_.e (by decide)
                have e13_N20_ : ze N20_ 81 13 = ze N11_ 81 13 := hsN20_.e (by decide)
                have e20_N20_ : ze N20_ 81 20 = ze N11_ 81 20 := hsN20_.e (by decide)
                have c22_ : zRb b_ n_ N20_ := zRb.fr hsN20_ c18_ (by decide) (by decide)
                have c23_ : zB 85 144 0 5 N20_ := zB.fr hsN20_ c19_ (by decide) (by decide)
                have c24_ : zB 83 24 0 5 N20_ := zB.fr hsN20_ i17_ (by decide) (by decide)
                rcases hp1_N20_ with ⟨ha141_0_hp1_N20_, ha141_1_hp1_N20_⟩ | ⟨ha141_0_hp1_N20_, ha141_1_hp1_N20_, ha141_2_hp1_N20_, ha141_3_hp1_N20_⟩
                · skip
                  have hrt2_ : zbs b_ n_ (ze Mz 81 12).toNat (0, (ze Mz 81 4).toNat, zMvs Mz) = zMf := by first | assumption | exact hrt_ | (obtain ⟨l_, hl1_, -⟩ := zMrI_e hmi_ (by omega); exact zbs_f hl0_ hl1_ (fun q_ => ha141_1_hp1_N20_ (by omega) q_.1))
                  show zW l m_M_moveLine (zn Mz + 0, zw Mz + 0) N20_ 144 [some (.ref 81), some (.int (Int32.ofInt (ze Mz 81 4))), some (.int (Int32.ofInt u9_)), some (.int (Int32.ofInt u10_)), none] [] _
                  refine zw_aload_n (pc := 144) (n := 0) (x := 81) rfl d_M_moveLine_144 ?_
                  refine zr_getI (hf_N20_.w hW) (pc := 145) f_M_172 rfl d_M_moveLine_145 ?_
                  refine zr_if_le (pc := 148) (tgt := 152) ⟨(ze_r N20_ 81 7).1, (ze_r N20_ 81 7).2⟩ (by decide) d_M_moveLine_148 (fun hc_148 => ?_) (fun hc_148 => ?_)
                  · skip
                    exfalso; omega
                  · skip
                    exact zr_vret (pc := 151) rfl hf_N20_ ⟨hp0_N20_, (show 0 ≤ ze N20_ 81 13 by first | assumption | omega), (show ze N20_ 81 13 ≤ 4 by first | assumption | omega), c24_, c23_, (show ((1 ≤ ze N20_ 81 7 ∧ zbs b_ n_ (ze Mz 81 12).toNat (0, (ze Mz 81 4).toNat, zMvs Mz) = zMf) ∨ (ze N20_ 81 7 = 0 ∧ zbs b_ n_ (ze Mz 81 12).toNat (0, (ze Mz 81 4).toNat, zMvs Mz) = (0, (ze N20_ 81 4).toNat, zMvs N20_) ∧ zPm N20_ ∧ zFin N20_ ∧ ze Mz 81 4 < ze N20_ 81 4)) from Or.inl (⟨(show 1 ≤ ze N20_ 81 7 by first | assumption | omega | exact hrt_ | exact hrt2_), (show zbs b_ n_ (ze Mz 81 12).toNat (0, (ze Mz 81 4).toNat, zMvs Mz) = zMf by first | assumption | omega | exact hrt_ | exact hrt2_)⟩))⟩ d_M_moveLine_151
                · skip
                  exfalso; omega
              · skip
                refine zw_aload_n (pc := 41) (n := 0) (x := 81) rfl (zdal_p dlC_M_moveLine_82 (i := 23) rfl) ?_
                refine zr_callV (hf_N11_.w hW) hf_N11_.x (pc := 42) [] [] l_M_183 (c_M_isGood l N11_ (hf_N11_.w hW) ) rfl rfl rfl (by decide) (Nat.le_of_ble_eq_true rfl) (zdal_p dlC_M_moveLine_83 (i := 0) rfl) ?_
                rintro _ N25_ ⟨v26_, rfl, ⟨hv26_a, hv26_b⟩, hsN25_, hp0_N25_⟩
                obtain rfl := hsN25_.eq.symm
                replace hp0_N25_ : ((v26_ = 1 ∧ ze N11_ 81 7 = 0) ∨ (v26_ = 0 ∧ ze N11_ 81 7 ≠ 0)) := hp0_N25_
                rcases hp0_N25_ with ⟨rfl, ha42_0_hp0_N25_⟩ | ⟨rfl, ha42_0_hp0_N25_⟩
                · skip
                  exfalso; omega
                · skip
                  show zW l m_M_moveLine (zn Mz + 0, zw Mz + 0) N11_ 45 [some (.ref 81), some (.int (Int32.ofInt (ze Mz 81 4))), some (.int (Int32.ofInt u9_)), some (.int (Int32.ofInt u10_)), none] [.int (Int32.ofInt 0)] _
                  refine zr_if_eq (pc := 45) (tgt := 138) ⟨(by decide), (by decide)⟩ (by decide) (zdal_p dlC_M_moveLine_83 (i := 1) rfl) (fun hc_45 => ?_) (fun hc_45 => ?_)
                  · skip
                    refine zw_aload_n (pc := 138) (n := 0) (x := 81) rfl d_M_moveLine_138 ?_
                    refine zw_bipush (pc := 139) (v := Int32.ofInt 59) (by decide) d_M_moveLine_139 ?_
                    refine zr_callV (hf_N11_.w hW) hf_N11_.x (pc := 141) [.int (Int32.ofInt 59)] [] l_M_355 (c_M_mustF l N11_ (hf_N11_.w hW) 59 (by decide) (by decide) b_ n_ c18_ i13_ (show 0 ≤ ze N11_ 81 7 by first | assumption | omega)) rfl rfl rfl (by decide) (Nat.le_of_ble_eq_true rfl) d_M_moveLine_141 ?_
                    rintro _ N27_ ⟨rfl, hsN27_, ⟨hp0_N27_, hp1_N27_⟩⟩
                    have hf_N27_ : zFr [3, 4, 5, 6, 7, 8, 11, 13, 20] [83, 85, 86, 87, 88] Mz N27_ := hf_N11_.tr hsN27_ (by decide) (by decide)
                    have r3_N27_ := ze_r N27_ 81 3
                    have r4_N27_ := ze_r N27_ 81 4
                    have r5_N27_ := ze_r N27_ 81 5
                    have r6_N27_ := ze_r N27_ 81 6
                    have r7_N27_ := ze_r N27_ 81 7
                    have e12_N27_ : ze N27_ 81 12 = ze N11_ 81 12 := hsN27_.e (by decide)
                    have e13_N27_ : ze N27_ 81 13 = ze N11_ 81 13 := hsN27_.e (by decide)
                    have e20_N27_ : ze N27_ 81 20 = ze N11_ 81 20 := hsN27_.e (by decide)
                    have c29_ : zRb b_ n_ N27_ := zRb.fr hsN27_ c18_ (by decide) (by decide)
                    have c30_ : zB 85 144 0 5 N27_ := zB.fr hsN27_ c19_ (by decide) (by decide)
                    have c31_ : zB 83 24 0 5 N27_ := zB.fr hsN27_ i17_ (by decide) (by decide)
                    rcases hp1_N27_ with ⟨ha141_0_hp1_N27_, ha141_1_hp1_N27_⟩ | ⟨ha141_0_hp1_N27_, ha141_1_hp1_N27_, ha141_2_hp1_N27_, ha141_3_hp1_N27_⟩
                    · skip
                      have hrt2_ : zbs b_ n_ (ze Mz 81 12).toNat (0, (ze Mz 81 4).toNat, zMvs Mz) = zMf := by first | assumption | exact hrt_ | (obtain ⟨l_, hl1_, -⟩ := zMrI_e hmi_ (by omega); exact zbs_f hl0_ hl1_ (fun q_ => ha141_1_hp1_N27_ (by omega) q_.1))
                      show zW l m_M_moveLine (zn Mz + 0, zw Mz + 0) N27_ 144 [some (.ref 81), some (.int (Int32.ofInt (ze Mz 81 4))), some (.int (Int32.ofInt u9_)), some (.int (Int32.ofInt u10_)), none] [] _
                      refine zw_aload_n (pc := 144) (n := 0) (x := 81) rfl d_M_moveLine_144 ?_
                      refine zr_getI (hf_N27_.w hW) (pc := 145) f_M_172 rfl d_M_moveLine_145 ?_
                      refine zr_if_le (pc := 148) (tgt := 152) ⟨(ze_r N27_ 81 7).1, (ze_r N27_ 81 7).2⟩ (by decide) d_M_moveLine_148 (fun hc_148 => ?_) (fun hc_148 => ?_)
                      · skip
                        exfalso; omega
                      · skip
                        exact zr_vret (pc := 151) rfl hf_N27_ ⟨hp0_N27_, (show 0 ≤ ze N27_ 81 13 by first | assumption | omega), (show ze N27_ 81 13 ≤ 4 by first | assumption | omega), c31_, c30_, (show ((1 ≤ ze N27_ 81 7 ∧ zbs b_ n_ (ze Mz 81 12).toNat (0, (ze Mz 81 4).toNat, zMvs Mz) = zMf) ∨ (ze N27_ 81 7 = 0 ∧ zbs b_ n_ (ze Mz 81 12).toNat (0, (ze Mz 81 4).toNat, zMvs Mz) = (0, (ze N27_ 81 4).toNat, zMvs N27_) ∧ zPm N27_ ∧ zFin N27_ ∧ ze Mz 81 4 < ze N27_ 81 4)) from Or.inl (⟨(show 1 ≤ ze N27_ 81 7 by first | assumption | omega | exact hrt_ | exact hrt2_), (show zbs b_ n_ (ze Mz 81 12).toNat (0, (ze Mz 81 4).toNat, zMvs Mz) = zMf by first | assumption | omega | exact hrt_ | exact hrt2_)⟩))⟩ d_M_moveLine_151
                    · skip
                      exfalso; omega
                  · skip
                    exact absurd hc_45 (by decide)
            · skip
              have hmi_ := hl33_2_i16_
              have hkp_ := hl33_3_i16_
              obtain ⟨lm_, -, -, -, hmt_, -⟩ := id hmi_
              have hme_ := hmt_.1
              refine zw_iload_n (pc := 33) (n := 3) (x := Int32.ofInt u10_) rfl (zdal_p dlC_M_moveLine_82 (i := 19) rfl) ?_
              refine zw_aload_n (pc := 34) (n := 0) (x := 81) rfl (zdal_p dlC_M_moveLine_82 (i := 20) rfl) ?_
              refine zr_getI0 hf_N11_ hW (pc := 35) (by decide) f_M_115 rfl (zdal_p dlC_M_moveLine_82 (i := 21) rfl) ?_
              refine zr_icmp_ge (pc := 38) (tgt := 138) ⟨hu10_a, hu10_b⟩ ⟨(ze_r Mz 81 12).1, (ze_r Mz 81 12).2⟩ (by decide) (zdal_p dlC_M_moveLine_82 (i := 22) rfl) (fun hc_38 => ?_) (fun hc_38 => ?_)
              · skip
                refine zw_aload_n (pc := 138) (n := 0) (x := 81) rfl d_M_moveLine_138 ?_
                refine zw_bipush (pc := 139) (v := Int32.ofInt 59) (by decide) d_M_moveLine_139 ?_
                refine zr_callV (hf_N11_.w hW) hf_N11_.x (pc := 141) [.int (Int32.ofInt 59)] [] l_M_355 (c_M_mustF l N11_ (hf_N11_.w hW) 59 (by decide) (by decide) b_ n_ c18_ i13_ (show 0 ≤ ze N11_ 81 7 by first | assumption | omega)) rfl rfl rfl (by decide) (Nat.le_of_ble_eq_true rfl) d_M_moveLine_141 ?_
                rintro _ N32_ ⟨rfl, hsN32_, ⟨hp0_N32_, hp1_N32_⟩⟩
                have hf_N32_ : zFr [3, 4, 5, 6, 7, 8, 11, 13, 20] [83, 85, 86, 87, 88] Mz N32_ := hf_N11_.tr hsN32_ (by decide) (by decide)
                have r3_N32_ := ze_r N32_ 81 3
                have r4_N32_ := ze_r N32_ 81 4
                have r5_N32_ := ze_r N32_ 81 5
                have r6_N32_ := ze_r N32_ 81 6
                have r7_N32_ := ze_r N32_ 81 7
                have e12_N32_ : ze N32_ 81 12 = ze N11_ 81 12 := hsN32_.e (by decide)
                have e13_N32_ : ze N32_ 81 13 = ze N11_ 81 13 := hsN32_.e (by decide)
                have e20_N32_ : ze N32_ 81 20 = ze N11_ 81 20 := hsN32_.e (by decide)
                have c34_ : zRb b_ n_ N32_ := zRb.fr hsN32_ c18_ (by decide) (by decide)
                have c35_ : zB 85 144 0 5 N32_ := zB.fr hsN32_ c19_ (by decide) (by decide)
                have c36_ : zB 83 24 0 5 N32_ := zB.fr hsN32_ i17_ (by decide) (by decide)
                rcases hp1_N32_ with ⟨ha141_0_hp1_N32_, ha141_1_hp1_N32_⟩ | ⟨ha141_0_hp1_N32_, ha141_1_hp1_N32_, ha141_2_hp1_N32_, ha141_3_hp1_N32_⟩
                · skip
                  have hrt2_ : zbs b_ n_ (ze Mz 81 12).toNat (0, (ze Mz 81 4).toNat, zMvs Mz) = zMf := by first | assumption | exact hrt_ | (obtain ⟨l_, hl1_, -⟩ := zMrI_e hmi_ (by omega); exact zbs_f hl0_ hl1_ (fun q_ => ha141_1_hp1_N32_ (by omega) q_.1))
                  show zW l m_M_moveLine (zn Mz + 0, zw Mz + 0) N32_ 144 [some (.ref 81), some (.int (Int32.ofInt (ze Mz 81 4))), some (.int (Int32.ofInt u9_)), some (.int (Int32.ofInt u10_)), none] [] _
                  refine zw_aload_n (pc := 144) (n := 0) (x := 81) rfl d_M_moveLine_144 ?_
                  refine zr_getI (hf_N32_.w hW) (pc := 145) f_M_172 rfl d_M_moveLine_145 ?_
                  refine zr_if_le (pc := 148) (tgt := 152) ⟨(ze_r N32_ 81 7).1, (ze_r N32_ 81 7).2⟩ (by decide) d_M_moveLine_148 (fun hc_148 => ?_) (fun hc_148 => ?_)
                  · skip
                    exfalso; omega
                  · skip
                    exact zr_vret (pc := 151) rfl hf_N32_ ⟨hp0_N32_, (show 0 ≤ ze N32_ 81 13 by first | assumption | omega), (show ze N32_ 81 13 ≤ 4 by first | assumption | omega), c36_, c35_, (show ((1 ≤ ze N32_ 81 7 ∧ zbs b_ n_ (ze Mz 81 12).toNat (0, (ze Mz 81 4).toNat, zMvs Mz) = zMf) ∨ (ze N32_ 81 7 = 0 ∧ zbs b_ n_ (ze Mz 81 12).toNat (0, (ze Mz 81 4).toNat, zMvs Mz) = (0, (ze N32_ 81 4).toNat, zMvs N32_) ∧ zPm N32_ ∧ zFin N32_ ∧ ze Mz 81 4 < ze N32_ 81 4)) from Or.inl (⟨(show 1 ≤ ze N32_ 81 7 by first | assumption | omega | exact hrt_ | exact hrt2_), (show zbs b_ n_ (ze Mz 81 12).toNat (0, (ze Mz 81 4).toNat, zMvs Mz) = zMf by first | assumption | omega | exact hrt_ | exact hrt2_)⟩))⟩ d_M_moveLine_151
                · skip
                  have hsg_ := ha141_2_hp1_N32_
                  have hx4_ := ha141_3_hp1_N32_
                  obtain ⟨l_, hl1_, hl2_, hl3_, hl4_⟩ := zMrI_e hmi_ (by omega)
                  have hg4_ := znx_ge (b := b_) (n := n_) (s := (ze N11_ 81 4).toNat)
                  have hkm_ := zKp.fr hsN32_ hkp_ (by decide)
                  have hl5_ : ∀ i : Nat, i < (ze Mz 81 12).toNat → ze N32_ 83 (6 * (ze Mz 81 13).toNat + i) = ((l_.getD i 0 : Nat) : Int) := fun i hi => (hsN32_.ie (by decide) (by decide) _).trans (hl4_ i hi)
                  show zW l m_M_moveLine (zn Mz + 0, zw Mz + 0) N32_ 144 [some (.ref 81), some (.int (Int32.ofInt (ze Mz 81 4))), some (.int (Int32.ofInt u9_)), some (.int (Int32.ofInt u10_)), none] [] _
                  refine zw_aload_n (pc := 144) (n := 0) (x := 81) rfl d_M_moveLine_144 ?_
                  refine zr_getI (hf_N32_.w hW) (pc := 145) f_M_172 rfl d_M_moveLine_145 ?_
                  refine zr_if_le (pc := 148) (tgt := 152) ⟨(ze_r N32_ 81 7).1, (ze_r N32_ 81 7).2⟩ (by decide) d_M_moveLine_148 (fun hc_148 => ?_) (fun hc_148 => ?_)
                  · skip
                    refine zw_aload_n (pc := 152) (n := 0) (x := 81) rfl (zdal_p dlC_M_moveLine_85 (i := 9) rfl) ?_
                    refine zw_dup (pc := 153) rfl (zdal_p dlC_M_moveLine_85 (i := 10) rfl) ?_
                    refine zr_getI (hf_N32_.w hW) (pc := 154) f_M_199 rfl (zdal_p dlC_M_moveLine_85 (i := 11) rfl) ?_
                    refine zw_iconst (pc := 157) (v := Int32.ofInt 1) (by decide) (zdal_p dlC_M_moveLine_85 (i := 12) rfl) ?_
                    refine zr_iadd (pc := 158) (zdal_p dlC_M_moveLine_85 (i := 13) rfl) ?_
                    refine zr_putI (hf_N32_.w hW) (pc := 159) f_M_199 rfl rfl ⟨by omega, by omega⟩ rfl rfl (zdal_p dlC_M_moveLine_85 (i := 14) rfl) (fun N37_ hsN37_ hvN37_ => ?_)
                    have hf_N37_ : zFr [3, 4, 5, 6, 7, 8, 11, 13, 20] [83, 85, 86, 87, 88] Mz N37_ := hf_N32_.tr hsN37_ (by decide) (by decide)
                    have e3_N37_ : ze N37_ 81 3 = ze N32_ 81 3 := hsN37_.e (by decide)
                    have e4_N37_ : ze N37_ 81 4 = ze N32_ 81 4 := hsN37_.e (by decide)
                    have e5_N37_ : ze N37_ 81 5 = ze N32_ 81 5 := hsN37_.e (by decide)
                    have e6_N37_ : ze N37_ 81 6 = ze N32_ 81 6 := hsN37_.e (by decide)
                    have e7_N37_ : ze N37_ 81 7 = ze N32_ 81 7 := hsN37_.e (by decide)
                    have e12_N37_ : ze N37_ 81 12 = ze N32_ 81 12 := hsN37_.e (by decide)
                    have r13_N37_ := ze_r N37_ 81 13
                    have e20_N37_ : ze N37_ 81 20 = ze N32_ 81 20 := hsN37_.e (by decide)
                    have c38_ : zRb b_ n_ N37_ := zRb.fr hsN37_ c34_ (by decide) (by decide)
                    have c39_ : zB 85 144 0 5 N37_ := zB.fr hsN37_ c35_ (by decide) (by decide)
                    have c40_ : zB 83 24 0 5 N37_ := zB.fr hsN37_ c36_ (by decide) (by decide)
                    have c41_ : zRt b_ n_ N37_ := zRt.fr hsN37_ hp0_N32_ (by decide) (by decide)
                    have hmv_ := zMvs_u (M := Mz) (N := N37_) (l := l_) (P := (ze Mz 81 12).toNat) (by omega) (by omega) (by omega) (by omega) (by omega) (zKp.fr hsN37_ hkm_ (by decide)) (fun i hi => (hsN37_.ie (by decide) (by decide) _).trans (hl5_ i hi))
                    have hpl_ := zmc_p (P := (ze Mz 81 12).toNat) (l := l_) (by omega) hl3_ hl2_
                    have hPm_ : zPm N37_ := fun g_ hg_ => by rw [hmv_] at hg_; exact (List.mem_append.mp hg_).elim (p9_ g_) (fun e_ => by rw [List.mem_singleton.mp e_]; exact hpl_.1)
                    refine zw_aload_n (pc := 162) (n := 0) (x := 81) rfl (zdal_p dlC_M_moveLine_85 (i := 15) rfl) ?_
                    refine zr_callV (hf_N37_.w hW) hf_N37_.x (pc := 163) [] [] l_M_226 (c_M_buildsMembers l N37_ (hf_N37_.w hW) (show 1 ≤ ze N37_ 81 12 by first | assumption | omega) (show ze N37_ 81 12 ≤ 6 by first | assumption | omega) (show 0 ≤ ze N37_ 81 13 by first | assumption | omega) (show ze N37_ 81 13 ≤ 4 by first | assumption | omega) hPm_ c40_ c39_) rfl rfl rfl (by decide) (Nat.le_of_ble_eq_true rfl) (zdal_p dlC_M_moveLine_85 (i := 16) rfl) ?_
                    rintro _ N42_ ⟨v43_, rfl, ⟨hv43_a, hv43_b⟩, hsN42_, ⟨hp0_N42_, hp1_N42_⟩⟩
                    have hf_N42_ : zFr [3, 4, 5, 6, 7, 8, 11, 13, 20] [83, 85, 86, 87, 88] Mz N42_ := hf_N37_.tr hsN42_ (by decide) (by decide)
                    have e3_N42_ : ze N42_ 81 3 = ze N37_ 81 3 := hsN42_.e (by decide)
                    have e4_N42_ : ze N42_ 81 4 = ze N37_ 81 4 := hsN42_.e (by decide)
                    have e5_N42_ : ze N42_ 81 5 = ze N37_ 81 5 := hsN42_.e (by decide)
                    have e6_N42_ : ze N42_ 81 6 = ze N37_ 81 6 := hsN42_.e (by decide)
                    have e7_N42_ : ze N42_ 81 7 = ze N37_ 81 7 := hsN42_.e (by decide)
                    have e12_N42_ : ze N42_ 81 12 = ze N37_ 81 12 := hsN42_.e (by decide)
                    have e13_N42_ : ze N42_ 81 13 = ze N37_ 81 13 := hsN42_.e (by decide)
                    have r20_N42_ := ze_r N42_ 81 20
                    have c44_ : zRb b_ n_ N42_ := zRb.fr hsN42_ c38_ (by decide) (by decide)
                    have c45_ : zB 83 24 0 5 N42_ := zB.fr hsN42_ c40_ (by decide) (by decide)
                    have c46_ : zRt b_ n_ N42_ := zRt.fr hsN42_ c41_ (by decide) (by decide)
                    have c47_ : zPm N42_ := zPm.fr hsN42_ hPm_ (by decide) (by decide)
                    rcases hp1_N42_ with ⟨rfl, ha163_0_hp1_N42_, ha163_1_hp1_N42_, ha163_2_hp1_N42_, ha163_3_hp1_N42_⟩ | ⟨rfl, ha163_0_hp1_N42_⟩
                    · skip
                      have hPq_ : zPm N42_ := zPm.fr hsN42_ hPm_ (by decide) (by decide)
                      have hFq_ : zFin N42_ := zFin.fr hsN42_ ha163_0_hp1_N42_ (by decide) (by decide)
                      have hmq_ : zMvs N42_ = zMvs Mz ++ [zmc (ze Mz 81 12).toNat l_] := (zMvs_f hsN42_ (by decide) (by decide)).trans hmv_
                      have hgf_ : gFin (zMvs Mz ++ [zmc (ze Mz 81 12).toNat l_]) := by rw [← hmq_]; exact hFq_
                      have hfin_ : zbs b_ n_ (ze Mz 81 12).toNat (0, (ze Mz 81 4).toNat, zMvs Mz) = (0, (ze N42_ 81 4).toNat, zMvs N42_) := by rw [hmq_, zbs_t hl0_ (by omega) hl1_ ⟨hsg_, hgf_⟩, ← hx4_, show ze N42_ 81 4 = ze N32_ 81 4 by omega]
                      show zW l m_M_moveLine (zn Mz + 0, zw Mz + 0) N42_ 166 [some (.ref 81), some (.int (Int32.ofInt (ze Mz 81 4))), some (.int (Int32.ofInt u9_)), some (.int (Int32.ofInt u10_)), none] [.int (Int32.ofInt 1)] _
                      refine zr_if_ne (pc := 166) (tgt := 175) ⟨(by decide), (by decide)⟩ (by decide) (zdal_p dlC_M_moveLine_85 (i := 17) rfl) (fun hc_166 => ?_) (fun hc_166 => ?_)
                      · skip
                        exact zr_vret (pc := 175) rfl hf_N42_ ⟨c46_, (show 0 ≤ ze N42_ 81 13 by first | assumption | omega), (show ze N42_ 81 13 ≤ 4 by first | assumption | omega), c45_, hp0_N42_, (show ((1 ≤ ze N42_ 81 7 ∧ zbs b_ n_ (ze Mz 81 12).toNat (0, (ze Mz 81 4).toNat, zMvs Mz) = zMf) ∨ (ze N42_ 81 7 = 0 ∧ zbs b_ n_ (ze Mz 81 12).toNat (0, (ze Mz 81 4).toNat, zMvs Mz) = (0, (ze N42_ 81 4).toNat, zMvs N42_) ∧ zPm N42_ ∧ zFin N42_ ∧ ze Mz 81 4 < ze N42_ 81 4)) from Or.inr (⟨(show ze N42_ 81 7 = 0 by first | omega | exact hfin_ | exact hPq_ | exact hFq_), (show zbs b_ n_ (ze Mz 81 12).toNat (0, (ze Mz 81 4).toNat, zMvs Mz) = (0, (ze N42_ 81 4).toNat, zMvs N42_) by first | omega | exact hfin_ | exact hPq_ | exact hFq_), (show zPm N42_ by first | omega | exact hfin_ | exact hPq_ | exact hFq_), (show zFin N42_ by first | omega | exact hfin_ | exact hPq_ | exact hFq_), (show ze Mz 81 4 < ze N42_ 81 4 by first | omega | exact hfin_ | exact hPq_ | exact hFq_)⟩))⟩ (zdal_p dlC_M_moveLine_85 (i := 22) rfl)
                      · skip
                        exact absurd hc_166 (by decide)
                    · skip
                      have hnf_ := ha163_0_hp1_N42_
                      have hrt_ : zbs b_ n_ (ze Mz 81 12).toNat (0, (ze Mz 81 4).toNat, zMvs Mz) = zMf := zbs_f hl0_ hl1_ (fun q_ => hnf_ (by have h_ := q_.2; rw [← hmv_] at h_; exact h_))
                      show zW l m_M_moveLine (zn Mz + 0, zw Mz + 0) N42_ 166 [some (.ref 81), some (.int (Int32.ofInt (ze Mz 81 4))), some (.int (Int32.ofInt u9_)), some (.int (Int32.ofInt u10_)), none] [.int (Int32.ofInt 0)] _
                      refine zr_if_ne (pc := 166) (tgt := 175) ⟨(by decide), (by decide)⟩ (by decide) (zdal_p dlC_M_moveLine_85 (i := 17) rfl) (fun hc_166 => ?_) (fun hc_166 => ?_)
                      · skip
                        exact absurd hc_166 (by decide)
                      · skip
                        refine zw_aload_n (pc := 169) (n := 0) (x := 81) rfl (zdal_p dlC_M_moveLine_85 (i := 18) rfl) ?_
                        refine zw_iconst (pc := 170) (v := Int32.ofInt 5) (by decide) (zdal_p dlC_M_moveLine_85 (i := 19) rfl) ?_
                        refine zw_iload_n (pc := 171) (n := 1) (x := Int32.ofInt (ze Mz 81 4)) rfl (zdal_p dlC_M_moveLine_85 (i := 20) rfl) ?_
                        refine zr_callV (hf_N42_.w hW) hf_N42_.x (pc := 172) [.int (Int32.ofInt 5), .int (Int32.ofInt (ze Mz 81 4))] [] l_M_168 (c_M_wrongAtF l N42_ (hf_N42_.w hW) 5 (by decide) (by decide) (ze Mz 81 4) (ze_r Mz 81 4).1 (ze_r Mz 81 4).2 (show 1 ≤ 5 by first | assumption | omega)) rfl rfl rfl (by decide) (Nat.le_of_ble_eq_true rfl) (zdal_p dlC_M_moveLine_85 (i := 21) rfl) ?_
                        rintro _ N48_ ⟨rfl, hsN48_, hp0_N48_⟩
                        replace hp0_N48_ : 1 ≤ ze N48_ 81 7 := hp0_N48_
                        have hf_N48_ : zFr [3, 4, 5, 6, 7, 8, 11, 13, 20] [83, 85, 86, 87, 88] Mz N48_ := hf_N42_.tr hsN48_ (by decide) (by decide)
                        have e3_N48_ : ze N48_ 81 3 = ze N42_ 81 3 := hsN48_.e (by decide)
                        have e4_N48_ : ze N48_ 81 4 = ze N42_ 81 4 := hsN48_.e (by decide)
                        have e5_N48_ : ze N48_ 81 5 = ze N42_ 81 5 := hsN48_.e (by decide)
                        have e6_N48_ : ze N48_ 81 6 = ze N42_ 81 6 := hsN48_.e (by decide)
                        have r7_N48_ := ze_r N48_ 81 7
                        have e12_N48_ : ze N48_ 81 12 = ze N42_ 81 12 := hsN48_.e (by decide)
                        have e13_N48_ : ze N48_ 81 13 = ze N42_ 81 13 := hsN48_.e (by decide)
                        have e20_N48_ : ze N48_ 81 20 = ze N42_ 81 20 := hsN48_.e (by decide)
                        have c50_ : zRb b_ n_ N48_ := zRb.fr hsN48_ c44_ (by decide) (by decide)
                        have c51_ : zB 83 24 0 5 N48_ := zB.fr hsN48_ c45_ (by decide) (by decide)
                        have c52_ : zRt b_ n_ N48_ := zRt.fr hsN48_ c46_ (by decide) (by decide)
                        have c53_ : zPm N48_ := zPm.fr hsN48_ c47_ (by decide) (by decide)
                        have c54_ : zB 85 144 0 5 N48_ := zB.fr hsN48_ hp0_N42_ (by decide) (by decide)
                        show zW l m_M_moveLine (zn Mz + 0, zw Mz + 0) N48_ 175 [some (.ref 81), some (.int (Int32.ofInt (ze Mz 81 4))), some (.int (Int32.ofInt u9_)), some (.int (Int32.ofInt u10_)), none] [] _
                        exact zr_vret (pc := 175) rfl hf_N48_ ⟨c52_, (show 0 ≤ ze N48_ 81 13 by first | assumption | omega), (show ze N48_ 81 13 ≤ 4 by first | assumption | omega), c51_, c54_, (show ((1 ≤ ze N48_ 81 7 ∧ zbs b_ n_ (ze Mz 81 12).toNat (0, (ze Mz 81 4).toNat, zMvs Mz) = zMf) ∨ (ze N48_ 81 7 = 0 ∧ zbs b_ n_ (ze Mz 81 12).toNat (0, (ze Mz 81 4).toNat, zMvs Mz) = (0, (ze N48_ 81 4).toNat, zMvs N48_) ∧ zPm N48_ ∧ zFin N48_ ∧ ze Mz 81 4 < ze N48_ 81 4)) from Or.inl (⟨(show 1 ≤ ze N48_ 81 7 by first | assumption | omega | exact hrt_ | exact hrt2_), (show zbs b_ n_ (ze Mz 81 12).toNat (0, (ze Mz 81 4).toNat, zMvs Mz) = zMf by first | assumption | omega | exact hrt_ | exact hrt2_)⟩))⟩ (zdal_p dlC_M_moveLine_85 (i := 22) rfl)
                  · skip
                    exfalso; omega
              · skip
                refine zw_aload_n (pc := 41) (n := 0) (x := 81) rfl (zdal_p dlC_M_moveLine_82 (i := 23) rfl) ?_
                refine zr_callV (hf_N11_.w hW) hf_N11_.x (pc := 42) [] [] l_M_183 (c_M_isGood l N11_ (hf_N11_.w hW) ) rfl rfl rfl (by decide) (Nat.le_of_ble_eq_true rfl) (zdal_p dlC_M_moveLine_83 (i := 0) rfl) ?_
                rintro _ N55_ ⟨v56_, rfl, ⟨hv56_a, hv56_b⟩, hsN55_, hp0_N55_⟩
                obtain rfl := hsN55_.eq.symm
                replace hp0_N55_ : ((v56_ = 1 ∧ ze N11_ 81 7 = 0) ∨ (v56_ = 0 ∧ ze N11_ 81 7 ≠ 0)) := hp0_N55_
                rcases hp0_N55_ with ⟨rfl, ha42_0_hp0_N55_⟩ | ⟨rfl, ha42_0_hp0_N55_⟩
                · skip
                  show zW l m_M_moveLine (zn Mz + 0, zw Mz + 0) N11_ 45 [some (.ref 81), some (.int (Int32.ofInt (ze Mz 81 4))), some (.int (Int32.ofInt u9_)), some (.int (Int32.ofInt u10_)), none] [.int (Int32.ofInt 1)] _
                  refine zr_if_eq (pc := 45) (tgt := 138) ⟨(by decide), (by decide)⟩ (by decide) (zdal_p dlC_M_moveLine_83 (i := 1) rfl) (fun hc_45 => ?_) (fun hc_45 => ?_)
                  · skip
                    exact absurd hc_45 (by decide)
                  · skip
                    have hyt_ := i13_
                    have hyx_ := hyt_.x
                    have h5_ := hyt_.2.2.1
                    refine zw_aload_n (pc := 48) (n := 0) (x := 81) rfl (zdal_p dlC_M_moveLine_83 (i := 2) rfl) ?_
                    refine zr_getI (hf_N11_.w hW) (pc := 49) f_M_155 rfl (zdal_p dlC_M_moveLine_83 (i := 3) rfl) ?_
                    refine zw_iconst (pc := 52) (v := Int32.ofInt 2) (by decide) (zdal_p dlC_M_moveLine_83 (i := 4) rfl) ?_
                    refine zr_icmp_eq (pc := 53) (tgt := 61) ⟨(ze_r N11_ 81 5).1, (ze_r N11_ 81 5).2⟩ ⟨(by decide), (by decide)⟩ (by decide) (zdal_p dlC_M_moveLine_83 (i := 5) rfl) (fun hc_53 => ?_) (fun hc_53 => ?_)
                    · skip
                      have hv2_ : ze N11_ 81 7 = 0 → ze N11_ 81 6 = znu b_ n_ (ze N11_ 81 4).toNat ∧ 0 ≤ ze N11_ 81 6 ∧ ze N11_ 81 6 ≤ 999 := fun q_ => i13_.v2 (by omega)
                      refine zw_aload_n (pc := 61) (n := 0) (x := 81) rfl (zdal_p dlC_M_moveLine_83 (i := 9) rfl) ?_
                      refine zr_getI (hf_N11_.w hW) (pc := 62) f_M_152 rfl (zdal_p dlC_M_moveLine_83 (i := 10) rfl) ?_
                      refine zw_istore (pc := 65) (i := 4) (L2 := [some (.ref 81), some (.int (Int32.ofInt (ze Mz 81 4))), some (.int (Int32.ofInt u9_)), some (.int (Int32.ofInt u10_)), some (.int (Int32.ofInt (ze N11_ 81 6)))]) (by decide) rfl (zdal_p dlC_M_moveLine_83 (i := 11) rfl) ?_
                      refine zw_aload_n (pc := 67) (n := 0) (x := 81) rfl (zdal_p dlC_M_moveLine_83 (i := 12) rfl) ?_
                      refine zr_callV (hf_N11_.w hW) hf_N11_.x (pc := 68) [] [] l_M_183 (c_M_isGood l N11_ (hf_N11_.w hW) ) rfl rfl rfl (by decide) (Nat.le_of_ble_eq_true rfl) (zdal_p dlC_M_moveLine_83 (i := 13) rfl) ?_
                      rintro _ N57_ ⟨v58_, rfl, ⟨hv58_a, hv58_b⟩, hsN57_, hp0_N57_⟩
                      obtain rfl := hsN57_.eq.symm
                      replace hp0_N57_ : ((v58_ = 1 ∧ ze N11_ 81 7 = 0) ∨ (v58_ = 0 ∧ ze N11_ 81 7 ≠ 0)) := hp0_N57_
                      rcases hp0_N57_ with ⟨rfl, ha68_0_hp0_N57_⟩ | ⟨rfl, ha68_0_hp0_N57_⟩
                      · skip
                        show zW l m_M_moveLine (zn Mz + 0, zw Mz + 0) N11_ 71 [some (.ref 81), some (.int (Int32.ofInt (ze Mz 81 4))), some (.int (Int32.ofInt u9_)), some (.int (Int32.ofInt u10_)), some (.int (Int32.ofInt (ze N11_ 81 6)))] [.int (Int32.ofInt 1)] _
                        refine zr_if_eq (pc := 71) (tgt := 97) ⟨(by decide), (by decide)⟩ (by decide) (zdal_p dlC_M_moveLine_83 (i := 14) rfl) (fun hc_71 => ?_) (fun hc_71 => ?_)
                        · skip
                          exact absurd hc_71 (by decide)
                        · skip
                          refine zw_iload (pc := 74) (i := 4) (x := Int32.ofInt (ze N11_ 81 6)) rfl (zdal_p dlC_M_moveLine_83 (i := 15) rfl) ?_
                          refine zw_aload_n (pc := 76) (n := 0) (x := 81) rfl (zdal_p dlC_M_moveLine_83 (i := 16) rfl) ?_
                          refine zr_getI0 hf_N11_ hW (pc := 77) (by decide) f_M_115 rfl (zdal_p dlC_M_moveLine_83 (i := 17) rfl) ?_
                          refine zr_icmp_ge (pc := 80) (tgt := 92) ⟨(ze_r N11_ 81 6).1, (ze_r N11_ 81 6).2⟩ ⟨(ze_r Mz 81 12).1, (ze_r Mz 81 12).2⟩ (by decide) (zdal_p dlC_M_moveLine_83 (i := 18) rfl) (fun hc_80 => ?_) (fun hc_80 => ?_)
                          · skip
                            have hno_ : zrm b_ n_ (ze Mz 81 12).toNat (ze Mz 81 12).toNat (znx b_ n_ (ze Mz 81 4).toNat) [] = none := zMrI_f hmi_ (by omega) (by omega) (fun q_ => by have h1_ := q_.2.1; have h2_ := hv2_ (by omega); first | omega | (have h3_ := q_.2.2; rw [← h2_.1] at h3_; exact h3_ hbt_)) (by omega)
                            have hrt_ : zbs b_ n_ (ze Mz 81 12).toNat (0, (ze Mz 81 4).toNat, zMvs Mz) = zMf := zbs_n hl0_ hno_
                            refine zw_aload_n (pc := 92) (n := 0) (x := 81) rfl (zdal_p dlC_M_moveLine_83 (i := 23) rfl) ?_
                            refine zw_iconst (pc := 93) (v := Int32.ofInt 4) (by decide) (zdal_p dlC_M_moveLine_84 (i := 0) rfl) ?_
                            refine zr_callV (hf_N11_.w hW) hf_N11_.x (pc := 94) [.int (Int32.ofInt 4)] [] l_M_190 (c_M_wrongF l N11_ (hf_N11_.w hW) 4 (by decide) (by decide) (show 1 ≤ 4 by first | assumption | omega)) rfl rfl rfl (by decide) (Nat.le_of_ble_eq_true rfl) (zdal_p dlC_M_moveLine_84 (i := 1) rfl) ?_
                            rintro _ N59_ ⟨rfl, hsN59_, hp0_N59_⟩
                            replace hp0_N59_ : 1 ≤ ze N59_ 81 7 := hp0_N59_
                            have hf_N59_ : zFr [3, 4, 5, 6, 7, 8, 11, 13, 20] [83, 85, 86, 87, 88] Mz N59_ := hf_N11_.tr hsN59_ (by decide) (by decide)
                            have hb0_N59_ : zFr [3, 4, 5, 6, 7, 8, 11] [83] N3_ N59_ := hs12_.tr hsN59_ (by decide) (by decide)
                            have e3_N59_ : ze N59_ 81 3 = ze N11_ 81 3 := hsN59_.e (by decide)
                            have e4_N59_ : ze N59_ 81 4 = ze N11_ 81 4 := hsN59_.e (by decide)
                            have e5_N59_ : ze N59_ 81 5 = ze N11_ 81 5 := hsN59_.e (by decide)
                            have e6_N59_ : ze N59_ 81 6 = ze N11_ 81 6 := hsN59_.e (by decide)
                            have r7_N59_ := ze_r N59_ 81 7
                            have e12_N59_ : ze N59_ 81 12 = ze N11_ 81 12 := hsN59_.e (by decide)
                            have e13_N59_ : ze N59_ 81 13 = ze N11_ 81 13 := hsN59_.e (by decide)
                            have e20_N59_ : ze N59_ 81 20 = ze N11_ 81 20 := hsN59_.e (by decide)
                            have c61_ : zRb b_ n_ N59_ := zRb.fr hsN59_ c18_ (by decide) (by decide)
                            have c62_ : zB 85 144 0 5 N59_ := zB.fr hsN59_ c19_ (by decide) (by decide)
                            have c63_ : zRt b_ n_ N59_ := zRt.fr hsN59_ i13_ (by decide) (by decide)
                            have c64_ : zB 83 24 0 5 N59_ := zB.fr hsN59_ i17_ (by decide) (by decide)
                            show zW l m_M_moveLine (zn Mz + 0, zw Mz + 0) N59_ 97 [some (.ref 81), some (.int (Int32.ofInt (ze Mz 81 4))), some (.int (Int32.ofInt u9_)), some (.int (Int32.ofInt u10_)), some (.int (Int32.ofInt (ze N11_ 81 6)))] [] _
                            refine zw_aload_n (pc := 97) (n := 0) (x := 81) rfl d_M_moveLine_97 ?_
                            refine zr_getI (hf_N59_.w hW) (pc := 98) f_M_172 rfl d_M_moveLine_98 ?_
                            refine zr_if_le (pc := 101) (tgt := 105) ⟨(ze_r N59_ 81 7).1, (ze_r N59_ 81 7).2⟩ (by decide) d_M_moveLine_101 (fun hc_101 => ?_) (fun hc_101 => ?_)
                            · skip
                              exfalso; omega
                            · skip
                              exact zr_vret (pc := 104) rfl hf_N59_ ⟨c63_, (show 0 ≤ ze N59_ 81 13 by first | assumption | omega), (show ze N59_ 81 13 ≤ 4 by first | assumption | omega), c64_, c62_, (show ((1 ≤ ze N59_ 81 7 ∧ zbs b_ n_ (ze Mz 81 12).toNat (0, (ze Mz 81 4).toNat, zMvs Mz) = zMf) ∨ (ze N59_ 81 7 = 0 ∧ zbs b_ n_ (ze Mz 81 12).toNat (0, (ze Mz 81 4).toNat, zMvs Mz) = (0, (ze N59_ 81 4).toNat, zMvs N59_) ∧ zPm N59_ ∧ zFin N59_ ∧ ze Mz 81 4 < ze N59_ 81 4)) from Or.inl (⟨(show 1 ≤ ze N59_ 81 7 by first | assumption | omega | exact hrt_ | exact hrt2_), (show zbs b_ n_ (ze Mz 81 12).toNat (0, (ze Mz 81 4).toNat, zMvs Mz) = zMf by first | assumption | omega | exact hrt_ | exact hrt2_)⟩))⟩ d_M_moveLine_104
                          · skip
                            refine zw_iload_n (pc := 83) (n := 2) (x := Int32.ofInt u9_) rfl (zdal_p dlC_M_moveLine_83 (i := 19) rfl) ?_
                            refine zw_iload (pc := 84) (i := 4) (x := Int32.ofInt (ze N11_ 81 6)) rfl (zdal_p dlC_M_moveLine_83 (i := 20) rfl) ?_
                            refine zr_callS hf_N11_.x (pc := 86) [.int (Int32.ofInt u9_), .int (Int32.ofInt (ze N11_ 81 6))] [] l_M_213 (c_M_holds l N11_ (hf_N11_.w hW) u9_ hu9_a hu9_b (ze N11_ 81 6) (ze_r N11_ 81 6).1 (ze_r N11_ 81 6).2 (show 0 ≤ u9_ by first | assumption | omega) (show 0 ≤ (ze N11_ 81 6) by first | assumption | omega) (show (ze N11_ 81 6) < 32 by first | assumption | omega)) rfl rfl (by decide) (Nat.le_of_ble_eq_true rfl) (zdal_p dlC_M_moveLine_83 (i := 21) rfl) ?_
                            rintro _ N65_ ⟨v66_, rfl, ⟨hv66_a, hv66_b⟩, hsN65_, hp0_N65_⟩
                            obtain rfl := hsN65_.eq.symm
                            replace hp0_N65_ : ((v66_ = 1 ∧ zbt u9_ (ze N11_ 81 6)) ∨ (v66_ = 0 ∧ ¬ zbt u9_ (ze N11_ 81 6))) := hp0_N65_
                            rcases hp0_N65_ with ⟨rfl, ha86_0_hp0_N65_⟩ | ⟨rfl, ha86_0_hp0_N65_⟩
                            · skip
                              have hbt_ := ha86_0_hp0_N65_
                              show zW l m_M_moveLine (zn Mz + 0, zw Mz + 0) N11_ 89 [some (.ref 81), some (.int (Int32.ofInt (ze Mz 81 4))), some (.int (Int32.ofInt u9_)), some (.int (Int32.ofInt u10_)), some (.int (Int32.ofInt (ze N11_ 81 6)))] [.int (Int32.ofInt 1)] _
                              refine zr_if_eq (pc := 89) (tgt := 97) ⟨(by decide), (by decide)⟩ (by decide) (zdal_p dlC_M_moveLine_83 (i := 22) rfl) (fun hc_89 => ?_) (fun hc_89 => ?_)
                              · skip
                                exact absurd hc_89 (by decide)
                              · skip
                                have hno_ : zrm b_ n_ (ze Mz 81 12).toNat (ze Mz 81 12).toNat (znx b_ n_ (ze Mz 81 4).toNat) [] = none := zMrI_f hmi_ (by omega) (by omega) (fun q_ => by have h1_ := q_.2.1; have h2_ := hv2_ (by omega); first | omega | (have h3_ := q_.2.2; rw [← h2_.1] at h3_; exact h3_ hbt_)) (by omega)
                                have hrt_ : zbs b_ n_ (ze Mz 81 12).toNat (0, (ze Mz 81 4).toNat, zMvs Mz) = zMf := zbs_n hl0_ hno_
                                refine zw_aload_n (pc := 92) (n := 0) (x := 81) rfl (zdal_p dlC_M_moveLine_83 (i := 23) rfl) ?_
                                refine zw_iconst (pc := 93) (v := Int32.ofInt 4) (by decide) (zdal_p dlC_M_moveLine_84 (i := 0) rfl) ?_
                                refine zr_callV (hf_N11_.w hW) hf_N11_.x (pc := 94) [.int (Int32.ofInt 4)] [] l_M_190 (c_M_wrongF l N11_ (hf_N11_.w hW) 4 (by decide) (by decide) (show 1 ≤ 4 by first | assumption | omega)) rfl rfl rfl (by decide) (Nat.le_of_ble_eq_true rfl) (zdal_p dlC_M_moveLine_84 (i := 1) rfl) ?_
                                rintro _ N67_ ⟨rfl, hsN67_, hp0_N67_⟩
                                replace hp0_N67_ : 1 ≤ ze N67_ 81 7 := hp0_N67_
                                have hf_N67_ : zFr [3, 4, 5, 6, 7, 8, 11, 13, 20] [83, 85, 86, 87, 88] Mz N67_ := hf_N11_.tr hsN67_ (by decide) (by decide)
                                have hb0_N67_ : zFr [3, 4, 5, 6, 7, 8, 11] [83] N3_ N67_ := hs12_.tr hsN67_ (by decide) (by decide)
                                have e3_N67_ : ze N67_ 81 3 = ze N11_ 81 3 := hsN67_.e (by decide)
                                have e4_N67_ : ze N67_ 81 4 = ze N11_ 81 4 := hsN67_.e (by decide)
                                have e5_N67_ : ze N67_ 81 5 = ze N11_ 81 5 := hsN67_.e (by decide)
                                have e6_N67_ : ze N67_ 81 6 = ze N11_ 81 6 := hsN67_.e (by decide)
                                have r7_N67_ := ze_r N67_ 81 7
                                have e12_N67_ : ze N67_ 81 12 = ze N11_ 81 12 := hsN67_.e (by decide)
                                have e13_N67_ : ze N67_ 81 13 = ze N11_ 81 13 := hsN67_.e (by decide)
                                have e20_N67_ : ze N67_ 81 20 = ze N11_ 81 20 := hsN67_.e (by decide)
                                have c69_ : zRb b_ n_ N67_ := zRb.fr hsN67_ c18_ (by decide) (by decide)
                                have c70_ : zB 85 144 0 5 N67_ := zB.fr hsN67_ c19_ (by decide) (by decide)
                                have c71_ : zRt b_ n_ N67_ := zRt.fr hsN67_ i13_ (by decide) (by decide)
                                have c72_ : zB 83 24 0 5 N67_ := zB.fr hsN67_ i17_ (by decide) (by decide)
                                show zW l m_M_moveLine (zn Mz + 0, zw Mz + 0) N67_ 97 [some (.ref 81), some (.int (Int32.ofInt (ze Mz 81 4))), some (.int (Int32.ofInt u9_)), some (.int (Int32.ofInt u10_)), some (.int (Int32.ofInt (ze N11_ 81 6)))] [] _
                                refine zw_aload_n (pc := 97) (n := 0) (x := 81) rfl d_M_moveLine_97 ?_
                                refine zr_getI (hf_N67_.w hW) (pc := 98) f_M_172 rfl d_M_moveLine_98 ?_
                                refine zr_if_le (pc := 101) (tgt := 105) ⟨(ze_r N67_ 81 7).1, (ze_r N67_ 81 7).2⟩ (by decide) d_M_moveLine_101 (fun hc_101 => ?_) (fun hc_101 => ?_)
                                · skip
                                  exfalso; omega
                                · skip
                                  exact zr_vret (pc := 104) rfl hf_N67_ ⟨c71_, (show 0 ≤ ze N67_ 81 13 by first | assumption | omega), (show ze N67_ 81 13 ≤ 4 by first | assumption | omega), c72_, c70_, (show ((1 ≤ ze N67_ 81 7 ∧ zbs b_ n_ (ze Mz 81 12).toNat (0, (ze Mz 81 4).toNat, zMvs Mz) = zMf) ∨ (ze N67_ 81 7 = 0 ∧ zbs b_ n_ (ze Mz 81 12).toNat (0, (ze Mz 81 4).toNat, zMvs Mz) = (0, (ze N67_ 81 4).toNat, zMvs N67_) ∧ zPm N67_ ∧ zFin N67_ ∧ ze Mz 81 4 < ze N67_ 81 4)) from Or.inl (⟨(show 1 ≤ ze N67_ 81 7 by first | assumption | omega | exact hrt_ | exact hrt2_), (show zbs b_ n_ (ze Mz 81 12).toNat (0, (ze Mz 81 4).toNat, zMvs Mz) = zMf by first | assumption | omega | exact hrt_ | exact hrt2_)⟩))⟩ d_M_moveLine_104
                            · skip
                              have hnb_ := ha86_0_hp0_N65_
                              show zW l m_M_moveLine (zn Mz + 0, zw Mz + 0) N11_ 89 [some (.ref 81), some (.int (Int32.ofInt (ze Mz 81 4))), some (.int (Int32.ofInt u9_)), some (.int (Int32.ofInt u10_)), some (.int (Int32.ofInt (ze N11_ 81 6)))] [.int (Int32.ofInt 0)] _
                              refine zr_if_eq (pc := 89) (tgt := 97) ⟨(by decide), (by decide)⟩ (by decide) (zdal_p dlC_M_moveLine_83 (i := 22) rfl) (fun hc_89 => ?_) (fun hc_89 => ?_)
                              · skip
                                refine zw_aload_n (pc := 97) (n := 0) (x := 81) rfl d_M_moveLine_97 ?_
                                refine zr_getI (hf_N11_.w hW) (pc := 98) f_M_172 rfl d_M_moveLine_98 ?_
                                refine zr_if_le (pc := 101) (tgt := 105) ⟨(ze_r N11_ 81 7).1, (ze_r N11_ 81 7).2⟩ (by decide) d_M_moveLine_101 (fun hc_101 => ?_) (fun hc_101 => ?_)
                                · skip
                                  have hv3_ := hv2_ (by omega)
                                  refine zw_iload_n (pc := 105) (n := 2) (x := Int32.ofInt u9_) rfl (zdal_p dlC_M_moveLine_84 (i := 6) rfl) ?_
                                  refine zw_iconst (pc := 106) (v := Int32.ofInt 1) (by decide) (zdal_p dlC_M_moveLine_84 (i := 7) rfl) ?_
                                  refine zw_iload (pc := 107) (i := 4) (x := Int32.ofInt (ze N11_ 81 6)) rfl (zdal_p dlC_M_moveLine_84 (i := 8) rfl) ?_
                                  refine zr_ishl (pc := 109) (zdal_p dlC_M_moveLine_84 (i := 9) rfl) ?_
                                  have hr73_ := zshl_r 1 (ze N11_ 81 6)
                                  refine zr_ior (pc := 110) (zdal_p dlC_M_moveLine_84 (i := 10) rfl) ?_
                                  have hr74_ := zor_r u9_ (zshl 1 (ze N11_ 81 6))
                                  refine zw_istore_n (pc := 111) (i := 2) (L2 := [some (.ref 81), some (.int (Int32.ofInt (ze Mz 81 4))), some (.int (Int32.ofInt (zor u9_ (zshl 1 (ze N11_ 81 6))))), some (.int (Int32.ofInt u10_)), some (.int (Int32.ofInt (ze N11_ 81 6)))]) rfl (by decide) rfl (zdal_p dlC_M_moveLine_84 (i := 11) rfl) ?_
                                  refine zw_aload_n (pc := 112) (n := 0) (x := 81) rfl (zdal_p dlC_M_moveLine_84 (i := 12) rfl) ?_
                                  refine zr_getF (r := 83) (hf_N11_.w hW) (pc := 113) f_M_20 rfl (zh_83 (hf_N11_.w hW)).1 (zdal_p dlC_M_moveLine_84 (i := 13) rfl) ?_
                                  refine zw_bipush (pc := 116) (v := Int32.ofInt 6) (by decide) (zdal_p dlC_M_moveLine_84 (i := 14) rfl) ?_
                                  refine zw_aload_n (pc := 118) (n := 0) (x := 81) rfl (zdal_p dlC_M_moveLine_84 (i := 15) rfl) ?_
                                  refine zr_getI (hf_N11_.w hW) (pc := 119) f_M_199 rfl (zdal_p dlC_M_moveLine_84 (i := 16) rfl) ?_
                                  refine zr_imul (pc := 122) (zdal_p dlC_M_moveLine_84 (i := 17) rfl) ?_
                                  refine zw_iload_n (pc := 123) (n := 3) (x := Int32.ofInt u10_) rfl (zdal_p dlC_M_moveLine_84 (i := 18) rfl) ?_
                                  refine zr_iadd (pc := 124) (zdal_p dlC_M_moveLine_84 (i := 19) rfl) ?_
                                  refine zr_toI (show ((6 * (ze N11_ 81 13)) + u10_) = 6 * ze Mz 81 13 + u10_ by omega) ?_
                                  refine zw_iload (pc := 125) (i := 4) (x := Int32.ofInt (ze N11_ 81 6)) rfl (zdal_p dlC_M_moveLine_84 (i := 20) rfl) ?_
                                  refine zr_iast (pc := 127) (zh_83 (hf_N11_.w hW)).2 (by decide) (by decide) (by omega) (by omega) (zdal_p dlC_M_moveLine_84 (i := 21) rfl) (fun N75_ hN75_ hsN75_ => ?_)
                                  have hf_N75_ : zFr [3, 4, 5, 6, 7, 8, 11, 13, 20] [83, 85, 86, 87, 88] Mz N75_ := hf_N11_.tr hsN75_ (by decide) (by decide)
                                  have hb0_N75_ : zFr [3, 4, 5, 6, 7, 8, 11] [83] N3_ N75_ := hs12_.tr hsN75_ (by decide) (by decide)
                                  have e3_N75_ : ze N75_ 81 3 = ze N11_ 81 3 := hsN75_.e (by decide)
                                  have e4_N75_ : ze N75_ 81 4 = ze N11_ 81 4 := hsN75_.e (by decide)
                                  have e5_N75_ : ze N75_ 81 5 = ze N11_ 81 5 := hsN75_.e (by decide)
                                  have e6_N75_ : ze N75_ 81 6 = ze N11_ 81 6 := hsN75_.e (by decide)
                                  have e7_N75_ : ze N75_ 81 7 = ze N11_ 81 7 := hsN75_.e (by decide)
                                  have e12_N75_ : ze N75_ 81 12 = ze N11_ 81 12 := hsN75_.e (by decide)
                                  have e13_N75_ : ze N75_ 81 13 = ze N11_ 81 13 := hsN75_.e (by decide)
                                  have e20_N75_ : ze N75_ 81 20 = ze N11_ 81 20 := hsN75_.e (by decide)
                                  have c76_ : zRb b_ n_ N75_ := zRb.fr hsN75_ c18_ (by decide) (by decide)
                                  have c77_ : zB 85 144 0 5 N75_ := zB.fr hsN75_ c19_ (by decide) (by decide)
                                  have c78_ : zRt b_ n_ N75_ := zRt.fr hsN75_ i13_ (by decide) (by decide)
                                  have c79_ : zB 83 24 0 5 N75_ := zB.s i17_ hN75_ (by omega) (by omega) (by decide) (by decide)
                                  have hK1_ := zKp_s hkp_ (by omega) (by omega) hN75_
                                  have hyt_ := c78_
                                  have hyx_ := hyt_.x
                                  refine zw_aload_n (pc := 128) (n := 0) (x := 81) rfl (zdal_p dlC_M_moveLine_84 (i := 22) rfl) ?_
                                  refine zr_callV (hf_N75_.w hW) hf_N75_.x (pc := 129) [] [] l_M_193 (c_M_goOnF l N75_ (hf_N75_.w hW) b_ n_ c76_ (show 0 ≤ ze N75_ 81 3 by first | assumption | omega) (show ze N75_ 81 3 ≤ n_ by first | assumption | omega)) rfl rfl rfl (by decide) (Nat.le_of_ble_eq_true rfl) (zdal_p dlC_M_moveLine_84 (i := 23) rfl) ?_
                                  rintro _ N80_ ⟨rfl, hsN80_, ⟨hp0_N80_, hp1_N80_⟩⟩
                                  have hf_N80_ : zFr [3, 4, 5, 6, 7, 8, 11, 13, 20] [83, 85, 86, 87, 88] Mz N80_ := hf_N75_.tr hsN80_ (by decide) (by decide)
                                  have hb0_N80_ : zFr [3, 4, 5, 6, 7, 8, 11] [83] N3_ N80_ := hb0_N75_.tr hsN80_ (by decide) (by decide)
                                  have r3_N80_ := ze_r N80_ 81 3
                                  have r4_N80_ := ze_r N80_ 81 4
                                  have r5_N80_ := ze_r N80_ 81 5
                                  have r6_N80_ := ze_r N80_ 81 6
                                  have e7_N80_ : ze N80_ 81 7 = ze N75_ 81 7 := hsN80_.e (by decide)
                                  have e12_N80_ : ze N80_ 81 12 = ze N75_ 81 12 := hsN80_.e (by decide)
                                  have e13_N80_ : ze N80_ 81 13 = ze N75_ 81 13 := hsN80_.e (by decide)
                                  have e20_N80_ : ze N80_ 81 20 = ze N75_ 81 20 := hsN80_.e (by decide)
                                  have c82_ : zRb b_ n_ N80_ := zRb.fr hsN80_ c76_ (by decide) (by decide)
                                  have c83_ : zB 85 144 0 5 N80_ := zB.fr hsN80_ c77_ (by decide) (by decide)
                                  have c84_ : zB 83 24 0 5 N80_ := zB.fr hsN80_ c79_ (by decide) (by decide)
                                  show zW l m_M_moveLine (zn Mz + 0, zw Mz + 0) N80_ 132 [some (.ref 81), some (.int (Int32.ofInt (ze Mz 81 4))), some (.int (Int32.ofInt (zor u9_ (zshl 1 (ze N11_ 81 6))))), some (.int (Int32.ofInt u10_)), some (.int (Int32.ofInt (ze N11_ 81 6)))] [] _
                                  have hnn_ := hyt_.nx hp0_N80_
                                  have hR2_ := zMrI_s (M := N11_) (N := N75_) (N2 := N80_) hmi_ (by omega) (by omega) (by omega) (by omega) (by omega) hv3_.1 (by omega) (by omega) hnb_ hN75_ (fun j_ => hsN80_.ie (by decide) (by decide) j_) (hnn_.2.trans (by rw [show ze N75_ 81 4 = ze N11_ 81 4 by omega]))
                                  have hK2_ := zKp.fr hsN80_ hK1_ (by decide)
                                  have hg2_ := znx_ge (b := b_) (n := n_) (s := (ze N75_ 81 4).toNat)
                                  refine zr_iinc (pc := 132) (i := 3) (a := u10_) (n := 1) (L2 := [some (.ref 81), some (.int (Int32.ofInt (ze Mz 81 4))), some (.int (Int32.ofInt (zor u9_ (zshl 1 (ze N11_ 81 6))))), some (.int (Int32.ofInt (u10_ + 1))), some (.int (Int32.ofInt (ze N11_ 81 6)))]) rfl (by decide) rfl (zdal_p dlC_M_moveLine_85 (i := 0) rfl) ?_
                                  refine zw_goto (pc := 135) (tgt := 33) (by decide) (zdal_p dlC_M_moveLine_85 (i := 1) rfl) ?_
                                  refine zW_le [some (.ref 81), some (.int (Int32.ofInt (ze Mz 81 4))), some (.int (Int32.ofInt (zor u9_ (zshl 1 (ze N11_ 81 6))))), some (.int (Int32.ofInt (u10_ + 1))), none] (⟨rfl, rfl, rfl, rfl, trivial⟩) ?_
                                  exact ih_33 (zor u9_ (zshl 1 (ze N11_ 81 6))) (by omega) (by omega) (u10_ + 1) (by omega) (by omega) N80_ hb0_N80_ hp1_N80_ (show 0 ≤ (u10_ + 1) by first | assumption | omega) (show (u10_ + 1) ≤ ze Mz 81 12 by first | assumption | omega) (show (1 ≤ ze N80_ 81 7 ∧ zbs b_ n_ (ze Mz 81 12).toNat (0, (ze Mz 81 4).toNat, zMvs Mz) = zMf) ∨ (ze N80_ 81 7 = 0 ∧ ze Mz 81 13 ≤ 3 ∧ zMrI b_ n_ (ze Mz 81 12).toNat (znx b_ n_ (ze Mz 81 4).toNat) (ze Mz 81 13) N80_ (u10_ + 1) (zor u9_ (zshl 1 (ze N11_ 81 6))) ∧ zKp Mz N80_ (6 * ze Mz 81 13) ∧ ze Mz 81 4 < ze N80_ 81 4) from Or.inr (⟨(show ze N80_ 81 7 = 0 by first | assumption | omega | exact hR2_ | exact hK2_), (show ze Mz 81 13 ≤ 3 by first | assumption | omega | exact hR2_ | exact hK2_), (show zMrI b_ n_ (ze Mz 81 12).toNat (znx b_ n_ (ze Mz 81 4).toNat) (ze Mz 81 13) N80_ (u10_ + 1) (zor u9_ (zshl 1 (ze N11_ 81 6))) by first | assumption | omega | exact hR2_ | exact hK2_), (show zKp Mz N80_ (6 * ze Mz 81 13) by first | assumption | omega | exact hR2_ | exact hK2_), (show ze Mz 81 4 < ze N80_ 81 4 by first | assumption | omega | exact hR2_ | exact hK2_)⟩)) c84_ (by omega)
                                · skip
                                  exfalso; omega
                              · skip
                                exact absurd hc_89 (by decide)
                      · skip
                        exfalso; omega
                    · skip
                      have hno_ : zrm b_ n_ (ze Mz 81 12).toNat (ze Mz 81 12).toNat (znx b_ n_ (ze Mz 81 4).toNat) [] = none := zMrI_f hmi_ (by omega) (by omega) (fun q_ => by have h1_ := q_.1; omega) (by omega)
                      have hrt_ : zbs b_ n_ (ze Mz 81 12).toNat (0, (ze Mz 81 4).toNat, zMvs Mz) = zMf := zbs_n hl0_ hno_
                      refine zw_aload_n (pc := 56) (n := 0) (x := 81) rfl (zdal_p dlC_M_moveLine_83 (i := 6) rfl) ?_
                      refine zw_iconst (pc := 57) (v := Int32.ofInt 2) (by decide) (zdal_p dlC_M_moveLine_83 (i := 7) rfl) ?_
                      refine zr_callV (hf_N11_.w hW) hf_N11_.x (pc := 58) [.int (Int32.ofInt 2)] [] l_M_190 (c_M_wrongF l N11_ (hf_N11_.w hW) 2 (by decide) (by decide) (show 1 ≤ 2 by first | assumption | omega)) rfl rfl rfl (by decide) (Nat.le_of_ble_eq_true rfl) (zdal_p dlC_M_moveLine_83 (i := 8) rfl) ?_
                      rintro _ N85_ ⟨rfl, hsN85_, hp0_N85_⟩
                      replace hp0_N85_ : 1 ≤ ze N85_ 81 7 := hp0_N85_
                      have hf_N85_ : zFr [3, 4, 5, 6, 7, 8, 11, 13, 20] [83, 85, 86, 87, 88] Mz N85_ := hf_N11_.tr hsN85_ (by decide) (by decide)
                      have hb0_N85_ : zFr [3, 4, 5, 6, 7, 8, 11] [83] N3_ N85_ := hs12_.tr hsN85_ (by decide) (by decide)
                      have e3_N85_ : ze N85_ 81 3 = ze N11_ 81 3 := hsN85_.e (by decide)
                      have e4_N85_ : ze N85_ 81 4 = ze N11_ 81 4 := hsN85_.e (by decide)
                      have e5_N85_ : ze N85_ 81 5 = ze N11_ 81 5 := hsN85_.e (by decide)
                      have e6_N85_ : ze N85_ 81 6 = ze N11_ 81 6 := hsN85_.e (by decide)
                      have r7_N85_ := ze_r N85_ 81 7
                      have e12_N85_ : ze N85_ 81 12 = ze N11_ 81 12 := hsN85_.e (by decide)
                      have e13_N85_ : ze N85_ 81 13 = ze N11_ 81 13 := hsN85_.e (by decide)
                      have e20_N85_ : ze N85_ 81 20 = ze N11_ 81 20 := hsN85_.e (by decide)
                      have c87_ : zRb b_ n_ N85_ := zRb.fr hsN85_ c18_ (by decide) (by decide)
                      have c88_ : zB 85 144 0 5 N85_ := zB.fr hsN85_ c19_ (by decide) (by decide)
                      have c89_ : zRt b_ n_ N85_ := zRt.fr hsN85_ i13_ (by decide) (by decide)
                      have c90_ : zB 83 24 0 5 N85_ := zB.fr hsN85_ i17_ (by decide) (by decide)
                      show zW l m_M_moveLine (zn Mz + 0, zw Mz + 0) N85_ 61 [some (.ref 81), some (.int (Int32.ofInt (ze Mz 81 4))), some (.int (Int32.ofInt u9_)), some (.int (Int32.ofInt u10_)), none] [] _
                      have hv2_ : ze N85_ 81 7 = 0 → ze N85_ 81 6 = znu b_ n_ (ze N85_ 81 4).toNat ∧ 0 ≤ ze N85_ 81 6 ∧ ze N85_ 81 6 ≤ 999 := fun q_ => c89_.v2 (by omega)
                      refine zw_aload_n (pc := 61) (n := 0) (x := 81) rfl (zdal_p dlC_M_moveLine_83 (i := 9) rfl) ?_
                      refine zr_getI (hf_N85_.w hW) (pc := 62) f_M_152 rfl (zdal_p dlC_M_moveLine_83 (i := 10) rfl) ?_
                      refine zw_istore (pc := 65) (i := 4) (L2 := [some (.ref 81), some (.int (Int32.ofInt (ze Mz 81 4))), some (.int (Int32.ofInt u9_)), some (.int (Int32.ofInt u10_)), some (.int (Int32.ofInt (ze N85_ 81 6)))]) (by decide) rfl (zdal_p dlC_M_moveLine_83 (i := 11) rfl) ?_
                      refine zw_aload_n (pc := 67) (n := 0) (x := 81) rfl (zdal_p dlC_M_moveLine_83 (i := 12) rfl) ?_
                      refine zr_callV (hf_N85_.w hW) hf_N85_.x (pc := 68) [] [] l_M_183 (c_M_isGood l N85_ (hf_N85_.w hW) ) rfl rfl rfl (by decide) (Nat.le_of_ble_eq_true rfl) (zdal_p dlC_M_moveLine_83 (i := 13) rfl) ?_
                      rintro _ N91_ ⟨v92_, rfl, ⟨hv92_a, hv92_b⟩, hsN91_, hp0_N91_⟩
                      obtain rfl := hsN91_.eq.symm
                      replace hp0_N91_ : ((v92_ = 1 ∧ ze N85_ 81 7 = 0) ∨ (v92_ = 0 ∧ ze N85_ 81 7 ≠ 0)) := hp0_N91_
                      rcases hp0_N91_ with ⟨rfl, ha68_0_hp0_N91_⟩ | ⟨rfl, ha68_0_hp0_N91_⟩
                      · skip
                        exfalso; omega
                      · skip
                        show zW l m_M_moveLine (zn Mz + 0, zw Mz + 0) N85_ 71 [some (.ref 81), some (.int (Int32.ofInt (ze Mz 81 4))), some (.int (Int32.ofInt u9_)), some (.int (Int32.ofInt u10_)), some (.int (Int32.ofInt (ze N85_ 81 6)))] [.int (Int32.ofInt 0)] _
                        refine zr_if_eq (pc := 71) (tgt := 97) ⟨(by decide), (by decide)⟩ (by decide) (zdal_p dlC_M_moveLine_83 (i := 14) rfl) (fun hc_71 => ?_) (fun hc_71 => ?_)
                        · skip
                          refine zw_aload_n (pc := 97) (n := 0) (x := 81) rfl d_M_moveLine_97 ?_
                          refine zr_getI (hf_N85_.w hW) (pc := 98) f_M_172 rfl d_M_moveLine_98 ?_
                          refine zr_if_le (pc := 101) (tgt := 105) ⟨(ze_r N85_ 81 7).1, (ze_r N85_ 81 7).2⟩ (by decide) d_M_moveLine_101 (fun hc_101 => ?_) (fun hc_101 => ?_)
                          · skip
                            exfalso; omega
                          · skip
                            exact zr_vret (pc := 104) rfl hf_N85_ ⟨c89_, (show 0 ≤ ze N85_ 81 13 by first | assumption | omega), (show ze N85_ 81 13 ≤ 4 by first | assumption | omega), c90_, c88_, (show ((1 ≤ ze N85_ 81 7 ∧ zbs b_ n_ (ze Mz 81 12).toNat (0, (ze Mz 81 4).toNat, zMvs Mz) = zMf) ∨ (ze N85_ 81 7 = 0 ∧ zbs b_ n_ (ze Mz 81 12).toNat (0, (ze Mz 81 4).toNat, zMvs Mz) = (0, (ze N85_ 81 4).toNat, zMvs N85_) ∧ zPm N85_ ∧ zFin N85_ ∧ ze Mz 81 4 < ze N85_ 81 4)) from Or.inl (⟨(show 1 ≤ ze N85_ 81 7 by first | assumption | omega | exact hrt_ | exact hrt2_), (show zbs b_ n_ (ze Mz 81 12).toNat (0, (ze Mz 81 4).toNat, zMvs Mz) = zMf by first | assumption | omega | exact hrt_ | exact hrt2_)⟩))⟩ d_M_moveLine_104
                        · skip
                          exact absurd hc_71 (by decide)
                · skip
                  exfalso; omega
        exact lp_33 _ 0 (by decide) (by decide) 0 (by decide) (by decide) N3_ zFr.rf hp1_N3_ (show 0 ≤ (0 : Int) by first | assumption | omega) (show (0 : Int) ≤ ze Mz 81 12 by first | assumption | omega) (show (1 ≤ ze N3_ 81 7 ∧ zbs b_ n_ (ze Mz 81 12).toNat (0, (ze Mz 81 4).toNat, zMvs Mz) = zMf) ∨ (ze N3_ 81 7 = 0 ∧ ze Mz 81 13 ≤ 3 ∧ zMrI b_ n_ (ze Mz 81 12).toNat (znx b_ n_ (ze Mz 81 4).toNat) (ze Mz 81 13) N3_ (0 : Int) (0 : Int) ∧ zKp Mz N3_ (6 * ze Mz 81 13) ∧ ze Mz 81 4 < ze N3_ 81 4) from Or.inr (⟨(show ze N3_ 81 7 = 0 by first | assumption | omega | exact hml0_ | exact hkp0_), (show ze Mz 81 13 ≤ 3 by first | assumption | omega | exact hml0_ | exact hkp0_), (show zMrI b_ n_ (ze Mz 81 12).toNat (znx b_ n_ (ze Mz 81 4).toNat) (ze Mz 81 13) N3_ (0 : Int) (0 : Int) by first | assumption | omega | exact hml0_ | exact hkp0_), (show zKp Mz N3_ (6 * ze Mz 81 13) by first | assumption | omega | exact hml0_ | exact hkp0_), (show ze Mz 81 4 < ze N3_ 81 4 by first | assumption | omega | exact hml0_ | exact hkp0_)⟩)) c7_ (Nat.lt_succ_self _)
    · skip
      exfalso; omega
  · skip
    have hrt_ : zbs b_ n_ (ze Mz 81 12).toNat (0, (ze Mz 81 4).toNat, zMvs Mz) = zMf := zbs_4 hl0_ (by omega)
    refine zw_aload_n (pc := 13) (n := 0) (x := 81) rfl (zdal_p dlC_M_moveLine_82 (i := 7) rfl) ?_
    refine zw_iconst (pc := 14) (v := Int32.ofInt 5) (by decide) (zdal_p dlC_M_moveLine_82 (i := 8) rfl) ?_
    refine zr_callV (hf.w hW) hf.x (pc := 15) [.int (Int32.ofInt 5)] [] l_M_190 (c_M_wrongF l Mz (hf.w hW) 5 (by decide) (by decide) (show 1 ≤ 5 by first | assumption | omega)) rfl rfl rfl (by decide) (Nat.le_of_ble_eq_true rfl) (zdal_p dlC_M_moveLine_82 (i := 9) rfl) ?_
    rintro _ N93_ ⟨rfl, hsN93_, hp0_N93_⟩
    replace hp0_N93_ : 1 ≤ ze N93_ 81 7 := hp0_N93_
    have hf_N93_ : zFr [3, 4, 5, 6, 7, 8, 11, 13, 20] [83, 85, 86, 87, 88] Mz N93_ := hf.tr hsN93_ (by decide) (by decide)
    have e3_N93_ : ze N93_ 81 3 = ze Mz 81 3 := hsN93_.e (by decide)
    have e4_N93_ : ze N93_ 81 4 = ze Mz 81 4 := hsN93_.e (by decide)
    have e5_N93_ : ze N93_ 81 5 = ze Mz 81 5 := hsN93_.e (by decide)
    have e6_N93_ : ze N93_ 81 6 = ze Mz 81 6 := hsN93_.e (by decide)
    have r7_N93_ := ze_r N93_ 81 7
    have e12_N93_ : ze N93_ 81 12 = ze Mz 81 12 := hsN93_.e (by decide)
    have e13_N93_ : ze N93_ 81 13 = ze Mz 81 13 := hsN93_.e (by decide)
    have e20_N93_ : ze N93_ 81 20 = ze Mz 81 20 := hsN93_.e (by decide)
    have c95_ : zRb b_ n_ N93_ := zRb.fr hsN93_ p0_ (by decide) (by decide)
    have c96_ : zRt b_ n_ N93_ := zRt.fr hsN93_ p1_ (by decide) (by decide)
    have c97_ : zPm N93_ := zPm.fr hsN93_ p9_ (by decide) (by decide)
    have c98_ : zB 83 24 0 5 N93_ := zB.fr hsN93_ p10_ (by decide) (by decide)
    have c99_ : zB 85 144 0 5 N93_ := zB.fr hsN93_ p11_ (by decide) (by decide)
    show zW l m_M_moveLine (zn Mz + 0, zw Mz + 0) N93_ 18 [some (.ref 81), some (.int (Int32.ofInt (ze Mz 81 4))), none, none, none] [] _
    refine zw_aload_n (pc := 18) (n := 0) (x := 81) rfl (zdal_p dlC_M_moveLine_82 (i := 10) rfl) ?_
    refine zr_callV (hf_N93_.w hW) hf_N93_.x (pc := 19) [] [] l_M_183 (c_M_isGood l N93_ (hf_N93_.w hW) ) rfl rfl rfl (by decide) (Nat.le_of_ble_eq_true rfl) (zdal_p dlC_M_moveLine_82 (i := 11) rfl) ?_
    rintro _ N100_ ⟨v101_, rfl, ⟨hv101_a, hv101_b⟩, hsN100_, hp0_N100_⟩
    obtain rfl := hsN100_.eq.symm
    replace hp0_N100_ : ((v101_ = 1 ∧ ze N93_ 81 7 = 0) ∨ (v101_ = 0 ∧ ze N93_ 81 7 ≠ 0)) := hp0_N100_
    rcases hp0_N100_ with ⟨rfl, ha19_0_hp0_N100_⟩ | ⟨rfl, ha19_0_hp0_N100_⟩
    · skip
      exfalso; omega
    · skip
      show zW l m_M_moveLine (zn Mz + 0, zw Mz + 0) N93_ 22 [some (.ref 81), some (.int (Int32.ofInt (ze Mz 81 4))), none, none, none] [.int (Int32.ofInt 0)] _
      refine zr_if_eq (pc := 22) (tgt := 29) ⟨(by decide), (by decide)⟩ (by decide) (zdal_p dlC_M_moveLine_82 (i := 12) rfl) (fun hc_22 => ?_) (fun hc_22 => ?_)
      · skip
        refine zw_iconst (pc := 29) (v := Int32.ofInt 0) (by decide) (zdal_p dlC_M_moveLine_82 (i := 15) rfl) ?_
        refine zw_istore_n (pc := 30) (i := 2) (L2 := [some (.ref 81), some (.int (Int32.ofInt (ze Mz 81 4))), some (.int (Int32.ofInt 0)), none, none]) rfl (by decide) rfl (zdal_p dlC_M_moveLine_82 (i := 16) rfl) ?_
        refine zw_iconst (pc := 31) (v := Int32.ofInt 0) (by decide) (zdal_p dlC_M_moveLine_82 (i := 17) rfl) ?_
        refine zw_istore_n (pc := 32) (i := 3) (L2 := [some (.ref 81), some (.int (Int32.ofInt (ze Mz 81 4))), some (.int (Int32.ofInt 0)), some (.int (Int32.ofInt 0)), none]) rfl (by decide) rfl (zdal_p dlC_M_moveLine_82 (i := 18) rfl) ?_
        have lp_33 : ∀ (n : Nat) (u102_ : Int) (hu102_a : -2147483648 ≤ u102_) (hu102_b : u102_ < 2147483648) (u103_ : Int) (hu103_a : -2147483648 ≤ u103_) (hu103_b : u103_ < 2147483648) (N104_ : zMem) (hs105_ : zFr [3, 4, 5, 6, 7, 8, 11] [83] N93_ N104_) (i106_ : zRt b_ n_ N104_) (i107_ : 0 ≤ u103_) (i108_ : u103_ ≤ ze Mz 81 12) (i109_ : (1 ≤ ze N104_ 81 7 ∧ zbs b_ n_ (ze Mz 81 12).toNat (0, (ze Mz 81 4).toNat, zMvs Mz) = zMf) ∨ (ze N104_ 81 7 = 0 ∧ ze Mz 81 13 ≤ 3 ∧ zMrI b_ n_ (ze Mz 81 12).toNat (znx b_ n_ (ze Mz 81 4).toNat) (ze Mz 81 13) N104_ u103_ u102_ ∧ zKp Mz N104_ (6 * ze Mz 81 13) ∧ ze Mz 81 4 < ze N104_ 81 4)) (i110_ : zB 83 24 0 5 N104_), (ze Mz 81 12 - u103_).toNat < n → zW l m_M_moveLine (zn Mz + 0, zw Mz + 0) N104_ 33 [some (.ref 81), some (.int (Int32.ofInt (ze Mz 81 4))), some (.int (Int32.ofInt u102_)), some (.int (Int32.ofInt u103_)), none] [] (zpV [3, 4, 5, 6, 7, 8, 11, 13, 20] [83, 85, 86, 87, 88] Mz (fun N => zRt b_ n_ N ∧ 0 ≤ ze N 81 13 ∧ ze N 81 13 ≤ 4 ∧ zB 83 24 0 5 N ∧ zB 85 144 0 5 N ∧ (((1 ≤ ze N 81 7 ∧ zbs b_ n_ (ze Mz 81 12).toNat (0, (ze Mz 81 4).toNat, zMvs Mz) = zMf) ∨ (ze N 81 7 = 0 ∧ zbs b_ n_ (ze Mz 81 12).toNat (0, (ze Mz 81 4).toNat, zMvs Mz) = (0, (ze N 81 4).toNat, zMvs N) ∧ zPm N ∧ zFin N ∧ ze Mz 81 4 < ze N 81 4))))) := by
          clear hv101_a hv101_b
          intro n
          induction n with
          | zero =>
            intro u102_ hu102_a hu102_b u103_ hu103_a hu103_b N104_ hs105_ i106_ i107_ i108_ i109_ i110_ h0
            exact absurd h0 (Nat.not_lt_zero _)
          | succ n ih_33 =>
            intro u102_ hu102_a hu102_b u103_ hu103_a hu103_b N104_ hs105_ i106_ i107_ i108_ i109_ i110_ hlt_33
            have hf_N104_ : zFr [3, 4, 5, 6, 7, 8, 11, 13, 20] [83, 85, 86, 87, 88] Mz N104_ := hf_N93_.tr hs105_ (by decide) (by decide)
            have r3_N104_ := ze_r N104_ 81 3
            have r4_N104_ := ze_r N104_ 81 4
            have r5_N104_ := ze_r N104_ 81 5
            have r6_N104_ := ze_r N104_ 81 6
            have r7_N104_ := ze_r N104_ 81 7
            have e12_N104_ : ze N104_ 81 12 = ze N93_ 81 12 := hs105_.e (by decide)
            have e13_N104_ : ze N104_ 81 13 = ze N93_ 81 13 := hs105_.e (by decide)
            have e20_N104_ : ze N104_ 81 20 = ze N93_ 81 20 := hs105_.e (by decide)
            have c111_ : zRb b_ n_ N104_ := zRb.fr hs105_ c95_ (by decide) (by decide)
            have c112_ : zB 85 144 0 5 N104_ := zB.fr hs105_ c99_ (by decide) (by decide)
            have zz12_N104_ : ze N104_ 81 12 = ze Mz 81 12 := hf_N104_.e (by decide)
            rcases i109_ with ⟨hl33_0_i109_, hl33_1_i109_⟩ | ⟨hl33_0_i109_, hl33_1_i109_, hl33_2_i109_, hl33_3_i109_, hl33_4_i109_⟩
            · skip
              refine zw_iload_n (pc := 33) (n := 3) (x := Int32.ofInt u103_) rfl (zdal_p dlC_M_moveLine_82 (i := 19) rfl) ?_
              refine zw_aload_n (pc := 34) (n := 0) (x := 81) rfl (zdal_p dlC_M_moveLine_82 (i := 20) rfl) ?_
              refine zr_getI0 hf_N104_ hW (pc := 35) (by decide) f_M_115 rfl (zdal_p dlC_M_moveLine_82 (i := 21) rfl) ?_
              refine zr_icmp_ge (pc := 38) (tgt := 138) ⟨hu103_a, hu103_b⟩ ⟨(ze_r Mz 81 12).1, (ze_r Mz 81 12).2⟩ (by decide) (zdal_p dlC_M_moveLine_82 (i := 22) rfl) (fun hc_38 => ?_) (fun hc_38 => ?_)
              · skip
                refine zw_aload_n (pc := 138) (n := 0) (x := 81) rfl d_M_moveLine_138 ?_
                refine zw_bipush (pc := 139) (v := Int32.ofInt 59) (by decide) d_M_moveLine_139 ?_
                refine zr_callV (hf_N104_.w hW) hf_N104_.x (pc := 141) [.int (Int32.ofInt 59)] [] l_M_355 (c_M_mustF l N104_ (hf_N104_.w hW) 59 (by decide) (by decide) b_ n_ c111_ i106_ (show 0 ≤ ze N104_ 81 7 by first | assumption | omega)) rfl rfl rfl (by decide) (Nat.le_of_ble_eq_true rfl) d_M_moveLine_141 ?_
                rintro _ N113_ ⟨rfl, hsN113_, ⟨hp0_N113_, hp1_N113_⟩⟩
                have hf_N113_ : zFr [3, 4, 5, 6, 7, 8, 11, 13, 20] [83, 85, 86, 87, 88] Mz N113_ := hf_N104_.tr hsN113_ (by decide) (by decide)
                have r3_N113_ := ze_r N113_ 81 3
                have r4_N113_ := ze_r N113_ 81 4
                have r5_N113_ := ze_r N113_ 81 5
                have r6_N113_ := ze_r N113_ 81 6
                have r7_N113_ := ze_r N113_ 81 7
                have e12_N113_ : ze N113_ 81 12 = ze N104_ 81 12 := hsN113_.e (by decide)
                have e13_N113_ : ze N113_ 81 13 = ze N104_ 81 13 := hsN113_.e (by decide)
                have e20_N113_ : ze N113_ 81 20 = ze N104_ 81 20 := hsN113_.e (by decide)
                have c115_ : zRb b_ n_ N113_ := zRb.fr hsN113_ c111_ (by decide) (by decide)
                have c116_ : zB 85 144 0 5 N113_ := zB.fr hsN113_ c112_ (by decide) (by decide)
                have c117_ : zB 83 24 0 5 N113_ := zB.fr hsN113_ i110_ (by decide) (by decide)
                rcases hp1_N113_ with ⟨ha141_0_hp1_N113_, ha141_1_hp1_N113_⟩ | ⟨ha141_0_hp1_N113_, ha141_1_hp1_N113_, ha141_2_hp1_N113_, ha141_3_hp1_N113_⟩
                · skip
                  have hrt2_ : zbs b_ n_ (ze Mz 81 12).toNat (0, (ze Mz 81 4).toNat, zMvs Mz) = zMf := by first | assumption | exact hrt_ | (obtain ⟨l_, hl1_, -⟩ := zMrI_e hmi_ (by omega); exact zbs_f hl0_ hl1_ (fun q_ => ha141_1_hp1_N113_ (by omega) q_.1))
                  show zW l m_M_moveLine (zn Mz + 0, zw Mz + 0) N113_ 144 [some (.ref 81), some (.int (Int32.ofInt (ze Mz 81 4))), some (.int (Int32.ofInt u102_)), some (.int (Int32.ofInt u103_)), none] [] _
                  refine zw_aload_n (pc := 144) (n := 0) (x := 81) rfl d_M_moveLine_144 ?_
                  refine zr_getI (hf_N113_.w hW) (pc := 145) f_M_172 rfl d_M_moveLine_145 ?_
                  refine zr_if_le (pc := 148) (tgt := 152) ⟨(ze_r N113_ 81 7).1, (ze_r N113_ 81 7).2⟩ (by decide) d_M_moveLine_148 (fun hc_148 => ?_) (fun hc_148 => ?_)
                  · skip
                    exfalso; omega
                  · skip
                    exact zr_vret (pc := 151) rfl hf_N113_ ⟨hp0_N113_, (show 0 ≤ ze N113_ 81 13 by first | assumption | omega), (show ze N113_ 81 13 ≤ 4 by first | assumption | omega), c117_, c116_, (show ((1 ≤ ze N113_ 81 7 ∧ zbs b_ n_ (ze Mz 81 12).toNat (0, (ze Mz 81 4).toNat, zMvs Mz) = zMf) ∨ (ze N113_ 81 7 = 0 ∧ zbs b_ n_ (ze Mz 81 12).toNat (0, (ze Mz 81 4).toNat, zMvs Mz) = (0, (ze N113_ 81 4).toNat, zMvs N113_) ∧ zPm N113_ ∧ zFin N113_ ∧ ze Mz 81 4 < ze N113_ 81 4)) from Or.inl (⟨(show 1 ≤ ze N113_ 81 7 by first | assumption | omega | exact hrt_ | exact hrt2_), (show zbs b_ n_ (ze Mz 81 12).toNat (0, (ze Mz 81 4).toNat, zMvs Mz) = zMf by first | assumption | omega | exact hrt_ | exact hrt2_)⟩))⟩ d_M_moveLine_151
                · skip
                  exfalso; omega
              · skip
                refine zw_aload_n (pc := 41) (n := 0) (x := 81) rfl (zdal_p dlC_M_moveLine_82 (i := 23) rfl) ?_
                refine zr_callV (hf_N104_.w hW) hf_N104_.x (pc := 42) [] [] l_M_183 (c_M_isGood l N104_ (hf_N104_.w hW) ) rfl rfl rfl (by decide) (Nat.le_of_ble_eq_true rfl) (zdal_p dlC_M_moveLine_83 (i := 0) rfl) ?_
                rintro _ N118_ ⟨v119_, rfl, ⟨hv119_a, hv119_b⟩, hsN118_, hp0_N118_⟩
                obtain rfl := hsN118_.eq.symm
                replace hp0_N118_ : ((v119_ = 1 ∧ ze N104_ 81 7 = 0) ∨ (v119_ = 0 ∧ ze N104_ 81 7 ≠ 0)) := hp0_N118_
                rcases hp0_N118_ with ⟨rfl, ha42_0_hp0_N118_⟩ | ⟨rfl, ha42_0_hp0_N118_⟩
                · skip
                  exfalso; omega
                · skip
                  show zW l m_M_moveLine (zn Mz + 0, zw Mz + 0) N104_ 45 [some (.ref 81), some (.int (Int32.ofInt (ze Mz 81 4))), some (.int (Int32.ofInt u102_)), some (.int (Int32.ofInt u103_)), none] [.int (Int32.ofInt 0)] _
                  refine zr_if_eq (pc := 45) (tgt := 138) ⟨(by decide), (by decide)⟩ (by decide) (zdal_p dlC_M_moveLine_83 (i := 1) rfl) (fun hc_45 => ?_) (fun hc_45 => ?_)
                  · skip
                    refine zw_aload_n (pc := 138) (n := 0) (x := 81) rfl d_M_moveLine_138 ?_
                    refine zw_bipush (pc := 139) (v := Int32.ofInt 59) (by decide) d_M_moveLine_139 ?_
                    refine zr_callV (hf_N104_.w hW) hf_N104_.x (pc := 141) [.int (Int32.ofInt 59)] [] l_M_355 (c_M_mustF l N104_ (hf_N104_.w hW) 59 (by decide) (by decide) b_ n_ c111_ i106_ (show 0 ≤ ze N104_ 81 7 by first | assumption | omega)) rfl rfl rfl (by decide) (Nat.le_of_ble_eq_true rfl) d_M_moveLine_141 ?_
                    rintro _ N120_ ⟨rfl, hsN120_, ⟨hp0_N120_, hp1_N120_⟩⟩
                    have hf_N120_ : zFr [3, 4, 5, 6, 7, 8, 11, 13, 20] [83, 85, 86, 87, 88] Mz N120_ := hf_N104_.tr hsN120_ (by decide) (by decide)
                    have r3_N120_ := ze_r N120_ 81 3
                    have r4_N120_ := ze_r N120_ 81 4
                    have r5_N120_ := ze_r N120_ 81 5
                    have r6_N120_ := ze_r N120_ 81 6
                    have r7_N120_ := ze_r N120_ 81 7
                    have e12_N120_ : ze N120_ 81 12 = ze N104_ 81 12 := hsN120_.e (by decide)
                    have e13_N120_ : ze N120_ 81 13 = ze N104_ 81 13 := hsN120_.e (by decide)
                    have e20_N120_ : ze N120_ 81 20 = ze N104_ 81 20 := hsN120_.e (by decide)
                    have c122_ : zRb b_ n_ N120_ := zRb.fr hsN120_ c111_ (by decide) (by decide)
                    have c123_ : zB 85 144 0 5 N120_ := zB.fr hsN120_ c112_ (by decide) (by decide)
                    have c124_ : zB 83 24 0 5 N120_ := zB.fr hsN120_ i110_ (by decide) (by decide)
                    rcases hp1_N120_ with ⟨ha141_0_hp1_N120_, ha141_1_hp1_N120_⟩ | ⟨ha141_0_hp1_N120_, ha141_1_hp1_N120_, ha141_2_hp1_N120_, ha141_3_hp1_N120_⟩
                    · skip
                      have hrt2_ : zbs b_ n_ (ze Mz 81 12).toNat (0, (ze Mz 81 4).toNat, zMvs Mz) = zMf := by first | assumption | exact hrt_ | (obtain ⟨l_, hl1_, -⟩ := zMrI_e hmi_ (by omega); exact zbs_f hl0_ hl1_ (fun q_ => ha141_1_hp1_N120_ (by omega) q_.1))
                      show zW l m_M_moveLine (zn Mz + 0, zw Mz + 0) N120_ 144 [some (.ref 81), some (.int (Int32.ofInt (ze Mz 81 4))), some (.int (Int32.ofInt u102_)), some (.int (Int32.ofInt u103_)), none] [] _
                      refine zw_aload_n (pc := 144) (n := 0) (x := 81) rfl d_M_moveLine_144 ?_
                      refine zr_getI (hf_N120_.w hW) (pc := 145) f_M_172 rfl d_M_moveLine_145 ?_
                      refine zr_if_le (pc := 148) (tgt := 152) ⟨(ze_r N120_ 81 7).1, (ze_r N120_ 81 7).2⟩ (by decide) d_M_moveLine_148 (fun hc_148 => ?_) (fun hc_148 => ?_)
                      · skip
                        exfalso; omega
                      · skip
                        exact zr_vret (pc := 151) rfl hf_N120_ ⟨hp0_N120_, (show 0 ≤ ze N120_ 81 13 by first | assumption | omega), (show ze N120_ 81 13 ≤ 4 by first | assumption | omega), c124_, c123_, (show ((1 ≤ ze N120_ 81 7 ∧ zbs b_ n_ (ze Mz 81 12).toNat (0, (ze Mz 81 4).toNat, zMvs Mz) = zMf) ∨ (ze N120_ 81 7 = 0 ∧ zbs b_ n_ (ze Mz 81 12).toNat (0, (ze Mz 81 4).toNat, zMvs Mz) = (0, (ze N120_ 81 4).toNat, zMvs N120_) ∧ zPm N120_ ∧ zFin N120_ ∧ ze Mz 81 4 < ze N120_ 81 4)) from Or.inl (⟨(show 1 ≤ ze N120_ 81 7 by first | assumption | omega | exact hrt_ | exact hrt2_), (show zbs b_ n_ (ze Mz 81 12).toNat (0, (ze Mz 81 4).toNat, zMvs Mz) = zMf by first | assumption | omega | exact hrt_ | exact hrt2_)⟩))⟩ d_M_moveLine_151
                    · skip
                      exfalso; omega
                  · skip
                    exact absurd hc_45 (by decide)
            · skip
              have hmi_ := hl33_2_i109_
              have hkp_ := hl33_3_i109_
              obtain ⟨lm_, -, -, -, hmt_, -⟩ := id hmi_
              have hme_ := hmt_.1
              refine zw_iload_n (pc := 33) (n := 3) (x := Int32.ofInt u103_) rfl (zdal_p dlC_M_moveLine_82 (i := 19) rfl) ?_
              refine zw_aload_n (pc := 34) (n := 0) (x := 81) rfl (zdal_p dlC_M_moveLine_82 (i := 20) rfl) ?_
              refine zr_getI0 hf_N104_ hW (pc := 35) (by decide) f_M_115 rfl (zdal_p dlC_M_moveLine_82 (i := 21) rfl) ?_
              refine zr_icmp_ge (pc := 38) (tgt := 138) ⟨hu103_a, hu103_b⟩ ⟨(ze_r Mz 81 12).1, (ze_r Mz 81 12).2⟩ (by decide) (zdal_p dlC_M_moveLine_82 (i := 22) rfl) (fun hc_38 => ?_) (fun hc_38 => ?_)
              · skip
                refine zw_aload_n (pc := 138) (n := 0) (x := 81) rfl d_M_moveLine_138 ?_
                refine zw_bipush (pc := 139) (v := Int32.ofInt 59) (by decide) d_M_moveLine_139 ?_
                refine zr_callV (hf_N104_.w hW) hf_N104_.x (pc := 141) [.int (Int32.ofInt 59)] [] l_M_355 (c_M_mustF l N104_ (hf_N104_.w hW) 59 (by decide) (by decide) b_ n_ c111_ i106_ (show 0 ≤ ze N104_ 81 7 by first | assumption | omega)) rfl rfl rfl (by decide) (Nat.le_of_ble_eq_true rfl) d_M_moveLine_141 ?_
                rintro _ N125_ ⟨rfl, hsN125_, ⟨hp0_N125_, hp1_N125_⟩⟩
                have hf_N125_ : zFr [3, 4, 5, 6, 7, 8, 11, 13, 20] [83, 85, 86, 87, 88] Mz N125_ := hf_N104_.tr hsN125_ (by decide) (by decide)
                have r3_N125_ := ze_r N125_ 81 3
                have r4_N125_ := ze_r N125_ 81 4
                have r5_N125_ := ze_r N125_ 81 5
                have r6_N125_ := ze_r N125_ 81 6
                have r7_N125_ := ze_r N125_ 81 7
                have e12_N125_ : ze N125_ 81 12 = ze N104_ 81 12 := hsN125_.e (by decide)
                have e13_N125_ : ze N125_ 81 13 = ze N104_ 81 13 := hsN125_.e (by decide)
                have e20_N125_ : ze N125_ 81 20 = ze N104_ 81 20 := hsN125_.e (by decide)
                have c127_ : zRb b_ n_ N125_ := zRb.fr hsN125_ c111_ (by decide) (by decide)
                have c128_ : zB 85 144 0 5 N125_ := zB.fr hsN125_ c112_ (by decide) (by decide)
                have c129_ : zB 83 24 0 5 N125_ := zB.fr hsN125_ i110_ (by decide) (by decide)
                rcases hp1_N125_ with ⟨ha141_0_hp1_N125_, ha141_1_hp1_N125_⟩ | ⟨ha141_0_hp1_N125_, ha141_1_hp1_N125_, ha141_2_hp1_N125_, ha141_3_hp1_N125_⟩
                · skip
                  have hrt2_ : zbs b_ n_ (ze Mz 81 12).toNat (0, (ze Mz 81 4).toNat, zMvs Mz) = zMf := by first | assumption | exact hrt_ | (obtain ⟨l_, hl1_, -⟩ := zMrI_e hmi_ (by omega); exact zbs_f hl0_ hl1_ (fun q_ => ha141_1_hp1_N125_ (by omega) q_.1))
                  show zW l m_M_moveLine (zn Mz + 0, zw Mz + 0) N125_ 144 [some (.ref 81), some (.int (Int32.ofInt (ze Mz 81 4))), some (.int (Int32.ofInt u102_)), some (.int (Int32.ofInt u103_)), none] [] _
                  refine zw_aload_n (pc := 144) (n := 0) (x := 81) rfl d_M_moveLine_144 ?_
                  refine zr_getI (hf_N125_.w hW) (pc := 145) f_M_172 rfl d_M_moveLine_145 ?_
                  refine zr_if_le (pc := 148) (tgt := 152) ⟨(ze_r N125_ 81 7).1, (ze_r N125_ 81 7).2⟩ (by decide) d_M_moveLine_148 (fun hc_148 => ?_) (fun hc_148 => ?_)
                  · skip
                    exfalso; omega
                  · skip
                    exact zr_vret (pc := 151) rfl hf_N125_ ⟨hp0_N125_, (show 0 ≤ ze N125_ 81 13 by first | assumption | omega), (show ze N125_ 81 13 ≤ 4 by first | assumption | omega), c129_, c128_, (show ((1 ≤ ze N125_ 81 7 ∧ zbs b_ n_ (ze Mz 81 12).toNat (0, (ze Mz 81 4).toNat, zMvs Mz) = zMf) ∨ (ze N125_ 81 7 = 0 ∧ zbs b_ n_ (ze Mz 81 12).toNat (0, (ze Mz 81 4).toNat, zMvs Mz) = (0, (ze N125_ 81 4).toNat, zMvs N125_) ∧ zPm N125_ ∧ zFin N125_ ∧ ze Mz 81 4 < ze N125_ 81 4)) from Or.inl (⟨(show 1 ≤ ze N125_ 81 7 by first | assumption | omega | exact hrt_ | exact hrt2_), (show zbs b_ n_ (ze Mz 81 12).toNat (0, (ze Mz 81 4).toNat, zMvs Mz) = zMf by first | assumption | omega | exact hrt_ | exact hrt2_)⟩))⟩ d_M_moveLine_151
                · skip
                  have hsg_ := ha141_2_hp1_N125_
                  have hx4_ := ha141_3_hp1_N125_
                  obtain ⟨l_, hl1_, hl2_, hl3_, hl4_⟩ := zMrI_e hmi_ (by omega)
                  have hg4_ := znx_ge (b := b_) (n := n_) (s := (ze N104_ 81 4).toNat)
                  have hkm_ := zKp.fr hsN125_ hkp_ (by decide)
                  have hl5_ : ∀ i : Nat, i < (ze Mz 81 12).toNat → ze N125_ 83 (6 * (ze Mz 81 13).toNat + i) = ((l_.getD i 0 : Nat) : Int) := fun i hi => (hsN125_.ie (by decide) (by decide) _).trans (hl4_ i hi)
                  show zW l m_M_moveLine (zn Mz + 0, zw Mz + 0) N125_ 144 [some (.ref 81), some (.int (Int32.ofInt (ze Mz 81 4))), some (.int (Int32.ofInt u102_)), some (.int (Int32.ofInt u103_)), none] [] _
                  refine zw_aload_n (pc := 144) (n := 0) (x := 81) rfl d_M_moveLine_144 ?_
                  refine zr_getI (hf_N125_.w hW) (pc := 145) f_M_172 rfl d_M_moveLine_145 ?_
                  refine zr_if_le (pc := 148) (tgt := 152) ⟨(ze_r N125_ 81 7).1, (ze_r N125_ 81 7).2⟩ (by decide) d_M_moveLine_148 (fun hc_148 => ?_) (fun hc_148 => ?_)
                  · skip
                    refine zw_aload_n (pc := 152) (n := 0) (x := 81) rfl (zdal_p dlC_M_moveLine_85 (i := 9) rfl) ?_
                    refine zw_dup (pc := 153) rfl (zdal_p dlC_M_moveLine_85 (i := 10) rfl) ?_
                    refine zr_getI (hf_N125_.w hW) (pc := 154) f_M_199 rfl (zdal_p dlC_M_moveLine_85 (i := 11) rfl) ?_
                    refine zw_iconst (pc := 157) (v := Int32.ofInt 1) (by decide) (zdal_p dlC_M_moveLine_85 (i := 12) rfl) ?_
                    refine zr_iadd (pc := 158) (zdal_p dlC_M_moveLine_85 (i := 13) rfl) ?_
                    refine zr_putI (hf_N125_.w hW) (pc := 159) f_M_199 rfl rfl ⟨by omega, by omega⟩ rfl rfl (zdal_p dlC_M_moveLine_85 (i := 14) rfl) (fun N130_ hsN130_ hvN130_ => ?_)
                    have hf_N130_ : zFr [3, 4, 5, 6, 7, 8, 11, 13, 20] [83, 85, 86, 87, 88] Mz N130_ := hf_N125_.tr hsN130_ (by decide) (by decide)
                    have e3_N130_ : ze N130_ 81 3 = ze N125_ 81 3 := hsN130_.e (by decide)
                    have e4_N130_ : ze N130_ 81 4 = ze N125_ 81 4 := hsN130_.e (by decide)
                    have e5_N130_ : ze N130_ 81 5 = ze N125_ 81 5 := hsN130_.e (by decide)
                    have e6_N130_ : ze N130_ 81 6 = ze N125_ 81 6 := hsN130_.e (by decide)
                    have e7_N130_ : ze N130_ 81 7 = ze N125_ 81 7 := hsN130_.e (by decide)
                    have e12_N130_ : ze N130_ 81 12 = ze N125_ 81 12 := hsN130_.e (by decide)
                    have r13_N130_ := ze_r N130_ 81 13
                    have e20_N130_ : ze N130_ 81 20 = ze N125_ 81 20 := hsN130_.e (by decide)
                    have c131_ : zRb b_ n_ N130_ := zRb.fr hsN130_ c127_ (by decide) (by decide)
                    have c132_ : zB 85 144 0 5 N130_ := zB.fr hsN130_ c128_ (by decide) (by decide)
                    have c133_ : zB 83 24 0 5 N130_ := zB.fr hsN130_ c129_ (by decide) (by decide)
                    have c134_ : zRt b_ n_ N130_ := zRt.fr hsN130_ hp0_N125_ (by decide) (by decide)
                    have hmv_ := zMvs_u (M := Mz) (N := N130_) (l := l_) (P := (ze Mz 81 12).toNat) (by omega) (by omega) (by omega) (by omega) (by omega) (zKp.fr hsN130_ hkm_ (by decide)) (fun i hi => (hsN130_.ie (by decide) (by decide) _).trans (hl5_ i hi))
                    have hpl_ := zmc_p (P := (ze Mz 81 12).toNat) (l := l_) (by omega) hl3_ hl2_
                    have hPm_ : zPm N130_ := fun g_ hg_ => by rw [hmv_] at hg_; exact (List.mem_append.mp hg_).elim (p9_ g_) (fun e_ => by rw [List.mem_singleton.mp e_]; exact hpl_.1)
                    refine zw_aload_n (pc := 162) (n := 0) (x := 81) rfl (zdal_p dlC_M_moveLine_85 (i := 15) rfl) ?_
                    refine zr_callV (hf_N130_.w hW) hf_N130_.x (pc := 163) [] [] l_M_226 (c_M_buildsMembers l N130_ (hf_N130_.w hW) (show 1 ≤ ze N130_ 81 12 by first | assumption | omega) (show ze N130_ 81 12 ≤ 6 by first | assumption | omega) (show 0 ≤ ze N130_ 81 13 by first | assumption | omega) (show ze N130_ 81 13 ≤ 4 by first | assumption | omega) hPm_ c133_ c132_) rfl rfl rfl (by decide) (Nat.le_of_ble_eq_true rfl) (zdal_p dlC_M_moveLine_85 (i := 16) rfl) ?_
                    rintro _ N135_ ⟨v136_, rfl, ⟨hv136_a, hv136_b⟩, hsN135_, ⟨hp0_N135_, hp1_N135_⟩⟩
                    have hf_N135_ : zFr [3, 4, 5, 6, 7, 8, 11, 13, 20] [83, 85, 86, 87, 88] Mz N135_ := hf_N130_.tr hsN135_ (by decide) (by decide)
                    have e3_N135_ : ze N135_ 81 3 = ze N130_ 81 3 := hsN135_.e (by decide)
                    have e4_N135_ : ze N135_ 81 4 = ze N130_ 81 4 := hsN135_.e (by decide)
                    have e5_N135_ : ze N135_ 81 5 = ze N130_ 81 5 := hsN135_.e (by decide)
                    have e6_N135_ : ze N135_ 81 6 = ze N130_ 81 6 := hsN135_.e (by decide)
                    have e7_N135_ : ze N135_ 81 7 = ze N130_ 81 7 := hsN135_.e (by decide)
                    have e12_N135_ : ze N135_ 81 12 = ze N130_ 81 12 := hsN135_.e (by decide)
                    have e13_N135_ : ze N135_ 81 13 = ze N130_ 81 13 := hsN135_.e (by decide)
                    have r20_N135_ := ze_r N135_ 81 20
                    have c137_ : zRb b_ n_ N135_ := zRb.fr hsN135_ c131_ (by decide) (by decide)
                    have c138_ : zB 83 24 0 5 N135_ := zB.fr hsN135_ c133_ (by decide) (by decide)
                    have c139_ : zRt b_ n_ N135_ := zRt.fr hsN135_ c134_ (by decide) (by decide)
                    have c140_ : zPm N135_ := zPm.fr hsN135_ hPm_ (by decide) (by decide)
                    rcases hp1_N135_ with ⟨rfl, ha163_0_hp1_N135_, ha163_1_hp1_N135_, ha163_2_hp1_N135_, ha163_3_hp1_N135_⟩ | ⟨rfl, ha163_0_hp1_N135_⟩
                    · skip
                      have hPq_ : zPm N135_ := zPm.fr hsN135_ hPm_ (by decide) (by decide)
                      have hFq_ : zFin N135_ := zFin.fr hsN135_ ha163_0_hp1_N135_ (by decide) (by decide)
                      have hmq_ : zMvs N135_ = zMvs Mz ++ [zmc (ze Mz 81 12).toNat l_] := (zMvs_f hsN135_ (by decide) (by decide)).trans hmv_
                      have hgf_ : gFin (zMvs Mz ++ [zmc (ze Mz 81 12).toNat l_]) := by rw [← hmq_]; exact hFq_
                      have hfin_ : zbs b_ n_ (ze Mz 81 12).toNat (0, (ze Mz 81 4).toNat, zMvs Mz) = (0, (ze N135_ 81 4).toNat, zMvs N135_) := by rw [hmq_, zbs_t hl0_ (by omega) hl1_ ⟨hsg_, hgf_⟩, ← hx4_, show ze N135_ 81 4 = ze N125_ 81 4 by omega]
                      show zW l m_M_moveLine (zn Mz + 0, zw Mz + 0) N135_ 166 [some (.ref 81), some (.int (Int32.ofInt (ze Mz 81 4))), some (.int (Int32.ofInt u102_)), some (.int (Int32.ofInt u103_)), none] [.int (Int32.ofInt 1)] _
                      refine zr_if_ne (pc := 166) (tgt := 175) ⟨(by decide), (by decide)⟩ (by decide) (zdal_p dlC_M_moveLine_85 (i := 17) rfl) (fun hc_166 => ?_) (fun hc_166 => ?_)
                      · skip
                        exact zr_vret (pc := 175) rfl hf_N135_ ⟨c139_, (show 0 ≤ ze N135_ 81 13 by first | assumption | omega), (show ze N135_ 81 13 ≤ 4 by first | assumption | omega), c138_, hp0_N135_, (show ((1 ≤ ze N135_ 81 7 ∧ zbs b_ n_ (ze Mz 81 12).toNat (0, (ze Mz 81 4).toNat, zMvs Mz) = zMf) ∨ (ze N135_ 81 7 = 0 ∧ zbs b_ n_ (ze Mz 81 12).toNat (0, (ze Mz 81 4).toNat, zMvs Mz) = (0, (ze N135_ 81 4).toNat, zMvs N135_) ∧ zPm N135_ ∧ zFin N135_ ∧ ze Mz 81 4 < ze N135_ 81 4)) from Or.inr (⟨(show ze N135_ 81 7 = 0 by first | omega | exact hfin_ | exact hPq_ | exact hFq_), (show zbs b_ n_ (ze Mz 81 12).toNat (0, (ze Mz 81 4).toNat, zMvs Mz) = (0, (ze N135_ 81 4).toNat, zMvs N135_) by first | omega | exact hfin_ | exact hPq_ | exact hFq_), (show zPm N135_ by first | omega | exact hfin_ | exact hPq_ | exact hFq_), (show zFin N135_ by first | omega | exact hfin_ | exact hPq_ | exact hFq_), (show ze Mz 81 4 < ze N135_ 81 4 by first | omega | exact hfin_ | exact hPq_ | exact hFq_)⟩))⟩ (zdal_p dlC_M_moveLine_85 (i := 22) rfl)
                      · skip
                        exact absurd hc_166 (by decide)
                    · skip
                      have hnf_ := ha163_0_hp1_N135_
                      have hrt_ : zbs b_ n_ (ze Mz 81 12).toNat (0, (ze Mz 81 4).toNat, zMvs Mz) = zMf := zbs_f hl0_ hl1_ (fun q_ => hnf_ (by have h_ := q_.2; rw [← hmv_] at h_; exact h_))
                      show zW l m_M_moveLine (zn Mz + 0, zw Mz + 0) N135_ 166 [some (.ref 81), some (.int (Int32.ofInt (ze Mz 81 4))), some (.int (Int32.ofInt u102_)), some (.int (Int32.ofInt u103_)), none] [.int (Int32.ofInt 0)] _
                      refine zr_if_ne (pc := 166) (tgt := 175) ⟨(by decide), (by decide)⟩ (by decide) (zdal_p dlC_M_moveLine_85 (i := 17) rfl) (fun hc_166 => ?_) (fun hc_166 => ?_)
                      · skip
                        exact absurd hc_166 (by decide)
                      · skip
                        refine zw_aload_n (pc := 169) (n := 0) (x := 81) rfl (zdal_p dlC_M_moveLine_85 (i := 18) rfl) ?_
                        refine zw_iconst (pc := 170) (v := Int32.ofInt 5) (by decide) (zdal_p dlC_M_moveLine_85 (i := 19) rfl) ?_
                        refine zw_iload_n (pc := 171) (n := 1) (x := Int32.ofInt (ze Mz 81 4)) rfl (zdal_p dlC_M_moveLine_85 (i := 20) rfl) ?_
                        refine zr_callV (hf_N135_.w hW) hf_N135_.x (pc := 172) [.int (Int32.ofInt 5), .int (Int32.ofInt (ze Mz 81 4))] [] l_M_168 (c_M_wrongAtF l N135_ (hf_N135_.w hW) 5 (by decide) (by decide) (ze Mz 81 4) (ze_r Mz 81 4).1 (ze_r Mz 81 4).2 (show 1 ≤ 5 by first | assumption | omega)) rfl rfl rfl (by decide) (Nat.le_of_ble_eq_true rfl) (zdal_p dlC_M_moveLine_85 (i := 21) rfl) ?_
                        rintro _ N141_ ⟨rfl, hsN141_, hp0_N141_⟩
                        replace hp0_N141_ : 1 ≤ ze N141_ 81 7 := hp0_N141_
                        have hf_N141_ : zFr [3, 4, 5, 6, 7, 8, 11, 13, 20] [83, 85, 86, 87, 88] Mz N141_ := hf_N135_.tr hsN141_ (by decide) (by decide)
                        have e3_N141_ : ze N141_ 81 3 = ze N135_ 81 3 := hsN141_.e (by decide)
                        have e4_N141_ : ze N141_ 81 4 = ze N135_ 81 4 := hsN141_.e (by decide)
                        have e5_N141_ : ze N141_ 81 5 = ze N135_ 81 5 := hsN141_.e (by decide)
                        have e6_N141_ : ze N141_ 81 6 = ze N135_ 81 6 := hsN141_.e (by decide)
                        have r7_N141_ := ze_r N141_ 81 7
                        have e12_N141_ : ze N141_ 81 12 = ze N135_ 81 12 := hsN141_.e (by decide)
                        have e13_N141_ : ze N141_ 81 13 = ze N135_ 81 13 := hsN141_.e (by decide)
                        have e20_N141_ : ze N141_ 81 20 = ze N135_ 81 20 := hsN141_.e (by decide)
                        have c143_ : zRb b_ n_ N141_ := zRb.fr hsN141_ c137_ (by decide) (by decide)
                        have c144_ : zB 83 24 0 5 N141_ := zB.fr hsN141_ c138_ (by decide) (by decide)
                        have c145_ : zRt b_ n_ N141_ := zRt.fr hsN141_ c139_ (by decide) (by decide)
                        have c146_ : zPm N141_ := zPm.fr hsN141_ c140_ (by decide) (by decide)
                        have c147_ : zB 85 144 0 5 N141_ := zB.fr hsN141_ hp0_N135_ (by decide) (by decide)
                        show zW l m_M_moveLine (zn Mz + 0, zw Mz + 0) N141_ 175 [some (.ref 81), some (.int (Int32.ofInt (ze Mz 81 4))), some (.int (Int32.ofInt u102_)), some (.int (Int32.ofInt u103_)), none] [] _
                        exact zr_vret (pc := 175) rfl hf_N141_ ⟨c145_, (show 0 ≤ ze N141_ 81 13 by first | assumption | omega), (show ze N141_ 81 13 ≤ 4 by first | assumption | omega), c144_, c147_, (show ((1 ≤ ze N141_ 81 7 ∧ zbs b_ n_ (ze Mz 81 12).toNat (0, (ze Mz 81 4).toNat, zMvs Mz) = zMf) ∨ (ze N141_ 81 7 = 0 ∧ zbs b_ n_ (ze Mz 81 12).toNat (0, (ze Mz 81 4).toNat, zMvs Mz) = (0, (ze N141_ 81 4).toNat, zMvs N141_) ∧ zPm N141_ ∧ zFin N141_ ∧ ze Mz 81 4 < ze N141_ 81 4)) from Or.inl (⟨(show 1 ≤ ze N141_ 81 7 by first | assumption | omega | exact hrt_ | exact hrt2_), (show zbs b_ n_ (ze Mz 81 12).toNat (0, (ze Mz 81 4).toNat, zMvs Mz) = zMf by first | assumption | omega | exact hrt_ | exact hrt2_)⟩))⟩ (zdal_p dlC_M_moveLine_85 (i := 22) rfl)
                  · skip
                    exfalso; omega
              · skip
                refine zw_aload_n (pc := 41) (n := 0) (x := 81) rfl (zdal_p dlC_M_moveLine_82 (i := 23) rfl) ?_
                refine zr_callV (hf_N104_.w hW) hf_N104_.x (pc := 42) [] [] l_M_183 (c_M_isGood l N104_ (hf_N104_.w hW) ) rfl rfl rfl (by decide) (Nat.le_of_ble_eq_true rfl) (zdal_p dlC_M_moveLine_83 (i := 0) rfl) ?_
                rintro _ N148_ ⟨v149_, rfl, ⟨hv149_a, hv149_b⟩, hsN148_, hp0_N148_⟩
                obtain rfl := hsN148_.eq.symm
                replace hp0_N148_ : ((v149_ = 1 ∧ ze N104_ 81 7 = 0) ∨ (v149_ = 0 ∧ ze N104_ 81 7 ≠ 0)) := hp0_N148_
                rcases hp0_N148_ with ⟨rfl, ha42_0_hp0_N148_⟩ | ⟨rfl, ha42_0_hp0_N148_⟩
                · skip
                  show zW l m_M_moveLine (zn Mz + 0, zw Mz + 0) N104_ 45 [some (.ref 81), some (.int (Int32.ofInt (ze Mz 81 4))), some (.int (Int32.ofInt u102_)), some (.int (Int32.ofInt u103_)), none] [.int (Int32.ofInt 1)] _
                  refine zr_if_eq (pc := 45) (tgt := 138) ⟨(by decide), (by decide)⟩ (by decide) (zdal_p dlC_M_moveLine_83 (i := 1) rfl) (fun hc_45 => ?_) (fun hc_45 => ?_)
                  · skip
                    exact absurd hc_45 (by decide)
                  · skip
                    have hyt_ := i106_
                    have hyx_ := hyt_.x
                    have h5_ := hyt_.2.2.1
                    refine zw_aload_n (pc := 48) (n := 0) (x := 81) rfl (zdal_p dlC_M_moveLine_83 (i := 2) rfl) ?_
                    refine zr_getI (hf_N104_.w hW) (pc := 49) f_M_155 rfl (zdal_p dlC_M_moveLine_83 (i := 3) rfl) ?_
                    refine zw_iconst (pc := 52) (v := Int32.ofInt 2) (by decide) (zdal_p dlC_M_moveLine_83 (i := 4) rfl) ?_
                    refine zr_icmp_eq (pc := 53) (tgt := 61) ⟨(ze_r N104_ 81 5).1, (ze_r N104_ 81 5).2⟩ ⟨(by decide), (by decide)⟩ (by decide) (zdal_p dlC_M_moveLine_83 (i := 5) rfl) (fun hc_53 => ?_) (fun hc_53 => ?_)
                    · skip
                      have hv2_ : ze N104_ 81 7 = 0 → ze N104_ 81 6 = znu b_ n_ (ze N104_ 81 4).toNat ∧ 0 ≤ ze N104_ 81 6 ∧ ze N104_ 81 6 ≤ 999 := fun q_ => i106_.v2 (by omega)
                      refine zw_aload_n (pc := 61) (n := 0) (x := 81) rfl (zdal_p dlC_M_moveLine_83 (i := 9) rfl) ?_
                      refine zr_getI (hf_N104_.w hW) (pc := 62) f_M_152 rfl (zdal_p dlC_M_moveLine_83 (i := 10) rfl) ?_
                      refine zw_istore (pc := 65) (i := 4) (L2 := [some (.ref 81), some (.int (Int32.ofInt (ze Mz 81 4))), some (.int (Int32.ofInt u102_)), some (.int (Int32.ofInt u103_)), some (.int (Int32.ofInt (ze N104_ 81 6)))]) (by decide) rfl (zdal_p dlC_M_moveLine_83 (i := 11) rfl) ?_
                      refine zw_aload_n (pc := 67) (n := 0) (x := 81) rfl (zdal_p dlC_M_moveLine_83 (i := 12) rfl) ?_
                      refine zr_callV (hf_N104_.w hW) hf_N104_.x (pc := 68) [] [] l_M_183 (c_M_isGood l N104_ (hf_N104_.w hW) ) rfl rfl rfl (by decide) (Nat.le_of_ble_eq_true rfl) (zdal_p dlC_M_moveLine_83 (i := 13) rfl) ?_
                      rintro _ N150_ ⟨v151_, rfl, ⟨hv151_a, hv151_b⟩, hsN150_, hp0_N150_⟩
                      obtain rfl := hsN150_.eq.symm
                      replace hp0_N150_ : ((v151_ = 1 ∧ ze N104_ 81 7 = 0) ∨ (v151_ = 0 ∧ ze N104_ 81 7 ≠ 0)) := hp0_N150_
                      rcases hp0_N150_ with ⟨rfl, ha68_0_hp0_N150_⟩ | ⟨rfl, ha68_0_hp0_N150_⟩
                      · skip
                        show zW l m_M_moveLine (zn Mz + 0, zw Mz + 0) N104_ 71 [some (.ref 81), some (.int (Int32.ofInt (ze Mz 81 4))), some (.int (Int32.ofInt u102_)), some (.int (Int32.ofInt u103_)), some (.int (Int32.ofInt (ze N104_ 81 6)))] [.int (Int32.ofInt 1)] _
                        refine zr_if_eq (pc := 71) (tgt := 97) ⟨(by decide), (by decide)⟩ (by decide) (zdal_p dlC_M_moveLine_83 (i := 14) rfl) (fun hc_71 => ?_) (fun hc_71 => ?_)
                        · skip
                          exact absurd hc_71 (by decide)
                        · skip
                          refine zw_iload (pc := 74) (i := 4) (x := Int32.ofInt (ze N104_ 81 6)) rfl (zdal_p dlC_M_moveLine_83 (i := 15) rfl) ?_
                          refine zw_aload_n (pc := 76) (n := 0) (x := 81) rfl (zdal_p dlC_M_moveLine_83 (i := 16) rfl) ?_
                          refine zr_getI0 hf_N104_ hW (pc := 77) (by decide) f_M_115 rfl (zdal_p dlC_M_moveLine_83 (i := 17) rfl) ?_
                          refine zr_icmp_ge (pc := 80) (tgt := 92) ⟨(ze_r N104_ 81 6).1, (ze_r N104_ 81 6).2⟩ ⟨(ze_r Mz 81 12).1, (ze_r Mz 81 12).2⟩ (by decide) (zdal_p dlC_M_moveLine_83 (i := 18) rfl) (fun hc_80 => ?_) (fun hc_80 => ?_)
                          · skip
                            have hno_ : zrm b_ n_ (ze Mz 81 12).toNat (ze Mz 81 12).toNat (znx b_ n_ (ze Mz 81 4).toNat) [] = none := zMrI_f hmi_ (by omega) (by omega) (fun q_ => by have h1_ := q_.2.1; have h2_ := hv2_ (by omega); first | omega | (have h3_ := q_.2.2; rw [← h2_.1] at h3_; exact h3_ hbt_)) (by omega)
                            have hrt_ : zbs b_ n_ (ze Mz 81 12).toNat (0, (ze Mz 81 4).toNat, zMvs Mz) = zMf := zbs_n hl0_ hno_
                            refine zw_aload_n (pc := 92) (n := 0) (x := 81) rfl (zdal_p dlC_M_moveLine_83 (i := 23) rfl) ?_
                            refine zw_iconst (pc := 93) (v := Int32.ofInt 4) (by decide) (zdal_p dlC_M_moveLine_84 (i := 0) rfl) ?_
                            refine zr_callV (hf_N104_.w hW) hf_N104_.x (pc := 94) [.int (Int32.ofInt 4)] [] l_M_190 (c_M_wrongF l N104_ (hf_N104_.w hW) 4 (by decide) (by decide) (show 1 ≤ 4 by first | assumption | omega)) rfl rfl rfl (by decide) (Nat.le_of_ble_eq_true rfl) (zdal_p dlC_M_moveLine_84 (i := 1) rfl) ?_
                            rintro _ N152_ ⟨rfl, hsN152_, hp0_N152_⟩
                            replace hp0_N152_ : 1 ≤ ze N152_ 81 7 := hp0_N152_
                            have hf_N152_ : zFr [3, 4, 5, 6, 7, 8, 11, 13, 20] [83, 85, 86, 87, 88] Mz N152_ := hf_N104_.tr hsN152_ (by decide) (by decide)
                            have hb0_N152_ : zFr [3, 4, 5, 6, 7, 8, 11] [83] N93_ N152_ := hs105_.tr hsN152_ (by decide) (by decide)
                            have e3_N152_ : ze N152_ 81 3 = ze N104_ 81 3 := hsN152_.e (by decide)
                            have e4_N152_ : ze N152_ 81 4 = ze N104_ 81 4 := hsN152_.e (by decide)
                            have e5_N152_ : ze N152_ 81 5 = ze N104_ 81 5 := hsN152_.e (by decide)
                            have e6_N152_ : ze N152_ 81 6 = ze N104_ 81 6 := hsN152_.e (by decide)
                            have r7_N152_ := ze_r N152_ 81 7
                            have e12_N152_ : ze N152_ 81 12 = ze N104_ 81 12 := hsN152_.e (by decide)
                            have e13_N152_ : ze N152_ 81 13 = ze N104_ 81 13 := hsN152_.e (by decide)
                            have e20_N152_ : ze N152_ 81 20 = ze N104_ 81 20 := hsN152_.e (by decide)
                            have c154_ : zRb b_ n_ N152_ := zRb.fr hsN152_ c111_ (by decide) (by decide)
                            have c155_ : zB 85 144 0 5 N152_ := zB.fr hsN152_ c112_ (by decide) (by decide)
                            have c156_ : zRt b_ n_ N152_ := zRt.fr hsN152_ i106_ (by decide) (by decide)
                            have c157_ : zB 83 24 0 5 N152_ := zB.fr hsN152_ i110_ (by decide) (by decide)
                            show zW l m_M_moveLine (zn Mz + 0, zw Mz + 0) N152_ 97 [some (.ref 81), some (.int (Int32.ofInt (ze Mz 81 4))), some (.int (Int32.ofInt u102_)), some (.int (Int32.ofInt u103_)), some (.int (Int32.ofInt (ze N104_ 81 6)))] [] _
                            refine zw_aload_n (pc := 97) (n := 0) (x := 81) rfl d_M_moveLine_97 ?_
                            refine zr_getI (hf_N152_.w hW) (pc := 98) f_M_172 rfl d_M_moveLine_98 ?_
                            refine zr_if_le (pc := 101) (tgt := 105) ⟨(ze_r N152_ 81 7).1, (ze_r N152_ 81 7).2⟩ (by decide) d_M_moveLine_101 (fun hc_101 => ?_) (fun hc_101 => ?_)
                            · skip
                              exfalso; omega
                            · skip
                              exact zr_vret (pc := 104) rfl hf_N152_ ⟨c156_, (show 0 ≤ ze N152_ 81 13 by first | assumption | omega), (show ze N152_ 81 13 ≤ 4 by first | assumption | omega), c157_, c155_, (show ((1 ≤ ze N152_ 81 7 ∧ zbs b_ n_ (ze Mz 81 12).toNat (0, (ze Mz 81 4).toNat, zMvs Mz) = zMf) ∨ (ze N152_ 81 7 = 0 ∧ zbs b_ n_ (ze Mz 81 12).toNat (0, (ze Mz 81 4).toNat, zMvs Mz) = (0, (ze N152_ 81 4).toNat, zMvs N152_) ∧ zPm N152_ ∧ zFin N152_ ∧ ze Mz 81 4 < ze N152_ 81 4)) from Or.inl (⟨(show 1 ≤ ze N152_ 81 7 by first | assumption | omega | exact hrt_ | exact hrt2_), (show zbs b_ n_ (ze Mz 81 12).toNat (0, (ze Mz 81 4).toNat, zMvs Mz) = zMf by first | assumption | omega | exact hrt_ | exact hrt2_)⟩))⟩ d_M_moveLine_104
                          · skip
                            refine zw_iload_n (pc := 83) (n := 2) (x := Int32.ofInt u102_) rfl (zdal_p dlC_M_moveLine_83 (i := 19) rfl) ?_
                            refine zw_iload (pc := 84) (i := 4) (x := Int32.ofInt (ze N104_ 81 6)) rfl (zdal_p dlC_M_moveLine_83 (i := 20) rfl) ?_
                            refine zr_callS hf_N104_.x (pc := 86) [.int (Int32.ofInt u102_), .int (Int32.ofInt (ze N104_ 81 6))] [] l_M_213 (c_M_holds l N104_ (hf_N104_.w hW) u102_ hu102_a hu102_b (ze N104_ 81 6) (ze_r N104_ 81 6).1 (ze_r N104_ 81 6).2 (show 0 ≤ u102_ by first | assumption | omega) (show 0 ≤ (ze N104_ 81 6) by first | assumption | omega) (show (ze N104_ 81 6) < 32 by first | assumption | omega)) rfl rfl (by decide) (Nat.le_of_ble_eq_true rfl) (zdal_p dlC_M_moveLine_83 (i := 21) rfl) ?_
                            rintro _ N158_ ⟨v159_, rfl, ⟨hv159_a, hv159_b⟩, hsN158_, hp0_N158_⟩
                            obtain rfl := hsN158_.eq.symm
                            replace hp0_N158_ : ((v159_ = 1 ∧ zbt u102_ (ze N104_ 81 6)) ∨ (v159_ = 0 ∧ ¬ zbt u102_ (ze N104_ 81 6))) := hp0_N158_
                            rcases hp0_N158_ with ⟨rfl, ha86_0_hp0_N158_⟩ | ⟨rfl, ha86_0_hp0_N158_⟩
                            · skip
                              have hbt_ := ha86_0_hp0_N158_
                              show zW l m_M_moveLine (zn Mz + 0, zw Mz + 0) N104_ 89 [some (.ref 81), some (.int (Int32.ofInt (ze Mz 81 4))), some (.int (Int32.ofInt u102_)), some (.int (Int32.ofInt u103_)), some (.int (Int32.ofInt (ze N104_ 81 6)))] [.int (Int32.ofInt 1)] _
                              refine zr_if_eq (pc := 89) (tgt := 97) ⟨(by decide), (by decide)⟩ (by decide) (zdal_p dlC_M_moveLine_83 (i := 22) rfl) (fun hc_89 => ?_) (fun hc_89 => ?_)
                              · skip
                                exact absurd hc_89 (by decide)
                              · skip
                                have hno_ : zrm b_ n_ (ze Mz 81 12).toNat (ze Mz 81 12).toNat (znx b_ n_ (ze Mz 81 4).toNat) [] = none := zMrI_f hmi_ (by omega) (by omega) (fun q_ => by have h1_ := q_.2.1; have h2_ := hv2_ (by omega); first | omega | (have h3_ := q_.2.2; rw [← h2_.1] at h3_; exact h3_ hbt_)) (by omega)
                                have hrt_ : zbs b_ n_ (ze Mz 81 12).toNat (0, (ze Mz 81 4).toNat, zMvs Mz) = zMf := zbs_n hl0_ hno_
                                refine zw_aload_n (pc := 92) (n := 0) (x := 81) rfl (zdal_p dlC_M_moveLine_83 (i := 23) rfl) ?_
                                refine zw_iconst (pc := 93) (v := Int32.ofInt 4) (by decide) (zdal_p dlC_M_moveLine_84 (i := 0) rfl) ?_
                                refine zr_callV (hf_N104_.w hW) hf_N104_.x (pc := 94) [.int (Int32.ofInt 4)] [] l_M_190 (c_M_wrongF l N104_ (hf_N104_.w hW) 4 (by decide) (by decide) (show 1 ≤ 4 by first | assumption | omega)) rfl rfl rfl (by decide) (Nat.le_of_ble_eq_true rfl) (zdal_p dlC_M_moveLine_84 (i := 1) rfl) ?_
                                rintro _ N160_ ⟨rfl, hsN160_, hp0_N160_⟩
                                replace hp0_N160_ : 1 ≤ ze N160_ 81 7 := hp0_N160_
                                have hf_N160_ : zFr [3, 4, 5, 6, 7, 8, 11, 13, 20] [83, 85, 86, 87, 88] Mz N160_ := hf_N104_.tr hsN160_ (by decide) (by decide)
                                have hb0_N160_ : zFr [3, 4, 5, 6, 7, 8, 11] [83] N93_ N160_ := hs105_.tr hsN160_ (by decide) (by decide)
                                have e3_N160_ : ze N160_ 81 3 = ze N104_ 81 3 := hsN160_.e (by decide)
                                have e4_N160_ : ze N160_ 81 4 = ze N104_ 81 4 := hsN160_.e (by decide)
                                have e5_N160_ : ze N160_ 81 5 = ze N104_ 81 5 := hsN160_.e (by decide)
                                have e6_N160_ : ze N160_ 81 6 = ze N104_ 81 6 := hsN160_.e (by decide)
                                have r7_N160_ := ze_r N160_ 81 7
                                have e12_N160_ : ze N160_ 81 12 = ze N104_ 81 12 := hsN160_.e (by decide)
                                have e13_N160_ : ze N160_ 81 13 = ze N104_ 81 13 := hsN160_.e (by decide)
                                have e20_N160_ : ze N160_ 81 20 = ze N104_ 81 20 := hsN160_.e (by decide)
                                have c162_ : zRb b_ n_ N160_ := zRb.fr hsN160_ c111_ (by decide) (by decide)
                                have c163_ : zB 85 144 0 5 N160_ := zB.fr hsN160_ c112_ (by decide) (by decide)
                                have c164_ : zRt b_ n_ N160_ := zRt.fr hsN160_ i106_ (by decide) (by decide)
                                have c165_ : zB 83 24 0 5 N160_ := zB.fr hsN160_ i110_ (by decide) (by decide)
                                show zW l m_M_moveLine (zn Mz + 0, zw Mz + 0) N160_ 97 [some (.ref 81), some (.int (Int32.ofInt (ze Mz 81 4))), some (.int (Int32.ofInt u102_)), some (.int (Int32.ofInt u103_)), some (.int (Int32.ofInt (ze N104_ 81 6)))] [] _
                                refine zw_aload_n (pc := 97) (n := 0) (x := 81) rfl d_M_moveLine_97 ?_
                                refine zr_getI (hf_N160_.w hW) (pc := 98) f_M_172 rfl d_M_moveLine_98 ?_
                                refine zr_if_le (pc := 101) (tgt := 105) ⟨(ze_r N160_ 81 7).1, (ze_r N160_ 81 7).2⟩ (by decide) d_M_moveLine_101 (fun hc_101 => ?_) (fun hc_101 => ?_)
                                · skip
                                  exfalso; omega
                                · skip
                                  exact zr_vret (pc := 104) rfl hf_N160_ ⟨c164_, (show 0 ≤ ze N160_ 81 13 by first | assumption | omega), (show ze N160_ 81 13 ≤ 4 by first | assumption | omega), c165_, c163_, (show ((1 ≤ ze N160_ 81 7 ∧ zbs b_ n_ (ze Mz 81 12).toNat (0, (ze Mz 81 4).toNat, zMvs Mz) = zMf) ∨ (ze N160_ 81 7 = 0 ∧ zbs b_ n_ (ze Mz 81 12).toNat (0, (ze Mz 81 4).toNat, zMvs Mz) = (0, (ze N160_ 81 4).toNat, zMvs N160_) ∧ zPm N160_ ∧ zFin N160_ ∧ ze Mz 81 4 < ze N160_ 81 4)) from Or.inl (⟨(show 1 ≤ ze N160_ 81 7 by first | assumption | omega | exact hrt_ | exact hrt2_), (show zbs b_ n_ (ze Mz 81 12).toNat (0, (ze Mz 81 4).toNat, zMvs Mz) = zMf by first | assumption | omega | exact hrt_ | exact hrt2_)⟩))⟩ d_M_moveLine_104
                            · skip
                              have hnb_ := ha86_0_hp0_N158_
                              show zW l m_M_moveLine (zn Mz + 0, zw Mz + 0) N104_ 89 [some (.ref 81), some (.int (Int32.ofInt (ze Mz 81 4))), some (.int (Int32.ofInt u102_)), some (.int (Int32.ofInt u103_)), some (.int (Int32.ofInt (ze N104_ 81 6)))] [.int (Int32.ofInt 0)] _
                              refine zr_if_eq (pc := 89) (tgt := 97) ⟨(by decide), (by decide)⟩ (by decide) (zdal_p dlC_M_moveLine_83 (i := 22) rfl) (fun hc_89 => ?_) (fun hc_89 => ?_)
                              · skip
                                refine zw_aload_n (pc := 97) (n := 0) (x := 81) rfl d_M_moveLine_97 ?_
                                refine zr_getI (hf_N104_.w hW) (pc := 98) f_M_172 rfl d_M_moveLine_98 ?_
                                refine zr_if_le (pc := 101) (tgt := 105) ⟨(ze_r N104_ 81 7).1, (ze_r N104_ 81 7).2⟩ (by decide) d_M_moveLine_101 (fun hc_101 => ?_) (fun hc_101 => ?_)
                                · skip
                                  have hv3_ := hv2_ (by omega)
                                  refine zw_iload_n (pc := 105) (n := 2) (x := Int32.ofInt u102_) rfl (zdal_p dlC_M_moveLine_84 (i := 6) rfl) ?_
                                  refine zw_iconst (pc := 106) (v := Int32.ofInt 1) (by decide) (zdal_p dlC_M_moveLine_84 (i := 7) rfl) ?_
                                  refine zw_iload (pc := 107) (i := 4) (x := Int32.ofInt (ze N104_ 81 6)) rfl (zdal_p dlC_M_moveLine_84 (i := 8) rfl) ?_
                                  refine zr_ishl (pc := 109) (zdal_p dlC_M_moveLine_84 (i := 9) rfl) ?_
                                  have hr166_ := zshl_r 1 (ze N104_ 81 6)
                                  refine zr_ior (pc := 110) (zdal_p dlC_M_moveLine_84 (i := 10) rfl) ?_
                                  have hr167_ := zor_r u102_ (zshl 1 (ze N104_ 81 6))
                                  refine zw_istore_n (pc := 111) (i := 2) (L2 := [some (.ref 81), some (.int (Int32.ofInt (ze Mz 81 4))), some (.int (Int32.ofInt (zor u102_ (zshl 1 (ze N104_ 81 6))))), some (.int (Int32.ofInt u103_)), some (.int (Int32.ofInt (ze N104_ 81 6)))]) rfl (by decide) rfl (zdal_p dlC_M_moveLine_84 (i := 11) rfl) ?_
                                  refine zw_aload_n (pc := 112) (n := 0) (x := 81) rfl (zdal_p dlC_M_moveLine_84 (i := 12) rfl) ?_
                                  refine zr_getF (r := 83) (hf_N104_.w hW) (pc := 113) f_M_20 rfl (zh_83 (hf_N104_.w hW)).1 (zdal_p dlC_M_moveLine_84 (i := 13) rfl) ?_
                                  refine zw_bipush (pc := 116) (v := Int32.ofInt 6) (by decide) (zdal_p dlC_M_moveLine_84 (i := 14) rfl) ?_
                                  refine zw_aload_n (pc := 118) (n := 0) (x := 81) rfl (zdal_p dlC_M_moveLine_84 (i := 15) rfl) ?_
                                  refine zr_getI (hf_N104_.w hW) (pc := 119) f_M_199 rfl (zdal_p dlC_M_moveLine_84 (i := 16) rfl) ?_
                                  refine zr_imul (pc := 122) (zdal_p dlC_M_moveLine_84 (i := 17) rfl) ?_
                                  refine zw_iload_n (pc := 123) (n := 3) (x := Int32.ofInt u103_) rfl (zdal_p dlC_M_moveLine_84 (i := 18) rfl) ?_
                                  refine zr_iadd (pc := 124) (zdal_p dlC_M_moveLine_84 (i := 19) rfl) ?_
                                  refine zr_toI (show ((6 * (ze N104_ 81 13)) + u103_) = 6 * ze Mz 81 13 + u103_ by omega) ?_
                                  refine zw_iload (pc := 125) (i := 4) (x := Int32.ofInt (ze N104_ 81 6)) rfl (zdal_p dlC_M_moveLine_84 (i := 20) rfl) ?_
                                  refine zr_iast (pc := 127) (zh_83 (hf_N104_.w hW)).2 (by decide) (by decide) (by omega) (by omega) (zdal_p dlC_M_moveLine_84 (i := 21) rfl) (fun N168_ hN168_ hsN168_ => ?_)
                                  have hf_N168_ : zFr [3, 4, 5, 6, 7, 8, 11, 13, 20] [83, 85, 86, 87, 88] Mz N168_ := hf_N104_.tr hsN168_ (by decide) (by decide)
                                  have hb0_N168_ : zFr [3, 4, 5, 6, 7, 8, 11] [83] N93_ N168_ := hs105_.tr hsN168_ (by decide) (by decide)
                                  have e3_N168_ : ze N168_ 81 3 = ze N104_ 81 3 := hsN168_.e (by decide)
                                  have e4_N168_ : ze N168_ 81 4 = ze N104_ 81 4 := hsN168_.e (by decide)
                                  have e5_N168_ : ze N168_ 81 5 = ze N104_ 81 5 := hsN168_.e (by decide)
                                  have e6_N168_ : ze N168_ 81 6 = ze N104_ 81 6 := hsN168_.e (by decide)
                                  have e7_N168_ : ze N168_ 81 7 = ze N104_ 81 7 := hsN168_.e (by decide)
                                  have e12_N168_ : ze N168_ 81 12 = ze N104_ 81 12 := hsN168_.e (by decide)
                                  have e13_N168_ : ze N168_ 81 13 = ze N104_ 81 13 := hsN168_.e (by decide)
                                  have e20_N168_ : ze N168_ 81 20 = ze N104_ 81 20 := hsN168_.e (by decide)
                                  have c169_ : zRb b_ n_ N168_ := zRb.fr hsN168_ c111_ (by decide) (by decide)
                                  have c170_ : zB 85 144 0 5 N168_ := zB.fr hsN168_ c112_ (by decide) (by decide)
                                  have c171_ : zRt b_ n_ N168_ := zRt.fr hsN168_ i106_ (by decide) (by decide)
                                  have c172_ : zB 83 24 0 5 N168_ := zB.s i110_ hN168_ (by omega) (by omega) (by decide) (by decide)
                                  have hK1_ := zKp_s hkp_ (by omega) (by omega) hN168_
                                  have hyt_ := c171_
                                  have hyx_ := hyt_.x
                                  refine zw_aload_n (pc := 128) (n := 0) (x := 81) rfl (zdal_p dlC_M_moveLine_84 (i := 22) rfl) ?_
                                  refine zr_callV (hf_N168_.w hW) hf_N168_.x (pc := 129) [] [] l_M_193 (c_M_goOnF l N168_ (hf_N168_.w hW) b_ n_ c169_ (show 0 ≤ ze N168_ 81 3 by first | assumption | omega) (show ze N168_ 81 3 ≤ n_ by first | assumption | omega)) rfl rfl rfl (by decide) (Nat.le_of_ble_eq_true rfl) (zdal_p dlC_M_moveLine_84 (i := 23) rfl) ?_
                                  rintro _ N173_ ⟨rfl, hsN173_, ⟨hp0_N173_, hp1_N173_⟩⟩
                                  have hf_N173_ : zFr [3, 4, 5, 6, 7, 8, 11, 13, 20] [83, 85, 86, 87, 88] Mz N173_ := hf_N168_.tr hsN173_ (by decide) (by decide)
                                  have hb0_N173_ : zFr [3, 4, 5, 6, 7, 8, 11] [83] N93_ N173_ := hb0_N168_.tr hsN173_ (by decide) (by decide)
                                  have r3_N173_ := ze_r N173_ 81 3
                                  have r4_N173_ := ze_r N173_ 81 4
                                  have r5_N173_ := ze_r N173_ 81 5
                                  have r6_N173_ := ze_r N173_ 81 6
                                  have e7_N173_ : ze N173_ 81 7 = ze N168_ 81 7 := hsN173_.e (by decide)
                                  have e12_N173_ : ze N173_ 81 12 = ze N168_ 81 12 := hsN173_.e (by decide)
                                  have e13_N173_ : ze N173_ 81 13 = ze N168_ 81 13 := hsN173_.e (by decide)
                                  have e20_N173_ : ze N173_ 81 20 = ze N168_ 81 20 := hsN173_.e (by decide)
                                  have c175_ : zRb b_ n_ N173_ := zRb.fr hsN173_ c169_ (by decide) (by decide)
                                  have c176_ : zB 85 144 0 5 N173_ := zB.fr hsN173_ c170_ (by decide) (by decide)
                                  have c177_ : zB 83 24 0 5 N173_ := zB.fr hsN173_ c172_ (by decide) (by decide)
                                  show zW l m_M_moveLine (zn Mz + 0, zw Mz + 0) N173_ 132 [some (.ref 81), some (.int (Int32.ofInt (ze Mz 81 4))), some (.int (Int32.ofInt (zor u102_ (zshl 1 (ze N104_ 81 6))))), some (.int (Int32.ofInt u103_)), some (.int (Int32.ofInt (ze N104_ 81 6)))] [] _
                                  have hnn_ := hyt_.nx hp0_N173_
                                  have hR2_ := zMrI_s (M := N104_) (N := N168_) (N2 := N173_) hmi_ (by omega) (by omega) (by omega) (by omega) (by omega) hv3_.1 (by omega) (by omega) hnb_ hN168_ (fun j_ => hsN173_.ie (by decide) (by decide) j_) (hnn_.2.trans (by rw [show ze N168_ 81 4 = ze N104_ 81 4 by omega]))
                                  have hK2_ := zKp.fr hsN173_ hK1_ (by decide)
                                  have hg2_ := znx_ge (b := b_) (n := n_) (s := (ze N168_ 81 4).toNat)
                                  refine zr_iinc (pc := 132) (i := 3) (a := u103_) (n := 1) (L2 := [some (.ref 81), some (.int (Int32.ofInt (ze Mz 81 4))), some (.int (Int32.ofInt (zor u102_ (zshl 1 (ze N104_ 81 6))))), some (.int (Int32.ofInt (u103_ + 1))), some (.int (Int32.ofInt (ze N104_ 81 6)))]) rfl (by decide) rfl (zdal_p dlC_M_moveLine_85 (i := 0) rfl) ?_
                                  refine zw_goto (pc := 135) (tgt := 33) (by decide) (zdal_p dlC_M_moveLine_85 (i := 1) rfl) ?_
                                  refine zW_le [some (.ref 81), some (.int (Int32.ofInt (ze Mz 81 4))), some (.int (Int32.ofInt (zor u102_ (zshl 1 (ze N104_ 81 6))))), some (.int (Int32.ofInt (u103_ + 1))), none] (⟨rfl, rfl, rfl, rfl, trivial⟩) ?_
                                  exact ih_33 (zor u102_ (zshl 1 (ze N104_ 81 6))) (by omega) (by omega) (u103_ + 1) (by omega) (by omega) N173_ hb0_N173_ hp1_N173_ (show 0 ≤ (u103_ + 1) by first | assumption | omega) (show (u103_ + 1) ≤ ze Mz 81 12 by first | assumption | omega) (show (1 ≤ ze N173_ 81 7 ∧ zbs b_ n_ (ze Mz 81 12).toNat (0, (ze Mz 81 4).toNat, zMvs Mz) = zMf) ∨ (ze N173_ 81 7 = 0 ∧ ze Mz 81 13 ≤ 3 ∧ zMrI b_ n_ (ze Mz 81 12).toNat (znx b_ n_ (ze Mz 81 4).toNat) (ze Mz 81 13) N173_ (u103_ + 1) (zor u102_ (zshl 1 (ze N104_ 81 6))) ∧ zKp Mz N173_ (6 * ze Mz 81 13) ∧ ze Mz 81 4 < ze N173_ 81 4) from Or.inr (⟨(show ze N173_ 81 7 = 0 by first | assumption | omega | exact hR2_ | exact hK2_), (show ze Mz 81 13 ≤ 3 by first | assumption | omega | exact hR2_ | exact hK2_), (show zMrI b_ n_ (ze Mz 81 12).toNat (znx b_ n_ (ze Mz 81 4).toNat) (ze Mz 81 13) N173_ (u103_ + 1) (zor u102_ (zshl 1 (ze N104_ 81 6))) by first | assumption | omega | exact hR2_ | exact hK2_), (show zKp Mz N173_ (6 * ze Mz 81 13) by first | assumption | omega | exact hR2_ | exact hK2_), (show ze Mz 81 4 < ze N173_ 81 4 by first | assumption | omega | exact hR2_ | exact hK2_)⟩)) c177_ (by omega)
                                · skip
                                  exfalso; omega
                              · skip
                                exact absurd hc_89 (by decide)
                      · skip
                        exfalso; omega
                    · skip
                      have hno_ : zrm b_ n_ (ze Mz 81 12).toNat (ze Mz 81 12).toNat (znx b_ n_ (ze Mz 81 4).toNat) [] = none := zMrI_f hmi_ (by omega) (by omega) (fun q_ => by have h1_ := q_.1; omega) (by omega)
                      have hrt_ : zbs b_ n_ (ze Mz 81 12).toNat (0, (ze Mz 81 4).toNat, zMvs Mz) = zMf := zbs_n hl0_ hno_
                      refine zw_aload_n (pc := 56) (n := 0) (x := 81) rfl (zdal_p dlC_M_moveLine_83 (i := 6) rfl) ?_
                      refine zw_iconst (pc := 57) (v := Int32.ofInt 2) (by decide) (zdal_p dlC_M_moveLine_83 (i := 7) rfl) ?_
                      refine zr_callV (hf_N104_.w hW) hf_N104_.x (pc := 58) [.int (Int32.ofInt 2)] [] l_M_190 (c_M_wrongF l N104_ (hf_N104_.w hW) 2 (by decide) (by decide) (show 1 ≤ 2 by first | assumption | omega)) rfl rfl rfl (by decide) (Nat.le_of_ble_eq_true rfl) (zdal_p dlC_M_moveLine_83 (i := 8) rfl) ?_
                      rintro _ N178_ ⟨rfl, hsN178_, hp0_N178_⟩
                      replace hp0_N178_ : 1 ≤ ze N178_ 81 7 := hp0_N178_
                      have hf_N178_ : zFr [3, 4, 5, 6, 7, 8, 11, 13, 20] [83, 85, 86, 87, 88] Mz N178_ := hf_N104_.tr hsN178_ (by decide) (by decide)
                      have hb0_N178_ : zFr [3, 4, 5, 6, 7, 8, 11] [83] N93_ N178_ := hs105_.tr hsN178_ (by decide) (by decide)
                      have e3_N178_ : ze N178_ 81 3 = ze N104_ 81 3 := hsN178_.e (by decide)
                      have e4_N178_ : ze N178_ 81 4 = ze N104_ 81 4 := hsN178_.e (by decide)
                      have e5_N178_ : ze N178_ 81 5 = ze N104_ 81 5 := hsN178_.e (by decide)
                      have e6_N178_ : ze N178_ 81 6 = ze N104_ 81 6 := hsN178_.e (by decide)
                      have r7_N178_ := ze_r N178_ 81 7
                      have e12_N178_ : ze N178_ 81 12 = ze N104_ 81 12 := hsN178_.e (by decide)
                      have e13_N178_ : ze N178_ 81 13 = ze N104_ 81 13 := hsN178_.e (by decide)
                      have e20_N178_ : ze N178_ 81 20 = ze N104_ 81 20 := hsN178_.e (by decide)
                      have c180_ : zRb b_ n_ N178_ := zRb.fr hsN178_ c111_ (by decide) (by decide)
                      have c181_ : zB 85 144 0 5 N178_ := zB.fr hsN178_ c112_ (by decide) (by decide)
                      have c182_ : zRt b_ n_ N178_ := zRt.fr hsN178_ i106_ (by decide) (by decide)
                      have c183_ : zB 83 24 0 5 N178_ := zB.fr hsN178_ i110_ (by decide) (by decide)
                      show zW l m_M_moveLine (zn Mz + 0, zw Mz + 0) N178_ 61 [some (.ref 81), some (.int (Int32.ofInt (ze Mz 81 4))), some (.int (Int32.ofInt u102_)), some (.int (Int32.ofInt u103_)), none] [] _
                      have hv2_ : ze N178_ 81 7 = 0 → ze N178_ 81 6 = znu b_ n_ (ze N178_ 81 4).toNat ∧ 0 ≤ ze N178_ 81 6 ∧ ze N178_ 81 6 ≤ 999 := fun q_ => c182_.v2 (by omega)
                      refine zw_aload_n (pc := 61) (n := 0) (x := 81) rfl (zdal_p dlC_M_moveLine_83 (i := 9) rfl) ?_
                      refine zr_getI (hf_N178_.w hW) (pc := 62) f_M_152 rfl (zdal_p dlC_M_moveLine_83 (i := 10) rfl) ?_
                      refine zw_istore (pc := 65) (i := 4) (L2 := [some (.ref 81), some (.int (Int32.ofInt (ze Mz 81 4))), some (.int (Int32.ofInt u102_)), some (.int (Int32.ofInt u103_)), some (.int (Int32.ofInt (ze N178_ 81 6)))]) (by decide) rfl (zdal_p dlC_M_moveLine_83 (i := 11) rfl) ?_
                      refine zw_aload_n (pc := 67) (n := 0) (x := 81) rfl (zdal_p dlC_M_moveLine_83 (i := 12) rfl) ?_
                      refine zr_callV (hf_N178_.w hW) hf_N178_.x (pc := 68) [] [] l_M_183 (c_M_isGood l N178_ (hf_N178_.w hW) ) rfl rfl rfl (by decide) (Nat.le_of_ble_eq_true rfl) (zdal_p dlC_M_moveLine_83 (i := 13) rfl) ?_
                      rintro _ N184_ ⟨v185_, rfl, ⟨hv185_a, hv185_b⟩, hsN184_, hp0_N184_⟩
                      obtain rfl := hsN184_.eq.symm
                      replace hp0_N184_ : ((v185_ = 1 ∧ ze N178_ 81 7 = 0) ∨ (v185_ = 0 ∧ ze N178_ 81 7 ≠ 0)) := hp0_N184_
                      rcases hp0_N184_ with ⟨rfl, ha68_0_hp0_N184_⟩ | ⟨rfl, ha68_0_hp0_N184_⟩
                      · skip
                        exfalso; omega
                      · skip
                        show zW l m_M_moveLine (zn Mz + 0, zw Mz + 0) N178_ 71 [some (.ref 81), some (.int (Int32.ofInt (ze Mz 81 4))), some (.int (Int32.ofInt u102_)), some (.int (Int32.ofInt u103_)), some (.int (Int32.ofInt (ze N178_ 81 6)))] [.int (Int32.ofInt 0)] _
                        refine zr_if_eq (pc := 71) (tgt := 97) ⟨(by decide), (by decide)⟩ (by decide) (zdal_p dlC_M_moveLine_83 (i := 14) rfl) (fun hc_71 => ?_) (fun hc_71 => ?_)
                        · skip
                          refine zw_aload_n (pc := 97) (n := 0) (x := 81) rfl d_M_moveLine_97 ?_
                          refine zr_getI (hf_N178_.w hW) (pc := 98) f_M_172 rfl d_M_moveLine_98 ?_
                          refine zr_if_le (pc := 101) (tgt := 105) ⟨(ze_r N178_ 81 7).1, (ze_r N178_ 81 7).2⟩ (by decide) d_M_moveLine_101 (fun hc_101 => ?_) (fun hc_101 => ?_)
                          · skip
                            exfalso; omega
                          · skip
                            exact zr_vret (pc := 104) rfl hf_N178_ ⟨c182_, (show 0 ≤ ze N178_ 81 13 by first | assumption | omega), (show ze N178_ 81 13 ≤ 4 by first | assumption | omega), c183_, c181_, (show ((1 ≤ ze N178_ 81 7 ∧ zbs b_ n_ (ze Mz 81 12).toNat (0, (ze Mz 81 4).toNat, zMvs Mz) = zMf) ∨ (ze N178_ 81 7 = 0 ∧ zbs b_ n_ (ze Mz 81 12).toNat (0, (ze Mz 81 4).toNat, zMvs Mz) = (0, (ze N178_ 81 4).toNat, zMvs N178_) ∧ zPm N178_ ∧ zFin N178_ ∧ ze Mz 81 4 < ze N178_ 81 4)) from Or.inl (⟨(show 1 ≤ ze N178_ 81 7 by first | assumption | omega | exact hrt_ | exact hrt2_), (show zbs b_ n_ (ze Mz 81 12).toNat (0, (ze Mz 81 4).toNat, zMvs Mz) = zMf by first | assumption | omega | exact hrt_ | exact hrt2_)⟩))⟩ d_M_moveLine_104
                        · skip
                          exact absurd hc_71 (by decide)
                · skip
                  exfalso; omega
        exact lp_33 _ 0 (by decide) (by decide) 0 (by decide) (by decide) N93_ zFr.rf c96_ (show 0 ≤ (0 : Int) by first | assumption | omega) (show (0 : Int) ≤ ze Mz 81 12 by first | assumption | omega) (show (1 ≤ ze N93_ 81 7 ∧ zbs b_ n_ (ze Mz 81 12).toNat (0, (ze Mz 81 4).toNat, zMvs Mz) = zMf) ∨ (ze N93_ 81 7 = 0 ∧ ze Mz 81 13 ≤ 3 ∧ zMrI b_ n_ (ze Mz 81 12).toNat (znx b_ n_ (ze Mz 81 4).toNat) (ze Mz 81 13) N93_ (0 : Int) (0 : Int) ∧ zKp Mz N93_ (6 * ze Mz 81 13) ∧ ze Mz 81 4 < ze N93_ 81 4) from Or.inl (⟨(show 1 ≤ ze N93_ 81 7 by first | assumption | omega | exact hml0_ | exact hkp0_), (show zbs b_ n_ (ze Mz 81 12).toNat (0, (ze Mz 81 4).toNat, zMvs Mz) = zMf by first | assumption | omega | exact hml0_ | exact hkp0_)⟩)) c98_ (Nat.lt_succ_self _)
      · skip
        exact absurd hc_22 (by decide)
