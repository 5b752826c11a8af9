set_option maxHeartbeats 4000000 in
theorem u_Group_settleG (l : Launch) (d_ : Nat) (Mz : zMem) (hW : zKW d_ Mz) (P_ : Nat) (mv_ : List Nat) (hpm_ : ∀ g ∈ mv_, gpm g) (p0_ : zMvK mv_ P_ d_ Mz) (p1_ : zGg mv_ P_ d_ Mz) : zC l m_Group_settle 0 0 [.ref (d_ + 1)] Mz (zqcV d_ [] [] [] [5, 7, 9] Mz (fun N => (∃ T : zGT, zTm mv_ T ∧ zTt T d_ N ∧ zGc mv_ P_ T d_ N))) := by
  refine zC_of (L0 := [some (.ref (d_ + 1)), none, none, none]) md_Group_settle (Nat.le_of_ble_eq_true rfl) rfl ?_ zQ0
  have hf : zFc d_ [] [] [] [5, 7, 9] Mz Mz := zFc.rf
  have r_D1_5 := ze_r Mz (d_ + 1) 5
  have r_D1_7 := ze_r Mz (d_ + 1) 7
  obtain ⟨⟨hP0_, hP1_, hP6_⟩, hc1_, hc2_, hc3_⟩ := id p0_
  have hs0_ := p1_.s
  have hs24_ := p1_.2.1
  refine zw_iconst (pc := 0) (v := Int32.ofInt 1) (by decide) (zdal_p dlA_Group_settle_28 (i := 0) rfl) ?_
  refine zw_istore_n (pc := 1) (i := 1) (L2 := [some (.ref (d_ + 1)), some (.int (Int32.ofInt 1)), none, none]) rfl (by decide) rfl (zdal_p dlA_Group_settle_28 (i := 1) rfl) ?_
  have lp_2 : ∀ (n : Nat) (u1_ : Int) (hu1_a : -2147483648 ≤ u1_) (hu1_b : u1_ < 2147483648) (N2_ : zMem) (hs3_ : zFc d_ [] [] [] [5] Mz N2_) (i4_ : 1 ≤ u1_) (i5_ : zSoK (fun x_ => x_) (zRw d_ 5 Mz) (zRw d_ 5 N2_) (ze Mz (d_ + 1) 7).toNat (u1_).toNat), (ze Mz (d_ + 1) 7 - u1_).toNat < n → zW l m_Group_settle (zn Mz + 0, zw Mz + 0) N2_ 2 [some (.ref (d_ + 1)), some (.int (Int32.ofInt u1_)), none, none] [] (zqcV d_ [] [] [] [5, 7, 9] Mz (fun N => (∃ T : zGT, zTm mv_ T ∧ zTt T d_ N ∧ zGc mv_ P_ T d_ N))) := by
    intro n
    induction n with
    | zero =>
      intro u1_ hu1_a hu1_b N2_ hs3_ i4_ i5_ h0
      exact absurd h0 (Nat.not_lt_zero _)
    | succ n ih_2 =>
      intro u1_ hu1_a hu1_b N2_ hs3_ i4_ i5_ hlt_2
      have hf_N2_ : zFc d_ [] [] [] [5, 7, 9] Mz N2_ := hf.tr hs3_ (by decide) (by decide) (by decide) (by decide)
      have eD1_5_N2_ : ze N2_ (d_ + 1) 5 = ze Mz (d_ + 1) 5 := hs3_.e (by decide)
      have eD1_7_N2_ : ze N2_ (d_ + 1) 7 = ze Mz (d_ + 1) 7 := hs3_.e (by decide)
      have hso_ := (show zSoK (fun x_ => x_) (zRw d_ 5 Mz) (zRw d_ 5 N2_) (ze Mz (d_ + 1) 7).toNat (u1_).toNat by first | with_reducible assumption | assumption)
      refine zw_iload_n (pc := 2) (n := 1) (x := Int32.ofInt u1_) rfl (zdal_p dlA_Group_settle_28 (i := 2) rfl) ?_
      refine zw_aload_n (pc := 3) (n := 0) (x := (d_ + 1)) rfl (zdal_p dlA_Group_settle_28 (i := 3) rfl) ?_
      refine zk_getI (pc := 4) f_Group_39 rfl ((hf_N2_.w hW).kr (o := 1) (by decide)) (zdal_p dlA_Group_settle_28 (i := 4) rfl) ?_
      rw [hf_N2_.e (by decide)]
      refine zr_icmp_ge (pc := 7) (tgt := 78) ⟨hu1_a, hu1_b⟩ ⟨(ze_r Mz (d_ + 1) 7).1, (ze_r Mz (d_ + 1) 7).2⟩ (by decide) (zdal_p dlA_Group_settle_28 (i := 5) rfl) (fun hc_7 => ?_) (fun hc_7 => ?_)
      · skip
        obtain ⟨T_, hgc_⟩ := p1_.t hpm_ hso_ (by (exact zo_1369 hc_7 hs24_.1 hs24_.2)) (by (exact eD1_7_N2_))
        obtain ⟨hgb1_, hgb2_, hgb3_⟩ := id hgc_
        obtain ⟨hb1_, hb2_, hb3_, hb4_, hb5_⟩ := id hgb1_
        refine zw_iconst (pc := 78) (v := Int32.ofInt 0) (by decide) (zdal_p dlA_Group_settle_29 (i := 18) rfl) ?_
        refine zw_istore_n (pc := 79) (i := 1) (L2 := [some (.ref (d_ + 1)), some (.int (Int32.ofInt 0)), none, none]) rfl (by decide) rfl (zdal_p dlA_Group_settle_29 (i := 19) rfl) ?_
        have lp_80 : ∀ (n : Nat) (u7_ : Int) (hu7_a : -2147483648 ≤ u7_) (hu7_b : u7_ < 2147483648) (N8_ : zMem) (hs9_ : zFc d_ [] [] [] [7, 9] N2_ N8_) (i10_ : 0 ≤ u7_) (i11_ : zPkK T_ d_ N8_ u7_ 0) (i12_ : zGc mv_ P_ T_ d_ N8_), (ze Mz (d_ + 1) 7 - u7_).toNat < n → zW l m_Group_settle (zn Mz + 0, zw Mz + 0) N8_ 80 [some (.ref (d_ + 1)), some (.int (Int32.ofInt u7_)), none, none] [] (zqcV d_ [] [] [] [5, 7, 9] Mz (fun N => (∃ T : zGT, zTm mv_ T ∧ zTt T d_ N ∧ zGc mv_ P_ T d_ N))) := by
          intro n
          induction n with
          | zero =>
            intro u7_ hu7_a hu7_b N8_ hs9_ i10_ i11_ i12_ h0
            exact absurd h0 (Nat.not_lt_zero _)
          | succ n ih_80 =>
            intro u7_ hu7_a hu7_b N8_ hs9_ i10_ i11_ i12_ hlt_80
            have hf_N8_ : zFc d_ [] [] [] [5, 7, 9] Mz N8_ := hf_N2_.tr hs9_ (by decide) (by decide) (by decide) (by decide)
            have eD1_5_N8_ : ze N8_ (d_ + 1) 5 = ze N2_ (d_ + 1) 5 := hs9_.e (by decide)
            have eD1_7_N8_ : ze N8_ (d_ + 1) 7 = ze N2_ (d_ + 1) 7 := hs9_.e (by decide)
            have hpk_ := (show zPkK T_ d_ N8_ u7_ 0 by first | with_reducible assumption | assumption)
            refine zw_iload_n (pc := 80) (n := 1) (x := Int32.ofInt u7_) rfl (zdal_p dlA_Group_settle_29 (i := 20) rfl) ?_
            refine zw_aload_n (pc := 81) (n := 0) (x := (d_ + 1)) rfl (zdal_p dlA_Group_settle_29 (i := 21) rfl) ?_
            refine zk_getI (pc := 82) f_Group_39 rfl ((hf_N8_.w hW).kr (o := 1) (by decide)) (zdal_p dlA_Group_settle_29 (i := 22) rfl) ?_
            rw [hf_N8_.e (by decide)]
            refine zr_icmp_ge (pc := 85) (tgt := 162) ⟨hu7_a, hu7_b⟩ ⟨(ze_r Mz (d_ + 1) 7).1, (ze_r Mz (d_ + 1) 7).2⟩ (by decide) (zdal_p dlA_Group_settle_29 (i := 23) rfl) (fun hc_85 => ?_) (fun hc_85 => ?_)
            · skip
              exact zk_vret (pc := 162) rfl hf_N8_ (show (∃ T : zGT, zTm mv_ T ∧ zTt T d_ N8_ ∧ zGc mv_ P_ T d_ N8_) by exact ⟨T_, ⟨_, hb1_, hb2_, hb3_, hb4_, hb5_⟩, zPk_e (by (exact zo_532 eD1_7_N8_ hgb2_)) hpk_ (by (exact zo_1370 eD1_7_N2_ hc_85 hgb2_)), i12_⟩) (zdal_p dlA_Group_settle_31 (i := 15) rfl)
            · skip
              refine zw_iconst (pc := 88) (v := Int32.ofInt 0) (by decide) (zdal_p dlA_Group_settle_30 (i := 0) rfl) ?_
              refine zw_istore_n (pc := 89) (i := 2) (L2 := [some (.ref (d_ + 1)), some (.int (Int32.ofInt u7_)), some (.int (Int32.ofInt 0)), none]) rfl (by decide) rfl (zdal_p dlA_Group_settle_30 (i := 1) rfl) ?_
              have lp_90 : ∀ (n : Nat) (u14_ : Int) (hu14_a : -2147483648 ≤ u14_) (hu14_b : u14_ < 2147483648) (N15_ : zMem) (hs16_ : zFc d_ [] [] [] [7, 9] N8_ N15_) (i17_ : 0 ≤ u14_) (i18_ : u14_ ≤ gN T_) (i19_ : zPkK T_ d_ N15_ u7_ u14_) (i20_ : zPv T_ d_ N15_ u7_ u14_) (i21_ : zGc mv_ P_ T_ d_ N15_), (ze Mz (d_ + 1) 7 - u14_).toNat < n → zW l m_Group_settle (zn Mz + 0, zw Mz + 0) N15_ 90 [some (.ref (d_ + 1)), some (.int (Int32.ofInt u7_)), some (.int (Int32.ofInt u14_)), none] [] (zqcV d_ [] [] [] [5, 7, 9] Mz (fun N => (∃ T : zGT, zTm mv_ T ∧ zTt T d_ N ∧ zGc mv_ P_ T d_ N))) := by
                intro n
                induction n with
                | zero =>
                  intro u14_ hu14_a hu14_b N15_ hs16_ i17_ i18_ i19_ i20_ i21_ h0
                  exact absurd h0 (Nat.not_lt_zero _)
                | succ n ih_90 =>
                  intro u14_ hu14_a hu14_b N15_ hs16_ i17_ i18_ i19_ i20_ i21_ hlt_90
                  have hf_N15_ : zFc d_ [] [] [] [5, 7, 9] Mz N15_ := hf_N8_.tr hs16_ (by decide) (by decide) (by decide) (by decide)
                  have hb0_N15_ : zFc d_ [] [] [] [7, 9] N2_ N15_ := hs9_.tr hs16_ (by decide) (by decide) (by decide) (by decide)
                  have eD1_5_N15_ : ze N15_ (d_ + 1) 5 = ze N8_ (d_ + 1) 5 := hs16_.e (by decide)
                  have eD1_7_N15_ : ze N15_ (d_ + 1) 7 = ze N8_ (d_ + 1) 7 := hs16_.e (by decide)
                  have hpl_ := (show zPkK T_ d_ N15_ u7_ u14_ by first | with_reducible assumption | assumption)
                  have hpv_ := (show zPv T_ d_ N15_ u7_ u14_ by first | with_reducible assumption | assumption)
                  refine zw_iload_n (pc := 90) (n := 2) (x := Int32.ofInt u14_) rfl (zdal_p dlA_Group_settle_30 (i := 2) rfl) ?_
                  refine zw_aload_n (pc := 91) (n := 0) (x := (d_ + 1)) rfl (zdal_p dlA_Group_settle_30 (i := 3) rfl) ?_
                  refine zk_getI (pc := 92) f_Group_39 rfl ((hf_N15_.w hW).kr (o := 1) (by decide)) (zdal_p dlA_Group_settle_30 (i := 4) rfl) ?_
                  rw [hf_N15_.e (by decide)]
                  refine zr_icmp_ge (pc := 95) (tgt := 156) ⟨hu14_a, hu14_b⟩ ⟨(ze_r Mz (d_ + 1) 7).1, (ze_r Mz (d_ + 1) 7).2⟩ (by decide) (zdal_p dlA_Group_settle_30 (i := 5) rfl) (fun hc_95 => ?_) (fun hc_95 => ?_)
                  · skip
                    refine zr_iinc (pc := 156) (i := 1) (a := u7_) (n := 1) (L2 := [some (.ref (d_ + 1)), some (.int (Int32.ofInt (u7_ + 1))), some (.int (Int32.ofInt u14_)), none]) rfl (by decide) rfl (zdal_p dlA_Group_settle_31 (i := 13) rfl) ?_
                    refine zw_goto (pc := 159) (tgt := 80) (by decide) (zdal_p dlA_Group_settle_31 (i := 14) rfl) ?_
                    refine zW_le [some (.ref (d_ + 1)), some (.int (Int32.ofInt (u7_ + 1))), none, none] (⟨rfl, rfl, trivial⟩) ?_
                    exact ih_80 (u7_ + 1) (by (exact zo_74 i10_)) (by (exact zo_1371 hc_85 hs24_.2)) N15_ hb0_N15_ (show 0 ≤ (u7_ + 1) by first | with_reducible assumption | (exact zo_76 i10_) | assumption) (show zPkK T_ d_ N15_ (u7_ + 1) 0 by exact zPk_n hb5_ (by (exact i10_)) (by (exact zo_1372 eD1_7_N2_ hc_85 hgb2_)) hpl_ hpv_ (by (exact zo_1373 eD1_7_N2_ hc_95 hgb2_ hs24_.1 hs24_.2 hu14_b i18_))) i21_ (by (exact zo_147 hc_85 hlt_80))
                  · skip
                    refine zw_aload_n (pc := 98) (n := 0) (x := (d_ + 1)) rfl (zdal_p dlA_Group_settle_30 (i := 6) rfl) ?_
                    refine zw_aload_n (pc := 99) (n := 0) (x := (d_ + 1)) rfl (zdal_p dlA_Group_settle_30 (i := 7) rfl) ?_
                    refine zw_aload_n (pc := 100) (n := 0) (x := (d_ + 1)) rfl (zdal_p dlA_Group_settle_30 (i := 8) rfl) ?_
                    refine zw_getF (pc := 101) f_Group_20 rfl ((hf_N15_.w hW).kr (o := 1) (by decide)) ((hf_N15_.w hW).lr (o := 1) (s := 1) (r := 4) (by decide)) (zdal_p dlA_Group_settle_30 (i := 9) rfl) ?_
                    refine zw_iload_n (pc := 104) (n := 1) (x := Int32.ofInt u7_) rfl (zdal_p dlA_Group_settle_30 (i := 10) rfl) ?_
                    refine zk_at hf_N15_.x (pc := 105) l_Group_54 ((hf_N15_.w hW).kr (o := 4) (by decide)) ((hf_N15_.w hW).lr (o := 4) (s := 0) (r := 5) (by decide)) ((hf_N15_.w hW).rr (o := 5) (t := 1) (n := 24) (by decide)) (by decide) (by (exact i10_)) (by (exact zo_1374 hc_85 hs24_.2)) (by decide) (Nat.le_of_ble_eq_true rfl) (zdal_p dlA_Group_settle_30 (i := 11) rfl) (fun v23_ hv23_ hv23_a hv23_b => ?_)
                    have hv1_ := hv23_
                    refine zw_aload_n (pc := 108) (n := 0) (x := (d_ + 1)) rfl (zdal_p dlA_Group_settle_30 (i := 12) rfl) ?_
                    refine zw_getF (pc := 109) f_Group_20 rfl ((hf_N15_.w hW).kr (o := 1) (by decide)) ((hf_N15_.w hW).lr (o := 1) (s := 1) (r := 4) (by decide)) (zdal_p dlA_Group_settle_30 (i := 13) rfl) ?_
                    refine zw_iload_n (pc := 112) (n := 2) (x := Int32.ofInt u14_) rfl (zdal_p dlA_Group_settle_30 (i := 14) rfl) ?_
                    refine zk_at hf_N15_.x (pc := 113) l_Group_54 ((hf_N15_.w hW).kr (o := 4) (by decide)) ((hf_N15_.w hW).lr (o := 4) (s := 0) (r := 5) (by decide)) ((hf_N15_.w hW).rr (o := 5) (t := 1) (n := 24) (by decide)) (by decide) (by (exact i17_)) (by (exact zo_1374 hc_95 hs24_.2)) (by decide) (Nat.le_of_ble_eq_true rfl) (zdal_p dlA_Group_settle_30 (i := 15) rfl) (fun v24_ hv24_ hv24_a hv24_b => ?_)
                    have hv2_ := hv24_
                    have hcc_ := i21_
                    obtain ⟨hcd1_, hcd2_, hcd3_⟩ := id hcc_
                    refine zk_callV hf_N15_.x (pc := 116) [.int (Int32.ofInt v23_), .int (Int32.ofInt v24_)] [.ref (d_ + 1)] l_Group_58 (u_Group_behind l d_ N15_ (hf_N15_.w hW) v23_ hv23_a hv23_b v24_ hv24_a hv24_b P_ (show ze N15_ (d_ + 1) 5 = P_ by first | with_reducible assumption | (exact zo_1375 eD1_5_N15_ eD1_5_N2_ eD1_5_N8_ hP0_ r_D1_5.2) | assumption) (show P_ ≤ 6 by first | with_reducible assumption | assumption | omega) (show zkv P_ v23_ by rw [hv1_]; exact hcd3_ _ (by (exact zo_1376 eD1_7_N2_ hc_85 hgb2_ i10_))) (show zkv P_ v24_ by rw [hv2_]; exact hcd3_ _ (by (exact zo_1377 eD1_7_N2_ hc_95 hgb2_ i17_ i18_)))) rfl rfl ((hf_N15_.w hW).kr (o := 1) (by decide)) (by decide) (by decide) (Nat.le_of_ble_eq_true rfl) (zdal_p dlA_Group_settle_30 (i := 16) rfl) ?_
                    rintro _ N25_ ⟨v26_, rfl, ⟨hv26_a, hv26_b⟩, hsN25_, hp0_N25_⟩
                    obtain rfl := hsN25_.eq.symm
                    replace hp0_N25_ : v26_ = (zbe P_ v23_ v24_ : Nat) := hp0_N25_
                    show zW l m_Group_settle (zn Mz + 0, zw Mz + 0) N15_ 119 [some (.ref (d_ + 1)), some (.int (Int32.ofInt u7_)), some (.int (Int32.ofInt u14_)), none] [.int (Int32.ofInt v26_), .ref (d_ + 1)] _
                    have hx_ := hp0_N25_
                    have hgv_ := fun v => hcc_.v (v := v) hP6_ (by (exact zo_1378 eD1_7_N15_ eD1_7_N2_ eD1_7_N8_ hc_85 i10_)) (by (exact zo_1379 eD1_7_N15_ eD1_7_N2_ eD1_7_N8_ hc_95 hcd2_ i17_ i18_)) hv1_ hv2_ hx_
                    refine zk_callV hf_N15_.x (pc := 119) [.int (Int32.ofInt v26_)] [] l_Group_61 (u_Group_indexOf l d_ N15_ (hf_N15_.w hW) v26_ hv26_a hv26_b (show 0 ≤ ze N15_ (d_ + 1) 7 by first | with_reducible assumption | (exact zo_537 hcd2_) | assumption) (show ze N15_ (d_ + 1) 7 ≤ 24 by first | with_reducible assumption | (exact zo_1380 eD1_7_N2_ hcd2_ hgb2_ hs24_.2) | assumption)) rfl rfl ((hf_N15_.w hW).kr (o := 1) (by decide)) (by decide) (by decide) (Nat.le_of_ble_eq_true rfl) (zdal_p dlA_Group_settle_30 (i := 17) rfl) ?_
                    rintro _ N27_ ⟨v28_, rfl, ⟨hv28_a, hv28_b⟩, hsN27_, hp0_N27_⟩
                    obtain rfl := hsN27_.eq.symm
                    replace hp0_N27_ : ((v28_ = -1 ∧ (∀ i : Nat, (i : Int) < ze N15_ (d_ + 1) 7 → ze N15_ (d_ + 5) i ≠ v26_)) ∨ (0 ≤ v28_ ∧ v28_ < ze N15_ (d_ + 1) 7 ∧ ze N15_ (d_ + 5) (v28_).toNat = v26_)) := hp0_N27_
                    rcases hp0_N27_ with ⟨rfl, ha119_0_hp0_N27_⟩ | ⟨ha119_0_hp0_N27_, ha119_1_hp0_N27_, ha119_2_hp0_N27_⟩
                    · skip
                      exact absurd ha119_0_hp0_N27_ (hgv_ 0).2
                    · skip
                      have hvm_ := (hgv_ _).1 ha119_0_hp0_N27_ ha119_1_hp0_N27_ ha119_2_hp0_N27_
                      show zW l m_Group_settle (zn Mz + 0, zw Mz + 0) N15_ 122 [some (.ref (d_ + 1)), some (.int (Int32.ofInt u7_)), some (.int (Int32.ofInt u14_)), none] [.int (Int32.ofInt v28_)] _
                      refine zw_istore_n (pc := 122) (i := 3) (L2 := [some (.ref (d_ + 1)), some (.int (Int32.ofInt u7_)), some (.int (Int32.ofInt u14_)), some (.int (Int32.ofInt v28_))]) rfl (by decide) rfl (zdal_p dlA_Group_settle_30 (i := 18) rfl) ?_
                      refine zw_aload_n (pc := 123) (n := 0) (x := (d_ + 1)) rfl (zdal_p dlA_Group_settle_30 (i := 19) rfl) ?_
                      refine zw_getF (pc := 124) f_Group_23 rfl ((hf_N15_.w hW).kr (o := 1) (by decide)) ((hf_N15_.w hW).lr (o := 1) (s := 2) (r := 6) (by decide)) (zdal_p dlA_Group_settle_30 (i := 20) rfl) ?_
                      refine zw_iload_n (pc := 127) (n := 1) (x := Int32.ofInt u7_) rfl (zdal_p dlA_Group_settle_30 (i := 21) rfl) ?_
                      refine zw_bipush (pc := 128) (v := Int32.ofInt 24) (by decide) (zdal_p dlA_Group_settle_30 (i := 22) rfl) ?_
                      refine zr_imul (pc := 130) (zdal_p dlA_Group_settle_30 (i := 23) rfl) ?_
                      refine zw_iload_n (pc := 131) (n := 2) (x := Int32.ofInt u14_) rfl (zdal_p dlA_Group_settle_31 (i := 0) rfl) ?_
                      refine zr_iadd (pc := 132) (zdal_p dlA_Group_settle_31 (i := 1) rfl) ?_
                      refine zw_iload_n (pc := 133) (n := 3) (x := Int32.ofInt v28_) rfl (zdal_p dlA_Group_settle_31 (i := 2) rfl) ?_
                      refine zk_st hf_N15_.x (pc := 134) (o := 7) (by decide) l_Group_46 ((hf_N15_.w hW).kr (o := 6) (by decide)) ((hf_N15_.w hW).lr (o := 6) (s := 0) (r := 7) (by decide)) ((hf_N15_.w hW).rr (o := 7) (t := 1) (n := 576) (by decide)) (by decide) (by (exact zo_1381 i10_ i17_)) (by (exact zo_1382 hc_85 hc_95 hs24_.2)) (by decide) (Nat.le_of_ble_eq_true rfl) (zdal_p dlA_Group_settle_31 (i := 3) rfl) (fun N29_ hN29_ hsN29_ => ?_)
                      have hf_N29_ : zFc d_ [] [] [] [5, 7, 9] Mz N29_ := hf_N15_.tr hsN29_ (by decide) (by decide) (by decide) (by decide)
                      have hb0_N29_ : zFc d_ [] [] [] [7, 9] N2_ N29_ := hb0_N15_.tr hsN29_ (by decide) (by decide) (by decide) (by decide)
                      have hb1_N29_ : zFc d_ [] [] [] [7, 9] N8_ N29_ := hs16_.tr hsN29_ (by decide) (by decide) (by decide) (by decide)
                      have eD1_5_N29_ : ze N29_ (d_ + 1) 5 = ze N15_ (d_ + 1) 5 := hsN29_.e (by decide)
                      have eD1_7_N29_ : ze N29_ (d_ + 1) 7 = ze N15_ (d_ + 1) 7 := hsN29_.e (by decide)
                      have c31_ : zGc mv_ P_ T_ d_ N29_ := zGc.fr (hf_N15_.w hW) hsN29_ i21_ (by decide)
                      obtain ⟨hk1_, hk2_⟩ := zPk_s (Nz := N29_) (by (exact zo_1383 eD1_7_N2_ hgb2_ hs24_.2)) (by (exact i10_)) (by (exact i17_)) (by (exact zo_1384 eD1_7_N2_ hc_95 hgb2_ i18_)) (by (exact zo_1372 eD1_7_N2_ hc_85 hgb2_)) hpl_ hpv_ hvm_ (by (exact zo_1385 eD1_7_N15_ eD1_7_N2_ eD1_7_N8_ ha119_1_hp0_N27_ hs24_.2 hv28_b)) hN29_ (fun j => hsN29_.r (by decide) j)
                      refine zw_iload_n (pc := 137) (n := 3) (x := Int32.ofInt v28_) rfl (zdal_p dlA_Group_settle_31 (i := 4) rfl) ?_
                      refine zr_if_ne (pc := 138) (tgt := 150) ⟨hv28_a, hv28_b⟩ (by decide) (zdal_p dlA_Group_settle_31 (i := 5) rfl) (fun hc_138 => ?_) (fun hc_138 => ?_)
                      · skip
                        refine zr_iinc (pc := 150) (i := 2) (a := u14_) (n := 1) (L2 := [some (.ref (d_ + 1)), some (.int (Int32.ofInt u7_)), some (.int (Int32.ofInt (u14_ + 1))), some (.int (Int32.ofInt v28_))]) rfl (by decide) rfl (zdal_p dlA_Group_settle_31 (i := 11) rfl) ?_
                        refine zw_goto (pc := 153) (tgt := 90) (by decide) (zdal_p dlA_Group_settle_31 (i := 12) rfl) ?_
                        refine zW_le [some (.ref (d_ + 1)), some (.int (Int32.ofInt u7_)), some (.int (Int32.ofInt (u14_ + 1))), none] (⟨rfl, rfl, rfl, trivial⟩) ?_
                        exact ih_90 (u14_ + 1) (by (exact zo_74 i17_)) (by (exact zo_1371 hc_95 hs24_.2)) N29_ hb1_N29_ (show 0 ≤ (u14_ + 1) by first | with_reducible assumption | (exact zo_76 i17_) | assumption) (show (u14_ + 1) ≤ gN T_ by first | with_reducible assumption | (exact zo_1386 eD1_7_N2_ hc_95 hgb2_ i18_) | assumption) (show zPkK T_ d_ N29_ u7_ (u14_ + 1) by first | exact hk3_ | exact hk1_) (show zPv T_ d_ N29_ u7_ (u14_ + 1) by first | exact hk4_ | exact zPv_n (by (exact i17_)) hk2_ (by (exact zo_1387 ha119_0_hp0_N27_ hvm_ hc_138))) c31_ (by (exact zo_147 hc_95 hlt_90))
                      · skip
                        refine zw_aload_n (pc := 141) (n := 0) (x := (d_ + 1)) rfl (zdal_p dlA_Group_settle_31 (i := 6) rfl) ?_
                        refine zw_getF (pc := 142) f_Group_26 rfl ((hf_N29_.w hW).kr (o := 1) (by decide)) ((hf_N29_.w hW).lr (o := 1) (s := 3) (r := 8) (by decide)) (zdal_p dlA_Group_settle_31 (i := 7) rfl) ?_
                        refine zw_iload_n (pc := 145) (n := 1) (x := Int32.ofInt u7_) rfl (zdal_p dlA_Group_settle_31 (i := 8) rfl) ?_
                        refine zw_iload_n (pc := 146) (n := 2) (x := Int32.ofInt u14_) rfl (zdal_p dlA_Group_settle_31 (i := 9) rfl) ?_
                        refine zk_st hf_N29_.x (pc := 147) (o := 9) (by decide) l_Group_46 ((hf_N29_.w hW).kr (o := 8) (by decide)) ((hf_N29_.w hW).lr (o := 8) (s := 0) (r := 9) (by decide)) ((hf_N29_.w hW).rr (o := 9) (t := 1) (n := 24) (by decide)) (by decide) (by (exact i10_)) (by (exact zo_1374 hc_85 hs24_.2)) (by decide) (Nat.le_of_ble_eq_true rfl) (zdal_p dlA_Group_settle_31 (i := 10) rfl) (fun N32_ hN32_ hsN32_ => ?_)
                        have hf_N32_ : zFc d_ [] [] [] [5, 7, 9] Mz N32_ := hf_N29_.tr hsN32_ (by decide) (by decide) (by decide) (by decide)
                        have hb0_N32_ : zFc d_ [] [] [] [7, 9] N2_ N32_ := hb0_N29_.tr hsN32_ (by decide) (by decide) (by decide) (by decide)
                        have hb1_N32_ : zFc d_ [] [] [] [7, 9] N8_ N32_ := hb1_N29_.tr hsN32_ (by decide) (by decide) (by decide) (by decide)
                        have eD1_5_N32_ : ze N32_ (d_ + 1) 5 = ze N29_ (d_ + 1) 5 := hsN32_.e (by decide)
                        have eD1_7_N32_ : ze N32_ (d_ + 1) 7 = ze N29_ (d_ + 1) 7 := hsN32_.e (by decide)
                        have c34_ : zGc mv_ P_ T_ d_ N32_ := zGc.fr (hf_N29_.w hW) hsN32_ c31_ (by decide)
                        obtain ⟨hk3_, hk4_⟩ := zPv_s (Nz := N32_) (by (exact zo_1383 eD1_7_N2_ hgb2_ hs24_.2)) (by (exact i10_)) (by (exact i17_)) (by (exact zo_1388 hc_95 hs24_.2)) hk1_ (by (exact zo_1389 hc_138 hvm_)) hN32_ (fun j => hsN32_.r (by decide) j)
                        refine zr_iinc (pc := 150) (i := 2) (a := u14_) (n := 1) (L2 := [some (.ref (d_ + 1)), some (.int (Int32.ofInt u7_)), some (.int (Int32.ofInt (u14_ + 1))), some (.int (Int32.ofInt v28_))]) rfl (by decide) rfl (zdal_p dlA_Group_settle_31 (i := 11) rfl) ?_
                        refine zw_goto (pc := 153) (tgt := 90) (by decide) (zdal_p dlA_Group_settle_31 (i := 12) rfl) ?_
                        refine zW_le [some (.ref (d_ + 1)), some (.int (Int32.ofInt u7_)), some (.int (Int32.ofInt (u14_ + 1))), none] (⟨rfl, rfl, rfl, trivial⟩) ?_
                        exact ih_90 (u14_ + 1) (by (exact zo_74 i17_)) (by (exact zo_1371 hc_95 hs24_.2)) N32_ hb1_N32_ (show 0 ≤ (u14_ + 1) by first | with_reducible assumption | (exact zo_76 i17_) | assumption) (show (u14_ + 1) ≤ gN T_ by first | with_reducible assumption | (exact zo_1386 eD1_7_N2_ hc_95 hgb2_ i18_) | assumption) (show zPkK T_ d_ N32_ u7_ (u14_ + 1) by first | exact hk3_ | exact hk1_) (show zPv T_ d_ N32_ u7_ (u14_ + 1) by first | exact hk4_ | exact zPv_n (by omega) hk2_ (by omega)) c34_ (by (exact zo_147 hc_95 hlt_90))
              exact lp_90 _ 0 (by decide) (by decide) N8_ zFc.rf (show 0 ≤ (0 : Int) by first | with_reducible assumption | (decide) | assumption) (show (0 : Int) ≤ gN T_ by first | with_reducible assumption | (exact zo_85) | assumption) (show zPkK T_ d_ N8_ u7_ (0 : Int) by exact hpk_) (show zPv T_ d_ N8_ u7_ (0 : Int) by exact zPv_0) i12_ (Nat.lt_succ_self _)
        exact lp_80 _ 0 (by decide) (by decide) N2_ zFc.rf (show 0 ≤ (0 : Int) by first | with_reducible assumption | (decide) | assumption) (show zPkK T_ d_ N2_ (0 : Int) 0 by exact zPkK_0) hgc_ (Nat.lt_succ_self _)
      · skip
        refine zw_aload_n (pc := 10) (n := 0) (x := (d_ + 1)) rfl (zdal_p dlA_Group_settle_28 (i := 6) rfl) ?_
        refine zw_getF (pc := 11) f_Group_20 rfl ((hf_N2_.w hW).kr (o := 1) (by decide)) ((hf_N2_.w hW).lr (o := 1) (s := 1) (r := 4) (by decide)) (zdal_p dlA_Group_settle_28 (i := 7) rfl) ?_
        refine zw_iload_n (pc := 14) (n := 1) (x := Int32.ofInt u1_) rfl (zdal_p dlA_Group_settle_28 (i := 8) rfl) ?_
        refine zk_at hf_N2_.x (pc := 15) l_Group_54 ((hf_N2_.w hW).kr (o := 4) (by decide)) ((hf_N2_.w hW).lr (o := 4) (s := 0) (r := 5) (by decide)) ((hf_N2_.w hW).rr (o := 5) (t := 1) (n := 24) (by decide)) (by decide) (by (exact zo_564 i4_)) (by (exact zo_1374 hc_7 hs24_.2)) (by decide) (Nat.le_of_ble_eq_true rfl) (zdal_p dlA_Group_settle_28 (i := 9) rfl) (fun v35_ hv35_ hv35_a hv35_b => ?_)
        have hr1_ := hv35_
        have hsj0_ := zSj_0 hso_ (by (exact zo_1390 hc_7 i4_) : (u1_).toNat < (ze Mz (d_ + 1) 7).toNat)
        rw [show zRw d_ 5 N2_ (u1_).toNat = v35_ from hr1_.symm] at hsj0_
        refine zw_istore_n (pc := 18) (i := 2) (L2 := [some (.ref (d_ + 1)), some (.int (Int32.ofInt u1_)), some (.int (Int32.ofInt v35_)), none]) rfl (by decide) rfl (zdal_p dlA_Group_settle_28 (i := 10) rfl) ?_
        refine zw_iload_n (pc := 19) (n := 1) (x := Int32.ofInt u1_) rfl (zdal_p dlA_Group_settle_28 (i := 11) rfl) ?_
        refine zw_istore_n (pc := 20) (i := 3) (L2 := [some (.ref (d_ + 1)), some (.int (Int32.ofInt u1_)), some (.int (Int32.ofInt v35_)), some (.int (Int32.ofInt u1_))]) rfl (by decide) rfl (zdal_p dlA_Group_settle_28 (i := 12) rfl) ?_
        have lp_21 : ∀ (n : Nat) (u36_ : Int) (hu36_a : -2147483648 ≤ u36_) (hu36_b : u36_ < 2147483648) (N37_ : zMem) (hs38_ : zFc d_ [] [] [] [5] N2_ N37_) (i39_ : 0 ≤ u36_) (i40_ : u36_ ≤ u1_) (i41_ : zSj (fun x_ => x_) (zRw d_ 5 Mz) (zRw d_ 5 N37_) (ze Mz (d_ + 1) 7).toNat (u1_).toNat (u36_).toNat v35_), (u36_).toNat < n → zW l m_Group_settle (zn Mz + 0, zw Mz + 0) N37_ 21 [some (.ref (d_ + 1)), some (.int (Int32.ofInt u1_)), some (.int (Int32.ofInt v35_)), some (.int (Int32.ofInt u36_))] [] (zqcV d_ [] [] [] [5, 7, 9] Mz (fun N => (∃ T : zGT, zTm mv_ T ∧ zTt T d_ N ∧ zGc mv_ P_ T d_ N))) := by
          intro n
          induction n with
          | zero =>
            intro u36_ hu36_a hu36_b N37_ hs38_ i39_ i40_ i41_ h0
            exact absurd h0 (Nat.not_lt_zero _)
          | succ n ih_21 =>
            intro u36_ hu36_a hu36_b N37_ hs38_ i39_ i40_ i41_ hlt_21
            have hf_N37_ : zFc d_ [] [] [] [5, 7, 9] Mz N37_ := hf_N2_.tr hs38_ (by decide) (by decide) (by decide) (by decide)
            have hb0_N37_ : zFc d_ [] [] [] [5] Mz N37_ := hs3_.tr hs38_ (by decide) (by decide) (by decide) (by decide)
            have eD1_5_N37_ : ze N37_ (d_ + 1) 5 = ze N2_ (d_ + 1) 5 := hs38_.e (by decide)
            have eD1_7_N37_ : ze N37_ (d_ + 1) 7 = ze N2_ (d_ + 1) 7 := hs38_.e (by decide)
            have hsj_ := (show zSj (fun x_ => x_) (zRw d_ 5 Mz) (zRw d_ 5 N37_) (ze Mz (d_ + 1) 7).toNat (u1_).toNat (u36_).toNat v35_ by first | with_reducible assumption | assumption)
            refine zw_iload_n (pc := 21) (n := 3) (x := Int32.ofInt u36_) rfl (zdal_p dlA_Group_settle_28 (i := 13) rfl) ?_
            refine zr_if_le (pc := 22) (tgt := 63) ⟨hu36_a, hu36_b⟩ (by decide) (zdal_p dlA_Group_settle_28 (i := 14) rfl) (fun hc_22 => ?_) (fun hc_22 => ?_)
            · skip
              have hex_ : (u36_).toNat = 0 ∨ ¬ (fun x_ => x_) v35_ < (fun x_ => x_) (zRw d_ 5 N37_ ((u36_).toNat - 1)) := by first | exact Or.inl (by (exact zo_1391 hc_22 i39_)) | (refine Or.inr ?_; show ¬ v35_ < ze N37_ (d_ + 5) ((u36_).toNat - 1); rw [show (u36_).toNat - 1 = (u36_ - 1).toNat by omega]; omega)
              refine zw_aload_n (pc := 63) (n := 0) (x := (d_ + 1)) rfl (zdal_p dlA_Group_settle_29 (i := 11) rfl) ?_
              refine zw_getF (pc := 64) f_Group_20 rfl ((hf_N37_.w hW).kr (o := 1) (by decide)) ((hf_N37_.w hW).lr (o := 1) (s := 1) (r := 4) (by decide)) (zdal_p dlA_Group_settle_29 (i := 12) rfl) ?_
              refine zw_iload_n (pc := 67) (n := 3) (x := Int32.ofInt u36_) rfl (zdal_p dlA_Group_settle_29 (i := 13) rfl) ?_
              refine zw_iload_n (pc := 68) (n := 2) (x := Int32.ofInt v35_) rfl (zdal_p dlA_Group_settle_29 (i := 14) rfl) ?_
              refine zk_st hf_N37_.x (pc := 69) (o := 5) (by decide) l_Group_46 ((hf_N37_.w hW).kr (o := 4) (by decide)) ((hf_N37_.w hW).lr (o := 4) (s := 0) (r := 5) (by decide)) ((hf_N37_.w hW).rr (o := 5) (t := 1) (n := 24) (by decide)) (by decide) (by (exact i39_)) (by (exact zo_1392 hc_22)) (by decide) (Nat.le_of_ble_eq_true rfl) (zdal_p dlA_Group_settle_29 (i := 15) rfl) (fun N43_ hN43_ hsN43_ => ?_)
              have hf_N43_ : zFc d_ [] [] [] [5, 7, 9] Mz N43_ := hf_N37_.tr hsN43_ (by decide) (by decide) (by decide) (by decide)
              have hb0_N43_ : zFc d_ [] [] [] [5] Mz N43_ := hb0_N37_.tr hsN43_ (by decide) (by decide) (by decide) (by decide)
              have eD1_5_N43_ : ze N43_ (d_ + 1) 5 = ze N37_ (d_ + 1) 5 := hsN43_.e (by decide)
              have eD1_7_N43_ : ze N43_ (d_ + 1) 7 = ze N37_ (d_ + 1) 7 := hsN43_.e (by decide)
              have hse_ := zSj_e hsj_ hex_ (zRw_w hN43_ ⟨by (exact hv35_a), by (exact hv35_b)⟩)
              rw [show (u1_).toNat + 1 = (u1_ + 1).toNat by (exact zo_1393 i4_)] at hse_
              refine zr_iinc (pc := 72) (i := 1) (a := u1_) (n := 1) (L2 := [some (.ref (d_ + 1)), some (.int (Int32.ofInt (u1_ + 1))), some (.int (Int32.ofInt v35_)), some (.int (Int32.ofInt u36_))]) rfl (by decide) rfl (zdal_p dlA_Group_settle_29 (i := 16) rfl) ?_
              refine zw_goto (pc := 75) (tgt := 2) (by decide) (zdal_p dlA_Group_settle_29 (i := 17) rfl) ?_
              refine zW_le [some (.ref (d_ + 1)), some (.int (Int32.ofInt (u1_ + 1))), none, none] (⟨rfl, rfl, trivial⟩) ?_
              exact ih_2 (u1_ + 1) (by (exact zo_576 i4_)) (by (exact zo_1371 hc_7 hs24_.2)) N43_ hb0_N43_ (show 1 ≤ (u1_ + 1) by first | with_reducible assumption | (exact zo_577 i4_) | assumption) (show zSoK (fun x_ => x_) (zRw d_ 5 Mz) (zRw d_ 5 N43_) (ze Mz (d_ + 1) 7).toNat ((u1_ + 1)).toNat by exact hse_) (by (exact zo_147 hc_7 hlt_2))
            · skip
              refine zw_aload_n (pc := 25) (n := 0) (x := (d_ + 1)) rfl (zdal_p dlA_Group_settle_28 (i := 15) rfl) ?_
              refine zw_getF (pc := 26) f_Group_20 rfl ((hf_N37_.w hW).kr (o := 1) (by decide)) ((hf_N37_.w hW).lr (o := 1) (s := 1) (r := 4) (by decide)) (zdal_p dlA_Group_settle_28 (i := 16) rfl) ?_
              refine zw_iload_n (pc := 29) (n := 3) (x := Int32.ofInt u36_) rfl (zdal_p dlA_Group_settle_28 (i := 17) rfl) ?_
              refine zw_iconst (pc := 30) (v := Int32.ofInt 1) (by decide) (zdal_p dlA_Group_settle_28 (i := 18) rfl) ?_
              refine zr_isub (pc := 31) (zdal_p dlA_Group_settle_28 (i := 19) rfl) ?_
              refine zk_at hf_N37_.x (pc := 32) l_Group_54 ((hf_N37_.w hW).kr (o := 4) (by decide)) ((hf_N37_.w hW).lr (o := 4) (s := 0) (r := 5) (by decide)) ((hf_N37_.w hW).rr (o := 5) (t := 1) (n := 24) (by decide)) (by decide) (by (exact zo_1265 hc_22)) (by (exact zo_1394 hc_7 hs24_.2 hu36_b i40_)) (by decide) (Nat.le_of_ble_eq_true rfl) (zdal_p dlA_Group_settle_28 (i := 20) rfl) (fun v45_ hv45_ hv45_a hv45_b => ?_)
              have hr2_ := hv45_
              refine zw_iload_n (pc := 35) (n := 2) (x := Int32.ofInt v35_) rfl (zdal_p dlA_Group_settle_28 (i := 21) rfl) ?_
              refine zr_icmp_le (pc := 36) (tgt := 63) ⟨hv45_a, hv45_b⟩ ⟨hv35_a, hv35_b⟩ (by decide) (zdal_p dlA_Group_settle_28 (i := 22) rfl) (fun hc_36 => ?_) (fun hc_36 => ?_)
              · skip
                have hex_ : (u36_).toNat = 0 ∨ ¬ (fun x_ => x_) v35_ < (fun x_ => x_) (zRw d_ 5 N37_ ((u36_).toNat - 1)) := by first | exact Or.inl (by omega) | (refine Or.inr ?_; show ¬ v35_ < ze N37_ (d_ + 5) ((u36_).toNat - 1); rw [show (u36_).toNat - 1 = (u36_ - 1).toNat by (exact zo_1395 hc_22)]; (exact zo_1396 hc_36 hv45_))
                refine zw_aload_n (pc := 63) (n := 0) (x := (d_ + 1)) rfl (zdal_p dlA_Group_settle_29 (i := 11) rfl) ?_
                refine zw_getF (pc := 64) f_Group_20 rfl ((hf_N37_.w hW).kr (o := 1) (by decide)) ((hf_N37_.w hW).lr (o := 1) (s := 1) (r := 4) (by decide)) (zdal_p dlA_Group_settle_29 (i := 12) rfl) ?_
                refine zw_iload_n (pc := 67) (n := 3) (x := Int32.ofInt u36_) rfl (zdal_p dlA_Group_settle_29 (i := 13) rfl) ?_
                refine zw_iload_n (pc := 68) (n := 2) (x := Int32.ofInt v35_) rfl (zdal_p dlA_Group_settle_29 (i := 14) rfl) ?_
                refine zk_st hf_N37_.x (pc := 69) (o := 5) (by decide) l_Group_46 ((hf_N37_.w hW).kr (o := 4) (by decide)) ((hf_N37_.w hW).lr (o := 4) (s := 0) (r := 5) (by decide)) ((hf_N37_.w hW).rr (o := 5) (t := 1) (n := 24) (by decide)) (by decide) (by (exact i39_)) (by (exact zo_1397 hc_7 hs24_.2 i40_)) (by decide) (Nat.le_of_ble_eq_true rfl) (zdal_p dlA_Group_settle_29 (i := 15) rfl) (fun N46_ hN46_ hsN46_ => ?_)
                have hf_N46_ : zFc d_ [] [] [] [5, 7, 9] Mz N46_ := hf_N37_.tr hsN46_ (by decide) (by decide) (by decide) (by decide)
                have hb0_N46_ : zFc d_ [] [] [] [5] Mz N46_ := hb0_N37_.tr hsN46_ (by decide) (by decide) (by decide) (by decide)
                have eD1_5_N46_ : ze N46_ (d_ + 1) 5 = ze N37_ (d_ + 1) 5 := hsN46_.e (by decide)
                have eD1_7_N46_ : ze N46_ (d_ + 1) 7 = ze N37_ (d_ + 1) 7 := hsN46_.e (by decide)
                have hse_ := zSj_e hsj_ hex_ (zRw_w hN46_ ⟨by (exact hv35_a), by (exact hv35_b)⟩)
                rw [show (u1_).toNat + 1 = (u1_ + 1).toNat by (exact zo_1393 i4_)] at hse_
                refine zr_iinc (pc := 72) (i := 1) (a := u1_) (n := 1) (L2 := [some (.ref (d_ + 1)), some (.int (Int32.ofInt (u1_ + 1))), some (.int (Int32.ofInt v35_)), some (.int (Int32.ofInt u36_))]) rfl (by decide) rfl (zdal_p dlA_Group_settle_29 (i := 16) rfl) ?_
                refine zw_goto (pc := 75) (tgt := 2) (by decide) (zdal_p dlA_Group_settle_29 (i := 17) rfl) ?_
                refine zW_le [some (.ref (d_ + 1)), some (.int (Int32.ofInt (u1_ + 1))), none, none] (⟨rfl, rfl, trivial⟩) ?_
                exact ih_2 (u1_ + 1) (by (exact zo_576 i4_)) (by (exact zo_1371 hc_7 hs24_.2)) N46_ hb0_N46_ (show 1 ≤ (u1_ + 1) by first | with_reducible assumption | (exact zo_577 i4_) | assumption) (show zSoK (fun x_ => x_) (zRw d_ 5 Mz) (zRw d_ 5 N46_) (ze Mz (d_ + 1) 7).toNat ((u1_ + 1)).toNat by exact hse_) (by (exact zo_147 hc_7 hlt_2))
              · skip
                refine zw_aload_n (pc := 39) (n := 0) (x := (d_ + 1)) rfl (zdal_p dlA_Group_settle_28 (i := 23) rfl) ?_
                refine zw_getF (pc := 40) f_Group_20 rfl ((hf_N37_.w hW).kr (o := 1) (by decide)) ((hf_N37_.w hW).lr (o := 1) (s := 1) (r := 4) (by decide)) (zdal_p dlA_Group_settle_29 (i := 0) rfl) ?_
                refine zw_iload_n (pc := 43) (n := 3) (x := Int32.ofInt u36_) rfl (zdal_p dlA_Group_settle_29 (i := 1) rfl) ?_
                refine zw_aload_n (pc := 44) (n := 0) (x := (d_ + 1)) rfl (zdal_p dlA_Group_settle_29 (i := 2) rfl) ?_
                refine zw_getF (pc := 45) f_Group_20 rfl ((hf_N37_.w hW).kr (o := 1) (by decide)) ((hf_N37_.w hW).lr (o := 1) (s := 1) (r := 4) (by decide)) (zdal_p dlA_Group_settle_29 (i := 3) rfl) ?_
                refine zw_iload_n (pc := 48) (n := 3) (x := Int32.ofInt u36_) rfl (zdal_p dlA_Group_settle_29 (i := 4) rfl) ?_
                refine zw_iconst (pc := 49) (v := Int32.ofInt 1) (by decide) (zdal_p dlA_Group_settle_29 (i := 5) rfl) ?_
                refine zr_isub (pc := 50) (zdal_p dlA_Group_settle_29 (i := 6) rfl) ?_
                refine zk_at hf_N37_.x (pc := 51) l_Group_54 ((hf_N37_.w hW).kr (o := 4) (by decide)) ((hf_N37_.w hW).lr (o := 4) (s := 0) (r := 5) (by decide)) ((hf_N37_.w hW).rr (o := 5) (t := 1) (n := 24) (by decide)) (by decide) (by (exact zo_1265 hc_22)) (by (exact zo_1394 hc_7 hs24_.2 hu36_b i40_)) (by decide) (Nat.le_of_ble_eq_true rfl) (zdal_p dlA_Group_settle_29 (i := 7) rfl) (fun v48_ hv48_ hv48_a hv48_b => ?_)
                have hr3_ := hv48_
                refine zk_st hf_N37_.x (pc := 54) (o := 5) (by decide) l_Group_46 ((hf_N37_.w hW).kr (o := 4) (by decide)) ((hf_N37_.w hW).lr (o := 4) (s := 0) (r := 5) (by decide)) ((hf_N37_.w hW).rr (o := 5) (t := 1) (n := 24) (by decide)) (by decide) (by (exact i39_)) (by (exact zo_1397 hc_7 hs24_.2 i40_)) (by decide) (Nat.le_of_ble_eq_true rfl) (zdal_p dlA_Group_settle_29 (i := 8) rfl) (fun N49_ hN49_ hsN49_ => ?_)
                have hf_N49_ : zFc d_ [] [] [] [5, 7, 9] Mz N49_ := hf_N37_.tr hsN49_ (by decide) (by decide) (by decide) (by decide)
                have hb0_N49_ : zFc d_ [] [] [] [5] Mz N49_ := hb0_N37_.tr hsN49_ (by decide) (by decide) (by decide) (by decide)
                have hb1_N49_ : zFc d_ [] [] [] [5] N2_ N49_ := hs38_.tr hsN49_ (by decide) (by decide) (by decide) (by decide)
                have eD1_5_N49_ : ze N49_ (d_ + 1) 5 = ze N37_ (d_ + 1) 5 := hsN49_.e (by decide)
                have eD1_7_N49_ : ze N49_ (d_ + 1) 7 = ze N37_ (d_ + 1) 7 := hsN49_.e (by decide)
                have hss_ := zSj_s hsj_ (by (exact zo_1398 hc_22)) (show v35_ < ze N37_ (d_ + 5) ((u36_).toNat - 1) by rw [show (u36_).toNat - 1 = (u36_ - 1).toNat by (exact zo_1395 hc_22)]; (exact zo_1399 hc_36 hv45_)) (fun j => (zRw_w hN49_ ⟨by (exact hv48_a), by (exact hv48_b)⟩ j).trans (by rw [show zRw d_ 5 N37_ ((u36_).toNat - 1) = ze N37_ (d_ + 5) (u36_ - 1).toNat by rw [show (u36_ - 1).toNat = (u36_).toNat - 1 by (exact zo_1400 hc_22)]; rfl, ← hr3_]))
                rw [show (u36_).toNat - 1 = (u36_ + (-1)).toNat by (exact zo_1401 hc_22)] at hss_
                refine zr_iinc (pc := 57) (i := 3) (a := u36_) (n := -1) (L2 := [some (.ref (d_ + 1)), some (.int (Int32.ofInt u1_)), some (.int (Int32.ofInt v35_)), some (.int (Int32.ofInt (u36_ + (-1))))]) rfl (by decide) rfl (zdal_p dlA_Group_settle_29 (i := 9) rfl) ?_
                refine zw_goto (pc := 60) (tgt := 21) (by decide) (zdal_p dlA_Group_settle_29 (i := 10) rfl) ?_
                exact ih_21 (u36_ + (-1)) (by (exact zo_992 hc_22)) (by (exact zo_893 hu36_b)) N49_ hb1_N49_ (show 0 ≤ (u36_ + (-1)) by first | with_reducible assumption | (exact zo_1402 hc_22) | assumption) (show (u36_ + (-1)) ≤ u1_ by first | with_reducible assumption | (exact zo_993 i40_) | assumption) (show zSj (fun x_ => x_) (zRw d_ 5 Mz) (zRw d_ 5 N49_) (ze Mz (d_ + 1) 7).toNat (u1_).toNat ((u36_ + (-1))).toNat v35_ by exact hss_) (by (exact zo_995 hc_22 hlt_21 hu36_b))
        exact lp_21 _ u1_ hu1_a hu1_b N2_ zFc.rf (show 0 ≤ u1_ by first | with_reducible assumption | (exact zo_564 i4_) | assumption) (show u1_ ≤ u1_ by first | with_reducible assumption | (exact zo_628) | assumption) (show zSj (fun x_ => x_) (zRw d_ 5 Mz) (zRw d_ 5 N2_) (ze Mz (d_ + 1) 7).toNat (u1_).toNat (u1_).toNat v35_ by exact hsj0_) (Nat.lt_succ_self _)
  exact lp_2 _ 1 (by decide) (by decide) Mz zFc.rf (show 1 ≤ (1 : Int) by first | with_reducible assumption | (decide) | assumption) (show zSoK (fun x_ => x_) (zRw d_ 5 Mz) (zRw d_ 5 Mz) (ze Mz (d_ + 1) 7).toNat ((1 : Int)).toNat by exact hs0_) (Nat.lt_succ_self _)
set_option maxHeartbeats 4000000 in
theorem u_Sorts_numberSortsG (l : Launch) (d_ : Nat) (Mz : zMem) (hW : zKW d_ Mz) (T_ : zGT) (hT_ : T_ ∈ gTabs) (l_ : List Nat) (Kp_ : Nat) (hol_ : gOL T_ l_ Kp_ gKL) (hGr_ : gGr T_) (p0_ : zTt T_ d_ Mz) (p1_ : zLs T_ (zRw d_ 14 Mz) (ze Mz (d_ + 12) 6)) : zC l m_Sorts_numberSorts 0 0 [.ref (d_ + 12)] Mz (zqcV d_ [] [] [(12, 7)] [16, 20] Mz (fun N => zFir T_ d_ N ∧ (∀ i : Nat, (i : Int) < ze Mz (d_ + 12) 6 → zSrt T_ (ze Mz (d_ + 14) i).toNat (ze N (d_ + 16) i)))) := by
  refine zC_of (L0 := [some (.ref (d_ + 12)), none, none]) md_Sorts_numberSorts (Nat.le_of_ble_eq_true rfl) rfl ?_ zQ0
  have hf : zFc d_ [] [] [(12, 7)] [16, 20] Mz Mz := zFc.rf
  have r_D1_7 := ze_r Mz (d_ + 1) 7
  have r_D12_6 := ze_r Mz (d_ + 12) 6
  have r_D12_7 := ze_r Mz (d_ + 12) 7
  have hO_ := gTabs_ok T_ hT_
  have hG_ := hO_.1
  have hn24_ := hG_.2.1
  have hn1_ := hG_.1
  obtain ⟨⟨hm1_, hm35_⟩, hmm_, hms_, hmo_⟩ := id p1_
  have hsz_ := p0_.1
  refine zw_aload_n (pc := 0) (n := 0) (x := (d_ + 12)) rfl (zdal_p dlA_Sorts_numberSorts_45 (i := 0) rfl) ?_
  refine zw_iconst (pc := 1) (v := Int32.ofInt 0) (by decide) (zdal_p dlA_Sorts_numberSorts_45 (i := 1) rfl) ?_
  refine zk_putR (pc := 2) (o := 12) (by decide) f_Sorts_83 rfl rfl ((hf.w hW).kr (o := 12) (by decide)) ⟨by (decide), by (decide)⟩ rfl rfl (zdal_p dlA_Sorts_numberSorts_45 (i := 2) rfl) (fun N1_ hsN1_ hvN1_ => ?_)
  have hf_N1_ : zFc d_ [] [] [(12, 7)] [16, 20] Mz N1_ := hf.tr hsN1_ (by decide) (by decide) (by decide) (by decide)
  have eD1_7_N1_ : ze N1_ (d_ + 1) 7 = ze Mz (d_ + 1) 7 := hsN1_.e (by decide)
  have eD12_6_N1_ : ze N1_ (d_ + 12) 6 = ze Mz (d_ + 12) 6 := hsN1_.e (by decide)
  have rD12_7_N1_ := ze_r N1_ (d_ + 12) 7
  have c2_ : zTt T_ d_ N1_ := zTt.fr (hf.w hW) hsN1_ p0_ (by decide)
  refine zw_iconst (pc := 5) (v := Int32.ofInt 0) (by decide) (zdal_p dlA_Sorts_numberSorts_45 (i := 3) rfl) ?_
  refine zw_istore_n (pc := 6) (i := 1) (L2 := [some (.ref (d_ + 12)), some (.int (Int32.ofInt 0)), none]) rfl (by decide) rfl (zdal_p dlA_Sorts_numberSorts_45 (i := 4) rfl) ?_
  have lp_7 : ∀ (n : Nat) (u3_ : Int) (hu3_a : -2147483648 ≤ u3_) (hu3_b : u3_ < 2147483648) (N4_ : zMem) (hs5_ : zFc d_ [] [] [] [16] N1_ N4_) (i6_ : 0 ≤ u3_) (i7_ : u3_ ≤ ze Mz (d_ + 12) 6) (i8_ : ze N4_ (d_ + 12) 7 = 0) (i9_ : ∀ i : Nat, (i : Int) < u3_ → zRw d_ 16 N4_ i = -1), (ze Mz (d_ + 12) 6 - u3_).toNat < n → zW l m_Sorts_numberSorts (zn Mz + 0, zw Mz + 0) N4_ 7 [some (.ref (d_ + 12)), some (.int (Int32.ofInt u3_)), none] [] (zqcV d_ [] [] [(12, 7)] [16, 20] Mz (fun N => zFir T_ d_ N ∧ (∀ i : Nat, (i : Int) < ze Mz (d_ + 12) 6 → zSrt T_ (ze Mz (d_ + 14) i).toNat (ze N (d_ + 16) i)))) := by
    intro n
    induction n with
    | zero =>
      intro u3_ hu3_a hu3_b N4_ hs5_ i6_ i7_ i8_ i9_ h0
      exact absurd h0 (Nat.not_lt_zero _)
    | succ n ih_7 =>
      intro u3_ hu3_a hu3_b N4_ hs5_ i6_ i7_ i8_ i9_ hlt_7
      have hf_N4_ : zFc d_ [] [] [(12, 7)] [16, 20] Mz N4_ := hf_N1_.tr hs5_ (by decide) (by decide) (by decide) (by decide)
      have eD1_7_N4_ : ze N4_ (d_ + 1) 7 = ze N1_ (d_ + 1) 7 := hs5_.e (by decide)
      have eD12_6_N4_ : ze N4_ (d_ + 12) 6 = ze N1_ (d_ + 12) 6 := hs5_.e (by decide)
      have eD12_7_N4_ : ze N4_ (d_ + 12) 7 = ze N1_ (d_ + 12) 7 := hs5_.e (by decide)
      have c10_ : zTt T_ d_ N4_ := zTt.fr (hf_N1_.w hW) hs5_ c2_ (by decide)
      have hqi_ := (show ∀ i : Nat, (i : Int) < u3_ → zRw d_ 16 N4_ i = -1 by first | with_reducible assumption | assumption)
      refine zw_iload_n (pc := 7) (n := 1) (x := Int32.ofInt u3_) rfl (zdal_p dlA_Sorts_numberSorts_45 (i := 5) rfl) ?_
      refine zw_aload_n (pc := 8) (n := 0) (x := (d_ + 12)) rfl (zdal_p dlA_Sorts_numberSorts_45 (i := 6) rfl) ?_
      refine zk_getI (pc := 9) f_Sorts_36 rfl ((hf_N4_.w hW).kr (o := 12) (by decide)) (zdal_p dlA_Sorts_numberSorts_45 (i := 7) rfl) ?_
      rw [hf_N4_.e (by decide)]
      refine zr_icmp_ge (pc := 12) (tgt := 30) ⟨hu3_a, hu3_b⟩ ⟨(ze_r Mz (d_ + 12) 6).1, (ze_r Mz (d_ + 12) 6).2⟩ (by decide) (zdal_p dlA_Sorts_numberSorts_45 (i := 8) rfl) (fun hc_12 => ?_) (fun hc_12 => ?_)
      · skip
        have hnu0_ : zNu T_ (zRw d_ 14 Mz) (ze Mz (d_ + 12) 6) (zRw d_ 16 N4_) (zRw d_ 20 N4_) (ze N4_ (d_ + 12) 7) 0 0 := by rw [show ze N4_ (d_ + 12) 7 = 0 by (exact i8_)]; exact zNu_0 (fun i hi => hqi_ i (by (exact zo_1403 hc_12 hi)))
        have hnq0_ : zNq T_ (zRw d_ 14 Mz) (ze Mz (d_ + 12) 6) (zRw d_ 16 N4_) (zRw d_ 20 N4_) (ze N4_ (d_ + 12) 7) := zNq_0 (fun i hi => hqi_ i (by (exact zo_1403 hc_12 hi)))
        refine zw_iconst (pc := 30) (v := Int32.ofInt 0) (by decide) (zdal_p dlA_Sorts_numberSorts_45 (i := 16) rfl) ?_
        refine zw_istore_n (pc := 31) (i := 1) (L2 := [some (.ref (d_ + 12)), some (.int (Int32.ofInt 0)), none]) rfl (by decide) rfl (zdal_p dlA_Sorts_numberSorts_45 (i := 17) rfl) ?_
        have lp_32 : ∀ (n : Nat) (u11_ : Int) (hu11_a : -2147483648 ≤ u11_) (hu11_b : u11_ < 2147483648) (N12_ : zMem) (hs13_ : zFc d_ [] [] [(12, 7)] [16, 20] N4_ N12_) (i14_ : 0 ≤ u11_) (i15_ : zNu T_ (zRw d_ 14 Mz) (ze Mz (d_ + 12) 6) (zRw d_ 16 N12_) (zRw d_ 20 N12_) (ze N12_ (d_ + 12) 7) u11_ 0) (i16_ : zNq T_ (zRw d_ 14 Mz) (ze Mz (d_ + 12) 6) (zRw d_ 16 N12_) (zRw d_ 20 N12_) (ze N12_ (d_ + 12) 7)), (ze Mz (d_ + 12) 6 - u11_).toNat < n → zW l m_Sorts_numberSorts (zn Mz + 0, zw Mz + 0) N12_ 32 [some (.ref (d_ + 12)), some (.int (Int32.ofInt u11_)), none] [] (zqcV d_ [] [] [(12, 7)] [16, 20] Mz (fun N => zFir T_ d_ N ∧ (∀ i : Nat, (i : Int) < ze Mz (d_ + 12) 6 → zSrt T_ (ze Mz (d_ + 14) i).toNat (ze N (d_ + 16) i)))) := by
          intro n
          induction n with
          | zero =>
            intro u11_ hu11_a hu11_b N12_ hs13_ i14_ i15_ i16_ h0
            exact absurd h0 (Nat.not_lt_zero _)
          | succ n ih_32 =>
            intro u11_ hu11_a hu11_b N12_ hs13_ i14_ i15_ i16_ hlt_32
            have hf_N12_ : zFc d_ [] [] [(12, 7)] [16, 20] Mz N12_ := hf_N4_.tr hs13_ (by decide) (by decide) (by decide) (by decide)
            have eD1_7_N12_ : ze N12_ (d_ + 1) 7 = ze N4_ (d_ + 1) 7 := hs13_.e (by decide)
            have eD12_6_N12_ : ze N12_ (d_ + 12) 6 = ze N4_ (d_ + 12) 6 := hs13_.e (by decide)
            have rD12_7_N12_ := ze_r N12_ (d_ + 12) 7
            have c17_ : zTt T_ d_ N12_ := zTt.fr (hf_N4_.w hW) hs13_ c10_ (by decide)
            have hnu_ := (show zNu T_ (zRw d_ 14 Mz) (ze Mz (d_ + 12) 6) (zRw d_ 16 N12_) (zRw d_ 20 N12_) (ze N12_ (d_ + 12) 7) u11_ 0 by first | with_reducible assumption | assumption)
            have hc0_ := hnu_.2.1
            have hnq_ := (show zNq T_ (zRw d_ 14 Mz) (ze Mz (d_ + 12) 6) (zRw d_ 16 N12_) (zRw d_ 20 N12_) (ze N12_ (d_ + 12) 7) by first | with_reducible assumption | assumption)
            refine zw_iload_n (pc := 32) (n := 1) (x := Int32.ofInt u11_) rfl (zdal_p dlA_Sorts_numberSorts_45 (i := 18) rfl) ?_
            refine zw_aload_n (pc := 33) (n := 0) (x := (d_ + 12)) rfl (zdal_p dlA_Sorts_numberSorts_45 (i := 19) rfl) ?_
            refine zk_getI (pc := 34) f_Sorts_36 rfl ((hf_N12_.w hW).kr (o := 12) (by decide)) (zdal_p dlA_Sorts_numberSorts_45 (i := 20) rfl) ?_
            rw [hf_N12_.e (by decide)]
            refine zr_icmp_ge (pc := 37) (tgt := 149) ⟨hu11_a, hu11_b⟩ ⟨(ze_r Mz (d_ + 12) 6).1, (ze_r Mz (d_ + 12) 6).2⟩ (by decide) (zdal_p dlA_Sorts_numberSorts_45 (i := 21) rfl) (fun hc_37 => ?_) (fun hc_37 => ?_)
            · skip
              exact zk_vret (pc := 149) rfl hf_N12_ ⟨(show zFir T_ d_ N12_ by obtain ⟨e1_, e2_⟩ := zNu_e hO_ p1_ hnu_ (by (exact hc_37)); exact ⟨e1_, e2_⟩), (show (∀ i : Nat, (i : Int) < ze Mz (d_ + 12) 6 → zSrt T_ (ze Mz (d_ + 14) i).toNat (ze N12_ (d_ + 16) i)) by obtain ⟨e1_, e2_⟩ := zNu_e hO_ p1_ hnu_ (by (exact hc_37)); rw [e1_] at hnu_ hnq_; exact zSbK_i hGr_ hO_ hol_ p1_ hnq_ hnu_ (by (exact hc_37)) e2_)⟩ (zdal_p dlA_Sorts_numberSorts_48 (i := 2) rfl)
            · skip
              refine zw_aload_n (pc := 40) (n := 0) (x := (d_ + 12)) rfl (zdal_p dlA_Sorts_numberSorts_45 (i := 22) rfl) ?_
              refine zw_getF (pc := 41) f_Sorts_20 rfl ((hf_N12_.w hW).kr (o := 12) (by decide)) ((hf_N12_.w hW).lr (o := 12) (s := 2) (r := 15) (by decide)) (zdal_p dlA_Sorts_numberSorts_45 (i := 23) rfl) ?_
              refine zw_iload_n (pc := 44) (n := 1) (x := Int32.ofInt u11_) rfl (zdal_p dlA_Sorts_numberSorts_46 (i := 0) rfl) ?_
              refine zk_at hf_N12_.x (pc := 45) l_Sorts_49 ((hf_N12_.w hW).kr (o := 15) (by decide)) ((hf_N12_.w hW).lr (o := 15) (s := 0) (r := 16) (by decide)) ((hf_N12_.w hW).rr (o := 16) (t := 1) (n := 35) (by decide)) (by decide) (by (exact i14_)) (by (exact zo_1404 hc_37 hm35_)) (by decide) (Nat.le_of_ble_eq_true rfl) (zdal_p dlA_Sorts_numberSorts_46 (i := 1) rfl) (fun v18_ hv18_ hv18_a hv18_b => ?_)
              have hv1_ := hv18_
              have hnt_ := zNu_t hO_ p1_ hol_ hnu_ (by (exact zo_1405 hc_37 i14_))
              rw [show zRw d_ 16 N12_ (u11_).toNat = v18_ from hv1_.symm] at hnt_
              refine zw_iconst (pc := 48) (v := Int32.ofInt (-1)) (by decide) (zdal_p dlA_Sorts_numberSorts_46 (i := 2) rfl) ?_
              refine zr_icmp_ne (pc := 49) (tgt := 143) ⟨hv18_a, hv18_b⟩ ⟨(by decide), (by decide)⟩ (by decide) (zdal_p dlA_Sorts_numberSorts_46 (i := 3) rfl) (fun hc_49 => ?_) (fun hc_49 => ?_)
              · skip
                refine zr_iinc (pc := 143) (i := 1) (a := u11_) (n := 1) (L2 := [some (.ref (d_ + 12)), some (.int (Int32.ofInt (u11_ + 1))), none]) rfl (by decide) rfl (zdal_p dlA_Sorts_numberSorts_48 (i := 0) rfl) ?_
                refine zw_goto (pc := 146) (tgt := 32) (by decide) (zdal_p dlA_Sorts_numberSorts_48 (i := 1) rfl) ?_
                exact ih_32 (u11_ + 1) (by (exact zo_74 i14_)) (by (exact zo_1406 hc_37 hm35_)) N12_ hs13_ (show 0 ≤ (u11_ + 1) by first | with_reducible assumption | (exact zo_76 i14_) | assumption) (show zNu T_ (zRw d_ 14 Mz) (ze Mz (d_ + 12) 6) (zRw d_ 16 N12_) (zRw d_ 20 N12_) (ze N12_ (d_ + 12) 7) (u11_ + 1) 0 by first | exact hnz_ | exact zNu_n p1_ hnu_ (by (exact zo_1405 hc_37 i14_)) (fun q_ => absurd (hnt_.mpr q_) (by (exact zo_1407 hc_49)))) (show zNq T_ (zRw d_ 14 Mz) (ze Mz (d_ + 12) 6) (zRw d_ 16 N12_) (zRw d_ 20 N12_) (ze N12_ (d_ + 12) 7) by first | exact hnqz_ | exact hnq_) (by (exact zo_147 hc_37 hlt_32))
              · skip
                have hgF_ := hnt_.mp (by (exact hc_49))
                have hr26_ := zNu_r p1_ hol_ hnu_ (by (exact zo_1405 hc_37 i14_)) hgF_
                have hfk_ := hmm_ (u11_).toNat (by (exact zo_695 hc_37 i14_))
                have hfb_ := gS_b hO_ hfk_.2
                refine zw_aload_n (pc := 52) (n := 0) (x := (d_ + 12)) rfl (zdal_p dlA_Sorts_numberSorts_46 (i := 4) rfl) ?_
                refine zk_getI (pc := 53) f_Sorts_83 rfl ((hf_N12_.w hW).kr (o := 12) (by decide)) (zdal_p dlA_Sorts_numberSorts_46 (i := 5) rfl) ?_
                refine zw_bipush (pc := 56) (v := Int32.ofInt 27) (by decide) (zdal_p dlA_Sorts_numberSorts_46 (i := 6) rfl) ?_
                refine zr_icmp_lt (pc := 58) (tgt := 64) ⟨(ze_r N12_ (d_ + 12) 7).1, (ze_r N12_ (d_ + 12) 7).2⟩ ⟨(by decide), (by decide)⟩ (by decide) (zdal_p dlA_Sorts_numberSorts_46 (i := 7) rfl) (fun hc_58 => ?_) (fun hc_58 => ?_)
                · skip
                  refine zw_aload_n (pc := 64) (n := 0) (x := (d_ + 12)) rfl (zdal_p dlA_Sorts_numberSorts_46 (i := 9) rfl) ?_
                  refine zw_getF (pc := 65) f_Sorts_26 rfl ((hf_N12_.w hW).kr (o := 12) (by decide)) ((hf_N12_.w hW).lr (o := 12) (s := 4) (r := 19) (by decide)) (zdal_p dlA_Sorts_numberSorts_46 (i := 10) rfl) ?_
                  refine zw_aload_n (pc := 68) (n := 0) (x := (d_ + 12)) rfl (zdal_p dlA_Sorts_numberSorts_46 (i := 11) rfl) ?_
                  refine zk_getI (pc := 69) f_Sorts_83 rfl ((hf_N12_.w hW).kr (o := 12) (by decide)) (zdal_p dlA_Sorts_numberSorts_46 (i := 12) rfl) ?_
                  refine zw_aload_n (pc := 72) (n := 0) (x := (d_ + 12)) rfl (zdal_p dlA_Sorts_numberSorts_46 (i := 13) rfl) ?_
                  refine zw_getF (pc := 73) f_Sorts_14 rfl ((hf_N12_.w hW).kr (o := 12) (by decide)) ((hf_N12_.w hW).lr (o := 12) (s := 1) (r := 13) (by decide)) (zdal_p dlA_Sorts_numberSorts_46 (i := 14) rfl) ?_
                  refine zw_iload_n (pc := 76) (n := 1) (x := Int32.ofInt u11_) rfl (zdal_p dlA_Sorts_numberSorts_46 (i := 15) rfl) ?_
                  refine zk_at hf_N12_.x (pc := 77) l_Sorts_49 ((hf_N12_.w hW).kr (o := 13) (by decide)) ((hf_N12_.w hW).lr (o := 13) (s := 0) (r := 14) (by decide)) ((hf_N12_.w hW).rr (o := 14) (t := 1) (n := 35) (by decide)) (by decide) (by (exact i14_)) (by (exact zo_1404 hc_37 hm35_)) (by decide) (Nat.le_of_ble_eq_true rfl) (zdal_p dlA_Sorts_numberSorts_46 (i := 16) rfl) (fun v19_ hv19_ hv19_a hv19_b => ?_)
                  rw [hf_N12_.r (by decide)] at hv19_
                  have hv2_ := hv19_
                  refine zk_st hf_N12_.x (pc := 80) (o := 20) (by decide) l_Sorts_40 ((hf_N12_.w hW).kr (o := 19) (by decide)) ((hf_N12_.w hW).lr (o := 19) (s := 0) (r := 20) (by decide)) ((hf_N12_.w hW).rr (o := 20) (t := 1) (n := 27) (by decide)) (by decide) (by (exact hc0_)) (by (exact zo_1408 hr26_)) (by decide) (Nat.le_of_ble_eq_true rfl) (zdal_p dlA_Sorts_numberSorts_46 (i := 17) rfl) (fun N20_ hN20_ hsN20_ => ?_)
                  have hf_N20_ : zFc d_ [] [] [(12, 7)] [16, 20] Mz N20_ := hf_N12_.tr hsN20_ (by decide) (by decide) (by decide) (by decide)
                  have hb0_N20_ : zFc d_ [] [] [(12, 7)] [16, 20] N4_ N20_ := hs13_.tr hsN20_ (by decide) (by decide) (by decide) (by decide)
                  have eD1_7_N20_ : ze N20_ (d_ + 1) 7 = ze N12_ (d_ + 1) 7 := hsN20_.e (by decide)
                  have eD12_6_N20_ : ze N20_ (d_ + 12) 6 = ze N12_ (d_ + 12) 6 := hsN20_.e (by decide)
                  have eD12_7_N20_ : ze N20_ (d_ + 12) 7 = ze N12_ (d_ + 12) 7 := hsN20_.e (by decide)
                  have c21_ : zTt T_ d_ N20_ := zTt.fr (hf_N12_.w hW) hsN20_ c17_ (by decide)
                  have hw2_ := zRw_w hN20_ ⟨by (exact hv19_a), by (exact hv19_b)⟩
                  have hnf_ := zNu_w (fi' := zRw d_ 20 N20_) hnu_ (fun i hi => by rw [hw2_, zst_o (by (exact zo_732 hi))])
                  have hff_ : zRw d_ 20 N20_ (ze N20_ (d_ + 12) 7).toNat = zRw d_ 14 Mz (u11_).toNat := by rw [hw2_, show (ze N20_ (d_ + 12) 7).toNat = (ze N12_ (d_ + 12) 7).toNat by (exact zo_1409 eD12_7_N20_ hc0_ hr26_), zst_t]; exact hv2_
                  have he7_ : ze N20_ (d_ + 12) 7 = ze N12_ (d_ + 12) 7 := by (exact eD12_7_N20_)
                  rw [← he7_] at hnf_
                  have hq16_ : zRw d_ 16 N12_ = zRw d_ 16 N20_ := funext fun j => (hsN20_.r (by decide) j).symm
                  rw [hq16_] at hnf_
                  have hnr0_ := zNq_w (fi' := zRw d_ 20 N20_) hnq_ (fun i hi => by rw [hw2_, zst_o (by (exact zo_732 hi))])
                  rw [← he7_, hq16_] at hnr0_
                  refine zw_iconst (pc := 83) (v := Int32.ofInt 0) (by decide) (zdal_p dlA_Sorts_numberSorts_46 (i := 18) rfl) ?_
                  refine zw_istore_n (pc := 84) (i := 2) (L2 := [some (.ref (d_ + 12)), some (.int (Int32.ofInt u11_)), some (.int (Int32.ofInt 0))]) rfl (by decide) rfl (zdal_p dlA_Sorts_numberSorts_46 (i := 19) rfl) ?_
                  have lp_85 : ∀ (n : Nat) (u22_ : Int) (hu22_a : -2147483648 ≤ u22_) (hu22_b : u22_ < 2147483648) (N23_ : zMem) (hs24_ : zFc d_ [] [] [] [16] N20_ N23_) (i25_ : 0 ≤ u22_) (i26_ : zNu T_ (zRw d_ 14 Mz) (ze Mz (d_ + 12) 6) (zRw d_ 16 N23_) (zRw d_ 20 N23_) (ze N23_ (d_ + 12) 7) u11_ u22_) (i27_ : zRw d_ 20 N23_ (ze N23_ (d_ + 12) 7).toNat = zRw d_ 14 Mz (u11_).toNat) (i28_ : 0 ≤ ze N23_ (d_ + 12) 7) (i29_ : ze N23_ (d_ + 12) 7 ≤ 26) (i30_ : zNq T_ (zRw d_ 14 Mz) (ze Mz (d_ + 12) 6) (zRw d_ 16 N23_) (zRw d_ 20 N23_) (ze N23_ (d_ + 12) 7 + 1)), (gN T_ - u22_).toNat < n → zW l m_Sorts_numberSorts (zn Mz + 0, zw Mz + 0) N23_ 85 [some (.ref (d_ + 12)), some (.int (Int32.ofInt u11_)), some (.int (Int32.ofInt u22_))] [] (zqcV d_ [] [] [(12, 7)] [16, 20] Mz (fun N => zFir T_ d_ N ∧ (∀ i : Nat, (i : Int) < ze Mz (d_ + 12) 6 → zSrt T_ (ze Mz (d_ + 14) i).toNat (ze N (d_ + 16) i)))) := by
                    intro n
                    induction n with
                    | zero =>
                      intro u22_ hu22_a hu22_b N23_ hs24_ i25_ i26_ i27_ i28_ i29_ i30_ h0
                      exact absurd h0 (Nat.not_lt_zero _)
                    | succ n ih_85 =>
                      intro u22_ hu22_a hu22_b N23_ hs24_ i25_ i26_ i27_ i28_ i29_ i30_ hlt_85
                      have hf_N23_ : zFc d_ [] [] [(12, 7)] [16, 20] Mz N23_ := hf_N20_.tr hs24_ (by decide) (by decide) (by decide) (by decide)
                      have hb0_N23_ : zFc d_ [] [] [(12, 7)] [16, 20] N4_ N23_ := hb0_N20_.tr hs24_ (by decide) (by decide) (by decide) (by decide)
                      have eD1_7_N23_ : ze N23_ (d_ + 1) 7 = ze N20_ (d_ + 1) 7 := hs24_.e (by decide)
                      have eD12_6_N23_ : ze N23_ (d_ + 12) 6 = ze N20_ (d_ + 12) 6 := hs24_.e (by decide)
                      have eD12_7_N23_ : ze N23_ (d_ + 12) 7 = ze N20_ (d_ + 12) 7 := hs24_.e (by decide)
                      have c31_ : zTt T_ d_ N23_ := zTt.fr (hf_N20_.w hW) hs24_ c21_ (by decide)
                      have hnw_ := (show zNu T_ (zRw d_ 14 Mz) (ze Mz (d_ + 12) 6) (zRw d_ 16 N23_) (zRw d_ 20 N23_) (ze N23_ (d_ + 12) 7) u11_ u22_ by first | with_reducible assumption | assumption)
                      have hft_ := (show zRw d_ 20 N23_ (ze N23_ (d_ + 12) 7).toNat = zRw d_ 14 Mz (u11_).toNat by first | with_reducible assumption | assumption)
                      have hnr_ := (show zNq T_ (zRw d_ 14 Mz) (ze Mz (d_ + 12) 6) (zRw d_ 16 N23_) (zRw d_ 20 N23_) (ze N23_ (d_ + 12) 7 + 1) by first | with_reducible assumption | assumption)
                      refine zw_iload_n (pc := 85) (n := 2) (x := Int32.ofInt u22_) rfl (zdal_p dlA_Sorts_numberSorts_46 (i := 20) rfl) ?_
                      refine zw_aload_n (pc := 86) (n := 0) (x := (d_ + 12)) rfl (zdal_p dlA_Sorts_numberSorts_46 (i := 21) rfl) ?_
                      refine zw_getF (pc := 87) f_Sorts_32 rfl ((hf_N23_.w hW).kr (o := 12) (by decide)) ((hf_N23_.w hW).lr (o := 12) (s := 0) (r := 1) (by decide)) (zdal_p dlA_Sorts_numberSorts_46 (i := 22) rfl) ?_
                      refine zk_getI (pc := 90) f_Sorts_44 rfl ((hf_N23_.w hW).kr (o := 1) (by decide)) (zdal_p dlA_Sorts_numberSorts_46 (i := 23) rfl) ?_
                      rw [hf_N23_.e (by decide)]
                      refine zr_icmp_ge (pc := 93) (tgt := 133) ⟨hu22_a, hu22_b⟩ ⟨(ze_r Mz (d_ + 1) 7).1, (ze_r Mz (d_ + 1) 7).2⟩ (by decide) (zdal_p dlA_Sorts_numberSorts_47 (i := 0) rfl) (fun hc_93 => ?_) (fun hc_93 => ?_)
                      · skip
                        refine zw_aload_n (pc := 133) (n := 0) (x := (d_ + 12)) rfl (zdal_p dlA_Sorts_numberSorts_47 (i := 18) rfl) ?_
                        refine zw_dup (pc := 134) rfl (zdal_p dlA_Sorts_numberSorts_47 (i := 19) rfl) ?_
                        refine zk_getI (pc := 135) f_Sorts_83 rfl ((hf_N23_.w hW).kr (o := 12) (by decide)) (zdal_p dlA_Sorts_numberSorts_47 (i := 20) rfl) ?_
                        refine zw_iconst (pc := 138) (v := Int32.ofInt 1) (by decide) (zdal_p dlA_Sorts_numberSorts_47 (i := 21) rfl) ?_
                        refine zr_iadd (pc := 139) (zdal_p dlA_Sorts_numberSorts_47 (i := 22) rfl) ?_
                        refine zk_putR (pc := 140) (o := 12) (by decide) f_Sorts_83 rfl rfl ((hf_N23_.w hW).kr (o := 12) (by decide)) ⟨by (exact zo_74 i28_), by (exact zo_1410 i29_)⟩ rfl rfl (zdal_p dlA_Sorts_numberSorts_47 (i := 23) rfl) (fun N32_ hsN32_ hvN32_ => ?_)
                        have hf_N32_ : zFc d_ [] [] [(12, 7)] [16, 20] Mz N32_ := hf_N23_.tr hsN32_ (by decide) (by decide) (by decide) (by decide)
                        have hb0_N32_ : zFc d_ [] [] [(12, 7)] [16, 20] N4_ N32_ := hb0_N23_.tr hsN32_ (by decide) (by decide) (by decide) (by decide)
                        have eD1_7_N32_ : ze N32_ (d_ + 1) 7 = ze N23_ (d_ + 1) 7 := hsN32_.e (by decide)
                        have eD12_6_N32_ : ze N32_ (d_ + 12) 6 = ze N23_ (d_ + 12) 6 := hsN32_.e (by decide)
                        have rD12_7_N32_ := ze_r N32_ (d_ + 12) 7
                        have hnz_ := zNu_f p1_ hnw_ (by (exact zo_1405 hc_37 i14_)) (by (exact zo_1411 hc_93 hn24_ hsz_ i25_)) hgF_ hft_
                        have hq1_ : zRw d_ 16 N23_ = zRw d_ 16 N32_ := funext fun j => (hsN32_.r (by decide) j).symm
                        have hq2_ : zRw d_ 20 N23_ = zRw d_ 20 N32_ := funext fun j => (hsN32_.r (by decide) j).symm
                        rw [hq1_, hq2_, show ze N23_ (d_ + 12) 7 + 1 = ze N32_ (d_ + 12) 7 by (exact zo_1412 hvN32_)] at hnz_
                        have hnqz_ := hnr_
                        rw [hq1_, hq2_, show ze N23_ (d_ + 12) 7 + 1 = ze N32_ (d_ + 12) 7 by (exact zo_1412 hvN32_)] at hnqz_
                        refine zr_iinc (pc := 143) (i := 1) (a := u11_) (n := 1) (L2 := [some (.ref (d_ + 12)), some (.int (Int32.ofInt (u11_ + 1))), some (.int (Int32.ofInt u22_))]) rfl (by decide) rfl (zdal_p dlA_Sorts_numberSorts_48 (i := 0) rfl) ?_
                        refine zw_goto (pc := 146) (tgt := 32) (by decide) (zdal_p dlA_Sorts_numberSorts_48 (i := 1) rfl) ?_
                        refine zW_le [some (.ref (d_ + 12)), some (.int (Int32.ofInt (u11_ + 1))), none] (⟨rfl, rfl, trivial⟩) ?_
                        exact ih_32 (u11_ + 1) (by (exact zo_74 i14_)) (by (exact zo_1406 hc_37 hm35_)) N32_ hb0_N32_ (show 0 ≤ (u11_ + 1) by first | with_reducible assumption | (exact zo_76 i14_) | assumption) (show zNu T_ (zRw d_ 14 Mz) (ze Mz (d_ + 12) 6) (zRw d_ 16 N32_) (zRw d_ 20 N32_) (ze N32_ (d_ + 12) 7) (u11_ + 1) 0 by first | exact hnz_ | exact zNu_n p1_ hnu_ (by omega) (fun q_ => absurd (hnt_.mpr q_) (by omega))) (show zNq T_ (zRw d_ 14 Mz) (ze Mz (d_ + 12) 6) (zRw d_ 16 N32_) (zRw d_ 20 N32_) (ze N32_ (d_ + 12) 7) by first | exact hnqz_ | exact hnq_) (by (exact zo_147 hc_37 hlt_32))
                      · skip
                        refine zw_aload_n (pc := 96) (n := 0) (x := (d_ + 12)) rfl (zdal_p dlA_Sorts_numberSorts_47 (i := 1) rfl) ?_
                        refine zw_getF (pc := 97) f_Sorts_20 rfl ((hf_N23_.w hW).kr (o := 12) (by decide)) ((hf_N23_.w hW).lr (o := 12) (s := 2) (r := 15) (by decide)) (zdal_p dlA_Sorts_numberSorts_47 (i := 2) rfl) ?_
                        refine zw_aload_n (pc := 100) (n := 0) (x := (d_ + 12)) rfl (zdal_p dlA_Sorts_numberSorts_47 (i := 3) rfl) ?_
                        refine zw_aload_n (pc := 101) (n := 0) (x := (d_ + 12)) rfl (zdal_p dlA_Sorts_numberSorts_47 (i := 4) rfl) ?_
                        refine zw_getF (pc := 102) f_Sorts_32 rfl ((hf_N23_.w hW).kr (o := 12) (by decide)) ((hf_N23_.w hW).lr (o := 12) (s := 0) (r := 1) (by decide)) (zdal_p dlA_Sorts_numberSorts_47 (i := 5) rfl) ?_
                        refine zw_aload_n (pc := 105) (n := 0) (x := (d_ + 12)) rfl (zdal_p dlA_Sorts_numberSorts_47 (i := 6) rfl) ?_
                        refine zw_getF (pc := 106) f_Sorts_14 rfl ((hf_N23_.w hW).kr (o := 12) (by decide)) ((hf_N23_.w hW).lr (o := 12) (s := 1) (r := 13) (by decide)) (zdal_p dlA_Sorts_numberSorts_47 (i := 7) rfl) ?_
                        refine zw_iload_n (pc := 109) (n := 1) (x := Int32.ofInt u11_) rfl (zdal_p dlA_Sorts_numberSorts_47 (i := 8) rfl) ?_
                        refine zk_at hf_N23_.x (pc := 110) l_Sorts_49 ((hf_N23_.w hW).kr (o := 13) (by decide)) ((hf_N23_.w hW).lr (o := 13) (s := 0) (r := 14) (by decide)) ((hf_N23_.w hW).rr (o := 14) (t := 1) (n := 35) (by decide)) (by decide) (by (exact i14_)) (by (exact zo_1404 hc_37 hm35_)) (by decide) (Nat.le_of_ble_eq_true rfl) (zdal_p dlA_Sorts_numberSorts_47 (i := 9) rfl) (fun v34_ hv34_ hv34_a hv34_b => ?_)
                        rw [hf_N23_.r (by decide)] at hv34_
                        have hv3_ := hv34_
                        have hv4_ : v34_ = zRw d_ 14 Mz (u11_).toNat := hv3_
                        refine zw_iload_n (pc := 113) (n := 2) (x := Int32.ofInt u22_) rfl (zdal_p dlA_Sorts_numberSorts_47 (i := 10) rfl) ?_
                        refine zk_callV hf_N23_.x (pc := 114) [.int (Int32.ofInt v34_), .int (Int32.ofInt u22_)] [.ref (d_ + 12), .ref (d_ + 15)] l_Sorts_86 (u_Group_turnAll l d_ N23_ (hf_N23_.w hW) v34_ hv34_a hv34_b u22_ hu22_a hu22_b T_ hT_ c31_ (show 0 ≤ v34_ by rw [hv4_]; exact hfk_.1) (show (v34_).toNat < 2 ^ gN T_ by rw [hv4_]; exact hfb_.1) (show 0 ≤ u22_ by first | with_reducible assumption | assumption | omega) (show u22_ < gN T_ by first | with_reducible assumption | (exact zo_1413 hc_93 hsz_ hu22_b) | assumption)) rfl rfl ((hf_N23_.w hW).kr (o := 1) (by decide)) (by decide) (by decide) (Nat.le_of_ble_eq_true rfl) (zdal_p dlA_Sorts_numberSorts_47 (i := 11) rfl) ?_
                        rintro _ N35_ ⟨v36_, rfl, ⟨hv36_a, hv36_b⟩, hsN35_, ⟨hp0_N35_, hp1_N35_, hp2_N35_⟩⟩
                        obtain rfl := hsN35_.eq.symm
                        show zW l m_Sorts_numberSorts (zn Mz + 0, zw Mz + 0) N23_ 117 [some (.ref (d_ + 12)), some (.int (Int32.ofInt u11_)), some (.int (Int32.ofInt u22_))] [.int (Int32.ofInt v36_), .ref (d_ + 12), .ref (d_ + 15)] _
                        have ht1_ := hp0_N35_
                        rw [hv4_] at ht1_
                        have ho4_ := hol_.2.2.2.1 _ hgF_ (u22_).toNat (by (exact zo_1414 hc_93 hsz_ hu22_b i25_))
                        refine zk_callV hf_N23_.x (pc := 117) [.int (Int32.ofInt v36_)] [.ref (d_ + 15)] l_Sorts_72 (u_Sorts_indexOf l d_ N23_ (hf_N23_.w hW) v36_ hv36_a hv36_b (show 0 ≤ ze N23_ (d_ + 12) 6 by first | with_reducible assumption | (exact zo_1415 eD12_6_N12_ eD12_6_N1_ eD12_6_N20_ eD12_6_N23_ eD12_6_N4_ hm1_) | assumption) (show ze N23_ (d_ + 12) 6 ≤ 35 by first | with_reducible assumption | (exact zo_1416 eD12_6_N12_ eD12_6_N1_ eD12_6_N20_ eD12_6_N23_ eD12_6_N4_ hm35_) | assumption)) rfl rfl ((hf_N23_.w hW).kr (o := 12) (by decide)) (by decide) (by decide) (Nat.le_of_ble_eq_true rfl) (zdal_p dlA_Sorts_numberSorts_47 (i := 12) rfl) ?_
                        rintro _ N37_ ⟨v38_, rfl, ⟨hv38_a, hv38_b⟩, hsN37_, hp0_N37_⟩
                        obtain rfl := hsN37_.eq.symm
                        replace hp0_N37_ : ((v38_ = -1 ∧ (∀ i : Nat, (i : Int) < ze N23_ (d_ + 12) 6 → ze N23_ (d_ + 14) i ≠ v36_)) ∨ (0 ≤ v38_ ∧ v38_ < ze N23_ (d_ + 12) 6 ∧ ze N23_ (d_ + 14) (v38_).toNat = v36_)) := hp0_N37_
                        rcases hp0_N37_ with ⟨rfl, ha117_0_hp0_N37_⟩ | ⟨ha117_0_hp0_N37_, ha117_1_hp0_N37_, ha117_2_hp0_N37_⟩
                        · skip
                          have hr14_ := fun j : Nat => hf_N23_.r (o := 14) (by decide) j
                          exact absurd ho4_.1 (fun q_ => by obtain ⟨j_, hj1_, hj2_⟩ := hms_ _ q_; have hj3_ := (hmm_ j_ hj1_).1; exact ha117_0_hp0_N37_ j_ (by (exact zo_1417 eD12_6_N12_ eD12_6_N1_ eD12_6_N20_ eD12_6_N23_ eD12_6_N4_ hj1_)) (by rw [hr14_, ht1_, ← hj2_]; show ze Mz (d_ + 14) j_ = (((ze Mz (d_ + 14) j_).toNat : Nat) : Int); have hj4_ : 0 ≤ ze Mz (d_ + 14) j_ := hj3_; (exact zo_989 hj4_)))
                        · skip
                          have hr14_ := fun j : Nat => hf_N23_.r (o := 14) (by decide) j
                          have hx0_ := ha117_0_hp0_N37_
                          have hx1_ : v38_ < ze Mz (d_ + 12) 6 := by (exact zo_1418 eD12_6_N12_ eD12_6_N1_ eD12_6_N20_ eD12_6_N23_ eD12_6_N4_ ha117_1_hp0_N37_ hm1_ hv38_b)
                          have hx2_ := ha117_2_hp0_N37_
                          rw [hr14_] at hx2_
                          show zW l m_Sorts_numberSorts (zn Mz + 0, zw Mz + 0) N23_ 120 [some (.ref (d_ + 12)), some (.int (Int32.ofInt u11_)), some (.int (Int32.ofInt u22_))] [.int (Int32.ofInt v38_), .ref (d_ + 15)] _
                          refine zw_aload_n (pc := 120) (n := 0) (x := (d_ + 12)) rfl (zdal_p dlA_Sorts_numberSorts_47 (i := 13) rfl) ?_
                          refine zk_getI (pc := 121) f_Sorts_83 rfl ((hf_N23_.w hW).kr (o := 12) (by decide)) (zdal_p dlA_Sorts_numberSorts_47 (i := 14) rfl) ?_
                          refine zk_st hf_N23_.x (pc := 124) (o := 16) (by decide) l_Sorts_40 ((hf_N23_.w hW).kr (o := 15) (by decide)) ((hf_N23_.w hW).lr (o := 15) (s := 0) (r := 16) (by decide)) ((hf_N23_.w hW).rr (o := 16) (t := 1) (n := 35) (by decide)) (by decide) (by (exact ha117_0_hp0_N37_)) (by (exact zo_1419 hm35_ hv38_b hx1_)) (by decide) (Nat.le_of_ble_eq_true rfl) (zdal_p dlA_Sorts_numberSorts_47 (i := 15) rfl) (fun N39_ hN39_ hsN39_ => ?_)
                          have hf_N39_ : zFc d_ [] [] [(12, 7)] [16, 20] Mz N39_ := hf_N23_.tr hsN39_ (by decide) (by decide) (by decide) (by decide)
                          have hb0_N39_ : zFc d_ [] [] [(12, 7)] [16, 20] N4_ N39_ := hb0_N23_.tr hsN39_ (by decide) (by decide) (by decide) (by decide)
                          have hb1_N39_ : zFc d_ [] [] [] [16] N20_ N39_ := hs24_.tr hsN39_ (by decide) (by decide) (by decide) (by decide)
                          have eD1_7_N39_ : ze N39_ (d_ + 1) 7 = ze N23_ (d_ + 1) 7 := hsN39_.e (by decide)
                          have eD12_6_N39_ : ze N39_ (d_ + 12) 6 = ze N23_ (d_ + 12) 6 := hsN39_.e (by decide)
                          have eD12_7_N39_ : ze N39_ (d_ + 12) 7 = ze N23_ (d_ + 12) 7 := hsN39_.e (by decide)
                          have hw3_ := zRw_w hN39_ ⟨by (exact zo_168 i28_), by (exact zo_1420 i29_)⟩
                          have hnrn_ := zNq_g (k := u11_) (g := u22_) hnr_ (by (exact i28_)) hft_ (show (ze Mz (d_ + 14) _).toNat = _ by rw [hx2_, ht1_, Int.toNat_natCast]) (by (exact zo_1421 hc_93 hsz_ hu22_b i25_)) hw3_
                          have hng_ := zNu_g hn24_ p1_ hnw_ (by (exact zo_1405 hc_37 i14_)) (by (exact zo_1421 hc_93 hsz_ hu22_b i25_)) hgF_ (by (exact i28_)) hx0_ hx1_ (show (ze Mz (d_ + 14) _).toNat = _ by rw [hx2_, ht1_, Int.toNat_natCast]) hw3_
                          have he8_ : ze N39_ (d_ + 12) 7 = ze N23_ (d_ + 12) 7 := by (exact eD12_7_N39_)
                          have hq20_ : zRw d_ 20 N23_ = zRw d_ 20 N39_ := funext fun j => (hsN39_.r (by decide) j).symm
                          rw [← he8_, hq20_] at hng_
                          rw [← he8_, hq20_] at hft_
                          rw [← he8_, hq20_] at hnrn_
                          refine zr_iinc (pc := 127) (i := 2) (a := u22_) (n := 1) (L2 := [some (.ref (d_ + 12)), some (.int (Int32.ofInt u11_)), some (.int (Int32.ofInt (u22_ + 1)))]) rfl (by decide) rfl (zdal_p dlA_Sorts_numberSorts_47 (i := 16) rfl) ?_
                          refine zw_goto (pc := 130) (tgt := 85) (by decide) (zdal_p dlA_Sorts_numberSorts_47 (i := 17) rfl) ?_
                          exact ih_85 (u22_ + 1) (by (exact zo_74 i25_)) (by (exact zo_1422 hc_93 hn24_ hsz_ hu22_b)) N39_ hb1_N39_ (show 0 ≤ (u22_ + 1) by first | with_reducible assumption | (exact zo_76 i25_) | assumption) (show zNu T_ (zRw d_ 14 Mz) (ze Mz (d_ + 12) 6) (zRw d_ 16 N39_) (zRw d_ 20 N39_) (ze N39_ (d_ + 12) 7) u11_ (u22_ + 1) by exact hng_) (show zRw d_ 20 N39_ (ze N39_ (d_ + 12) 7).toNat = zRw d_ 14 Mz (u11_).toNat by exact hft_) (show 0 ≤ ze N39_ (d_ + 12) 7 by first | with_reducible assumption | (exact zo_720 eD12_7_N39_ i28_) | assumption) (show ze N39_ (d_ + 12) 7 ≤ 26 by first | with_reducible assumption | (exact zo_1423 eD12_7_N39_ i29_) | assumption) (show zNq T_ (zRw d_ 14 Mz) (ze Mz (d_ + 12) 6) (zRw d_ 16 N39_) (zRw d_ 20 N39_) (ze N39_ (d_ + 12) 7 + 1) by exact hnrn_) (by (exact zo_1424 hc_93 hlt_85 hsz_ hu22_b))
                  exact lp_85 _ 0 (by decide) (by decide) N20_ zFc.rf (show 0 ≤ (0 : Int) by first | with_reducible assumption | (decide) | assumption) (show zNu T_ (zRw d_ 14 Mz) (ze Mz (d_ + 12) 6) (zRw d_ 16 N20_) (zRw d_ 20 N20_) (ze N20_ (d_ + 12) 7) u11_ (0 : Int) by exact hnf_) (show zRw d_ 20 N20_ (ze N20_ (d_ + 12) 7).toNat = zRw d_ 14 Mz (u11_).toNat by exact hff_) (show 0 ≤ ze N20_ (d_ + 12) 7 by first | with_reducible assumption | (exact zo_720 eD12_7_N20_ hc0_) | assumption) (show ze N20_ (d_ + 12) 7 ≤ 26 by first | with_reducible assumption | (exact zo_1423 eD12_7_N20_ hr26_) | assumption) (show zNq T_ (zRw d_ 14 Mz) (ze Mz (d_ + 12) 6) (zRw d_ 16 N20_) (zRw d_ 20 N20_) (ze N20_ (d_ + 12) 7 + 1) by exact hnr0_) (Nat.lt_succ_self _)
                · skip
                  exfalso; have hr26_ := zNu_r p1_ hol_ hnu_ (by (exact zo_1405 hc_37 i14_)) hgF_; (exact zo_1425 hc_58 hr26_)
        exact lp_32 _ 0 (by decide) (by decide) N4_ zFc.rf (show 0 ≤ (0 : Int) by first | with_reducible assumption | (decide) | assumption) (show zNu T_ (zRw d_ 14 Mz) (ze Mz (d_ + 12) 6) (zRw d_ 16 N4_) (zRw d_ 20 N4_) (ze N4_ (d_ + 12) 7) (0 : Int) 0 by exact hnu0_) (show zNq T_ (zRw d_ 14 Mz) (ze Mz (d_ + 12) 6) (zRw d_ 16 N4_) (zRw d_ 20 N4_) (ze N4_ (d_ + 12) 7) by exact hnq0_) (Nat.lt_succ_self _)
      · skip
        refine zw_aload_n (pc := 15) (n := 0) (x := (d_ + 12)) rfl (zdal_p dlA_Sorts_numberSorts_45 (i := 9) rfl) ?_
        refine zw_getF (pc := 16) f_Sorts_20 rfl ((hf_N4_.w hW).kr (o := 12) (by decide)) ((hf_N4_.w hW).lr (o := 12) (s := 2) (r := 15) (by decide)) (zdal_p dlA_Sorts_numberSorts_45 (i := 10) rfl) ?_
        refine zw_iload_n (pc := 19) (n := 1) (x := Int32.ofInt u3_) rfl (zdal_p dlA_Sorts_numberSorts_45 (i := 11) rfl) ?_
        refine zw_iconst (pc := 20) (v := Int32.ofInt (-1)) (by decide) (zdal_p dlA_Sorts_numberSorts_45 (i := 12) rfl) ?_
        refine zk_st hf_N4_.x (pc := 21) (o := 16) (by decide) l_Sorts_40 ((hf_N4_.w hW).kr (o := 15) (by decide)) ((hf_N4_.w hW).lr (o := 15) (s := 0) (r := 16) (by decide)) ((hf_N4_.w hW).rr (o := 16) (t := 1) (n := 35) (by decide)) (by decide) (by (exact i6_)) (by (exact zo_1404 hc_12 hm35_)) (by decide) (Nat.le_of_ble_eq_true rfl) (zdal_p dlA_Sorts_numberSorts_45 (i := 13) rfl) (fun N41_ hN41_ hsN41_ => ?_)
        have hf_N41_ : zFc d_ [] [] [(12, 7)] [16, 20] Mz N41_ := hf_N4_.tr hsN41_ (by decide) (by decide) (by decide) (by decide)
        have hb0_N41_ : zFc d_ [] [] [] [16] N1_ N41_ := hs5_.tr hsN41_ (by decide) (by decide) (by decide) (by decide)
        have eD1_7_N41_ : ze N41_ (d_ + 1) 7 = ze N4_ (d_ + 1) 7 := hsN41_.e (by decide)
        have eD12_6_N41_ : ze N41_ (d_ + 12) 6 = ze N4_ (d_ + 12) 6 := hsN41_.e (by decide)
        have eD12_7_N41_ : ze N41_ (d_ + 12) 7 = ze N4_ (d_ + 12) 7 := hsN41_.e (by decide)
        have hw1_ := zRw_w hN41_ ⟨by (decide), by (decide)⟩
        have hqj_ : ∀ i : Nat, (i : Int) < u3_ + 1 → zRw d_ 16 N41_ i = -1 := fun i hi => by rw [hw1_]; by_cases g_ : i = (u3_).toNat; rw [g_, zst_t]; rw [zst_o g_]; exact hqi_ i (by (exact zo_565 hi i6_ g_))
        refine zr_iinc (pc := 24) (i := 1) (a := u3_) (n := 1) (L2 := [some (.ref (d_ + 12)), some (.int (Int32.ofInt (u3_ + 1))), none]) rfl (by decide) rfl (zdal_p dlA_Sorts_numberSorts_45 (i := 14) rfl) ?_
        refine zw_goto (pc := 27) (tgt := 7) (by decide) (zdal_p dlA_Sorts_numberSorts_45 (i := 15) rfl) ?_
        exact ih_7 (u3_ + 1) (by (exact zo_74 i6_)) (by (exact zo_1406 hc_12 hm35_)) N41_ hb0_N41_ (show 0 ≤ (u3_ + 1) by first | with_reducible assumption | (exact zo_76 i6_) | assumption) (show (u3_ + 1) ≤ ze Mz (d_ + 12) 6 by first | with_reducible assumption | assumption | omega) (show ze N41_ (d_ + 12) 7 = 0 by first | with_reducible assumption | (exact zo_610 eD12_7_N41_ i8_) | assumption) (show ∀ i : Nat, (i : Int) < (u3_ + 1) → zRw d_ 16 N41_ i = -1 by exact hqj_) (by (exact zo_147 hc_12 hlt_7))
  exact lp_7 _ 0 (by decide) (by decide) N1_ zFc.rf (show 0 ≤ (0 : Int) by first | with_reducible assumption | (decide) | assumption) (show (0 : Int) ≤ ze Mz (d_ + 12) 6 by first | with_reducible assumption | (exact zo_564 hm1_) | assumption) (show ze N1_ (d_ + 12) 7 = 0 by first | with_reducible assumption | assumption | omega) (show ∀ i : Nat, (i : Int) < (0 : Int) → zRw d_ 16 N1_ i = -1 by intro i hi; omega) (Nat.lt_succ_self _)
set_option maxHeartbeats 4000000 in
theorem u_Sorts_settleG (l : Launch) (d_ : Nat) (Mz : zMem) (hW : zKW d_ Mz) (T_ : zGT) (hT_ : T_ ∈ gTabs) (l_ : List Nat) (Kp_ : Nat) (hol_ : gOL T_ l_ Kp_ gKL) (hAs_ : gAs T_) (hGr_ : gGr T_) (p0_ : zTt T_ d_ Mz) : zC l m_Sorts_settle 0 0 [.ref (d_ + 12)] Mz (zqcV d_ [] [] [(12, 6), (12, 7)] [11, 14, 16, 20, 22] Mz (fun N => zKm (gF T_).length (gmkI T_) d_ N ∧ zTt T_ d_ N ∧ zFir T_ d_ N ∧ zSbK T_ d_ N)) := by
  refine zC_of (L0 := [some (.ref (d_ + 12)), none, none]) md_Sorts_settle (Nat.le_of_ble_eq_true rfl) rfl ?_ zQ0
  have hf : zFc d_ [] [] [(12, 6), (12, 7)] [11, 14, 16, 20, 22] Mz Mz := zFc.rf
  have r_D1_7 := ze_r Mz (d_ + 1) 7
  have r_D12_6 := ze_r Mz (d_ + 12) 6
  have r_D12_7 := ze_r Mz (d_ + 12) 7
  have hO_ := gTabs_ok T_ hT_
  have hG_ := hO_.1
  have hn24_ := hG_.2.1
  have hn1_ := hG_.1
  have hsz_ := p0_.1
  refine zw_aload_n (pc := 0) (n := 0) (x := (d_ + 12)) rfl (zdal_p dlA_Sorts_settle_32 (i := 0) rfl) ?_
  refine zw_iconst (pc := 1) (v := Int32.ofInt 1) (by decide) (zdal_p dlA_Sorts_settle_32 (i := 1) rfl) ?_
  refine zk_putR (pc := 2) (o := 12) (by decide) f_Sorts_36 rfl rfl ((hf.w hW).kr (o := 12) (by decide)) ⟨by (decide), by (decide)⟩ rfl rfl (zdal_p dlA_Sorts_settle_32 (i := 2) rfl) (fun N1_ hsN1_ hvN1_ => ?_)
  have hf_N1_ : zFc d_ [] [] [(12, 6), (12, 7)] [11, 14, 16, 20, 22] Mz N1_ := hf.tr hsN1_ (by decide) (by decide) (by decide) (by decide)
  have eD1_7_N1_ : ze N1_ (d_ + 1) 7 = ze Mz (d_ + 1) 7 := hsN1_.e (by decide)
  have rD12_6_N1_ := ze_r N1_ (d_ + 12) 6
  have eD12_7_N1_ : ze N1_ (d_ + 12) 7 = ze Mz (d_ + 12) 7 := hsN1_.e (by decide)
  have c2_ : zTt T_ d_ N1_ := zTt.fr (hf.w hW) hsN1_ p0_ (by decide)
  refine zw_aload_n (pc := 5) (n := 0) (x := (d_ + 12)) rfl (zdal_p dlA_Sorts_settle_32 (i := 3) rfl) ?_
  refine zw_getF (pc := 6) f_Sorts_14 rfl ((hf_N1_.w hW).kr (o := 12) (by decide)) ((hf_N1_.w hW).lr (o := 12) (s := 1) (r := 13) (by decide)) (zdal_p dlA_Sorts_settle_32 (i := 4) rfl) ?_
  refine zw_iconst (pc := 9) (v := Int32.ofInt 0) (by decide) (zdal_p dlA_Sorts_settle_32 (i := 5) rfl) ?_
  refine zw_iconst (pc := 10) (v := Int32.ofInt 1) (by decide) (zdal_p dlA_Sorts_settle_32 (i := 6) rfl) ?_
  refine zk_st hf_N1_.x (pc := 11) (o := 14) (by decide) l_Sorts_40 ((hf_N1_.w hW).kr (o := 13) (by decide)) ((hf_N1_.w hW).lr (o := 13) (s := 0) (r := 14) (by decide)) ((hf_N1_.w hW).rr (o := 14) (t := 1) (n := 35) (by decide)) (by decide) (by (decide)) (by (decide)) (by decide) (Nat.le_of_ble_eq_true rfl) (zdal_p dlA_Sorts_settle_32 (i := 7) rfl) (fun N3_ hN3_ hsN3_ => ?_)
  have hf_N3_ : zFc d_ [] [] [(12, 6), (12, 7)] [11, 14, 16, 20, 22] Mz N3_ := hf_N1_.tr hsN3_ (by decide) (by decide) (by decide) (by decide)
  have eD1_7_N3_ : ze N3_ (d_ + 1) 7 = ze N1_ (d_ + 1) 7 := hsN3_.e (by decide)
  have eD12_6_N3_ : ze N3_ (d_ + 12) 6 = ze N1_ (d_ + 12) 6 := hsN3_.e (by decide)
  have eD12_7_N3_ : ze N3_ (d_ + 12) 7 = ze N1_ (d_ + 12) 7 := hsN3_.e (by decide)
  have c4_ : zTt T_ d_ N3_ := zTt.fr (hf_N1_.w hW) hsN3_ c2_ (by decide)
  have hw_ := zs_get hN3_ ⟨by (decide), by (decide)⟩
  obtain ⟨hj0_, hx0_⟩ := zJk_0 (f := zRw d_ 14 N3_) hO_ hw_
  refine zw_iconst (pc := 14) (v := Int32.ofInt 0) (by decide) (zdal_p dlA_Sorts_settle_32 (i := 8) rfl) ?_
  refine zw_istore_n (pc := 15) (i := 1) (L2 := [some (.ref (d_ + 12)), some (.int (Int32.ofInt 0)), none]) rfl (by decide) rfl (zdal_p dlA_Sorts_settle_32 (i := 9) rfl) ?_
  have lp_16 : ∀ (n : Nat) (u5_ : Int) (hu5_a : -2147483648 ≤ u5_) (hu5_b : u5_ < 2147483648) (N6_ : zMem) (hs7_ : zFc d_ [] [] [(12, 6)] [11, 14] N3_ N6_) (i8_ : 0 ≤ u5_) (i9_ : zJk T_ (zRw d_ 14 N6_) (ze N6_ (d_ + 12) 6)) (i10_ : zXk T_ (zRw d_ 14 N6_) (ze N6_ (d_ + 12) 6) u5_ 0) (i11_ : zTt T_ d_ N6_), (36 - u5_).toNat < n → zW l m_Sorts_settle (zn Mz + 0, zw Mz + 0) N6_ 16 [some (.ref (d_ + 12)), some (.int (Int32.ofInt u5_)), none] [] (zqcV d_ [] [] [(12, 6), (12, 7)] [11, 14, 16, 20, 22] Mz (fun N => zKm (gF T_).length (gmkI T_) d_ N ∧ zTt T_ d_ N ∧ zFir T_ d_ N ∧ zSbK T_ d_ N)) := by
    intro n
    induction n with
    | zero =>
      intro u5_ hu5_a hu5_b N6_ hs7_ i8_ i9_ i10_ i11_ h0
      exact absurd h0 (Nat.not_lt_zero _)
    | succ n ih_16 =>
      intro u5_ hu5_a hu5_b N6_ hs7_ i8_ i9_ i10_ i11_ hlt_16
      have hf_N6_ : zFc d_ [] [] [(12, 6), (12, 7)] [11, 14, 16, 20, 22] Mz N6_ := hf_N3_.tr hs7_ (by decide) (by decide) (by decide) (by decide)
      have eD1_7_N6_ : ze N6_ (d_ + 1) 7 = ze N3_ (d_ + 1) 7 := hs7_.e (by decide)
      have rD12_6_N6_ := ze_r N6_ (d_ + 12) 6
      have eD12_7_N6_ : ze N6_ (d_ + 12) 7 = ze N3_ (d_ + 12) 7 := hs7_.e (by decide)
      have hj_ := (show zJk T_ (zRw d_ 14 N6_) (ze N6_ (d_ + 12) 6) by first | with_reducible assumption | assumption)
      have hx_ := (show zXk T_ (zRw d_ 14 N6_) (ze N6_ (d_ + 12) 6) u5_ 0 by first | with_reducible assumption | assumption)
      have hjm_ := hj_.1
      refine zw_iload_n (pc := 16) (n := 1) (x := Int32.ofInt u5_) rfl (zdal_p dlA_Sorts_settle_32 (i := 10) rfl) ?_
      refine zw_aload_n (pc := 17) (n := 0) (x := (d_ + 12)) rfl (zdal_p dlA_Sorts_settle_32 (i := 11) rfl) ?_
      refine zk_getI (pc := 18) f_Sorts_36 rfl ((hf_N6_.w hW).kr (o := 12) (by decide)) (zdal_p dlA_Sorts_settle_32 (i := 12) rfl) ?_
      refine zr_icmp_ge (pc := 21) (tgt := 93) ⟨hu5_a, hu5_b⟩ ⟨(ze_r N6_ (d_ + 12) 6).1, (ze_r N6_ (d_ + 12) 6).2⟩ (by decide) (zdal_p dlA_Sorts_settle_32 (i := 13) rfl) (fun hc_21 => ?_) (fun hc_21 => ?_)
      · skip
        have hce_ := zJk_e hO_ hj_ hx_ (by (exact hc_21))
        refine zw_aload_n (pc := 93) (n := 0) (x := (d_ + 12)) rfl (zdal_p dlA_Sorts_settle_34 (i := 0) rfl) ?_
        refine zk_callV hf_N6_.x (pc := 94) [] [] l_Sorts_63 (u_Sorts_arrange l d_ N6_ (hf_N6_.w hW) (show 1 ≤ ze N6_ (d_ + 12) 6 by first | with_reducible assumption | (exact zo_694 hjm_.1) | assumption) (show ze N6_ (d_ + 12) 6 ≤ 35 by first | with_reducible assumption | (exact zo_1426 hjm_.2) | assumption) (show zSoK zkyK (zRw d_ 14 N6_) (zRw d_ 14 N6_) (ze N6_ (d_ + 12) 6).toNat 1 by exact zJk_s hO_ hj_) (show (∀ k : Nat, (k : Int) < ze N6_ (d_ + 12) 6 → (0 ≤ ze N6_ (d_ + 14) k ∧ ze N6_ (d_ + 14) k < 16777216) ∧ kbc (ze N6_ (d_ + 14) k).toNat = gcb (ze N6_ (d_ + 14) k).toNat) by intro k_ hk_; have hq_ := hj_.2.2.1 k_ hk_; have hb_ := gS_b hO_ hq_.2; exact ⟨⟨hq_.1, by have h1_ := hq_.1; have h2_ := hb_.2.1; unfold zRw at h1_ h2_; omega⟩, hol_.2.2.2.2.2.2.2.2.2 _ hq_.2⟩)) rfl rfl ((hf_N6_.w hW).kr (o := 12) (by decide)) (by decide) (by decide) (Nat.le_of_ble_eq_true rfl) (zdal_p dlA_Sorts_settle_34 (i := 1) rfl) ?_
        rintro _ N12_ ⟨rfl, hsN12_, hp0_N12_⟩
        replace hp0_N12_ : (∃ i : Nat, (ze N6_ (d_ + 12) 6).toNat ≤ i ∧ zSoK zkyK (zRw d_ 14 N6_) (zRw d_ 14 N12_) (ze N6_ (d_ + 12) 6).toNat i) := hp0_N12_
        have hf_N12_ : zFc d_ [] [] [(12, 6), (12, 7)] [11, 14, 16, 20, 22] Mz N12_ := hf_N6_.tr hsN12_ (by decide) (by decide) (by decide) (by decide)
        have eD1_7_N12_ : ze N12_ (d_ + 1) 7 = ze N6_ (d_ + 1) 7 := hsN12_.e (by decide)
        have eD12_6_N12_ : ze N12_ (d_ + 12) 6 = ze N6_ (d_ + 12) 6 := hsN12_.e (by decide)
        have eD12_7_N12_ : ze N12_ (d_ + 12) 7 = ze N6_ (d_ + 12) 7 := hsN12_.e (by decide)
        have c14_ : zTt T_ d_ N12_ := zTt.fr (hf_N6_.w hW) hsN12_ i11_ (by decide)
        show zW l m_Sorts_settle (zn Mz + 0, zw Mz + 0) N12_ 97 [some (.ref (d_ + 12)), some (.int (Int32.ofInt u5_)), none] [] _
        obtain ⟨i_, hi1_, hi2_⟩ := hp0_N12_
        have hls_ := zLs_i hj_ hce_ hi2_ hi1_
        have hm7_ : ze N12_ (d_ + 12) 6 = ze N6_ (d_ + 12) 6 := by (exact eD12_6_N12_)
        rw [← hm7_] at hls_
        refine zw_aload_n (pc := 97) (n := 0) (x := (d_ + 12)) rfl (zdal_p dlA_Sorts_settle_34 (i := 2) rfl) ?_
        refine zk_callV hf_N12_.x (pc := 98) [] [] l_Sorts_66 (u_Sorts_numberSortsG l d_ N12_ (hf_N12_.w hW) T_ hT_ l_ Kp_ hol_ hGr_ c14_ (show zLs T_ (zRw d_ 14 N12_) (ze N12_ (d_ + 12) 6) by exact hls_)) rfl rfl ((hf_N12_.w hW).kr (o := 12) (by decide)) (by decide) (by decide) (Nat.le_of_ble_eq_true rfl) (zdal_p dlA_Sorts_settle_34 (i := 3) rfl) ?_
        rintro _ N15_ ⟨rfl, hsN15_, ⟨hp0_N15_, hp1_N15_⟩⟩
        have hf_N15_ : zFc d_ [] [] [(12, 6), (12, 7)] [11, 14, 16, 20, 22] Mz N15_ := hf_N12_.tr hsN15_ (by decide) (by decide) (by decide) (by decide)
        have eD1_7_N15_ : ze N15_ (d_ + 1) 7 = ze N12_ (d_ + 1) 7 := hsN15_.e (by decide)
        have eD12_6_N15_ : ze N15_ (d_ + 12) 6 = ze N12_ (d_ + 12) 6 := hsN15_.e (by decide)
        have rD12_7_N15_ := ze_r N15_ (d_ + 12) 7
        have c17_ : zTt T_ d_ N15_ := zTt.fr (hf_N12_.w hW) hsN15_ c14_ (by decide)
        show zW l m_Sorts_settle (zn Mz + 0, zw Mz + 0) N15_ 101 [some (.ref (d_ + 12)), some (.int (Int32.ofInt u5_)), none] [] _
        have hfi_ := hp0_N15_
        have hsb_ := zSbK_m hls_ (show ze N15_ (d_ + 12) 6 = ze N12_ (d_ + 12) 6 by (exact eD12_6_N15_)) (fun j => hsN15_.r (by decide) j) hp1_N15_
        refine zw_aload_n (pc := 101) (n := 0) (x := (d_ + 12)) rfl (zdal_p dlA_Sorts_settle_34 (i := 4) rfl) ?_
        refine zk_callV hf_N15_.x (pc := 102) [] [] l_Sorts_69 (u_Sorts_fillTable l d_ N15_ (hf_N15_.w hW) T_ hT_ l_ Kp_ hol_ c17_ hfi_) rfl rfl ((hf_N15_.w hW).kr (o := 12) (by decide)) (by decide) (by decide) (Nat.le_of_ble_eq_true rfl) (zdal_p dlA_Sorts_settle_34 (i := 5) rfl) ?_
        rintro _ N18_ ⟨rfl, hsN18_, hp0_N18_⟩
        replace hp0_N18_ : zKm (gF T_).length (gmkI T_) d_ N18_ := hp0_N18_
        have hf_N18_ : zFc d_ [] [] [(12, 6), (12, 7)] [11, 14, 16, 20, 22] Mz N18_ := hf_N15_.tr hsN18_ (by decide) (by decide) (by decide) (by decide)
        have eD1_7_N18_ : ze N18_ (d_ + 1) 7 = ze N15_ (d_ + 1) 7 := hsN18_.e (by decide)
        have eD12_6_N18_ : ze N18_ (d_ + 12) 6 = ze N15_ (d_ + 12) 6 := hsN18_.e (by decide)
        have eD12_7_N18_ : ze N18_ (d_ + 12) 7 = ze N15_ (d_ + 12) 7 := hsN18_.e (by decide)
        have c20_ : zTt T_ d_ N18_ := zTt.fr (hf_N15_.w hW) hsN18_ c17_ (by decide)
        have c21_ : zFir T_ d_ N18_ := zFir.fr (hf_N15_.w hW) hsN18_ hfi_ (by decide)
        have c22_ : zSbK T_ d_ N18_ := zSbK.fr (hf_N15_.w hW) hsN18_ hsb_ (by decide)
        show zW l m_Sorts_settle (zn Mz + 0, zw Mz + 0) N18_ 105 [some (.ref (d_ + 12)), some (.int (Int32.ofInt u5_)), none] [] _
        exact zk_vret (pc := 105) rfl hf_N18_ ⟨(show zKm (gF T_).length (gmkI T_) d_ N18_ by first | with_reducible assumption | assumption | omega), c20_, c21_, c22_⟩ (zdal_p dlA_Sorts_settle_34 (i := 6) rfl)
      · skip
        refine zw_iload_n (pc := 24) (n := 1) (x := Int32.ofInt u5_) rfl (zdal_p dlA_Sorts_settle_32 (i := 14) rfl) ?_
        refine zw_bipush (pc := 25) (v := Int32.ofInt 35) (by decide) (zdal_p dlA_Sorts_settle_32 (i := 15) rfl) ?_
        refine zr_icmp_ge (pc := 27) (tgt := 93) ⟨hu5_a, hu5_b⟩ ⟨(by decide), (by decide)⟩ (by decide) (zdal_p dlA_Sorts_settle_32 (i := 16) rfl) (fun hc_27 => ?_) (fun hc_27 => ?_)
        · skip
          have hce_ := zJk_e hO_ hj_ hx_ (by (exact zo_1427 hc_27 hjm_.2))
          refine zw_aload_n (pc := 93) (n := 0) (x := (d_ + 12)) rfl (zdal_p dlA_Sorts_settle_34 (i := 0) rfl) ?_
          refine zk_callV hf_N6_.x (pc := 94) [] [] l_Sorts_63 (u_Sorts_arrange l d_ N6_ (hf_N6_.w hW) (show 1 ≤ ze N6_ (d_ + 12) 6 by first | with_reducible assumption | (exact zo_694 hjm_.1) | assumption) (show ze N6_ (d_ + 12) 6 ≤ 35 by first | with_reducible assumption | (exact zo_1426 hjm_.2) | assumption) (show zSoK zkyK (zRw d_ 14 N6_) (zRw d_ 14 N6_) (ze N6_ (d_ + 12) 6).toNat 1 by exact zJk_s hO_ hj_) (show (∀ k : Nat, (k : Int) < ze N6_ (d_ + 12) 6 → (0 ≤ ze N6_ (d_ + 14) k ∧ ze N6_ (d_ + 14) k < 16777216) ∧ kbc (ze N6_ (d_ + 14) k).toNat = gcb (ze N6_ (d_ + 14) k).toNat) by intro k_ hk_; have hq_ := hj_.2.2.1 k_ hk_; have hb_ := gS_b hO_ hq_.2; exact ⟨⟨hq_.1, by have h1_ := hq_.1; have h2_ := hb_.2.1; unfold zRw at h1_ h2_; omega⟩, hol_.2.2.2.2.2.2.2.2.2 _ hq_.2⟩)) rfl rfl ((hf_N6_.w hW).kr (o := 12) (by decide)) (by decide) (by decide) (Nat.le_of_ble_eq_true rfl) (zdal_p dlA_Sorts_settle_34 (i := 1) rfl) ?_
          rintro _ N23_ ⟨rfl, hsN23_, hp0_N23_⟩
          replace hp0_N23_ : (∃ i : Nat, (ze N6_ (d_ + 12) 6).toNat ≤ i ∧ zSoK zkyK (zRw d_ 14 N6_) (zRw d_ 14 N23_) (ze N6_ (d_ + 12) 6).toNat i) := hp0_N23_
          have hf_N23_ : zFc d_ [] [] [(12, 6), (12, 7)] [11, 14, 16, 20, 22] Mz N23_ := hf_N6_.tr hsN23_ (by decide) (by decide) (by decide) (by decide)
          have eD1_7_N23_ : ze N23_ (d_ + 1) 7 = ze N6_ (d_ + 1) 7 := hsN23_.e (by decide)
          have eD12_6_N23_ : ze N23_ (d_ + 12) 6 = ze N6_ (d_ + 12) 6 := hsN23_.e (by decide)
          have eD12_7_N23_ : ze N23_ (d_ + 12) 7 = ze N6_ (d_ + 12) 7 := hsN23_.e (by decide)
          have c25_ : zTt T_ d_ N23_ := zTt.fr (hf_N6_.w hW) hsN23_ i11_ (by decide)
          show zW l m_Sorts_settle (zn Mz + 0, zw Mz + 0) N23_ 97 [some (.ref (d_ + 12)), some (.int (Int32.ofInt u5_)), none] [] _
          obtain ⟨i_, hi1_, hi2_⟩ := hp0_N23_
          have hls_ := zLs_i hj_ hce_ hi2_ hi1_
          have hm7_ : ze N23_ (d_ + 12) 6 = ze N6_ (d_ + 12) 6 := by (exact eD12_6_N23_)
          rw [← hm7_] at hls_
          refine zw_aload_n (pc := 97) (n := 0) (x := (d_ + 12)) rfl (zdal_p dlA_Sorts_settle_34 (i := 2) rfl) ?_
          refine zk_callV hf_N23_.x (pc := 98) [] [] l_Sorts_66 (u_Sorts_numberSortsG l d_ N23_ (hf_N23_.w hW) T_ hT_ l_ Kp_ hol_ hGr_ c25_ (show zLs T_ (zRw d_ 14 N23_) (ze N23_ (d_ + 12) 6) by exact hls_)) rfl rfl ((hf_N23_.w hW).kr (o := 12) (by decide)) (by decide) (by decide) (Nat.le_of_ble_eq_true rfl) (zdal_p dlA_Sorts_settle_34 (i := 3) rfl) ?_
          rintro _ N26_ ⟨rfl, hsN26_, ⟨hp0_N26_, hp1_N26_⟩⟩
          have hf_N26_ : zFc d_ [] [] [(12, 6), (12, 7)] [11, 14, 16, 20, 22] Mz N26_ := hf_N23_.tr hsN26_ (by decide) (by decide) (by decide) (by decide)
          have eD1_7_N26_ : ze N26_ (d_ + 1) 7 = ze N23_ (d_ + 1) 7 := hsN26_.e (by decide)
          have eD12_6_N26_ : ze N26_ (d_ + 12) 6 = ze N23_ (d_ + 12) 6 := hsN26_.e (by decide)
          have rD12_7_N26_ := ze_r N26_ (d_ + 12) 7
          have c28_ : zTt T_ d_ N26_ := zTt.fr (hf_N23_.w hW) hsN26_ c25_ (by decide)
          show zW l m_Sorts_settle (zn Mz + 0, zw Mz + 0) N26_ 101 [some (.ref (d_ + 12)), some (.int (Int32.ofInt u5_)), none] [] _
          have hfi_ := hp0_N26_
          have hsb_ := zSbK_m hls_ (show ze N26_ (d_ + 12) 6 = ze N23_ (d_ + 12) 6 by (exact eD12_6_N26_)) (fun j => hsN26_.r (by decide) j) hp1_N26_
          refine zw_aload_n (pc := 101) (n := 0) (x := (d_ + 12)) rfl (zdal_p dlA_Sorts_settle_34 (i := 4) rfl) ?_
          refine zk_callV hf_N26_.x (pc := 102) [] [] l_Sorts_69 (u_Sorts_fillTable l d_ N26_ (hf_N26_.w hW) T_ hT_ l_ Kp_ hol_ c28_ hfi_) rfl rfl ((hf_N26_.w hW).kr (o := 12) (by decide)) (by decide) (by decide) (Nat.le_of_ble_eq_true rfl) (zdal_p dlA_Sorts_settle_34 (i := 5) rfl) ?_
          rintro _ N29_ ⟨rfl, hsN29_, hp0_N29_⟩
          replace hp0_N29_ : zKm (gF T_).length (gmkI T_) d_ N29_ := hp0_N29_
          have hf_N29_ : zFc d_ [] [] [(12, 6), (12, 7)] [11, 14, 16, 20, 22] Mz N29_ := hf_N26_.tr hsN29_ (by decide) (by decide) (by decide) (by decide)
          have eD1_7_N29_ : ze N29_ (d_ + 1) 7 = ze N26_ (d_ + 1) 7 := hsN29_.e (by decide)
          have eD12_6_N29_ : ze N29_ (d_ + 12) 6 = ze N26_ (d_ + 12) 6 := hsN29_.e (by decide)
          have eD12_7_N29_ : ze N29_ (d_ + 12) 7 = ze N26_ (d_ + 12) 7 := hsN29_.e (by decide)
          have c31_ : zTt T_ d_ N29_ := zTt.fr (hf_N26_.w hW) hsN29_ c28_ (by decide)
          have c32_ : zFir T_ d_ N29_ := zFir.fr (hf_N26_.w hW) hsN29_ hfi_ (by decide)
          have c33_ : zSbK T_ d_ N29_ := zSbK.fr (hf_N26_.w hW) hsN29_ hsb_ (by decide)
          show zW l m_Sorts_settle (zn Mz + 0, zw Mz + 0) N29_ 105 [some (.ref (d_ + 12)), some (.int (Int32.ofInt u5_)), none] [] _
          exact zk_vret (pc := 105) rfl hf_N29_ ⟨(show zKm (gF T_).length (gmkI T_) d_ N29_ by first | with_reducible assumption | assumption | omega), c31_, c32_, c33_⟩ (zdal_p dlA_Sorts_settle_34 (i := 6) rfl)
        · skip
          refine zw_iconst (pc := 30) (v := Int32.ofInt 0) (by decide) (zdal_p dlA_Sorts_settle_32 (i := 17) rfl) ?_
          refine zw_istore_n (pc := 31) (i := 2) (L2 := [some (.ref (d_ + 12)), some (.int (Int32.ofInt u5_)), some (.int (Int32.ofInt 0))]) rfl (by decide) rfl (zdal_p dlA_Sorts_settle_32 (i := 18) rfl) ?_
          have lp_32 : ∀ (n : Nat) (u34_ : Int) (hu34_a : -2147483648 ≤ u34_) (hu34_b : u34_ < 2147483648) (N35_ : zMem) (hs36_ : zFc d_ [] [] [(12, 6)] [11, 14] N6_ N35_) (i37_ : 0 ≤ u34_) (i38_ : u5_ < (ze N35_ (d_ + 12) 6)) (i39_ : zJk T_ (zRw d_ 14 N35_) (ze N35_ (d_ + 12) 6)) (i40_ : zXk T_ (zRw d_ 14 N35_) (ze N35_ (d_ + 12) 6) u5_ u34_) (i41_ : zTt T_ d_ N35_), (gN T_ - u34_).toNat < n → zW l m_Sorts_settle (zn Mz + 0, zw Mz + 0) N35_ 32 [some (.ref (d_ + 12)), some (.int (Int32.ofInt u5_)), some (.int (Int32.ofInt u34_))] [] (zqcV d_ [] [] [(12, 6), (12, 7)] [11, 14, 16, 20, 22] Mz (fun N => zKm (gF T_).length (gmkI T_) d_ N ∧ zTt T_ d_ N ∧ zFir T_ d_ N ∧ zSbK T_ d_ N)) := by
            intro n
            induction n with
            | zero =>
              intro u34_ hu34_a hu34_b N35_ hs36_ i37_ i38_ i39_ i40_ i41_ h0
              exact absurd h0 (Nat.not_lt_zero _)
            | succ n ih_32 =>
              intro u34_ hu34_a hu34_b N35_ hs36_ i37_ i38_ i39_ i40_ i41_ hlt_32
              have hf_N35_ : zFc d_ [] [] [(12, 6), (12, 7)] [11, 14, 16, 20, 22] Mz N35_ := hf_N6_.tr hs36_ (by decide) (by decide) (by decide) (by decide)
              have hb0_N35_ : zFc d_ [] [] [(12, 6)] [11, 14] N3_ N35_ := hs7_.tr hs36_ (by decide) (by decide) (by decide) (by decide)
              have eD1_7_N35_ : ze N35_ (d_ + 1) 7 = ze N6_ (d_ + 1) 7 := hs36_.e (by decide)
              have rD12_6_N35_ := ze_r N35_ (d_ + 12) 6
              have eD12_7_N35_ : ze N35_ (d_ + 12) 7 = ze N6_ (d_ + 12) 7 := hs36_.e (by decide)
              have hj2_ := (show zJk T_ (zRw d_ 14 N35_) (ze N35_ (d_ + 12) 6) by first | with_reducible assumption | assumption)
              have hx2_ := (show zXk T_ (zRw d_ 14 N35_) (ze N35_ (d_ + 12) 6) u5_ u34_ by first | with_reducible assumption | assumption)
              have hjn_ := hj2_.1
              have hst_ := i41_.1
              refine zw_iload_n (pc := 32) (n := 2) (x := Int32.ofInt u34_) rfl (zdal_p dlA_Sorts_settle_32 (i := 19) rfl) ?_
              refine zw_aload_n (pc := 33) (n := 0) (x := (d_ + 12)) rfl (zdal_p dlA_Sorts_settle_32 (i := 20) rfl) ?_
              refine zw_getF (pc := 34) f_Sorts_32 rfl ((hf_N35_.w hW).kr (o := 12) (by decide)) ((hf_N35_.w hW).lr (o := 12) (s := 0) (r := 1) (by decide)) (zdal_p dlA_Sorts_settle_32 (i := 21) rfl) ?_
              refine zk_getI (pc := 37) f_Sorts_44 rfl ((hf_N35_.w hW).kr (o := 1) (by decide)) (zdal_p dlA_Sorts_settle_32 (i := 22) rfl) ?_
              rw [hf_N35_.e (by decide)]
              refine zr_icmp_ge (pc := 40) (tgt := 87) ⟨hu34_a, hu34_b⟩ ⟨(ze_r Mz (d_ + 1) 7).1, (ze_r Mz (d_ + 1) 7).2⟩ (by decide) (zdal_p dlA_Sorts_settle_32 (i := 23) rfl) (fun hc_40 => ?_) (fun hc_40 => ?_)
              · skip
                refine zr_iinc (pc := 87) (i := 1) (a := u5_) (n := 1) (L2 := [some (.ref (d_ + 12)), some (.int (Int32.ofInt (u5_ + 1))), some (.int (Int32.ofInt u34_))]) rfl (by decide) rfl (zdal_p dlA_Sorts_settle_33 (i := 22) rfl) ?_
                refine zw_goto (pc := 90) (tgt := 16) (by decide) (zdal_p dlA_Sorts_settle_33 (i := 23) rfl) ?_
                refine zW_le [some (.ref (d_ + 12)), some (.int (Int32.ofInt (u5_ + 1))), none] (⟨rfl, rfl, trivial⟩) ?_
                exact ih_16 (u5_ + 1) (by (exact zo_74 i8_)) (by (exact zo_1428 hc_27)) N35_ hb0_N35_ (show 0 ≤ (u5_ + 1) by first | with_reducible assumption | (exact zo_76 i8_) | assumption) (show zJk T_ (zRw d_ 14 N35_) (ze N35_ (d_ + 12) 6) by exact hj2_) (show zXk T_ (zRw d_ 14 N35_) (ze N35_ (d_ + 12) 6) (u5_ + 1) 0 by exact zXk_n hx2_ (by (exact zo_1411 hc_40 hn24_ hsz_ i37_))) i41_ (by (exact zo_1429 hc_27 hlt_16 i8_))
              · skip
                refine zw_aload_n (pc := 43) (n := 0) (x := (d_ + 12)) rfl (zdal_p dlA_Sorts_settle_33 (i := 0) rfl) ?_
                refine zw_getF (pc := 44) f_Sorts_14 rfl ((hf_N35_.w hW).kr (o := 12) (by decide)) ((hf_N35_.w hW).lr (o := 12) (s := 1) (r := 13) (by decide)) (zdal_p dlA_Sorts_settle_33 (i := 1) rfl) ?_
                refine zw_iload_n (pc := 47) (n := 1) (x := Int32.ofInt u5_) rfl (zdal_p dlA_Sorts_settle_33 (i := 2) rfl) ?_
                refine zk_at hf_N35_.x (pc := 48) l_Sorts_49 ((hf_N35_.w hW).kr (o := 13) (by decide)) ((hf_N35_.w hW).lr (o := 13) (s := 0) (r := 14) (by decide)) ((hf_N35_.w hW).rr (o := 14) (t := 1) (n := 35) (by decide)) (by decide) (by (exact i8_)) (by (exact zo_1430 hc_27)) (by decide) (Nat.le_of_ble_eq_true rfl) (zdal_p dlA_Sorts_settle_33 (i := 3) rfl) (fun v42_ hv42_ hv42_a hv42_b => ?_)
                have hv_ := hv42_
                have hm_ := hj2_.2.2.1 (u5_).toNat (by (exact zo_1431 hc_27 hjn_.1 i38_ i8_))
                rw [show zRw d_ 14 N35_ (u5_).toNat = v42_ from hv_.symm] at hm_
                have hgb_ := gS_b hO_ hm_.2
                refine zw_iload_n (pc := 51) (n := 2) (x := Int32.ofInt u34_) rfl (zdal_p dlA_Sorts_settle_33 (i := 4) rfl) ?_
                refine zr_callS hf_N35_.x (pc := 52) [.int (Int32.ofInt v42_), .int (Int32.ofInt u34_)] [] l_Sorts_53 (u_T_isIn l d_ N35_ (hf_N35_.w hW) v42_ hv42_a hv42_b u34_ hu34_a hu34_b (show 0 ≤ v42_ by first | with_reducible assumption | (exact zo_57 hm_.1) | assumption) (show v42_ < 2147483648 by first | with_reducible assumption | assumption | omega) (show 0 ≤ u34_ by first | with_reducible assumption | assumption | omega) (show u34_ < 31 by first | with_reducible assumption | (exact zo_1432 hc_40 hn24_ hsz_ hu34_b) | assumption)) rfl rfl (by decide) (Nat.le_of_ble_eq_true rfl) (zdal_p dlA_Sorts_settle_33 (i := 5) rfl) ?_
                rintro _ N43_ ⟨v44_, rfl, ⟨hv44_a, hv44_b⟩, hsN43_, hp0_N43_⟩
                obtain rfl := hsN43_.eq.symm
                replace hp0_N43_ : ((v44_ = 1 ∧ zbt v42_ u34_) ∨ (v44_ = 0 ∧ ¬ zbt v42_ u34_)) := hp0_N43_
                rcases hp0_N43_ with ⟨rfl, ha52_0_hp0_N43_⟩ | ⟨rfl, ha52_0_hp0_N43_⟩
                · skip
                  have hxb_ := zXk_b (by (exact i8_)) (by (exact i37_)) hx2_ (show _ = zRw d_ 14 N35_ (u5_).toNat from hv_) ha52_0_hp0_N43_
                  show zW l m_Sorts_settle (zn Mz + 0, zw Mz + 0) N35_ 55 [some (.ref (d_ + 12)), some (.int (Int32.ofInt u5_)), some (.int (Int32.ofInt u34_))] [.int (Int32.ofInt 1)] _
                  refine zr_if_ne (pc := 55) (tgt := 81) ⟨(by decide), (by decide)⟩ (by decide) (zdal_p dlA_Sorts_settle_33 (i := 6) rfl) (fun hc_55 => ?_) (fun hc_55 => ?_)
                  · skip
                    refine zr_iinc (pc := 81) (i := 2) (a := u34_) (n := 1) (L2 := [some (.ref (d_ + 12)), some (.int (Int32.ofInt u5_)), some (.int (Int32.ofInt (u34_ + 1)))]) rfl (by decide) rfl (zdal_p dlA_Sorts_settle_33 (i := 20) rfl) ?_
                    refine zw_goto (pc := 84) (tgt := 32) (by decide) (zdal_p dlA_Sorts_settle_33 (i := 21) rfl) ?_
                    exact ih_32 (u34_ + 1) (by (exact zo_74 i37_)) (by (exact zo_1422 hc_40 hn24_ hsz_ hu34_b)) N35_ hs36_ (show 0 ≤ (u34_ + 1) by first | with_reducible assumption | (exact zo_76 i37_) | assumption) (show u5_ < (ze N35_ (d_ + 12) 6) by first | with_reducible assumption | assumption | omega) (show zJk T_ (zRw d_ 14 N35_) (ze N35_ (d_ + 12) 6) by first | exact hj3_ | exact hj2_) (show zXk T_ (zRw d_ 14 N35_) (ze N35_ (d_ + 12) 6) u5_ (u34_ + 1) by first | exact hxb_ | exact hxn_) i41_ (by (exact zo_1424 hc_40 hlt_32 hsz_ hu34_b))
                  · skip
                    exact absurd hc_55 (by decide)
                · skip
                  show zW l m_Sorts_settle (zn Mz + 0, zw Mz + 0) N35_ 55 [some (.ref (d_ + 12)), some (.int (Int32.ofInt u5_)), some (.int (Int32.ofInt u34_))] [.int (Int32.ofInt 0)] _
                  refine zr_if_ne (pc := 55) (tgt := 81) ⟨(by decide), (by decide)⟩ (by decide) (zdal_p dlA_Sorts_settle_33 (i := 6) rfl) (fun hc_55 => ?_) (fun hc_55 => ?_)
                  · skip
                    exact absurd hc_55 (by decide)
                  · skip
                    refine zw_aload_n (pc := 58) (n := 0) (x := (d_ + 12)) rfl (zdal_p dlA_Sorts_settle_33 (i := 7) rfl) ?_
                    refine zw_aload_n (pc := 59) (n := 0) (x := (d_ + 12)) rfl (zdal_p dlA_Sorts_settle_33 (i := 8) rfl) ?_
                    refine zw_getF (pc := 60) f_Sorts_32 rfl ((hf_N35_.w hW).kr (o := 12) (by decide)) ((hf_N35_.w hW).lr (o := 12) (s := 0) (r := 1) (by decide)) (zdal_p dlA_Sorts_settle_33 (i := 9) rfl) ?_
                    refine zw_aload_n (pc := 63) (n := 0) (x := (d_ + 12)) rfl (zdal_p dlA_Sorts_settle_33 (i := 10) rfl) ?_
                    refine zw_getF (pc := 64) f_Sorts_14 rfl ((hf_N35_.w hW).kr (o := 12) (by decide)) ((hf_N35_.w hW).lr (o := 12) (s := 1) (r := 13) (by decide)) (zdal_p dlA_Sorts_settle_33 (i := 11) rfl) ?_
                    refine zw_iload_n (pc := 67) (n := 1) (x := Int32.ofInt u5_) rfl (zdal_p dlA_Sorts_settle_33 (i := 12) rfl) ?_
                    refine zk_at hf_N35_.x (pc := 68) l_Sorts_49 ((hf_N35_.w hW).kr (o := 13) (by decide)) ((hf_N35_.w hW).lr (o := 13) (s := 0) (r := 14) (by decide)) ((hf_N35_.w hW).rr (o := 14) (t := 1) (n := 35) (by decide)) (by decide) (by (exact i8_)) (by (exact zo_1430 hc_27)) (by decide) (Nat.le_of_ble_eq_true rfl) (zdal_p dlA_Sorts_settle_33 (i := 13) rfl) (fun v45_ hv45_ hv45_a hv45_b => ?_)
                    have hv2_ := hv45_
                    have hm2_ := hj2_.2.2.1 (u5_).toNat (by (exact zo_1431 hc_27 hjn_.1 i38_ i8_))
                    rw [show zRw d_ 14 N35_ (u5_).toNat = v45_ from hv2_.symm] at hm2_
                    have hgc_ := gS_b hO_ hm2_.2
                    have hzo_ := zorb (x := v45_) (k := u34_) (by (exact zo_57 hm2_.1)) (by (exact hv45_b)) (by (exact i37_)) (by (exact zo_1432 hc_40 hn24_ hsz_ hu34_b))
                    have hol2_ : (v45_).toNat ||| 2 ^ (u34_).toNat < 2 ^ gN T_ := Nat.or_lt_two_pow hgc_.1 (Nat.pow_lt_pow_right (by (decide)) (by (exact zo_1414 hc_40 hsz_ hu34_b i37_)))
                    obtain ⟨v_, hvv_⟩ : ∃ v : Int, v = v45_ := ⟨_, rfl⟩
                    rw [← hvv_] at hv2_
                    refine zw_iconst (pc := 71) (v := Int32.ofInt 1) (by decide) (zdal_p dlA_Sorts_settle_33 (i := 14) rfl) ?_
                    refine zw_iload_n (pc := 72) (n := 2) (x := Int32.ofInt u34_) rfl (zdal_p dlA_Sorts_settle_33 (i := 15) rfl) ?_
                    refine zr_ishl (pc := 73) (zdal_p dlA_Sorts_settle_33 (i := 16) rfl) ?_
                    have hr46_ := zshl_r 1 u34_
                    refine zr_ior (pc := 74) (zdal_p dlA_Sorts_settle_33 (i := 17) rfl) ?_
                    have hr47_ := zor_r v45_ (zshl 1 u34_)
                    refine zk_callV hf_N35_.x (pc := 75) [.int (Int32.ofInt (zor v45_ (zshl 1 u34_)))] [.ref (d_ + 12)] l_Sorts_57 (u_Group_spanOf l d_ N35_ (hf_N35_.w hW) (zor v45_ (zshl 1 u34_)) (by (exact zo_284 hr47_.1)) (by (exact zo_285 hr47_.2)) T_ hT_ hAs_ i41_ (show 0 ≤ (zor v45_ (zshl 1 u34_)) by rw [hzo_]; (exact zo_85)) (show ((zor v45_ (zshl 1 u34_))).toNat < 2 ^ gN T_ by rw [hzo_, Int.toNat_natCast]; exact hol2_)) rfl rfl ((hf_N35_.w hW).kr (o := 1) (by decide)) (by decide) (by decide) (Nat.le_of_ble_eq_true rfl) (zdal_p dlA_Sorts_settle_33 (i := 18) rfl) ?_
                    rintro _ N48_ ⟨v49_, rfl, ⟨hv49_a, hv49_b⟩, hsN48_, ⟨hp0_N48_, hp1_N48_, hp2_N48_⟩⟩
                    have hf_N48_ : zFc d_ [] [] [(12, 6), (12, 7)] [11, 14, 16, 20, 22] Mz N48_ := hf_N35_.tr hsN48_ (by decide) (by decide) (by decide) (by decide)
                    have hb0_N48_ : zFc d_ [] [] [(12, 6)] [11, 14] N3_ N48_ := hb0_N35_.tr hsN48_ (by decide) (by decide) (by decide) (by decide)
                    have hb1_N48_ : zFc d_ [] [] [(12, 6)] [11, 14] N6_ N48_ := hs36_.tr hsN48_ (by decide) (by decide) (by decide) (by decide)
                    have eD1_7_N48_ : ze N48_ (d_ + 1) 7 = ze N35_ (d_ + 1) 7 := hsN48_.e (by decide)
                    have eD12_6_N48_ : ze N48_ (d_ + 12) 6 = ze N35_ (d_ + 12) 6 := hsN48_.e (by decide)
                    have eD12_7_N48_ : ze N48_ (d_ + 12) 7 = ze N35_ (d_ + 12) 7 := hsN48_.e (by decide)
                    have c50_ : zTt T_ d_ N48_ := zTt.fr (hf_N35_.w hW) hsN48_ i41_ (by decide)
                    show zW l m_Sorts_settle (zn Mz + 0, zw Mz + 0) N48_ 78 [some (.ref (d_ + 12)), some (.int (Int32.ofInt u5_)), some (.int (Int32.ofInt u34_))] [.int (Int32.ofInt v49_), .ref (d_ + 12)] _
                    have hlc_ := hp0_N48_
                    rw [hzo_, Int.toNat_natCast, ← hvv_] at hlc_
                    have hr0_ := hp1_N48_
                    have hrm_ := hO_.mem hlc_
                    have hf_ : zRw d_ 14 N48_ = zRw d_ 14 N35_ := funext fun j => hsN48_.r (by decide) j
                    have hm6_ : ze N48_ (d_ + 12) 6 = ze N35_ (d_ + 12) 6 := by (exact eD12_6_N48_)
                    rw [show v_ = zRw d_ 14 N35_ (u5_).toNat from hv2_] at hlc_
                    rw [← hf_, ← hm6_] at hj2_ hx2_
                    rw [← hf_] at hlc_
                    have hroom_ := zJk_c hol_.1.1 hj2_ hr0_ hrm_
                    refine zk_callV hf_N48_.x (pc := 78) [.int (Int32.ofInt v49_)] [] l_Sorts_60 (u_Sorts_addSubgroup l d_ N48_ (hf_N48_.w hW) v49_ hv49_a hv49_b (show 0 ≤ ze N48_ (d_ + 12) 6 by first | with_reducible assumption | (exact zo_568 eD12_6_N48_ hjn_.1) | assumption) (show ze N48_ (d_ + 12) 6 ≤ 35 by first | with_reducible assumption | (exact zo_1433 eD12_6_N48_ hjn_.2) | assumption) (show (∀ i : Nat, (i : Int) < ze N48_ (d_ + 12) 6 → ze N48_ (d_ + 14) i ≠ v49_) → ze N48_ (d_ + 12) 6 ≤ 34 by exact fun q_ => hroom_ q_)) rfl rfl ((hf_N48_.w hW).kr (o := 12) (by decide)) (by decide) (by decide) (Nat.le_of_ble_eq_true rfl) (zdal_p dlA_Sorts_settle_33 (i := 19) rfl) ?_
                    rintro _ N51_ ⟨rfl, hsN51_, hp0_N51_⟩
                    replace hp0_N51_ : (((∃ k : Nat, (k : Int) < ze N48_ (d_ + 12) 6 ∧ ze N48_ (d_ + 14) k = v49_) ∧ (∀ j : Nat, zRw d_ 14 N51_ j = zRw d_ 14 N48_ j) ∧ ze N51_ (d_ + 12) 6 = ze N48_ (d_ + 12) 6) ∨ ((∀ i : Nat, (i : Int) < ze N48_ (d_ + 12) 6 → ze N48_ (d_ + 14) i ≠ v49_) ∧ ze N51_ (d_ + 12) 6 = ze N48_ (d_ + 12) 6 + 1 ∧ (∀ j : Nat, zRw d_ 14 N51_ j = zst (zRw d_ 14 N48_) (ze N48_ (d_ + 12) 6).toNat v49_ j))) := hp0_N51_
                    have hf_N51_ : zFc d_ [] [] [(12, 6), (12, 7)] [11, 14, 16, 20, 22] Mz N51_ := hf_N48_.tr hsN51_ (by decide) (by decide) (by decide) (by decide)
                    have hb0_N51_ : zFc d_ [] [] [(12, 6)] [11, 14] N3_ N51_ := hb0_N48_.tr hsN51_ (by decide) (by decide) (by decide) (by decide)
                    have hb1_N51_ : zFc d_ [] [] [(12, 6)] [11, 14] N6_ N51_ := hb1_N48_.tr hsN51_ (by decide) (by decide) (by decide) (by decide)
                    have eD1_7_N51_ : ze N51_ (d_ + 1) 7 = ze N48_ (d_ + 1) 7 := hsN51_.e (by decide)
                    have rD12_6_N51_ := ze_r N51_ (d_ + 12) 6
                    have eD12_7_N51_ : ze N51_ (d_ + 12) 7 = ze N48_ (d_ + 12) 7 := hsN51_.e (by decide)
                    have c53_ : zTt T_ d_ N51_ := zTt.fr (hf_N48_.w hW) hsN51_ c50_ (by decide)
                    rcases hp0_N51_ with ⟨ha78_0_hp0_N51_, ha78_1_hp0_N51_, ha78_2_hp0_N51_⟩ | ⟨ha78_0_hp0_N51_, ha78_1_hp0_N51_, ha78_2_hp0_N51_⟩
                    · skip
                      obtain ⟨k_, hk1_, hk2_⟩ := ha78_0_hp0_N51_
                      have hsm_ : zRw d_ 14 N51_ = zRw d_ 14 N48_ := funext ha78_1_hp0_N51_
                      have hmm_ := ha78_2_hp0_N51_
                      have hxn_ := zXk_f (by (exact i8_)) (by (exact i37_)) hx2_ hlc_ hk1_ (show zRw d_ 14 N48_ k_ = _ from hk2_)
                      rw [← hsm_, ← hmm_] at hxn_ hj2_
                      show zW l m_Sorts_settle (zn Mz + 0, zw Mz + 0) N51_ 81 [some (.ref (d_ + 12)), some (.int (Int32.ofInt u5_)), some (.int (Int32.ofInt u34_))] [] _
                      refine zr_iinc (pc := 81) (i := 2) (a := u34_) (n := 1) (L2 := [some (.ref (d_ + 12)), some (.int (Int32.ofInt u5_)), some (.int (Int32.ofInt (u34_ + 1)))]) rfl (by decide) rfl (zdal_p dlA_Sorts_settle_33 (i := 20) rfl) ?_
                      refine zw_goto (pc := 84) (tgt := 32) (by decide) (zdal_p dlA_Sorts_settle_33 (i := 21) rfl) ?_
                      exact ih_32 (u34_ + 1) (by (exact zo_74 i37_)) (by (exact zo_1422 hc_40 hn24_ hsz_ hu34_b)) N51_ hb1_N51_ (show 0 ≤ (u34_ + 1) by first | with_reducible assumption | (exact zo_76 i37_) | assumption) (show u5_ < (ze N51_ (d_ + 12) 6) by first | with_reducible assumption | (exact zo_1434 eD12_6_N48_ ha78_2_hp0_N51_ hc_27 hk1_ i38_) | assumption) (show zJk T_ (zRw d_ 14 N51_) (ze N51_ (d_ + 12) 6) by first | exact hj3_ | exact hj2_) (show zXk T_ (zRw d_ 14 N51_) (ze N51_ (d_ + 12) 6) u5_ (u34_ + 1) by first | exact hxb_ | exact hxn_) c53_ (by (exact zo_1424 hc_40 hlt_32 hsz_ hu34_b))
                    · skip
                      have hno_ := ha78_0_hp0_N51_
                      have hmm_ := ha78_1_hp0_N51_
                      have hwr_ := ha78_2_hp0_N51_
                      obtain ⟨hj3_, hxn_⟩ := zJk_a hj2_ (hroom_ hno_) hr0_ hrm_ hno_ hwr_ hx2_ (by (exact zo_1435 eD12_6_N48_ hc_27 hjn_.1 i38_ i8_)) (by (exact i37_)) hlc_
                      rw [← hmm_] at hj3_ hxn_
                      show zW l m_Sorts_settle (zn Mz + 0, zw Mz + 0) N51_ 81 [some (.ref (d_ + 12)), some (.int (Int32.ofInt u5_)), some (.int (Int32.ofInt u34_))] [] _
                      refine zr_iinc (pc := 81) (i := 2) (a := u34_) (n := 1) (L2 := [some (.ref (d_ + 12)), some (.int (Int32.ofInt u5_)), some (.int (Int32.ofInt (u34_ + 1)))]) rfl (by decide) rfl (zdal_p dlA_Sorts_settle_33 (i := 20) rfl) ?_
                      refine zw_goto (pc := 84) (tgt := 32) (by decide) (zdal_p dlA_Sorts_settle_33 (i := 21) rfl) ?_
                      exact ih_32 (u34_ + 1) (by (exact zo_74 i37_)) (by (exact zo_1422 hc_40 hn24_ hsz_ hu34_b)) N51_ hb1_N51_ (show 0 ≤ (u34_ + 1) by first | with_reducible assumption | (exact zo_76 i37_) | assumption) (show u5_ < (ze N51_ (d_ + 12) 6) by first | with_reducible assumption | (exact zo_1436 eD12_6_N48_ ha78_1_hp0_N51_ hc_27 hjn_.1 i38_) | assumption) (show zJk T_ (zRw d_ 14 N51_) (ze N51_ (d_ + 12) 6) by first | exact hj3_ | exact hj2_) (show zXk T_ (zRw d_ 14 N51_) (ze N51_ (d_ + 12) 6) u5_ (u34_ + 1) by first | exact hxb_ | exact hxn_) c53_ (by (exact zo_1424 hc_40 hlt_32 hsz_ hu34_b))
          exact lp_32 _ 0 (by decide) (by decide) N6_ zFc.rf (show 0 ≤ (0 : Int) by first | with_reducible assumption | (decide) | assumption) (show u5_ < (ze N6_ (d_ + 12) 6) by first | with_reducible assumption | assumption | omega) (show zJk T_ (zRw d_ 14 N6_) (ze N6_ (d_ + 12) 6) by exact hj_) (show zXk T_ (zRw d_ 14 N6_) (ze N6_ (d_ + 12) 6) u5_ (0 : Int) by exact hx_) i11_ (Nat.lt_succ_self _)
  exact lp_16 _ 0 (by decide) (by decide) N3_ zFc.rf (show 0 ≤ (0 : Int) by first | with_reducible assumption | (decide) | assumption) (show zJk T_ (zRw d_ 14 N3_) (ze N3_ (d_ + 12) 6) by rw [show ze N3_ (d_ + 12) 6 = 1 by (exact zo_594 eD12_6_N3_ hvN1_)]; exact hj0_) (show zXk T_ (zRw d_ 14 N3_) (ze N3_ (d_ + 12) 6) (0 : Int) 0 by rw [show ze N3_ (d_ + 12) 6 = 1 by (exact zo_594 eD12_6_N3_ hvN1_)]; exact hx0_) c4_ (Nat.lt_succ_self _)
def zCpJ (q r : Nat) (M0 : zMem) (n : Int) (M : zMem) : Prop := ∀ j : Nat, (j : Int) < n → zg M r j = zg M0 q j
def zZrJ (r : Nat) (n : Int) (M : zMem) : Prop := True ∧ ∀ j : Nat, (j : Int) < n → zg M r j = 0
def zr98 (M : zMem) : Nat → Int := fun k => zg M 98 k
theorem zr98_f {S C : List Nat} {M N : zMem} (h : zFr S C M N) (hc : 98 ∉ C) : zr98 N = zr98 M := funext fun k => h.jg (by decide) hc k
section ZCPJ
variable {q r : Nat} {M0 M N : zMem} {n m i v : Int} {S C : List Nat}
theorem zCpJ.fr (hf : zFr S C M N) (h : zCpJ q r M0 n M) (hr : r ≠ 81) (hc : r ∉ C) : zCpJ q r M0 n N := fun j hj => (hf.jg hr hc j).trans (h j hj)
theorem zCpJ_0 : zCpJ q r M0 0 M := fun j h => absurd h (by (exact zo_131))
theorem zCpJ.le (h : zCpJ q r M0 m M) (e : n ≤ m) : zCpJ q r M0 n M := fun j hj => h j (by (exact zo_1403 e hj))
theorem zCpJ_s (i0 : 0 ≤ i) (h : zCpJ q r M0 i M) (hv : v = zg M0 q i.toNat) (hN : N = zsJ M r i.toNat (Int64.ofInt v)) : zCpJ q r M0 (i + 1) N := by
  intro j hj
  by_cases e : (j : Int) = i
  · rw [show j = i.toNat by (exact zo_2187 e hj i0), ← hv]
    exact zs_getJ hN (by rw [hv]; exact zg_r _ _ _)
  · rw [zs_othJ hN (by (exact zo_148 i0 e))]
    exact h j (by (exact zo_130 hj e))
theorem zZrJ.fr (hf : zFr S C M N) (h : zZrJ r n M) (hr : r ≠ 81) (hc : r ∉ C) : zZrJ r n N := ⟨trivial, fun j hj => (hf.jg hr hc j).trans (h.2 j hj)⟩
theorem zZrJ_0 : zZrJ r 0 M := ⟨trivial, fun j h => absurd h (by (exact zo_131))⟩
theorem zZrJ.le (h : zZrJ r m M) (e : n ≤ m) : zZrJ r n M := ⟨trivial, fun j hj => h.2 j (by (exact zo_1403 e hj))⟩
theorem zZrJ_s (i0 : 0 ≤ i) (h : zZrJ r i M) (hN : N = zsJ M r i.toNat (Int64.ofInt 0)) : zZrJ r (i + 1) N := by
  refine ⟨trivial, fun j hj => ?_⟩
  by_cases e : (j : Int) = i
  · rw [show j = i.toNat by (exact zo_2187 e hj i0)]
    exact zs_getJ hN ⟨by decide, by decide⟩
  · rw [zs_othJ hN (by (exact zo_148 i0 e))]
    exact h.2 j (by (exact zo_130 hj e))
end ZCPJ
def zRNi (nm : List (Int × (Nat → Int))) (F : Nat) (K : Nat → Nat → Int) (M : zMem) : Prop := (0 ≤ ze M 81 18 ∧ ze M 81 18 ≤ 8) ∧ ∃ gk : Nat → Int, nm = zup (fun k => (gk k, zrw F M 104 (64 * (k : Int)))) (ze M 81 18).toNat 0 ∧ ∀ k : Nat, (k : Int) < ze M 81 18 → zWrd (zg M 103 k) (gk k) ∧ zfit F K (zrw F M 104 (64 * (k : Int)))
section ZRNI
variable {F n : Nat} {K : Nat → Nat → Int} {b : Nat → Int} {nm : List (Int × (Nat → Int))} {S C : List Nat} {M N : zMem}
theorem zRNi.fr (hf : zFr S C M N) (h : zRNi nm F K M) (hs : 18 ∉ S) (hc : 103 ∉ C ∧ 104 ∉ C) : zRNi nm F K N := by
  obtain ⟨a1, gk, a2, a3⟩ := h
  have hv : ∀ t : Int, zrw F N 104 t = zrw F M 104 t := fun t => zrw_c (fun k _ => hf.jg (by decide) hc.2 _)
  unfold zRNi
  rw [hf.e hs]
  refine ⟨a1, gk, ?_, fun k hk => ?_⟩
  · rw [a2]
    exact zup_c _ _ (fun j _ _ => by rw [hv])
  · rw [hf.jg (by decide) hc.1, hv]
    exact a3 k hk
theorem zRNm_z (h : ze M 81 14 = 0) : zRNm [] F K b n M := ⟨by omega, fun _ => 0, by rw [h]; rfl, fun k hk => absurd hk (by omega)⟩
theorem zRNi_i (hF : F ≤ 64) (h : zRNm nm F K b n M) (e : ze N 81 18 = ze M 81 14) (c1 : zCpJ 101 103 M 8 N) (c2 : zCpJ 102 104 M 512 N) : zRNi nm F K N := by
  obtain ⟨a1, gk, a2, a3⟩ := h
  have hv : ∀ k : Nat, (k : Int) < 8 → zrw F N 104 (64 * (k : Int)) = zrw F M 102 (64 * (k : Int)) := fun k hk => by
    funext i
    unfold zrw
    split
    · exact c2 _ (by omega)
    · rfl
  unfold zRNi
  rw [e]
  refine ⟨a1, gk, ?_, fun k hk => ?_⟩
  · rw [a2]
    exact zup_c _ _ (fun j _ hj => by rw [hv j (by omega)])
  · rw [c1 k (by (exact zo_2648 a1.2 hk)), hv k (by (exact zo_2648 a1.2 hk))]
    exact a3 k hk
theorem zRNm_i (hF : F ≤ 64) (h : zRNi nm F K M) (e : ze N 81 14 = ze M 81 18) (c1 : zCpJ 103 101 M 8 N) (c2 : zCpJ 104 102 M 512 N) : zRNm nm F K b n N := by
  obtain ⟨a1, gk, a2, a3⟩ := h
  have hv : ∀ k : Nat, (k : Int) < 8 → zrw F N 102 (64 * (k : Int)) = zrw F M 104 (64 * (k : Int)) := fun k hk => by
    funext i
    unfold zrw
    split
    · exact c2 _ (by omega)
    · rfl
  unfold zRNm
  rw [e]
  refine ⟨a1, gk, ?_, fun k hk => ?_⟩
  · rw [a2]
    exact zup_c _ _ (fun j _ hj => by rw [hv j (by omega)])
  · rw [c1 k (by (exact zo_2648 a1.2 hk)), hv k (by (exact zo_2648 a1.2 hk))]
    exact a3 k hk
end ZRNI
def zTrN (b : Nat → Int) (n s P : Nat) (mv : List Nat) (T : zGT) (nm : List (Int × (Nat → Int))) : Prop := ∃ q q2 q3 : Nat, zHd b n s P q ∧ zRg (zbs b n P) (0, q, []) (1, q2, mv) ∧ T ∈ gTabs ∧ zTm mv T ∧ zRg (zls b n (gF T).length (gmkI T)) (0, q2, []) (1, q3, nm)
section ZTRN
variable {b : Nat → Int} {n s P P' : Nat} {mv mv' : List Nat} {T T' : zGT} {nm nm' : List (Int × (Nat → Int))}
theorem zTrN.p (h : zTrN b n s P mv T nm) : zTrP b n s P mv T := by
  obtain ⟨q, q2, q3, a1, a2, a3, a4, a5⟩ := h
  exact ⟨q, q2, q3, nm, a1, a2, a3, a4, a5⟩
end ZTRN
noncomputable def zMkT (b : Nat → Int) (n F : Nat) (K : Nat → Nat → Int) (nm : List (Int × (Nat → Int))) : zFst := zfe (zfs b n F K nm) (0, zru zpB b n 0, [], [], 0, false)
def zMkR (b : Nat → Int) (n F : Nat) (K : Nat → Nat → Int) (nm : List (Int × (Nat → Int))) (v : Nat → Int) : Prop := ∃ q un : Nat, zMkT b n F K nm = (3, q, [], [v], un, false) ∧ zkd b n q = 0
def zMvq (mv : List Nat) (M : zMem) : Prop := zMvF M = mv
def zMvt (mv : List Nat) (M : zMem) : Prop := zMvs M = mv
theorem zMvq.fr {S C : List Nat} {M N : zMem} {mv : List Nat} (hf : zFr S C M N) (h : zMvq mv M) (hs : 16 ∉ S ∧ 17 ∉ S) (hc : 84 ∉ C) : zMvq mv N := (zMvF_f hf hs hc).trans h
theorem zMvt.fr {S C : List Nat} {M N : zMem} {mv : List Nat} (hf : zFr S C M N) (h : zMvt mv M) (hs : 12 ∉ S ∧ 13 ∉ S) (hc : 83 ∉ C) : zMvt mv N := (zMvs_f hf hs hc).trans h
theorem zMvF_i {M0 N : zMem} {i : Int} (hi : 24 ≤ i) (hq : zCp 83 84 M0 N i) (hk : ∀ j, ze N 83 j = ze M0 83 j) (h16 : ze N 81 16 = ze N 81 12) (h17 : ze N 81 17 = ze N 81 13) (p0 : 1 ≤ ze N 81 12) (p1 : ze N 81 12 ≤ 6) (p3 : ze N 81 13 ≤ 4) : zMvF N = zMvs N := by
  have h : ∀ j : Nat, (j : Int) < i → ze N 84 j = ze N 83 j := fun j hj => by rw [hq j hj, hk]
  unfold zMvF zMvs
  rw [h16, h17]
  apply List.map_congr_left
  intro k hk
  rw [List.mem_range] at hk
  exact zrc_c p1 (fun p hp => h _ (by omega))
theorem zMvF_b {M0 N : zMem} {i : Int} (hi : 24 ≤ i) (hq : zCp 84 83 M0 N i) (hk : ∀ j, ze N 84 j = ze M0 84 j) (hI : zIF N) (h16 : ze N 81 12 = ze N 81 16) (h17 : ze N 81 13 = ze N 81 17) : zMvs N = zMvF N := by
  have h : ∀ j : Nat, (j : Int) < i → ze N 83 j = ze N 84 j := fun j hj => by rw [hq j hj, hk]
  obtain ⟨h1, h2, h3, h4⟩ := hI
  unfold zMvF zMvs
  rw [h16, h17]
  apply List.map_congr_left
  intro k hk
  rw [List.mem_range] at hk
  exact zrc_c h1.1.2 (fun p hp => h _ (by omega))
def zRS (P : Nat) (mv : List Nat) (T : zGT) (M : zMem) : Prop := T ∈ gTabs ∧ zTm mv T ∧ zGB T M ∧ ze M 81 16 = (P : Int) ∧ zMvq mv M ∧ zCdS (P : Int) mv T M ∧ ∃ nm : List (Int × (Nat → Int)), zRNm nm (gF T).length (gmkI T) (fun _ => 0) 0 M ∧ zRNi nm (gF T).length (gmkI T) M
theorem zRS.fr {S C : List Nat} {M N : zMem} {P : Nat} {mv : List Nat} {T : zGT} (hf : zFr S C M N) (h : zRS P mv T M) (hss : (14 ∉ S ∧ 18 ∉ S) ∧ 16 ∉ S ∧ 17 ∉ S ∧ 20 ∉ S ∧ 25 ∉ S ∧ 26 ∉ S) (hcc : (((101 ∉ C ∧ 102 ∉ C) ∧ 103 ∉ C ∧ 104 ∉ C) ∧ 92 ∉ C) ∧ 84 ∉ C ∧ 85 ∉ C ∧ 87 ∉ C ∧ 88 ∉ C ∧ 89 ∉ C ∧ 90 ∉ C ∧ 91 ∉ C ∧ 93 ∉ C ∧ 94 ∉ C) : zRS P mv T N := by
  obtain ⟨hn, hs⟩ := hss
  obtain ⟨⟨hm, h92⟩, hc⟩ := hcc
  obtain ⟨a1, a2, a3, a4, a5, a6, nm, a7, a8⟩ := h
  exact ⟨a1, a2, zGB.fr hf a3 hs.2.2 hc.2, by rw [hf.e hs.1]; exact a4, zMvq.fr hf a5 ⟨hs.1, hs.2.1⟩ hc.1, zCdS.fr hf a6 hs.2.2.2.1 ⟨hc.2.1, hc.2.2.2.2.2.1, h92⟩, nm, zRNm.fr hf a7 hn.1 hm.1, zRNi.fr hf a8 hn.2 hm.2⟩
set_option maxHeartbeats 40000000 in
theorem c_M_readsN (l : Launch) (Mz : zMem) (hW : zMt Mz) (b_ : Nat → Int) (n_ : Nat) (p0_ : zRb b_ n_ Mz) (p1_ : zRt b_ n_ Mz) (p2_ : ze Mz 81 7 = 0) (p3_ : ze Mz 81 13 = 0) (p4_ : ze Mz 81 14 = 0) (p5_ : zB 83 24 0 5 Mz) (p6_ : zB 85 144 0 5 Mz) : zC l m_M_reads 0 0 [.ref 81] Mz (zpV [3, 4, 5, 6, 7, 8, 11, 12, 13, 14, 20, 25, 26, 38, 39, 41, 42, 43] [83, 85, 86, 87, 88, 89, 90, 91, 92, 93, 94, 95, 96, 97, 100, 101, 102] Mz (fun N => zRt b_ n_ N ∧ 0 ≤ ze N 81 13 ∧ ze N 81 13 ≤ 4 ∧ 0 ≤ ze N 81 14 ∧ ze N 81 14 ≤ 8 ∧ zB 83 24 0 5 N ∧ zB 85 144 0 5 N ∧ (((1 ≤ ze N 81 7 ∧ zTrB b_ n_ (ze Mz 81 4).toNat) ∨ (ze N 81 7 = 0 ∧ 1 ≤ ze N 81 12 ∧ ze N 81 12 ≤ 6 ∧ zPm N ∧ zFin N ∧ (∃ T : zGT, ∃ mv : List Nat, ∃ P : Nat, ∃ nm : List (Int × (Nat → Int)), T ∈ gTabs ∧ zGB T N ∧ zTrN b_ n_ (ze Mz 81 4).toNat P mv T nm ∧ zMvs N = mv ∧ ze N 81 12 = (P : Int) ∧ zCdS (P : Int) mv T N ∧ zRNm nm (gF T).length (gmkI T) b_ n_ N)))))) := by
  refine zC_of (L0 := [some (.ref 81)]) md_M_reads (Nat.le_of_ble_eq_true rfl) rfl ?_ zQ0
  have hf : zFr [3, 4, 5, 6, 7, 8, 11, 12, 13, 14, 20, 25, 26, 38, 39, 41, 42, 43] [83, 85, 86, 87, 88, 89, 90, 91, 92, 93, 94, 95, 96, 97, 100, 101, 102] Mz Mz := zFr.rf
  have r_3 := ze_r Mz 81 3
  have r_4 := ze_r Mz 81 4
  have r_5 := ze_r Mz 81 5
  have r_7 := ze_r Mz 81 7
  have r_12 := ze_r Mz 81 12
  have r_13 := ze_r Mz 81 13
  have r_14 := ze_r Mz 81 14
  have j_88 : ∀ (N1_ : zMem) (hs2_ : zFr [3, 4, 5, 6, 7, 8, 11, 12, 13, 14, 20, 25, 26, 38, 39, 41, 42, 43] [83, 85, 86, 87, 88, 89, 90, 91, 92, 93, 94, 95, 96, 97, 100, 101, 102] Mz N1_) (i3_ : zRt b_ n_ N1_) (i4_ : 0 ≤ ze N1_ 81 13) (i5_ : ze N1_ 81 13 ≤ 4) (i6_ : 0 ≤ ze N1_ 81 14) (i7_ : ze N1_ 81 14 ≤ 8) (i8_ : (1 ≤ ze N1_ 81 7 ∧ zTrB b_ n_ (ze Mz 81 4).toNat) ∨ (ze N1_ 81 7 = 0 ∧ 1 ≤ ze N1_ 81 12 ∧ ze N1_ 81 12 ≤ 6 ∧ zPm N1_ ∧ zFin N1_ ∧ (∃ T : zGT, ∃ mv : List Nat, ∃ P q q2 : Nat, ∃ nm : List (Int × (Nat → Int)), T ∈ gTabs ∧ zGB T N1_ ∧ zTm mv T ∧ zHd b_ n_ (ze Mz 81 4).toNat P q ∧ zRg (zbs b_ n_ P) (0, q, []) (1, q2, mv) ∧ zRg (zls b_ n_ (gF T).length (gmkI T)) (0, q2, []) (0, (ze N1_ 81 4).toNat, nm) ∧ zRNm nm (gF T).length (gmkI T) b_ n_ N1_ ∧ zMvs N1_ = mv ∧ ze N1_ 81 12 = (P : Int) ∧ zCdS (P : Int) mv T N1_) ∧ ¬ (zkd b_ n_ (ze N1_ 81 4).toNat = 1 ∧ zkey b_ n_ (ze N1_ 81 4).toNat = zkw 2))) (i9_ : zB 83 24 0 5 N1_) (i10_ : zB 85 144 0 5 N1_), zW l m_M_reads (zn Mz + 0, zw Mz + 0) N1_ 88 [some (.ref 81)] [] (zpV [3, 4, 5, 6, 7, 8, 11, 12, 13, 14, 20, 25, 26, 38, 39, 41, 42, 43] [83, 85, 86, 87, 88, 89, 90, 91, 92, 93, 94, 95, 96, 97, 100, 101, 102] Mz (fun N => zRt b_ n_ N ∧ 0 ≤ ze N 81 13 ∧ ze N 81 13 ≤ 4 ∧ 0 ≤ ze N 81 14 ∧ ze N 81 14 ≤ 8 ∧ zB 83 24 0 5 N ∧ zB 85 144 0 5 N ∧ (((1 ≤ ze N 81 7 ∧ zTrB b_ n_ (ze Mz 81 4).toNat) ∨ (ze N 81 7 = 0 ∧ 1 ≤ ze N 81 12 ∧ ze N 81 12 ≤ 6 ∧ zPm N ∧ zFin N ∧ (∃ T : zGT, ∃ mv : List Nat, ∃ P : Nat, ∃ nm : List (Int × (Nat → Int)), T ∈ gTabs ∧ zGB T N ∧ zTrN b_ n_ (ze Mz 81 4).toNat P mv T nm ∧ zMvs N = mv ∧ ze N 81 12 = (P : Int) ∧ zCdS (P : Int) mv T N ∧ zRNm nm (gF T).length (gmkI T) b_ n_ N)))))) := by
    intro N1_ hs2_ i3_ i4_ i5_ i6_ i7_ i8_ i9_ i10_
    have hf_N1_ := hf.tr hs2_ (by decide +kernel) (by decide +kernel)
    have r3_N1_ := ze_r N1_ 81 3
    have r4_N1_ := ze_r N1_ 81 4
    have r5_N1_ := ze_r N1_ 81 5
    have r7_N1_ := ze_r N1_ 81 7
    have r12_N1_ := ze_r N1_ 81 12
    have r13_N1_ := ze_r N1_ 81 13
    have r14_N1_ := ze_r N1_ 81 14
    rcases i8_ with ⟨hl88_0_i8_, hl88_1_i8_⟩ | ⟨hl88_0_i8_, hl88_1_i8_, hl88_2_i8_, hl88_3_i8_, hl88_4_i8_, hl88_5_i8_, hl88_6_i8_⟩
    · refine zw_aload_n (pc := 88) (n := 0) (x := 81) rfl (zdal_p dlC_M_reads_72 (i := 16) rfl) ?_
      refine zr_callV (hf_N1_.w hW) hf_N1_.x (pc := 89) [] [] l_M_183 (c_M_isGood l N1_ (hf_N1_.w hW) ) rfl rfl rfl (by decide) (Nat.le_of_ble_eq_true rfl) (zdal_p dlC_M_reads_72 (i := 17) rfl) ?_
      rintro _ N12_ ⟨v13_, rfl, ⟨hv13_a, hv13_b⟩, hsN12_, hp0_N12_⟩
      obtain rfl := hsN12_.eq.symm
      replace hp0_N12_ : ((v13_ = 1 ∧ ze N1_ 81 7 = 0) ∨ (v13_ = 0 ∧ ze N1_ 81 7 ≠ 0)) := hp0_N12_
      rcases hp0_N12_ with ⟨rfl, ha89_0_hp0_N12_⟩ | ⟨rfl, ha89_0_hp0_N12_⟩
      · exfalso; (exact zo_281 ha89_0_hp0_N12_ hl88_0_i8_)
      · show zW l m_M_reads (zn Mz + 0, zw Mz + 0) N1_ 92 [some (.ref 81)] [.int (Int32.ofInt 0)] _
        refine zr_if_eq (pc := 92) (tgt := 107) ⟨(by decide), (by decide)⟩ (by decide) (zdal_p dlC_M_reads_72 (i := 18) rfl) (fun hc_92 => ?_) (fun hc_92 => ?_)
        · exact zr_vret (pc := 107) rfl hf_N1_ ⟨i3_, (show 0 ≤ ze N1_ 81 13 by first | (exact i4_) | assumption), (show ze N1_ 81 13 ≤ 4 by first | (exact i5_) | assumption), (show 0 ≤ ze N1_ 81 14 by first | (exact i6_) | assumption), (show ze N1_ 81 14 ≤ 8 by first | (exact i7_) | assumption), i9_, i10_, (show ((1 ≤ ze N1_ 81 7 ∧ zTrB b_ n_ (ze Mz 81 4).toNat) ∨ (ze N1_ 81 7 = 0 ∧ 1 ≤ ze N1_ 81 12 ∧ ze N1_ 81 12 ≤ 6 ∧ zPm N1_ ∧ zFin N1_ ∧ (∃ T : zGT, ∃ mv : List Nat, ∃ P : Nat, ∃ nm : List (Int × (Nat → Int)), T ∈ gTabs ∧ zGB T N1_ ∧ zTrN b_ n_ (ze Mz 81 4).toNat P mv T nm ∧ zMvs N1_ = mv ∧ ze N1_ 81 12 = (P : Int) ∧ zCdS (P : Int) mv T N1_ ∧ zRNm nm (gF T).length (gmkI T) b_ n_ N1_))) from Or.inl (⟨(show 1 ≤ ze N1_ 81 7 by first | (exact hl88_0_i8_) | assumption | exact hrt_), (show zTrB b_ n_ (ze Mz 81 4).toNat by first | (exact hl88_1_i8_) | assumption | exact hrt_)⟩))⟩ (zdal_p dlC_M_reads_73 (i := 1) rfl)
        · exact absurd hc_92 (by decide)
    · as_aux_lemma =>
        have hPm_ := hl88_3_i8_
        have hFn_ := hl88_4_i8_
        have hLT_ := hl88_5_i8_
        have hnk_ := hl88_6_i8_
        have h5_ := i3_.2.2.1
        refine zw_aload_n (pc := 88) (n := 0) (x := 81) rfl (zdal_p dlC_M_reads_72 (i := 16) rfl) ?_
        refine zr_callV (hf_N1_.w hW) hf_N1_.x (pc := 89) [] [] l_M_183 (c_M_isGood l N1_ (hf_N1_.w hW) ) rfl rfl rfl (by decide) (Nat.le_of_ble_eq_true rfl) (zdal_p dlC_M_reads_72 (i := 17) rfl) ?_
        rintro _ N14_ ⟨v15_, rfl, ⟨hv15_a, hv15_b⟩, hsN14_, hp0_N14_⟩
        obtain rfl := hsN14_.eq.symm
        replace hp0_N14_ : ((v15_ = 1 ∧ ze N1_ 81 7 = 0) ∨ (v15_ = 0 ∧ ze N1_ 81 7 ≠ 0)) := hp0_N14_
        rcases hp0_N14_ with ⟨rfl, ha89_0_hp0_N14_⟩ | ⟨rfl, ha89_0_hp0_N14_⟩
        · as_aux_lemma =>
            show zW l m_M_reads (zn Mz + 0, zw Mz + 0) N1_ 92 [some (.ref 81)] [.int (Int32.ofInt 1)] _
            refine zr_if_eq (pc := 92) (tgt := 107) ⟨(by decide), (by decide)⟩ (by decide) (zdal_p dlC_M_reads_72 (i := 18) rfl) (fun hc_92 => ?_) (fun hc_92 => ?_)
            · exact absurd hc_92 (by decide)
            · as_aux_lemma =>
                refine zw_aload_n (pc := 95) (n := 0) (x := 81) rfl (zdal_p dlC_M_reads_72 (i := 19) rfl) ?_
                refine zr_getI (hf_N1_.w hW) (pc := 96) f_M_155 rfl (zdal_p dlC_M_reads_72 (i := 20) rfl) ?_
                refine zr_if_eq (pc := 99) (tgt := 107) ⟨(ze_r N1_ 81 5).1, (ze_r N1_ 81 5).2⟩ (by decide) (zdal_p dlC_M_reads_72 (i := 21) rfl) (fun hc_99 => ?_) (fun hc_99 => ?_)
                · have hok_ : (∃ T : zGT, ∃ mv : List Nat, ∃ P : Nat, ∃ nm : List (Int × (Nat → Int)), T ∈ gTabs ∧ zGB T N1_ ∧ zTrN b_ n_ (ze Mz 81 4).toNat P mv T nm ∧ zMvs N1_ = mv ∧ ze N1_ 81 12 = (P : Int) ∧ zCdS (P : Int) mv T N1_ ∧ zRNm nm (gF T).length (gmkI T) b_ n_ N1_) := by obtain ⟨T, mv_, P_, q_, q2_, nm_, hTt, hGB, hTm_, hHd_, hrb_, hrl_, hnm_, hmq_, hPq_, hCd_⟩ := id hLT_; exact ⟨T, mv_, P_, nm_, hTt, hGB, ⟨q_, q2_, (ze N1_ 81 4).toNat, hHd_, hrb_, hTt, hTm_, hrl_.tr (zRg.st (zls_e hnk_ (by (exact zo_805 h5_ hc_99))))⟩, hmq_, hPq_, hCd_, hnm_⟩
                  exact zr_vret (pc := 107) rfl hf_N1_ ⟨i3_, (show 0 ≤ ze N1_ 81 13 by first | (exact i4_) | assumption), (show ze N1_ 81 13 ≤ 4 by first | (exact i5_) | assumption), (show 0 ≤ ze N1_ 81 14 by first | (exact i6_) | assumption), (show ze N1_ 81 14 ≤ 8 by first | (exact i7_) | assumption), i9_, i10_, (show ((1 ≤ ze N1_ 81 7 ∧ zTrB b_ n_ (ze Mz 81 4).toNat) ∨ (ze N1_ 81 7 = 0 ∧ 1 ≤ ze N1_ 81 12 ∧ ze N1_ 81 12 ≤ 6 ∧ zPm N1_ ∧ zFin N1_ ∧ (∃ T : zGT, ∃ mv : List Nat, ∃ P : Nat, ∃ nm : List (Int × (Nat → Int)), T ∈ gTabs ∧ zGB T N1_ ∧ zTrN b_ n_ (ze Mz 81 4).toNat P mv T nm ∧ zMvs N1_ = mv ∧ ze N1_ 81 12 = (P : Int) ∧ zCdS (P : Int) mv T N1_ ∧ zRNm nm (gF T).length (gmkI T) b_ n_ N1_))) from Or.inr (⟨(show ze N1_ 81 7 = 0 by first | (exact hl88_0_i8_) | assumption | exact hok_), (show 1 ≤ ze N1_ 81 12 by first | (exact hl88_1_i8_) | assumption | exact hok_), (show ze N1_ 81 12 ≤ 6 by first | (exact hl88_2_i8_) | assumption | exact hok_), (show zPm N1_ by first | (exact hl88_3_i8_) | assumption | exact hok_), (show zFin N1_ by first | (exact hl88_4_i8_) | assumption | exact hok_), (show (∃ T : zGT, ∃ mv : List Nat, ∃ P : Nat, ∃ nm : List (Int × (Nat → Int)), T ∈ gTabs ∧ zGB T N1_ ∧ zTrN b_ n_ (ze Mz 81 4).toNat P mv T nm ∧ zMvs N1_ = mv ∧ ze N1_ 81 12 = (P : Int) ∧ zCdS (P : Int) mv T N1_ ∧ zRNm nm (gF T).length (gmkI T) b_ n_ N1_) by first | (exact hok_) | assumption | exact hok_)⟩))⟩ (zdal_p dlC_M_reads_73 (i := 1) rfl)
                · as_aux_lemma =>
                    have hrt_ : zTrB b_ n_ (ze Mz 81 4).toNat := by obtain ⟨T, mv_, P_, q_, q2_, nm_, hTt, hGB, hTm_, hHd_, hrb_, hrl_, hnm_, hmq_, hPq_, hCd_⟩ := id hLT_; exact Or.inr (Or.inr ⟨P_, q_, q2_, mv_, T, hHd_, hrb_, hTt, hTm_, hrl_.tr (zRg.st (zls_ef hnk_ (by (exact zo_806 h5_ hc_99))))⟩)
                    refine zw_aload_n (pc := 102) (n := 0) (x := 81) rfl (zdal_p dlC_M_reads_72 (i := 22) rfl) ?_
                    refine zw_iconst (pc := 103) (v := Int32.ofInt 2) (by decide) (zdal_p dlC_M_reads_72 (i := 23) rfl) ?_
                    refine zr_callV (hf_N1_.w hW) hf_N1_.x (pc := 104) [.int (Int32.ofInt 2)] [] l_M_190 (c_M_wrongF l N1_ (hf_N1_.w hW) 2 (by decide) (by decide) (show 1 ≤ 2 by first | (decide) | assumption)) rfl rfl rfl (by decide) (Nat.le_of_ble_eq_true rfl) (zdal_p dlC_M_reads_73 (i := 0) rfl) ?_
                    rintro _ N16_ ⟨rfl, hsN16_, hp0_N16_⟩
                    replace hp0_N16_ : 1 ≤ ze N16_ 81 7 := hp0_N16_
                    have hf_N16_ := hf_N1_.tr hsN16_ (by decide +kernel) (by decide +kernel)
                    have e3_N16_ : ze N16_ 81 3 = ze N1_ 81 3 := hsN16_.e (by decide)
                    have e4_N16_ : ze N16_ 81 4 = ze N1_ 81 4 := hsN16_.e (by decide)
                    have e5_N16_ : ze N16_ 81 5 = ze N1_ 81 5 := hsN16_.e (by decide)
                    have r7_N16_ := ze_r N16_ 81 7
                    have e12_N16_ : ze N16_ 81 12 = ze N1_ 81 12 := hsN16_.e (by decide)
                    have e13_N16_ : ze N16_ 81 13 = ze N1_ 81 13 := hsN16_.e (by decide)
                    have e14_N16_ : ze N16_ 81 14 = ze N1_ 81 14 := hsN16_.e (by decide)
                    have c19_ : zRt b_ n_ N16_ := zRt.fr hsN16_ i3_ (by decide +kernel) (by decide +kernel)
                    have c20_ : zB 83 24 0 5 N16_ := zB.fr hsN16_ i9_ (by decide +kernel) (by decide +kernel)
                    have c21_ : zB 85 144 0 5 N16_ := zB.fr hsN16_ i10_ (by decide +kernel) (by decide +kernel)
                    show zW l m_M_reads (zn Mz + 0, zw Mz + 0) N16_ 107 [some (.ref 81)] [] _
                    exact zr_vret (pc := 107) rfl hf_N16_ ⟨c19_, (show 0 ≤ ze N16_ 81 13 by first | (exact zo_720 e13_N16_ i4_) | assumption), (show ze N16_ 81 13 ≤ 4 by first | (exact zo_807 e13_N16_ i5_) | assumption), (show 0 ≤ ze N16_ 81 14 by first | (exact zo_720 e14_N16_ i6_) | assumption), (show ze N16_ 81 14 ≤ 8 by first | (exact zo_808 e14_N16_ i7_) | assumption), c20_, c21_, (show ((1 ≤ ze N16_ 81 7 ∧ zTrB b_ n_ (ze Mz 81 4).toNat) ∨ (ze N16_ 81 7 = 0 ∧ 1 ≤ ze N16_ 81 12 ∧ ze N16_ 81 12 ≤ 6 ∧ zPm N16_ ∧ zFin N16_ ∧ (∃ T : zGT, ∃ mv : List Nat, ∃ P : Nat, ∃ nm : List (Int × (Nat → Int)), T ∈ gTabs ∧ zGB T N16_ ∧ zTrN b_ n_ (ze Mz 81 4).toNat P mv T nm ∧ zMvs N16_ = mv ∧ ze N16_ 81 12 = (P : Int) ∧ zCdS (P : Int) mv T N16_ ∧ zRNm nm (gF T).length (gmkI T) b_ n_ N16_))) from Or.inl (⟨(show 1 ≤ ze N16_ 81 7 by first | (exact hp0_N16_) | assumption | exact hrt_), (show zTrB b_ n_ (ze Mz 81 4).toNat by first | (exact hrt_) | assumption | exact hrt_)⟩))⟩ (zdal_p dlC_M_reads_73 (i := 1) rfl)
        · exfalso; (exact zo_260 hl88_0_i8_ ha89_0_hp0_N14_)
  have j_60 : ∀ (N22_ : zMem) (hs23_ : zFr [3, 4, 5, 6, 7, 8, 11, 12, 13, 20] [83, 85, 86, 87, 88] Mz N22_) (i24_ : zRt b_ n_ N22_) (i25_ : 0 ≤ ze N22_ 81 13) (i26_ : ze N22_ 81 13 ≤ 4) (i27_ : ze N22_ 81 14 = 0) (i28_ : (1 ≤ ze N22_ 81 7 ∧ zTrB b_ n_ (ze Mz 81 4).toNat) ∨ (ze N22_ 81 7 = 0 ∧ 1 ≤ ze N22_ 81 12 ∧ ze N22_ 81 12 ≤ 6 ∧ zPm N22_ ∧ zFin N22_ ∧ (∃ q : Nat, zHd b_ n_ (ze Mz 81 4).toNat (ze N22_ 81 12).toNat q ∧ zRg (zbs b_ n_ (ze N22_ 81 12).toNat) (0, q, []) (1, (ze N22_ 81 4).toNat, zMvs N22_)))) (i29_ : zB 83 24 0 5 N22_) (i30_ : zB 85 144 0 5 N22_), zW l m_M_reads (zn Mz + 0, zw Mz + 0) N22_ 60 [some (.ref 81)] [] (zpV [3, 4, 5, 6, 7, 8, 11, 12, 13, 14, 20, 25, 26, 38, 39, 41, 42, 43] [83, 85, 86, 87, 88, 89, 90, 91, 92, 93, 94, 95, 96, 97, 100, 101, 102] Mz (fun N => zRt b_ n_ N ∧ 0 ≤ ze N 81 13 ∧ ze N 81 13 ≤ 4 ∧ 0 ≤ ze N 81 14 ∧ ze N 81 14 ≤ 8 ∧ zB 83 24 0 5 N ∧ zB 85 144 0 5 N ∧ (((1 ≤ ze N 81 7 ∧ zTrB b_ n_ (ze Mz 81 4).toNat) ∨ (ze N 81 7 = 0 ∧ 1 ≤ ze N 81 12 ∧ ze N 81 12 ≤ 6 ∧ zPm N ∧ zFin N ∧ (∃ T : zGT, ∃ mv : List Nat, ∃ P : Nat, ∃ nm : List (Int × (Nat → Int)), T ∈ gTabs ∧ zGB T N ∧ zTrN b_ n_ (ze Mz 81 4).toNat P mv T nm ∧ zMvs N = mv ∧ ze N 81 12 = (P : Int) ∧ zCdS (P : Int) mv T N ∧ zRNm nm (gF T).length (gmkI T) b_ n_ N)))))) := by
    intro N22_ hs23_ i24_ i25_ i26_ i27_ i28_ i29_ i30_
    have hf_N22_ := hf.tr hs23_ (by decide +kernel) (by decide +kernel)
    have hb0_N22_ : zFr [3, 4, 5, 6, 7, 8, 11, 12, 13, 14, 20, 25, 26, 38, 39, 41, 42, 43] [83, 85, 86, 87, 88, 89, 90, 91, 92, 93, 94, 95, 96, 97, 100, 101, 102] Mz N22_ := zFr.rf.tr hs23_ (by decide +kernel) (by decide +kernel)
    have r3_N22_ := ze_r N22_ 81 3
    have r4_N22_ := ze_r N22_ 81 4
    have r5_N22_ := ze_r N22_ 81 5
    have r7_N22_ := ze_r N22_ 81 7
    have r12_N22_ := ze_r N22_ 81 12
    have r13_N22_ := ze_r N22_ 81 13
    have e14_N22_ : ze N22_ 81 14 = ze Mz 81 14 := hs23_.e (by decide)
    have c31_ : zRb b_ n_ N22_ := zRb.fr hs23_ p0_ (by decide +kernel) (by decide +kernel)
    rcases i28_ with ⟨hl60_0_i28_, hl60_1_i28_⟩ | ⟨hl60_0_i28_, hl60_1_i28_, hl60_2_i28_, hl60_3_i28_, hl60_4_i28_, hl60_5_i28_⟩
    · as_aux_lemma =>
        refine zw_aload_n (pc := 60) (n := 0) (x := 81) rfl (zdal_p dlC_M_reads_72 (i := 4) rfl) ?_
        refine zr_callV (hf_N22_.w hW) hf_N22_.x (pc := 61) [] [] l_M_183 (c_M_isGood l N22_ (hf_N22_.w hW) ) rfl rfl rfl (by decide) (Nat.le_of_ble_eq_true rfl) (zdal_p dlC_M_reads_72 (i := 5) rfl) ?_
        rintro _ N32_ ⟨v33_, rfl, ⟨hv33_a, hv33_b⟩, hsN32_, hp0_N32_⟩
        obtain rfl := hsN32_.eq.symm
        replace hp0_N32_ : ((v33_ = 1 ∧ ze N22_ 81 7 = 0) ∨ (v33_ = 0 ∧ ze N22_ 81 7 ≠ 0)) := hp0_N32_
        rcases hp0_N32_ with ⟨rfl, ha61_0_hp0_N32_⟩ | ⟨rfl, ha61_0_hp0_N32_⟩
        · exfalso; (exact zo_281 ha61_0_hp0_N32_ hl60_0_i28_)
        · as_aux_lemma =>
            show zW l m_M_reads (zn Mz + 0, zw Mz + 0) N22_ 64 [some (.ref 81)] [.int (Int32.ofInt 0)] _
            refine zr_if_eq (pc := 64) (tgt := 71) ⟨(by decide), (by decide)⟩ (by decide) (zdal_p dlC_M_reads_72 (i := 6) rfl) (fun hc_64 => ?_) (fun hc_64 => ?_)
            · as_aux_lemma =>
                have lp_71 : ∀ (n : Nat) (N34_ : zMem) (hs35_ : zFr [3, 4, 5, 6, 7, 8, 11, 14, 38, 39, 41, 42, 43] [95, 96, 97, 100, 101, 102] N22_ N34_) (i36_ : zRt b_ n_ N34_) (i37_ : 0 ≤ ze N34_ 81 13) (i38_ : ze N34_ 81 13 ≤ 4) (i39_ : 0 ≤ ze N34_ 81 14) (i40_ : ze N34_ 81 14 ≤ 8) (i41_ : (1 ≤ ze N34_ 81 7 ∧ zTrB b_ n_ (ze Mz 81 4).toNat) ∨ (ze N34_ 81 7 = 0 ∧ 1 ≤ ze N34_ 81 12 ∧ ze N34_ 81 12 ≤ 6 ∧ zPm N34_ ∧ zFin N34_ ∧ (∃ T : zGT, ∃ mv : List Nat, ∃ P q q2 : Nat, ∃ nm : List (Int × (Nat → Int)), T ∈ gTabs ∧ zGB T N34_ ∧ zTm mv T ∧ zHd b_ n_ (ze Mz 81 4).toNat P q ∧ zRg (zbs b_ n_ P) (0, q, []) (1, q2, mv) ∧ zRg (zls b_ n_ (gF T).length (gmkI T)) (0, q2, []) (0, (ze N34_ 81 4).toNat, nm) ∧ zRNm nm (gF T).length (gmkI T) b_ n_ N34_ ∧ zMvs N34_ = mv ∧ ze N34_ 81 12 = (P : Int) ∧ zCdS (P : Int) mv T N34_))), zmF n_ N34_ < n → zW l m_M_reads (zn Mz + 0, zw Mz + 0) N34_ 71 [some (.ref 81)] [] (zpV [3, 4, 5, 6, 7, 8, 11, 12, 13, 14, 20, 25, 26, 38, 39, 41, 42, 43] [83, 85, 86, 87, 88, 89, 90, 91, 92, 93, 94, 95, 96, 97, 100, 101, 102] Mz (fun N => zRt b_ n_ N ∧ 0 ≤ ze N 81 13 ∧ ze N 81 13 ≤ 4 ∧ 0 ≤ ze N 81 14 ∧ ze N 81 14 ≤ 8 ∧ zB 83 24 0 5 N ∧ zB 85 144 0 5 N ∧ (((1 ≤ ze N 81 7 ∧ zTrB b_ n_ (ze Mz 81 4).toNat) ∨ (ze N 81 7 = 0 ∧ 1 ≤ ze N 81 12 ∧ ze N 81 12 ≤ 6 ∧ zPm N ∧ zFin N ∧ (∃ T : zGT, ∃ mv : List Nat, ∃ P : Nat, ∃ nm : List (Int × (Nat → Int)), T ∈ gTabs ∧ zGB T N ∧ zTrN b_ n_ (ze Mz 81 4).toNat P mv T nm ∧ zMvs N = mv ∧ ze N 81 12 = (P : Int) ∧ zCdS (P : Int) mv T N ∧ zRNm nm (gF T).length (gmkI T) b_ n_ N)))))) := by
                  clear hv33_a hv33_b
                  intro n
                  induction n with
                  | zero =>
                    intro N34_ hs35_ i36_ i37_ i38_ i39_ i40_ i41_ h0
                    exact absurd h0 (Nat.not_lt_zero _)
                  | succ n ih_71 =>
                    intro N34_ hs35_ i36_ i37_ i38_ i39_ i40_ i41_ hlt_71
                    have hf_N34_ := hf_N22_.tr hs35_ (by decide +kernel) (by decide +kernel)
                    have hb0_N34_ := hb0_N22_.tr hs35_ (by decide +kernel) (by decide +kernel)
                    have r3_N34_ := ze_r N34_ 81 3
                    have r4_N34_ := ze_r N34_ 81 4
                    have r5_N34_ := ze_r N34_ 81 5
                    have r7_N34_ := ze_r N34_ 81 7
                    have e12_N34_ : ze N34_ 81 12 = ze N22_ 81 12 := hs35_.e (by decide)
                    have e13_N34_ : ze N34_ 81 13 = ze N22_ 81 13 := hs35_.e (by decide)
                    have r14_N34_ := ze_r N34_ 81 14
                    have c42_ : zRb b_ n_ N34_ := zRb.fr hs35_ c31_ (by decide +kernel) (by decide +kernel)
                    have c43_ : zB 83 24 0 5 N34_ := zB.fr hs35_ i29_ (by decide +kernel) (by decide +kernel)
                    have c44_ : zB 85 144 0 5 N34_ := zB.fr hs35_ i30_ (by decide +kernel) (by decide +kernel)
                    rcases i41_ with ⟨hl71_0_i41_, hl71_1_i41_⟩ | ⟨hl71_0_i41_, hl71_1_i41_, hl71_2_i41_, hl71_3_i41_, hl71_4_i41_, hl71_5_i41_⟩
                    · refine zw_aload_n (pc := 71) (n := 0) (x := 81) rfl (zdal_p dlC_M_reads_72 (i := 9) rfl) ?_
                      refine zr_ldc2 (pc := 72) (n := 7103860) (by decide) k_M_179 (zdal_p dlC_M_reads_72 (i := 10) rfl) ?_
                      refine zr_callV (hf_N34_.w hW) hf_N34_.x (pc := 75) [.long (Int64.ofInt 7103860)] [] l_M_312 (c_M_isWordF l N34_ (hf_N34_.w hW) 7103860 (by decide) (by decide) b_ n_ i36_) rfl rfl rfl (by decide) (Nat.le_of_ble_eq_true rfl) (zdal_p dlC_M_reads_72 (i := 11) rfl) ?_
                      rintro _ N45_ ⟨v46_, rfl, ⟨hv46_a, hv46_b⟩, hsN45_, hp0_N45_⟩
                      obtain rfl := hsN45_.eq.symm
                      replace hp0_N45_ : ((v46_ = 1 ∧ ze N34_ 81 7 = 0 ∧ zkd b_ n_ (ze N34_ 81 4).toNat = 1 ∧ zke8 b_ n_ (ze N34_ 81 4).toNat = 7103860) ∨ (v46_ = 0 ∧ (ze N34_ 81 7 = 0 → ¬ (zkd b_ n_ (ze N34_ 81 4).toNat = 1 ∧ zke8 b_ n_ (ze N34_ 81 4).toNat = 7103860)))) := hp0_N45_
                      rcases hp0_N45_ with ⟨rfl, ha75_0_hp0_N45_, ha75_1_hp0_N45_, ha75_2_hp0_N45_⟩ | ⟨rfl, ha75_0_hp0_N45_⟩
                      · exfalso; (exact zo_281 ha75_0_hp0_N45_ hl71_0_i41_)
                      · show zW l m_M_reads (zn Mz + 0, zw Mz + 0) N34_ 78 [some (.ref 81)] [.int (Int32.ofInt 0)] _
                        refine zr_if_eq (pc := 78) (tgt := 88) ⟨(by decide), (by decide)⟩ (by decide) d_M_reads_78 (fun hc_78 => ?_) (fun hc_78 => ?_)
                        · exact j_88 N34_ hb0_N34_ i36_ (show 0 ≤ ze N34_ 81 13 by first | (exact i37_) | assumption) (show ze N34_ 81 13 ≤ 4 by first | (exact i38_) | assumption) (show 0 ≤ ze N34_ 81 14 by first | (exact i39_) | assumption) (show ze N34_ 81 14 ≤ 8 by first | (exact i40_) | assumption) (show (1 ≤ ze N34_ 81 7 ∧ zTrB b_ n_ (ze Mz 81 4).toNat) ∨ (ze N34_ 81 7 = 0 ∧ 1 ≤ ze N34_ 81 12 ∧ ze N34_ 81 12 ≤ 6 ∧ zPm N34_ ∧ zFin N34_ ∧ (∃ T : zGT, ∃ mv : List Nat, ∃ P q q2 : Nat, ∃ nm : List (Int × (Nat → Int)), T ∈ gTabs ∧ zGB T N34_ ∧ zTm mv T ∧ zHd b_ n_ (ze Mz 81 4).toNat P q ∧ zRg (zbs b_ n_ P) (0, q, []) (1, q2, mv) ∧ zRg (zls b_ n_ (gF T).length (gmkI T)) (0, q2, []) (0, (ze N34_ 81 4).toNat, nm) ∧ zRNm nm (gF T).length (gmkI T) b_ n_ N34_ ∧ zMvs N34_ = mv ∧ ze N34_ 81 12 = (P : Int) ∧ zCdS (P : Int) mv T N34_) ∧ ¬ (zkd b_ n_ (ze N34_ 81 4).toNat = 1 ∧ zkey b_ n_ (ze N34_ 81 4).toNat = zkw 2)) from Or.inl (⟨(show 1 ≤ ze N34_ 81 7 by first | (exact hl71_0_i41_) | assumption | exact hrt_ | exact hrt2_ | exact hmx_ | exact hPm_ | exact hFn_ | exact hLT2_ | exact hnk_), (show zTrB b_ n_ (ze Mz 81 4).toNat by first | (exact hl60_1_i28_) | assumption | exact hrt_ | exact hrt2_ | exact hmx_ | exact hPm_ | exact hFn_ | exact hLT2_ | exact hnk_)⟩)) c43_ c44_
                        · exact absurd hc_78 (by decide)
                    · as_aux_lemma =>
                        have hPm_ := hl71_3_i41_
                        have hFn_ := hl71_4_i41_
                        have hLT_ := hl71_5_i41_
                        obtain ⟨T, mv_, P_, q_, q2_, nm_, hTt, hGB, hTm_, hHd_, hrb_, hrl_, hnm_, hmq_, hPq_, hCd_⟩ := id hLT_
                        have hB85_ : zB 85 144 0 5 N34_ := hGB.2.1
                        have hRm_ := hGB.rm
                        refine zw_aload_n (pc := 71) (n := 0) (x := 81) rfl (zdal_p dlC_M_reads_72 (i := 9) rfl) ?_
                        refine zr_ldc2 (pc := 72) (n := 7103860) (by decide) k_M_179 (zdal_p dlC_M_reads_72 (i := 10) rfl) ?_
                        refine zr_callV (hf_N34_.w hW) hf_N34_.x (pc := 75) [.long (Int64.ofInt 7103860)] [] l_M_312 (c_M_isWordF l N34_ (hf_N34_.w hW) 7103860 (by decide) (by decide) b_ n_ i36_) rfl rfl rfl (by decide) (Nat.le_of_ble_eq_true rfl) (zdal_p dlC_M_reads_72 (i := 11) rfl) ?_
                        rintro _ N47_ ⟨v48_, rfl, ⟨hv48_a, hv48_b⟩, hsN47_, hp0_N47_⟩
                        obtain rfl := hsN47_.eq.symm
                        replace hp0_N47_ : ((v48_ = 1 ∧ ze N34_ 81 7 = 0 ∧ zkd b_ n_ (ze N34_ 81 4).toNat = 1 ∧ zke8 b_ n_ (ze N34_ 81 4).toNat = 7103860) ∨ (v48_ = 0 ∧ (ze N34_ 81 7 = 0 → ¬ (zkd b_ n_ (ze N34_ 81 4).toNat = 1 ∧ zke8 b_ n_ (ze N34_ 81 4).toNat = 7103860)))) := hp0_N47_
                        rcases hp0_N47_ with ⟨rfl, ha75_0_hp0_N47_, ha75_1_hp0_N47_, ha75_2_hp0_N47_⟩ | ⟨rfl, ha75_0_hp0_N47_⟩
                        · as_aux_lemma =>
                            have hk1_ := ha75_1_hp0_N47_
                            have hks_ := (zke8_w hk1_ (i := 2) (by decide)).mp ha75_2_hp0_N47_
                            show zW l m_M_reads (zn Mz + 0, zw Mz + 0) N34_ 78 [some (.ref 81)] [.int (Int32.ofInt 1)] _
                            refine zr_if_eq (pc := 78) (tgt := 88) ⟨(by decide), (by decide)⟩ (by decide) d_M_reads_78 (fun hc_78 => ?_) (fun hc_78 => ?_)
                            · exact absurd hc_78 (by decide)
                            · as_aux_lemma =>
                                refine zw_aload_n (pc := 81) (n := 0) (x := 81) rfl (zdal_p dlC_M_reads_72 (i := 13) rfl) ?_
                                refine zr_callV (hf_N34_.w hW) hf_N34_.x (pc := 82) [] [] l_M_364 (c_M_letLineF l N34_ (hf_N34_.w hW) (gF T).length (gmkI T) (gT_zTA hTt) b_ n_ nm_ hRm_ c42_ i36_ hnm_ (show ze N34_ 81 7 = 0 by first | (exact hl71_0_i41_) | assumption) (show zkd b_ n_ (ze N34_ 81 4).toNat = 1 by first | (exact ha75_1_hp0_N47_) | assumption) (show zkey b_ n_ (ze N34_ 81 4).toNat = zkw 2 by first | (exact hks_) | assumption)) rfl rfl rfl (by decide) (Nat.le_of_ble_eq_true rfl) (zdal_p dlC_M_reads_72 (i := 14) rfl) ?_
                                rintro _ N49_ ⟨rfl, hsN49_, ⟨hp0_N49_, hp1_N49_, hp2_N49_, hp3_N49_⟩⟩
                                have hf_N49_ := hf_N34_.tr hsN49_ (by decide +kernel) (by decide +kernel)
                                have hb0_N49_ := hb0_N34_.tr hsN49_ (by decide +kernel) (by decide +kernel)
                                have hb1_N49_ := hs35_.tr hsN49_ (by decide +kernel) (by decide +kernel)
                                have r3_N49_ := ze_r N49_ 81 3
                                have r4_N49_ := ze_r N49_ 81 4
                                have r5_N49_ := ze_r N49_ 81 5
                                have r7_N49_ := ze_r N49_ 81 7
                                have e12_N49_ : ze N49_ 81 12 = ze N34_ 81 12 := hsN49_.e (by decide)
                                have e13_N49_ : ze N49_ 81 13 = ze N34_ 81 13 := hsN49_.e (by decide)
                                have r14_N49_ := ze_r N49_ 81 14
                                have c54_ : zPm N49_ := zPm.fr hsN49_ hPm_ (by decide +kernel) (by decide +kernel)
                                have c55_ : zFin N49_ := zFin.fr hsN49_ hFn_ (by decide +kernel) (by decide +kernel)
                                have c56_ : zGB T N49_ := zGB.fr hsN49_ hGB (by decide +kernel) (by decide +kernel)
                                have c58_ : zCdS (P_ : Int) mv_ T N49_ := zCdS.fr hsN49_ hCd_ (by decide +kernel) (by decide +kernel)
                                rcases hp3_N49_ with ⟨ha82_0_hp3_N49_, ha82_1_hp3_N49_⟩ | ⟨ha82_0_hp3_N49_, ha82_1_hp3_N49_, ha82_2_hp3_N49_⟩
                                · have hrt_ : zTrB b_ n_ (ze Mz 81 4).toNat := Or.inr (Or.inr ⟨P_, q_, q2_, mv_, T, hHd_, hrb_, hTt, hTm_, hrl_.tr (zRg.st ha82_1_hp3_N49_)⟩)
                                  show zW l m_M_reads (zn Mz + 0, zw Mz + 0) N49_ 85 [some (.ref 81)] [] _
                                  refine zw_goto (pc := 85) (tgt := 71) (by decide) (zdal_p dlC_M_reads_72 (i := 15) rfl) ?_
                                  exact ih_71 N49_ hb1_N49_ hp0_N49_ (show 0 ≤ ze N49_ 81 13 by first | (exact zo_720 e13_N49_ i37_) | assumption) (show ze N49_ 81 13 ≤ 4 by first | (exact zo_807 e13_N49_ i38_) | assumption) (show 0 ≤ ze N49_ 81 14 by first | (exact hp1_N49_) | assumption) (show ze N49_ 81 14 ≤ 8 by first | (exact hp2_N49_) | assumption) (show (1 ≤ ze N49_ 81 7 ∧ zTrB b_ n_ (ze Mz 81 4).toNat) ∨ (ze N49_ 81 7 = 0 ∧ 1 ≤ ze N49_ 81 12 ∧ ze N49_ 81 12 ≤ 6 ∧ zPm N49_ ∧ zFin N49_ ∧ (∃ T : zGT, ∃ mv : List Nat, ∃ P q q2 : Nat, ∃ nm : List (Int × (Nat → Int)), T ∈ gTabs ∧ zGB T N49_ ∧ zTm mv T ∧ zHd b_ n_ (ze Mz 81 4).toNat P q ∧ zRg (zbs b_ n_ P) (0, q, []) (1, q2, mv) ∧ zRg (zls b_ n_ (gF T).length (gmkI T)) (0, q2, []) (0, (ze N49_ 81 4).toNat, nm) ∧ zRNm nm (gF T).length (gmkI T) b_ n_ N49_ ∧ zMvs N49_ = mv ∧ ze N49_ 81 12 = (P : Int) ∧ zCdS (P : Int) mv T N49_)) from Or.inl (⟨(show 1 ≤ ze N49_ 81 7 by first | (exact ha82_0_hp3_N49_) | assumption | exact hrt_ | exact hmv2_ | exact hPm2_ | exact hFn2_ | exact hLT3_ | exact hPb_ | exact hFb_), (show zTrB b_ n_ (ze Mz 81 4).toNat by first | (exact hl60_1_i28_) | assumption | exact hrt_ | exact hmv2_ | exact hPm2_ | exact hFn2_ | exact hLT3_ | exact hPb_ | exact hFb_)⟩)) (by have m1_ := zmF_c n_ N49_; have m2_ := zmF_c n_ N34_; have m3_ := hp0_N49_.x; omega)
                                · obtain ⟨nm2_, hls_, hnm2_⟩ := id ha82_1_hp3_N49_
                                  have hlt2_ := ha82_2_hp3_N49_
                                  have hLT3_ : (∃ T : zGT, ∃ mv : List Nat, ∃ P q q2 : Nat, ∃ nm : List (Int × (Nat → Int)), T ∈ gTabs ∧ zGB T N49_ ∧ zTm mv T ∧ zHd b_ n_ (ze Mz 81 4).toNat P q ∧ zRg (zbs b_ n_ P) (0, q, []) (1, q2, mv) ∧ zRg (zls b_ n_ (gF T).length (gmkI T)) (0, q2, []) (0, (ze N49_ 81 4).toNat, nm) ∧ zRNm nm (gF T).length (gmkI T) b_ n_ N49_ ∧ zMvs N49_ = mv ∧ ze N49_ 81 12 = (P : Int) ∧ zCdS (P : Int) mv T N49_) := ⟨T, mv_, P_, q_, q2_, nm2_, hTt, c56_, hTm_, hHd_, hrb_, hrl_.tr (zRg.st hls_), hnm2_, (zMvs_f hsN49_ (by decide +kernel) (by decide +kernel)).trans hmq_, by (exact zo_809 e12_N49_ hPq_ hl71_2_i41_), c58_⟩
                                  have hln_ := hnm2_.1
                                  have hPb_ : zPm N49_ := c54_
                                  have hFb_ : zFin N49_ := c55_
                                  show zW l m_M_reads (zn Mz + 0, zw Mz + 0) N49_ 85 [some (.ref 81)] [] _
                                  refine zw_goto (pc := 85) (tgt := 71) (by decide) (zdal_p dlC_M_reads_72 (i := 15) rfl) ?_
                                  exact ih_71 N49_ hb1_N49_ hp0_N49_ (show 0 ≤ ze N49_ 81 13 by first | (exact zo_720 e13_N49_ i37_) | assumption) (show ze N49_ 81 13 ≤ 4 by first | (exact zo_807 e13_N49_ i38_) | assumption) (show 0 ≤ ze N49_ 81 14 by first | (exact hp1_N49_) | assumption) (show ze N49_ 81 14 ≤ 8 by first | (exact hp2_N49_) | assumption) (show (1 ≤ ze N49_ 81 7 ∧ zTrB b_ n_ (ze Mz 81 4).toNat) ∨ (ze N49_ 81 7 = 0 ∧ 1 ≤ ze N49_ 81 12 ∧ ze N49_ 81 12 ≤ 6 ∧ zPm N49_ ∧ zFin N49_ ∧ (∃ T : zGT, ∃ mv : List Nat, ∃ P q q2 : Nat, ∃ nm : List (Int × (Nat → Int)), T ∈ gTabs ∧ zGB T N49_ ∧ zTm mv T ∧ zHd b_ n_ (ze Mz 81 4).toNat P q ∧ zRg (zbs b_ n_ P) (0, q, []) (1, q2, mv) ∧ zRg (zls b_ n_ (gF T).length (gmkI T)) (0, q2, []) (0, (ze N49_ 81 4).toNat, nm) ∧ zRNm nm (gF T).length (gmkI T) b_ n_ N49_ ∧ zMvs N49_ = mv ∧ ze N49_ 81 12 = (P : Int) ∧ zCdS (P : Int) mv T N49_)) from Or.inr (⟨(show ze N49_ 81 7 = 0 by first | (exact ha82_0_hp3_N49_) | assumption | exact hrt_ | exact hmv2_ | exact hPm2_ | exact hFn2_ | exact hLT3_ | exact hPb_ | exact hFb_), (show 1 ≤ ze N49_ 81 12 by first | (exact zo_533 e12_N49_ hl71_1_i41_) | assumption | exact hrt_ | exact hmv2_ | exact hPm2_ | exact hFn2_ | exact hLT3_ | exact hPb_ | exact hFb_), (show ze N49_ 81 12 ≤ 6 by first | (exact zo_810 e12_N49_ hl71_2_i41_) | assumption | exact hrt_ | exact hmv2_ | exact hPm2_ | exact hFn2_ | exact hLT3_ | exact hPb_ | exact hFb_), (show zPm N49_ by first | (exact c54_) | assumption | exact hrt_ | exact hmv2_ | exact hPm2_ | exact hFn2_ | exact hLT3_ | exact hPb_ | exact hFb_), (show zFin N49_ by first | (exact c55_) | assumption | exact hrt_ | exact hmv2_ | exact hPm2_ | exact hFn2_ | exact hLT3_ | exact hPb_ | exact hFb_), (show (∃ T : zGT, ∃ mv : List Nat, ∃ P q q2 : Nat, ∃ nm : List (Int × (Nat → Int)), T ∈ gTabs ∧ zGB T N49_ ∧ zTm mv T ∧ zHd b_ n_ (ze Mz 81 4).toNat P q ∧ zRg (zbs b_ n_ P) (0, q, []) (1, q2, mv) ∧ zRg (zls b_ n_ (gF T).length (gmkI T)) (0, q2, []) (0, (ze N49_ 81 4).toNat, nm) ∧ zRNm nm (gF T).length (gmkI T) b_ n_ N49_ ∧ zMvs N49_ = mv ∧ ze N49_ 81 12 = (P : Int) ∧ zCdS (P : Int) mv T N49_) by first | (exact hLT3_) | assumption | exact hrt_ | exact hmv2_ | exact hPm2_ | exact hFn2_ | exact hLT3_ | exact hPb_ | exact hFb_)⟩)) (by have m1_ := zmF_c n_ N49_; have m2_ := zmF_c n_ N34_; have m3_ := hp0_N49_.x; omega)
                        · have hnk_ : ¬ (zkd b_ n_ (ze N34_ 81 4).toNat = 1 ∧ zkey b_ n_ (ze N34_ 81 4).toNat = zkw 2) := fun q_ => ha75_0_hp0_N47_ (by (exact hl71_0_i41_)) ⟨q_.1, (zke8_w q_.1 (i := 2) (by decide)).mpr q_.2⟩
                          have hLT2_ := hLT_
                          show zW l m_M_reads (zn Mz + 0, zw Mz + 0) N34_ 78 [some (.ref 81)] [.int (Int32.ofInt 0)] _
                          refine zr_if_eq (pc := 78) (tgt := 88) ⟨(by decide), (by decide)⟩ (by decide) d_M_reads_78 (fun hc_78 => ?_) (fun hc_78 => ?_)
                          · exact j_88 N34_ hb0_N34_ i36_ (show 0 ≤ ze N34_ 81 13 by first | (exact i37_) | assumption) (show ze N34_ 81 13 ≤ 4 by first | (exact i38_) | assumption) (show 0 ≤ ze N34_ 81 14 by first | (exact i39_) | assumption) (show ze N34_ 81 14 ≤ 8 by first | (exact i40_) | assumption) (show (1 ≤ ze N34_ 81 7 ∧ zTrB b_ n_ (ze Mz 81 4).toNat) ∨ (ze N34_ 81 7 = 0 ∧ 1 ≤ ze N34_ 81 12 ∧ ze N34_ 81 12 ≤ 6 ∧ zPm N34_ ∧ zFin N34_ ∧ (∃ T : zGT, ∃ mv : List Nat, ∃ P q q2 : Nat, ∃ nm : List (Int × (Nat → Int)), T ∈ gTabs ∧ zGB T N34_ ∧ zTm mv T ∧ zHd b_ n_ (ze Mz 81 4).toNat P q ∧ zRg (zbs b_ n_ P) (0, q, []) (1, q2, mv) ∧ zRg (zls b_ n_ (gF T).length (gmkI T)) (0, q2, []) (0, (ze N34_ 81 4).toNat, nm) ∧ zRNm nm (gF T).length (gmkI T) b_ n_ N34_ ∧ zMvs N34_ = mv ∧ ze N34_ 81 12 = (P : Int) ∧ zCdS (P : Int) mv T N34_) ∧ ¬ (zkd b_ n_ (ze N34_ 81 4).toNat = 1 ∧ zkey b_ n_ (ze N34_ 81 4).toNat = zkw 2)) from Or.inr (⟨(show ze N34_ 81 7 = 0 by first | (exact hl71_0_i41_) | assumption | exact hrt_ | exact hrt2_ | exact hmx_ | exact hPm_ | exact hFn_ | exact hLT2_ | exact hnk_), (show 1 ≤ ze N34_ 81 12 by first | (exact hl71_1_i41_) | assumption | exact hrt_ | exact hrt2_ | exact hmx_ | exact hPm_ | exact hFn_ | exact hLT2_ | exact hnk_), (show ze N34_ 81 12 ≤ 6 by first | (exact hl71_2_i41_) | assumption | exact hrt_ | exact hrt2_ | exact hmx_ | exact hPm_ | exact hFn_ | exact hLT2_ | exact hnk_), (show zPm N34_ by first | (exact hl71_3_i41_) | assumption | exact hrt_ | exact hrt2_ | exact hmx_ | exact hPm_ | exact hFn_ | exact hLT2_ | exact hnk_), (show zFin N34_ by first | (exact hl71_4_i41_) | assumption | exact hrt_ | exact hrt2_ | exact hmx_ | exact hPm_ | exact hFn_ | exact hLT2_ | exact hnk_), (show (∃ T : zGT, ∃ mv : List Nat, ∃ P q q2 : Nat, ∃ nm : List (Int × (Nat → Int)), T ∈ gTabs ∧ zGB T N34_ ∧ zTm mv T ∧ zHd b_ n_ (ze Mz 81 4).toNat P q ∧ zRg (zbs b_ n_ P) (0, q, []) (1, q2, mv) ∧ zRg (zls b_ n_ (gF T).length (gmkI T)) (0, q2, []) (0, (ze N34_ 81 4).toNat, nm) ∧ zRNm nm (gF T).length (gmkI T) b_ n_ N34_ ∧ zMvs N34_ = mv ∧ ze N34_ 81 12 = (P : Int) ∧ zCdS (P : Int) mv T N34_) by first | (exact hl71_5_i41_) | assumption | exact hrt_ | exact hrt2_ | exact hmx_ | exact hPm_ | exact hFn_ | exact hLT2_ | exact hnk_), (show ¬ (zkd b_ n_ (ze N34_ 81 4).toNat = 1 ∧ zkey b_ n_ (ze N34_ 81 4).toNat = zkw 2) by first | (exact hnk_) | assumption | exact hrt_ | exact hrt2_ | exact hmx_ | exact hPm_ | exact hFn_ | exact hLT2_ | exact hnk_)⟩)) c43_ hB85_
                          · exact absurd hc_78 (by decide)
                exact lp_71 _ N22_ zFr.rf i24_ (show 0 ≤ ze N22_ 81 13 by first | (exact i25_) | assumption) (show ze N22_ 81 13 ≤ 4 by first | (exact i26_) | assumption) (show 0 ≤ ze N22_ 81 14 by first | (exact zo_718 i27_) | assumption) (show ze N22_ 81 14 ≤ 8 by first | (exact zo_811 i27_) | assumption) (show (1 ≤ ze N22_ 81 7 ∧ zTrB b_ n_ (ze Mz 81 4).toNat) ∨ (ze N22_ 81 7 = 0 ∧ 1 ≤ ze N22_ 81 12 ∧ ze N22_ 81 12 ≤ 6 ∧ zPm N22_ ∧ zFin N22_ ∧ (∃ T : zGT, ∃ mv : List Nat, ∃ P q q2 : Nat, ∃ nm : List (Int × (Nat → Int)), T ∈ gTabs ∧ zGB T N22_ ∧ zTm mv T ∧ zHd b_ n_ (ze Mz 81 4).toNat P q ∧ zRg (zbs b_ n_ P) (0, q, []) (1, q2, mv) ∧ zRg (zls b_ n_ (gF T).length (gmkI T)) (0, q2, []) (0, (ze N22_ 81 4).toNat, nm) ∧ zRNm nm (gF T).length (gmkI T) b_ n_ N22_ ∧ zMvs N22_ = mv ∧ ze N22_ 81 12 = (P : Int) ∧ zCdS (P : Int) mv T N22_)) from Or.inl (⟨(show 1 ≤ ze N22_ 81 7 by first | (exact hl60_0_i28_) | assumption | exact hrt_ | exact hrt2_ | exact hmv0_ | exact hP0_ | exact hF0_ | exact hLT0_ | exact hPb_ | exact hFb_), (show zTrB b_ n_ (ze Mz 81 4).toNat by first | (exact hl60_1_i28_) | assumption | exact hrt_ | exact hrt2_ | exact hmv0_ | exact hP0_ | exact hF0_ | exact hLT0_ | exact hPb_ | exact hFb_)⟩)) (Nat.lt_succ_self _)
            · exact absurd hc_64 (by decide)
    · as_aux_lemma =>
        have hPm_ := hl60_3_i28_
        have hFn_ := hl60_4_i28_
        have hmx_ := hl60_5_i28_
        refine zw_aload_n (pc := 60) (n := 0) (x := 81) rfl (zdal_p dlC_M_reads_72 (i := 4) rfl) ?_
        refine zr_callV (hf_N22_.w hW) hf_N22_.x (pc := 61) [] [] l_M_183 (c_M_isGood l N22_ (hf_N22_.w hW) ) rfl rfl rfl (by decide) (Nat.le_of_ble_eq_true rfl) (zdal_p dlC_M_reads_72 (i := 5) rfl) ?_
        rintro _ N59_ ⟨v60_, rfl, ⟨hv60_a, hv60_b⟩, hsN59_, hp0_N59_⟩
        obtain rfl := hsN59_.eq.symm
        replace hp0_N59_ : ((v60_ = 1 ∧ ze N22_ 81 7 = 0) ∨ (v60_ = 0 ∧ ze N22_ 81 7 ≠ 0)) := hp0_N59_
        rcases hp0_N59_ with ⟨rfl, ha61_0_hp0_N59_⟩ | ⟨rfl, ha61_0_hp0_N59_⟩
        · as_aux_lemma =>
            show zW l m_M_reads (zn Mz + 0, zw Mz + 0) N22_ 64 [some (.ref 81)] [.int (Int32.ofInt 1)] _
            refine zr_if_eq (pc := 64) (tgt := 71) ⟨(by decide), (by decide)⟩ (by decide) (zdal_p dlC_M_reads_72 (i := 6) rfl) (fun hc_64 => ?_) (fun hc_64 => ?_)
            · exact absurd hc_64 (by decide)
            · as_aux_lemma =>
                refine zw_aload_n (pc := 67) (n := 0) (x := 81) rfl (zdal_p dlC_M_reads_72 (i := 7) rfl) ?_
                refine zr_callV (hf_N22_.w hW) hf_N22_.x (pc := 68) [] [] l_M_118 (c_M_buildsF l N22_ (hf_N22_.w hW) (show 1 ≤ ze N22_ 81 12 by first | (exact hl60_1_i28_) | assumption) (show ze N22_ 81 12 ≤ 6 by first | (exact hl60_2_i28_) | assumption) (show 0 ≤ ze N22_ 81 13 by first | (exact i25_) | assumption) (show ze N22_ 81 13 ≤ 4 by first | (exact i26_) | assumption) hPm_ hFn_ i29_ i30_) rfl rfl rfl (by decide) (Nat.le_of_ble_eq_true rfl) (zdal_p dlC_M_reads_72 (i := 8) rfl) ?_
                rintro _ N61_ ⟨rfl, hsN61_, hp0_N61_⟩
                replace hp0_N61_ : ∃ T : zGT, T ∈ gTabs ∧ zGB T N61_ ∧ zTm (zMvs N22_) T ∧ zCdS (ze N22_ 81 12) (zMvs N22_) T N61_ := hp0_N61_
                have hf_N61_ := hf_N22_.tr hsN61_ (by decide +kernel) (by decide +kernel)
                have hb0_N61_ := hb0_N22_.tr hsN61_ (by decide +kernel) (by decide +kernel)
                have e3_N61_ : ze N61_ 81 3 = ze N22_ 81 3 := hsN61_.e (by decide)
                have e4_N61_ : ze N61_ 81 4 = ze N22_ 81 4 := hsN61_.e (by decide)
                have e5_N61_ : ze N61_ 81 5 = ze N22_ 81 5 := hsN61_.e (by decide)
                have e7_N61_ : ze N61_ 81 7 = ze N22_ 81 7 := hsN61_.e (by decide)
                have e12_N61_ : ze N61_ 81 12 = ze N22_ 81 12 := hsN61_.e (by decide)
                have e13_N61_ : ze N61_ 81 13 = ze N22_ 81 13 := hsN61_.e (by decide)
                have e14_N61_ : ze N61_ 81 14 = ze N22_ 81 14 := hsN61_.e (by decide)
                have c63_ : zRb b_ n_ N61_ := zRb.fr hsN61_ c31_ (by decide +kernel) (by decide +kernel)
                have c64_ : zRt b_ n_ N61_ := zRt.fr hsN61_ i24_ (by decide +kernel) (by decide +kernel)
                have c65_ : zB 83 24 0 5 N61_ := zB.fr hsN61_ i29_ (by decide +kernel) (by decide +kernel)
                have c66_ : zPm N61_ := zPm.fr hsN61_ hPm_ (by decide +kernel) (by decide +kernel)
                have c67_ : zFin N61_ := zFin.fr hsN61_ hFn_ (by decide +kernel) (by decide +kernel)
                show zW l m_M_reads (zn Mz + 0, zw Mz + 0) N61_ 71 [some (.ref 81)] [] _
                obtain ⟨T, hTt, hGB, hTm_, hCd_⟩ := id hp0_N61_
                have hB85_ : zB 85 144 0 5 N61_ := hGB.2.1
                have hRm_ := hGB.rm
                have hLT0_ : (∃ T : zGT, ∃ mv : List Nat, ∃ P q q2 : Nat, ∃ nm : List (Int × (Nat → Int)), T ∈ gTabs ∧ zGB T N61_ ∧ zTm mv T ∧ zHd b_ n_ (ze Mz 81 4).toNat P q ∧ zRg (zbs b_ n_ P) (0, q, []) (1, q2, mv) ∧ zRg (zls b_ n_ (gF T).length (gmkI T)) (0, q2, []) (0, (ze N61_ 81 4).toNat, nm) ∧ zRNm nm (gF T).length (gmkI T) b_ n_ N61_ ∧ zMvs N61_ = mv ∧ ze N61_ 81 12 = (P : Int) ∧ zCdS (P : Int) mv T N61_) := by obtain ⟨q_, h1_, h2_⟩ := id hmx_; exact ⟨T, _, _, q_, _, [], hTt, hGB, hTm_, h1_, h2_, (by rw [show ze N61_ 81 4 = ze N22_ 81 4 by (exact e4_N61_)]; exact zRg.rf), ⟨by (exact zo_812 e14_N61_ i27_), fun _ => 0, by rw [show (ze N61_ 81 14).toNat = 0 by (exact zo_599 e14_N61_ i27_)]; rfl, fun k_ hk_ => absurd hk_ (by (exact zo_813 e14_N61_ i27_))⟩, zMvs_f hsN61_ (by decide) (by decide), by (exact zo_814 e12_N61_ hl60_1_i28_), hCd_.p (by (exact zo_815 hl60_1_i28_))⟩
                have hPb_ : zPm N61_ := c66_
                have hFb_ : zFin N61_ := c67_
                have lp_71 : ∀ (n : Nat) (N68_ : zMem) (hs69_ : zFr [3, 4, 5, 6, 7, 8, 11, 14, 38, 39, 41, 42, 43] [95, 96, 97, 100, 101, 102] N61_ N68_) (i70_ : zRt b_ n_ N68_) (i71_ : 0 ≤ ze N68_ 81 13) (i72_ : ze N68_ 81 13 ≤ 4) (i73_ : 0 ≤ ze N68_ 81 14) (i74_ : ze N68_ 81 14 ≤ 8) (i75_ : (1 ≤ ze N68_ 81 7 ∧ zTrB b_ n_ (ze Mz 81 4).toNat) ∨ (ze N68_ 81 7 = 0 ∧ 1 ≤ ze N68_ 81 12 ∧ ze N68_ 81 12 ≤ 6 ∧ zPm N68_ ∧ zFin N68_ ∧ (∃ T : zGT, ∃ mv : List Nat, ∃ P q q2 : Nat, ∃ nm : List (Int × (Nat → Int)), T ∈ gTabs ∧ zGB T N68_ ∧ zTm mv T ∧ zHd b_ n_ (ze Mz 81 4).toNat P q ∧ zRg (zbs b_ n_ P) (0, q, []) (1, q2, mv) ∧ zRg (zls b_ n_ (gF T).length (gmkI T)) (0, q2, []) (0, (ze N68_ 81 4).toNat, nm) ∧ zRNm nm (gF T).length (gmkI T) b_ n_ N68_ ∧ zMvs N68_ = mv ∧ ze N68_ 81 12 = (P : Int) ∧ zCdS (P : Int) mv T N68_))), zmF n_ N68_ < n → zW l m_M_reads (zn Mz + 0, zw Mz + 0) N68_ 71 [some (.ref 81)] [] (zpV [3, 4, 5, 6, 7, 8, 11, 12, 13, 14, 20, 25, 26, 38, 39, 41, 42, 43] [83, 85, 86, 87, 88, 89, 90, 91, 92, 93, 94, 95, 96, 97, 100, 101, 102] Mz (fun N => zRt b_ n_ N ∧ 0 ≤ ze N 81 13 ∧ ze N 81 13 ≤ 4 ∧ 0 ≤ ze N 81 14 ∧ ze N 81 14 ≤ 8 ∧ zB 83 24 0 5 N ∧ zB 85 144 0 5 N ∧ (((1 ≤ ze N 81 7 ∧ zTrB b_ n_ (ze Mz 81 4).toNat) ∨ (ze N 81 7 = 0 ∧ 1 ≤ ze N 81 12 ∧ ze N 81 12 ≤ 6 ∧ zPm N ∧ zFin N ∧ (∃ T : zGT, ∃ mv : List Nat, ∃ P : Nat, ∃ nm : List (Int × (Nat → Int)), T ∈ gTabs ∧ zGB T N ∧ zTrN b_ n_ (ze Mz 81 4).toNat P mv T nm ∧ zMvs N = mv ∧ ze N 81 12 = (P : Int) ∧ zCdS (P : Int) mv T N ∧ zRNm nm (gF T).length (gmkI T) b_ n_ N)))))) := by
                  clear hs23_ i24_ i25_ i26_ i27_ i29_ i30_ hf_N22_ hb0_N22_ r3_N22_ r4_N22_ r5_N22_ r7_N22_ r12_N22_ r13_N22_ e14_N22_ c31_ hl60_0_i28_ hl60_1_i28_ hl60_2_i28_ hl60_3_i28_ hl60_4_i28_ hl60_5_i28_ hv60_a hv60_b ha61_0_hp0_N59_ hsN61_ hp0_N61_ e3_N61_ e4_N61_ e5_N61_ e7_N61_ e12_N61_ e13_N61_ e14_N61_
                  intro n
                  induction n with
                  | zero =>
                    intro N68_ hs69_ i70_ i71_ i72_ i73_ i74_ i75_ h0
                    exact absurd h0 (Nat.not_lt_zero _)
                  | succ n ih_71 =>
                    intro N68_ hs69_ i70_ i71_ i72_ i73_ i74_ i75_ hlt_71
                    have hf_N68_ := hf_N61_.tr hs69_ (by decide +kernel) (by decide +kernel)
                    have hb0_N68_ := hb0_N61_.tr hs69_ (by decide +kernel) (by decide +kernel)
                    have r3_N68_ := ze_r N68_ 81 3
                    have r4_N68_ := ze_r N68_ 81 4
                    have r5_N68_ := ze_r N68_ 81 5
                    have r7_N68_ := ze_r N68_ 81 7
                    have e12_N68_ : ze N68_ 81 12 = ze N61_ 81 12 := hs69_.e (by decide)
                    have e13_N68_ : ze N68_ 81 13 = ze N61_ 81 13 := hs69_.e (by decide)
                    have r14_N68_ := ze_r N68_ 81 14
                    have c76_ : zRb b_ n_ N68_ := zRb.fr hs69_ c63_ (by decide +kernel) (by decide +kernel)
                    have c77_ : zB 83 24 0 5 N68_ := zB.fr hs69_ c65_ (by decide +kernel) (by decide +kernel)
                    have c78_ : zPm N68_ := zPm.fr hs69_ c66_ (by decide +kernel) (by decide +kernel)
                    have c79_ : zFin N68_ := zFin.fr hs69_ c67_ (by decide +kernel) (by decide +kernel)
                    have c80_ : zB 85 144 0 5 N68_ := zB.fr hs69_ hB85_ (by decide +kernel) (by decide +kernel)
                    have c81_ : zGB T N68_ := zGB.fr hs69_ hGB (by decide +kernel) (by decide +kernel)
                    rcases i75_ with ⟨hl71_0_i75_, hl71_1_i75_⟩ | ⟨hl71_0_i75_, hl71_1_i75_, hl71_2_i75_, hl71_3_i75_, hl71_4_i75_, hl71_5_i75_⟩
                    · refine zw_aload_n (pc := 71) (n := 0) (x := 81) rfl (zdal_p dlC_M_reads_72 (i := 9) rfl) ?_
                      refine zr_ldc2 (pc := 72) (n := 7103860) (by decide) k_M_179 (zdal_p dlC_M_reads_72 (i := 10) rfl) ?_
                      refine zr_callV (hf_N68_.w hW) hf_N68_.x (pc := 75) [.long (Int64.ofInt 7103860)] [] l_M_312 (c_M_isWordF l N68_ (hf_N68_.w hW) 7103860 (by decide) (by decide) b_ n_ i70_) rfl rfl rfl (by decide) (Nat.le_of_ble_eq_true rfl) (zdal_p dlC_M_reads_72 (i := 11) rfl) ?_
                      rintro _ N83_ ⟨v84_, rfl, ⟨hv84_a, hv84_b⟩, hsN83_, hp0_N83_⟩
                      obtain rfl := hsN83_.eq.symm
                      replace hp0_N83_ : ((v84_ = 1 ∧ ze N68_ 81 7 = 0 ∧ zkd b_ n_ (ze N68_ 81 4).toNat = 1 ∧ zke8 b_ n_ (ze N68_ 81 4).toNat = 7103860) ∨ (v84_ = 0 ∧ (ze N68_ 81 7 = 0 → ¬ (zkd b_ n_ (ze N68_ 81 4).toNat = 1 ∧ zke8 b_ n_ (ze N68_ 81 4).toNat = 7103860)))) := hp0_N83_
                      rcases hp0_N83_ with ⟨rfl, ha75_0_hp0_N83_, ha75_1_hp0_N83_, ha75_2_hp0_N83_⟩ | ⟨rfl, ha75_0_hp0_N83_⟩
                      · exfalso; (exact zo_281 ha75_0_hp0_N83_ hl71_0_i75_)
                      · show zW l m_M_reads (zn Mz + 0, zw Mz + 0) N68_ 78 [some (.ref 81)] [.int (Int32.ofInt 0)] _
                        refine zr_if_eq (pc := 78) (tgt := 88) ⟨(by decide), (by decide)⟩ (by decide) d_M_reads_78 (fun hc_78 => ?_) (fun hc_78 => ?_)
                        · exact j_88 N68_ hb0_N68_ i70_ (show 0 ≤ ze N68_ 81 13 by first | (exact i71_) | assumption) (show ze N68_ 81 13 ≤ 4 by first | (exact i72_) | assumption) (show 0 ≤ ze N68_ 81 14 by first | (exact i73_) | assumption) (show ze N68_ 81 14 ≤ 8 by first | (exact i74_) | assumption) (show (1 ≤ ze N68_ 81 7 ∧ zTrB b_ n_ (ze Mz 81 4).toNat) ∨ (ze N68_ 81 7 = 0 ∧ 1 ≤ ze N68_ 81 12 ∧ ze N68_ 81 12 ≤ 6 ∧ zPm N68_ ∧ zFin N68_ ∧ (∃ T : zGT, ∃ mv : List Nat, ∃ P q q2 : Nat, ∃ nm : List (Int × (Nat → Int)), T ∈ gTabs ∧ zGB T N68_ ∧ zTm mv T ∧ zHd b_ n_ (ze Mz 81 4).toNat P q ∧ zRg (zbs b_ n_ P) (0, q, []) (1, q2, mv) ∧ zRg (zls b_ n_ (gF T).length (gmkI T)) (0, q2, []) (0, (ze N68_ 81 4).toNat, nm) ∧ zRNm nm (gF T).length (gmkI T) b_ n_ N68_ ∧ zMvs N68_ = mv ∧ ze N68_ 81 12 = (P : Int) ∧ zCdS (P : Int) mv T N68_) ∧ ¬ (zkd b_ n_ (ze N68_ 81 4).toNat = 1 ∧ zkey b_ n_ (ze N68_ 81 4).toNat = zkw 2)) from Or.inl (⟨(show 1 ≤ ze N68_ 81 7 by first | (exact hl71_0_i75_) | assumption | exact hrt_ | exact hrt2_ | exact hmx_ | exact hPm_ | exact hFn_ | exact hLT2_ | exact hnk_), (show zTrB b_ n_ (ze Mz 81 4).toNat by first | (exact hl71_1_i75_) | assumption | exact hrt_ | exact hrt2_ | exact hmx_ | exact hPm_ | exact hFn_ | exact hLT2_ | exact hnk_)⟩)) c77_ c80_
                        · exact absurd hc_78 (by decide)
                    · as_aux_lemma =>
                        have hPm_ := hl71_3_i75_
                        have hFn_ := hl71_4_i75_
                        have hLT_ := hl71_5_i75_
                        obtain ⟨T, mv_, P_, q_, q2_, nm_, hTt, hGB, hTm_, hHd_, hrb_, hrl_, hnm_, hmq_, hPq_, hCd_⟩ := id hLT_
                        have hB85_ : zB 85 144 0 5 N68_ := hGB.2.1
                        have hRm_ := hGB.rm
                        refine zw_aload_n (pc := 71) (n := 0) (x := 81) rfl (zdal_p dlC_M_reads_72 (i := 9) rfl) ?_
                        refine zr_ldc2 (pc := 72) (n := 7103860) (by decide) k_M_179 (zdal_p dlC_M_reads_72 (i := 10) rfl) ?_
                        refine zr_callV (hf_N68_.w hW) hf_N68_.x (pc := 75) [.long (Int64.ofInt 7103860)] [] l_M_312 (c_M_isWordF l N68_ (hf_N68_.w hW) 7103860 (by decide) (by decide) b_ n_ i70_) rfl rfl rfl (by decide) (Nat.le_of_ble_eq_true rfl) (zdal_p dlC_M_reads_72 (i := 11) rfl) ?_
                        rintro _ N85_ ⟨v86_, rfl, ⟨hv86_a, hv86_b⟩, hsN85_, hp0_N85_⟩
                        obtain rfl := hsN85_.eq.symm
                        replace hp0_N85_ : ((v86_ = 1 ∧ ze N68_ 81 7 = 0 ∧ zkd b_ n_ (ze N68_ 81 4).toNat = 1 ∧ zke8 b_ n_ (ze N68_ 81 4).toNat = 7103860) ∨ (v86_ = 0 ∧ (ze N68_ 81 7 = 0 → ¬ (zkd b_ n_ (ze N68_ 81 4).toNat = 1 ∧ zke8 b_ n_ (ze N68_ 81 4).toNat = 7103860)))) := hp0_N85_
                        rcases hp0_N85_ with ⟨rfl, ha75_0_hp0_N85_, ha75_1_hp0_N85_, ha75_2_hp0_N85_⟩ | ⟨rfl, ha75_0_hp0_N85_⟩
                        · as_aux_lemma =>
                            have hk1_ := ha75_1_hp0_N85_
                            have hks_ := (zke8_w hk1_ (i := 2) (by decide)).mp ha75_2_hp0_N85_
                            show zW l m_M_reads (zn Mz + 0, zw Mz + 0) N68_ 78 [some (.ref 81)] [.int (Int32.ofInt 1)] _
                            refine zr_if_eq (pc := 78) (tgt := 88) ⟨(by decide), (by decide)⟩ (by decide) d_M_reads_78 (fun hc_78 => ?_) (fun hc_78 => ?_)
                            · exact absurd hc_78 (by decide)
                            · as_aux_lemma =>
                                refine zw_aload_n (pc := 81) (n := 0) (x := 81) rfl (zdal_p dlC_M_reads_72 (i := 13) rfl) ?_
                                refine zr_callV (hf_N68_.w hW) hf_N68_.x (pc := 82) [] [] l_M_364 (c_M_letLineF l N68_ (hf_N68_.w hW) (gF T).length (gmkI T) (gT_zTA hTt) b_ n_ nm_ hRm_ c76_ i70_ hnm_ (show ze N68_ 81 7 = 0 by first | (exact hl71_0_i75_) | assumption) (show zkd b_ n_ (ze N68_ 81 4).toNat = 1 by first | (exact ha75_1_hp0_N85_) | assumption) (show zkey b_ n_ (ze N68_ 81 4).toNat = zkw 2 by first | (exact hks_) | assumption)) rfl rfl rfl (by decide) (Nat.le_of_ble_eq_true rfl) (zdal_p dlC_M_reads_72 (i := 14) rfl) ?_
                                rintro _ N87_ ⟨rfl, hsN87_, ⟨hp0_N87_, hp1_N87_, hp2_N87_, hp3_N87_⟩⟩
                                have hf_N87_ := hf_N68_.tr hsN87_ (by decide +kernel) (by decide +kernel)
                                have hb0_N87_ := hb0_N68_.tr hsN87_ (by decide +kernel) (by decide +kernel)
                                have hb1_N87_ := hs69_.tr hsN87_ (by decide +kernel) (by decide +kernel)
                                have r3_N87_ := ze_r N87_ 81 3
                                have r4_N87_ := ze_r N87_ 81 4
                                have r5_N87_ := ze_r N87_ 81 5
                                have r7_N87_ := ze_r N87_ 81 7
                                have e12_N87_ : ze N87_ 81 12 = ze N68_ 81 12 := hsN87_.e (by decide)
                                have e13_N87_ : ze N87_ 81 13 = ze N68_ 81 13 := hsN87_.e (by decide)
                                have r14_N87_ := ze_r N87_ 81 14
                                have c91_ : zPm N87_ := zPm.fr hsN87_ hPm_ (by decide +kernel) (by decide +kernel)
                                have c92_ : zFin N87_ := zFin.fr hsN87_ hFn_ (by decide +kernel) (by decide +kernel)
                                have c94_ : zGB T N87_ := zGB.fr hsN87_ hGB (by decide +kernel) (by decide +kernel)
                                have c96_ : zCdS (P_ : Int) mv_ T N87_ := zCdS.fr hsN87_ hCd_ (by decide +kernel) (by decide +kernel)
                                rcases hp3_N87_ with ⟨ha82_0_hp3_N87_, ha82_1_hp3_N87_⟩ | ⟨ha82_0_hp3_N87_, ha82_1_hp3_N87_, ha82_2_hp3_N87_⟩
                                · have hrt_ : zTrB b_ n_ (ze Mz 81 4).toNat := Or.inr (Or.inr ⟨P_, q_, q2_, mv_, T, hHd_, hrb_, hTt, hTm_, hrl_.tr (zRg.st ha82_1_hp3_N87_)⟩)
                                  show zW l m_M_reads (zn Mz + 0, zw Mz + 0) N87_ 85 [some (.ref 81)] [] _
                                  refine zw_goto (pc := 85) (tgt := 71) (by decide) (zdal_p dlC_M_reads_72 (i := 15) rfl) ?_
                                  exact ih_71 N87_ hb1_N87_ hp0_N87_ (show 0 ≤ ze N87_ 81 13 by first | (exact zo_720 e13_N87_ i71_) | assumption) (show ze N87_ 81 13 ≤ 4 by first | (exact zo_807 e13_N87_ i72_) | assumption) (show 0 ≤ ze N87_ 81 14 by first | (exact hp1_N87_) | assumption) (show ze N87_ 81 14 ≤ 8 by first | (exact hp2_N87_) | assumption) (show (1 ≤ ze N87_ 81 7 ∧ zTrB b_ n_ (ze Mz 81 4).toNat) ∨ (ze N87_ 81 7 = 0 ∧ 1 ≤ ze N87_ 81 12 ∧ ze N87_ 81 12 ≤ 6 ∧ zPm N87_ ∧ zFin N87_ ∧ (∃ T : zGT, ∃ mv : List Nat, ∃ P q q2 : Nat, ∃ nm : List (Int × (Nat → Int)), T ∈ gTabs ∧ zGB T N87_ ∧ zTm mv T ∧ zHd b_ n_ (ze Mz 81 4).toNat P q ∧ zRg (zbs b_ n_ P) (0, q, []) (1, q2, mv) ∧ zRg (zls b_ n_ (gF T).length (gmkI T)) (0, q2, []) (0, (ze N87_ 81 4).toNat, nm) ∧ zRNm nm (gF T).length (gmkI T) b_ n_ N87_ ∧ zMvs N87_ = mv ∧ ze N87_ 81 12 = (P : Int) ∧ zCdS (P : Int) mv T N87_)) from Or.inl (⟨(show 1 ≤ ze N87_ 81 7 by first | (exact ha82_0_hp3_N87_) | assumption | exact hrt_ | exact hmv2_ | exact hPm2_ | exact hFn2_ | exact hLT3_ | exact hPb_ | exact hFb_), (show zTrB b_ n_ (ze Mz 81 4).toNat by first | (exact hrt_) | assumption | exact hrt_ | exact hmv2_ | exact hPm2_ | exact hFn2_ | exact hLT3_ | exact hPb_ | exact hFb_)⟩)) (by have m1_ := zmF_c n_ N87_; have m2_ := zmF_c n_ N68_; have m3_ := hp0_N87_.x; omega)
                                · obtain ⟨nm2_, hls_, hnm2_⟩ := id ha82_1_hp3_N87_
                                  have hlt2_ := ha82_2_hp3_N87_
                                  have hLT3_ : (∃ T : zGT, ∃ mv : List Nat, ∃ P q q2 : Nat, ∃ nm : List (Int × (Nat → Int)), T ∈ gTabs ∧ zGB T N87_ ∧ zTm mv T ∧ zHd b_ n_ (ze Mz 81 4).toNat P q ∧ zRg (zbs b_ n_ P) (0, q, []) (1, q2, mv) ∧ zRg (zls b_ n_ (gF T).length (gmkI T)) (0, q2, []) (0, (ze N87_ 81 4).toNat, nm) ∧ zRNm nm (gF T).length (gmkI T) b_ n_ N87_ ∧ zMvs N87_ = mv ∧ ze N87_ 81 12 = (P : Int) ∧ zCdS (P : Int) mv T N87_) := ⟨T, mv_, P_, q_, q2_, nm2_, hTt, c94_, hTm_, hHd_, hrb_, hrl_.tr (zRg.st hls_), hnm2_, (zMvs_f hsN87_ (by decide +kernel) (by decide +kernel)).trans hmq_, by (exact zo_809 e12_N87_ hPq_ hl71_2_i75_), c96_⟩
                                  have hln_ := hnm2_.1
                                  have hPb_ : zPm N87_ := c91_
                                  have hFb_ : zFin N87_ := c92_
                                  show zW l m_M_reads (zn Mz + 0, zw Mz + 0) N87_ 85 [some (.ref 81)] [] _
                                  refine zw_goto (pc := 85) (tgt := 71) (by decide) (zdal_p dlC_M_reads_72 (i := 15) rfl) ?_
                                  exact ih_71 N87_ hb1_N87_ hp0_N87_ (show 0 ≤ ze N87_ 81 13 by first | (exact zo_720 e13_N87_ i71_) | assumption) (show ze N87_ 81 13 ≤ 4 by first | (exact zo_807 e13_N87_ i72_) | assumption) (show 0 ≤ ze N87_ 81 14 by first | (exact hp1_N87_) | assumption) (show ze N87_ 81 14 ≤ 8 by first | (exact hp2_N87_) | assumption) (show (1 ≤ ze N87_ 81 7 ∧ zTrB b_ n_ (ze Mz 81 4).toNat) ∨ (ze N87_ 81 7 = 0 ∧ 1 ≤ ze N87_ 81 12 ∧ ze N87_ 81 12 ≤ 6 ∧ zPm N87_ ∧ zFin N87_ ∧ (∃ T : zGT, ∃ mv : List Nat, ∃ P q q2 : Nat, ∃ nm : List (Int × (Nat → Int)), T ∈ gTabs ∧ zGB T N87_ ∧ zTm mv T ∧ zHd b_ n_ (ze Mz 81 4).toNat P q ∧ zRg (zbs b_ n_ P) (0, q, []) (1, q2, mv) ∧ zRg (zls b_ n_ (gF T).length (gmkI T)) (0, q2, []) (0, (ze N87_ 81 4).toNat, nm) ∧ zRNm nm (gF T).length (gmkI T) b_ n_ N87_ ∧ zMvs N87_ = mv ∧ ze N87_ 81 12 = (P : Int) ∧ zCdS (P : Int) mv T N87_)) from Or.inr (⟨(show ze N87_ 81 7 = 0 by first | (exact ha82_0_hp3_N87_) | assumption | exact hrt_ | exact hmv2_ | exact hPm2_ | exact hFn2_ | exact hLT3_ | exact hPb_ | exact hFb_), (show 1 ≤ ze N87_ 81 12 by first | (exact zo_533 e12_N87_ hl71_1_i75_) | assumption | exact hrt_ | exact hmv2_ | exact hPm2_ | exact hFn2_ | exact hLT3_ | exact hPb_ | exact hFb_), (show ze N87_ 81 12 ≤ 6 by first | (exact zo_810 e12_N87_ hl71_2_i75_) | assumption | exact hrt_ | exact hmv2_ | exact hPm2_ | exact hFn2_ | exact hLT3_ | exact hPb_ | exact hFb_), (show zPm N87_ by first | (exact c91_) | assumption | exact hrt_ | exact hmv2_ | exact hPm2_ | exact hFn2_ | exact hLT3_ | exact hPb_ | exact hFb_), (show zFin N87_ by first | (exact c92_) | assumption | exact hrt_ | exact hmv2_ | exact hPm2_ | exact hFn2_ | exact hLT3_ | exact hPb_ | exact hFb_), (show (∃ T : zGT, ∃ mv : List Nat, ∃ P q q2 : Nat, ∃ nm : List (Int × (Nat → Int)), T ∈ gTabs ∧ zGB T N87_ ∧ zTm mv T ∧ zHd b_ n_ (ze Mz 81 4).toNat P q ∧ zRg (zbs b_ n_ P) (0, q, []) (1, q2, mv) ∧ zRg (zls b_ n_ (gF T).length (gmkI T)) (0, q2, []) (0, (ze N87_ 81 4).toNat, nm) ∧ zRNm nm (gF T).length (gmkI T) b_ n_ N87_ ∧ zMvs N87_ = mv ∧ ze N87_ 81 12 = (P : Int) ∧ zCdS (P : Int) mv T N87_) by first | (exact hLT3_) | assumption | exact hrt_ | exact hmv2_ | exact hPm2_ | exact hFn2_ | exact hLT3_ | exact hPb_ | exact hFb_)⟩)) (by have m1_ := zmF_c n_ N87_; have m2_ := zmF_c n_ N68_; have m3_ := hp0_N87_.x; omega)
                        · have hnk_ : ¬ (zkd b_ n_ (ze N68_ 81 4).toNat = 1 ∧ zkey b_ n_ (ze N68_ 81 4).toNat = zkw 2) := fun q_ => ha75_0_hp0_N85_ (by (exact hl71_0_i75_)) ⟨q_.1, (zke8_w q_.1 (i := 2) (by decide)).mpr q_.2⟩
                          have hLT2_ := hLT_
                          show zW l m_M_reads (zn Mz + 0, zw Mz + 0) N68_ 78 [some (.ref 81)] [.int (Int32.ofInt 0)] _
                          refine zr_if_eq (pc := 78) (tgt := 88) ⟨(by decide), (by decide)⟩ (by decide) d_M_reads_78 (fun hc_78 => ?_) (fun hc_78 => ?_)
                          · exact j_88 N68_ hb0_N68_ i70_ (show 0 ≤ ze N68_ 81 13 by first | (exact i71_) | assumption) (show ze N68_ 81 13 ≤ 4 by first | (exact i72_) | assumption) (show 0 ≤ ze N68_ 81 14 by first | (exact i73_) | assumption) (show ze N68_ 81 14 ≤ 8 by first | (exact i74_) | assumption) (show (1 ≤ ze N68_ 81 7 ∧ zTrB b_ n_ (ze Mz 81 4).toNat) ∨ (ze N68_ 81 7 = 0 ∧ 1 ≤ ze N68_ 81 12 ∧ ze N68_ 81 12 ≤ 6 ∧ zPm N68_ ∧ zFin N68_ ∧ (∃ T : zGT, ∃ mv : List Nat, ∃ P q q2 : Nat, ∃ nm : List (Int × (Nat → Int)), T ∈ gTabs ∧ zGB T N68_ ∧ zTm mv T ∧ zHd b_ n_ (ze Mz 81 4).toNat P q ∧ zRg (zbs b_ n_ P) (0, q, []) (1, q2, mv) ∧ zRg (zls b_ n_ (gF T).length (gmkI T)) (0, q2, []) (0, (ze N68_ 81 4).toNat, nm) ∧ zRNm nm (gF T).length (gmkI T) b_ n_ N68_ ∧ zMvs N68_ = mv ∧ ze N68_ 81 12 = (P : Int) ∧ zCdS (P : Int) mv T N68_) ∧ ¬ (zkd b_ n_ (ze N68_ 81 4).toNat = 1 ∧ zkey b_ n_ (ze N68_ 81 4).toNat = zkw 2)) from Or.inr (⟨(show ze N68_ 81 7 = 0 by first | (exact hl71_0_i75_) | assumption | exact hrt_ | exact hrt2_ | exact hmx_ | exact hPm_ | exact hFn_ | exact hLT2_ | exact hnk_), (show 1 ≤ ze N68_ 81 12 by first | (exact hl71_1_i75_) | assumption | exact hrt_ | exact hrt2_ | exact hmx_ | exact hPm_ | exact hFn_ | exact hLT2_ | exact hnk_), (show ze N68_ 81 12 ≤ 6 by first | (exact hl71_2_i75_) | assumption | exact hrt_ | exact hrt2_ | exact hmx_ | exact hPm_ | exact hFn_ | exact hLT2_ | exact hnk_), (show zPm N68_ by first | (exact c78_) | assumption | exact hrt_ | exact hrt2_ | exact hmx_ | exact hPm_ | exact hFn_ | exact hLT2_ | exact hnk_), (show zFin N68_ by first | (exact c79_) | assumption | exact hrt_ | exact hrt2_ | exact hmx_ | exact hPm_ | exact hFn_ | exact hLT2_ | exact hnk_), (show (∃ T : zGT, ∃ mv : List Nat, ∃ P q q2 : Nat, ∃ nm : List (Int × (Nat → Int)), T ∈ gTabs ∧ zGB T N68_ ∧ zTm mv T ∧ zHd b_ n_ (ze Mz 81 4).toNat P q ∧ zRg (zbs b_ n_ P) (0, q, []) (1, q2, mv) ∧ zRg (zls b_ n_ (gF T).length (gmkI T)) (0, q2, []) (0, (ze N68_ 81 4).toNat, nm) ∧ zRNm nm (gF T).length (gmkI T) b_ n_ N68_ ∧ zMvs N68_ = mv ∧ ze N68_ 81 12 = (P : Int) ∧ zCdS (P : Int) mv T N68_) by first | (exact hl71_5_i75_) | assumption | exact hrt_ | exact hrt2_ | exact hmx_ | exact hPm_ | exact hFn_ | exact hLT2_ | exact hnk_), (show ¬ (zkd b_ n_ (ze N68_ 81 4).toNat = 1 ∧ zkey b_ n_ (ze N68_ 81 4).toNat = zkw 2) by first | (exact hnk_) | assumption | exact hrt_ | exact hrt2_ | exact hmx_ | exact hPm_ | exact hFn_ | exact hLT2_ | exact hnk_)⟩)) c77_ hB85_
                          · exact absurd hc_78 (by decide)
                exact lp_71 _ N61_ zFr.rf c64_ (show 0 ≤ ze N61_ 81 13 by first | (exact zo_720 e13_N61_ i25_) | assumption) (show ze N61_ 81 13 ≤ 4 by first | (exact zo_807 e13_N61_ i26_) | assumption) (show 0 ≤ ze N61_ 81 14 by first | (exact zo_631 e14_N61_ i27_) | assumption) (show ze N61_ 81 14 ≤ 8 by first | (exact zo_816 e14_N61_ i27_) | assumption) (show (1 ≤ ze N61_ 81 7 ∧ zTrB b_ n_ (ze Mz 81 4).toNat) ∨ (ze N61_ 81 7 = 0 ∧ 1 ≤ ze N61_ 81 12 ∧ ze N61_ 81 12 ≤ 6 ∧ zPm N61_ ∧ zFin N61_ ∧ (∃ T : zGT, ∃ mv : List Nat, ∃ P q q2 : Nat, ∃ nm : List (Int × (Nat → Int)), T ∈ gTabs ∧ zGB T N61_ ∧ zTm mv T ∧ zHd b_ n_ (ze Mz 81 4).toNat P q ∧ zRg (zbs b_ n_ P) (0, q, []) (1, q2, mv) ∧ zRg (zls b_ n_ (gF T).length (gmkI T)) (0, q2, []) (0, (ze N61_ 81 4).toNat, nm) ∧ zRNm nm (gF T).length (gmkI T) b_ n_ N61_ ∧ zMvs N61_ = mv ∧ ze N61_ 81 12 = (P : Int) ∧ zCdS (P : Int) mv T N61_)) from Or.inr (⟨(show ze N61_ 81 7 = 0 by first | (exact zo_610 e7_N61_ hl60_0_i28_) | assumption | exact hrt_ | exact hrt2_ | exact hmv0_ | exact hP0_ | exact hF0_ | exact hLT0_ | exact hPb_ | exact hFb_), (show 1 ≤ ze N61_ 81 12 by first | (exact zo_533 e12_N61_ hl60_1_i28_) | assumption | exact hrt_ | exact hrt2_ | exact hmv0_ | exact hP0_ | exact hF0_ | exact hLT0_ | exact hPb_ | exact hFb_), (show ze N61_ 81 12 ≤ 6 by first | (exact zo_810 e12_N61_ hl60_2_i28_) | assumption | exact hrt_ | exact hrt2_ | exact hmv0_ | exact hP0_ | exact hF0_ | exact hLT0_ | exact hPb_ | exact hFb_), (show zPm N61_ by first | (exact c66_) | assumption | exact hrt_ | exact hrt2_ | exact hmv0_ | exact hP0_ | exact hF0_ | exact hLT0_ | exact hPb_ | exact hFb_), (show zFin N61_ by first | (exact c67_) | assumption | exact hrt_ | exact hrt2_ | exact hmv0_ | exact hP0_ | exact hF0_ | exact hLT0_ | exact hPb_ | exact hFb_), (show (∃ T : zGT, ∃ mv : List Nat, ∃ P q q2 : Nat, ∃ nm : List (Int × (Nat → Int)), T ∈ gTabs ∧ zGB T N61_ ∧ zTm mv T ∧ zHd b_ n_ (ze Mz 81 4).toNat P q ∧ zRg (zbs b_ n_ P) (0, q, []) (1, q2, mv) ∧ zRg (zls b_ n_ (gF T).length (gmkI T)) (0, q2, []) (0, (ze N61_ 81 4).toNat, nm) ∧ zRNm nm (gF T).length (gmkI T) b_ n_ N61_ ∧ zMvs N61_ = mv ∧ ze N61_ 81 12 = (P : Int) ∧ zCdS (P : Int) mv T N61_) by first | (exact hLT0_) | assumption | exact hrt_ | exact hrt2_ | exact hmv0_ | exact hP0_ | exact hF0_ | exact hLT0_ | exact hPb_ | exact hFb_)⟩)) (Nat.lt_succ_self _)
        · exfalso; (exact zo_260 hl60_0_i28_ ha61_0_hp0_N59_)
  have j_37 : ∀ (N97_ : zMem) (hs98_ : zFr [3, 4, 5, 6, 7, 8, 11, 12] [] Mz N97_) (i99_ : zRt b_ n_ N97_) (i100_ : ze N97_ 81 13 = 0) (i101_ : ze N97_ 81 14 = 0) (i102_ : (1 ≤ ze N97_ 81 7 ∧ zTrB b_ n_ (ze Mz 81 4).toNat) ∨ (ze N97_ 81 7 = 0 ∧ zkd b_ n_ (ze Mz 81 4).toNat = 1 ∧ zkey b_ n_ (ze Mz 81 4).toNat = zkw 0 ∧ zkd b_ n_ (znx b_ n_ (ze Mz 81 4).toNat) = 2 ∧ znu b_ n_ (znx b_ n_ (ze Mz 81 4).toNat) = ze N97_ 81 12 ∧ 1 ≤ ze N97_ 81 12 ∧ ze N97_ 81 12 ≤ 6 ∧ (ze N97_ 81 4).toNat = znx b_ n_ (znx b_ n_ (ze Mz 81 4).toNat))), zW l m_M_reads (zn Mz + 0, zw Mz + 0) N97_ 37 [some (.ref 81)] [] (zpV [3, 4, 5, 6, 7, 8, 11, 12, 13, 14, 20, 25, 26, 38, 39, 41, 42, 43] [83, 85, 86, 87, 88, 89, 90, 91, 92, 93, 94, 95, 96, 97, 100, 101, 102] Mz (fun N => zRt b_ n_ N ∧ 0 ≤ ze N 81 13 ∧ ze N 81 13 ≤ 4 ∧ 0 ≤ ze N 81 14 ∧ ze N 81 14 ≤ 8 ∧ zB 83 24 0 5 N ∧ zB 85 144 0 5 N ∧ (((1 ≤ ze N 81 7 ∧ zTrB b_ n_ (ze Mz 81 4).toNat) ∨ (ze N 81 7 = 0 ∧ 1 ≤ ze N 81 12 ∧ ze N 81 12 ≤ 6 ∧ zPm N ∧ zFin N ∧ (∃ T : zGT, ∃ mv : List Nat, ∃ P : Nat, ∃ nm : List (Int × (Nat → Int)), T ∈ gTabs ∧ zGB T N ∧ zTrN b_ n_ (ze Mz 81 4).toNat P mv T nm ∧ zMvs N = mv ∧ ze N 81 12 = (P : Int) ∧ zCdS (P : Int) mv T N ∧ zRNm nm (gF T).length (gmkI T) b_ n_ N)))))) := by
    intro N97_ hs98_ i99_ i100_ i101_ i102_
    have hf_N97_ := hf.tr hs98_ (by decide +kernel) (by decide +kernel)
    have hb0_N97_ : zFr [3, 4, 5, 6, 7, 8, 11, 12, 13, 14, 20, 25, 26, 38, 39, 41, 42, 43] [83, 85, 86, 87, 88, 89, 90, 91, 92, 93, 94, 95, 96, 97, 100, 101, 102] Mz N97_ := zFr.rf.tr hs98_ (by decide +kernel) (by decide +kernel)
    have hb1_N97_ : zFr [3, 4, 5, 6, 7, 8, 11, 12, 13, 20] [83, 85, 86, 87, 88] Mz N97_ := zFr.rf.tr hs98_ (by decide +kernel) (by decide +kernel)
    have r3_N97_ := ze_r N97_ 81 3
    have r4_N97_ := ze_r N97_ 81 4
    have r5_N97_ := ze_r N97_ 81 5
    have r7_N97_ := ze_r N97_ 81 7
    have r12_N97_ := ze_r N97_ 81 12
    have e13_N97_ : ze N97_ 81 13 = ze Mz 81 13 := hs98_.e (by decide)
    have e14_N97_ : ze N97_ 81 14 = ze Mz 81 14 := hs98_.e (by decide)
    have c103_ : zRb b_ n_ N97_ := zRb.fr hs98_ p0_ (by decide +kernel) (by decide +kernel)
    have c104_ : zB 83 24 0 5 N97_ := zB.fr hs98_ p5_ (by decide +kernel) (by decide +kernel)
    have c105_ : zB 85 144 0 5 N97_ := zB.fr hs98_ p6_ (by decide +kernel) (by decide +kernel)
    rcases i102_ with ⟨hl37_0_i102_, hl37_1_i102_⟩ | ⟨hl37_0_i102_, hl37_1_i102_, hl37_2_i102_, hl37_3_i102_, hl37_4_i102_, hl37_5_i102_, hl37_6_i102_, hl37_7_i102_⟩
    · as_aux_lemma =>
        refine zw_aload_n (pc := 37) (n := 0) (x := 81) rfl (zdal_p dlC_M_reads_71 (i := 18) rfl) ?_
        refine zw_bipush (pc := 38) (v := Int32.ofInt 59) (by decide) (zdal_p dlC_M_reads_71 (i := 19) rfl) ?_
        refine zr_callV (hf_N97_.w hW) hf_N97_.x (pc := 40) [.int (Int32.ofInt 59)] [] l_M_355 (c_M_mustF l N97_ (hf_N97_.w hW) 59 (by decide) (by decide) b_ n_ c103_ i99_ (show 0 ≤ ze N97_ 81 7 by first | (exact zo_564 hl37_0_i102_) | assumption)) rfl rfl rfl (by decide) (Nat.le_of_ble_eq_true rfl) (zdal_p dlC_M_reads_71 (i := 20) rfl) ?_
        rintro _ N106_ ⟨rfl, hsN106_, ⟨hp0_N106_, hp1_N106_⟩⟩
        have hf_N106_ := hf_N97_.tr hsN106_ (by decide +kernel) (by decide +kernel)
        have hb0_N106_ := hb0_N97_.tr hsN106_ (by decide +kernel) (by decide +kernel)
        have hb1_N106_ := hb1_N97_.tr hsN106_ (by decide +kernel) (by decide +kernel)
        have r3_N106_ := ze_r N106_ 81 3
        have r4_N106_ := ze_r N106_ 81 4
        have r5_N106_ := ze_r N106_ 81 5
        have r7_N106_ := ze_r N106_ 81 7
        have e12_N106_ : ze N106_ 81 12 = ze N97_ 81 12 := hsN106_.e (by decide)
        have e13_N106_ : ze N106_ 81 13 = ze N97_ 81 13 := hsN106_.e (by decide)
        have e14_N106_ : ze N106_ 81 14 = ze N97_ 81 14 := hsN106_.e (by decide)
        have c108_ : zRb b_ n_ N106_ := zRb.fr hsN106_ c103_ (by decide +kernel) (by decide +kernel)
        have c109_ : zB 83 24 0 5 N106_ := zB.fr hsN106_ c104_ (by decide +kernel) (by decide +kernel)
        have c110_ : zB 85 144 0 5 N106_ := zB.fr hsN106_ c105_ (by decide +kernel) (by decide +kernel)
        rcases hp1_N106_ with ⟨ha40_0_hp1_N106_, ha40_1_hp1_N106_⟩ | ⟨ha40_0_hp1_N106_, ha40_1_hp1_N106_, ha40_2_hp1_N106_, ha40_3_hp1_N106_⟩
        · as_aux_lemma =>
            have hrt_ : zTrB b_ n_ (ze Mz 81 4).toNat := by first | with_reducible assumption | assumption | exact Or.inl (fun ⟨P_, q_, h_⟩ => ha40_1_hp1_N106_ (by omega) (by rw [hx2_]; exact h_.2.2.1))
            show zW l m_M_reads (zn Mz + 0, zw Mz + 0) N106_ 43 [some (.ref 81)] [] _
            have lp_43 : ∀ (n : Nat) (N111_ : zMem) (hs112_ : zFr [3, 4, 5, 6, 7, 8, 11, 13, 20] [83, 85, 86, 87, 88] N106_ N111_) (i113_ : zRt b_ n_ N111_) (i114_ : 0 ≤ ze N111_ 81 13) (i115_ : ze N111_ 81 13 ≤ 4) (i116_ : ze N111_ 81 14 = 0) (i117_ : (1 ≤ ze N111_ 81 7 ∧ zTrB b_ n_ (ze Mz 81 4).toNat) ∨ (ze N111_ 81 7 = 0 ∧ 1 ≤ ze N111_ 81 12 ∧ ze N111_ 81 12 ≤ 6 ∧ zPm N111_ ∧ zFin N111_ ∧ (∃ q : Nat, zHd b_ n_ (ze Mz 81 4).toNat (ze N111_ 81 12).toNat q ∧ zRg (zbs b_ n_ (ze N111_ 81 12).toNat) (0, q, []) (0, (ze N111_ 81 4).toNat, zMvs N111_)))) (i118_ : zB 83 24 0 5 N111_) (i119_ : zB 85 144 0 5 N111_), zmF n_ N111_ < n → zW l m_M_reads (zn Mz + 0, zw Mz + 0) N111_ 43 [some (.ref 81)] [] (zpV [3, 4, 5, 6, 7, 8, 11, 12, 13, 14, 20, 25, 26, 38, 39, 41, 42, 43] [83, 85, 86, 87, 88, 89, 90, 91, 92, 93, 94, 95, 96, 97, 100, 101, 102] Mz (fun N => zRt b_ n_ N ∧ 0 ≤ ze N 81 13 ∧ ze N 81 13 ≤ 4 ∧ 0 ≤ ze N 81 14 ∧ ze N 81 14 ≤ 8 ∧ zB 83 24 0 5 N ∧ zB 85 144 0 5 N ∧ (((1 ≤ ze N 81 7 ∧ zTrB b_ n_ (ze Mz 81 4).toNat) ∨ (ze N 81 7 = 0 ∧ 1 ≤ ze N 81 12 ∧ ze N 81 12 ≤ 6 ∧ zPm N ∧ zFin N ∧ (∃ T : zGT, ∃ mv : List Nat, ∃ P : Nat, ∃ nm : List (Int × (Nat → Int)), T ∈ gTabs ∧ zGB T N ∧ zTrN b_ n_ (ze Mz 81 4).toNat P mv T nm ∧ zMvs N = mv ∧ ze N 81 12 = (P : Int) ∧ zCdS (P : Int) mv T N ∧ zRNm nm (gF T).length (gmkI T) b_ n_ N)))))) := by
              clear hs98_ i99_ i100_ i101_ hf_N97_ hb0_N97_ hb1_N97_ r3_N97_ r4_N97_ r5_N97_ r7_N97_ r12_N97_ e13_N97_ e14_N97_ c103_ c104_ c105_ hl37_0_i102_ hsN106_ e12_N106_ e13_N106_ e14_N106_ ha40_1_hp1_N106_
              intro n
              induction n with
              | zero =>
                intro N111_ hs112_ i113_ i114_ i115_ i116_ i117_ i118_ i119_ h0
                exact absurd h0 (Nat.not_lt_zero _)
              | succ n ih_43 =>
                intro N111_ hs112_ i113_ i114_ i115_ i116_ i117_ i118_ i119_ hlt_43
                have hf_N111_ := hf_N106_.tr hs112_ (by decide +kernel) (by decide +kernel)
                have hb0_N111_ := hb0_N106_.tr hs112_ (by decide +kernel) (by decide +kernel)
                have hb1_N111_ := hb1_N106_.tr hs112_ (by decide +kernel) (by decide +kernel)
                have r3_N111_ := ze_r N111_ 81 3
                have r4_N111_ := ze_r N111_ 81 4
                have r5_N111_ := ze_r N111_ 81 5
                have r7_N111_ := ze_r N111_ 81 7
                have e12_N111_ : ze N111_ 81 12 = ze N106_ 81 12 := hs112_.e (by decide)
                have r13_N111_ := ze_r N111_ 81 13
                have e14_N111_ : ze N111_ 81 14 = ze N106_ 81 14 := hs112_.e (by decide)
                have c120_ : zRb b_ n_ N111_ := zRb.fr hs112_ c108_ (by decide +kernel) (by decide +kernel)
                rcases i117_ with ⟨hl43_0_i117_, hl43_1_i117_⟩ | ⟨hl43_0_i117_, hl43_1_i117_, hl43_2_i117_, hl43_3_i117_, hl43_4_i117_, hl43_5_i117_⟩
                · refine zw_aload_n (pc := 43) (n := 0) (x := 81) rfl d_M_reads_43 ?_
                  refine zr_ldc2 (pc := 44) (n := 1836021349) (by decide) k_M_177 d_M_reads_44 ?_
                  refine zr_callV (hf_N111_.w hW) hf_N111_.x (pc := 47) [.long (Int64.ofInt 1836021349)] [] l_M_312 (c_M_isWordF l N111_ (hf_N111_.w hW) 1836021349 (by decide) (by decide) b_ n_ i113_) rfl rfl rfl (by decide) (Nat.le_of_ble_eq_true rfl) d_M_reads_47 ?_
                  rintro _ N121_ ⟨v122_, rfl, ⟨hv122_a, hv122_b⟩, hsN121_, hp0_N121_⟩
                  obtain rfl := hsN121_.eq.symm
                  replace hp0_N121_ : ((v122_ = 1 ∧ ze N111_ 81 7 = 0 ∧ zkd b_ n_ (ze N111_ 81 4).toNat = 1 ∧ zke8 b_ n_ (ze N111_ 81 4).toNat = 1836021349) ∨ (v122_ = 0 ∧ (ze N111_ 81 7 = 0 → ¬ (zkd b_ n_ (ze N111_ 81 4).toNat = 1 ∧ zke8 b_ n_ (ze N111_ 81 4).toNat = 1836021349)))) := hp0_N121_
                  rcases hp0_N121_ with ⟨rfl, ha47_0_hp0_N121_, ha47_1_hp0_N121_, ha47_2_hp0_N121_⟩ | ⟨rfl, ha47_0_hp0_N121_⟩
                  · exfalso; (exact zo_281 ha47_0_hp0_N121_ hl43_0_i117_)
                  · show zW l m_M_reads (zn Mz + 0, zw Mz + 0) N111_ 50 [some (.ref 81)] [.int (Int32.ofInt 0)] _
                    refine zr_if_eq (pc := 50) (tgt := 60) ⟨(by decide), (by decide)⟩ (by decide) d_M_reads_50 (fun hc_50 => ?_) (fun hc_50 => ?_)
                    · exact j_60 N111_ hb1_N111_ i113_ (show 0 ≤ ze N111_ 81 13 by first | (exact i114_) | assumption) (show ze N111_ 81 13 ≤ 4 by first | (exact i115_) | assumption) (show ze N111_ 81 14 = 0 by first | (exact i116_) | assumption) (show (1 ≤ ze N111_ 81 7 ∧ zTrB b_ n_ (ze Mz 81 4).toNat) ∨ (ze N111_ 81 7 = 0 ∧ 1 ≤ ze N111_ 81 12 ∧ ze N111_ 81 12 ≤ 6 ∧ zPm N111_ ∧ zFin N111_ ∧ (∃ q : Nat, zHd b_ n_ (ze Mz 81 4).toNat (ze N111_ 81 12).toNat q ∧ zRg (zbs b_ n_ (ze N111_ 81 12).toNat) (0, q, []) (1, (ze N111_ 81 4).toNat, zMvs N111_))) from Or.inl (⟨(show 1 ≤ ze N111_ 81 7 by first | (exact hl43_0_i117_) | assumption | exact hrt_ | exact hrt2_ | exact hmx_ | exact hPm_ | exact hFn_ | exact hLT2_ | exact hnk_), (show zTrB b_ n_ (ze Mz 81 4).toNat by first | (exact hl37_1_i102_) | assumption | exact hrt_ | exact hrt2_ | exact hmx_ | exact hPm_ | exact hFn_ | exact hLT2_ | exact hnk_)⟩)) i118_ i119_
                    · exact absurd hc_50 (by decide)
                · as_aux_lemma =>
                    have hPm_ := hl43_3_i117_
                    have hFn_ := hl43_4_i117_
                    have hmv_ := hl43_5_i117_
                    refine zw_aload_n (pc := 43) (n := 0) (x := 81) rfl d_M_reads_43 ?_
                    refine zr_ldc2 (pc := 44) (n := 1836021349) (by decide) k_M_177 d_M_reads_44 ?_
                    refine zr_callV (hf_N111_.w hW) hf_N111_.x (pc := 47) [.long (Int64.ofInt 1836021349)] [] l_M_312 (c_M_isWordF l N111_ (hf_N111_.w hW) 1836021349 (by decide) (by decide) b_ n_ i113_) rfl rfl rfl (by decide) (Nat.le_of_ble_eq_true rfl) d_M_reads_47 ?_
                    rintro _ N123_ ⟨v124_, rfl, ⟨hv124_a, hv124_b⟩, hsN123_, hp0_N123_⟩
                    obtain rfl := hsN123_.eq.symm
                    replace hp0_N123_ : ((v124_ = 1 ∧ ze N111_ 81 7 = 0 ∧ zkd b_ n_ (ze N111_ 81 4).toNat = 1 ∧ zke8 b_ n_ (ze N111_ 81 4).toNat = 1836021349) ∨ (v124_ = 0 ∧ (ze N111_ 81 7 = 0 → ¬ (zkd b_ n_ (ze N111_ 81 4).toNat = 1 ∧ zke8 b_ n_ (ze N111_ 81 4).toNat = 1836021349)))) := hp0_N123_
                    rcases hp0_N123_ with ⟨rfl, ha47_0_hp0_N123_, ha47_1_hp0_N123_, ha47_2_hp0_N123_⟩ | ⟨rfl, ha47_0_hp0_N123_⟩
                    · as_aux_lemma =>
                        have hk1_ := ha47_1_hp0_N123_
                        have hks_ := (zke8_w hk1_ (i := 1) (by decide)).mp ha47_2_hp0_N123_
                        show zW l m_M_reads (zn Mz + 0, zw Mz + 0) N111_ 50 [some (.ref 81)] [.int (Int32.ofInt 1)] _
                        refine zr_if_eq (pc := 50) (tgt := 60) ⟨(by decide), (by decide)⟩ (by decide) d_M_reads_50 (fun hc_50 => ?_) (fun hc_50 => ?_)
                        · exact absurd hc_50 (by decide)
                        · as_aux_lemma =>
                            refine zw_aload_n (pc := 53) (n := 0) (x := 81) rfl (zdal_p dlC_M_reads_72 (i := 1) rfl) ?_
                            refine zr_callV (hf_N111_.w hW) hf_N111_.x (pc := 54) [] [] l_M_361 (c_M_moveLineF l N111_ (hf_N111_.w hW) b_ n_ c120_ i113_ (show ze N111_ 81 7 = 0 by first | (exact hl43_0_i117_) | assumption) (show zkd b_ n_ (ze N111_ 81 4).toNat = 1 by first | (exact ha47_1_hp0_N123_) | assumption) (show zkey b_ n_ (ze N111_ 81 4).toNat = zkw 1 by first | (exact hks_) | assumption) (show 1 ≤ ze N111_ 81 12 by first | (exact hl43_1_i117_) | assumption) (show ze N111_ 81 12 ≤ 6 by first | (exact hl43_2_i117_) | assumption) (show 0 ≤ ze N111_ 81 13 by first | (exact i114_) | assumption) (show ze N111_ 81 13 ≤ 4 by first | (exact i115_) | assumption) hPm_ i118_ i119_) rfl rfl rfl (by decide) (Nat.le_of_ble_eq_true rfl) (zdal_p dlC_M_reads_72 (i := 2) rfl) ?_
                            rintro _ N125_ ⟨rfl, hsN125_, ⟨hp0_N125_, hp1_N125_, hp2_N125_, hp3_N125_, hp4_N125_, hp5_N125_⟩⟩
                            have hf_N125_ := hf_N111_.tr hsN125_ (by decide +kernel) (by decide +kernel)
                            have hb0_N125_ := hb0_N111_.tr hsN125_ (by decide +kernel) (by decide +kernel)
                            have hb1_N125_ := hb1_N111_.tr hsN125_ (by decide +kernel) (by decide +kernel)
                            have hb2_N125_ := hs112_.tr hsN125_ (by decide +kernel) (by decide +kernel)
                            have r3_N125_ := ze_r N125_ 81 3
                            have r4_N125_ := ze_r N125_ 81 4
                            have r5_N125_ := ze_r N125_ 81 5
                            have r7_N125_ := ze_r N125_ 81 7
                            have e12_N125_ : ze N125_ 81 12 = ze N111_ 81 12 := hsN125_.e (by decide)
                            have r13_N125_ := ze_r N125_ 81 13
                            have e14_N125_ : ze N125_ 81 14 = ze N111_ 81 14 := hsN125_.e (by decide)
                            rcases hp5_N125_ with ⟨ha54_0_hp5_N125_, ha54_1_hp5_N125_⟩ | ⟨ha54_0_hp5_N125_, ha54_1_hp5_N125_, ha54_2_hp5_N125_, ha54_3_hp5_N125_, ha54_4_hp5_N125_⟩
                            · have hrt_ : zTrB b_ n_ (ze Mz 81 4).toNat := by obtain ⟨q_, h1_, h2_⟩ := id hmv_; exact Or.inr (Or.inl ⟨_, q_, h1_, h2_.tr (zRg.st ha54_1_hp5_N125_)⟩)
                              show zW l m_M_reads (zn Mz + 0, zw Mz + 0) N125_ 57 [some (.ref 81)] [] _
                              refine zw_goto (pc := 57) (tgt := 43) (by decide) d_M_reads_57 ?_
                              exact ih_43 N125_ hb2_N125_ hp0_N125_ (show 0 ≤ ze N125_ 81 13 by first | (exact hp1_N125_) | assumption) (show ze N125_ 81 13 ≤ 4 by first | (exact hp2_N125_) | assumption) (show ze N125_ 81 14 = 0 by first | (exact zo_610 e14_N125_ i116_) | assumption) (show (1 ≤ ze N125_ 81 7 ∧ zTrB b_ n_ (ze Mz 81 4).toNat) ∨ (ze N125_ 81 7 = 0 ∧ 1 ≤ ze N125_ 81 12 ∧ ze N125_ 81 12 ≤ 6 ∧ zPm N125_ ∧ zFin N125_ ∧ (∃ q : Nat, zHd b_ n_ (ze Mz 81 4).toNat (ze N125_ 81 12).toNat q ∧ zRg (zbs b_ n_ (ze N125_ 81 12).toNat) (0, q, []) (0, (ze N125_ 81 4).toNat, zMvs N125_))) from Or.inl (⟨(show 1 ≤ ze N125_ 81 7 by first | (exact ha54_0_hp5_N125_) | assumption | exact hrt_ | exact hmv2_ | exact hPm2_ | exact hFn2_ | exact hLT3_ | exact hPb_ | exact hFb_), (show zTrB b_ n_ (ze Mz 81 4).toNat by first | (exact hl37_1_i102_) | assumption | exact hrt_ | exact hmv2_ | exact hPm2_ | exact hFn2_ | exact hLT3_ | exact hPb_ | exact hFb_)⟩)) hp3_N125_ hp4_N125_ (by have m1_ := zmF_c n_ N125_; have m2_ := zmF_c n_ N111_; have m3_ := hp0_N125_.x; omega)
                            · have hmv2_ : (∃ q : Nat, zHd b_ n_ (ze Mz 81 4).toNat (ze N125_ 81 12).toNat q ∧ zRg (zbs b_ n_ (ze N125_ 81 12).toNat) (0, q, []) (0, (ze N125_ 81 4).toNat, zMvs N125_)) := by obtain ⟨q_, h1_, h2_⟩ := id hmv_; rw [show ze N125_ 81 12 = ze N111_ 81 12 by (exact e12_N125_)]; exact ⟨q_, h1_, h2_.tr (zRg.st ha54_1_hp5_N125_)⟩
                              have hPm2_ := ha54_2_hp5_N125_
                              have hFn2_ := ha54_3_hp5_N125_
                              have hlt2_ := ha54_4_hp5_N125_
                              show zW l m_M_reads (zn Mz + 0, zw Mz + 0) N125_ 57 [some (.ref 81)] [] _
                              refine zw_goto (pc := 57) (tgt := 43) (by decide) d_M_reads_57 ?_
                              exact ih_43 N125_ hb2_N125_ hp0_N125_ (show 0 ≤ ze N125_ 81 13 by first | (exact hp1_N125_) | assumption) (show ze N125_ 81 13 ≤ 4 by first | (exact hp2_N125_) | assumption) (show ze N125_ 81 14 = 0 by first | (exact zo_610 e14_N125_ i116_) | assumption) (show (1 ≤ ze N125_ 81 7 ∧ zTrB b_ n_ (ze Mz 81 4).toNat) ∨ (ze N125_ 81 7 = 0 ∧ 1 ≤ ze N125_ 81 12 ∧ ze N125_ 81 12 ≤ 6 ∧ zPm N125_ ∧ zFin N125_ ∧ (∃ q : Nat, zHd b_ n_ (ze Mz 81 4).toNat (ze N125_ 81 12).toNat q ∧ zRg (zbs b_ n_ (ze N125_ 81 12).toNat) (0, q, []) (0, (ze N125_ 81 4).toNat, zMvs N125_))) from Or.inr (⟨(show ze N125_ 81 7 = 0 by first | (exact ha54_0_hp5_N125_) | assumption | exact hrt_ | exact hmv2_ | exact hPm2_ | exact hFn2_ | exact hLT3_ | exact hPb_ | exact hFb_), (show 1 ≤ ze N125_ 81 12 by first | (exact zo_533 e12_N125_ hl43_1_i117_) | assumption | exact hrt_ | exact hmv2_ | exact hPm2_ | exact hFn2_ | exact hLT3_ | exact hPb_ | exact hFb_), (show ze N125_ 81 12 ≤ 6 by first | (exact zo_810 e12_N125_ hl43_2_i117_) | assumption | exact hrt_ | exact hmv2_ | exact hPm2_ | exact hFn2_ | exact hLT3_ | exact hPb_ | exact hFb_), (show zPm N125_ by first | (exact ha54_2_hp5_N125_) | assumption | exact hrt_ | exact hmv2_ | exact hPm2_ | exact hFn2_ | exact hLT3_ | exact hPb_ | exact hFb_), (show zFin N125_ by first | (exact ha54_3_hp5_N125_) | assumption | exact hrt_ | exact hmv2_ | exact hPm2_ | exact hFn2_ | exact hLT3_ | exact hPb_ | exact hFb_), (show (∃ q : Nat, zHd b_ n_ (ze Mz 81 4).toNat (ze N125_ 81 12).toNat q ∧ zRg (zbs b_ n_ (ze N125_ 81 12).toNat) (0, q, []) (0, (ze N125_ 81 4).toNat, zMvs N125_)) by first | (exact hmv2_) | assumption | exact hrt_ | exact hmv2_ | exact hPm2_ | exact hFn2_ | exact hLT3_ | exact hPb_ | exact hFb_)⟩)) hp3_N125_ hp4_N125_ (by have m1_ := zmF_c n_ N125_; have m2_ := zmF_c n_ N111_; have m3_ := hp0_N125_.x; omega)
                    · have hnm2_ : ¬ (zkd b_ n_ (ze N111_ 81 4).toNat = 1 ∧ zkey b_ n_ (ze N111_ 81 4).toNat = zkw 1) := fun q_ => ha47_0_hp0_N123_ (by (exact hl43_0_i117_)) ⟨q_.1, (zke8_w q_.1 (i := 1) (by decide)).mpr q_.2⟩
                      have hmx_ : (∃ q : Nat, zHd b_ n_ (ze Mz 81 4).toNat (ze N111_ 81 12).toNat q ∧ zRg (zbs b_ n_ (ze N111_ 81 12).toNat) (0, q, []) (1, (ze N111_ 81 4).toNat, zMvs N111_)) := by obtain ⟨q_, h1_, h2_⟩ := id hmv_; exact ⟨q_, h1_, h2_.tr (zRg.st (zbs_e hnm2_))⟩
                      show zW l m_M_reads (zn Mz + 0, zw Mz + 0) N111_ 50 [some (.ref 81)] [.int (Int32.ofInt 0)] _
                      refine zr_if_eq (pc := 50) (tgt := 60) ⟨(by decide), (by decide)⟩ (by decide) d_M_reads_50 (fun hc_50 => ?_) (fun hc_50 => ?_)
                      · exact j_60 N111_ hb1_N111_ i113_ (show 0 ≤ ze N111_ 81 13 by first | (exact i114_) | assumption) (show ze N111_ 81 13 ≤ 4 by first | (exact i115_) | assumption) (show ze N111_ 81 14 = 0 by first | (exact i116_) | assumption) (show (1 ≤ ze N111_ 81 7 ∧ zTrB b_ n_ (ze Mz 81 4).toNat) ∨ (ze N111_ 81 7 = 0 ∧ 1 ≤ ze N111_ 81 12 ∧ ze N111_ 81 12 ≤ 6 ∧ zPm N111_ ∧ zFin N111_ ∧ (∃ q : Nat, zHd b_ n_ (ze Mz 81 4).toNat (ze N111_ 81 12).toNat q ∧ zRg (zbs b_ n_ (ze N111_ 81 12).toNat) (0, q, []) (1, (ze N111_ 81 4).toNat, zMvs N111_))) from Or.inr (⟨(show ze N111_ 81 7 = 0 by first | (exact hl43_0_i117_) | assumption | exact hrt_ | exact hrt2_ | exact hmx_ | exact hPm_ | exact hFn_ | exact hLT2_ | exact hnk_), (show 1 ≤ ze N111_ 81 12 by first | (exact hl43_1_i117_) | assumption | exact hrt_ | exact hrt2_ | exact hmx_ | exact hPm_ | exact hFn_ | exact hLT2_ | exact hnk_), (show ze N111_ 81 12 ≤ 6 by first | (exact hl43_2_i117_) | assumption | exact hrt_ | exact hrt2_ | exact hmx_ | exact hPm_ | exact hFn_ | exact hLT2_ | exact hnk_), (show zPm N111_ by first | (exact hl43_3_i117_) | assumption | exact hrt_ | exact hrt2_ | exact hmx_ | exact hPm_ | exact hFn_ | exact hLT2_ | exact hnk_), (show zFin N111_ by first | (exact hl43_4_i117_) | assumption | exact hrt_ | exact hrt2_ | exact hmx_ | exact hPm_ | exact hFn_ | exact hLT2_ | exact hnk_), (show (∃ q : Nat, zHd b_ n_ (ze Mz 81 4).toNat (ze N111_ 81 12).toNat q ∧ zRg (zbs b_ n_ (ze N111_ 81 12).toNat) (0, q, []) (1, (ze N111_ 81 4).toNat, zMvs N111_)) by first | (exact hmx_) | assumption | exact hrt_ | exact hrt2_ | exact hmx_ | exact hPm_ | exact hFn_ | exact hLT2_ | exact hnk_)⟩)) i118_ i119_
                      · exact absurd hc_50 (by decide)
            exact lp_43 _ N106_ zFr.rf hp0_N106_ (show 0 ≤ ze N106_ 81 13 by first | (exact zo_631 e13_N106_ i100_) | assumption) (show ze N106_ 81 13 ≤ 4 by first | (exact zo_817 e13_N106_ i100_) | assumption) (show ze N106_ 81 14 = 0 by first | (exact zo_610 e14_N106_ i101_) | assumption) (show (1 ≤ ze N106_ 81 7 ∧ zTrB b_ n_ (ze Mz 81 4).toNat) ∨ (ze N106_ 81 7 = 0 ∧ 1 ≤ ze N106_ 81 12 ∧ ze N106_ 81 12 ≤ 6 ∧ zPm N106_ ∧ zFin N106_ ∧ (∃ q : Nat, zHd b_ n_ (ze Mz 81 4).toNat (ze N106_ 81 12).toNat q ∧ zRg (zbs b_ n_ (ze N106_ 81 12).toNat) (0, q, []) (0, (ze N106_ 81 4).toNat, zMvs N106_))) from Or.inl (⟨(show 1 ≤ ze N106_ 81 7 by first | (exact ha40_0_hp1_N106_) | assumption | exact hrt_ | exact hrt2_ | exact hmv0_ | exact hP0_ | exact hF0_ | exact hLT0_ | exact hPb_ | exact hFb_), (show zTrB b_ n_ (ze Mz 81 4).toNat by first | (exact hl37_1_i102_) | assumption | exact hrt_ | exact hrt2_ | exact hmv0_ | exact hP0_ | exact hF0_ | exact hLT0_ | exact hPb_ | exact hFb_)⟩)) c109_ c110_ (Nat.lt_succ_self _)
        · exfalso; (exact zo_281 ha40_1_hp1_N106_ hl37_0_i102_)
    · as_aux_lemma =>
        have hk1_ := hl37_1_i102_
        have hks_ := hl37_2_i102_
        have hk2_ := hl37_3_i102_
        have hnu_ := hl37_4_i102_
        have hx2_ := hl37_7_i102_
        refine zw_aload_n (pc := 37) (n := 0) (x := 81) rfl (zdal_p dlC_M_reads_71 (i := 18) rfl) ?_
        refine zw_bipush (pc := 38) (v := Int32.ofInt 59) (by decide) (zdal_p dlC_M_reads_71 (i := 19) rfl) ?_
        refine zr_callV (hf_N97_.w hW) hf_N97_.x (pc := 40) [.int (Int32.ofInt 59)] [] l_M_355 (c_M_mustF l N97_ (hf_N97_.w hW) 59 (by decide) (by decide) b_ n_ c103_ i99_ (show 0 ≤ ze N97_ 81 7 by first | (exact zo_718 hl37_0_i102_) | assumption)) rfl rfl rfl (by decide) (Nat.le_of_ble_eq_true rfl) (zdal_p dlC_M_reads_71 (i := 20) rfl) ?_
        rintro _ N128_ ⟨rfl, hsN128_, ⟨hp0_N128_, hp1_N128_⟩⟩
        have hf_N128_ := hf_N97_.tr hsN128_ (by decide +kernel) (by decide +kernel)
        have hb0_N128_ := hb0_N97_.tr hsN128_ (by decide +kernel) (by decide +kernel)
        have hb1_N128_ := hb1_N97_.tr hsN128_ (by decide +kernel) (by decide +kernel)
        have r3_N128_ := ze_r N128_ 81 3
        have r4_N128_ := ze_r N128_ 81 4
        have r5_N128_ := ze_r N128_ 81 5
        have r7_N128_ := ze_r N128_ 81 7
        have e12_N128_ : ze N128_ 81 12 = ze N97_ 81 12 := hsN128_.e (by decide)
        have e13_N128_ : ze N128_ 81 13 = ze N97_ 81 13 := hsN128_.e (by decide)
        have e14_N128_ : ze N128_ 81 14 = ze N97_ 81 14 := hsN128_.e (by decide)
        have c130_ : zRb b_ n_ N128_ := zRb.fr hsN128_ c103_ (by decide +kernel) (by decide +kernel)
        have c131_ : zB 83 24 0 5 N128_ := zB.fr hsN128_ c104_ (by decide +kernel) (by decide +kernel)
        have c132_ : zB 85 144 0 5 N128_ := zB.fr hsN128_ c105_ (by decide +kernel) (by decide +kernel)
        rcases hp1_N128_ with ⟨ha40_0_hp1_N128_, ha40_1_hp1_N128_⟩ | ⟨ha40_0_hp1_N128_, ha40_1_hp1_N128_, ha40_2_hp1_N128_, ha40_3_hp1_N128_⟩
        · as_aux_lemma =>
            have hrt_ : zTrB b_ n_ (ze Mz 81 4).toNat := by first | with_reducible assumption | exact Or.inl (fun ⟨P_, q_, h_⟩ => ha40_1_hp1_N128_ (by (exact hl37_0_i102_)) (by rw [hx2_]; exact h_.2.2.1)) | assumption
            show zW l m_M_reads (zn Mz + 0, zw Mz + 0) N128_ 43 [some (.ref 81)] [] _
            have lp_43 : ∀ (n : Nat) (N133_ : zMem) (hs134_ : zFr [3, 4, 5, 6, 7, 8, 11, 13, 20] [83, 85, 86, 87, 88] N128_ N133_) (i135_ : zRt b_ n_ N133_) (i136_ : 0 ≤ ze N133_ 81 13) (i137_ : ze N133_ 81 13 ≤ 4) (i138_ : ze N133_ 81 14 = 0) (i139_ : (1 ≤ ze N133_ 81 7 ∧ zTrB b_ n_ (ze Mz 81 4).toNat) ∨ (ze N133_ 81 7 = 0 ∧ 1 ≤ ze N133_ 81 12 ∧ ze N133_ 81 12 ≤ 6 ∧ zPm N133_ ∧ zFin N133_ ∧ (∃ q : Nat, zHd b_ n_ (ze Mz 81 4).toNat (ze N133_ 81 12).toNat q ∧ zRg (zbs b_ n_ (ze N133_ 81 12).toNat) (0, q, []) (0, (ze N133_ 81 4).toNat, zMvs N133_)))) (i140_ : zB 83 24 0 5 N133_) (i141_ : zB 85 144 0 5 N133_), zmF n_ N133_ < n → zW l m_M_reads (zn Mz + 0, zw Mz + 0) N133_ 43 [some (.ref 81)] [] (zpV [3, 4, 5, 6, 7, 8, 11, 12, 13, 14, 20, 25, 26, 38, 39, 41, 42, 43] [83, 85, 86, 87, 88, 89, 90, 91, 92, 93, 94, 95, 96, 97, 100, 101, 102] Mz (fun N => zRt b_ n_ N ∧ 0 ≤ ze N 81 13 ∧ ze N 81 13 ≤ 4 ∧ 0 ≤ ze N 81 14 ∧ ze N 81 14 ≤ 8 ∧ zB 83 24 0 5 N ∧ zB 85 144 0 5 N ∧ (((1 ≤ ze N 81 7 ∧ zTrB b_ n_ (ze Mz 81 4).toNat) ∨ (ze N 81 7 = 0 ∧ 1 ≤ ze N 81 12 ∧ ze N 81 12 ≤ 6 ∧ zPm N ∧ zFin N ∧ (∃ T : zGT, ∃ mv : List Nat, ∃ P : Nat, ∃ nm : List (Int × (Nat → Int)), T ∈ gTabs ∧ zGB T N ∧ zTrN b_ n_ (ze Mz 81 4).toNat P mv T nm ∧ zMvs N = mv ∧ ze N 81 12 = (P : Int) ∧ zCdS (P : Int) mv T N ∧ zRNm nm (gF T).length (gmkI T) b_ n_ N)))))) := by
              clear hs98_ i99_ i100_ i101_ hf_N97_ hb0_N97_ hb1_N97_ r3_N97_ r4_N97_ r5_N97_ r7_N97_ r12_N97_ e13_N97_ e14_N97_ c103_ c104_ c105_ hl37_0_i102_ hl37_4_i102_ hl37_5_i102_ hl37_6_i102_ hl37_7_i102_ hsN128_ e12_N128_ e13_N128_ e14_N128_ ha40_1_hp1_N128_
              intro n
              induction n with
              | zero =>
                intro N133_ hs134_ i135_ i136_ i137_ i138_ i139_ i140_ i141_ h0
                exact absurd h0 (Nat.not_lt_zero _)
              | succ n ih_43 =>
                intro N133_ hs134_ i135_ i136_ i137_ i138_ i139_ i140_ i141_ hlt_43
                have hf_N133_ := hf_N128_.tr hs134_ (by decide +kernel) (by decide +kernel)
                have hb0_N133_ := hb0_N128_.tr hs134_ (by decide +kernel) (by decide +kernel)
                have hb1_N133_ := hb1_N128_.tr hs134_ (by decide +kernel) (by decide +kernel)
                have r3_N133_ := ze_r N133_ 81 3
                have r4_N133_ := ze_r N133_ 81 4
                have r5_N133_ := ze_r N133_ 81 5
                have r7_N133_ := ze_r N133_ 81 7
                have e12_N133_ : ze N133_ 81 12 = ze N128_ 81 12 := hs134_.e (by decide)
                have r13_N133_ := ze_r N133_ 81 13
                have e14_N133_ : ze N133_ 81 14 = ze N128_ 81 14 := hs134_.e (by decide)
                have c142_ : zRb b_ n_ N133_ := zRb.fr hs134_ c130_ (by decide +kernel) (by decide +kernel)
                rcases i139_ with ⟨hl43_0_i139_, hl43_1_i139_⟩ | ⟨hl43_0_i139_, hl43_1_i139_, hl43_2_i139_, hl43_3_i139_, hl43_4_i139_, hl43_5_i139_⟩
                · refine zw_aload_n (pc := 43) (n := 0) (x := 81) rfl d_M_reads_43 ?_
                  refine zr_ldc2 (pc := 44) (n := 1836021349) (by decide) k_M_177 d_M_reads_44 ?_
                  refine zr_callV (hf_N133_.w hW) hf_N133_.x (pc := 47) [.long (Int64.ofInt 1836021349)] [] l_M_312 (c_M_isWordF l N133_ (hf_N133_.w hW) 1836021349 (by decide) (by decide) b_ n_ i135_) rfl rfl rfl (by decide) (Nat.le_of_ble_eq_true rfl) d_M_reads_47 ?_
                  rintro _ N143_ ⟨v144_, rfl, ⟨hv144_a, hv144_b⟩, hsN143_, hp0_N143_⟩
                  obtain rfl := hsN143_.eq.symm
                  replace hp0_N143_ : ((v144_ = 1 ∧ ze N133_ 81 7 = 0 ∧ zkd b_ n_ (ze N133_ 81 4).toNat = 1 ∧ zke8 b_ n_ (ze N133_ 81 4).toNat = 1836021349) ∨ (v144_ = 0 ∧ (ze N133_ 81 7 = 0 → ¬ (zkd b_ n_ (ze N133_ 81 4).toNat = 1 ∧ zke8 b_ n_ (ze N133_ 81 4).toNat = 1836021349)))) := hp0_N143_
                  rcases hp0_N143_ with ⟨rfl, ha47_0_hp0_N143_, ha47_1_hp0_N143_, ha47_2_hp0_N143_⟩ | ⟨rfl, ha47_0_hp0_N143_⟩
                  · exfalso; (exact zo_281 ha47_0_hp0_N143_ hl43_0_i139_)
                  · show zW l m_M_reads (zn Mz + 0, zw Mz + 0) N133_ 50 [some (.ref 81)] [.int (Int32.ofInt 0)] _
                    refine zr_if_eq (pc := 50) (tgt := 60) ⟨(by decide), (by decide)⟩ (by decide) d_M_reads_50 (fun hc_50 => ?_) (fun hc_50 => ?_)
                    · exact j_60 N133_ hb1_N133_ i135_ (show 0 ≤ ze N133_ 81 13 by first | (exact i136_) | assumption) (show ze N133_ 81 13 ≤ 4 by first | (exact i137_) | assumption) (show ze N133_ 81 14 = 0 by first | (exact i138_) | assumption) (show (1 ≤ ze N133_ 81 7 ∧ zTrB b_ n_ (ze Mz 81 4).toNat) ∨ (ze N133_ 81 7 = 0 ∧ 1 ≤ ze N133_ 81 12 ∧ ze N133_ 81 12 ≤ 6 ∧ zPm N133_ ∧ zFin N133_ ∧ (∃ q : Nat, zHd b_ n_ (ze Mz 81 4).toNat (ze N133_ 81 12).toNat q ∧ zRg (zbs b_ n_ (ze N133_ 81 12).toNat) (0, q, []) (1, (ze N133_ 81 4).toNat, zMvs N133_))) from Or.inl (⟨(show 1 ≤ ze N133_ 81 7 by first | (exact hl43_0_i139_) | assumption | exact hrt_ | exact hrt2_ | exact hmx_ | exact hPm_ | exact hFn_ | exact hLT2_ | exact hnk_), (show zTrB b_ n_ (ze Mz 81 4).toNat by first | (exact hrt_) | assumption | exact hrt_ | exact hrt2_ | exact hmx_ | exact hPm_ | exact hFn_ | exact hLT2_ | exact hnk_)⟩)) i140_ i141_
                    · exact absurd hc_50 (by decide)
                · as_aux_lemma =>
                    have hPm_ := hl43_3_i139_
                    have hFn_ := hl43_4_i139_
                    have hmv_ := hl43_5_i139_
                    refine zw_aload_n (pc := 43) (n := 0) (x := 81) rfl d_M_reads_43 ?_
                    refine zr_ldc2 (pc := 44) (n := 1836021349) (by decide) k_M_177 d_M_reads_44 ?_
                    refine zr_callV (hf_N133_.w hW) hf_N133_.x (pc := 47) [.long (Int64.ofInt 1836021349)] [] l_M_312 (c_M_isWordF l N133_ (hf_N133_.w hW) 1836021349 (by decide) (by decide) b_ n_ i135_) rfl rfl rfl (by decide) (Nat.le_of_ble_eq_true rfl) d_M_reads_47 ?_
                    rintro _ N145_ ⟨v146_, rfl, ⟨hv146_a, hv146_b⟩, hsN145_, hp0_N145_⟩
                    obtain rfl := hsN145_.eq.symm
                    replace hp0_N145_ : ((v146_ = 1 ∧ ze N133_ 81 7 = 0 ∧ zkd b_ n_ (ze N133_ 81 4).toNat = 1 ∧ zke8 b_ n_ (ze N133_ 81 4).toNat = 1836021349) ∨ (v146_ = 0 ∧ (ze N133_ 81 7 = 0 → ¬ (zkd b_ n_ (ze N133_ 81 4).toNat = 1 ∧ zke8 b_ n_ (ze N133_ 81 4).toNat = 1836021349)))) := hp0_N145_
                    rcases hp0_N145_ with ⟨rfl, ha47_0_hp0_N145_, ha47_1_hp0_N145_, ha47_2_hp0_N145_⟩ | ⟨rfl, ha47_0_hp0_N145_⟩
                    · as_aux_lemma =>
                        have hk1_ := ha47_1_hp0_N145_
                        have hks_ := (zke8_w hk1_ (i := 1) (by decide)).mp ha47_2_hp0_N145_
                        show zW l m_M_reads (zn Mz + 0, zw Mz + 0) N133_ 50 [some (.ref 81)] [.int (Int32.ofInt 1)] _
                        refine zr_if_eq (pc := 50) (tgt := 60) ⟨(by decide), (by decide)⟩ (by decide) d_M_reads_50 (fun hc_50 => ?_) (fun hc_50 => ?_)
                        · exact absurd hc_50 (by decide)
                        · as_aux_lemma =>
                            refine zw_aload_n (pc := 53) (n := 0) (x := 81) rfl (zdal_p dlC_M_reads_72 (i := 1) rfl) ?_
                            refine zr_callV (hf_N133_.w hW) hf_N133_.x (pc := 54) [] [] l_M_361 (c_M_moveLineF l N133_ (hf_N133_.w hW) b_ n_ c142_ i135_ (show ze N133_ 81 7 = 0 by first | (exact hl43_0_i139_) | assumption) (show zkd b_ n_ (ze N133_ 81 4).toNat = 1 by first | (exact ha47_1_hp0_N145_) | assumption) (show zkey b_ n_ (ze N133_ 81 4).toNat = zkw 1 by first | (exact hks_) | assumption) (show 1 ≤ ze N133_ 81 12 by first | (exact hl43_1_i139_) | assumption) (show ze N133_ 81 12 ≤ 6 by first | (exact hl43_2_i139_) | assumption) (show 0 ≤ ze N133_ 81 13 by first | (exact i136_) | assumption) (show ze N133_ 81 13 ≤ 4 by first | (exact i137_) | assumption) hPm_ i140_ i141_) rfl rfl rfl (by decide) (Nat.le_of_ble_eq_true rfl) (zdal_p dlC_M_reads_72 (i := 2) rfl) ?_
                            rintro _ N147_ ⟨rfl, hsN147_, ⟨hp0_N147_, hp1_N147_, hp2_N147_, hp3_N147_, hp4_N147_, hp5_N147_⟩⟩
                            have hf_N147_ := hf_N133_.tr hsN147_ (by decide +kernel) (by decide +kernel)
                            have hb0_N147_ := hb0_N133_.tr hsN147_ (by decide +kernel) (by decide +kernel)
                            have hb1_N147_ := hb1_N133_.tr hsN147_ (by decide +kernel) (by decide +kernel)
                            have hb2_N147_ := hs134_.tr hsN147_ (by decide +kernel) (by decide +kernel)
                            have r3_N147_ := ze_r N147_ 81 3
                            have r4_N147_ := ze_r N147_ 81 4
                            have r5_N147_ := ze_r N147_ 81 5
                            have r7_N147_ := ze_r N147_ 81 7
                            have e12_N147_ : ze N147_ 81 12 = ze N133_ 81 12 := hsN147_.e (by decide)
                            have r13_N147_ := ze_r N147_ 81 13
                            have e14_N147_ : ze N147_ 81 14 = ze N133_ 81 14 := hsN147_.e (by decide)
                            rcases hp5_N147_ with ⟨ha54_0_hp5_N147_, ha54_1_hp5_N147_⟩ | ⟨ha54_0_hp5_N147_, ha54_1_hp5_N147_, ha54_2_hp5_N147_, ha54_3_hp5_N147_, ha54_4_hp5_N147_⟩
                            · have hrt_ : zTrB b_ n_ (ze Mz 81 4).toNat := by obtain ⟨q_, h1_, h2_⟩ := id hmv_; exact Or.inr (Or.inl ⟨_, q_, h1_, h2_.tr (zRg.st ha54_1_hp5_N147_)⟩)
                              show zW l m_M_reads (zn Mz + 0, zw Mz + 0) N147_ 57 [some (.ref 81)] [] _
                              refine zw_goto (pc := 57) (tgt := 43) (by decide) d_M_reads_57 ?_
                              exact ih_43 N147_ hb2_N147_ hp0_N147_ (show 0 ≤ ze N147_ 81 13 by first | (exact hp1_N147_) | assumption) (show ze N147_ 81 13 ≤ 4 by first | (exact hp2_N147_) | assumption) (show ze N147_ 81 14 = 0 by first | (exact zo_610 e14_N147_ i138_) | assumption) (show (1 ≤ ze N147_ 81 7 ∧ zTrB b_ n_ (ze Mz 81 4).toNat) ∨ (ze N147_ 81 7 = 0 ∧ 1 ≤ ze N147_ 81 12 ∧ ze N147_ 81 12 ≤ 6 ∧ zPm N147_ ∧ zFin N147_ ∧ (∃ q : Nat, zHd b_ n_ (ze Mz 81 4).toNat (ze N147_ 81 12).toNat q ∧ zRg (zbs b_ n_ (ze N147_ 81 12).toNat) (0, q, []) (0, (ze N147_ 81 4).toNat, zMvs N147_))) from Or.inl (⟨(show 1 ≤ ze N147_ 81 7 by first | (exact ha54_0_hp5_N147_) | assumption | exact hrt_ | exact hmv2_ | exact hPm2_ | exact hFn2_ | exact hLT3_ | exact hPb_ | exact hFb_), (show zTrB b_ n_ (ze Mz 81 4).toNat by first | (exact hrt_) | assumption | exact hrt_ | exact hmv2_ | exact hPm2_ | exact hFn2_ | exact hLT3_ | exact hPb_ | exact hFb_)⟩)) hp3_N147_ hp4_N147_ (by have m1_ := zmF_c n_ N147_; have m2_ := zmF_c n_ N133_; have m3_ := hp0_N147_.x; omega)
                            · have hmv2_ : (∃ q : Nat, zHd b_ n_ (ze Mz 81 4).toNat (ze N147_ 81 12).toNat q ∧ zRg (zbs b_ n_ (ze N147_ 81 12).toNat) (0, q, []) (0, (ze N147_ 81 4).toNat, zMvs N147_)) := by obtain ⟨q_, h1_, h2_⟩ := id hmv_; rw [show ze N147_ 81 12 = ze N133_ 81 12 by (exact e12_N147_)]; exact ⟨q_, h1_, h2_.tr (zRg.st ha54_1_hp5_N147_)⟩
                              have hPm2_ := ha54_2_hp5_N147_
                              have hFn2_ := ha54_3_hp5_N147_
                              have hlt2_ := ha54_4_hp5_N147_
                              show zW l m_M_reads (zn Mz + 0, zw Mz + 0) N147_ 57 [some (.ref 81)] [] _
                              refine zw_goto (pc := 57) (tgt := 43) (by decide) d_M_reads_57 ?_
                              exact ih_43 N147_ hb2_N147_ hp0_N147_ (show 0 ≤ ze N147_ 81 13 by first | (exact hp1_N147_) | assumption) (show ze N147_ 81 13 ≤ 4 by first | (exact hp2_N147_) | assumption) (show ze N147_ 81 14 = 0 by first | (exact zo_610 e14_N147_ i138_) | assumption) (show (1 ≤ ze N147_ 81 7 ∧ zTrB b_ n_ (ze Mz 81 4).toNat) ∨ (ze N147_ 81 7 = 0 ∧ 1 ≤ ze N147_ 81 12 ∧ ze N147_ 81 12 ≤ 6 ∧ zPm N147_ ∧ zFin N147_ ∧ (∃ q : Nat, zHd b_ n_ (ze Mz 81 4).toNat (ze N147_ 81 12).toNat q ∧ zRg (zbs b_ n_ (ze N147_ 81 12).toNat) (0, q, []) (0, (ze N147_ 81 4).toNat, zMvs N147_))) from Or.inr (⟨(show ze N147_ 81 7 = 0 by first | (exact ha54_0_hp5_N147_) | assumption | exact hrt_ | exact hmv2_ | exact hPm2_ | exact hFn2_ | exact hLT3_ | exact hPb_ | exact hFb_), (show 1 ≤ ze N147_ 81 12 by first | (exact zo_533 e12_N147_ hl43_1_i139_) | assumption | exact hrt_ | exact hmv2_ | exact hPm2_ | exact hFn2_ | exact hLT3_ | exact hPb_ | exact hFb_), (show ze N147_ 81 12 ≤ 6 by first | (exact zo_810 e12_N147_ hl43_2_i139_) | assumption | exact hrt_ | exact hmv2_ | exact hPm2_ | exact hFn2_ | exact hLT3_ | exact hPb_ | exact hFb_), (show zPm N147_ by first | (exact ha54_2_hp5_N147_) | assumption | exact hrt_ | exact hmv2_ | exact hPm2_ | exact hFn2_ | exact hLT3_ | exact hPb_ | exact hFb_), (show zFin N147_ by first | (exact ha54_3_hp5_N147_) | assumption | exact hrt_ | exact hmv2_ | exact hPm2_ | exact hFn2_ | exact hLT3_ | exact hPb_ | exact hFb_), (show (∃ q : Nat, zHd b_ n_ (ze Mz 81 4).toNat (ze N147_ 81 12).toNat q ∧ zRg (zbs b_ n_ (ze N147_ 81 12).toNat) (0, q, []) (0, (ze N147_ 81 4).toNat, zMvs N147_)) by first | (exact hmv2_) | assumption | exact hrt_ | exact hmv2_ | exact hPm2_ | exact hFn2_ | exact hLT3_ | exact hPb_ | exact hFb_)⟩)) hp3_N147_ hp4_N147_ (by have m1_ := zmF_c n_ N147_; have m2_ := zmF_c n_ N133_; have m3_ := hp0_N147_.x; omega)
                    · have hnm2_ : ¬ (zkd b_ n_ (ze N133_ 81 4).toNat = 1 ∧ zkey b_ n_ (ze N133_ 81 4).toNat = zkw 1) := fun q_ => ha47_0_hp0_N145_ (by (exact hl43_0_i139_)) ⟨q_.1, (zke8_w q_.1 (i := 1) (by decide)).mpr q_.2⟩
                      have hmx_ : (∃ q : Nat, zHd b_ n_ (ze Mz 81 4).toNat (ze N133_ 81 12).toNat q ∧ zRg (zbs b_ n_ (ze N133_ 81 12).toNat) (0, q, []) (1, (ze N133_ 81 4).toNat, zMvs N133_)) := by obtain ⟨q_, h1_, h2_⟩ := id hmv_; exact ⟨q_, h1_, h2_.tr (zRg.st (zbs_e hnm2_))⟩
                      show zW l m_M_reads (zn Mz + 0, zw Mz + 0) N133_ 50 [some (.ref 81)] [.int (Int32.ofInt 0)] _
                      refine zr_if_eq (pc := 50) (tgt := 60) ⟨(by decide), (by decide)⟩ (by decide) d_M_reads_50 (fun hc_50 => ?_) (fun hc_50 => ?_)
                      · exact j_60 N133_ hb1_N133_ i135_ (show 0 ≤ ze N133_ 81 13 by first | (exact i136_) | assumption) (show ze N133_ 81 13 ≤ 4 by first | (exact i137_) | assumption) (show ze N133_ 81 14 = 0 by first | (exact i138_) | assumption) (show (1 ≤ ze N133_ 81 7 ∧ zTrB b_ n_ (ze Mz 81 4).toNat) ∨ (ze N133_ 81 7 = 0 ∧ 1 ≤ ze N133_ 81 12 ∧ ze N133_ 81 12 ≤ 6 ∧ zPm N133_ ∧ zFin N133_ ∧ (∃ q : Nat, zHd b_ n_ (ze Mz 81 4).toNat (ze N133_ 81 12).toNat q ∧ zRg (zbs b_ n_ (ze N133_ 81 12).toNat) (0, q, []) (1, (ze N133_ 81 4).toNat, zMvs N133_))) from Or.inr (⟨(show ze N133_ 81 7 = 0 by first | (exact hl43_0_i139_) | assumption | exact hrt_ | exact hrt2_ | exact hmx_ | exact hPm_ | exact hFn_ | exact hLT2_ | exact hnk_), (show 1 ≤ ze N133_ 81 12 by first | (exact hl43_1_i139_) | assumption | exact hrt_ | exact hrt2_ | exact hmx_ | exact hPm_ | exact hFn_ | exact hLT2_ | exact hnk_), (show ze N133_ 81 12 ≤ 6 by first | (exact hl43_2_i139_) | assumption | exact hrt_ | exact hrt2_ | exact hmx_ | exact hPm_ | exact hFn_ | exact hLT2_ | exact hnk_), (show zPm N133_ by first | (exact hl43_3_i139_) | assumption | exact hrt_ | exact hrt2_ | exact hmx_ | exact hPm_ | exact hFn_ | exact hLT2_ | exact hnk_), (show zFin N133_ by first | (exact hl43_4_i139_) | assumption | exact hrt_ | exact hrt2_ | exact hmx_ | exact hPm_ | exact hFn_ | exact hLT2_ | exact hnk_), (show (∃ q : Nat, zHd b_ n_ (ze Mz 81 4).toNat (ze N133_ 81 12).toNat q ∧ zRg (zbs b_ n_ (ze N133_ 81 12).toNat) (0, q, []) (1, (ze N133_ 81 4).toNat, zMvs N133_)) by first | (exact hmx_) | assumption | exact hrt_ | exact hrt2_ | exact hmx_ | exact hPm_ | exact hFn_ | exact hLT2_ | exact hnk_)⟩)) i140_ i141_
                      · exact absurd hc_50 (by decide)
            exact lp_43 _ N128_ zFr.rf hp0_N128_ (show 0 ≤ ze N128_ 81 13 by first | (exact zo_631 e13_N128_ i100_) | assumption) (show ze N128_ 81 13 ≤ 4 by first | (exact zo_817 e13_N128_ i100_) | assumption) (show ze N128_ 81 14 = 0 by first | (exact zo_610 e14_N128_ i101_) | assumption) (show (1 ≤ ze N128_ 81 7 ∧ zTrB b_ n_ (ze Mz 81 4).toNat) ∨ (ze N128_ 81 7 = 0 ∧ 1 ≤ ze N128_ 81 12 ∧ ze N128_ 81 12 ≤ 6 ∧ zPm N128_ ∧ zFin N128_ ∧ (∃ q : Nat, zHd b_ n_ (ze Mz 81 4).toNat (ze N128_ 81 12).toNat q ∧ zRg (zbs b_ n_ (ze N128_ 81 12).toNat) (0, q, []) (0, (ze N128_ 81 4).toNat, zMvs N128_))) from Or.inl (⟨(show 1 ≤ ze N128_ 81 7 by first | (exact ha40_0_hp1_N128_) | assumption | exact hrt_ | exact hrt2_ | exact hmv0_ | exact hP0_ | exact hF0_ | exact hLT0_ | exact hPb_ | exact hFb_), (show zTrB b_ n_ (ze Mz 81 4).toNat by first | (exact hrt_) | assumption | exact hrt_ | exact hrt2_ | exact hmv0_ | exact hP0_ | exact hF0_ | exact hLT0_ | exact hPb_ | exact hFb_)⟩)) c131_ c132_ (Nat.lt_succ_self _)
        · as_aux_lemma =>
            have hsg_ := ha40_2_hp1_N128_
            have hx3_ := ha40_3_hp1_N128_
            rw [hx2_] at hsg_ hx3_
            have hPn_ : (ze N128_ 81 12) = ze N97_ 81 12 := by (exact e12_N128_)
            have hHd_ : zHd b_ n_ (ze Mz 81 4).toNat (ze N128_ 81 12).toNat (ze N128_ 81 4).toNat := ⟨⟨hk1_, hks_⟩, ⟨hk2_, by (exact zo_818 e12_N128_ hl37_4_i102_ hl37_5_i102_ hl37_6_i102_), by (exact zo_819 e12_N128_ hl37_5_i102_), by (exact zo_820 e12_N128_ hl37_5_i102_ hl37_6_i102_)⟩, hsg_, hx3_⟩
            have hmv0_ : (∃ q : Nat, zHd b_ n_ (ze Mz 81 4).toNat (ze N128_ 81 12).toNat q ∧ zRg (zbs b_ n_ (ze N128_ 81 12).toNat) (0, q, []) (0, (ze N128_ 81 4).toNat, zMvs N128_)) := ⟨_, hHd_, by rw [show zMvs N128_ = [] by unfold zMvs; rw [show (ze N128_ 81 13).toNat = 0 by (exact zo_599 e13_N128_ i100_)]; rfl]; exact zRg.rf⟩
            have hP0_ : zPm N128_ := zPm_0 (by (exact zo_610 e13_N128_ i100_))
            have hF0_ : zFin N128_ := zFin_0 (by (exact zo_610 e13_N128_ i100_))
            show zW l m_M_reads (zn Mz + 0, zw Mz + 0) N128_ 43 [some (.ref 81)] [] _
            have lp_43 : ∀ (n : Nat) (N150_ : zMem) (hs151_ : zFr [3, 4, 5, 6, 7, 8, 11, 13, 20] [83, 85, 86, 87, 88] N128_ N150_) (i152_ : zRt b_ n_ N150_) (i153_ : 0 ≤ ze N150_ 81 13) (i154_ : ze N150_ 81 13 ≤ 4) (i155_ : ze N150_ 81 14 = 0) (i156_ : (1 ≤ ze N150_ 81 7 ∧ zTrB b_ n_ (ze Mz 81 4).toNat) ∨ (ze N150_ 81 7 = 0 ∧ 1 ≤ ze N150_ 81 12 ∧ ze N150_ 81 12 ≤ 6 ∧ zPm N150_ ∧ zFin N150_ ∧ (∃ q : Nat, zHd b_ n_ (ze Mz 81 4).toNat (ze N150_ 81 12).toNat q ∧ zRg (zbs b_ n_ (ze N150_ 81 12).toNat) (0, q, []) (0, (ze N150_ 81 4).toNat, zMvs N150_)))) (i157_ : zB 83 24 0 5 N150_) (i158_ : zB 85 144 0 5 N150_), zmF n_ N150_ < n → zW l m_M_reads (zn Mz + 0, zw Mz + 0) N150_ 43 [some (.ref 81)] [] (zpV [3, 4, 5, 6, 7, 8, 11, 12, 13, 14, 20, 25, 26, 38, 39, 41, 42, 43] [83, 85, 86, 87, 88, 89, 90, 91, 92, 93, 94, 95, 96, 97, 100, 101, 102] Mz (fun N => zRt b_ n_ N ∧ 0 ≤ ze N 81 13 ∧ ze N 81 13 ≤ 4 ∧ 0 ≤ ze N 81 14 ∧ ze N 81 14 ≤ 8 ∧ zB 83 24 0 5 N ∧ zB 85 144 0 5 N ∧ (((1 ≤ ze N 81 7 ∧ zTrB b_ n_ (ze Mz 81 4).toNat) ∨ (ze N 81 7 = 0 ∧ 1 ≤ ze N 81 12 ∧ ze N 81 12 ≤ 6 ∧ zPm N ∧ zFin N ∧ (∃ T : zGT, ∃ mv : List Nat, ∃ P : Nat, ∃ nm : List (Int × (Nat → Int)), T ∈ gTabs ∧ zGB T N ∧ zTrN b_ n_ (ze Mz 81 4).toNat P mv T nm ∧ zMvs N = mv ∧ ze N 81 12 = (P : Int) ∧ zCdS (P : Int) mv T N ∧ zRNm nm (gF T).length (gmkI T) b_ n_ N)))))) := by
              clear hs98_ i99_ i100_ i101_ hf_N97_ hb0_N97_ hb1_N97_ r3_N97_ r4_N97_ r5_N97_ r7_N97_ r12_N97_ e13_N97_ e14_N97_ c103_ c104_ c105_ hl37_0_i102_ hl37_4_i102_ hl37_5_i102_ hl37_6_i102_ hl37_7_i102_ hsN128_ e12_N128_ e13_N128_ e14_N128_ ha40_1_hp1_N128_ ha40_2_hp1_N128_ ha40_3_hp1_N128_ hPn_
              intro n
              induction n with
              | zero =>
                intro N150_ hs151_ i152_ i153_ i154_ i155_ i156_ i157_ i158_ h0
                exact absurd h0 (Nat.not_lt_zero _)
              | succ n ih_43 =>
                intro N150_ hs151_ i152_ i153_ i154_ i155_ i156_ i157_ i158_ hlt_43
                have hf_N150_ := hf_N128_.tr hs151_ (by decide +kernel) (by decide +kernel)
                have hb0_N150_ := hb0_N128_.tr hs151_ (by decide +kernel) (by decide +kernel)
                have hb1_N150_ := hb1_N128_.tr hs151_ (by decide +kernel) (by decide +kernel)
                have r3_N150_ := ze_r N150_ 81 3
                have r4_N150_ := ze_r N150_ 81 4
                have r5_N150_ := ze_r N150_ 81 5
                have r7_N150_ := ze_r N150_ 81 7
                have e12_N150_ : ze N150_ 81 12 = ze N128_ 81 12 := hs151_.e (by decide)
                have r13_N150_ := ze_r N150_ 81 13
                have e14_N150_ : ze N150_ 81 14 = ze N128_ 81 14 := hs151_.e (by decide)
                have c159_ : zRb b_ n_ N150_ := zRb.fr hs151_ c130_ (by decide +kernel) (by decide +kernel)
                rcases i156_ with ⟨hl43_0_i156_, hl43_1_i156_⟩ | ⟨hl43_0_i156_, hl43_1_i156_, hl43_2_i156_, hl43_3_i156_, hl43_4_i156_, hl43_5_i156_⟩
                · refine zw_aload_n (pc := 43) (n := 0) (x := 81) rfl d_M_reads_43 ?_
                  refine zr_ldc2 (pc := 44) (n := 1836021349) (by decide) k_M_177 d_M_reads_44 ?_
                  refine zr_callV (hf_N150_.w hW) hf_N150_.x (pc := 47) [.long (Int64.ofInt 1836021349)] [] l_M_312 (c_M_isWordF l N150_ (hf_N150_.w hW) 1836021349 (by decide) (by decide) b_ n_ i152_) rfl rfl rfl (by decide) (Nat.le_of_ble_eq_true rfl) d_M_reads_47 ?_
                  rintro _ N160_ ⟨v161_, rfl, ⟨hv161_a, hv161_b⟩, hsN160_, hp0_N160_⟩
                  obtain rfl := hsN160_.eq.symm
                  replace hp0_N160_ : ((v161_ = 1 ∧ ze N150_ 81 7 = 0 ∧ zkd b_ n_ (ze N150_ 81 4).toNat = 1 ∧ zke8 b_ n_ (ze N150_ 81 4).toNat = 1836021349) ∨ (v161_ = 0 ∧ (ze N150_ 81 7 = 0 → ¬ (zkd b_ n_ (ze N150_ 81 4).toNat = 1 ∧ zke8 b_ n_ (ze N150_ 81 4).toNat = 1836021349)))) := hp0_N160_
                  rcases hp0_N160_ with ⟨rfl, ha47_0_hp0_N160_, ha47_1_hp0_N160_, ha47_2_hp0_N160_⟩ | ⟨rfl, ha47_0_hp0_N160_⟩
                  · exfalso; (exact zo_281 ha47_0_hp0_N160_ hl43_0_i156_)
                  · show zW l m_M_reads (zn Mz + 0, zw Mz + 0) N150_ 50 [some (.ref 81)] [.int (Int32.ofInt 0)] _
                    refine zr_if_eq (pc := 50) (tgt := 60) ⟨(by decide), (by decide)⟩ (by decide) d_M_reads_50 (fun hc_50 => ?_) (fun hc_50 => ?_)
                    · exact j_60 N150_ hb1_N150_ i152_ (show 0 ≤ ze N150_ 81 13 by first | (exact i153_) | assumption) (show ze N150_ 81 13 ≤ 4 by first | (exact i154_) | assumption) (show ze N150_ 81 14 = 0 by first | (exact i155_) | assumption) (show (1 ≤ ze N150_ 81 7 ∧ zTrB b_ n_ (ze Mz 81 4).toNat) ∨ (ze N150_ 81 7 = 0 ∧ 1 ≤ ze N150_ 81 12 ∧ ze N150_ 81 12 ≤ 6 ∧ zPm N150_ ∧ zFin N150_ ∧ (∃ q : Nat, zHd b_ n_ (ze Mz 81 4).toNat (ze N150_ 81 12).toNat q ∧ zRg (zbs b_ n_ (ze N150_ 81 12).toNat) (0, q, []) (1, (ze N150_ 81 4).toNat, zMvs N150_))) from Or.inl (⟨(show 1 ≤ ze N150_ 81 7 by first | (exact hl43_0_i156_) | assumption | exact hrt_ | exact hrt2_ | exact hmx_ | exact hPm_ | exact hFn_ | exact hLT2_ | exact hnk_), (show zTrB b_ n_ (ze Mz 81 4).toNat by first | (exact hl43_1_i156_) | assumption | exact hrt_ | exact hrt2_ | exact hmx_ | exact hPm_ | exact hFn_ | exact hLT2_ | exact hnk_)⟩)) i157_ i158_
                    · exact absurd hc_50 (by decide)
                · as_aux_lemma =>
                    have hPm_ := hl43_3_i156_
                    have hFn_ := hl43_4_i156_
                    have hmv_ := hl43_5_i156_
                    refine zw_aload_n (pc := 43) (n := 0) (x := 81) rfl d_M_reads_43 ?_
                    refine zr_ldc2 (pc := 44) (n := 1836021349) (by decide) k_M_177 d_M_reads_44 ?_
                    refine zr_callV (hf_N150_.w hW) hf_N150_.x (pc := 47) [.long (Int64.ofInt 1836021349)] [] l_M_312 (c_M_isWordF l N150_ (hf_N150_.w hW) 1836021349 (by decide) (by decide) b_ n_ i152_) rfl rfl rfl (by decide) (Nat.le_of_ble_eq_true rfl) d_M_reads_47 ?_
                    rintro _ N162_ ⟨v163_, rfl, ⟨hv163_a, hv163_b⟩, hsN162_, hp0_N162_⟩
                    obtain rfl := hsN162_.eq.symm
                    replace hp0_N162_ : ((v163_ = 1 ∧ ze N150_ 81 7 = 0 ∧ zkd b_ n_ (ze N150_ 81 4).toNat = 1 ∧ zke8 b_ n_ (ze N150_ 81 4).toNat = 1836021349) ∨ (v163_ = 0 ∧ (ze N150_ 81 7 = 0 → ¬ (zkd b_ n_ (ze N150_ 81 4).toNat = 1 ∧ zke8 b_ n_ (ze N150_ 81 4).toNat = 1836021349)))) := hp0_N162_
                    rcases hp0_N162_ with ⟨rfl, ha47_0_hp0_N162_, ha47_1_hp0_N162_, ha47_2_hp0_N162_⟩ | ⟨rfl, ha47_0_hp0_N162_⟩
                    · as_aux_lemma =>
                        have hk1_ := ha47_1_hp0_N162_
                        have hks_ := (zke8_w hk1_ (i := 1) (by decide)).mp ha47_2_hp0_N162_
                        show zW l m_M_reads (zn Mz + 0, zw Mz + 0) N150_ 50 [some (.ref 81)] [.int (Int32.ofInt 1)] _
                        refine zr_if_eq (pc := 50) (tgt := 60) ⟨(by decide), (by decide)⟩ (by decide) d_M_reads_50 (fun hc_50 => ?_) (fun hc_50 => ?_)
                        · exact absurd hc_50 (by decide)
                        · as_aux_lemma =>
                            refine zw_aload_n (pc := 53) (n := 0) (x := 81) rfl (zdal_p dlC_M_reads_72 (i := 1) rfl) ?_
                            refine zr_callV (hf_N150_.w hW) hf_N150_.x (pc := 54) [] [] l_M_361 (c_M_moveLineF l N150_ (hf_N150_.w hW) b_ n_ c159_ i152_ (show ze N150_ 81 7 = 0 by first | (exact hl43_0_i156_) | assumption) (show zkd b_ n_ (ze N150_ 81 4).toNat = 1 by first | (exact ha47_1_hp0_N162_) | assumption) (show zkey b_ n_ (ze N150_ 81 4).toNat = zkw 1 by first | (exact hks_) | assumption) (show 1 ≤ ze N150_ 81 12 by first | (exact hl43_1_i156_) | assumption) (show ze N150_ 81 12 ≤ 6 by first | (exact hl43_2_i156_) | assumption) (show 0 ≤ ze N150_ 81 13 by first | (exact i153_) | assumption) (show ze N150_ 81 13 ≤ 4 by first | (exact i154_) | assumption) hPm_ i157_ i158_) rfl rfl rfl (by decide) (Nat.le_of_ble_eq_true rfl) (zdal_p dlC_M_reads_72 (i := 2) rfl) ?_
                            rintro _ N164_ ⟨rfl, hsN164_, ⟨hp0_N164_, hp1_N164_, hp2_N164_, hp3_N164_, hp4_N164_, hp5_N164_⟩⟩
                            have hf_N164_ := hf_N150_.tr hsN164_ (by decide +kernel) (by decide +kernel)
                            have hb0_N164_ := hb0_N150_.tr hsN164_ (by decide +kernel) (by decide +kernel)
                            have hb1_N164_ := hb1_N150_.tr hsN164_ (by decide +kernel) (by decide +kernel)
                            have hb2_N164_ := hs151_.tr hsN164_ (by decide +kernel) (by decide +kernel)
                            have r3_N164_ := ze_r N164_ 81 3
                            have r4_N164_ := ze_r N164_ 81 4
                            have r5_N164_ := ze_r N164_ 81 5
                            have r7_N164_ := ze_r N164_ 81 7
                            have e12_N164_ : ze N164_ 81 12 = ze N150_ 81 12 := hsN164_.e (by decide)
                            have r13_N164_ := ze_r N164_ 81 13
                            have e14_N164_ : ze N164_ 81 14 = ze N150_ 81 14 := hsN164_.e (by decide)
                            rcases hp5_N164_ with ⟨ha54_0_hp5_N164_, ha54_1_hp5_N164_⟩ | ⟨ha54_0_hp5_N164_, ha54_1_hp5_N164_, ha54_2_hp5_N164_, ha54_3_hp5_N164_, ha54_4_hp5_N164_⟩
                            · have hrt_ : zTrB b_ n_ (ze Mz 81 4).toNat := by obtain ⟨q_, h1_, h2_⟩ := id hmv_; exact Or.inr (Or.inl ⟨_, q_, h1_, h2_.tr (zRg.st ha54_1_hp5_N164_)⟩)
                              show zW l m_M_reads (zn Mz + 0, zw Mz + 0) N164_ 57 [some (.ref 81)] [] _
                              refine zw_goto (pc := 57) (tgt := 43) (by decide) d_M_reads_57 ?_
                              exact ih_43 N164_ hb2_N164_ hp0_N164_ (show 0 ≤ ze N164_ 81 13 by first | (exact hp1_N164_) | assumption) (show ze N164_ 81 13 ≤ 4 by first | (exact hp2_N164_) | assumption) (show ze N164_ 81 14 = 0 by first | (exact zo_610 e14_N164_ i155_) | assumption) (show (1 ≤ ze N164_ 81 7 ∧ zTrB b_ n_ (ze Mz 81 4).toNat) ∨ (ze N164_ 81 7 = 0 ∧ 1 ≤ ze N164_ 81 12 ∧ ze N164_ 81 12 ≤ 6 ∧ zPm N164_ ∧ zFin N164_ ∧ (∃ q : Nat, zHd b_ n_ (ze Mz 81 4).toNat (ze N164_ 81 12).toNat q ∧ zRg (zbs b_ n_ (ze N164_ 81 12).toNat) (0, q, []) (0, (ze N164_ 81 4).toNat, zMvs N164_))) from Or.inl (⟨(show 1 ≤ ze N164_ 81 7 by first | (exact ha54_0_hp5_N164_) | assumption | exact hrt_ | exact hmv2_ | exact hPm2_ | exact hFn2_ | exact hLT3_ | exact hPb_ | exact hFb_), (show zTrB b_ n_ (ze Mz 81 4).toNat by first | (exact hrt_) | assumption | exact hrt_ | exact hmv2_ | exact hPm2_ | exact hFn2_ | exact hLT3_ | exact hPb_ | exact hFb_)⟩)) hp3_N164_ hp4_N164_ (by have m1_ := zmF_c n_ N164_; have m2_ := zmF_c n_ N150_; have m3_ := hp0_N164_.x; omega)
                            · have hmv2_ : (∃ q : Nat, zHd b_ n_ (ze Mz 81 4).toNat (ze N164_ 81 12).toNat q ∧ zRg (zbs b_ n_ (ze N164_ 81 12).toNat) (0, q, []) (0, (ze N164_ 81 4).toNat, zMvs N164_)) := by obtain ⟨q_, h1_, h2_⟩ := id hmv_; rw [show ze N164_ 81 12 = ze N150_ 81 12 by (exact e12_N164_)]; exact ⟨q_, h1_, h2_.tr (zRg.st ha54_1_hp5_N164_)⟩
                              have hPm2_ := ha54_2_hp5_N164_
                              have hFn2_ := ha54_3_hp5_N164_
                              have hlt2_ := ha54_4_hp5_N164_
                              show zW l m_M_reads (zn Mz + 0, zw Mz + 0) N164_ 57 [some (.ref 81)] [] _
                              refine zw_goto (pc := 57) (tgt := 43) (by decide) d_M_reads_57 ?_
                              exact ih_43 N164_ hb2_N164_ hp0_N164_ (show 0 ≤ ze N164_ 81 13 by first | (exact hp1_N164_) | assumption) (show ze N164_ 81 13 ≤ 4 by first | (exact hp2_N164_) | assumption) (show ze N164_ 81 14 = 0 by first | (exact zo_610 e14_N164_ i155_) | assumption) (show (1 ≤ ze N164_ 81 7 ∧ zTrB b_ n_ (ze Mz 81 4).toNat) ∨ (ze N164_ 81 7 = 0 ∧ 1 ≤ ze N164_ 81 12 ∧ ze N164_ 81 12 ≤ 6 ∧ zPm N164_ ∧ zFin N164_ ∧ (∃ q : Nat, zHd b_ n_ (ze Mz 81 4).toNat (ze N164_ 81 12).toNat q ∧ zRg (zbs b_ n_ (ze N164_ 81 12).toNat) (0, q, []) (0, (ze N164_ 81 4).toNat, zMvs N164_))) from Or.inr (⟨(show ze N164_ 81 7 = 0 by first | (exact ha54_0_hp5_N164_) | assumption | exact hrt_ | exact hmv2_ | exact hPm2_ | exact hFn2_ | exact hLT3_ | exact hPb_ | exact hFb_), (show 1 ≤ ze N164_ 81 12 by first | (exact zo_533 e12_N164_ hl43_1_i156_) | assumption | exact hrt_ | exact hmv2_ | exact hPm2_ | exact hFn2_ | exact hLT3_ | exact hPb_ | exact hFb_), (show ze N164_ 81 12 ≤ 6 by first | (exact zo_810 e12_N164_ hl43_2_i156_) | assumption | exact hrt_ | exact hmv2_ | exact hPm2_ | exact hFn2_ | exact hLT3_ | exact hPb_ | exact hFb_), (show zPm N164_ by first | (exact ha54_2_hp5_N164_) | assumption | exact hrt_ | exact hmv2_ | exact hPm2_ | exact hFn2_ | exact hLT3_ | exact hPb_ | exact hFb_), (show zFin N164_ by first | (exact ha54_3_hp5_N164_) | assumption | exact hrt_ | exact hmv2_ | exact hPm2_ | exact hFn2_ | exact hLT3_ | exact hPb_ | exact hFb_), (show (∃ q : Nat, zHd b_ n_ (ze Mz 81 4).toNat (ze N164_ 81 12).toNat q ∧ zRg (zbs b_ n_ (ze N164_ 81 12).toNat) (0, q, []) (0, (ze N164_ 81 4).toNat, zMvs N164_)) by first | (exact hmv2_) | assumption | exact hrt_ | exact hmv2_ | exact hPm2_ | exact hFn2_ | exact hLT3_ | exact hPb_ | exact hFb_)⟩)) hp3_N164_ hp4_N164_ (by have m1_ := zmF_c n_ N164_; have m2_ := zmF_c n_ N150_; have m3_ := hp0_N164_.x; omega)
                    · have hnm2_ : ¬ (zkd b_ n_ (ze N150_ 81 4).toNat = 1 ∧ zkey b_ n_ (ze N150_ 81 4).toNat = zkw 1) := fun q_ => ha47_0_hp0_N162_ (by (exact hl43_0_i156_)) ⟨q_.1, (zke8_w q_.1 (i := 1) (by decide)).mpr q_.2⟩
                      have hmx_ : (∃ q : Nat, zHd b_ n_ (ze Mz 81 4).toNat (ze N150_ 81 12).toNat q ∧ zRg (zbs b_ n_ (ze N150_ 81 12).toNat) (0, q, []) (1, (ze N150_ 81 4).toNat, zMvs N150_)) := by obtain ⟨q_, h1_, h2_⟩ := id hmv_; exact ⟨q_, h1_, h2_.tr (zRg.st (zbs_e hnm2_))⟩
                      show zW l m_M_reads (zn Mz + 0, zw Mz + 0) N150_ 50 [some (.ref 81)] [.int (Int32.ofInt 0)] _
                      refine zr_if_eq (pc := 50) (tgt := 60) ⟨(by decide), (by decide)⟩ (by decide) d_M_reads_50 (fun hc_50 => ?_) (fun hc_50 => ?_)
                      · exact j_60 N150_ hb1_N150_ i152_ (show 0 ≤ ze N150_ 81 13 by first | (exact i153_) | assumption) (show ze N150_ 81 13 ≤ 4 by first | (exact i154_) | assumption) (show ze N150_ 81 14 = 0 by first | (exact i155_) | assumption) (show (1 ≤ ze N150_ 81 7 ∧ zTrB b_ n_ (ze Mz 81 4).toNat) ∨ (ze N150_ 81 7 = 0 ∧ 1 ≤ ze N150_ 81 12 ∧ ze N150_ 81 12 ≤ 6 ∧ zPm N150_ ∧ zFin N150_ ∧ (∃ q : Nat, zHd b_ n_ (ze Mz 81 4).toNat (ze N150_ 81 12).toNat q ∧ zRg (zbs b_ n_ (ze N150_ 81 12).toNat) (0, q, []) (1, (ze N150_ 81 4).toNat, zMvs N150_))) from Or.inr (⟨(show ze N150_ 81 7 = 0 by first | (exact hl43_0_i156_) | assumption | exact hrt_ | exact hrt2_ | exact hmx_ | exact hPm_ | exact hFn_ | exact hLT2_ | exact hnk_), (show 1 ≤ ze N150_ 81 12 by first | (exact hl43_1_i156_) | assumption | exact hrt_ | exact hrt2_ | exact hmx_ | exact hPm_ | exact hFn_ | exact hLT2_ | exact hnk_), (show ze N150_ 81 12 ≤ 6 by first | (exact hl43_2_i156_) | assumption | exact hrt_ | exact hrt2_ | exact hmx_ | exact hPm_ | exact hFn_ | exact hLT2_ | exact hnk_), (show zPm N150_ by first | (exact hl43_3_i156_) | assumption | exact hrt_ | exact hrt2_ | exact hmx_ | exact hPm_ | exact hFn_ | exact hLT2_ | exact hnk_), (show zFin N150_ by first | (exact hl43_4_i156_) | assumption | exact hrt_ | exact hrt2_ | exact hmx_ | exact hPm_ | exact hFn_ | exact hLT2_ | exact hnk_), (show (∃ q : Nat, zHd b_ n_ (ze Mz 81 4).toNat (ze N150_ 81 12).toNat q ∧ zRg (zbs b_ n_ (ze N150_ 81 12).toNat) (0, q, []) (1, (ze N150_ 81 4).toNat, zMvs N150_)) by first | (exact hmx_) | assumption | exact hrt_ | exact hrt2_ | exact hmx_ | exact hPm_ | exact hFn_ | exact hLT2_ | exact hnk_)⟩)) i157_ i158_
                      · exact absurd hc_50 (by decide)
            exact lp_43 _ N128_ zFr.rf hp0_N128_ (show 0 ≤ ze N128_ 81 13 by first | (exact zo_631 e13_N128_ i100_) | assumption) (show ze N128_ 81 13 ≤ 4 by first | (exact zo_817 e13_N128_ i100_) | assumption) (show ze N128_ 81 14 = 0 by first | (exact zo_610 e14_N128_ i101_) | assumption) (show (1 ≤ ze N128_ 81 7 ∧ zTrB b_ n_ (ze Mz 81 4).toNat) ∨ (ze N128_ 81 7 = 0 ∧ 1 ≤ ze N128_ 81 12 ∧ ze N128_ 81 12 ≤ 6 ∧ zPm N128_ ∧ zFin N128_ ∧ (∃ q : Nat, zHd b_ n_ (ze Mz 81 4).toNat (ze N128_ 81 12).toNat q ∧ zRg (zbs b_ n_ (ze N128_ 81 12).toNat) (0, q, []) (0, (ze N128_ 81 4).toNat, zMvs N128_))) from Or.inr (⟨(show ze N128_ 81 7 = 0 by first | (exact ha40_0_hp1_N128_) | assumption | exact hrt_ | exact hrt2_ | exact hmv0_ | exact hP0_ | exact hF0_ | exact hLT0_ | exact hPb_ | exact hFb_), (show 1 ≤ ze N128_ 81 12 by first | (exact zo_533 e12_N128_ hl37_5_i102_) | assumption | exact hrt_ | exact hrt2_ | exact hmv0_ | exact hP0_ | exact hF0_ | exact hLT0_ | exact hPb_ | exact hFb_), (show ze N128_ 81 12 ≤ 6 by first | (exact zo_810 e12_N128_ hl37_6_i102_) | assumption | exact hrt_ | exact hrt2_ | exact hmv0_ | exact hP0_ | exact hF0_ | exact hLT0_ | exact hPb_ | exact hFb_), (show zPm N128_ by first | (exact hP0_) | assumption | exact hrt_ | exact hrt2_ | exact hmv0_ | exact hP0_ | exact hF0_ | exact hLT0_ | exact hPb_ | exact hFb_), (show zFin N128_ by first | (exact hF0_) | assumption | exact hrt_ | exact hrt2_ | exact hmv0_ | exact hP0_ | exact hF0_ | exact hLT0_ | exact hPb_ | exact hFb_), (show (∃ q : Nat, zHd b_ n_ (ze Mz 81 4).toNat (ze N128_ 81 12).toNat q ∧ zRg (zbs b_ n_ (ze N128_ 81 12).toNat) (0, q, []) (0, (ze N128_ 81 4).toNat, zMvs N128_)) by first | (exact hmv0_) | assumption | exact hrt_ | exact hrt2_ | exact hmv0_ | exact hP0_ | exact hF0_ | exact hLT0_ | exact hPb_ | exact hFb_)⟩)) c131_ c132_ (Nat.lt_succ_self _)
  refine zw_aload_n (pc := 0) (n := 0) (x := 81) rfl (zdal_p dlC_M_reads_71 (i := 0) rfl) ?_
  refine zr_ldc2 (pc := 1) (n := 123610792682867) (by decide) k_M_175 (zdal_p dlC_M_reads_71 (i := 1) rfl) ?_
  refine zr_callV (hf.w hW) hf.x (pc := 4) [.long (Int64.ofInt 123610792682867)] [] l_M_312 (c_M_isWordF l Mz (hf.w hW) 123610792682867 (by decide) (by decide) b_ n_ p1_) rfl rfl rfl (by decide) (Nat.le_of_ble_eq_true rfl) (zdal_p dlC_M_reads_71 (i := 2) rfl) ?_
  rintro _ N167_ ⟨v168_, rfl, ⟨hv168_a, hv168_b⟩, hsN167_, hp0_N167_⟩
  obtain rfl := hsN167_.eq.symm
  replace hp0_N167_ : ((v168_ = 1 ∧ ze Mz 81 7 = 0 ∧ zkd b_ n_ (ze Mz 81 4).toNat = 1 ∧ zke8 b_ n_ (ze Mz 81 4).toNat = 123610792682867) ∨ (v168_ = 0 ∧ (ze Mz 81 7 = 0 → ¬ (zkd b_ n_ (ze Mz 81 4).toNat = 1 ∧ zke8 b_ n_ (ze Mz 81 4).toNat = 123610792682867)))) := hp0_N167_
  rcases hp0_N167_ with ⟨rfl, ha4_0_hp0_N167_, ha4_1_hp0_N167_, ha4_2_hp0_N167_⟩ | ⟨rfl, ha4_0_hp0_N167_⟩
  · as_aux_lemma =>
      have hk1_ := ha4_1_hp0_N167_
      have hks_ := (zke8_w hk1_ (i := 0) (by decide)).mp ha4_2_hp0_N167_
      show zW l m_M_reads (zn Mz + 0, zw Mz + 0) Mz 7 [some (.ref 81)] [.int (Int32.ofInt 1)] _
      refine zr_if_ne (pc := 7) (tgt := 15) ⟨(by decide), (by decide)⟩ (by decide) (zdal_p dlC_M_reads_71 (i := 3) rfl) (fun hc_7 => ?_) (fun hc_7 => ?_)
      · as_aux_lemma =>
          refine zw_aload_n (pc := 15) (n := 0) (x := 81) rfl (zdal_p dlC_M_reads_71 (i := 7) rfl) ?_
          refine zr_callV (hf.w hW) hf.x (pc := 16) [] [] l_M_183 (c_M_isGood l Mz (hf.w hW) ) rfl rfl rfl (by decide) (Nat.le_of_ble_eq_true rfl) (zdal_p dlC_M_reads_71 (i := 8) rfl) ?_
          rintro _ N169_ ⟨v170_, rfl, ⟨hv170_a, hv170_b⟩, hsN169_, hp0_N169_⟩
          obtain rfl := hsN169_.eq.symm
          replace hp0_N169_ : ((v170_ = 1 ∧ ze Mz 81 7 = 0) ∨ (v170_ = 0 ∧ ze Mz 81 7 ≠ 0)) := hp0_N169_
          rcases hp0_N169_ with ⟨rfl, ha16_0_hp0_N169_⟩ | ⟨rfl, ha16_0_hp0_N169_⟩
          · as_aux_lemma =>
              show zW l m_M_reads (zn Mz + 0, zw Mz + 0) Mz 19 [some (.ref 81)] [.int (Int32.ofInt 1)] _
              refine zr_if_eq (pc := 19) (tgt := 26) ⟨(by decide), (by decide)⟩ (by decide) (zdal_p dlC_M_reads_71 (i := 9) rfl) (fun hc_19 => ?_) (fun hc_19 => ?_)
              · exact absurd hc_19 (by decide)
              · as_aux_lemma =>
                  have hyt_ := p1_
                  have hyx_ := hyt_.x
                  refine zw_aload_n (pc := 22) (n := 0) (x := 81) rfl (zdal_p dlC_M_reads_71 (i := 10) rfl) ?_
                  refine zr_callV (hf.w hW) hf.x (pc := 23) [] [] l_M_193 (c_M_goOnF l Mz (hf.w hW) b_ n_ p0_ (show 0 ≤ ze Mz 81 3 by first | (exact zo_57 hyx_.2.1) | assumption) (show ze Mz 81 3 ≤ n_ by first | (exact zo_277 hyx_.2.2 r_3.2) | assumption)) rfl rfl rfl (by decide) (Nat.le_of_ble_eq_true rfl) (zdal_p dlC_M_reads_71 (i := 11) rfl) ?_
                  rintro _ N171_ ⟨rfl, hsN171_, ⟨hp0_N171_, hp1_N171_⟩⟩
                  have hf_N171_ := hf.tr hsN171_ (by decide +kernel) (by decide +kernel)
                  have hb0_N171_ : zFr [3, 4, 5, 6, 7, 8, 11, 12, 13, 14, 20, 25, 26, 38, 39, 41, 42, 43] [83, 85, 86, 87, 88, 89, 90, 91, 92, 93, 94, 95, 96, 97, 100, 101, 102] Mz N171_ := zFr.rf.tr hsN171_ (by decide +kernel) (by decide +kernel)
                  have hb1_N171_ : zFr [3, 4, 5, 6, 7, 8, 11, 12, 13, 20] [83, 85, 86, 87, 88] Mz N171_ := zFr.rf.tr hsN171_ (by decide +kernel) (by decide +kernel)
                  have hb2_N171_ : zFr [3, 4, 5, 6, 7, 8, 11, 12] [] Mz N171_ := zFr.rf.tr hsN171_ (by decide +kernel) (by decide +kernel)
                  have r3_N171_ := ze_r N171_ 81 3
                  have r4_N171_ := ze_r N171_ 81 4
                  have r5_N171_ := ze_r N171_ 81 5
                  have e7_N171_ : ze N171_ 81 7 = ze Mz 81 7 := hsN171_.e (by decide)
                  have e12_N171_ : ze N171_ 81 12 = ze Mz 81 12 := hsN171_.e (by decide)
                  have e13_N171_ : ze N171_ 81 13 = ze Mz 81 13 := hsN171_.e (by decide)
                  have e14_N171_ : ze N171_ 81 14 = ze Mz 81 14 := hsN171_.e (by decide)
                  have c173_ : zRb b_ n_ N171_ := zRb.fr hsN171_ p0_ (by decide +kernel) (by decide +kernel)
                  show zW l m_M_reads (zn Mz + 0, zw Mz + 0) N171_ 26 [some (.ref 81)] [] _
                  have hnn_ := hyt_.nx hp0_N171_
                  have hx1_ := hnn_.2
                  have hg1_ := znx_g (b := b_) (n := n_) (s := (ze Mz 81 4).toNat) (by (exact zo_83 ha4_1_hp0_N167_))
                  refine zw_aload_n (pc := 26) (n := 0) (x := 81) rfl (zdal_p dlC_M_reads_71 (i := 12) rfl) ?_
                  refine zw_aload_n (pc := 27) (n := 0) (x := 81) rfl (zdal_p dlC_M_reads_71 (i := 13) rfl) ?_
                  refine zw_iconst (pc := 28) (v := Int32.ofInt 1) (by decide) (zdal_p dlC_M_reads_71 (i := 14) rfl) ?_
                  refine zw_bipush (pc := 29) (v := Int32.ofInt 6) (by decide) (zdal_p dlC_M_reads_71 (i := 15) rfl) ?_
                  refine zr_callV (hf_N171_.w hW) hf_N171_.x (pc := 31) [.int (Int32.ofInt 1), .int (Int32.ofInt 6)] [.ref 81] l_M_322 (c_M_numberF l N171_ (hf_N171_.w hW) 1 (by decide) (by decide) 6 (by decide) (by decide) b_ n_ c173_ hp1_N171_ (show 0 ≤ ze N171_ 81 7 by first | (exact zo_631 e7_N171_ p2_) | assumption)) rfl rfl rfl (by decide) (Nat.le_of_ble_eq_true rfl) (zdal_p dlC_M_reads_71 (i := 16) rfl) ?_
                  rintro _ N176_ ⟨v177_, rfl, ⟨hv177_a, hv177_b⟩, hsN176_, ⟨hp0_N176_, hp1_N176_⟩⟩
                  have hf_N176_ := hf_N171_.tr hsN176_ (by decide +kernel) (by decide +kernel)
                  have hb0_N176_ := hb0_N171_.tr hsN176_ (by decide +kernel) (by decide +kernel)
                  have hb1_N176_ := hb1_N171_.tr hsN176_ (by decide +kernel) (by decide +kernel)
                  have hb2_N176_ := hb2_N171_.tr hsN176_ (by decide +kernel) (by decide +kernel)
                  have r3_N176_ := ze_r N176_ 81 3
                  have r4_N176_ := ze_r N176_ 81 4
                  have r5_N176_ := ze_r N176_ 81 5
                  have r7_N176_ := ze_r N176_ 81 7
                  have e12_N176_ : ze N176_ 81 12 = ze N171_ 81 12 := hsN176_.e (by decide)
                  have e13_N176_ : ze N176_ 81 13 = ze N171_ 81 13 := hsN176_.e (by decide)
                  have e14_N176_ : ze N176_ 81 14 = ze N171_ 81 14 := hsN176_.e (by decide)
                  as_aux_lemma =>
                    rcases hp1_N176_ with ⟨ha31_0_hp1_N176_, ha31_1_hp1_N176_⟩ | ⟨ha31_0_hp1_N176_, ha31_1_hp1_N176_, ha31_2_hp1_N176_, ha31_3_hp1_N176_, ha31_4_hp1_N176_⟩
                    · have hrt2_ : zTrB b_ n_ (ze Mz 81 4).toNat := by first | exact hrt_ | exact Or.inl (fun ⟨P_, q_, h_⟩ => ha31_1_hp1_N176_ (by (exact zo_610 e7_N171_ p2_)) (by rw [hx1_]; have h1_ := h_.2.1; exact ⟨h1_.1, by (exact zo_821 h1_.2.1 h1_.2.2.1), by (exact zo_822 h1_.2.1 h1_.2.2.2)⟩))
                      show zW l m_M_reads (zn Mz + 0, zw Mz + 0) N176_ 34 [some (.ref 81)] [.int (Int32.ofInt v177_), .ref 81] _
                      refine zr_putI (hf_N176_.w hW) (pc := 34) f_M_115 rfl rfl ⟨by (exact hv177_a), by (exact hv177_b)⟩ rfl rfl (zdal_p dlC_M_reads_71 (i := 17) rfl) (fun N181_ hsN181_ hvN181_ => ?_)
                      have hf_N181_ := hf_N176_.tr hsN181_ (by decide +kernel) (by decide +kernel)
                      have hb0_N181_ := hb0_N176_.tr hsN181_ (by decide +kernel) (by decide +kernel)
                      have hb1_N181_ := hb1_N176_.tr hsN181_ (by decide +kernel) (by decide +kernel)
                      have hb2_N181_ := hb2_N176_.tr hsN181_ (by decide +kernel) (by decide +kernel)
                      have e3_N181_ : ze N181_ 81 3 = ze N176_ 81 3 := hsN181_.e (by decide)
                      have e4_N181_ : ze N181_ 81 4 = ze N176_ 81 4 := hsN181_.e (by decide)
                      have e5_N181_ : ze N181_ 81 5 = ze N176_ 81 5 := hsN181_.e (by decide)
                      have e7_N181_ : ze N181_ 81 7 = ze N176_ 81 7 := hsN181_.e (by decide)
                      have r12_N181_ := ze_r N181_ 81 12
                      have e13_N181_ : ze N181_ 81 13 = ze N176_ 81 13 := hsN181_.e (by decide)
                      have e14_N181_ : ze N181_ 81 14 = ze N176_ 81 14 := hsN181_.e (by decide)
                      have c185_ : zRt b_ n_ N181_ := zRt.fr hsN181_ hp0_N176_ (by decide +kernel) (by decide +kernel)
                      exact j_37 N181_ hb2_N181_ c185_ (show ze N181_ 81 13 = 0 by first | (exact zo_595 e13_N171_ e13_N176_ e13_N181_ p3_) | assumption) (show ze N181_ 81 14 = 0 by first | (exact zo_595 e14_N171_ e14_N176_ e14_N181_ p4_) | assumption) (show (1 ≤ ze N181_ 81 7 ∧ zTrB b_ n_ (ze Mz 81 4).toNat) ∨ (ze N181_ 81 7 = 0 ∧ zkd b_ n_ (ze Mz 81 4).toNat = 1 ∧ zkey b_ n_ (ze Mz 81 4).toNat = zkw 0 ∧ zkd b_ n_ (znx b_ n_ (ze Mz 81 4).toNat) = 2 ∧ znu b_ n_ (znx b_ n_ (ze Mz 81 4).toNat) = ze N181_ 81 12 ∧ 1 ≤ ze N181_ 81 12 ∧ ze N181_ 81 12 ≤ 6 ∧ (ze N181_ 81 4).toNat = znx b_ n_ (znx b_ n_ (ze Mz 81 4).toNat)) from Or.inl (⟨(show 1 ≤ ze N181_ 81 7 by first | (exact zo_533 e7_N181_ ha31_0_hp1_N176_) | assumption | exact hrt_ | exact hrt2_ | exact hmx_ | exact hPm_ | exact hFn_ | exact hLT2_ | exact hnk_), (show zTrB b_ n_ (ze Mz 81 4).toNat by first | (exact hrt2_) | assumption | exact hrt_ | exact hrt2_ | exact hmx_ | exact hPm_ | exact hFn_ | exact hLT2_ | exact hnk_)⟩))
                    · as_aux_lemma =>
                        have hnu_ := ha31_2_hp1_N176_
                        have hnv_ := ha31_3_hp1_N176_
                        have hx2_ := ha31_4_hp1_N176_
                        rw [hx1_] at hnu_ hnv_ hx2_
                        obtain ⟨hk2_, hlo_, hhi_⟩ := hnu_
                        show zW l m_M_reads (zn Mz + 0, zw Mz + 0) N176_ 34 [some (.ref 81)] [.int (Int32.ofInt v177_), .ref 81] _
                        refine zr_putI (hf_N176_.w hW) (pc := 34) f_M_115 rfl rfl ⟨by (exact hv177_a), by (exact hv177_b)⟩ rfl rfl (zdal_p dlC_M_reads_71 (i := 17) rfl) (fun N186_ hsN186_ hvN186_ => ?_)
                        have hf_N186_ := hf_N176_.tr hsN186_ (by decide +kernel) (by decide +kernel)
                        have hb0_N186_ := hb0_N176_.tr hsN186_ (by decide +kernel) (by decide +kernel)
                        have hb1_N186_ := hb1_N176_.tr hsN186_ (by decide +kernel) (by decide +kernel)
                        have hb2_N186_ := hb2_N176_.tr hsN186_ (by decide +kernel) (by decide +kernel)
                        have e3_N186_ : ze N186_ 81 3 = ze N176_ 81 3 := hsN186_.e (by decide)
                        have e4_N186_ : ze N186_ 81 4 = ze N176_ 81 4 := hsN186_.e (by decide)
                        have e5_N186_ : ze N186_ 81 5 = ze N176_ 81 5 := hsN186_.e (by decide)
                        have e7_N186_ : ze N186_ 81 7 = ze N176_ 81 7 := hsN186_.e (by decide)
                        have r12_N186_ := ze_r N186_ 81 12
                        have e13_N186_ : ze N186_ 81 13 = ze N176_ 81 13 := hsN186_.e (by decide)
                        have e14_N186_ : ze N186_ 81 14 = ze N176_ 81 14 := hsN186_.e (by decide)
                        have c190_ : zRt b_ n_ N186_ := zRt.fr hsN186_ hp0_N176_ (by decide +kernel) (by decide +kernel)
                        exact j_37 N186_ hb2_N186_ c190_ (show ze N186_ 81 13 = 0 by first | (exact zo_595 e13_N171_ e13_N176_ e13_N186_ p3_) | assumption) (show ze N186_ 81 14 = 0 by first | (exact zo_595 e14_N171_ e14_N176_ e14_N186_ p4_) | assumption) (show (1 ≤ ze N186_ 81 7 ∧ zTrB b_ n_ (ze Mz 81 4).toNat) ∨ (ze N186_ 81 7 = 0 ∧ zkd b_ n_ (ze Mz 81 4).toNat = 1 ∧ zkey b_ n_ (ze Mz 81 4).toNat = zkw 0 ∧ zkd b_ n_ (znx b_ n_ (ze Mz 81 4).toNat) = 2 ∧ znu b_ n_ (znx b_ n_ (ze Mz 81 4).toNat) = ze N186_ 81 12 ∧ 1 ≤ ze N186_ 81 12 ∧ ze N186_ 81 12 ≤ 6 ∧ (ze N186_ 81 4).toNat = znx b_ n_ (znx b_ n_ (ze Mz 81 4).toNat)) from Or.inr (⟨(show ze N186_ 81 7 = 0 by first | (exact zo_610 e7_N186_ ha31_0_hp1_N176_) | assumption | exact hrt_ | exact hrt2_ | exact hmx_ | exact hPm_ | exact hFn_ | exact hLT2_ | exact hnk_), (show zkd b_ n_ (ze Mz 81 4).toNat = 1 by first | (exact ha4_1_hp0_N167_) | assumption | exact hrt_ | exact hrt2_ | exact hmx_ | exact hPm_ | exact hFn_ | exact hLT2_ | exact hnk_), (show zkey b_ n_ (ze Mz 81 4).toNat = zkw 0 by first | (exact hks_) | assumption | exact hrt_ | exact hrt2_ | exact hmx_ | exact hPm_ | exact hFn_ | exact hLT2_ | exact hnk_), (show zkd b_ n_ (znx b_ n_ (ze Mz 81 4).toNat) = 2 by first | (exact hk2_) | assumption | exact hrt_ | exact hrt2_ | exact hmx_ | exact hPm_ | exact hFn_ | exact hLT2_ | exact hnk_), (show znu b_ n_ (znx b_ n_ (ze Mz 81 4).toNat) = ze N186_ 81 12 by first | (exact zo_823 hhi_ hlo_ hnv_ hvN186_ r12_N186_.1 r12_N186_.2) | assumption | exact hrt_ | exact hrt2_ | exact hmx_ | exact hPm_ | exact hFn_ | exact hLT2_ | exact hnk_), (show 1 ≤ ze N186_ 81 12 by first | (exact zo_824 hlo_ hnv_ hvN186_ r12_N186_.1) | assumption | exact hrt_ | exact hrt2_ | exact hmx_ | exact hPm_ | exact hFn_ | exact hLT2_ | exact hnk_), (show ze N186_ 81 12 ≤ 6 by first | (exact zo_825 hhi_ hnv_ hvN186_ r12_N186_.2) | assumption | exact hrt_ | exact hrt2_ | exact hmx_ | exact hPm_ | exact hFn_ | exact hLT2_ | exact hnk_), (show (ze N186_ 81 4).toNat = znx b_ n_ (znx b_ n_ (ze Mz 81 4).toNat) by first | omega | assumption | exact hrt_ | exact hrt2_ | exact hmx_ | exact hPm_ | exact hFn_ | exact hLT2_ | exact hnk_)⟩))
          · exfalso; (exact zo_260 p2_ ha16_0_hp0_N169_)
      · exact absurd hc_7 (by decide)
  · as_aux_lemma =>
      have hng_ : ¬ (zkd b_ n_ (ze Mz 81 4).toNat = 1 ∧ zkey b_ n_ (ze Mz 81 4).toNat = zkw 0) := fun q_ => ha4_0_hp0_N167_ p2_ ⟨q_.1, (zke8_w q_.1 (i := 0) (by decide)).mpr q_.2⟩
      have hrt_ : zTrB b_ n_ (ze Mz 81 4).toNat := Or.inl (fun ⟨P_, q_, h_⟩ => hng_ h_.1)
      show zW l m_M_reads (zn Mz + 0, zw Mz + 0) Mz 7 [some (.ref 81)] [.int (Int32.ofInt 0)] _
      refine zr_if_ne (pc := 7) (tgt := 15) ⟨(by decide), (by decide)⟩ (by decide) (zdal_p dlC_M_reads_71 (i := 3) rfl) (fun hc_7 => ?_) (fun hc_7 => ?_)
      · exact absurd hc_7 (by decide)
      · as_aux_lemma =>
          refine zw_aload_n (pc := 10) (n := 0) (x := 81) rfl (zdal_p dlC_M_reads_71 (i := 4) rfl) ?_
          refine zw_iconst (pc := 11) (v := Int32.ofInt 2) (by decide) (zdal_p dlC_M_reads_71 (i := 5) rfl) ?_
          refine zr_callV (hf.w hW) hf.x (pc := 12) [.int (Int32.ofInt 2)] [] l_M_190 (c_M_wrongF l Mz (hf.w hW) 2 (by decide) (by decide) (show 1 ≤ 2 by first | (decide) | assumption)) rfl rfl rfl (by decide) (Nat.le_of_ble_eq_true rfl) (zdal_p dlC_M_reads_71 (i := 6) rfl) ?_
          rintro _ N191_ ⟨rfl, hsN191_, hp0_N191_⟩
          replace hp0_N191_ : 1 ≤ ze N191_ 81 7 := hp0_N191_
          have hf_N191_ := hf.tr hsN191_ (by decide +kernel) (by decide +kernel)
          have hb0_N191_ : zFr [3, 4, 5, 6, 7, 8, 11, 12, 13, 14, 20, 25, 26, 38, 39, 41, 42, 43] [83, 85, 86, 87, 88, 89, 90, 91, 92, 93, 94, 95, 96, 97, 100, 101, 102] Mz N191_ := zFr.rf.tr hsN191_ (by decide +kernel) (by decide +kernel)
          have hb1_N191_ : zFr [3, 4, 5, 6, 7, 8, 11, 12, 13, 20] [83, 85, 86, 87, 88] Mz N191_ := zFr.rf.tr hsN191_ (by decide +kernel) (by decide +kernel)
          have hb2_N191_ : zFr [3, 4, 5, 6, 7, 8, 11, 12] [] Mz N191_ := zFr.rf.tr hsN191_ (by decide +kernel) (by decide +kernel)
          have e3_N191_ : ze N191_ 81 3 = ze Mz 81 3 := hsN191_.e (by decide)
          have e4_N191_ : ze N191_ 81 4 = ze Mz 81 4 := hsN191_.e (by decide)
          have e5_N191_ : ze N191_ 81 5 = ze Mz 81 5 := hsN191_.e (by decide)
          have r7_N191_ := ze_r N191_ 81 7
          have e12_N191_ : ze N191_ 81 12 = ze Mz 81 12 := hsN191_.e (by decide)
          have e13_N191_ : ze N191_ 81 13 = ze Mz 81 13 := hsN191_.e (by decide)
          have e14_N191_ : ze N191_ 81 14 = ze Mz 81 14 := hsN191_.e (by decide)
          have c193_ : zRb b_ n_ N191_ := zRb.fr hsN191_ p0_ (by decide +kernel) (by decide +kernel)
          have c194_ : zRt b_ n_ N191_ := zRt.fr hsN191_ p1_ (by decide +kernel) (by decide +kernel)
          show zW l m_M_reads (zn Mz + 0, zw Mz + 0) N191_ 15 [some (.ref 81)] [] _
          refine zw_aload_n (pc := 15) (n := 0) (x := 81) rfl (zdal_p dlC_M_reads_71 (i := 7) rfl) ?_
          refine zr_callV (hf_N191_.w hW) hf_N191_.x (pc := 16) [] [] l_M_183 (c_M_isGood l N191_ (hf_N191_.w hW) ) rfl rfl rfl (by decide) (Nat.le_of_ble_eq_true rfl) (zdal_p dlC_M_reads_71 (i := 8) rfl) ?_
          rintro _ N197_ ⟨v198_, rfl, ⟨hv198_a, hv198_b⟩, hsN197_, hp0_N197_⟩
          obtain rfl := hsN197_.eq.symm
          replace hp0_N197_ : ((v198_ = 1 ∧ ze N191_ 81 7 = 0) ∨ (v198_ = 0 ∧ ze N191_ 81 7 ≠ 0)) := hp0_N197_
          rcases hp0_N197_ with ⟨rfl, ha16_0_hp0_N197_⟩ | ⟨rfl, ha16_0_hp0_N197_⟩
          · exfalso; (exact zo_281 ha16_0_hp0_N197_ hp0_N191_)
          · as_aux_lemma =>
              show zW l m_M_reads (zn Mz + 0, zw Mz + 0) N191_ 19 [some (.ref 81)] [.int (Int32.ofInt 0)] _
              refine zr_if_eq (pc := 19) (tgt := 26) ⟨(by decide), (by decide)⟩ (by decide) (zdal_p dlC_M_reads_71 (i := 9) rfl) (fun hc_19 => ?_) (fun hc_19 => ?_)
              · as_aux_lemma =>
                  refine zw_aload_n (pc := 26) (n := 0) (x := 81) rfl (zdal_p dlC_M_reads_71 (i := 12) rfl) ?_
                  refine zw_aload_n (pc := 27) (n := 0) (x := 81) rfl (zdal_p dlC_M_reads_71 (i := 13) rfl) ?_
                  refine zw_iconst (pc := 28) (v := Int32.ofInt 1) (by decide) (zdal_p dlC_M_reads_71 (i := 14) rfl) ?_
                  refine zw_bipush (pc := 29) (v := Int32.ofInt 6) (by decide) (zdal_p dlC_M_reads_71 (i := 15) rfl) ?_
                  refine zr_callV (hf_N191_.w hW) hf_N191_.x (pc := 31) [.int (Int32.ofInt 1), .int (Int32.ofInt 6)] [.ref 81] l_M_322 (c_M_numberF l N191_ (hf_N191_.w hW) 1 (by decide) (by decide) 6 (by decide) (by decide) b_ n_ c193_ c194_ (show 0 ≤ ze N191_ 81 7 by first | (exact zo_564 hp0_N191_) | assumption)) rfl rfl rfl (by decide) (Nat.le_of_ble_eq_true rfl) (zdal_p dlC_M_reads_71 (i := 16) rfl) ?_
                  rintro _ N199_ ⟨v200_, rfl, ⟨hv200_a, hv200_b⟩, hsN199_, ⟨hp0_N199_, hp1_N199_⟩⟩
                  have hf_N199_ := hf_N191_.tr hsN199_ (by decide +kernel) (by decide +kernel)
                  have hb0_N199_ := hb0_N191_.tr hsN199_ (by decide +kernel) (by decide +kernel)
                  have hb1_N199_ := hb1_N191_.tr hsN199_ (by decide +kernel) (by decide +kernel)
                  have hb2_N199_ := hb2_N191_.tr hsN199_ (by decide +kernel) (by decide +kernel)
                  have r3_N199_ := ze_r N199_ 81 3
                  have r4_N199_ := ze_r N199_ 81 4
                  have r5_N199_ := ze_r N199_ 81 5
                  have r7_N199_ := ze_r N199_ 81 7
                  have e12_N199_ : ze N199_ 81 12 = ze N191_ 81 12 := hsN199_.e (by decide)
                  have e13_N199_ : ze N199_ 81 13 = ze N191_ 81 13 := hsN199_.e (by decide)
                  have e14_N199_ : ze N199_ 81 14 = ze N191_ 81 14 := hsN199_.e (by decide)
                  rcases hp1_N199_ with ⟨ha31_0_hp1_N199_, ha31_1_hp1_N199_⟩ | ⟨ha31_0_hp1_N199_, ha31_1_hp1_N199_, ha31_2_hp1_N199_, ha31_3_hp1_N199_, ha31_4_hp1_N199_⟩
                  · have hrt2_ : zTrB b_ n_ (ze Mz 81 4).toNat := by first | exact hrt_ | exact Or.inl (fun ⟨P_, q_, h_⟩ => ha31_1_hp1_N199_ (by omega) (by rw [hx1_]; have h1_ := h_.2.1; exact ⟨h1_.1, by omega, by omega⟩))
                    show zW l m_M_reads (zn Mz + 0, zw Mz + 0) N199_ 34 [some (.ref 81)] [.int (Int32.ofInt v200_), .ref 81] _
                    refine zr_putI (hf_N199_.w hW) (pc := 34) f_M_115 rfl rfl ⟨by (exact hv200_a), by (exact hv200_b)⟩ rfl rfl (zdal_p dlC_M_reads_71 (i := 17) rfl) (fun N204_ hsN204_ hvN204_ => ?_)
                    have hf_N204_ := hf_N199_.tr hsN204_ (by decide +kernel) (by decide +kernel)
                    have hb0_N204_ := hb0_N199_.tr hsN204_ (by decide +kernel) (by decide +kernel)
                    have hb1_N204_ := hb1_N199_.tr hsN204_ (by decide +kernel) (by decide +kernel)
                    have hb2_N204_ := hb2_N199_.tr hsN204_ (by decide +kernel) (by decide +kernel)
                    have e3_N204_ : ze N204_ 81 3 = ze N199_ 81 3 := hsN204_.e (by decide)
                    have e4_N204_ : ze N204_ 81 4 = ze N199_ 81 4 := hsN204_.e (by decide)
                    have e5_N204_ : ze N204_ 81 5 = ze N199_ 81 5 := hsN204_.e (by decide)
                    have e7_N204_ : ze N204_ 81 7 = ze N199_ 81 7 := hsN204_.e (by decide)
                    have r12_N204_ := ze_r N204_ 81 12
                    have e13_N204_ : ze N204_ 81 13 = ze N199_ 81 13 := hsN204_.e (by decide)
                    have e14_N204_ : ze N204_ 81 14 = ze N199_ 81 14 := hsN204_.e (by decide)
                    have c208_ : zRt b_ n_ N204_ := zRt.fr hsN204_ hp0_N199_ (by decide +kernel) (by decide +kernel)
                    exact j_37 N204_ hb2_N204_ c208_ (show ze N204_ 81 13 = 0 by first | (exact zo_595 e13_N191_ e13_N199_ e13_N204_ p3_) | assumption) (show ze N204_ 81 14 = 0 by first | (exact zo_595 e14_N191_ e14_N199_ e14_N204_ p4_) | assumption) (show (1 ≤ ze N204_ 81 7 ∧ zTrB b_ n_ (ze Mz 81 4).toNat) ∨ (ze N204_ 81 7 = 0 ∧ zkd b_ n_ (ze Mz 81 4).toNat = 1 ∧ zkey b_ n_ (ze Mz 81 4).toNat = zkw 0 ∧ zkd b_ n_ (znx b_ n_ (ze Mz 81 4).toNat) = 2 ∧ znu b_ n_ (znx b_ n_ (ze Mz 81 4).toNat) = ze N204_ 81 12 ∧ 1 ≤ ze N204_ 81 12 ∧ ze N204_ 81 12 ≤ 6 ∧ (ze N204_ 81 4).toNat = znx b_ n_ (znx b_ n_ (ze Mz 81 4).toNat)) from Or.inl (⟨(show 1 ≤ ze N204_ 81 7 by first | (exact zo_533 e7_N204_ ha31_0_hp1_N199_) | assumption | exact hrt_ | exact hrt2_ | exact hmx_ | exact hPm_ | exact hFn_ | exact hLT2_ | exact hnk_), (show zTrB b_ n_ (ze Mz 81 4).toNat by first | (exact hrt_) | assumption | exact hrt_ | exact hrt2_ | exact hmx_ | exact hPm_ | exact hFn_ | exact hLT2_ | exact hnk_)⟩))
                  · exfalso; (exact zo_281 ha31_1_hp1_N199_ hp0_N191_)
              · exact absurd hc_19 (by decide)
