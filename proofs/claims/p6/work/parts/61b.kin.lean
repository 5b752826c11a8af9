set_option maxHeartbeats 4000000 in
theorem u_Group_settleG (l : Launch) (d_ : Nat) (Mz : zMem) (hW : zKW d_ Mz) (P_ : Nat) (mv_ : List Nat) (hpm_ : ∀ g ∈ mv_, gpm g) (p0_ : zMvK mv_ P_ d_ Mz) (p1_ : zGg mv_ P_ d_ Mz) : zC l m_Group_settle 0 0 [.ref (d_ + 1)] Mz (zqcV d_ [] [] [] [5, 7, 9] Mz (fun N => (∃ T : zGT, zTm mv_ T ∧ zTt T d_ N ∧ zGc mv_ P_ T d_ N))) := by
  refine zC_of (L0 := [some (.ref (d_ + 1)), none, none, none]) md_Group_settle (Nat.le_of_ble_eq_true rfl) rfl ?_ zQ0
  have hf : zFc d_ [] [] [] [5, 7, 9] Mz Mz := zFc.rf
  have r_D1_5 := ze_r Mz (d_ + 1) 5
  have r_D1_7 := ze_r Mz (d_ + 1) 7
  obtain ⟨⟨hP0_, hP1_, hP6_⟩, hc1_, hc2_, hc3_⟩ := id p0_
  have hs0_ := p1_.s
  have hs24_ := p1_.2.1
  refine zw_iconst (pc := 0) (v := Int32.ofInt 1) (by decide) (zdal_p dlA_Group_settle_28 (i := 0) rfl) ?_
  refine zw_istore_n (pc := 1) (i := 1) (L2 := [some (.ref (d_ + 1)), some (.int (Int32.ofInt 1)), none, none]) rfl (by decide) rfl (zdal_p dlA_Group_settle_28 (i := 1) rfl) ?_
  have lp_2 : ∀ (n : Nat) (u1_ : Int) (hu1_a : -2147483648 ≤ u1_) (hu1_b : u1_ < 2147483648) (N2_ : zMem) (hs3_ : zFc d_ [] [] [] [5] Mz N2_) (i4_ : 1 ≤ u1_) (i5_ : zSoK (fun x_ => x_) (zRw d_ 5 Mz) (zRw d_ 5 N2_) (ze Mz (d_ + 1) 7).toNat (u1_).toNat), (ze Mz (d_ + 1) 7 - u1_).toNat < n → zW l m_Group_settle (zn Mz + 0, zw Mz + 0) N2_ 2 [some (.ref (d_ + 1)), some (.int (Int32.ofInt u1_)), none, none] [] (zqcV d_ [] [] [] [5, 7, 9] Mz (fun N => (∃ T : zGT, zTm mv_ T ∧ zTt T d_ N ∧ zGc mv_ P_ T d_ N))) := by
    intro n
    induction n with
    | zero =>
      intro u1_ hu1_a hu1_b N2_ hs3_ i4_ i5_ h0
      exact absurd h0 (Nat.not_lt_zero _)
    | succ n ih_2 =>
      intro u1_ hu1_a hu1_b N2_ hs3_ i4_ i5_ hlt_2
      have hf_N2_ : zFc d_ [] [] [] [5, 7, 9] Mz N2_ := hf.tr hs3_ (by decide) (by decide) (by decide) (by decide)
      have eD1_5_N2_ : ze N2_ (d_ + 1) 5 = ze Mz (d_ + 1) 5 := hs3_.e (by decide)
      have eD1_7_N2_ : ze N2_ (d_ + 1) 7 = ze Mz (d_ + 1) 7 := hs3_.e (by decide)
      have hso_ := (show zSoK (fun x_ => x_) (zRw d_ 5 Mz) (zRw d_ 5 N2_) (ze Mz (d_ + 1) 7).toNat (u1_).toNat by first | with_reducible assumption | assumption)
      refine zw_iload_n (pc := 2) (n := 1) (x := Int32.ofInt u1_) rfl (zdal_p dlA_Group_settle_28 (i := 2) rfl) ?_
      refine zw_aload_n (pc := 3) (n := 0) (x := (d_ + 1)) rfl (zdal_p dlA_Group_settle_28 (i := 3) rfl) ?_
      refine zk_getI (pc := 4) f_Group_39 rfl ((hf_N2_.w hW).kr (o := 1) (by decide)) (zdal_p dlA_Group_settle_28 (i := 4) rfl) ?_
      rw [hf_N2_.e (by decide)]
      refine zr_icmp_ge (pc := 7) (tgt := 78) ⟨hu1_a, hu1_b⟩ ⟨(ze_r Mz (d_ + 1) 7).1, (ze_r Mz (d_ + 1) 7).2⟩ (by decide) (zdal_p dlA_Group_settle_28 (i := 5) rfl) (fun hc_7 => ?_) (fun hc_7 => ?_)
      · skip
        obtain ⟨T_, hgc_⟩ := p1_.t hpm_ hso_ (by (exact zo_1369 hc_7 hs24_.1 hs24_.2)) (by (exact eD1_7_N2_))
        obtain ⟨hgb1_, hgb2_, hgb3_⟩ := id hgc_
        obtain ⟨hb1_, hb2_, hb3_, hb4_, hb5_⟩ := id hgb1_
        refine zw_iconst (pc := 78) (v := Int32.ofInt 0) (by decide) (zdal_p dlA_Group_settle_29 (i := 18) rfl) ?_
        refine zw_istore_n (pc := 79) (i := 1) (L2 := [some (.ref (d_ + 1)), some (.int (Int32.ofInt 0)), none, none]) rfl (by decide) rfl (zdal_p dlA_Group_settle_29 (i := 19) rfl) ?_
        have lp_80 : ∀ (n : Nat) (u7_ : Int) (hu7_a : -2147483648 ≤ u7_) (hu7_b : u7_ < 2147483648) (N8_ : zMem) (hs9_ : zFc d_ [] [] [] [7, 9] N2_ N8_) (i10_ : 0 ≤ u7_) (i11_ : zPkK T_ d_ N8_ u7_ 0) (i12_ : zGc mv_ P_ T_ d_ N8_), (ze Mz (d_ + 1) 7 - u7_).toNat < n → zW l m_Group_settle (zn Mz + 0, zw Mz + 0) N8_ 80 [some (.ref (d_ + 1)), some (.int (Int32.ofInt u7_)), none, none] [] (zqcV d_ [] [] [] [5, 7, 9] Mz (fun N => (∃ T : zGT, zTm mv_ T ∧ zTt T d_ N ∧ zGc mv_ P_ T d_ N))) := by
          intro n
          induction n with
          | zero =>
            intro u7_ hu7_a hu7_b N8_ hs9_ i10_ i11_ i12_ h0
            exact absurd h0 (Nat.not_lt_zero _)
          | succ n ih_80 =>
            intro u7_ hu7_a hu7_b N8_ hs9_ i10_ i11_ i12_ hlt_80
            have hf_N8_ : zFc d_ [] [] [] [5, 7, 9] Mz N8_ := hf_N2_.tr hs9_ (by decide) (by decide) (by decide) (by decide)
            have eD1_5_N8_ : ze N8_ (d_ + 1) 5 = ze N2_ (d_ + 1) 5 := hs9_.e (by decide)
            have eD1_7_N8_ : ze N8_ (d_ + 1) 7 = ze N2_ (d_ + 1) 7 := hs9_.e (by decide)
            have hpk_ := (show zPkK T_ d_ N8_ u7_ 0 by first | with_reducible assumption | assumption)
            refine zw_iload_n (pc := 80) (n := 1) (x := Int32.ofInt u7_) rfl (zdal_p dlA_Group_settle_29 (i := 20) rfl) ?_
            refine zw_aload_n (pc := 81) (n := 0) (x := (d_ + 1)) rfl (zdal_p dlA_Group_settle_29 (i := 21) rfl) ?_
            refine zk_getI (pc := 82) f_Group_39 rfl ((hf_N8_.w hW).kr (o := 1) (by decide)) (zdal_p dlA_Group_settle_29 (i := 22) rfl) ?_
            rw [hf_N8_.e (by decide)]
            refine zr_icmp_ge (pc := 85) (tgt := 162) ⟨hu7_a, hu7_b⟩ ⟨(ze_r Mz (d_ + 1) 7).1, (ze_r Mz (d_ + 1) 7).2⟩ (by decide) (zdal_p dlA_Group_settle_29 (i := 23) rfl) (fun hc_85 => ?_) (fun hc_85 => ?_)
            · skip
              exact zk_vret (pc := 162) rfl hf_N8_ (show (∃ T : zGT, zTm mv_ T ∧ zTt T d_ N8_ ∧ zGc mv_ P_ T d_ N8_) by exact ⟨T_, ⟨_, hb1_, hb2_, hb3_, hb4_, hb5_⟩, zPk_e (by (exact zo_532 eD1_7_N8_ hgb2_)) hpk_ (by (exact zo_1370 eD1_7_N2_ hc_85 hgb2_)), i12_⟩) (zdal_p dlA_Group_settle_31 (i := 15) rfl)
            · skip
              refine zw_iconst (pc := 88) (v := Int32.ofInt 0) (by decide) (zdal_p dlA_Group_settle_30 (i := 0) rfl) ?_
              refine zw_istore_n (pc := 89) (i := 2) (L2 := [some (.ref (d_ + 1)), some (.int (Int32.ofInt u7_)), some (.int (Int32.ofInt 0)), none]) rfl (by decide) rfl (zdal_p dlA_Group_settle_30 (i := 1) rfl) ?_
              have lp_90 : ∀ (n : Nat) (u14_ : Int) (hu14_a : -2147483648 ≤ u14_) (hu14_b : u14_ < 2147483648) (N15_ : zMem) (hs16_ : zFc d_ [] [] [] [7, 9] N8_ N15_) (i17_ : 0 ≤ u14_) (i18_ : u14_ ≤ gN T_) (i19_ : zPkK T_ d_ N15_ u7_ u14_) (i20_ : zPv T_ d_ N15_ u7_ u14_) (i21_ : zGc mv_ P_ T_ d_ N15_), (ze Mz (d_ + 1) 7 - u14_).toNat < n → zW l m_Group_settle (zn Mz + 0, zw Mz + 0) N15_ 90 [some (.ref (d_ + 1)), some (.int (Int32.ofInt u7_)), some (.int (Int32.ofInt u14_)), none] [] (zqcV d_ [] [] [] [5, 7, 9] Mz (fun N => (∃ T : zGT, zTm mv_ T ∧ zTt T d_ N ∧ zGc mv_ P_ T d_ N))) := by
                intro n
                induction n with
                | zero =>
                  intro u14_ hu14_a hu14_b N15_ hs16_ i17_ i18_ i19_ i20_ i21_ h0
                  exact absurd h0 (Nat.not_lt_zero _)
                | succ n ih_90 =>
                  intro u14_ hu14_a hu14_b N15_ hs16_ i17_ i18_ i19_ i20_ i21_ hlt_90
                  have hf_N15_ : zFc d_ [] [] [] [5, 7, 9] Mz N15_ := hf_N8_.tr hs16_ (by decide) (by decide) (by decide) (by decide)
                  have hb0_N15_ : zFc d_ [] [] [] [7, 9] N2_ N15_ := hs9_.tr hs16_ (by decide) (by decide) (by decide) (by decide)
                  have eD1_5_N15_ : ze N15_ (d_ + 1) 5 = ze N8_ (d_ + 1) 5 := hs16_.e (by decide)
                  have eD1_7_N15_ : ze N15_ (d_ + 1) 7 = ze N8_ (d_ + 1) 7 := hs16_.e (by decide)
                  have hpl_ := (show zPkK T_ d_ N15_ u7_ u14_ by first | with_reducible assumption | assumption)
                  have hpv_ := (show zPv T_ d_ N15_ u7_ u14_ by first | with_reducible assumption | assumption)
                  refine zw_iload_n (pc := 90) (n := 2) (x := Int32.ofInt u14_) rfl (zdal_p dlA_Group_settle_30 (i := 2) rfl) ?_
                  refine zw_aload_n (pc := 91) (n := 0) (x := (d_ + 1)) rfl (zdal_p dlA_Group_settle_30 (i := 3) rfl) ?_
                  refine zk_getI (pc := 92) f_Group_39 rfl ((hf_N15_.w hW).kr (o := 1) (by decide)) (zdal_p dlA_Group_settle_30 (i := 4) rfl) ?_
                  rw [hf_N15_.e (by decide)]
                  refine zr_icmp_ge (pc := 95) (tgt := 156) ⟨hu14_a, hu14_b⟩ ⟨(ze_r Mz (d_ + 1) 7).1, (ze_r Mz (d_ + 1) 7).2⟩ (by decide) (zdal_p dlA_Group_settle_30 (i := 5) rfl) (fun hc_95 => ?_) (fun hc_95 => ?_)
                  · skip
                    refine zr_iinc (pc := 156) (i := 1) (a := u7_) (n := 1) (L2 := [some (.ref (d_ + 1)), some (.int (Int32.ofInt (u7_ + 1))), some (.int (Int32.ofInt u14_)), none]) rfl (by decide) rfl (zdal_p dlA_Group_settle_31 (i := 13) rfl) ?_
                    refine zw_goto (pc := 159) (tgt := 80) (by decide) (zdal_p dlA_Group_settle_31 (i := 14) rfl) ?_
                    refine zW_le [some (.ref (d_ + 1)), some (.int (Int32.ofInt (u7_ + 1))), none, none] (⟨rfl, rfl, trivial⟩) ?_
                    exact ih_80 (u7_ + 1) (by (exact zo_74 i10_)) (by (exact zo_1371 hc_85 hs24_.2)) N15_ hb0_N15_ (show 0 ≤ (u7_ + 1) by first | with_reducible assumption | (exact zo_76 i10_) | assumption) (show zPkK T_ d_ N15_ (u7_ + 1) 0 by exact zPk_n hb5_ (by (exact i10_)) (by (exact zo_1372 eD1_7_N2_ hc_85 hgb2_)) hpl_ hpv_ (by (exact zo_1373 eD1_7_N2_ hc_95 hgb2_ hs24_.1 hs24_.2 hu14_b i18_))) i21_ (by (exact zo_147 hc_85 hlt_80))
                  · skip
                    refine zw_aload_n (pc := 98) (n := 0) (x := (d_ + 1)) rfl (zdal_p dlA_Group_settle_30 (i := 6) rfl) ?_
                    refine zw_aload_n (pc := 99) (n := 0) (x := (d_ + 1)) rfl (zdal_p dlA_Group_settle_30 (i := 7) rfl) ?_
                    refine zw_aload_n (pc := 100) (n := 0) (x := (d_ + 1)) rfl (zdal_p dlA_Group_settle_30 (i := 8) rfl) ?_
                    refine zw_getF (pc := 101) f_Group_20 rfl ((hf_N15_.w hW).kr (o := 1) (by decide)) ((hf_N15_.w hW).lr (o := 1) (s := 1) (r := 4) (by decide)) (zdal_p dlA_Group_settle_30 (i := 9) rfl) ?_
                    refine zw_iload_n (pc := 104) (n := 1) (x := Int32.ofInt u7_) rfl (zdal_p dlA_Group_settle_30 (i := 10) rfl) ?_
                    refine zk_at hf_N15_.x (pc := 105) l_Group_54 ((hf_N15_.w hW).kr (o := 4) (by decide)) ((hf_N15_.w hW).lr (o := 4) (s := 0) (r := 5) (by decide)) ((hf_N15_.w hW).rr (o := 5) (t := 1) (n := 24) (by decide)) (by decide) (by (exact i10_)) (by (exact zo_1374 hc_85 hs24_.2)) (by decide) (Nat.le_of_ble_eq_true rfl) (zdal_p dlA_Group_settle_30 (i := 11) rfl) (fun v23_ hv23_ hv23_a hv23_b => ?_)
                    have hv1_ := hv23_
                    refine zw_aload_n (pc := 108) (n := 0) (x := (d_ + 1)) rfl (zdal_p dlA_Group_settle_30 (i := 12) rfl) ?_
                    refine zw_getF (pc := 109) f_Group_20 rfl ((hf_N15_.w hW).kr (o := 1) (by decide)) ((hf_N15_.w hW).lr (o := 1) (s := 1) (r := 4) (by decide)) (zdal_p dlA_Group_settle_30 (i := 13) rfl) ?_
                    refine zw_iload_n (pc := 112) (n := 2) (x := Int32.ofInt u14_) rfl (zdal_p dlA_Group_settle_30 (i := 14) rfl) ?_
                    refine zk_at hf_N15_.x (pc := 113) l_Group_54 ((hf_N15_.w hW).kr (o := 4) (by decide)) ((hf_N15_.w hW).lr (o := 4) (s := 0) (r := 5) (by decide)) ((hf_N15_.w hW).rr (o := 5) (t := 1) (n := 24) (by decide)) (by decide) (by (exact i17_)) (by (exact zo_1374 hc_95 hs24_.2)) (by decide) (Nat.le_of_ble_eq_true rfl) (zdal_p dlA_Group_settle_30 (i := 15) rfl) (fun v24_ hv24_ hv24_a hv24_b => ?_)
                    have hv2_ := hv24_
                    have hcc_ := i21_
                    obtain ⟨hcd1_, hcd2_, hcd3_⟩ := id hcc_
                    refine zk_callV hf_N15_.x (pc := 116) [.int (Int32.ofInt v23_), .int (Int32.ofInt v24_)] [.ref (d_ + 1)] l_Group_58 (u_Group_behind l d_ N15_ (hf_N15_.w hW) v23_ hv23_a hv23_b v24_ hv24_a hv24_b P_ (show ze N15_ (d_ + 1) 5 = P_ by first | with_reducible assumption | (exact zo_1375 eD1_5_N15_ eD1_5_N2_ eD1_5_N8_ hP0_ r_D1_5.2) | assumption) (show P_ ≤ 6 by first | with_reducible assumption | assumption | omega) (show zkv P_ v23_ by rw [hv1_]; exact hcd3_ _ (by (exact zo_1376 eD1_7_N2_ hc_85 hgb2_ i10_))) (show zkv P_ v24_ by rw [hv2_]; exact hcd3_ _ (by (exact zo_1377 eD1_7_N2_ hc_95 hgb2_ i17_ i18_)))) rfl rfl ((hf_N15_.w hW).kr (o := 1) (by decide)) (by decide) (by decide) (Nat.le_of_ble_eq_true rfl) (zdal_p dlA_Group_settle_30 (i := 16) rfl) ?_
                    rintro _ N25_ ⟨v26_, rfl, ⟨hv26_a, hv26_b⟩, hsN25_, hp0_N25_⟩
                    obtain rfl := hsN25_.eq.symm
                    replace hp0_N25_ : v26_ = (zbe P_ v23_ v24_ : Nat) := hp0_N25_
                    show zW l m_Group_settle (zn Mz + 0, zw Mz + 0) N15_ 119 [some (.ref (d_ + 1)), some (.int (Int32.ofInt u7_)), some (.int (Int32.ofInt u14_)), none] [.int (Int32.ofInt v26_), .ref (d_ + 1)] _
                    have hx_ := hp0_N25_
                    have hgv_ := fun v => hcc_.v (v := v) hP6_ (by (exact zo_1378 eD1_7_N15_ eD1_7_N2_ eD1_7_N8_ hc_85 i10_)) (by (exact zo_1379 eD1_7_N15_ eD1_7_N2_ eD1_7_N8_ hc_95 hcd2_ i17_ i18_)) hv1_ hv2_ hx_
                    refine zk_callV hf_N15_.x (pc := 119) [.int (Int32.ofInt v26_)] [] l_Group_61 (u_Group_indexOf l d_ N15_ (hf_N15_.w hW) v26_ hv26_a hv26_b (show 0 ≤ ze N15_ (d_ + 1) 7 by first | with_reducible assumption | (exact zo_537 hcd2_) | assumption) (show ze N15_ (d_ + 1) 7 ≤ 24 by first | with_reducible assumption | (exact zo_1380 eD1_7_N2_ hcd2_ hgb2_ hs24_.2) | assumption)) rfl rfl ((hf_N15_.w hW).kr (o := 1) (by decide)) (by decide) (by decide) (Nat.le_of_ble_eq_true rfl) (zdal_p dlA_Group_settle_30 (i := 17) rfl) ?_
                    rintro _ N27_ ⟨v28_, rfl, ⟨hv28_a, hv28_b⟩, hsN27_, hp0_N27_⟩
                    obtain rfl := hsN27_.eq.symm
                    replace hp0_N27_ : ((v28_ = -1 ∧ (∀ i : Nat, (i : Int) < ze N15_ (d_ + 1) 7 → ze N15_ (d_ + 5) i ≠ v26_)) ∨ (0 ≤ v28_ ∧ v28_ < ze N15_ (d_ + 1) 7 ∧ ze N15_ (d_ + 5) (v28_).toNat = v26_)) := hp0_N27_
                    rcases hp0_N27_ with ⟨rfl, ha119_0_hp0_N27_⟩ | ⟨ha119_0_hp0_N27_, ha119_1_hp0_N27_, ha119_2_hp0_N27_⟩
                    · skip
                      exact absurd ha119_0_hp0_N27_ (hgv_ 0).2
                    · skip
                      have hvm_ := (hgv_ _).1 ha119_0_hp0_N27_ ha119_1_hp0_N27_ ha119_2_hp0_N27_
                      show zW l m_Group_settle (zn Mz + 0, zw Mz + 0) N15_ 122 [some (.ref (d_ + 1)), some (.int (Int32.ofInt u7_)), some (.int (Int32.ofInt u14_)), none] [.int (Int32.ofInt v28_)] _
                      refine zw_istore_n (pc := 122) (i := 3) (L2 := [some (.ref (d_ + 1)), some (.int (Int32.ofInt u7_)), some (.int (Int32.ofInt u14_)), some (.int (Int32.ofInt v28_))]) rfl (by decide) rfl (zdal_p dlA_Group_settle_30 (i := 18) rfl) ?_
                      refine zw_aload_n (pc := 123) (n := 0) (x := (d_ + 1)) rfl (zdal_p dlA_Group_settle_30 (i := 19) rfl) ?_
                      refine zw_getF (pc := 124) f_Group_23 rfl ((hf_N15_.w hW).kr (o := 1) (by decide)) ((hf_N15_.w hW).lr (o := 1) (s := 2) (r := 6) (by decide)) (zdal_p dlA_Group_settle_30 (i := 20) rfl) ?_
                      refine zw_iload_n (pc := 127) (n := 1) (x := Int32.ofInt u7_) rfl (zdal_p dlA_Group_settle_30 (i := 21) rfl) ?_
                      refine zw_bipush (pc := 128) (v := Int32.ofInt 24) (by decide) (zdal_p dlA_Group_settle_30 (i := 22) rfl) ?_
                      refine zr_imul (pc := 130) (zdal_p dlA_Group_settle_30 (i := 23) rfl) ?_
                      refine zw_iload_n (pc := 131) (n := 2) (x := Int32.ofInt u14_) rfl (zdal_p dlA_Group_settle_31 (i := 0) rfl) ?_
                      refine zr_iadd (pc := 132) (zdal_p dlA_Group_settle_31 (i := 1) rfl) ?_
                      refine zw_iload_n (pc := 133) (n := 3) (x := Int32.ofInt v28_) rfl (zdal_p dlA_Group_settle_31 (i := 2) rfl) ?_
                      refine zk_st hf_N15_.x (pc := 134) (o := 7) (by decide) l_Group_46 ((hf_N15_.w hW).kr (o := 6) (by decide)) ((hf_N15_.w hW).lr (o := 6) (s := 0) (r := 7) (by decide)) ((hf_N15_.w hW).rr (o := 7) (t := 1) (n := 576) (by decide)) (by decide) (by (exact zo_1381 i10_ i17_)) (by (exact zo_1382 hc_85 hc_95 hs24_.2)) (by decide) (Nat.le_of_ble_eq_true rfl) (zdal_p dlA_Group_settle_31 (i := 3) rfl) (fun N29_ hN29_ hsN29_ => ?_)
                      have hf_N29_ : zFc d_ [] [] [] [5, 7, 9] Mz N29_ := hf_N15_.tr hsN29_ (by decide) (by decide) (by decide) (by decide)
                      have hb0_N29_ : zFc d_ [] [] [] [7, 9] N2_ N29_ := hb0_N15_.tr hsN29_ (by decide) (by decide) (by decide) (by decide)
                      have hb1_N29_ : zFc d_ [] [] [] [7, 9] N8_ N29_ := hs16_.tr hsN29_ (by decide) (by decide) (by decide) (by decide)
                      have eD1_5_N29_ : ze N29_ (d_ + 1) 5 = ze N15_ (d_ + 1) 5 := hsN29_.e (by decide)
                      have eD1_7_N29_ : ze N29_ (d_ + 1) 7 = ze N15_ (d_ + 1) 7 := hsN29_.e (by decide)
                      have c31_ : zGc mv_ P_ T_ d_ N29_ := zGc.fr (hf_N15_.w hW) hsN29_ i21_ (by decide)
                      obtain ⟨hk1_, hk2_⟩ := zPk_s (Nz := N29_) (by (exact zo_1383 eD1_7_N2_ hgb2_ hs24_.2)) (by (exact i10_)) (by (exact i17_)) (by (exact zo_1384 eD1_7_N2_ hc_95 hgb2_ i18_)) (by (exact zo_1372 eD1_7_N2_ hc_85 hgb2_)) hpl_ hpv_ hvm_ (by (exact zo_1385 eD1_7_N15_ eD1_7_N2_ eD1_7_N8_ ha119_1_hp0_N27_ hs24_.2 hv28_b)) hN29_ (fun j => hsN29_.r (by decide) j)
                      refine zw_iload_n (pc := 137) (n := 3) (x := Int32.ofInt v28_) rfl (zdal_p dlA_Group_settle_31 (i := 4) rfl) ?_
                      refine zr_if_ne (pc := 138) (tgt := 150) ⟨hv28_a, hv28_b⟩ (by decide) (zdal_p dlA_Group_settle_31 (i := 5) rfl) (fun hc_138 => ?_) (fun hc_138 => ?_)
                      · skip
                        refine zr_iinc (pc := 150) (i := 2) (a := u14_) (n := 1) (L2 := [some (.ref (d_ + 1)), some (.int (Int32.ofInt u7_)), some (.int (Int32.ofInt (u14_ + 1))), some (.int (Int32.ofInt v28_))]) rfl (by decide) rfl (zdal_p dlA_Group_settle_31 (i := 11) rfl) ?_
                        refine zw_goto (pc := 153) (tgt := 90) (by decide) (zdal_p dlA_Group_settle_31 (i := 12) rfl) ?_
                        refine zW_le [some (.ref (d_ + 1)), some (.int (Int32.ofInt u7_)), some (.int (Int32.ofInt (u14_ + 1))), none] (⟨rfl, rfl, rfl, trivial⟩) ?_
                        exact ih_90 (u14_ + 1) (by (exact zo_74 i17_)) (by (exact zo_1371 hc_95 hs24_.2)) N29_ hb1_N29_ (show 0 ≤ (u14_ + 1) by first | with_reducible assumption | (exact zo_76 i17_) | assumption) (show (u14_ + 1) ≤ gN T_ by first | with_reducible assumption | (exact zo_1386 eD1_7_N2_ hc_95 hgb2_ i18_) | assumption) (show zPkK T_ d_ N29_ u7_ (u14_ + 1) by first | exact hk3_ | exact hk1_) (show zPv T_ d_ N29_ u7_ (u14_ + 1) by first | exact hk4_ | exact zPv_n (by (exact i17_)) hk2_ (by (exact zo_1387 ha119_0_hp0_N27_ hvm_ hc_138))) c31_ (by (exact zo_147 hc_95 hlt_90))
                      · skip
                        refine zw_aload_n (pc := 141) (n := 0) (x := (d_ + 1)) rfl (zdal_p dlA_Group_settle_31 (i := 6) rfl) ?_
                        refine zw_getF (pc := 142) f_Group_26 rfl ((hf_N29_.w hW).kr (o := 1) (by decide)) ((hf_N29_.w hW).lr (o := 1) (s := 3) (r := 8) (by decide)) (zdal_p dlA_Group_settle_31 (i := 7) rfl) ?_
                        refine zw_iload_n (pc := 145) (n := 1) (x := Int32.ofInt u7_) rfl (zdal_p dlA_Group_settle_31 (i := 8) rfl) ?_
                        refine zw_iload_n (pc := 146) (n := 2) (x := Int32.ofInt u14_) rfl (zdal_p dlA_Group_settle_31 (i := 9) rfl) ?_
                        refine zk_st hf_N29_.x (pc := 147) (o := 9) (by decide) l_Group_46 ((hf_N29_.w hW).kr (o := 8) (by decide)) ((hf_N29_.w hW).lr (o := 8) (s := 0) (r := 9) (by decide)) ((hf_N29_.w hW).rr (o := 9) (t := 1) (n := 24) (by decide)) (by decide) (by (exact i10_)) (by (exact zo_1374 hc_85 hs24_.2)) (by decide) (Nat.le_of_ble_eq_true rfl) (zdal_p dlA_Group_settle_31 (i := 10) rfl) (fun N32_ hN32_ hsN32_ => ?_)
                        have hf_N32_ : zFc d_ [] [] [] [5, 7, 9] Mz N32_ := hf_N29_.tr hsN32_ (by decide) (by decide) (by decide) (by decide)
                        have hb0_N32_ : zFc d_ [] [] [] [7, 9] N2_ N32_ := hb0_N29_.tr hsN32_ (by decide) (by decide) (by decide) (by decide)
                        have hb1_N32_ : zFc d_ [] [] [] [7, 9] N8_ N32_ := hb1_N29_.tr hsN32_ (by decide) (by decide) (by decide) (by decide)
                        have eD1_5_N32_ : ze N32_ (d_ + 1) 5 = ze N29_ (d_ + 1) 5 := hsN32_.e (by decide)
                        have eD1_7_N32_ : ze N32_ (d_ + 1) 7 = ze N29_ (d_ + 1) 7 := hsN32_.e (by decide)
                        have c34_ : zGc mv_ P_ T_ d_ N32_ := zGc.fr (hf_N29_.w hW) hsN32_ c31_ (by decide)
                        obtain ⟨hk3_, hk4_⟩ := zPv_s (Nz := N32_) (by (exact zo_1383 eD1_7_N2_ hgb2_ hs24_.2)) (by (exact i10_)) (by (exact i17_)) (by (exact zo_1388 hc_95 hs24_.2)) hk1_ (by (exact zo_1389 hc_138 hvm_)) hN32_ (fun j => hsN32_.r (by decide) j)
                        refine zr_iinc (pc := 150) (i := 2) (a := u14_) (n := 1) (L2 := [some (.ref (d_ + 1)), some (.int (Int32.ofInt u7_)), some (.int (Int32.ofInt (u14_ + 1))), some (.int (Int32.ofInt v28_))]) rfl (by decide) rfl (zdal_p dlA_Group_settle_31 (i := 11) rfl) ?_
                        refine zw_goto (pc := 153) (tgt := 90) (by decide) (zdal_p dlA_Group_settle_31 (i := 12) rfl) ?_
                        refine zW_le [some (.ref (d_ + 1)), some (.int (Int32.ofInt u7_)), some (.int (Int32.ofInt (u14_ + 1))), none] (⟨rfl, rfl, rfl, trivial⟩) ?_
                        exact ih_90 (u14_ + 1) (by (exact zo_74 i17_)) (by (exact zo_1371 hc_95 hs24_.2)) N32_ hb1_N32_ (show 0 ≤ (u14_ + 1) by first | with_reducible assumption | (exact zo_76 i17_) | assumption) (show (u14_ + 1) ≤ gN T_ by first | with_reducible assumption | (exact zo_1386 eD1_7_N2_ hc_95 hgb2_ i18_) | assumption) (show zPkK T_ d_ N32_ u7_ (u14_ + 1) by first | exact hk3_ | exact hk1_) (show zPv T_ d_ N32_ u7_ (u14_ + 1) by first | exact hk4_ | exact zPv_n (by omega) hk2_ (by omega)) c34_ (by (exact zo_147 hc_95 hlt_90))
              exact lp_90 _ 0 (by decide) (by decide) N8_ zFc.rf (show 0 ≤ (0 : Int) by first | with_reducible assumption | (decide) | assumption) (show (0 : Int) ≤ gN T_ by first | with_reducible assumption | (exact zo_85) | assumption) (show zPkK T_ d_ N8_ u7_ (0 : Int) by exact hpk_) (show zPv T_ d_ N8_ u7_ (0 : Int) by exact zPv_0) i12_ (Nat.lt_succ_self _)
        exact lp_80 _ 0 (by decide) (by decide) N2_ zFc.rf (show 0 ≤ (0 : Int) by first | with_reducible assumption | (decide) | assumption) (show zPkK T_ d_ N2_ (0 : Int) 0 by exact zPkK_0) hgc_ (Nat.lt_succ_self _)
      · skip
        refine zw_aload_n (pc := 10) (n := 0) (x := (d_ + 1)) rfl (zdal_p dlA_Group_settle_28 (i := 6) rfl) ?_
        refine zw_getF (pc := 11) f_Group_20 rfl ((hf_N2_.w hW).kr (o := 1) (by decide)) ((hf_N2_.w hW).lr (o := 1) (s := 1) (r := 4) (by decide)) (zdal_p dlA_Group_settle_28 (i := 7) rfl) ?_
        refine zw_iload_n (pc := 14) (n := 1) (x := Int32.ofInt u1_) rfl (zdal_p dlA_Group_settle_28 (i := 8) rfl) ?_
        refine zk_at hf_N2_.x (pc := 15) l_Group_54 ((hf_N2_.w hW).kr (o := 4) (by decide)) ((hf_N2_.w hW).lr (o := 4) (s := 0) (r := 5) (by decide)) ((hf_N2_.w hW).rr (o := 5) (t := 1) (n := 24) (by decide)) (by decide) (by (exact zo_564 i4_)) (by (exact zo_1374 hc_7 hs24_.2)) (by decide) (Nat.le_of_ble_eq_true rfl) (zdal_p dlA_Group_settle_28 (i := 9) rfl) (fun v35_ hv35_ hv35_a hv35_b => ?_)
        have hr1_ := hv35_
        have hsj0_ := zSj_0 hso_ (by (exact zo_1390 hc_7 i4_) : (u1_).toNat < (ze Mz (d_ + 1) 7).toNat)
        rw [show zRw d_ 5 N2_ (u1_).toNat = v35_ from hr1_.symm] at hsj0_
        refine zw_istore_n (pc := 18) (i := 2) (L2 := [some (.ref (d_ + 1)), some (.int (Int32.ofInt u1_)), some (.int (Int32.ofInt v35_)), none]) rfl (by decide) rfl (zdal_p dlA_Group_settle_28 (i := 10) rfl) ?_
        refine zw_iload_n (pc := 19) (n := 1) (x := Int32.ofInt u1_) rfl (zdal_p dlA_Group_settle_28 (i := 11) rfl) ?_
        refine zw_istore_n (pc := 20) (i := 3) (L2 := [some (.ref (d_ + 1)), some (.int (Int32.ofInt u1_)), some (.int (Int32.ofInt v35_)), some (.int (Int32.ofInt u1_))]) rfl (by decide) rfl (zdal_p dlA_Group_settle_28 (i := 12) rfl) ?_
        have lp_21 : ∀ (n : Nat) (u36_ : Int) (hu36_a : -2147483648 ≤ u36_) (hu36_b : u36_ < 2147483648) (N37_ : zMem) (hs38_ : zFc d_ [] [] [] [5] N2_ N37_) (i39_ : 0 ≤ u36_) (i40_ : u36_ ≤ u1_) (i41_ : zSj (fun x_ => x_) (zRw d_ 5 Mz) (zRw d_ 5 N37_) (ze Mz (d_ + 1) 7).toNat (u1_).toNat (u36_).toNat v35_), (u36_).toNat < n → zW l m_Group_settle (zn Mz + 0, zw Mz + 0) N37_ 21 [some (.ref (d_ + 1)), some (.int (Int32.ofInt u1_)), some (.int (Int32.ofInt v35_)), some (.int (Int32.ofInt u36_))] [] (zqcV d_ [] [] [] [5, 7, 9] Mz (fun N => (∃ T : zGT, zTm mv_ T ∧ zTt T d_ N ∧ zGc mv_ P_ T d_ N))) := by
          intro n
          induction n with
          | zero =>
            intro u36_ hu36_a hu36_b N37_ hs38_ i39_ i40_ i41_ h0
            exact absurd h0 (Nat.not_lt_zero _)
          | succ n ih_21 =>
            intro u36_ hu36_a hu36_b N37_ hs38_ i39_ i40_ i41_ hlt_21
            have hf_N37_ : zFc d_ [] [] [] [5, 7, 9] Mz N37_ := hf_N2_.tr hs38_ (by decide) (by decide) (by decide) (by decide)
            have hb0_N37_ : zFc d_ [] [] [] [5] Mz N37_ := hs3_.tr hs38_ (by decide) (by decide) (by decide) (by decide)
            have eD1_5_N37_ : ze N37_ (d_ + 1) 5 = ze N2_ (d_ + 1) 5 := hs38_.e (by decide)
            have eD1_7_N37_ : ze N37_ (d_ + 1) 7 = ze N2_ (d_ + 1) 7 := hs38_.e (by decide)
            have hsj_ := (show zSj (fun x_ => x_) (zRw d_ 5 Mz) (zRw d_ 5 N37_) (ze Mz (d_ + 1) 7).toNat (u1_).toNat (u36_).toNat v35_ by first | with_reducible assumption | assumption)
            refine zw_iload_n (pc := 21) (n := 3) (x := Int32.ofInt u36_) rfl (zdal_p dlA_Group_settle_28 (i := 13) rfl) ?_
            refine zr_if_le (pc := 22) (tgt := 63) ⟨hu36_a, hu36_b⟩ (by decide) (zdal_p dlA_Group_settle_28 (i := 14) rfl) (fun hc_22 => ?_) (fun hc_22 => ?_)
            · skip
              have hex_ : (u36_).toNat = 0 ∨ ¬ (fun x_ => x_) v35_ < (fun x_ => x_) (zRw d_ 5 N37_ ((u36_).toNat - 1)) := by first | exact Or.inl (by (exact zo_1391 hc_22 i39_)) | (refine Or.inr ?_; show ¬ v35_ < ze N37_ (d_ + 5) ((u36_).toNat - 1); rw [show (u36_).toNat - 1 = (u36_ - 1).toNat by omega]; omega)
              refine zw_aload_n (pc := 63) (n := 0) (x := (d_ + 1)) rfl (zdal_p dlA_Group_settle_29 (i := 11) rfl) ?_
              refine zw_getF (pc := 64) f_Group_20 rfl ((hf_N37_.w hW).kr (o := 1) (by decide)) ((hf_N37_.w hW).lr (o := 1) (s := 1) (r := 4) (by decide)) (zdal_p dlA_Group_settle_29 (i := 12) rfl) ?_
              refine zw_iload_n (pc := 67) (n := 3) (x := Int32.ofInt u36_) rfl (zdal_p dlA_Group_settle_29 (i := 13) rfl) ?_
              refine zw_iload_n (pc := 68) (n := 2) (x := Int32.ofInt v35_) rfl (zdal_p dlA_Group_settle_29 (i := 14) rfl) ?_
              refine zk_st hf_N37_.x (pc := 69) (o := 5) (by decide) l_Group_46 ((hf_N37_.w hW).kr (o := 4) (by decide)) ((hf_N37_.w hW).lr (o := 4) (s := 0) (r := 5) (by decide)) ((hf_N37_.w hW).rr (o := 5) (t := 1) (n := 24) (by decide)) (by decide) (by (exact i39_)) (by (exact zo_1392 hc_22)) (by decide) (Nat.le_of_ble_eq_true rfl) (zdal_p dlA_Group_settle_29 (i := 15) rfl) (fun N43_ hN43_ hsN43_ => ?_)
              have hf_N43_ : zFc d_ [] [] [] [5, 7, 9] Mz N43_ := hf_N37_.tr hsN43_ (by decide) (by decide) (by decide) (by decide)
              have hb0_N43_ : zFc d_ [] [] [] [5] Mz N43_ := hb0_N37_.tr hsN43_ (by decide) (by decide) (by decide) (by decide)
              have eD1_5_N43_ : ze N43_ (d_ + 1) 5 = ze N37_ (d_ + 1) 5 := hsN43_.e (by decide)
              have eD1_7_N43_ : ze N43_ (d_ + 1) 7 = ze N37_ (d_ + 1) 7 := hsN43_.e (by decide)
              have hse_ := zSj_e hsj_ hex_ (zRw_w hN43_ ⟨by (exact hv35_a), by (exact hv35_b)⟩)
              rw [show (u1_).toNat + 1 = (u1_ + 1).toNat by (exact zo_1393 i4_)] at hse_
              refine zr_iinc (pc := 72) (i := 1) (a := u1_) (n := 1) (L2 := [some (.ref (d_ + 1)), some (.int (Int32.ofInt (u1_ + 1))), some (.int (Int32.ofInt v35_)), some (.int (Int32.ofInt u36_))]) rfl (by decide) rfl (zdal_p dlA_Group_settle_29 (i := 16) rfl) ?_
              refine zw_goto (pc := 75) (tgt := 2) (by decide) (zdal_p dlA_Group_settle_29 (i := 17) rfl) ?_
              refine zW_le [some (.ref (d_ + 1)), some (.int (Int32.ofInt (u1_ + 1))), none, none] (⟨rfl, rfl, trivial⟩) ?_
              exact ih_2 (u1_ + 1) (by (exact zo_576 i4_)) (by (exact zo_1371 hc_7 hs24_.2)) N43_ hb0_N43_ (show 1 ≤ (u1_ + 1) by first | with_reducible assumption | (exact zo_577 i4_) | assumption) (show zSoK (fun x_ => x_) (zRw d_ 5 Mz) (zRw d_ 5 N43_) (ze Mz (d_ + 1) 7).toNat ((u1_ + 1)).toNat by exact hse_) (by (exact zo_147 hc_7 hlt_2))
            · skip
              refine zw_aload_n (pc := 25) (n := 0) (x := (d_ + 1)) rfl (zdal_p dlA_Group_settle_28 (i := 15) rfl) ?_
              refine zw_getF (pc := 26) f_Group_20 rfl ((hf_N37_.w hW).kr (o := 1) (by decide)) ((hf_N37_.w hW).lr (o := 1) (s := 1) (r := 4) (by decide)) (zdal_p dlA_Group_settle_28 (i := 16) rfl) ?_
              refine zw_iload_n (pc := 29) (n := 3) (x := Int32.ofInt u36_) rfl (zdal_p dlA_Group_settle_28 (i := 17) rfl) ?_
              refine zw_iconst (pc := 30) (v := Int32.ofInt 1) (by decide) (zdal_p dlA_Group_settle_28 (i := 18) rfl) ?_
              refine zr_isub (pc := 31) (zdal_p dlA_Group_settle_28 (i := 19) rfl) ?_
              refine zk_at hf_N37_.x (pc := 32) l_Group_54 ((hf_N37_.w hW).kr (o := 4) (by decide)) ((hf_N37_.w hW).lr (o := 4) (s := 0) (r := 5) (by decide)) ((hf_N37_.w hW).rr (o := 5) (t := 1) (n := 24) (by decide)) (by decide) (by (exact zo_1265 hc_22)) (by (exact zo_1394 hc_7 hs24_.2 hu36_b i40_)) (by decide) (Nat.le_of_ble_eq_true rfl) (zdal_p dlA_Group_settle_28 (i := 20) rfl) (fun v45_ hv45_ hv45_a hv45_b => ?_)
              have hr2_ := hv45_
              refine zw_iload_n (pc := 35) (n := 2) (x := Int32.ofInt v35_) rfl (zdal_p dlA_Group_settle_28 (i := 21) rfl) ?_
              refine zr_icmp_le (pc := 36) (tgt := 63) ⟨hv45_a, hv45_b⟩ ⟨hv35_a, hv35_b⟩ (by decide) (zdal_p dlA_Group_settle_28 (i := 22) rfl) (fun hc_36 => ?_) (fun hc_36 => ?_)
              · skip
                have hex_ : (u36_).toNat = 0 ∨ ¬ (fun x_ => x_) v35_ < (fun x_ => x_) (zRw d_ 5 N37_ ((u36_).toNat - 1)) := by first | exact Or.inl (by omega) | (refine Or.inr ?_; show ¬ v35_ < ze N37_ (d_ + 5) ((u36_).toNat - 1); rw [show (u36_).toNat - 1 = (u36_ - 1).toNat by (exact zo_1395 hc_22)]; (exact zo_1396 hc_36 hv45_))
                refine zw_aload_n (pc := 63) (n := 0) (x := (d_ + 1)) rfl (zdal_p dlA_Group_settle_29 (i := 11) rfl) ?_
                refine zw_getF (pc := 64) f_Group_20 rfl ((hf_N37_.w hW).kr (o := 1) (by decide)) ((hf_N37_.w hW).lr (o := 1) (s := 1) (r := 4) (by decide)) (zdal_p dlA_Group_settle_29 (i := 12) rfl) ?_
                refine zw_iload_n (pc := 67) (n := 3) (x := Int32.ofInt u36_) rfl (zdal_p dlA_Group_settle_29 (i := 13) rfl) ?_
                refine zw_iload_n (pc := 68) (n := 2) (x := Int32.ofInt v35_) rfl (zdal_p dlA_Group_settle_29 (i := 14) rfl) ?_
                refine zk_st hf_N37_.x (pc := 69) (o := 5) (by decide) l_Group_46 ((hf_N37_.w hW).kr (o := 4) (by decide)) ((hf_N37_.w hW).lr (o := 4) (s := 0) (r := 5) (by decide)) ((hf_N37_.w hW).rr (o := 5) (t := 1) (n := 24) (by decide)) (by decide) (by (exact i39_)) (by (exact zo_1397 hc_7 hs24_.2 i40_)) (by decide) (Nat.le_of_ble_eq_true rfl) (zdal_p dlA_Group_settle_29 (i := 15) rfl) (fun N46_ hN46_ hsN46_ => ?_)
                have hf_N46_ : zFc d_ [] [] [] [5, 7, 9] Mz N46_ := hf_N37_.tr hsN46_ (by decide) (by decide) (by decide) (by decide)
                have hb0_N46_ : zFc d_ [] [] [] [5] Mz N46_ := hb0_N37_.tr hsN46_ (by decide) (by decide) (by decide) (by decide)
                have eD1_5_N46_ : ze N46_ (d_ + 1) 5 = ze N37_ (d_ + 1) 5 := hsN46_.e (by decide)
                have eD1_7_N46_ : ze N46_ (d_ + 1) 7 = ze N37_ (d_ + 1) 7 := hsN46_.e (by decide)
                have hse_ := zSj_e hsj_ hex_ (zRw_w hN46_ ⟨by (exact hv35_a), by (exact hv35_b)⟩)
                rw [show (u1_).toNat + 1 = (u1_ + 1).toNat by (exact zo_1393 i4_)] at hse_
                refine zr_iinc (pc := 72) (i := 1) (a := u1_) (n := 1) (L2 := [some (.ref (d_ + 1)), some (.int (Int32.ofInt (u1_ + 1))), some (.int (Int32.ofInt v35_)), some (.int (Int32.ofInt u36_))]) rfl (by decide) rfl (zdal_p dlA_Group_settle_29 (i := 16) rfl) ?_
                refine zw_goto (pc := 75) (tgt := 2) (by decide) (zdal_p dlA_Group_settle_29 (i := 17) rfl) ?_
                refine zW_le [some (.ref (d_ + 1)), some (.int (Int32.ofInt (u1_ + 1))), none, none] (⟨rfl, rfl, trivial⟩) ?_
                exact ih_2 (u1_ + 1) (by (exact zo_576 i4_)) (by (exact zo_1371 hc_7 hs24_.2)) N46_ hb0_N46_ (show 1 ≤ (u1_ + 1) by first | with_reducible assumption | (exact zo_577 i4_) | assumption) (show zSoK (fun x_ => x_) (zRw d_ 5 Mz) (zRw d_ 5 N46_) (ze Mz (d_ + 1) 7).toNat ((u1_ + 1)).toNat by exact hse_) (by (exact zo_147 hc_7 hlt_2))
              · skip
                refine zw_aload_n (pc := 39) (n := 0) (x := (d_ + 1)) rfl (zdal_p dlA_Group_settle_28 (i := 23) rfl) ?_
                refine zw_getF (pc := 40) f_Group_20 rfl ((hf_N37_.w hW).kr (o := 1) (by decide)) ((hf_N37_.w hW).lr (o := 1) (s := 1) (r := 4) (by decide)) (zdal_p dlA_Group_settle_29 (i := 0) rfl) ?_
                refine zw_iload_n (pc := 43) (n := 3) (x := Int32.ofInt u36_) rfl (zdal_p dlA_Group_settle_29 (i := 1) rfl) ?_
                refine zw_aload_n (pc := 44) (n := 0) (x := (d_ + 1)) rfl (zdal_p dlA_Group_settle_29 (i := 2) rfl) ?_
                refine zw_getF (pc := 45) f_Group_20 rfl ((hf_N37_.w hW).kr (o := 1) (by decide)) ((hf_N37_.w hW).lr (o := 1) (s := 1) (r := 4) (by decide)) (zdal_p dlA_Group_settle_29 (i := 3) rfl) ?_
                refine zw_iload_n (pc := 48) (n := 3) (x := Int32.ofInt u36_) rfl (zdal_p dlA_Group_settle_29 (i := 4) rfl) ?_
                refine zw_iconst (pc := 49) (v := Int32.ofInt 1) (by decide) (zdal_p dlA_Group_settle_29 (i := 5) rfl) ?_
                refine zr_isub (pc := 50) (zdal_p dlA_Group_settle_29 (i := 6) rfl) ?_
                refine zk_at hf_N37_.x (pc := 51) l_Group_54 ((hf_N37_.w hW).kr (o := 4) (by decide)) ((hf_N37_.w hW).lr (o := 4) (s := 0) (r := 5) (by decide)) ((hf_N37_.w hW).rr (o := 5) (t := 1) (n := 24) (by decide)) (by decide) (by (exact zo_1265 hc_22)) (by (exact zo_1394 hc_7 hs24_.2 hu36_b i40_)) (by decide) (Nat.le_of_ble_eq_true rfl) (zdal_p dlA_Group_settle_29 (i := 7) rfl) (fun v48_ hv48_ hv48_a hv48_b => ?_)
                have hr3_ := hv48_
                refine zk_st hf_N37_.x (pc := 54) (o := 5) (by decide) l_Group_46 ((hf_N37_.w hW).kr (o := 4) (by decide)) ((hf_N37_.w hW).lr (o := 4) (s := 0) (r := 5) (by decide)) ((hf_N37_.w hW).rr (o := 5) (t := 1) (n := 24) (by decide)) (by decide) (by (exact i39_)) (by (exact zo_1397 hc_7 hs24_.2 i40_)) (by decide) (Nat.le_of_ble_eq_true rfl) (zdal_p dlA_Group_settle_29 (i := 8) rfl) (fun N49_ hN49_ hsN49_ => ?_)
                have hf_N49_ : zFc d_ [] [] [] [5, 7, 9] Mz N49_ := hf_N37_.tr hsN49_ (by decide) (by decide) (by decide) (by decide)
                have hb0_N49_ : zFc d_ [] [] [] [5] Mz N49_ := hb0_N37_.tr hsN49_ (by decide) (by decide) (by decide) (by decide)
                have hb1_N49_ : zFc d_ [] [] [] [5] N2_ N49_ := hs38_.tr hsN49_ (by decide) (by decide) (by decide) (by decide)
                have eD1_5_N49_ : ze N49_ (d_ + 1) 5 = ze N37_ (d_ + 1) 5 := hsN49_.e (by decide)
                have eD1_7_N49_ : ze N49_ (d_ + 1) 7 = ze N37_ (d_ + 1) 7 := hsN49_.e (by decide)
                have hss_ := zSj_s hsj_ (by (exact zo_1398 hc_22)) (show v35_ < ze N37_ (d_ + 5) ((u36_).toNat - 1) by rw [show (u36_).toNat - 1 = (u36_ - 1).toNat by (exact zo_1395 hc_22)]; (exact zo_1399 hc_36 hv45_)) (fun j => (zRw_w hN49_ ⟨by (exact hv48_a), by (exact hv48_b)⟩ j).trans (by rw [show zRw d_ 5 N37_ ((u36_).toNat - 1) = ze N37_ (d_ + 5) (u36_ - 1).toNat by rw [show (u36_ - 1).toNat = (u36_).toNat - 1 by (exact zo_1400 hc_22)]; rfl, ← hr3_]))
                rw [show (u36_).toNat - 1 = (u36_ + (-1)).toNat by (exact zo_1401 hc_22)] at hss_
                refine zr_iinc (pc := 57) (i := 3) (a := u36_) (n := -1) (L2 := [some (.ref (d_ + 1)), some (.int (Int32.ofInt u1_)), some (.int (Int32.ofInt v35_)), some (.int (Int32.ofInt (u36_ + (-1))))]) rfl (by decide) rfl (zdal_p dlA_Group_settle_29 (i := 9) rfl) ?_
                refine zw_goto (pc := 60) (tgt := 21) (by decide) (zdal_p dlA_Group_settle_29 (i := 10) rfl) ?_
                exact ih_21 (u36_ + (-1)) (by (exact zo_992 hc_22)) (by (exact zo_893 hu36_b)) N49_ hb1_N49_ (show 0 ≤ (u36_ + (-1)) by first | with_reducible assumption | (exact zo_1402 hc_22) | assumption) (show (u36_ + (-1)) ≤ u1_ by first | with_reducible assumption | (exact zo_993 i40_) | assumption) (show zSj (fun x_ => x_) (zRw d_ 5 Mz) (zRw d_ 5 N49_) (ze Mz (d_ + 1) 7).toNat (u1_).toNat ((u36_ + (-1))).toNat v35_ by exact hss_) (by (exact zo_995 hc_22 hlt_21 hu36_b))
        exact lp_21 _ u1_ hu1_a hu1_b N2_ zFc.rf (show 0 ≤ u1_ by first | with_reducible assumption | (exact zo_564 i4_) | assumption) (show u1_ ≤ u1_ by first | with_reducible assumption | (exact zo_628) | assumption) (show zSj (fun x_ => x_) (zRw d_ 5 Mz) (zRw d_ 5 N2_) (ze Mz (d_ + 1) 7).toNat (u1_).toNat (u1_).toNat v35_ by exact hsj0_) (Nat.lt_succ_self _)
  exact lp_2 _ 1 (by decide) (by decide) Mz zFc.rf (show 1 ≤ (1 : Int) by first | with_reducible assumption | (decide) | assumption) (show zSoK (fun x_ => x_) (zRw d_ 5 Mz) (zRw d_ 5 Mz) (ze Mz (d_ + 1) 7).toNat ((1 : Int)).toNat by exact hs0_) (Nat.lt_succ_self _)
set_option maxHeartbeats 4000000 in
theorem u_Sorts_numberSortsG (l : Launch) (d_ : Nat) (Mz : zMem) (hW : zKW d_ Mz) (T_ : zGT) (hT_ : T_ ∈ gTabs) (l_ : List Nat) (Kp_ : Nat) (hol_ : gOL T_ l_ Kp_ gKL) (hGr_ : gGr T_) (p0_ : zTt T_ d_ Mz) (p1_ : zLs T_ (zRw d_ 14 Mz) (ze Mz (d_ + 12) 6)) : zC l m_Sorts_numberSorts 0 0 [.ref (d_ + 12)] Mz (zqcV d_ [] [] [(12, 7)] [16, 20] Mz (fun N => zFir T_ d_ N ∧ (∀ i : Nat, (i : Int) < ze Mz (d_ + 12) 6 → zSrt T_ (ze Mz (d_ + 14) i).toNat (ze N (d_ + 16) i)))) := by
  refine zC_of (L0 := [some (.ref (d_ + 12)), none, none]) md_Sorts_numberSorts (Nat.le_of_ble_eq_true rfl) rfl ?_ zQ0
  have hf : zFc d_ [] [] [(12, 7)] [16, 20] Mz Mz := zFc.rf
  have r_D1_7 := ze_r Mz (d_ + 1) 7
  have r_D12_6 := ze_r Mz (d_ + 12) 6
  have r_D12_7 := ze_r Mz (d_ + 12) 7
  have hO_ := gTabs_ok T_ hT_
  have hG_ := hO_.1
  have hn24_ := hG_.2.1
  have hn1_ := hG_.1
  obtain ⟨⟨hm1_, hm35_⟩, hmm_, hms_, hmo_⟩ := id p1_
  have hsz_ := p0_.1
  refine zw_aload_n (pc := 0) (n := 0) (x := (d_ + 12)) rfl (zdal_p dlA_Sorts_numberSorts_45 (i := 0) rfl) ?_
  refine zw_iconst (pc := 1) (v := Int32.ofInt 0) (by decide) (zdal_p dlA_Sorts_numberSorts_45 (i := 1) rfl) ?_
  refine zk_putR (pc := 2) (o := 12) (by decide) f_Sorts_83 rfl rfl ((hf.w hW).kr (o := 12) (by decide)) ⟨by (decide), by (decide)⟩ rfl rfl (zdal_p dlA_Sorts_numberSorts_45 (i := 2) rfl) (fun N1_ hsN1_ hvN1_ => ?_)
  have hf_N1_ : zFc d_ [] [] [(12, 7)] [16, 20] Mz N1_ := hf.tr hsN1_ (by decide) (by decide) (by decide) (by decide)
  have eD1_7_N1_ : ze N1_ (d_ + 1) 7 = ze Mz (d_ + 1) 7 := hsN1_.e (by decide)
  have eD12_6_N1_ : ze N1_ (d_ + 12) 6 = ze Mz (d_ + 12) 6 := hsN1_.e (by decide)
  have rD12_7_N1_ := ze_r N1_ (d_ + 12) 7
  have c2_ : zTt T_ d_ N1_ := zTt.fr (hf.w hW) hsN1_ p0_ (by decide)
  refine zw_iconst (pc := 5) (v := Int32.ofInt 0) (by decide) (zdal_p dlA_Sorts_numberSorts_45 (i := 3) rfl) ?_
  refine zw_istore_n (pc := 6) (i := 1) (L2 := [some (.ref (d_ + 12)), some (.int (Int32.ofInt 0)), none]) rfl (by decide) rfl (zdal_p dlA_Sorts_numberSorts_45 (i := 4) rfl) ?_
  have lp_7 : ∀ (n : Nat) (u3_ : Int) (hu3_a : -2147483648 ≤ u3_) (hu3_b : u3_ < 2147483648) (N4_ : zMem) (hs5_ : zFc d_ [] [] [] [16] N1_ N4_) (i6_ : 0 ≤ u3_) (i7_ : u3_ ≤ ze Mz (d_ + 12) 6) (i8_ : ze N4_ (d_ + 12) 7 = 0) (i9_ : ∀ i : Nat, (i : Int) < u3_ → zRw d_ 16 N4_ i = -1), (ze Mz (d_ + 12) 6 - u3_).toNat < n → zW l m_Sorts_numberSorts (zn Mz + 0, zw Mz + 0) N4_ 7 [some (.ref (d_ + 12)), some (.int (Int32.ofInt u3_)), none] [] (zqcV d_ [] [] [(12, 7)] [16, 20] Mz (fun N => zFir T_ d_ N ∧ (∀ i : Nat, (i : Int) < ze Mz (d_ + 12) 6 → zSrt T_ (ze Mz (d_ + 14) i).toNat (ze N (d_ + 16) i)))) := by
    intro n
    induction n with
    | zero =>
      intro u3_ hu3_a hu3_b N4_ hs5_ i6_ i7_ i8_ i9_ h0
      exact absurd h0 (Nat.not_lt_zero _)
    | succ n ih_7 =>
      intro u3_ hu3_a hu3_b N4_ hs5_ i6_ i7_ i8_ i9_ hlt_7
      have hf_N4_ : zFc d_ [] [] [(12, 7)] [16, 20] Mz N4_ := hf_N1_.tr hs5_ (by decide) (by decide) (by decide) (by decide)
      have eD1_7_N4_ : ze N4_ (d_ + 1) 7 = ze N1_ (d_ + 1) 7 := hs5_.e (by decide)
      have eD12_6_N4_ : ze N4_ (d_ + 12) 6 = ze N1_ (d_ + 12) 6 := hs5_.e (by decide)
      have eD12_7_N4_ : ze N4_ (d_ + 12) 7 = ze N1_ (d_ + 12) 7 := hs5_.e (by decide)
      have c10_ : zTt T_ d_ N4_ := zTt.fr (hf_N1_.w hW) hs5_ c2_ (by decide)
      have hqi_ := (show ∀ i : Nat, (i : Int) < u3_ → zRw d_ 16 N4_ i = -1 by first | with_reducible assumption | assumption)
      refine zw_iload_n (pc := 7) (n := 1) (x := Int32.ofInt u3_) rfl (zdal_p dlA_Sorts_numberSorts_45 (i := 5) rfl) ?_
      refine zw_aload_n (pc := 8) (n := 0) (x := (d_ + 12)) rfl (zdal_p dlA_Sorts_numberSorts_45 (i := 6) rfl) ?_
      refine zk_getI (pc := 9) f_Sorts_36 rfl ((hf_N4_.w hW).kr (o := 12) (by decide)) (zdal_p dlA_Sorts_numberSorts_45 (i := 7) rfl) ?_
      rw [hf_N4_.e (by decide)]
      refine zr_icmp_ge (pc := 12) (tgt := 30) ⟨hu3_a, hu3_b⟩ ⟨(ze_r Mz (d_ + 12) 6).1, (ze_r Mz (d_ + 12) 6).2⟩ (by decide) (zdal_p dlA_Sorts_numberSorts_45 (i := 8) rfl) (fun hc_12 => ?_) (fun hc_12 => ?_)
      · skip
        have hnu0_ : zNu T_ (zRw d_ 14 Mz) (ze Mz (d_ + 12) 6) (zRw d_ 16 N4_) (zRw d_ 20 N4_) (ze N4_ (d_ + 12) 7) 0 0 := by rw [show ze N4_ (d_ + 12) 7 = 0 by (exact i8_)]; exact zNu_0 (fun i hi => hqi_ i (by (exact zo_1403 hc_12 hi)))
        have hnq0_ : zNq T_ (zRw d_ 14 Mz) (ze Mz (d_ + 12) 6) (zRw d_ 16 N4_) (zRw d_ 20 N4_) (ze N4_ (d_ + 12) 7) := zNq_0 (fun i hi => hqi_ i (by (exact zo_1403 hc_12 hi)))
        refine zw_iconst (pc := 30) (v := Int32.ofInt 0) (by decide) (zdal_p dlA_Sorts_numberSorts_45 (i := 16) rfl) ?_
        refine zw_istore_n (pc := 31) (i := 1) (L2 := [some (.ref (d_ + 12)), some (.int (Int32.ofInt 0)), none]) rfl (by decide) rfl (zdal_p dlA_Sorts_numberSorts_45 (i := 17) rfl) ?_
        have lp_32 : ∀ (n : Nat) (u11_ : Int) (hu11_a : -2147483648 ≤ u11_) (hu11_b : u11_ < 2147483648) (N12_ : zMem) (hs13_ : zFc d_ [] [] [(12, 7)] [16, 20] N4_ N12_) (i14_ : 0 ≤ u11_) (i15_ : zNu T_ (zRw d_ 14 Mz) (ze Mz (d_ + 12) 6) (zRw d_ 16 N12_) (zRw d_ 20 N12_) (ze N12_ (d_ + 12) 7) u11_ 0) (i16_ : zNq T_ (zRw d_ 14 Mz) (ze Mz (d_ + 12) 6) (zRw d_ 16 N12_) (zRw d_ 20 N12_) (ze N12_ (d_ + 12) 7)), (ze Mz (d_ + 12) 6 - u11_).toNat < n → zW l m_Sorts_numberSorts (zn Mz + 0, zw Mz + 0) N12_ 32 [some (.ref (d_ + 12)), some (.int (Int32.ofInt u11_)), none] [] (zqcV d_ [] [] [(12, 7)] [16, 20] Mz (fun N => zFir T_ d_ N ∧ (∀ i : Nat, (i : Int) < ze Mz (d_ + 12) 6 → zSrt T_ (ze Mz (d_ + 14) i).toNat (ze N (d_ + 16) i)))) := by
          intro n
          induction n with
          | zero =>
            intro u11_ hu11_a hu11_b N12_ hs13_ i14_ i15_ i16_ h0
            exact absurd h0 (Nat.not_lt_zero _)
          | succ n ih_32 =>
            intro u11_ hu11_a hu11_b N12_ hs13_ i14_ i15_ i16_ hlt_32
            have hf_N12_ : zFc d_ [] [] [(12, 7)] [16, 20] Mz N12_ := hf_N4_.tr hs13_ (by decide) (by decide) (by decide) (by decide)
            have eD1_7_N12_ : ze N12_ (d_ + 1) 7 = ze N4_ (d_ + 1) 7 := hs13_.e (by decide)
            have eD12_6_N12_ : ze N12_ (d_ + 12) 6 = ze N4_ (d_ + 12) 6 := hs13_.e (by decide)
            have rD12_7_N12_ := ze_r N12_ (d_ + 12) 7
            have c17_ : zTt T_ d_ N12_ := zTt.fr (hf_N4_.w hW) hs13_ c10_ (by decide)
            have hnu_ := (show zNu T_ (zRw d_ 14 Mz) (ze Mz (d_ + 12) 6) (zRw d_ 16 N12_) (zRw d_ 20 N12_) (ze N12_ (d_ + 12) 7) u11_ 0 by first | with_reducible assumption | assumption)
            have hc0_ := hnu_.2.1
            have hnq_ := (show zNq T_ (zRw d_ 14 Mz) (ze Mz (d_ + 12) 6) (zRw d_ 16 N12_) (zRw d_ 20 N12_) (ze N12_ (d_ + 12) 7) by first | with_reducible assumption | assumption)
            refine zw_iload_n (pc := 32) (n := 1) (x := Int32.ofInt u11_) rfl (zdal_p dlA_Sorts_numberSorts_45 (i := 18) rfl) ?_
            refine zw_aload_n (pc := 33) (n := 0) (x := (d_ + 12)) rfl (zdal_p dlA_Sorts_numberSorts_45 (i := 19) rfl) ?_
            refine zk_getI (pc := 34) f_Sorts_36 rfl ((hf_N12_.w hW).kr (o := 12) (by decide)) (zdal_p dlA_Sorts_numberSorts_45 (i := 20) rfl) ?_
            rw [hf_N12_.e (by decide)]
            refine zr_icmp_ge (pc := 37) (tgt := 149) ⟨hu11_a, hu11_b⟩ ⟨(ze_r Mz (d_ + 12) 6).1, (ze_r Mz (d_ + 12) 6).2⟩ (by decide) (zdal_p dlA_Sorts_numberSorts_45 (i := 21) rfl) (fun hc_37 => ?_) (fun hc_37 => ?_)
            · skip
              exact zk_vret (pc := 149) rfl hf_N12_ ⟨(show zFir T_ d_ N12_ by obtain ⟨e1_, e2_⟩ := zNu_e hO_ p1_ hnu_ (by (exact hc_37)); exact ⟨e1_, e2_⟩), (show (∀ i : Nat, (i : Int) < ze Mz (d_ + 12) 6 → zSrt T_ (ze Mz (d_ + 14) i).toNat (ze N12_ (d_ + 16) i)) by obtain ⟨e1_, e2_⟩ := zNu_e hO_ p1_ hnu_ (by (exact hc_37)); rw [e1_] at hnu_ hnq_; exact zSbK_i hGr_ hO_ hol_ p1_ hnq_ hnu_ (by (exact hc_37)) e2_)⟩ (zdal_p dlA_Sorts_numberSorts_48 (i := 2) rfl)
            · skip
              refine zw_aload_n (pc := 40) (n := 0) (x := (d_ + 12)) rfl (zdal_p dlA_Sorts_numberSorts_45 (i := 22) rfl) ?_
              refine zw_getF (pc := 41) f_Sorts_20 rfl ((hf_N12_.w hW).kr (o := 12) (by decide)) ((hf_N12_.w hW).lr (o := 12) (s := 2) (r := 15) (by decide)) (zdal_p dlA_Sorts_numberSorts_45 (i := 23) rfl) ?_
              refine zw_iload_n (pc := 44) (n := 1) (x := Int32.ofInt u11_) rfl (zdal_p dlA_Sorts_numberSorts_46 (i := 0) rfl) ?_
              refine zk_at hf_N12_.x (pc := 45) l_Sorts_49 ((hf_N12_.w hW).kr (o := 15) (by decide)) ((hf_N12_.w hW).lr (o := 15) (s := 0) (r := 16) (by decide)) ((hf_N12_.w hW).rr (o := 16) (t := 1) (n := 35) (by decide)) (by decide) (by (exact i14_)) (by (exact zo_1404 hc_37 hm35_)) (by decide) (Nat.le_of_ble_eq_true rfl) (zdal_p dlA_Sorts_numberSorts_46 (i := 1) rfl) (fun v18_ hv18_ hv18_a hv18_b => ?_)
              have hv1_ := hv18_
              have hnt_ := zNu_t hO_ p1_ hol_ hnu_ (by (exact zo_1405 hc_37 i14_))
              rw [show zRw d_ 16 N12_ (u11_).toNat = v18_ from hv1_.symm] at hnt_
              refine zw_iconst (pc := 48) (v := Int32.ofInt (-1)) (by decide) (zdal_p dlA_Sorts_numberSorts_46 (i := 2) rfl) ?_
              refine zr_icmp_ne (pc := 49) (tgt := 143) ⟨hv18_a, hv18_b⟩ ⟨(by decide), (by decide)⟩ (by decide) (zdal_p dlA_Sorts_numberSorts_46 (i := 3) rfl) (fun hc_49 => ?_) (fun hc_49 => ?_)
              · skip
                refine zr_iinc (pc := 143) (i := 1) (a := u11_) (n := 1) (L2 := [some (.ref (d_ + 12)), some (.int (Int32.ofInt (u11_ + 1))), none]) rfl (by decide) rfl (zdal_p dlA_Sorts_numberSorts_48 (i := 0) rfl) ?_
                refine zw_goto (pc := 146) (tgt := 32) (by decide) (zdal_p dlA_Sorts_numberSorts_48 (i := 1) rfl) ?_
                exact ih_32 (u11_ + 1) (by (exact zo_74 i14_)) (by (exact zo_1406 hc_37 hm35_)) N12_ hs13_ (show 0 ≤ (u11_ + 1) by first | with_reducible assumption | (exact zo_76 i14_) | assumption) (show zNu T_ (zRw d_ 14 Mz) (ze Mz (d_ + 12) 6) (zRw d_ 16 N12_) (zRw d_ 20 N12_) (ze N12_ (d_ + 12) 7) (u11_ + 1) 0 by first | exact hnz_ | exact zNu_n p1_ hnu_ (by (exact zo_1405 hc_37 i14_)) (fun q_ => absurd (hnt_.mpr q_) (by (exact zo_1407 hc_49)))) (show zNq T_ (zRw d_ 14 Mz) (ze Mz (d_ + 12) 6) (zRw d_ 16 N12_) (zRw d_ 20 N12_) (ze N12_ (d_ + 12) 7) by first | exact hnqz_ | exact hnq_) (by (exact zo_147 hc_37 hlt_32))
              · skip
                have hgF_ := hnt_.mp (by (exact hc_49))
                have hr26_ := zNu_r p1_ hol_ hnu_ (by (exact zo_1405 hc_37 i14_)) hgF_
                have hfk_ := hmm_ (u11_).toNat (by (exact zo_695 hc_37 i14_))
                have hfb_ := gS_b hO_ hfk_.2
                refine zw_aload_n (pc := 52) (n := 0) (x := (d_ + 12)) rfl (zdal_p dlA_Sorts_numberSorts_46 (i := 4) rfl) ?_
                refine zk_getI (pc := 53) f_Sorts_83 rfl ((hf_N12_.w hW).kr (o := 12) (by decide)) (zdal_p dlA_Sorts_numberSorts_46 (i := 5) rfl) ?_
                refine zw_bipush (pc := 56) (v := Int32.ofInt 27) (by decide) (zdal_p dlA_Sorts_numberSorts_46 (i := 6) rfl) ?_
                refine zr_icmp_lt (pc := 58) (tgt := 64) ⟨(ze_r N12_ (d_ + 12) 7).1, (ze_r N12_ (d_ + 12) 7).2⟩ ⟨(by decide), (by decide)⟩ (by decide) (zdal_p dlA_Sorts_numberSorts_46 (i := 7) rfl) (fun hc_58 => ?_) (fun hc_58 => ?_)
                · skip
                  refine zw_aload_n (pc := 64) (n := 0) (x := (d_ + 12)) rfl (zdal_p dlA_Sorts_numberSorts_46 (i := 9) rfl) ?_
                  refine zw_getF (pc := 65) f_Sorts_26 rfl ((hf_N12_.w hW).kr (o := 12) (by decide)) ((hf_N12_.w hW).lr (o := 12) (s := 4) (r := 19) (by decide)) (zdal_p dlA_Sorts_numberSorts_46 (i := 10) rfl) ?_
                  refine zw_aload_n (pc := 68) (n := 0) (x := (d_ + 12)) rfl (zdal_p dlA_Sorts_numberSorts_46 (i := 11) rfl) ?_
                  refine zk_getI (pc := 69) f_Sorts_83 rfl ((hf_N12_.w hW).kr (o := 12) (by decide)) (zdal_p dlA_Sorts_numberSorts_46 (i := 12) rfl) ?_
                  refine zw_aload_n (pc := 72) (n := 0) (x := (d_ + 12)) rfl (zdal_p dlA_Sorts_numberSorts_46 (i := 13) rfl) ?_
                  refine zw_getF (pc := 73) f_Sorts_14 rfl ((hf_N12_.w hW).kr (o := 12) (by decide)) ((hf_N12_.w hW).lr (o := 12) (s := 1) (r := 13) (by decide)) (zdal_p dlA_Sorts_numberSorts_46 (i := 14) rfl) ?_
                  refine zw_iload_n (pc := 76) (n := 1) (x := Int32.ofInt u11_) rfl (zdal_p dlA_Sorts_numberSorts_46 (i := 15) rfl) ?_
                  refine zk_at hf_N12_.x (pc := 77) l_Sorts_49 ((hf_N12_.w hW).kr (o := 13) (by decide)) ((hf_N12_.w hW).lr (o := 13) (s := 0) (r := 14) (by decide)) ((hf_N12_.w hW).rr (o := 14) (t := 1) (n := 35) (by decide)) (by decide) (by (exact i14_)) (by (exact zo_1404 hc_37 hm35_)) (by decide) (Nat.le_of_ble_eq_true rfl) (zdal_p dlA_Sorts_numberSorts_46 (i := 16) rfl) (fun v19_ hv19_ hv19_a hv19_b => ?_)
                  rw [hf_N12_.r (by decide)] at hv19_
                  have hv2_ := hv19_
                  refine zk_st hf_N12_.x (pc := 80) (o := 20) (by decide) l_Sorts_40 ((hf_N12_.w hW).kr (o := 19) (by decide)) ((hf_N12_.w hW).lr (o := 19) (s := 0) (r := 20) (by decide)) ((hf_N12_.w hW).rr (o := 20) (t := 1) (n := 27) (by decide)) (by decide) (by (exact hc0_)) (by (exact zo_1408 hr26_)) (by decide) (Nat.le_of_ble_eq_true rfl) (zdal_p dlA_Sorts_numberSorts_46 (i := 17) rfl) (fun N20_ hN20_ hsN20_ => ?_)
                  have hf_N20_ : zFc d_ [] [] [(12, 7)] [16, 20] Mz N20_ := hf_N12_.tr hsN20_ (by decide) (by decide) (by decide) (by decide)
                  have hb0_N20_ : zFc d_ [] [] [(12, 7)] [16, 20] N4_ N20_ := hs13_.tr hsN20_ (by decide) (by decide) (by decide) (by decide)
                  have eD1_7_N20_ : ze N20_ (d_ + 1) 7 = ze N12_ (d_ + 1) 7 := hsN20_.e (by decide)
                  have eD12_6_N20_ : ze N20_ (d_ + 12) 6 = ze N12_ (d_ + 12) 6 := hsN20_.e (by decide)
                  have eD12_7_N20_ : ze N20_ (d_ + 12) 7 = ze N12_ (d_ + 12) 7 := hsN20_.e (by decide)
                  have c21_ : zTt T_ d_ N20_ := zTt.fr (hf_N12_.w hW) hsN20_ c17_ (by decide)
                  have hw2_ := zRw_w hN20_ ⟨by (exact hv19_a), by (exact hv19_b)⟩
                  have hnf_ := zNu_w (fi' := zRw d_ 20 N20_) hnu_ (fun i hi => by rw [hw2_, zst_o (by (exact zo_732 hi))])
                  have hff_ : zRw d_ 20 N20_ (ze N20_ (d_ + 12) 7).toNat = zRw d_ 14 Mz (u11_).toNat := by rw [hw2_, show (ze N20_ (d_ + 12) 7).toNat = (ze N12_ (d_ + 12) 7).toNat by (exact zo_1409 eD12_7_N20_ hc0_ hr26_), zst_t]; exact hv2_
                  have he7_ : ze N20_ (d_ + 12) 7 = ze N12_ (d_ + 12) 7 := by (exact eD12_7_N20_)
                  rw [← he7_] at hnf_
                  have hq16_ : zRw d_ 16 N12_ = zRw d_ 16 N20_ := funext fun j => (hsN20_.r (by decide) j).symm
                  rw [hq16_] at hnf_
                  have hnr0_ := zNq_w (fi' := zRw d_ 20 N20_) hnq_ (fun i hi => by rw [hw2_, zst_o (by (exact zo_732 hi))])
                  rw [← he7_, hq16_] at hnr0_
                  refine zw_iconst (pc := 83) (v := Int32.ofInt 0) (by decide) (zdal_p dlA_Sorts_numberSorts_46 (i := 18) rfl) ?_
                  refine zw_istore_n (pc := 84) (i := 2) (L2 := [some (.ref (d_ + 12)), some (.int (Int32.ofInt u11_)), some (.int (Int32.ofInt 0))]) rfl (by decide) rfl (zdal_p dlA_Sorts_numberSorts_46 (i := 19) rfl) ?_
                  have lp_85 : ∀ (n : Nat) (u22_ : Int) (hu22_a : -2147483648 ≤ u22_) (hu22_b : u22_ < 2147483648) (N23_ : zMem) (hs24_ : zFc d_ [] [] [] [16] N20_ N23_) (i25_ : 0 ≤ u22_) (i26_ : zNu T_ (zRw d_ 14 Mz) (ze Mz (d_ + 12) 6) (zRw d_ 16 N23_) (zRw d_ 20 N23_) (ze N23_ (d_ + 12) 7) u11_ u22_) (i27_ : zRw d_ 20 N23_ (ze N23_ (d_ + 12) 7).toNat = zRw d_ 14 Mz (u11_).toNat) (i28_ : 0 ≤ ze N23_ (d_ + 12) 7) (i29_ : ze N23_ (d_ + 12) 7 ≤ 26) (i30_ : zNq T_ (zRw d_ 14 Mz) (ze Mz (d_ + 12) 6) (zRw d_ 16 N23_) (zRw d_ 20 N23_) (ze N23_ (d_ + 12) 7 + 1)), (gN T_ - u22_).toNat < n → zW l m_Sorts_numberSorts (zn Mz + 0, zw Mz + 0) N23_ 85 [some (.ref (d_ + 12)), some (.int (Int32.ofInt u11_)), some (.int (Int32.ofInt u22_))] [] (zqcV d_ [] [] [(12, 7)] [16, 20] Mz (fun N => zFir T_ d_ N ∧ (∀ i : Nat, (i : Int) < ze Mz (d_ + 12) 6 → zSrt T_ (ze Mz (d_ + 14) i).toNat (ze N (d_ + 16) i)))) := by
                    intro n
                    induction n with
                    | zero =>
                      intro u22_ hu22_a hu22_b N23_ hs24_ i25_ i26_ i27_ i28_ i29_ i30_ h0
                      exact absurd h0 (Nat.not_lt_zero _)
                    | succ n ih_85 =>
                      intro u22_ hu22_a hu22_b N23_ hs24_ i25_ i26_ i27_ i28_ i29_ i30_ hlt_85
                      have hf_N23_ : zFc d_ [] [] [(12, 7)] [16, 20] Mz N23_ := hf_N20_.tr hs24_ (by decide) (by decide) (by decide) (by decide)
                      have hb0_N23_ : zFc d_ [] [] [(12, 7)] [16, 20] N4_ N23_ := hb0_N20_.tr hs24_ (by decide) (by decide) (by decide) (by decide)
                      have eD1_7_N23_ : ze N23_ (d_ + 1) 7 = ze N20_ (d_ + 1) 7 := hs24_.e (by decide)
                      have eD12_6_N23_ : ze N23_ (d_ + 12) 6 = ze N20_ (d_ + 12) 6 := hs24_.e (by decide)
                      have eD12_7_N23_ : ze N23_ (d_ + 12) 7 = ze N20_ (d_ + 12) 7 := hs24_.e (by decide)
                      have c31_ : zTt T_ d_ N23_ := zTt.fr (hf_N20_.w hW) hs24_ c21_ (by decide)
                      have hnw_ := (show zNu T_ (zRw d_ 14 Mz) (ze Mz (d_ + 12) 6) (zRw d_ 16 N23_) (zRw d_ 20 N23_) (ze N23_ (d_ + 12) 7) u11_ u22_ by first | with_reducible assumption | assumption)
                      have hft_ := (show zRw d_ 20 N23_ (ze N23_ (d_ + 12) 7).toNat = zRw d_ 14 Mz (u11_).toNat by first | with_reducible assumption | assumption)
                      have hnr_ := (show zNq T_ (zRw d_ 14 Mz) (ze Mz (d_ + 12) 6) (zRw d_ 16 N23_) (zRw d_ 20 N23_) (ze N23_ (d_ + 12) 7 + 1) by first | with_reducible assumption | assumption)
                      refine zw_iload_n (pc := 85) (n := 2) (x := Int32.ofInt u22_) rfl (zdal_p dlA_Sorts_numberSorts_46 (i := 20) rfl) ?_
                      refine zw_aload_n (pc := 86) (n := 0) (x := (d_ + 12)) rfl (zdal_p dlA_Sorts_numberSorts_46 (i := 21) rfl) ?_
                      refine zw_getF (pc := 87) f_Sorts_32 rfl ((hf_N23_.w hW).kr (o := 12) (by decide)) ((hf_N23_.w hW).lr (o := 12) (s := 0) (r := 1) (by decide)) (zdal_p dlA_Sorts_numberSorts_46 (i := 22) rfl) ?_
                      refine zk_getI (pc := 90) f_Sorts_44 rfl ((hf_N23_.w hW).kr (o := 1) (by decide)) (zdal_p dlA_Sorts_numberSorts_46 (i := 23) rfl) ?_
                      rw [hf_N23_.e (by decide)]
                      refine zr_icmp_ge (pc := 93) (tgt := 133) ⟨hu22_a, hu22_b⟩ ⟨(ze_r Mz (d_ + 1) 7).1, (ze_r Mz (d_ + 1) 7).2⟩ (by decide) (zdal_p dlA_Sorts_numberSorts_47 (i := 0) rfl) (fun hc_93 => ?_) (fun hc_93 => ?_)
                      · skip
                        refine zw_aload_n (pc := 133) (n := 0) (x := (d_ + 12)) rfl (zdal_p dlA_Sorts_numberSorts_47 (i := 18) rfl) ?_
                        refine zw_dup (pc := 134) rfl (zdal_p dlA_Sorts_numberSorts_47 (i := 19) rfl) ?_
                        refine zk_getI (pc := 135) f_Sorts_83 rfl ((hf_N23_.w hW).kr (o := 12) (by decide)) (zdal_p dlA_Sorts_numberSorts_47 (i := 20) rfl) ?_
                        refine zw_iconst (pc := 138) (v := Int32.ofInt 1) (by decide) (zdal_p dlA_Sorts_numberSorts_47 (i := 21) rfl) ?_
                        refine zr_iadd (pc := 139) (zdal_p dlA_Sorts_numberSorts_47 (i := 22) rfl) ?_
                        refine zk_putR (pc := 140) (o := 12) (by decide) f_Sorts_83 rfl rfl ((hf_N23_.w hW).kr (o := 12) (by decide)) ⟨by (exact zo_74 i28_), by (exact zo_1410 i29_)⟩ rfl rfl (zdal_p dlA_Sorts_numberSorts_47 (i := 23) rfl) (fun N32_ hsN32_ hvN32_ => ?_)
                        have hf_N32_ : zFc d_ [] [] [(12, 7)] [16, 20] Mz N32_ := hf_N23_.tr hsN32_ (by decide) (by decide) (by decide) (by decide)
                        have hb0_N32_ : zFc d_ [] [] [(12, 7)] [16, 20] N4_ N32_ := hb0_N23_.tr hsN32_ (by decide) (by decide) (by decide) (by decide)
                        have eD1_7_N32_ : ze N32_ (d_ + 1) 7 = ze N23_ (d_ + 1) 7 := hsN32_.e (by decide)
                        have eD12_6_N32_ : ze N32_ (d_ + 12) 6 = ze N23_ (d_ + 12) 6 := hsN32_.e (by decide)
                        have rD12_7_N32_ := ze_r N32_ (d_ + 12) 7
                        have hnz_ := zNu_f p1_ hnw_ (by (exact zo_1405 hc_37 i14_)) (by (exact zo_1411 hc_93 hn24_ hsz_ i25_)) hgF_ hft_
                        have hq1_ : zRw d_ 16 N23_ = zRw d_ 16 N32_ := funext fun j => (hsN32_.r (by decide) j).symm
                        have hq2_ : zRw d_ 20 N23_ = zRw d_ 20 N32_ := funext fun j => (hsN32_.r (by decide) j).symm
                        rw [hq1_, hq2_, show ze N23_ (d_ + 12) 7 + 1 = ze N32_ (d_ + 12) 7 by (exact zo_1412 hvN32_)] at hnz_
                        have hnqz_ := hnr_
                        rw [hq1_, hq2_, show ze N23_ (d_ + 12) 7 + 1 = ze N32_ (d_ + 12) 7 by (exact zo_1412 hvN32_)] at hnqz_
                        refine zr_iinc (pc := 143) (i := 1) (a := u11_) (n := 1) (L2 := [some (.ref (d_ + 12)), some (.int (Int32.ofInt (u11_ + 1))), some (.int (Int32.ofInt u22_))]) rfl (by decide) rfl (zdal_p dlA_Sorts_numberSorts_48 (i := 0) rfl) ?_
                        refine zw_goto (pc := 146) (tgt := 32) (by decide) (zdal_p dlA_Sorts_numberSorts_48 (i := 1) rfl) ?_
                        refine zW_le [some (.ref (d_ + 12)), some (.int (Int32.ofInt (u11_ + 1))), none] (⟨rfl, rfl, trivial⟩) ?_
                        exact ih_32 (u11_ + 1) (by (exact zo_74 i14_)) (by (exact zo_1406 hc_37 hm35_)) N32_ hb0_N32_ (show 0 ≤ (u11_ + 1) by first | with_reducible assumption | (exact zo_76 i14_) | assumption) (show zNu T_ (zRw d_ 14 Mz) (ze Mz (d_ + 12) 6) (zRw d_ 16 N32_) (zRw d_ 20 N32_) (ze N32_ (d_ + 12) 7) (u11_ + 1) 0 by first | exact hnz_ | exact zNu_n p1_ hnu_ (by omega) (fun q_ => absurd (hnt_.mpr q_) (by omega))) (show zNq T_ (zRw d_ 14 Mz) (ze Mz (d_ + 12) 6) (zRw d_ 16 N32_) (zRw d_ 20 N32_) (ze N32_ (d_ + 12) 7) by first | exact hnqz_ | exact hnq_) (by (exact zo_147 hc_37 hlt_32))
                      · skip
                        refine zw_aload_n (pc := 96) (n := 0) (x := (d_ + 12)) rfl (zdal_p dlA_Sorts_numberSorts_47 (i := 1) rfl) ?_
                        refine zw_getF (pc := 97) f_Sorts_20 rfl ((hf_N23_.w hW).kr (o := 12) (by decide)) ((hf_N23_.w hW).lr (o := 12) (s := 2) (r := 15) (by decide)) (zdal_p dlA_Sorts_numberSorts_47 (i := 2) rfl) ?_
                        refine zw_aload_n (pc := 100) (n := 0) (x := (d_ + 12)) rfl (zdal_p dlA_Sorts_numberSorts_47 (i := 3) rfl) ?_
                        refine zw_aload_n (pc := 101) (n := 0) (x := (d_ + 12)) rfl (zdal_p dlA_Sorts_numberSorts_47 (i := 4) rfl) ?_
                        refine zw_getF (pc := 102) f_Sorts_32 rfl ((hf_N23_.w hW).kr (o := 12) (by decide)) ((hf_N23_.w hW).lr (o := 12) (s := 0) (r := 1) (by decide)) (zdal_p dlA_Sorts_numberSorts_47 (i := 5) rfl) ?_
                        refine zw_aload_n (pc := 105) (n := 0) (x := (d_ + 12)) rfl (zdal_p dlA_Sorts_numberSorts_47 (i := 6) rfl) ?_
                        refine zw_getF (pc := 106) f_Sorts_14 rfl ((hf_N23_.w hW).kr (o := 12) (by decide)) ((hf_N23_.w hW).lr (o := 12) (s := 1) (r := 13) (by decide)) (zdal_p dlA_Sorts_numberSorts_47 (i := 7) rfl) ?_
                        refine zw_iload_n (pc := 109) (n := 1) (x := Int32.ofInt u11_) rfl (zdal_p dlA_Sorts_numberSorts_47 (i := 8) rfl) ?_
                        refine zk_at hf_N23_.x (pc := 110) l_Sorts_49 ((hf_N23_.w hW).kr (o := 13) (by decide)) ((hf_N23_.w hW).lr (o := 13) (s := 0) (r := 14) (by decide)) ((hf_N23_.w hW).rr (o := 14) (t := 1) (n := 35) (by decide)) (by decide) (by (exact i14_)) (by (exact zo_1404 hc_37 hm35_)) (by decide) (Nat.le_of_ble_eq_true rfl) (zdal_p dlA_Sorts_numberSorts_47 (i := 9) rfl) (fun v34_ hv34_ hv34_a hv34_b => ?_)
                        rw [hf_N23_.r (by decide)] at hv34_
                        have hv3_ := hv34_
                        have hv4_ : v34_ = zRw d_ 14 Mz (u11_).toNat := hv3_
                        refine zw_iload_n (pc := 113) (n := 2) (x := Int32.ofInt u22_) rfl (zdal_p dlA_Sorts_numberSorts_47 (i := 10) rfl) ?_
                        refine zk_callV hf_N23_.x (pc := 114) [.int (Int32.ofInt v34_), .int (Int32.ofInt u22_)] [.ref (d_ + 12), .ref (d_ + 15)] l_Sorts_86 (u_Group_turnAll l d_ N23_ (hf_N23_.w hW) v34_ hv34_a hv34_b u22_ hu22_a hu22_b T_ hT_ c31_ (show 0 ≤ v34_ by rw [hv4_]; exact hfk_.1) (show (v34_).toNat < 2 ^ gN T_ by rw [hv4_]; exact hfb_.1) (show 0 ≤ u22_ by first | with_reducible assumption | assumption | omega) (show u22_ < gN T_ by first | with_reducible assumption | (exact zo_1413 hc_93 hsz_ hu22_b) | assumption)) rfl rfl ((hf_N23_.w hW).kr (o := 1) (by decide)) (by decide) (by decide) (Nat.le_of_ble_eq_true rfl) (zdal_p dlA_Sorts_numberSorts_47 (i := 11) rfl) ?_
                        rintro _ N35_ ⟨v36_, rfl, ⟨hv36_a, hv36_b⟩, hsN35_, ⟨hp0_N35_, hp1_N35_, hp2_N35_⟩⟩
                        obtain rfl := hsN35_.eq.symm
                        show zW l m_Sorts_numberSorts (zn Mz + 0, zw Mz + 0) N23_ 117 [some (.ref (d_ + 12)), some (.int (Int32.ofInt u11_)), some (.int (Int32.ofInt u22_))] [.int (Int32.ofInt v36_), .ref (d_ + 12), .ref (d_ + 15)] _
                        have ht1_ := hp0_N35_
                        rw [hv4_] at ht1_
                        have ho4_ := hol_.2.2.2.1 _ hgF_ (u22_).toNat (by (exact zo_1414 hc_93 hsz_ hu22_b i25_))
                        refine zk_callV hf_N23_.x (pc := 117) [.int (Int32.ofInt v36_)] [.ref (d_ + 15)] l_Sorts_72 (u_Sorts_indexOf l d_ N23_ (hf_N23_.w hW) v36_ hv36_a hv36_b (show 0 ≤ ze N23_ (d_ + 12) 6 by first | with_reducible assumption | (exact zo_1415 eD12_6_N12_ eD12_6_N1_ eD12_6_N20_ eD12_6_N23_ eD12_6_N4_ hm1_) | assumption) (show ze N23_ (d_ + 12) 6 ≤ 35 by first | with_reducible assumption | (exact zo_1416 eD12_6_N12_ eD12_6_N1_ eD12_6_N20_ eD12_6_N23_ eD12_6_N4_ hm35_) | assumption)) rfl rfl ((hf_N23_.w hW).kr (o := 12) (by decide)) (by decide) (by decide) (Nat.le_of_ble_eq_true rfl) (zdal_p dlA_Sorts_numberSorts_47 (i := 12) rfl) ?_
                        rintro _ N37_ ⟨v38_, rfl, ⟨hv38_a, hv38_b⟩, hsN37_, hp0_N37_⟩
                        obtain rfl := hsN37_.eq.symm
                        replace hp0_N37_ : ((v38_ = -1 ∧ (∀ i : Nat, (i : Int) < ze N23_ (d_ + 12) 6 → ze N23_ (d_ + 14) i ≠ v36_)) ∨ (0 ≤ v38_ ∧ v38_ < ze N23_ (d_ + 12) 6 ∧ ze N23_ (d_ + 14) (v38_).toNat = v36_)) := hp0_N37_
                        rcases hp0_N37_ with ⟨rfl, ha117_0_hp0_N37_⟩ | ⟨ha117_0_hp0_N37_, ha117_1_hp0_N37_, ha117_2_hp0_N37_⟩
                        · skip
                          have hr14_ := fun j : Nat => hf_N23_.r (o := 14) (by decide) j
                          exact absurd ho4_.1 (fun q_ => by obtain ⟨j_, hj1_, hj2_⟩ := hms_ _ q_; have hj3_ := (hmm_ j_ hj1_).1; exact ha117_0_hp0_N37_ j_ (by (exact zo_1417 eD12_6_N12_ eD12_6_N1_ eD12_6_N20_ eD12_6_N23_ eD12_6_N4_ hj1_)) (by rw [hr14_, ht1_, ← hj2_]; show ze Mz (d_ + 14) j_ = (((ze Mz (d_ + 14) j_).toNat : Nat) : Int); have hj4_ : 0 ≤ ze Mz (d_ + 14) j_ := hj3_; (exact zo_989 hj4_)))
                        · skip
                          have hr14_ := fun j : Nat => hf_N23_.r (o := 14) (by decide) j
                          have hx0_ := ha117_0_hp0_N37_
                          have hx1_ : v38_ < ze Mz (d_ + 12) 6 := by (exact zo_1418 eD12_6_N12_ eD12_6_N1_ eD12_6_N20_ eD12_6_N23_ eD12_6_N4_ ha117_1_hp0_N37_ hm1_ hv38_b)
                          have hx2_ := ha117_2_hp0_N37_
                          rw [hr14_] at hx2_
                          show zW l m_Sorts_numberSorts (zn Mz + 0, zw Mz + 0) N23_ 120 [some (.ref (d_ + 12)), some (.int (Int32.ofInt u11_)), some (.int (Int32.ofInt u22_))] [.int (Int32.ofInt v38_), .ref (d_ + 15)] _
                          refine zw_aload_n (pc := 120) (n := 0) (x := (d_ + 12)) rfl (zdal_p dlA_Sorts_numberSorts_47 (i := 13) rfl) ?_
                          refine zk_getI (pc := 121) f_Sorts_83 rfl ((hf_N23_.w hW).kr (o := 12) (by decide)) (zdal_p dlA_Sorts_numberSorts_47 (i := 14) rfl) ?_
                          refine zk_st hf_N23_.x (pc := 124) (o := 16) (by decide) l_Sorts_40 ((hf_N23_.w hW).kr (o := 15) (by decide)) ((hf_N23_.w hW).lr (o := 15) (s := 0) (r := 16) (by decide)) ((hf_N23_.w hW).rr (o := 16) (t := 1) (n := 35) (by decide)) (by decide) (by (exact ha117_0_hp0_N37_)) (by (exact zo_1419 hm35_ hv38_b hx1_)) (by decide) (Nat.le_of_ble_eq_true rfl) (zdal_p dlA_Sorts_numberSorts_47 (i := 15) rfl) (fun N39_ hN39_ hsN39_ => ?_)
                          have hf_N39_ : zFc d_ [] [] [(12, 7)] [16, 20] Mz N39_ := hf_N23_.tr hsN39_ (by decide) (by decide) (by decide) (by decide)
                          have hb0_N39_ : zFc d_ [] [] [(12, 7)] [16, 20] N4_ N39_ := hb0_N23_.tr hsN39_ (by decide) (by decide) (by decide) (by decide)
                          have hb1_N39_ : zFc d_ [] [] [] [16] N20_ N39_ := hs24_.tr hsN39_ (by decide) (by decide) (by decide) (by decide)
                          have eD1_7_N39_ : ze N39_ (d_ + 1) 7 = ze N23_ (d_ + 1) 7 := hsN39_.e (by decide)
                          have eD12_6_N39_ : ze N39_ (d_ + 12) 6 = ze N23_ (d_ + 12) 6 := hsN39_.e (by decide)
                          have eD12_7_N39_ : ze N39_ (d_ + 12) 7 = ze N23_ (d_ + 12) 7 := hsN39_.e (by decide)
                          have hw3_ := zRw_w hN39_ ⟨by (exact zo_168 i28_), by (exact zo_1420 i29_)⟩
                          have hnrn_ := zNq_g (k := u11_) (g := u22_) hnr_ (by (exact i28_)) hft_ (show (ze Mz (d_ + 14) _).toNat = _ by rw [hx2_, ht1_, Int.toNat_natCast]) (by (exact zo_1421 hc_93 hsz_ hu22_b i25_)) hw3_
                          have hng_ := zNu_g hn24_ p1_ hnw_ (by (exact zo_1405 hc_37 i14_)) (by (exact zo_1421 hc_93 hsz_ hu22_b i25_)) hgF_ (by (exact i28_)) hx0_ hx1_ (show (ze Mz (d_ + 14) _).toNat = _ by rw [hx2_, ht1_, Int.toNat_natCast]) hw3_
                          have he8_ : ze N39_ (d_ + 12) 7 = ze N23_ (d_ + 12) 7 := by (exact eD12_7_N39_)
                          have hq20_ : zRw d_ 20 N23_ = zRw d_ 20 N39_ := funext fun j => (hsN39_.r (by decide) j).symm
                          rw [← he8_, hq20_] at hng_
                          rw [← he8_, hq20_] at hft_
                          rw [← he8_, hq20_] at hnrn_
                          refine zr_iinc (pc := 127) (i := 2) (a := u22_) (n := 1) (L2 := [some (.ref (d_ + 12)), some (.int (Int32.ofInt u11_)), some (.int (Int32.ofInt (u22_ + 1)))]) rfl (by decide) rfl (zdal_p dlA_Sorts_numberSorts_47 (i := 16) rfl) ?_
                          refine zw_goto (pc := 130) (tgt := 85) (by decide) (zdal_p dlA_Sorts_numberSorts_47 (i := 17) rfl) ?_
                          exact ih_85 (u22_ + 1) (by (exact zo_74 i25_)) (by (exact zo_1422 hc_93 hn24_ hsz_ hu22_b)) N39_ hb1_N39_ (show 0 ≤ (u22_ + 1) by first | with_reducible assumption | (exact zo_76 i25_) | assumption) (show zNu T_ (zRw d_ 14 Mz) (ze Mz (d_ + 12) 6) (zRw d_ 16 N39_) (zRw d_ 20 N39_) (ze N39_ (d_ + 12) 7) u11_ (u22_ + 1) by exact hng_) (show zRw d_ 20 N39_ (ze N39_ (d_ + 12) 7).toNat = zRw d_ 14 Mz (u11_).toNat by exact hft_) (show 0 ≤ ze N39_ (d_ + 12) 7 by first | with_reducible assumption | (exact zo_720 eD12_7_N39_ i28_) | assumption) (show ze N39_ (d_ + 12) 7 ≤ 26 by first | with_reducible assumption | (exact zo_1423 eD12_7_N39_ i29_) | assumption) (show zNq T_ (zRw d_ 14 Mz) (ze Mz (d_ + 12) 6) (zRw d_ 16 N39_) (zRw d_ 20 N39_) (ze N39_ (d_ + 12) 7 + 1) by exact hnrn_) (by (exact zo_1424 hc_93 hlt_85 hsz_ hu22_b))
                  exact lp_85 _ 0 (by decide) (by decide) N20_ zFc.rf (show 0 ≤ (0 : Int) by first | with_reducible assumption | (decide) | assumption) (show zNu T_ (zRw d_ 14 Mz) (ze Mz (d_ + 12) 6) (zRw d_ 16 N20_) (zRw d_ 20 N20_) (ze N20_ (d_ + 12) 7) u11_ (0 : Int) by exact hnf_) (show zRw d_ 20 N20_ (ze N20_ (d_ + 12) 7).toNat = zRw d_ 14 Mz (u11_).toNat by exact hff_) (show 0 ≤ ze N20_ (d_ + 12) 7 by first | with_reducible assumption | (exact zo_720 eD12_7_N20_ hc0_) | assumption) (show ze N20_ (d_ + 12) 7 ≤ 26 by first | with_reducible assumption | (exact zo_1423 eD12_7_N20_ hr26_) | assumption) (show zNq T_ (zRw d_ 14 Mz) (ze Mz (d_ + 12) 6) (zRw d_ 16 N20_) (zRw d_ 20 N20_) (ze N20_ (d_ + 12) 7 + 1) by exact hnr0_) (Nat.lt_succ_self _)
                · skip
                  exfalso; have hr26_ := zNu_r p1_ hol_ hnu_ (by (exact zo_1405 hc_37 i14_)) hgF_; (exact zo_1425 hc_58 hr26_)
        exact lp_32 _ 0 (by decide) (by decide) N4_ zFc.rf (show 0 ≤ (0 : Int) by first | with_reducible assumption | (decide) | assumption) (show zNu T_ (zRw d_ 14 Mz) (ze Mz (d_ + 12) 6) (zRw d_ 16 N4_) (zRw d_ 20 N4_) (ze N4_ (d_ + 12) 7) (0 : Int) 0 by exact hnu0_) (show zNq T_ (zRw d_ 14 Mz) (ze Mz (d_ + 12) 6) (zRw d_ 16 N4_) (zRw d_ 20 N4_) (ze N4_ (d_ + 12) 7) by exact hnq0_) (Nat.lt_succ_self _)
      · skip
        refine zw_aload_n (pc := 15) (n := 0) (x := (d_ + 12)) rfl (zdal_p dlA_Sorts_numberSorts_45 (i := 9) rfl) ?_
        refine zw_getF (pc := 16) f_Sorts_20 rfl ((hf_N4_.w hW).kr (o := 12) (by decide)) ((hf_N4_.w hW).lr (o := 12) (s := 2) (r := 15) (by decide)) (zdal_p dlA_Sorts_numberSorts_45 (i := 10) rfl) ?_
        refine zw_iload_n (pc := 19) (n := 1) (x := Int32.ofInt u3_) rfl (zdal_p dlA_Sorts_numberSorts_45 (i := 11) rfl) ?_
        refine zw_iconst (pc := 20) (v := Int32.ofInt (-1)) (by decide) (zdal_p dlA_Sorts_numberSorts_45 (i := 12) rfl) ?_
        refine zk_st hf_N4_.x (pc := 21) (o := 16) (by decide) l_Sorts_40 ((hf_N4_.w hW).kr (o := 15) (by decide)) ((hf_N4_.w hW).lr (o := 15) (s := 0) (r := 16) (by decide)) ((hf_N4_.w hW).rr (o := 16) (t := 1) (n := 35) (by decide)) (by decide) (by (exact i6_)) (by (exact zo_1404 hc_12 hm35_)) (by decide) (Nat.le_of_ble_eq_true rfl) (zdal_p dlA_Sorts_numberSorts_45 (i := 13) rfl) (fun N41_ hN41_ hsN41_ => ?_)
        have hf_N41_ : zFc d_ [] [] [(12, 7)] [16, 20] Mz N41_ := hf_N4_.tr hsN41_ (by decide) (by decide) (by decide) (by decide)
        have hb0_N41_ : zFc d_ [] [] [] [16] N1_ N41_ := hs5_.tr hsN41_ (by decide) (by decide) (by decide) (by decide)
        have eD1_7_N41_ : ze N41_ (d_ + 1) 7 = ze N4_ (d_ + 1) 7 := hsN41_.e (by decide)
        have eD12_6_N41_ : ze N41_ (d_ + 12) 6 = ze N4_ (d_ + 12) 6 := hsN41_.e (by decide)
        have eD12_7_N41_ : ze N41_ (d_ + 12) 7 = ze N4_ (d_ + 12) 7 := hsN41_.e (by decide)
        have hw1_ := zRw_w hN41_ ⟨by (decide), by (decide)⟩
        have hqj_ : ∀ i : Nat, (i : Int) < u3_ + 1 → zRw d_ 16 N41_ i = -1 := fun i hi => by rw [hw1_]; by_cases g_ : i = (u3_).toNat; rw [g_, zst_t]; rw [zst_o g_]; exact hqi_ i (by (exact zo_565 hi i6_ g_))
        refine zr_iinc (pc := 24) (i := 1) (a := u3_) (n := 1) (L2 := [some (.ref (d_ + 12)), some (.int (Int32.ofInt (u3_ + 1))), none]) rfl (by decide) rfl (zdal_p dlA_Sorts_numberSorts_45 (i := 14) rfl) ?_
        refine zw_goto (pc := 27) (tgt := 7) (by decide) (zdal_p dlA_Sorts_numberSorts_45 (i := 15) rfl) ?_
        exact ih_7 (u3_ + 1) (by (exact zo_74 i6_)) (by (exact zo_1406 hc_12 hm35_)) N41_ hb0_N41_ (show 0 ≤ (u3_ + 1) by first | with_reducible assumption | (exact zo_76 i6_) | assumption) (show (u3_ + 1) ≤ ze Mz (d_ + 12) 6 by first | with_reducible assumption | assumption | omega) (show ze N41_ (d_ + 12) 7 = 0 by first | with_reducible assumption | (exact zo_610 eD12_7_N41_ i8_) | assumption) (show ∀ i : Nat, (i : Int) < (u3_ + 1) → zRw d_ 16 N41_ i = -1 by exact hqj_) (by (exact zo_147 hc_12 hlt_7))
  exact lp_7 _ 0 (by decide) (by decide) N1_ zFc.rf (show 0 ≤ (0 : Int) by first | with_reducible assumption | (decide) | assumption) (show (0 : Int) ≤ ze Mz (d_ + 12) 6 by first | with_reducible assumption | (exact zo_564 hm1_) | assumption) (show ze N1_ (d_ + 12) 7 = 0 by first | with_reducible assumption | assumption | omega) (show ∀ i : Nat, (i : Int) < (0 : Int) → zRw d_ 16 N1_ i = -1 by intro i hi; omega) (Nat.lt_succ_self _)
set_option maxHeartbeats 4000000 in
theorem u_Sorts_settleG (l : Launch) (d_ : Nat) (Mz : zMem) (hW : zKW d_ Mz) (T_ : zGT) (hT_ : T_ ∈ gTabs) (l_ : List Nat) (Kp_ : Nat) (hol_ : gOL T_ l_ Kp_ gKL) (hAs_ : gAs T_) (hGr_ : gGr T_) (p0_ : zTt T_ d_ Mz) : zC l m_Sorts_settle 0 0 [.ref (d_ + 12)] Mz (zqcV d_ [] [] [(12, 6), (12, 7)] [11, 14, 16, 20, 22] Mz (fun N => zKm (gF T_).length (gmkI T_) d_ N ∧ zTt T_ d_ N ∧ zFir T_ d_ N ∧ zSbK T_ d_ N)) := by
  refine zC_of (L0 := [some (.ref (d_ + 12)), none, none]) md_Sorts_settle (Nat.le_of_ble_eq_true rfl) rfl ?_ zQ0
  have hf : zFc d_ [] [] [(12, 6), (12, 7)] [11, 14, 16, 20, 22] Mz Mz := zFc.rf
  have r_D1_7 := ze_r Mz (d_ + 1) 7
  have r_D12_6 := ze_r Mz (d_ + 12) 6
  have r_D12_7 := ze_r Mz (d_ + 12) 7
  have hO_ := gTabs_ok T_ hT_
  have hG_ := hO_.1
  have hn24_ := hG_.2.1
  have hn1_ := hG_.1
  have hsz_ := p0_.1
  refine zw_aload_n (pc := 0) (n := 0) (x := (d_ + 12)) rfl (zdal_p dlA_Sorts_settle_32 (i := 0) rfl) ?_
  refine zw_iconst (pc := 1) (v := Int32.ofInt 1) (by decide) (zdal_p dlA_Sorts_settle_32 (i := 1) rfl) ?_
  refine zk_putR (pc := 2) (o := 12) (by decide) f_Sorts_36 rfl rfl ((hf.w hW).kr (o := 12) (by decide)) ⟨by (decide), by (decide)⟩ rfl rfl (zdal_p dlA_Sorts_settle_32 (i := 2) rfl) (fun N1_ hsN1_ hvN1_ => ?_)
  have hf_N1_ : zFc d_ [] [] [(12, 6), (12, 7)] [11, 14, 16, 20, 22] Mz N1_ := hf.tr hsN1_ (by decide) (by decide) (by decide) (by decide)
  have eD1_7_N1_ : ze N1_ (d_ + 1) 7 = ze Mz (d_ + 1) 7 := hsN1_.e (by decide)
  have rD12_6_N1_ := ze_r N1_ (d_ + 12) 6
  have eD12_7_N1_ : ze N1_ (d_ + 12) 7 = ze Mz (d_ + 12) 7 := hsN1_.e (by decide)
  have c2_ : zTt T_ d_ N1_ := zTt.fr (hf.w hW) hsN1_ p0_ (by decide)
  refine zw_aload_n (pc := 5) (n := 0) (x := (d_ + 12)) rfl (zdal_p dlA_Sorts_settle_32 (i := 3) rfl) ?_
  refine zw_getF (pc := 6) f_Sorts_14 rfl ((hf_N1_.w hW).kr (o := 12) (by decide)) ((hf_N1_.w hW).lr (o := 12) (s := 1) (r := 13) (by decide)) (zdal_p dlA_Sorts_settle_32 (i := 4) rfl) ?_
  refine zw_iconst (pc := 9) (v := Int32.ofInt 0) (by decide) (zdal_p dlA_Sorts_settle_32 (i := 5) rfl) ?_
  refine zw_iconst (pc := 10) (v := Int32.ofInt 1) (by decide) (zdal_p dlA_Sorts_settle_32 (i := 6) rfl) ?_
  refine zk_st hf_N1_.x (pc := 11) (o := 14) (by decide) l_Sorts_40 ((hf_N1_.w hW).kr (o := 13) (by decide)) ((hf_N1_.w hW).lr (o := 13) (s := 0) (r := 14) (by decide)) ((hf_N1_.w hW).rr (o := 14) (t := 1) (n := 35) (by decide)) (by decide) (by (decide)) (by (decide)) (by decide) (Nat.le_of_ble_eq_true rfl) (zdal_p dlA_Sorts_settle_32 (i := 7) rfl) (fun N3_ hN3_ hsN3_ => ?_)
  have hf_N3_ : zFc d_ [] [] [(12, 6), (12, 7)] [11, 14, 16, 20, 22] Mz N3_ := hf_N1_.tr hsN3_ (by decide) (by decide) (by decide) (by decide)
  have eD1_7_N3_ : ze N3_ (d_ + 1) 7 = ze N1_ (d_ + 1) 7 := hsN3_.e (by decide)
  have eD12_6_N3_ : ze N3_ (d_ + 12) 6 = ze N1_ (d_ + 12) 6 := hsN3_.e (by decide)
  have eD12_7_N3_ : ze N3_ (d_ + 12) 7 = ze N1_ (d_ + 12) 7 := hsN3_.e (by decide)
  have c4_ : zTt T_ d_ N3_ := zTt.fr (hf_N1_.w hW) hsN3_ c2_ (by decide)
  have hw_ := zs_get hN3_ ⟨by (decide), by (decide)⟩
  obtain ⟨hj0_, hx0_⟩ := zJk_0 (f := zRw d_ 14 N3_) hO_ hw_
  refine zw_iconst (pc := 14) (v := Int32.ofInt 0) (by decide) (zdal_p dlA_Sorts_settle_32 (i := 8) rfl) ?_
  refine zw_istore_n (pc := 15) (i := 1) (L2 := [some (.ref (d_ + 12)), some (.int (Int32.ofInt 0)), none]) rfl (by decide) rfl (zdal_p dlA_Sorts_settle_32 (i := 9) rfl) ?_
  have lp_16 : ∀ (n : Nat) (u5_ : Int) (hu5_a : -2147483648 ≤ u5_) (hu5_b : u5_ < 2147483648) (N6_ : zMem) (hs7_ : zFc d_ [] [] [(12, 6)] [11, 14] N3_ N6_) (i8_ : 0 ≤ u5_) (i9_ : zJk T_ (zRw d_ 14 N6_) (ze N6_ (d_ + 12) 6)) (i10_ : zXk T_ (zRw d_ 14 N6_) (ze N6_ (d_ + 12) 6) u5_ 0) (i11_ : zTt T_ d_ N6_), (36 - u5_).toNat < n → zW l m_Sorts_settle (zn Mz + 0, zw Mz + 0) N6_ 16 [some (.ref (d_ + 12)), some (.int (Int32.ofInt u5_)), none] [] (zqcV d_ [] [] [(12, 6), (12, 7)] [11, 14, 16, 20, 22] Mz (fun N => zKm (gF T_).length (gmkI T_) d_ N ∧ zTt T_ d_ N ∧ zFir T_ d_ N ∧ zSbK T_ d_ N)) := by
    intro n
    induction n with
    | zero =>
      intro u5_ hu5_a hu5_b N6_ hs7_ i8_ i9_ i10_ i11_ h0
      exact absurd h0 (Nat.not_lt_zero _)
    | succ n ih_16 =>
      intro u5_ hu5_a hu5_b N6_ hs7_ i8_ i9_ i10_ i11_ hlt_16
      have hf_N6_ : zFc d_ [] [] [(12, 6), (12, 7)] [11, 14, 16, 20, 22] Mz N6_ := hf_N3_.tr hs7_ (by decide) (by decide) (by decide) (by decide)
      have eD1_7_N6_ : ze N6_ (d_ + 1) 7 = ze N3_ (d_ + 1) 7 := hs7_.e (by decide)
      have rD12_6_N6_ := ze_r N6_ (d_ + 12) 6
      have eD12_7_N6_ : ze N6_ (d_ + 12) 7 = ze N3_ (d_ + 12) 7 := hs7_.e (by decide)
      have hj_ := (show zJk T_ (zRw d_ 14 N6_) (ze N6_ (d_ + 12) 6) by first | with_reducible assumption | assumption)
      have hx_ := (show zXk T_ (zRw d_ 14 N6_) (ze N6_ (d_ + 12) 6) u5_ 0 by first | with_reducible assumption | assumption)
      have hjm_ := hj_.1
      refine zw_iload_n (pc := 16) (n := 1) (x := Int32.ofInt u5_) rfl (zdal_p dlA_Sorts_settle_32 (i := 10) rfl) ?_
      refine zw_aload_n (pc := 17) (n := 0) (x := (d_ + 12)) rfl (zdal_p dlA_Sorts_settle_32 (i := 11) rfl) ?_
      refine zk_getI (pc := 18) f_Sorts_36 rfl ((hf_N6_.w hW).kr (o := 12) (by decide)) (zdal_p dlA_Sorts_settle_32 (i := 12) rfl) ?_
      refine zr_icmp_ge (pc := 21) (tgt := 93) ⟨hu5_a, hu5_b⟩ ⟨(ze_r N6_ (d_ + 12) 6).1, (ze_r N6_ (d_ + 12) 6).2⟩ (by decide) (zdal_p dlA_Sorts_settle_32 (i := 13) rfl) (fun hc_21 => ?_) (fun hc_21 => ?_)
      · skip
        have hce_ := zJk_e hO_ hj_ hx_ (by (exact hc_21))
        refine zw_aload_n (pc := 93) (n := 0) (x := (d_ + 12)) rfl (zdal_p dlA_Sorts_settle_34 (i := 0) rfl) ?_
        refine zk_callV hf_N6_.x (pc := 94) [] [] l_Sorts_63 (u_Sorts_arrange l d_ N6_ (hf_N6_.w hW) (show 1 ≤ ze N6_ (d_ + 12) 6 by first | with_reducible assumption | (exact zo_694 hjm_.1) | assumption) (show ze N6_ (d_ + 12) 6 ≤ 35 by first | with_reducible assumption | (exact zo_1426 hjm_.2) | assumption) (show zSoK zkyK (zRw d_ 14 N6_) (zRw d_ 14 N6_) (ze N6_ (d_ + 12) 6).toNat 1 by exact zJk_s hO_ hj_) (show (∀ k : Nat, (k : Int) < ze N6_ (d_ + 12) 6 → (0 ≤ ze N6_ (d_ + 14) k ∧ ze N6_ (d_ + 14) k < 16777216) ∧ kbc (ze N6_ (d_ + 14) k).toNat = gcb (ze N6_ (d_ + 14) k).toNat) by intro k_ hk_; have hq_ := hj_.2.2.1 k_ hk_; have hb_ := gS_b hO_ hq_.2; exact ⟨⟨hq_.1, by have h1_ := hq_.1; have h2_ := hb_.2.1; unfold zRw at h1_ h2_; omega⟩, hol_.2.2.2.2.2.2.2.2.2 _ hq_.2⟩)) rfl rfl ((hf_N6_.w hW).kr (o := 12) (by decide)) (by decide) (by decide) (Nat.le_of_ble_eq_true rfl) (zdal_p dlA_Sorts_settle_34 (i := 1) rfl) ?_
        rintro _ N12_ ⟨rfl, hsN12_, hp0_N12_⟩
        replace hp0_N12_ : (∃ i : Nat, (ze N6_ (d_ + 12) 6).toNat ≤ i ∧ zSoK zkyK (zRw d_ 14 N6_) (zRw d_ 14 N12_) (ze N6_ (d_ + 12) 6).toNat i) := hp0_N12_
        have hf_N12_ : zFc d_ [] [] [(12, 6), (12, 7)] [11, 14, 16, 20, 22] Mz N12_ := hf_N6_.tr hsN12_ (by decide) (by decide) (by decide) (by decide)
        have eD1_7_N12_ : ze N12_ (d_ + 1) 7 = ze N6_ (d_ + 1) 7 := hsN12_.e (by decide)
        have eD12_6_N12_ : ze N12_ (d_ + 12) 6 = ze N6_ (d_ + 12) 6 := hsN12_.e (by decide)
        have eD12_7_N12_ : ze N12_ (d_ + 12) 7 = ze N6_ (d_ + 12) 7 := hsN12_.e (by decide)
        have c14_ : zTt T_ d_ N12_ := zTt.fr (hf_N6_.w hW) hsN12_ i11_ (by decide)
        show zW l m_Sorts_settle (zn Mz + 0, zw Mz + 0) N12_ 97 [some (.ref (d_ + 12)), some (.int (Int32.ofInt u5_)), none] [] _
        obtain ⟨i_, hi1_, hi2_⟩ := hp0_N12_
        have hls_ := zLs_i hj_ hce_ hi2_ hi1_
        have hm7_ : ze N12_ (d_ + 12) 6 = ze N6_ (d_ + 12) 6 := by (exact eD12_6_N12_)
        rw [← hm7_] at hls_
        refine zw_aload_n (pc := 97) (n := 0) (x := (d_ + 12)) rfl (zdal_p dlA_Sorts_settle_34 (i := 2) rfl) ?_
        refine zk_callV hf_N12_.x (pc := 98) [] [] l_Sorts_66 (u_Sorts_numberSortsG l d_ N12_ (hf_N12_.w hW) T_ hT_ l_ Kp_ hol_ hGr_ c14_ (show zLs T_ (zRw d_ 14 N12_) (ze N12_ (d_ + 12) 6) by exact hls_)) rfl rfl ((hf_N12_.w hW).kr (o := 12) (by decide)) (by decide) (by decide) (Nat.le_of_ble_eq_true rfl) (zdal_p dlA_Sorts_settle_34 (i := 3) rfl) ?_
        rintro _ N15_ ⟨rfl, hsN15_, ⟨hp0_N15_, hp1_N15_⟩⟩
        have hf_N15_ : zFc d_ [] [] [(12, 6), (12, 7)] [11, 14, 16, 20, 22] Mz N15_ := hf_N12_.tr hsN15_ (by decide) (by decide) (by decide) (by decide)
        have eD1_7_N15_ : ze N15_ (d_ + 1) 7 = ze N12_ (d_ + 1) 7 := hsN15_.e (by decide)
        have eD12_6_N15_ : ze N15_ (d_ + 12) 6 = ze N12_ (d_ + 12) 6 := hsN15_.e (by decide)
        have rD12_7_N15_ := ze_r N15_ (d_ + 12) 7
        have c17_ : zTt T_ d_ N15_ := zTt.fr (hf_N12_.w hW) hsN15_ c14_ (by decide)
        show zW l m_Sorts_settle (zn Mz + 0, zw Mz + 0) N15_ 101 [some (.ref (d_ + 12)), some (.int (Int32.ofInt u5_)), none] [] _
        have hfi_ := hp0_N15_
        have hsb_ := zSbK_m hls_ (show ze N15_ (d_ + 12) 6 = ze N12_ (d_ + 12) 6 by (exact eD12_6_N15_)) (fun j => hsN15_.r (by decide) j) hp1_N15_
        refine zw_aload_n (pc := 101) (n := 0) (x := (d_ + 12)) rfl (zdal_p dlA_Sorts_settle_34 (i := 4) rfl) ?_
        refine zk_callV hf_N15_.x (pc := 102) [] [] l_Sorts_69 (u_Sorts_fillTable l d_ N15_ (hf_N15_.w hW) T_ hT_ l_ Kp_ hol_ c17_ hfi_) rfl rfl ((hf_N15_.w hW).kr (o := 12) (by decide)) (by decide) (by decide) (Nat.le_of_ble_eq_true rfl) (zdal_p dlA_Sorts_settle_34 (i := 5) rfl) ?_
        rintro _ N18_ ⟨rfl, hsN18_, hp0_N18_⟩
        replace hp0_N18_ : zKm (gF T_).length (gmkI T_) d_ N18_ := hp0_N18_
        have hf_N18_ : zFc d_ [] [] [(12, 6), (12, 7)] [11, 14, 16, 20, 22] Mz N18_ := hf_N15_.tr hsN18_ (by decide) (by decide) (by decide) (by decide)
        have eD1_7_N18_ : ze N18_ (d_ + 1) 7 = ze N15_ (d_ + 1) 7 := hsN18_.e (by decide)
        have eD12_6_N18_ : ze N18_ (d_ + 12) 6 = ze N15_ (d_ + 12) 6 := hsN18_.e (by decide)
        have eD12_7_N18_ : ze N18_ (d_ + 12) 7 = ze N15_ (d_ + 12) 7 := hsN18_.e (by decide)
        have c20_ : zTt T_ d_ N18_ := zTt.fr (hf_N15_.w hW) hsN18_ c17_ (by decide)
        have c21_ : zFir T_ d_ N18_ := zFir.fr (hf_N15_.w hW) hsN18_ hfi_ (by decide)
        have c22_ : zSbK T_ d_ N18_ := zSbK.fr (hf_N15_.w hW) hsN18_ hsb_ (by decide)
        show zW l m_Sorts_settle (zn Mz + 0, zw Mz + 0) N18_ 105 [some (.ref (d_ + 12)), some (.int (Int32.ofInt u5_)), none] [] _
        exact zk_vret (pc := 105) rfl hf_N18_ ⟨(show zKm (gF T_).length (gmkI T_) d_ N18_ by first | with_reducible assumption | assumption | omega), c20_, c21_, c22_⟩ (zdal_p dlA_Sorts_settle_34 (i := 6) rfl)
      · skip
        refine zw_iload_n (pc := 24) (n := 1) (x := Int32.ofInt u5_) rfl (zdal_p dlA_Sorts_settle_32 (i := 14) rfl) ?_
        refine zw_bipush (pc := 25) (v := Int32.ofInt 35) (by decide) (zdal_p dlA_Sorts_settle_32 (i := 15) rfl) ?_
        refine zr_icmp_ge (pc := 27) (tgt := 93) ⟨hu5_a, hu5_b⟩ ⟨(by decide), (by decide)⟩ (by decide) (zdal_p dlA_Sorts_settle_32 (i := 16) rfl) (fun hc_27 => ?_) (fun hc_27 => ?_)
        · skip
          have hce_ := zJk_e hO_ hj_ hx_ (by (exact zo_1427 hc_27 hjm_.2))
          refine zw_aload_n (pc := 93) (n := 0) (x := (d_ + 12)) rfl (zdal_p dlA_Sorts_settle_34 (i := 0) rfl) ?_
          refine zk_callV hf_N6_.x (pc := 94) [] [] l_Sorts_63 (u_Sorts_arrange l d_ N6_ (hf_N6_.w hW) (show 1 ≤ ze N6_ (d_ + 12) 6 by first | with_reducible assumption | (exact zo_694 hjm_.1) | assumption) (show ze N6_ (d_ + 12) 6 ≤ 35 by first | with_reducible assumption | (exact zo_1426 hjm_.2) | assumption) (show zSoK zkyK (zRw d_ 14 N6_) (zRw d_ 14 N6_) (ze N6_ (d_ + 12) 6).toNat 1 by exact zJk_s hO_ hj_) (show (∀ k : Nat, (k : Int) < ze N6_ (d_ + 12) 6 → (0 ≤ ze N6_ (d_ + 14) k ∧ ze N6_ (d_ + 14) k < 16777216) ∧ kbc (ze N6_ (d_ + 14) k).toNat = gcb (ze N6_ (d_ + 14) k).toNat) by intro k_ hk_; have hq_ := hj_.2.2.1 k_ hk_; have hb_ := gS_b hO_ hq_.2; exact ⟨⟨hq_.1, by have h1_ := hq_.1; have h2_ := hb_.2.1; unfold zRw at h1_ h2_; omega⟩, hol_.2.2.2.2.2.2.2.2.2 _ hq_.2⟩)) rfl rfl ((hf_N6_.w hW).kr (o := 12) (by decide)) (by decide) (by decide) (Nat.le_of_ble_eq_true rfl) (zdal_p dlA_Sorts_settle_34 (i := 1) rfl) ?_
          rintro _ N23_ ⟨rfl, hsN23_, hp0_N23_⟩
          replace hp0_N23_ : (∃ i : Nat, (ze N6_ (d_ + 12) 6).toNat ≤ i ∧ zSoK zkyK (zRw d_ 14 N6_) (zRw d_ 14 N23_) (ze N6_ (d_ + 12) 6).toNat i) := hp0_N23_
          have hf_N23_ : zFc d_ [] [] [(12, 6), (12, 7)] [11, 14, 16, 20, 22] Mz N23_ := hf_N6_.tr hsN23_ (by decide) (by decide) (by decide) (by decide)
          have eD1_7_N23_ : ze N23_ (d_ + 1) 7 = ze N6_ (d_ + 1) 7 := hsN23_.e (by decide)
          have eD12_6_N23_ : ze N23_ (d_ + 12) 6 = ze N6_ (d_ + 12) 6 := hsN23_.e (by decide)
          have eD12_7_N23_ : ze N23_ (d_ + 12) 7 = ze N6_ (d_ + 12) 7 := hsN23_.e (by decide)
          have c25_ : zTt T_ d_ N23_ := zTt.fr (hf_N6_.w hW) hsN23_ i11_ (by decide)
          show zW l m_Sorts_settle (zn Mz + 0, zw Mz + 0) N23_ 97 [some (.ref (d_ + 12)), some (.int (Int32.ofInt u5_)), none] [] _
          obtain ⟨i_, hi1_, hi2_⟩ := hp0_N23_
          have hls_ := zLs_i hj_ hce_ hi2_ hi1_
          have hm7_ : ze N23_ (d_ + 12) 6 = ze N6_ (d_ + 12) 6 := by (exact eD12_6_N23_)
          rw [← hm7_] at hls_
          refine zw_aload_n (pc := 97) (n := 0) (x := (d_ + 12)) rfl (zdal_p dlA_Sorts_settle_34 (i := 2) rfl) ?_
          refine zk_callV hf_N23_.x (pc := 98) [] [] l_Sorts_66 (u_Sorts_numberSortsG l d_ N23_ (hf_N23_.w hW) T_ hT_ l_ Kp_ hol_ hGr_ c25_ (show zLs T_ (zRw d_ 14 N23_) (ze N23_ (d_ + 12) 6) by exact hls_)) rfl rfl ((hf_N23_.w hW).kr (o := 12) (by decide)) (by decide) (by decide) (Nat.le_of_ble_eq_true rfl) (zdal_p dlA_Sorts_settle_34 (i := 3) rfl) ?_
          rintro _ N26_ ⟨rfl, hsN26_, ⟨hp0_N26_, hp1_N26_⟩⟩
          have hf_N26_ : zFc d_ [] [] [(12, 6), (12, 7)] [11, 14, 16, 20, 22] Mz N26_ := hf_N23_.tr hsN26_ (by decide) (by decide) (by decide) (by decide)
          have eD1_7_N26_ : ze N26_ (d_ + 1) 7 = ze N23_ (d_ + 1) 7 := hsN26_.e (by decide)
          have eD12_6_N26_ : ze N26_ (d_ + 12) 6 = ze N23_ (d_ + 12) 6 := hsN26_.e (by decide)
          have rD12_7_N26_ := ze_r N26_ (d_ + 12) 7
          have c28_ : zTt T_ d_ N26_ := zTt.fr (hf_N23_.w hW) hsN26_ c25_ (by decide)
          show zW l m_Sorts_settle (zn Mz + 0, zw Mz + 0) N26_ 101 [some (.ref (d_ + 12)), some (.int (Int32.ofInt u5_)), none] [] _
          have hfi_ := hp0_N26_
          have hsb_ := zSbK_m hls_ (show ze N26_ (d_ + 12) 6 = ze N23_ (d_ + 12) 6 by (exact eD12_6_N26_)) (fun j => hsN26_.r (by decide) j) hp1_N26_
          refine zw_aload_n (pc := 101) (n := 0) (x := (d_ + 12)) rfl (zdal_p dlA_Sorts_settle_34 (i := 4) rfl) ?_
          refine zk_callV hf_N26_.x (pc := 102) [] [] l_Sorts_69 (u_Sorts_fillTable l d_ N26_ (hf_N26_.w hW) T_ hT_ l_ Kp_ hol_ c28_ hfi_) rfl rfl ((hf_N26_.w hW).kr (o := 12) (by decide)) (by decide) (by decide) (Nat.le_of_ble_eq_true rfl) (zdal_p dlA_Sorts_settle_34 (i := 5) rfl) ?_
          rintro _ N29_ ⟨rfl, hsN29_, hp0_N29_⟩
          replace hp0_N29_ : zKm (gF T_).length (gmkI T_) d_ N29_ := hp0_N29_
          have hf_N29_ : zFc d_ [] [] [(12, 6), (12, 7)] [11, 14, 16, 20, 22] Mz N29_ := hf_N26_.tr hsN29_ (by decide) (by decide) (by decide) (by decide)
          have eD1_7_N29_ : ze N29_ (d_ + 1) 7 = ze N26_ (d_ + 1) 7 := hsN29_.e (by decide)
          have eD12_6_N29_ : ze N29_ (d_ + 12) 6 = ze N26_ (d_ + 12) 6 := hsN29_.e (by decide)
          have eD12_7_N29_ : ze N29_ (d_ + 12) 7 = ze N26_ (d_ + 12) 7 := hsN29_.e (by decide)
          have c31_ : zTt T_ d_ N29_ := zTt.fr (hf_N26_.w hW) hsN29_ c28_ (by decide)
          have c32_ : zFir T_ d_ N29_ := zFir.fr (hf_N26_.w hW) hsN29_ hfi_ (by decide)
          have c33_ : zSbK T_ d_ N29_ := zSbK.fr (hf_N26_.w hW) hsN29_ hsb_ (by decide)
          show zW l m_Sorts_settle (zn Mz + 0, zw Mz + 0) N29_ 105 [some (.ref (d_ + 12)), some (.int (Int32.ofInt u5_)), none] [] _
          exact zk_vret (pc := 105) rfl hf_N29_ ⟨(show zKm (gF T_).length (gmkI T_) d_ N29_ by first | with_reducible assumption | assumption | omega), c31_, c32_, c33_⟩ (zdal_p dlA_Sorts_settle_34 (i := 6) rfl)
        · skip
          refine zw_iconst (pc := 30) (v := Int32.ofInt 0) (by decide) (zdal_p dlA_Sorts_settle_32 (i := 17) rfl) ?_
          refine zw_istore_n (pc := 31) (i := 2) (L2 := [some (.ref (d_ + 12)), some (.int (Int32.ofInt u5_)), some (.int (Int32.ofInt 0))]) rfl (by decide) rfl (zdal_p dlA_Sorts_settle_32 (i := 18) rfl) ?_
          have lp_32 : ∀ (n : Nat) (u34_ : Int) (hu34_a : -2147483648 ≤ u34_) (hu34_b : u34_ < 2147483648) (N35_ : zMem) (hs36_ : zFc d_ [] [] [(12, 6)] [11, 14] N6_ N35_) (i37_ : 0 ≤ u34_) (i38_ : u5_ < (ze N35_ (d_ + 12) 6)) (i39_ : zJk T_ (zRw d_ 14 N35_) (ze N35_ (d_ + 12) 6)) (i40_ : zXk T_ (zRw d_ 14 N35_) (ze N35_ (d_ + 12) 6) u5_ u34_) (i41_ : zTt T_ d_ N35_), (gN T_ - u34_).toNat < n → zW l m_Sorts_settle (zn Mz + 0, zw Mz + 0) N35_ 32 [some (.ref (d_ + 12)), some (.int (Int32.ofInt u5_)), some (.int (Int32.ofInt u34_))] [] (zqcV d_ [] [] [(12, 6), (12, 7)] [11, 14, 16, 20, 22] Mz (fun N => zKm (gF T_).length (gmkI T_) d_ N ∧ zTt T_ d_ N ∧ zFir T_ d_ N ∧ zSbK T_ d_ N)) := by
            intro n
            induction n with
            | zero =>
              intro u34_ hu34_a hu34_b N35_ hs36_ i37_ i38_ i39_ i40_ i41_ h0
              exact absurd h0 (Nat.not_lt_zero _)
            | succ n ih_32 =>
              intro u34_ hu34_a hu34_b N35_ hs36_ i37_ i38_ i39_ i40_ i41_ hlt_32
              have hf_N35_ : zFc d_ [] [] [(12, 6), (12, 7)] [11, 14, 16, 20, 22] Mz N35_ := hf_N6_.tr hs36_ (by decide) (by decide) (by decide) (by decide)
              have hb0_N35_ : zFc d_ [] [] [(12, 6)] [11, 14] N3_ N35_ := hs7_.tr hs36_ (by decide) (by decide) (by decide) (by decide)
              have eD1_7_N35_ : ze N35_ (d_ + 1) 7 = ze N6_ (d_ + 1) 7 := hs36_.e (by decide)
              have rD12_6_N35_ := ze_r N35_ (d_ + 12) 6
              have eD12_7_N35_ : ze N35_ (d_ + 12) 7 = ze N6_ (d_ + 12) 7 := hs36_.e (by decide)
              have hj2_ := (show zJk T_ (zRw d_ 14 N35_) (ze N35_ (d_ + 12) 6) by first | with_reducible assumption | assumption)
              have hx2_ := (show zXk T_ (zRw d_ 14 N35_) (ze N35_ (d_ + 12) 6) u5_ u34_ by first | with_reducible assumption | assumption)
              have hjn_ := hj2_.1
              have hst_ := i41_.1
              refine zw_iload_n (pc := 32) (n := 2) (x := Int32.ofInt u34_) rfl (zdal_p dlA_Sorts_settle_32 (i := 19) rfl) ?_
              refine zw_aload_n (pc := 33) (n := 0) (x := (d_ + 12)) rfl (zdal_p dlA_Sorts_settle_32 (i := 20) rfl) ?_
              refine zw_getF (pc := 34) f_Sorts_32 rfl ((hf_N35_.w hW).kr (o := 12) (by decide)) ((hf_N35_.w hW).lr (o := 12) (s := 0) (r := 1) (by decide)) (zdal_p dlA_Sorts_settle_32 (i := 21) rfl) ?_
              refine zk_getI (pc := 37) f_Sorts_44 rfl ((hf_N35_.w hW).kr (o := 1) (by decide)) (zdal_p dlA_Sorts_settle_32 (i := 22) rfl) ?_
              rw [hf_N35_.e (by decide)]
              refine zr_icmp_ge (pc := 40) (tgt := 87) ⟨hu34_a, hu34_b⟩ ⟨(ze_r Mz (d_ + 1) 7).1, (ze_r Mz (d_ + 1) 7).2⟩ (by decide) (zdal_p dlA_Sorts_settle_32 (i := 23) rfl) (fun hc_40 => ?_) (fun hc_40 => ?_)
              · skip
                refine zr_iinc (pc := 87) (i := 1) (a := u5_) (n := 1) (L2 := [some (.ref (d_ + 12)), some (.int (Int32.ofInt (u5_ + 1))), some (.int (Int32.ofInt u34_))]) rfl (by decide) rfl (zdal_p dlA_Sorts_settle_33 (i := 22) rfl) ?_
                refine zw_goto (pc := 90) (tgt := 16) (by decide) (zdal_p dlA_Sorts_settle_33 (i := 23) rfl) ?_
                refine zW_le [some (.ref (d_ + 12)), some (.int (Int32.ofInt (u5_ + 1))), none] (⟨rfl, rfl, trivial⟩) ?_
                exact ih_16 (u5_ + 1) (by (exact zo_74 i8_)) (by (exact zo_1428 hc_27)) N35_ hb0_N35_ (show 0 ≤ (u5_ + 1) by first | with_reducible assumption | (exact zo_76 i8_) | assumption) (show zJk T_ (zRw d_ 14 N35_) (ze N35_ (d_ + 12) 6) by exact hj2_) (show zXk T_ (zRw d_ 14 N35_) (ze N35_ (d_ + 12) 6) (u5_ + 1) 0 by exact zXk_n hx2_ (by (exact zo_1411 hc_40 hn24_ hsz_ i37_))) i41_ (by (exact zo_1429 hc_27 hlt_16 i8_))
              · skip
                refine zw_aload_n (pc := 43) (n := 0) (x := (d_ + 12)) rfl (zdal_p dlA_Sorts_settle_33 (i := 0) rfl) ?_
                refine zw_getF (pc := 44) f_Sorts_14 rfl ((hf_N35_.w hW).kr (o := 12) (by decide)) ((hf_N35_.w hW).lr (o := 12) (s := 1) (r := 13) (by decide)) (zdal_p dlA_Sorts_settle_33 (i := 1) rfl) ?_
                refine zw_iload_n (pc := 47) (n := 1) (x := Int32.ofInt u5_) rfl (zdal_p dlA_Sorts_settle_33 (i := 2) rfl) ?_
                refine zk_at hf_N35_.x (pc := 48) l_Sorts_49 ((hf_N35_.w hW).kr (o := 13) (by decide)) ((hf_N35_.w hW).lr (o := 13) (s := 0) (r := 14) (by decide)) ((hf_N35_.w hW).rr (o := 14) (t := 1) (n := 35) (by decide)) (by decide) (by (exact i8_)) (by (exact zo_1430 hc_27)) (by decide) (Nat.le_of_ble_eq_true rfl) (zdal_p dlA_Sorts_settle_33 (i := 3) rfl) (fun v42_ hv42_ hv42_a hv42_b => ?_)
                have hv_ := hv42_
                have hm_ := hj2_.2.2.1 (u5_).toNat (by (exact zo_1431 hc_27 hjn_.1 i38_ i8_))
                rw [show zRw d_ 14 N35_ (u5_).toNat = v42_ from hv_.symm] at hm_
                have hgb_ := gS_b hO_ hm_.2
                refine zw_iload_n (pc := 51) (n := 2) (x := Int32.ofInt u34_) rfl (zdal_p dlA_Sorts_settle_33 (i := 4) rfl) ?_
                refine zr_callS hf_N35_.x (pc := 52) [.int (Int32.ofInt v42_), .int (Int32.ofInt u34_)] [] l_Sorts_53 (u_T_isIn l d_ N35_ (hf_N35_.w hW) v42_ hv42_a hv42_b u34_ hu34_a hu34_b (show 0 ≤ v42_ by first | with_reducible assumption | (exact zo_57 hm_.1) | assumption) (show v42_ < 2147483648 by first | with_reducible assumption | assumption | omega) (show 0 ≤ u34_ by first | with_reducible assumption | assumption | omega) (show u34_ < 31 by first | with_reducible assumption | (exact zo_1432 hc_40 hn24_ hsz_ hu34_b) | assumption)) rfl rfl (by decide) (Nat.le_of_ble_eq_true rfl) (zdal_p dlA_Sorts_settle_33 (i := 5) rfl) ?_
                rintro _ N43_ ⟨v44_, rfl, ⟨hv44_a, hv44_b⟩, hsN43_, hp0_N43_⟩
                obtain rfl := hsN43_.eq.symm
                replace hp0_N43_ : ((v44_ = 1 ∧ zbt v42_ u34_) ∨ (v44_ = 0 ∧ ¬ zbt v42_ u34_)) := hp0_N43_
                rcases hp0_N43_ with ⟨rfl, ha52_0_hp0_N43_⟩ | ⟨rfl, ha52_0_hp0_N43_⟩
                · skip
                  have hxb_ := zXk_b (by (exact i8_)) (by (exact i37_)) hx2_ (show _ = zRw d_ 14 N35_ (u5_).toNat from hv_) ha52_0_hp0_N43_
                  show zW l m_Sorts_settle (zn Mz + 0, zw Mz + 0) N35_ 55 [some (.ref (d_ + 12)), some (.int (Int32.ofInt u5_)), some (.int (Int32.ofInt u34_))] [.int (Int32.ofInt 1)] _
                  refine zr_if_ne (pc := 55) (tgt := 81) ⟨(by decide), (by decide)⟩ (by decide) (zdal_p dlA_Sorts_settle_33 (i := 6) rfl) (fun hc_55 => ?_) (fun hc_55 => ?_)
                  · skip
                    refine zr_iinc (pc := 81) (i := 2) (a := u34_) (n := 1) (L2 := [some (.ref (d_ + 12)), some (.int (Int32.ofInt u5_)), some (.int (Int32.ofInt (u34_ + 1)))]) rfl (by decide) rfl (zdal_p dlA_Sorts_settle_33 (i := 20) rfl) ?_
                    refine zw_goto (pc := 84) (tgt := 32) (by decide) (zdal_p dlA_Sorts_settle_33 (i := 21) rfl) ?_
                    exact ih_32 (u34_ + 1) (by (exact zo_74 i37_)) (by (exact zo_1422 hc_40 hn24_ hsz_ hu34_b)) N35_ hs36_ (show 0 ≤ (u34_ + 1) by first | with_reducible assumption | (exact zo_76 i37_) | assumption) (show u5_ < (ze N35_ (d_ + 12) 6) by first | with_reducible assumption | assumption | omega) (show zJk T_ (zRw d_ 14 N35_) (ze N35_ (d_ + 12) 6) by first | exact hj3_ | exact hj2_) (show zXk T_ (zRw d_ 14 N35_) (ze N35_ (d_ + 12) 6) u5_ (u34_ + 1) by first | exact hxb_ | exact hxn_) i41_ (by (exact zo_1424 hc_40 hlt_32 hsz_ hu34_b))
                  · skip
                    exact absurd hc_55 (by decide)
                · skip
                  show zW l m_Sorts_settle (zn Mz + 0, zw Mz + 0) N35_ 55 [some (.ref (d_ + 12)), some (.int (Int32.ofInt u5_)), some (.int (Int32.ofInt u34_))] [.int (Int32.ofInt 0)] _
                  refine zr_if_ne (pc := 55) (tgt := 81) ⟨(by decide), (by decide)⟩ (by decide) (zdal_p dlA_Sorts_settle_33 (i := 6) rfl) (fun hc_55 => ?_) (fun hc_55 => ?_)
                  · skip
                    exact absurd hc_55 (by decide)
                  · skip
                    refine zw_aload_n (pc := 58) (n := 0) (x := (d_ + 12)) rfl (zdal_p dlA_Sorts_settle_33 (i := 7) rfl) ?_
                    refine zw_aload_n (pc := 59) (n := 0) (x := (d_ + 12)) rfl (zdal_p dlA_Sorts_settle_33 (i := 8) rfl) ?_
                    refine zw_getF (pc := 60) f_Sorts_32 rfl ((hf_N35_.w hW).kr (o := 12) (by decide)) ((hf_N35_.w hW).lr (o := 12) (s := 0) (r := 1) (by decide)) (zdal_p dlA_Sorts_settle_33 (i := 9) rfl) ?_
                    refine zw_aload_n (pc := 63) (n := 0) (x := (d_ + 12)) rfl (zdal_p dlA_Sorts_settle_33 (i := 10) rfl) ?_
                    refine zw_getF (pc := 64) f_Sorts_14 rfl ((hf_N35_.w hW).kr (o := 12) (by decide)) ((hf_N35_.w hW).lr (o := 12) (s := 1) (r := 13) (by decide)) (zdal_p dlA_Sorts_settle_33 (i := 11) rfl) ?_
                    refine zw_iload_n (pc := 67) (n := 1) (x := Int32.ofInt u5_) rfl (zdal_p dlA_Sorts_settle_33 (i := 12) rfl) ?_
                    refine zk_at hf_N35_.x (pc := 68) l_Sorts_49 ((hf_N35_.w hW).kr (o := 13) (by decide)) ((hf_N35_.w hW).lr (o := 13) (s := 0) (r := 14) (by decide)) ((hf_N35_.w hW).rr (o := 14) (t := 1) (n := 35) (by decide)) (by decide) (by (exact i8_)) (by (exact zo_1430 hc_27)) (by decide) (Nat.le_of_ble_eq_true rfl) (zdal_p dlA_Sorts_settle_33 (i := 13) rfl) (fun v45_ hv45_ hv45_a hv45_b => ?_)
                    have hv2_ := hv45_
                    have hm2_ := hj2_.2.2.1 (u5_).toNat (by (exact zo_1431 hc_27 hjn_.1 i38_ i8_))
                    rw [show zRw d_ 14 N35_ (u5_).toNat = v45_ from hv2_.symm] at hm2_
                    have hgc_ := gS_b hO_ hm2_.2
                    have hzo_ := zorb (x := v45_) (k := u34_) (by (exact zo_57 hm2_.1)) (by (exact hv45_b)) (by (exact i37_)) (by (exact zo_1432 hc_40 hn24_ hsz_ hu34_b))
                    have hol2_ : (v45_).toNat ||| 2 ^ (u34_).toNat < 2 ^ gN T_ := Nat.or_lt_two_pow hgc_.1 (Nat.pow_lt_pow_right (by (decide)) (by (exact zo_1414 hc_40 hsz_ hu34_b i37_)))
                    obtain ⟨v_, hvv_⟩ : ∃ v : Int, v = v45_ := ⟨_, rfl⟩
                    rw [← hvv_] at hv2_
                    refine zw_iconst (pc := 71) (v := Int32.ofInt 1) (by decide) (zdal_p dlA_Sorts_settle_33 (i := 14) rfl) ?_
                    refine zw_iload_n (pc := 72) (n := 2) (x := Int32.ofInt u34_) rfl (zdal_p dlA_Sorts_settle_33 (i := 15) rfl) ?_
                    refine zr_ishl (pc := 73) (zdal_p dlA_Sorts_settle_33 (i := 16) rfl) ?_
                    have hr46_ := zshl_r 1 u34_
                    refine zr_ior (pc := 74) (zdal_p dlA_Sorts_settle_33 (i := 17) rfl) ?_
                    have hr47_ := zor_r v45_ (zshl 1 u34_)
                    refine zk_callV hf_N35_.x (pc := 75) [.int (Int32.ofInt (zor v45_ (zshl 1 u34_)))] [.ref (d_ + 12)] l_Sorts_57 (u_Group_spanOf l d_ N35_ (hf_N35_.w hW) (zor v45_ (zshl 1 u34_)) (by (exact zo_284 hr47_.1)) (by (exact zo_285 hr47_.2)) T_ hT_ hAs_ i41_ (show 0 ≤ (zor v45_ (zshl 1 u34_)) by rw [hzo_]; (exact zo_85)) (show ((zor v45_ (zshl 1 u34_))).toNat < 2 ^ gN T_ by rw [hzo_, Int.toNat_natCast]; exact hol2_)) rfl rfl ((hf_N35_.w hW).kr (o := 1) (by decide)) (by decide) (by decide) (Nat.le_of_ble_eq_true rfl) (zdal_p dlA_Sorts_settle_33 (i := 18) rfl) ?_
                    rintro _ N48_ ⟨v49_, rfl, ⟨hv49_a, hv49_b⟩, hsN48_, ⟨hp0_N48_, hp1_N48_, hp2_N48_⟩⟩
                    have hf_N48_ : zFc d_ [] [] [(12, 6), (12, 7)] [11, 14, 16, 20, 22] Mz N48_ := hf_N35_.tr hsN48_ (by decide) (by decide) (by decide) (by decide)
                    have hb0_N48_ : zFc d_ [] [] [(12, 6)] [11, 14] N3_ N48_ := hb0_N35_.tr hsN48_ (by decide) (by decide) (by decide) (by decide)
                    have hb1_N48_ : zFc d_ [] [] [(12, 6)] [11, 14] N6_ N48_ := hs36_.tr hsN48_ (by decide) (by decide) (by decide) (by decide)
                    have eD1_7_N48_ : ze N48_ (d_ + 1) 7 = ze N35_ (d_ + 1) 7 := hsN48_.e (by decide)
                    have eD12_6_N48_ : ze N48_ (d_ + 12) 6 = ze N35_ (d_ + 12) 6 := hsN48_.e (by decide)
                    have eD12_7_N48_ : ze N48_ (d_ + 12) 7 = ze N35_ (d_ + 12) 7 := hsN48_.e (by decide)
                    have c50_ : zTt T_ d_ N48_ := zTt.fr (hf_N35_.w hW) hsN48_ i41_ (by decide)
                    show zW l m_Sorts_settle (zn Mz + 0, zw Mz + 0) N48_ 78 [some (.ref (d_ + 12)), some (.int (Int32.ofInt u5_)), some (.int (Int32.ofInt u34_))] [.int (Int32.ofInt v49_), .ref (d_ + 12)] _
                    have hlc_ := hp0_N48_
                    rw [hzo_, Int.toNat_natCast, ← hvv_] at hlc_
                    have hr0_ := hp1_N48_
                    have hrm_ := hO_.mem hlc_
                    have hf_ : zRw d_ 14 N48_ = zRw d_ 14 N35_ := funext fun j => hsN48_.r (by decide) j
                    have hm6_ : ze N48_ (d_ + 12) 6 = ze N35_ (d_ + 12) 6 := by (exact eD12_6_N48_)
                    rw [show v_ = zRw d_ 14 N35_ (u5_).toNat from hv2_] at hlc_
                    rw [← hf_, ← hm6_] at hj2_ hx2_
                    rw [← hf_] at hlc_
                    have hroom_ := zJk_c hol_.1.1 hj2_ hr0_ hrm_
                    refine zk_callV hf_N48_.x (pc := 78) [.int (Int32.ofInt v49_)] [] l_Sorts_60 (u_Sorts_addSubgroup l d_ N48_ (hf_N48_.w hW) v49_ hv49_a hv49_b (show 0 ≤ ze N48_ (d_ + 12) 6 by first | with_reducible assumption | (exact zo_568 eD12_6_N48_ hjn_.1) | assumption) (show ze N48_ (d_ + 12) 6 ≤ 35 by first | with_reducible assumption | (exact zo_1433 eD12_6_N48_ hjn_.2) | assumption) (show (∀ i : Nat, (i : Int) < ze N48_ (d_ + 12) 6 → ze N48_ (d_ + 14) i ≠ v49_) → ze N48_ (d_ + 12) 6 ≤ 34 by exact fun q_ => hroom_ q_)) rfl rfl ((hf_N48_.w hW).kr (o := 12) (by decide)) (by decide) (by decide) (Nat.le_of_ble_eq_true rfl) (zdal_p dlA_Sorts_settle_33 (i := 19) rfl) ?_
                    rintro _ N51_ ⟨rfl, hsN51_, hp0_N51_⟩
                    replace hp0_N51_ : (((∃ k : Nat, (k : Int) < ze N48_ (d_ + 12) 6 ∧ ze N48_ (d_ + 14) k = v49_) ∧ (∀ j : Nat, zRw d_ 14 N51_ j = zRw d_ 14 N48_ j) ∧ ze N51_ (d_ + 12) 6 = ze N48_ (d_ + 12) 6) ∨ ((∀ i : Nat, (i : Int) < ze N48_ (d_ + 12) 6 → ze N48_ (d_ + 14) i ≠ v49_) ∧ ze N51_ (d_ + 12) 6 = ze N48_ (d_ + 12) 6 + 1 ∧ (∀ j : Nat, zRw d_ 14 N51_ j = zst (zRw d_ 14 N48_) (ze N48_ (d_ + 12) 6).toNat v49_ j))) := hp0_N51_
                    have hf_N51_ : zFc d_ [] [] [(12, 6), (12, 7)] [11, 14, 16, 20, 22] Mz N51_ := hf_N48_.tr hsN51_ (by decide) (by decide) (by decide) (by decide)
                    have hb0_N51_ : zFc d_ [] [] [(12, 6)] [11, 14] N3_ N51_ := hb0_N48_.tr hsN51_ (by decide) (by decide) (by decide) (by decide)
                    have hb1_N51_ : zFc d_ [] [] [(12, 6)] [11, 14] N6_ N51_ := hb1_N48_.tr hsN51_ (by decide) (by decide) (by decide) (by decide)
                    have eD1_7_N51_ : ze N51_ (d_ + 1) 7 = ze N48_ (d_ + 1) 7 := hsN51_.e (by decide)
                    have rD12_6_N51_ := ze_r N51_ (d_ + 12) 6
                    have eD12_7_N51_ : ze N51_ (d_ + 12) 7 = ze N48_ (d_ + 12) 7 := hsN51_.e (by decide)
                    have c53_ : zTt T_ d_ N51_ := zTt.fr (hf_N48_.w hW) hsN51_ c50_ (by decide)
                    rcases hp0_N51_ with ⟨ha78_0_hp0_N51_, ha78_1_hp0_N51_, ha78_2_hp0_N51_⟩ | ⟨ha78_0_hp0_N51_, ha78_1_hp0_N51_, ha78_2_hp0_N51_⟩
                    · skip
                      obtain ⟨k_, hk1_, hk2_⟩ := ha78_0_hp0_N51_
                      have hsm_ : zRw d_ 14 N51_ = zRw d_ 14 N48_ := funext ha78_1_hp0_N51_
                      have hmm_ := ha78_2_hp0_N51_
                      have hxn_ := zXk_f (by (exact i8_)) (by (exact i37_)) hx2_ hlc_ hk1_ (show zRw d_ 14 N48_ k_ = _ from hk2_)
                      rw [← hsm_, ← hmm_] at hxn_ hj2_
                      show zW l m_Sorts_settle (zn Mz + 0, zw Mz + 0) N51_ 81 [some (.ref (d_ + 12)), some (.int (Int32.ofInt u5_)), some (.int (Int32.ofInt u34_))] [] _
                      refine zr_iinc (pc := 81) (i := 2) (a := u34_) (n := 1) (L2 := [some (.ref (d_ + 12)), some (.int (Int32.ofInt u5_)), some (.int (Int32.ofInt (u34_ + 1)))]) rfl (by decide) rfl (zdal_p dlA_Sorts_settle_33 (i := 20) rfl) ?_
                      refine zw_goto (pc := 84) (tgt := 32) (by decide) (zdal_p dlA_Sorts_settle_33 (i := 21) rfl) ?_
                      exact ih_32 (u34_ + 1) (by (exact zo_74 i37_)) (by (exact zo_1422 hc_40 hn24_ hsz_ hu34_b)) N51_ hb1_N51_ (show 0 ≤ (u34_ + 1) by first | with_reducible assumption | (exact zo_76 i37_) | assumption) (show u5_ < (ze N51_ (d_ + 12) 6) by first | with_reducible assumption | (exact zo_1434 eD12_6_N48_ ha78_2_hp0_N51_ hc_27 hk1_ i38_) | assumption) (show zJk T_ (zRw d_ 14 N51_) (ze N51_ (d_ + 12) 6) by first | exact hj3_ | exact hj2_) (show zXk T_ (zRw d_ 14 N51_) (ze N51_ (d_ + 12) 6) u5_ (u34_ + 1) by first | exact hxb_ | exact hxn_) c53_ (by (exact zo_1424 hc_40 hlt_32 hsz_ hu34_b))
                    · skip
                      have hno_ := ha78_0_hp0_N51_
                      have hmm_ := ha78_1_hp0_N51_
                      have hwr_ := ha78_2_hp0_N51_
                      obtain ⟨hj3_, hxn_⟩ := zJk_a hj2_ (hroom_ hno_) hr0_ hrm_ hno_ hwr_ hx2_ (by (exact zo_1435 eD12_6_N48_ hc_27 hjn_.1 i38_ i8_)) (by (exact i37_)) hlc_
                      rw [← hmm_] at hj3_ hxn_
                      show zW l m_Sorts_settle (zn Mz + 0, zw Mz + 0) N51_ 81 [some (.ref (d_ + 12)), some (.int (Int32.ofInt u5_)), some (.int (Int32.ofInt u34_))] [] _
                      refine zr_iinc (pc := 81) (i := 2) (a := u34_) (n := 1) (L2 := [some (.ref (d_ + 12)), some (.int (Int32.ofInt u5_)), some (.int (Int32.ofInt (u34_ + 1)))]) rfl (by decide) rfl (zdal_p dlA_Sorts_settle_33 (i := 20) rfl) ?_
                      refine zw_goto (pc := 84) (tgt := 32) (by decide) (zdal_p dlA_Sorts_settle_33 (i := 21) rfl) ?_
                      exact ih_32 (u34_ + 1) (by (exact zo_74 i37_)) (by (exact zo_1422 hc_40 hn24_ hsz_ hu34_b)) N51_ hb1_N51_ (show 0 ≤ (u34_ + 1) by first | with_reducible assumption | (exact zo_76 i37_) | assumption) (show u5_ < (ze N51_ (d_ + 12) 6) by first | with_reducible assumption | (exact zo_1436 eD12_6_N48_ ha78_1_hp0_N51_ hc_27 hjn_.1 i38_) | assumption) (show zJk T_ (zRw d_ 14 N51_) (ze N51_ (d_ + 12) 6) by first | exact hj3_ | exact hj2_) (show zXk T_ (zRw d_ 14 N51_) (ze N51_ (d_ + 12) 6) u5_ (u34_ + 1) by first | exact hxb_ | exact hxn_) c53_ (by (exact zo_1424 hc_40 hlt_32 hsz_ hu34_b))
          exact lp_32 _ 0 (by decide) (by decide) N6_ zFc.rf (show 0 ≤ (0 : Int) by first | with_reducible assumption | (decide) | assumption) (show u5_ < (ze N6_ (d_ + 12) 6) by first | with_reducible assumption | assumption | omega) (show zJk T_ (zRw d_ 14 N6_) (ze N6_ (d_ + 12) 6) by exact hj_) (show zXk T_ (zRw d_ 14 N6_) (ze N6_ (d_ + 12) 6) u5_ (0 : Int) by exact hx_) i11_ (Nat.lt_succ_self _)
  exact lp_16 _ 0 (by decide) (by decide) N3_ zFc.rf (show 0 ≤ (0 : Int) by first | with_reducible assumption | (decide) | assumption) (show zJk T_ (zRw d_ 14 N3_) (ze N3_ (d_ + 12) 6) by rw [show ze N3_ (d_ + 12) 6 = 1 by (exact zo_594 eD12_6_N3_ hvN1_)]; exact hj0_) (show zXk T_ (zRw d_ 14 N3_) (ze N3_ (d_ + 12) 6) (0 : Int) 0 by rw [show ze N3_ (d_ + 12) 6 = 1 by (exact zo_594 eD12_6_N3_ hvN1_)]; exact hx0_) c4_ (Nat.lt_succ_self _)
def zCpJ (q r : Nat) (M0 : zMem) (n : Int) (M : zMem) : Prop := ∀ j : Nat, (j : Int) < n → zg M r j = zg M0 q j
def zZrJ (r : Nat) (n : Int) (M : zMem) : Prop := True ∧ ∀ j : Nat, (j : Int) < n → zg M r j = 0
def zr98 (M : zMem) : Nat → Int := fun k => zg M 98 k
theorem zr98_f {S C : List Nat} {M N : zMem} (h : zFr S C M N) (hc : 98 ∉ C) : zr98 N = zr98 M := funext fun k => h.jg (by decide) hc k
section ZCPJ
variable {q r : Nat} {M0 M N : zMem} {n m i v : Int} {S C : List Nat}
theorem zCpJ.fr (hf : zFr S C M N) (h : zCpJ q r M0 n M) (hr : r ≠ 81) (hc : r ∉ C) : zCpJ q r M0 n N := fun j hj => (hf.jg hr hc j).trans (h j hj)
theorem zCpJ_0 : zCpJ q r M0 0 M := fun j h => absurd h (by (exact zo_131))
theorem zCpJ.le (h : zCpJ q r M0 m M) (e : n ≤ m) : zCpJ q r M0 n M := fun j hj => h j (by (exact zo_1403 e hj))
theorem zCpJ_s (i0 : 0 ≤ i) (h : zCpJ q r M0 i M) (hv : v = zg M0 q i.toNat) (hN : N = zsJ M r i.toNat (Int64.ofInt v)) : zCpJ q r M0 (i + 1) N := by
  intro j hj
  by_cases e : (j : Int) = i
  · rw [show j = i.toNat by (exact zo_2187 e hj i0), ← hv]
    exact zs_getJ hN (by rw [hv]; exact zg_r _ _ _)
  · rw [zs_othJ hN (by (exact zo_148 i0 e))]
    exact h j (by (exact zo_130 hj e))
theorem zZrJ.fr (hf : zFr S C M N) (h : zZrJ r n M) (hr : r ≠ 81) (hc : r ∉ C) : zZrJ r n N := ⟨trivial, fun j hj => (hf.jg hr hc j).trans (h.2 j hj)⟩
theorem zZrJ_0 : zZrJ r 0 M := ⟨trivial, fun j h => absurd h (by (exact zo_131))⟩
theorem zZrJ.le (h : zZrJ r m M) (e : n ≤ m) : zZrJ r n M := ⟨trivial, fun j hj => h.2 j (by (exact zo_1403 e hj))⟩
theorem zZrJ_s (i0 : 0 ≤ i) (h : zZrJ r i M) (hN : N = zsJ M r i.toNat (Int64.ofInt 0)) : zZrJ r (i + 1) N := by
  refine ⟨trivial, fun j hj => ?_⟩
  by_cases e : (j : Int) = i
  · rw [show j = i.toNat by (exact zo_2187 e hj i0)]
    exact zs_getJ hN ⟨by decide, by decide⟩
  · rw [zs_othJ hN (by (exact zo_148 i0 e))]
    exact h.2 j (by (exact zo_130 hj e))
end ZCPJ
def zRNi (nm : List (Int × (Nat → Int))) (F : Nat) (K : Nat → Nat → Int) (M : zMem) : Prop := (0 ≤ ze M 81 18 ∧ ze M 81 18 ≤ 8) ∧ ∃ gk : Nat → Int, nm = zup (fun k => (gk k, zrw F M 104 (64 * (k : Int)))) (ze M 81 18).toNat 0 ∧ ∀ k : Nat, (k : Int) < ze M 81 18 → zWrd (zg M 103 k) (gk k) ∧ zfit F K (zrw F M 104 (64 * (k : Int)))
section ZRNI
variable {F n : Nat} {K : Nat → Nat → Int} {b : Nat → Int} {nm : List (Int × (Nat → Int))} {S C : List Nat} {M N : zMem}
theorem zRNi.fr (hf : zFr S C M N) (h : zRNi nm F K M) (hs : 18 ∉ S) (hc : 103 ∉ C ∧ 104 ∉ C) : zRNi nm F K N := by
  obtain ⟨a1, gk, a2, a3⟩ := h
  have hv : ∀ t : Int, zrw F N 104 t = zrw F M 104 t := fun t => zrw_c (fun k _ => hf.jg (by decide) hc.2 _)
  unfold zRNi
  rw [hf.e hs]
  refine ⟨a1, gk, ?_, fun k hk => ?_⟩
  · rw [a2]
    exact zup_c _ _ (fun j _ _ => by rw [hv])
  · rw [hf.jg (by decide) hc.1, hv]
    exact a3 k hk
theorem zRNm_z (h : ze M 81 14 = 0) : zRNm [] F K b n M := ⟨by omega, fun _ => 0, by rw [h]; rfl, fun k hk => absurd hk (by omega)⟩
theorem zRNi_i (hF : F ≤ 64) (h : zRNm nm F K b n M) (e : ze N 81 18 = ze M 81 14) (c1 : zCpJ 101 103 M 8 N) (c2 : zCpJ 102 104 M 512 N) : zRNi nm F K N := by
  obtain ⟨a1, gk, a2, a3⟩ := h
  have hv : ∀ k : Nat, (k : Int) < 8 → zrw F N 104 (64 * (k : Int)) = zrw F M 102 (64 * (k : Int)) := fun k hk => by
    funext i
    unfold zrw
    split
    · exact c2 _ (by omega)
    · rfl
  unfold zRNi
  rw [e]
  refine ⟨a1, gk, ?_, fun k hk => ?_⟩
  · rw [a2]
    exact zup_c _ _ (fun j _ hj => by rw [hv j (by omega)])
  · rw [c1 k (by (exact zo_2648 a1.2 hk)), hv k (by (exact zo_2648 a1.2 hk))]
    exact a3 k hk
theorem zRNm_i (hF : F ≤ 64) (h : zRNi nm F K M) (e : ze N 81 14 = ze M 81 18) (c1 : zCpJ 103 101 M 8 N) (c2 : zCpJ 104 102 M 512 N) : zRNm nm F K b n N := by
  obtain ⟨a1, gk, a2, a3⟩ := h
  have hv : ∀ k : Nat, (k : Int) < 8 → zrw F N 102 (64 * (k : Int)) = zrw F M 104 (64 * (k : Int)) := fun k hk => by
    funext i
    unfold zrw
    split
    · exact c2 _ (by omega)
    · rfl
  unfold zRNm
  rw [e]
  refine ⟨a1, gk, ?_, fun k hk => ?_⟩
  · rw [a2]
    exact zup_c _ _ (fun j _ hj => by rw [hv j (by omega)])
  · rw [c1 k (by (exact zo_2648 a1.2 hk)), hv k (by (exact zo_2648 a1.2 hk))]
    exact a3 k hk
end ZRNI
def zTrN (b : Nat → Int) (n s P : Nat) (mv : List Nat) (T : zGT) (nm : List (Int × (Nat → Int))) : Prop := ∃ q q2 q3 : Nat, zHd b n s P q ∧ zRg (zbs b n P) (0, q, []) (1, q2, mv) ∧ T ∈ gTabs ∧ zTm mv T ∧ zRg (zls b n (gF T).length (gmkI T)) (0, q2, []) (1, q3, nm)
section ZTRN
variable {b : Nat → Int} {n s P P' : Nat} {mv mv' : List Nat} {T T' : zGT} {nm nm' : List (Int × (Nat → Int))}
theorem zTrN.p (h : zTrN b n s P mv T nm) : zTrP b n s P mv T := by
  obtain ⟨q, q2, q3, a1, a2, a3, a4, a5⟩ := h
  exact ⟨q, q2, q3, nm, a1, a2, a3, a4, a5⟩
theorem zTrN_u (h : zTrN b n s P mv T nm) (h' : zTrN b n s P' mv' T' nm') : P = P' ∧ mv = mv' ∧ T = T' ∧ nm = nm' := by
  obtain ⟨rfl, rfl, rfl⟩ := zTrP_u h.p h'.p
  obtain ⟨q, q2, q3, a1, a2, a3, a4, a5⟩ := h
  obtain ⟨r, r2, r3, b1, b2, b3, b4, b5⟩ := h'
  obtain ⟨-, rfl⟩ := zHd_u a1 b1
  have e2 := (zTrG_m (s := s) a2 b2).1
  rw [← e2] at b5
  have e3 := zRg.end a5 b5 zls_1 zls_1
  have e4 : nm = nm' := congrArg (fun x : zLst => x.2.2) e3
  exact ⟨rfl, rfl, rfl, e4⟩
end ZTRN
noncomputable def zMkT (b : Nat → Int) (n F : Nat) (K : Nat → Nat → Int) (nm : List (Int × (Nat → Int))) : zFst := zfe (zfs b n F K nm) (0, zru zpB b n 0, [], [], 0, false)
def zMkR (b : Nat → Int) (n F : Nat) (K : Nat → Nat → Int) (nm : List (Int × (Nat → Int))) (v : Nat → Int) : Prop := ∃ q un : Nat, zMkT b n F K nm = (3, q, [], [v], un, false) ∧ zkd b n q = 0
theorem zMkR_u {b : Nat → Int} {n F : Nat} {K : Nat → Nat → Int} {nm : List (Int × (Nat → Int))} {v w : Nat → Int} (h : zMkR b n F K nm v) (h' : zMkR b n F K nm w) : v = w := by
  obtain ⟨q, un, e, -⟩ := h
  obtain ⟨q', un', e', -⟩ := h'
  rw [e] at e'
  have e2 : [v] = [w] := congrArg (fun x : zFst => x.2.2.2.1) e'
  exact (List.cons.inj e2).1
def zMvq (mv : List Nat) (M : zMem) : Prop := zMvF M = mv
def zMvt (mv : List Nat) (M : zMem) : Prop := zMvs M = mv
theorem zMvq.fr {S C : List Nat} {M N : zMem} {mv : List Nat} (hf : zFr S C M N) (h : zMvq mv M) (hs : 16 ∉ S ∧ 17 ∉ S) (hc : 84 ∉ C) : zMvq mv N := (zMvF_f hf hs hc).trans h
theorem zMvt.fr {S C : List Nat} {M N : zMem} {mv : List Nat} (hf : zFr S C M N) (h : zMvt mv M) (hs : 12 ∉ S ∧ 13 ∉ S) (hc : 83 ∉ C) : zMvt mv N := (zMvs_f hf hs hc).trans h
theorem zMvF_i {M0 N : zMem} {i : Int} (hi : 24 ≤ i) (hq : zCp 83 84 M0 N i) (hk : ∀ j, ze N 83 j = ze M0 83 j) (h16 : ze N 81 16 = ze N 81 12) (h17 : ze N 81 17 = ze N 81 13) (p0 : 1 ≤ ze N 81 12) (p1 : ze N 81 12 ≤ 6) (p3 : ze N 81 13 ≤ 4) : zMvF N = zMvs N := by
  have h : ∀ j : Nat, (j : Int) < i → ze N 84 j = ze N 83 j := fun j hj => by rw [hq j hj, hk]
  unfold zMvF zMvs
  rw [h16, h17]
  apply List.map_congr_left
  intro k hk
  rw [List.mem_range] at hk
  exact zrc_c p1 (fun p hp => h _ (by omega))
theorem zMvF_b {M0 N : zMem} {i : Int} (hi : 24 ≤ i) (hq : zCp 84 83 M0 N i) (hk : ∀ j, ze N 84 j = ze M0 84 j) (hI : zIF N) (h16 : ze N 81 12 = ze N 81 16) (h17 : ze N 81 13 = ze N 81 17) : zMvs N = zMvF N := by
  have h : ∀ j : Nat, (j : Int) < i → ze N 83 j = ze N 84 j := fun j hj => by rw [hq j hj, hk]
  obtain ⟨h1, h2, h3, h4⟩ := hI
  unfold zMvF zMvs
  rw [h16, h17]
  apply List.map_congr_left
  intro k hk
  rw [List.mem_range] at hk
  exact zrc_c h1.1.2 (fun p hp => h _ (by omega))
def zRS (P : Nat) (mv : List Nat) (T : zGT) (M : zMem) : Prop := T ∈ gTabs ∧ zTm mv T ∧ zGB T M ∧ ze M 81 16 = (P : Int) ∧ zMvq mv M ∧ zCdS (P : Int) mv T M ∧ ∃ nm : List (Int × (Nat → Int)), zRNm nm (gF T).length (gmkI T) (fun _ => 0) 0 M ∧ zRNi nm (gF T).length (gmkI T) M
theorem zRS.fr {S C : List Nat} {M N : zMem} {P : Nat} {mv : List Nat} {T : zGT} (hf : zFr S C M N) (h : zRS P mv T M) (hss : (14 ∉ S ∧ 18 ∉ S) ∧ 16 ∉ S ∧ 17 ∉ S ∧ 20 ∉ S ∧ 25 ∉ S ∧ 26 ∉ S) (hcc : (((101 ∉ C ∧ 102 ∉ C) ∧ 103 ∉ C ∧ 104 ∉ C) ∧ 92 ∉ C) ∧ 84 ∉ C ∧ 85 ∉ C ∧ 87 ∉ C ∧ 88 ∉ C ∧ 89 ∉ C ∧ 90 ∉ C ∧ 91 ∉ C ∧ 93 ∉ C ∧ 94 ∉ C) : zRS P mv T N := by
  obtain ⟨hn, hs⟩ := hss
  obtain ⟨⟨hm, h92⟩, hc⟩ := hcc
  obtain ⟨a1, a2, a3, a4, a5, a6, nm, a7, a8⟩ := h
  exact ⟨a1, a2, zGB.fr hf a3 hs.2.2 hc.2, by rw [hf.e hs.1]; exact a4, zMvq.fr hf a5 ⟨hs.1, hs.2.1⟩ hc.1, zCdS.fr hf a6 hs.2.2.2.1 ⟨hc.2.1, hc.2.2.2.2.2.1, h92⟩, nm, zRNm.fr hf a7 hn.1 hm.1, zRNi.fr hf a8 hn.2 hm.2⟩
set_option maxHeartbeats 40000000 in
theorem c_M_inForceN (l : Launch) (Mz : zMem) (hW : zMt Mz) (mv_ : List Nat) (b_ : Nat → Int) (n_ : Nat) (F_ : Nat) (K_ : Nat → Nat → Int) (hF64_ : F_ ≤ 64) (nm_ : List (Int × (Nat → Int))) (p0_ : 1 ≤ ze Mz 81 12) (p1_ : ze Mz 81 12 ≤ 6) (p2_ : 0 ≤ ze Mz 81 13) (p3_ : ze Mz 81 13 ≤ 4) (p4_ : zPm Mz) (p5_ : zFin Mz) (p6_ : zB 83 24 0 5 Mz) (p7_ : 0 ≤ ze Mz 81 14) (p8_ : ze Mz 81 14 ≤ 8) (p9_ : zMvt mv_ Mz) (p10_ : zRNm nm_ F_ K_ b_ n_ Mz) : zC l m_M_inForce 0 0 [.ref 81] Mz (zpV [16, 17, 18, 58, 60] [84, 98, 103, 104] Mz (fun N => zIF N ∧ ze N 81 60 = 0 ∧ 0 ≤ ze N 81 18 ∧ ze N 81 18 ≤ 8 ∧ zMvq mv_ N ∧ ze N 81 16 = ze Mz 81 12 ∧ zRNi nm_ F_ K_ N ∧ zZrJ 98 64 N)) := by
  refine zC_of (L0 := [some (.ref 81), none]) md_M_inForce (Nat.le_of_ble_eq_true rfl) rfl ?_ zQ0
  have hf : zFr [16, 17, 18, 58, 60] [84, 98, 103, 104] Mz Mz := zFr.rf
  have r_12 := ze_r Mz 81 12
  have r_13 := ze_r Mz 81 13
  have r_14 := ze_r Mz 81 14
  have r_16 := ze_r Mz 81 16
  have r_17 := ze_r Mz 81 17
  have r_18 := ze_r Mz 81 18
  have r_58 := ze_r Mz 81 58
  have r_60 := ze_r Mz 81 60
  refine zw_aload_n (pc := 0) (n := 0) (x := 81) rfl (zdal_p dlC_M_inForce_48 (i := 0) rfl) ?_
  refine zw_aload_n (pc := 1) (n := 0) (x := 81) rfl (zdal_p dlC_M_inForce_48 (i := 1) rfl) ?_
  refine zr_getI0 hf hW (pc := 2) (by decide) f_M_115 rfl (zdal_p dlC_M_inForce_48 (i := 2) rfl) ?_
  refine zr_putI (hf.w hW) (pc := 5) f_M_382 rfl rfl ⟨by (exact zo_920 p0_), by omega⟩ rfl rfl (zdal_p dlC_M_inForce_48 (i := 3) rfl) (fun N1_ hsN1_ hvN1_ => ?_)
  have hf_N1_ : zFr [16, 17, 18, 58, 60] [84, 98, 103, 104] Mz N1_ := hf.tr hsN1_ (by decide) (by decide)
  have e12_N1_ : ze N1_ 81 12 = ze Mz 81 12 := hsN1_.e (by decide)
  have e13_N1_ : ze N1_ 81 13 = ze Mz 81 13 := hsN1_.e (by decide)
  have e14_N1_ : ze N1_ 81 14 = ze Mz 81 14 := hsN1_.e (by decide)
  have r16_N1_ := ze_r N1_ 81 16
  have e17_N1_ : ze N1_ 81 17 = ze Mz 81 17 := hsN1_.e (by decide)
  have e18_N1_ : ze N1_ 81 18 = ze Mz 81 18 := hsN1_.e (by decide)
  have e58_N1_ : ze N1_ 81 58 = ze Mz 81 58 := hsN1_.e (by decide)
  have e60_N1_ : ze N1_ 81 60 = ze Mz 81 60 := hsN1_.e (by decide)
  have c2_ : zPm N1_ := zPm.fr hsN1_ p4_ (by decide) (by decide)
  have c3_ : zFin N1_ := zFin.fr hsN1_ p5_ (by decide) (by decide)
  have c4_ : zB 83 24 0 5 N1_ := zB.fr hsN1_ p6_ (by decide) (by decide)
  have c5_ : zMvt mv_ N1_ := zMvt.fr hsN1_ p9_ (by decide) (by decide)
  have c6_ : zRNm nm_ F_ K_ b_ n_ N1_ := zRNm.fr hsN1_ p10_ (by decide) (by decide)
  refine zw_aload_n (pc := 8) (n := 0) (x := 81) rfl (zdal_p dlC_M_inForce_48 (i := 4) rfl) ?_
  refine zw_aload_n (pc := 9) (n := 0) (x := 81) rfl (zdal_p dlC_M_inForce_48 (i := 5) rfl) ?_
  refine zr_getI0 hf_N1_ hW (pc := 10) (by decide) f_M_199 rfl (zdal_p dlC_M_inForce_48 (i := 6) rfl) ?_
  refine zr_putI (hf_N1_.w hW) (pc := 13) f_M_385 rfl rfl ⟨by (exact zo_168 p2_), by omega⟩ rfl rfl (zdal_p dlC_M_inForce_48 (i := 7) rfl) (fun N7_ hsN7_ hvN7_ => ?_)
  have hf_N7_ : zFr [16, 17, 18, 58, 60] [84, 98, 103, 104] Mz N7_ := hf_N1_.tr hsN7_ (by decide) (by decide)
  have e12_N7_ : ze N7_ 81 12 = ze N1_ 81 12 := hsN7_.e (by decide)
  have e13_N7_ : ze N7_ 81 13 = ze N1_ 81 13 := hsN7_.e (by decide)
  have e14_N7_ : ze N7_ 81 14 = ze N1_ 81 14 := hsN7_.e (by decide)
  have e16_N7_ : ze N7_ 81 16 = ze N1_ 81 16 := hsN7_.e (by decide)
  have r17_N7_ := ze_r N7_ 81 17
  have e18_N7_ : ze N7_ 81 18 = ze N1_ 81 18 := hsN7_.e (by decide)
  have e58_N7_ : ze N7_ 81 58 = ze N1_ 81 58 := hsN7_.e (by decide)
  have e60_N7_ : ze N7_ 81 60 = ze N1_ 81 60 := hsN7_.e (by decide)
  have c8_ : zPm N7_ := zPm.fr hsN7_ c2_ (by decide) (by decide)
  have c9_ : zFin N7_ := zFin.fr hsN7_ c3_ (by decide) (by decide)
  have c10_ : zB 83 24 0 5 N7_ := zB.fr hsN7_ c4_ (by decide) (by decide)
  have c11_ : zMvt mv_ N7_ := zMvt.fr hsN7_ c5_ (by decide) (by decide)
  have c12_ : zRNm nm_ F_ K_ b_ n_ N7_ := zRNm.fr hsN7_ c6_ (by decide) (by decide)
  refine zw_aload_n (pc := 16) (n := 0) (x := 81) rfl (zdal_p dlC_M_inForce_48 (i := 8) rfl) ?_
  refine zw_aload_n (pc := 17) (n := 0) (x := 81) rfl (zdal_p dlC_M_inForce_48 (i := 9) rfl) ?_
  refine zr_getI0 hf_N7_ hW (pc := 18) (by decide) f_M_299 rfl (zdal_p dlC_M_inForce_48 (i := 10) rfl) ?_
  refine zr_putI (hf_N7_.w hW) (pc := 21) f_M_388 rfl rfl ⟨by (exact zo_168 p7_), by omega⟩ rfl rfl (zdal_p dlC_M_inForce_48 (i := 11) rfl) (fun N13_ hsN13_ hvN13_ => ?_)
  have hf_N13_ : zFr [16, 17, 18, 58, 60] [84, 98, 103, 104] Mz N13_ := hf_N7_.tr hsN13_ (by decide) (by decide)
  have e12_N13_ : ze N13_ 81 12 = ze N7_ 81 12 := hsN13_.e (by decide)
  have e13_N13_ : ze N13_ 81 13 = ze N7_ 81 13 := hsN13_.e (by decide)
  have e14_N13_ : ze N13_ 81 14 = ze N7_ 81 14 := hsN13_.e (by decide)
  have e16_N13_ : ze N13_ 81 16 = ze N7_ 81 16 := hsN13_.e (by decide)
  have e17_N13_ : ze N13_ 81 17 = ze N7_ 81 17 := hsN13_.e (by decide)
  have r18_N13_ := ze_r N13_ 81 18
  have e58_N13_ : ze N13_ 81 58 = ze N7_ 81 58 := hsN13_.e (by decide)
  have e60_N13_ : ze N13_ 81 60 = ze N7_ 81 60 := hsN13_.e (by decide)
  have c14_ : zPm N13_ := zPm.fr hsN13_ c8_ (by decide) (by decide)
  have c15_ : zFin N13_ := zFin.fr hsN13_ c9_ (by decide) (by decide)
  have c16_ : zB 83 24 0 5 N13_ := zB.fr hsN13_ c10_ (by decide) (by decide)
  have c17_ : zMvt mv_ N13_ := zMvt.fr hsN13_ c11_ (by decide) (by decide)
  have c18_ : zRNm nm_ F_ K_ b_ n_ N13_ := zRNm.fr hsN13_ c12_ (by decide) (by decide)
  refine zw_iconst (pc := 24) (v := Int32.ofInt 0) (by decide) (zdal_p dlC_M_inForce_48 (i := 12) rfl) ?_
  refine zw_istore_n (pc := 25) (i := 1) (L2 := [some (.ref 81), some (.int (Int32.ofInt 0))]) rfl (by decide) rfl (zdal_p dlC_M_inForce_48 (i := 13) rfl) ?_
  have lp_26 : ∀ (n : Nat) (u19_ : Int) (hu19_a : -2147483648 ≤ u19_) (hu19_b : u19_ < 2147483648) (N20_ : zMem) (hs21_ : zFr [] [84] N13_ N20_) (i22_ : 0 ≤ u19_) (i23_ : zCp 83 84 Mz N20_ u19_), (24 - u19_).toNat < n → zW l m_M_inForce (zn Mz + 0, zw Mz + 0) N20_ 26 [some (.ref 81), some (.int (Int32.ofInt u19_))] [] (zpV [16, 17, 18, 58, 60] [84, 98, 103, 104] Mz (fun N => zIF N ∧ ze N 81 60 = 0 ∧ 0 ≤ ze N 81 18 ∧ ze N 81 18 ≤ 8 ∧ zMvq mv_ N ∧ ze N 81 16 = ze Mz 81 12 ∧ zRNi nm_ F_ K_ N ∧ zZrJ 98 64 N)) := by
    intro n
    induction n with
    | zero =>
      intro u19_ hu19_a hu19_b N20_ hs21_ i22_ i23_ h0
      exact absurd h0 (Nat.not_lt_zero _)
    | succ n ih_26 =>
      intro u19_ hu19_a hu19_b N20_ hs21_ i22_ i23_ hlt_26
      have hf_N20_ : zFr [16, 17, 18, 58, 60] [84, 98, 103, 104] Mz N20_ := hf_N13_.tr hs21_ (by decide) (by decide)
      have e12_N20_ : ze N20_ 81 12 = ze N13_ 81 12 := hs21_.e (by decide)
      have e13_N20_ : ze N20_ 81 13 = ze N13_ 81 13 := hs21_.e (by decide)
      have e14_N20_ : ze N20_ 81 14 = ze N13_ 81 14 := hs21_.e (by decide)
      have e16_N20_ : ze N20_ 81 16 = ze N13_ 81 16 := hs21_.e (by decide)
      have e17_N20_ : ze N20_ 81 17 = ze N13_ 81 17 := hs21_.e (by decide)
      have e18_N20_ : ze N20_ 81 18 = ze N13_ 81 18 := hs21_.e (by decide)
      have e58_N20_ : ze N20_ 81 58 = ze N13_ 81 58 := hs21_.e (by decide)
      have e60_N20_ : ze N20_ 81 60 = ze N13_ 81 60 := hs21_.e (by decide)
      have c24_ : zPm N20_ := zPm.fr hs21_ c14_ (by decide) (by decide)
      have c25_ : zFin N20_ := zFin.fr hs21_ c15_ (by decide) (by decide)
      have c26_ : zB 83 24 0 5 N20_ := zB.fr hs21_ c16_ (by decide) (by decide)
      have c27_ : zMvt mv_ N20_ := zMvt.fr hs21_ c17_ (by decide) (by decide)
      have c28_ : zRNm nm_ F_ K_ b_ n_ N20_ := zRNm.fr hs21_ c18_ (by decide) (by decide)
      refine zw_iload_n (pc := 26) (n := 1) (x := Int32.ofInt u19_) rfl (zdal_p dlC_M_inForce_48 (i := 14) rfl) ?_
      refine zw_bipush (pc := 27) (v := Int32.ofInt 24) (by decide) (zdal_p dlC_M_inForce_48 (i := 15) rfl) ?_
      refine zr_icmp_ge (pc := 29) (tgt := 50) ⟨hu19_a, hu19_b⟩ ⟨(by decide), (by decide)⟩ (by decide) (zdal_p dlC_M_inForce_48 (i := 16) rfl) (fun hc_29 => ?_) (fun hc_29 => ?_)
      · skip
        have hI_ : zIF N20_ := zIF_i (by (exact hc_29)) (show zCp 83 84 Mz N20_ u19_ by first | with_reducible assumption | assumption) (fun j => hf_N20_.ie (by decide) (by decide) j) (by omega) (by omega) (by omega) (by omega) (by omega) (by omega) c24_ c25_ c26_
        have hMq_ : zMvq mv_ N20_ := (zMvF_i (by (exact hc_29)) (show zCp 83 84 Mz N20_ u19_ by first | with_reducible assumption | assumption) (fun j => hf_N20_.ie (by decide) (by decide) j) (by omega) (by omega) (by omega) (by omega) (by omega)).trans c27_
        refine zw_iconst (pc := 50) (v := Int32.ofInt 0) (by decide) (zdal_p dlC_M_inForce_49 (i := 3) rfl) ?_
        refine zw_istore_n (pc := 51) (i := 1) (L2 := [some (.ref 81), some (.int (Int32.ofInt 0))]) rfl (by decide) rfl (zdal_p dlC_M_inForce_49 (i := 4) rfl) ?_
        have lp_52 : ∀ (n : Nat) (u29_ : Int) (hu29_a : -2147483648 ≤ u29_) (hu29_b : u29_ < 2147483648) (N30_ : zMem) (hs31_ : zFr [] [103] N20_ N30_) (i32_ : 0 ≤ u29_) (i33_ : zCpJ 101 103 Mz u29_ N30_), (8 - u29_).toNat < n → zW l m_M_inForce (zn Mz + 0, zw Mz + 0) N30_ 52 [some (.ref 81), some (.int (Int32.ofInt u29_))] [] (zpV [16, 17, 18, 58, 60] [84, 98, 103, 104] Mz (fun N => zIF N ∧ ze N 81 60 = 0 ∧ 0 ≤ ze N 81 18 ∧ ze N 81 18 ≤ 8 ∧ zMvq mv_ N ∧ ze N 81 16 = ze Mz 81 12 ∧ zRNi nm_ F_ K_ N ∧ zZrJ 98 64 N)) := by
          intro n
          induction n with
          | zero =>
            intro u29_ hu29_a hu29_b N30_ hs31_ i32_ i33_ h0
            exact absurd h0 (Nat.not_lt_zero _)
          | succ n ih_52 =>
            intro u29_ hu29_a hu29_b N30_ hs31_ i32_ i33_ hlt_52
            have hf_N30_ : zFr [16, 17, 18, 58, 60] [84, 98, 103, 104] Mz N30_ := hf_N20_.tr hs31_ (by decide) (by decide)
            have e12_N30_ : ze N30_ 81 12 = ze N20_ 81 12 := hs31_.e (by decide)
            have e13_N30_ : ze N30_ 81 13 = ze N20_ 81 13 := hs31_.e (by decide)
            have e14_N30_ : ze N30_ 81 14 = ze N20_ 81 14 := hs31_.e (by decide)
            have e16_N30_ : ze N30_ 81 16 = ze N20_ 81 16 := hs31_.e (by decide)
            have e17_N30_ : ze N30_ 81 17 = ze N20_ 81 17 := hs31_.e (by decide)
            have e18_N30_ : ze N30_ 81 18 = ze N20_ 81 18 := hs31_.e (by decide)
            have e58_N30_ : ze N30_ 81 58 = ze N20_ 81 58 := hs31_.e (by decide)
            have e60_N30_ : ze N30_ 81 60 = ze N20_ 81 60 := hs31_.e (by decide)
            have c34_ : zPm N30_ := zPm.fr hs31_ c24_ (by decide) (by decide)
            have c35_ : zFin N30_ := zFin.fr hs31_ c25_ (by decide) (by decide)
            have c36_ : zB 83 24 0 5 N30_ := zB.fr hs31_ c26_ (by decide) (by decide)
            have c37_ : zMvt mv_ N30_ := zMvt.fr hs31_ c27_ (by decide) (by decide)
            have c38_ : zRNm nm_ F_ K_ b_ n_ N30_ := zRNm.fr hs31_ c28_ (by decide) (by decide)
            have c39_ : zIF N30_ := zIF.fr hs31_ hI_ (by decide) (by decide)
            have c40_ : zMvq mv_ N30_ := zMvq.fr hs31_ hMq_ (by decide) (by decide)
            refine zw_iload_n (pc := 52) (n := 1) (x := Int32.ofInt u29_) rfl (zdal_p dlC_M_inForce_49 (i := 5) rfl) ?_
            refine zw_bipush (pc := 53) (v := Int32.ofInt 8) (by decide) (zdal_p dlC_M_inForce_49 (i := 6) rfl) ?_
            refine zr_icmp_ge (pc := 55) (tgt := 76) ⟨hu29_a, hu29_b⟩ ⟨(by decide), (by decide)⟩ (by decide) (zdal_p dlC_M_inForce_49 (i := 7) rfl) (fun hc_55 => ?_) (fun hc_55 => ?_)
            · skip
              have hc1_ := (show zCpJ 101 103 Mz u29_ N30_ by first | with_reducible assumption | assumption).le (n := 8) (by (exact hc_55))
              refine zw_iconst (pc := 76) (v := Int32.ofInt 0) (by decide) (zdal_p dlC_M_inForce_49 (i := 18) rfl) ?_
              refine zw_istore_n (pc := 77) (i := 1) (L2 := [some (.ref 81), some (.int (Int32.ofInt 0))]) rfl (by decide) rfl (zdal_p dlC_M_inForce_49 (i := 19) rfl) ?_
              have lp_78 : ∀ (n : Nat) (u41_ : Int) (hu41_a : -2147483648 ≤ u41_) (hu41_b : u41_ < 2147483648) (N42_ : zMem) (hs43_ : zFr [] [104] N30_ N42_) (i44_ : 0 ≤ u41_) (i45_ : zCpJ 102 104 Mz u41_ N42_), (512 - u41_).toNat < n → zW l m_M_inForce (zn Mz + 0, zw Mz + 0) N42_ 78 [some (.ref 81), some (.int (Int32.ofInt u41_))] [] (zpV [16, 17, 18, 58, 60] [84, 98, 103, 104] Mz (fun N => zIF N ∧ ze N 81 60 = 0 ∧ 0 ≤ ze N 81 18 ∧ ze N 81 18 ≤ 8 ∧ zMvq mv_ N ∧ ze N 81 16 = ze Mz 81 12 ∧ zRNi nm_ F_ K_ N ∧ zZrJ 98 64 N)) := by
                intro n
                induction n with
                | zero =>
                  intro u41_ hu41_a hu41_b N42_ hs43_ i44_ i45_ h0
                  exact absurd h0 (Nat.not_lt_zero _)
                | succ n ih_78 =>
                  intro u41_ hu41_a hu41_b N42_ hs43_ i44_ i45_ hlt_78
                  have hf_N42_ : zFr [16, 17, 18, 58, 60] [84, 98, 103, 104] Mz N42_ := hf_N30_.tr hs43_ (by decide) (by decide)
                  have e12_N42_ : ze N42_ 81 12 = ze N30_ 81 12 := hs43_.e (by decide)
                  have e13_N42_ : ze N42_ 81 13 = ze N30_ 81 13 := hs43_.e (by decide)
                  have e14_N42_ : ze N42_ 81 14 = ze N30_ 81 14 := hs43_.e (by decide)
                  have e16_N42_ : ze N42_ 81 16 = ze N30_ 81 16 := hs43_.e (by decide)
                  have e17_N42_ : ze N42_ 81 17 = ze N30_ 81 17 := hs43_.e (by decide)
                  have e18_N42_ : ze N42_ 81 18 = ze N30_ 81 18 := hs43_.e (by decide)
                  have e58_N42_ : ze N42_ 81 58 = ze N30_ 81 58 := hs43_.e (by decide)
                  have e60_N42_ : ze N42_ 81 60 = ze N30_ 81 60 := hs43_.e (by decide)
                  have c46_ : zPm N42_ := zPm.fr hs43_ c34_ (by decide) (by decide)
                  have c47_ : zFin N42_ := zFin.fr hs43_ c35_ (by decide) (by decide)
                  have c48_ : zB 83 24 0 5 N42_ := zB.fr hs43_ c36_ (by decide) (by decide)
                  have c49_ : zMvt mv_ N42_ := zMvt.fr hs43_ c37_ (by decide) (by decide)
                  have c50_ : zRNm nm_ F_ K_ b_ n_ N42_ := zRNm.fr hs43_ c38_ (by decide) (by decide)
                  have c51_ : zIF N42_ := zIF.fr hs43_ c39_ (by decide) (by decide)
                  have c52_ : zMvq mv_ N42_ := zMvq.fr hs43_ c40_ (by decide) (by decide)
                  have c53_ : zCpJ 101 103 Mz 8 N42_ := zCpJ.fr hs43_ hc1_ (by decide) (by decide)
                  refine zw_iload_n (pc := 78) (n := 1) (x := Int32.ofInt u41_) rfl (zdal_p dlC_M_inForce_49 (i := 20) rfl) ?_
                  refine zw_sipush (pc := 79) (v := Int32.ofInt 512) (by decide) (zdal_p dlC_M_inForce_49 (i := 21) rfl) ?_
                  refine zr_icmp_ge (pc := 82) (tgt := 103) ⟨hu41_a, hu41_b⟩ ⟨(by decide), (by decide)⟩ (by decide) (zdal_p dlC_M_inForce_49 (i := 22) rfl) (fun hc_82 => ?_) (fun hc_82 => ?_)
                  · skip
                    have hc2_ := (show zCpJ 102 104 Mz u41_ N42_ by first | with_reducible assumption | assumption).le (n := 512) (by (exact hc_82))
                    refine zw_iconst (pc := 103) (v := Int32.ofInt 0) (by decide) (zdal_p dlC_M_inForce_50 (i := 9) rfl) ?_
                    refine zw_istore_n (pc := 104) (i := 1) (L2 := [some (.ref 81), some (.int (Int32.ofInt 0))]) rfl (by decide) rfl (zdal_p dlC_M_inForce_50 (i := 10) rfl) ?_
                    have lp_105 : ∀ (n : Nat) (u54_ : Int) (hu54_a : -2147483648 ≤ u54_) (hu54_b : u54_ < 2147483648) (N55_ : zMem) (hs56_ : zFr [] [98] N42_ N55_) (i57_ : 0 ≤ u54_) (i58_ : zZrJ 98 u54_ N55_), (64 - u54_).toNat < n → zW l m_M_inForce (zn Mz + 0, zw Mz + 0) N55_ 105 [some (.ref 81), some (.int (Int32.ofInt u54_))] [] (zpV [16, 17, 18, 58, 60] [84, 98, 103, 104] Mz (fun N => zIF N ∧ ze N 81 60 = 0 ∧ 0 ≤ ze N 81 18 ∧ ze N 81 18 ≤ 8 ∧ zMvq mv_ N ∧ ze N 81 16 = ze Mz 81 12 ∧ zRNi nm_ F_ K_ N ∧ zZrJ 98 64 N)) := by
                      intro n
                      induction n with
                      | zero =>
                        intro u54_ hu54_a hu54_b N55_ hs56_ i57_ i58_ h0
                        exact absurd h0 (Nat.not_lt_zero _)
                      | succ n ih_105 =>
                        intro u54_ hu54_a hu54_b N55_ hs56_ i57_ i58_ hlt_105
                        have hf_N55_ : zFr [16, 17, 18, 58, 60] [84, 98, 103, 104] Mz N55_ := hf_N42_.tr hs56_ (by decide) (by decide)
                        have e12_N55_ : ze N55_ 81 12 = ze N42_ 81 12 := hs56_.e (by decide)
                        have e13_N55_ : ze N55_ 81 13 = ze N42_ 81 13 := hs56_.e (by decide)
                        have e14_N55_ : ze N55_ 81 14 = ze N42_ 81 14 := hs56_.e (by decide)
                        have e16_N55_ : ze N55_ 81 16 = ze N42_ 81 16 := hs56_.e (by decide)
                        have e17_N55_ : ze N55_ 81 17 = ze N42_ 81 17 := hs56_.e (by decide)
                        have e18_N55_ : ze N55_ 81 18 = ze N42_ 81 18 := hs56_.e (by decide)
                        have e58_N55_ : ze N55_ 81 58 = ze N42_ 81 58 := hs56_.e (by decide)
                        have e60_N55_ : ze N55_ 81 60 = ze N42_ 81 60 := hs56_.e (by decide)
                        have c64_ : zIF N55_ := zIF.fr hs56_ c51_ (by decide) (by decide)
                        have c65_ : zMvq mv_ N55_ := zMvq.fr hs56_ c52_ (by decide) (by decide)
                        have c66_ : zCpJ 101 103 Mz 8 N55_ := zCpJ.fr hs56_ c53_ (by decide) (by decide)
                        have c67_ : zCpJ 102 104 Mz 512 N55_ := zCpJ.fr hs56_ hc2_ (by decide) (by decide)
                        refine zw_iload_n (pc := 105) (n := 1) (x := Int32.ofInt u54_) rfl (zdal_p dlC_M_inForce_50 (i := 11) rfl) ?_
                        refine zw_bipush (pc := 106) (v := Int32.ofInt 64) (by decide) (zdal_p dlC_M_inForce_50 (i := 12) rfl) ?_
                        refine zr_icmp_ge (pc := 108) (tgt := 124) ⟨hu54_a, hu54_b⟩ ⟨(by decide), (by decide)⟩ (by decide) (zdal_p dlC_M_inForce_50 (i := 13) rfl) (fun hc_108 => ?_) (fun hc_108 => ?_)
                        · skip
                          have hz_ := (show zZrJ 98 u54_ N55_ by first | with_reducible assumption | assumption).le (n := 64) (by (exact hc_108))
                          have hni_ : zRNi nm_ F_ K_ N55_ := zRNi_i hF64_ p10_ (by (exact zo_1053 e18_N20_ e18_N30_ e18_N42_ e18_N55_ hvN13_)) c66_ c67_
                          refine zw_aload_n (pc := 124) (n := 0) (x := 81) rfl (zdal_p dlC_M_inForce_50 (i := 21) rfl) ?_
                          refine zw_iconst (pc := 125) (v := Int32.ofInt 0) (by decide) (zdal_p dlC_M_inForce_50 (i := 22) rfl) ?_
                          refine zr_putI (hf_N55_.w hW) (pc := 126) f_M_391 rfl rfl ⟨by (decide), by (decide)⟩ rfl rfl (zdal_p dlC_M_inForce_50 (i := 23) rfl) (fun N68_ hsN68_ hvN68_ => ?_)
                          have hf_N68_ : zFr [16, 17, 18, 58, 60] [84, 98, 103, 104] Mz N68_ := hf_N55_.tr hsN68_ (by decide) (by decide)
                          have e12_N68_ : ze N68_ 81 12 = ze N55_ 81 12 := hsN68_.e (by decide)
                          have e13_N68_ : ze N68_ 81 13 = ze N55_ 81 13 := hsN68_.e (by decide)
                          have e14_N68_ : ze N68_ 81 14 = ze N55_ 81 14 := hsN68_.e (by decide)
                          have e16_N68_ : ze N68_ 81 16 = ze N55_ 81 16 := hsN68_.e (by decide)
                          have e17_N68_ : ze N68_ 81 17 = ze N55_ 81 17 := hsN68_.e (by decide)
                          have e18_N68_ : ze N68_ 81 18 = ze N55_ 81 18 := hsN68_.e (by decide)
                          have e58_N68_ : ze N68_ 81 58 = ze N55_ 81 58 := hsN68_.e (by decide)
                          have r60_N68_ := ze_r N68_ 81 60
                          have c74_ : zIF N68_ := zIF.fr hsN68_ c64_ (by decide) (by decide)
                          have c75_ : zMvq mv_ N68_ := zMvq.fr hsN68_ c65_ (by decide) (by decide)
                          have c78_ : zZrJ 98 64 N68_ := zZrJ.fr hsN68_ hz_ (by decide) (by decide)
                          have c79_ : zRNi nm_ F_ K_ N68_ := zRNi.fr hsN68_ hni_ (by decide) (by decide)
                          refine zw_aload_n (pc := 129) (n := 0) (x := 81) rfl (zdal_p dlC_M_inForce_51 (i := 0) rfl) ?_
                          refine zw_iconst (pc := 130) (v := Int32.ofInt 0) (by decide) (zdal_p dlC_M_inForce_51 (i := 1) rfl) ?_
                          refine zr_putI (hf_N68_.w hW) (pc := 131) f_M_394 rfl rfl ⟨by (decide), by (decide)⟩ (z_narB (by (decide))) (z_fitB (by (decide))) (zdal_p dlC_M_inForce_51 (i := 2) rfl) (fun N80_ hsN80_ hvN80_ => ?_)
                          have hf_N80_ : zFr [16, 17, 18, 58, 60] [84, 98, 103, 104] Mz N80_ := hf_N68_.tr hsN80_ (by decide) (by decide)
                          have e12_N80_ : ze N80_ 81 12 = ze N68_ 81 12 := hsN80_.e (by decide)
                          have e13_N80_ : ze N80_ 81 13 = ze N68_ 81 13 := hsN80_.e (by decide)
                          have e14_N80_ : ze N80_ 81 14 = ze N68_ 81 14 := hsN80_.e (by decide)
                          have e16_N80_ : ze N80_ 81 16 = ze N68_ 81 16 := hsN80_.e (by decide)
                          have e17_N80_ : ze N80_ 81 17 = ze N68_ 81 17 := hsN80_.e (by decide)
                          have e18_N80_ : ze N80_ 81 18 = ze N68_ 81 18 := hsN80_.e (by decide)
                          have r58_N80_ := ze_r N80_ 81 58
                          have e60_N80_ : ze N80_ 81 60 = ze N68_ 81 60 := hsN80_.e (by decide)
                          have c86_ : zIF N80_ := zIF.fr hsN80_ c74_ (by decide) (by decide)
                          have c87_ : zMvq mv_ N80_ := zMvq.fr hsN80_ c75_ (by decide) (by decide)
                          have c90_ : zZrJ 98 64 N80_ := zZrJ.fr hsN80_ c78_ (by decide) (by decide)
                          have c91_ : zRNi nm_ F_ K_ N80_ := zRNi.fr hsN80_ c79_ (by decide) (by decide)
                          exact zr_vret (pc := 134) rfl hf_N80_ ⟨c86_, (show ze N80_ 81 60 = 0 by first | with_reducible assumption | (exact zo_610 e60_N80_ hvN68_) | assumption), (show 0 ≤ ze N80_ 81 18 by first | with_reducible assumption | assumption | omega), (show ze N80_ 81 18 ≤ 8 by first | with_reducible assumption | assumption | omega), c87_, (show ze N80_ 81 16 = ze Mz 81 12 by first | with_reducible assumption | assumption | omega), c91_, c90_⟩ (zdal_p dlC_M_inForce_51 (i := 3) rfl)
                        · skip
                          refine zw_aload_n (pc := 111) (n := 0) (x := 81) rfl (zdal_p dlC_M_inForce_50 (i := 14) rfl) ?_
                          refine zr_getF (r := 98) (hf_N55_.w hW) (pc := 112) f_M_66 rfl (zh_98 (hf_N55_.w hW)).1 (zdal_p dlC_M_inForce_50 (i := 15) rfl) ?_
                          refine zw_iload_n (pc := 115) (n := 1) (x := Int32.ofInt u54_) rfl (zdal_p dlC_M_inForce_50 (i := 16) rfl) ?_
                          refine zw_lconst (pc := 116) (v := Int64.ofInt 0) (by decide) (zdal_p dlC_M_inForce_50 (i := 17) rfl) ?_
                          refine zr_last (pc := 117) (zh_98 (hf_N55_.w hW)).2 (by decide) (by decide) (by (exact i57_)) (by (exact zo_2451 hc_108)) (zdal_p dlC_M_inForce_50 (i := 18) rfl) (fun N92_ hN92_ hsN92_ => ?_)
                          have hf_N92_ : zFr [16, 17, 18, 58, 60] [84, 98, 103, 104] Mz N92_ := hf_N55_.tr hsN92_ (by decide) (by decide)
                          have hb0_N92_ : zFr [] [98] N42_ N92_ := hs56_.tr hsN92_ (by decide) (by decide)
                          have e12_N92_ : ze N92_ 81 12 = ze N55_ 81 12 := hsN92_.e (by decide)
                          have e13_N92_ : ze N92_ 81 13 = ze N55_ 81 13 := hsN92_.e (by decide)
                          have e14_N92_ : ze N92_ 81 14 = ze N55_ 81 14 := hsN92_.e (by decide)
                          have e16_N92_ : ze N92_ 81 16 = ze N55_ 81 16 := hsN92_.e (by decide)
                          have e17_N92_ : ze N92_ 81 17 = ze N55_ 81 17 := hsN92_.e (by decide)
                          have e18_N92_ : ze N92_ 81 18 = ze N55_ 81 18 := hsN92_.e (by decide)
                          have e58_N92_ : ze N92_ 81 58 = ze N55_ 81 58 := hsN92_.e (by decide)
                          have e60_N92_ : ze N92_ 81 60 = ze N55_ 81 60 := hsN92_.e (by decide)
                          have hJ3_ := zZrJ_s (by (exact i57_)) (show zZrJ 98 u54_ N55_ by first | with_reducible assumption | assumption) hN92_
                          refine zr_iinc (pc := 118) (i := 1) (a := u54_) (n := 1) (L2 := [some (.ref 81), some (.int (Int32.ofInt (u54_ + 1)))]) rfl (by decide) rfl (zdal_p dlC_M_inForce_50 (i := 19) rfl) ?_
                          refine zw_goto (pc := 121) (tgt := 105) (by decide) (zdal_p dlC_M_inForce_50 (i := 20) rfl) ?_
                          exact ih_105 (u54_ + 1) (by (exact zo_74 i57_)) (by (exact zo_2454 hc_108)) N92_ hb0_N92_ (show 0 ≤ (u54_ + 1) by first | with_reducible assumption | (exact zo_76 i57_) | assumption) (show zZrJ 98 (u54_ + 1) N92_ by exact hJ3_) (by (exact zo_2455 hc_108 hlt_105 i57_))
                    exact lp_105 _ 0 (by decide) (by decide) N42_ zFr.rf (show 0 ≤ (0 : Int) by first | with_reducible assumption | (decide) | assumption) (show zZrJ 98 (0 : Int) N42_ by exact zZrJ_0) (Nat.lt_succ_self _)
                  · skip
                    refine zw_aload_n (pc := 85) (n := 0) (x := 81) rfl (zdal_p dlC_M_inForce_49 (i := 23) rfl) ?_
                    refine zr_getF (r := 104) (hf_N42_.w hW) (pc := 86) f_M_84 rfl (zh_104 (hf_N42_.w hW)).1 (zdal_p dlC_M_inForce_50 (i := 0) rfl) ?_
                    refine zw_iload_n (pc := 89) (n := 1) (x := Int32.ofInt u41_) rfl (zdal_p dlC_M_inForce_50 (i := 1) rfl) ?_
                    refine zw_aload_n (pc := 90) (n := 0) (x := 81) rfl (zdal_p dlC_M_inForce_50 (i := 2) rfl) ?_
                    refine zr_getF (r := 102) (hf_N42_.w hW) (pc := 91) f_M_78 rfl (zh_102 (hf_N42_.w hW)).1 (zdal_p dlC_M_inForce_50 (i := 3) rfl) ?_
                    refine zw_iload_n (pc := 94) (n := 1) (x := Int32.ofInt u41_) rfl (zdal_p dlC_M_inForce_50 (i := 4) rfl) ?_
                    refine zr_laldn (pc := 95) (zh_102 (hf_N42_.w hW)).2 (by decide) (by (exact i44_)) (by (exact zo_2661 hc_82)) (zdal_p dlC_M_inForce_50 (i := 5) rfl) (fun v102_ hv102_ hv102_a hv102_b => ?_)
                    rw [hf_N42_.jg (by decide) (by decide)] at hv102_
                    refine zr_last (pc := 96) (zh_104 (hf_N42_.w hW)).2 (by decide) (by decide) (by (exact i44_)) (by (exact zo_2661 hc_82)) (zdal_p dlC_M_inForce_50 (i := 6) rfl) (fun N103_ hN103_ hsN103_ => ?_)
                    have hf_N103_ : zFr [16, 17, 18, 58, 60] [84, 98, 103, 104] Mz N103_ := hf_N42_.tr hsN103_ (by decide) (by decide)
                    have hb0_N103_ : zFr [] [104] N30_ N103_ := hs43_.tr hsN103_ (by decide) (by decide)
                    have e12_N103_ : ze N103_ 81 12 = ze N42_ 81 12 := hsN103_.e (by decide)
                    have e13_N103_ : ze N103_ 81 13 = ze N42_ 81 13 := hsN103_.e (by decide)
                    have e14_N103_ : ze N103_ 81 14 = ze N42_ 81 14 := hsN103_.e (by decide)
                    have e16_N103_ : ze N103_ 81 16 = ze N42_ 81 16 := hsN103_.e (by decide)
                    have e17_N103_ : ze N103_ 81 17 = ze N42_ 81 17 := hsN103_.e (by decide)
                    have e18_N103_ : ze N103_ 81 18 = ze N42_ 81 18 := hsN103_.e (by decide)
                    have e58_N103_ : ze N103_ 81 58 = ze N42_ 81 58 := hsN103_.e (by decide)
                    have e60_N103_ : ze N103_ 81 60 = ze N42_ 81 60 := hsN103_.e (by decide)
                    have c104_ : zPm N103_ := zPm.fr hsN103_ c46_ (by decide) (by decide)
                    have c105_ : zFin N103_ := zFin.fr hsN103_ c47_ (by decide) (by decide)
                    have c106_ : zB 83 24 0 5 N103_ := zB.fr hsN103_ c48_ (by decide) (by decide)
                    have c107_ : zMvt mv_ N103_ := zMvt.fr hsN103_ c49_ (by decide) (by decide)
                    have c108_ : zRNm nm_ F_ K_ b_ n_ N103_ := zRNm.fr hsN103_ c50_ (by decide) (by decide)
                    have c109_ : zIF N103_ := zIF.fr hsN103_ c51_ (by decide) (by decide)
                    have c110_ : zMvq mv_ N103_ := zMvq.fr hsN103_ c52_ (by decide) (by decide)
                    have c111_ : zCpJ 101 103 Mz 8 N103_ := zCpJ.fr hsN103_ c53_ (by decide) (by decide)
                    have hJ2_ := zCpJ_s (by (exact i44_)) (show zCpJ 102 104 Mz u41_ N42_ by first | with_reducible assumption | assumption) (by first | with_reducible assumption | assumption) hN103_
                    refine zr_iinc (pc := 97) (i := 1) (a := u41_) (n := 1) (L2 := [some (.ref 81), some (.int (Int32.ofInt (u41_ + 1)))]) rfl (by decide) rfl (zdal_p dlC_M_inForce_50 (i := 7) rfl) ?_
                    refine zw_goto (pc := 100) (tgt := 78) (by decide) (zdal_p dlC_M_inForce_50 (i := 8) rfl) ?_
                    exact ih_78 (u41_ + 1) (by (exact zo_74 i44_)) (by omega) N103_ hb0_N103_ (show 0 ≤ (u41_ + 1) by first | with_reducible assumption | (exact zo_76 i44_) | assumption) (show zCpJ 102 104 Mz (u41_ + 1) N103_ by exact hJ2_) (by omega)
              exact lp_78 _ 0 (by decide) (by decide) N30_ zFr.rf (show 0 ≤ (0 : Int) by first | with_reducible assumption | (decide) | assumption) (show zCpJ 102 104 Mz (0 : Int) N30_ by exact zCpJ_0) (Nat.lt_succ_self _)
            · skip
              refine zw_aload_n (pc := 58) (n := 0) (x := 81) rfl (zdal_p dlC_M_inForce_49 (i := 8) rfl) ?_
              refine zr_getF (r := 103) (hf_N30_.w hW) (pc := 59) f_M_81 rfl (zh_103 (hf_N30_.w hW)).1 (zdal_p dlC_M_inForce_49 (i := 9) rfl) ?_
              refine zw_iload_n (pc := 62) (n := 1) (x := Int32.ofInt u29_) rfl (zdal_p dlC_M_inForce_49 (i := 10) rfl) ?_
              refine zw_aload_n (pc := 63) (n := 0) (x := 81) rfl (zdal_p dlC_M_inForce_49 (i := 11) rfl) ?_
              refine zr_getF (r := 101) (hf_N30_.w hW) (pc := 64) f_M_75 rfl (zh_101 (hf_N30_.w hW)).1 (zdal_p dlC_M_inForce_49 (i := 12) rfl) ?_
              refine zw_iload_n (pc := 67) (n := 1) (x := Int32.ofInt u29_) rfl (zdal_p dlC_M_inForce_49 (i := 13) rfl) ?_
              refine zr_laldn (pc := 68) (zh_101 (hf_N30_.w hW)).2 (by decide) (by (exact i32_)) (by (exact zo_2664 hc_55)) (zdal_p dlC_M_inForce_49 (i := 14) rfl) (fun v112_ hv112_ hv112_a hv112_b => ?_)
              rw [hf_N30_.jg (by decide) (by decide)] at hv112_
              refine zr_last (pc := 69) (zh_103 (hf_N30_.w hW)).2 (by decide) (by decide) (by (exact i32_)) (by (exact zo_2664 hc_55)) (zdal_p dlC_M_inForce_49 (i := 15) rfl) (fun N113_ hN113_ hsN113_ => ?_)
              have hf_N113_ : zFr [16, 17, 18, 58, 60] [84, 98, 103, 104] Mz N113_ := hf_N30_.tr hsN113_ (by decide) (by decide)
              have hb0_N113_ : zFr [] [103] N20_ N113_ := hs31_.tr hsN113_ (by decide) (by decide)
              have e12_N113_ : ze N113_ 81 12 = ze N30_ 81 12 := hsN113_.e (by decide)
              have e13_N113_ : ze N113_ 81 13 = ze N30_ 81 13 := hsN113_.e (by decide)
              have e14_N113_ : ze N113_ 81 14 = ze N30_ 81 14 := hsN113_.e (by decide)
              have e16_N113_ : ze N113_ 81 16 = ze N30_ 81 16 := hsN113_.e (by decide)
              have e17_N113_ : ze N113_ 81 17 = ze N30_ 81 17 := hsN113_.e (by decide)
              have e18_N113_ : ze N113_ 81 18 = ze N30_ 81 18 := hsN113_.e (by decide)
              have e58_N113_ : ze N113_ 81 58 = ze N30_ 81 58 := hsN113_.e (by decide)
              have e60_N113_ : ze N113_ 81 60 = ze N30_ 81 60 := hsN113_.e (by decide)
              have c114_ : zPm N113_ := zPm.fr hsN113_ c34_ (by decide) (by decide)
              have c115_ : zFin N113_ := zFin.fr hsN113_ c35_ (by decide) (by decide)
              have c116_ : zB 83 24 0 5 N113_ := zB.fr hsN113_ c36_ (by decide) (by decide)
              have c117_ : zMvt mv_ N113_ := zMvt.fr hsN113_ c37_ (by decide) (by decide)
              have c118_ : zRNm nm_ F_ K_ b_ n_ N113_ := zRNm.fr hsN113_ c38_ (by decide) (by decide)
              have c119_ : zIF N113_ := zIF.fr hsN113_ c39_ (by decide) (by decide)
              have c120_ : zMvq mv_ N113_ := zMvq.fr hsN113_ c40_ (by decide) (by decide)
              have hJ1_ := zCpJ_s (by (exact i32_)) (show zCpJ 101 103 Mz u29_ N30_ by first | with_reducible assumption | assumption) (by first | with_reducible assumption | assumption) hN113_
              refine zr_iinc (pc := 70) (i := 1) (a := u29_) (n := 1) (L2 := [some (.ref 81), some (.int (Int32.ofInt (u29_ + 1)))]) rfl (by decide) rfl (zdal_p dlC_M_inForce_49 (i := 16) rfl) ?_
              refine zw_goto (pc := 73) (tgt := 52) (by decide) (zdal_p dlC_M_inForce_49 (i := 17) rfl) ?_
              exact ih_52 (u29_ + 1) (by (exact zo_74 i32_)) (by omega) N113_ hb0_N113_ (show 0 ≤ (u29_ + 1) by first | with_reducible assumption | (exact zo_76 i32_) | assumption) (show zCpJ 101 103 Mz (u29_ + 1) N113_ by exact hJ1_) (by omega)
        exact lp_52 _ 0 (by decide) (by decide) N20_ zFr.rf (show 0 ≤ (0 : Int) by first | with_reducible assumption | (decide) | assumption) (show zCpJ 101 103 Mz (0 : Int) N20_ by exact zCpJ_0) (Nat.lt_succ_self _)
      · skip
        refine zw_aload_n (pc := 32) (n := 0) (x := 81) rfl (zdal_p dlC_M_inForce_48 (i := 17) rfl) ?_
        refine zr_getF (r := 84) (hf_N20_.w hW) (pc := 33) f_M_23 rfl (zh_84 (hf_N20_.w hW)).1 (zdal_p dlC_M_inForce_48 (i := 18) rfl) ?_
        refine zw_iload_n (pc := 36) (n := 1) (x := Int32.ofInt u19_) rfl (zdal_p dlC_M_inForce_48 (i := 19) rfl) ?_
        refine zw_aload_n (pc := 37) (n := 0) (x := 81) rfl (zdal_p dlC_M_inForce_48 (i := 20) rfl) ?_
        refine zr_getF (r := 83) (hf_N20_.w hW) (pc := 38) f_M_20 rfl (zh_83 (hf_N20_.w hW)).1 (zdal_p dlC_M_inForce_48 (i := 21) rfl) ?_
        refine zw_iload_n (pc := 41) (n := 1) (x := Int32.ofInt u19_) rfl (zdal_p dlC_M_inForce_48 (i := 22) rfl) ?_
        refine zr_ialdn (pc := 42) (zh_83 (hf_N20_.w hW)).2 (by decide) (by (exact i22_)) (by (exact zo_2667 hc_29)) (zdal_p dlC_M_inForce_48 (i := 23) rfl) (fun v121_ hv121_ hv121_a hv121_b => ?_)
        have hr122_ := c26_.g (e := u19_) (by (exact i22_)) (by (exact zo_2667 hc_29))
        rw [← hv121_] at hr122_
        rw [hf_N20_.ie (by decide) (by decide)] at hv121_
        refine zr_iast (pc := 43) (zh_84 (hf_N20_.w hW)).2 (by decide) (by decide) (by (exact i22_)) (by (exact zo_2667 hc_29)) (zdal_p dlC_M_inForce_49 (i := 0) rfl) (fun N123_ hN123_ hsN123_ => ?_)
        have hf_N123_ : zFr [16, 17, 18, 58, 60] [84, 98, 103, 104] Mz N123_ := hf_N20_.tr hsN123_ (by decide) (by decide)
        have hb0_N123_ : zFr [] [84] N13_ N123_ := hs21_.tr hsN123_ (by decide) (by decide)
        have e12_N123_ : ze N123_ 81 12 = ze N20_ 81 12 := hsN123_.e (by decide)
        have e13_N123_ : ze N123_ 81 13 = ze N20_ 81 13 := hsN123_.e (by decide)
        have e14_N123_ : ze N123_ 81 14 = ze N20_ 81 14 := hsN123_.e (by decide)
        have e16_N123_ : ze N123_ 81 16 = ze N20_ 81 16 := hsN123_.e (by decide)
        have e17_N123_ : ze N123_ 81 17 = ze N20_ 81 17 := hsN123_.e (by decide)
        have e18_N123_ : ze N123_ 81 18 = ze N20_ 81 18 := hsN123_.e (by decide)
        have e58_N123_ : ze N123_ 81 58 = ze N20_ 81 58 := hsN123_.e (by decide)
        have e60_N123_ : ze N123_ 81 60 = ze N20_ 81 60 := hsN123_.e (by decide)
        have c124_ : zPm N123_ := zPm.fr hsN123_ c24_ (by decide) (by decide)
        have c125_ : zFin N123_ := zFin.fr hsN123_ c25_ (by decide) (by decide)
        have c126_ : zB 83 24 0 5 N123_ := zB.fr hsN123_ c26_ (by decide) (by decide)
        have c127_ : zMvt mv_ N123_ := zMvt.fr hsN123_ c27_ (by decide) (by decide)
        have c128_ : zRNm nm_ F_ K_ b_ n_ N123_ := zRNm.fr hsN123_ c28_ (by decide) (by decide)
        have hC1_ := zCp_s (by (exact i22_)) (show zCp 83 84 Mz N20_ u19_ by first | with_reducible assumption | assumption) (by first | with_reducible assumption | assumption) hN123_
        refine zr_iinc (pc := 44) (i := 1) (a := u19_) (n := 1) (L2 := [some (.ref 81), some (.int (Int32.ofInt (u19_ + 1)))]) rfl (by decide) rfl (zdal_p dlC_M_inForce_49 (i := 1) rfl) ?_
        refine zw_goto (pc := 47) (tgt := 26) (by decide) (zdal_p dlC_M_inForce_49 (i := 2) rfl) ?_
        exact ih_26 (u19_ + 1) (by (exact zo_74 i22_)) (by omega) N123_ hb0_N123_ (show 0 ≤ (u19_ + 1) by first | with_reducible assumption | (exact zo_76 i22_) | assumption) (show zCp 83 84 Mz N123_ (u19_ + 1) by exact hC1_) (by omega)
  exact lp_26 _ 0 (by decide) (by decide) N13_ zFr.rf (show 0 ≤ (0 : Int) by first | with_reducible assumption | (decide) | assumption) (show zCp 83 84 Mz N13_ (0 : Int) by exact zCp_0) (Nat.lt_succ_self _)
set_option maxHeartbeats 40000000 in
theorem c_M_goesBackN (l : Launch) (Mz : zMem) (hW : zMt Mz) (mv_ : List Nat) (b_ : Nat → Int) (n_ : Nat) (F_ : Nat) (K_ : Nat → Nat → Int) (hF64_ : F_ ≤ 64) (nm_ : List (Int × (Nat → Int))) (p0_ : zIF Mz) (p1_ : 0 ≤ ze Mz 81 18) (p2_ : ze Mz 81 18 ≤ 8) (p3_ : zB 83 24 0 5 Mz) (p4_ : zB 85 144 0 5 Mz) (p5_ : zMvq mv_ Mz) (p6_ : zRNi nm_ F_ K_ Mz) : zC l m_M_goesBack 0 0 [.ref 81] Mz (zpV [12, 13, 14, 20, 25, 26, 58] [83, 85, 86, 87, 88, 89, 90, 91, 92, 93, 94, 101, 102] Mz (fun N => (∃ T : zGT, T ∈ gTabs ∧ zGB T N ∧ zTm mv_ T ∧ zCdS (ze Mz 81 16) mv_ T N) ∧ 0 ≤ ze N 81 14 ∧ ze N 81 14 ≤ 8 ∧ zIF N ∧ zB 83 24 0 5 N ∧ zMvq mv_ N ∧ zRNm nm_ F_ K_ b_ n_ N ∧ zRNi nm_ F_ K_ N)) := by
  refine zC_of (L0 := [some (.ref 81), none]) md_M_goesBack (Nat.le_of_ble_eq_true rfl) rfl ?_ zQ0
  have hf : zFr [12, 13, 14, 20, 25, 26, 58] [83, 85, 86, 87, 88, 89, 90, 91, 92, 93, 94, 101, 102] Mz Mz := zFr.rf
  have r_12 := ze_r Mz 81 12
  have r_13 := ze_r Mz 81 13
  have r_14 := ze_r Mz 81 14
  have r_16 := ze_r Mz 81 16
  have r_17 := ze_r Mz 81 17
  have r_18 := ze_r Mz 81 18
  have r_58 := ze_r Mz 81 58
  have hi_ := p0_.1
  refine zw_aload_n (pc := 0) (n := 0) (x := 81) rfl (zdal_p dlC_M_goesBack_142 (i := 0) rfl) ?_
  refine zw_aload_n (pc := 1) (n := 0) (x := 81) rfl (zdal_p dlC_M_goesBack_142 (i := 1) rfl) ?_
  refine zr_getI0 hf hW (pc := 2) (by decide) f_M_382 rfl (zdal_p dlC_M_goesBack_142 (i := 2) rfl) ?_
  refine zr_putI (hf.w hW) (pc := 5) f_M_115 rfl rfl ⟨by (exact zo_920 hi_.1.1), by omega⟩ rfl rfl (zdal_p dlC_M_goesBack_142 (i := 3) rfl) (fun N1_ hsN1_ hvN1_ => ?_)
  have hf_N1_ : zFr [12, 13, 14, 20, 25, 26, 58] [83, 85, 86, 87, 88, 89, 90, 91, 92, 93, 94, 101, 102] Mz N1_ := hf.tr hsN1_ (by decide) (by decide)
  have r12_N1_ := ze_r N1_ 81 12
  have e13_N1_ : ze N1_ 81 13 = ze Mz 81 13 := hsN1_.e (by decide)
  have e14_N1_ : ze N1_ 81 14 = ze Mz 81 14 := hsN1_.e (by decide)
  have e16_N1_ : ze N1_ 81 16 = ze Mz 81 16 := hsN1_.e (by decide)
  have e17_N1_ : ze N1_ 81 17 = ze Mz 81 17 := hsN1_.e (by decide)
  have e18_N1_ : ze N1_ 81 18 = ze Mz 81 18 := hsN1_.e (by decide)
  have e58_N1_ : ze N1_ 81 58 = ze Mz 81 58 := hsN1_.e (by decide)
  have c2_ : zIF N1_ := zIF.fr hsN1_ p0_ (by decide) (by decide)
  have c3_ : zB 83 24 0 5 N1_ := zB.fr hsN1_ p3_ (by decide) (by decide)
  have c4_ : zB 85 144 0 5 N1_ := zB.fr hsN1_ p4_ (by decide) (by decide)
  have c5_ : zMvq mv_ N1_ := zMvq.fr hsN1_ p5_ (by decide) (by decide)
  have c6_ : zRNi nm_ F_ K_ N1_ := zRNi.fr hsN1_ p6_ (by decide) (by decide)
  refine zw_aload_n (pc := 8) (n := 0) (x := 81) rfl (zdal_p dlC_M_goesBack_142 (i := 4) rfl) ?_
  refine zw_aload_n (pc := 9) (n := 0) (x := 81) rfl (zdal_p dlC_M_goesBack_142 (i := 5) rfl) ?_
  refine zr_getI0 hf_N1_ hW (pc := 10) (by decide) f_M_385 rfl (zdal_p dlC_M_goesBack_142 (i := 6) rfl) ?_
  refine zr_putI (hf_N1_.w hW) (pc := 13) f_M_199 rfl rfl ⟨by (exact zo_168 hi_.2.1), by omega⟩ rfl rfl (zdal_p dlC_M_goesBack_142 (i := 7) rfl) (fun N7_ hsN7_ hvN7_ => ?_)
  have hf_N7_ : zFr [12, 13, 14, 20, 25, 26, 58] [83, 85, 86, 87, 88, 89, 90, 91, 92, 93, 94, 101, 102] Mz N7_ := hf_N1_.tr hsN7_ (by decide) (by decide)
  have e12_N7_ : ze N7_ 81 12 = ze N1_ 81 12 := hsN7_.e (by decide)
  have r13_N7_ := ze_r N7_ 81 13
  have e14_N7_ : ze N7_ 81 14 = ze N1_ 81 14 := hsN7_.e (by decide)
  have e16_N7_ : ze N7_ 81 16 = ze N1_ 81 16 := hsN7_.e (by decide)
  have e17_N7_ : ze N7_ 81 17 = ze N1_ 81 17 := hsN7_.e (by decide)
  have e18_N7_ : ze N7_ 81 18 = ze N1_ 81 18 := hsN7_.e (by decide)
  have e58_N7_ : ze N7_ 81 58 = ze N1_ 81 58 := hsN7_.e (by decide)
  have c8_ : zIF N7_ := zIF.fr hsN7_ c2_ (by decide) (by decide)
  have c9_ : zB 83 24 0 5 N7_ := zB.fr hsN7_ c3_ (by decide) (by decide)
  have c10_ : zB 85 144 0 5 N7_ := zB.fr hsN7_ c4_ (by decide) (by decide)
  have c11_ : zMvq mv_ N7_ := zMvq.fr hsN7_ c5_ (by decide) (by decide)
  have c12_ : zRNi nm_ F_ K_ N7_ := zRNi.fr hsN7_ c6_ (by decide) (by decide)
  refine zw_aload_n (pc := 16) (n := 0) (x := 81) rfl (zdal_p dlC_M_goesBack_142 (i := 8) rfl) ?_
  refine zw_aload_n (pc := 17) (n := 0) (x := 81) rfl (zdal_p dlC_M_goesBack_142 (i := 9) rfl) ?_
  refine zr_getI0 hf_N7_ hW (pc := 18) (by decide) f_M_388 rfl (zdal_p dlC_M_goesBack_142 (i := 10) rfl) ?_
  refine zr_putI (hf_N7_.w hW) (pc := 21) f_M_299 rfl rfl ⟨by (exact zo_168 p1_), by omega⟩ rfl rfl (zdal_p dlC_M_goesBack_142 (i := 11) rfl) (fun N13_ hsN13_ hvN13_ => ?_)
  have hf_N13_ : zFr [12, 13, 14, 20, 25, 26, 58] [83, 85, 86, 87, 88, 89, 90, 91, 92, 93, 94, 101, 102] Mz N13_ := hf_N7_.tr hsN13_ (by decide) (by decide)
  have e12_N13_ : ze N13_ 81 12 = ze N7_ 81 12 := hsN13_.e (by decide)
  have e13_N13_ : ze N13_ 81 13 = ze N7_ 81 13 := hsN13_.e (by decide)
  have r14_N13_ := ze_r N13_ 81 14
  have e16_N13_ : ze N13_ 81 16 = ze N7_ 81 16 := hsN13_.e (by decide)
  have e17_N13_ : ze N13_ 81 17 = ze N7_ 81 17 := hsN13_.e (by decide)
  have e18_N13_ : ze N13_ 81 18 = ze N7_ 81 18 := hsN13_.e (by decide)
  have e58_N13_ : ze N13_ 81 58 = ze N7_ 81 58 := hsN13_.e (by decide)
  have c14_ : zIF N13_ := zIF.fr hsN13_ c8_ (by decide) (by decide)
  have c15_ : zB 83 24 0 5 N13_ := zB.fr hsN13_ c9_ (by decide) (by decide)
  have c16_ : zB 85 144 0 5 N13_ := zB.fr hsN13_ c10_ (by decide) (by decide)
  have c17_ : zMvq mv_ N13_ := zMvq.fr hsN13_ c11_ (by decide) (by decide)
  have c18_ : zRNi nm_ F_ K_ N13_ := zRNi.fr hsN13_ c12_ (by decide) (by decide)
  refine zw_iconst (pc := 24) (v := Int32.ofInt 0) (by decide) (zdal_p dlC_M_goesBack_142 (i := 12) rfl) ?_
  refine zw_istore_n (pc := 25) (i := 1) (L2 := [some (.ref 81), some (.int (Int32.ofInt 0))]) rfl (by decide) rfl (zdal_p dlC_M_goesBack_142 (i := 13) rfl) ?_
  have lp_26 : ∀ (n : Nat) (u19_ : Int) (hu19_a : -2147483648 ≤ u19_) (hu19_b : u19_ < 2147483648) (N20_ : zMem) (hs21_ : zFr [] [83] N13_ N20_) (i22_ : 0 ≤ u19_) (i23_ : zCp 84 83 Mz N20_ u19_) (i24_ : zB 83 24 0 5 N20_), (24 - u19_).toNat < n → zW l m_M_goesBack (zn Mz + 0, zw Mz + 0) N20_ 26 [some (.ref 81), some (.int (Int32.ofInt u19_))] [] (zpV [12, 13, 14, 20, 25, 26, 58] [83, 85, 86, 87, 88, 89, 90, 91, 92, 93, 94, 101, 102] Mz (fun N => (∃ T : zGT, T ∈ gTabs ∧ zGB T N ∧ zTm mv_ T ∧ zCdS (ze Mz 81 16) mv_ T N) ∧ 0 ≤ ze N 81 14 ∧ ze N 81 14 ≤ 8 ∧ zIF N ∧ zB 83 24 0 5 N ∧ zMvq mv_ N ∧ zRNm nm_ F_ K_ b_ n_ N ∧ zRNi nm_ F_ K_ N)) := by
    intro n
    induction n with
    | zero =>
      intro u19_ hu19_a hu19_b N20_ hs21_ i22_ i23_ i24_ h0
      exact absurd h0 (Nat.not_lt_zero _)
    | succ n ih_26 =>
      intro u19_ hu19_a hu19_b N20_ hs21_ i22_ i23_ i24_ hlt_26
      have hf_N20_ : zFr [12, 13, 14, 20, 25, 26, 58] [83, 85, 86, 87, 88, 89, 90, 91, 92, 93, 94, 101, 102] Mz N20_ := hf_N13_.tr hs21_ (by decide) (by decide)
      have e12_N20_ : ze N20_ 81 12 = ze N13_ 81 12 := hs21_.e (by decide)
      have e13_N20_ : ze N20_ 81 13 = ze N13_ 81 13 := hs21_.e (by decide)
      have e14_N20_ : ze N20_ 81 14 = ze N13_ 81 14 := hs21_.e (by decide)
      have e16_N20_ : ze N20_ 81 16 = ze N13_ 81 16 := hs21_.e (by decide)
      have e17_N20_ : ze N20_ 81 17 = ze N13_ 81 17 := hs21_.e (by decide)
      have e18_N20_ : ze N20_ 81 18 = ze N13_ 81 18 := hs21_.e (by decide)
      have e58_N20_ : ze N20_ 81 58 = ze N13_ 81 58 := hs21_.e (by decide)
      have c25_ : zIF N20_ := zIF.fr hs21_ c14_ (by decide) (by decide)
      have c26_ : zB 85 144 0 5 N20_ := zB.fr hs21_ c16_ (by decide) (by decide)
      have c27_ : zMvq mv_ N20_ := zMvq.fr hs21_ c17_ (by decide) (by decide)
      have c28_ : zRNi nm_ F_ K_ N20_ := zRNi.fr hs21_ c18_ (by decide) (by decide)
      refine zw_iload_n (pc := 26) (n := 1) (x := Int32.ofInt u19_) rfl (zdal_p dlC_M_goesBack_142 (i := 14) rfl) ?_
      refine zw_bipush (pc := 27) (v := Int32.ofInt 24) (by decide) (zdal_p dlC_M_goesBack_142 (i := 15) rfl) ?_
      refine zr_icmp_ge (pc := 29) (tgt := 50) ⟨hu19_a, hu19_b⟩ ⟨(by decide), (by decide)⟩ (by decide) (zdal_p dlC_M_goesBack_142 (i := 16) rfl) (fun hc_29 => ?_) (fun hc_29 => ?_)
      · skip
        have hI_ := zIF_b (by (exact hc_29)) (show zCp 84 83 Mz N20_ u19_ by first | with_reducible assumption | assumption) (fun j => hf_N20_.ie (by decide) (by decide) j) c25_ (by omega) (by omega)
        have hIp_ := hI_.1
        have hIf_ := hI_.2.1
        have hMs_ : zMvt mv_ N20_ := (zMvF_b (by (exact hc_29)) (show zCp 84 83 Mz N20_ u19_ by first | with_reducible assumption | assumption) (fun j => hf_N20_.ie (by decide) (by decide) j) c25_ (by omega) (by omega)).trans c27_
        refine zw_iconst (pc := 50) (v := Int32.ofInt 0) (by decide) (zdal_p dlC_M_goesBack_143 (i := 3) rfl) ?_
        refine zw_istore_n (pc := 51) (i := 1) (L2 := [some (.ref 81), some (.int (Int32.ofInt 0))]) rfl (by decide) rfl (zdal_p dlC_M_goesBack_143 (i := 4) rfl) ?_
        have lp_52 : ∀ (n : Nat) (u29_ : Int) (hu29_a : -2147483648 ≤ u29_) (hu29_b : u29_ < 2147483648) (N30_ : zMem) (hs31_ : zFr [] [101] N20_ N30_) (i32_ : 0 ≤ u29_) (i33_ : zCpJ 103 101 Mz u29_ N30_), (8 - u29_).toNat < n → zW l m_M_goesBack (zn Mz + 0, zw Mz + 0) N30_ 52 [some (.ref 81), some (.int (Int32.ofInt u29_))] [] (zpV [12, 13, 14, 20, 25, 26, 58] [83, 85, 86, 87, 88, 89, 90, 91, 92, 93, 94, 101, 102] Mz (fun N => (∃ T : zGT, T ∈ gTabs ∧ zGB T N ∧ zTm mv_ T ∧ zCdS (ze Mz 81 16) mv_ T N) ∧ 0 ≤ ze N 81 14 ∧ ze N 81 14 ≤ 8 ∧ zIF N ∧ zB 83 24 0 5 N ∧ zMvq mv_ N ∧ zRNm nm_ F_ K_ b_ n_ N ∧ zRNi nm_ F_ K_ N)) := by
          intro n
          induction n with
          | zero =>
            intro u29_ hu29_a hu29_b N30_ hs31_ i32_ i33_ h0
            exact absurd h0 (Nat.not_lt_zero _)
          | succ n ih_52 =>
            intro u29_ hu29_a hu29_b N30_ hs31_ i32_ i33_ hlt_52
            have hf_N30_ : zFr [12, 13, 14, 20, 25, 26, 58] [83, 85, 86, 87, 88, 89, 90, 91, 92, 93, 94, 101, 102] Mz N30_ := hf_N20_.tr hs31_ (by decide) (by decide)
            have e12_N30_ : ze N30_ 81 12 = ze N20_ 81 12 := hs31_.e (by decide)
            have e13_N30_ : ze N30_ 81 13 = ze N20_ 81 13 := hs31_.e (by decide)
            have e14_N30_ : ze N30_ 81 14 = ze N20_ 81 14 := hs31_.e (by decide)
            have e16_N30_ : ze N30_ 81 16 = ze N20_ 81 16 := hs31_.e (by decide)
            have e17_N30_ : ze N30_ 81 17 = ze N20_ 81 17 := hs31_.e (by decide)
            have e18_N30_ : ze N30_ 81 18 = ze N20_ 81 18 := hs31_.e (by decide)
            have e58_N30_ : ze N30_ 81 58 = ze N20_ 81 58 := hs31_.e (by decide)
            have c34_ : zIF N30_ := zIF.fr hs31_ c25_ (by decide) (by decide)
            have c35_ : zB 85 144 0 5 N30_ := zB.fr hs31_ c26_ (by decide) (by decide)
            have c36_ : zMvq mv_ N30_ := zMvq.fr hs31_ c27_ (by decide) (by decide)
            have c37_ : zRNi nm_ F_ K_ N30_ := zRNi.fr hs31_ c28_ (by decide) (by decide)
            have c38_ : zB 83 24 0 5 N30_ := zB.fr hs31_ i24_ (by decide) (by decide)
            have c39_ : zPm N30_ := zPm.fr hs31_ hIp_ (by decide) (by decide)
            have c40_ : zFin N30_ := zFin.fr hs31_ hIf_ (by decide) (by decide)
            have c41_ : zMvt mv_ N30_ := zMvt.fr hs31_ hMs_ (by decide) (by decide)
            refine zw_iload_n (pc := 52) (n := 1) (x := Int32.ofInt u29_) rfl (zdal_p dlC_M_goesBack_143 (i := 5) rfl) ?_
            refine zw_bipush (pc := 53) (v := Int32.ofInt 8) (by decide) (zdal_p dlC_M_goesBack_143 (i := 6) rfl) ?_
            refine zr_icmp_ge (pc := 55) (tgt := 76) ⟨hu29_a, hu29_b⟩ ⟨(by decide), (by decide)⟩ (by decide) (zdal_p dlC_M_goesBack_143 (i := 7) rfl) (fun hc_55 => ?_) (fun hc_55 => ?_)
            · skip
              have hc1_ := (show zCpJ 103 101 Mz u29_ N30_ by first | with_reducible assumption | assumption).le (n := 8) (by (exact hc_55))
              refine zw_iconst (pc := 76) (v := Int32.ofInt 0) (by decide) (zdal_p dlC_M_goesBack_143 (i := 18) rfl) ?_
              refine zw_istore_n (pc := 77) (i := 1) (L2 := [some (.ref 81), some (.int (Int32.ofInt 0))]) rfl (by decide) rfl (zdal_p dlC_M_goesBack_143 (i := 19) rfl) ?_
              have lp_78 : ∀ (n : Nat) (u42_ : Int) (hu42_a : -2147483648 ≤ u42_) (hu42_b : u42_ < 2147483648) (N43_ : zMem) (hs44_ : zFr [] [102] N30_ N43_) (i45_ : 0 ≤ u42_) (i46_ : zCpJ 104 102 Mz u42_ N43_), (512 - u42_).toNat < n → zW l m_M_goesBack (zn Mz + 0, zw Mz + 0) N43_ 78 [some (.ref 81), some (.int (Int32.ofInt u42_))] [] (zpV [12, 13, 14, 20, 25, 26, 58] [83, 85, 86, 87, 88, 89, 90, 91, 92, 93, 94, 101, 102] Mz (fun N => (∃ T : zGT, T ∈ gTabs ∧ zGB T N ∧ zTm mv_ T ∧ zCdS (ze Mz 81 16) mv_ T N) ∧ 0 ≤ ze N 81 14 ∧ ze N 81 14 ≤ 8 ∧ zIF N ∧ zB 83 24 0 5 N ∧ zMvq mv_ N ∧ zRNm nm_ F_ K_ b_ n_ N ∧ zRNi nm_ F_ K_ N)) := by
                intro n
                induction n with
                | zero =>
                  intro u42_ hu42_a hu42_b N43_ hs44_ i45_ i46_ h0
                  exact absurd h0 (Nat.not_lt_zero _)
                | succ n ih_78 =>
                  intro u42_ hu42_a hu42_b N43_ hs44_ i45_ i46_ hlt_78
                  have hf_N43_ : zFr [12, 13, 14, 20, 25, 26, 58] [83, 85, 86, 87, 88, 89, 90, 91, 92, 93, 94, 101, 102] Mz N43_ := hf_N30_.tr hs44_ (by decide) (by decide)
                  have e12_N43_ : ze N43_ 81 12 = ze N30_ 81 12 := hs44_.e (by decide)
                  have e13_N43_ : ze N43_ 81 13 = ze N30_ 81 13 := hs44_.e (by decide)
                  have e14_N43_ : ze N43_ 81 14 = ze N30_ 81 14 := hs44_.e (by decide)
                  have e16_N43_ : ze N43_ 81 16 = ze N30_ 81 16 := hs44_.e (by decide)
                  have e17_N43_ : ze N43_ 81 17 = ze N30_ 81 17 := hs44_.e (by decide)
                  have e18_N43_ : ze N43_ 81 18 = ze N30_ 81 18 := hs44_.e (by decide)
                  have e58_N43_ : ze N43_ 81 58 = ze N30_ 81 58 := hs44_.e (by decide)
                  have c47_ : zIF N43_ := zIF.fr hs44_ c34_ (by decide) (by decide)
                  have c48_ : zB 85 144 0 5 N43_ := zB.fr hs44_ c35_ (by decide) (by decide)
                  have c49_ : zMvq mv_ N43_ := zMvq.fr hs44_ c36_ (by decide) (by decide)
                  have c50_ : zRNi nm_ F_ K_ N43_ := zRNi.fr hs44_ c37_ (by decide) (by decide)
                  have c51_ : zB 83 24 0 5 N43_ := zB.fr hs44_ c38_ (by decide) (by decide)
                  have c52_ : zPm N43_ := zPm.fr hs44_ c39_ (by decide) (by decide)
                  have c53_ : zFin N43_ := zFin.fr hs44_ c40_ (by decide) (by decide)
                  have c54_ : zMvt mv_ N43_ := zMvt.fr hs44_ c41_ (by decide) (by decide)
                  have c55_ : zCpJ 103 101 Mz 8 N43_ := zCpJ.fr hs44_ hc1_ (by decide) (by decide)
                  refine zw_iload_n (pc := 78) (n := 1) (x := Int32.ofInt u42_) rfl (zdal_p dlC_M_goesBack_143 (i := 20) rfl) ?_
                  refine zw_sipush (pc := 79) (v := Int32.ofInt 512) (by decide) (zdal_p dlC_M_goesBack_143 (i := 21) rfl) ?_
                  refine zr_icmp_ge (pc := 82) (tgt := 103) ⟨hu42_a, hu42_b⟩ ⟨(by decide), (by decide)⟩ (by decide) (zdal_p dlC_M_goesBack_143 (i := 22) rfl) (fun hc_82 => ?_) (fun hc_82 => ?_)
                  · skip
                    have hc2_ := (show zCpJ 104 102 Mz u42_ N43_ by first | with_reducible assumption | assumption).le (n := 512) (by (exact hc_82))
                    have hnr_ : zRNm nm_ F_ K_ b_ n_ N43_ := zRNm_i hF64_ p6_ (by (exact zo_1292 e14_N20_ e14_N30_ e14_N43_ hvN13_)) c55_ hc2_
                    refine zw_aload_n (pc := 103) (n := 0) (x := 81) rfl (zdal_p dlC_M_goesBack_144 (i := 9) rfl) ?_
                    refine zr_callV (hf_N43_.w hW) hf_N43_.x (pc := 104) [] [] l_M_118 (c_M_buildsF l N43_ (hf_N43_.w hW) (show 1 ≤ ze N43_ 81 12 by first | with_reducible assumption | assumption | omega) (show ze N43_ 81 12 ≤ 6 by first | with_reducible assumption | assumption | omega) (show 0 ≤ ze N43_ 81 13 by first | with_reducible assumption | assumption | omega) (show ze N43_ 81 13 ≤ 4 by first | with_reducible assumption | assumption | omega) c52_ c53_ c51_ c48_) rfl rfl rfl (by decide) (Nat.le_of_ble_eq_true rfl) (zdal_p dlC_M_goesBack_144 (i := 10) rfl) ?_
                    rintro _ N56_ ⟨rfl, hsN56_, hp0_N56_⟩
                    replace hp0_N56_ : ∃ T : zGT, T ∈ gTabs ∧ zGB T N56_ ∧ zTm (zMvs N43_) T ∧ zCdS (ze N43_ 81 12) (zMvs N43_) T N56_ := hp0_N56_
                    have hf_N56_ : zFr [12, 13, 14, 20, 25, 26, 58] [83, 85, 86, 87, 88, 89, 90, 91, 92, 93, 94, 101, 102] Mz N56_ := hf_N43_.tr hsN56_ (by decide) (by decide)
                    have e12_N56_ : ze N56_ 81 12 = ze N43_ 81 12 := hsN56_.e (by decide)
                    have e13_N56_ : ze N56_ 81 13 = ze N43_ 81 13 := hsN56_.e (by decide)
                    have e14_N56_ : ze N56_ 81 14 = ze N43_ 81 14 := hsN56_.e (by decide)
                    have e16_N56_ : ze N56_ 81 16 = ze N43_ 81 16 := hsN56_.e (by decide)
                    have e17_N56_ : ze N56_ 81 17 = ze N43_ 81 17 := hsN56_.e (by decide)
                    have e18_N56_ : ze N56_ 81 18 = ze N43_ 81 18 := hsN56_.e (by decide)
                    have e58_N56_ : ze N56_ 81 58 = ze N43_ 81 58 := hsN56_.e (by decide)
                    have c58_ : zIF N56_ := zIF.fr hsN56_ c47_ (by decide) (by decide)
                    have c59_ : zMvq mv_ N56_ := zMvq.fr hsN56_ c49_ (by decide) (by decide)
                    have c60_ : zRNi nm_ F_ K_ N56_ := zRNi.fr hsN56_ c50_ (by decide) (by decide)
                    have c61_ : zB 83 24 0 5 N56_ := zB.fr hsN56_ c51_ (by decide) (by decide)
                    have c64_ : zMvt mv_ N56_ := zMvt.fr hsN56_ c54_ (by decide) (by decide)
                    have c67_ : zRNm nm_ F_ K_ b_ n_ N56_ := zRNm.fr hsN56_ hnr_ (by decide) (by decide)
                    show zW l m_M_goesBack (zn Mz + 0, zw Mz + 0) N56_ 107 [some (.ref 81), some (.int (Int32.ofInt u42_))] [] _
                    obtain ⟨T, hTt, hGB, hTm_, hCd_⟩ := id hp0_N56_
                    have hmz_ : zMvs N43_ = mv_ := by have h_ := c64_; unfold zMvt at h_; rw [← h_, zMvs_f hsN56_ (by decide) (by decide)]
                    rw [hmz_] at hTm_ hCd_
                    have hTm2_ : zTm mv_ T := hTm_
                    have hCd2_ : zCdS (ze Mz 81 16) mv_ T N56_ := hCd_.p (by omega)
                    refine zw_aload_n (pc := 107) (n := 0) (x := 81) rfl (zdal_p dlC_M_goesBack_144 (i := 11) rfl) ?_
                    refine zw_iconst (pc := 108) (v := Int32.ofInt 0) (by decide) (zdal_p dlC_M_goesBack_144 (i := 12) rfl) ?_
                    refine zr_putI (hf_N56_.w hW) (pc := 109) f_M_394 rfl rfl ⟨by (decide), by (decide)⟩ (z_narB (by (decide))) (z_fitB (by (decide))) (zdal_p dlC_M_goesBack_144 (i := 13) rfl) (fun N68_ hsN68_ hvN68_ => ?_)
                    have hf_N68_ : zFr [12, 13, 14, 20, 25, 26, 58] [83, 85, 86, 87, 88, 89, 90, 91, 92, 93, 94, 101, 102] Mz N68_ := hf_N56_.tr hsN68_ (by decide) (by decide)
                    have e12_N68_ : ze N68_ 81 12 = ze N56_ 81 12 := hsN68_.e (by decide)
                    have e13_N68_ : ze N68_ 81 13 = ze N56_ 81 13 := hsN68_.e (by decide)
                    have e14_N68_ : ze N68_ 81 14 = ze N56_ 81 14 := hsN68_.e (by decide)
                    have e16_N68_ : ze N68_ 81 16 = ze N56_ 81 16 := hsN68_.e (by decide)
                    have e17_N68_ : ze N68_ 81 17 = ze N56_ 81 17 := hsN68_.e (by decide)
                    have e18_N68_ : ze N68_ 81 18 = ze N56_ 81 18 := hsN68_.e (by decide)
                    have r58_N68_ := ze_r N68_ 81 58
                    have c69_ : zIF N68_ := zIF.fr hsN68_ c58_ (by decide) (by decide)
                    have c70_ : zMvq mv_ N68_ := zMvq.fr hsN68_ c59_ (by decide) (by decide)
                    have c71_ : zRNi nm_ F_ K_ N68_ := zRNi.fr hsN68_ c60_ (by decide) (by decide)
                    have c72_ : zB 83 24 0 5 N68_ := zB.fr hsN68_ c61_ (by decide) (by decide)
                    have c78_ : zRNm nm_ F_ K_ b_ n_ N68_ := zRNm.fr hsN68_ c67_ (by decide) (by decide)
                    have c79_ : zGB T N68_ := zGB.fr hsN68_ hGB (by decide) (by decide)
                    have c80_ : zCdS (ze Mz 81 16) mv_ T N68_ := zCdS.fr hsN68_ hCd2_ (by decide) (by decide)
                    exact zr_vret (pc := 112) rfl hf_N68_ ⟨(show (∃ T : zGT, T ∈ gTabs ∧ zGB T N68_ ∧ zTm mv_ T ∧ zCdS (ze Mz 81 16) mv_ T N68_) by exact ⟨T, hTt, c79_, hTm2_, c80_⟩), (show 0 ≤ ze N68_ 81 14 by first | with_reducible assumption | assumption | omega), (show ze N68_ 81 14 ≤ 8 by first | with_reducible assumption | assumption | omega), c69_, c72_, c70_, c78_, c71_⟩ (zdal_p dlC_M_goesBack_144 (i := 14) rfl)
                  · skip
                    refine zw_aload_n (pc := 85) (n := 0) (x := 81) rfl (zdal_p dlC_M_goesBack_143 (i := 23) rfl) ?_
                    refine zr_getF (r := 102) (hf_N43_.w hW) (pc := 86) f_M_78 rfl (zh_102 (hf_N43_.w hW)).1 (zdal_p dlC_M_goesBack_144 (i := 0) rfl) ?_
                    refine zw_iload_n (pc := 89) (n := 1) (x := Int32.ofInt u42_) rfl (zdal_p dlC_M_goesBack_144 (i := 1) rfl) ?_
                    refine zw_aload_n (pc := 90) (n := 0) (x := 81) rfl (zdal_p dlC_M_goesBack_144 (i := 2) rfl) ?_
                    refine zr_getF (r := 104) (hf_N43_.w hW) (pc := 91) f_M_84 rfl (zh_104 (hf_N43_.w hW)).1 (zdal_p dlC_M_goesBack_144 (i := 3) rfl) ?_
                    refine zw_iload_n (pc := 94) (n := 1) (x := Int32.ofInt u42_) rfl (zdal_p dlC_M_goesBack_144 (i := 4) rfl) ?_
                    refine zr_laldn (pc := 95) (zh_104 (hf_N43_.w hW)).2 (by decide) (by (exact i45_)) (by (exact zo_2661 hc_82)) (zdal_p dlC_M_goesBack_144 (i := 5) rfl) (fun v81_ hv81_ hv81_a hv81_b => ?_)
                    rw [hf_N43_.jg (by decide) (by decide)] at hv81_
                    refine zr_last (pc := 96) (zh_102 (hf_N43_.w hW)).2 (by decide) (by decide) (by (exact i45_)) (by (exact zo_2661 hc_82)) (zdal_p dlC_M_goesBack_144 (i := 6) rfl) (fun N82_ hN82_ hsN82_ => ?_)
                    have hf_N82_ : zFr [12, 13, 14, 20, 25, 26, 58] [83, 85, 86, 87, 88, 89, 90, 91, 92, 93, 94, 101, 102] Mz N82_ := hf_N43_.tr hsN82_ (by decide) (by decide)
                    have hb0_N82_ : zFr [] [102] N30_ N82_ := hs44_.tr hsN82_ (by decide) (by decide)
                    have e12_N82_ : ze N82_ 81 12 = ze N43_ 81 12 := hsN82_.e (by decide)
                    have e13_N82_ : ze N82_ 81 13 = ze N43_ 81 13 := hsN82_.e (by decide)
                    have e14_N82_ : ze N82_ 81 14 = ze N43_ 81 14 := hsN82_.e (by decide)
                    have e16_N82_ : ze N82_ 81 16 = ze N43_ 81 16 := hsN82_.e (by decide)
                    have e17_N82_ : ze N82_ 81 17 = ze N43_ 81 17 := hsN82_.e (by decide)
                    have e18_N82_ : ze N82_ 81 18 = ze N43_ 81 18 := hsN82_.e (by decide)
                    have e58_N82_ : ze N82_ 81 58 = ze N43_ 81 58 := hsN82_.e (by decide)
                    have c83_ : zIF N82_ := zIF.fr hsN82_ c47_ (by decide) (by decide)
                    have c84_ : zB 85 144 0 5 N82_ := zB.fr hsN82_ c48_ (by decide) (by decide)
                    have c85_ : zMvq mv_ N82_ := zMvq.fr hsN82_ c49_ (by decide) (by decide)
                    have c86_ : zRNi nm_ F_ K_ N82_ := zRNi.fr hsN82_ c50_ (by decide) (by decide)
                    have c87_ : zB 83 24 0 5 N82_ := zB.fr hsN82_ c51_ (by decide) (by decide)
                    have c88_ : zPm N82_ := zPm.fr hsN82_ c52_ (by decide) (by decide)
                    have c89_ : zFin N82_ := zFin.fr hsN82_ c53_ (by decide) (by decide)
                    have c90_ : zMvt mv_ N82_ := zMvt.fr hsN82_ c54_ (by decide) (by decide)
                    have c91_ : zCpJ 103 101 Mz 8 N82_ := zCpJ.fr hsN82_ c55_ (by decide) (by decide)
                    have hJ2_ := zCpJ_s (by (exact i45_)) (show zCpJ 104 102 Mz u42_ N43_ by first | with_reducible assumption | assumption) (by first | with_reducible assumption | assumption) hN82_
                    refine zr_iinc (pc := 97) (i := 1) (a := u42_) (n := 1) (L2 := [some (.ref 81), some (.int (Int32.ofInt (u42_ + 1)))]) rfl (by decide) rfl (zdal_p dlC_M_goesBack_144 (i := 7) rfl) ?_
                    refine zw_goto (pc := 100) (tgt := 78) (by decide) (zdal_p dlC_M_goesBack_144 (i := 8) rfl) ?_
                    exact ih_78 (u42_ + 1) (by (exact zo_74 i45_)) (by omega) N82_ hb0_N82_ (show 0 ≤ (u42_ + 1) by first | with_reducible assumption | (exact zo_76 i45_) | assumption) (show zCpJ 104 102 Mz (u42_ + 1) N82_ by exact hJ2_) (by omega)
              exact lp_78 _ 0 (by decide) (by decide) N30_ zFr.rf (show 0 ≤ (0 : Int) by first | with_reducible assumption | (decide) | assumption) (show zCpJ 104 102 Mz (0 : Int) N30_ by exact zCpJ_0) (Nat.lt_succ_self _)
            · skip
              refine zw_aload_n (pc := 58) (n := 0) (x := 81) rfl (zdal_p dlC_M_goesBack_143 (i := 8) rfl) ?_
              refine zr_getF (r := 101) (hf_N30_.w hW) (pc := 59) f_M_75 rfl (zh_101 (hf_N30_.w hW)).1 (zdal_p dlC_M_goesBack_143 (i := 9) rfl) ?_
              refine zw_iload_n (pc := 62) (n := 1) (x := Int32.ofInt u29_) rfl (zdal_p dlC_M_goesBack_143 (i := 10) rfl) ?_
              refine zw_aload_n (pc := 63) (n := 0) (x := 81) rfl (zdal_p dlC_M_goesBack_143 (i := 11) rfl) ?_
              refine zr_getF (r := 103) (hf_N30_.w hW) (pc := 64) f_M_81 rfl (zh_103 (hf_N30_.w hW)).1 (zdal_p dlC_M_goesBack_143 (i := 12) rfl) ?_
              refine zw_iload_n (pc := 67) (n := 1) (x := Int32.ofInt u29_) rfl (zdal_p dlC_M_goesBack_143 (i := 13) rfl) ?_
              refine zr_laldn (pc := 68) (zh_103 (hf_N30_.w hW)).2 (by decide) (by (exact i32_)) (by (exact zo_2664 hc_55)) (zdal_p dlC_M_goesBack_143 (i := 14) rfl) (fun v92_ hv92_ hv92_a hv92_b => ?_)
              rw [hf_N30_.jg (by decide) (by decide)] at hv92_
              refine zr_last (pc := 69) (zh_101 (hf_N30_.w hW)).2 (by decide) (by decide) (by (exact i32_)) (by (exact zo_2664 hc_55)) (zdal_p dlC_M_goesBack_143 (i := 15) rfl) (fun N93_ hN93_ hsN93_ => ?_)
              have hf_N93_ : zFr [12, 13, 14, 20, 25, 26, 58] [83, 85, 86, 87, 88, 89, 90, 91, 92, 93, 94, 101, 102] Mz N93_ := hf_N30_.tr hsN93_ (by decide) (by decide)
              have hb0_N93_ : zFr [] [101] N20_ N93_ := hs31_.tr hsN93_ (by decide) (by decide)
              have e12_N93_ : ze N93_ 81 12 = ze N30_ 81 12 := hsN93_.e (by decide)
              have e13_N93_ : ze N93_ 81 13 = ze N30_ 81 13 := hsN93_.e (by decide)
              have e14_N93_ : ze N93_ 81 14 = ze N30_ 81 14 := hsN93_.e (by decide)
              have e16_N93_ : ze N93_ 81 16 = ze N30_ 81 16 := hsN93_.e (by decide)
              have e17_N93_ : ze N93_ 81 17 = ze N30_ 81 17 := hsN93_.e (by decide)
              have e18_N93_ : ze N93_ 81 18 = ze N30_ 81 18 := hsN93_.e (by decide)
              have e58_N93_ : ze N93_ 81 58 = ze N30_ 81 58 := hsN93_.e (by decide)
              have c94_ : zIF N93_ := zIF.fr hsN93_ c34_ (by decide) (by decide)
              have c95_ : zB 85 144 0 5 N93_ := zB.fr hsN93_ c35_ (by decide) (by decide)
              have c96_ : zMvq mv_ N93_ := zMvq.fr hsN93_ c36_ (by decide) (by decide)
              have c97_ : zRNi nm_ F_ K_ N93_ := zRNi.fr hsN93_ c37_ (by decide) (by decide)
              have c98_ : zB 83 24 0 5 N93_ := zB.fr hsN93_ c38_ (by decide) (by decide)
              have c99_ : zPm N93_ := zPm.fr hsN93_ c39_ (by decide) (by decide)
              have c100_ : zFin N93_ := zFin.fr hsN93_ c40_ (by decide) (by decide)
              have c101_ : zMvt mv_ N93_ := zMvt.fr hsN93_ c41_ (by decide) (by decide)
              have hJ1_ := zCpJ_s (by (exact i32_)) (show zCpJ 103 101 Mz u29_ N30_ by first | with_reducible assumption | assumption) (by first | with_reducible assumption | assumption) hN93_
              refine zr_iinc (pc := 70) (i := 1) (a := u29_) (n := 1) (L2 := [some (.ref 81), some (.int (Int32.ofInt (u29_ + 1)))]) rfl (by decide) rfl (zdal_p dlC_M_goesBack_143 (i := 16) rfl) ?_
              refine zw_goto (pc := 73) (tgt := 52) (by decide) (zdal_p dlC_M_goesBack_143 (i := 17) rfl) ?_
              exact ih_52 (u29_ + 1) (by (exact zo_74 i32_)) (by omega) N93_ hb0_N93_ (show 0 ≤ (u29_ + 1) by first | with_reducible assumption | (exact zo_76 i32_) | assumption) (show zCpJ 103 101 Mz (u29_ + 1) N93_ by exact hJ1_) (by omega)
        exact lp_52 _ 0 (by decide) (by decide) N20_ zFr.rf (show 0 ≤ (0 : Int) by first | with_reducible assumption | (decide) | assumption) (show zCpJ 103 101 Mz (0 : Int) N20_ by exact zCpJ_0) (Nat.lt_succ_self _)
      · skip
        refine zw_aload_n (pc := 32) (n := 0) (x := 81) rfl (zdal_p dlC_M_goesBack_142 (i := 17) rfl) ?_
        refine zr_getF (r := 83) (hf_N20_.w hW) (pc := 33) f_M_20 rfl (zh_83 (hf_N20_.w hW)).1 (zdal_p dlC_M_goesBack_142 (i := 18) rfl) ?_
        refine zw_iload_n (pc := 36) (n := 1) (x := Int32.ofInt u19_) rfl (zdal_p dlC_M_goesBack_142 (i := 19) rfl) ?_
        refine zw_aload_n (pc := 37) (n := 0) (x := 81) rfl (zdal_p dlC_M_goesBack_142 (i := 20) rfl) ?_
        refine zr_getF (r := 84) (hf_N20_.w hW) (pc := 38) f_M_23 rfl (zh_84 (hf_N20_.w hW)).1 (zdal_p dlC_M_goesBack_142 (i := 21) rfl) ?_
        refine zw_iload_n (pc := 41) (n := 1) (x := Int32.ofInt u19_) rfl (zdal_p dlC_M_goesBack_142 (i := 22) rfl) ?_
        refine zr_ialdn (pc := 42) (zh_84 (hf_N20_.w hW)).2 (by decide) (by (exact i22_)) (by (exact zo_2667 hc_29)) (zdal_p dlC_M_goesBack_142 (i := 23) rfl) (fun v102_ hv102_ hv102_a hv102_b => ?_)
        rw [hf_N20_.ie (by decide) (by decide)] at hv102_
        have hb84_ := p0_.2.1 (u19_).toNat (by omega)
        refine zr_iast (pc := 43) (zh_83 (hf_N20_.w hW)).2 (by decide) (by decide) (by (exact i22_)) (by (exact zo_2667 hc_29)) (zdal_p dlC_M_goesBack_143 (i := 0) rfl) (fun N103_ hN103_ hsN103_ => ?_)
        have hf_N103_ : zFr [12, 13, 14, 20, 25, 26, 58] [83, 85, 86, 87, 88, 89, 90, 91, 92, 93, 94, 101, 102] Mz N103_ := hf_N20_.tr hsN103_ (by decide) (by decide)
        have hb0_N103_ : zFr [] [83] N13_ N103_ := hs21_.tr hsN103_ (by decide) (by decide)
        have e12_N103_ : ze N103_ 81 12 = ze N20_ 81 12 := hsN103_.e (by decide)
        have e13_N103_ : ze N103_ 81 13 = ze N20_ 81 13 := hsN103_.e (by decide)
        have e14_N103_ : ze N103_ 81 14 = ze N20_ 81 14 := hsN103_.e (by decide)
        have e16_N103_ : ze N103_ 81 16 = ze N20_ 81 16 := hsN103_.e (by decide)
        have e17_N103_ : ze N103_ 81 17 = ze N20_ 81 17 := hsN103_.e (by decide)
        have e18_N103_ : ze N103_ 81 18 = ze N20_ 81 18 := hsN103_.e (by decide)
        have e58_N103_ : ze N103_ 81 58 = ze N20_ 81 58 := hsN103_.e (by decide)
        have c104_ : zIF N103_ := zIF.fr hsN103_ c25_ (by decide) (by decide)
        have c105_ : zB 85 144 0 5 N103_ := zB.fr hsN103_ c26_ (by decide) (by decide)
        have c106_ : zMvq mv_ N103_ := zMvq.fr hsN103_ c27_ (by decide) (by decide)
        have c107_ : zRNi nm_ F_ K_ N103_ := zRNi.fr hsN103_ c28_ (by decide) (by decide)
        have c108_ : zB 83 24 0 5 N103_ := zB.s i24_ hN103_ (by (exact zo_574 hb84_.1 hv102_ hv102_a)) (by (exact zo_698 hb84_.2 hv102_ hv102_b)) (by decide) (by decide)
        have hC1_ := zCp_s (by (exact i22_)) (show zCp 84 83 Mz N20_ u19_ by first | with_reducible assumption | assumption) (by first | with_reducible assumption | assumption) hN103_
        refine zr_iinc (pc := 44) (i := 1) (a := u19_) (n := 1) (L2 := [some (.ref 81), some (.int (Int32.ofInt (u19_ + 1)))]) rfl (by decide) rfl (zdal_p dlC_M_goesBack_143 (i := 1) rfl) ?_
        refine zw_goto (pc := 47) (tgt := 26) (by decide) (zdal_p dlC_M_goesBack_143 (i := 2) rfl) ?_
        exact ih_26 (u19_ + 1) (by (exact zo_74 i22_)) (by omega) N103_ hb0_N103_ (show 0 ≤ (u19_ + 1) by first | with_reducible assumption | (exact zo_76 i22_) | assumption) (show zCp 84 83 Mz N103_ (u19_ + 1) by exact hC1_) c108_ (by omega)
  exact lp_26 _ 0 (by decide) (by decide) N13_ zFr.rf (show 0 ≤ (0 : Int) by first | with_reducible assumption | (decide) | assumption) (show zCp 84 83 Mz N13_ (0 : Int) by exact zCp_0) c15_ (Nat.lt_succ_self _)
