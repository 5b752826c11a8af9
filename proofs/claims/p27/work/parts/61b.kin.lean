set_option maxHeartbeats 4000000 in
theorem u_Group_settleG (l : Launch) (d_ : Nat) (Mz : zMem) (hW : zKW d_ Mz) (P_ : Nat) (mv_ : List Nat) (hpm_ : ∀ g ∈ mv_, gpm g) (p0_ : zMvK mv_ P_ d_ Mz) (p1_ : zGg mv_ P_ d_ Mz) : zC l m_Group_settle 0 0 [.ref (d_ + 1)] Mz (zqcV d_ [] [] [] [5, 7, 9] Mz (fun N => (∃ T : zGT, zTm mv_ T ∧ zTt T d_ N ∧ zGc mv_ P_ T d_ N))) := by
  refine zC_of (L0 := [some (.ref (d_ + 1)), none, none, none]) md_Group_settle (Nat.le_of_ble_eq_true rfl) rfl ?_ zQ0
  have hf : zFc d_ [] [] [] [5, 7, 9] Mz Mz := zFc.rf
  have r_D1_5 := ze_r Mz (d_ + 1) 5
  have r_D1_7 := ze_r Mz (d_ + 1) 7
  obtain ⟨⟨hP0_, hP1_, hP6_⟩, hc1_, hc2_, hc3_⟩ := id p0_
  have hs0_ := p1_.s
  have hs24_ := p1_.2.1
  refine zw_iconst (pc := 0) (v := Int32.ofInt 1) (by decide) (zdal_p dlA_Group_settle_28 (i := 0) rfl) ?_
  refine zw_istore_n (pc := 1) (i := 1) (L2 := [some (.ref (d_ + 1)), some (.int (Int32.ofInt 1)), none, none]) rfl (by decide) rfl (zdal_p dlA_Group_settle_28 (i := 1) rfl) ?_
  have lp_2 : ∀ (n : Nat) (u1_ : Int) (hu1_a : -2147483648 ≤ u1_) (hu1_b : u1_ < 2147483648) (N2_ : zMem) (hs3_ : zFc d_ [] [] [] [5] Mz N2_) (i4_ : 1 ≤ u1_) (i5_ : zSoK (fun x_ => x_) (zRw d_ 5 Mz) (zRw d_ 5 N2_) (ze Mz (d_ + 1) 7).toNat (u1_).toNat), (ze Mz (d_ + 1) 7 - u1_).toNat < n → zW l m_Group_settle (zn Mz + 0, zw Mz + 0) N2_ 2 [some (.ref (d_ + 1)), some (.int (Int32.ofInt u1_)), none, none] [] (zqcV d_ [] [] [] [5, 7, 9] Mz (fun N => (∃ T : zGT, zTm mv_ T ∧ zTt T d_ N ∧ zGc mv_ P_ T d_ N))) := by
    intro n
    induction n with
    | zero =>
      intro u1_ hu1_a hu1_b N2_ hs3_ i4_ i5_ h0
      exact absurd h0 (Nat.not_lt_zero _)
    | succ n ih_2 =>
      intro u1_ hu1_a hu1_b N2_ hs3_ i4_ i5_ hlt_2
      have hf_N2_ : zFc d_ [] [] [] [5, 7, 9] Mz N2_ := hf.tr hs3_ (by decide) (by decide) (by decide) (by decide)
      have eD1_5_N2_ : ze N2_ (d_ + 1) 5 = ze Mz (d_ + 1) 5 := hs3_.e (by decide)
      have eD1_7_N2_ : ze N2_ (d_ + 1) 7 = ze Mz (d_ + 1) 7 := hs3_.e (by decide)
      have c6_ : zMvK mv_ P_ d_ N2_ := zMvK.fr (hf.w hW) hs3_ p0_ (by decide)
      have hso_ := (show zSoK (fun x_ => x_) (zRw d_ 5 Mz) (zRw d_ 5 N2_) (ze Mz (d_ + 1) 7).toNat (u1_).toNat by assumption)
      refine zw_iload_n (pc := 2) (n := 1) (x := Int32.ofInt u1_) rfl (zdal_p dlA_Group_settle_28 (i := 2) rfl) ?_
      refine zw_aload_n (pc := 3) (n := 0) (x := (d_ + 1)) rfl (zdal_p dlA_Group_settle_28 (i := 3) rfl) ?_
      refine zk_getI (pc := 4) f_Group_39 rfl ((hf_N2_.w hW).kr (o := 1) (by decide)) (zdal_p dlA_Group_settle_28 (i := 4) rfl) ?_
      rw [hf_N2_.e (by decide)]
      refine zr_icmp_ge (pc := 7) (tgt := 78) ⟨hu1_a, hu1_b⟩ ⟨(ze_r Mz (d_ + 1) 7).1, (ze_r Mz (d_ + 1) 7).2⟩ (by decide) (zdal_p dlA_Group_settle_28 (i := 5) rfl) (fun hc_7 => ?_) (fun hc_7 => ?_)
      · skip
        obtain ⟨T_, hgc_⟩ := p1_.t hpm_ hso_ (by omega) (by omega)
        obtain ⟨hgb1_, hgb2_, hgb3_⟩ := id hgc_
        obtain ⟨hb1_, hb2_, hb3_, hb4_, hb5_⟩ := id hgb1_
        refine zw_iconst (pc := 78) (v := Int32.ofInt 0) (by decide) (zdal_p dlA_Group_settle_29 (i := 18) rfl) ?_
        refine zw_istore_n (pc := 79) (i := 1) (L2 := [some (.ref (d_ + 1)), some (.int (Int32.ofInt 0)), none, none]) rfl (by decide) rfl (zdal_p dlA_Group_settle_29 (i := 19) rfl) ?_
        have lp_80 : ∀ (n : Nat) (u7_ : Int) (hu7_a : -2147483648 ≤ u7_) (hu7_b : u7_ < 2147483648) (N8_ : zMem) (hs9_ : zFc d_ [] [] [] [7, 9] N2_ N8_) (i10_ : 0 ≤ u7_) (i11_ : zPkK T_ d_ N8_ u7_ 0) (i12_ : zGc mv_ P_ T_ d_ N8_), (ze Mz (d_ + 1) 7 - u7_).toNat < n → zW l m_Group_settle (zn Mz + 0, zw Mz + 0) N8_ 80 [some (.ref (d_ + 1)), some (.int (Int32.ofInt u7_)), none, none] [] (zqcV d_ [] [] [] [5, 7, 9] Mz (fun N => (∃ T : zGT, zTm mv_ T ∧ zTt T d_ N ∧ zGc mv_ P_ T d_ N))) := by
          intro n
          induction n with
          | zero =>
            intro u7_ hu7_a hu7_b N8_ hs9_ i10_ i11_ i12_ h0
            exact absurd h0 (Nat.not_lt_zero _)
          | succ n ih_80 =>
            intro u7_ hu7_a hu7_b N8_ hs9_ i10_ i11_ i12_ hlt_80
            have hf_N8_ : zFc d_ [] [] [] [5, 7, 9] Mz N8_ := hf_N2_.tr hs9_ (by decide) (by decide) (by decide) (by decide)
            have eD1_5_N8_ : ze N8_ (d_ + 1) 5 = ze N2_ (d_ + 1) 5 := hs9_.e (by decide)
            have eD1_7_N8_ : ze N8_ (d_ + 1) 7 = ze N2_ (d_ + 1) 7 := hs9_.e (by decide)
            have c13_ : zMvK mv_ P_ d_ N8_ := zMvK.fr (hf_N2_.w hW) hs9_ c6_ (by decide)
            have hpk_ := (show zPkK T_ d_ N8_ u7_ 0 by assumption)
            refine zw_iload_n (pc := 80) (n := 1) (x := Int32.ofInt u7_) rfl (zdal_p dlA_Group_settle_29 (i := 20) rfl) ?_
            refine zw_aload_n (pc := 81) (n := 0) (x := (d_ + 1)) rfl (zdal_p dlA_Group_settle_29 (i := 21) rfl) ?_
            refine zk_getI (pc := 82) f_Group_39 rfl ((hf_N8_.w hW).kr (o := 1) (by decide)) (zdal_p dlA_Group_settle_29 (i := 22) rfl) ?_
            rw [hf_N8_.e (by decide)]
            refine zr_icmp_ge (pc := 85) (tgt := 162) ⟨hu7_a, hu7_b⟩ ⟨(ze_r Mz (d_ + 1) 7).1, (ze_r Mz (d_ + 1) 7).2⟩ (by decide) (zdal_p dlA_Group_settle_29 (i := 23) rfl) (fun hc_85 => ?_) (fun hc_85 => ?_)
            · skip
              exact zk_vret (pc := 162) rfl hf_N8_ (show (∃ T : zGT, zTm mv_ T ∧ zTt T d_ N8_ ∧ zGc mv_ P_ T d_ N8_) by exact ⟨T_, ⟨_, hb1_, hb2_, hb3_, hb4_, hb5_⟩, zPk_e (by omega) hpk_ (by omega), i12_⟩) (zdal_p dlA_Group_settle_31 (i := 15) rfl)
            · skip
              refine zw_iconst (pc := 88) (v := Int32.ofInt 0) (by decide) (zdal_p dlA_Group_settle_30 (i := 0) rfl) ?_
              refine zw_istore_n (pc := 89) (i := 2) (L2 := [some (.ref (d_ + 1)), some (.int (Int32.ofInt u7_)), some (.int (Int32.ofInt 0)), none]) rfl (by decide) rfl (zdal_p dlA_Group_settle_30 (i := 1) rfl) ?_
              have lp_90 : ∀ (n : Nat) (u14_ : Int) (hu14_a : -2147483648 ≤ u14_) (hu14_b : u14_ < 2147483648) (N15_ : zMem) (hs16_ : zFc d_ [] [] [] [7, 9] N8_ N15_) (i17_ : 0 ≤ u14_) (i18_ : u14_ ≤ gN T_) (i19_ : zPkK T_ d_ N15_ u7_ u14_) (i20_ : zPv T_ d_ N15_ u7_ u14_) (i21_ : zGc mv_ P_ T_ d_ N15_), (ze Mz (d_ + 1) 7 - u14_).toNat < n → zW l m_Group_settle (zn Mz + 0, zw Mz + 0) N15_ 90 [some (.ref (d_ + 1)), some (.int (Int32.ofInt u7_)), some (.int (Int32.ofInt u14_)), none] [] (zqcV d_ [] [] [] [5, 7, 9] Mz (fun N => (∃ T : zGT, zTm mv_ T ∧ zTt T d_ N ∧ zGc mv_ P_ T d_ N))) := by
                intro n
                induction n with
                | zero =>
                  intro u14_ hu14_a hu14_b N15_ hs16_ i17_ i18_ i19_ i20_ i21_ h0
                  exact absurd h0 (Nat.not_lt_zero _)
                | succ n ih_90 =>
                  intro u14_ hu14_a hu14_b N15_ hs16_ i17_ i18_ i19_ i20_ i21_ hlt_90
                  have hf_N15_ : zFc d_ [] [] [] [5, 7, 9] Mz N15_ := hf_N8_.tr hs16_ (by decide) (by decide) (by decide) (by decide)
                  have hb0_N15_ : zFc d_ [] [] [] [7, 9] N2_ N15_ := hs9_.tr hs16_ (by decide) (by decide) (by decide) (by decide)
                  have eD1_5_N15_ : ze N15_ (d_ + 1) 5 = ze N8_ (d_ + 1) 5 := hs16_.e (by decide)
                  have eD1_7_N15_ : ze N15_ (d_ + 1) 7 = ze N8_ (d_ + 1) 7 := hs16_.e (by decide)
                  have c22_ : zMvK mv_ P_ d_ N15_ := zMvK.fr (hf_N8_.w hW) hs16_ c13_ (by decide)
                  have hpl_ := (show zPkK T_ d_ N15_ u7_ u14_ by assumption)
                  have hpv_ := (show zPv T_ d_ N15_ u7_ u14_ by assumption)
                  refine zw_iload_n (pc := 90) (n := 2) (x := Int32.ofInt u14_) rfl (zdal_p dlA_Group_settle_30 (i := 2) rfl) ?_
                  refine zw_aload_n (pc := 91) (n := 0) (x := (d_ + 1)) rfl (zdal_p dlA_Group_settle_30 (i := 3) rfl) ?_
                  refine zk_getI (pc := 92) f_Group_39 rfl ((hf_N15_.w hW).kr (o := 1) (by decide)) (zdal_p dlA_Group_settle_30 (i := 4) rfl) ?_
                  rw [hf_N15_.e (by decide)]
                  refine zr_icmp_ge (pc := 95) (tgt := 156) ⟨hu14_a, hu14_b⟩ ⟨(ze_r Mz (d_ + 1) 7).1, (ze_r Mz (d_ + 1) 7).2⟩ (by decide) (zdal_p dlA_Group_settle_30 (i := 5) rfl) (fun hc_95 => ?_) (fun hc_95 => ?_)
                  · skip
                    refine zr_iinc (pc := 156) (i := 1) (a := u7_) (n := 1) (L2 := [some (.ref (d_ + 1)), some (.int (Int32.ofInt (u7_ + 1))), some (.int (Int32.ofInt u14_)), none]) rfl (by decide) rfl (zdal_p dlA_Group_settle_31 (i := 13) rfl) ?_
                    refine zw_goto (pc := 159) (tgt := 80) (by decide) (zdal_p dlA_Group_settle_31 (i := 14) rfl) ?_
                    refine zW_le [some (.ref (d_ + 1)), some (.int (Int32.ofInt (u7_ + 1))), none, none] (⟨rfl, rfl, trivial⟩) ?_
                    exact ih_80 (u7_ + 1) (by omega) (by omega) N15_ hb0_N15_ (show 0 ≤ (u7_ + 1) by first | assumption | omega) (show zPkK T_ d_ N15_ (u7_ + 1) 0 by exact zPk_n hb5_ (by omega) (by omega) hpl_ hpv_ (by omega)) i21_ (by omega)
                  · skip
                    refine zw_aload_n (pc := 98) (n := 0) (x := (d_ + 1)) rfl (zdal_p dlA_Group_settle_30 (i := 6) rfl) ?_
                    refine zw_aload_n (pc := 99) (n := 0) (x := (d_ + 1)) rfl (zdal_p dlA_Group_settle_30 (i := 7) rfl) ?_
                    refine zw_aload_n (pc := 100) (n := 0) (x := (d_ + 1)) rfl (zdal_p dlA_Group_settle_30 (i := 8) rfl) ?_
                    refine zw_getF (pc := 101) f_Group_20 rfl ((hf_N15_.w hW).kr (o := 1) (by decide)) ((hf_N15_.w hW).lr (o := 1) (s := 1) (r := 4) (by decide)) (zdal_p dlA_Group_settle_30 (i := 9) rfl) ?_
                    refine zw_iload_n (pc := 104) (n := 1) (x := Int32.ofInt u7_) rfl (zdal_p dlA_Group_settle_30 (i := 10) rfl) ?_
                    refine zk_at hf_N15_.x (pc := 105) l_Group_54 ((hf_N15_.w hW).kr (o := 4) (by decide)) ((hf_N15_.w hW).lr (o := 4) (s := 0) (r := 5) (by decide)) ((hf_N15_.w hW).rr (o := 5) (t := 1) (n := 24) (by decide)) (by decide) (by omega) (by omega) (by decide) (Nat.le_of_ble_eq_true rfl) (zdal_p dlA_Group_settle_30 (i := 11) rfl) (fun v23_ hv23_ hv23_a hv23_b => ?_)
                    have hv1_ := hv23_
                    refine zw_aload_n (pc := 108) (n := 0) (x := (d_ + 1)) rfl (zdal_p dlA_Group_settle_30 (i := 12) rfl) ?_
                    refine zw_getF (pc := 109) f_Group_20 rfl ((hf_N15_.w hW).kr (o := 1) (by decide)) ((hf_N15_.w hW).lr (o := 1) (s := 1) (r := 4) (by decide)) (zdal_p dlA_Group_settle_30 (i := 13) rfl) ?_
                    refine zw_iload_n (pc := 112) (n := 2) (x := Int32.ofInt u14_) rfl (zdal_p dlA_Group_settle_30 (i := 14) rfl) ?_
                    refine zk_at hf_N15_.x (pc := 113) l_Group_54 ((hf_N15_.w hW).kr (o := 4) (by decide)) ((hf_N15_.w hW).lr (o := 4) (s := 0) (r := 5) (by decide)) ((hf_N15_.w hW).rr (o := 5) (t := 1) (n := 24) (by decide)) (by decide) (by omega) (by omega) (by decide) (Nat.le_of_ble_eq_true rfl) (zdal_p dlA_Group_settle_30 (i := 15) rfl) (fun v24_ hv24_ hv24_a hv24_b => ?_)
                    have hv2_ := hv24_
                    have hcc_ := i21_
                    obtain ⟨hcd1_, hcd2_, hcd3_⟩ := id hcc_
                    refine zk_callV hf_N15_.x (pc := 116) [.int (Int32.ofInt v23_), .int (Int32.ofInt v24_)] [.ref (d_ + 1)] l_Group_58 (u_Group_behind l d_ N15_ (hf_N15_.w hW) v23_ hv23_a hv23_b v24_ hv24_a hv24_b P_ (show ze N15_ (d_ + 1) 5 = P_ by first | assumption | omega) (show P_ ≤ 6 by first | assumption | omega) (show zkv P_ v23_ by rw [hv1_]; exact hcd3_ _ (by omega)) (show zkv P_ v24_ by rw [hv2_]; exact hcd3_ _ (by omega))) rfl rfl ((hf_N15_.w hW).kr (o := 1) (by decide)) (by decide) (by decide) (Nat.le_of_ble_eq_true rfl) (zdal_p dlA_Group_settle_30 (i := 16) rfl) ?_
                    rintro _ N25_ ⟨v26_, rfl, ⟨hv26_a, hv26_b⟩, hsN25_, hp0_N25_⟩
                    obtain rfl := hsN25_.eq.symm
                    replace hp0_N25_ : v26_ = (zbe P_ v23_ v24_ : Nat) := hp0_N25_
                    show zW l m_Group_settle (zn Mz + 0, zw Mz + 0) N15_ 119 [some (.ref (d_ + 1)), some (.int (Int32.ofInt u7_)), some (.int (Int32.ofInt u14_)), none] [.int (Int32.ofInt v26_), .ref (d_ + 1)] _
                    have hx_ := hp0_N25_
                    have hgv_ := fun v => hcc_.v (v := v) hP6_ (by omega) (by omega) hv1_ hv2_ hx_
                    refine zk_callV hf_N15_.x (pc := 119) [.int (Int32.ofInt v26_)] [] l_Group_61 (u_Group_indexOf l d_ N15_ (hf_N15_.w hW) v26_ hv26_a hv26_b (show 0 ≤ ze N15_ (d_ + 1) 7 by first | assumption | omega) (show ze N15_ (d_ + 1) 7 ≤ 24 by first | assumption | omega)) rfl rfl ((hf_N15_.w hW).kr (o := 1) (by decide)) (by decide) (by decide) (Nat.le_of_ble_eq_true rfl) (zdal_p dlA_Group_settle_30 (i := 17) rfl) ?_
                    rintro _ N27_ ⟨v28_, rfl, ⟨hv28_a, hv28_b⟩, hsN27_, hp0_N27_⟩
                    obtain rfl := hsN27_.eq.symm
                    replace hp0_N27_ : ((v28_ = -1 ∧ (∀ i : Nat, (i : Int) < ze N15_ (d_ + 1) 7 → ze N15_ (d_ + 5) i ≠ v26_)) ∨ (0 ≤ v28_ ∧ v28_ < ze N15_ (d_ + 1) 7 ∧ ze N15_ (d_ + 5) (v28_).toNat = v26_)) := hp0_N27_
                    rcases hp0_N27_ with ⟨rfl, ha119_0_hp0_N27_⟩ | ⟨ha119_0_hp0_N27_, ha119_1_hp0_N27_, ha119_2_hp0_N27_⟩
                    · skip
                      exact absurd ha119_0_hp0_N27_ (hgv_ 0).2
                    · skip
                      have hvm_ := (hgv_ _).1 ha119_0_hp0_N27_ ha119_1_hp0_N27_ ha119_2_hp0_N27_
                      show zW l m_Group_settle (zn Mz + 0, zw Mz + 0) N15_ 122 [some (.ref (d_ + 1)), some (.int (Int32.ofInt u7_)), some (.int (Int32.ofInt u14_)), none] [.int (Int32.ofInt v28_)] _
                      refine zw_istore_n (pc := 122) (i := 3) (L2 := [some (.ref (d_ + 1)), some (.int (Int32.ofInt u7_)), some (.int (Int32.ofInt u14_)), some (.int (Int32.ofInt v28_))]) rfl (by decide) rfl (zdal_p dlA_Group_settle_30 (i := 18) rfl) ?_
                      refine zw_aload_n (pc := 123) (n := 0) (x := (d_ + 1)) rfl (zdal_p dlA_Group_settle_30 (i := 19) rfl) ?_
                      refine zw_getF (pc := 124) f_Group_23 rfl ((hf_N15_.w hW).kr (o := 1) (by decide)) ((hf_N15_.w hW).lr (o := 1) (s := 2) (r := 6) (by decide)) (zdal_p dlA_Group_settle_30 (i := 20) rfl) ?_
                      refine zw_iload_n (pc := 127) (n := 1) (x := Int32.ofInt u7_) rfl (zdal_p dlA_Group_settle_30 (i := 21) rfl) ?_
                      refine zw_bipush (pc := 128) (v := Int32.ofInt 24) (by decide) (zdal_p dlA_Group_settle_30 (i := 22) rfl) ?_
                      refine zr_imul (pc := 130) (zdal_p dlA_Group_settle_30 (i := 23) rfl) ?_
                      refine zw_iload_n (pc := 131) (n := 2) (x := Int32.ofInt u14_) rfl (zdal_p dlA_Group_settle_31 (i := 0) rfl) ?_
                      refine zr_iadd (pc := 132) (zdal_p dlA_Group_settle_31 (i := 1) rfl) ?_
                      refine zw_iload_n (pc := 133) (n := 3) (x := Int32.ofInt v28_) rfl (zdal_p dlA_Group_settle_31 (i := 2) rfl) ?_
                      refine zk_st hf_N15_.x (pc := 134) (o := 7) (by decide) l_Group_46 ((hf_N15_.w hW).kr (o := 6) (by decide)) ((hf_N15_.w hW).lr (o := 6) (s := 0) (r := 7) (by decide)) ((hf_N15_.w hW).rr (o := 7) (t := 1) (n := 576) (by decide)) (by decide) (by omega) (by omega) (by decide) (Nat.le_of_ble_eq_true rfl) (zdal_p dlA_Group_settle_31 (i := 3) rfl) (fun N29_ hN29_ hsN29_ => ?_)
                      have hf_N29_ : zFc d_ [] [] [] [5, 7, 9] Mz N29_ := hf_N15_.tr hsN29_ (by decide) (by decide) (by decide) (by decide)
                      have hb0_N29_ : zFc d_ [] [] [] [7, 9] N2_ N29_ := hb0_N15_.tr hsN29_ (by decide) (by decide) (by decide) (by decide)
                      have hb1_N29_ : zFc d_ [] [] [] [7, 9] N8_ N29_ := hs16_.tr hsN29_ (by decide) (by decide) (by decide) (by decide)
                      have eD1_5_N29_ : ze N29_ (d_ + 1) 5 = ze N15_ (d_ + 1) 5 := hsN29_.e (by decide)
                      have eD1_7_N29_ : ze N29_ (d_ + 1) 7 = ze N15_ (d_ + 1) 7 := hsN29_.e (by decide)
                      have c30_ : zMvK mv_ P_ d_ N29_ := zMvK.fr (hf_N15_.w hW) hsN29_ c22_ (by decide)
                      have c31_ : zGc mv_ P_ T_ d_ N29_ := zGc.fr (hf_N15_.w hW) hsN29_ i21_ (by decide)
                      obtain ⟨hk1_, hk2_⟩ := zPk_s (Nz := N29_) (by omega) (by omega) (by omega) (by omega) (by omega) hpl_ hpv_ hvm_ (by omega) hN29_ (fun j => hsN29_.r (by decide) j)
                      refine zw_iload_n (pc := 137) (n := 3) (x := Int32.ofInt v28_) rfl (zdal_p dlA_Group_settle_31 (i := 4) rfl) ?_
                      refine zr_if_ne (pc := 138) (tgt := 150) ⟨hv28_a, hv28_b⟩ (by decide) (zdal_p dlA_Group_settle_31 (i := 5) rfl) (fun hc_138 => ?_) (fun hc_138 => ?_)
                      · skip
                        refine zr_iinc (pc := 150) (i := 2) (a := u14_) (n := 1) (L2 := [some (.ref (d_ + 1)), some (.int (Int32.ofInt u7_)), some (.int (Int32.ofInt (u14_ + 1))), some (.int (Int32.ofInt v28_))]) rfl (by decide) rfl (zdal_p dlA_Group_settle_31 (i := 11) rfl) ?_
                        refine zw_goto (pc := 153) (tgt := 90) (by decide) (zdal_p dlA_Group_settle_31 (i := 12) rfl) ?_
                        refine zW_le [some (.ref (d_ + 1)), some (.int (Int32.ofInt u7_)), some (.int (Int32.ofInt (u14_ + 1))), none] (⟨rfl, rfl, rfl, trivial⟩) ?_
                        exact ih_90 (u14_ + 1) (by omega) (by omega) N29_ hb1_N29_ (show 0 ≤ (u14_ + 1) by first | assumption | omega) (show (u14_ + 1) ≤ gN T_ by first | assumption | omega) (show zPkK T_ d_ N29_ u7_ (u14_ + 1) by first | exact hk3_ | exact hk1_) (show zPv T_ d_ N29_ u7_ (u14_ + 1) by first | exact hk4_ | exact zPv_n (by omega) hk2_ (by omega)) c31_ (by omega)
                      · skip
                        refine zw_aload_n (pc := 141) (n := 0) (x := (d_ + 1)) rfl (zdal_p dlA_Group_settle_31 (i := 6) rfl) ?_
                        refine zw_getF (pc := 142) f_Group_26 rfl ((hf_N29_.w hW).kr (o := 1) (by decide)) ((hf_N29_.w hW).lr (o := 1) (s := 3) (r := 8) (by decide)) (zdal_p dlA_Group_settle_31 (i := 7) rfl) ?_
                        refine zw_iload_n (pc := 145) (n := 1) (x := Int32.ofInt u7_) rfl (zdal_p dlA_Group_settle_31 (i := 8) rfl) ?_
                        refine zw_iload_n (pc := 146) (n := 2) (x := Int32.ofInt u14_) rfl (zdal_p dlA_Group_settle_31 (i := 9) rfl) ?_
                        refine zk_st hf_N29_.x (pc := 147) (o := 9) (by decide) l_Group_46 ((hf_N29_.w hW).kr (o := 8) (by decide)) ((hf_N29_.w hW).lr (o := 8) (s := 0) (r := 9) (by decide)) ((hf_N29_.w hW).rr (o := 9) (t := 1) (n := 24) (by decide)) (by decide) (by omega) (by omega) (by decide) (Nat.le_of_ble_eq_true rfl) (zdal_p dlA_Group_settle_31 (i := 10) rfl) (fun N32_ hN32_ hsN32_ => ?_)
                        have hf_N32_ : zFc d_ [] [] [] [5, 7, 9] Mz N32_ := hf_N29_.tr hsN32_ (by decide) (by decide) (by decide) (by decide)
                        have hb0_N32_ : zFc d_ [] [] [] [7, 9] N2_ N32_ := hb0_N29_.tr hsN32_ (by decide) (by decide) (by decide) (by decide)
                        have hb1_N32_ : zFc d_ [] [] [] [7, 9] N8_ N32_ := hb1_N29_.tr hsN32_ (by decide) (by decide) (by decide) (by decide)
                        have eD1_5_N32_ : ze N32_ (d_ + 1) 5 = ze N29_ (d_ + 1) 5 := hsN32_.e (by decide)
                        have eD1_7_N32_ : ze N32_ (d_ + 1) 7 = ze N29_ (d_ + 1) 7 := hsN32_.e (by decide)
                        have c33_ : zMvK mv_ P_ d_ N32_ := zMvK.fr (hf_N29_.w hW) hsN32_ c30_ (by decide)
                        have c34_ : zGc mv_ P_ T_ d_ N32_ := zGc.fr (hf_N29_.w hW) hsN32_ c31_ (by decide)
                        obtain ⟨hk3_, hk4_⟩ := zPv_s (Nz := N32_) (by omega) (by omega) (by omega) (by omega) hk1_ (by omega) hN32_ (fun j => hsN32_.r (by decide) j)
                        refine zr_iinc (pc := 150) (i := 2) (a := u14_) (n := 1) (L2 := [some (.ref (d_ + 1)), some (.int (Int32.ofInt u7_)), some (.int (Int32.ofInt (u14_ + 1))), some (.int (Int32.ofInt v28_))]) rfl (by decide) rfl (zdal_p dlA_Group_settle_31 (i := 11) rfl) ?_
                        refine zw_goto (pc := 153) (tgt := 90) (by decide) (zdal_p dlA_Group_settle_31 (i := 12) rfl) ?_
                        refine zW_le [some (.ref (d_ + 1)), some (.int (Int32.ofInt u7_)), some (.int (Int32.ofInt (u14_ + 1))), none] (⟨rfl, rfl, rfl, trivial⟩) ?_
                        exact ih_90 (u14_ + 1) (by omega) (by omega) N32_ hb1_N32_ (show 0 ≤ (u14_ + 1) by first | assumption | omega) (show (u14_ + 1) ≤ gN T_ by first | assumption | omega) (show zPkK T_ d_ N32_ u7_ (u14_ + 1) by first | exact hk3_ | exact hk1_) (show zPv T_ d_ N32_ u7_ (u14_ + 1) by first | exact hk4_ | exact zPv_n (by omega) hk2_ (by omega)) c34_ (by omega)
              exact lp_90 _ 0 (by decide) (by decide) N8_ zFc.rf (show 0 ≤ (0 : Int) by first | assumption | omega) (show (0 : Int) ≤ gN T_ by first | assumption | omega) (show zPkK T_ d_ N8_ u7_ (0 : Int) by exact hpk_) (show zPv T_ d_ N8_ u7_ (0 : Int) by exact zPv_0) i12_ (Nat.lt_succ_self _)
        exact lp_80 _ 0 (by decide) (by decide) N2_ zFc.rf (show 0 ≤ (0 : Int) by first | assumption | omega) (show zPkK T_ d_ N2_ (0 : Int) 0 by exact zPkK_0) hgc_ (Nat.lt_succ_self _)
      · skip
        refine zw_aload_n (pc := 10) (n := 0) (x := (d_ + 1)) rfl (zdal_p dlA_Group_settle_28 (i := 6) rfl) ?_
        refine zw_getF (pc := 11) f_Group_20 rfl ((hf_N2_.w hW).kr (o := 1) (by decide)) ((hf_N2_.w hW).lr (o := 1) (s := 1) (r := 4) (by decide)) (zdal_p dlA_Group_settle_28 (i := 7) rfl) ?_
        refine zw_iload_n (pc := 14) (n := 1) (x := Int32.ofInt u1_) rfl (zdal_p dlA_Group_settle_28 (i := 8) rfl) ?_
        refine zk_at hf_N2_.x (pc := 15) l_Group_54 ((hf_N2_.w hW).kr (o := 4) (by decide)) ((hf_N2_.w hW).lr (o := 4) (s := 0) (r := 5) (by decide)) ((hf_N2_.w hW).rr (o := 5) (t := 1) (n := 24) (by decide)) (by decide) (by omega) (by omega) (by decide) (Nat.le_of_ble_eq_true rfl) (zdal_p dlA_Group_settle_28 (i := 9) rfl) (fun v35_ hv35_ hv35_a hv35_b => ?_)
        have hr1_ := hv35_
        have hsj0_ := zSj_0 hso_ (by omega : (u1_).toNat < (ze Mz (d_ + 1) 7).toNat)
        rw [show zRw d_ 5 N2_ (u1_).toNat = v35_ from hr1_.symm] at hsj0_
        refine zw_istore_n (pc := 18) (i := 2) (L2 := [some (.ref (d_ + 1)), some (.int (Int32.ofInt u1_)), some (.int (Int32.ofInt v35_)), none]) rfl (by decide) rfl (zdal_p dlA_Group_settle_28 (i := 10) rfl) ?_
        refine zw_iload_n (pc := 19) (n := 1) (x := Int32.ofInt u1_) rfl (zdal_p dlA_Group_settle_28 (i := 11) rfl) ?_
        refine zw_istore_n (pc := 20) (i := 3) (L2 := [some (.ref (d_ + 1)), some (.int (Int32.ofInt u1_)), some (.int (Int32.ofInt v35_)), some (.int (Int32.ofInt u1_))]) rfl (by decide) rfl (zdal_p dlA_Group_settle_28 (i := 12) rfl) ?_
        have lp_21 : ∀ (n : Nat) (u36_ : Int) (hu36_a : -2147483648 ≤ u36_) (hu36_b : u36_ < 2147483648) (N37_ : zMem) (hs38_ : zFc d_ [] [] [] [5] N2_ N37_) (i39_ : 0 ≤ u36_) (i40_ : u36_ ≤ u1_) (i41_ : zSj (fun x_ => x_) (zRw d_ 5 Mz) (zRw d_ 5 N37_) (ze Mz (d_ + 1) 7).toNat (u1_).toNat (u36_).toNat v35_), (u36_).toNat < n → zW l m_Group_settle (zn Mz + 0, zw Mz + 0) N37_ 21 [some (.ref (d_ + 1)), some (.int (Int32.ofInt u1_)), some (.int (Int32.ofInt v35_)), some (.int (Int32.ofInt u36_))] [] (zqcV d_ [] [] [] [5, 7, 9] Mz (fun N => (∃ T : zGT, zTm mv_ T ∧ zTt T d_ N ∧ zGc mv_ P_ T d_ N))) := by
          intro n
          induction n with
          | zero =>
            intro u36_ hu36_a hu36_b N37_ hs38_ i39_ i40_ i41_ h0
            exact absurd h0 (Nat.not_lt_zero _)
          | succ n ih_21 =>
            intro u36_ hu36_a hu36_b N37_ hs38_ i39_ i40_ i41_ hlt_21
            have hf_N37_ : zFc d_ [] [] [] [5, 7, 9] Mz N37_ := hf_N2_.tr hs38_ (by decide) (by decide) (by decide) (by decide)
            have hb0_N37_ : zFc d_ [] [] [] [5] Mz N37_ := hs3_.tr hs38_ (by decide) (by decide) (by decide) (by decide)
            have eD1_5_N37_ : ze N37_ (d_ + 1) 5 = ze N2_ (d_ + 1) 5 := hs38_.e (by decide)
            have eD1_7_N37_ : ze N37_ (d_ + 1) 7 = ze N2_ (d_ + 1) 7 := hs38_.e (by decide)
            have c42_ : zMvK mv_ P_ d_ N37_ := zMvK.fr (hf_N2_.w hW) hs38_ c6_ (by decide)
            have hsj_ := (show zSj (fun x_ => x_) (zRw d_ 5 Mz) (zRw d_ 5 N37_) (ze Mz (d_ + 1) 7).toNat (u1_).toNat (u36_).toNat v35_ by assumption)
            refine zw_iload_n (pc := 21) (n := 3) (x := Int32.ofInt u36_) rfl (zdal_p dlA_Group_settle_28 (i := 13) rfl) ?_
            refine zr_if_le (pc := 22) (tgt := 63) ⟨hu36_a, hu36_b⟩ (by decide) (zdal_p dlA_Group_settle_28 (i := 14) rfl) (fun hc_22 => ?_) (fun hc_22 => ?_)
            · skip
              have hex_ : (u36_).toNat = 0 ∨ ¬ (fun x_ => x_) v35_ < (fun x_ => x_) (zRw d_ 5 N37_ ((u36_).toNat - 1)) := by first | exact Or.inl (by omega) | (refine Or.inr ?_; show ¬ v35_ < ze N37_ (d_ + 5) ((u36_).toNat - 1); rw [show (u36_).toNat - 1 = (u36_ - 1).toNat by omega]; omega)
              refine zw_aload_n (pc := 63) (n := 0) (x := (d_ + 1)) rfl (zdal_p dlA_Group_settle_29 (i := 11) rfl) ?_
              refine zw_getF (pc := 64) f_Group_20 rfl ((hf_N37_.w hW).kr (o := 1) (by decide)) ((hf_N37_.w hW).lr (o := 1) (s := 1) (r := 4) (by decide)) (zdal_p dlA_Group_settle_29 (i := 12) rfl) ?_
              refine zw_iload_n (pc := 67) (n := 3) (x := Int32.ofInt u36_) rfl (zdal_p dlA_Group_settle_29 (i := 13) rfl) ?_
              refine zw_iload_n (pc := 68) (n := 2) (x := Int32.ofInt v35_) rfl (zdal_p dlA_Group_settle_29 (i := 14) rfl) ?_
              refine zk_st hf_N37_.x (pc := 69) (o := 5) (by decide) l_Group_46 ((hf_N37_.w hW).kr (o := 4) (by decide)) ((hf_N37_.w hW).lr (o := 4) (s := 0) (r := 5) (by decide)) ((hf_N37_.w hW).rr (o := 5) (t := 1) (n := 24) (by decide)) (by decide) (by omega) (by omega) (by decide) (Nat.le_of_ble_eq_true rfl) (zdal_p dlA_Group_settle_29 (i := 15) rfl) (fun N43_ hN43_ hsN43_ => ?_)
              have hf_N43_ : zFc d_ [] [] [] [5, 7, 9] Mz N43_ := hf_N37_.tr hsN43_ (by decide) (by decide) (by decide) (by decide)
              have hb0_N43_ : zFc d_ [] [] [] [5] Mz N43_ := hb0_N37_.tr hsN43_ (by decide) (by decide) (by decide) (by decide)
              have eD1_5_N43_ : ze N43_ (d_ + 1) 5 = ze N37_ (d_ + 1) 5 := hsN43_.e (by decide)
              have eD1_7_N43_ : ze N43_ (d_ + 1) 7 = ze N37_ (d_ + 1) 7 := hsN43_.e (by decide)
              have c44_ : zMvK mv_ P_ d_ N43_ := zMvK.fr (hf_N37_.w hW) hsN43_ c42_ (by decide)
              have hse_ := zSj_e hsj_ hex_ (zRw_w hN43_ ⟨by omega, by omega⟩)
              rw [show (u1_).toNat + 1 = (u1_ + 1).toNat by omega] at hse_
              refine zr_iinc (pc := 72) (i := 1) (a := u1_) (n := 1) (L2 := [some (.ref (d_ + 1)), some (.int (Int32.ofInt (u1_ + 1))), some (.int (Int32.ofInt v35_)), some (.int (Int32.ofInt u36_))]) rfl (by decide) rfl (zdal_p dlA_Group_settle_29 (i := 16) rfl) ?_
              refine zw_goto (pc := 75) (tgt := 2) (by decide) (zdal_p dlA_Group_settle_29 (i := 17) rfl) ?_
              refine zW_le [some (.ref (d_ + 1)), some (.int (Int32.ofInt (u1_ + 1))), none, none] (⟨rfl, rfl, trivial⟩) ?_
              exact ih_2 (u1_ + 1) (by omega) (by omega) N43_ hb0_N43_ (show 1 ≤ (u1_ + 1) by first | assumption | omega) (show zSoK (fun x_ => x_) (zRw d_ 5 Mz) (zRw d_ 5 N43_) (ze Mz (d_ + 1) 7).toNat ((u1_ + 1)).toNat by exact hse_) (by omega)
            · skip
              refine zw_aload_n (pc := 25) (n := 0) (x := (d_ + 1)) rfl (zdal_p dlA_Group_settle_28 (i := 15) rfl) ?_
              refine zw_getF (pc := 26) f_Group_20 rfl ((hf_N37_.w hW).kr (o := 1) (by decide)) ((hf_N37_.w hW).lr (o := 1) (s := 1) (r := 4) (by decide)) (zdal_p dlA_Group_settle_28 (i := 16) rfl) ?_
              refine zw_iload_n (pc := 29) (n := 3) (x := Int32.ofInt u36_) rfl (zdal_p dlA_Group_settle_28 (i := 17) rfl) ?_
              refine zw_iconst (pc := 30) (v := Int32.ofInt 1) (by decide) (zdal_p dlA_Group_settle_28 (i := 18) rfl) ?_
              refine zr_isub (pc := 31) (zdal_p dlA_Group_settle_28 (i := 19) rfl) ?_
              refine zk_at hf_N37_.x (pc := 32) l_Group_54 ((hf_N37_.w hW).kr (o := 4) (by decide)) ((hf_N37_.w hW).lr (o := 4) (s := 0) (r := 5) (by decide)) ((hf_N37_.w hW).rr (o := 5) (t := 1) (n := 24) (by decide)) (by decide) (by omega) (by omega) (by decide) (Nat.le_of_ble_eq_true rfl) (zdal_p dlA_Group_settle_28 (i := 20) rfl) (fun v45_ hv45_ hv45_a hv45_b => ?_)
              have hr2_ := hv45_
              refine zw_iload_n (pc := 35) (n := 2) (x := Int32.ofInt v35_) rfl (zdal_p dlA_Group_settle_28 (i := 21) rfl) ?_
              refine zr_icmp_le (pc := 36) (tgt := 63) ⟨hv45_a, hv45_b⟩ ⟨hv35_a, hv35_b⟩ (by decide) (zdal_p dlA_Group_settle_28 (i := 22) rfl) (fun hc_36 => ?_) (fun hc_36 => ?_)
              · skip
                have hex_ : (u36_).toNat = 0 ∨ ¬ (fun x_ => x_) v35_ < (fun x_ => x_) (zRw d_ 5 N37_ ((u36_).toNat - 1)) := by first | exact Or.inl (by omega) | (refine Or.inr ?_; show ¬ v35_ < ze N37_ (d_ + 5) ((u36_).toNat - 1); rw [show (u36_).toNat - 1 = (u36_ - 1).toNat by omega]; omega)
                refine zw_aload_n (pc := 63) (n := 0) (x := (d_ + 1)) rfl (zdal_p dlA_Group_settle_29 (i := 11) rfl) ?_
                refine zw_getF (pc := 64) f_Group_20 rfl ((hf_N37_.w hW).kr (o := 1) (by decide)) ((hf_N37_.w hW).lr (o := 1) (s := 1) (r := 4) (by decide)) (zdal_p dlA_Group_settle_29 (i := 12) rfl) ?_
                refine zw_iload_n (pc := 67) (n := 3) (x := Int32.ofInt u36_) rfl (zdal_p dlA_Group_settle_29 (i := 13) rfl) ?_
                refine zw_iload_n (pc := 68) (n := 2) (x := Int32.ofInt v35_) rfl (zdal_p dlA_Group_settle_29 (i := 14) rfl) ?_
                refine zk_st hf_N37_.x (pc := 69) (o := 5) (by decide) l_Group_46 ((hf_N37_.w hW).kr (o := 4) (by decide)) ((hf_N37_.w hW).lr (o := 4) (s := 0) (r := 5) (by decide)) ((hf_N37_.w hW).rr (o := 5) (t := 1) (n := 24) (by decide)) (by decide) (by omega) (by omega) (by decide) (Nat.le_of_ble_eq_true rfl) (zdal_p dlA_Group_settle_29 (i := 15) rfl) (fun N46_ hN46_ hsN46_ => ?_)
                have hf_N46_ : zFc d_ [] [] [] [5, 7, 9] Mz N46_ := hf_N37_.tr hsN46_ (by decide) (by decide) (by decide) (by decide)
                have hb0_N46_ : zFc d_ [] [] [] [5] Mz N46_ := hb0_N37_.tr hsN46_ (by decide) (by decide) (by decide) (by decide)
                have eD1_5_N46_ : ze N46_ (d_ + 1) 5 = ze N37_ (d_ + 1) 5 := hsN46_.e (by decide)
                have eD1_7_N46_ : ze N46_ (d_ + 1) 7 = ze N37_ (d_ + 1) 7 := hsN46_.e (by decide)
                have c47_ : zMvK mv_ P_ d_ N46_ := zMvK.fr (hf_N37_.w hW) hsN46_ c42_ (by decide)
                have hse_ := zSj_e hsj_ hex_ (zRw_w hN46_ ⟨by omega, by omega⟩)
                rw [show (u1_).toNat + 1 = (u1_ + 1).toNat by omega] at hse_
                refine zr_iinc (pc := 72) (i := 1) (a := u1_) (n := 1) (L2 := [some (.ref (d_ + 1)), some (.int (Int32.ofInt (u1_ + 1))), some (.int (Int32.ofInt v35_)), some (.int (Int32.ofInt u36_))]) rfl (by decide) rfl (zdal_p dlA_Group_settle_29 (i := 16) rfl) ?_
                refine zw_goto (pc := 75) (tgt := 2) (by decide) (zdal_p dlA_Group_settle_29 (i := 17) rfl) ?_
                refine zW_le [some (.ref (d_ + 1)), some (.int (Int32.ofInt (u1_ + 1))), none, none] (⟨rfl, rfl, trivial⟩) ?_
                exact ih_2 (u1_ + 1) (by omega) (by omega) N46_ hb0_N46_ (show 1 ≤ (u1_ + 1) by first | assumption | omega) (show zSoK (fun x_ => x_) (zRw d_ 5 Mz) (zRw d_ 5 N46_) (ze Mz (d_ + 1) 7).toNat ((u1_ + 1)).toNat by exact hse_) (by omega)
              · skip
                refine zw_aload_n (pc := 39) (n := 0) (x := (d_ + 1)) rfl (zdal_p dlA_Group_settle_28 (i := 23) rfl) ?_
                refine zw_getF (pc := 40) f_Group_20 rfl ((hf_N37_.w hW).kr (o := 1) (by decide)) ((hf_N37_.w hW).lr (o := 1) (s := 1) (r := 4) (by decide)) (zdal_p dlA_Group_settle_29 (i := 0) rfl) ?_
                refine zw_iload_n (pc := 43) (n := 3) (x := Int32.ofInt u36_) rfl (zdal_p dlA_Group_settle_29 (i := 1) rfl) ?_
                refine zw_aload_n (pc := 44) (n := 0) (x := (d_ + 1)) rfl (zdal_p dlA_Group_settle_29 (i := 2) rfl) ?_
                refine zw_getF (pc := 45) f_Group_20 rfl ((hf_N37_.w hW).kr (o := 1) (by decide)) ((hf_N37_.w hW).lr (o := 1) (s := 1) (r := 4) (by decide)) (zdal_p dlA_Group_settle_29 (i := 3) rfl) ?_
                refine zw_iload_n (pc := 48) (n := 3) (x := Int32.ofInt u36_) rfl (zdal_p dlA_Group_settle_29 (i := 4) rfl) ?_
                refine zw_iconst (pc := 49) (v := Int32.ofInt 1) (by decide) (zdal_p dlA_Group_settle_29 (i := 5) rfl) ?_
                refine zr_isub (pc := 50) (zdal_p dlA_Group_settle_29 (i := 6) rfl) ?_
                refine zk_at hf_N37_.x (pc := 51) l_Group_54 ((hf_N37_.w hW).kr (o := 4) (by decide)) ((hf_N37_.w hW).lr (o := 4) (s := 0) (r := 5) (by decide)) ((hf_N37_.w hW).rr (o := 5) (t := 1) (n := 24) (by decide)) (by decide) (by omega) (by omega) (by decide) (Nat.le_of_ble_eq_true rfl) (zdal_p dlA_Group_settle_29 (i := 7) rfl) (fun v48_ hv48_ hv48_a hv48_b => ?_)
                have hr3_ := hv48_
                refine zk_st hf_N37_.x (pc := 54) (o := 5) (by decide) l_Group_46 ((hf_N37_.w hW).kr (o := 4) (by decide)) ((hf_N37_.w hW).lr (o := 4) (s := 0) (r := 5) (by decide)) ((hf_N37_.w hW).rr (o := 5) (t := 1) (n := 24) (by decide)) (by decide) (by omega) (by omega) (by decide) (Nat.le_of_ble_eq_true rfl) (zdal_p dlA_Group_settle_29 (i := 8) rfl) (fun N49_ hN49_ hsN49_ => ?_)
                have hf_N49_ : zFc d_ [] [] [] [5, 7, 9] Mz N49_ := hf_N37_.tr hsN49_ (by decide) (by decide) (by decide) (by decide)
                have hb0_N49_ : zFc d_ [] [] [] [5] Mz N49_ := hb0_N37_.tr hsN49_ (by decide) (by decide) (by decide) (by decide)
                have hb1_N49_ : zFc d_ [] [] [] [5] N2_ N49_ := hs38_.tr hsN49_ (by decide) (by decide) (by decide) (by decide)
                have eD1_5_N49_ : ze N49_ (d_ + 1) 5 = ze N37_ (d_ + 1) 5 := hsN49_.e (by decide)
                have eD1_7_N49_ : ze N49_ (d_ + 1) 7 = ze N37_ (d_ + 1) 7 := hsN49_.e (by decide)
                have c50_ : zMvK mv_ P_ d_ N49_ := zMvK.fr (hf_N37_.w hW) hsN49_ c42_ (by decide)
                have hss_ := zSj_s hsj_ (by omega) (show v35_ < ze N37_ (d_ + 5) ((u36_).toNat - 1) by rw [show (u36_).toNat - 1 = (u36_ - 1).toNat by omega]; omega) (fun j => (zRw_w hN49_ ⟨by omega, by omega⟩ j).trans (by rw [show zRw d_ 5 N37_ ((u36_).toNat - 1) = ze N37_ (d_ + 5) (u36_ - 1).toNat by rw [show (u36_ - 1).toNat = (u36_).toNat - 1 by omega]; rfl, ← hr3_]))
                rw [show (u36_).toNat - 1 = (u36_ + (-1)).toNat by omega] at hss_
                refine zr_iinc (pc := 57) (i := 3) (a := u36_) (n := -1) (L2 := [some (.ref (d_ + 1)), some (.int (Int32.ofInt u1_)), some (.int (Int32.ofInt v35_)), some (.int (Int32.ofInt (u36_ + (-1))))]) rfl (by decide) rfl (zdal_p dlA_Group_settle_29 (i := 9) rfl) ?_
                refine zw_goto (pc := 60) (tgt := 21) (by decide) (zdal_p dlA_Group_settle_29 (i := 10) rfl) ?_
                exact ih_21 (u36_ + (-1)) (by omega) (by omega) N49_ hb1_N49_ (show 0 ≤ (u36_ + (-1)) by first | assumption | omega) (show (u36_ + (-1)) ≤ u1_ by first | assumption | omega) (show zSj (fun x_ => x_) (zRw d_ 5 Mz) (zRw d_ 5 N49_) (ze Mz (d_ + 1) 7).toNat (u1_).toNat ((u36_ + (-1))).toNat v35_ by exact hss_) (by omega)
        exact lp_21 _ u1_ hu1_a hu1_b N2_ zFc.rf (show 0 ≤ u1_ by first | assumption | omega) (show u1_ ≤ u1_ by first | assumption | omega) (show zSj (fun x_ => x_) (zRw d_ 5 Mz) (zRw d_ 5 N2_) (ze Mz (d_ + 1) 7).toNat (u1_).toNat (u1_).toNat v35_ by exact hsj0_) (Nat.lt_succ_self _)
  exact lp_2 _ 1 (by decide) (by decide) Mz zFc.rf (show 1 ≤ (1 : Int) by first | assumption | omega) (show zSoK (fun x_ => x_) (zRw d_ 5 Mz) (zRw d_ 5 Mz) (ze Mz (d_ + 1) 7).toNat ((1 : Int)).toNat by exact hs0_) (Nat.lt_succ_self _)
set_option maxHeartbeats 4000000 in
theorem u_Sorts_numberSortsG (l : Launch) (d_ : Nat) (Mz : zMem) (hW : zKW d_ Mz) (T_ : zGT) (hT_ : T_ ∈ gTabs) (l_ : List Nat) (Kp_ : Nat) (hol_ : gOL T_ l_ Kp_ gKL) (hGr_ : gGr T_) (p0_ : zTt T_ d_ Mz) (p1_ : zLs T_ (zRw d_ 14 Mz) (ze Mz (d_ + 12) 6)) : zC l m_Sorts_numberSorts 0 0 [.ref (d_ + 12)] Mz (zqcV d_ [] [] [(12, 7)] [16, 20] Mz (fun N => zFir T_ d_ N ∧ (∀ i : Nat, (i : Int) < ze Mz (d_ + 12) 6 → zSrt T_ (ze Mz (d_ + 14) i).toNat (ze N (d_ + 16) i)))) := by
  refine zC_of (L0 := [some (.ref (d_ + 12)), none, none]) md_Sorts_numberSorts (Nat.le_of_ble_eq_true rfl) rfl ?_ zQ0
  have hf : zFc d_ [] [] [(12, 7)] [16, 20] Mz Mz := zFc.rf
  have r_D1_7 := ze_r Mz (d_ + 1) 7
  have r_D12_6 := ze_r Mz (d_ + 12) 6
  have r_D12_7 := ze_r Mz (d_ + 12) 7
  have hO_ := gTabs_ok T_ hT_
  have hG_ := hO_.1
  have hn24_ := hG_.2.1
  have hn1_ := hG_.1
  obtain ⟨⟨hm1_, hm35_⟩, hmm_, hms_, hmo_⟩ := id p1_
  have hsz_ := p0_.1
  refine zw_aload_n (pc := 0) (n := 0) (x := (d_ + 12)) rfl (zdal_p dlA_Sorts_numberSorts_45 (i := 0) rfl) ?_
  refine zw_iconst (pc := 1) (v := Int32.ofInt 0) (by decide) (zdal_p dlA_Sorts_numberSorts_45 (i := 1) rfl) ?_
  refine zk_putR (pc := 2) (o := 12) (by decide) f_Sorts_83 rfl rfl ((hf.w hW).kr (o := 12) (by decide)) ⟨by omega, by omega⟩ rfl rfl (zdal_p dlA_Sorts_numberSorts_45 (i := 2) rfl) (fun N1_ hsN1_ hvN1_ => ?_)
  have hf_N1_ : zFc d_ [] [] [(12, 7)] [16, 20] Mz N1_ := hf.tr hsN1_ (by decide) (by decide) (by decide) (by decide)
  have eD1_7_N1_ : ze N1_ (d_ + 1) 7 = ze Mz (d_ + 1) 7 := hsN1_.e (by decide)
  have eD12_6_N1_ : ze N1_ (d_ + 12) 6 = ze Mz (d_ + 12) 6 := hsN1_.e (by decide)
  have rD12_7_N1_ := ze_r N1_ (d_ + 12) 7
  have c2_ : zTt T_ d_ N1_ := zTt.fr (hf.w hW) hsN1_ p0_ (by decide)
  refine zw_iconst (pc := 5) (v := Int32.ofInt 0) (by decide) (zdal_p dlA_Sorts_numberSorts_45 (i := 3) rfl) ?_
  refine zw_istore_n (pc := 6) (i := 1) (L2 := [some (.ref (d_ + 12)), some (.int (Int32.ofInt 0)), none]) rfl (by decide) rfl (zdal_p dlA_Sorts_numberSorts_45 (i := 4) rfl) ?_
  have lp_7 : ∀ (n : Nat) (u3_ : Int) (hu3_a : -2147483648 ≤ u3_) (hu3_b : u3_ < 2147483648) (N4_ : zMem) (hs5_ : zFc d_ [] [] [] [16] N1_ N4_) (i6_ : 0 ≤ u3_) (i7_ : u3_ ≤ ze Mz (d_ + 12) 6) (i8_ : ze N4_ (d_ + 12) 7 = 0) (i9_ : ∀ i : Nat, (i : Int) < u3_ → zRw d_ 16 N4_ i = -1), (ze Mz (d_ + 12) 6 - u3_).toNat < n → zW l m_Sorts_numberSorts (zn Mz + 0, zw Mz + 0) N4_ 7 [some (.ref (d_ + 12)), some (.int (Int32.ofInt u3_)), none] [] (zqcV d_ [] [] [(12, 7)] [16, 20] Mz (fun N => zFir T_ d_ N ∧ (∀ i : Nat, (i : Int) < ze Mz (d_ + 12) 6 → zSrt T_ (ze Mz (d_ + 14) i).toNat (ze N (d_ + 16) i)))) := by
    intro n
    induction n with
    | zero =>
      intro u3_ hu3_a hu3_b N4_ hs5_ i6_ i7_ i8_ i9_ h0
      exact absurd h0 (Nat.not_lt_zero _)
    | succ n ih_7 =>
      intro u3_ hu3_a hu3_b N4_ hs5_ i6_ i7_ i8_ i9_ hlt_7
      have hf_N4_ : zFc d_ [] [] [(12, 7)] [16, 20] Mz N4_ := hf_N1_.tr hs5_ (by decide) (by decide) (by decide) (by decide)
      have eD1_7_N4_ : ze N4_ (d_ + 1) 7 = ze N1_ (d_ + 1) 7 := hs5_.e (by decide)
      have eD12_6_N4_ : ze N4_ (d_ + 12) 6 = ze N1_ (d_ + 12) 6 := hs5_.e (by decide)
      have eD12_7_N4_ : ze N4_ (d_ + 12) 7 = ze N1_ (d_ + 12) 7 := hs5_.e (by decide)
      have c10_ : zTt T_ d_ N4_ := zTt.fr (hf_N1_.w hW) hs5_ c2_ (by decide)
      have hqi_ := (show ∀ i : Nat, (i : Int) < u3_ → zRw d_ 16 N4_ i = -1 by assumption)
      refine zw_iload_n (pc := 7) (n := 1) (x := Int32.ofInt u3_) rfl (zdal_p dlA_Sorts_numberSorts_45 (i := 5) rfl) ?_
      refine zw_aload_n (pc := 8) (n := 0) (x := (d_ + 12)) rfl (zdal_p dlA_Sorts_numberSorts_45 (i := 6) rfl) ?_
      refine zk_getI (pc := 9) f_Sorts_36 rfl ((hf_N4_.w hW).kr (o := 12) (by decide)) (zdal_p dlA_Sorts_numberSorts_45 (i := 7) rfl) ?_
      rw [hf_N4_.e (by decide)]
      refine zr_icmp_ge (pc := 12) (tgt := 30) ⟨hu3_a, hu3_b⟩ ⟨(ze_r Mz (d_ + 12) 6).1, (ze_r Mz (d_ + 12) 6).2⟩ (by decide) (zdal_p dlA_Sorts_numberSorts_45 (i := 8) rfl) (fun hc_12 => ?_) (fun hc_12 => ?_)
      · skip
        have hnu0_ : zNu T_ (zRw d_ 14 Mz) (ze Mz (d_ + 12) 6) (zRw d_ 16 N4_) (zRw d_ 20 N4_) (ze N4_ (d_ + 12) 7) 0 0 := by rw [show ze N4_ (d_ + 12) 7 = 0 by omega]; exact zNu_0 (fun i hi => hqi_ i (by omega))
        have hnq0_ : zNq T_ (zRw d_ 14 Mz) (ze Mz (d_ + 12) 6) (zRw d_ 16 N4_) (zRw d_ 20 N4_) (ze N4_ (d_ + 12) 7) := zNq_0 (fun i hi => hqi_ i (by omega))
        refine zw_iconst (pc := 30) (v := Int32.ofInt 0) (by decide) (zdal_p dlA_Sorts_numberSorts_45 (i := 16) rfl) ?_
        refine zw_istore_n (pc := 31) (i := 1) (L2 := [some (.ref (d_ + 12)), some (.int (Int32.ofInt 0)), none]) rfl (by decide) rfl (zdal_p dlA_Sorts_numberSorts_45 (i := 17) rfl) ?_
        have lp_32 : ∀ (n : Nat) (u11_ : Int) (hu11_a : -2147483648 ≤ u11_) (hu11_b : u11_ < 2147483648) (N12_ : zMem) (hs13_ : zFc d_ [] [] [(12, 7)] [16, 20] N4_ N12_) (i14_ : 0 ≤ u11_) (i15_ : zNu T_ (zRw d_ 14 Mz) (ze Mz (d_ + 12) 6) (zRw d_ 16 N12_) (zRw d_ 20 N12_) (ze N12_ (d_ + 12) 7) u11_ 0) (i16_ : zNq T_ (zRw d_ 14 Mz) (ze Mz (d_ + 12) 6) (zRw d_ 16 N12_) (zRw d_ 20 N12_) (ze N12_ (d_ + 12) 7)), (ze Mz (d_ + 12) 6 - u11_).toNat < n → zW l m_Sorts_numberSorts (zn Mz + 0, zw Mz + 0) N12_ 32 [some (.ref (d_ + 12)), some (.int (Int32.ofInt u11_)), none] [] (zqcV d_ [] [] [(12, 7)] [16, 20] Mz (fun N => zFir T_ d_ N ∧ (∀ i : Nat, (i : Int) < ze Mz (d_ + 12) 6 → zSrt T_ (ze Mz (d_ + 14) i).toNat (ze N (d_ + 16) i)))) := by
          intro n
          induction n with
          | zero =>
            intro u11_ hu11_a hu11_b N12_ hs13_ i14_ i15_ i16_ h0
            exact absurd h0 (Nat.not_lt_zero _)
          | succ n ih_32 =>
            intro u11_ hu11_a hu11_b N12_ hs13_ i14_ i15_ i16_ hlt_32
            have hf_N12_ : zFc d_ [] [] [(12, 7)] [16, 20] Mz N12_ := hf_N4_.tr hs13_ (by decide) (by decide) (by decide) (by decide)
            have eD1_7_N12_ : ze N12_ (d_ + 1) 7 = ze N4_ (d_ + 1) 7 := hs13_.e (by decide)
            have eD12_6_N12_ : ze N12_ (d_ + 12) 6 = ze N4_ (d_ + 12) 6 := hs13_.e (by decide)
            have rD12_7_N12_ := ze_r N12_ (d_ + 12) 7
            have c17_ : zTt T_ d_ N12_ := zTt.fr (hf_N4_.w hW) hs13_ c10_ (by decide)
            have hnu_ := (show zNu T_ (zRw d_ 14 Mz) (ze Mz (d_ + 12) 6) (zRw d_ 16 N12_) (zRw d_ 20 N12_) (ze N12_ (d_ + 12) 7) u11_ 0 by assumption)
            have hc0_ := hnu_.2.1
            have hnq_ := (show zNq T_ (zRw d_ 14 Mz) (ze Mz (d_ + 12) 6) (zRw d_ 16 N12_) (zRw d_ 20 N12_) (ze N12_ (d_ + 12) 7) by assumption)
            refine zw_iload_n (pc := 32) (n := 1) (x := Int32.ofInt u11_) rfl (zdal_p dlA_Sorts_numberSorts_45 (i := 18) rfl) ?_
            refine zw_aload_n (pc := 33) (n := 0) (x := (d_ + 12)) rfl (zdal_p dlA_Sorts_numberSorts_45 (i := 19) rfl) ?_
            refine zk_getI (pc := 34) f_Sorts_36 rfl ((hf_N12_.w hW).kr (o := 12) (by decide)) (zdal_p dlA_Sorts_numberSorts_45 (i := 20) rfl) ?_
            rw [hf_N12_.e (by decide)]
            refine zr_icmp_ge (pc := 37) (tgt := 149) ⟨hu11_a, hu11_b⟩ ⟨(ze_r Mz (d_ + 12) 6).1, (ze_r Mz (d_ + 12) 6).2⟩ (by decide) (zdal_p dlA_Sorts_numberSorts_45 (i := 21) rfl) (fun hc_37 => ?_) (fun hc_37 => ?_)
            · skip
              exact zk_vret (pc := 149) rfl hf_N12_ ⟨(show zFir T_ d_ N12_ by obtain ⟨e1_, e2_⟩ := zNu_e hO_ p1_ hnu_ (by omega); exact ⟨e1_, e2_⟩), (show (∀ i : Nat, (i : Int) < ze Mz (d_ + 12) 6 → zSrt T_ (ze Mz (d_ + 14) i).toNat (ze N12_ (d_ + 16) i)) by obtain ⟨e1_, e2_⟩ := zNu_e hO_ p1_ hnu_ (by omega); rw [e1_] at hnu_ hnq_; exact zSbK_i hGr_ hO_ hol_ p1_ hnq_ hnu_ (by omega) e2_)⟩ (zdal_p dlA_Sorts_numberSorts_48 (i := 2) rfl)
            · skip
              refine zw_aload_n (pc := 40) (n := 0) (x := (d_ + 12)) rfl (zdal_p dlA_Sorts_numberSorts_45 (i := 22) rfl) ?_
              refine zw_getF (pc := 41) f_Sorts_20 rfl ((hf_N12_.w hW).kr (o := 12) (by decide)) ((hf_N12_.w hW).lr (o := 12) (s := 2) (r := 15) (by decide)) (zdal_p dlA_Sorts_numberSorts_45 (i := 23) rfl) ?_
              refine zw_iload_n (pc := 44) (n := 1) (x := Int32.ofInt u11_) rfl (zdal_p dlA_Sorts_numberSorts_46 (i := 0) rfl) ?_
              refine zk_at hf_N12_.x (pc := 45) l_Sorts_49 ((hf_N12_.w hW).kr (o := 15) (by decide)) ((hf_N12_.w hW).lr (o := 15) (s := 0) (r := 16) (by decide)) ((hf_N12_.w hW).rr (o := 16) (t := 1) (n := 35) (by decide)) (by decide) (by omega) (by omega) (by decide) (Nat.le_of_ble_eq_true rfl) (zdal_p dlA_Sorts_numberSorts_46 (i := 1) rfl) (fun v18_ hv18_ hv18_a hv18_b => ?_)
              have hv1_ := hv18_
              have hnt_ := zNu_t hO_ p1_ hol_ hnu_ (by omega)
              rw [show zRw d_ 16 N12_ (u11_).toNat = v18_ from hv1_.symm] at hnt_
              refine zw_iconst (pc := 48) (v := Int32.ofInt (-1)) (by decide) (zdal_p dlA_Sorts_numberSorts_46 (i := 2) rfl) ?_
              refine zr_icmp_ne (pc := 49) (tgt := 143) ⟨hv18_a, hv18_b⟩ ⟨(by decide), (by decide)⟩ (by decide) (zdal_p dlA_Sorts_numberSorts_46 (i := 3) rfl) (fun hc_49 => ?_) (fun hc_49 => ?_)
              · skip
                refine zr_iinc (pc := 143) (i := 1) (a := u11_) (n := 1) (L2 := [some (.ref (d_ + 12)), some (.int (Int32.ofInt (u11_ + 1))), none]) rfl (by decide) rfl (zdal_p dlA_Sorts_numberSorts_48 (i := 0) rfl) ?_
                refine zw_goto (pc := 146) (tgt := 32) (by decide) (zdal_p dlA_Sorts_numberSorts_48 (i := 1) rfl) ?_
                exact ih_32 (u11_ + 1) (by omega) (by omega) N12_ hs13_ (show 0 ≤ (u11_ + 1) by first | assumption | omega) (show zNu T_ (zRw d_ 14 Mz) (ze Mz (d_ + 12) 6) (zRw d_ 16 N12_) (zRw d_ 20 N12_) (ze N12_ (d_ + 12) 7) (u11_ + 1) 0 by first | exact hnz_ | exact zNu_n p1_ hnu_ (by omega) (fun q_ => absurd (hnt_.mpr q_) (by omega))) (show zNq T_ (zRw d_ 14 Mz) (ze Mz (d_ + 12) 6) (zRw d_ 16 N12_) (zRw d_ 20 N12_) (ze N12_ (d_ + 12) 7) by first | exact hnqz_ | exact hnq_) (by omega)
              · skip
                have hgF_ := hnt_.mp (by omega)
                have hr26_ := zNu_r p1_ hol_ hnu_ (by omega) hgF_
                have hfk_ := hmm_ (u11_).toNat (by omega)
                have hfb_ := gS_b hO_ hfk_.2
                refine zw_aload_n (pc := 52) (n := 0) (x := (d_ + 12)) rfl (zdal_p dlA_Sorts_numberSorts_46 (i := 4) rfl) ?_
                refine zk_getI (pc := 53) f_Sorts_83 rfl ((hf_N12_.w hW).kr (o := 12) (by decide)) (zdal_p dlA_Sorts_numberSorts_46 (i := 5) rfl) ?_
                refine zw_bipush (pc := 56) (v := Int32.ofInt 27) (by decide) (zdal_p dlA_Sorts_numberSorts_46 (i := 6) rfl) ?_
                refine zr_icmp_lt (pc := 58) (tgt := 64) ⟨(ze_r N12_ (d_ + 12) 7).1, (ze_r N12_ (d_ + 12) 7).2⟩ ⟨(by decide), (by decide)⟩ (by decide) (zdal_p dlA_Sorts_numberSorts_46 (i := 7) rfl) (fun hc_58 => ?_) (fun hc_58 => ?_)
                · skip
                  refine zw_aload_n (pc := 64) (n := 0) (x := (d_ + 12)) rfl (zdal_p dlA_Sorts_numberSorts_46 (i := 9) rfl) ?_
                  refine zw_getF (pc := 65) f_Sorts_26 rfl ((hf_N12_.w hW).kr (o := 12) (by decide)) ((hf_N12_.w hW).lr (o := 12) (s := 4) (r := 19) (by decide)) (zdal_p dlA_Sorts_numberSorts_46 (i := 10) rfl) ?_
                  refine zw_aload_n (pc := 68) (n := 0) (x := (d_ + 12)) rfl (zdal_p dlA_Sorts_numberSorts_46 (i := 11) rfl) ?_
                  refine zk_getI (pc := 69) f_Sorts_83 rfl ((hf_N12_.w hW).kr (o := 12) (by decide)) (zdal_p dlA_Sorts_numberSorts_46 (i := 12) rfl) ?_
                  refine zw_aload_n (pc := 72) (n := 0) (x := (d_ + 12)) rfl (zdal_p dlA_Sorts_numberSorts_46 (i := 13) rfl) ?_
                  refine zw_getF (pc := 73) f_Sorts_14 rfl ((hf_N12_.w hW).kr (o := 12) (by decide)) ((hf_N12_.w hW).lr (o := 12) (s := 1) (r := 13) (by decide)) (zdal_p dlA_Sorts_numberSorts_46 (i := 14) rfl) ?_
                  refine zw_iload_n (pc := 76) (n := 1) (x := Int32.ofInt u11_) rfl (zdal_p dlA_Sorts_numberSorts_46 (i := 15) rfl) ?_
                  refine zk_at hf_N12_.x (pc := 77) l_Sorts_49 ((hf_N12_.w hW).kr (o := 13) (by decide)) ((hf_N12_.w hW).lr (o := 13) (s := 0) (r := 14) (by decide)) ((hf_N12_.w hW).rr (o := 14) (t := 1) (n := 35) (by decide)) (by decide) (by omega) (by omega) (by decide) (Nat.le_of_ble_eq_true rfl) (zdal_p dlA_Sorts_numberSorts_46 (i := 16) rfl) (fun v19_ hv19_ hv19_a hv19_b => ?_)
                  rw [hf_N12_.r (by decide)] at hv19_
                  have hv2_ := hv19_
                  refine zk_st hf_N12_.x (pc := 80) (o := 20) (by decide) l_Sorts_40 ((hf_N12_.w hW).kr (o := 19) (by decide)) ((hf_N12_.w hW).lr (o := 19) (s := 0) (r := 20) (by decide)) ((hf_N12_.w hW).rr (o := 20) (t := 1) (n := 27) (by decide)) (by decide) (by omega) (by omega) (by decide) (Nat.le_of_ble_eq_true rfl) (zdal_p dlA_Sorts_numberSorts_46 (i := 17) rfl) (fun N20_ hN20_ hsN20_ => ?_)
                  have hf_N20_ : zFc d_ [] [] [(12, 7)] [16, 20] Mz N20_ := hf_N12_.tr hsN20_ (by decide) (by decide) (by decide) (by decide)
                  have hb0_N20_ : zFc d_ [] [] [(12, 7)] [16, 20] N4_ N20_ := hs13_.tr hsN20_ (by decide) (by decide) (by decide) (by decide)
                  have eD1_7_N20_ : ze N20_ (d_ + 1) 7 = ze N12_ (d_ + 1) 7 := hsN20_.e (by decide)
                  have eD12_6_N20_ : ze N20_ (d_ + 12) 6 = ze N12_ (d_ + 12) 6 := hsN20_.e (by decide)
                  have eD12_7_N20_ : ze N20_ (d_ + 12) 7 = ze N12_ (d_ + 12) 7 := hsN20_.e (by decide)
                  have c21_ : zTt T_ d_ N20_ := zTt.fr (hf_N12_.w hW) hsN20_ c17_ (by decide)
                  have hw2_ := zRw_w hN20_ ⟨by omega, by omega⟩
                  have hnf_ := zNu_w (fi' := zRw d_ 20 N20_) hnu_ (fun i hi => by rw [hw2_, zst_o (by omega)])
                  have hff_ : zRw d_ 20 N20_ (ze N20_ (d_ + 12) 7).toNat = zRw d_ 14 Mz (u11_).toNat := by rw [hw2_, show (ze N20_ (d_ + 12) 7).toNat = (ze N12_ (d_ + 12) 7).toNat by omega, zst_t]; exact hv2_
                  have he7_ : ze N20_ (d_ + 12) 7 = ze N12_ (d_ + 12) 7 := by omega
                  rw [← he7_] at hnf_
                  have hq16_ : zRw d_ 16 N12_ = zRw d_ 16 N20_ := funext fun j => (hsN20_.r (by decide) j).symm
                  rw [hq16_] at hnf_
                  have hnr0_ := zNq_w (fi' := zRw d_ 20 N20_) hnq_ (fun i hi => by rw [hw2_, zst_o (by omega)])
                  rw [← he7_, hq16_] at hnr0_
                  refine zw_iconst (pc := 83) (v := Int32.ofInt 0) (by decide) (zdal_p dlA_Sorts_numberSorts_46 (i := 18) rfl) ?_
                  refine zw_istore_n (pc := 84) (i := 2) (L2 := [some (.ref (d_ + 12)), some (.int (Int32.ofInt u11_)), some (.int (Int32.ofInt 0))]) rfl (by decide) rfl (zdal_p dlA_Sorts_numberSorts_46 (i := 19) rfl) ?_
                  have lp_85 : ∀ (n : Nat) (u22_ : Int) (hu22_a : -2147483648 ≤ u22_) (hu22_b : u22_ < 2147483648) (N23_ : zMem) (hs24_ : zFc d_ [] [] [] [16] N20_ N23_) (i25_ : 0 ≤ u22_) (i26_ : zNu T_ (zRw d_ 14 Mz) (ze Mz (d_ + 12) 6) (zRw d_ 16 N23_) (zRw d_ 20 N23_) (ze N23_ (d_ + 12) 7) u11_ u22_) (i27_ : zRw d_ 20 N23_ (ze N23_ (d_ + 12) 7).toNat = zRw d_ 14 Mz (u11_).toNat) (i28_ : 0 ≤ ze N23_ (d_ + 12) 7) (i29_ : ze N23_ (d_ + 12) 7 ≤ 26) (i30_ : zNq T_ (zRw d_ 14 Mz) (ze Mz (d_ + 12) 6) (zRw d_ 16 N23_) (zRw d_ 20 N23_) (ze N23_ (d_ + 12) 7 + 1)), (gN T_ - u22_).toNat < n → zW l m_Sorts_numberSorts (zn Mz + 0, zw Mz + 0) N23_ 85 [some (.ref (d_ + 12)), some (.int (Int32.ofInt u11_)), some (.int (Int32.ofInt u22_))] [] (zqcV d_ [] [] [(12, 7)] [16, 20] Mz (fun N => zFir T_ d_ N ∧ (∀ i : Nat, (i : Int) < ze Mz (d_ + 12) 6 → zSrt T_ (ze Mz (d_ + 14) i).toNat (ze N (d_ + 16) i)))) := by
                    intro n
                    induction n with
                    | zero =>
                      intro u22_ hu22_a hu22_b N23_ hs24_ i25_ i26_ i27_ i28_ i29_ i30_ h0
                      exact absurd h0 (Nat.not_lt_zero _)
                    | succ n ih_85 =>
                      intro u22_ hu22_a hu22_b N23_ hs24_ i25_ i26_ i27_ i28_ i29_ i30_ hlt_85
                      have hf_N23_ : zFc d_ [] [] [(12, 7)] [16, 20] Mz N23_ := hf_N20_.tr hs24_ (by decide) (by decide) (by decide) (by decide)
                      have hb0_N23_ : zFc d_ [] [] [(12, 7)] [16, 20] N4_ N23_ := hb0_N20_.tr hs24_ (by decide) (by decide) (by decide) (by decide)
                      have eD1_7_N23_ : ze N23_ (d_ + 1) 7 = ze N20_ (d_ + 1) 7 := hs24_.e (by decide)
                      have eD12_6_N23_ : ze N23_ (d_ + 12) 6 = ze N20_ (d_ + 12) 6 := hs24_.e (by decide)
                      have eD12_7_N23_ : ze N23_ (d_ + 12) 7 = ze N20_ (d_ + 12) 7 := hs24_.e (by decide)
                      have c31_ : zTt T_ d_ N23_ := zTt.fr (hf_N20_.w hW) hs24_ c21_ (by decide)
                      have hnw_ := (show zNu T_ (zRw d_ 14 Mz) (ze Mz (d_ + 12) 6) (zRw d_ 16 N23_) (zRw d_ 20 N23_) (ze N23_ (d_ + 12) 7) u11_ u22_ by assumption)
                      have hft_ := (show zRw d_ 20 N23_ (ze N23_ (d_ + 12) 7).toNat = zRw d_ 14 Mz (u11_).toNat by assumption)
                      have hnr_ := (show zNq T_ (zRw d_ 14 Mz) (ze Mz (d_ + 12) 6) (zRw d_ 16 N23_) (zRw d_ 20 N23_) (ze N23_ (d_ + 12) 7 + 1) by assumption)
                      refine zw_iload_n (pc := 85) (n := 2) (x := Int32.ofInt u22_) rfl (zdal_p dlA_Sorts_numberSorts_46 (i := 20) rfl) ?_
                      refine zw_aload_n (pc := 86) (n := 0) (x := (d_ + 12)) rfl (zdal_p dlA_Sorts_numberSorts_46 (i := 21) rfl) ?_
                      refine zw_getF (pc := 87) f_Sorts_32 rfl ((hf_N23_.w hW).kr (o := 12) (by decide)) ((hf_N23_.w hW).lr (o := 12) (s := 0) (r := 1) (by decide)) (zdal_p dlA_Sorts_numberSorts_46 (i := 22) rfl) ?_
                      refine zk_getI (pc := 90) f_Sorts_44 rfl ((hf_N23_.w hW).kr (o := 1) (by decide)) (zdal_p dlA_Sorts_numberSorts_46 (i := 23) rfl) ?_
                      rw [hf_N23_.e (by decide)]
                      refine zr_icmp_ge (pc := 93) (tgt := 133) ⟨hu22_a, hu22_b⟩ ⟨(ze_r Mz (d_ + 1) 7).1, (ze_r Mz (d_ + 1) 7).2⟩ (by decide) (zdal_p dlA_Sorts_numberSorts_47 (i := 0) rfl) (fun hc_93 => ?_) (fun hc_93 => ?_)
                      · skip
                        refine zw_aload_n (pc := 133) (n := 0) (x := (d_ + 12)) rfl (zdal_p dlA_Sorts_numberSorts_47 (i := 18) rfl) ?_
                        refine zw_dup (pc := 134) rfl (zdal_p dlA_Sorts_numberSorts_47 (i := 19) rfl) ?_
                        refine zk_getI (pc := 135) f_Sorts_83 rfl ((hf_N23_.w hW).kr (o := 12) (by decide)) (zdal_p dlA_Sorts_numberSorts_47 (i := 20) rfl) ?_
                        refine zw_iconst (pc := 138) (v := Int32.ofInt 1) (by decide) (zdal_p dlA_Sorts_numberSorts_47 (i := 21) rfl) ?_
                        refine zr_iadd (pc := 139) (zdal_p dlA_Sorts_numberSorts_47 (i := 22) rfl) ?_
                        refine zk_putR (pc := 140) (o := 12) (by decide) f_Sorts_83 rfl rfl ((hf_N23_.w hW).kr (o := 12) (by decide)) ⟨by omega, by omega⟩ rfl rfl (zdal_p dlA_Sorts_numberSorts_47 (i := 23) rfl) (fun N32_ hsN32_ hvN32_ => ?_)
                        have hf_N32_ : zFc d_ [] [] [(12, 7)] [16, 20] Mz N32_ := hf_N23_.tr hsN32_ (by decide) (by decide) (by decide) (by decide)
                        have hb0_N32_ : zFc d_ [] [] [(12, 7)] [16, 20] N4_ N32_ := hb0_N23_.tr hsN32_ (by decide) (by decide) (by decide) (by decide)
                        have eD1_7_N32_ : ze N32_ (d_ + 1) 7 = ze N23_ (d_ + 1) 7 := hsN32_.e (by decide)
                        have eD12_6_N32_ : ze N32_ (d_ + 12) 6 = ze N23_ (d_ + 12) 6 := hsN32_.e (by decide)
                        have rD12_7_N32_ := ze_r N32_ (d_ + 12) 7
                        have c33_ : zTt T_ d_ N32_ := zTt.fr (hf_N23_.w hW) hsN32_ c31_ (by decide)
                        have hnz_ := zNu_f p1_ hnw_ (by omega) (by omega) hgF_ hft_
                        have hq1_ : zRw d_ 16 N23_ = zRw d_ 16 N32_ := funext fun j => (hsN32_.r (by decide) j).symm
                        have hq2_ : zRw d_ 20 N23_ = zRw d_ 20 N32_ := funext fun j => (hsN32_.r (by decide) j).symm
                        rw [hq1_, hq2_, show ze N23_ (d_ + 12) 7 + 1 = ze N32_ (d_ + 12) 7 by omega] at hnz_
                        have hnqz_ := hnr_
                        rw [hq1_, hq2_, show ze N23_ (d_ + 12) 7 + 1 = ze N32_ (d_ + 12) 7 by omega] at hnqz_
                        refine zr_iinc (pc := 143) (i := 1) (a := u11_) (n := 1) (L2 := [some (.ref (d_ + 12)), some (.int (Int32.ofInt (u11_ + 1))), some (.int (Int32.ofInt u22_))]) rfl (by decide) rfl (zdal_p dlA_Sorts_numberSorts_48 (i := 0) rfl) ?_
                        refine zw_goto (pc := 146) (tgt := 32) (by decide) (zdal_p dlA_Sorts_numberSorts_48 (i := 1) rfl) ?_
                        refine zW_le [some (.ref (d_ + 12)), some (.int (Int32.ofInt (u11_ + 1))), none] (⟨rfl, rfl, trivial⟩) ?_
                        exact ih_32 (u11_ + 1) (by omega) (by omega) N32_ hb0_N32_ (show 0 ≤ (u11_ + 1) by first | assumption | omega) (show zNu T_ (zRw d_ 14 Mz) (ze Mz (d_ + 12) 6) (zRw d_ 16 N32_) (zRw d_ 20 N32_) (ze N32_ (d_ + 12) 7) (u11_ + 1) 0 by first | exact hnz_ | exact zNu_n p1_ hnu_ (by omega) (fun q_ => absurd (hnt_.mpr q_) (by omega))) (show zNq T_ (zRw d_ 14 Mz) (ze Mz (d_ + 12) 6) (zRw d_ 16 N32_) (zRw d_ 20 N32_) (ze N32_ (d_ + 12) 7) by first | exact hnqz_ | exact hnq_) (by omega)
                      · skip
                        refine zw_aload_n (pc := 96) (n := 0) (x := (d_ + 12)) rfl (zdal_p dlA_Sorts_numberSorts_47 (i := 1) rfl) ?_
                        refine zw_getF (pc := 97) f_Sorts_20 rfl ((hf_N23_.w hW).kr (o := 12) (by decide)) ((hf_N23_.w hW).lr (o := 12) (s := 2) (r := 15) (by decide)) (zdal_p dlA_Sorts_numberSorts_47 (i := 2) rfl) ?_
                        refine zw_aload_n (pc := 100) (n := 0) (x := (d_ + 12)) rfl (zdal_p dlA_Sorts_numberSorts_47 (i := 3) rfl) ?_
                        refine zw_aload_n (pc := 101) (n := 0) (x := (d_ + 12)) rfl (zdal_p dlA_Sorts_numberSorts_47 (i := 4) rfl) ?_
                        refine zw_getF (pc := 102) f_Sorts_32 rfl ((hf_N23_.w hW).kr (o := 12) (by decide)) ((hf_N23_.w hW).lr (o := 12) (s := 0) (r := 1) (by decide)) (zdal_p dlA_Sorts_numberSorts_47 (i := 5) rfl) ?_
                        refine zw_aload_n (pc := 105) (n := 0) (x := (d_ + 12)) rfl (zdal_p dlA_Sorts_numberSorts_47 (i := 6) rfl) ?_
                        refine zw_getF (pc := 106) f_Sorts_14 rfl ((hf_N23_.w hW).kr (o := 12) (by decide)) ((hf_N23_.w hW).lr (o := 12) (s := 1) (r := 13) (by decide)) (zdal_p dlA_Sorts_numberSorts_47 (i := 7) rfl) ?_
                        refine zw_iload_n (pc := 109) (n := 1) (x := Int32.ofInt u11_) rfl (zdal_p dlA_Sorts_numberSorts_47 (i := 8) rfl) ?_
                        refine zk_at hf_N23_.x (pc := 110) l_Sorts_49 ((hf_N23_.w hW).kr (o := 13) (by decide)) ((hf_N23_.w hW).lr (o := 13) (s := 0) (r := 14) (by decide)) ((hf_N23_.w hW).rr (o := 14) (t := 1) (n := 35) (by decide)) (by decide) (by omega) (by omega) (by decide) (Nat.le_of_ble_eq_true rfl) (zdal_p dlA_Sorts_numberSorts_47 (i := 9) rfl) (fun v34_ hv34_ hv34_a hv34_b => ?_)
                        rw [hf_N23_.r (by decide)] at hv34_
                        have hv3_ := hv34_
                        have hv4_ : v34_ = zRw d_ 14 Mz (u11_).toNat := hv3_
                        refine zw_iload_n (pc := 113) (n := 2) (x := Int32.ofInt u22_) rfl (zdal_p dlA_Sorts_numberSorts_47 (i := 10) rfl) ?_
                        refine zk_callV hf_N23_.x (pc := 114) [.int (Int32.ofInt v34_), .int (Int32.ofInt u22_)] [.ref (d_ + 12), .ref (d_ + 15)] l_Sorts_86 (u_Group_turnAll l d_ N23_ (hf_N23_.w hW) v34_ hv34_a hv34_b u22_ hu22_a hu22_b T_ hT_ c31_ (show 0 ≤ v34_ by rw [hv4_]; exact hfk_.1) (show (v34_).toNat < 2 ^ gN T_ by rw [hv4_]; exact hfb_.1) (show 0 ≤ u22_ by first | assumption | omega) (show u22_ < gN T_ by first | assumption | omega)) rfl rfl ((hf_N23_.w hW).kr (o := 1) (by decide)) (by decide) (by decide) (Nat.le_of_ble_eq_true rfl) (zdal_p dlA_Sorts_numberSorts_47 (i := 11) rfl) ?_
                        rintro _ N35_ ⟨v36_, rfl, ⟨hv36_a, hv36_b⟩, hsN35_, ⟨hp0_N35_, hp1_N35_, hp2_N35_⟩⟩
                        obtain rfl := hsN35_.eq.symm
                        show zW l m_Sorts_numberSorts (zn Mz + 0, zw Mz + 0) N23_ 117 [some (.ref (d_ + 12)), some (.int (Int32.ofInt u11_)), some (.int (Int32.ofInt u22_))] [.int (Int32.ofInt v36_), .ref (d_ + 12), .ref (d_ + 15)] _
                        have ht1_ := hp0_N35_
                        rw [hv4_] at ht1_
                        have ho4_ := hol_.2.2.2.1 _ hgF_ (u22_).toNat (by omega)
                        refine zk_callV hf_N23_.x (pc := 117) [.int (Int32.ofInt v36_)] [.ref (d_ + 15)] l_Sorts_72 (u_Sorts_indexOf l d_ N23_ (hf_N23_.w hW) v36_ hv36_a hv36_b (show 0 ≤ ze N23_ (d_ + 12) 6 by first | assumption | omega) (show ze N23_ (d_ + 12) 6 ≤ 35 by first | assumption | omega)) rfl rfl ((hf_N23_.w hW).kr (o := 12) (by decide)) (by decide) (by decide) (Nat.le_of_ble_eq_true rfl) (zdal_p dlA_Sorts_numberSorts_47 (i := 12) rfl) ?_
                        rintro _ N37_ ⟨v38_, rfl, ⟨hv38_a, hv38_b⟩, hsN37_, hp0_N37_⟩
                        obtain rfl := hsN37_.eq.symm
                        replace hp0_N37_ : ((v38_ = -1 ∧ (∀ i : Nat, (i : Int) < ze N23_ (d_ + 12) 6 → ze N23_ (d_ + 14) i ≠ v36_)) ∨ (0 ≤ v38_ ∧ v38_ < ze N23_ (d_ + 12) 6 ∧ ze N23_ (d_ + 14) (v38_).toNat = v36_)) := hp0_N37_
                        rcases hp0_N37_ with ⟨rfl, ha117_0_hp0_N37_⟩ | ⟨ha117_0_hp0_N37_, ha117_1_hp0_N37_, ha117_2_hp0_N37_⟩
                        · skip
                          have hr14_ := fun j : Nat => hf_N23_.r (o := 14) (by decide) j
                          exact absurd ho4_.1 (fun q_ => by obtain ⟨j_, hj1_, hj2_⟩ := hms_ _ q_; have hj3_ := (hmm_ j_ hj1_).1; exact ha117_0_hp0_N37_ j_ (by omega) (by rw [hr14_, ht1_, ← hj2_]; show ze Mz (d_ + 14) j_ = (((ze Mz (d_ + 14) j_).toNat : Nat) : Int); have hj4_ : 0 ≤ ze Mz (d_ + 14) j_ := hj3_; omega))
                        · skip
                          have hr14_ := fun j : Nat => hf_N23_.r (o := 14) (by decide) j
                          have hx0_ := ha117_0_hp0_N37_
                          have hx1_ : v38_ < ze Mz (d_ + 12) 6 := by omega
                          have hx2_ := ha117_2_hp0_N37_
                          rw [hr14_] at hx2_
                          show zW l m_Sorts_numberSorts (zn Mz + 0, zw Mz + 0) N23_ 120 [some (.ref (d_ + 12)), some (.int (Int32.ofInt u11_)), some (.int (Int32.ofInt u22_))] [.int (Int32.ofInt v38_), .ref (d_ + 15)] _
                          refine zw_aload_n (pc := 120) (n := 0) (x := (d_ + 12)) rfl (zdal_p dlA_Sorts_numberSorts_47 (i := 13) rfl) ?_
                          refine zk_getI (pc := 121) f_Sorts_83 rfl ((hf_N23_.w hW).kr (o := 12) (by decide)) (zdal_p dlA_Sorts_numberSorts_47 (i := 14) rfl) ?_
                          refine zk_st hf_N23_.x (pc := 124) (o := 16) (by decide) l_Sorts_40 ((hf_N23_.w hW).kr (o := 15) (by decide)) ((hf_N23_.w hW).lr (o := 15) (s := 0) (r := 16) (by decide)) ((hf_N23_.w hW).rr (o := 16) (t := 1) (n := 35) (by decide)) (by decide) (by omega) (by omega) (by decide) (Nat.le_of_ble_eq_true rfl) (zdal_p dlA_Sorts_numberSorts_47 (i := 15) rfl) (fun N39_ hN39_ hsN39_ => ?_)
                          have hf_N39_ : zFc d_ [] [] [(12, 7)] [16, 20] Mz N39_ := hf_N23_.tr hsN39_ (by decide) (by decide) (by decide) (by decide)
                          have hb0_N39_ : zFc d_ [] [] [(12, 7)] [16, 20] N4_ N39_ := hb0_N23_.tr hsN39_ (by decide) (by decide) (by decide) (by decide)
                          have hb1_N39_ : zFc d_ [] [] [] [16] N20_ N39_ := hs24_.tr hsN39_ (by decide) (by decide) (by decide) (by decide)
                          have eD1_7_N39_ : ze N39_ (d_ + 1) 7 = ze N23_ (d_ + 1) 7 := hsN39_.e (by decide)
                          have eD12_6_N39_ : ze N39_ (d_ + 12) 6 = ze N23_ (d_ + 12) 6 := hsN39_.e (by decide)
                          have eD12_7_N39_ : ze N39_ (d_ + 12) 7 = ze N23_ (d_ + 12) 7 := hsN39_.e (by decide)
                          have c40_ : zTt T_ d_ N39_ := zTt.fr (hf_N23_.w hW) hsN39_ c31_ (by decide)
                          have hw3_ := zRw_w hN39_ ⟨by omega, by omega⟩
                          have hnrn_ := zNq_g (k := u11_) (g := u22_) hnr_ (by omega) hft_ (show (ze Mz (d_ + 14) _).toNat = _ by rw [hx2_, ht1_, Int.toNat_natCast]) (by omega) hw3_
                          have hng_ := zNu_g hn24_ p1_ hnw_ (by omega) (by omega) hgF_ (by omega) hx0_ hx1_ (show (ze Mz (d_ + 14) _).toNat = _ by rw [hx2_, ht1_, Int.toNat_natCast]) hw3_
                          have he8_ : ze N39_ (d_ + 12) 7 = ze N23_ (d_ + 12) 7 := by omega
                          have hq20_ : zRw d_ 20 N23_ = zRw d_ 20 N39_ := funext fun j => (hsN39_.r (by decide) j).symm
                          rw [← he8_, hq20_] at hng_
                          rw [← he8_, hq20_] at hft_
                          rw [← he8_, hq20_] at hnrn_
                          refine zr_iinc (pc := 127) (i := 2) (a := u22_) (n := 1) (L2 := [some (.ref (d_ + 12)), some (.int (Int32.ofInt u11_)), some (.int (Int32.ofInt (u22_ + 1)))]) rfl (by decide) rfl (zdal_p dlA_Sorts_numberSorts_47 (i := 16) rfl) ?_
                          refine zw_goto (pc := 130) (tgt := 85) (by decide) (zdal_p dlA_Sorts_numberSorts_47 (i := 17) rfl) ?_
                          exact ih_85 (u22_ + 1) (by omega) (by omega) N39_ hb1_N39_ (show 0 ≤ (u22_ + 1) by first | assumption | omega) (show zNu T_ (zRw d_ 14 Mz) (ze Mz (d_ + 12) 6) (zRw d_ 16 N39_) (zRw d_ 20 N39_) (ze N39_ (d_ + 12) 7) u11_ (u22_ + 1) by exact hng_) (show zRw d_ 20 N39_ (ze N39_ (d_ + 12) 7).toNat = zRw d_ 14 Mz (u11_).toNat by exact hft_) (show 0 ≤ ze N39_ (d_ + 12) 7 by first | assumption | omega) (show ze N39_ (d_ + 12) 7 ≤ 26 by first | assumption | omega) (show zNq T_ (zRw d_ 14 Mz) (ze Mz (d_ + 12) 6) (zRw d_ 16 N39_) (zRw d_ 20 N39_) (ze N39_ (d_ + 12) 7 + 1) by exact hnrn_) (by omega)
                  exact lp_85 _ 0 (by decide) (by decide) N20_ zFc.rf (show 0 ≤ (0 : Int) by first | assumption | omega) (show zNu T_ (zRw d_ 14 Mz) (ze Mz (d_ + 12) 6) (zRw d_ 16 N20_) (zRw d_ 20 N20_) (ze N20_ (d_ + 12) 7) u11_ (0 : Int) by exact hnf_) (show zRw d_ 20 N20_ (ze N20_ (d_ + 12) 7).toNat = zRw d_ 14 Mz (u11_).toNat by exact hff_) (show 0 ≤ ze N20_ (d_ + 12) 7 by first | assumption | omega) (show ze N20_ (d_ + 12) 7 ≤ 26 by first | assumption | omega) (show zNq T_ (zRw d_ 14 Mz) (ze Mz (d_ + 12) 6) (zRw d_ 16 N20_) (zRw d_ 20 N20_) (ze N20_ (d_ + 12) 7 + 1) by exact hnr0_) (Nat.lt_succ_self _)
                · skip
                  exfalso; have hr26_ := zNu_r p1_ hol_ hnu_ (by omega) hgF_; omega
        exact lp_32 _ 0 (by decide) (by decide) N4_ zFc.rf (show 0 ≤ (0 : Int) by first | assumption | omega) (show zNu T_ (zRw d_ 14 Mz) (ze Mz (d_ + 12) 6) (zRw d_ 16 N4_) (zRw d_ 20 N4_) (ze N4_ (d_ + 12) 7) (0 : Int) 0 by exact hnu0_) (show zNq T_ (zRw d_ 14 Mz) (ze Mz (d_ + 12) 6) (zRw d_ 16 N4_) (zRw d_ 20 N4_) (ze N4_ (d_ + 12) 7) by exact hnq0_) (Nat.lt_succ_self _)
      · skip
        refine zw_aload_n (pc := 15) (n := 0) (x := (d_ + 12)) rfl (zdal_p dlA_Sorts_numberSorts_45 (i := 9) rfl) ?_
        refine zw_getF (pc := 16) f_Sorts_20 rfl ((hf_N4_.w hW).kr (o := 12) (by decide)) ((hf_N4_.w hW).lr (o := 12) (s := 2) (r := 15) (by decide)) (zdal_p dlA_Sorts_numberSorts_45 (i := 10) rfl) ?_
        refine zw_iload_n (pc := 19) (n := 1) (x := Int32.ofInt u3_) rfl (zdal_p dlA_Sorts_numberSorts_45 (i := 11) rfl) ?_
        refine zw_iconst (pc := 20) (v := Int32.ofInt (-1)) (by decide) (zdal_p dlA_Sorts_numberSorts_45 (i := 12) rfl) ?_
        refine zk_st hf_N4_.x (pc := 21) (o := 16) (by decide) l_Sorts_40 ((hf_N4_.w hW).kr (o := 15) (by decide)) ((hf_N4_.w hW).lr (o := 15) (s := 0) (r := 16) (by decide)) ((hf_N4_.w hW).rr (o := 16) (t := 1) (n := 35) (by decide)) (by decide) (by omega) (by omega) (by decide) (Nat.le_of_ble_eq_true rfl) (zdal_p dlA_Sorts_numberSorts_45 (i := 13) rfl) (fun N41_ hN41_ hsN41_ => ?_)
        have hf_N41_ : zFc d_ [] [] [(12, 7)] [16, 20] Mz N41_ := hf_N4_.tr hsN41_ (by decide) (by decide) (by decide) (by decide)
        have hb0_N41_ : zFc d_ [] [] [] [16] N1_ N41_ := hs5_.tr hsN41_ (by decide) (by decide) (by decide) (by decide)
        have eD1_7_N41_ : ze N41_ (d_ + 1) 7 = ze N4_ (d_ + 1) 7 := hsN41_.e (by decide)
        have eD12_6_N41_ : ze N41_ (d_ + 12) 6 = ze N4_ (d_ + 12) 6 := hsN41_.e (by decide)
        have eD12_7_N41_ : ze N41_ (d_ + 12) 7 = ze N4_ (d_ + 12) 7 := hsN41_.e (by decide)
        have c42_ : zTt T_ d_ N41_ := zTt.fr (hf_N4_.w hW) hsN41_ c10_ (by decide)
        have hw1_ := zRw_w hN41_ ⟨by omega, by omega⟩
        have hqj_ : ∀ i : Nat, (i : Int) < u3_ + 1 → zRw d_ 16 N41_ i = -1 := fun i hi => by rw [hw1_]; by_cases g_ : i = (u3_).toNat; rw [g_, zst_t]; rw [zst_o g_]; exact hqi_ i (by omega)
        refine zr_iinc (pc := 24) (i := 1) (a := u3_) (n := 1) (L2 := [some (.ref (d_ + 12)), some (.int (Int32.ofInt (u3_ + 1))), none]) rfl (by decide) rfl (zdal_p dlA_Sorts_numberSorts_45 (i := 14) rfl) ?_
        refine zw_goto (pc := 27) (tgt := 7) (by decide) (zdal_p dlA_Sorts_numberSorts_45 (i := 15) rfl) ?_
        exact ih_7 (u3_ + 1) (by omega) (by omega) N41_ hb0_N41_ (show 0 ≤ (u3_ + 1) by first | assumption | omega) (show (u3_ + 1) ≤ ze Mz (d_ + 12) 6 by first | assumption | omega) (show ze N41_ (d_ + 12) 7 = 0 by first | assumption | omega) (show ∀ i : Nat, (i : Int) < (u3_ + 1) → zRw d_ 16 N41_ i = -1 by exact hqj_) (by omega)
  exact lp_7 _ 0 (by decide) (by decide) N1_ zFc.rf (show 0 ≤ (0 : Int) by first | assumption | omega) (show (0 : Int) ≤ ze Mz (d_ + 12) 6 by first | assumption | omega) (show ze N1_ (d_ + 12) 7 = 0 by first | assumption | omega) (show ∀ i : Nat, (i : Int) < (0 : Int) → zRw d_ 16 N1_ i = -1 by intro i hi; omega) (Nat.lt_succ_self _)
set_option maxHeartbeats 4000000 in
theorem u_Sorts_settleG (l : Launch) (d_ : Nat) (Mz : zMem) (hW : zKW d_ Mz) (T_ : zGT) (hT_ : T_ ∈ gTabs) (l_ : List Nat) (Kp_ : Nat) (hol_ : gOL T_ l_ Kp_ gKL) (hAs_ : gAs T_) (hGr_ : gGr T_) (p0_ : zTt T_ d_ Mz) : zC l m_Sorts_settle 0 0 [.ref (d_ + 12)] Mz (zqcV d_ [] [] [(12, 6), (12, 7)] [11, 14, 16, 20, 22] Mz (fun N => zKm (gF T_).length (gmkI T_) d_ N ∧ zTt T_ d_ N ∧ zFir T_ d_ N ∧ zSbK T_ d_ N)) := by
  refine zC_of (L0 := [some (.ref (d_ + 12)), none, none]) md_Sorts_settle (Nat.le_of_ble_eq_true rfl) rfl ?_ zQ0
  have hf : zFc d_ [] [] [(12, 6), (12, 7)] [11, 14, 16, 20, 22] Mz Mz := zFc.rf
  have r_D1_7 := ze_r Mz (d_ + 1) 7
  have r_D12_6 := ze_r Mz (d_ + 12) 6
  have r_D12_7 := ze_r Mz (d_ + 12) 7
  have hO_ := gTabs_ok T_ hT_
  have hG_ := hO_.1
  have hn24_ := hG_.2.1
  have hn1_ := hG_.1
  have hsz_ := p0_.1
  refine zw_aload_n (pc := 0) (n := 0) (x := (d_ + 12)) rfl (zdal_p dlA_Sorts_settle_32 (i := 0) rfl) ?_
  refine zw_iconst (pc := 1) (v := Int32.ofInt 1) (by decide) (zdal_p dlA_Sorts_settle_32 (i := 1) rfl) ?_
  refine zk_putR (pc := 2) (o := 12) (by decide) f_Sorts_36 rfl rfl ((hf.w hW).kr (o := 12) (by decide)) ⟨by omega, by omega⟩ rfl rfl (zdal_p dlA_Sorts_settle_32 (i := 2) rfl) (fun N1_ hsN1_ hvN1_ => ?_)
  have hf_N1_ : zFc d_ [] [] [(12, 6), (12, 7)] [11, 14, 16, 20, 22] Mz N1_ := hf.tr hsN1_ (by decide) (by decide) (by decide) (by decide)
  have eD1_7_N1_ : ze N1_ (d_ + 1) 7 = ze Mz (d_ + 1) 7 := hsN1_.e (by decide)
  have rD12_6_N1_ := ze_r N1_ (d_ + 12) 6
  have eD12_7_N1_ : ze N1_ (d_ + 12) 7 = ze Mz (d_ + 12) 7 := hsN1_.e (by decide)
  have c2_ : zTt T_ d_ N1_ := zTt.fr (hf.w hW) hsN1_ p0_ (by decide)
  refine zw_aload_n (pc := 5) (n := 0) (x := (d_ + 12)) rfl (zdal_p dlA_Sorts_settle_32 (i := 3) rfl) ?_
  refine zw_getF (pc := 6) f_Sorts_14 rfl ((hf_N1_.w hW).kr (o := 12) (by decide)) ((hf_N1_.w hW).lr (o := 12) (s := 1) (r := 13) (by decide)) (zdal_p dlA_Sorts_settle_32 (i := 4) rfl) ?_
  refine zw_iconst (pc := 9) (v := Int32.ofInt 0) (by decide) (zdal_p dlA_Sorts_settle_32 (i := 5) rfl) ?_
  refine zw_iconst (pc := 10) (v := Int32.ofInt 1) (by decide) (zdal_p dlA_Sorts_settle_32 (i := 6) rfl) ?_
  refine zk_st hf_N1_.x (pc := 11) (o := 14) (by decide) l_Sorts_40 ((hf_N1_.w hW).kr (o := 13) (by decide)) ((hf_N1_.w hW).lr (o := 13) (s := 0) (r := 14) (by decide)) ((hf_N1_.w hW).rr (o := 14) (t := 1) (n := 35) (by decide)) (by decide) (by omega) (by omega) (by decide) (Nat.le_of_ble_eq_true rfl) (zdal_p dlA_Sorts_settle_32 (i := 7) rfl) (fun N3_ hN3_ hsN3_ => ?_)
  have hf_N3_ : zFc d_ [] [] [(12, 6), (12, 7)] [11, 14, 16, 20, 22] Mz N3_ := hf_N1_.tr hsN3_ (by decide) (by decide) (by decide) (by decide)
  have eD1_7_N3_ : ze N3_ (d_ + 1) 7 = ze N1_ (d_ + 1) 7 := hsN3_.e (by decide)
  have eD12_6_N3_ : ze N3_ (d_ + 12) 6 = ze N1_ (d_ + 12) 6 := hsN3_.e (by decide)
  have eD12_7_N3_ : ze N3_ (d_ + 12) 7 = ze N1_ (d_ + 12) 7 := hsN3_.e (by decide)
  have c4_ : zTt T_ d_ N3_ := zTt.fr (hf_N1_.w hW) hsN3_ c2_ (by decide)
  have hw_ := zs_get hN3_ ⟨by omega, by omega⟩
  obtain ⟨hj0_, hx0_⟩ := zJk_0 (f := zRw d_ 14 N3_) hO_ hw_
  refine zw_iconst (pc := 14) (v := Int32.ofInt 0) (by decide) (zdal_p dlA_Sorts_settle_32 (i := 8) rfl) ?_
  refine zw_istore_n (pc := 15) (i := 1) (L2 := [some (.ref (d_ + 12)), some (.int (Int32.ofInt 0)), none]) rfl (by decide) rfl (zdal_p dlA_Sorts_settle_32 (i := 9) rfl) ?_
  have lp_16 : ∀ (n : Nat) (u5_ : Int) (hu5_a : -2147483648 ≤ u5_) (hu5_b : u5_ < 2147483648) (N6_ : zMem) (hs7_ : zFc d_ [] [] [(12, 6)] [11, 14] N3_ N6_) (i8_ : 0 ≤ u5_) (i9_ : zJk T_ (zRw d_ 14 N6_) (ze N6_ (d_ + 12) 6)) (i10_ : zXk T_ (zRw d_ 14 N6_) (ze N6_ (d_ + 12) 6) u5_ 0) (i11_ : zTt T_ d_ N6_), (36 - u5_).toNat < n → zW l m_Sorts_settle (zn Mz + 0, zw Mz + 0) N6_ 16 [some (.ref (d_ + 12)), some (.int (Int32.ofInt u5_)), none] [] (zqcV d_ [] [] [(12, 6), (12, 7)] [11, 14, 16, 20, 22] Mz (fun N => zKm (gF T_).length (gmkI T_) d_ N ∧ zTt T_ d_ N ∧ zFir T_ d_ N ∧ zSbK T_ d_ N)) := by
    intro n
    induction n with
    | zero =>
      intro u5_ hu5_a hu5_b N6_ hs7_ i8_ i9_ i10_ i11_ h0
      exact absurd h0 (Nat.not_lt_zero _)
    | succ n ih_16 =>
      intro u5_ hu5_a hu5_b N6_ hs7_ i8_ i9_ i10_ i11_ hlt_16
      have hf_N6_ : zFc d_ [] [] [(12, 6), (12, 7)] [11, 14, 16, 20, 22] Mz N6_ := hf_N3_.tr hs7_ (by decide) (by decide) (by decide) (by decide)
      have eD1_7_N6_ : ze N6_ (d_ + 1) 7 = ze N3_ (d_ + 1) 7 := hs7_.e (by decide)
      have rD12_6_N6_ := ze_r N6_ (d_ + 12) 6
      have eD12_7_N6_ : ze N6_ (d_ + 12) 7 = ze N3_ (d_ + 12) 7 := hs7_.e (by decide)
      have hj_ := (show zJk T_ (zRw d_ 14 N6_) (ze N6_ (d_ + 12) 6) by assumption)
      have hx_ := (show zXk T_ (zRw d_ 14 N6_) (ze N6_ (d_ + 12) 6) u5_ 0 by assumption)
      have hjm_ := hj_.1
      refine zw_iload_n (pc := 16) (n := 1) (x := Int32.ofInt u5_) rfl (zdal_p dlA_Sorts_settle_32 (i := 10) rfl) ?_
      refine zw_aload_n (pc := 17) (n := 0) (x := (d_ + 12)) rfl (zdal_p dlA_Sorts_settle_32 (i := 11) rfl) ?_
      refine zk_getI (pc := 18) f_Sorts_36 rfl ((hf_N6_.w hW).kr (o := 12) (by decide)) (zdal_p dlA_Sorts_settle_32 (i := 12) rfl) ?_
      refine zr_icmp_ge (pc := 21) (tgt := 93) ⟨hu5_a, hu5_b⟩ ⟨(ze_r N6_ (d_ + 12) 6).1, (ze_r N6_ (d_ + 12) 6).2⟩ (by decide) (zdal_p dlA_Sorts_settle_32 (i := 13) rfl) (fun hc_21 => ?_) (fun hc_21 => ?_)
      · skip
        have hce_ := zJk_e hO_ hj_ hx_ (by omega)
        refine zw_aload_n (pc := 93) (n := 0) (x := (d_ + 12)) rfl (zdal_p dlA_Sorts_settle_34 (i := 0) rfl) ?_
        refine zk_callV hf_N6_.x (pc := 94) [] [] l_Sorts_63 (u_Sorts_arrange l d_ N6_ (hf_N6_.w hW) (show 1 ≤ ze N6_ (d_ + 12) 6 by first | assumption | omega) (show ze N6_ (d_ + 12) 6 ≤ 35 by first | assumption | omega) (show zSoK zkyK (zRw d_ 14 N6_) (zRw d_ 14 N6_) (ze N6_ (d_ + 12) 6).toNat 1 by exact zJk_s hO_ hj_) (show (∀ k : Nat, (k : Int) < ze N6_ (d_ + 12) 6 → (0 ≤ ze N6_ (d_ + 14) k ∧ ze N6_ (d_ + 14) k < 16777216) ∧ kbc (ze N6_ (d_ + 14) k).toNat = gcb (ze N6_ (d_ + 14) k).toNat) by intro k_ hk_; have hq_ := hj_.2.2.1 k_ hk_; have hb_ := gS_b hO_ hq_.2; exact ⟨⟨hq_.1, by have h1_ := hq_.1; have h2_ := hb_.2.1; unfold zRw at h1_ h2_; omega⟩, hol_.2.2.2.2.2.2.2.2.2 _ hq_.2⟩)) rfl rfl ((hf_N6_.w hW).kr (o := 12) (by decide)) (by decide) (by decide) (Nat.le_of_ble_eq_true rfl) (zdal_p dlA_Sorts_settle_34 (i := 1) rfl) ?_
        rintro _ N12_ ⟨rfl, hsN12_, hp0_N12_⟩
        replace hp0_N12_ : (∃ i : Nat, (ze N6_ (d_ + 12) 6).toNat ≤ i ∧ zSoK zkyK (zRw d_ 14 N6_) (zRw d_ 14 N12_) (ze N6_ (d_ + 12) 6).toNat i) := hp0_N12_
        have hf_N12_ : zFc d_ [] [] [(12, 6), (12, 7)] [11, 14, 16, 20, 22] Mz N12_ := hf_N6_.tr hsN12_ (by decide) (by decide) (by decide) (by decide)
        have eD1_7_N12_ : ze N12_ (d_ + 1) 7 = ze N6_ (d_ + 1) 7 := hsN12_.e (by decide)
        have eD12_6_N12_ : ze N12_ (d_ + 12) 6 = ze N6_ (d_ + 12) 6 := hsN12_.e (by decide)
        have eD12_7_N12_ : ze N12_ (d_ + 12) 7 = ze N6_ (d_ + 12) 7 := hsN12_.e (by decide)
        have c14_ : zTt T_ d_ N12_ := zTt.fr (hf_N6_.w hW) hsN12_ i11_ (by decide)
        show zW l m_Sorts_settle (zn Mz + 0, zw Mz + 0) N12_ 97 [some (.ref (d_ + 12)), some (.int (Int32.ofInt u5_)), none] [] _
        obtain ⟨i_, hi1_, hi2_⟩ := hp0_N12_
        have hls_ := zLs_i hj_ hce_ hi2_ hi1_
        have hm7_ : ze N12_ (d_ + 12) 6 = ze N6_ (d_ + 12) 6 := by omega
        rw [← hm7_] at hls_
        refine zw_aload_n (pc := 97) (n := 0) (x := (d_ + 12)) rfl (zdal_p dlA_Sorts_settle_34 (i := 2) rfl) ?_
        refine zk_callV hf_N12_.x (pc := 98) [] [] l_Sorts_66 (u_Sorts_numberSortsG l d_ N12_ (hf_N12_.w hW) T_ hT_ l_ Kp_ hol_ hGr_ c14_ (show zLs T_ (zRw d_ 14 N12_) (ze N12_ (d_ + 12) 6) by exact hls_)) rfl rfl ((hf_N12_.w hW).kr (o := 12) (by decide)) (by decide) (by decide) (Nat.le_of_ble_eq_true rfl) (zdal_p dlA_Sorts_settle_34 (i := 3) rfl) ?_
        rintro _ N15_ ⟨rfl, hsN15_, ⟨hp0_N15_, hp1_N15_⟩⟩
        have hf_N15_ : zFc d_ [] [] [(12, 6), (12, 7)] [11, 14, 16, 20, 22] Mz N15_ := hf_N12_.tr hsN15_ (by decide) (by decide) (by decide) (by decide)
        have eD1_7_N15_ : ze N15_ (d_ + 1) 7 = ze N12_ (d_ + 1) 7 := hsN15_.e (by decide)
        have eD12_6_N15_ : ze N15_ (d_ + 12) 6 = ze N12_ (d_ + 12) 6 := hsN15_.e (by decide)
        have rD12_7_N15_ := ze_r N15_ (d_ + 12) 7
        have c17_ : zTt T_ d_ N15_ := zTt.fr (hf_N12_.w hW) hsN15_ c14_ (by decide)
        show zW l m_Sorts_settle (zn Mz + 0, zw Mz + 0) N15_ 101 [some (.ref (d_ + 12)), some (.int (Int32.ofInt u5_)), none] [] _
        have hfi_ := hp0_N15_
        have hsb_ := zSbK_m hls_ (show ze N15_ (d_ + 12) 6 = ze N12_ (d_ + 12) 6 by omega) (fun j => hsN15_.r (by decide) j) hp1_N15_
        refine zw_aload_n (pc := 101) (n := 0) (x := (d_ + 12)) rfl (zdal_p dlA_Sorts_settle_34 (i := 4) rfl) ?_
        refine zk_callV hf_N15_.x (pc := 102) [] [] l_Sorts_69 (u_Sorts_fillTable l d_ N15_ (hf_N15_.w hW) T_ hT_ l_ Kp_ hol_ c17_ hfi_) rfl rfl ((hf_N15_.w hW).kr (o := 12) (by decide)) (by decide) (by decide) (Nat.le_of_ble_eq_true rfl) (zdal_p dlA_Sorts_settle_34 (i := 5) rfl) ?_
        rintro _ N18_ ⟨rfl, hsN18_, hp0_N18_⟩
        replace hp0_N18_ : zKm (gF T_).length (gmkI T_) d_ N18_ := hp0_N18_
        have hf_N18_ : zFc d_ [] [] [(12, 6), (12, 7)] [11, 14, 16, 20, 22] Mz N18_ := hf_N15_.tr hsN18_ (by decide) (by decide) (by decide) (by decide)
        have eD1_7_N18_ : ze N18_ (d_ + 1) 7 = ze N15_ (d_ + 1) 7 := hsN18_.e (by decide)
        have eD12_6_N18_ : ze N18_ (d_ + 12) 6 = ze N15_ (d_ + 12) 6 := hsN18_.e (by decide)
        have eD12_7_N18_ : ze N18_ (d_ + 12) 7 = ze N15_ (d_ + 12) 7 := hsN18_.e (by decide)
        have c20_ : zTt T_ d_ N18_ := zTt.fr (hf_N15_.w hW) hsN18_ c17_ (by decide)
        have c21_ : zFir T_ d_ N18_ := zFir.fr (hf_N15_.w hW) hsN18_ hfi_ (by decide)
        have c22_ : zSbK T_ d_ N18_ := zSbK.fr (hf_N15_.w hW) hsN18_ hsb_ (by decide)
        show zW l m_Sorts_settle (zn Mz + 0, zw Mz + 0) N18_ 105 [some (.ref (d_ + 12)), some (.int (Int32.ofInt u5_)), none] [] _
        exact zk_vret (pc := 105) rfl hf_N18_ ⟨(show zKm (gF T_).length (gmkI T_) d_ N18_ by first | assumption | omega), c20_, c21_, c22_⟩ (zdal_p dlA_Sorts_settle_34 (i := 6) rfl)
      · skip
        refine zw_iload_n (pc := 24) (n := 1) (x := Int32.ofInt u5_) rfl (zdal_p dlA_Sorts_settle_32 (i := 14) rfl) ?_
        refine zw_bipush (pc := 25) (v := Int32.ofInt 35) (by decide) (zdal_p dlA_Sorts_settle_32 (i := 15) rfl) ?_
        refine zr_icmp_ge (pc := 27) (tgt := 93) ⟨hu5_a, hu5_b⟩ ⟨(by decide), (by decide)⟩ (by decide) (zdal_p dlA_Sorts_settle_32 (i := 16) rfl) (fun hc_27 => ?_) (fun hc_27 => ?_)
        · skip
          have hce_ := zJk_e hO_ hj_ hx_ (by omega)
          refine zw_aload_n (pc := 93) (n := 0) (x := (d_ + 12)) rfl (zdal_p dlA_Sorts_settle_34 (i := 0) rfl) ?_
          refine zk_callV hf_N6_.x (pc := 94) [] [] l_Sorts_63 (u_Sorts_arrange l d_ N6_ (hf_N6_.w hW) (show 1 ≤ ze N6_ (d_ + 12) 6 by first | assumption | omega) (show ze N6_ (d_ + 12) 6 ≤ 35 by first | assumption | omega) (show zSoK zkyK (zRw d_ 14 N6_) (zRw d_ 14 N6_) (ze N6_ (d_ + 12) 6).toNat 1 by exact zJk_s hO_ hj_) (show (∀ k : Nat, (k : Int) < ze N6_ (d_ + 12) 6 → (0 ≤ ze N6_ (d_ + 14) k ∧ ze N6_ (d_ + 14) k < 16777216) ∧ kbc (ze N6_ (d_ + 14) k).toNat = gcb (ze N6_ (d_ + 14) k).toNat) by intro k_ hk_; have hq_ := hj_.2.2.1 k_ hk_; have hb_ := gS_b hO_ hq_.2; exact ⟨⟨hq_.1, by have h1_ := hq_.1; have h2_ := hb_.2.1; unfold zRw at h1_ h2_; omega⟩, hol_.2.2.2.2.2.2.2.2.2 _ hq_.2⟩)) rfl rfl ((hf_N6_.w hW).kr (o := 12) (by decide)) (by decide) (by decide) (Nat.le_of_ble_eq_true rfl) (zdal_p dlA_Sorts_settle_34 (i := 1) rfl) ?_
          rintro _ N23_ ⟨rfl, hsN23_, hp0_N23_⟩
          replace hp0_N23_ : (∃ i : Nat, (ze N6_ (d_ + 12) 6).toNat ≤ i ∧ zSoK zkyK (zRw d_ 14 N6_) (zRw d_ 14 N23_) (ze N6_ (d_ + 12) 6).toNat i) := hp0_N23_
          have hf_N23_ : zFc d_ [] [] [(12, 6), (12, 7)] [11, 14, 16, 20, 22] Mz N23_ := hf_N6_.tr hsN23_ (by decide) (by decide) (by decide) (by decide)
          have eD1_7_N23_ : ze N23_ (d_ + 1) 7 = ze N6_ (d_ + 1) 7 := hsN23_.e (by decide)
          have eD12_6_N23_ : ze N23_ (d_ + 12) 6 = ze N6_ (d_ + 12) 6 := hsN23_.e (by decide)
          have eD12_7_N23_ : ze N23_ (d_ + 12) 7 = ze N6_ (d_ + 12) 7 := hsN23_.e (by decide)
          have c25_ : zTt T_ d_ N23_ := zTt.fr (hf_N6_.w hW) hsN23_ i11_ (by decide)
          show zW l m_Sorts_settle (zn Mz + 0, zw Mz + 0) N23_ 97 [some (.ref (d_ + 12)), some (.int (Int32.ofInt u5_)), none] [] _
          obtain ⟨i_, hi1_, hi2_⟩ := hp0_N23_
          have hls_ := zLs_i hj_ hce_ hi2_ hi1_
          have hm7_ : ze N23_ (d_ + 12) 6 = ze N6_ (d_ + 12) 6 := by omega
          rw [← hm7_] at hls_
          refine zw_aload_n (pc := 97) (n := 0) (x := (d_ + 12)) rfl (zdal_p dlA_Sorts_settle_34 (i := 2) rfl) ?_
          refine zk_callV hf_N23_.x (pc := 98) [] [] l_Sorts_66 (u_Sorts_numberSortsG l d_ N23_ (hf_N23_.w hW) T_ hT_ l_ Kp_ hol_ hGr_ c25_ (show zLs T_ (zRw d_ 14 N23_) (ze N23_ (d_ + 12) 6) by exact hls_)) rfl rfl ((hf_N23_.w hW).kr (o := 12) (by decide)) (by decide) (by decide) (Nat.le_of_ble_eq_true rfl) (zdal_p dlA_Sorts_settle_34 (i := 3) rfl) ?_
          rintro _ N26_ ⟨rfl, hsN26_, ⟨hp0_N26_, hp1_N26_⟩⟩
          have hf_N26_ : zFc d_ [] [] [(12, 6), (12, 7)] [11, 14, 16, 20, 22] Mz N26_ := hf_N23_.tr hsN26_ (by decide) (by decide) (by decide) (by decide)
          have eD1_7_N26_ : ze N26_ (d_ + 1) 7 = ze N23_ (d_ + 1) 7 := hsN26_.e (by decide)
          have eD12_6_N26_ : ze N26_ (d_ + 12) 6 = ze N23_ (d_ + 12) 6 := hsN26_.e (by decide)
          have rD12_7_N26_ := ze_r N26_ (d_ + 12) 7
          have c28_ : zTt T_ d_ N26_ := zTt.fr (hf_N23_.w hW) hsN26_ c25_ (by decide)
          show zW l m_Sorts_settle (zn Mz + 0, zw Mz + 0) N26_ 101 [some (.ref (d_ + 12)), some (.int (Int32.ofInt u5_)), none] [] _
          have hfi_ := hp0_N26_
          have hsb_ := zSbK_m hls_ (show ze N26_ (d_ + 12) 6 = ze N23_ (d_ + 12) 6 by omega) (fun j => hsN26_.r (by decide) j) hp1_N26_
          refine zw_aload_n (pc := 101) (n := 0) (x := (d_ + 12)) rfl (zdal_p dlA_Sorts_settle_34 (i := 4) rfl) ?_
          refine zk_callV hf_N26_.x (pc := 102) [] [] l_Sorts_69 (u_Sorts_fillTable l d_ N26_ (hf_N26_.w hW) T_ hT_ l_ Kp_ hol_ c28_ hfi_) rfl rfl ((hf_N26_.w hW).kr (o := 12) (by decide)) (by decide) (by decide) (Nat.le_of_ble_eq_true rfl) (zdal_p dlA_Sorts_settle_34 (i := 5) rfl) ?_
          rintro _ N29_ ⟨rfl, hsN29_, hp0_N29_⟩
          replace hp0_N29_ : zKm (gF T_).length (gmkI T_) d_ N29_ := hp0_N29_
          have hf_N29_ : zFc d_ [] [] [(12, 6), (12, 7)] [11, 14, 16, 20, 22] Mz N29_ := hf_N26_.tr hsN29_ (by decide) (by decide) (by decide) (by decide)
          have eD1_7_N29_ : ze N29_ (d_ + 1) 7 = ze N26_ (d_ + 1) 7 := hsN29_.e (by decide)
          have eD12_6_N29_ : ze N29_ (d_ + 12) 6 = ze N26_ (d_ + 12) 6 := hsN29_.e (by decide)
          have eD12_7_N29_ : ze N29_ (d_ + 12) 7 = ze N26_ (d_ + 12) 7 := hsN29_.e (by decide)
          have c31_ : zTt T_ d_ N29_ := zTt.fr (hf_N26_.w hW) hsN29_ c28_ (by decide)
          have c32_ : zFir T_ d_ N29_ := zFir.fr (hf_N26_.w hW) hsN29_ hfi_ (by decide)
          have c33_ : zSbK T_ d_ N29_ := zSbK.fr (hf_N26_.w hW) hsN29_ hsb_ (by decide)
          show zW l m_Sorts_settle (zn Mz + 0, zw Mz + 0) N29_ 105 [some (.ref (d_ + 12)), some (.int (Int32.ofInt u5_)), none] [] _
          exact zk_vret (pc := 105) rfl hf_N29_ ⟨(show zKm (gF T_).length (gmkI T_) d_ N29_ by first | assumption | omega), c31_, c32_, c33_⟩ (zdal_p dlA_Sorts_settle_34 (i := 6) rfl)
        · skip
          refine zw_iconst (pc := 30) (v := Int32.ofInt 0) (by decide) (zdal_p dlA_Sorts_settle_32 (i := 17) rfl) ?_
          refine zw_istore_n (pc := 31) (i := 2) (L2 := [some (.ref (d_ + 12)), some (.int (Int32.ofInt u5_)), some (.int (Int32.ofInt 0))]) rfl (by decide) rfl (zdal_p dlA_Sorts_settle_32 (i := 18) rfl) ?_
          have lp_32 : ∀ (n : Nat) (u34_ : Int) (hu34_a : -2147483648 ≤ u34_) (hu34_b : u34_ < 2147483648) (N35_ : zMem) (hs36_ : zFc d_ [] [] [(12, 6)] [11, 14] N6_ N35_) (i37_ : 0 ≤ u34_) (i38_ : u5_ < (ze N35_ (d_ + 12) 6)) (i39_ : zJk T_ (zRw d_ 14 N35_) (ze N35_ (d_ + 12) 6)) (i40_ : zXk T_ (zRw d_ 14 N35_) (ze N35_ (d_ + 12) 6) u5_ u34_) (i41_ : zTt T_ d_ N35_), (gN T_ - u34_).toNat < n → zW l m_Sorts_settle (zn Mz + 0, zw Mz + 0) N35_ 32 [some (.ref (d_ + 12)), some (.int (Int32.ofInt u5_)), some (.int (Int32.ofInt u34_))] [] (zqcV d_ [] [] [(12, 6), (12, 7)] [11, 14, 16, 20, 22] Mz (fun N => zKm (gF T_).length (gmkI T_) d_ N ∧ zTt T_ d_ N ∧ zFir T_ d_ N ∧ zSbK T_ d_ N)) := by
            intro n
            induction n with
            | zero =>
              intro u34_ hu34_a hu34_b N35_ hs36_ i37_ i38_ i39_ i40_ i41_ h0
              exact absurd h0 (Nat.not_lt_zero _)
            | succ n ih_32 =>
              intro u34_ hu34_a hu34_b N35_ hs36_ i37_ i38_ i39_ i40_ i41_ hlt_32
              have hf_N35_ : zFc d_ [] [] [(12, 6), (12, 7)] [11, 14, 16, 20, 22] Mz N35_ := hf_N6_.tr hs36_ (by decide) (by decide) (by decide) (by decide)
              have hb0_N35_ : zFc d_ [] [] [(12, 6)] [11, 14] N3_ N35_ := hs7_.tr hs36_ (by decide) (by decide) (by decide) (by decide)
              have eD1_7_N35_ : ze N35_ (d_ + 1) 7 = ze N6_ (d_ + 1) 7 := hs36_.e (by decide)
              have rD12_6_N35_ := ze_r N35_ (d_ + 12) 6
              have eD12_7_N35_ : ze N35_ (d_ + 12) 7 = ze N6_ (d_ + 12) 7 := hs36_.e (by decide)
              have hj2_ := (show zJk T_ (zRw d_ 14 N35_) (ze N35_ (d_ + 12) 6) by assumption)
              have hx2_ := (show zXk T_ (zRw d_ 14 N35_) (ze N35_ (d_ + 12) 6) u5_ u34_ by assumption)
              have hjn_ := hj2_.1
              have hst_ := i41_.1
              refine zw_iload_n (pc := 32) (n := 2) (x := Int32.ofInt u34_) rfl (zdal_p dlA_Sorts_settle_32 (i := 19) rfl) ?_
              refine zw_aload_n (pc := 33) (n := 0) (x := (d_ + 12)) rfl (zdal_p dlA_Sorts_settle_32 (i := 20) rfl) ?_
              refine zw_getF (pc := 34) f_Sorts_32 rfl ((hf_N35_.w hW).kr (o := 12) (by decide)) ((hf_N35_.w hW).lr (o := 12) (s := 0) (r := 1) (by decide)) (zdal_p dlA_Sorts_settle_32 (i := 21) rfl) ?_
              refine zk_getI (pc := 37) f_Sorts_44 rfl ((hf_N35_.w hW).kr (o := 1) (by decide)) (zdal_p dlA_Sorts_settle_32 (i := 22) rfl) ?_
              rw [hf_N35_.e (by decide)]
              refine zr_icmp_ge (pc := 40) (tgt := 87) ⟨hu34_a, hu34_b⟩ ⟨(ze_r Mz (d_ + 1) 7).1, (ze_r Mz (d_ + 1) 7).2⟩ (by decide) (zdal_p dlA_Sorts_settle_32 (i := 23) rfl) (fun hc_40 => ?_) (fun hc_40 => ?_)
              · skip
                refine zr_iinc (pc := 87) (i := 1) (a := u5_) (n := 1) (L2 := [some (.ref (d_ + 12)), some (.int (Int32.ofInt (u5_ + 1))), some (.int (Int32.ofInt u34_))]) rfl (by decide) rfl (zdal_p dlA_Sorts_settle_33 (i := 22) rfl) ?_
                refine zw_goto (pc := 90) (tgt := 16) (by decide) (zdal_p dlA_Sorts_settle_33 (i := 23) rfl) ?_
                refine zW_le [some (.ref (d_ + 12)), some (.int (Int32.ofInt (u5_ + 1))), none] (⟨rfl, rfl, trivial⟩) ?_
                exact ih_16 (u5_ + 1) (by omega) (by omega) N35_ hb0_N35_ (show 0 ≤ (u5_ + 1) by first | assumption | omega) (show zJk T_ (zRw d_ 14 N35_) (ze N35_ (d_ + 12) 6) by exact hj2_) (show zXk T_ (zRw d_ 14 N35_) (ze N35_ (d_ + 12) 6) (u5_ + 1) 0 by exact zXk_n hx2_ (by omega)) i41_ (by omega)
              · skip
                refine zw_aload_n (pc := 43) (n := 0) (x := (d_ + 12)) rfl (zdal_p dlA_Sorts_settle_33 (i := 0) rfl) ?_
                refine zw_getF (pc := 44) f_Sorts_14 rfl ((hf_N35_.w hW).kr (o := 12) (by decide)) ((hf_N35_.w hW).lr (o := 12) (s := 1) (r := 13) (by decide)) (zdal_p dlA_Sorts_settle_33 (i := 1) rfl) ?_
                refine zw_iload_n (pc := 47) (n := 1) (x := Int32.ofInt u5_) rfl (zdal_p dlA_Sorts_settle_33 (i := 2) rfl) ?_
                refine zk_at hf_N35_.x (pc := 48) l_Sorts_49 ((hf_N35_.w hW).kr (o := 13) (by decide)) ((hf_N35_.w hW).lr (o := 13) (s := 0) (r := 14) (by decide)) ((hf_N35_.w hW).rr (o := 14) (t := 1) (n := 35) (by decide)) (by decide) (by omega) (by omega) (by decide) (Nat.le_of_ble_eq_true rfl) (zdal_p dlA_Sorts_settle_33 (i := 3) rfl) (fun v42_ hv42_ hv42_a hv42_b => ?_)
                have hv_ := hv42_
                have hm_ := hj2_.2.2.1 (u5_).toNat (by omega)
                rw [show zRw d_ 14 N35_ (u5_).toNat = v42_ from hv_.symm] at hm_
                have hgb_ := gS_b hO_ hm_.2
                refine zw_iload_n (pc := 51) (n := 2) (x := Int32.ofInt u34_) rfl (zdal_p dlA_Sorts_settle_33 (i := 4) rfl) ?_
                refine zr_callS hf_N35_.x (pc := 52) [.int (Int32.ofInt v42_), .int (Int32.ofInt u34_)] [] l_Sorts_53 (u_T_isIn l d_ N35_ (hf_N35_.w hW) v42_ hv42_a hv42_b u34_ hu34_a hu34_b (show 0 ≤ v42_ by first | assumption | omega) (show v42_ < 2147483648 by first | assumption | omega) (show 0 ≤ u34_ by first | assumption | omega) (show u34_ < 31 by first | assumption | omega)) rfl rfl (by decide) (Nat.le_of_ble_eq_true rfl) (zdal_p dlA_Sorts_settle_33 (i := 5) rfl) ?_
                rintro _ N43_ ⟨v44_, rfl, ⟨hv44_a, hv44_b⟩, hsN43_, hp0_N43_⟩
                obtain rfl := hsN43_.eq.symm
                replace hp0_N43_ : ((v44_ = 1 ∧ zbt v42_ u34_) ∨ (v44_ = 0 ∧ ¬ zbt v42_ u34_)) := hp0_N43_
                rcases hp0_N43_ with ⟨rfl, ha52_0_hp0_N43_⟩ | ⟨rfl, ha52_0_hp0_N43_⟩
                · skip
                  have hxb_ := zXk_b (by omega) (by omega) hx2_ (show _ = zRw d_ 14 N35_ (u5_).toNat from hv_) ha52_0_hp0_N43_
                  show zW l m_Sorts_settle (zn Mz + 0, zw Mz + 0) N35_ 55 [some (.ref (d_ + 12)), some (.int (Int32.ofInt u5_)), some (.int (Int32.ofInt u34_))] [.int (Int32.ofInt 1)] _
                  refine zr_if_ne (pc := 55) (tgt := 81) ⟨(by decide), (by decide)⟩ (by decide) (zdal_p dlA_Sorts_settle_33 (i := 6) rfl) (fun hc_55 => ?_) (fun hc_55 => ?_)
                  · skip
                    refine zr_iinc (pc := 81) (i := 2) (a := u34_) (n := 1) (L2 := [some (.ref (d_ + 12)), some (.int (Int32.ofInt u5_)), some (.int (Int32.ofInt (u34_ + 1)))]) rfl (by decide) rfl (zdal_p dlA_Sorts_settle_33 (i := 20) rfl) ?_
                    refine zw_goto (pc := 84) (tgt := 32) (by decide) (zdal_p dlA_Sorts_settle_33 (i := 21) rfl) ?_
                    exact ih_32 (u34_ + 1) (by omega) (by omega) N35_ hs36_ (show 0 ≤ (u34_ + 1) by first | assumption | omega) (show u5_ < (ze N35_ (d_ + 12) 6) by first | assumption | omega) (show zJk T_ (zRw d_ 14 N35_) (ze N35_ (d_ + 12) 6) by first | exact hj3_ | exact hj2_) (show zXk T_ (zRw d_ 14 N35_) (ze N35_ (d_ + 12) 6) u5_ (u34_ + 1) by first | exact hxb_ | exact hxn_) i41_ (by omega)
                  · skip
                    exact absurd hc_55 (by decide)
                · skip
                  show zW l m_Sorts_settle (zn Mz + 0, zw Mz + 0) N35_ 55 [some (.ref (d_ + 12)), some (.int (Int32.ofInt u5_)), some (.int (Int32.ofInt u34_))] [.int (Int32.ofInt 0)] _
                  refine zr_if_ne (pc := 55) (tgt := 81) ⟨(by decide), (by decide)⟩ (by decide) (zdal_p dlA_Sorts_settle_33 (i := 6) rfl) (fun hc_55 => ?_) (fun hc_55 => ?_)
                  · skip
                    exact absurd hc_55 (by decide)
                  · skip
                    refine zw_aload_n (pc := 58) (n := 0) (x := (d_ + 12)) rfl (zdal_p dlA_Sorts_settle_33 (i := 7) rfl) ?_
                    refine zw_aload_n (pc := 59) (n := 0) (x := (d_ + 12)) rfl (zdal_p dlA_Sorts_settle_33 (i := 8) rfl) ?_
                    refine zw_getF (pc := 60) f_Sorts_32 rfl ((hf_N35_.w hW).kr (o := 12) (by decide)) ((hf_N35_.w hW).lr (o := 12) (s := 0) (r := 1) (by decide)) (zdal_p dlA_Sorts_settle_33 (i := 9) rfl) ?_
                    refine zw_aload_n (pc := 63) (n := 0) (x := (d_ + 12)) rfl (zdal_p dlA_Sorts_settle_33 (i := 10) rfl) ?_
                    refine zw_getF (pc := 64) f_Sorts_14 rfl ((hf_N35_.w hW).kr (o := 12) (by decide)) ((hf_N35_.w hW).lr (o := 12) (s := 1) (r := 13) (by decide)) (zdal_p dlA_Sorts_settle_33 (i := 11) rfl) ?_
                    refine zw_iload_n (pc := 67) (n := 1) (x := Int32.ofInt u5_) rfl (zdal_p dlA_Sorts_settle_33 (i := 12) rfl) ?_
                    refine zk_at hf_N35_.x (pc := 68) l_Sorts_49 ((hf_N35_.w hW).kr (o := 13) (by decide)) ((hf_N35_.w hW).lr (o := 13) (s := 0) (r := 14) (by decide)) ((hf_N35_.w hW).rr (o := 14) (t := 1) (n := 35) (by decide)) (by decide) (by omega) (by omega) (by decide) (Nat.le_of_ble_eq_true rfl) (zdal_p dlA_Sorts_settle_33 (i := 13) rfl) (fun v45_ hv45_ hv45_a hv45_b => ?_)
                    have hv2_ := hv45_
                    have hm2_ := hj2_.2.2.1 (u5_).toNat (by omega)
                    rw [show zRw d_ 14 N35_ (u5_).toNat = v45_ from hv2_.symm] at hm2_
                    have hgc_ := gS_b hO_ hm2_.2
                    have hzo_ := zorb (x := v45_) (k := u34_) (by omega) (by omega) (by omega) (by omega)
                    have hol2_ : (v45_).toNat ||| 2 ^ (u34_).toNat < 2 ^ gN T_ := Nat.or_lt_two_pow hgc_.1 (Nat.pow_lt_pow_right (by omega) (by omega))
                    obtain ⟨v_, hvv_⟩ : ∃ v : Int, v = v45_ := ⟨_, rfl⟩
                    rw [← hvv_] at hv2_
                    refine zw_iconst (pc := 71) (v := Int32.ofInt 1) (by decide) (zdal_p dlA_Sorts_settle_33 (i := 14) rfl) ?_
                    refine zw_iload_n (pc := 72) (n := 2) (x := Int32.ofInt u34_) rfl (zdal_p dlA_Sorts_settle_33 (i := 15) rfl) ?_
                    refine zr_ishl (pc := 73) (zdal_p dlA_Sorts_settle_33 (i := 16) rfl) ?_
                    have hr46_ := zshl_r 1 u34_
                    refine zr_ior (pc := 74) (zdal_p dlA_Sorts_settle_33 (i := 17) rfl) ?_
                    have hr47_ := zor_r v45_ (zshl 1 u34_)
                    refine zk_callV hf_N35_.x (pc := 75) [.int (Int32.ofInt (zor v45_ (zshl 1 u34_)))] [.ref (d_ + 12)] l_Sorts_57 (u_Group_spanOf l d_ N35_ (hf_N35_.w hW) (zor v45_ (zshl 1 u34_)) (by omega) (by omega) T_ hT_ hAs_ i41_ (show 0 ≤ (zor v45_ (zshl 1 u34_)) by rw [hzo_]; omega) (show ((zor v45_ (zshl 1 u34_))).toNat < 2 ^ gN T_ by rw [hzo_, Int.toNat_natCast]; exact hol2_)) rfl rfl ((hf_N35_.w hW).kr (o := 1) (by decide)) (by decide) (by decide) (Nat.le_of_ble_eq_true rfl) (zdal_p dlA_Sorts_settle_33 (i := 18) rfl) ?_
                    rintro _ N48_ ⟨v49_, rfl, ⟨hv49_a, hv49_b⟩, hsN48_, ⟨hp0_N48_, hp1_N48_, hp2_N48_⟩⟩
                    have hf_N48_ : zFc d_ [] [] [(12, 6), (12, 7)] [11, 14, 16, 20, 22] Mz N48_ := hf_N35_.tr hsN48_ (by decide) (by decide) (by decide) (by decide)
                    have hb0_N48_ : zFc d_ [] [] [(12, 6)] [11, 14] N3_ N48_ := hb0_N35_.tr hsN48_ (by decide) (by decide) (by decide) (by decide)
                    have hb1_N48_ : zFc d_ [] [] [(12, 6)] [11, 14] N6_ N48_ := hs36_.tr hsN48_ (by decide) (by decide) (by decide) (by decide)
                    have eD1_7_N48_ : ze N48_ (d_ + 1) 7 = ze N35_ (d_ + 1) 7 := hsN48_.e (by decide)
                    have eD12_6_N48_ : ze N48_ (d_ + 12) 6 = ze N35_ (d_ + 12) 6 := hsN48_.e (by decide)
                    have eD12_7_N48_ : ze N48_ (d_ + 12) 7 = ze N35_ (d_ + 12) 7 := hsN48_.e (by decide)
                    have c50_ : zTt T_ d_ N48_ := zTt.fr (hf_N35_.w hW) hsN48_ i41_ (by decide)
                    show zW l m_Sorts_settle (zn Mz + 0, zw Mz + 0) N48_ 78 [some (.ref (d_ + 12)), some (.int (Int32.ofInt u5_)), some (.int (Int32.ofInt u34_))] [.int (Int32.ofInt v49_), .ref (d_ + 12)] _
                    have hlc_ := hp0_N48_
                    rw [hzo_, Int.toNat_natCast, ← hvv_] at hlc_
                    have hr0_ := hp1_N48_
                    have hrm_ := hO_.mem hlc_
                    have hf_ : zRw d_ 14 N48_ = zRw d_ 14 N35_ := funext fun j => hsN48_.r (by decide) j
                    have hm6_ : ze N48_ (d_ + 12) 6 = ze N35_ (d_ + 12) 6 := by omega
                    rw [show v_ = zRw d_ 14 N35_ (u5_).toNat from hv2_] at hlc_
                    rw [← hf_, ← hm6_] at hj2_ hx2_
                    rw [← hf_] at hlc_
                    have hroom_ := zJk_c hol_.1.1 hj2_ hr0_ hrm_
                    refine zk_callV hf_N48_.x (pc := 78) [.int (Int32.ofInt v49_)] [] l_Sorts_60 (u_Sorts_addSubgroup l d_ N48_ (hf_N48_.w hW) v49_ hv49_a hv49_b (show 0 ≤ ze N48_ (d_ + 12) 6 by first | assumption | omega) (show ze N48_ (d_ + 12) 6 ≤ 35 by first | assumption | omega) (show (∀ i : Nat, (i : Int) < ze N48_ (d_ + 12) 6 → ze N48_ (d_ + 14) i ≠ v49_) → ze N48_ (d_ + 12) 6 ≤ 34 by exact fun q_ => hroom_ q_)) rfl rfl ((hf_N48_.w hW).kr (o := 12) (by decide)) (by decide) (by decide) (Nat.le_of_ble_eq_true rfl) (zdal_p dlA_Sorts_settle_33 (i := 19) rfl) ?_
                    rintro _ N51_ ⟨rfl, hsN51_, hp0_N51_⟩
                    replace hp0_N51_ : (((∃ k : Nat, (k : Int) < ze N48_ (d_ + 12) 6 ∧ ze N48_ (d_ + 14) k = v49_) ∧ (∀ j : Nat, zRw d_ 14 N51_ j = zRw d_ 14 N48_ j) ∧ ze N51_ (d_ + 12) 6 = ze N48_ (d_ + 12) 6) ∨ ((∀ i : Nat, (i : Int) < ze N48_ (d_ + 12) 6 → ze N48_ (d_ + 14) i ≠ v49_) ∧ ze N51_ (d_ + 12) 6 = ze N48_ (d_ + 12) 6 + 1 ∧ (∀ j : Nat, zRw d_ 14 N51_ j = zst (zRw d_ 14 N48_) (ze N48_ (d_ + 12) 6).toNat v49_ j))) := hp0_N51_
                    have hf_N51_ : zFc d_ [] [] [(12, 6), (12, 7)] [11, 14, 16, 20, 22] Mz N51_ := hf_N48_.tr hsN51_ (by decide) (by decide) (by decide) (by decide)
                    have hb0_N51_ : zFc d_ [] [] [(12, 6)] [11, 14] N3_ N51_ := hb0_N48_.tr hsN51_ (by decide) (by decide) (by decide) (by decide)
                    have hb1_N51_ : zFc d_ [] [] [(12, 6)] [11, 14] N6_ N51_ := hb1_N48_.tr hsN51_ (by decide) (by decide) (by decide) (by decide)
                    have eD1_7_N51_ : ze N51_ (d_ + 1) 7 = ze N48_ (d_ + 1) 7 := hsN51_.e (by decide)
                    have rD12_6_N51_ := ze_r N51_ (d_ + 12) 6
                    have eD12_7_N51_ : ze N51_ (d_ + 12) 7 = ze N48_ (d_ + 12) 7 := hsN51_.e (by decide)
                    have c53_ : zTt T_ d_ N51_ := zTt.fr (hf_N48_.w hW) hsN51_ c50_ (by decide)
                    rcases hp0_N51_ with ⟨ha78_0_hp0_N51_, ha78_1_hp0_N51_, ha78_2_hp0_N51_⟩ | ⟨ha78_0_hp0_N51_, ha78_1_hp0_N51_, ha78_2_hp0_N51_⟩
                    · skip
                      obtain ⟨k_, hk1_, hk2_⟩ := ha78_0_hp0_N51_
                      have hsm_ : zRw d_ 14 N51_ = zRw d_ 14 N48_ := funext ha78_1_hp0_N51_
                      have hmm_ := ha78_2_hp0_N51_
                      have hxn_ := zXk_f (by omega) (by omega) hx2_ hlc_ hk1_ (show zRw d_ 14 N48_ k_ = _ from hk2_)
                      rw [← hsm_, ← hmm_] at hxn_ hj2_
                      show zW l m_Sorts_settle (zn Mz + 0, zw Mz + 0) N51_ 81 [some (.ref (d_ + 12)), some (.int (Int32.ofInt u5_)), some (.int (Int32.ofInt u34_))] [] _
                      refine zr_iinc (pc := 81) (i := 2) (a := u34_) (n := 1) (L2 := [some (.ref (d_ + 12)), some (.int (Int32.ofInt u5_)), some (.int (Int32.ofInt (u34_ + 1)))]) rfl (by decide) rfl (zdal_p dlA_Sorts_settle_33 (i := 20) rfl) ?_
                      refine zw_goto (pc := 84) (tgt := 32) (by decide) (zdal_p dlA_Sorts_settle_33 (i := 21) rfl) ?_
                      exact ih_32 (u34_ + 1) (by omega) (by omega) N51_ hb1_N51_ (show 0 ≤ (u34_ + 1) by first | assumption | omega) (show u5_ < (ze N51_ (d_ + 12) 6) by first | assumption | omega) (show zJk T_ (zRw d_ 14 N51_) (ze N51_ (d_ + 12) 6) by first | exact hj3_ | exact hj2_) (show zXk T_ (zRw d_ 14 N51_) (ze N51_ (d_ + 12) 6) u5_ (u34_ + 1) by first | exact hxb_ | exact hxn_) c53_ (by omega)
                    · skip
                      have hno_ := ha78_0_hp0_N51_
                      have hmm_ := ha78_1_hp0_N51_
                      have hwr_ := ha78_2_hp0_N51_
                      obtain ⟨hj3_, hxn_⟩ := zJk_a hj2_ (hroom_ hno_) hr0_ hrm_ hno_ hwr_ hx2_ (by omega) (by omega) hlc_
                      rw [← hmm_] at hj3_ hxn_
                      show zW l m_Sorts_settle (zn Mz + 0, zw Mz + 0) N51_ 81 [some (.ref (d_ + 12)), some (.int (Int32.ofInt u5_)), some (.int (Int32.ofInt u34_))] [] _
                      refine zr_iinc (pc := 81) (i := 2) (a := u34_) (n := 1) (L2 := [some (.ref (d_ + 12)), some (.int (Int32.ofInt u5_)), some (.int (Int32.ofInt (u34_ + 1)))]) rfl (by decide) rfl (zdal_p dlA_Sorts_settle_33 (i := 20) rfl) ?_
                      refine zw_goto (pc := 84) (tgt := 32) (by decide) (zdal_p dlA_Sorts_settle_33 (i := 21) rfl) ?_
                      exact ih_32 (u34_ + 1) (by omega) (by omega) N51_ hb1_N51_ (show 0 ≤ (u34_ + 1) by first | assumption | omega) (show u5_ < (ze N51_ (d_ + 12) 6) by first | assumption | omega) (show zJk T_ (zRw d_ 14 N51_) (ze N51_ (d_ + 12) 6) by first | exact hj3_ | exact hj2_) (show zXk T_ (zRw d_ 14 N51_) (ze N51_ (d_ + 12) 6) u5_ (u34_ + 1) by first | exact hxb_ | exact hxn_) c53_ (by omega)
          exact lp_32 _ 0 (by decide) (by decide) N6_ zFc.rf (show 0 ≤ (0 : Int) by first | assumption | omega) (show u5_ < (ze N6_ (d_ + 12) 6) by first | assumption | omega) (show zJk T_ (zRw d_ 14 N6_) (ze N6_ (d_ + 12) 6) by exact hj_) (show zXk T_ (zRw d_ 14 N6_) (ze N6_ (d_ + 12) 6) u5_ (0 : Int) by exact hx_) i11_ (Nat.lt_succ_self _)
  exact lp_16 _ 0 (by decide) (by decide) N3_ zFc.rf (show 0 ≤ (0 : Int) by first | assumption | omega) (show zJk T_ (zRw d_ 14 N3_) (ze N3_ (d_ + 12) 6) by rw [show ze N3_ (d_ + 12) 6 = 1 by omega]; exact hj0_) (show zXk T_ (zRw d_ 14 N3_) (ze N3_ (d_ + 12) 6) (0 : Int) 0 by rw [show ze N3_ (d_ + 12) 6 = 1 by omega]; exact hx0_) c4_ (Nat.lt_succ_self _)
set_option maxHeartbeats 4000000 in
theorem u_Troupe_settleG (l : Launch) (d_ : Nat) (Mz : zMem) (hW : zKW d_ Mz) (P_ : Nat) (mv_ : List Nat) (hpm_ : ∀ g ∈ mv_, gpm g) (p0_ : zMvK mv_ P_ d_ Mz) (p1_ : zGg mv_ P_ d_ Mz) : zC l m_Troupe_settle 0 0 [.ref (d_ + 0)] Mz (zqcV d_ [] [] [(12, 6), (12, 7), (28, 4)] [5, 7, 9, 11, 14, 16, 20, 22, 25] Mz (fun N => (∃ T : zGT, T ∈ gTabs ∧ zTm mv_ T ∧ zKm (gF T).length (gmkI T) d_ N ∧ ze N (d_ + 1) 7 = gN T ∧ zTt T d_ N ∧ zGc mv_ P_ T d_ N ∧ zFir T d_ N ∧ zSbK T d_ N) ∧ ze N (d_ + 0) 6 = ze Mz (d_ + 0) 6)) := by
  refine zC_of (L0 := [some (.ref (d_ + 0))]) md_Troupe_settle (Nat.le_of_ble_eq_true rfl) rfl ?_ zQ0
  have hf : zFc d_ [] [] [(12, 6), (12, 7), (28, 4)] [5, 7, 9, 11, 14, 16, 20, 22, 25] Mz Mz := zFc.rf
  have r_D0_6 := ze_r Mz (d_ + 0) 6
  have r_D1_7 := ze_r Mz (d_ + 1) 7
  refine zw_aload_n (pc := 0) (n := 0) (x := (d_ + 0)) rfl (zdal_p dlA_Troupe_settle_27 (i := 0) rfl) ?_
  refine zw_getF (pc := 1) f_Troupe_12 rfl ((hf.w hW).kr (o := 0) (by decide)) ((hf.w hW).lr (o := 0) (s := 0) (r := 1) (by decide)) (zdal_p dlA_Troupe_settle_27 (i := 1) rfl) ?_
  refine zk_callV hf.x (pc := 4) [] [] l_Troupe_74 (u_Group_settleG l d_ Mz (hf.w hW) P_ mv_ hpm_ p0_ p1_) rfl rfl ((hf.w hW).kr (o := 1) (by decide)) (by decide) (by decide) (Nat.le_of_ble_eq_true rfl) (zdal_p dlA_Troupe_settle_27 (i := 2) rfl) ?_
  rintro _ N1_ ⟨rfl, hsN1_, hp0_N1_⟩
  replace hp0_N1_ : (∃ T : zGT, zTm mv_ T ∧ zTt T d_ N1_ ∧ zGc mv_ P_ T d_ N1_) := hp0_N1_
  have hf_N1_ : zFc d_ [] [] [(12, 6), (12, 7), (28, 4)] [5, 7, 9, 11, 14, 16, 20, 22, 25] Mz N1_ := hf.tr hsN1_ (by decide) (by decide) (by decide) (by decide)
  have eD0_6_N1_ : ze N1_ (d_ + 0) 6 = ze Mz (d_ + 0) 6 := hsN1_.e (by decide)
  have eD1_7_N1_ : ze N1_ (d_ + 1) 7 = ze Mz (d_ + 1) 7 := hsN1_.e (by decide)
  have c3_ : zMvK mv_ P_ d_ N1_ := zMvK.fr (hf.w hW) hsN1_ p0_ (by decide)
  show zW l m_Troupe_settle (zn Mz + 0, zw Mz + 0) N1_ 7 [some (.ref (d_ + 0))] [] _
  obtain ⟨T_, hm_, htt_, hgc_⟩ := hp0_N1_
  have hT_ : T_ ∈ gTabs := by obtain ⟨c_, hc_⟩ := hm_; exact hc_.1
  obtain ⟨l_, Kp_, hol_⟩ := gTabs_ol T_ hT_
  refine zw_aload_n (pc := 7) (n := 0) (x := (d_ + 0)) rfl (zdal_p dlA_Troupe_settle_27 (i := 3) rfl) ?_
  refine zw_getF (pc := 8) f_Troupe_23 rfl ((hf_N1_.w hW).kr (o := 0) (by decide)) ((hf_N1_.w hW).lr (o := 0) (s := 1) (r := 12) (by decide)) (zdal_p dlA_Troupe_settle_27 (i := 4) rfl) ?_
  refine zk_callV hf_N1_.x (pc := 11) [] [] l_Troupe_77 (u_Sorts_settleG l d_ N1_ (hf_N1_.w hW) T_ hT_ l_ Kp_ hol_ (hm_.as hpm_) (hm_.gr hpm_) htt_) rfl rfl ((hf_N1_.w hW).kr (o := 12) (by decide)) (by decide) (by decide) (Nat.le_of_ble_eq_true rfl) (zdal_p dlA_Troupe_settle_27 (i := 5) rfl) ?_
  rintro _ N4_ ⟨rfl, hsN4_, ⟨hp0_N4_, hp1_N4_, hp2_N4_, hp3_N4_⟩⟩
  have hf_N4_ : zFc d_ [] [] [(12, 6), (12, 7), (28, 4)] [5, 7, 9, 11, 14, 16, 20, 22, 25] Mz N4_ := hf_N1_.tr hsN4_ (by decide) (by decide) (by decide) (by decide)
  have eD0_6_N4_ : ze N4_ (d_ + 0) 6 = ze N1_ (d_ + 0) 6 := hsN4_.e (by decide)
  have eD1_7_N4_ : ze N4_ (d_ + 1) 7 = ze N1_ (d_ + 1) 7 := hsN4_.e (by decide)
  have c6_ : zMvK mv_ P_ d_ N4_ := zMvK.fr (hf_N1_.w hW) hsN4_ c3_ (by decide)
  have c7_ : zTt T_ d_ N4_ := zTt.fr (hf_N1_.w hW) hsN4_ htt_ (by decide)
  have c8_ : zGc mv_ P_ T_ d_ N4_ := zGc.fr (hf_N1_.w hW) hsN4_ hgc_ (by decide)
  show zW l m_Troupe_settle (zn Mz + 0, zw Mz + 0) N4_ 14 [some (.ref (d_ + 0))] [] _
  have hkm_ := hp0_N4_
  have hfi_ := hp2_N4_
  have hsb_ := hp3_N4_
  refine zw_aload_n (pc := 14) (n := 0) (x := (d_ + 0)) rfl (zdal_p dlA_Troupe_settle_27 (i := 6) rfl) ?_
  refine zw_getF (pc := 15) f_Troupe_39 rfl ((hf_N4_.w hW).kr (o := 0) (by decide)) ((hf_N4_.w hW).lr (o := 0) (s := 3) (r := 28) (by decide)) (zdal_p dlA_Troupe_settle_27 (i := 7) rfl) ?_
  refine zk_callV hf_N4_.x (pc := 18) [] [] l_Troupe_78 (u_Units_forget l d_ N4_ (hf_N4_.w hW) ) rfl rfl ((hf_N4_.w hW).kr (o := 28) (by decide)) (by decide) (by decide) (Nat.le_of_ble_eq_true rfl) (zdal_p dlA_Troupe_settle_27 (i := 8) rfl) ?_
  rintro _ N9_ ⟨rfl, hsN9_, -⟩
  have hf_N9_ : zFc d_ [] [] [(12, 6), (12, 7), (28, 4)] [5, 7, 9, 11, 14, 16, 20, 22, 25] Mz N9_ := hf_N4_.tr hsN9_ (by decide) (by decide) (by decide) (by decide)
  have eD0_6_N9_ : ze N9_ (d_ + 0) 6 = ze N4_ (d_ + 0) 6 := hsN9_.e (by decide)
  have eD1_7_N9_ : ze N9_ (d_ + 1) 7 = ze N4_ (d_ + 1) 7 := hsN9_.e (by decide)
  have c11_ : zMvK mv_ P_ d_ N9_ := zMvK.fr (hf_N4_.w hW) hsN9_ c6_ (by decide)
  have c12_ : zTt T_ d_ N9_ := zTt.fr (hf_N4_.w hW) hsN9_ hp1_N4_ (by decide)
  have c13_ : zGc mv_ P_ T_ d_ N9_ := zGc.fr (hf_N4_.w hW) hsN9_ c8_ (by decide)
  have c14_ : zFir T_ d_ N9_ := zFir.fr (hf_N4_.w hW) hsN9_ hfi_ (by decide)
  have c15_ : zSbK T_ d_ N9_ := zSbK.fr (hf_N4_.w hW) hsN9_ hsb_ (by decide)
  have c16_ : zKm (gF T_).length (gmkI T_) d_ N9_ := zKm.fr (hf_N4_.w hW) hsN9_ hkm_ (by decide)
  show zW l m_Troupe_settle (zn Mz + 0, zw Mz + 0) N9_ 21 [some (.ref (d_ + 0))] [] _
  refine zw_aload_n (pc := 21) (n := 0) (x := (d_ + 0)) rfl (zdal_p dlA_Troupe_settle_27 (i := 9) rfl) ?_
  refine zw_getF (pc := 22) f_Troupe_32 rfl ((hf_N9_.w hW).kr (o := 0) (by decide)) ((hf_N9_.w hW).lr (o := 0) (s := 2) (r := 23) (by decide)) (zdal_p dlA_Troupe_settle_27 (i := 10) rfl) ?_
  refine zw_iconst (pc := 25) (v := Int32.ofInt 0) (by decide) (zdal_p dlA_Troupe_settle_27 (i := 11) rfl) ?_
  refine zw_iconst (pc := 26) (v := Int32.ofInt (-1)) (by decide) (zdal_p dlA_Troupe_settle_27 (i := 12) rfl) ?_
  refine zw_lconst (pc := 27) (v := Int64.ofInt 0) (by decide) (zdal_p dlA_Troupe_settle_27 (i := 13) rfl) ?_
  refine zk_callV hf_N9_.x (pc := 28) [.int (Int32.ofInt 0), .int (Int32.ofInt ((-1))), .long (Int64.ofInt 0)] [] l_Troupe_81 (u_Sums_putSingle l d_ N9_ (hf_N9_.w hW) 0 (by decide) (by decide) ((-1)) (by decide) (by decide) 0 (by decide) (by decide) (gF T_).length (gmkI T_) (gT_zTA hT_) c16_ (show 0 ≤ 0 by first | assumption | omega) (show 0 ≤ 39 by first | assumption | omega)) rfl rfl ((hf_N9_.w hW).kr (o := 23) (by decide)) (by decide) (by decide) (Nat.le_of_ble_eq_true rfl) (zdal_p dlA_Troupe_settle_27 (i := 14) rfl) ?_
  rintro _ N17_ ⟨rfl, hsN17_, hp0_N17_⟩
  replace hp0_N17_ : zSh (gF T_).length d_ N9_ N17_ 0 (zone ((-1)) 0) := hp0_N17_
  have hf_N17_ : zFc d_ [] [] [(12, 6), (12, 7), (28, 4)] [5, 7, 9, 11, 14, 16, 20, 22, 25] Mz N17_ := hf_N9_.tr hsN17_ (by decide) (by decide) (by decide) (by decide)
  have eD0_6_N17_ : ze N17_ (d_ + 0) 6 = ze N9_ (d_ + 0) 6 := hsN17_.e (by decide)
  have eD1_7_N17_ : ze N17_ (d_ + 1) 7 = ze N9_ (d_ + 1) 7 := hsN17_.e (by decide)
  have c19_ : zMvK mv_ P_ d_ N17_ := zMvK.fr (hf_N9_.w hW) hsN17_ c11_ (by decide)
  have c20_ : zTt T_ d_ N17_ := zTt.fr (hf_N9_.w hW) hsN17_ c12_ (by decide)
  have c21_ : zGc mv_ P_ T_ d_ N17_ := zGc.fr (hf_N9_.w hW) hsN17_ c13_ (by decide)
  have c22_ : zFir T_ d_ N17_ := zFir.fr (hf_N9_.w hW) hsN17_ c14_ (by decide)
  have c23_ : zSbK T_ d_ N17_ := zSbK.fr (hf_N9_.w hW) hsN17_ c15_ (by decide)
  have c24_ : zKm (gF T_).length (gmkI T_) d_ N17_ := zKm.fr (hf_N9_.w hW) hsN17_ c16_ (by decide)
  show zW l m_Troupe_settle (zn Mz + 0, zw Mz + 0) N17_ 31 [some (.ref (d_ + 0))] [] _
  exact zk_vret (pc := 31) rfl hf_N17_ ⟨(show (∃ T : zGT, T ∈ gTabs ∧ zTm mv_ T ∧ zKm (gF T).length (gmkI T) d_ N17_ ∧ ze N17_ (d_ + 1) 7 = gN T ∧ zTt T d_ N17_ ∧ zGc mv_ P_ T d_ N17_ ∧ zFir T d_ N17_ ∧ zSbK T d_ N17_) by exact ⟨T_, hT_, hm_, c24_, c20_.1, c20_, c21_, c22_, c23_⟩), (show ze N17_ (d_ + 0) 6 = ze Mz (d_ + 0) 6 by first | assumption | omega)⟩ (zdal_p dlA_Troupe_settle_27 (i := 15) rfl)
