set_option maxHeartbeats 4000000 in
theorem u_Calc_negate (l : Launch) (d_ : Nat) (Mz : zMem) (hW : zKW d_ Mz) (F_ : Nat) (K_ : Nat → Nat → Int) (hA_ : zTA F_ K_) (p0_ : zKm F_ K_ d_ Mz) (p1_ : zCI F_ K_ d_ 1 Mz) : zC l m_Calc_negate 0 0 [.ref (d_ + 33)] Mz (zqcV d_ [] [] [(33, 2), (33, 4)] [25] Mz (fun N => zCI F_ K_ d_ 1 N ∧ zkS d_ N = (zng (zkS d_ Mz) (zkW F_ d_ Mz)).1 ∧ zkW F_ d_ N = (zng (zkS d_ Mz) (zkW F_ d_ Mz)).2 ∧ zkG d_ N = zkG d_ Mz ∧ zLow d_ Mz N ∧ (zkS d_ N).head? ≠ some 1)) := by
  refine zC_of (L0 := [some (.ref (d_ + 33))]) md_Calc_negate (Nat.le_of_ble_eq_true rfl) rfl ?_ zQ0
  have hf : zFc d_ [] [] [(33, 2), (33, 4)] [25] Mz Mz := zFc.rf
  have r_D33_2 := ze_r Mz (d_ + 33) 2
  have r_D33_3 := ze_r Mz (d_ + 33) 3
  have r_D33_4 := ze_r Mz (d_ + 33) 4
  have r_D33_5 := ze_r Mz (d_ + 33) 5
  have r_D33_6 := ze_r Mz (d_ + 33) 6
  obtain ⟨⟨hF1_, hF27_⟩, hAr_⟩ := id hA_
  obtain ⟨hFc_, hKt_⟩ := id p0_
  have lp_0 : ∀ (n : Nat) (N1_ : zMem) (hs2_ : zFc d_ [] [] [(33, 2), (33, 4)] [25] Mz N1_) (i3_ : zCI F_ K_ d_ 1 N1_) (i4_ : zng (zkS d_ Mz) (zkW F_ d_ Mz) = zng (zkS d_ N1_) (zkW F_ d_ N1_)) (i5_ : zkG d_ N1_ = zkG d_ Mz) (i6_ : zLow d_ Mz N1_), (ze N1_ (d_ + 33) 2).toNat < n → zW l m_Calc_negate (zn Mz + 0, zw Mz + 0) N1_ 0 [some (.ref (d_ + 33))] [] (zqcV d_ [] [] [(33, 2), (33, 4)] [25] Mz (fun N => zCI F_ K_ d_ 1 N ∧ zkS d_ N = (zng (zkS d_ Mz) (zkW F_ d_ Mz)).1 ∧ zkW F_ d_ N = (zng (zkS d_ Mz) (zkW F_ d_ Mz)).2 ∧ zkG d_ N = zkG d_ Mz ∧ zLow d_ Mz N ∧ (zkS d_ N).head? ≠ some 1)) := by
    intro n
    induction n with
    | zero =>
      intro N1_ hs2_ i3_ i4_ i5_ i6_ h0
      exact absurd h0 (Nat.not_lt_zero _)
    | succ n ih_0 =>
      intro N1_ hs2_ i3_ i4_ i5_ i6_ hlt_0
      have hf_N1_ : zFc d_ [] [] [(33, 2), (33, 4)] [25] Mz N1_ := hf.tr hs2_ (by decide) (by decide) (by decide) (by decide)
      have rD33_2_N1_ := ze_r N1_ (d_ + 33) 2
      have eD33_3_N1_ : ze N1_ (d_ + 33) 3 = ze Mz (d_ + 33) 3 := hs2_.e (by decide)
      have rD33_4_N1_ := ze_r N1_ (d_ + 33) 4
      have eD33_5_N1_ : ze N1_ (d_ + 33) 5 = ze Mz (d_ + 33) 5 := hs2_.e (by decide)
      have eD33_6_N1_ : ze N1_ (d_ + 33) 6 = ze Mz (d_ + 33) 6 := hs2_.e (by decide)
      have c7_ : zKm F_ K_ d_ N1_ := zKm.fr (hf.w hW) hs2_ p0_ (by decide)
      have hci_ := i3_
      have hb_ := hci_.b
      have hz0_ := zop0_le (zkS d_ N1_)
      obtain ⟨q1_, q2_, q3_, q4_, q5_, -, q7_, q8_, q9_⟩ := id hci_
      refine zw_aload_n (pc := 0) (n := 0) (x := (d_ + 33)) rfl (zdal_p dlA_Calc_negate_148 (i := 0) rfl) ?_
      refine zk_getI (pc := 1) f_Calc_24 rfl ((hf_N1_.w hW).kr (o := 33) (by decide)) (zdal_p dlA_Calc_negate_148 (i := 1) rfl) ?_
      refine zr_if_le (pc := 4) (tgt := 50) ⟨(ze_r N1_ (d_ + 33) 2).1, (ze_r N1_ (d_ + 33) 2).2⟩ (by decide) (zdal_p dlA_Calc_negate_148 (i := 2) rfl) (fun hc_4 => ?_) (fun hc_4 => ?_)
      · skip
        have hh_ : (zkS d_ N1_).head? ≠ some 1 := by first | (rw [zkS_0 (by (exact hc_4))]; intro h_; cases h_) | (rw [zkS_h (by omega) ht_]; intro h_; injection h_ with h_; exact zsgn_n1 (by rw [ht_]; exact q2_ _ (by omega)) (by assumption) h_)
        have he_ := zng_e hh_ (zkW F_ d_ N1_)
        rw [← (show zng (zkS d_ Mz) (zkW F_ d_ Mz) = zng (zkS d_ N1_) (zkW F_ d_ N1_) by assumption)] at he_
        exact zk_vret (pc := 50) rfl hf_N1_ ⟨i3_, (show zkS d_ N1_ = (zng (zkS d_ Mz) (zkW F_ d_ Mz)).1 by rw [he_]), (show zkW F_ d_ N1_ = (zng (zkS d_ Mz) (zkW F_ d_ Mz)).2 by rw [he_]), (show zkG d_ N1_ = zkG d_ Mz by first | assumption | omega), (show zLow d_ Mz N1_ by first | assumption | omega), (show (zkS d_ N1_).head? ≠ some 1 by exact hh_)⟩ (zdal_p dlA_Calc_negate_149 (i := 1) rfl)
      · skip
        refine zw_aload_n (pc := 7) (n := 0) (x := (d_ + 33)) rfl (zdal_p dlA_Calc_negate_148 (i := 3) rfl) ?_
        refine zk_callV hf_N1_.x (pc := 8) [] [] l_Calc_89 (u_Calc_topSign l d_ N1_ (hf_N1_.w hW) (show 1 ≤ ze N1_ (d_ + 33) 2 by first | assumption | omega) (show ze N1_ (d_ + 33) 2 ≤ 24 by first | assumption | (exact zo_0 q1_.2))) rfl rfl ((hf_N1_.w hW).kr (o := 33) (by decide)) (by decide) (by decide) (Nat.le_of_ble_eq_true rfl) (zdal_p dlA_Calc_negate_148 (i := 4) rfl) ?_
        rintro _ N8_ ⟨v9_, rfl, ⟨hv9_a, hv9_b⟩, hsN8_, hp0_N8_⟩
        obtain rfl := hsN8_.eq.symm
        replace hp0_N8_ : v9_ = ze N1_ (d_ + 35) (ze N1_ (d_ + 33) 2 - 1).toNat := hp0_N8_
        show zW l m_Calc_negate (zn Mz + 0, zw Mz + 0) N1_ 11 [some (.ref (d_ + 33))] [.int (Int32.ofInt v9_)] _
        have ht_ := hp0_N8_
        refine zw_bipush (pc := 11) (v := Int32.ofInt 126) (by decide) (zdal_p dlA_Calc_negate_148 (i := 5) rfl) ?_
        refine zr_icmp_ne (pc := 13) (tgt := 50) ⟨hv9_a, hv9_b⟩ ⟨(by decide), (by decide)⟩ (by decide) (zdal_p dlA_Calc_negate_148 (i := 6) rfl) (fun hc_13 => ?_) (fun hc_13 => ?_)
        · skip
          have hh_ : (zkS d_ N1_).head? ≠ some 1 := by first | (rw [zkS_0 (by omega)]; intro h_; cases h_) | (rw [zkS_h (by (exact zo_1 hc_4)) ht_]; intro h_; injection h_ with h_; exact zsgn_n1 (by rw [ht_]; exact q2_ _ (by (exact zo_2 hc_4))) (by assumption) h_)
          have he_ := zng_e hh_ (zkW F_ d_ N1_)
          rw [← (show zng (zkS d_ Mz) (zkW F_ d_ Mz) = zng (zkS d_ N1_) (zkW F_ d_ N1_) by assumption)] at he_
          exact zk_vret (pc := 50) rfl hf_N1_ ⟨i3_, (show zkS d_ N1_ = (zng (zkS d_ Mz) (zkW F_ d_ Mz)).1 by rw [he_]), (show zkW F_ d_ N1_ = (zng (zkS d_ Mz) (zkW F_ d_ Mz)).2 by rw [he_]), (show zkG d_ N1_ = zkG d_ Mz by first | assumption | omega), (show zLow d_ Mz N1_ by first | assumption | omega), (show (zkS d_ N1_).head? ≠ some 1 by exact hh_)⟩ (zdal_p dlA_Calc_negate_149 (i := 1) rfl)
        · skip
          refine zw_aload_n (pc := 16) (n := 0) (x := (d_ + 33)) rfl (zdal_p dlA_Calc_negate_148 (i := 7) rfl) ?_
          refine zw_dup (pc := 17) rfl (zdal_p dlA_Calc_negate_148 (i := 8) rfl) ?_
          refine zk_getI (pc := 18) f_Calc_24 rfl ((hf_N1_.w hW).kr (o := 33) (by decide)) (zdal_p dlA_Calc_negate_148 (i := 9) rfl) ?_
          refine zw_iconst (pc := 21) (v := Int32.ofInt 1) (by decide) (zdal_p dlA_Calc_negate_148 (i := 10) rfl) ?_
          refine zr_isub (pc := 22) (zdal_p dlA_Calc_negate_148 (i := 11) rfl) ?_
          refine zk_putR (pc := 23) (o := 33) (by decide) f_Calc_24 rfl rfl ((hf_N1_.w hW).kr (o := 33) (by decide)) ⟨by (exact zo_3 hc_4), by (exact zo_4 q1_.2)⟩ rfl rfl (zdal_p dlA_Calc_negate_148 (i := 12) rfl) (fun N10_ hsN10_ hvN10_ => ?_)
          have hf_N10_ : zFc d_ [] [] [(33, 2), (33, 4)] [25] Mz N10_ := hf_N1_.tr hsN10_ (by decide) (by decide) (by decide) (by decide)
          have hb0_N10_ : zFc d_ [] [] [(33, 2), (33, 4)] [25] Mz N10_ := hs2_.tr hsN10_ (by decide) (by decide) (by decide) (by decide)
          have rD33_2_N10_ := ze_r N10_ (d_ + 33) 2
          have eD33_3_N10_ : ze N10_ (d_ + 33) 3 = ze N1_ (d_ + 33) 3 := hsN10_.e (by decide)
          have eD33_4_N10_ : ze N10_ (d_ + 33) 4 = ze N1_ (d_ + 33) 4 := hsN10_.e (by decide)
          have eD33_5_N10_ : ze N10_ (d_ + 33) 5 = ze N1_ (d_ + 33) 5 := hsN10_.e (by decide)
          have eD33_6_N10_ : ze N10_ (d_ + 33) 6 = ze N1_ (d_ + 33) 6 := hsN10_.e (by decide)
          have c11_ : zKm F_ K_ d_ N10_ := zKm.fr (hf_N1_.w hW) hsN10_ c7_ (by decide)
          refine zw_aload_n (pc := 26) (n := 0) (x := (d_ + 33)) rfl (zdal_p dlA_Calc_negate_148 (i := 13) rfl) ?_
          refine zw_dup (pc := 27) rfl (zdal_p dlA_Calc_negate_148 (i := 14) rfl) ?_
          refine zk_getI (pc := 28) f_Calc_31 rfl ((hf_N10_.w hW).kr (o := 33) (by decide)) (zdal_p dlA_Calc_negate_148 (i := 15) rfl) ?_
          refine zw_iconst (pc := 31) (v := Int32.ofInt 1) (by decide) (zdal_p dlA_Calc_negate_148 (i := 16) rfl) ?_
          refine zr_isub (pc := 32) (zdal_p dlA_Calc_negate_148 (i := 17) rfl) ?_
          refine zk_putR (pc := 33) (o := 33) (by decide) f_Calc_31 rfl rfl ((hf_N10_.w hW).kr (o := 33) (by decide)) ⟨by (exact zo_5 eD33_4_N10_ q3_ rD33_4_N1_.1), by (exact zo_6 eD33_4_N10_ rD33_4_N1_.2)⟩ rfl rfl (zdal_p dlA_Calc_negate_148 (i := 18) rfl) (fun N12_ hsN12_ hvN12_ => ?_)
          have hf_N12_ : zFc d_ [] [] [(33, 2), (33, 4)] [25] Mz N12_ := hf_N10_.tr hsN12_ (by decide) (by decide) (by decide) (by decide)
          have hb0_N12_ : zFc d_ [] [] [(33, 2), (33, 4)] [25] Mz N12_ := hb0_N10_.tr hsN12_ (by decide) (by decide) (by decide) (by decide)
          have eD33_2_N12_ : ze N12_ (d_ + 33) 2 = ze N10_ (d_ + 33) 2 := hsN12_.e (by decide)
          have eD33_3_N12_ : ze N12_ (d_ + 33) 3 = ze N10_ (d_ + 33) 3 := hsN12_.e (by decide)
          have rD33_4_N12_ := ze_r N12_ (d_ + 33) 4
          have eD33_5_N12_ : ze N12_ (d_ + 33) 5 = ze N10_ (d_ + 33) 5 := hsN12_.e (by decide)
          have eD33_6_N12_ : ze N12_ (d_ + 33) 6 = ze N10_ (d_ + 33) 6 := hsN12_.e (by decide)
          have c13_ : zKm F_ K_ d_ N12_ := zKm.fr (hf_N10_.w hW) hsN12_ c11_ (by decide)
          have hv2_ : ∀ t : Int, zvc F_ d_ N12_ t = zvc F_ d_ N1_ t := fun t => (zvc_f hsN12_ (by decide) t).trans (zvc_f hsN10_ (by decide) t)
          have hx_ := q9_ (20 + ze N1_ (d_ + 33) 3) (by (exact zo_7 q5_)) (by (exact zo_8))
          refine zw_aload_n (pc := 36) (n := 0) (x := (d_ + 33)) rfl (zdal_p dlA_Calc_negate_148 (i := 19) rfl) ?_
          refine zw_getF (pc := 37) f_Calc_20 rfl ((hf_N12_.w hW).kr (o := 33) (by decide)) ((hf_N12_.w hW).lr (o := 33) (s := 0) (r := 23) (by decide)) (zdal_p dlA_Calc_negate_148 (i := 20) rfl) ?_
          refine zw_aload_n (pc := 40) (n := 0) (x := (d_ + 33)) rfl (zdal_p dlA_Calc_negate_148 (i := 21) rfl) ?_
          refine zk_callV hf_N12_.x (pc := 41) [] [.ref (d_ + 23)] l_Calc_43 (u_Calc_topShelf l d_ N12_ (hf_N12_.w hW) (show 0 ≤ ze N12_ (d_ + 33) 3 by first | assumption | (exact zo_9 eD33_3_N10_ eD33_3_N12_ q5_)) (show ze N12_ (d_ + 33) 3 ≤ 18 by first | assumption | (exact zo_10 eD33_3_N10_ eD33_3_N12_ hb_.2.1 hb_.2.2.1 hb_.2.2.2 q5_))) rfl rfl ((hf_N12_.w hW).kr (o := 33) (by decide)) (by decide) (by decide) (Nat.le_of_ble_eq_true rfl) (zdal_p dlA_Calc_negate_148 (i := 22) rfl) ?_
          rintro _ N14_ ⟨v15_, rfl, ⟨hv15_a, hv15_b⟩, hsN14_, hp0_N14_⟩
          obtain rfl := hsN14_.eq.symm
          replace hp0_N14_ : v15_ = 20 + ze N12_ (d_ + 33) 3 := hp0_N14_
          show zW l m_Calc_negate (zn Mz + 0, zw Mz + 0) N12_ 44 [some (.ref (d_ + 33))] [.int (Int32.ofInt v15_), .ref (d_ + 23)] _
          refine zr_toI (show v15_ = (20 + ze N1_ (d_ + 33) 3) by (exact zo_11 eD33_3_N10_ eD33_3_N12_ hp0_N14_ hv15_b q5_)) ?_
          refine zk_callV hf_N12_.x (pc := 44) [.int (Int32.ofInt ((20 + ze N1_ (d_ + 33) 3)))] [] l_Calc_92 (u_Sums_putNegative l d_ N12_ (hf_N12_.w hW) ((20 + ze N1_ (d_ + 33) 3)) (by (exact zo_12 q5_)) (by (exact zo_13 eD33_3_N1_ hb_.2.2.1 hb_.2.2.2 q5_ r_D33_3.2)) F_ K_ hA_ c13_ (show 0 ≤ ((20 + ze N1_ (d_ + 33) 3)) by first | assumption | (exact zo_14 q5_)) (show ((20 + ze N1_ (d_ + 33) 3)) ≤ 39 by first | assumption | (exact zo_15 hb_.2.1 hb_.2.2.1 hb_.2.2.2 q5_)) (show zfit F_ K_ (zvc F_ d_ N12_ ((20 + ze N1_ (d_ + 33) 3))) by rw [hv2_]; exact hx_)) rfl rfl ((hf_N12_.w hW).kr (o := 23) (by decide)) (by decide) (by decide) (Nat.le_of_ble_eq_true rfl) (zdal_p dlA_Calc_negate_148 (i := 23) rfl) ?_
          rintro _ N16_ ⟨rfl, hsN16_, hp0_N16_⟩
          replace hp0_N16_ : zSh F_ d_ N12_ N16_ ((20 + ze N1_ (d_ + 33) 3)) (fun k => -(zvc F_ d_ N12_ ((20 + ze N1_ (d_ + 33) 3))) k) := hp0_N16_
          have hf_N16_ : zFc d_ [] [] [(33, 2), (33, 4)] [25] Mz N16_ := hf_N12_.tr hsN16_ (by decide) (by decide) (by decide) (by decide)
          have hb0_N16_ : zFc d_ [] [] [(33, 2), (33, 4)] [25] Mz N16_ := hb0_N12_.tr hsN16_ (by decide) (by decide) (by decide) (by decide)
          have eD33_2_N16_ : ze N16_ (d_ + 33) 2 = ze N12_ (d_ + 33) 2 := hsN16_.e (by decide)
          have eD33_3_N16_ : ze N16_ (d_ + 33) 3 = ze N12_ (d_ + 33) 3 := hsN16_.e (by decide)
          have eD33_4_N16_ : ze N16_ (d_ + 33) 4 = ze N12_ (d_ + 33) 4 := hsN16_.e (by decide)
          have eD33_5_N16_ : ze N16_ (d_ + 33) 5 = ze N12_ (d_ + 33) 5 := hsN16_.e (by decide)
          have eD33_6_N16_ : ze N16_ (d_ + 33) 6 = ze N12_ (d_ + 33) 6 := hsN16_.e (by decide)
          have c18_ : zKm F_ K_ d_ N16_ := zKm.fr (hf_N12_.w hW) hsN16_ c13_ (by decide)
          show zW l m_Calc_negate (zn Mz + 0, zw Mz + 0) N16_ 47 [some (.ref (d_ + 33))] [] _
          have hs_ := hp0_N16_
          have hu_ : zvc F_ d_ N16_ (20 + ze N1_ (d_ + 33) 3) = fun k => -zvc F_ d_ N1_ (20 + ze N1_ (d_ + 33) 3) k := by rw [zSh_n (by (exact zo_14 q5_)) hs_, zneg_n, hv2_]
          have ho_ : ∀ t : Int, 0 ≤ t → t ≠ (20 + ze N1_ (d_ + 33) 3) → zvc F_ d_ N16_ t = zvc F_ d_ N1_ t := fun t t0 t1 => (zSh_o hF27_ (by (exact zo_14 q5_)) t0 (Ne.symm t1) hs_).trans (hv2_ t)
          have hfv_ : ∀ t : Int, 21 ≤ t → t < 21 + ze N1_ (d_ + 33) 3 → zfit F_ K_ (zvc F_ d_ N16_ t) := fun t t0 t1 => by by_cases g_ : t = (20 + ze N1_ (d_ + 33) 3); (rw [g_, hu_]; exact zneg_fit hx_); (rw [ho_ t (by (exact zo_16 t0)) g_]; exact q9_ t t0 t1)
          obtain ⟨r1_, r2_, r3_⟩ := zCI_pop (F := F_) (c := 126) (Nz := N16_) hci_ (by (exact zo_1 hc_4)) (by (exact zo_17 hc_13 hp0_N8_)) (Or.inr rfl) (by (exact zo_18 eD33_2_N12_ eD33_2_N16_ hc_4 hvN10_ rD33_2_N10_.2)) (fun i => (hsN16_.r (by decide) i).trans ((hsN12_.r (by decide) i).trans (hsN10_.r (by decide) i))) (by (exact zo_19 eD33_3_N10_ eD33_3_N12_ eD33_3_N16_)) (by (exact zo_20 eD33_4_N10_ eD33_4_N16_ hvN12_ q3_ rD33_4_N12_.2)) (by rw [if_neg (by decide)]; (exact zo_21 eD33_5_N10_ eD33_5_N12_ eD33_5_N16_)) (by (exact zo_19 eD33_6_N10_ eD33_6_N12_ eD33_6_N16_)) hfv_
          have hn_ := zng_st r2_ r3_ (by (exact zo_22 q5_)) (by (exact zo_19 eD33_3_N10_ eD33_3_N12_ eD33_3_N16_)) hu_ (fun t t0 t1 => ho_ t (by (exact zo_16 t0)) (by (exact zo_23 t1)))
          have hlw_ := (zLow.f hsN10_ (by decide)).tr ((zLow.f hsN12_ (by decide)).tr (zLow.sh hs_ (by (exact zo_7 q5_))))
          refine zw_goto (pc := 47) (tgt := 0) (by decide) (zdal_p dlA_Calc_negate_149 (i := 0) rfl) ?_
          exact ih_0 N16_ hb0_N16_ r1_ (show zng (zkS d_ Mz) (zkW F_ d_ Mz) = zng (zkS d_ N16_) (zkW F_ d_ N16_) by exact (show zng (zkS d_ Mz) (zkW F_ d_ Mz) = zng (zkS d_ N1_) (zkW F_ d_ N1_) by assumption).trans hn_) (show zkG d_ N16_ = zkG d_ Mz by exact r3_.trans (by assumption)) (show zLow d_ Mz N16_ by exact zLow.tr (by assumption) hlw_) (by (exact zo_24 eD33_2_N12_ eD33_2_N16_ hc_4 hlt_0 hvN10_ q1_.2))
  exact lp_0 _ Mz zFc.rf p1_ (show zng (zkS d_ Mz) (zkW F_ d_ Mz) = zng (zkS d_ Mz) (zkW F_ d_ Mz) by rfl) (show zkG d_ Mz = zkG d_ Mz by rfl) (show zLow d_ Mz Mz by exact zLow.rf) (Nat.lt_succ_self _)
set_option maxHeartbeats 20000000 in
theorem u_Calc_reckon (l : Launch) (d_ : Nat) (Mz : zMem) (hW : zKW d_ Mz) (a0_ : Int) (ha0_a : -2147483648 ≤ a0_) (ha0_b : a0_ < 2147483648) (ha0_z : a0_ = 0 ∨ a0_ = 1) (F_ : Nat) (K_ : Nat → Nat → Int) (hA_ : zTA F_ K_) (p0_ : zKm F_ K_ d_ Mz) (p1_ : zCI F_ K_ d_ 1 Mz) (p2_ : (zkS d_ Mz).head? ≠ some 1) : zC l m_Calc_reckon 0 0 [.ref (d_ + 33), .int (Int32.ofInt a0_)] Mz (zqcV d_ [] [] [(33, 2), (33, 3), (33, 6)] [25, 27] Mz (fun N => zCI F_ K_ d_ 1 N ∧ (zkS d_ N, zkW F_ d_ N, zkG d_ N) = zrk F_ K_ (if a0_ = 0 then 2 else 4 : Nat) (zkS d_ Mz).length (zkS d_ Mz, zkW F_ d_ Mz, zkG d_ Mz) ∧ zLow d_ Mz N ∧ (zkS d_ N).head? ≠ some 1 ∧ (∀ y, (zkS d_ N).head? = some y → y < (if a0_ = 0 then 2 else 4 : Nat)))) := by
  refine zC_of (L0 := [some (.ref (d_ + 33)), some (.int (Int32.ofInt a0_)), none, none, none]) md_Calc_reckon (Nat.le_of_ble_eq_true rfl) rfl ?_ zQ0
  have hf : zFc d_ [] [] [(33, 2), (33, 3), (33, 6)] [25, 27] Mz Mz := zFc.rf
  have r_D33_2 := ze_r Mz (d_ + 33) 2
  have r_D33_3 := ze_r Mz (d_ + 33) 3
  have r_D33_4 := ze_r Mz (d_ + 33) 4
  have r_D33_5 := ze_r Mz (d_ + 33) 5
  have r_D33_6 := ze_r Mz (d_ + 33) 6
  obtain ⟨⟨hF1_, hF27_⟩, hAr_⟩ := id hA_
  obtain ⟨hFc_, hKt_⟩ := id p0_
  have lp_0 : ∀ (n : Nat) (N1_ : zMem) (hs2_ : zFc d_ [] [] [(33, 2), (33, 3), (33, 6)] [25, 27] Mz N1_) (i3_ : zCI F_ K_ d_ 1 N1_) (i4_ : (zkS d_ N1_).head? ≠ some 1) (i5_ : zrk F_ K_ (if a0_ = 0 then 2 else 4 : Nat) (zkS d_ Mz).length (zkS d_ Mz, zkW F_ d_ Mz, zkG d_ Mz) = zrk F_ K_ (if a0_ = 0 then 2 else 4 : Nat) (zkS d_ N1_).length (zkS d_ N1_, zkW F_ d_ N1_, zkG d_ N1_)) (i6_ : zLow d_ Mz N1_), (ze N1_ (d_ + 33) 2).toNat < n → zW l m_Calc_reckon (zn Mz + 0, zw Mz + 0) N1_ 0 [some (.ref (d_ + 33)), some (.int (Int32.ofInt a0_)), none, none, none] [] (zqcV d_ [] [] [(33, 2), (33, 3), (33, 6)] [25, 27] Mz (fun N => zCI F_ K_ d_ 1 N ∧ (zkS d_ N, zkW F_ d_ N, zkG d_ N) = zrk F_ K_ (if a0_ = 0 then 2 else 4 : Nat) (zkS d_ Mz).length (zkS d_ Mz, zkW F_ d_ Mz, zkG d_ Mz) ∧ zLow d_ Mz N ∧ (zkS d_ N).head? ≠ some 1 ∧ (∀ y, (zkS d_ N).head? = some y → y < (if a0_ = 0 then 2 else 4 : Nat)))) := by
    intro n
    induction n with
    | zero =>
      intro N1_ hs2_ i3_ i4_ i5_ i6_ h0
      exact absurd h0 (Nat.not_lt_zero _)
    | succ n ih_0 =>
      intro N1_ hs2_ i3_ i4_ i5_ i6_ hlt_0
      have hf_N1_ : zFc d_ [] [] [(33, 2), (33, 3), (33, 6)] [25, 27] Mz N1_ := hf.tr hs2_ (by decide) (by decide) (by decide) (by decide)
      have rD33_2_N1_ := ze_r N1_ (d_ + 33) 2
      have rD33_3_N1_ := ze_r N1_ (d_ + 33) 3
      have eD33_4_N1_ : ze N1_ (d_ + 33) 4 = ze Mz (d_ + 33) 4 := hs2_.e (by decide)
      have eD33_5_N1_ : ze N1_ (d_ + 33) 5 = ze Mz (d_ + 33) 5 := hs2_.e (by decide)
      have rD33_6_N1_ := ze_r N1_ (d_ + 33) 6
      have c7_ : zKm F_ K_ d_ N1_ := zKm.fr (hf.w hW) hs2_ p0_ (by decide)
      have hci_ := i3_
      have hb_ := hci_.b
      have hz0_ := zop0_le (zkS d_ N1_)
      obtain ⟨q1_, q2_, q3_, q4_, q5_, -, q7_, q8_, q9_⟩ := id hci_
      have hd_ := (show (zkS d_ N1_).head? ≠ some 1 by assumption)
      refine zw_aload_n (pc := 0) (n := 0) (x := (d_ + 33)) rfl (zdal_p dlA_Calc_reckon_153 (i := 0) rfl) ?_
      refine zk_getI (pc := 1) f_Calc_24 rfl ((hf_N1_.w hW).kr (o := 33) (by decide)) (zdal_p dlA_Calc_reckon_153 (i := 1) rfl) ?_
      refine zr_if_le (pc := 4) (tgt := 147) ⟨(ze_r N1_ (d_ + 33) 2).1, (ze_r N1_ (d_ + 33) 2).2⟩ (by decide) (zdal_p dlA_Calc_reckon_153 (i := 2) rfl) (fun hc_4 => ?_) (fun hc_4 => ?_)
      · skip
        have hx_ : (∀ y, (zkS d_ N1_).head? = some y → y < (if a0_ = 0 then 2 else 4 : Nat)) := by first | (intro y_ hy_; rw [zkS_0 (d := d_) (Mz := N1_) (by assumption)] at hy_; cases hy_) | (have hv1_ : ze N1_ (d_ + 33) 3 ≤ 1 := (by assumption); intro y_ hy_; have h_ := zbn_h (show zbn (zkS d_ N1_) = 0 by omega) hy_; split <;> omega) | (intro y_ hy_; rw [zkS_h (d := d_) (Mz := N1_) (by omega) ht_, hc_21] at hy_; injection hy_ with hy_; rw [← hy_]; split <;> decide) | (intro y_ hy_; rw [zkS_h (d := d_) (Mz := N1_) (by omega) htb_] at hy_; injection hy_ with hy_; rw [if_neg (by assumption), ← hy_]; exact zsgn_l4 (by rw [htb_]; exact q2_ _ (by omega)) (by assumption))
        have he_ := zrk_e (F := F_) (K := K_) (x := (if a0_ = 0 then 2 else 4 : Nat)) (t := (zkS d_ N1_, zkW F_ d_ N1_, zkG d_ N1_)) hx_ (zkS d_ N1_).length
        rw [← (show zrk F_ K_ (if a0_ = 0 then 2 else 4 : Nat) (zkS d_ Mz).length (zkS d_ Mz, zkW F_ d_ Mz, zkG d_ Mz) = zrk F_ K_ (if a0_ = 0 then 2 else 4 : Nat) (zkS d_ N1_).length (zkS d_ N1_, zkW F_ d_ N1_, zkG d_ N1_) by assumption)] at he_
        exact zk_vret (pc := 147) rfl hf_N1_ ⟨i3_, (show (zkS d_ N1_, zkW F_ d_ N1_, zkG d_ N1_) = zrk F_ K_ (if a0_ = 0 then 2 else 4 : Nat) (zkS d_ Mz).length (zkS d_ Mz, zkW F_ d_ Mz, zkG d_ Mz) by exact he_.symm), (show zLow d_ Mz N1_ by first | assumption | omega), (show (zkS d_ N1_).head? ≠ some 1 by first | assumption | omega), (show (∀ y, (zkS d_ N1_).head? = some y → y < (if a0_ = 0 then 2 else 4 : Nat)) by exact hx_)⟩ d_Calc_reckon_147
      · skip
        refine zw_aload_n (pc := 7) (n := 0) (x := (d_ + 33)) rfl (zdal_p dlA_Calc_reckon_153 (i := 3) rfl) ?_
        refine zk_getI (pc := 8) f_Calc_28 rfl ((hf_N1_.w hW).kr (o := 33) (by decide)) (zdal_p dlA_Calc_reckon_153 (i := 4) rfl) ?_
        refine zw_iconst (pc := 11) (v := Int32.ofInt 1) (by decide) (zdal_p dlA_Calc_reckon_153 (i := 5) rfl) ?_
        refine zr_icmp_le (pc := 12) (tgt := 147) ⟨(ze_r N1_ (d_ + 33) 3).1, (ze_r N1_ (d_ + 33) 3).2⟩ ⟨(by decide), (by decide)⟩ (by decide) (zdal_p dlA_Calc_reckon_153 (i := 6) rfl) (fun hc_12 => ?_) (fun hc_12 => ?_)
        · skip
          have hx_ : (∀ y, (zkS d_ N1_).head? = some y → y < (if a0_ = 0 then 2 else 4 : Nat)) := by first | (intro y_ hy_; rw [zkS_0 (d := d_) (Mz := N1_) (by assumption)] at hy_; cases hy_) | (have hv1_ : ze N1_ (d_ + 33) 3 ≤ 1 := (by assumption); intro y_ hy_; have h_ := zbn_h (show zbn (zkS d_ N1_) = 0 by (exact zo_25 hc_12 q5_)) hy_; split <;> omega) | (intro y_ hy_; rw [zkS_h (d := d_) (Mz := N1_) (by omega) ht_, hc_21] at hy_; injection hy_ with hy_; rw [← hy_]; split <;> decide) | (intro y_ hy_; rw [zkS_h (d := d_) (Mz := N1_) (by omega) htb_] at hy_; injection hy_ with hy_; rw [if_neg (by assumption), ← hy_]; exact zsgn_l4 (by rw [htb_]; exact q2_ _ (by omega)) (by assumption))
          have he_ := zrk_e (F := F_) (K := K_) (x := (if a0_ = 0 then 2 else 4 : Nat)) (t := (zkS d_ N1_, zkW F_ d_ N1_, zkG d_ N1_)) hx_ (zkS d_ N1_).length
          rw [← (show zrk F_ K_ (if a0_ = 0 then 2 else 4 : Nat) (zkS d_ Mz).length (zkS d_ Mz, zkW F_ d_ Mz, zkG d_ Mz) = zrk F_ K_ (if a0_ = 0 then 2 else 4 : Nat) (zkS d_ N1_).length (zkS d_ N1_, zkW F_ d_ N1_, zkG d_ N1_) by assumption)] at he_
          exact zk_vret (pc := 147) rfl hf_N1_ ⟨i3_, (show (zkS d_ N1_, zkW F_ d_ N1_, zkG d_ N1_) = zrk F_ K_ (if a0_ = 0 then 2 else 4 : Nat) (zkS d_ Mz).length (zkS d_ Mz, zkW F_ d_ Mz, zkG d_ Mz) by exact he_.symm), (show zLow d_ Mz N1_ by first | assumption | omega), (show (zkS d_ N1_).head? ≠ some 1 by first | assumption | omega), (show (∀ y, (zkS d_ N1_).head? = some y → y < (if a0_ = 0 then 2 else 4 : Nat)) by exact hx_)⟩ d_Calc_reckon_147
        · skip
          refine zw_aload_n (pc := 15) (n := 0) (x := (d_ + 33)) rfl (zdal_p dlA_Calc_reckon_153 (i := 7) rfl) ?_
          refine zk_callV hf_N1_.x (pc := 16) [] [] l_Calc_89 (u_Calc_topSign l d_ N1_ (hf_N1_.w hW) (show 1 ≤ ze N1_ (d_ + 33) 2 by first | assumption | omega) (show ze N1_ (d_ + 33) 2 ≤ 24 by first | assumption | (exact zo_0 q1_.2))) rfl rfl ((hf_N1_.w hW).kr (o := 33) (by decide)) (by decide) (by decide) (Nat.le_of_ble_eq_true rfl) (zdal_p dlA_Calc_reckon_153 (i := 8) rfl) ?_
          rintro _ N8_ ⟨v9_, rfl, ⟨hv9_a, hv9_b⟩, hsN8_, hp0_N8_⟩
          obtain rfl := hsN8_.eq.symm
          replace hp0_N8_ : v9_ = ze N1_ (d_ + 35) (ze N1_ (d_ + 33) 2 - 1).toNat := hp0_N8_
          show zW l m_Calc_reckon (zn Mz + 0, zw Mz + 0) N1_ 19 [some (.ref (d_ + 33)), some (.int (Int32.ofInt a0_)), none, none, none] [.int (Int32.ofInt v9_)] _
          have ht_ := hp0_N8_
          refine zw_bipush (pc := 19) (v := Int32.ofInt 40) (by decide) (zdal_p dlA_Calc_reckon_153 (i := 9) rfl) ?_
          refine zr_icmp_eq (pc := 21) (tgt := 147) ⟨hv9_a, hv9_b⟩ ⟨(by decide), (by decide)⟩ (by decide) (zdal_p dlA_Calc_reckon_153 (i := 10) rfl) (fun hc_21 => ?_) (fun hc_21 => ?_)
          · skip
            have hx_ : (∀ y, (zkS d_ N1_).head? = some y → y < (if a0_ = 0 then 2 else 4 : Nat)) := by first | (intro y_ hy_; rw [zkS_0 (d := d_) (Mz := N1_) (by assumption)] at hy_; cases hy_) | (have hv1_ : ze N1_ (d_ + 33) 3 ≤ 1 := (by assumption); intro y_ hy_; have h_ := zbn_h (show zbn (zkS d_ N1_) = 0 by omega) hy_; split <;> omega) | (intro y_ hy_; rw [zkS_h (d := d_) (Mz := N1_) (by (exact zo_1 hc_4)) ht_, hc_21] at hy_; injection hy_ with hy_; rw [← hy_]; split <;> decide) | (intro y_ hy_; rw [zkS_h (d := d_) (Mz := N1_) (by omega) htb_] at hy_; injection hy_ with hy_; rw [if_neg (by assumption), ← hy_]; exact zsgn_l4 (by rw [htb_]; exact q2_ _ (by omega)) (by assumption))
            have he_ := zrk_e (F := F_) (K := K_) (x := (if a0_ = 0 then 2 else 4 : Nat)) (t := (zkS d_ N1_, zkW F_ d_ N1_, zkG d_ N1_)) hx_ (zkS d_ N1_).length
            rw [← (show zrk F_ K_ (if a0_ = 0 then 2 else 4 : Nat) (zkS d_ Mz).length (zkS d_ Mz, zkW F_ d_ Mz, zkG d_ Mz) = zrk F_ K_ (if a0_ = 0 then 2 else 4 : Nat) (zkS d_ N1_).length (zkS d_ N1_, zkW F_ d_ N1_, zkG d_ N1_) by assumption)] at he_
            exact zk_vret (pc := 147) rfl hf_N1_ ⟨i3_, (show (zkS d_ N1_, zkW F_ d_ N1_, zkG d_ N1_) = zrk F_ K_ (if a0_ = 0 then 2 else 4 : Nat) (zkS d_ Mz).length (zkS d_ Mz, zkW F_ d_ Mz, zkG d_ Mz) by exact he_.symm), (show zLow d_ Mz N1_ by first | assumption | omega), (show (zkS d_ N1_).head? ≠ some 1 by first | assumption | omega), (show (∀ y, (zkS d_ N1_).head? = some y → y < (if a0_ = 0 then 2 else 4 : Nat)) by exact hx_)⟩ d_Calc_reckon_147
          · skip
            refine zw_aload_n (pc := 24) (n := 0) (x := (d_ + 33)) rfl (zdal_p dlA_Calc_reckon_153 (i := 11) rfl) ?_
            refine zk_callV hf_N1_.x (pc := 25) [] [] l_Calc_89 (u_Calc_topSign l d_ N1_ (hf_N1_.w hW) (show 1 ≤ ze N1_ (d_ + 33) 2 by first | assumption | omega) (show ze N1_ (d_ + 33) 2 ≤ 24 by first | assumption | (exact zo_0 q1_.2))) rfl rfl ((hf_N1_.w hW).kr (o := 33) (by decide)) (by decide) (by decide) (Nat.le_of_ble_eq_true rfl) (zdal_p dlA_Calc_reckon_153 (i := 12) rfl) ?_
            rintro _ N10_ ⟨v11_, rfl, ⟨hv11_a, hv11_b⟩, hsN10_, hp0_N10_⟩
            obtain rfl := hsN10_.eq.symm
            replace hp0_N10_ : v11_ = ze N1_ (d_ + 35) (ze N1_ (d_ + 33) 2 - 1).toNat := hp0_N10_
            show zW l m_Calc_reckon (zn Mz + 0, zw Mz + 0) N1_ 28 [some (.ref (d_ + 33)), some (.int (Int32.ofInt a0_)), none, none, none] [.int (Int32.ofInt v11_)] _
            have htb_ := hp0_N10_
            refine zw_bipush (pc := 28) (v := Int32.ofInt 42) (by decide) (zdal_p dlA_Calc_reckon_153 (i := 13) rfl) ?_
            have j_37 : ∀ (i12_ : zDj (ze N1_ (d_ + 35) (ze N1_ (d_ + 33) 2 - 1).toNat = 42) (a0_ = 0)), zW l m_Calc_reckon (zn Mz + 0, zw Mz + 0) N1_ 37 [some (.ref (d_ + 33)), some (.int (Int32.ofInt a0_)), none, none, none] [] (zqcV d_ [] [] [(33, 2), (33, 3), (33, 6)] [25, 27] Mz (fun N => zCI F_ K_ d_ 1 N ∧ (zkS d_ N, zkW F_ d_ N, zkG d_ N) = zrk F_ K_ (if a0_ = 0 then 2 else 4 : Nat) (zkS d_ Mz).length (zkS d_ Mz, zkW F_ d_ Mz, zkG d_ Mz) ∧ zLow d_ Mz N ∧ (zkS d_ N).head? ≠ some 1 ∧ (∀ y, (zkS d_ N).head? = some y → y < (if a0_ = 0 then 2 else 4 : Nat)))) := by
              intro i12_
              have hj_ := (show zDj (ze N1_ (d_ + 35) (ze N1_ (d_ + 33) 2 - 1).toNat = 42) (a0_ = 0) by assumption)
              refine zw_aload_n (pc := 37) (n := 0) (x := (d_ + 33)) rfl (zdal_p dlA_Calc_reckon_153 (i := 17) rfl) ?_
              refine zk_callV hf_N1_.x (pc := 38) [] [] l_Calc_89 (u_Calc_topSign l d_ N1_ (hf_N1_.w hW) (show 1 ≤ ze N1_ (d_ + 33) 2 by first | assumption | omega) (show ze N1_ (d_ + 33) 2 ≤ 24 by first | assumption | (exact zo_0 q1_.2))) rfl rfl ((hf_N1_.w hW).kr (o := 33) (by decide)) (by decide) (by decide) (Nat.le_of_ble_eq_true rfl) (zdal_p dlA_Calc_reckon_153 (i := 18) rfl) ?_
              rintro _ N13_ ⟨v14_, rfl, ⟨hv14_a, hv14_b⟩, hsN13_, hp0_N13_⟩
              obtain rfl := hsN13_.eq.symm
              replace hp0_N13_ : v14_ = ze N1_ (d_ + 35) (ze N1_ (d_ + 33) 2 - 1).toNat := hp0_N13_
              show zW l m_Calc_reckon (zn Mz + 0, zw Mz + 0) N1_ 41 [some (.ref (d_ + 33)), some (.int (Int32.ofInt a0_)), none, none, none] [.int (Int32.ofInt v14_)] _
              have hcd_ := q2_ (ze N1_ (d_ + 33) 2 - 1).toNat (by (exact zo_2 hc_4))
              have htc_ := hp0_N13_
              rw [← htc_] at hcd_
              have hne_ : zDj False (v14_ ≠ 126) := Or.inr (fun h_ => hd_ (by rw [zkS_h (by (exact zo_1 hc_4)) htc_, h_]; rfl))
              have hcc_ : zD3 v14_ := zD3_i hcd_ (by (exact zo_26 hp0_N13_ hp0_N8_ hc_21)) (hne_.resolve_left id)
              have hXc_ : zDj False ((if a0_ = 0 then 2 else 4 : Nat) ≤ zsgn v14_) := Or.inr (by rcases hj_ with h_ | h_; (rw [htc_, h_]; split <;> decide); (rw [if_pos h_]; exact zsgn_2 hcc_))
              refine zw_istore_n (pc := 41) (i := 2) (L2 := [some (.ref (d_ + 33)), some (.int (Int32.ofInt a0_)), some (.int (Int32.ofInt v14_)), none, none]) rfl (by decide) rfl (zdal_p dlA_Calc_reckon_153 (i := 19) rfl) ?_
              refine zw_aload_n (pc := 42) (n := 0) (x := (d_ + 33)) rfl (zdal_p dlA_Calc_reckon_153 (i := 20) rfl) ?_
              refine zk_callV hf_N1_.x (pc := 43) [] [] l_Calc_43 (u_Calc_topShelf l d_ N1_ (hf_N1_.w hW) (show 0 ≤ ze N1_ (d_ + 33) 3 by first | assumption | (exact zo_27 hc_12)) (show ze N1_ (d_ + 33) 3 ≤ 18 by first | assumption | (exact zo_28 hb_.2.1 hb_.2.2.1 hb_.2.2.2 q5_))) rfl rfl ((hf_N1_.w hW).kr (o := 33) (by decide)) (by decide) (by decide) (Nat.le_of_ble_eq_true rfl) (zdal_p dlA_Calc_reckon_153 (i := 21) rfl) ?_
              rintro _ N15_ ⟨v16_, rfl, ⟨hv16_a, hv16_b⟩, hsN15_, hp0_N15_⟩
              obtain rfl := hsN15_.eq.symm
              replace hp0_N15_ : v16_ = 20 + ze N1_ (d_ + 33) 3 := hp0_N15_
              show zW l m_Calc_reckon (zn Mz + 0, zw Mz + 0) N1_ 46 [some (.ref (d_ + 33)), some (.int (Int32.ofInt a0_)), some (.int (Int32.ofInt v14_)), none, none] [.int (Int32.ofInt v16_)] _
              refine zr_toI (show v16_ = (20 + ze N1_ (d_ + 33) 3) by (exact hp0_N15_)) ?_
              refine zw_istore_n (pc := 46) (i := 3) (L2 := [some (.ref (d_ + 33)), some (.int (Int32.ofInt a0_)), some (.int (Int32.ofInt v14_)), some (.int (Int32.ofInt ((20 + ze N1_ (d_ + 33) 3)))), none]) rfl (by decide) rfl (zdal_p dlA_Calc_reckon_153 (i := 22) rfl) ?_
              refine zw_aload_n (pc := 47) (n := 0) (x := (d_ + 33)) rfl (zdal_p dlA_Calc_reckon_153 (i := 23) rfl) ?_
              refine zw_dup (pc := 48) rfl (zdal_p dlA_Calc_reckon_154 (i := 0) rfl) ?_
              refine zk_getI (pc := 49) f_Calc_24 rfl ((hf_N1_.w hW).kr (o := 33) (by decide)) (zdal_p dlA_Calc_reckon_154 (i := 1) rfl) ?_
              refine zw_iconst (pc := 52) (v := Int32.ofInt 1) (by decide) (zdal_p dlA_Calc_reckon_154 (i := 2) rfl) ?_
              refine zr_isub (pc := 53) (zdal_p dlA_Calc_reckon_154 (i := 3) rfl) ?_
              refine zk_putR (pc := 54) (o := 33) (by decide) f_Calc_24 rfl rfl ((hf_N1_.w hW).kr (o := 33) (by decide)) ⟨by (exact zo_3 hc_4), by (exact zo_4 q1_.2)⟩ rfl rfl (zdal_p dlA_Calc_reckon_154 (i := 4) rfl) (fun N17_ hsN17_ hvN17_ => ?_)
              have hf_N17_ : zFc d_ [] [] [(33, 2), (33, 3), (33, 6)] [25, 27] Mz N17_ := hf_N1_.tr hsN17_ (by decide) (by decide) (by decide) (by decide)
              have hb0_N17_ : zFc d_ [] [] [(33, 2), (33, 3), (33, 6)] [25, 27] Mz N17_ := hs2_.tr hsN17_ (by decide) (by decide) (by decide) (by decide)
              have rD33_2_N17_ := ze_r N17_ (d_ + 33) 2
              have eD33_3_N17_ : ze N17_ (d_ + 33) 3 = ze N1_ (d_ + 33) 3 := hsN17_.e (by decide)
              have eD33_4_N17_ : ze N17_ (d_ + 33) 4 = ze N1_ (d_ + 33) 4 := hsN17_.e (by decide)
              have eD33_5_N17_ : ze N17_ (d_ + 33) 5 = ze N1_ (d_ + 33) 5 := hsN17_.e (by decide)
              have eD33_6_N17_ : ze N17_ (d_ + 33) 6 = ze N1_ (d_ + 33) 6 := hsN17_.e (by decide)
              have c18_ : zKm F_ K_ d_ N17_ := zKm.fr (hf_N1_.w hW) hsN17_ c7_ (by decide)
              refine zw_aload_n (pc := 57) (n := 0) (x := (d_ + 33)) rfl (zdal_p dlA_Calc_reckon_154 (i := 5) rfl) ?_
              refine zw_dup (pc := 58) rfl (zdal_p dlA_Calc_reckon_154 (i := 6) rfl) ?_
              refine zk_getI (pc := 59) f_Calc_28 rfl ((hf_N17_.w hW).kr (o := 33) (by decide)) (zdal_p dlA_Calc_reckon_154 (i := 7) rfl) ?_
              refine zw_iconst (pc := 62) (v := Int32.ofInt 1) (by decide) (zdal_p dlA_Calc_reckon_154 (i := 8) rfl) ?_
              refine zr_isub (pc := 63) (zdal_p dlA_Calc_reckon_154 (i := 9) rfl) ?_
              refine zk_putR (pc := 64) (o := 33) (by decide) f_Calc_28 rfl rfl ((hf_N17_.w hW).kr (o := 33) (by decide)) ⟨by (exact zo_29 eD33_3_N17_ hc_12), by (exact zo_6 eD33_3_N17_ rD33_3_N1_.2)⟩ rfl rfl (zdal_p dlA_Calc_reckon_154 (i := 10) rfl) (fun N19_ hsN19_ hvN19_ => ?_)
              have hf_N19_ : zFc d_ [] [] [(33, 2), (33, 3), (33, 6)] [25, 27] Mz N19_ := hf_N17_.tr hsN19_ (by decide) (by decide) (by decide) (by decide)
              have hb0_N19_ : zFc d_ [] [] [(33, 2), (33, 3), (33, 6)] [25, 27] Mz N19_ := hb0_N17_.tr hsN19_ (by decide) (by decide) (by decide) (by decide)
              have eD33_2_N19_ : ze N19_ (d_ + 33) 2 = ze N17_ (d_ + 33) 2 := hsN19_.e (by decide)
              have rD33_3_N19_ := ze_r N19_ (d_ + 33) 3
              have eD33_4_N19_ : ze N19_ (d_ + 33) 4 = ze N17_ (d_ + 33) 4 := hsN19_.e (by decide)
              have eD33_5_N19_ : ze N19_ (d_ + 33) 5 = ze N17_ (d_ + 33) 5 := hsN19_.e (by decide)
              have eD33_6_N19_ : ze N19_ (d_ + 33) 6 = ze N17_ (d_ + 33) 6 := hsN19_.e (by decide)
              have c20_ : zKm F_ K_ d_ N19_ := zKm.fr (hf_N17_.w hW) hsN19_ c18_ (by decide)
              have hv2_ : ∀ t : Int, zvc F_ d_ N19_ t = zvc F_ d_ N1_ t := fun t => (zvc_f hsN19_ (by decide) t).trans (zvc_f hsN17_ (by decide) t)
              have hx_ := q9_ (20 + ze N1_ (d_ + 33) 3) (by (exact zo_30 hc_12)) (by (exact zo_8))
              have hvc2_ : 2 ≤ ze N1_ (d_ + 33) 3 := by first | (exact zo_31 hc_12) | (exfalso; omega)
              have hy_ := q9_ (19 + ze N1_ (d_ + 33) 3) (by (exact zo_32 hc_12)) (by (exact zo_33))
              refine zw_iconst (pc := 67) (v := Int32.ofInt 1) (by decide) (zdal_p dlA_Calc_reckon_154 (i := 11) rfl) ?_
              refine zw_istore (pc := 68) (i := 4) (L2 := [some (.ref (d_ + 33)), some (.int (Int32.ofInt a0_)), some (.int (Int32.ofInt v14_)), some (.int (Int32.ofInt ((20 + ze N1_ (d_ + 33) 3)))), some (.int (Int32.ofInt 1))]) (by decide) rfl (zdal_p dlA_Calc_reckon_154 (i := 12) rfl) ?_
              refine zw_iload_n (pc := 70) (n := 2) (x := Int32.ofInt v14_) rfl (zdal_p dlA_Calc_reckon_154 (i := 13) rfl) ?_
              refine zw_bipush (pc := 71) (v := Int32.ofInt 42) (by decide) (zdal_p dlA_Calc_reckon_154 (i := 14) rfl) ?_
              refine zr_icmp_ne (pc := 73) (tgt := 93) ⟨hv14_a, hv14_b⟩ ⟨(by decide), (by decide)⟩ (by decide) (zdal_p dlA_Calc_reckon_154 (i := 15) rfl) (fun hc_73 => ?_) (fun hc_73 => ?_)
              · skip
                refine zw_aload_n (pc := 93) (n := 0) (x := (d_ + 33)) rfl (zdal_p dlA_Calc_reckon_155 (i := 0) rfl) ?_
                refine zw_getF (pc := 94) f_Calc_20 rfl ((hf_N19_.w hW).kr (o := 33) (by decide)) ((hf_N19_.w hW).lr (o := 33) (s := 0) (r := 23) (by decide)) (zdal_p dlA_Calc_reckon_155 (i := 1) rfl) ?_
                refine zw_aload_n (pc := 97) (n := 0) (x := (d_ + 33)) rfl (zdal_p dlA_Calc_reckon_155 (i := 2) rfl) ?_
                refine zk_callV hf_N19_.x (pc := 98) [] [.ref (d_ + 23)] l_Calc_43 (u_Calc_topShelf l d_ N19_ (hf_N19_.w hW) (show 0 ≤ ze N19_ (d_ + 33) 3 by first | assumption | (exact zo_34 eD33_3_N17_ hc_12 hvN19_ rD33_3_N19_.1)) (show ze N19_ (d_ + 33) 3 ≤ 18 by first | assumption | (exact zo_35 eD33_3_N17_ hb_.2.1 hb_.2.2.1 hb_.2.2.2 hvN19_ q5_))) rfl rfl ((hf_N19_.w hW).kr (o := 33) (by decide)) (by decide) (by decide) (Nat.le_of_ble_eq_true rfl) (zdal_p dlA_Calc_reckon_155 (i := 3) rfl) ?_
                rintro _ N21_ ⟨v22_, rfl, ⟨hv22_a, hv22_b⟩, hsN21_, hp0_N21_⟩
                obtain rfl := hsN21_.eq.symm
                replace hp0_N21_ : v22_ = 20 + ze N19_ (d_ + 33) 3 := hp0_N21_
                show zW l m_Calc_reckon (zn Mz + 0, zw Mz + 0) N19_ 101 [some (.ref (d_ + 33)), some (.int (Int32.ofInt a0_)), some (.int (Int32.ofInt v14_)), some (.int (Int32.ofInt ((20 + ze N1_ (d_ + 33) 3)))), some (.int (Int32.ofInt 1))] [.int (Int32.ofInt v22_), .ref (d_ + 23)] _
                refine zr_toI (show v22_ = (19 + ze N1_ (d_ + 33) 3) by (exact zo_36 eD33_3_N17_ hc_12 hp0_N21_ hv22_b hvN19_)) ?_
                refine zw_iload_n (pc := 101) (n := 3) (x := Int32.ofInt ((20 + ze N1_ (d_ + 33) 3))) rfl (zdal_p dlA_Calc_reckon_155 (i := 4) rfl) ?_
                refine zw_iload_n (pc := 102) (n := 2) (x := Int32.ofInt v14_) rfl (zdal_p dlA_Calc_reckon_155 (i := 5) rfl) ?_
                refine zw_bipush (pc := 103) (v := Int32.ofInt 43) (by decide) (zdal_p dlA_Calc_reckon_155 (i := 6) rfl) ?_
                have j_113 : ∀ (u23_ : Int) (hu23_a : -2147483648 ≤ u23_) (hu23_b : u23_ < 2147483648) (i24_ : zDf v14_ u23_), zW l m_Calc_reckon (zn Mz + 0, zw Mz + 0) N19_ 113 [some (.ref (d_ + 33)), some (.int (Int32.ofInt a0_)), some (.int (Int32.ofInt v14_)), some (.int (Int32.ofInt ((20 + ze N1_ (d_ + 33) 3)))), some (.int (Int32.ofInt 1))] [.int (Int32.ofInt u23_), .int (Int32.ofInt ((20 + ze N1_ (d_ + 33) 3))), .int (Int32.ofInt ((19 + ze N1_ (d_ + 33) 3))), .ref (d_ + 23)] (zqcV d_ [] [] [(33, 2), (33, 3), (33, 6)] [25, 27] Mz (fun N => zCI F_ K_ d_ 1 N ∧ (zkS d_ N, zkW F_ d_ N, zkG d_ N) = zrk F_ K_ (if a0_ = 0 then 2 else 4 : Nat) (zkS d_ Mz).length (zkS d_ Mz, zkW F_ d_ Mz, zkG d_ Mz) ∧ zLow d_ Mz N ∧ (zkS d_ N).head? ≠ some 1 ∧ (∀ y, (zkS d_ N).head? = some y → y < (if a0_ = 0 then 2 else 4 : Nat)))) := by
                  intro u23_ hu23_a hu23_b i24_
                  have hfc_ := (show zDf v14_ u23_ by assumption)
                  have hop_ : (zop F_ K_ (zsgn v14_) (zvc F_ d_ N1_ (19 + ze N1_ (d_ + 33) 3)) (zvc F_ d_ N1_ (20 + ze N1_ (d_ + 33) 3))) = fun k_ => (zvc F_ d_ N1_ (19 + ze N1_ (d_ + 33) 3)) k_ + u23_ * (zvc F_ d_ N1_ (20 + ze N1_ (d_ + 33) 3)) k_ := zop_a hfc_ _ _
                  refine zk_callV hf_N19_.x (pc := 113) [.int (Int32.ofInt ((19 + ze N1_ (d_ + 33) 3))), .int (Int32.ofInt ((20 + ze N1_ (d_ + 33) 3))), .int (Int32.ofInt u23_)] [] l_Calc_98 (u_Sums_add l d_ N19_ (hf_N19_.w hW) ((19 + ze N1_ (d_ + 33) 3)) (by (exact zo_37 hc_12)) (by (exact zo_38 hb_.2.2.1 hb_.2.2.2 q5_ rD33_3_N1_.2)) ((20 + ze N1_ (d_ + 33) 3)) (by (exact zo_39 hc_12)) (by (exact zo_40 hb_.2.2.1 hb_.2.2.2 q5_ rD33_3_N1_.2)) u23_ hu23_a hu23_b F_ K_ hA_ c20_ (show 0 ≤ ((19 + ze N1_ (d_ + 33) 3)) by first | assumption | (exact zo_41 hc_12)) (show ((19 + ze N1_ (d_ + 33) 3)) ≤ 39 by first | assumption | (exact zo_42 hb_.2.1 hb_.2.2.1 hb_.2.2.2 q5_)) (show 0 ≤ ((20 + ze N1_ (d_ + 33) 3)) by first | assumption | (exact zo_43 hc_12)) (show ((20 + ze N1_ (d_ + 33) 3)) ≤ 39 by first | assumption | (exact zo_15 hb_.2.1 hb_.2.2.1 hb_.2.2.2 q5_)) (show ((19 + ze N1_ (d_ + 33) 3)) ≠ ((20 + ze N1_ (d_ + 33) 3)) by first | assumption | (exact zo_44)) (show (u23_ = 1 ∨ u23_ = -1) by exact zDf_s hfc_) (show zfit F_ K_ (zvc F_ d_ N19_ ((19 + ze N1_ (d_ + 33) 3))) by rw [hv2_]; exact hy_) (show zfit F_ K_ (zvc F_ d_ N19_ ((20 + ze N1_ (d_ + 33) 3))) by rw [hv2_]; exact hx_)) rfl rfl ((hf_N19_.w hW).kr (o := 23) (by decide)) (by decide) (by decide) (Nat.le_of_ble_eq_true rfl) d_Calc_reckon_113 ?_
                  rintro _ N25_ ⟨rfl, hsN25_, hp0_N25_⟩
                  replace hp0_N25_ : zSh F_ d_ N19_ N25_ ((19 + ze N1_ (d_ + 33) 3)) (fun k => (zvc F_ d_ N19_ ((19 + ze N1_ (d_ + 33) 3))) k + u23_ * (zvc F_ d_ N19_ ((20 + ze N1_ (d_ + 33) 3))) k) := hp0_N25_
                  have hf_N25_ : zFc d_ [] [] [(33, 2), (33, 3), (33, 6)] [25, 27] Mz N25_ := hf_N19_.tr hsN25_ (by decide) (by decide) (by decide) (by decide)
                  have hb0_N25_ : zFc d_ [] [] [(33, 2), (33, 3), (33, 6)] [25, 27] Mz N25_ := hb0_N19_.tr hsN25_ (by decide) (by decide) (by decide) (by decide)
                  have eD33_2_N25_ : ze N25_ (d_ + 33) 2 = ze N19_ (d_ + 33) 2 := hsN25_.e (by decide)
                  have eD33_3_N25_ : ze N25_ (d_ + 33) 3 = ze N19_ (d_ + 33) 3 := hsN25_.e (by decide)
                  have eD33_4_N25_ : ze N25_ (d_ + 33) 4 = ze N19_ (d_ + 33) 4 := hsN25_.e (by decide)
                  have eD33_5_N25_ : ze N25_ (d_ + 33) 5 = ze N19_ (d_ + 33) 5 := hsN25_.e (by decide)
                  have eD33_6_N25_ : ze N25_ (d_ + 33) 6 = ze N19_ (d_ + 33) 6 := hsN25_.e (by decide)
                  have c27_ : zKm F_ K_ d_ N25_ := zKm.fr (hf_N19_.w hW) hsN25_ c20_ (by decide)
                  show zW l m_Calc_reckon (zn Mz + 0, zw Mz + 0) N25_ 116 [some (.ref (d_ + 33)), some (.int (Int32.ofInt a0_)), some (.int (Int32.ofInt v14_)), some (.int (Int32.ofInt ((20 + ze N1_ (d_ + 33) 3)))), some (.int (Int32.ofInt 1))] [] _
                  have hsh_ := hp0_N25_
                  rw [hv2_, hv2_] at hsh_
                  have hnr_ : (fun k_ : Nat => if k_ < F_ then (zop F_ K_ (zsgn v14_) (zvc F_ d_ N1_ (19 + ze N1_ (d_ + 33) 3)) (zvc F_ d_ N1_ (20 + ze N1_ (d_ + 33) 3))) k_ else 0) = (zop F_ K_ (zsgn v14_) (zvc F_ d_ N1_ (19 + ze N1_ (d_ + 33) 3)) (zvc F_ d_ N1_ (20 + ze N1_ (d_ + 33) 3))) := by rw [hop_]; exact zadd_n _ _ _
                  have hz_ := (zSh_n (by (exact zo_41 hc_12)) hsh_).trans (zadd_n _ _ _)
                  rw [← hop_] at hz_ hsh_
                  have hbd_ : zbd F_ K_ (zop F_ K_ (zsgn v14_) (zvc F_ d_ N1_ (19 + ze N1_ (d_ + 33) 3)) (zvc F_ d_ N1_ (20 + ze N1_ (d_ + 33) 3))) := by rw [hop_]; exact zadd_bd (zDf_s hfc_) hy_ hx_
                  refine zw_aload_n (pc := 116) (n := 0) (x := (d_ + 33)) rfl d_Calc_reckon_116 ?_
                  refine zw_iload (pc := 117) (i := 4) (x := Int32.ofInt 1) rfl d_Calc_reckon_117 ?_
                  refine zr_if_eq (pc := 119) (tgt := 140) ⟨(by decide), (by decide)⟩ (by decide) d_Calc_reckon_119 (fun hc_119 => ?_) (fun hc_119 => ?_)
                  · skip
                    exact absurd hc_119 (by decide)
                  · skip
                    refine zw_aload_n (pc := 122) (n := 0) (x := (d_ + 33)) rfl d_Calc_reckon_122 ?_
                    refine zw_getF (pc := 123) f_Calc_20 rfl ((hf_N25_.w hW).kr (o := 33) (by decide)) ((hf_N25_.w hW).lr (o := 33) (s := 0) (r := 23) (by decide)) d_Calc_reckon_123 ?_
                    refine zw_aload_n (pc := 126) (n := 0) (x := (d_ + 33)) rfl d_Calc_reckon_126 ?_
                    refine zk_callV hf_N25_.x (pc := 127) [] [.ref (d_ + 23), .ref (d_ + 33)] l_Calc_43 (u_Calc_topShelf l d_ N25_ (hf_N25_.w hW) (show 0 ≤ ze N25_ (d_ + 33) 3 by first | assumption | (exact zo_45 eD33_3_N17_ eD33_3_N25_ hc_12 hvN19_ rD33_3_N19_.1)) (show ze N25_ (d_ + 33) 3 ≤ 18 by first | assumption | (exact zo_46 eD33_3_N17_ eD33_3_N25_ hb_.2.1 hb_.2.2.1 hb_.2.2.2 hvN19_ q5_))) rfl rfl ((hf_N25_.w hW).kr (o := 33) (by decide)) (by decide) (by decide) (Nat.le_of_ble_eq_true rfl) d_Calc_reckon_127 ?_
                    rintro _ N28_ ⟨v29_, rfl, ⟨hv29_a, hv29_b⟩, hsN28_, hp0_N28_⟩
                    obtain rfl := hsN28_.eq.symm
                    replace hp0_N28_ : v29_ = 20 + ze N25_ (d_ + 33) 3 := hp0_N28_
                    show zW l m_Calc_reckon (zn Mz + 0, zw Mz + 0) N25_ 130 [some (.ref (d_ + 33)), some (.int (Int32.ofInt a0_)), some (.int (Int32.ofInt v14_)), some (.int (Int32.ofInt ((20 + ze N1_ (d_ + 33) 3)))), some (.int (Int32.ofInt 1))] [.int (Int32.ofInt v29_), .ref (d_ + 23), .ref (d_ + 33)] _
                    refine zr_toI (show v29_ = (19 + ze N1_ (d_ + 33) 3) by (exact zo_47 eD33_3_N17_ eD33_3_N25_ hc_12 hp0_N28_ hv29_b hvN19_)) ?_
                    refine zk_callV hf_N25_.x (pc := 130) [.int (Int32.ofInt ((19 + ze N1_ (d_ + 33) 3)))] [.ref (d_ + 33)] l_Calc_81 (u_Sums_isInBounds l d_ N25_ (hf_N25_.w hW) ((19 + ze N1_ (d_ + 33) 3)) (by (exact zo_37 hc_12)) (by (exact zo_38 hb_.2.2.1 hb_.2.2.2 q5_ rD33_3_N1_.2)) F_ K_ hA_ c27_ (show 0 ≤ ((19 + ze N1_ (d_ + 33) 3)) by first | assumption | (exact zo_41 hc_12)) (show ((19 + ze N1_ (d_ + 33) 3)) ≤ 39 by first | assumption | (exact zo_42 hb_.2.1 hb_.2.2.1 hb_.2.2.2 q5_)) (show zbd F_ K_ (zvc F_ d_ N25_ ((19 + ze N1_ (d_ + 33) 3))) by rw [hz_]; exact hbd_)) rfl rfl ((hf_N25_.w hW).kr (o := 23) (by decide)) (by decide) (by decide) (Nat.le_of_ble_eq_true rfl) d_Calc_reckon_130 ?_
                    rintro _ N30_ ⟨v31_, rfl, ⟨hv31_a, hv31_b⟩, hsN30_, hp0_N30_⟩
                    obtain rfl := hsN30_.eq.symm
                    replace hp0_N30_ : ((v31_ = 1 ∧ zfit F_ K_ (zvc F_ d_ N25_ ((19 + ze N1_ (d_ + 33) 3)))) ∨ (v31_ = 0 ∧ ¬ zfit F_ K_ (zvc F_ d_ N25_ ((19 + ze N1_ (d_ + 33) 3))))) := hp0_N30_
                    rcases hp0_N30_ with ⟨rfl, ha130_0_hp0_N30_⟩ | ⟨rfl, ha130_0_hp0_N30_⟩
                    · skip
                      have hi_ := ha130_0_hp0_N30_
                      rw [hz_] at hi_
                      show zW l m_Calc_reckon (zn Mz + 0, zw Mz + 0) N25_ 133 [some (.ref (d_ + 33)), some (.int (Int32.ofInt a0_)), some (.int (Int32.ofInt v14_)), some (.int (Int32.ofInt ((20 + ze N1_ (d_ + 33) 3)))), some (.int (Int32.ofInt 1))] [.int (Int32.ofInt 1), .ref (d_ + 33)] _
                      refine zr_if_eq (pc := 133) (tgt := 140) ⟨(by decide), (by decide)⟩ (by decide) d_Calc_reckon_133 (fun hc_133 => ?_) (fun hc_133 => ?_)
                      · skip
                        exact absurd hc_133 (by decide)
                      · skip
                        refine zw_iconst (pc := 136) (v := Int32.ofInt 1) (by decide) d_Calc_reckon_136 ?_
                        refine zw_goto (pc := 137) (tgt := 141) (by decide) d_Calc_reckon_137 ?_
                        refine zk_callV hf_N25_.x (pc := 141) [.int (Int32.ofInt 1)] [] l_Calc_85 (u_Calc_settle l d_ N25_ (hf_N25_.w hW) 1 (by decide) (by decide) (by (decide)) F_ K_ hA_ c27_ (show 1 ≤ ze N25_ (d_ + 33) 3 by first | assumption | (exact zo_48 eD33_3_N17_ eD33_3_N25_ hc_12 hvN19_ rD33_3_N19_.1)) (show ze N25_ (d_ + 33) 3 ≤ 18 by first | assumption | (exact zo_46 eD33_3_N17_ eD33_3_N25_ hb_.2.1 hb_.2.2.1 hb_.2.2.2 hvN19_ q5_))) rfl rfl ((hf_N25_.w hW).kr (o := 33) (by decide)) (by decide) (by decide) (Nat.le_of_ble_eq_true rfl) d_Calc_reckon_141 ?_
                        rintro _ N32_ ⟨rfl, hsN32_, ⟨hp0_N32_, hp1_N32_⟩⟩
                        have hf_N32_ : zFc d_ [] [] [(33, 2), (33, 3), (33, 6)] [25, 27] Mz N32_ := hf_N25_.tr hsN32_ (by decide) (by decide) (by decide) (by decide)
                        have hb0_N32_ : zFc d_ [] [] [(33, 2), (33, 3), (33, 6)] [25, 27] Mz N32_ := hb0_N25_.tr hsN32_ (by decide) (by decide) (by decide) (by decide)
                        have eD33_2_N32_ : ze N32_ (d_ + 33) 2 = ze N25_ (d_ + 33) 2 := hsN32_.e (by decide)
                        have eD33_3_N32_ : ze N32_ (d_ + 33) 3 = ze N25_ (d_ + 33) 3 := hsN32_.e (by decide)
                        have eD33_4_N32_ : ze N32_ (d_ + 33) 4 = ze N25_ (d_ + 33) 4 := hsN32_.e (by decide)
                        have eD33_5_N32_ : ze N32_ (d_ + 33) 5 = ze N25_ (d_ + 33) 5 := hsN32_.e (by decide)
                        have rD33_6_N32_ := ze_r N32_ (d_ + 33) 6
                        have c34_ : zKm F_ K_ d_ N32_ := zKm.fr (hf_N25_.w hW) hsN32_ c27_ (by decide)
                        show zW l m_Calc_reckon (zn Mz + 0, zw Mz + 0) N32_ 144 [some (.ref (d_ + 33)), some (.int (Int32.ofInt a0_)), some (.int (Int32.ofInt v14_)), some (.int (Int32.ofInt ((20 + ze N1_ (d_ + 33) 3)))), some (.int (Int32.ofInt 1))] [] _
                        have ho0_ := hp0_N32_
                        have ho1_ := hp1_N32_
                        rw [show 20 + ze N25_ (d_ + 33) 3 = (19 + ze N1_ (d_ + 33) 3) by (exact zo_49 eD33_3_N17_ eD33_3_N25_ hc_12 hp0_N28_ hv29_b hvN19_)] at ho1_
                        have hok_ : zOk F_ d_ N19_ N32_ (19 + ze N1_ (d_ + 33) 3) (zop F_ K_ (zsgn v14_) (zvc F_ d_ N1_ (19 + ze N1_ (d_ + 33) 3)) (zvc F_ d_ N1_ (20 + ze N1_ (d_ + 33) 3))) ((zsgn v14_ = 4 → zmok F_ K_ (zvc F_ d_ N1_ (19 + ze N1_ (d_ + 33) 3)) (zvc F_ d_ N1_ (20 + ze N1_ (d_ + 33) 3))) ∧ zfit F_ K_ (zop F_ K_ (zsgn v14_) (zvc F_ d_ N1_ (19 + ze N1_ (d_ + 33) 3)) (zvc F_ d_ N1_ (20 + ze N1_ (d_ + 33) 3)))) := by first | exact zOk_1 hF27_ (by (exact zo_32 hc_12)) hsh_ hnr_ (by (exact eD33_6_N25_)) ⟨fun h4_ => by first | exact hm1_ | exact absurd h4_ (zDf_4 hfc_), hi_⟩ (ho0_ rfl).1 (ho0_ rfl).2 | exact zOk_2 hF27_ (by omega) hsh_ (fun q_ => hi_ q_.2) (ho1_ rfl).2 (zone_z 0) (ho1_ rfl).1 | exact zOk_3 hF27_ (by omega) hrw_ (fun q_ => hm0_ (q_.1 (by rw [hc4_]; rfl))) (ho1_ rfl).2 (zone_z 0) (ho1_ rfl).1
                        obtain ⟨r1_, r2_, r3_, r4_⟩ := zrk_st (F := F_) hci_ hcc_ (by (exact zo_1 hc_4)) htc_ (fun i => (hsN32_.r (by decide) i).trans ((hsN25_.r (by decide) i).trans ((hsN19_.r (by decide) i).trans (hsN17_.r (by decide) i)))) (by (exact zo_50 eD33_2_N19_ eD33_2_N25_ eD33_2_N32_ hc_4 hvN17_ rD33_2_N17_.2)) (by (exact zo_51 eD33_3_N17_ eD33_3_N25_ eD33_3_N32_ hc_12 hp0_N28_ hv29_b hvN19_)) (by (exact zo_52 eD33_4_N17_ eD33_4_N19_ eD33_4_N25_ eD33_4_N32_)) (by (exact zo_52 eD33_5_N17_ eD33_5_N19_ eD33_5_N25_ eD33_5_N32_)) (by (exact zo_53 eD33_6_N17_ eD33_6_N19_)) hv2_ rfl rfl Iff.rfl hok_
                        have hrk_ := zrk_b (show zrk F_ K_ (if a0_ = 0 then 2 else 4 : Nat) (zkS d_ Mz).length (zkS d_ Mz, zkW F_ d_ Mz, zkG d_ Mz) = zrk F_ K_ (if a0_ = 0 then 2 else 4 : Nat) (zkS d_ N1_).length (zkS d_ N1_, zkW F_ d_ N1_, zkG d_ N1_) by assumption) r2_ (hXc_.resolve_left id) r3_
                        have hlw_ := (zLow.f hsN17_ (by decide)).tr ((zLow.f hsN19_ (by decide)).tr hok_.2.1)
                        refine zw_goto (pc := 144) (tgt := 0) (by decide) d_Calc_reckon_144 ?_
                        refine zW_le [some (.ref (d_ + 33)), some (.int (Int32.ofInt a0_)), none, none, none] (⟨rfl, rfl, trivial⟩) ?_
                        exact ih_0 N32_ hb0_N32_ r1_ (show (zkS d_ N32_).head? ≠ some 1 by exact r4_) (show zrk F_ K_ (if a0_ = 0 then 2 else 4 : Nat) (zkS d_ Mz).length (zkS d_ Mz, zkW F_ d_ Mz, zkG d_ Mz) = zrk F_ K_ (if a0_ = 0 then 2 else 4 : Nat) (zkS d_ N32_).length (zkS d_ N32_, zkW F_ d_ N32_, zkG d_ N32_) by exact hrk_) (show zLow d_ Mz N32_ by exact zLow.tr (by assumption) hlw_) (by (exact zo_54 eD33_2_N19_ eD33_2_N25_ eD33_2_N32_ hc_4 hlt_0 hvN17_ q1_.2))
                    · skip
                      have hi_ := ha130_0_hp0_N30_
                      rw [hz_] at hi_
                      show zW l m_Calc_reckon (zn Mz + 0, zw Mz + 0) N25_ 133 [some (.ref (d_ + 33)), some (.int (Int32.ofInt a0_)), some (.int (Int32.ofInt v14_)), some (.int (Int32.ofInt ((20 + ze N1_ (d_ + 33) 3)))), some (.int (Int32.ofInt 1))] [.int (Int32.ofInt 0), .ref (d_ + 33)] _
                      refine zr_if_eq (pc := 133) (tgt := 140) ⟨(by decide), (by decide)⟩ (by decide) d_Calc_reckon_133 (fun hc_133 => ?_) (fun hc_133 => ?_)
                      · skip
                        refine zw_iconst (pc := 140) (v := Int32.ofInt 0) (by decide) d_Calc_reckon_140 ?_
                        refine zk_callV hf_N25_.x (pc := 141) [.int (Int32.ofInt 0)] [] l_Calc_85 (u_Calc_settle l d_ N25_ (hf_N25_.w hW) 0 (by decide) (by decide) (by (decide)) F_ K_ hA_ c27_ (show 1 ≤ ze N25_ (d_ + 33) 3 by first | assumption | (exact zo_48 eD33_3_N17_ eD33_3_N25_ hc_12 hvN19_ rD33_3_N19_.1)) (show ze N25_ (d_ + 33) 3 ≤ 18 by first | assumption | (exact zo_46 eD33_3_N17_ eD33_3_N25_ hb_.2.1 hb_.2.2.1 hb_.2.2.2 hvN19_ q5_))) rfl rfl ((hf_N25_.w hW).kr (o := 33) (by decide)) (by decide) (by decide) (Nat.le_of_ble_eq_true rfl) d_Calc_reckon_141 ?_
                        rintro _ N35_ ⟨rfl, hsN35_, ⟨hp0_N35_, hp1_N35_⟩⟩
                        have hf_N35_ : zFc d_ [] [] [(33, 2), (33, 3), (33, 6)] [25, 27] Mz N35_ := hf_N25_.tr hsN35_ (by decide) (by decide) (by decide) (by decide)
                        have hb0_N35_ : zFc d_ [] [] [(33, 2), (33, 3), (33, 6)] [25, 27] Mz N35_ := hb0_N25_.tr hsN35_ (by decide) (by decide) (by decide) (by decide)
                        have eD33_2_N35_ : ze N35_ (d_ + 33) 2 = ze N25_ (d_ + 33) 2 := hsN35_.e (by decide)
                        have eD33_3_N35_ : ze N35_ (d_ + 33) 3 = ze N25_ (d_ + 33) 3 := hsN35_.e (by decide)
                        have eD33_4_N35_ : ze N35_ (d_ + 33) 4 = ze N25_ (d_ + 33) 4 := hsN35_.e (by decide)
                        have eD33_5_N35_ : ze N35_ (d_ + 33) 5 = ze N25_ (d_ + 33) 5 := hsN35_.e (by decide)
                        have rD33_6_N35_ := ze_r N35_ (d_ + 33) 6
                        have c37_ : zKm F_ K_ d_ N35_ := zKm.fr (hf_N25_.w hW) hsN35_ c27_ (by decide)
                        show zW l m_Calc_reckon (zn Mz + 0, zw Mz + 0) N35_ 144 [some (.ref (d_ + 33)), some (.int (Int32.ofInt a0_)), some (.int (Int32.ofInt v14_)), some (.int (Int32.ofInt ((20 + ze N1_ (d_ + 33) 3)))), some (.int (Int32.ofInt 1))] [] _
                        have ho0_ := hp0_N35_
                        have ho1_ := hp1_N35_
                        rw [show 20 + ze N25_ (d_ + 33) 3 = (19 + ze N1_ (d_ + 33) 3) by (exact zo_49 eD33_3_N17_ eD33_3_N25_ hc_12 hp0_N28_ hv29_b hvN19_)] at ho1_
                        have hok_ : zOk F_ d_ N19_ N35_ (19 + ze N1_ (d_ + 33) 3) (zop F_ K_ (zsgn v14_) (zvc F_ d_ N1_ (19 + ze N1_ (d_ + 33) 3)) (zvc F_ d_ N1_ (20 + ze N1_ (d_ + 33) 3))) ((zsgn v14_ = 4 → zmok F_ K_ (zvc F_ d_ N1_ (19 + ze N1_ (d_ + 33) 3)) (zvc F_ d_ N1_ (20 + ze N1_ (d_ + 33) 3))) ∧ zfit F_ K_ (zop F_ K_ (zsgn v14_) (zvc F_ d_ N1_ (19 + ze N1_ (d_ + 33) 3)) (zvc F_ d_ N1_ (20 + ze N1_ (d_ + 33) 3)))) := by first | exact zOk_1 hF27_ (by omega) hsh_ hnr_ (by omega) ⟨fun h4_ => by first | exact hm1_ | exact absurd h4_ (zDf_4 hfc_), hi_⟩ (ho0_ rfl).1 (ho0_ rfl).2 | exact zOk_2 hF27_ (by (exact zo_32 hc_12)) hsh_ (fun q_ => hi_ q_.2) (ho1_ rfl).2 (zone_z 0) (ho1_ rfl).1 | exact zOk_3 hF27_ (by omega) hrw_ (fun q_ => hm0_ (q_.1 (by rw [hc4_]; rfl))) (ho1_ rfl).2 (zone_z 0) (ho1_ rfl).1
                        obtain ⟨r1_, r2_, r3_, r4_⟩ := zrk_st (F := F_) hci_ hcc_ (by (exact zo_1 hc_4)) htc_ (fun i => (hsN35_.r (by decide) i).trans ((hsN25_.r (by decide) i).trans ((hsN19_.r (by decide) i).trans (hsN17_.r (by decide) i)))) (by (exact zo_50 eD33_2_N19_ eD33_2_N25_ eD33_2_N35_ hc_4 hvN17_ rD33_2_N17_.2)) (by (exact zo_51 eD33_3_N17_ eD33_3_N25_ eD33_3_N35_ hc_12 hp0_N28_ hv29_b hvN19_)) (by (exact zo_52 eD33_4_N17_ eD33_4_N19_ eD33_4_N25_ eD33_4_N35_)) (by (exact zo_52 eD33_5_N17_ eD33_5_N19_ eD33_5_N25_ eD33_5_N35_)) (by (exact zo_53 eD33_6_N17_ eD33_6_N19_)) hv2_ rfl rfl Iff.rfl hok_
                        have hrk_ := zrk_b (show zrk F_ K_ (if a0_ = 0 then 2 else 4 : Nat) (zkS d_ Mz).length (zkS d_ Mz, zkW F_ d_ Mz, zkG d_ Mz) = zrk F_ K_ (if a0_ = 0 then 2 else 4 : Nat) (zkS d_ N1_).length (zkS d_ N1_, zkW F_ d_ N1_, zkG d_ N1_) by assumption) r2_ (hXc_.resolve_left id) r3_
                        have hlw_ := (zLow.f hsN17_ (by decide)).tr ((zLow.f hsN19_ (by decide)).tr hok_.2.1)
                        refine zw_goto (pc := 144) (tgt := 0) (by decide) d_Calc_reckon_144 ?_
                        refine zW_le [some (.ref (d_ + 33)), some (.int (Int32.ofInt a0_)), none, none, none] (⟨rfl, rfl, trivial⟩) ?_
                        exact ih_0 N35_ hb0_N35_ r1_ (show (zkS d_ N35_).head? ≠ some 1 by exact r4_) (show zrk F_ K_ (if a0_ = 0 then 2 else 4 : Nat) (zkS d_ Mz).length (zkS d_ Mz, zkW F_ d_ Mz, zkG d_ Mz) = zrk F_ K_ (if a0_ = 0 then 2 else 4 : Nat) (zkS d_ N35_).length (zkS d_ N35_, zkW F_ d_ N35_, zkG d_ N35_) by exact hrk_) (show zLow d_ Mz N35_ by exact zLow.tr (by assumption) hlw_) (by (exact zo_54 eD33_2_N19_ eD33_2_N25_ eD33_2_N35_ hc_4 hlt_0 hvN17_ q1_.2))
                      · skip
                        exact absurd hc_133 (by decide)
                refine zr_icmp_ne (pc := 105) (tgt := 112) ⟨hv14_a, hv14_b⟩ ⟨(by decide), (by decide)⟩ (by decide) (zdal_p dlA_Calc_reckon_155 (i := 7) rfl) (fun hc_105 => ?_) (fun hc_105 => ?_)
                · skip
                  refine zw_iconst (pc := 112) (v := Int32.ofInt (-1)) (by decide) (zdal_p dlA_Calc_reckon_155 (i := 10) rfl) ?_
                  exact j_113 ((-1)) (by decide) (by decide) (show zDf v14_ ((-1)) by first | exact Or.inl ⟨by assumption, rfl⟩ | exact Or.inr ⟨zD3_45 hcc_ (by assumption) (by assumption), rfl⟩)
                · skip
                  refine zw_iconst (pc := 108) (v := Int32.ofInt 1) (by decide) (zdal_p dlA_Calc_reckon_155 (i := 8) rfl) ?_
                  refine zw_goto (pc := 109) (tgt := 113) (by decide) (zdal_p dlA_Calc_reckon_155 (i := 9) rfl) ?_
                  exact j_113 1 (by decide) (by decide) (show zDf v14_ 1 by first | exact Or.inl ⟨by assumption, rfl⟩ | exact Or.inr ⟨zD3_45 hcc_ (by assumption) (by assumption), rfl⟩)
              · skip
                refine zw_aload_n (pc := 76) (n := 0) (x := (d_ + 33)) rfl (zdal_p dlA_Calc_reckon_154 (i := 16) rfl) ?_
                refine zw_getF (pc := 77) f_Calc_20 rfl ((hf_N19_.w hW).kr (o := 33) (by decide)) ((hf_N19_.w hW).lr (o := 33) (s := 0) (r := 23) (by decide)) (zdal_p dlA_Calc_reckon_154 (i := 17) rfl) ?_
                refine zw_aload_n (pc := 80) (n := 0) (x := (d_ + 33)) rfl (zdal_p dlA_Calc_reckon_154 (i := 18) rfl) ?_
                refine zk_callV hf_N19_.x (pc := 81) [] [.ref (d_ + 23)] l_Calc_43 (u_Calc_topShelf l d_ N19_ (hf_N19_.w hW) (show 0 ≤ ze N19_ (d_ + 33) 3 by first | assumption | (exact zo_34 eD33_3_N17_ hc_12 hvN19_ rD33_3_N19_.1)) (show ze N19_ (d_ + 33) 3 ≤ 18 by first | assumption | (exact zo_35 eD33_3_N17_ hb_.2.1 hb_.2.2.1 hb_.2.2.2 hvN19_ q5_))) rfl rfl ((hf_N19_.w hW).kr (o := 33) (by decide)) (by decide) (by decide) (Nat.le_of_ble_eq_true rfl) (zdal_p dlA_Calc_reckon_154 (i := 19) rfl) ?_
                rintro _ N38_ ⟨v39_, rfl, ⟨hv39_a, hv39_b⟩, hsN38_, hp0_N38_⟩
                obtain rfl := hsN38_.eq.symm
                replace hp0_N38_ : v39_ = 20 + ze N19_ (d_ + 33) 3 := hp0_N38_
                show zW l m_Calc_reckon (zn Mz + 0, zw Mz + 0) N19_ 84 [some (.ref (d_ + 33)), some (.int (Int32.ofInt a0_)), some (.int (Int32.ofInt v14_)), some (.int (Int32.ofInt ((20 + ze N1_ (d_ + 33) 3)))), some (.int (Int32.ofInt 1))] [.int (Int32.ofInt v39_), .ref (d_ + 23)] _
                refine zr_toI (show v39_ = (19 + ze N1_ (d_ + 33) 3) by (exact zo_36 eD33_3_N17_ hc_12 hp0_N38_ hv39_b hvN19_)) ?_
                refine zw_iload_n (pc := 84) (n := 3) (x := Int32.ofInt ((20 + ze N1_ (d_ + 33) 3))) rfl (zdal_p dlA_Calc_reckon_154 (i := 20) rfl) ?_
                refine zk_callV hf_N19_.x (pc := 85) [.int (Int32.ofInt ((19 + ze N1_ (d_ + 33) 3))), .int (Int32.ofInt ((20 + ze N1_ (d_ + 33) 3)))] [] l_Calc_77 (u_Sums_multiply l d_ N19_ (hf_N19_.w hW) ((19 + ze N1_ (d_ + 33) 3)) (by (exact zo_37 hc_12)) (by (exact zo_38 hb_.2.2.1 hb_.2.2.2 q5_ rD33_3_N1_.2)) ((20 + ze N1_ (d_ + 33) 3)) (by (exact zo_39 hc_12)) (by (exact zo_40 hb_.2.2.1 hb_.2.2.2 q5_ rD33_3_N1_.2)) F_ K_ hA_ c20_ (show 0 ≤ ((19 + ze N1_ (d_ + 33) 3)) by first | assumption | (exact zo_41 hc_12)) (show ((19 + ze N1_ (d_ + 33) 3)) ≤ 39 by first | assumption | (exact zo_42 hb_.2.1 hb_.2.2.1 hb_.2.2.2 q5_)) (show 0 ≤ ((20 + ze N1_ (d_ + 33) 3)) by first | assumption | (exact zo_43 hc_12)) (show ((20 + ze N1_ (d_ + 33) 3)) ≤ 39 by first | assumption | (exact zo_15 hb_.2.1 hb_.2.2.1 hb_.2.2.2 q5_)) (show zfit F_ K_ (zvc F_ d_ N19_ ((19 + ze N1_ (d_ + 33) 3))) by rw [hv2_]; exact hy_) (show zfit F_ K_ (zvc F_ d_ N19_ ((20 + ze N1_ (d_ + 33) 3))) by rw [hv2_]; exact hx_)) rfl rfl ((hf_N19_.w hW).kr (o := 23) (by decide)) (by decide) (by decide) (Nat.le_of_ble_eq_true rfl) (zdal_p dlA_Calc_reckon_154 (i := 21) rfl) ?_
                rintro _ N40_ ⟨v41_, rfl, ⟨hv41_a, hv41_b⟩, hsN40_, hp0_N40_⟩
                replace hp0_N40_ : ((v41_ = 1 ∧ zmok F_ K_ (zvc F_ d_ N19_ ((19 + ze N1_ (d_ + 33) 3))) (zvc F_ d_ N19_ ((20 + ze N1_ (d_ + 33) 3))) ∧ zSh F_ d_ N19_ N40_ ((19 + ze N1_ (d_ + 33) 3)) (zprd F_ K_ (zvc F_ d_ N19_ ((19 + ze N1_ (d_ + 33) 3))) (zvc F_ d_ N19_ ((20 + ze N1_ (d_ + 33) 3))))) ∨ (v41_ = 0 ∧ ¬ zmok F_ K_ (zvc F_ d_ N19_ ((19 + ze N1_ (d_ + 33) 3))) (zvc F_ d_ N19_ ((20 + ze N1_ (d_ + 33) 3))) ∧ (∀ x : Nat, zg N40_ (d_ + 25) x = zg N19_ (d_ + 25) x))) := hp0_N40_
                have hf_N40_ : zFc d_ [] [] [(33, 2), (33, 3), (33, 6)] [25, 27] Mz N40_ := hf_N19_.tr hsN40_ (by decide) (by decide) (by decide) (by decide)
                have hb0_N40_ : zFc d_ [] [] [(33, 2), (33, 3), (33, 6)] [25, 27] Mz N40_ := hb0_N19_.tr hsN40_ (by decide) (by decide) (by decide) (by decide)
                have eD33_2_N40_ : ze N40_ (d_ + 33) 2 = ze N19_ (d_ + 33) 2 := hsN40_.e (by decide)
                have eD33_3_N40_ : ze N40_ (d_ + 33) 3 = ze N19_ (d_ + 33) 3 := hsN40_.e (by decide)
                have eD33_4_N40_ : ze N40_ (d_ + 33) 4 = ze N19_ (d_ + 33) 4 := hsN40_.e (by decide)
                have eD33_5_N40_ : ze N40_ (d_ + 33) 5 = ze N19_ (d_ + 33) 5 := hsN40_.e (by decide)
                have eD33_6_N40_ : ze N40_ (d_ + 33) 6 = ze N19_ (d_ + 33) 6 := hsN40_.e (by decide)
                have c42_ : zKm F_ K_ d_ N40_ := zKm.fr (hf_N19_.w hW) hsN40_ c20_ (by decide)
                rcases hp0_N40_ with ⟨rfl, ha85_0_hp0_N40_, ha85_1_hp0_N40_⟩ | ⟨rfl, ha85_0_hp0_N40_, ha85_1_hp0_N40_⟩
                · skip
                  have hm1_ := ha85_0_hp0_N40_
                  have hsh_ := ha85_1_hp0_N40_
                  rw [hv2_, hv2_] at hm1_
                  rw [hv2_, hv2_] at hsh_
                  have hc4_ : v14_ = 42 := by assumption
                  have hz_ : zvc F_ d_ N40_ (19 + ze N1_ (d_ + 33) 3) = (zop F_ K_ (zsgn v14_) (zvc F_ d_ N1_ (19 + ze N1_ (d_ + 33) 3)) (zvc F_ d_ N1_ (20 + ze N1_ (d_ + 33) 3))) := by rw [hc4_, zop_4]; exact (zSh_n (by (exact zo_41 hc_12)) hsh_).trans (zprd_n hA_ _ _)
                  have hbd_ : zbd F_ K_ (zop F_ K_ (zsgn v14_) (zvc F_ d_ N1_ (19 + ze N1_ (d_ + 33) 3)) (zvc F_ d_ N1_ (20 + ze N1_ (d_ + 33) 3))) := by rw [hc4_, zop_4]; exact zprd_bd hA_ hm1_
                  have hnr_ := zprd_n hA_ (zvc F_ d_ N1_ (19 + ze N1_ (d_ + 33) 3)) (zvc F_ d_ N1_ (20 + ze N1_ (d_ + 33) 3))
                  rw [← zop_4 (F := F_) (K := K_), ← hc4_] at hsh_ hnr_
                  show zW l m_Calc_reckon (zn Mz + 0, zw Mz + 0) N40_ 88 [some (.ref (d_ + 33)), some (.int (Int32.ofInt a0_)), some (.int (Int32.ofInt v14_)), some (.int (Int32.ofInt ((20 + ze N1_ (d_ + 33) 3)))), some (.int (Int32.ofInt 1))] [.int (Int32.ofInt 1)] _
                  refine zw_istore (pc := 88) (i := 4) (L2 := [some (.ref (d_ + 33)), some (.int (Int32.ofInt a0_)), some (.int (Int32.ofInt v14_)), some (.int (Int32.ofInt ((20 + ze N1_ (d_ + 33) 3)))), some (.int (Int32.ofInt 1))]) (by decide) rfl (zdal_p dlA_Calc_reckon_154 (i := 22) rfl) ?_
                  refine zw_goto (pc := 90) (tgt := 116) (by decide) (zdal_p dlA_Calc_reckon_154 (i := 23) rfl) ?_
                  refine zw_aload_n (pc := 116) (n := 0) (x := (d_ + 33)) rfl d_Calc_reckon_116 ?_
                  refine zw_iload (pc := 117) (i := 4) (x := Int32.ofInt 1) rfl d_Calc_reckon_117 ?_
                  refine zr_if_eq (pc := 119) (tgt := 140) ⟨(by decide), (by decide)⟩ (by decide) d_Calc_reckon_119 (fun hc_119 => ?_) (fun hc_119 => ?_)
                  · skip
                    exact absurd hc_119 (by decide)
                  · skip
                    refine zw_aload_n (pc := 122) (n := 0) (x := (d_ + 33)) rfl d_Calc_reckon_122 ?_
                    refine zw_getF (pc := 123) f_Calc_20 rfl ((hf_N40_.w hW).kr (o := 33) (by decide)) ((hf_N40_.w hW).lr (o := 33) (s := 0) (r := 23) (by decide)) d_Calc_reckon_123 ?_
                    refine zw_aload_n (pc := 126) (n := 0) (x := (d_ + 33)) rfl d_Calc_reckon_126 ?_
                    refine zk_callV hf_N40_.x (pc := 127) [] [.ref (d_ + 23), .ref (d_ + 33)] l_Calc_43 (u_Calc_topShelf l d_ N40_ (hf_N40_.w hW) (show 0 ≤ ze N40_ (d_ + 33) 3 by first | assumption | (exact zo_45 eD33_3_N17_ eD33_3_N40_ hc_12 hvN19_ rD33_3_N19_.1)) (show ze N40_ (d_ + 33) 3 ≤ 18 by first | assumption | (exact zo_46 eD33_3_N17_ eD33_3_N40_ hb_.2.1 hb_.2.2.1 hb_.2.2.2 hvN19_ q5_))) rfl rfl ((hf_N40_.w hW).kr (o := 33) (by decide)) (by decide) (by decide) (Nat.le_of_ble_eq_true rfl) d_Calc_reckon_127 ?_
                    rintro _ N43_ ⟨v44_, rfl, ⟨hv44_a, hv44_b⟩, hsN43_, hp0_N43_⟩
                    obtain rfl := hsN43_.eq.symm
                    replace hp0_N43_ : v44_ = 20 + ze N40_ (d_ + 33) 3 := hp0_N43_
                    show zW l m_Calc_reckon (zn Mz + 0, zw Mz + 0) N40_ 130 [some (.ref (d_ + 33)), some (.int (Int32.ofInt a0_)), some (.int (Int32.ofInt v14_)), some (.int (Int32.ofInt ((20 + ze N1_ (d_ + 33) 3)))), some (.int (Int32.ofInt 1))] [.int (Int32.ofInt v44_), .ref (d_ + 23), .ref (d_ + 33)] _
                    refine zr_toI (show v44_ = (19 + ze N1_ (d_ + 33) 3) by (exact zo_47 eD33_3_N17_ eD33_3_N40_ hc_12 hp0_N43_ hv44_b hvN19_)) ?_
                    refine zk_callV hf_N40_.x (pc := 130) [.int (Int32.ofInt ((19 + ze N1_ (d_ + 33) 3)))] [.ref (d_ + 33)] l_Calc_81 (u_Sums_isInBounds l d_ N40_ (hf_N40_.w hW) ((19 + ze N1_ (d_ + 33) 3)) (by (exact zo_37 hc_12)) (by (exact zo_38 hb_.2.2.1 hb_.2.2.2 q5_ rD33_3_N1_.2)) F_ K_ hA_ c42_ (show 0 ≤ ((19 + ze N1_ (d_ + 33) 3)) by first | assumption | (exact zo_41 hc_12)) (show ((19 + ze N1_ (d_ + 33) 3)) ≤ 39 by first | assumption | (exact zo_42 hb_.2.1 hb_.2.2.1 hb_.2.2.2 q5_)) (show zbd F_ K_ (zvc F_ d_ N40_ ((19 + ze N1_ (d_ + 33) 3))) by rw [hz_]; exact hbd_)) rfl rfl ((hf_N40_.w hW).kr (o := 23) (by decide)) (by decide) (by decide) (Nat.le_of_ble_eq_true rfl) d_Calc_reckon_130 ?_
                    rintro _ N45_ ⟨v46_, rfl, ⟨hv46_a, hv46_b⟩, hsN45_, hp0_N45_⟩
                    obtain rfl := hsN45_.eq.symm
                    replace hp0_N45_ : ((v46_ = 1 ∧ zfit F_ K_ (zvc F_ d_ N40_ ((19 + ze N1_ (d_ + 33) 3)))) ∨ (v46_ = 0 ∧ ¬ zfit F_ K_ (zvc F_ d_ N40_ ((19 + ze N1_ (d_ + 33) 3))))) := hp0_N45_
                    rcases hp0_N45_ with ⟨rfl, ha130_0_hp0_N45_⟩ | ⟨rfl, ha130_0_hp0_N45_⟩
                    · skip
                      have hi_ := ha130_0_hp0_N45_
                      rw [hz_] at hi_
                      show zW l m_Calc_reckon (zn Mz + 0, zw Mz + 0) N40_ 133 [some (.ref (d_ + 33)), some (.int (Int32.ofInt a0_)), some (.int (Int32.ofInt v14_)), some (.int (Int32.ofInt ((20 + ze N1_ (d_ + 33) 3)))), some (.int (Int32.ofInt 1))] [.int (Int32.ofInt 1), .ref (d_ + 33)] _
                      refine zr_if_eq (pc := 133) (tgt := 140) ⟨(by decide), (by decide)⟩ (by decide) d_Calc_reckon_133 (fun hc_133 => ?_) (fun hc_133 => ?_)
                      · skip
                        exact absurd hc_133 (by decide)
                      · skip
                        refine zw_iconst (pc := 136) (v := Int32.ofInt 1) (by decide) d_Calc_reckon_136 ?_
                        refine zw_goto (pc := 137) (tgt := 141) (by decide) d_Calc_reckon_137 ?_
                        refine zk_callV hf_N40_.x (pc := 141) [.int (Int32.ofInt 1)] [] l_Calc_85 (u_Calc_settle l d_ N40_ (hf_N40_.w hW) 1 (by decide) (by decide) (by (decide)) F_ K_ hA_ c42_ (show 1 ≤ ze N40_ (d_ + 33) 3 by first | assumption | (exact zo_48 eD33_3_N17_ eD33_3_N40_ hc_12 hvN19_ rD33_3_N19_.1)) (show ze N40_ (d_ + 33) 3 ≤ 18 by first | assumption | (exact zo_46 eD33_3_N17_ eD33_3_N40_ hb_.2.1 hb_.2.2.1 hb_.2.2.2 hvN19_ q5_))) rfl rfl ((hf_N40_.w hW).kr (o := 33) (by decide)) (by decide) (by decide) (Nat.le_of_ble_eq_true rfl) d_Calc_reckon_141 ?_
                        rintro _ N47_ ⟨rfl, hsN47_, ⟨hp0_N47_, hp1_N47_⟩⟩
                        have hf_N47_ : zFc d_ [] [] [(33, 2), (33, 3), (33, 6)] [25, 27] Mz N47_ := hf_N40_.tr hsN47_ (by decide) (by decide) (by decide) (by decide)
                        have hb0_N47_ : zFc d_ [] [] [(33, 2), (33, 3), (33, 6)] [25, 27] Mz N47_ := hb0_N40_.tr hsN47_ (by decide) (by decide) (by decide) (by decide)
                        have eD33_2_N47_ : ze N47_ (d_ + 33) 2 = ze N40_ (d_ + 33) 2 := hsN47_.e (by decide)
                        have eD33_3_N47_ : ze N47_ (d_ + 33) 3 = ze N40_ (d_ + 33) 3 := hsN47_.e (by decide)
                        have eD33_4_N47_ : ze N47_ (d_ + 33) 4 = ze N40_ (d_ + 33) 4 := hsN47_.e (by decide)
                        have eD33_5_N47_ : ze N47_ (d_ + 33) 5 = ze N40_ (d_ + 33) 5 := hsN47_.e (by decide)
                        have rD33_6_N47_ := ze_r N47_ (d_ + 33) 6
                        have c49_ : zKm F_ K_ d_ N47_ := zKm.fr (hf_N40_.w hW) hsN47_ c42_ (by decide)
                        show zW l m_Calc_reckon (zn Mz + 0, zw Mz + 0) N47_ 144 [some (.ref (d_ + 33)), some (.int (Int32.ofInt a0_)), some (.int (Int32.ofInt v14_)), some (.int (Int32.ofInt ((20 + ze N1_ (d_ + 33) 3)))), some (.int (Int32.ofInt 1))] [] _
                        have ho0_ := hp0_N47_
                        have ho1_ := hp1_N47_
                        rw [show 20 + ze N40_ (d_ + 33) 3 = (19 + ze N1_ (d_ + 33) 3) by (exact zo_49 eD33_3_N17_ eD33_3_N40_ hc_12 hp0_N43_ hv44_b hvN19_)] at ho1_
                        have hok_ : zOk F_ d_ N19_ N47_ (19 + ze N1_ (d_ + 33) 3) (zop F_ K_ (zsgn v14_) (zvc F_ d_ N1_ (19 + ze N1_ (d_ + 33) 3)) (zvc F_ d_ N1_ (20 + ze N1_ (d_ + 33) 3))) ((zsgn v14_ = 4 → zmok F_ K_ (zvc F_ d_ N1_ (19 + ze N1_ (d_ + 33) 3)) (zvc F_ d_ N1_ (20 + ze N1_ (d_ + 33) 3))) ∧ zfit F_ K_ (zop F_ K_ (zsgn v14_) (zvc F_ d_ N1_ (19 + ze N1_ (d_ + 33) 3)) (zvc F_ d_ N1_ (20 + ze N1_ (d_ + 33) 3)))) := by first | exact zOk_1 hF27_ (by (exact zo_32 hc_12)) hsh_ hnr_ (by (exact eD33_6_N40_)) ⟨fun h4_ => by first | exact hm1_ | exact absurd h4_ (zDf_4 hfc_), hi_⟩ (ho0_ rfl).1 (ho0_ rfl).2 | exact zOk_2 hF27_ (by omega) hsh_ (fun q_ => hi_ q_.2) (ho1_ rfl).2 (zone_z 0) (ho1_ rfl).1 | exact zOk_3 hF27_ (by omega) hrw_ (fun q_ => hm0_ (q_.1 (by rw [hc4_]; rfl))) (ho1_ rfl).2 (zone_z 0) (ho1_ rfl).1
                        obtain ⟨r1_, r2_, r3_, r4_⟩ := zrk_st (F := F_) hci_ hcc_ (by (exact zo_1 hc_4)) htc_ (fun i => (hsN47_.r (by decide) i).trans ((hsN40_.r (by decide) i).trans ((hsN19_.r (by decide) i).trans (hsN17_.r (by decide) i)))) (by (exact zo_50 eD33_2_N19_ eD33_2_N40_ eD33_2_N47_ hc_4 hvN17_ rD33_2_N17_.2)) (by (exact zo_51 eD33_3_N17_ eD33_3_N40_ eD33_3_N47_ hc_12 hp0_N43_ hv44_b hvN19_)) (by (exact zo_52 eD33_4_N17_ eD33_4_N19_ eD33_4_N40_ eD33_4_N47_)) (by (exact zo_52 eD33_5_N17_ eD33_5_N19_ eD33_5_N40_ eD33_5_N47_)) (by (exact zo_53 eD33_6_N17_ eD33_6_N19_)) hv2_ rfl rfl Iff.rfl hok_
                        have hrk_ := zrk_b (show zrk F_ K_ (if a0_ = 0 then 2 else 4 : Nat) (zkS d_ Mz).length (zkS d_ Mz, zkW F_ d_ Mz, zkG d_ Mz) = zrk F_ K_ (if a0_ = 0 then 2 else 4 : Nat) (zkS d_ N1_).length (zkS d_ N1_, zkW F_ d_ N1_, zkG d_ N1_) by assumption) r2_ (hXc_.resolve_left id) r3_
                        have hlw_ := (zLow.f hsN17_ (by decide)).tr ((zLow.f hsN19_ (by decide)).tr hok_.2.1)
                        refine zw_goto (pc := 144) (tgt := 0) (by decide) d_Calc_reckon_144 ?_
                        refine zW_le [some (.ref (d_ + 33)), some (.int (Int32.ofInt a0_)), none, none, none] (⟨rfl, rfl, trivial⟩) ?_
                        exact ih_0 N47_ hb0_N47_ r1_ (show (zkS d_ N47_).head? ≠ some 1 by exact r4_) (show zrk F_ K_ (if a0_ = 0 then 2 else 4 : Nat) (zkS d_ Mz).length (zkS d_ Mz, zkW F_ d_ Mz, zkG d_ Mz) = zrk F_ K_ (if a0_ = 0 then 2 else 4 : Nat) (zkS d_ N47_).length (zkS d_ N47_, zkW F_ d_ N47_, zkG d_ N47_) by exact hrk_) (show zLow d_ Mz N47_ by exact zLow.tr (by assumption) hlw_) (by (exact zo_54 eD33_2_N19_ eD33_2_N40_ eD33_2_N47_ hc_4 hlt_0 hvN17_ q1_.2))
                    · skip
                      have hi_ := ha130_0_hp0_N45_
                      rw [hz_] at hi_
                      show zW l m_Calc_reckon (zn Mz + 0, zw Mz + 0) N40_ 133 [some (.ref (d_ + 33)), some (.int (Int32.ofInt a0_)), some (.int (Int32.ofInt v14_)), some (.int (Int32.ofInt ((20 + ze N1_ (d_ + 33) 3)))), some (.int (Int32.ofInt 1))] [.int (Int32.ofInt 0), .ref (d_ + 33)] _
                      refine zr_if_eq (pc := 133) (tgt := 140) ⟨(by decide), (by decide)⟩ (by decide) d_Calc_reckon_133 (fun hc_133 => ?_) (fun hc_133 => ?_)
                      · skip
                        refine zw_iconst (pc := 140) (v := Int32.ofInt 0) (by decide) d_Calc_reckon_140 ?_
                        refine zk_callV hf_N40_.x (pc := 141) [.int (Int32.ofInt 0)] [] l_Calc_85 (u_Calc_settle l d_ N40_ (hf_N40_.w hW) 0 (by decide) (by decide) (by (decide)) F_ K_ hA_ c42_ (show 1 ≤ ze N40_ (d_ + 33) 3 by first | assumption | (exact zo_48 eD33_3_N17_ eD33_3_N40_ hc_12 hvN19_ rD33_3_N19_.1)) (show ze N40_ (d_ + 33) 3 ≤ 18 by first | assumption | (exact zo_46 eD33_3_N17_ eD33_3_N40_ hb_.2.1 hb_.2.2.1 hb_.2.2.2 hvN19_ q5_))) rfl rfl ((hf_N40_.w hW).kr (o := 33) (by decide)) (by decide) (by decide) (Nat.le_of_ble_eq_true rfl) d_Calc_reckon_141 ?_
                        rintro _ N50_ ⟨rfl, hsN50_, ⟨hp0_N50_, hp1_N50_⟩⟩
                        have hf_N50_ : zFc d_ [] [] [(33, 2), (33, 3), (33, 6)] [25, 27] Mz N50_ := hf_N40_.tr hsN50_ (by decide) (by decide) (by decide) (by decide)
                        have hb0_N50_ : zFc d_ [] [] [(33, 2), (33, 3), (33, 6)] [25, 27] Mz N50_ := hb0_N40_.tr hsN50_ (by decide) (by decide) (by decide) (by decide)
                        have eD33_2_N50_ : ze N50_ (d_ + 33) 2 = ze N40_ (d_ + 33) 2 := hsN50_.e (by decide)
                        have eD33_3_N50_ : ze N50_ (d_ + 33) 3 = ze N40_ (d_ + 33) 3 := hsN50_.e (by decide)
                        have eD33_4_N50_ : ze N50_ (d_ + 33) 4 = ze N40_ (d_ + 33) 4 := hsN50_.e (by decide)
                        have eD33_5_N50_ : ze N50_ (d_ + 33) 5 = ze N40_ (d_ + 33) 5 := hsN50_.e (by decide)
                        have rD33_6_N50_ := ze_r N50_ (d_ + 33) 6
                        have c52_ : zKm F_ K_ d_ N50_ := zKm.fr (hf_N40_.w hW) hsN50_ c42_ (by decide)
                        show zW l m_Calc_reckon (zn Mz + 0, zw Mz + 0) N50_ 144 [some (.ref (d_ + 33)), some (.int (Int32.ofInt a0_)), some (.int (Int32.ofInt v14_)), some (.int (Int32.ofInt ((20 + ze N1_ (d_ + 33) 3)))), some (.int (Int32.ofInt 1))] [] _
                        have ho0_ := hp0_N50_
                        have ho1_ := hp1_N50_
                        rw [show 20 + ze N40_ (d_ + 33) 3 = (19 + ze N1_ (d_ + 33) 3) by (exact zo_49 eD33_3_N17_ eD33_3_N40_ hc_12 hp0_N43_ hv44_b hvN19_)] at ho1_
                        have hok_ : zOk F_ d_ N19_ N50_ (19 + ze N1_ (d_ + 33) 3) (zop F_ K_ (zsgn v14_) (zvc F_ d_ N1_ (19 + ze N1_ (d_ + 33) 3)) (zvc F_ d_ N1_ (20 + ze N1_ (d_ + 33) 3))) ((zsgn v14_ = 4 → zmok F_ K_ (zvc F_ d_ N1_ (19 + ze N1_ (d_ + 33) 3)) (zvc F_ d_ N1_ (20 + ze N1_ (d_ + 33) 3))) ∧ zfit F_ K_ (zop F_ K_ (zsgn v14_) (zvc F_ d_ N1_ (19 + ze N1_ (d_ + 33) 3)) (zvc F_ d_ N1_ (20 + ze N1_ (d_ + 33) 3)))) := by first | exact zOk_1 hF27_ (by omega) hsh_ hnr_ (by omega) ⟨fun h4_ => by first | exact hm1_ | exact absurd h4_ (zDf_4 hfc_), hi_⟩ (ho0_ rfl).1 (ho0_ rfl).2 | exact zOk_2 hF27_ (by (exact zo_32 hc_12)) hsh_ (fun q_ => hi_ q_.2) (ho1_ rfl).2 (zone_z 0) (ho1_ rfl).1 | exact zOk_3 hF27_ (by omega) hrw_ (fun q_ => hm0_ (q_.1 (by rw [hc4_]; rfl))) (ho1_ rfl).2 (zone_z 0) (ho1_ rfl).1
                        obtain ⟨r1_, r2_, r3_, r4_⟩ := zrk_st (F := F_) hci_ hcc_ (by (exact zo_1 hc_4)) htc_ (fun i => (hsN50_.r (by decide) i).trans ((hsN40_.r (by decide) i).trans ((hsN19_.r (by decide) i).trans (hsN17_.r (by decide) i)))) (by (exact zo_50 eD33_2_N19_ eD33_2_N40_ eD33_2_N50_ hc_4 hvN17_ rD33_2_N17_.2)) (by (exact zo_51 eD33_3_N17_ eD33_3_N40_ eD33_3_N50_ hc_12 hp0_N43_ hv44_b hvN19_)) (by (exact zo_52 eD33_4_N17_ eD33_4_N19_ eD33_4_N40_ eD33_4_N50_)) (by (exact zo_52 eD33_5_N17_ eD33_5_N19_ eD33_5_N40_ eD33_5_N50_)) (by (exact zo_53 eD33_6_N17_ eD33_6_N19_)) hv2_ rfl rfl Iff.rfl hok_
                        have hrk_ := zrk_b (show zrk F_ K_ (if a0_ = 0 then 2 else 4 : Nat) (zkS d_ Mz).length (zkS d_ Mz, zkW F_ d_ Mz, zkG d_ Mz) = zrk F_ K_ (if a0_ = 0 then 2 else 4 : Nat) (zkS d_ N1_).length (zkS d_ N1_, zkW F_ d_ N1_, zkG d_ N1_) by assumption) r2_ (hXc_.resolve_left id) r3_
                        have hlw_ := (zLow.f hsN17_ (by decide)).tr ((zLow.f hsN19_ (by decide)).tr hok_.2.1)
                        refine zw_goto (pc := 144) (tgt := 0) (by decide) d_Calc_reckon_144 ?_
                        refine zW_le [some (.ref (d_ + 33)), some (.int (Int32.ofInt a0_)), none, none, none] (⟨rfl, rfl, trivial⟩) ?_
                        exact ih_0 N50_ hb0_N50_ r1_ (show (zkS d_ N50_).head? ≠ some 1 by exact r4_) (show zrk F_ K_ (if a0_ = 0 then 2 else 4 : Nat) (zkS d_ Mz).length (zkS d_ Mz, zkW F_ d_ Mz, zkG d_ Mz) = zrk F_ K_ (if a0_ = 0 then 2 else 4 : Nat) (zkS d_ N50_).length (zkS d_ N50_, zkW F_ d_ N50_, zkG d_ N50_) by exact hrk_) (show zLow d_ Mz N50_ by exact zLow.tr (by assumption) hlw_) (by (exact zo_54 eD33_2_N19_ eD33_2_N40_ eD33_2_N50_ hc_4 hlt_0 hvN17_ q1_.2))
                      · skip
                        exact absurd hc_133 (by decide)
                · skip
                  have hm0_ := ha85_0_hp0_N40_
                  have hrw_ := ha85_1_hp0_N40_
                  rw [hv2_, hv2_] at hm0_
                  have hc4_ : v14_ = 42 := by assumption
                  show zW l m_Calc_reckon (zn Mz + 0, zw Mz + 0) N40_ 88 [some (.ref (d_ + 33)), some (.int (Int32.ofInt a0_)), some (.int (Int32.ofInt v14_)), some (.int (Int32.ofInt ((20 + ze N1_ (d_ + 33) 3)))), some (.int (Int32.ofInt 1))] [.int (Int32.ofInt 0)] _
                  refine zw_istore (pc := 88) (i := 4) (L2 := [some (.ref (d_ + 33)), some (.int (Int32.ofInt a0_)), some (.int (Int32.ofInt v14_)), some (.int (Int32.ofInt ((20 + ze N1_ (d_ + 33) 3)))), some (.int (Int32.ofInt 0))]) (by decide) rfl (zdal_p dlA_Calc_reckon_154 (i := 22) rfl) ?_
                  refine zw_goto (pc := 90) (tgt := 116) (by decide) (zdal_p dlA_Calc_reckon_154 (i := 23) rfl) ?_
                  refine zw_aload_n (pc := 116) (n := 0) (x := (d_ + 33)) rfl d_Calc_reckon_116 ?_
                  refine zw_iload (pc := 117) (i := 4) (x := Int32.ofInt 0) rfl d_Calc_reckon_117 ?_
                  refine zr_if_eq (pc := 119) (tgt := 140) ⟨(by decide), (by decide)⟩ (by decide) d_Calc_reckon_119 (fun hc_119 => ?_) (fun hc_119 => ?_)
                  · skip
                    refine zw_iconst (pc := 140) (v := Int32.ofInt 0) (by decide) d_Calc_reckon_140 ?_
                    refine zk_callV hf_N40_.x (pc := 141) [.int (Int32.ofInt 0)] [] l_Calc_85 (u_Calc_settle l d_ N40_ (hf_N40_.w hW) 0 (by decide) (by decide) (by (decide)) F_ K_ hA_ c42_ (show 1 ≤ ze N40_ (d_ + 33) 3 by first | assumption | (exact zo_48 eD33_3_N17_ eD33_3_N40_ hc_12 hvN19_ rD33_3_N19_.1)) (show ze N40_ (d_ + 33) 3 ≤ 18 by first | assumption | (exact zo_46 eD33_3_N17_ eD33_3_N40_ hb_.2.1 hb_.2.2.1 hb_.2.2.2 hvN19_ q5_))) rfl rfl ((hf_N40_.w hW).kr (o := 33) (by decide)) (by decide) (by decide) (Nat.le_of_ble_eq_true rfl) d_Calc_reckon_141 ?_
                    rintro _ N53_ ⟨rfl, hsN53_, ⟨hp0_N53_, hp1_N53_⟩⟩
                    have hf_N53_ : zFc d_ [] [] [(33, 2), (33, 3), (33, 6)] [25, 27] Mz N53_ := hf_N40_.tr hsN53_ (by decide) (by decide) (by decide) (by decide)
                    have hb0_N53_ : zFc d_ [] [] [(33, 2), (33, 3), (33, 6)] [25, 27] Mz N53_ := hb0_N40_.tr hsN53_ (by decide) (by decide) (by decide) (by decide)
                    have eD33_2_N53_ : ze N53_ (d_ + 33) 2 = ze N40_ (d_ + 33) 2 := hsN53_.e (by decide)
                    have eD33_3_N53_ : ze N53_ (d_ + 33) 3 = ze N40_ (d_ + 33) 3 := hsN53_.e (by decide)
                    have eD33_4_N53_ : ze N53_ (d_ + 33) 4 = ze N40_ (d_ + 33) 4 := hsN53_.e (by decide)
                    have eD33_5_N53_ : ze N53_ (d_ + 33) 5 = ze N40_ (d_ + 33) 5 := hsN53_.e (by decide)
                    have rD33_6_N53_ := ze_r N53_ (d_ + 33) 6
                    have c55_ : zKm F_ K_ d_ N53_ := zKm.fr (hf_N40_.w hW) hsN53_ c42_ (by decide)
                    show zW l m_Calc_reckon (zn Mz + 0, zw Mz + 0) N53_ 144 [some (.ref (d_ + 33)), some (.int (Int32.ofInt a0_)), some (.int (Int32.ofInt v14_)), some (.int (Int32.ofInt ((20 + ze N1_ (d_ + 33) 3)))), some (.int (Int32.ofInt 0))] [] _
                    have ho0_ := hp0_N53_
                    have ho1_ := hp1_N53_
                    rw [show 20 + ze N40_ (d_ + 33) 3 = (19 + ze N1_ (d_ + 33) 3) by (exact zo_55 eD33_3_N17_ eD33_3_N40_ hc_12 hvN19_ rD33_3_N19_.2)] at ho1_
                    have hok_ : zOk F_ d_ N19_ N53_ (19 + ze N1_ (d_ + 33) 3) (zop F_ K_ (zsgn v14_) (zvc F_ d_ N1_ (19 + ze N1_ (d_ + 33) 3)) (zvc F_ d_ N1_ (20 + ze N1_ (d_ + 33) 3))) ((zsgn v14_ = 4 → zmok F_ K_ (zvc F_ d_ N1_ (19 + ze N1_ (d_ + 33) 3)) (zvc F_ d_ N1_ (20 + ze N1_ (d_ + 33) 3))) ∧ zfit F_ K_ (zop F_ K_ (zsgn v14_) (zvc F_ d_ N1_ (19 + ze N1_ (d_ + 33) 3)) (zvc F_ d_ N1_ (20 + ze N1_ (d_ + 33) 3)))) := by first | exact zOk_1 hF27_ (by omega) hsh_ hnr_ (by omega) ⟨fun h4_ => by first | exact hm1_ | exact absurd h4_ (zDf_4 hfc_), hi_⟩ (ho0_ rfl).1 (ho0_ rfl).2 | exact zOk_2 hF27_ (by omega) hsh_ (fun q_ => hi_ q_.2) (ho1_ rfl).2 (zone_z 0) (ho1_ rfl).1 | exact zOk_3 hF27_ (by (exact zo_32 hc_12)) hrw_ (fun q_ => hm0_ (q_.1 (by rw [hc4_]; rfl))) (ho1_ rfl).2 (zone_z 0) (ho1_ rfl).1
                    obtain ⟨r1_, r2_, r3_, r4_⟩ := zrk_st (F := F_) hci_ hcc_ (by (exact zo_1 hc_4)) htc_ (fun i => (hsN53_.r (by decide) i).trans ((hsN40_.r (by decide) i).trans ((hsN19_.r (by decide) i).trans (hsN17_.r (by decide) i)))) (by (exact zo_50 eD33_2_N19_ eD33_2_N40_ eD33_2_N53_ hc_4 hvN17_ rD33_2_N17_.2)) (by (exact zo_56 eD33_3_N17_ eD33_3_N40_ eD33_3_N53_ hc_12 hvN19_ rD33_3_N19_.2)) (by (exact zo_52 eD33_4_N17_ eD33_4_N19_ eD33_4_N40_ eD33_4_N53_)) (by (exact zo_52 eD33_5_N17_ eD33_5_N19_ eD33_5_N40_ eD33_5_N53_)) (by (exact zo_53 eD33_6_N17_ eD33_6_N19_)) hv2_ rfl rfl Iff.rfl hok_
                    have hrk_ := zrk_b (show zrk F_ K_ (if a0_ = 0 then 2 else 4 : Nat) (zkS d_ Mz).length (zkS d_ Mz, zkW F_ d_ Mz, zkG d_ Mz) = zrk F_ K_ (if a0_ = 0 then 2 else 4 : Nat) (zkS d_ N1_).length (zkS d_ N1_, zkW F_ d_ N1_, zkG d_ N1_) by assumption) r2_ (hXc_.resolve_left id) r3_
                    have hlw_ := (zLow.f hsN17_ (by decide)).tr ((zLow.f hsN19_ (by decide)).tr hok_.2.1)
                    refine zw_goto (pc := 144) (tgt := 0) (by decide) d_Calc_reckon_144 ?_
                    refine zW_le [some (.ref (d_ + 33)), some (.int (Int32.ofInt a0_)), none, none, none] (⟨rfl, rfl, trivial⟩) ?_
                    exact ih_0 N53_ hb0_N53_ r1_ (show (zkS d_ N53_).head? ≠ some 1 by exact r4_) (show zrk F_ K_ (if a0_ = 0 then 2 else 4 : Nat) (zkS d_ Mz).length (zkS d_ Mz, zkW F_ d_ Mz, zkG d_ Mz) = zrk F_ K_ (if a0_ = 0 then 2 else 4 : Nat) (zkS d_ N53_).length (zkS d_ N53_, zkW F_ d_ N53_, zkG d_ N53_) by exact hrk_) (show zLow d_ Mz N53_ by exact zLow.tr (by assumption) hlw_) (by (exact zo_54 eD33_2_N19_ eD33_2_N40_ eD33_2_N53_ hc_4 hlt_0 hvN17_ q1_.2))
                  · skip
                    exact absurd hc_119 (by decide)
            refine zr_icmp_eq (pc := 30) (tgt := 37) ⟨hv11_a, hv11_b⟩ ⟨(by decide), (by decide)⟩ (by decide) (zdal_p dlA_Calc_reckon_153 (i := 14) rfl) (fun hc_30 => ?_) (fun hc_30 => ?_)
            · skip
              exact j_37 (show zDj (ze N1_ (d_ + 35) (ze N1_ (d_ + 33) 2 - 1).toNat = 42) (a0_ = 0) by first | (refine Or.inl ?_; rw [← htb_]; assumption) | (refine Or.inr ?_; assumption))
            · skip
              refine zw_iload_n (pc := 33) (n := 1) (x := Int32.ofInt a0_) rfl (zdal_p dlA_Calc_reckon_153 (i := 15) rfl) ?_
              refine zr_if_ne (pc := 34) (tgt := 147) ⟨ha0_a, ha0_b⟩ (by decide) (zdal_p dlA_Calc_reckon_153 (i := 16) rfl) (fun hc_34 => ?_) (fun hc_34 => ?_)
              · skip
                have hx_ : (∀ y, (zkS d_ N1_).head? = some y → y < (if a0_ = 0 then 2 else 4 : Nat)) := by first | (intro y_ hy_; rw [zkS_0 (d := d_) (Mz := N1_) (by assumption)] at hy_; cases hy_) | (have hv1_ : ze N1_ (d_ + 33) 3 ≤ 1 := (by assumption); intro y_ hy_; have h_ := zbn_h (show zbn (zkS d_ N1_) = 0 by omega) hy_; split <;> omega) | (intro y_ hy_; rw [zkS_h (d := d_) (Mz := N1_) (by (exact zo_1 hc_4)) ht_, hc_21] at hy_; injection hy_ with hy_; rw [← hy_]; split <;> decide) | (intro y_ hy_; rw [zkS_h (d := d_) (Mz := N1_) (by (exact zo_1 hc_4)) htb_] at hy_; injection hy_ with hy_; rw [if_neg (by assumption), ← hy_]; exact zsgn_l4 (by rw [htb_]; exact q2_ _ (by (exact zo_2 hc_4))) (by assumption))
                have he_ := zrk_e (F := F_) (K := K_) (x := (if a0_ = 0 then 2 else 4 : Nat)) (t := (zkS d_ N1_, zkW F_ d_ N1_, zkG d_ N1_)) hx_ (zkS d_ N1_).length
                rw [← (show zrk F_ K_ (if a0_ = 0 then 2 else 4 : Nat) (zkS d_ Mz).length (zkS d_ Mz, zkW F_ d_ Mz, zkG d_ Mz) = zrk F_ K_ (if a0_ = 0 then 2 else 4 : Nat) (zkS d_ N1_).length (zkS d_ N1_, zkW F_ d_ N1_, zkG d_ N1_) by assumption)] at he_
                exact zk_vret (pc := 147) rfl hf_N1_ ⟨i3_, (show (zkS d_ N1_, zkW F_ d_ N1_, zkG d_ N1_) = zrk F_ K_ (if a0_ = 0 then 2 else 4 : Nat) (zkS d_ Mz).length (zkS d_ Mz, zkW F_ d_ Mz, zkG d_ Mz) by exact he_.symm), (show zLow d_ Mz N1_ by first | assumption | omega), (show (zkS d_ N1_).head? ≠ some 1 by first | assumption | omega), (show (∀ y, (zkS d_ N1_).head? = some y → y < (if a0_ = 0 then 2 else 4 : Nat)) by exact hx_)⟩ d_Calc_reckon_147
              · skip
                exact j_37 (show zDj (ze N1_ (d_ + 35) (ze N1_ (d_ + 33) 2 - 1).toNat = 42) (a0_ = 0) by first | (refine Or.inl ?_; rw [← htb_]; assumption) | (refine Or.inr ?_; assumption))
  exact lp_0 _ Mz zFc.rf p1_ (show (zkS d_ Mz).head? ≠ some 1 by first | assumption | omega) (show zrk F_ K_ (if a0_ = 0 then 2 else 4 : Nat) (zkS d_ Mz).length (zkS d_ Mz, zkW F_ d_ Mz, zkG d_ Mz) = zrk F_ K_ (if a0_ = 0 then 2 else 4 : Nat) (zkS d_ Mz).length (zkS d_ Mz, zkW F_ d_ Mz, zkG d_ Mz) by rfl) (show zLow d_ Mz Mz by exact zLow.rf) (Nat.lt_succ_self _)
set_option maxHeartbeats 4000000 in
theorem u_Calc_put (l : Launch) (d_ : Nat) (Mz : zMem) (hW : zKW d_ Mz) (a0_ : Int) (ha0_a : -2147483648 ≤ a0_) (ha0_b : a0_ < 2147483648) (F_ : Nat) (K_ : Nat → Nat → Int) (hA_ : zTA F_ K_) (p0_ : zKm F_ K_ d_ Mz) (p1_ : zCI F_ K_ d_ 1 Mz) (p2_ : (zkS d_ Mz).head? ≠ some 1) (p3_ : (a0_ = 42 ∨ a0_ = 43 ∨ a0_ = 45)) : zC l m_Calc_put 0 0 [.ref (d_ + 33), .int (Int32.ofInt a0_)] Mz (zqcV d_ [] [] [(33, 2), (33, 3), (33, 6)] [25, 27, 35] Mz (fun N => zCI F_ K_ d_ 0 N ∧ zkS d_ N = zsgn a0_ :: (zrk F_ K_ (if a0_ = 42 then 4 else 2 : Nat) (zkS d_ Mz).length (zkS d_ Mz, zkW F_ d_ Mz, zkG d_ Mz)).1 ∧ zkW F_ d_ N = (zrk F_ K_ (if a0_ = 42 then 4 else 2 : Nat) (zkS d_ Mz).length (zkS d_ Mz, zkW F_ d_ Mz, zkG d_ Mz)).2.1 ∧ zkG d_ N = (zrk F_ K_ (if a0_ = 42 then 4 else 2 : Nat) (zkS d_ Mz).length (zkS d_ Mz, zkW F_ d_ Mz, zkG d_ Mz)).2.2 ∧ zLow d_ Mz N)) := by
  refine zC_of (L0 := [some (.ref (d_ + 33)), some (.int (Int32.ofInt a0_))]) md_Calc_put (Nat.le_of_ble_eq_true rfl) rfl ?_ zQ0
  have hf : zFc d_ [] [] [(33, 2), (33, 3), (33, 6)] [25, 27, 35] Mz Mz := zFc.rf
  have r_D33_2 := ze_r Mz (d_ + 33) 2
  have r_D33_3 := ze_r Mz (d_ + 33) 3
  have r_D33_4 := ze_r Mz (d_ + 33) 4
  have r_D33_5 := ze_r Mz (d_ + 33) 5
  have r_D33_6 := ze_r Mz (d_ + 33) 6
  obtain ⟨⟨hF1_, hF27_⟩, hAr_⟩ := id hA_
  obtain ⟨hFc_, hKt_⟩ := id p0_
  refine zw_aload_n (pc := 0) (n := 0) (x := (d_ + 33)) rfl (zdal_p dlA_Calc_put_160 (i := 0) rfl) ?_
  refine zw_iload_n (pc := 1) (n := 1) (x := Int32.ofInt a0_) rfl (zdal_p dlA_Calc_put_160 (i := 1) rfl) ?_
  refine zw_bipush (pc := 2) (v := Int32.ofInt 42) (by decide) (zdal_p dlA_Calc_put_160 (i := 2) rfl) ?_
  refine zr_icmp_ne (pc := 4) (tgt := 11) ⟨ha0_a, ha0_b⟩ ⟨(by decide), (by decide)⟩ (by decide) (zdal_p dlA_Calc_put_160 (i := 3) rfl) (fun hc_4 => ?_) (fun hc_4 => ?_)
  · skip
    refine zw_iconst (pc := 11) (v := Int32.ofInt 0) (by decide) (zdal_p dlA_Calc_put_160 (i := 6) rfl) ?_
    refine zk_callV hf.x (pc := 12) [.int (Int32.ofInt 0)] [] l_Calc_95 (u_Calc_reckon l d_ Mz (hf.w hW) 0 (by decide) (by decide) (by (decide)) F_ K_ hA_ p0_ p1_ (show (zkS d_ Mz).head? ≠ some 1 by first | assumption | omega)) rfl rfl ((hf.w hW).kr (o := 33) (by decide)) (by decide) (by decide) (Nat.le_of_ble_eq_true rfl) (zdal_p dlA_Calc_put_160 (i := 7) rfl) ?_
    rintro _ N1_ ⟨rfl, hsN1_, ⟨hp0_N1_, hp1_N1_, hp2_N1_, hp3_N1_, hp4_N1_⟩⟩
    have hf_N1_ : zFc d_ [] [] [(33, 2), (33, 3), (33, 6)] [25, 27, 35] Mz N1_ := hf.tr hsN1_ (by decide) (by decide) (by decide) (by decide)
    have rD33_2_N1_ := ze_r N1_ (d_ + 33) 2
    have rD33_3_N1_ := ze_r N1_ (d_ + 33) 3
    have eD33_4_N1_ : ze N1_ (d_ + 33) 4 = ze Mz (d_ + 33) 4 := hsN1_.e (by decide)
    have eD33_5_N1_ : ze N1_ (d_ + 33) 5 = ze Mz (d_ + 33) 5 := hsN1_.e (by decide)
    have rD33_6_N1_ := ze_r N1_ (d_ + 33) 6
    have c3_ : zKm F_ K_ d_ N1_ := zKm.fr (hf.w hW) hsN1_ p0_ (by decide)
    show zW l m_Calc_put (zn Mz + 0, zw Mz + 0) N1_ 15 [some (.ref (d_ + 33)), some (.int (Int32.ofInt a0_))] [] _
    have hci_ := hp0_N1_
    have hb_ := hci_.b
    obtain ⟨q1_, q2_, q3_, q4_, q5_, q6_, q7_, q8_, q9_⟩ := id hci_
    have hT_ := hp1_N1_
    have hl_ := hp2_N1_
    have hd_ := hp3_N1_
    have hxx_ := hp4_N1_
    first | rw [if_neg (by decide : ¬ (1 : Int) = 0)] at hT_ hxx_ | rw [if_pos (rfl : (0 : Int) = 0)] at hT_ hxx_
    have hwp_ : ∀ y, (zkS d_ N1_).head? = some y → zwp (zsgn a0_) y := fun y_ hy_ => by have g_ := hxx_ y_ hy_; have g1_ : y_ ≠ 1 := fun e_ => hd_ (by rw [hy_, e_]); first | (rw [show a0_ = 42 by omega]; exact zwp_4 g_ g1_) | exact zwp_2 (by omega) g_ g1_
    refine zw_aload_n (pc := 15) (n := 0) (x := (d_ + 33)) rfl (zdal_p dlA_Calc_put_160 (i := 8) rfl) ?_
    refine zw_iload_n (pc := 16) (n := 1) (x := Int32.ofInt a0_) rfl (zdal_p dlA_Calc_put_160 (i := 9) rfl) ?_
    refine zk_callV hf_N1_.x (pc := 17) [.int (Int32.ofInt a0_)] [] l_Calc_55 (u_Calc_pushSign l d_ N1_ (hf_N1_.w hW) a0_ ha0_a ha0_b (show 0 ≤ ze N1_ (d_ + 33) 2 by first | assumption | (exact zo_57 q1_.1)) (show ze N1_ (d_ + 33) 2 ≤ 23 by first | assumption | (exact zo_58 hb_.1 hb_.2.2.2 q1_.2))) rfl rfl ((hf_N1_.w hW).kr (o := 33) (by decide)) (by decide) (by decide) (Nat.le_of_ble_eq_true rfl) (zdal_p dlA_Calc_put_160 (i := 10) rfl) ?_
    rintro _ N4_ ⟨rfl, hsN4_, ⟨hp0_N4_, hp1_N4_, hp2_N4_⟩⟩
    have hf_N4_ : zFc d_ [] [] [(33, 2), (33, 3), (33, 6)] [25, 27, 35] Mz N4_ := hf_N1_.tr hsN4_ (by decide) (by decide) (by decide) (by decide)
    have rD33_2_N4_ := ze_r N4_ (d_ + 33) 2
    have eD33_3_N4_ : ze N4_ (d_ + 33) 3 = ze N1_ (d_ + 33) 3 := hsN4_.e (by decide)
    have eD33_4_N4_ : ze N4_ (d_ + 33) 4 = ze N1_ (d_ + 33) 4 := hsN4_.e (by decide)
    have eD33_5_N4_ : ze N4_ (d_ + 33) 5 = ze N1_ (d_ + 33) 5 := hsN4_.e (by decide)
    have eD33_6_N4_ : ze N4_ (d_ + 33) 6 = ze N1_ (d_ + 33) 6 := hsN4_.e (by decide)
    have c6_ : zKm F_ K_ d_ N4_ := zKm.fr (hf_N1_.w hW) hsN4_ c3_ (by decide)
    show zW l m_Calc_put (zn Mz + 0, zw Mz + 0) N4_ 20 [some (.ref (d_ + 33)), some (.int (Int32.ofInt a0_))] [] _
    have hf_ := zCI_bs (F := F_) (Nz := N4_) hci_ (show _ by (exact p3_)) hwp_ hp0_N4_ hp1_N4_ hp2_N4_ (by (exact eD33_3_N4_)) (by (exact eD33_4_N4_)) (by (exact eD33_5_N4_)) (by (exact eD33_6_N4_)) (fun t => zvc_f hsN4_ (by decide) t)
    obtain ⟨r1_, r2_, r3_, r4_⟩ := hf_
    exact zk_vret (pc := 20) rfl hf_N4_ ⟨r1_, (show zkS d_ N4_ = zsgn a0_ :: (zrk F_ K_ (if a0_ = 42 then 4 else 2 : Nat) (zkS d_ Mz).length (zkS d_ Mz, zkW F_ d_ Mz, zkG d_ Mz)).1 by (first | rw [if_pos (show a0_ = 42 by omega)] | rw [if_neg (show ¬ a0_ = 42 by (exact zo_59 hc_4))]); rw [← hT_]; exact r2_), (show zkW F_ d_ N4_ = (zrk F_ K_ (if a0_ = 42 then 4 else 2 : Nat) (zkS d_ Mz).length (zkS d_ Mz, zkW F_ d_ Mz, zkG d_ Mz)).2.1 by (first | rw [if_pos (show a0_ = 42 by omega)] | rw [if_neg (show ¬ a0_ = 42 by (exact zo_59 hc_4))]); rw [← hT_]; exact r3_), (show zkG d_ N4_ = (zrk F_ K_ (if a0_ = 42 then 4 else 2 : Nat) (zkS d_ Mz).length (zkS d_ Mz, zkW F_ d_ Mz, zkG d_ Mz)).2.2 by (first | rw [if_pos (show a0_ = 42 by omega)] | rw [if_neg (show ¬ a0_ = 42 by (exact zo_59 hc_4))]); rw [← hT_]; exact r4_), (show zLow d_ Mz N4_ by exact hl_.tr (zLow.f hsN4_ (by decide)))⟩ (zdal_p dlA_Calc_put_160 (i := 11) rfl)
  · skip
    refine zw_iconst (pc := 7) (v := Int32.ofInt 1) (by decide) (zdal_p dlA_Calc_put_160 (i := 4) rfl) ?_
    refine zw_goto (pc := 8) (tgt := 12) (by decide) (zdal_p dlA_Calc_put_160 (i := 5) rfl) ?_
    refine zk_callV hf.x (pc := 12) [.int (Int32.ofInt 1)] [] l_Calc_95 (u_Calc_reckon l d_ Mz (hf.w hW) 1 (by decide) (by decide) (by (decide)) F_ K_ hA_ p0_ p1_ (show (zkS d_ Mz).head? ≠ some 1 by first | assumption | omega)) rfl rfl ((hf.w hW).kr (o := 33) (by decide)) (by decide) (by decide) (Nat.le_of_ble_eq_true rfl) (zdal_p dlA_Calc_put_160 (i := 7) rfl) ?_
    rintro _ N7_ ⟨rfl, hsN7_, ⟨hp0_N7_, hp1_N7_, hp2_N7_, hp3_N7_, hp4_N7_⟩⟩
    have hf_N7_ : zFc d_ [] [] [(33, 2), (33, 3), (33, 6)] [25, 27, 35] Mz N7_ := hf.tr hsN7_ (by decide) (by decide) (by decide) (by decide)
    have rD33_2_N7_ := ze_r N7_ (d_ + 33) 2
    have rD33_3_N7_ := ze_r N7_ (d_ + 33) 3
    have eD33_4_N7_ : ze N7_ (d_ + 33) 4 = ze Mz (d_ + 33) 4 := hsN7_.e (by decide)
    have eD33_5_N7_ : ze N7_ (d_ + 33) 5 = ze Mz (d_ + 33) 5 := hsN7_.e (by decide)
    have rD33_6_N7_ := ze_r N7_ (d_ + 33) 6
    have c9_ : zKm F_ K_ d_ N7_ := zKm.fr (hf.w hW) hsN7_ p0_ (by decide)
    show zW l m_Calc_put (zn Mz + 0, zw Mz + 0) N7_ 15 [some (.ref (d_ + 33)), some (.int (Int32.ofInt a0_))] [] _
    have hci_ := hp0_N7_
    have hb_ := hci_.b
    obtain ⟨q1_, q2_, q3_, q4_, q5_, q6_, q7_, q8_, q9_⟩ := id hci_
    have hT_ := hp1_N7_
    have hl_ := hp2_N7_
    have hd_ := hp3_N7_
    have hxx_ := hp4_N7_
    first | rw [if_neg (by decide : ¬ (1 : Int) = 0)] at hT_ hxx_ | rw [if_pos (rfl : (0 : Int) = 0)] at hT_ hxx_
    have hwp_ : ∀ y, (zkS d_ N7_).head? = some y → zwp (zsgn a0_) y := fun y_ hy_ => by have g_ := hxx_ y_ hy_; have g1_ : y_ ≠ 1 := fun e_ => hd_ (by rw [hy_, e_]); first | (rw [show a0_ = 42 by (exact hc_4)]; exact zwp_4 g_ g1_) | exact zwp_2 (by omega) g_ g1_
    refine zw_aload_n (pc := 15) (n := 0) (x := (d_ + 33)) rfl (zdal_p dlA_Calc_put_160 (i := 8) rfl) ?_
    refine zw_iload_n (pc := 16) (n := 1) (x := Int32.ofInt a0_) rfl (zdal_p dlA_Calc_put_160 (i := 9) rfl) ?_
    refine zk_callV hf_N7_.x (pc := 17) [.int (Int32.ofInt a0_)] [] l_Calc_55 (u_Calc_pushSign l d_ N7_ (hf_N7_.w hW) a0_ ha0_a ha0_b (show 0 ≤ ze N7_ (d_ + 33) 2 by first | assumption | (exact zo_57 q1_.1)) (show ze N7_ (d_ + 33) 2 ≤ 23 by first | assumption | (exact zo_58 hb_.1 hb_.2.2.2 q1_.2))) rfl rfl ((hf_N7_.w hW).kr (o := 33) (by decide)) (by decide) (by decide) (Nat.le_of_ble_eq_true rfl) (zdal_p dlA_Calc_put_160 (i := 10) rfl) ?_
    rintro _ N10_ ⟨rfl, hsN10_, ⟨hp0_N10_, hp1_N10_, hp2_N10_⟩⟩
    have hf_N10_ : zFc d_ [] [] [(33, 2), (33, 3), (33, 6)] [25, 27, 35] Mz N10_ := hf_N7_.tr hsN10_ (by decide) (by decide) (by decide) (by decide)
    have rD33_2_N10_ := ze_r N10_ (d_ + 33) 2
    have eD33_3_N10_ : ze N10_ (d_ + 33) 3 = ze N7_ (d_ + 33) 3 := hsN10_.e (by decide)
    have eD33_4_N10_ : ze N10_ (d_ + 33) 4 = ze N7_ (d_ + 33) 4 := hsN10_.e (by decide)
    have eD33_5_N10_ : ze N10_ (d_ + 33) 5 = ze N7_ (d_ + 33) 5 := hsN10_.e (by decide)
    have eD33_6_N10_ : ze N10_ (d_ + 33) 6 = ze N7_ (d_ + 33) 6 := hsN10_.e (by decide)
    have c12_ : zKm F_ K_ d_ N10_ := zKm.fr (hf_N7_.w hW) hsN10_ c9_ (by decide)
    show zW l m_Calc_put (zn Mz + 0, zw Mz + 0) N10_ 20 [some (.ref (d_ + 33)), some (.int (Int32.ofInt a0_))] [] _
    have hf_ := zCI_bs (F := F_) (Nz := N10_) hci_ (show _ by (exact p3_)) hwp_ hp0_N10_ hp1_N10_ hp2_N10_ (by (exact eD33_3_N10_)) (by (exact eD33_4_N10_)) (by (exact eD33_5_N10_)) (by (exact eD33_6_N10_)) (fun t => zvc_f hsN10_ (by decide) t)
    obtain ⟨r1_, r2_, r3_, r4_⟩ := hf_
    exact zk_vret (pc := 20) rfl hf_N10_ ⟨r1_, (show zkS d_ N10_ = zsgn a0_ :: (zrk F_ K_ (if a0_ = 42 then 4 else 2 : Nat) (zkS d_ Mz).length (zkS d_ Mz, zkW F_ d_ Mz, zkG d_ Mz)).1 by (first | rw [if_pos (show a0_ = 42 by (exact hc_4))] | rw [if_neg (show ¬ a0_ = 42 by omega)]); rw [← hT_]; exact r2_), (show zkW F_ d_ N10_ = (zrk F_ K_ (if a0_ = 42 then 4 else 2 : Nat) (zkS d_ Mz).length (zkS d_ Mz, zkW F_ d_ Mz, zkG d_ Mz)).2.1 by (first | rw [if_pos (show a0_ = 42 by (exact hc_4))] | rw [if_neg (show ¬ a0_ = 42 by omega)]); rw [← hT_]; exact r3_), (show zkG d_ N10_ = (zrk F_ K_ (if a0_ = 42 then 4 else 2 : Nat) (zkS d_ Mz).length (zkS d_ Mz, zkW F_ d_ Mz, zkG d_ Mz)).2.2 by (first | rw [if_pos (show a0_ = 42 by (exact hc_4))] | rw [if_neg (show ¬ a0_ = 42 by omega)]); rw [← hT_]; exact r4_), (show zLow d_ Mz N10_ by exact hl_.tr (zLow.f hsN10_ (by decide)))⟩ (zdal_p dlA_Calc_put_160 (i := 11) rfl)
set_option maxHeartbeats 4000000 in
theorem u_Calc_close (l : Launch) (d_ : Nat) (Mz : zMem) (hW : zKW d_ Mz) (F_ : Nat) (K_ : Nat → Nat → Int) (hA_ : zTA F_ K_) (p0_ : zCI F_ K_ d_ 1 Mz) (p1_ : (zkS d_ Mz).head? = some 0) : zC l m_Calc_close 0 0 [.ref (d_ + 33)] Mz (zqcV d_ [] [] [(33, 2), (33, 4), (33, 5)] [] Mz (fun N => zCI F_ K_ d_ 1 N ∧ zkS d_ N = (zkS d_ Mz).tail ∧ zkW F_ d_ N = zkW F_ d_ Mz ∧ zkG d_ N = zkG d_ Mz)) := by
  refine zC_of (L0 := [some (.ref (d_ + 33))]) md_Calc_close (Nat.le_of_ble_eq_true rfl) rfl ?_ zQ0
  have hf : zFc d_ [] [] [(33, 2), (33, 4), (33, 5)] [] Mz Mz := zFc.rf
  have r_D33_2 := ze_r Mz (d_ + 33) 2
  have r_D33_3 := ze_r Mz (d_ + 33) 3
  have r_D33_4 := ze_r Mz (d_ + 33) 4
  have r_D33_5 := ze_r Mz (d_ + 33) 5
  have r_D33_6 := ze_r Mz (d_ + 33) 6
  obtain ⟨⟨hF1_, hF27_⟩, hAr_⟩ := id hA_
  have hb_ := p0_.b
  have hz0_ := zop0_le (zkS d_ Mz)
  obtain ⟨q1_, q2_, q3_, q4_, q5_, q6_, q7_, q8_, q9_⟩ := id p0_
  obtain ⟨h1_, h2_⟩ := zkS_h1 p1_
  have h40_ := zsgn_0 (q2_ _ (by (exact zo_60 h1_))) h2_
  refine zw_aload_n (pc := 0) (n := 0) (x := (d_ + 33)) rfl (zdal_p dlA_Calc_close_159 (i := 0) rfl) ?_
  refine zk_getI (pc := 1) f_Calc_24 rfl ((hf.w hW).kr (o := 33) (by decide)) (zdal_p dlA_Calc_close_159 (i := 1) rfl) ?_
  refine zr_if_le (pc := 4) (tgt := 37) ⟨(ze_r Mz (d_ + 33) 2).1, (ze_r Mz (d_ + 33) 2).2⟩ (by decide) (zdal_p dlA_Calc_close_159 (i := 2) rfl) (fun hc_4 => ?_) (fun hc_4 => ?_)
  · skip
    exact zk_vret (pc := 37) rfl hf ⟨p0_, (show zkS d_ Mz = (zkS d_ Mz).tail by first | (exfalso; (exact zo_61 h1_ hc_4)) | (rw [r2_]; rfl)), (show zkW F_ d_ Mz = zkW F_ d_ Mz by exact zkW_f (by (exact zo_62)) (zkV_f (by (exact zo_62)) (fun t _ _ => zvc_f hf (by decide) t))), (show zkG d_ Mz = zkG d_ Mz by exact zkG_f (by (exact zo_62)))⟩ (zdal_p dlA_Calc_close_159 (i := 21) rfl)
  · skip
    refine zw_aload_n (pc := 7) (n := 0) (x := (d_ + 33)) rfl (zdal_p dlA_Calc_close_159 (i := 3) rfl) ?_
    refine zw_dup (pc := 8) rfl (zdal_p dlA_Calc_close_159 (i := 4) rfl) ?_
    refine zk_getI (pc := 9) f_Calc_24 rfl ((hf.w hW).kr (o := 33) (by decide)) (zdal_p dlA_Calc_close_159 (i := 5) rfl) ?_
    refine zw_iconst (pc := 12) (v := Int32.ofInt 1) (by decide) (zdal_p dlA_Calc_close_159 (i := 6) rfl) ?_
    refine zr_isub (pc := 13) (zdal_p dlA_Calc_close_159 (i := 7) rfl) ?_
    refine zk_putR (pc := 14) (o := 33) (by decide) f_Calc_24 rfl rfl ((hf.w hW).kr (o := 33) (by decide)) ⟨by (exact zo_63 h1_), by (exact zo_4 q1_.2)⟩ rfl rfl (zdal_p dlA_Calc_close_159 (i := 8) rfl) (fun N1_ hsN1_ hvN1_ => ?_)
    have hf_N1_ : zFc d_ [] [] [(33, 2), (33, 4), (33, 5)] [] Mz N1_ := hf.tr hsN1_ (by decide) (by decide) (by decide) (by decide)
    have rD33_2_N1_ := ze_r N1_ (d_ + 33) 2
    have eD33_3_N1_ : ze N1_ (d_ + 33) 3 = ze Mz (d_ + 33) 3 := hsN1_.e (by decide)
    have eD33_4_N1_ : ze N1_ (d_ + 33) 4 = ze Mz (d_ + 33) 4 := hsN1_.e (by decide)
    have eD33_5_N1_ : ze N1_ (d_ + 33) 5 = ze Mz (d_ + 33) 5 := hsN1_.e (by decide)
    have eD33_6_N1_ : ze N1_ (d_ + 33) 6 = ze Mz (d_ + 33) 6 := hsN1_.e (by decide)
    refine zw_aload_n (pc := 17) (n := 0) (x := (d_ + 33)) rfl (zdal_p dlA_Calc_close_159 (i := 9) rfl) ?_
    refine zw_dup (pc := 18) rfl (zdal_p dlA_Calc_close_159 (i := 10) rfl) ?_
    refine zk_getI (pc := 19) f_Calc_31 rfl ((hf_N1_.w hW).kr (o := 33) (by decide)) (zdal_p dlA_Calc_close_159 (i := 11) rfl) ?_
    refine zw_iconst (pc := 22) (v := Int32.ofInt 1) (by decide) (zdal_p dlA_Calc_close_159 (i := 12) rfl) ?_
    refine zr_isub (pc := 23) (zdal_p dlA_Calc_close_159 (i := 13) rfl) ?_
    refine zk_putR (pc := 24) (o := 33) (by decide) f_Calc_31 rfl rfl ((hf_N1_.w hW).kr (o := 33) (by decide)) ⟨by (exact zo_5 eD33_4_N1_ q3_ r_D33_4.1), by (exact zo_6 eD33_4_N1_ r_D33_4.2)⟩ rfl rfl (zdal_p dlA_Calc_close_159 (i := 14) rfl) (fun N2_ hsN2_ hvN2_ => ?_)
    have hf_N2_ : zFc d_ [] [] [(33, 2), (33, 4), (33, 5)] [] Mz N2_ := hf_N1_.tr hsN2_ (by decide) (by decide) (by decide) (by decide)
    have eD33_2_N2_ : ze N2_ (d_ + 33) 2 = ze N1_ (d_ + 33) 2 := hsN2_.e (by decide)
    have eD33_3_N2_ : ze N2_ (d_ + 33) 3 = ze N1_ (d_ + 33) 3 := hsN2_.e (by decide)
    have rD33_4_N2_ := ze_r N2_ (d_ + 33) 4
    have eD33_5_N2_ : ze N2_ (d_ + 33) 5 = ze N1_ (d_ + 33) 5 := hsN2_.e (by decide)
    have eD33_6_N2_ : ze N2_ (d_ + 33) 6 = ze N1_ (d_ + 33) 6 := hsN2_.e (by decide)
    refine zw_aload_n (pc := 27) (n := 0) (x := (d_ + 33)) rfl (zdal_p dlA_Calc_close_159 (i := 15) rfl) ?_
    refine zw_dup (pc := 28) rfl (zdal_p dlA_Calc_close_159 (i := 16) rfl) ?_
    refine zk_getI (pc := 29) f_Calc_34 rfl ((hf_N2_.w hW).kr (o := 33) (by decide)) (zdal_p dlA_Calc_close_159 (i := 17) rfl) ?_
    refine zw_iconst (pc := 32) (v := Int32.ofInt 1) (by decide) (zdal_p dlA_Calc_close_159 (i := 18) rfl) ?_
    refine zr_isub (pc := 33) (zdal_p dlA_Calc_close_159 (i := 19) rfl) ?_
    refine zk_putR (pc := 34) (o := 33) (by decide) f_Calc_34 rfl rfl ((hf_N2_.w hW).kr (o := 33) (by decide)) ⟨by (exact zo_64 eD33_5_N1_ eD33_5_N2_ q4_ r_D33_5.1), by (exact zo_65 eD33_5_N1_ eD33_5_N2_ r_D33_5.2)⟩ rfl rfl (zdal_p dlA_Calc_close_159 (i := 20) rfl) (fun N3_ hsN3_ hvN3_ => ?_)
    have hf_N3_ : zFc d_ [] [] [(33, 2), (33, 4), (33, 5)] [] Mz N3_ := hf_N2_.tr hsN3_ (by decide) (by decide) (by decide) (by decide)
    have eD33_2_N3_ : ze N3_ (d_ + 33) 2 = ze N2_ (d_ + 33) 2 := hsN3_.e (by decide)
    have eD33_3_N3_ : ze N3_ (d_ + 33) 3 = ze N2_ (d_ + 33) 3 := hsN3_.e (by decide)
    have eD33_4_N3_ : ze N3_ (d_ + 33) 4 = ze N2_ (d_ + 33) 4 := hsN3_.e (by decide)
    have rD33_5_N3_ := ze_r N3_ (d_ + 33) 5
    have eD33_6_N3_ : ze N3_ (d_ + 33) 6 = ze N2_ (d_ + 33) 6 := hsN3_.e (by decide)
    obtain ⟨r1_, r2_, r3_⟩ := zCI_pop (F := F_) (c := 40) (Nz := N3_) p0_ h1_ h40_.symm (Or.inl rfl) (by (exact zo_66 eD33_2_N2_ eD33_2_N3_ hvN1_)) (fun i => hf_N3_.r (by decide) i) (by (exact zo_19 eD33_3_N1_ eD33_3_N2_ eD33_3_N3_)) (by (exact zo_20 eD33_4_N1_ eD33_4_N3_ hvN2_ q3_ rD33_4_N2_.2)) (by rw [if_pos rfl]; (exact zo_67 eD33_5_N1_ eD33_5_N2_ hvN3_ q4_ rD33_5_N3_.2)) (by (exact zo_19 eD33_6_N1_ eD33_6_N2_ eD33_6_N3_)) (fun t t0 t1 => by rw [zvc_f hf_N3_ (by decide)]; exact q9_ t t0 t1)
    exact zk_vret (pc := 37) rfl hf_N3_ ⟨r1_, (show zkS d_ N3_ = (zkS d_ Mz).tail by first | (exfalso; omega) | (rw [r2_]; rfl)), (show zkW F_ d_ N3_ = zkW F_ d_ Mz by exact zkW_f (by (exact zo_19 eD33_6_N1_ eD33_6_N2_ eD33_6_N3_)) (zkV_f (by (exact zo_19 eD33_3_N1_ eD33_3_N2_ eD33_3_N3_)) (fun t _ _ => zvc_f hf_N3_ (by decide) t))), (show zkG d_ N3_ = zkG d_ Mz by exact zkG_f (by (exact zo_19 eD33_6_N1_ eD33_6_N2_ eD33_6_N3_)))⟩ (zdal_p dlA_Calc_close_159 (i := 21) rfl)
