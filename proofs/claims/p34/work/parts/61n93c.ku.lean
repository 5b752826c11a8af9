set_option maxHeartbeats 4000000 in
theorem u_Sums_putSignsU (l : Launch) (d_ : Nat) (Mz : zMem) (hW : zKW d_ Mz) (a0_ : Int) (ha0_a : -2147483648 ≤ a0_) (ha0_b : a0_ < 2147483648) (F_ : Nat) (K_ : Nat → Nat → Int) (hA_ : zTA F_ K_) (p0_ : zKm F_ K_ d_ Mz) (p1_ : 0 ≤ a0_) (p2_ : a0_ < 134217728) : zC l m_Sums_putSigns 0 0 [.ref (d_ + 23), .int (Int32.ofInt a0_)] Mz (zqcV d_ [] [] [] [25, 27] Mz (fun N => (zSh F_ d_ Mz N 39 (zsq F_ K_ (fun j_ => if (a0_).toNat.testBit j_ = true then -1 else 1))))) := by
  refine zC_of (L0 := [some (.ref (d_ + 23)), some (.int (Int32.ofInt a0_)), none]) md_Sums_putSigns (Nat.le_of_ble_eq_true rfl) rfl ?_ zQ0
  have hf : zFc d_ [] [] [] [25, 27] Mz Mz := zFc.rf
  have r_D12_7 := ze_r Mz (d_ + 12) 7
  obtain ⟨⟨hF1_, hF27_⟩, hAr_⟩ := id hA_
  obtain ⟨hFc_, hKt_⟩ := id p0_
  refine zw_iconst (pc := 0) (v := Int32.ofInt 0) (by decide) (zdal_p dlB_Sums_putSigns_101 (i := 0) rfl) ?_
  refine zw_istore_n (pc := 1) (i := 2) (L2 := [some (.ref (d_ + 23)), some (.int (Int32.ofInt a0_)), some (.int (Int32.ofInt 0))]) rfl (by decide) rfl (zdal_p dlB_Sums_putSigns_101 (i := 1) rfl) ?_
  have lp_2 : ∀ (n : Nat) (u1_ : Int) (hu1_a : -2147483648 ≤ u1_) (hu1_b : u1_ < 2147483648) (N2_ : zMem) (hs3_ : zFc d_ [] [] [] [27] Mz N2_) (i4_ : 0 ≤ u1_) (i5_ : u1_ ≤ F_) (i6_ : (∀ j : Nat, (j : Int) < u1_ → zg N2_ (d_ + 27) j = if (a0_).toNat.testBit j = true then -1 else 1)) (i7_ : (∀ x_ : Nat, zg N2_ (d_ + 25) x_ = zg Mz (d_ + 25) x_)), (F_ - u1_).toNat < n → zW l m_Sums_putSigns (zn Mz + 0, zw Mz + 0) N2_ 2 [some (.ref (d_ + 23)), some (.int (Int32.ofInt a0_)), some (.int (Int32.ofInt u1_))] [] (zqcV d_ [] [] [] [25, 27] Mz (fun N => (zSh F_ d_ Mz N 39 (zsq F_ K_ (fun j_ => if (a0_).toNat.testBit j_ = true then -1 else 1))))) := by
    intro n
    induction n with
    | zero =>
      intro u1_ hu1_a hu1_b N2_ hs3_ i4_ i5_ i6_ i7_ h0
      exact absurd h0 (Nat.not_lt_zero _)
    | succ n ih_2 =>
      intro u1_ hu1_a hu1_b N2_ hs3_ i4_ i5_ i6_ i7_ hlt_2
      have hf_N2_ : zFc d_ [] [] [] [25, 27] Mz N2_ := hf.tr hs3_ (by decide) (by decide) (by decide) (by decide)
      have eD12_7_N2_ : ze N2_ (d_ + 12) 7 = ze Mz (d_ + 12) 7 := hs3_.e (by decide)
      have c8_ : zKm F_ K_ d_ N2_ := zKm.fr (hf.w hW) hs3_ p0_ (by decide)
      have hp11_ := (show (∀ j : Nat, (j : Int) < u1_ → zg N2_ (d_ + 27) j = if (a0_).toNat.testBit j = true then -1 else 1) by first | with_reducible assumption | assumption)
      have hr25_ := (show (∀ x_ : Nat, zg N2_ (d_ + 25) x_ = zg Mz (d_ + 25) x_) by first | with_reducible assumption | assumption)
      refine zw_iload_n (pc := 2) (n := 2) (x := Int32.ofInt u1_) rfl (zdal_p dlB_Sums_putSigns_101 (i := 2) rfl) ?_
      refine zw_aload_n (pc := 3) (n := 0) (x := (d_ + 23)) rfl (zdal_p dlB_Sums_putSigns_101 (i := 3) rfl) ?_
      refine zw_getF (pc := 4) f_Sums_23 rfl ((hf_N2_.w hW).kr (o := 23) (by decide)) ((hf_N2_.w hW).lr (o := 23) (s := 0) (r := 12) (by decide)) (zdal_p dlB_Sums_putSigns_101 (i := 4) rfl) ?_
      refine zk_getI (pc := 7) f_Sums_35 rfl ((hf_N2_.w hW).kr (o := 12) (by decide)) (zdal_p dlB_Sums_putSigns_101 (i := 5) rfl) ?_
      rw [hf_N2_.e (by decide)]
      refine zr_icmp_ge (pc := 10) (tgt := 42) ⟨hu1_a, hu1_b⟩ ⟨(ze_r Mz (d_ + 12) 7).1, (ze_r Mz (d_ + 12) 7).2⟩ (by decide) (zdal_p dlB_Sums_putSigns_101 (i := 6) rfl) (fun hc_10 => ?_) (fun hc_10 => ?_)
      · skip
        refine zw_aload_n (pc := 42) (n := 0) (x := (d_ + 23)) rfl (zdal_p dlB_Sums_putSigns_101 (i := 20) rfl) ?_
        refine zw_bipush (pc := 43) (v := Int32.ofInt 39) (by decide) (zdal_p dlB_Sums_putSigns_101 (i := 21) rfl) ?_
        refine zk_callV hf_N2_.x (pc := 45) [.int (Int32.ofInt 39)] [] l_Sums_58 (u_Sums_solveS l d_ N2_ (hf_N2_.w hW) 39 (by decide) (by decide) F_ K_ hA_ c8_ (show 0 ≤ 39 by first | with_reducible assumption | assumption | omega) (show 39 ≤ 39 by first | with_reducible assumption | assumption | omega) (show (∀ j : Nat, j < F_ → -1000000 ≤ zg N2_ (d_ + 27) j ∧ zg N2_ (d_ + 27) j ≤ 1000000) by exact fun j_ hj_ => by rw [hp11_ j_ (by omega)]; split <;> omega)) rfl rfl ((hf_N2_.w hW).kr (o := 23) (by decide)) (by decide) (by decide) (Nat.le_of_ble_eq_true rfl) (zdal_p dlB_Sums_putSigns_101 (i := 22) rfl) ?_
        rintro _ N9_ ⟨rfl, hsN9_, hp0_N9_⟩
        replace hp0_N9_ : zSh F_ d_ N2_ N9_ 39 (zsq F_ K_ (fun j_ => zg N2_ (d_ + 27) j_)) := hp0_N9_
        have hf_N9_ : zFc d_ [] [] [] [25, 27] Mz N9_ := hf_N2_.tr hsN9_ (by decide) (by decide) (by decide) (by decide)
        have eD12_7_N9_ : ze N9_ (d_ + 12) 7 = ze N2_ (d_ + 12) 7 := hsN9_.e (by decide)
        have c11_ : zKm F_ K_ d_ N9_ := zKm.fr (hf_N2_.w hW) hsN9_ c8_ (by decide)
        show zW l m_Sums_putSigns (zn Mz + 0, zw Mz + 0) N9_ 48 [some (.ref (d_ + 23)), some (.int (Int32.ofInt a0_)), some (.int (Int32.ofInt u1_))] [] _
        have hsh_ := zSh_p hr25_ (zSh_cq hp0_N9_ (g := zsq F_ K_ (fun j_ => if (a0_).toNat.testBit j_ = true then -1 else 1)) (fun k_ hk_ => zsq_cc (fun j_ hj_ => hp11_ j_ (by omega)) k_ hk_))
        exact zk_vret (pc := 48) rfl hf_N9_ (show (zSh F_ d_ Mz N9_ 39 (zsq F_ K_ (fun j_ => if (a0_).toNat.testBit j_ = true then -1 else 1))) by exact hsh_) (zdal_p dlB_Sums_putSigns_101 (i := 23) rfl)
      · skip
        refine zw_aload_n (pc := 13) (n := 0) (x := (d_ + 23)) rfl (zdal_p dlB_Sums_putSigns_101 (i := 7) rfl) ?_
        refine zw_getF (pc := 14) f_Sums_20 rfl ((hf_N2_.w hW).kr (o := 23) (by decide)) ((hf_N2_.w hW).lr (o := 23) (s := 2) (r := 26) (by decide)) (zdal_p dlB_Sums_putSigns_101 (i := 8) rfl) ?_
        refine zw_iload_n (pc := 17) (n := 2) (x := Int32.ofInt u1_) rfl (zdal_p dlB_Sums_putSigns_101 (i := 9) rfl) ?_
        refine zw_iload_n (pc := 18) (n := 1) (x := Int32.ofInt a0_) rfl (zdal_p dlB_Sums_putSigns_101 (i := 10) rfl) ?_
        refine zw_iload_n (pc := 19) (n := 2) (x := Int32.ofInt u1_) rfl (zdal_p dlB_Sums_putSigns_101 (i := 11) rfl) ?_
        refine zr_callS hf_N2_.x (pc := 20) [.int (Int32.ofInt a0_), .int (Int32.ofInt u1_)] [.int (Int32.ofInt u1_), .ref (d_ + 26)] l_Sums_61 (u_T_isIn l d_ N2_ (hf_N2_.w hW) a0_ ha0_a ha0_b u1_ hu1_a hu1_b (show 0 ≤ a0_ by first | with_reducible assumption | assumption | omega) (show a0_ < 2147483648 by first | with_reducible assumption | assumption | omega) (show 0 ≤ u1_ by first | with_reducible assumption | assumption | omega) (show u1_ < 31 by first | with_reducible assumption | assumption | omega)) rfl rfl (by decide) (Nat.le_of_ble_eq_true rfl) (zdal_p dlB_Sums_putSigns_101 (i := 12) rfl) ?_
        rintro _ N12_ ⟨v13_, rfl, ⟨hv13_a, hv13_b⟩, hsN12_, hp0_N12_⟩
        obtain rfl := hsN12_.eq.symm
        replace hp0_N12_ : ((v13_ = 1 ∧ zbt a0_ u1_) ∨ (v13_ = 0 ∧ ¬ zbt a0_ u1_)) := hp0_N12_
        rcases hp0_N12_ with ⟨rfl, ha20_0_hp0_N12_⟩ | ⟨rfl, ha20_0_hp0_N12_⟩
        · skip
          have hsg_ : (a0_).toNat.testBit (u1_).toNat = true := ha20_0_hp0_N12_
          show zW l m_Sums_putSigns (zn Mz + 0, zw Mz + 0) N2_ 23 [some (.ref (d_ + 23)), some (.int (Int32.ofInt a0_)), some (.int (Int32.ofInt u1_))] [.int (Int32.ofInt 1), .int (Int32.ofInt u1_), .ref (d_ + 26)] _
          refine zr_if_eq (pc := 23) (tgt := 32) ⟨(by decide), (by decide)⟩ (by decide) (zdal_p dlB_Sums_putSigns_101 (i := 13) rfl) (fun hc_23 => ?_) (fun hc_23 => ?_)
          · skip
            exact absurd hc_23 (by decide)
          · skip
            refine zr_ldc2 (pc := 26) (n := (-1)) (by decide) k_Sums_65 (zdal_p dlB_Sums_putSigns_101 (i := 14) rfl) ?_
            refine zw_goto (pc := 29) (tgt := 33) (by decide) (zdal_p dlB_Sums_putSigns_101 (i := 15) rfl) ?_
            refine zk_stJ hf_N2_.x (pc := 33) (o := 27) (by decide) l_Sums_31 ((hf_N2_.w hW).kr (o := 26) (by decide)) ((hf_N2_.w hW).lr (o := 26) (s := 0) (r := 27) (by decide)) ((hf_N2_.w hW).rr (o := 27) (t := 2) (n := 27) (by decide)) (by decide) (by omega) (by omega) (by decide) (Nat.le_of_ble_eq_true rfl) (zdal_p dlB_Sums_putSigns_101 (i := 17) rfl) (fun N14_ hN14_ hsN14_ => ?_)
            have hf_N14_ : zFc d_ [] [] [] [25, 27] Mz N14_ := hf_N2_.tr hsN14_ (by decide) (by decide) (by decide) (by decide)
            have hb0_N14_ : zFc d_ [] [] [] [27] Mz N14_ := hs3_.tr hsN14_ (by decide) (by decide) (by decide) (by decide)
            have eD12_7_N14_ : ze N14_ (d_ + 12) 7 = ze N2_ (d_ + 12) 7 := hsN14_.e (by decide)
            have c15_ : zKm F_ K_ d_ N14_ := zKm.fr (hf_N2_.w hW) hsN14_ c8_ (by decide)
            have hpn_ : (∀ j : Nat, (j : Int) < u1_ + 1 → zg N14_ (d_ + 27) j = if (a0_).toNat.testBit j = true then -1 else 1) := fun j_ hj_ => by by_cases g_ : (j_ : Int) = u1_; (rw [show j_ = (u1_).toNat by omega, zs_getJ hN14_ ⟨by omega, by omega⟩]; first | rw [if_pos hsg_] | rw [if_neg hsn_]); (rw [zs_othJ hN14_ (j := j_) (by omega)]; exact hp11_ j_ (by omega))
            refine zr_iinc (pc := 36) (i := 2) (a := u1_) (n := 1) (L2 := [some (.ref (d_ + 23)), some (.int (Int32.ofInt a0_)), some (.int (Int32.ofInt (u1_ + 1)))]) rfl (by decide) rfl (zdal_p dlB_Sums_putSigns_101 (i := 18) rfl) ?_
            refine zw_goto (pc := 39) (tgt := 2) (by decide) (zdal_p dlB_Sums_putSigns_101 (i := 19) rfl) ?_
            exact ih_2 (u1_ + 1) (by omega) (by omega) N14_ hb0_N14_ (show 0 ≤ (u1_ + 1) by first | with_reducible assumption | assumption | omega) (show (u1_ + 1) ≤ F_ by first | with_reducible assumption | assumption | omega) (show (∀ j : Nat, (j : Int) < (u1_ + 1) → zg N14_ (d_ + 27) j = if (a0_).toNat.testBit j = true then -1 else 1) by exact hpn_) (show (∀ x_ : Nat, zg N14_ (d_ + 25) x_ = zg Mz (d_ + 25) x_) by exact fun x_ => (hsN14_.rg (by decide) x_).trans (hr25_ x_)) (by omega)
        · skip
          have hsn_ : ¬ (a0_).toNat.testBit (u1_).toNat = true := ha20_0_hp0_N12_
          show zW l m_Sums_putSigns (zn Mz + 0, zw Mz + 0) N2_ 23 [some (.ref (d_ + 23)), some (.int (Int32.ofInt a0_)), some (.int (Int32.ofInt u1_))] [.int (Int32.ofInt 0), .int (Int32.ofInt u1_), .ref (d_ + 26)] _
          refine zr_if_eq (pc := 23) (tgt := 32) ⟨(by decide), (by decide)⟩ (by decide) (zdal_p dlB_Sums_putSigns_101 (i := 13) rfl) (fun hc_23 => ?_) (fun hc_23 => ?_)
          · skip
            refine zw_lconst (pc := 32) (v := Int64.ofInt 1) (by decide) (zdal_p dlB_Sums_putSigns_101 (i := 16) rfl) ?_
            refine zk_stJ hf_N2_.x (pc := 33) (o := 27) (by decide) l_Sums_31 ((hf_N2_.w hW).kr (o := 26) (by decide)) ((hf_N2_.w hW).lr (o := 26) (s := 0) (r := 27) (by decide)) ((hf_N2_.w hW).rr (o := 27) (t := 2) (n := 27) (by decide)) (by decide) (by omega) (by omega) (by decide) (Nat.le_of_ble_eq_true rfl) (zdal_p dlB_Sums_putSigns_101 (i := 17) rfl) (fun N16_ hN16_ hsN16_ => ?_)
            have hf_N16_ : zFc d_ [] [] [] [25, 27] Mz N16_ := hf_N2_.tr hsN16_ (by decide) (by decide) (by decide) (by decide)
            have hb0_N16_ : zFc d_ [] [] [] [27] Mz N16_ := hs3_.tr hsN16_ (by decide) (by decide) (by decide) (by decide)
            have eD12_7_N16_ : ze N16_ (d_ + 12) 7 = ze N2_ (d_ + 12) 7 := hsN16_.e (by decide)
            have c17_ : zKm F_ K_ d_ N16_ := zKm.fr (hf_N2_.w hW) hsN16_ c8_ (by decide)
            have hpn_ : (∀ j : Nat, (j : Int) < u1_ + 1 → zg N16_ (d_ + 27) j = if (a0_).toNat.testBit j = true then -1 else 1) := fun j_ hj_ => by by_cases g_ : (j_ : Int) = u1_; (rw [show j_ = (u1_).toNat by omega, zs_getJ hN16_ ⟨by omega, by omega⟩]; first | rw [if_pos hsg_] | rw [if_neg hsn_]); (rw [zs_othJ hN16_ (j := j_) (by omega)]; exact hp11_ j_ (by omega))
            refine zr_iinc (pc := 36) (i := 2) (a := u1_) (n := 1) (L2 := [some (.ref (d_ + 23)), some (.int (Int32.ofInt a0_)), some (.int (Int32.ofInt (u1_ + 1)))]) rfl (by decide) rfl (zdal_p dlB_Sums_putSigns_101 (i := 18) rfl) ?_
            refine zw_goto (pc := 39) (tgt := 2) (by decide) (zdal_p dlB_Sums_putSigns_101 (i := 19) rfl) ?_
            exact ih_2 (u1_ + 1) (by omega) (by omega) N16_ hb0_N16_ (show 0 ≤ (u1_ + 1) by first | with_reducible assumption | assumption | omega) (show (u1_ + 1) ≤ F_ by first | with_reducible assumption | assumption | omega) (show (∀ j : Nat, (j : Int) < (u1_ + 1) → zg N16_ (d_ + 27) j = if (a0_).toNat.testBit j = true then -1 else 1) by exact hpn_) (show (∀ x_ : Nat, zg N16_ (d_ + 25) x_ = zg Mz (d_ + 25) x_) by exact fun x_ => (hsN16_.rg (by decide) x_).trans (hr25_ x_)) (by omega)
          · skip
            exact absurd hc_23 (by decide)
  exact lp_2 _ 0 (by decide) (by decide) Mz zFc.rf (show 0 ≤ (0 : Int) by first | with_reducible assumption | assumption | omega) (show (0 : Int) ≤ F_ by first | with_reducible assumption | assumption | omega) (show (∀ j : Nat, (j : Int) < (0 : Int) → zg Mz (d_ + 27) j = if (a0_).toNat.testBit j = true then -1 else 1) by exact fun j_ hj_ => absurd hj_ (by omega)) (show (∀ x_ : Nat, zg Mz (d_ + 25) x_ = zg Mz (d_ + 25) x_) by exact fun _ => rfl) (Nat.lt_succ_self _)
set_option maxHeartbeats 4000000 in
theorem u_T_unitsU (l : Launch) (d_ : Nat) (Mz : zMem) (hW : zKW d_ Mz) (hnow : zf Mz 0 2 = some (d_ + 0)) (T_ : zGT) (hT_ : T_ ∈ gTabs) (hAs_ : gAs T_) (hGr_ : gGr T_) (p0_ : zTt T_ d_ Mz) (p1_ : zFir T_ d_ Mz) (p2_ : zSbK T_ d_ Mz) (p3_ : zUW T_ d_ Mz) : zC l m_T_units 0 0 [.ref 0] Mz (zqcI d_ [] [] [(28, 3), (28, 4)] [11, 30, 32] Mz (fun v N => v = ((2 ^ (ze N (d_ + 28) 3).toNat : Nat) : Int) ∧ ze N (d_ + 28) 4 = 1 ∧ zUf (zUS T_) d_ N)) := by
  refine zC_of (L0 := [some (.ref 0)]) md_T_units (Nat.le_of_ble_eq_true rfl) rfl ?_ zQ0
  have hf : zFc d_ [] [] [(28, 3), (28, 4)] [11, 30, 32] Mz Mz := zFc.rf
  have r_D28_3 := ze_r Mz (d_ + 28) 3
  have r_D28_4 := ze_r Mz (d_ + 28) 4
  have hO_ := gTabs_ok T_ hT_
  have hG_ := hO_.1
  have hn24_ := hG_.2.1
  have hn1_ := hG_.1
  have hfl_ := p1_.1
  obtain ⟨⟨hF1_, hF27_⟩, hAr_⟩ := id (gT_zTA hT_)
  refine zw_aload_n (pc := 0) (n := 0) (x := 0) rfl (zdal_p dlB_T_units_79 (i := 0) rfl) ?_
  refine zw_getF (pc := 1) f_T_28 rfl ((hf.w hW).ka (o := 0) (by decide)) (hf.now hnow) (zdal_p dlB_T_units_79 (i := 1) rfl) ?_
  refine zw_getF (pc := 4) f_T_227 rfl ((hf.w hW).kr (o := 0) (by decide)) ((hf.w hW).lr (o := 0) (s := 3) (r := 28) (by decide)) (zdal_p dlB_T_units_79 (i := 2) rfl) ?_
  refine zk_callV hf.x (pc := 7) [] [] l_T_231 (u_Units_seekU l d_ Mz (hf.w hW) T_ hT_ hAs_ hGr_ p0_ p1_ p2_ p3_) rfl rfl ((hf.w hW).kr (o := 28) (by decide)) (by decide) (by decide) (Nat.le_of_ble_eq_true rfl) (zdal_p dlB_T_units_79 (i := 3) rfl) ?_
  rintro _ N1_ ⟨rfl, hsN1_, hp0_N1_⟩
  replace hp0_N1_ : (ze N1_ (d_ + 28) 4 = 1 ∧ zUf (zUS T_) d_ N1_) := hp0_N1_
  have hf_N1_ : zFc d_ [] [] [(28, 3), (28, 4)] [11, 30, 32] Mz N1_ := hf.tr hsN1_ (by decide) (by decide) (by decide) (by decide)
  have rD28_3_N1_ := ze_r N1_ (d_ + 28) 3
  have rD28_4_N1_ := ze_r N1_ (d_ + 28) 4
  have c3_ : zTt T_ d_ N1_ := zTt.fr (hf.w hW) hsN1_ p0_ (by decide)
  have c4_ : zFir T_ d_ N1_ := zFir.fr (hf.w hW) hsN1_ p1_ (by decide)
  have c5_ : zSbK T_ d_ N1_ := zSbK.fr (hf.w hW) hsN1_ p2_ (by decide)
  show zW l m_T_units (zn Mz + 0, zw Mz + 0) N1_ 10 [some (.ref 0)] [] _
  have hsk_ := hp0_N1_
  have hk1_ := hsk_.1
  have hub_ := hsk_.2.1.1
  refine zw_aload_n (pc := 10) (n := 0) (x := 0) rfl (zdal_p dlB_T_units_79 (i := 4) rfl) ?_
  refine zw_getF (pc := 11) f_T_28 rfl ((hf_N1_.w hW).ka (o := 0) (by decide)) (hf_N1_.now hnow) (zdal_p dlB_T_units_79 (i := 5) rfl) ?_
  refine zw_getF (pc := 14) f_T_227 rfl ((hf_N1_.w hW).kr (o := 0) (by decide)) ((hf_N1_.w hW).lr (o := 0) (s := 3) (r := 28) (by decide)) (zdal_p dlB_T_units_79 (i := 6) rfl) ?_
  refine zk_callV hf_N1_.x (pc := 17) [] [] l_T_236 (u_Units_totalU l d_ N1_ (hf_N1_.w hW) (show 0 ≤ ze N1_ (d_ + 28) 3 ∧ ze N1_ (d_ + 28) 3 ≤ 27 by first | with_reducible assumption | assumption | omega)) rfl rfl ((hf_N1_.w hW).kr (o := 28) (by decide)) (by decide) (by decide) (Nat.le_of_ble_eq_true rfl) (zdal_p dlB_T_units_79 (i := 7) rfl) ?_
  rintro _ N6_ ⟨v7_, rfl, ⟨hv7_a, hv7_b⟩, hsN6_, ⟨hp0_N6_, hp1_N6_⟩⟩
  obtain rfl := hsN6_.eq.symm
  show zW l m_T_units (zn Mz + 0, zw Mz + 0) N1_ 20 [some (.ref 0)] [.int (Int32.ofInt v7_)] _
  have hto_ := hp0_N6_
  exact zk_iret (pc := 20) (ty := .int) rfl rfl ⟨by omega, by omega⟩ hf_N1_ ⟨(show v7_ = ((2 ^ (ze N1_ (d_ + 28) 3).toNat : Nat) : Int) by exact hto_), (show ze N1_ (d_ + 28) 4 = 1 by exact hk1_), hsk_.2⟩ (zdal_p dlB_T_units_79 (i := 8) rfl)
set_option maxHeartbeats 4000000 in
theorem u_T_unitU (l : Launch) (d_ : Nat) (Mz : zMem) (hW : zKW d_ Mz) (hnow : zf Mz 0 2 = some (d_ + 0)) (a0_ : Int) (ha0_a : -2147483648 ≤ a0_) (ha0_b : a0_ < 2147483648) (a1_ : Int) (ha1_a : -2147483648 ≤ a1_) (ha1_b : a1_ < 2147483648) (T_ : zGT) (hT_ : T_ ∈ gTabs) (hAs_ : gAs T_) (hGr_ : gGr T_) (p0_ : zTt T_ d_ Mz) (p1_ : zFir T_ d_ Mz) (p2_ : zSbK T_ d_ Mz) (p3_ : zUW T_ d_ Mz) (p4_ : zKm (gF T_).length (gmkI T_) d_ Mz) : zC l m_T_unit 0 0 [.ref 0, .int (Int32.ofInt a0_), .int (Int32.ofInt a1_)] Mz (zqcI d_ [] [] [(28, 3), (28, 4)] [11, 25, 27, 30, 32] Mz (fun v N => ((((0 ≤ a0_ ∧ a0_ < ((2 ^ (ze N (d_ + 28) 3).toNat : Nat) : Int)) ∧ 0 ≤ a1_ ∧ a1_ < ((gF T_).length : Int)) ∧ z32w v ((zsq (gF T_).length (gmkI T_) (zyg T_ (zUk d_ N (a0_).toNat))) (a1_).toNat)) ∨ (¬ ((0 ≤ a0_ ∧ a0_ < ((2 ^ (ze N (d_ + 28) 3).toNat : Nat) : Int)) ∧ 0 ≤ a1_ ∧ a1_ < ((gF T_).length : Int)) ∧ v = (-1000000 : Int))) ∧ ze N (d_ + 28) 4 = 1 ∧ zUf (zUS T_) d_ N)) := by
  refine zC_of (L0 := [some (.ref 0), some (.int (Int32.ofInt a0_)), some (.int (Int32.ofInt a1_))]) md_T_unit (Nat.le_of_ble_eq_true rfl) rfl ?_ zQ0
  have hf : zFc d_ [] [] [(28, 3), (28, 4)] [11, 25, 27, 30, 32] Mz Mz := zFc.rf
  have r_D12_7 := ze_r Mz (d_ + 12) 7
  have r_D28_3 := ze_r Mz (d_ + 28) 3
  have r_D28_4 := ze_r Mz (d_ + 28) 4
  have hO_ := gTabs_ok T_ hT_
  have hG_ := hO_.1
  have hn24_ := hG_.2.1
  have hn1_ := hG_.1
  have hfl_ := p1_.1
  obtain ⟨⟨hF1_, hF27_⟩, hAr_⟩ := id (gT_zTA hT_)
  have hTA_ := gT_zTA hT_
  have hfk_ := p4_.1
  refine zw_aload_n (pc := 0) (n := 0) (x := 0) rfl (zdal_p dlB_T_unit_96 (i := 0) rfl) ?_
  refine zw_getF (pc := 1) f_T_28 rfl ((hf.w hW).ka (o := 0) (by decide)) (hf.now hnow) (zdal_p dlB_T_unit_96 (i := 1) rfl) ?_
  refine zw_getF (pc := 4) f_T_227 rfl ((hf.w hW).kr (o := 0) (by decide)) ((hf.w hW).lr (o := 0) (s := 3) (r := 28) (by decide)) (zdal_p dlB_T_unit_96 (i := 2) rfl) ?_
  refine zk_callV hf.x (pc := 7) [] [] l_T_231 (u_Units_seekU l d_ Mz (hf.w hW) T_ hT_ hAs_ hGr_ p0_ p1_ p2_ p3_) rfl rfl ((hf.w hW).kr (o := 28) (by decide)) (by decide) (by decide) (Nat.le_of_ble_eq_true rfl) (zdal_p dlB_T_unit_96 (i := 3) rfl) ?_
  rintro _ N1_ ⟨rfl, hsN1_, hp0_N1_⟩
  replace hp0_N1_ : (ze N1_ (d_ + 28) 4 = 1 ∧ zUf (zUS T_) d_ N1_) := hp0_N1_
  have hf_N1_ : zFc d_ [] [] [(28, 3), (28, 4)] [11, 25, 27, 30, 32] Mz N1_ := hf.tr hsN1_ (by decide) (by decide) (by decide) (by decide)
  have eD12_7_N1_ : ze N1_ (d_ + 12) 7 = ze Mz (d_ + 12) 7 := hsN1_.e (by decide)
  have rD28_3_N1_ := ze_r N1_ (d_ + 28) 3
  have rD28_4_N1_ := ze_r N1_ (d_ + 28) 4
  have c3_ : zTt T_ d_ N1_ := zTt.fr (hf.w hW) hsN1_ p0_ (by decide)
  have c4_ : zFir T_ d_ N1_ := zFir.fr (hf.w hW) hsN1_ p1_ (by decide)
  have c5_ : zSbK T_ d_ N1_ := zSbK.fr (hf.w hW) hsN1_ p2_ (by decide)
  have c6_ : zKm (gF T_).length (gmkI T_) d_ N1_ := zKm.fr (hf.w hW) hsN1_ p4_ (by decide)
  show zW l m_T_unit (zn Mz + 0, zw Mz + 0) N1_ 10 [some (.ref 0), some (.int (Int32.ofInt a0_)), some (.int (Int32.ofInt a1_))] [] _
  have hsk_ := hp0_N1_
  have hk1_ := hsk_.1
  have hub_ := hsk_.2.1.1
  refine zw_iload_n (pc := 10) (n := 1) (x := Int32.ofInt a0_) rfl (zdal_p dlB_T_unit_96 (i := 4) rfl) ?_
  refine zr_if_lt (pc := 11) (tgt := 42) ⟨ha0_a, ha0_b⟩ (by decide) (zdal_p dlB_T_unit_96 (i := 5) rfl) (fun hc_11 => ?_) (fun hc_11 => ?_)
  · skip
    refine zw_ldc (pc := 42) (v := Int32.ofInt (-1000000)) (by rw [show Int32.ofInt (-1000000) = ((-1000000) : Int32) by decide]; exact k_T_204) (zdal_p dlB_T_unit_96 (i := 18) rfl) ?_
    exact zk_iret (pc := 44) (ty := .int) rfl rfl ⟨by omega, by omega⟩ hf_N1_ ⟨(show (((0 ≤ a0_ ∧ a0_ < ((2 ^ (ze N1_ (d_ + 28) 3).toNat : Nat) : Int)) ∧ 0 ≤ a1_ ∧ a1_ < ((gF T_).length : Int)) ∧ z32w ((-1000000)) ((zsq (gF T_).length (gmkI T_) (zyg T_ (zUk d_ N1_ (a0_).toNat))) (a1_).toNat)) ∨ (¬ ((0 ≤ a0_ ∧ a0_ < ((2 ^ (ze N1_ (d_ + 28) 3).toNat : Nat) : Int)) ∧ 0 ≤ a1_ ∧ a1_ < ((gF T_).length : Int)) ∧ ((-1000000)) = (-1000000 : Int)) by first | exact Or.inr ⟨by omega, rfl⟩ | exact Or.inl ⟨by omega, hzw_⟩ | (have hdm_ : ((2 ^ (ze N1_ (d_ + 28) 3).toNat : Nat) : Int) = ((2 ^ D_.toNat : Nat) : Int) := (by rw [show ze N1_ (d_ + 28) 3 = D_ by omega]); first | exact Or.inl ⟨by omega, hzw_⟩ | exact Or.inr ⟨by omega, rfl⟩)), (show ze N1_ (d_ + 28) 4 = 1 by omega), hsk_.2⟩ (zdal_p dlB_T_unit_96 (i := 19) rfl)
  · skip
    refine zw_iload_n (pc := 14) (n := 1) (x := Int32.ofInt a0_) rfl (zdal_p dlB_T_unit_96 (i := 6) rfl) ?_
    refine zw_aload_n (pc := 15) (n := 0) (x := 0) rfl (zdal_p dlB_T_unit_96 (i := 7) rfl) ?_
    refine zw_getF (pc := 16) f_T_28 rfl ((hf_N1_.w hW).ka (o := 0) (by decide)) (hf_N1_.now hnow) (zdal_p dlB_T_unit_96 (i := 8) rfl) ?_
    refine zw_getF (pc := 19) f_T_227 rfl ((hf_N1_.w hW).kr (o := 0) (by decide)) ((hf_N1_.w hW).lr (o := 0) (s := 3) (r := 28) (by decide)) (zdal_p dlB_T_unit_96 (i := 9) rfl) ?_
    refine zk_callV hf_N1_.x (pc := 22) [] [.int (Int32.ofInt a0_)] l_T_236 (u_Units_totalU l d_ N1_ (hf_N1_.w hW) (show 0 ≤ ze N1_ (d_ + 28) 3 ∧ ze N1_ (d_ + 28) 3 ≤ 27 by first | with_reducible assumption | assumption | omega)) rfl rfl ((hf_N1_.w hW).kr (o := 28) (by decide)) (by decide) (by decide) (Nat.le_of_ble_eq_true rfl) (zdal_p dlB_T_unit_96 (i := 10) rfl) ?_
    rintro _ N7_ ⟨v8_, rfl, ⟨hv8_a, hv8_b⟩, hsN7_, ⟨hp0_N7_, hp1_N7_⟩⟩
    obtain rfl := hsN7_.eq.symm
    show zW l m_T_unit (zn Mz + 0, zw Mz + 0) N1_ 25 [some (.ref 0), some (.int (Int32.ofInt a0_)), some (.int (Int32.ofInt a1_))] [.int (Int32.ofInt v8_), .int (Int32.ofInt a0_)] _
    have hto_ := hp0_N7_
    have hto2_ := hp1_N7_
    obtain ⟨D_, hD_, hDz_⟩ : ∃ D_ : Int, D_ = ze N1_ (d_ + 28) 3 ∧ v8_ = ((2 ^ D_.toNat : Nat) : Int) := ⟨_, rfl, hto_⟩
    refine zr_icmp_ge (pc := 25) (tgt := 42) ⟨ha0_a, ha0_b⟩ ⟨hv8_a, hv8_b⟩ (by decide) (zdal_p dlB_T_unit_96 (i := 11) rfl) (fun hc_25 => ?_) (fun hc_25 => ?_)
    · skip
      refine zw_ldc (pc := 42) (v := Int32.ofInt (-1000000)) (by rw [show Int32.ofInt (-1000000) = ((-1000000) : Int32) by decide]; exact k_T_204) (zdal_p dlB_T_unit_96 (i := 18) rfl) ?_
      exact zk_iret (pc := 44) (ty := .int) rfl rfl ⟨by omega, by omega⟩ hf_N1_ ⟨(show (((0 ≤ a0_ ∧ a0_ < ((2 ^ (ze N1_ (d_ + 28) 3).toNat : Nat) : Int)) ∧ 0 ≤ a1_ ∧ a1_ < ((gF T_).length : Int)) ∧ z32w ((-1000000)) ((zsq (gF T_).length (gmkI T_) (zyg T_ (zUk d_ N1_ (a0_).toNat))) (a1_).toNat)) ∨ (¬ ((0 ≤ a0_ ∧ a0_ < ((2 ^ (ze N1_ (d_ + 28) 3).toNat : Nat) : Int)) ∧ 0 ≤ a1_ ∧ a1_ < ((gF T_).length : Int)) ∧ ((-1000000)) = (-1000000 : Int)) by first | exact Or.inr ⟨by omega, rfl⟩ | exact Or.inl ⟨by omega, hzw_⟩ | (have hdm_ : ((2 ^ (ze N1_ (d_ + 28) 3).toNat : Nat) : Int) = ((2 ^ D_.toNat : Nat) : Int) := (by rw [show ze N1_ (d_ + 28) 3 = D_ by omega]); first | exact Or.inl ⟨by omega, hzw_⟩ | exact Or.inr ⟨by omega, rfl⟩)), (show ze N1_ (d_ + 28) 4 = 1 by omega), hsk_.2⟩ (zdal_p dlB_T_unit_96 (i := 19) rfl)
    · skip
      refine zw_aload_n (pc := 28) (n := 0) (x := 0) rfl (zdal_p dlB_T_unit_96 (i := 12) rfl) ?_
      refine zw_getF (pc := 29) f_T_28 rfl ((hf_N1_.w hW).ka (o := 0) (by decide)) (hf_N1_.now hnow) (zdal_p dlB_T_unit_96 (i := 13) rfl) ?_
      refine zw_getF (pc := 32) f_T_85 rfl ((hf_N1_.w hW).kr (o := 0) (by decide)) ((hf_N1_.w hW).lr (o := 0) (s := 1) (r := 12) (by decide)) (zdal_p dlB_T_unit_96 (i := 14) rfl) ?_
      refine zw_iload_n (pc := 35) (n := 2) (x := Int32.ofInt a1_) rfl (zdal_p dlB_T_unit_96 (i := 15) rfl) ?_
      refine zk_callV hf_N1_.x (pc := 36) [.int (Int32.ofInt a1_)] [] l_T_143 (u_Sorts_hasSortG l d_ N1_ (hf_N1_.w hW) a1_ ha1_a ha1_b) rfl rfl ((hf_N1_.w hW).kr (o := 12) (by decide)) (by decide) (by decide) (Nat.le_of_ble_eq_true rfl) (zdal_p dlB_T_unit_96 (i := 16) rfl) ?_
      rintro _ N9_ ⟨v10_, rfl, ⟨hv10_a, hv10_b⟩, hsN9_, hp0_N9_⟩
      obtain rfl := hsN9_.eq.symm
      replace hp0_N9_ : ((v10_ = 1 ∧ 0 ≤ a1_ ∧ a1_ < ze N1_ (d_ + 12) 7) ∨ (v10_ = 0 ∧ (a1_ < 0 ∨ ze N1_ (d_ + 12) 7 ≤ a1_))) := hp0_N9_
      rcases hp0_N9_ with ⟨rfl, ha36_0_hp0_N9_, ha36_1_hp0_N9_⟩ | ⟨rfl, ha36_0_hp0_N9_⟩
      · skip
        show zW l m_T_unit (zn Mz + 0, zw Mz + 0) N1_ 39 [some (.ref 0), some (.int (Int32.ofInt a0_)), some (.int (Int32.ofInt a1_))] [.int (Int32.ofInt 1)] _
        refine zr_if_ne (pc := 39) (tgt := 45) ⟨(by decide), (by decide)⟩ (by decide) (zdal_p dlB_T_unit_96 (i := 17) rfl) (fun hc_39 => ?_) (fun hc_39 => ?_)
        · skip
          refine zw_aload_n (pc := 45) (n := 0) (x := 0) rfl (zdal_p dlB_T_unit_96 (i := 20) rfl) ?_
          refine zw_getF (pc := 46) f_T_28 rfl ((hf_N1_.w hW).ka (o := 0) (by decide)) (hf_N1_.now hnow) (zdal_p dlB_T_unit_96 (i := 21) rfl) ?_
          refine zw_getF (pc := 49) f_T_169 rfl ((hf_N1_.w hW).kr (o := 0) (by decide)) ((hf_N1_.w hW).lr (o := 0) (s := 2) (r := 23) (by decide)) (zdal_p dlB_T_unit_96 (i := 22) rfl) ?_
          refine zw_aload_n (pc := 52) (n := 0) (x := 0) rfl (zdal_p dlB_T_unit_96 (i := 23) rfl) ?_
          refine zw_getF (pc := 53) f_T_28 rfl ((hf_N1_.w hW).ka (o := 0) (by decide)) (hf_N1_.now hnow) (zdal_p dlB_T_unit_97 (i := 0) rfl) ?_
          refine zw_getF (pc := 56) f_T_227 rfl ((hf_N1_.w hW).kr (o := 0) (by decide)) ((hf_N1_.w hW).lr (o := 0) (s := 3) (r := 28) (by decide)) (zdal_p dlB_T_unit_97 (i := 1) rfl) ?_
          refine zw_iload_n (pc := 59) (n := 1) (x := Int32.ofInt a0_) rfl (zdal_p dlB_T_unit_97 (i := 2) rfl) ?_
          refine zk_callV hf_N1_.x (pc := 60) [.int (Int32.ofInt a0_)] [.ref (d_ + 23)] l_T_239 (u_Units_signsOfU l d_ N1_ (hf_N1_.w hW) a0_ ha0_a ha0_b T_ hT_ (zUS T_) c4_ hsk_.2 (show 0 ≤ a0_ by first | with_reducible assumption | assumption | omega) (show a0_ < 134217728 by first | with_reducible assumption | assumption | omega)) rfl rfl ((hf_N1_.w hW).kr (o := 28) (by decide)) (by decide) (by decide) (Nat.le_of_ble_eq_true rfl) (zdal_p dlB_T_unit_97 (i := 3) rfl) ?_
          rintro _ N11_ ⟨v12_, rfl, ⟨hv12_a, hv12_b⟩, hsN11_, ⟨hp0_N11_, hp1_N11_⟩⟩
          obtain rfl := hsN11_.eq.symm
          show zW l m_T_unit (zn Mz + 0, zw Mz + 0) N1_ 63 [some (.ref 0), some (.int (Int32.ofInt a0_)), some (.int (Int32.ofInt a1_))] [.int (Int32.ofInt v12_), .ref (d_ + 23)] _
          have hsb_ := hp0_N11_
          have hst_ := hp1_N11_
          refine zk_callV hf_N1_.x (pc := 63) [.int (Int32.ofInt v12_)] [] l_T_242 (u_Sums_putSignsU l d_ N1_ (hf_N1_.w hW) v12_ hv12_a hv12_b (gF T_).length (gmkI T_) hTA_ c6_ (show 0 ≤ v12_ by first | with_reducible assumption | assumption | omega) (show v12_ < 134217728 by first | with_reducible assumption | assumption | omega)) rfl rfl ((hf_N1_.w hW).kr (o := 23) (by decide)) (by decide) (by decide) (Nat.le_of_ble_eq_true rfl) (zdal_p dlB_T_unit_97 (i := 4) rfl) ?_
          rintro _ N13_ ⟨rfl, hsN13_, hp0_N13_⟩
          replace hp0_N13_ : (zSh (gF T_).length d_ N1_ N13_ 39 (zsq (gF T_).length (gmkI T_) (fun j_ => if (v12_).toNat.testBit j_ = true then -1 else 1))) := hp0_N13_
          have hf_N13_ : zFc d_ [] [] [(28, 3), (28, 4)] [11, 25, 27, 30, 32] Mz N13_ := hf_N1_.tr hsN13_ (by decide) (by decide) (by decide) (by decide)
          have eD12_7_N13_ : ze N13_ (d_ + 12) 7 = ze N1_ (d_ + 12) 7 := hsN13_.e (by decide)
          have eD28_3_N13_ : ze N13_ (d_ + 28) 3 = ze N1_ (d_ + 28) 3 := hsN13_.e (by decide)
          have eD28_4_N13_ : ze N13_ (d_ + 28) 4 = ze N1_ (d_ + 28) 4 := hsN13_.e (by decide)
          have c15_ : zTt T_ d_ N13_ := zTt.fr (hf_N1_.w hW) hsN13_ c3_ (by decide)
          have c16_ : zFir T_ d_ N13_ := zFir.fr (hf_N1_.w hW) hsN13_ c4_ (by decide)
          have c17_ : zSbK T_ d_ N13_ := zSbK.fr (hf_N1_.w hW) hsN13_ c5_ (by decide)
          have c18_ : zKm (gF T_).length (gmkI T_) d_ N13_ := zKm.fr (hf_N1_.w hW) hsN13_ c6_ (by decide)
          have c19_ : zUf (zUS T_) d_ N13_ := zUf.fr (hf_N1_.w hW) hsN13_ hsk_.2 (by decide)
          show zW l m_T_unit (zn Mz + 0, zw Mz + 0) N13_ 66 [some (.ref 0), some (.int (Int32.ofInt a0_)), some (.int (Int32.ofInt a1_))] [] _
          have hsh_ := zSh_cq hp0_N13_ (g := (zsq (gF T_).length (gmkI T_) (zyg T_ (zUk d_ N13_ (a0_).toNat)))) (fun k_ hk_ => zsq_cc (fun j_ hj_ => by unfold zyg; rw [zUk_c (d := d_) (k := (a0_).toNat) (hsN13_.e (by decide)) (fun i_ => hsN13_.r (by decide) i_)]; by_cases g_ : (zUk d_ N1_ (a0_).toNat).testBit ((gF T_).length - 1 - j_) = true; rw [if_pos ((hst_ j_ hj_).mpr g_), if_pos g_]; rw [if_neg (fun q_ => g_ ((hst_ j_ hj_).mp q_)), if_neg g_]) k_ hk_)
          refine zw_aload_n (pc := 66) (n := 0) (x := 0) rfl (zdal_p dlB_T_unit_97 (i := 5) rfl) ?_
          refine zw_getF (pc := 67) f_T_28 rfl ((hf_N13_.w hW).ka (o := 0) (by decide)) (hf_N13_.now hnow) (zdal_p dlB_T_unit_97 (i := 6) rfl) ?_
          refine zw_getF (pc := 70) f_T_169 rfl ((hf_N13_.w hW).kr (o := 0) (by decide)) ((hf_N13_.w hW).lr (o := 0) (s := 2) (r := 23) (by decide)) (zdal_p dlB_T_unit_97 (i := 7) rfl) ?_
          refine zw_bipush (pc := 73) (v := Int32.ofInt 39) (by decide) (zdal_p dlB_T_unit_97 (i := 8) rfl) ?_
          refine zw_iload_n (pc := 75) (n := 2) (x := Int32.ofInt a1_) rfl (zdal_p dlB_T_unit_97 (i := 9) rfl) ?_
          refine zk_callV hf_N13_.x (pc := 76) [.int (Int32.ofInt 39), .int (Int32.ofInt a1_)] [] l_T_179 (u_Sums_numberAt l d_ N13_ (hf_N13_.w hW) 39 (by decide) (by decide) a1_ ha1_a ha1_b (show 0 ≤ 39 by first | with_reducible assumption | assumption | omega) (show 39 ≤ 39 by first | with_reducible assumption | assumption | omega) (show 0 ≤ a1_ by first | with_reducible assumption | assumption | omega) (show a1_ ≤ 26 by first | with_reducible assumption | assumption | omega)) rfl rfl ((hf_N13_.w hW).kr (o := 23) (by decide)) (by decide) (by decide) (Nat.le_of_ble_eq_true rfl) (zdal_p dlB_T_unit_97 (i := 10) rfl) ?_
          rintro _ N20_ ⟨v21_, rfl, ⟨hv21_a, hv21_b⟩, hsN20_, hp0_N20_⟩
          obtain rfl := hsN20_.eq.symm
          replace hp0_N20_ : v21_ = zg N13_ (d_ + 25) (39 * 27 + a1_).toNat := hp0_N20_
          show zW l m_T_unit (zn Mz + 0, zw Mz + 0) N13_ 79 [some (.ref 0), some (.int (Int32.ofInt a0_)), some (.int (Int32.ofInt a1_))] [.long (Int64.ofInt v21_)] _
          have hnv_ := hp0_N20_
          have hnx_ := hnv_.trans (hsh_ _)
          rw [if_pos (by omega)] at hnx_
          rw [show ((((39 : Int) * 27 + a1_).toNat : Int) - 27 * 39).toNat = (a1_).toNat by omega] at hnx_
          refine zr_l2i (pc := 79) (zdal_p dlB_T_unit_97 (i := 11) rfl) ?_
          refine zk_nmW (fun v22_ hv22_ hv22_w => ?_)
          obtain ⟨hv22_a, hv22_b⟩ := hv22_
          have hzw_ := z32w_e hv22_w hnx_
          exact zk_iret (pc := 80) (ty := .int) rfl rfl ⟨by omega, by omega⟩ hf_N13_ ⟨(show (((0 ≤ a0_ ∧ a0_ < ((2 ^ (ze N13_ (d_ + 28) 3).toNat : Nat) : Int)) ∧ 0 ≤ a1_ ∧ a1_ < ((gF T_).length : Int)) ∧ z32w v22_ ((zsq (gF T_).length (gmkI T_) (zyg T_ (zUk d_ N13_ (a0_).toNat))) (a1_).toNat)) ∨ (¬ ((0 ≤ a0_ ∧ a0_ < ((2 ^ (ze N13_ (d_ + 28) 3).toNat : Nat) : Int)) ∧ 0 ≤ a1_ ∧ a1_ < ((gF T_).length : Int)) ∧ v22_ = (-1000000 : Int)) by first | exact Or.inr ⟨by omega, rfl⟩ | exact Or.inl ⟨by omega, hzw_⟩ | (have hdm_ : ((2 ^ (ze N13_ (d_ + 28) 3).toNat : Nat) : Int) = ((2 ^ D_.toNat : Nat) : Int) := (by rw [show ze N13_ (d_ + 28) 3 = D_ by omega]); first | exact Or.inl ⟨by omega, hzw_⟩ | exact Or.inr ⟨by omega, rfl⟩)), (show ze N13_ (d_ + 28) 4 = 1 by omega), c19_⟩ (zdal_p dlB_T_unit_97 (i := 12) rfl)
        · skip
          exact absurd hc_39 (by decide)
      · skip
        show zW l m_T_unit (zn Mz + 0, zw Mz + 0) N1_ 39 [some (.ref 0), some (.int (Int32.ofInt a0_)), some (.int (Int32.ofInt a1_))] [.int (Int32.ofInt 0)] _
        refine zr_if_ne (pc := 39) (tgt := 45) ⟨(by decide), (by decide)⟩ (by decide) (zdal_p dlB_T_unit_96 (i := 17) rfl) (fun hc_39 => ?_) (fun hc_39 => ?_)
        · skip
          exact absurd hc_39 (by decide)
        · skip
          refine zw_ldc (pc := 42) (v := Int32.ofInt (-1000000)) (by rw [show Int32.ofInt (-1000000) = ((-1000000) : Int32) by decide]; exact k_T_204) (zdal_p dlB_T_unit_96 (i := 18) rfl) ?_
          exact zk_iret (pc := 44) (ty := .int) rfl rfl ⟨by omega, by omega⟩ hf_N1_ ⟨(show (((0 ≤ a0_ ∧ a0_ < ((2 ^ (ze N1_ (d_ + 28) 3).toNat : Nat) : Int)) ∧ 0 ≤ a1_ ∧ a1_ < ((gF T_).length : Int)) ∧ z32w ((-1000000)) ((zsq (gF T_).length (gmkI T_) (zyg T_ (zUk d_ N1_ (a0_).toNat))) (a1_).toNat)) ∨ (¬ ((0 ≤ a0_ ∧ a0_ < ((2 ^ (ze N1_ (d_ + 28) 3).toNat : Nat) : Int)) ∧ 0 ≤ a1_ ∧ a1_ < ((gF T_).length : Int)) ∧ ((-1000000)) = (-1000000 : Int)) by first | exact Or.inr ⟨by omega, rfl⟩ | exact Or.inl ⟨by omega, hzw_⟩ | (have hdm_ : ((2 ^ (ze N1_ (d_ + 28) 3).toNat : Nat) : Int) = ((2 ^ D_.toNat : Nat) : Int) := (by rw [show ze N1_ (d_ + 28) 3 = D_ by omega]); first | exact Or.inl ⟨by omega, hzw_⟩ | exact Or.inr ⟨by omega, rfl⟩)), (show ze N1_ (d_ + 28) 4 = 1 by omega), hsk_.2⟩ (zdal_p dlB_T_unit_96 (i := 19) rfl)
