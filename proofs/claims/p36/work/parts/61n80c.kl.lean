set_option maxHeartbeats 4000000 in
theorem u_Sums_putProductL (l : Launch) (d_ : Nat) (Mz : zMem) (hW : zKW d_ Mz) (a0_ : Int) (ha0_a : -2147483648 ≤ a0_) (ha0_b : a0_ < 2147483648) (a1_ : Int) (ha1_a : -2147483648 ≤ a1_) (ha1_b : a1_ < 2147483648) (F_ : Nat) (K_ : Nat → Nat → Int) (hA_ : zTA F_ K_) (p0_ : zKm F_ K_ d_ Mz) : zC l m_Sums_putProduct 0 0 [.ref (d_ + 23), .int (Int32.ofInt a0_), .int (Int32.ofInt a1_)] Mz (zqcV d_ [] [] [] [25, 27] Mz (fun N => zLow d_ Mz N)) := by
  refine zC_of (L0 := [some (.ref (d_ + 23)), some (.int (Int32.ofInt a0_)), some (.int (Int32.ofInt a1_)), none]) md_Sums_putProduct (Nat.le_of_ble_eq_true rfl) rfl ?_ zQ0
  have hf : zFc d_ [] [] [] [25, 27] Mz Mz := zFc.rf
  obtain ⟨⟨hF1_, hF27_⟩, hAr_⟩ := id hA_
  obtain ⟨hFc_, hKt_⟩ := id p0_
  have dv0 : zLow d_ Mz Mz := zLow.rf
  refine zw_iconst (pc := 0) (v := Int32.ofInt 0) (by decide) d_Sums_putProduct_0 ?_
  refine zw_istore_n (pc := 1) (i := 3) (L2 := [some (.ref (d_ + 23)), some (.int (Int32.ofInt a0_)), some (.int (Int32.ofInt a1_)), some (.int (Int32.ofInt 0))]) rfl (by decide) rfl d_Sums_putProduct_1 ?_
  have lp_2 : ∀ (n : Nat) (u1_ : Int) (hu1_a : -2147483648 ≤ u1_) (hu1_b : u1_ < 2147483648) (N2_ : zMem) (hs3_ : zFc d_ [] [] [] [27] Mz N2_) (i4_ : 0 ≤ u1_), (ze Mz (d_ + 12) 7 - u1_).toNat < n → zW l m_Sums_putProduct (zn Mz + 0, zw Mz + 0) N2_ 2 [some (.ref (d_ + 23)), some (.int (Int32.ofInt a0_)), some (.int (Int32.ofInt a1_)), some (.int (Int32.ofInt u1_))] [] (zqcV d_ [] [] [] [25, 27] Mz (fun N => zLow d_ Mz N)) := by
    intro n
    induction n with
    | zero =>
      intro u1_ hu1_a hu1_b N2_ hs3_ i4_ h0
      exact absurd h0 (Nat.not_lt_zero _)
    | succ n ih_2 =>
      intro u1_ hu1_a hu1_b N2_ hs3_ i4_ hlt_2
      have hf_N2_ : zFc d_ [] [] [] [25, 27] Mz N2_ := hf.tr hs3_ (by decide) (by decide) (by decide) (by decide)
      have c5_ : zKm F_ K_ d_ N2_ := zKm.fr (hf.w hW) hs3_ p0_ (by decide)
      have c6_ : zLow d_ Mz N2_ := zLow.fr (hf.w hW) hs3_ dv0 (by decide)
      refine zw_iload_n (pc := 2) (n := 3) (x := Int32.ofInt u1_) rfl d_Sums_putProduct_2 ?_
      refine zw_aload_n (pc := 3) (n := 0) (x := (d_ + 23)) rfl d_Sums_putProduct_3 ?_
      refine zw_getF (pc := 4) f_Sums_23 rfl ((hf_N2_.w hW).kr (o := 23) (by decide)) ((hf_N2_.w hW).lr (o := 23) (s := 0) (r := 12) (by decide)) d_Sums_putProduct_4 ?_
      refine zk_getI (pc := 7) f_Sums_35 rfl ((hf_N2_.w hW).kr (o := 12) (by decide)) d_Sums_putProduct_7 ?_
      rw [hf_N2_.e (by decide)]
      have hr7_ := ze_r Mz (d_ + 12) 7
      refine zr_icmp_ge (pc := 10) (tgt := 48) ⟨hu1_a, hu1_b⟩ ⟨(ze_r Mz (d_ + 12) 7).1, (ze_r Mz (d_ + 12) 7).2⟩ (by decide) d_Sums_putProduct_10 (fun hc_10 => ?_) (fun hc_10 => ?_)
      · skip
        refine zw_aload_n (pc := 48) (n := 0) (x := (d_ + 23)) rfl d_Sums_putProduct_48 ?_
        refine zw_bipush (pc := 49) (v := Int32.ofInt 39) (by decide) d_Sums_putProduct_49 ?_
        have hml_ := c6_
        refine zk_callV hf_N2_.x (pc := 51) [.int (Int32.ofInt 39)] [] l_Sums_58 (u_Sums_solve l d_ N2_ (hf_N2_.w hW) 39 (by decide) (by decide) F_ K_ hA_ c5_ (show 0 ≤ 39 by first | assumption | omega) (show 39 ≤ 39 by first | assumption | omega)) rfl rfl ((hf_N2_.w hW).kr (o := 23) (by decide)) (by decide) (by decide) (Nat.le_of_ble_eq_true rfl) d_Sums_putProduct_51 ?_
        rintro _ N8_ ⟨rfl, hsN8_, ⟨hp0_N8_, hp1_N8_⟩⟩
        have hf_N8_ : zFc d_ [] [] [] [25, 27] Mz N8_ := hf_N2_.tr hsN8_ (by decide) (by decide) (by decide) (by decide)
        have c10_ : zKm F_ K_ d_ N8_ := zKm.fr (hf_N2_.w hW) hsN8_ c5_ (by decide)
        show zW l m_Sums_putProduct (zn Mz + 0, zw Mz + 0) N8_ 54 [some (.ref (d_ + 23)), some (.int (Int32.ofInt a0_)), some (.int (Int32.ofInt a1_)), some (.int (Int32.ofInt u1_))] [] (zqcV d_ [] [] [] [25, 27] Mz (fun N => zLow d_ Mz N))
        have hnl_ := hml_.tr (zLow.ou hp1_N8_ (by decide))
        exact zk_vret (pc := 54) rfl hf_N8_ (show zLow d_ Mz N8_ by exact hnl_) d_Sums_putProduct_54
      · skip
        refine zw_aload_n (pc := 13) (n := 0) (x := (d_ + 23)) rfl d_Sums_putProduct_13 ?_
        refine zw_getF (pc := 14) f_Sums_20 rfl ((hf_N2_.w hW).kr (o := 23) (by decide)) ((hf_N2_.w hW).lr (o := 23) (s := 2) (r := 26) (by decide)) d_Sums_putProduct_14 ?_
        refine zw_iload_n (pc := 17) (n := 3) (x := Int32.ofInt u1_) rfl d_Sums_putProduct_17 ?_
        refine zw_aload_n (pc := 18) (n := 0) (x := (d_ + 23)) rfl d_Sums_putProduct_18 ?_
        refine zw_getF (pc := 19) f_Sums_23 rfl ((hf_N2_.w hW).kr (o := 23) (by decide)) ((hf_N2_.w hW).lr (o := 23) (s := 0) (r := 12) (by decide)) d_Sums_putProduct_19 ?_
        refine zw_iload_n (pc := 22) (n := 1) (x := Int32.ofInt a0_) rfl d_Sums_putProduct_22 ?_
        refine zw_iload_n (pc := 23) (n := 3) (x := Int32.ofInt u1_) rfl d_Sums_putProduct_23 ?_
        refine zk_callV hf_N2_.x (pc := 24) [.int (Int32.ofInt a0_), .int (Int32.ofInt u1_)] [.int (Int32.ofInt u1_), .ref (d_ + 26)] l_Sums_54 (u_Sorts_markAtX l d_ N2_ (hf_N2_.w hW) a0_ ha0_a ha0_b u1_ hu1_a hu1_b) rfl rfl ((hf_N2_.w hW).kr (o := 12) (by decide)) (by decide) (by decide) (Nat.le_of_ble_eq_true rfl) d_Sums_putProduct_24 ?_
        rintro _ N11_ ⟨v12_, rfl, ⟨hv12_a, hv12_b⟩, hsN11_, -⟩
        obtain rfl := hsN11_.eq.symm
        show zW l m_Sums_putProduct (zn Mz + 0, zw Mz + 0) N2_ 27 [some (.ref (d_ + 23)), some (.int (Int32.ofInt a0_)), some (.int (Int32.ofInt a1_)), some (.int (Int32.ofInt u1_))] [.int (Int32.ofInt v12_), .int (Int32.ofInt u1_), .ref (d_ + 26)] (zqcV d_ [] [] [] [25, 27] Mz (fun N => zLow d_ Mz N))
        refine zr_i2l (pc := 27) ⟨hv12_a, hv12_b⟩ d_Sums_putProduct_27 ?_
        refine zw_aload_n (pc := 28) (n := 0) (x := (d_ + 23)) rfl d_Sums_putProduct_28 ?_
        refine zw_getF (pc := 29) f_Sums_23 rfl ((hf_N2_.w hW).kr (o := 23) (by decide)) ((hf_N2_.w hW).lr (o := 23) (s := 0) (r := 12) (by decide)) d_Sums_putProduct_29 ?_
        refine zw_iload_n (pc := 32) (n := 2) (x := Int32.ofInt a1_) rfl d_Sums_putProduct_32 ?_
        refine zw_iload_n (pc := 33) (n := 3) (x := Int32.ofInt u1_) rfl d_Sums_putProduct_33 ?_
        refine zk_callV hf_N2_.x (pc := 34) [.int (Int32.ofInt a1_), .int (Int32.ofInt u1_)] [.long (Int64.ofInt v12_), .int (Int32.ofInt u1_), .ref (d_ + 26)] l_Sums_54 (u_Sorts_markAtX l d_ N2_ (hf_N2_.w hW) a1_ ha1_a ha1_b u1_ hu1_a hu1_b) rfl rfl ((hf_N2_.w hW).kr (o := 12) (by decide)) (by decide) (by decide) (Nat.le_of_ble_eq_true rfl) d_Sums_putProduct_34 ?_
        rintro _ N13_ ⟨v14_, rfl, ⟨hv14_a, hv14_b⟩, hsN13_, -⟩
        obtain rfl := hsN13_.eq.symm
        show zW l m_Sums_putProduct (zn Mz + 0, zw Mz + 0) N2_ 37 [some (.ref (d_ + 23)), some (.int (Int32.ofInt a0_)), some (.int (Int32.ofInt a1_)), some (.int (Int32.ofInt u1_))] [.int (Int32.ofInt v14_), .long (Int64.ofInt v12_), .int (Int32.ofInt u1_), .ref (d_ + 26)] (zqcV d_ [] [] [] [25, 27] Mz (fun N => zLow d_ Mz N))
        refine zr_i2l (pc := 37) ⟨hv14_a, hv14_b⟩ d_Sums_putProduct_37 ?_
        refine zr_lmul (pc := 38) d_Sums_putProduct_38 ?_
        refine zr_nmJ (fun v15_ hv15_ => ?_)
        obtain ⟨hv15_a, hv15_b⟩ := hv15_
        refine zk_stGJ hf_N2_.x (pc := 39) (o := 27) (by decide) l_Sums_31 ((hf_N2_.w hW).kr (o := 26) (by decide)) ((hf_N2_.w hW).lr (o := 26) (s := 0) (r := 27) (by decide)) ((hf_N2_.w hW).rr (o := 27) (t := 2) (n := 27) (by decide)) (by decide) ⟨by omega, by omega⟩ (by decide) (Nat.le_of_ble_eq_true rfl) d_Sums_putProduct_39 (fun N16_ hsN16_ => ?_)
        have hf_N16_ : zFc d_ [] [] [] [25, 27] Mz N16_ := hf_N2_.tr hsN16_ (by decide) (by decide) (by decide) (by decide)
        have hb0_N16_ : zFc d_ [] [] [] [27] Mz N16_ := hs3_.tr hsN16_ (by decide) (by decide) (by decide) (by decide)
        have c17_ : zKm F_ K_ d_ N16_ := zKm.fr (hf_N2_.w hW) hsN16_ c5_ (by decide)
        have c18_ : zLow d_ Mz N16_ := zLow.fr (hf_N2_.w hW) hsN16_ c6_ (by decide)
        refine zr_iinc (pc := 42) (i := 3) (a := u1_) (n := 1) (L2 := [some (.ref (d_ + 23)), some (.int (Int32.ofInt a0_)), some (.int (Int32.ofInt a1_)), some (.int (Int32.ofInt (u1_ + 1)))]) rfl (by decide) rfl d_Sums_putProduct_42 ?_
        obtain ⟨v19_, hv19_a, hv19_b, hv19_e, hv19_d⟩ := zk_gen (u1_ + 1)
        rw [hv19_e]
        refine zw_goto (pc := 45) (tgt := 2) (by decide) d_Sums_putProduct_45 ?_
        exact ih_2 v19_ hv19_a hv19_b N16_ hb0_N16_ (show 0 ≤ v19_ by first | assumption | omega) (by omega)
  exact lp_2 _ 0 (by decide) (by decide) Mz zFc.rf (show 0 ≤ (0 : Int) by first | assumption | omega) (Nat.lt_succ_self _)
set_option maxHeartbeats 4000000 in
theorem u_Sums_putScaledL (l : Launch) (d_ : Nat) (Mz : zMem) (hW : zKW d_ Mz) (a0_ : Int) (ha0_a : -2147483648 ≤ a0_) (ha0_b : a0_ < 2147483648) (a1_ : Int) (ha1_a : -2147483648 ≤ a1_) (ha1_b : a1_ < 2147483648) (F_ : Nat) (K_ : Nat → Nat → Int) (hA_ : zTA F_ K_) (p0_ : zKm F_ K_ d_ Mz) : zC l m_Sums_putScaled 0 0 [.ref (d_ + 23), .int (Int32.ofInt a0_), .int (Int32.ofInt a1_)] Mz (zqcV d_ [] [] [] [25, 27] Mz (fun N => zLow d_ Mz N)) := by
  refine zC_of (L0 := [some (.ref (d_ + 23)), some (.int (Int32.ofInt a0_)), some (.int (Int32.ofInt a1_)), none]) md_Sums_putScaled (Nat.le_of_ble_eq_true rfl) rfl ?_ zQ0
  have hf : zFc d_ [] [] [] [25, 27] Mz Mz := zFc.rf
  obtain ⟨⟨hF1_, hF27_⟩, hAr_⟩ := id hA_
  obtain ⟨hFc_, hKt_⟩ := id p0_
  have dv0 : zLow d_ Mz Mz := zLow.rf
  refine zw_iconst (pc := 0) (v := Int32.ofInt 0) (by decide) d_Sums_putScaled_0 ?_
  refine zw_istore_n (pc := 1) (i := 3) (L2 := [some (.ref (d_ + 23)), some (.int (Int32.ofInt a0_)), some (.int (Int32.ofInt a1_)), some (.int (Int32.ofInt 0))]) rfl (by decide) rfl d_Sums_putScaled_1 ?_
  have lp_2 : ∀ (n : Nat) (u1_ : Int) (hu1_a : -2147483648 ≤ u1_) (hu1_b : u1_ < 2147483648) (N2_ : zMem) (hs3_ : zFc d_ [] [] [] [27] Mz N2_) (i4_ : 0 ≤ u1_), (ze Mz (d_ + 12) 7 - u1_).toNat < n → zW l m_Sums_putScaled (zn Mz + 0, zw Mz + 0) N2_ 2 [some (.ref (d_ + 23)), some (.int (Int32.ofInt a0_)), some (.int (Int32.ofInt a1_)), some (.int (Int32.ofInt u1_))] [] (zqcV d_ [] [] [] [25, 27] Mz (fun N => zLow d_ Mz N)) := by
    intro n
    induction n with
    | zero =>
      intro u1_ hu1_a hu1_b N2_ hs3_ i4_ h0
      exact absurd h0 (Nat.not_lt_zero _)
    | succ n ih_2 =>
      intro u1_ hu1_a hu1_b N2_ hs3_ i4_ hlt_2
      have hf_N2_ : zFc d_ [] [] [] [25, 27] Mz N2_ := hf.tr hs3_ (by decide) (by decide) (by decide) (by decide)
      have c5_ : zKm F_ K_ d_ N2_ := zKm.fr (hf.w hW) hs3_ p0_ (by decide)
      have c6_ : zLow d_ Mz N2_ := zLow.fr (hf.w hW) hs3_ dv0 (by decide)
      refine zw_iload_n (pc := 2) (n := 3) (x := Int32.ofInt u1_) rfl d_Sums_putScaled_2 ?_
      refine zw_aload_n (pc := 3) (n := 0) (x := (d_ + 23)) rfl d_Sums_putScaled_3 ?_
      refine zw_getF (pc := 4) f_Sums_23 rfl ((hf_N2_.w hW).kr (o := 23) (by decide)) ((hf_N2_.w hW).lr (o := 23) (s := 0) (r := 12) (by decide)) d_Sums_putScaled_4 ?_
      refine zk_getI (pc := 7) f_Sums_35 rfl ((hf_N2_.w hW).kr (o := 12) (by decide)) d_Sums_putScaled_7 ?_
      rw [hf_N2_.e (by decide)]
      have hr7_ := ze_r Mz (d_ + 12) 7
      refine zr_icmp_ge (pc := 10) (tgt := 41) ⟨hu1_a, hu1_b⟩ ⟨(ze_r Mz (d_ + 12) 7).1, (ze_r Mz (d_ + 12) 7).2⟩ (by decide) d_Sums_putScaled_10 (fun hc_10 => ?_) (fun hc_10 => ?_)
      · skip
        refine zw_aload_n (pc := 41) (n := 0) (x := (d_ + 23)) rfl d_Sums_putScaled_41 ?_
        refine zw_bipush (pc := 42) (v := Int32.ofInt 39) (by decide) d_Sums_putScaled_42 ?_
        have hml_ := c6_
        refine zk_callV hf_N2_.x (pc := 44) [.int (Int32.ofInt 39)] [] l_Sums_58 (u_Sums_solve l d_ N2_ (hf_N2_.w hW) 39 (by decide) (by decide) F_ K_ hA_ c5_ (show 0 ≤ 39 by first | assumption | omega) (show 39 ≤ 39 by first | assumption | omega)) rfl rfl ((hf_N2_.w hW).kr (o := 23) (by decide)) (by decide) (by decide) (Nat.le_of_ble_eq_true rfl) d_Sums_putScaled_44 ?_
        rintro _ N8_ ⟨rfl, hsN8_, ⟨hp0_N8_, hp1_N8_⟩⟩
        have hf_N8_ : zFc d_ [] [] [] [25, 27] Mz N8_ := hf_N2_.tr hsN8_ (by decide) (by decide) (by decide) (by decide)
        have c10_ : zKm F_ K_ d_ N8_ := zKm.fr (hf_N2_.w hW) hsN8_ c5_ (by decide)
        show zW l m_Sums_putScaled (zn Mz + 0, zw Mz + 0) N8_ 47 [some (.ref (d_ + 23)), some (.int (Int32.ofInt a0_)), some (.int (Int32.ofInt a1_)), some (.int (Int32.ofInt u1_))] [] (zqcV d_ [] [] [] [25, 27] Mz (fun N => zLow d_ Mz N))
        have hnl_ := hml_.tr (zLow.ou hp1_N8_ (by decide))
        exact zk_vret (pc := 47) rfl hf_N8_ (show zLow d_ Mz N8_ by exact hnl_) d_Sums_putScaled_47
      · skip
        refine zw_aload_n (pc := 13) (n := 0) (x := (d_ + 23)) rfl d_Sums_putScaled_13 ?_
        refine zw_getF (pc := 14) f_Sums_20 rfl ((hf_N2_.w hW).kr (o := 23) (by decide)) ((hf_N2_.w hW).lr (o := 23) (s := 2) (r := 26) (by decide)) d_Sums_putScaled_14 ?_
        refine zw_iload_n (pc := 17) (n := 3) (x := Int32.ofInt u1_) rfl d_Sums_putScaled_17 ?_
        refine zw_iload_n (pc := 18) (n := 1) (x := Int32.ofInt a0_) rfl d_Sums_putScaled_18 ?_
        refine zw_iload_n (pc := 19) (n := 3) (x := Int32.ofInt u1_) rfl d_Sums_putScaled_19 ?_
        refine zr_callS hf_N2_.x (pc := 20) [.int (Int32.ofInt a0_), .int (Int32.ofInt u1_)] [.int (Int32.ofInt u1_), .ref (d_ + 26)] l_Sums_61 (u_T_isInX l d_ N2_ (hf_N2_.w hW) a0_ ha0_a ha0_b u1_ hu1_a hu1_b) rfl rfl (by decide) (Nat.le_of_ble_eq_true rfl) d_Sums_putScaled_20 ?_
        rintro _ N11_ ⟨v12_, rfl, ⟨hv12_a, hv12_b⟩, hsN11_, hp0_N11_⟩
        obtain rfl := hsN11_.eq.symm
        replace hp0_N11_ : (v12_ = 0 ∨ v12_ = 1) := hp0_N11_
        show zW l m_Sums_putScaled (zn Mz + 0, zw Mz + 0) N2_ 23 [some (.ref (d_ + 23)), some (.int (Int32.ofInt a0_)), some (.int (Int32.ofInt a1_)), some (.int (Int32.ofInt u1_))] [.int (Int32.ofInt v12_), .int (Int32.ofInt u1_), .ref (d_ + 26)] (zqcV d_ [] [] [] [25, 27] Mz (fun N => zLow d_ Mz N))
        refine zr_if_eq (pc := 23) (tgt := 31) ⟨hv12_a, hv12_b⟩ (by decide) d_Sums_putScaled_23 (fun hc_23 => ?_) (fun hc_23 => ?_)
        · skip
          refine zw_lconst (pc := 31) (v := Int64.ofInt 0) (by decide) d_Sums_putScaled_31 ?_
          refine zk_stGJ hf_N2_.x (pc := 32) (o := 27) (by decide) l_Sums_31 ((hf_N2_.w hW).kr (o := 26) (by decide)) ((hf_N2_.w hW).lr (o := 26) (s := 0) (r := 27) (by decide)) ((hf_N2_.w hW).rr (o := 27) (t := 2) (n := 27) (by decide)) (by decide) ⟨by omega, by omega⟩ (by decide) (Nat.le_of_ble_eq_true rfl) d_Sums_putScaled_32 (fun N13_ hsN13_ => ?_)
          have hf_N13_ : zFc d_ [] [] [] [25, 27] Mz N13_ := hf_N2_.tr hsN13_ (by decide) (by decide) (by decide) (by decide)
          have hb0_N13_ : zFc d_ [] [] [] [27] Mz N13_ := hs3_.tr hsN13_ (by decide) (by decide) (by decide) (by decide)
          have c14_ : zKm F_ K_ d_ N13_ := zKm.fr (hf_N2_.w hW) hsN13_ c5_ (by decide)
          have c15_ : zLow d_ Mz N13_ := zLow.fr (hf_N2_.w hW) hsN13_ c6_ (by decide)
          refine zr_iinc (pc := 35) (i := 3) (a := u1_) (n := 1) (L2 := [some (.ref (d_ + 23)), some (.int (Int32.ofInt a0_)), some (.int (Int32.ofInt a1_)), some (.int (Int32.ofInt (u1_ + 1)))]) rfl (by decide) rfl d_Sums_putScaled_35 ?_
          obtain ⟨v16_, hv16_a, hv16_b, hv16_e, hv16_d⟩ := zk_gen (u1_ + 1)
          rw [hv16_e]
          refine zw_goto (pc := 38) (tgt := 2) (by decide) d_Sums_putScaled_38 ?_
          exact ih_2 v16_ hv16_a hv16_b N13_ hb0_N13_ (show 0 ≤ v16_ by first | assumption | omega) (by omega)
        · skip
          refine zw_iload_n (pc := 26) (n := 2) (x := Int32.ofInt a1_) rfl d_Sums_putScaled_26 ?_
          refine zr_i2l (pc := 27) ⟨ha1_a, ha1_b⟩ d_Sums_putScaled_27 ?_
          refine zw_goto (pc := 28) (tgt := 32) (by decide) d_Sums_putScaled_28 ?_
          refine zk_stGJ hf_N2_.x (pc := 32) (o := 27) (by decide) l_Sums_31 ((hf_N2_.w hW).kr (o := 26) (by decide)) ((hf_N2_.w hW).lr (o := 26) (s := 0) (r := 27) (by decide)) ((hf_N2_.w hW).rr (o := 27) (t := 2) (n := 27) (by decide)) (by decide) ⟨by omega, by omega⟩ (by decide) (Nat.le_of_ble_eq_true rfl) d_Sums_putScaled_32 (fun N17_ hsN17_ => ?_)
          have hf_N17_ : zFc d_ [] [] [] [25, 27] Mz N17_ := hf_N2_.tr hsN17_ (by decide) (by decide) (by decide) (by decide)
          have hb0_N17_ : zFc d_ [] [] [] [27] Mz N17_ := hs3_.tr hsN17_ (by decide) (by decide) (by decide) (by decide)
          have c18_ : zKm F_ K_ d_ N17_ := zKm.fr (hf_N2_.w hW) hsN17_ c5_ (by decide)
          have c19_ : zLow d_ Mz N17_ := zLow.fr (hf_N2_.w hW) hsN17_ c6_ (by decide)
          refine zr_iinc (pc := 35) (i := 3) (a := u1_) (n := 1) (L2 := [some (.ref (d_ + 23)), some (.int (Int32.ofInt a0_)), some (.int (Int32.ofInt a1_)), some (.int (Int32.ofInt (u1_ + 1)))]) rfl (by decide) rfl d_Sums_putScaled_35 ?_
          obtain ⟨v20_, hv20_a, hv20_b, hv20_e, hv20_d⟩ := zk_gen (u1_ + 1)
          rw [hv20_e]
          refine zw_goto (pc := 38) (tgt := 2) (by decide) d_Sums_putScaled_38 ?_
          exact ih_2 v20_ hv20_a hv20_b N17_ hb0_N17_ (show 0 ≤ v20_ by first | assumption | omega) (by omega)
  exact lp_2 _ 0 (by decide) (by decide) Mz zFc.rf (show 0 ≤ (0 : Int) by first | assumption | omega) (Nat.lt_succ_self _)
set_option maxHeartbeats 4000000 in
theorem u_Sums_putSignsL (l : Launch) (d_ : Nat) (Mz : zMem) (hW : zKW d_ Mz) (a0_ : Int) (ha0_a : -2147483648 ≤ a0_) (ha0_b : a0_ < 2147483648) (F_ : Nat) (K_ : Nat → Nat → Int) (hA_ : zTA F_ K_) (p0_ : zKm F_ K_ d_ Mz) : zC l m_Sums_putSigns 0 0 [.ref (d_ + 23), .int (Int32.ofInt a0_)] Mz (zqcV d_ [] [] [] [25, 27] Mz (fun N => zLow d_ Mz N)) := by
  refine zC_of (L0 := [some (.ref (d_ + 23)), some (.int (Int32.ofInt a0_)), none]) md_Sums_putSigns (Nat.le_of_ble_eq_true rfl) rfl ?_ zQ0
  have hf : zFc d_ [] [] [] [25, 27] Mz Mz := zFc.rf
  obtain ⟨⟨hF1_, hF27_⟩, hAr_⟩ := id hA_
  obtain ⟨hFc_, hKt_⟩ := id p0_
  have dv0 : zLow d_ Mz Mz := zLow.rf
  refine zw_iconst (pc := 0) (v := Int32.ofInt 0) (by decide) d_Sums_putSigns_0 ?_
  refine zw_istore_n (pc := 1) (i := 2) (L2 := [some (.ref (d_ + 23)), some (.int (Int32.ofInt a0_)), some (.int (Int32.ofInt 0))]) rfl (by decide) rfl d_Sums_putSigns_1 ?_
  have lp_2 : ∀ (n : Nat) (u1_ : Int) (hu1_a : -2147483648 ≤ u1_) (hu1_b : u1_ < 2147483648) (N2_ : zMem) (hs3_ : zFc d_ [] [] [] [27] Mz N2_) (i4_ : 0 ≤ u1_), (ze Mz (d_ + 12) 7 - u1_).toNat < n → zW l m_Sums_putSigns (zn Mz + 0, zw Mz + 0) N2_ 2 [some (.ref (d_ + 23)), some (.int (Int32.ofInt a0_)), some (.int (Int32.ofInt u1_))] [] (zqcV d_ [] [] [] [25, 27] Mz (fun N => zLow d_ Mz N)) := by
    intro n
    induction n with
    | zero =>
      intro u1_ hu1_a hu1_b N2_ hs3_ i4_ h0
      exact absurd h0 (Nat.not_lt_zero _)
    | succ n ih_2 =>
      intro u1_ hu1_a hu1_b N2_ hs3_ i4_ hlt_2
      have hf_N2_ : zFc d_ [] [] [] [25, 27] Mz N2_ := hf.tr hs3_ (by decide) (by decide) (by decide) (by decide)
      have c5_ : zKm F_ K_ d_ N2_ := zKm.fr (hf.w hW) hs3_ p0_ (by decide)
      have c6_ : zLow d_ Mz N2_ := zLow.fr (hf.w hW) hs3_ dv0 (by decide)
      refine zw_iload_n (pc := 2) (n := 2) (x := Int32.ofInt u1_) rfl d_Sums_putSigns_2 ?_
      refine zw_aload_n (pc := 3) (n := 0) (x := (d_ + 23)) rfl d_Sums_putSigns_3 ?_
      refine zw_getF (pc := 4) f_Sums_23 rfl ((hf_N2_.w hW).kr (o := 23) (by decide)) ((hf_N2_.w hW).lr (o := 23) (s := 0) (r := 12) (by decide)) d_Sums_putSigns_4 ?_
      refine zk_getI (pc := 7) f_Sums_35 rfl ((hf_N2_.w hW).kr (o := 12) (by decide)) d_Sums_putSigns_7 ?_
      rw [hf_N2_.e (by decide)]
      have hr7_ := ze_r Mz (d_ + 12) 7
      refine zr_icmp_ge (pc := 10) (tgt := 42) ⟨hu1_a, hu1_b⟩ ⟨(ze_r Mz (d_ + 12) 7).1, (ze_r Mz (d_ + 12) 7).2⟩ (by decide) d_Sums_putSigns_10 (fun hc_10 => ?_) (fun hc_10 => ?_)
      · skip
        refine zw_aload_n (pc := 42) (n := 0) (x := (d_ + 23)) rfl d_Sums_putSigns_42 ?_
        refine zw_bipush (pc := 43) (v := Int32.ofInt 39) (by decide) d_Sums_putSigns_43 ?_
        have hml_ := c6_
        refine zk_callV hf_N2_.x (pc := 45) [.int (Int32.ofInt 39)] [] l_Sums_58 (u_Sums_solve l d_ N2_ (hf_N2_.w hW) 39 (by decide) (by decide) F_ K_ hA_ c5_ (show 0 ≤ 39 by first | assumption | omega) (show 39 ≤ 39 by first | assumption | omega)) rfl rfl ((hf_N2_.w hW).kr (o := 23) (by decide)) (by decide) (by decide) (Nat.le_of_ble_eq_true rfl) d_Sums_putSigns_45 ?_
        rintro _ N8_ ⟨rfl, hsN8_, ⟨hp0_N8_, hp1_N8_⟩⟩
        have hf_N8_ : zFc d_ [] [] [] [25, 27] Mz N8_ := hf_N2_.tr hsN8_ (by decide) (by decide) (by decide) (by decide)
        have c10_ : zKm F_ K_ d_ N8_ := zKm.fr (hf_N2_.w hW) hsN8_ c5_ (by decide)
        show zW l m_Sums_putSigns (zn Mz + 0, zw Mz + 0) N8_ 48 [some (.ref (d_ + 23)), some (.int (Int32.ofInt a0_)), some (.int (Int32.ofInt u1_))] [] (zqcV d_ [] [] [] [25, 27] Mz (fun N => zLow d_ Mz N))
        have hnl_ := hml_.tr (zLow.ou hp1_N8_ (by decide))
        exact zk_vret (pc := 48) rfl hf_N8_ (show zLow d_ Mz N8_ by exact hnl_) d_Sums_putSigns_48
      · skip
        refine zw_aload_n (pc := 13) (n := 0) (x := (d_ + 23)) rfl d_Sums_putSigns_13 ?_
        refine zw_getF (pc := 14) f_Sums_20 rfl ((hf_N2_.w hW).kr (o := 23) (by decide)) ((hf_N2_.w hW).lr (o := 23) (s := 2) (r := 26) (by decide)) d_Sums_putSigns_14 ?_
        refine zw_iload_n (pc := 17) (n := 2) (x := Int32.ofInt u1_) rfl d_Sums_putSigns_17 ?_
        refine zw_iload_n (pc := 18) (n := 1) (x := Int32.ofInt a0_) rfl d_Sums_putSigns_18 ?_
        refine zw_iload_n (pc := 19) (n := 2) (x := Int32.ofInt u1_) rfl d_Sums_putSigns_19 ?_
        refine zr_callS hf_N2_.x (pc := 20) [.int (Int32.ofInt a0_), .int (Int32.ofInt u1_)] [.int (Int32.ofInt u1_), .ref (d_ + 26)] l_Sums_61 (u_T_isInX l d_ N2_ (hf_N2_.w hW) a0_ ha0_a ha0_b u1_ hu1_a hu1_b) rfl rfl (by decide) (Nat.le_of_ble_eq_true rfl) d_Sums_putSigns_20 ?_
        rintro _ N11_ ⟨v12_, rfl, ⟨hv12_a, hv12_b⟩, hsN11_, hp0_N11_⟩
        obtain rfl := hsN11_.eq.symm
        replace hp0_N11_ : (v12_ = 0 ∨ v12_ = 1) := hp0_N11_
        show zW l m_Sums_putSigns (zn Mz + 0, zw Mz + 0) N2_ 23 [some (.ref (d_ + 23)), some (.int (Int32.ofInt a0_)), some (.int (Int32.ofInt u1_))] [.int (Int32.ofInt v12_), .int (Int32.ofInt u1_), .ref (d_ + 26)] (zqcV d_ [] [] [] [25, 27] Mz (fun N => zLow d_ Mz N))
        refine zr_if_eq (pc := 23) (tgt := 32) ⟨hv12_a, hv12_b⟩ (by decide) d_Sums_putSigns_23 (fun hc_23 => ?_) (fun hc_23 => ?_)
        · skip
          refine zw_lconst (pc := 32) (v := Int64.ofInt 1) (by decide) d_Sums_putSigns_32 ?_
          refine zk_stGJ hf_N2_.x (pc := 33) (o := 27) (by decide) l_Sums_31 ((hf_N2_.w hW).kr (o := 26) (by decide)) ((hf_N2_.w hW).lr (o := 26) (s := 0) (r := 27) (by decide)) ((hf_N2_.w hW).rr (o := 27) (t := 2) (n := 27) (by decide)) (by decide) ⟨by omega, by omega⟩ (by decide) (Nat.le_of_ble_eq_true rfl) d_Sums_putSigns_33 (fun N13_ hsN13_ => ?_)
          have hf_N13_ : zFc d_ [] [] [] [25, 27] Mz N13_ := hf_N2_.tr hsN13_ (by decide) (by decide) (by decide) (by decide)
          have hb0_N13_ : zFc d_ [] [] [] [27] Mz N13_ := hs3_.tr hsN13_ (by decide) (by decide) (by decide) (by decide)
          have c14_ : zKm F_ K_ d_ N13_ := zKm.fr (hf_N2_.w hW) hsN13_ c5_ (by decide)
          have c15_ : zLow d_ Mz N13_ := zLow.fr (hf_N2_.w hW) hsN13_ c6_ (by decide)
          refine zr_iinc (pc := 36) (i := 2) (a := u1_) (n := 1) (L2 := [some (.ref (d_ + 23)), some (.int (Int32.ofInt a0_)), some (.int (Int32.ofInt (u1_ + 1)))]) rfl (by decide) rfl d_Sums_putSigns_36 ?_
          obtain ⟨v16_, hv16_a, hv16_b, hv16_e, hv16_d⟩ := zk_gen (u1_ + 1)
          rw [hv16_e]
          refine zw_goto (pc := 39) (tgt := 2) (by decide) d_Sums_putSigns_39 ?_
          exact ih_2 v16_ hv16_a hv16_b N13_ hb0_N13_ (show 0 ≤ v16_ by first | assumption | omega) (by omega)
        · skip
          refine zr_ldc2 (pc := 26) (n := (-1)) (by decide) k_Sums_65 d_Sums_putSigns_26 ?_
          refine zw_goto (pc := 29) (tgt := 33) (by decide) d_Sums_putSigns_29 ?_
          refine zk_stGJ hf_N2_.x (pc := 33) (o := 27) (by decide) l_Sums_31 ((hf_N2_.w hW).kr (o := 26) (by decide)) ((hf_N2_.w hW).lr (o := 26) (s := 0) (r := 27) (by decide)) ((hf_N2_.w hW).rr (o := 27) (t := 2) (n := 27) (by decide)) (by decide) ⟨by omega, by omega⟩ (by decide) (Nat.le_of_ble_eq_true rfl) d_Sums_putSigns_33 (fun N17_ hsN17_ => ?_)
          have hf_N17_ : zFc d_ [] [] [] [25, 27] Mz N17_ := hf_N2_.tr hsN17_ (by decide) (by decide) (by decide) (by decide)
          have hb0_N17_ : zFc d_ [] [] [] [27] Mz N17_ := hs3_.tr hsN17_ (by decide) (by decide) (by decide) (by decide)
          have c18_ : zKm F_ K_ d_ N17_ := zKm.fr (hf_N2_.w hW) hsN17_ c5_ (by decide)
          have c19_ : zLow d_ Mz N17_ := zLow.fr (hf_N2_.w hW) hsN17_ c6_ (by decide)
          refine zr_iinc (pc := 36) (i := 2) (a := u1_) (n := 1) (L2 := [some (.ref (d_ + 23)), some (.int (Int32.ofInt a0_)), some (.int (Int32.ofInt (u1_ + 1)))]) rfl (by decide) rfl d_Sums_putSigns_36 ?_
          obtain ⟨v20_, hv20_a, hv20_b, hv20_e, hv20_d⟩ := zk_gen (u1_ + 1)
          rw [hv20_e]
          refine zw_goto (pc := 39) (tgt := 2) (by decide) d_Sums_putSigns_39 ?_
          exact ih_2 v20_ hv20_a hv20_b N17_ hb0_N17_ (show 0 ≤ v20_ by first | assumption | omega) (by omega)
  exact lp_2 _ 0 (by decide) (by decide) Mz zFc.rf (show 0 ≤ (0 : Int) by first | assumption | omega) (Nat.lt_succ_self _)
set_option maxHeartbeats 4000000 in
theorem u_T_productL (l : Launch) (d_ : Nat) (Mz : zMem) (hW : zKW d_ Mz) (hnow : zf Mz 0 2 = some (d_ + 0)) (a0_ : Int) (ha0_a : -2147483648 ≤ a0_) (ha0_b : a0_ < 2147483648) (a1_ : Int) (ha1_a : -2147483648 ≤ a1_) (ha1_b : a1_ < 2147483648) (a2_ : Int) (ha2_a : -2147483648 ≤ a2_) (ha2_b : a2_ < 2147483648) (F_ : Nat) (K_ : Nat → Nat → Int) (hA_ : zTA F_ K_) (p0_ : zKm F_ K_ d_ Mz) : zC l m_T_product 0 0 [.ref 0, .int (Int32.ofInt a0_), .int (Int32.ofInt a1_), .int (Int32.ofInt a2_)] Mz (zqcI d_ [] [] [] [25, 27] Mz (fun v N => zLow d_ Mz N)) := by
  refine zC_of (L0 := [some (.ref 0), some (.int (Int32.ofInt a0_)), some (.int (Int32.ofInt a1_)), some (.int (Int32.ofInt a2_)), none]) md_T_product (Nat.le_of_ble_eq_true rfl) rfl ?_ zQ0
  have hf : zFc d_ [] [] [] [25, 27] Mz Mz := zFc.rf
  obtain ⟨⟨hF1_, hF27_⟩, hAr_⟩ := id hA_
  obtain ⟨hFc_, hKt_⟩ := id p0_
  have dv0 : zLow d_ Mz Mz := zLow.rf
  refine zw_aload_n (pc := 0) (n := 0) (x := 0) rfl d_T_product_0 ?_
  refine zw_getF (pc := 1) f_T_28 rfl ((hf.w hW).ka (o := 0) (by decide)) (hf.now hnow) d_T_product_1 ?_
  refine zw_getF (pc := 4) f_T_85 rfl ((hf.w hW).kr (o := 0) (by decide)) ((hf.w hW).lr (o := 0) (s := 1) (r := 12) (by decide)) d_T_product_4 ?_
  refine zw_astore (pc := 7) (i := 4) (L2 := [some (.ref 0), some (.int (Int32.ofInt a0_)), some (.int (Int32.ofInt a1_)), some (.int (Int32.ofInt a2_)), some (.ref (d_ + 12))]) (by decide) rfl d_T_product_7 ?_
  refine zw_aload (pc := 9) (i := 4) (x := (d_ + 12)) rfl d_T_product_9 ?_
  refine zw_iload_n (pc := 11) (n := 1) (x := Int32.ofInt a0_) rfl d_T_product_11 ?_
  refine zk_callV hf.x (pc := 12) [.int (Int32.ofInt a0_)] [] l_T_143 (u_Sorts_hasSortX l d_ Mz (hf.w hW) a0_ ha0_a ha0_b) rfl rfl ((hf.w hW).kr (o := 12) (by decide)) (by decide) (by decide) (Nat.le_of_ble_eq_true rfl) d_T_product_12 ?_
  rintro _ N1_ ⟨v2_, rfl, ⟨hv2_a, hv2_b⟩, hsN1_, hp0_N1_⟩
  obtain rfl := hsN1_.eq.symm
  replace hp0_N1_ : (v2_ = 0 ∨ v2_ = 1) := hp0_N1_
  show zW l m_T_product (zn Mz + 0, zw Mz + 0) Mz 15 [some (.ref 0), some (.int (Int32.ofInt a0_)), some (.int (Int32.ofInt a1_)), some (.int (Int32.ofInt a2_)), some (.ref (d_ + 12))] [.int (Int32.ofInt v2_)] (zqcI d_ [] [] [] [25, 27] Mz (fun v N => zLow d_ Mz N))
  refine zr_if_eq (pc := 15) (tgt := 36) ⟨hv2_a, hv2_b⟩ (by decide) d_T_product_15 (fun hc_15 => ?_) (fun hc_15 => ?_)
  · skip
    refine zw_iconst (pc := 36) (v := Int32.ofInt (-1)) (by decide) d_T_product_36 ?_
    exact zk_iret (pc := 37) (ty := .int) rfl rfl ⟨by omega, by omega⟩ hf (show zLow d_ Mz Mz by exact dv0) d_T_product_37
  · skip
    refine zw_aload (pc := 18) (i := 4) (x := (d_ + 12)) rfl d_T_product_18 ?_
    refine zw_iload_n (pc := 20) (n := 2) (x := Int32.ofInt a1_) rfl d_T_product_20 ?_
    refine zk_callV hf.x (pc := 21) [.int (Int32.ofInt a1_)] [] l_T_143 (u_Sorts_hasSortX l d_ Mz (hf.w hW) a1_ ha1_a ha1_b) rfl rfl ((hf.w hW).kr (o := 12) (by decide)) (by decide) (by decide) (Nat.le_of_ble_eq_true rfl) d_T_product_21 ?_
    rintro _ N3_ ⟨v4_, rfl, ⟨hv4_a, hv4_b⟩, hsN3_, hp0_N3_⟩
    obtain rfl := hsN3_.eq.symm
    replace hp0_N3_ : (v4_ = 0 ∨ v4_ = 1) := hp0_N3_
    show zW l m_T_product (zn Mz + 0, zw Mz + 0) Mz 24 [some (.ref 0), some (.int (Int32.ofInt a0_)), some (.int (Int32.ofInt a1_)), some (.int (Int32.ofInt a2_)), some (.ref (d_ + 12))] [.int (Int32.ofInt v4_)] (zqcI d_ [] [] [] [25, 27] Mz (fun v N => zLow d_ Mz N))
    refine zr_if_eq (pc := 24) (tgt := 36) ⟨hv4_a, hv4_b⟩ (by decide) d_T_product_24 (fun hc_24 => ?_) (fun hc_24 => ?_)
    · skip
      refine zw_iconst (pc := 36) (v := Int32.ofInt (-1)) (by decide) d_T_product_36 ?_
      exact zk_iret (pc := 37) (ty := .int) rfl rfl ⟨by omega, by omega⟩ hf (show zLow d_ Mz Mz by exact dv0) d_T_product_37
    · skip
      refine zw_aload (pc := 27) (i := 4) (x := (d_ + 12)) rfl d_T_product_27 ?_
      refine zw_iload_n (pc := 29) (n := 3) (x := Int32.ofInt a2_) rfl d_T_product_29 ?_
      refine zk_callV hf.x (pc := 30) [.int (Int32.ofInt a2_)] [] l_T_143 (u_Sorts_hasSortX l d_ Mz (hf.w hW) a2_ ha2_a ha2_b) rfl rfl ((hf.w hW).kr (o := 12) (by decide)) (by decide) (by decide) (Nat.le_of_ble_eq_true rfl) d_T_product_30 ?_
      rintro _ N5_ ⟨v6_, rfl, ⟨hv6_a, hv6_b⟩, hsN5_, hp0_N5_⟩
      obtain rfl := hsN5_.eq.symm
      replace hp0_N5_ : (v6_ = 0 ∨ v6_ = 1) := hp0_N5_
      show zW l m_T_product (zn Mz + 0, zw Mz + 0) Mz 33 [some (.ref 0), some (.int (Int32.ofInt a0_)), some (.int (Int32.ofInt a1_)), some (.int (Int32.ofInt a2_)), some (.ref (d_ + 12))] [.int (Int32.ofInt v6_)] (zqcI d_ [] [] [] [25, 27] Mz (fun v N => zLow d_ Mz N))
      refine zr_if_ne (pc := 33) (tgt := 38) ⟨hv6_a, hv6_b⟩ (by decide) d_T_product_33 (fun hc_33 => ?_) (fun hc_33 => ?_)
      · skip
        refine zw_aload_n (pc := 38) (n := 0) (x := 0) rfl d_T_product_38 ?_
        refine zw_getF (pc := 39) f_T_28 rfl ((hf.w hW).ka (o := 0) (by decide)) (hf.now hnow) d_T_product_39 ?_
        refine zw_getF (pc := 42) f_T_169 rfl ((hf.w hW).kr (o := 0) (by decide)) ((hf.w hW).lr (o := 0) (s := 2) (r := 23) (by decide)) d_T_product_42 ?_
        refine zw_iload_n (pc := 45) (n := 1) (x := Int32.ofInt a0_) rfl d_T_product_45 ?_
        refine zw_iload_n (pc := 46) (n := 2) (x := Int32.ofInt a1_) rfl d_T_product_46 ?_
        have hml_ := dv0
        refine zk_callV hf.x (pc := 47) [.int (Int32.ofInt a0_), .int (Int32.ofInt a1_)] [] l_T_173 (u_Sums_putProductL l d_ Mz (hf.w hW) a0_ ha0_a ha0_b a1_ ha1_a ha1_b F_ K_ hA_ p0_) rfl rfl ((hf.w hW).kr (o := 23) (by decide)) (by decide) (by decide) (Nat.le_of_ble_eq_true rfl) d_T_product_47 ?_
        rintro _ N7_ ⟨rfl, hsN7_, hp0_N7_⟩
        replace hp0_N7_ : zLow d_ Mz N7_ := hp0_N7_
        have hf_N7_ : zFc d_ [] [] [] [25, 27] Mz N7_ := hf.tr hsN7_ (by decide) (by decide) (by decide) (by decide)
        have c9_ : zKm F_ K_ d_ N7_ := zKm.fr (hf.w hW) hsN7_ p0_ (by decide)
        show zW l m_T_product (zn Mz + 0, zw Mz + 0) N7_ 50 [some (.ref 0), some (.int (Int32.ofInt a0_)), some (.int (Int32.ofInt a1_)), some (.int (Int32.ofInt a2_)), some (.ref (d_ + 12))] [] (zqcI d_ [] [] [] [25, 27] Mz (fun v N => zLow d_ Mz N))
        have hnl_ := hml_.tr hp0_N7_
        refine zw_aload_n (pc := 50) (n := 0) (x := 0) rfl d_T_product_50 ?_
        refine zw_getF (pc := 51) f_T_28 rfl ((hf_N7_.w hW).ka (o := 0) (by decide)) (hf_N7_.now hnow) d_T_product_51 ?_
        refine zw_getF (pc := 54) f_T_169 rfl ((hf_N7_.w hW).kr (o := 0) (by decide)) ((hf_N7_.w hW).lr (o := 0) (s := 2) (r := 23) (by decide)) d_T_product_54 ?_
        refine zw_bipush (pc := 57) (v := Int32.ofInt 39) (by decide) d_T_product_57 ?_
        refine zw_iload_n (pc := 59) (n := 3) (x := Int32.ofInt a2_) rfl d_T_product_59 ?_
        refine zk_callV hf_N7_.x (pc := 60) [.int (Int32.ofInt 39), .int (Int32.ofInt a2_)] [] l_T_179 (u_Sums_numberAtX l d_ N7_ (hf_N7_.w hW) 39 (by decide) (by decide) a2_ ha2_a ha2_b) rfl rfl ((hf_N7_.w hW).kr (o := 23) (by decide)) (by decide) (by decide) (Nat.le_of_ble_eq_true rfl) d_T_product_60 ?_
        rintro _ N10_ ⟨v11_, rfl, ⟨hv11_a, hv11_b⟩, hsN10_, -⟩
        obtain rfl := hsN10_.eq.symm
        show zW l m_T_product (zn Mz + 0, zw Mz + 0) N7_ 63 [some (.ref 0), some (.int (Int32.ofInt a0_)), some (.int (Int32.ofInt a1_)), some (.int (Int32.ofInt a2_)), some (.ref (d_ + 12))] [.long (Int64.ofInt v11_)] (zqcI d_ [] [] [] [25, 27] Mz (fun v N => zLow d_ Mz N))
        refine zr_l2i (pc := 63) d_T_product_63 ?_
        refine zr_nmI (fun v12_ hv12_ => ?_)
        obtain ⟨hv12_a, hv12_b⟩ := hv12_
        exact zk_iret (pc := 64) (ty := .int) rfl rfl ⟨by omega, by omega⟩ hf_N7_ (show zLow d_ Mz N7_ by exact hnl_) d_T_product_64
      · skip
        refine zw_iconst (pc := 36) (v := Int32.ofInt (-1)) (by decide) d_T_product_36 ?_
        exact zk_iret (pc := 37) (ty := .int) rfl rfl ⟨by omega, by omega⟩ hf (show zLow d_ Mz Mz by exact dv0) d_T_product_37
set_option maxHeartbeats 4000000 in
theorem u_T_pairsL (l : Launch) (d_ : Nat) (Mz : zMem) (hW : zKW d_ Mz) (hnow : zf Mz 0 2 = some (d_ + 0)) (a0_ : Int) (ha0_a : -2147483648 ≤ a0_) (ha0_b : a0_ < 2147483648) (a1_ : Int) (ha1_a : -2147483648 ≤ a1_) (ha1_b : a1_ < 2147483648) (F_ : Nat) (K_ : Nat → Nat → Int) (hA_ : zTA F_ K_) (p0_ : zKm F_ K_ d_ Mz) : zC l m_T_pairs 0 0 [.ref 0, .int (Int32.ofInt a0_), .int (Int32.ofInt a1_)] Mz (zqcI d_ [] [] [] [25, 27] Mz (fun v N => zLow d_ Mz N)) := by
  refine zC_of (L0 := [some (.ref 0), some (.int (Int32.ofInt a0_)), some (.int (Int32.ofInt a1_))]) md_T_pairs (Nat.le_of_ble_eq_true rfl) rfl ?_ zQ0
  have hf : zFc d_ [] [] [] [25, 27] Mz Mz := zFc.rf
  obtain ⟨⟨hF1_, hF27_⟩, hAr_⟩ := id hA_
  obtain ⟨hFc_, hKt_⟩ := id p0_
  have dv0 : zLow d_ Mz Mz := zLow.rf
  refine zw_aload_n (pc := 0) (n := 0) (x := 0) rfl d_T_pairs_0 ?_
  refine zw_getF (pc := 1) f_T_28 rfl ((hf.w hW).ka (o := 0) (by decide)) (hf.now hnow) d_T_pairs_1 ?_
  refine zw_getF (pc := 4) f_T_85 rfl ((hf.w hW).kr (o := 0) (by decide)) ((hf.w hW).lr (o := 0) (s := 1) (r := 12) (by decide)) d_T_pairs_4 ?_
  refine zw_iload_n (pc := 7) (n := 1) (x := Int32.ofInt a0_) rfl d_T_pairs_7 ?_
  refine zk_callV hf.x (pc := 8) [.int (Int32.ofInt a0_)] [] l_T_143 (u_Sorts_hasSortX l d_ Mz (hf.w hW) a0_ ha0_a ha0_b) rfl rfl ((hf.w hW).kr (o := 12) (by decide)) (by decide) (by decide) (Nat.le_of_ble_eq_true rfl) d_T_pairs_8 ?_
  rintro _ N1_ ⟨v2_, rfl, ⟨hv2_a, hv2_b⟩, hsN1_, hp0_N1_⟩
  obtain rfl := hsN1_.eq.symm
  replace hp0_N1_ : (v2_ = 0 ∨ v2_ = 1) := hp0_N1_
  show zW l m_T_pairs (zn Mz + 0, zw Mz + 0) Mz 11 [some (.ref 0), some (.int (Int32.ofInt a0_)), some (.int (Int32.ofInt a1_))] [.int (Int32.ofInt v2_)] (zqcI d_ [] [] [] [25, 27] Mz (fun v N => zLow d_ Mz N))
  refine zr_if_eq (pc := 11) (tgt := 28) ⟨hv2_a, hv2_b⟩ (by decide) d_T_pairs_11 (fun hc_11 => ?_) (fun hc_11 => ?_)
  · skip
    refine zw_iconst (pc := 28) (v := Int32.ofInt (-1)) (by decide) d_T_pairs_28 ?_
    exact zk_iret (pc := 29) (ty := .int) rfl rfl ⟨by omega, by omega⟩ hf (show zLow d_ Mz Mz by exact dv0) d_T_pairs_29
  · skip
    refine zw_aload_n (pc := 14) (n := 0) (x := 0) rfl d_T_pairs_14 ?_
    refine zw_getF (pc := 15) f_T_28 rfl ((hf.w hW).ka (o := 0) (by decide)) (hf.now hnow) d_T_pairs_15 ?_
    refine zw_getF (pc := 18) f_T_85 rfl ((hf.w hW).kr (o := 0) (by decide)) ((hf.w hW).lr (o := 0) (s := 1) (r := 12) (by decide)) d_T_pairs_18 ?_
    refine zw_iload_n (pc := 21) (n := 2) (x := Int32.ofInt a1_) rfl d_T_pairs_21 ?_
    refine zk_callV hf.x (pc := 22) [.int (Int32.ofInt a1_)] [] l_T_143 (u_Sorts_hasSortX l d_ Mz (hf.w hW) a1_ ha1_a ha1_b) rfl rfl ((hf.w hW).kr (o := 12) (by decide)) (by decide) (by decide) (Nat.le_of_ble_eq_true rfl) d_T_pairs_22 ?_
    rintro _ N3_ ⟨v4_, rfl, ⟨hv4_a, hv4_b⟩, hsN3_, hp0_N3_⟩
    obtain rfl := hsN3_.eq.symm
    replace hp0_N3_ : (v4_ = 0 ∨ v4_ = 1) := hp0_N3_
    show zW l m_T_pairs (zn Mz + 0, zw Mz + 0) Mz 25 [some (.ref 0), some (.int (Int32.ofInt a0_)), some (.int (Int32.ofInt a1_))] [.int (Int32.ofInt v4_)] (zqcI d_ [] [] [] [25, 27] Mz (fun v N => zLow d_ Mz N))
    refine zr_if_ne (pc := 25) (tgt := 30) ⟨hv4_a, hv4_b⟩ (by decide) d_T_pairs_25 (fun hc_25 => ?_) (fun hc_25 => ?_)
    · skip
      refine zw_aload_n (pc := 30) (n := 0) (x := 0) rfl d_T_pairs_30 ?_
      refine zw_getF (pc := 31) f_T_28 rfl ((hf.w hW).ka (o := 0) (by decide)) (hf.now hnow) d_T_pairs_31 ?_
      refine zw_getF (pc := 34) f_T_169 rfl ((hf.w hW).kr (o := 0) (by decide)) ((hf.w hW).lr (o := 0) (s := 2) (r := 23) (by decide)) d_T_pairs_34 ?_
      refine zw_iload_n (pc := 37) (n := 1) (x := Int32.ofInt a0_) rfl d_T_pairs_37 ?_
      refine zw_iload_n (pc := 38) (n := 2) (x := Int32.ofInt a1_) rfl d_T_pairs_38 ?_
      have hml_ := dv0
      refine zk_callV hf.x (pc := 39) [.int (Int32.ofInt a0_), .int (Int32.ofInt a1_)] [] l_T_173 (u_Sums_putProductL l d_ Mz (hf.w hW) a0_ ha0_a ha0_b a1_ ha1_a ha1_b F_ K_ hA_ p0_) rfl rfl ((hf.w hW).kr (o := 23) (by decide)) (by decide) (by decide) (Nat.le_of_ble_eq_true rfl) d_T_pairs_39 ?_
      rintro _ N5_ ⟨rfl, hsN5_, hp0_N5_⟩
      replace hp0_N5_ : zLow d_ Mz N5_ := hp0_N5_
      have hf_N5_ : zFc d_ [] [] [] [25, 27] Mz N5_ := hf.tr hsN5_ (by decide) (by decide) (by decide) (by decide)
      have c7_ : zKm F_ K_ d_ N5_ := zKm.fr (hf.w hW) hsN5_ p0_ (by decide)
      show zW l m_T_pairs (zn Mz + 0, zw Mz + 0) N5_ 42 [some (.ref 0), some (.int (Int32.ofInt a0_)), some (.int (Int32.ofInt a1_))] [] (zqcI d_ [] [] [] [25, 27] Mz (fun v N => zLow d_ Mz N))
      have hnl_ := hml_.tr hp0_N5_
      refine zw_aload_n (pc := 42) (n := 0) (x := 0) rfl d_T_pairs_42 ?_
      refine zw_getF (pc := 43) f_T_28 rfl ((hf_N5_.w hW).ka (o := 0) (by decide)) (hf_N5_.now hnow) d_T_pairs_43 ?_
      refine zw_getF (pc := 46) f_T_169 rfl ((hf_N5_.w hW).kr (o := 0) (by decide)) ((hf_N5_.w hW).lr (o := 0) (s := 2) (r := 23) (by decide)) d_T_pairs_46 ?_
      refine zk_callV hf_N5_.x (pc := 49) [] [] l_T_211 (u_Sums_totalOfWorkX l d_ N5_ (hf_N5_.w hW) ) rfl rfl ((hf_N5_.w hW).kr (o := 23) (by decide)) (by decide) (by decide) (Nat.le_of_ble_eq_true rfl) d_T_pairs_49 ?_
      rintro _ N8_ ⟨v9_, rfl, ⟨hv9_a, hv9_b⟩, hsN8_, -⟩
      obtain rfl := hsN8_.eq.symm
      show zW l m_T_pairs (zn Mz + 0, zw Mz + 0) N5_ 52 [some (.ref 0), some (.int (Int32.ofInt a0_)), some (.int (Int32.ofInt a1_))] [.int (Int32.ofInt v9_)] (zqcI d_ [] [] [] [25, 27] Mz (fun v N => zLow d_ Mz N))
      exact zk_iret (pc := 52) (ty := .int) rfl rfl ⟨by omega, by omega⟩ hf_N5_ (show zLow d_ Mz N5_ by exact hnl_) d_T_pairs_52
    · skip
      refine zw_iconst (pc := 28) (v := Int32.ofInt (-1)) (by decide) d_T_pairs_28 ?_
      exact zk_iret (pc := 29) (ty := .int) rfl rfl ⟨by omega, by omega⟩ hf (show zLow d_ Mz Mz by exact dv0) d_T_pairs_29
set_option maxHeartbeats 4000000 in
theorem u_T_peakPartL (l : Launch) (d_ : Nat) (Mz : zMem) (hW : zKW d_ Mz) (hnow : zf Mz 0 2 = some (d_ + 0)) (a0_ : Int) (ha0_a : -2147483648 ≤ a0_) (ha0_b : a0_ < 2147483648) (a1_ : Int) (ha1_a : -2147483648 ≤ a1_) (ha1_b : a1_ < 2147483648) (a2_ : Int) (ha2_a : -2147483648 ≤ a2_) (ha2_b : a2_ < 2147483648) (F_ : Nat) (K_ : Nat → Nat → Int) (hA_ : zTA F_ K_) (p0_ : zKm F_ K_ d_ Mz) : zC l m_T_peakPart 0 0 [.ref 0, .int (Int32.ofInt a0_), .int (Int32.ofInt a1_), .int (Int32.ofInt a2_)] Mz (zqcI d_ [] [] [] [25, 27] Mz (fun v N => zLow d_ Mz N)) := by
  refine zC_of (L0 := [some (.ref 0), some (.int (Int32.ofInt a0_)), some (.int (Int32.ofInt a1_)), some (.int (Int32.ofInt a2_)), none, none, none]) md_T_peakPart (Nat.le_of_ble_eq_true rfl) rfl ?_ zQ0
  have hf : zFc d_ [] [] [] [25, 27] Mz Mz := zFc.rf
  obtain ⟨⟨hF1_, hF27_⟩, hAr_⟩ := id hA_
  obtain ⟨hFc_, hKt_⟩ := id p0_
  have dv0 : zLow d_ Mz Mz := zLow.rf
  refine zw_iload_n (pc := 0) (n := 3) (x := Int32.ofInt a2_) rfl d_T_peakPart_0 ?_
  refine zr_if_eq (pc := 1) (tgt := 12) ⟨ha2_a, ha2_b⟩ (by decide) d_T_peakPart_1 (fun hc_1 => ?_) (fun hc_1 => ?_)
  · skip
    refine zw_aload_n (pc := 12) (n := 0) (x := 0) rfl d_T_peakPart_12 ?_
    refine zw_getF (pc := 13) f_T_28 rfl ((hf.w hW).ka (o := 0) (by decide)) (hf.now hnow) d_T_peakPart_13 ?_
    refine zw_getF (pc := 16) f_T_61 rfl ((hf.w hW).kr (o := 0) (by decide)) ((hf.w hW).lr (o := 0) (s := 0) (r := 1) (by decide)) d_T_peakPart_16 ?_
    refine zk_getI (pc := 19) f_T_65 rfl ((hf.w hW).kr (o := 1) (by decide)) d_T_peakPart_19 ?_
    have hr1_ := ze_r Mz (d_ + 1) 7
    refine zw_istore (pc := 22) (i := 4) (L2 := [some (.ref 0), some (.int (Int32.ofInt a0_)), some (.int (Int32.ofInt a1_)), some (.int (Int32.ofInt a2_)), some (.int (Int32.ofInt (ze Mz (d_ + 1) 7))), none, none]) (by decide) rfl d_T_peakPart_22 ?_
    refine zw_aload_n (pc := 24) (n := 0) (x := 0) rfl d_T_peakPart_24 ?_
    refine zw_getF (pc := 25) f_T_28 rfl ((hf.w hW).ka (o := 0) (by decide)) (hf.now hnow) d_T_peakPart_25 ?_
    refine zw_getF (pc := 28) f_T_169 rfl ((hf.w hW).kr (o := 0) (by decide)) ((hf.w hW).lr (o := 0) (s := 2) (r := 23) (by decide)) d_T_peakPart_28 ?_
    refine zw_iload_n (pc := 31) (n := 1) (x := Int32.ofInt a0_) rfl d_T_peakPart_31 ?_
    refine zw_iload (pc := 32) (i := 4) (x := Int32.ofInt (ze Mz (d_ + 1) 7)) rfl d_T_peakPart_32 ?_
    have hml_ := dv0
    refine zk_callV hf.x (pc := 34) [.int (Int32.ofInt a0_), .int (Int32.ofInt (ze Mz (d_ + 1) 7))] [] l_T_317 (u_Sums_putScaledL l d_ Mz (hf.w hW) a0_ ha0_a ha0_b (ze Mz (d_ + 1) 7) (ze_r Mz (d_ + 1) 7).1 (ze_r Mz (d_ + 1) 7).2 F_ K_ hA_ p0_) rfl rfl ((hf.w hW).kr (o := 23) (by decide)) (by decide) (by decide) (Nat.le_of_ble_eq_true rfl) d_T_peakPart_34 ?_
    rintro _ N2_ ⟨rfl, hsN2_, hp0_N2_⟩
    replace hp0_N2_ : zLow d_ Mz N2_ := hp0_N2_
    have hf_N2_ : zFc d_ [] [] [] [25, 27] Mz N2_ := hf.tr hsN2_ (by decide) (by decide) (by decide) (by decide)
    have c4_ : zKm F_ K_ d_ N2_ := zKm.fr (hf.w hW) hsN2_ p0_ (by decide)
    show zW l m_T_peakPart (zn Mz + 0, zw Mz + 0) N2_ 37 [some (.ref 0), some (.int (Int32.ofInt a0_)), some (.int (Int32.ofInt a1_)), some (.int (Int32.ofInt a2_)), some (.int (Int32.ofInt (ze Mz (d_ + 1) 7))), none, none] [] (zqcI d_ [] [] [] [25, 27] Mz (fun v N => zLow d_ Mz N))
    have hnl_ := hml_.tr hp0_N2_
    refine zw_aload_n (pc := 37) (n := 0) (x := 0) rfl d_T_peakPart_37 ?_
    refine zw_getF (pc := 38) f_T_28 rfl ((hf_N2_.w hW).ka (o := 0) (by decide)) (hf_N2_.now hnow) d_T_peakPart_38 ?_
    refine zw_getF (pc := 41) f_T_169 rfl ((hf_N2_.w hW).kr (o := 0) (by decide)) ((hf_N2_.w hW).lr (o := 0) (s := 2) (r := 23) (by decide)) d_T_peakPart_41 ?_
    refine zw_bipush (pc := 44) (v := Int32.ofInt 39) (by decide) d_T_peakPart_44 ?_
    refine zw_iload_n (pc := 46) (n := 2) (x := Int32.ofInt a1_) rfl d_T_peakPart_46 ?_
    refine zk_callV hf_N2_.x (pc := 47) [.int (Int32.ofInt 39), .int (Int32.ofInt a1_)] [] l_T_179 (u_Sums_numberAtX l d_ N2_ (hf_N2_.w hW) 39 (by decide) (by decide) a1_ ha1_a ha1_b) rfl rfl ((hf_N2_.w hW).kr (o := 23) (by decide)) (by decide) (by decide) (Nat.le_of_ble_eq_true rfl) d_T_peakPart_47 ?_
    rintro _ N5_ ⟨v6_, rfl, ⟨hv6_a, hv6_b⟩, hsN5_, -⟩
    obtain rfl := hsN5_.eq.symm
    show zW l m_T_peakPart (zn Mz + 0, zw Mz + 0) N2_ 50 [some (.ref 0), some (.int (Int32.ofInt a0_)), some (.int (Int32.ofInt a1_)), some (.int (Int32.ofInt a2_)), some (.int (Int32.ofInt (ze Mz (d_ + 1) 7))), none, none] [.long (Int64.ofInt v6_)] (zqcI d_ [] [] [] [25, 27] Mz (fun v N => zLow d_ Mz N))
    refine zr_l2i (pc := 50) d_T_peakPart_50 ?_
    refine zr_nmI (fun v7_ hv7_ => ?_)
    obtain ⟨hv7_a, hv7_b⟩ := hv7_
    refine zw_istore (pc := 51) (i := 5) (L2 := [some (.ref 0), some (.int (Int32.ofInt a0_)), some (.int (Int32.ofInt a1_)), some (.int (Int32.ofInt a2_)), some (.int (Int32.ofInt (ze Mz (d_ + 1) 7))), some (.int (Int32.ofInt v7_)), none]) (by decide) rfl d_T_peakPart_51 ?_
    refine zw_iload (pc := 53) (i := 4) (x := Int32.ofInt (ze Mz (d_ + 1) 7)) rfl d_T_peakPart_53 ?_
    refine zw_iload (pc := 55) (i := 5) (x := Int32.ofInt v7_) rfl d_T_peakPart_55 ?_
    refine zk_mabs (pc := 57) x_T_320 (by decide) (Nat.le_of_ble_eq_true rfl) d_T_peakPart_57 ⟨hv7_a, hv7_b⟩ (fun v8_ hv8_ hv8_e => ?_)
    obtain ⟨hv8_a, hv8_b⟩ := hv8_
    refine zr_callS hf_N2_.x (pc := 60) [.int (Int32.ofInt (ze Mz (d_ + 1) 7)), .int (Int32.ofInt v8_)] [] l_T_325 (u_T_greatestDivisorX l d_ N2_ (hf_N2_.w hW) (ze Mz (d_ + 1) 7) (ze_r Mz (d_ + 1) 7).1 (ze_r Mz (d_ + 1) 7).2 v8_ hv8_a hv8_b) rfl rfl (by decide) (Nat.le_of_ble_eq_true rfl) d_T_peakPart_60 ?_
    rintro _ N9_ ⟨v10_, rfl, ⟨hv10_a, hv10_b⟩, hsN9_, -⟩
    obtain rfl := hsN9_.eq.symm
    show zW l m_T_peakPart (zn Mz + 0, zw Mz + 0) N2_ 63 [some (.ref 0), some (.int (Int32.ofInt a0_)), some (.int (Int32.ofInt a1_)), some (.int (Int32.ofInt a2_)), some (.int (Int32.ofInt (ze Mz (d_ + 1) 7))), some (.int (Int32.ofInt v7_)), none] [.int (Int32.ofInt v10_)] (zqcI d_ [] [] [] [25, 27] Mz (fun v N => zLow d_ Mz N))
    refine zw_istore (pc := 63) (i := 6) (L2 := [some (.ref 0), some (.int (Int32.ofInt a0_)), some (.int (Int32.ofInt a1_)), some (.int (Int32.ofInt a2_)), some (.int (Int32.ofInt (ze Mz (d_ + 1) 7))), some (.int (Int32.ofInt v7_)), some (.int (Int32.ofInt v10_))]) (by decide) rfl d_T_peakPart_63 ?_
    refine zw_iload (pc := 65) (i := 6) (x := Int32.ofInt v10_) rfl d_T_peakPart_65 ?_
    refine zr_if_ne (pc := 67) (tgt := 73) ⟨hv10_a, hv10_b⟩ (by decide) d_T_peakPart_67 (fun hc_67 => ?_) (fun hc_67 => ?_)
    · skip
      refine zw_iload_n (pc := 73) (n := 3) (x := Int32.ofInt a2_) rfl d_T_peakPart_73 ?_
      refine zr_if_ne (pc := 74) (tgt := 85) ⟨ha2_a, ha2_b⟩ (by decide) d_T_peakPart_74 (fun hc_74 => ?_) (fun hc_74 => ?_)
      · skip
        refine zw_iload (pc := 85) (i := 4) (x := Int32.ofInt (ze Mz (d_ + 1) 7)) rfl d_T_peakPart_85 ?_
        refine zw_iload (pc := 87) (i := 6) (x := Int32.ofInt v10_) rfl d_T_peakPart_87 ?_
        refine zr_idiv (pc := 89) ⟨by omega, by omega⟩ (by omega) d_T_peakPart_89 ?_
        have hr11_ := zquo_r (ze Mz (d_ + 1) 7) v10_
        refine zr_nmI (fun v12_ hv12_ => ?_)
        obtain ⟨hv12_a, hv12_b⟩ := hv12_
        exact zk_iret (pc := 90) (ty := .int) rfl rfl ⟨by omega, by omega⟩ hf_N2_ (show zLow d_ Mz N2_ by exact hnl_) d_T_peakPart_90
      · skip
        refine zw_iload (pc := 77) (i := 5) (x := Int32.ofInt v7_) rfl d_T_peakPart_77 ?_
        refine zw_iload (pc := 79) (i := 6) (x := Int32.ofInt v10_) rfl d_T_peakPart_79 ?_
        refine zr_idiv (pc := 81) ⟨by omega, by omega⟩ (by omega) d_T_peakPart_81 ?_
        have hr13_ := zquo_r v7_ v10_
        refine zr_nmI (fun v14_ hv14_ => ?_)
        obtain ⟨hv14_a, hv14_b⟩ := hv14_
        refine zw_goto (pc := 82) (tgt := 90) (by decide) d_T_peakPart_82 ?_
        exact zk_iret (pc := 90) (ty := .int) rfl rfl ⟨by omega, by omega⟩ hf_N2_ (show zLow d_ Mz N2_ by exact hnl_) d_T_peakPart_90
    · skip
      refine zw_ldc (pc := 70) (v := Int32.ofInt (-1000000)) (by rw [show Int32.ofInt (-1000000) = ((-1000000) : Int32) by decide]; exact k_T_204) d_T_peakPart_70 ?_
      exact zk_iret (pc := 72) (ty := .int) rfl rfl ⟨by omega, by omega⟩ hf_N2_ (show zLow d_ Mz N2_ by exact hnl_) d_T_peakPart_72
  · skip
    refine zw_iload_n (pc := 4) (n := 3) (x := Int32.ofInt a2_) rfl d_T_peakPart_4 ?_
    refine zw_iconst (pc := 5) (v := Int32.ofInt 1) (by decide) d_T_peakPart_5 ?_
    refine zr_icmp_eq (pc := 6) (tgt := 12) ⟨ha2_a, ha2_b⟩ ⟨(by decide), (by decide)⟩ (by decide) d_T_peakPart_6 (fun hc_6 => ?_) (fun hc_6 => ?_)
    · skip
      refine zw_aload_n (pc := 12) (n := 0) (x := 0) rfl d_T_peakPart_12 ?_
      refine zw_getF (pc := 13) f_T_28 rfl ((hf.w hW).ka (o := 0) (by decide)) (hf.now hnow) d_T_peakPart_13 ?_
      refine zw_getF (pc := 16) f_T_61 rfl ((hf.w hW).kr (o := 0) (by decide)) ((hf.w hW).lr (o := 0) (s := 0) (r := 1) (by decide)) d_T_peakPart_16 ?_
      refine zk_getI (pc := 19) f_T_65 rfl ((hf.w hW).kr (o := 1) (by decide)) d_T_peakPart_19 ?_
      have hr15_ := ze_r Mz (d_ + 1) 7
      refine zw_istore (pc := 22) (i := 4) (L2 := [some (.ref 0), some (.int (Int32.ofInt a0_)), some (.int (Int32.ofInt a1_)), some (.int (Int32.ofInt a2_)), some (.int (Int32.ofInt (ze Mz (d_ + 1) 7))), none, none]) (by decide) rfl d_T_peakPart_22 ?_
      refine zw_aload_n (pc := 24) (n := 0) (x := 0) rfl d_T_peakPart_24 ?_
      refine zw_getF (pc := 25) f_T_28 rfl ((hf.w hW).ka (o := 0) (by decide)) (hf.now hnow) d_T_peakPart_25 ?_
      refine zw_getF (pc := 28) f_T_169 rfl ((hf.w hW).kr (o := 0) (by decide)) ((hf.w hW).lr (o := 0) (s := 2) (r := 23) (by decide)) d_T_peakPart_28 ?_
      refine zw_iload_n (pc := 31) (n := 1) (x := Int32.ofInt a0_) rfl d_T_peakPart_31 ?_
      refine zw_iload (pc := 32) (i := 4) (x := Int32.ofInt (ze Mz (d_ + 1) 7)) rfl d_T_peakPart_32 ?_
      have hml_ := dv0
      refine zk_callV hf.x (pc := 34) [.int (Int32.ofInt a0_), .int (Int32.ofInt (ze Mz (d_ + 1) 7))] [] l_T_317 (u_Sums_putScaledL l d_ Mz (hf.w hW) a0_ ha0_a ha0_b (ze Mz (d_ + 1) 7) (ze_r Mz (d_ + 1) 7).1 (ze_r Mz (d_ + 1) 7).2 F_ K_ hA_ p0_) rfl rfl ((hf.w hW).kr (o := 23) (by decide)) (by decide) (by decide) (Nat.le_of_ble_eq_true rfl) d_T_peakPart_34 ?_
      rintro _ N16_ ⟨rfl, hsN16_, hp0_N16_⟩
      replace hp0_N16_ : zLow d_ Mz N16_ := hp0_N16_
      have hf_N16_ : zFc d_ [] [] [] [25, 27] Mz N16_ := hf.tr hsN16_ (by decide) (by decide) (by decide) (by decide)
      have c18_ : zKm F_ K_ d_ N16_ := zKm.fr (hf.w hW) hsN16_ p0_ (by decide)
      show zW l m_T_peakPart (zn Mz + 0, zw Mz + 0) N16_ 37 [some (.ref 0), some (.int (Int32.ofInt a0_)), some (.int (Int32.ofInt a1_)), some (.int (Int32.ofInt a2_)), some (.int (Int32.ofInt (ze Mz (d_ + 1) 7))), none, none] [] (zqcI d_ [] [] [] [25, 27] Mz (fun v N => zLow d_ Mz N))
      have hnl_ := hml_.tr hp0_N16_
      refine zw_aload_n (pc := 37) (n := 0) (x := 0) rfl d_T_peakPart_37 ?_
      refine zw_getF (pc := 38) f_T_28 rfl ((hf_N16_.w hW).ka (o := 0) (by decide)) (hf_N16_.now hnow) d_T_peakPart_38 ?_
      refine zw_getF (pc := 41) f_T_169 rfl ((hf_N16_.w hW).kr (o := 0) (by decide)) ((hf_N16_.w hW).lr (o := 0) (s := 2) (r := 23) (by decide)) d_T_peakPart_41 ?_
      refine zw_bipush (pc := 44) (v := Int32.ofInt 39) (by decide) d_T_peakPart_44 ?_
      refine zw_iload_n (pc := 46) (n := 2) (x := Int32.ofInt a1_) rfl d_T_peakPart_46 ?_
      refine zk_callV hf_N16_.x (pc := 47) [.int (Int32.ofInt 39), .int (Int32.ofInt a1_)] [] l_T_179 (u_Sums_numberAtX l d_ N16_ (hf_N16_.w hW) 39 (by decide) (by decide) a1_ ha1_a ha1_b) rfl rfl ((hf_N16_.w hW).kr (o := 23) (by decide)) (by decide) (by decide) (Nat.le_of_ble_eq_true rfl) d_T_peakPart_47 ?_
      rintro _ N19_ ⟨v20_, rfl, ⟨hv20_a, hv20_b⟩, hsN19_, -⟩
      obtain rfl := hsN19_.eq.symm
      show zW l m_T_peakPart (zn Mz + 0, zw Mz + 0) N16_ 50 [some (.ref 0), some (.int (Int32.ofInt a0_)), some (.int (Int32.ofInt a1_)), some (.int (Int32.ofInt a2_)), some (.int (Int32.ofInt (ze Mz (d_ + 1) 7))), none, none] [.long (Int64.ofInt v20_)] (zqcI d_ [] [] [] [25, 27] Mz (fun v N => zLow d_ Mz N))
      refine zr_l2i (pc := 50) d_T_peakPart_50 ?_
      refine zr_nmI (fun v21_ hv21_ => ?_)
      obtain ⟨hv21_a, hv21_b⟩ := hv21_
      refine zw_istore (pc := 51) (i := 5) (L2 := [some (.ref 0), some (.int (Int32.ofInt a0_)), some (.int (Int32.ofInt a1_)), some (.int (Int32.ofInt a2_)), some (.int (Int32.ofInt (ze Mz (d_ + 1) 7))), some (.int (Int32.ofInt v21_)), none]) (by decide) rfl d_T_peakPart_51 ?_
      refine zw_iload (pc := 53) (i := 4) (x := Int32.ofInt (ze Mz (d_ + 1) 7)) rfl d_T_peakPart_53 ?_
      refine zw_iload (pc := 55) (i := 5) (x := Int32.ofInt v21_) rfl d_T_peakPart_55 ?_
      refine zk_mabs (pc := 57) x_T_320 (by decide) (Nat.le_of_ble_eq_true rfl) d_T_peakPart_57 ⟨hv21_a, hv21_b⟩ (fun v22_ hv22_ hv22_e => ?_)
      obtain ⟨hv22_a, hv22_b⟩ := hv22_
      refine zr_callS hf_N16_.x (pc := 60) [.int (Int32.ofInt (ze Mz (d_ + 1) 7)), .int (Int32.ofInt v22_)] [] l_T_325 (u_T_greatestDivisorX l d_ N16_ (hf_N16_.w hW) (ze Mz (d_ + 1) 7) (ze_r Mz (d_ + 1) 7).1 (ze_r Mz (d_ + 1) 7).2 v22_ hv22_a hv22_b) rfl rfl (by decide) (Nat.le_of_ble_eq_true rfl) d_T_peakPart_60 ?_
      rintro _ N23_ ⟨v24_, rfl, ⟨hv24_a, hv24_b⟩, hsN23_, -⟩
      obtain rfl := hsN23_.eq.symm
      show zW l m_T_peakPart (zn Mz + 0, zw Mz + 0) N16_ 63 [some (.ref 0), some (.int (Int32.ofInt a0_)), some (.int (Int32.ofInt a1_)), some (.int (Int32.ofInt a2_)), some (.int (Int32.ofInt (ze Mz (d_ + 1) 7))), some (.int (Int32.ofInt v21_)), none] [.int (Int32.ofInt v24_)] (zqcI d_ [] [] [] [25, 27] Mz (fun v N => zLow d_ Mz N))
      refine zw_istore (pc := 63) (i := 6) (L2 := [some (.ref 0), some (.int (Int32.ofInt a0_)), some (.int (Int32.ofInt a1_)), some (.int (Int32.ofInt a2_)), some (.int (Int32.ofInt (ze Mz (d_ + 1) 7))), some (.int (Int32.ofInt v21_)), some (.int (Int32.ofInt v24_))]) (by decide) rfl d_T_peakPart_63 ?_
      refine zw_iload (pc := 65) (i := 6) (x := Int32.ofInt v24_) rfl d_T_peakPart_65 ?_
      refine zr_if_ne (pc := 67) (tgt := 73) ⟨hv24_a, hv24_b⟩ (by decide) d_T_peakPart_67 (fun hc_67 => ?_) (fun hc_67 => ?_)
      · skip
        refine zw_iload_n (pc := 73) (n := 3) (x := Int32.ofInt a2_) rfl d_T_peakPart_73 ?_
        refine zr_if_ne (pc := 74) (tgt := 85) ⟨ha2_a, ha2_b⟩ (by decide) d_T_peakPart_74 (fun hc_74 => ?_) (fun hc_74 => ?_)
        · skip
          refine zw_iload (pc := 85) (i := 4) (x := Int32.ofInt (ze Mz (d_ + 1) 7)) rfl d_T_peakPart_85 ?_
          refine zw_iload (pc := 87) (i := 6) (x := Int32.ofInt v24_) rfl d_T_peakPart_87 ?_
          refine zr_idiv (pc := 89) ⟨by omega, by omega⟩ (by omega) d_T_peakPart_89 ?_
          have hr25_ := zquo_r (ze Mz (d_ + 1) 7) v24_
          refine zr_nmI (fun v26_ hv26_ => ?_)
          obtain ⟨hv26_a, hv26_b⟩ := hv26_
          exact zk_iret (pc := 90) (ty := .int) rfl rfl ⟨by omega, by omega⟩ hf_N16_ (show zLow d_ Mz N16_ by exact hnl_) d_T_peakPart_90
        · skip
          refine zw_iload (pc := 77) (i := 5) (x := Int32.ofInt v21_) rfl d_T_peakPart_77 ?_
          refine zw_iload (pc := 79) (i := 6) (x := Int32.ofInt v24_) rfl d_T_peakPart_79 ?_
          refine zr_idiv (pc := 81) ⟨by omega, by omega⟩ (by omega) d_T_peakPart_81 ?_
          have hr27_ := zquo_r v21_ v24_
          refine zr_nmI (fun v28_ hv28_ => ?_)
          obtain ⟨hv28_a, hv28_b⟩ := hv28_
          refine zw_goto (pc := 82) (tgt := 90) (by decide) d_T_peakPart_82 ?_
          exact zk_iret (pc := 90) (ty := .int) rfl rfl ⟨by omega, by omega⟩ hf_N16_ (show zLow d_ Mz N16_ by exact hnl_) d_T_peakPart_90
      · skip
        refine zw_ldc (pc := 70) (v := Int32.ofInt (-1000000)) (by rw [show Int32.ofInt (-1000000) = ((-1000000) : Int32) by decide]; exact k_T_204) d_T_peakPart_70 ?_
        exact zk_iret (pc := 72) (ty := .int) rfl rfl ⟨by omega, by omega⟩ hf_N16_ (show zLow d_ Mz N16_ by exact hnl_) d_T_peakPart_72
    · skip
      refine zw_ldc (pc := 9) (v := Int32.ofInt (-1000000)) (by rw [show Int32.ofInt (-1000000) = ((-1000000) : Int32) by decide]; exact k_T_204) d_T_peakPart_9 ?_
      exact zk_iret (pc := 11) (ty := .int) rfl rfl ⟨by omega, by omega⟩ hf (show zLow d_ Mz Mz by exact dv0) d_T_peakPart_11
set_option maxHeartbeats 4000000 in
theorem u_T_peakL (l : Launch) (d_ : Nat) (Mz : zMem) (hW : zKW d_ Mz) (hnow : zf Mz 0 2 = some (d_ + 0)) (a0_ : Int) (ha0_a : -2147483648 ≤ a0_) (ha0_b : a0_ < 2147483648) (a1_ : Int) (ha1_a : -2147483648 ≤ a1_) (ha1_b : a1_ < 2147483648) (a2_ : Int) (ha2_a : -2147483648 ≤ a2_) (ha2_b : a2_ < 2147483648) (F_ : Nat) (K_ : Nat → Nat → Int) (hA_ : zTA F_ K_) (p0_ : zKm F_ K_ d_ Mz) : zC l m_T_peak 0 0 [.ref 0, .int (Int32.ofInt a0_), .int (Int32.ofInt a1_), .int (Int32.ofInt a2_)] Mz (zqcI d_ [] [] [] [25, 27] Mz (fun v N => zLow d_ Mz N)) := by
  refine zC_of (L0 := [some (.ref 0), some (.int (Int32.ofInt a0_)), some (.int (Int32.ofInt a1_)), some (.int (Int32.ofInt a2_))]) md_T_peak (Nat.le_of_ble_eq_true rfl) rfl ?_ zQ0
  have hf : zFc d_ [] [] [] [25, 27] Mz Mz := zFc.rf
  obtain ⟨⟨hF1_, hF27_⟩, hAr_⟩ := id hA_
  obtain ⟨hFc_, hKt_⟩ := id p0_
  have dv0 : zLow d_ Mz Mz := zLow.rf
  refine zw_aload_n (pc := 0) (n := 0) (x := 0) rfl d_T_peak_0 ?_
  refine zw_getF (pc := 1) f_T_28 rfl ((hf.w hW).ka (o := 0) (by decide)) (hf.now hnow) d_T_peak_1 ?_
  refine zw_getF (pc := 4) f_T_85 rfl ((hf.w hW).kr (o := 0) (by decide)) ((hf.w hW).lr (o := 0) (s := 1) (r := 12) (by decide)) d_T_peak_4 ?_
  refine zw_iload_n (pc := 7) (n := 1) (x := Int32.ofInt a0_) rfl d_T_peak_7 ?_
  refine zk_callV hf.x (pc := 8) [.int (Int32.ofInt a0_)] [] l_T_143 (u_Sorts_hasSortX l d_ Mz (hf.w hW) a0_ ha0_a ha0_b) rfl rfl ((hf.w hW).kr (o := 12) (by decide)) (by decide) (by decide) (Nat.le_of_ble_eq_true rfl) d_T_peak_8 ?_
  rintro _ N1_ ⟨v2_, rfl, ⟨hv2_a, hv2_b⟩, hsN1_, hp0_N1_⟩
  obtain rfl := hsN1_.eq.symm
  replace hp0_N1_ : (v2_ = 0 ∨ v2_ = 1) := hp0_N1_
  show zW l m_T_peak (zn Mz + 0, zw Mz + 0) Mz 11 [some (.ref 0), some (.int (Int32.ofInt a0_)), some (.int (Int32.ofInt a1_)), some (.int (Int32.ofInt a2_))] [.int (Int32.ofInt v2_)] (zqcI d_ [] [] [] [25, 27] Mz (fun v N => zLow d_ Mz N))
  refine zr_if_eq (pc := 11) (tgt := 28) ⟨hv2_a, hv2_b⟩ (by decide) d_T_peak_11 (fun hc_11 => ?_) (fun hc_11 => ?_)
  · skip
    refine zw_ldc (pc := 28) (v := Int32.ofInt (-1000000)) (by rw [show Int32.ofInt (-1000000) = ((-1000000) : Int32) by decide]; exact k_T_204) d_T_peak_28 ?_
    exact zk_iret (pc := 30) (ty := .int) rfl rfl ⟨by omega, by omega⟩ hf (show zLow d_ Mz Mz by exact dv0) d_T_peak_30
  · skip
    refine zw_aload_n (pc := 14) (n := 0) (x := 0) rfl d_T_peak_14 ?_
    refine zw_getF (pc := 15) f_T_28 rfl ((hf.w hW).ka (o := 0) (by decide)) (hf.now hnow) d_T_peak_15 ?_
    refine zw_getF (pc := 18) f_T_85 rfl ((hf.w hW).kr (o := 0) (by decide)) ((hf.w hW).lr (o := 0) (s := 1) (r := 12) (by decide)) d_T_peak_18 ?_
    refine zw_iload_n (pc := 21) (n := 2) (x := Int32.ofInt a1_) rfl d_T_peak_21 ?_
    refine zk_callV hf.x (pc := 22) [.int (Int32.ofInt a1_)] [] l_T_143 (u_Sorts_hasSortX l d_ Mz (hf.w hW) a1_ ha1_a ha1_b) rfl rfl ((hf.w hW).kr (o := 12) (by decide)) (by decide) (by decide) (Nat.le_of_ble_eq_true rfl) d_T_peak_22 ?_
    rintro _ N3_ ⟨v4_, rfl, ⟨hv4_a, hv4_b⟩, hsN3_, hp0_N3_⟩
    obtain rfl := hsN3_.eq.symm
    replace hp0_N3_ : (v4_ = 0 ∨ v4_ = 1) := hp0_N3_
    show zW l m_T_peak (zn Mz + 0, zw Mz + 0) Mz 25 [some (.ref 0), some (.int (Int32.ofInt a0_)), some (.int (Int32.ofInt a1_)), some (.int (Int32.ofInt a2_))] [.int (Int32.ofInt v4_)] (zqcI d_ [] [] [] [25, 27] Mz (fun v N => zLow d_ Mz N))
    refine zr_if_ne (pc := 25) (tgt := 31) ⟨hv4_a, hv4_b⟩ (by decide) d_T_peak_25 (fun hc_25 => ?_) (fun hc_25 => ?_)
    · skip
      refine zw_aload_n (pc := 31) (n := 0) (x := 0) rfl d_T_peak_31 ?_
      refine zw_iconst (pc := 32) (v := Int32.ofInt 1) (by decide) d_T_peak_32 ?_
      refine zw_iload_n (pc := 33) (n := 1) (x := Int32.ofInt a0_) rfl d_T_peak_33 ?_
      refine zr_ishl (pc := 34) d_T_peak_34 ?_
      have hr5_ := zshl_r 1 a0_
      refine zr_nmI (fun v6_ hv6_ => ?_)
      obtain ⟨hv6_a, hv6_b⟩ := hv6_
      refine zw_iload_n (pc := 35) (n := 2) (x := Int32.ofInt a1_) rfl d_T_peak_35 ?_
      refine zw_iload_n (pc := 36) (n := 3) (x := Int32.ofInt a2_) rfl d_T_peak_36 ?_
      have hml_ := dv0
      refine zk_callV hf.x (pc := 37) [.int (Int32.ofInt v6_), .int (Int32.ofInt a1_), .int (Int32.ofInt a2_)] [] l_T_223 (u_T_peakPartL l d_ Mz (hf.w hW) (hf.now hnow) v6_ hv6_a hv6_b a1_ ha1_a ha1_b a2_ ha2_a ha2_b F_ K_ hA_ p0_) rfl rfl ((hf.w hW).ka (o := 0) (by decide)) (by decide) (by decide) (Nat.le_of_ble_eq_true rfl) d_T_peak_37 ?_
      rintro _ N7_ ⟨v8_, rfl, ⟨hv8_a, hv8_b⟩, hsN7_, hp0_N7_⟩
      replace hp0_N7_ : zLow d_ Mz N7_ := hp0_N7_
      have hf_N7_ : zFc d_ [] [] [] [25, 27] Mz N7_ := hf.tr hsN7_ (by decide) (by decide) (by decide) (by decide)
      have c9_ : zKm F_ K_ d_ N7_ := zKm.fr (hf.w hW) hsN7_ p0_ (by decide)
      show zW l m_T_peak (zn Mz + 0, zw Mz + 0) N7_ 40 [some (.ref 0), some (.int (Int32.ofInt a0_)), some (.int (Int32.ofInt a1_)), some (.int (Int32.ofInt a2_))] [.int (Int32.ofInt v8_)] (zqcI d_ [] [] [] [25, 27] Mz (fun v N => zLow d_ Mz N))
      have hnl_ := hml_.tr hp0_N7_
      exact zk_iret (pc := 40) (ty := .int) rfl rfl ⟨by omega, by omega⟩ hf_N7_ (show zLow d_ Mz N7_ by exact hnl_) d_T_peak_40
    · skip
      refine zw_ldc (pc := 28) (v := Int32.ofInt (-1000000)) (by rw [show Int32.ofInt (-1000000) = ((-1000000) : Int32) by decide]; exact k_T_204) d_T_peak_28 ?_
      exact zk_iret (pc := 30) (ty := .int) rfl rfl ⟨by omega, by omega⟩ hf (show zLow d_ Mz Mz by exact dv0) d_T_peak_30
set_option maxHeartbeats 4000000 in
theorem u_T_localL (l : Launch) (d_ : Nat) (Mz : zMem) (hW : zKW d_ Mz) (hnow : zf Mz 0 2 = some (d_ + 0)) (a0_ : Int) (ha0_a : -2147483648 ≤ a0_) (ha0_b : a0_ < 2147483648) (a1_ : Int) (ha1_a : -2147483648 ≤ a1_) (ha1_b : a1_ < 2147483648) (a2_ : Int) (ha2_a : -2147483648 ≤ a2_) (ha2_b : a2_ < 2147483648) (a3_ : Int) (ha3_a : -2147483648 ≤ a3_) (ha3_b : a3_ < 2147483648) (F_ : Nat) (K_ : Nat → Nat → Int) (hA_ : zTA F_ K_) (p0_ : zKm F_ K_ d_ Mz) : zC l m_T_local 0 0 [.ref 0, .int (Int32.ofInt a0_), .int (Int32.ofInt a1_), .int (Int32.ofInt a2_), .int (Int32.ofInt a3_)] Mz (zqcI d_ [] [] [] [25, 27] Mz (fun v N => zLow d_ Mz N)) := by
  refine zC_of (L0 := [some (.ref 0), some (.int (Int32.ofInt a0_)), some (.int (Int32.ofInt a1_)), some (.int (Int32.ofInt a2_)), some (.int (Int32.ofInt a3_))]) md_T_local (Nat.le_of_ble_eq_true rfl) rfl ?_ zQ0
  have hf : zFc d_ [] [] [] [25, 27] Mz Mz := zFc.rf
  obtain ⟨⟨hF1_, hF27_⟩, hAr_⟩ := id hA_
  obtain ⟨hFc_, hKt_⟩ := id p0_
  have dv0 : zLow d_ Mz Mz := zLow.rf
  refine zw_iload_n (pc := 0) (n := 1) (x := Int32.ofInt a0_) rfl d_T_local_0 ?_
  refine zr_callS hf.x (pc := 1) [.int (Int32.ofInt a0_)] [] l_T_183 (u_T_isPrimeX l d_ Mz (hf.w hW) a0_ ha0_a ha0_b) rfl rfl (by decide) (Nat.le_of_ble_eq_true rfl) d_T_local_1 ?_
  rintro _ N1_ ⟨v2_, rfl, ⟨hv2_a, hv2_b⟩, hsN1_, ⟨hp0_N1_, hp1_N1_⟩⟩
  obtain rfl := hsN1_.eq.symm
  show zW l m_T_local (zn Mz + 0, zw Mz + 0) Mz 4 [some (.ref 0), some (.int (Int32.ofInt a0_)), some (.int (Int32.ofInt a1_)), some (.int (Int32.ofInt a2_)), some (.int (Int32.ofInt a3_))] [.int (Int32.ofInt v2_)] (zqcI d_ [] [] [] [25, 27] Mz (fun v N => zLow d_ Mz N))
  refine zr_if_eq (pc := 4) (tgt := 35) ⟨hv2_a, hv2_b⟩ (by decide) d_T_local_4 (fun hc_4 => ?_) (fun hc_4 => ?_)
  · skip
    refine zw_ldc (pc := 35) (v := Int32.ofInt (-1000000)) (by rw [show Int32.ofInt (-1000000) = ((-1000000) : Int32) by decide]; exact k_T_204) d_T_local_35 ?_
    exact zk_iret (pc := 37) (ty := .int) rfl rfl ⟨by omega, by omega⟩ hf (show zLow d_ Mz Mz by exact dv0) d_T_local_37
  · skip
    refine zw_aload_n (pc := 7) (n := 0) (x := 0) rfl d_T_local_7 ?_
    refine zw_getF (pc := 8) f_T_28 rfl ((hf.w hW).ka (o := 0) (by decide)) (hf.now hnow) d_T_local_8 ?_
    refine zw_getF (pc := 11) f_T_85 rfl ((hf.w hW).kr (o := 0) (by decide)) ((hf.w hW).lr (o := 0) (s := 1) (r := 12) (by decide)) d_T_local_11 ?_
    refine zw_iload_n (pc := 14) (n := 2) (x := Int32.ofInt a1_) rfl d_T_local_14 ?_
    refine zk_callV hf.x (pc := 15) [.int (Int32.ofInt a1_)] [] l_T_143 (u_Sorts_hasSortX l d_ Mz (hf.w hW) a1_ ha1_a ha1_b) rfl rfl ((hf.w hW).kr (o := 12) (by decide)) (by decide) (by decide) (Nat.le_of_ble_eq_true rfl) d_T_local_15 ?_
    rintro _ N3_ ⟨v4_, rfl, ⟨hv4_a, hv4_b⟩, hsN3_, hp0_N3_⟩
    obtain rfl := hsN3_.eq.symm
    replace hp0_N3_ : (v4_ = 0 ∨ v4_ = 1) := hp0_N3_
    show zW l m_T_local (zn Mz + 0, zw Mz + 0) Mz 18 [some (.ref 0), some (.int (Int32.ofInt a0_)), some (.int (Int32.ofInt a1_)), some (.int (Int32.ofInt a2_)), some (.int (Int32.ofInt a3_))] [.int (Int32.ofInt v4_)] (zqcI d_ [] [] [] [25, 27] Mz (fun v N => zLow d_ Mz N))
    refine zr_if_eq (pc := 18) (tgt := 35) ⟨hv4_a, hv4_b⟩ (by decide) d_T_local_18 (fun hc_18 => ?_) (fun hc_18 => ?_)
    · skip
      refine zw_ldc (pc := 35) (v := Int32.ofInt (-1000000)) (by rw [show Int32.ofInt (-1000000) = ((-1000000) : Int32) by decide]; exact k_T_204) d_T_local_35 ?_
      exact zk_iret (pc := 37) (ty := .int) rfl rfl ⟨by omega, by omega⟩ hf (show zLow d_ Mz Mz by exact dv0) d_T_local_37
    · skip
      refine zw_aload_n (pc := 21) (n := 0) (x := 0) rfl d_T_local_21 ?_
      refine zw_getF (pc := 22) f_T_28 rfl ((hf.w hW).ka (o := 0) (by decide)) (hf.now hnow) d_T_local_22 ?_
      refine zw_getF (pc := 25) f_T_85 rfl ((hf.w hW).kr (o := 0) (by decide)) ((hf.w hW).lr (o := 0) (s := 1) (r := 12) (by decide)) d_T_local_25 ?_
      refine zw_iload_n (pc := 28) (n := 3) (x := Int32.ofInt a2_) rfl d_T_local_28 ?_
      refine zk_callV hf.x (pc := 29) [.int (Int32.ofInt a2_)] [] l_T_143 (u_Sorts_hasSortX l d_ Mz (hf.w hW) a2_ ha2_a ha2_b) rfl rfl ((hf.w hW).kr (o := 12) (by decide)) (by decide) (by decide) (Nat.le_of_ble_eq_true rfl) d_T_local_29 ?_
      rintro _ N5_ ⟨v6_, rfl, ⟨hv6_a, hv6_b⟩, hsN5_, hp0_N5_⟩
      obtain rfl := hsN5_.eq.symm
      replace hp0_N5_ : (v6_ = 0 ∨ v6_ = 1) := hp0_N5_
      show zW l m_T_local (zn Mz + 0, zw Mz + 0) Mz 32 [some (.ref 0), some (.int (Int32.ofInt a0_)), some (.int (Int32.ofInt a1_)), some (.int (Int32.ofInt a2_)), some (.int (Int32.ofInt a3_))] [.int (Int32.ofInt v6_)] (zqcI d_ [] [] [] [25, 27] Mz (fun v N => zLow d_ Mz N))
      refine zr_if_ne (pc := 32) (tgt := 38) ⟨hv6_a, hv6_b⟩ (by decide) d_T_local_32 (fun hc_32 => ?_) (fun hc_32 => ?_)
      · skip
        refine zw_aload_n (pc := 38) (n := 0) (x := 0) rfl d_T_local_38 ?_
        refine zw_aload_n (pc := 39) (n := 0) (x := 0) rfl d_T_local_39 ?_
        refine zw_getF (pc := 40) f_T_28 rfl ((hf.w hW).ka (o := 0) (by decide)) (hf.now hnow) d_T_local_40 ?_
        refine zw_getF (pc := 43) f_T_85 rfl ((hf.w hW).kr (o := 0) (by decide)) ((hf.w hW).lr (o := 0) (s := 1) (r := 12) (by decide)) d_T_local_43 ?_
        refine zw_iload_n (pc := 46) (n := 2) (x := Int32.ofInt a1_) rfl d_T_local_46 ?_
        refine zw_iload_n (pc := 47) (n := 1) (x := Int32.ofInt a0_) rfl d_T_local_47 ?_
        refine zk_callV hf.x (pc := 48) [.int (Int32.ofInt a1_), .int (Int32.ofInt a0_)] [.ref 0] l_T_189 (u_Sorts_blockOfX l d_ Mz (hf.w hW) a1_ ha1_a ha1_b a0_ ha0_a ha0_b (show (a0_ = 2 ∨ a0_ = 3 ∨ a0_ = 5) by first | assumption | omega)) rfl rfl ((hf.w hW).kr (o := 12) (by decide)) (by decide) (by decide) (Nat.le_of_ble_eq_true rfl) d_T_local_48 ?_
        rintro _ N7_ ⟨v8_, rfl, ⟨hv8_a, hv8_b⟩, hsN7_, -⟩
        obtain rfl := hsN7_.eq.symm
        show zW l m_T_local (zn Mz + 0, zw Mz + 0) Mz 51 [some (.ref 0), some (.int (Int32.ofInt a0_)), some (.int (Int32.ofInt a1_)), some (.int (Int32.ofInt a2_)), some (.int (Int32.ofInt a3_))] [.int (Int32.ofInt v8_), .ref 0] (zqcI d_ [] [] [] [25, 27] Mz (fun v N => zLow d_ Mz N))
        refine zw_iload_n (pc := 51) (n := 3) (x := Int32.ofInt a2_) rfl d_T_local_51 ?_
        refine zw_iload (pc := 52) (i := 4) (x := Int32.ofInt a3_) rfl d_T_local_52 ?_
        have hml_ := dv0
        refine zk_callV hf.x (pc := 54) [.int (Int32.ofInt v8_), .int (Int32.ofInt a2_), .int (Int32.ofInt a3_)] [] l_T_223 (u_T_peakPartL l d_ Mz (hf.w hW) (hf.now hnow) v8_ hv8_a hv8_b a2_ ha2_a ha2_b a3_ ha3_a ha3_b F_ K_ hA_ p0_) rfl rfl ((hf.w hW).ka (o := 0) (by decide)) (by decide) (by decide) (Nat.le_of_ble_eq_true rfl) d_T_local_54 ?_
        rintro _ N9_ ⟨v10_, rfl, ⟨hv10_a, hv10_b⟩, hsN9_, hp0_N9_⟩
        replace hp0_N9_ : zLow d_ Mz N9_ := hp0_N9_
        have hf_N9_ : zFc d_ [] [] [] [25, 27] Mz N9_ := hf.tr hsN9_ (by decide) (by decide) (by decide) (by decide)
        have c11_ : zKm F_ K_ d_ N9_ := zKm.fr (hf.w hW) hsN9_ p0_ (by decide)
        show zW l m_T_local (zn Mz + 0, zw Mz + 0) N9_ 57 [some (.ref 0), some (.int (Int32.ofInt a0_)), some (.int (Int32.ofInt a1_)), some (.int (Int32.ofInt a2_)), some (.int (Int32.ofInt a3_))] [.int (Int32.ofInt v10_)] (zqcI d_ [] [] [] [25, 27] Mz (fun v N => zLow d_ Mz N))
        have hnl_ := hml_.tr hp0_N9_
        exact zk_iret (pc := 57) (ty := .int) rfl rfl ⟨by omega, by omega⟩ hf_N9_ (show zLow d_ Mz N9_ by exact hnl_) d_T_local_57
      · skip
        refine zw_ldc (pc := 35) (v := Int32.ofInt (-1000000)) (by rw [show Int32.ofInt (-1000000) = ((-1000000) : Int32) by decide]; exact k_T_204) d_T_local_35 ?_
        exact zk_iret (pc := 37) (ty := .int) rfl rfl ⟨by omega, by omega⟩ hf (show zLow d_ Mz Mz by exact dv0) d_T_local_37
set_option maxHeartbeats 4000000 in
theorem u_T_unitL (l : Launch) (d_ : Nat) (Mz : zMem) (hW : zKW d_ Mz) (hnow : zf Mz 0 2 = some (d_ + 0)) (a0_ : Int) (ha0_a : -2147483648 ≤ a0_) (ha0_b : a0_ < 2147483648) (a1_ : Int) (ha1_a : -2147483648 ≤ a1_) (ha1_b : a1_ < 2147483648) (F_ : Nat) (K_ : Nat → Nat → Int) (hA_ : zTA F_ K_) (p0_ : zKm F_ K_ d_ Mz) : zC l m_T_unit 0 0 [.ref 0, .int (Int32.ofInt a0_), .int (Int32.ofInt a1_)] Mz (zqcI d_ [] [] [(28, 3), (28, 4)] [11, 25, 27, 30, 32] Mz (fun v N => zLow d_ Mz N)) := by
  refine zC_of (L0 := [some (.ref 0), some (.int (Int32.ofInt a0_)), some (.int (Int32.ofInt a1_))]) md_T_unit (Nat.le_of_ble_eq_true rfl) rfl ?_ zQ0
  have hf : zFc d_ [] [] [(28, 3), (28, 4)] [11, 25, 27, 30, 32] Mz Mz := zFc.rf
  obtain ⟨⟨hF1_, hF27_⟩, hAr_⟩ := id hA_
  obtain ⟨hFc_, hKt_⟩ := id p0_
  have dv0 : zLow d_ Mz Mz := zLow.rf
  refine zw_aload_n (pc := 0) (n := 0) (x := 0) rfl d_T_unit_0 ?_
  refine zw_getF (pc := 1) f_T_28 rfl ((hf.w hW).ka (o := 0) (by decide)) (hf.now hnow) d_T_unit_1 ?_
  refine zw_getF (pc := 4) f_T_227 rfl ((hf.w hW).kr (o := 0) (by decide)) ((hf.w hW).lr (o := 0) (s := 3) (r := 28) (by decide)) d_T_unit_4 ?_
  refine zk_callV hf.x (pc := 7) [] [] l_T_231 (u_Units_seekX l d_ Mz (hf.w hW) ) rfl rfl ((hf.w hW).kr (o := 28) (by decide)) (by decide) (by decide) (Nat.le_of_ble_eq_true rfl) d_T_unit_7 ?_
  rintro _ N1_ ⟨rfl, hsN1_, -⟩
  have hf_N1_ : zFc d_ [] [] [(28, 3), (28, 4)] [11, 25, 27, 30, 32] Mz N1_ := hf.tr hsN1_ (by decide) (by decide) (by decide) (by decide)
  have c3_ : zKm F_ K_ d_ N1_ := zKm.fr (hf.w hW) hsN1_ p0_ (by decide)
  have c4_ : zLow d_ Mz N1_ := zLow.fr (hf.w hW) hsN1_ dv0 (by decide)
  show zW l m_T_unit (zn Mz + 0, zw Mz + 0) N1_ 10 [some (.ref 0), some (.int (Int32.ofInt a0_)), some (.int (Int32.ofInt a1_))] [] (zqcI d_ [] [] [(28, 3), (28, 4)] [11, 25, 27, 30, 32] Mz (fun v N => zLow d_ Mz N))
  refine zw_iload_n (pc := 10) (n := 1) (x := Int32.ofInt a0_) rfl d_T_unit_10 ?_
  refine zr_if_lt (pc := 11) (tgt := 42) ⟨ha0_a, ha0_b⟩ (by decide) d_T_unit_11 (fun hc_11 => ?_) (fun hc_11 => ?_)
  · skip
    refine zw_ldc (pc := 42) (v := Int32.ofInt (-1000000)) (by rw [show Int32.ofInt (-1000000) = ((-1000000) : Int32) by decide]; exact k_T_204) d_T_unit_42 ?_
    exact zk_iret (pc := 44) (ty := .int) rfl rfl ⟨by omega, by omega⟩ hf_N1_ (show zLow d_ Mz N1_ by exact c4_) d_T_unit_44
  · skip
    refine zw_iload_n (pc := 14) (n := 1) (x := Int32.ofInt a0_) rfl d_T_unit_14 ?_
    refine zw_aload_n (pc := 15) (n := 0) (x := 0) rfl d_T_unit_15 ?_
    refine zw_getF (pc := 16) f_T_28 rfl ((hf_N1_.w hW).ka (o := 0) (by decide)) (hf_N1_.now hnow) d_T_unit_16 ?_
    refine zw_getF (pc := 19) f_T_227 rfl ((hf_N1_.w hW).kr (o := 0) (by decide)) ((hf_N1_.w hW).lr (o := 0) (s := 3) (r := 28) (by decide)) d_T_unit_19 ?_
    refine zk_callV hf_N1_.x (pc := 22) [] [.int (Int32.ofInt a0_)] l_T_236 (u_Units_totalX l d_ N1_ (hf_N1_.w hW) ) rfl rfl ((hf_N1_.w hW).kr (o := 28) (by decide)) (by decide) (by decide) (Nat.le_of_ble_eq_true rfl) d_T_unit_22 ?_
    rintro _ N5_ ⟨v6_, rfl, ⟨hv6_a, hv6_b⟩, hsN5_, -⟩
    obtain rfl := hsN5_.eq.symm
    show zW l m_T_unit (zn Mz + 0, zw Mz + 0) N1_ 25 [some (.ref 0), some (.int (Int32.ofInt a0_)), some (.int (Int32.ofInt a1_))] [.int (Int32.ofInt v6_), .int (Int32.ofInt a0_)] (zqcI d_ [] [] [(28, 3), (28, 4)] [11, 25, 27, 30, 32] Mz (fun v N => zLow d_ Mz N))
    refine zr_icmp_ge (pc := 25) (tgt := 42) ⟨ha0_a, ha0_b⟩ ⟨hv6_a, hv6_b⟩ (by decide) d_T_unit_25 (fun hc_25 => ?_) (fun hc_25 => ?_)
    · skip
      refine zw_ldc (pc := 42) (v := Int32.ofInt (-1000000)) (by rw [show Int32.ofInt (-1000000) = ((-1000000) : Int32) by decide]; exact k_T_204) d_T_unit_42 ?_
      exact zk_iret (pc := 44) (ty := .int) rfl rfl ⟨by omega, by omega⟩ hf_N1_ (show zLow d_ Mz N1_ by exact c4_) d_T_unit_44
    · skip
      refine zw_aload_n (pc := 28) (n := 0) (x := 0) rfl d_T_unit_28 ?_
      refine zw_getF (pc := 29) f_T_28 rfl ((hf_N1_.w hW).ka (o := 0) (by decide)) (hf_N1_.now hnow) d_T_unit_29 ?_
      refine zw_getF (pc := 32) f_T_85 rfl ((hf_N1_.w hW).kr (o := 0) (by decide)) ((hf_N1_.w hW).lr (o := 0) (s := 1) (r := 12) (by decide)) d_T_unit_32 ?_
      refine zw_iload_n (pc := 35) (n := 2) (x := Int32.ofInt a1_) rfl d_T_unit_35 ?_
      refine zk_callV hf_N1_.x (pc := 36) [.int (Int32.ofInt a1_)] [] l_T_143 (u_Sorts_hasSortX l d_ N1_ (hf_N1_.w hW) a1_ ha1_a ha1_b) rfl rfl ((hf_N1_.w hW).kr (o := 12) (by decide)) (by decide) (by decide) (Nat.le_of_ble_eq_true rfl) d_T_unit_36 ?_
      rintro _ N7_ ⟨v8_, rfl, ⟨hv8_a, hv8_b⟩, hsN7_, hp0_N7_⟩
      obtain rfl := hsN7_.eq.symm
      replace hp0_N7_ : (v8_ = 0 ∨ v8_ = 1) := hp0_N7_
      show zW l m_T_unit (zn Mz + 0, zw Mz + 0) N1_ 39 [some (.ref 0), some (.int (Int32.ofInt a0_)), some (.int (Int32.ofInt a1_))] [.int (Int32.ofInt v8_)] (zqcI d_ [] [] [(28, 3), (28, 4)] [11, 25, 27, 30, 32] Mz (fun v N => zLow d_ Mz N))
      refine zr_if_ne (pc := 39) (tgt := 45) ⟨hv8_a, hv8_b⟩ (by decide) d_T_unit_39 (fun hc_39 => ?_) (fun hc_39 => ?_)
      · skip
        refine zw_aload_n (pc := 45) (n := 0) (x := 0) rfl d_T_unit_45 ?_
        refine zw_getF (pc := 46) f_T_28 rfl ((hf_N1_.w hW).ka (o := 0) (by decide)) (hf_N1_.now hnow) d_T_unit_46 ?_
        refine zw_getF (pc := 49) f_T_169 rfl ((hf_N1_.w hW).kr (o := 0) (by decide)) ((hf_N1_.w hW).lr (o := 0) (s := 2) (r := 23) (by decide)) d_T_unit_49 ?_
        refine zw_aload_n (pc := 52) (n := 0) (x := 0) rfl d_T_unit_52 ?_
        refine zw_getF (pc := 53) f_T_28 rfl ((hf_N1_.w hW).ka (o := 0) (by decide)) (hf_N1_.now hnow) d_T_unit_53 ?_
        refine zw_getF (pc := 56) f_T_227 rfl ((hf_N1_.w hW).kr (o := 0) (by decide)) ((hf_N1_.w hW).lr (o := 0) (s := 3) (r := 28) (by decide)) d_T_unit_56 ?_
        refine zw_iload_n (pc := 59) (n := 1) (x := Int32.ofInt a0_) rfl d_T_unit_59 ?_
        refine zk_callV hf_N1_.x (pc := 60) [.int (Int32.ofInt a0_)] [.ref (d_ + 23)] l_T_239 (u_Units_signsOfX l d_ N1_ (hf_N1_.w hW) a0_ ha0_a ha0_b) rfl rfl ((hf_N1_.w hW).kr (o := 28) (by decide)) (by decide) (by decide) (Nat.le_of_ble_eq_true rfl) d_T_unit_60 ?_
        rintro _ N9_ ⟨v10_, rfl, ⟨hv10_a, hv10_b⟩, hsN9_, -⟩
        obtain rfl := hsN9_.eq.symm
        show zW l m_T_unit (zn Mz + 0, zw Mz + 0) N1_ 63 [some (.ref 0), some (.int (Int32.ofInt a0_)), some (.int (Int32.ofInt a1_))] [.int (Int32.ofInt v10_), .ref (d_ + 23)] (zqcI d_ [] [] [(28, 3), (28, 4)] [11, 25, 27, 30, 32] Mz (fun v N => zLow d_ Mz N))
        have hml_ := c4_
        refine zk_callV hf_N1_.x (pc := 63) [.int (Int32.ofInt v10_)] [] l_T_242 (u_Sums_putSignsL l d_ N1_ (hf_N1_.w hW) v10_ hv10_a hv10_b F_ K_ hA_ c3_) rfl rfl ((hf_N1_.w hW).kr (o := 23) (by decide)) (by decide) (by decide) (Nat.le_of_ble_eq_true rfl) d_T_unit_63 ?_
        rintro _ N11_ ⟨rfl, hsN11_, hp0_N11_⟩
        replace hp0_N11_ : zLow d_ N1_ N11_ := hp0_N11_
        have hf_N11_ : zFc d_ [] [] [(28, 3), (28, 4)] [11, 25, 27, 30, 32] Mz N11_ := hf_N1_.tr hsN11_ (by decide) (by decide) (by decide) (by decide)
        have c13_ : zKm F_ K_ d_ N11_ := zKm.fr (hf_N1_.w hW) hsN11_ c3_ (by decide)
        show zW l m_T_unit (zn Mz + 0, zw Mz + 0) N11_ 66 [some (.ref 0), some (.int (Int32.ofInt a0_)), some (.int (Int32.ofInt a1_))] [] (zqcI d_ [] [] [(28, 3), (28, 4)] [11, 25, 27, 30, 32] Mz (fun v N => zLow d_ Mz N))
        have hnl_ := hml_.tr hp0_N11_
        refine zw_aload_n (pc := 66) (n := 0) (x := 0) rfl d_T_unit_66 ?_
        refine zw_getF (pc := 67) f_T_28 rfl ((hf_N11_.w hW).ka (o := 0) (by decide)) (hf_N11_.now hnow) d_T_unit_67 ?_
        refine zw_getF (pc := 70) f_T_169 rfl ((hf_N11_.w hW).kr (o := 0) (by decide)) ((hf_N11_.w hW).lr (o := 0) (s := 2) (r := 23) (by decide)) d_T_unit_70 ?_
        refine zw_bipush (pc := 73) (v := Int32.ofInt 39) (by decide) d_T_unit_73 ?_
        refine zw_iload_n (pc := 75) (n := 2) (x := Int32.ofInt a1_) rfl d_T_unit_75 ?_
        refine zk_callV hf_N11_.x (pc := 76) [.int (Int32.ofInt 39), .int (Int32.ofInt a1_)] [] l_T_179 (u_Sums_numberAtX l d_ N11_ (hf_N11_.w hW) 39 (by decide) (by decide) a1_ ha1_a ha1_b) rfl rfl ((hf_N11_.w hW).kr (o := 23) (by decide)) (by decide) (by decide) (Nat.le_of_ble_eq_true rfl) d_T_unit_76 ?_
        rintro _ N14_ ⟨v15_, rfl, ⟨hv15_a, hv15_b⟩, hsN14_, -⟩
        obtain rfl := hsN14_.eq.symm
        show zW l m_T_unit (zn Mz + 0, zw Mz + 0) N11_ 79 [some (.ref 0), some (.int (Int32.ofInt a0_)), some (.int (Int32.ofInt a1_))] [.long (Int64.ofInt v15_)] (zqcI d_ [] [] [(28, 3), (28, 4)] [11, 25, 27, 30, 32] Mz (fun v N => zLow d_ Mz N))
        refine zr_l2i (pc := 79) d_T_unit_79 ?_
        refine zr_nmI (fun v16_ hv16_ => ?_)
        obtain ⟨hv16_a, hv16_b⟩ := hv16_
        exact zk_iret (pc := 80) (ty := .int) rfl rfl ⟨by omega, by omega⟩ hf_N11_ (show zLow d_ Mz N11_ by exact hnl_) d_T_unit_80
      · skip
        refine zw_ldc (pc := 42) (v := Int32.ofInt (-1000000)) (by rw [show Int32.ofInt (-1000000) = ((-1000000) : Int32) by decide]; exact k_T_204) d_T_unit_42 ?_
        exact zk_iret (pc := 44) (ty := .int) rfl rfl ⟨by omega, by omega⟩ hf_N1_ (show zLow d_ Mz N1_ by exact c4_) d_T_unit_44
