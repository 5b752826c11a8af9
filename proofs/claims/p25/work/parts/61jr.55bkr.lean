set_option maxHeartbeats 4000000 in
theorem u_Sums_putProductG (l : Launch) (d_ : Nat) (Mz : zMem) (hW : zKW d_ Mz) (a0_ : Int) (ha0_a : -2147483648 ≤ a0_) (ha0_b : a0_ < 2147483648) (a1_ : Int) (ha1_a : -2147483648 ≤ a1_) (ha1_b : a1_ < 2147483648) (F_ : Nat) (K_ : Nat → Nat → Int) (hA_ : zTA F_ K_) (p0_ : zKm F_ K_ d_ Mz) (p1_ : 0 ≤ a0_) (p2_ : a0_ < F_) (p3_ : 0 ≤ a1_) (p4_ : a1_ < F_) : zC l m_Sums_putProduct 0 0 [.ref (d_ + 23), .int (Int32.ofInt a0_), .int (Int32.ofInt a1_)] Mz (zqcV d_ [] [] [] [25, 27] Mz (fun N => (∀ u : Nat → Int, zPdw F_ K_ (a0_).toNat (a1_).toNat u → ∀ k : Nat, k < F_ → zg N (d_ + 25) (1053 + k) = u k))) := by
  refine zC_of (L0 := [some (.ref (d_ + 23)), some (.int (Int32.ofInt a0_)), some (.int (Int32.ofInt a1_)), none]) md_Sums_putProduct (Nat.le_of_ble_eq_true rfl) rfl ?_ zQ0
  have hf : zFc d_ [] [] [] [25, 27] Mz Mz := zFc.rf
  have r_D12_7 := ze_r Mz (d_ + 12) 7
  obtain ⟨⟨hF1_, hF27_⟩, hAr_⟩ := id hA_
  obtain ⟨hFc_, hKt_⟩ := id p0_
  refine zw_iconst (pc := 0) (v := Int32.ofInt 0) (by decide) (zdal_p dlB_Sums_putProduct_27 (i := 0) rfl) ?_
  refine zw_istore_n (pc := 1) (i := 3) (L2 := [some (.ref (d_ + 23)), some (.int (Int32.ofInt a0_)), some (.int (Int32.ofInt a1_)), some (.int (Int32.ofInt 0))]) rfl (by decide) rfl (zdal_p dlB_Sums_putProduct_27 (i := 1) rfl) ?_
  have lp_2 : ∀ (n : Nat) (u1_ : Int) (hu1_a : -2147483648 ≤ u1_) (hu1_b : u1_ < 2147483648) (N2_ : zMem) (hs3_ : zFc d_ [] [] [] [27] Mz N2_) (i4_ : 0 ≤ u1_) (i5_ : u1_ ≤ F_) (i6_ : zMkP (d_ + 27) K_ (a0_).toNat (a1_).toNat N2_ u1_), (F_ - u1_).toNat < n → zW l m_Sums_putProduct (zn Mz + 0, zw Mz + 0) N2_ 2 [some (.ref (d_ + 23)), some (.int (Int32.ofInt a0_)), some (.int (Int32.ofInt a1_)), some (.int (Int32.ofInt u1_))] [] (zqcV d_ [] [] [] [25, 27] Mz (fun N => (∀ u : Nat → Int, zPdw F_ K_ (a0_).toNat (a1_).toNat u → ∀ k : Nat, k < F_ → zg N (d_ + 25) (1053 + k) = u k))) := by
    intro n
    induction n with
    | zero =>
      intro u1_ hu1_a hu1_b N2_ hs3_ i4_ i5_ i6_ h0
      exact absurd h0 (Nat.not_lt_zero _)
    | succ n ih_2 =>
      intro u1_ hu1_a hu1_b N2_ hs3_ i4_ i5_ i6_ hlt_2
      have hf_N2_ : zFc d_ [] [] [] [25, 27] Mz N2_ := hf.tr hs3_ (by decide) (by decide) (by decide) (by decide)
      have eD12_7_N2_ : ze N2_ (d_ + 12) 7 = ze Mz (d_ + 12) 7 := hs3_.e (by decide)
      have c7_ : zKm F_ K_ d_ N2_ := zKm.fr (hf.w hW) hs3_ p0_ (by decide)
      have hmp_ := (show zMkP (d_ + 27) K_ (a0_).toNat (a1_).toNat N2_ u1_ by first | with_reducible assumption | assumption)
      refine zw_iload_n (pc := 2) (n := 3) (x := Int32.ofInt u1_) rfl (zdal_p dlB_Sums_putProduct_27 (i := 2) rfl) ?_
      refine zw_aload_n (pc := 3) (n := 0) (x := (d_ + 23)) rfl (zdal_p dlB_Sums_putProduct_27 (i := 3) rfl) ?_
      refine zw_getF (pc := 4) f_Sums_23 rfl ((hf_N2_.w hW).kr (o := 23) (by decide)) ((hf_N2_.w hW).lr (o := 23) (s := 0) (r := 12) (by decide)) (zdal_p dlB_Sums_putProduct_27 (i := 4) rfl) ?_
      refine zk_getI (pc := 7) f_Sums_35 rfl ((hf_N2_.w hW).kr (o := 12) (by decide)) (zdal_p dlB_Sums_putProduct_27 (i := 5) rfl) ?_
      rw [hf_N2_.e (by decide)]
      refine zr_icmp_ge (pc := 10) (tgt := 48) ⟨hu1_a, hu1_b⟩ ⟨(ze_r Mz (d_ + 12) 7).1, (ze_r Mz (d_ + 12) 7).2⟩ (by decide) (zdal_p dlB_Sums_putProduct_27 (i := 6) rfl) (fun hc_10 => ?_) (fun hc_10 => ?_)
      · skip
        refine zw_aload_n (pc := 48) (n := 0) (x := (d_ + 23)) rfl (zdal_p dlB_Sums_putProduct_28 (i := 2) rfl) ?_
        refine zw_bipush (pc := 49) (v := Int32.ofInt 39) (by decide) (zdal_p dlB_Sums_putProduct_28 (i := 3) rfl) ?_
        refine zk_callV hf_N2_.x (pc := 51) [.int (Int32.ofInt 39)] [] l_Sums_58 (u_Sums_solve l d_ N2_ (hf_N2_.w hW) 39 (by decide) (by decide) F_ K_ hA_ c7_ (show 0 ≤ 39 by first | with_reducible assumption | assumption | omega) (show 39 ≤ 39 by first | with_reducible assumption | assumption | omega)) rfl rfl ((hf_N2_.w hW).kr (o := 23) (by decide)) (by decide) (by decide) (Nat.le_of_ble_eq_true rfl) (zdal_p dlB_Sums_putProduct_28 (i := 4) rfl) ?_
        rintro _ N8_ ⟨rfl, hsN8_, ⟨hp0_N8_, hp1_N8_⟩⟩
        have hf_N8_ : zFc d_ [] [] [] [25, 27] Mz N8_ := hf_N2_.tr hsN8_ (by decide) (by decide) (by decide) (by decide)
        have eD12_7_N8_ : ze N8_ (d_ + 12) 7 = ze N2_ (d_ + 12) 7 := hsN8_.e (by decide)
        have c10_ : zKm F_ K_ d_ N8_ := zKm.fr (hf_N2_.w hW) hsN8_ c7_ (by decide)
        show zW l m_Sums_putProduct (zn Mz + 0, zw Mz + 0) N8_ 54 [some (.ref (d_ + 23)), some (.int (Int32.ofInt a0_)), some (.int (Int32.ofInt a1_)), some (.int (Int32.ofInt u1_))] [] _
        have hsl_ := hp0_N8_
        have hwp_ : (∀ u : Nat → Int, zPdw F_ K_ (a0_).toNat (a1_).toNat u → ∀ k : Nat, k < F_ → zg N8_ (d_ + 25) (1053 + k) = u k) := fun u hu => zSh_39 (hsl_ u (zMkP_v hA_ hmp_ (by omega) hu))
        exact zk_vret (pc := 54) rfl hf_N8_ (show (∀ u : Nat → Int, zPdw F_ K_ (a0_).toNat (a1_).toNat u → ∀ k : Nat, k < F_ → zg N8_ (d_ + 25) (1053 + k) = u k) by exact hwp_) (zdal_p dlB_Sums_putProduct_28 (i := 5) rfl)
      · skip
        refine zw_aload_n (pc := 13) (n := 0) (x := (d_ + 23)) rfl (zdal_p dlB_Sums_putProduct_27 (i := 7) rfl) ?_
        refine zw_getF (pc := 14) f_Sums_20 rfl ((hf_N2_.w hW).kr (o := 23) (by decide)) ((hf_N2_.w hW).lr (o := 23) (s := 2) (r := 26) (by decide)) (zdal_p dlB_Sums_putProduct_27 (i := 8) rfl) ?_
        refine zw_iload_n (pc := 17) (n := 3) (x := Int32.ofInt u1_) rfl (zdal_p dlB_Sums_putProduct_27 (i := 9) rfl) ?_
        refine zw_aload_n (pc := 18) (n := 0) (x := (d_ + 23)) rfl (zdal_p dlB_Sums_putProduct_27 (i := 10) rfl) ?_
        refine zw_getF (pc := 19) f_Sums_23 rfl ((hf_N2_.w hW).kr (o := 23) (by decide)) ((hf_N2_.w hW).lr (o := 23) (s := 0) (r := 12) (by decide)) (zdal_p dlB_Sums_putProduct_27 (i := 11) rfl) ?_
        refine zw_iload_n (pc := 22) (n := 1) (x := Int32.ofInt a0_) rfl (zdal_p dlB_Sums_putProduct_27 (i := 12) rfl) ?_
        refine zw_iload_n (pc := 23) (n := 3) (x := Int32.ofInt u1_) rfl (zdal_p dlB_Sums_putProduct_27 (i := 13) rfl) ?_
        refine zk_callV hf_N2_.x (pc := 24) [.int (Int32.ofInt a0_), .int (Int32.ofInt u1_)] [.int (Int32.ofInt u1_), .ref (d_ + 26)] l_Sums_54 (u_Sorts_markAt l d_ N2_ (hf_N2_.w hW) a0_ ha0_a ha0_b u1_ hu1_a hu1_b (show 0 ≤ a0_ by first | with_reducible assumption | assumption | omega) (show a0_ ≤ 26 by first | with_reducible assumption | assumption | omega) (show 0 ≤ u1_ by first | with_reducible assumption | assumption | omega) (show u1_ ≤ 26 by first | with_reducible assumption | assumption | omega)) rfl rfl ((hf_N2_.w hW).kr (o := 12) (by decide)) (by decide) (by decide) (Nat.le_of_ble_eq_true rfl) (zdal_p dlB_Sums_putProduct_27 (i := 14) rfl) ?_
        rintro _ N11_ ⟨v12_, rfl, ⟨hv12_a, hv12_b⟩, hsN11_, hp0_N11_⟩
        obtain rfl := hsN11_.eq.symm
        replace hp0_N11_ : v12_ = ze N2_ (d_ + 22) (a0_ * 27 + u1_).toNat := hp0_N11_
        show zW l m_Sums_putProduct (zn Mz + 0, zw Mz + 0) N2_ 27 [some (.ref (d_ + 23)), some (.int (Int32.ofInt a0_)), some (.int (Int32.ofInt a1_)), some (.int (Int32.ofInt u1_))] [.int (Int32.ofInt v12_), .int (Int32.ofInt u1_), .ref (d_ + 26)] _
        have hx_ := c7_.k (i := a0_) (j := u1_) (by omega) (by omega) (by omega) (by omega) hp0_N11_
        have hx1_ := hAr_.1 (a0_).toNat (u1_).toNat (by omega) (by omega)
        rw [← hx_] at hx1_
        refine zr_i2l (pc := 27) ⟨hv12_a, hv12_b⟩ (zdal_p dlB_Sums_putProduct_27 (i := 15) rfl) ?_
        refine zw_aload_n (pc := 28) (n := 0) (x := (d_ + 23)) rfl (zdal_p dlB_Sums_putProduct_27 (i := 16) rfl) ?_
        refine zw_getF (pc := 29) f_Sums_23 rfl ((hf_N2_.w hW).kr (o := 23) (by decide)) ((hf_N2_.w hW).lr (o := 23) (s := 0) (r := 12) (by decide)) (zdal_p dlB_Sums_putProduct_27 (i := 17) rfl) ?_
        refine zw_iload_n (pc := 32) (n := 2) (x := Int32.ofInt a1_) rfl (zdal_p dlB_Sums_putProduct_27 (i := 18) rfl) ?_
        refine zw_iload_n (pc := 33) (n := 3) (x := Int32.ofInt u1_) rfl (zdal_p dlB_Sums_putProduct_27 (i := 19) rfl) ?_
        refine zk_callV hf_N2_.x (pc := 34) [.int (Int32.ofInt a1_), .int (Int32.ofInt u1_)] [.long (Int64.ofInt v12_), .int (Int32.ofInt u1_), .ref (d_ + 26)] l_Sums_54 (u_Sorts_markAt l d_ N2_ (hf_N2_.w hW) a1_ ha1_a ha1_b u1_ hu1_a hu1_b (show 0 ≤ a1_ by first | with_reducible assumption | assumption | omega) (show a1_ ≤ 26 by first | with_reducible assumption | assumption | omega) (show 0 ≤ u1_ by first | with_reducible assumption | assumption | omega) (show u1_ ≤ 26 by first | with_reducible assumption | assumption | omega)) rfl rfl ((hf_N2_.w hW).kr (o := 12) (by decide)) (by decide) (by decide) (Nat.le_of_ble_eq_true rfl) (zdal_p dlB_Sums_putProduct_27 (i := 20) rfl) ?_
        rintro _ N13_ ⟨v14_, rfl, ⟨hv14_a, hv14_b⟩, hsN13_, hp0_N13_⟩
        obtain rfl := hsN13_.eq.symm
        replace hp0_N13_ : v14_ = ze N2_ (d_ + 22) (a1_ * 27 + u1_).toNat := hp0_N13_
        show zW l m_Sums_putProduct (zn Mz + 0, zw Mz + 0) N2_ 37 [some (.ref (d_ + 23)), some (.int (Int32.ofInt a0_)), some (.int (Int32.ofInt a1_)), some (.int (Int32.ofInt u1_))] [.int (Int32.ofInt v14_), .long (Int64.ofInt v12_), .int (Int32.ofInt u1_), .ref (d_ + 26)] _
        have hy_ := c7_.k (i := a1_) (j := u1_) (by omega) (by omega) (by omega) (by omega) hp0_N13_
        have hy1_ := hAr_.1 (a1_).toNat (u1_).toNat (by omega) (by omega)
        rw [← hy_] at hy1_
        have hxy_ := zmul24 hx1_.1 hx1_.2 hy1_.1 hy1_.2
        refine zr_i2l (pc := 37) ⟨hv14_a, hv14_b⟩ (zdal_p dlB_Sums_putProduct_27 (i := 21) rfl) ?_
        refine zr_lmul (pc := 38) (zdal_p dlB_Sums_putProduct_27 (i := 22) rfl) ?_
        refine zk_nmJ (fun v15_ hv15_ hv15_e => ?_)
        obtain ⟨hv15_a, hv15_b⟩ := hv15_
        have hz_ := z64q ⟨by omega, by omega⟩ ⟨by omega, by omega⟩ hv15_e
        rw [hx_, hy_] at hz_
        refine zk_stJ hf_N2_.x (pc := 39) (o := 27) (by decide) l_Sums_31 ((hf_N2_.w hW).kr (o := 26) (by decide)) ((hf_N2_.w hW).lr (o := 26) (s := 0) (r := 27) (by decide)) ((hf_N2_.w hW).rr (o := 27) (t := 2) (n := 27) (by decide)) (by decide) (by omega) (by omega) (by decide) (Nat.le_of_ble_eq_true rfl) (zdal_p dlB_Sums_putProduct_27 (i := 23) rfl) (fun N16_ hN16_ hsN16_ => ?_)
        have hf_N16_ : zFc d_ [] [] [] [25, 27] Mz N16_ := hf_N2_.tr hsN16_ (by decide) (by decide) (by decide) (by decide)
        have hb0_N16_ : zFc d_ [] [] [] [27] Mz N16_ := hs3_.tr hsN16_ (by decide) (by decide) (by decide) (by decide)
        have eD12_7_N16_ : ze N16_ (d_ + 12) 7 = ze N2_ (d_ + 12) 7 := hsN16_.e (by decide)
        have c17_ : zKm F_ K_ d_ N16_ := zKm.fr (hf_N2_.w hW) hsN16_ c7_ (by decide)
        have hm2_ := zMkP_s hmp_ hN16_ (by omega) ⟨by omega, by omega⟩ hz_
        refine zr_iinc (pc := 42) (i := 3) (a := u1_) (n := 1) (L2 := [some (.ref (d_ + 23)), some (.int (Int32.ofInt a0_)), some (.int (Int32.ofInt a1_)), some (.int (Int32.ofInt (u1_ + 1)))]) rfl (by decide) rfl (zdal_p dlB_Sums_putProduct_28 (i := 0) rfl) ?_
        refine zw_goto (pc := 45) (tgt := 2) (by decide) (zdal_p dlB_Sums_putProduct_28 (i := 1) rfl) ?_
        exact ih_2 (u1_ + 1) (by omega) (by omega) N16_ hb0_N16_ (show 0 ≤ (u1_ + 1) by first | with_reducible assumption | assumption | omega) (show (u1_ + 1) ≤ F_ by first | with_reducible assumption | assumption | omega) (show zMkP (d_ + 27) K_ (a0_).toNat (a1_).toNat N16_ (u1_ + 1) by exact hm2_) (by omega)
  exact lp_2 _ 0 (by decide) (by decide) Mz zFc.rf (show 0 ≤ (0 : Int) by first | with_reducible assumption | assumption | omega) (show (0 : Int) ≤ F_ by first | with_reducible assumption | assumption | omega) (show zMkP (d_ + 27) K_ (a0_).toNat (a1_).toNat Mz (0 : Int) by exact zMkP_0) (Nat.lt_succ_self _)
set_option maxHeartbeats 4000000 in
theorem u_Sums_totalOfWorkG (l : Launch) (d_ : Nat) (Mz : zMem) (hW : zKW d_ Mz) (F_ : Nat) (K_ : Nat → Nat → Int) (hA_ : zTA F_ K_) (p0_ : zKm F_ K_ d_ Mz) : zC l m_Sums_totalOfWork 0 0 [.ref (d_ + 23)] Mz (zqcI d_ [] [] [] [] Mz (fun v N => z32w v (zsm (fun k_ => zg Mz (d_ + 25) (1053 + k_)) F_))) := by
  refine zC_of (L0 := [some (.ref (d_ + 23)), none, none, none]) md_Sums_totalOfWork (Nat.le_of_ble_eq_true rfl) rfl ?_ zQ0
  have hf : zFc d_ [] [] [] [] Mz Mz := zFc.rf
  have r_D12_7 := ze_r Mz (d_ + 12) 7
  obtain ⟨⟨hF1_, hF27_⟩, hAr_⟩ := id hA_
  obtain ⟨hFc_, hKt_⟩ := id p0_
  refine zw_lconst (pc := 0) (v := Int64.ofInt 0) (by decide) (zdal_p dlB_Sums_totalOfWork_60 (i := 0) rfl) ?_
  refine zw_lstore_n (pc := 1) (i := 1) (L2 := [some (.ref (d_ + 23)), some (.long (Int64.ofInt 0)), none, none]) rfl (by decide) rfl (zdal_p dlB_Sums_totalOfWork_60 (i := 1) rfl) ?_
  refine zw_iconst (pc := 2) (v := Int32.ofInt 0) (by decide) (zdal_p dlB_Sums_totalOfWork_60 (i := 2) rfl) ?_
  refine zw_istore_n (pc := 3) (i := 3) (L2 := [some (.ref (d_ + 23)), some (.long (Int64.ofInt 0)), none, some (.int (Int32.ofInt 0))]) rfl (by decide) rfl (zdal_p dlB_Sums_totalOfWork_60 (i := 3) rfl) ?_
  have lp_4 : ∀ (n : Nat) (u1_ : Int) (hu1_a : -9223372036854775808 ≤ u1_) (hu1_b : u1_ < 9223372036854775808) (u2_ : Int) (hu2_a : -2147483648 ≤ u2_) (hu2_b : u2_ < 2147483648) (i3_ : 0 ≤ u2_) (i4_ : u2_ ≤ F_) (i5_ : zTot (fun k_ => zg Mz (d_ + 25) (1053 + k_)) u1_ u2_), (F_ - u2_).toNat < n → zW l m_Sums_totalOfWork (zn Mz + 0, zw Mz + 0) Mz 4 [some (.ref (d_ + 23)), some (.long (Int64.ofInt u1_)), none, some (.int (Int32.ofInt u2_))] [] (zqcI d_ [] [] [] [] Mz (fun v N => z32w v (zsm (fun k_ => zg Mz (d_ + 25) (1053 + k_)) F_))) := by
    intro n
    induction n with
    | zero =>
      intro u1_ hu1_a hu1_b u2_ hu2_a hu2_b i3_ i4_ i5_ h0
      exact absurd h0 (Nat.not_lt_zero _)
    | succ n ih_4 =>
      intro u1_ hu1_a hu1_b u2_ hu2_a hu2_b i3_ i4_ i5_ hlt_4
      have hti_ := (show zTot (fun k_ => zg Mz (d_ + 25) (1053 + k_)) u1_ u2_ by first | with_reducible assumption | assumption)
      refine zw_iload_n (pc := 4) (n := 3) (x := Int32.ofInt u2_) rfl (zdal_p dlB_Sums_totalOfWork_60 (i := 4) rfl) ?_
      refine zw_aload_n (pc := 5) (n := 0) (x := (d_ + 23)) rfl (zdal_p dlB_Sums_totalOfWork_60 (i := 5) rfl) ?_
      refine zw_getF (pc := 6) f_Sums_23 rfl ((hf.w hW).kr (o := 23) (by decide)) ((hf.w hW).lr (o := 23) (s := 0) (r := 12) (by decide)) (zdal_p dlB_Sums_totalOfWork_60 (i := 6) rfl) ?_
      refine zk_getI (pc := 9) f_Sums_35 rfl ((hf.w hW).kr (o := 12) (by decide)) (zdal_p dlB_Sums_totalOfWork_60 (i := 7) rfl) ?_
      refine zr_icmp_ge (pc := 12) (tgt := 31) ⟨hu2_a, hu2_b⟩ ⟨(ze_r Mz (d_ + 12) 7).1, (ze_r Mz (d_ + 12) 7).2⟩ (by decide) (zdal_p dlB_Sums_totalOfWork_60 (i := 8) rfl) (fun hc_12 => ?_) (fun hc_12 => ?_)
      · skip
        refine zw_lload_n (pc := 31) (n := 1) (x := Int64.ofInt u1_) rfl (zdal_p dlB_Sums_totalOfWork_60 (i := 18) rfl) ?_
        refine zr_l2i (pc := 32) (zdal_p dlB_Sums_totalOfWork_60 (i := 19) rfl) ?_
        refine zk_nmW (fun v6_ hv6_ hv6_w => ?_)
        obtain ⟨hv6_a, hv6_b⟩ := hv6_
        exact zk_iret (pc := 33) (ty := .int) rfl rfl ⟨by omega, by omega⟩ hf (show z32w v6_ (zsm (fun k_ => zg Mz (d_ + 25) (1053 + k_)) F_) by exact z32w_t (by first | with_reducible assumption | assumption) (by have h_ := hti_; unfold zTot at h_; rwa [show (u2_).toNat = F_ by omega] at h_)) (zdal_p dlB_Sums_totalOfWork_60 (i := 20) rfl)
      · skip
        refine zw_lload_n (pc := 15) (n := 1) (x := Int64.ofInt u1_) rfl (zdal_p dlB_Sums_totalOfWork_60 (i := 9) rfl) ?_
        refine zw_aload_n (pc := 16) (n := 0) (x := (d_ + 23)) rfl (zdal_p dlB_Sums_totalOfWork_60 (i := 10) rfl) ?_
        refine zw_bipush (pc := 17) (v := Int32.ofInt 39) (by decide) (zdal_p dlB_Sums_totalOfWork_60 (i := 11) rfl) ?_
        refine zw_iload_n (pc := 19) (n := 3) (x := Int32.ofInt u2_) rfl (zdal_p dlB_Sums_totalOfWork_60 (i := 12) rfl) ?_
        refine zk_callV hf.x (pc := 20) [.int (Int32.ofInt 39), .int (Int32.ofInt u2_)] [.long (Int64.ofInt u1_)] l_Sums_67 (u_Sums_numberAt l d_ Mz (hf.w hW) 39 (by decide) (by decide) u2_ hu2_a hu2_b (show 0 ≤ 39 by first | with_reducible assumption | assumption | omega) (show 39 ≤ 39 by first | with_reducible assumption | assumption | omega) (show 0 ≤ u2_ by first | with_reducible assumption | assumption | omega) (show u2_ ≤ 26 by first | with_reducible assumption | assumption | omega)) rfl rfl ((hf.w hW).kr (o := 23) (by decide)) (by decide) (by decide) (Nat.le_of_ble_eq_true rfl) (zdal_p dlB_Sums_totalOfWork_60 (i := 13) rfl) ?_
        rintro _ N7_ ⟨v8_, rfl, ⟨hv8_a, hv8_b⟩, hsN7_, hp0_N7_⟩
        obtain rfl := hsN7_.eq.symm
        replace hp0_N7_ : v8_ = zg Mz (d_ + 25) (39 * 27 + u2_).toNat := hp0_N7_
        show zW l m_Sums_totalOfWork (zn Mz + 0, zw Mz + 0) Mz 23 [some (.ref (d_ + 23)), some (.long (Int64.ofInt u1_)), none, some (.int (Int32.ofInt u2_))] [.long (Int64.ofInt v8_), .long (Int64.ofInt u1_)] _
        have hx_ := hp0_N7_
        rw [show ((39 : Int) * 27 + u2_).toNat = 1053 + (u2_).toNat by omega] at hx_
        refine zr_ladd (pc := 23) (zdal_p dlB_Sums_totalOfWork_60 (i := 14) rfl) ?_
        refine zk_nmJ (fun v9_ hv9_ hv9_e => ?_)
        obtain ⟨hv9_a, hv9_b⟩ := hv9_
        have htn_ := zTot_s hti_ hv9_e (by omega) hx_
        refine zw_lstore_n (pc := 24) (i := 1) (L2 := [some (.ref (d_ + 23)), some (.long (Int64.ofInt v9_)), none, some (.int (Int32.ofInt u2_))]) rfl (by decide) rfl (zdal_p dlB_Sums_totalOfWork_60 (i := 15) rfl) ?_
        refine zr_iinc (pc := 25) (i := 3) (a := u2_) (n := 1) (L2 := [some (.ref (d_ + 23)), some (.long (Int64.ofInt v9_)), none, some (.int (Int32.ofInt (u2_ + 1)))]) rfl (by decide) rfl (zdal_p dlB_Sums_totalOfWork_60 (i := 16) rfl) ?_
        refine zw_goto (pc := 28) (tgt := 4) (by decide) (zdal_p dlB_Sums_totalOfWork_60 (i := 17) rfl) ?_
        exact ih_4 v9_ hv9_a hv9_b (u2_ + 1) (by omega) (by omega) (show 0 ≤ (u2_ + 1) by first | with_reducible assumption | assumption | omega) (show (u2_ + 1) ≤ F_ by first | with_reducible assumption | assumption | omega) (show zTot (fun k_ => zg Mz (d_ + 25) (1053 + k_)) v9_ (u2_ + 1) by exact htn_) (by omega)
  exact lp_4 _ 0 (by decide) (by decide) 0 (by decide) (by decide) (show 0 ≤ (0 : Int) by first | with_reducible assumption | assumption | omega) (show (0 : Int) ≤ F_ by first | with_reducible assumption | assumption | omega) (show zTot (fun k_ => zg Mz (d_ + 25) (1053 + k_)) (0 : Int) (0 : Int) by exact zTot_0) (Nat.lt_succ_self _)
set_option maxHeartbeats 4000000 in
theorem u_T_pairsG (l : Launch) (d_ : Nat) (Mz : zMem) (hW : zKW d_ Mz) (hnow : zf Mz 0 2 = some (d_ + 0)) (a0_ : Int) (ha0_a : -2147483648 ≤ a0_) (ha0_b : a0_ < 2147483648) (a1_ : Int) (ha1_a : -2147483648 ≤ a1_) (ha1_b : a1_ < 2147483648) (F_ : Nat) (K_ : Nat → Nat → Int) (hA_ : zTA F_ K_) (p0_ : zKm F_ K_ d_ Mz) : zC l m_T_pairs 0 0 [.ref 0, .int (Int32.ofInt a0_), .int (Int32.ofInt a1_)] Mz (zqcI d_ [] [] [] [25, 27] Mz (fun v N => (((0 ≤ a0_ ∧ a0_ < (F_ : Int) ∧ 0 ≤ a1_ ∧ a1_ < (F_ : Int) ∧ ∃ w_ : Nat → Int, zPdw F_ K_ (a0_).toNat (a1_).toNat w_ ∧ z32w v (zsm w_ F_)) ∨ (¬ (0 ≤ a0_ ∧ a0_ < (F_ : Int) ∧ 0 ≤ a1_ ∧ a1_ < (F_ : Int)) ∧ v = (-1 : Int)))))) := by
  refine zC_of (L0 := [some (.ref 0), some (.int (Int32.ofInt a0_)), some (.int (Int32.ofInt a1_))]) md_T_pairs (Nat.le_of_ble_eq_true rfl) rfl ?_ zQ0
  have hf : zFc d_ [] [] [] [25, 27] Mz Mz := zFc.rf
  have r_D12_7 := ze_r Mz (d_ + 12) 7
  obtain ⟨⟨hF1_, hF27_⟩, hAr_⟩ := id hA_
  obtain ⟨hFc_, hKt_⟩ := id p0_
  refine zw_aload_n (pc := 0) (n := 0) (x := 0) rfl (zdal_p dlB_T_pairs_58 (i := 0) rfl) ?_
  refine zw_getF (pc := 1) f_T_28 rfl ((hf.w hW).ka (o := 0) (by decide)) (hf.now hnow) (zdal_p dlB_T_pairs_58 (i := 1) rfl) ?_
  refine zw_getF (pc := 4) f_T_85 rfl ((hf.w hW).kr (o := 0) (by decide)) ((hf.w hW).lr (o := 0) (s := 1) (r := 12) (by decide)) (zdal_p dlB_T_pairs_58 (i := 2) rfl) ?_
  refine zw_iload_n (pc := 7) (n := 1) (x := Int32.ofInt a0_) rfl (zdal_p dlB_T_pairs_58 (i := 3) rfl) ?_
  refine zk_callV hf.x (pc := 8) [.int (Int32.ofInt a0_)] [] l_T_143 (u_Sorts_hasSortG l d_ Mz (hf.w hW) a0_ ha0_a ha0_b) rfl rfl ((hf.w hW).kr (o := 12) (by decide)) (by decide) (by decide) (Nat.le_of_ble_eq_true rfl) (zdal_p dlB_T_pairs_58 (i := 4) rfl) ?_
  rintro _ N1_ ⟨v2_, rfl, ⟨hv2_a, hv2_b⟩, hsN1_, hp0_N1_⟩
  obtain rfl := hsN1_.eq.symm
  replace hp0_N1_ : ((v2_ = 1 ∧ 0 ≤ a0_ ∧ a0_ < ze Mz (d_ + 12) 7) ∨ (v2_ = 0 ∧ (a0_ < 0 ∨ ze Mz (d_ + 12) 7 ≤ a0_))) := hp0_N1_
  rcases hp0_N1_ with ⟨rfl, ha8_0_hp0_N1_, ha8_1_hp0_N1_⟩ | ⟨rfl, ha8_0_hp0_N1_⟩
  · skip
    show zW l m_T_pairs (zn Mz + 0, zw Mz + 0) Mz 11 [some (.ref 0), some (.int (Int32.ofInt a0_)), some (.int (Int32.ofInt a1_))] [.int (Int32.ofInt 1)] _
    refine zr_if_eq (pc := 11) (tgt := 28) ⟨(by decide), (by decide)⟩ (by decide) (zdal_p dlB_T_pairs_58 (i := 5) rfl) (fun hc_11 => ?_) (fun hc_11 => ?_)
    · skip
      exact absurd hc_11 (by decide)
    · skip
      refine zw_aload_n (pc := 14) (n := 0) (x := 0) rfl (zdal_p dlB_T_pairs_58 (i := 6) rfl) ?_
      refine zw_getF (pc := 15) f_T_28 rfl ((hf.w hW).ka (o := 0) (by decide)) (hf.now hnow) (zdal_p dlB_T_pairs_58 (i := 7) rfl) ?_
      refine zw_getF (pc := 18) f_T_85 rfl ((hf.w hW).kr (o := 0) (by decide)) ((hf.w hW).lr (o := 0) (s := 1) (r := 12) (by decide)) (zdal_p dlB_T_pairs_58 (i := 8) rfl) ?_
      refine zw_iload_n (pc := 21) (n := 2) (x := Int32.ofInt a1_) rfl (zdal_p dlB_T_pairs_58 (i := 9) rfl) ?_
      refine zk_callV hf.x (pc := 22) [.int (Int32.ofInt a1_)] [] l_T_143 (u_Sorts_hasSortG l d_ Mz (hf.w hW) a1_ ha1_a ha1_b) rfl rfl ((hf.w hW).kr (o := 12) (by decide)) (by decide) (by decide) (Nat.le_of_ble_eq_true rfl) (zdal_p dlB_T_pairs_58 (i := 10) rfl) ?_
      rintro _ N3_ ⟨v4_, rfl, ⟨hv4_a, hv4_b⟩, hsN3_, hp0_N3_⟩
      obtain rfl := hsN3_.eq.symm
      replace hp0_N3_ : ((v4_ = 1 ∧ 0 ≤ a1_ ∧ a1_ < ze Mz (d_ + 12) 7) ∨ (v4_ = 0 ∧ (a1_ < 0 ∨ ze Mz (d_ + 12) 7 ≤ a1_))) := hp0_N3_
      rcases hp0_N3_ with ⟨rfl, ha22_0_hp0_N3_, ha22_1_hp0_N3_⟩ | ⟨rfl, ha22_0_hp0_N3_⟩
      · skip
        show zW l m_T_pairs (zn Mz + 0, zw Mz + 0) Mz 25 [some (.ref 0), some (.int (Int32.ofInt a0_)), some (.int (Int32.ofInt a1_))] [.int (Int32.ofInt 1)] _
        refine zr_if_ne (pc := 25) (tgt := 30) ⟨(by decide), (by decide)⟩ (by decide) (zdal_p dlB_T_pairs_58 (i := 11) rfl) (fun hc_25 => ?_) (fun hc_25 => ?_)
        · skip
          refine zw_aload_n (pc := 30) (n := 0) (x := 0) rfl (zdal_p dlB_T_pairs_58 (i := 14) rfl) ?_
          refine zw_getF (pc := 31) f_T_28 rfl ((hf.w hW).ka (o := 0) (by decide)) (hf.now hnow) (zdal_p dlB_T_pairs_58 (i := 15) rfl) ?_
          refine zw_getF (pc := 34) f_T_169 rfl ((hf.w hW).kr (o := 0) (by decide)) ((hf.w hW).lr (o := 0) (s := 2) (r := 23) (by decide)) (zdal_p dlB_T_pairs_58 (i := 16) rfl) ?_
          refine zw_iload_n (pc := 37) (n := 1) (x := Int32.ofInt a0_) rfl (zdal_p dlB_T_pairs_58 (i := 17) rfl) ?_
          refine zw_iload_n (pc := 38) (n := 2) (x := Int32.ofInt a1_) rfl (zdal_p dlB_T_pairs_58 (i := 18) rfl) ?_
          refine zk_callV hf.x (pc := 39) [.int (Int32.ofInt a0_), .int (Int32.ofInt a1_)] [] l_T_173 (u_Sums_putProductG l d_ Mz (hf.w hW) a0_ ha0_a ha0_b a1_ ha1_a ha1_b F_ K_ hA_ p0_ (show 0 ≤ a0_ by first | with_reducible assumption | assumption | omega) (show a0_ < F_ by first | with_reducible assumption | assumption | omega) (show 0 ≤ a1_ by first | with_reducible assumption | assumption | omega) (show a1_ < F_ by first | with_reducible assumption | assumption | omega)) rfl rfl ((hf.w hW).kr (o := 23) (by decide)) (by decide) (by decide) (Nat.le_of_ble_eq_true rfl) (zdal_p dlB_T_pairs_58 (i := 19) rfl) ?_
          rintro _ N5_ ⟨rfl, hsN5_, hp0_N5_⟩
          replace hp0_N5_ : (∀ u : Nat → Int, zPdw F_ K_ (a0_).toNat (a1_).toNat u → ∀ k : Nat, k < F_ → zg N5_ (d_ + 25) (1053 + k) = u k) := hp0_N5_
          have hf_N5_ : zFc d_ [] [] [] [25, 27] Mz N5_ := hf.tr hsN5_ (by decide) (by decide) (by decide) (by decide)
          have eD12_7_N5_ : ze N5_ (d_ + 12) 7 = ze Mz (d_ + 12) 7 := hsN5_.e (by decide)
          have c7_ : zKm F_ K_ d_ N5_ := zKm.fr (hf.w hW) hsN5_ p0_ (by decide)
          show zW l m_T_pairs (zn Mz + 0, zw Mz + 0) N5_ 42 [some (.ref 0), some (.int (Int32.ofInt a0_)), some (.int (Int32.ofInt a1_))] [] _
          have hwp_ := hp0_N5_
          obtain ⟨w_, hw_⟩ := zPdw_ex hA_ (i := (a0_).toNat) (j := (a1_).toNat) (by omega) (by omega)
          have hwv_ := hwp_ w_ hw_
          refine zw_aload_n (pc := 42) (n := 0) (x := 0) rfl (zdal_p dlB_T_pairs_58 (i := 20) rfl) ?_
          refine zw_getF (pc := 43) f_T_28 rfl ((hf_N5_.w hW).ka (o := 0) (by decide)) (hf_N5_.now hnow) (zdal_p dlB_T_pairs_58 (i := 21) rfl) ?_
          refine zw_getF (pc := 46) f_T_169 rfl ((hf_N5_.w hW).kr (o := 0) (by decide)) ((hf_N5_.w hW).lr (o := 0) (s := 2) (r := 23) (by decide)) (zdal_p dlB_T_pairs_58 (i := 22) rfl) ?_
          refine zk_callV hf_N5_.x (pc := 49) [] [] l_T_211 (u_Sums_totalOfWorkG l d_ N5_ (hf_N5_.w hW) F_ K_ hA_ c7_) rfl rfl ((hf_N5_.w hW).kr (o := 23) (by decide)) (by decide) (by decide) (Nat.le_of_ble_eq_true rfl) (zdal_p dlB_T_pairs_58 (i := 23) rfl) ?_
          rintro _ N8_ ⟨v9_, rfl, ⟨hv9_a, hv9_b⟩, hsN8_, hp0_N8_⟩
          obtain rfl := hsN8_.eq.symm
          replace hp0_N8_ : z32w v9_ (zsm (fun k_ => zg N5_ (d_ + 25) (1053 + k_)) F_) := hp0_N8_
          show zW l m_T_pairs (zn Mz + 0, zw Mz + 0) N5_ 52 [some (.ref 0), some (.int (Int32.ofInt a0_)), some (.int (Int32.ofInt a1_))] [.int (Int32.ofInt v9_)] _
          have hto_ := hp0_N8_
          exact zk_iret (pc := 52) (ty := .int) rfl rfl ⟨by omega, by omega⟩ hf_N5_ (show ((0 ≤ a0_ ∧ a0_ < (F_ : Int) ∧ 0 ≤ a1_ ∧ a1_ < (F_ : Int) ∧ ∃ w_ : Nat → Int, zPdw F_ K_ (a0_).toNat (a1_).toNat w_ ∧ z32w v9_ (zsm w_ F_)) ∨ (¬ (0 ≤ a0_ ∧ a0_ < (F_ : Int) ∧ 0 ≤ a1_ ∧ a1_ < (F_ : Int)) ∧ v9_ = (-1 : Int))) by first | exact Or.inr ⟨by omega, rfl⟩ | exact Or.inl ⟨by omega, by omega, by omega, by omega, w_, hw_, z32w_e hto_ (zsm_c F_ (fun k_ hk_ => hwv_ k_ hk_))⟩) (zdal_p dlB_T_pairs_59 (i := 0) rfl)
        · skip
          exact absurd hc_25 (by decide)
      · skip
        show zW l m_T_pairs (zn Mz + 0, zw Mz + 0) Mz 25 [some (.ref 0), some (.int (Int32.ofInt a0_)), some (.int (Int32.ofInt a1_))] [.int (Int32.ofInt 0)] _
        refine zr_if_ne (pc := 25) (tgt := 30) ⟨(by decide), (by decide)⟩ (by decide) (zdal_p dlB_T_pairs_58 (i := 11) rfl) (fun hc_25 => ?_) (fun hc_25 => ?_)
        · skip
          exact absurd hc_25 (by decide)
        · skip
          refine zw_iconst (pc := 28) (v := Int32.ofInt (-1)) (by decide) (zdal_p dlB_T_pairs_58 (i := 12) rfl) ?_
          exact zk_iret (pc := 29) (ty := .int) rfl rfl ⟨by omega, by omega⟩ hf (show ((0 ≤ a0_ ∧ a0_ < (F_ : Int) ∧ 0 ≤ a1_ ∧ a1_ < (F_ : Int) ∧ ∃ w_ : Nat → Int, zPdw F_ K_ (a0_).toNat (a1_).toNat w_ ∧ z32w ((-1)) (zsm w_ F_)) ∨ (¬ (0 ≤ a0_ ∧ a0_ < (F_ : Int) ∧ 0 ≤ a1_ ∧ a1_ < (F_ : Int)) ∧ ((-1)) = (-1 : Int))) by first | exact Or.inr ⟨by omega, rfl⟩ | exact Or.inl ⟨by omega, by omega, by omega, by omega, w_, hw_, z32w_e hto_ (zsm_c F_ (fun k_ hk_ => hwv_ k_ hk_))⟩) (zdal_p dlB_T_pairs_58 (i := 13) rfl)
  · skip
    show zW l m_T_pairs (zn Mz + 0, zw Mz + 0) Mz 11 [some (.ref 0), some (.int (Int32.ofInt a0_)), some (.int (Int32.ofInt a1_))] [.int (Int32.ofInt 0)] _
    refine zr_if_eq (pc := 11) (tgt := 28) ⟨(by decide), (by decide)⟩ (by decide) (zdal_p dlB_T_pairs_58 (i := 5) rfl) (fun hc_11 => ?_) (fun hc_11 => ?_)
    · skip
      refine zw_iconst (pc := 28) (v := Int32.ofInt (-1)) (by decide) (zdal_p dlB_T_pairs_58 (i := 12) rfl) ?_
      exact zk_iret (pc := 29) (ty := .int) rfl rfl ⟨by omega, by omega⟩ hf (show ((0 ≤ a0_ ∧ a0_ < (F_ : Int) ∧ 0 ≤ a1_ ∧ a1_ < (F_ : Int) ∧ ∃ w_ : Nat → Int, zPdw F_ K_ (a0_).toNat (a1_).toNat w_ ∧ z32w ((-1)) (zsm w_ F_)) ∨ (¬ (0 ≤ a0_ ∧ a0_ < (F_ : Int) ∧ 0 ≤ a1_ ∧ a1_ < (F_ : Int)) ∧ ((-1)) = (-1 : Int))) by first | exact Or.inr ⟨by omega, rfl⟩ | exact Or.inl ⟨by omega, by omega, by omega, by omega, w_, hw_, z32w_e hto_ (zsm_c F_ (fun k_ hk_ => hwv_ k_ hk_))⟩) (zdal_p dlB_T_pairs_58 (i := 13) rfl)
    · skip
      exact absurd hc_11 (by decide)
