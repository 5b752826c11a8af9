set_option maxHeartbeats 4000000 in
theorem u_Sums_putScaledG (l : Launch) (d_ : Nat) (Mz : zMem) (hW : zKW d_ Mz) (a0_ : Int) (ha0_a : -2147483648 ≤ a0_) (ha0_b : a0_ < 2147483648) (a1_ : Int) (ha1_a : -2147483648 ≤ a1_) (ha1_b : a1_ < 2147483648) (F_ : Nat) (K_ : Nat → Nat → Int) (hA_ : zTA F_ K_) (p0_ : zKm F_ K_ d_ Mz) (p1_ : 0 ≤ a0_) (p2_ : 1 ≤ a1_) (p3_ : a1_ ≤ 24) : zC l m_Sums_putScaled 0 0 [.ref (d_ + 23), .int (Int32.ofInt a0_), .int (Int32.ofInt a1_)] Mz (zqcV d_ [] [] [] [25, 27] Mz (fun N => (∀ u : Nat → Int, zPeU F_ K_ (fun k_ => (a0_).toNat.testBit k_ = true) a1_ u → ∀ k : Nat, k < F_ → zg N (d_ + 25) (1053 + k) = u k))) := by
  refine zC_of (L0 := [some (.ref (d_ + 23)), some (.int (Int32.ofInt a0_)), some (.int (Int32.ofInt a1_)), none]) md_Sums_putScaled (Nat.le_of_ble_eq_true rfl) rfl ?_ zQ0
  have hf : zFc d_ [] [] [] [25, 27] Mz Mz := zFc.rf
  have r_D12_7 := ze_r Mz (d_ + 12) 7
  obtain ⟨⟨hF1_, hF27_⟩, hAr_⟩ := id hA_
  obtain ⟨hFc_, hKt_⟩ := id p0_
  refine zw_iconst (pc := 0) (v := Int32.ofInt 0) (by decide) (zdal_p dlB_Sums_putScaled_74 (i := 0) rfl) ?_
  refine zw_istore_n (pc := 1) (i := 3) (L2 := [some (.ref (d_ + 23)), some (.int (Int32.ofInt a0_)), some (.int (Int32.ofInt a1_)), some (.int (Int32.ofInt 0))]) rfl (by decide) rfl (zdal_p dlB_Sums_putScaled_74 (i := 1) rfl) ?_
  have lp_2 : ∀ (n : Nat) (u1_ : Int) (hu1_a : -2147483648 ≤ u1_) (hu1_b : u1_ < 2147483648) (N2_ : zMem) (hs3_ : zFc d_ [] [] [] [27] Mz N2_) (i4_ : 0 ≤ u1_) (i5_ : u1_ ≤ F_) (i6_ : zMkS (d_ + 27) (fun k_ => (a0_).toNat.testBit k_ = true) a1_ N2_ u1_), (F_ - u1_).toNat < n → zW l m_Sums_putScaled (zn Mz + 0, zw Mz + 0) N2_ 2 [some (.ref (d_ + 23)), some (.int (Int32.ofInt a0_)), some (.int (Int32.ofInt a1_)), some (.int (Int32.ofInt u1_))] [] (zqcV d_ [] [] [] [25, 27] Mz (fun N => (∀ u : Nat → Int, zPeU F_ K_ (fun k_ => (a0_).toNat.testBit k_ = true) a1_ u → ∀ k : Nat, k < F_ → zg N (d_ + 25) (1053 + k) = u k))) := by
    intro n
    induction n with
    | zero =>
      intro u1_ hu1_a hu1_b N2_ hs3_ i4_ i5_ i6_ h0
      exact absurd h0 (Nat.not_lt_zero _)
    | succ n ih_2 =>
      intro u1_ hu1_a hu1_b N2_ hs3_ i4_ i5_ i6_ hlt_2
      have hf_N2_ : zFc d_ [] [] [] [25, 27] Mz N2_ := hf.tr hs3_ (by decide) (by decide) (by decide) (by decide)
      have eD12_7_N2_ : ze N2_ (d_ + 12) 7 = ze Mz (d_ + 12) 7 := hs3_.e (by decide)
      have c7_ : zKm F_ K_ d_ N2_ := zKm.fr (hf.w hW) hs3_ p0_ (by decide)
      have hms_ := (show zMkS (d_ + 27) (fun k_ => (a0_).toNat.testBit k_ = true) a1_ N2_ u1_ by first | with_reducible assumption | assumption)
      refine zw_iload_n (pc := 2) (n := 3) (x := Int32.ofInt u1_) rfl (zdal_p dlB_Sums_putScaled_74 (i := 2) rfl) ?_
      refine zw_aload_n (pc := 3) (n := 0) (x := (d_ + 23)) rfl (zdal_p dlB_Sums_putScaled_74 (i := 3) rfl) ?_
      refine zw_getF (pc := 4) f_Sums_23 rfl ((hf_N2_.w hW).kr (o := 23) (by decide)) ((hf_N2_.w hW).lr (o := 23) (s := 0) (r := 12) (by decide)) (zdal_p dlB_Sums_putScaled_74 (i := 4) rfl) ?_
      refine zk_getI (pc := 7) f_Sums_35 rfl ((hf_N2_.w hW).kr (o := 12) (by decide)) (zdal_p dlB_Sums_putScaled_74 (i := 5) rfl) ?_
      rw [hf_N2_.e (by decide)]
      refine zr_icmp_ge (pc := 10) (tgt := 41) ⟨hu1_a, hu1_b⟩ ⟨(ze_r Mz (d_ + 12) 7).1, (ze_r Mz (d_ + 12) 7).2⟩ (by decide) (zdal_p dlB_Sums_putScaled_74 (i := 6) rfl) (fun hc_10 => ?_) (fun hc_10 => ?_)
      · skip
        refine zw_aload_n (pc := 41) (n := 0) (x := (d_ + 23)) rfl (zdal_p dlB_Sums_putScaled_74 (i := 21) rfl) ?_
        refine zw_bipush (pc := 42) (v := Int32.ofInt 39) (by decide) (zdal_p dlB_Sums_putScaled_74 (i := 22) rfl) ?_
        refine zk_callV hf_N2_.x (pc := 44) [.int (Int32.ofInt 39)] [] l_Sums_58 (u_Sums_solve l d_ N2_ (hf_N2_.w hW) 39 (by decide) (by decide) F_ K_ hA_ c7_ (show 0 ≤ 39 by first | with_reducible assumption | assumption | omega) (show 39 ≤ 39 by first | with_reducible assumption | assumption | omega)) rfl rfl ((hf_N2_.w hW).kr (o := 23) (by decide)) (by decide) (by decide) (Nat.le_of_ble_eq_true rfl) (zdal_p dlB_Sums_putScaled_74 (i := 23) rfl) ?_
        rintro _ N8_ ⟨rfl, hsN8_, ⟨hp0_N8_, hp1_N8_⟩⟩
        have hf_N8_ : zFc d_ [] [] [] [25, 27] Mz N8_ := hf_N2_.tr hsN8_ (by decide) (by decide) (by decide) (by decide)
        have eD12_7_N8_ : ze N8_ (d_ + 12) 7 = ze N2_ (d_ + 12) 7 := hsN8_.e (by decide)
        have c10_ : zKm F_ K_ d_ N8_ := zKm.fr (hf_N2_.w hW) hsN8_ c7_ (by decide)
        show zW l m_Sums_putScaled (zn Mz + 0, zw Mz + 0) N8_ 47 [some (.ref (d_ + 23)), some (.int (Int32.ofInt a0_)), some (.int (Int32.ofInt a1_)), some (.int (Int32.ofInt u1_))] [] _
        have hsl_ := hp0_N8_
        have hwp_ : (∀ u : Nat → Int, zPeU F_ K_ (fun k_ => (a0_).toNat.testBit k_ = true) a1_ u → ∀ k : Nat, k < F_ → zg N8_ (d_ + 25) (1053 + k) = u k) := fun u hu => zSh_39 (hsl_ u (zMkS_v hms_ (by omega) hu))
        exact zk_vret (pc := 47) rfl hf_N8_ (show (∀ u : Nat → Int, zPeU F_ K_ (fun k_ => (a0_).toNat.testBit k_ = true) a1_ u → ∀ k : Nat, k < F_ → zg N8_ (d_ + 25) (1053 + k) = u k) by exact hwp_) (zdal_p dlB_Sums_putScaled_75 (i := 0) rfl)
      · skip
        refine zw_aload_n (pc := 13) (n := 0) (x := (d_ + 23)) rfl (zdal_p dlB_Sums_putScaled_74 (i := 7) rfl) ?_
        refine zw_getF (pc := 14) f_Sums_20 rfl ((hf_N2_.w hW).kr (o := 23) (by decide)) ((hf_N2_.w hW).lr (o := 23) (s := 2) (r := 26) (by decide)) (zdal_p dlB_Sums_putScaled_74 (i := 8) rfl) ?_
        refine zw_iload_n (pc := 17) (n := 3) (x := Int32.ofInt u1_) rfl (zdal_p dlB_Sums_putScaled_74 (i := 9) rfl) ?_
        refine zw_iload_n (pc := 18) (n := 1) (x := Int32.ofInt a0_) rfl (zdal_p dlB_Sums_putScaled_74 (i := 10) rfl) ?_
        refine zw_iload_n (pc := 19) (n := 3) (x := Int32.ofInt u1_) rfl (zdal_p dlB_Sums_putScaled_74 (i := 11) rfl) ?_
        refine zr_callS hf_N2_.x (pc := 20) [.int (Int32.ofInt a0_), .int (Int32.ofInt u1_)] [.int (Int32.ofInt u1_), .ref (d_ + 26)] l_Sums_61 (u_T_isIn l d_ N2_ (hf_N2_.w hW) a0_ ha0_a ha0_b u1_ hu1_a hu1_b (show 0 ≤ a0_ by first | with_reducible assumption | assumption | omega) (show a0_ < 2147483648 by first | with_reducible assumption | assumption | omega) (show 0 ≤ u1_ by first | with_reducible assumption | assumption | omega) (show u1_ < 31 by first | with_reducible assumption | assumption | omega)) rfl rfl (by decide) (Nat.le_of_ble_eq_true rfl) (zdal_p dlB_Sums_putScaled_74 (i := 12) rfl) ?_
        rintro _ N11_ ⟨v12_, rfl, ⟨hv12_a, hv12_b⟩, hsN11_, hp0_N11_⟩
        obtain rfl := hsN11_.eq.symm
        replace hp0_N11_ : ((v12_ = 1 ∧ zbt a0_ u1_) ∨ (v12_ = 0 ∧ ¬ zbt a0_ u1_)) := hp0_N11_
        rcases hp0_N11_ with ⟨rfl, ha20_0_hp0_N11_⟩ | ⟨rfl, ha20_0_hp0_N11_⟩
        · skip
          have hin_ := ha20_0_hp0_N11_
          show zW l m_Sums_putScaled (zn Mz + 0, zw Mz + 0) N2_ 23 [some (.ref (d_ + 23)), some (.int (Int32.ofInt a0_)), some (.int (Int32.ofInt a1_)), some (.int (Int32.ofInt u1_))] [.int (Int32.ofInt 1), .int (Int32.ofInt u1_), .ref (d_ + 26)] _
          refine zr_if_eq (pc := 23) (tgt := 31) ⟨(by decide), (by decide)⟩ (by decide) (zdal_p dlB_Sums_putScaled_74 (i := 13) rfl) (fun hc_23 => ?_) (fun hc_23 => ?_)
          · skip
            exact absurd hc_23 (by decide)
          · skip
            refine zw_iload_n (pc := 26) (n := 2) (x := Int32.ofInt a1_) rfl (zdal_p dlB_Sums_putScaled_74 (i := 14) rfl) ?_
            refine zr_i2l (pc := 27) ⟨ha1_a, ha1_b⟩ (zdal_p dlB_Sums_putScaled_74 (i := 15) rfl) ?_
            refine zw_goto (pc := 28) (tgt := 32) (by decide) (zdal_p dlB_Sums_putScaled_74 (i := 16) rfl) ?_
            refine zk_stJ hf_N2_.x (pc := 32) (o := 27) (by decide) l_Sums_31 ((hf_N2_.w hW).kr (o := 26) (by decide)) ((hf_N2_.w hW).lr (o := 26) (s := 0) (r := 27) (by decide)) ((hf_N2_.w hW).rr (o := 27) (t := 2) (n := 27) (by decide)) (by decide) (by omega) (by omega) (by decide) (Nat.le_of_ble_eq_true rfl) (zdal_p dlB_Sums_putScaled_74 (i := 18) rfl) (fun N13_ hN13_ hsN13_ => ?_)
            have hf_N13_ : zFc d_ [] [] [] [25, 27] Mz N13_ := hf_N2_.tr hsN13_ (by decide) (by decide) (by decide) (by decide)
            have hb0_N13_ : zFc d_ [] [] [] [27] Mz N13_ := hs3_.tr hsN13_ (by decide) (by decide) (by decide) (by decide)
            have eD12_7_N13_ : ze N13_ (d_ + 12) 7 = ze N2_ (d_ + 12) 7 := hsN13_.e (by decide)
            have c14_ : zKm F_ K_ d_ N13_ := zKm.fr (hf_N2_.w hW) hsN13_ c7_ (by decide)
            have hm2_ := zMkS_s hms_ hN13_ (by omega) ⟨by omega, by omega⟩ (by first | exact Or.inl ⟨hin_, rfl⟩ | exact Or.inr ⟨hno_, rfl⟩)
            refine zr_iinc (pc := 35) (i := 3) (a := u1_) (n := 1) (L2 := [some (.ref (d_ + 23)), some (.int (Int32.ofInt a0_)), some (.int (Int32.ofInt a1_)), some (.int (Int32.ofInt (u1_ + 1)))]) rfl (by decide) rfl (zdal_p dlB_Sums_putScaled_74 (i := 19) rfl) ?_
            refine zw_goto (pc := 38) (tgt := 2) (by decide) (zdal_p dlB_Sums_putScaled_74 (i := 20) rfl) ?_
            exact ih_2 (u1_ + 1) (by omega) (by omega) N13_ hb0_N13_ (show 0 ≤ (u1_ + 1) by first | with_reducible assumption | assumption | omega) (show (u1_ + 1) ≤ F_ by first | with_reducible assumption | assumption | omega) (show zMkS (d_ + 27) (fun k_ => (a0_).toNat.testBit k_ = true) a1_ N13_ (u1_ + 1) by exact hm2_) (by omega)
        · skip
          have hno_ := ha20_0_hp0_N11_
          show zW l m_Sums_putScaled (zn Mz + 0, zw Mz + 0) N2_ 23 [some (.ref (d_ + 23)), some (.int (Int32.ofInt a0_)), some (.int (Int32.ofInt a1_)), some (.int (Int32.ofInt u1_))] [.int (Int32.ofInt 0), .int (Int32.ofInt u1_), .ref (d_ + 26)] _
          refine zr_if_eq (pc := 23) (tgt := 31) ⟨(by decide), (by decide)⟩ (by decide) (zdal_p dlB_Sums_putScaled_74 (i := 13) rfl) (fun hc_23 => ?_) (fun hc_23 => ?_)
          · skip
            refine zw_lconst (pc := 31) (v := Int64.ofInt 0) (by decide) (zdal_p dlB_Sums_putScaled_74 (i := 17) rfl) ?_
            refine zk_stJ hf_N2_.x (pc := 32) (o := 27) (by decide) l_Sums_31 ((hf_N2_.w hW).kr (o := 26) (by decide)) ((hf_N2_.w hW).lr (o := 26) (s := 0) (r := 27) (by decide)) ((hf_N2_.w hW).rr (o := 27) (t := 2) (n := 27) (by decide)) (by decide) (by omega) (by omega) (by decide) (Nat.le_of_ble_eq_true rfl) (zdal_p dlB_Sums_putScaled_74 (i := 18) rfl) (fun N15_ hN15_ hsN15_ => ?_)
            have hf_N15_ : zFc d_ [] [] [] [25, 27] Mz N15_ := hf_N2_.tr hsN15_ (by decide) (by decide) (by decide) (by decide)
            have hb0_N15_ : zFc d_ [] [] [] [27] Mz N15_ := hs3_.tr hsN15_ (by decide) (by decide) (by decide) (by decide)
            have eD12_7_N15_ : ze N15_ (d_ + 12) 7 = ze N2_ (d_ + 12) 7 := hsN15_.e (by decide)
            have c16_ : zKm F_ K_ d_ N15_ := zKm.fr (hf_N2_.w hW) hsN15_ c7_ (by decide)
            have hm2_ := zMkS_s hms_ hN15_ (by omega) ⟨by omega, by omega⟩ (by first | exact Or.inl ⟨hin_, rfl⟩ | exact Or.inr ⟨hno_, rfl⟩)
            refine zr_iinc (pc := 35) (i := 3) (a := u1_) (n := 1) (L2 := [some (.ref (d_ + 23)), some (.int (Int32.ofInt a0_)), some (.int (Int32.ofInt a1_)), some (.int (Int32.ofInt (u1_ + 1)))]) rfl (by decide) rfl (zdal_p dlB_Sums_putScaled_74 (i := 19) rfl) ?_
            refine zw_goto (pc := 38) (tgt := 2) (by decide) (zdal_p dlB_Sums_putScaled_74 (i := 20) rfl) ?_
            exact ih_2 (u1_ + 1) (by omega) (by omega) N15_ hb0_N15_ (show 0 ≤ (u1_ + 1) by first | with_reducible assumption | assumption | omega) (show (u1_ + 1) ≤ F_ by first | with_reducible assumption | assumption | omega) (show zMkS (d_ + 27) (fun k_ => (a0_).toNat.testBit k_ = true) a1_ N15_ (u1_ + 1) by exact hm2_) (by omega)
          · skip
            exact absurd hc_23 (by decide)
  exact lp_2 _ 0 (by decide) (by decide) Mz zFc.rf (show 0 ≤ (0 : Int) by first | with_reducible assumption | assumption | omega) (show (0 : Int) ≤ F_ by first | with_reducible assumption | assumption | omega) (show zMkS (d_ + 27) (fun k_ => (a0_).toNat.testBit k_ = true) a1_ Mz (0 : Int) by exact zMkS_0) (Nat.lt_succ_self _)
set_option maxHeartbeats 4000000 in
theorem u_T_greatestDivisorG (l : Launch) (d_ : Nat) (Mz : zMem) (hW : zKW d_ Mz) (a0_ : Int) (ha0_a : -2147483648 ≤ a0_) (ha0_b : a0_ < 2147483648) (a1_ : Int) (ha1_a : -2147483648 ≤ a1_) (ha1_b : a1_ < 2147483648) (p0_ : 1 ≤ a0_) (p1_ : a0_ ≤ 24) (p2_ : 0 ≤ a1_) (p3_ : a1_ ≤ 1000000) : zC l m_T_greatestDivisor 0 0 [.int (Int32.ofInt a0_), .int (Int32.ofInt a1_)] Mz (zqcI d_ [] [] [] [] Mz (fun v N => v = ((Int.gcd a0_ a1_ : Nat) : Int))) := by
  refine zC_of (L0 := [some (.int (Int32.ofInt a0_)), some (.int (Int32.ofInt a1_)), none, none, none, none]) md_T_greatestDivisor (Nat.le_of_ble_eq_true rfl) rfl ?_ zQ0
  have hf : zFc d_ [] [] [] [] Mz Mz := zFc.rf
  refine zw_iload_n (pc := 0) (n := 0) (x := Int32.ofInt a0_) rfl (zdal_p dlB_T_greatestDivisor_76 (i := 0) rfl) ?_
  refine zw_istore_n (pc := 1) (i := 2) (L2 := [some (.int (Int32.ofInt a0_)), some (.int (Int32.ofInt a1_)), some (.int (Int32.ofInt a0_)), none, none, none]) rfl (by decide) rfl (zdal_p dlB_T_greatestDivisor_76 (i := 1) rfl) ?_
  refine zw_iload_n (pc := 2) (n := 1) (x := Int32.ofInt a1_) rfl (zdal_p dlB_T_greatestDivisor_76 (i := 2) rfl) ?_
  refine zw_istore_n (pc := 3) (i := 3) (L2 := [some (.int (Int32.ofInt a0_)), some (.int (Int32.ofInt a1_)), some (.int (Int32.ofInt a0_)), some (.int (Int32.ofInt a1_)), none, none]) rfl (by decide) rfl (zdal_p dlB_T_greatestDivisor_76 (i := 3) rfl) ?_
  refine zw_iconst (pc := 4) (v := Int32.ofInt 0) (by decide) (zdal_p dlB_T_greatestDivisor_76 (i := 4) rfl) ?_
  refine zw_istore (pc := 5) (i := 4) (L2 := [some (.int (Int32.ofInt a0_)), some (.int (Int32.ofInt a1_)), some (.int (Int32.ofInt a0_)), some (.int (Int32.ofInt a1_)), some (.int (Int32.ofInt 0)), none]) (by decide) rfl (zdal_p dlB_T_greatestDivisor_76 (i := 5) rfl) ?_
  have lp_7 : ∀ (n : Nat) (u1_ : Int) (hu1_a : -2147483648 ≤ u1_) (hu1_b : u1_ < 2147483648) (u2_ : Int) (hu2_a : -2147483648 ≤ u2_) (hu2_b : u2_ < 2147483648) (u3_ : Int) (hu3_a : -2147483648 ≤ u3_) (hu3_b : u3_ < 2147483648) (i4_ : 0 ≤ u3_) (i5_ : 1 ≤ u1_) (i6_ : u1_ ≤ 1000000) (i7_ : 0 ≤ u2_) (i8_ : u2_ ≤ 1000000) (i9_ : Int.gcd u1_ u2_ = Int.gcd a0_ a1_) (i10_ : ((u3_ = 0 ∧ u1_ = a0_ ∧ u2_ = a1_) ∨ (1 ≤ u3_ ∧ u2_ + u3_ ≤ 25))), (100 - u3_).toNat < n → zW l m_T_greatestDivisor (zn Mz + 0, zw Mz + 0) Mz 7 [some (.int (Int32.ofInt a0_)), some (.int (Int32.ofInt a1_)), some (.int (Int32.ofInt u1_)), some (.int (Int32.ofInt u2_)), some (.int (Int32.ofInt u3_)), none] [] (zqcI d_ [] [] [] [] Mz (fun v N => v = ((Int.gcd a0_ a1_ : Nat) : Int))) := by
    intro n
    induction n with
    | zero =>
      intro u1_ hu1_a hu1_b u2_ hu2_a hu2_b u3_ hu3_a hu3_b i4_ i5_ i6_ i7_ i8_ i9_ i10_ h0
      exact absurd h0 (Nat.not_lt_zero _)
    | succ n ih_7 =>
      intro u1_ hu1_a hu1_b u2_ hu2_a hu2_b u3_ hu3_a hu3_b i4_ i5_ i6_ i7_ i8_ i9_ i10_ hlt_7
      have hgd_ := (show Int.gcd u1_ u2_ = Int.gcd a0_ a1_ by first | with_reducible assumption | assumption)
      refine zw_iload (pc := 7) (i := 4) (x := Int32.ofInt u3_) rfl (zdal_p dlB_T_greatestDivisor_76 (i := 6) rfl) ?_
      refine zw_bipush (pc := 9) (v := Int32.ofInt 100) (by decide) (zdal_p dlB_T_greatestDivisor_76 (i := 7) rfl) ?_
      refine zr_icmp_ge (pc := 11) (tgt := 34) ⟨hu3_a, hu3_b⟩ ⟨(by decide), (by decide)⟩ (by decide) (zdal_p dlB_T_greatestDivisor_76 (i := 8) rfl) (fun hc_11 => ?_) (fun hc_11 => ?_)
      · skip
        refine zw_iload_n (pc := 34) (n := 2) (x := Int32.ofInt u1_) rfl (zdal_p dlB_T_greatestDivisor_76 (i := 21) rfl) ?_
        exact zk_iret (pc := 35) (ty := .int) rfl rfl ⟨by omega, by omega⟩ hf (show u1_ = ((Int.gcd a0_ a1_ : Nat) : Int) by have hz_ := hgd_; rw [show u2_ = 0 by omega] at hz_; have hz2_ : Int.gcd u1_ 0 = (u1_).natAbs := Nat.gcd_zero_right _; omega) (zdal_p dlB_T_greatestDivisor_76 (i := 22) rfl)
      · skip
        refine zw_iload_n (pc := 14) (n := 3) (x := Int32.ofInt u2_) rfl (zdal_p dlB_T_greatestDivisor_76 (i := 9) rfl) ?_
        refine zr_if_eq (pc := 15) (tgt := 34) ⟨hu2_a, hu2_b⟩ (by decide) (zdal_p dlB_T_greatestDivisor_76 (i := 10) rfl) (fun hc_15 => ?_) (fun hc_15 => ?_)
        · skip
          refine zw_iload_n (pc := 34) (n := 2) (x := Int32.ofInt u1_) rfl (zdal_p dlB_T_greatestDivisor_76 (i := 21) rfl) ?_
          exact zk_iret (pc := 35) (ty := .int) rfl rfl ⟨by omega, by omega⟩ hf (show u1_ = ((Int.gcd a0_ a1_ : Nat) : Int) by have hz_ := hgd_; rw [show u2_ = 0 by omega] at hz_; have hz2_ : Int.gcd u1_ 0 = (u1_).natAbs := Nat.gcd_zero_right _; omega) (zdal_p dlB_T_greatestDivisor_76 (i := 22) rfl)
        · skip
          refine zw_iload_n (pc := 18) (n := 2) (x := Int32.ofInt u1_) rfl (zdal_p dlB_T_greatestDivisor_76 (i := 11) rfl) ?_
          refine zw_iload_n (pc := 19) (n := 3) (x := Int32.ofInt u2_) rfl (zdal_p dlB_T_greatestDivisor_76 (i := 12) rfl) ?_
          refine zr_irem (pc := 20) ⟨by omega, by omega⟩ (by omega) (zdal_p dlB_T_greatestDivisor_76 (i := 13) rfl) ?_
          have hr11_ := zrem_r u1_ u2_
          have hgs_ := zgc_i (x := u1_) (y := u2_) (by omega) (by omega) (by omega) (by omega) hgd_
          have hgr_ := hgs_.1
          refine zw_istore (pc := 21) (i := 5) (L2 := [some (.int (Int32.ofInt a0_)), some (.int (Int32.ofInt a1_)), some (.int (Int32.ofInt u1_)), some (.int (Int32.ofInt u2_)), some (.int (Int32.ofInt u3_)), some (.int (Int32.ofInt (zrem u1_ u2_)))]) (by decide) rfl (zdal_p dlB_T_greatestDivisor_76 (i := 14) rfl) ?_
          refine zw_iload_n (pc := 23) (n := 3) (x := Int32.ofInt u2_) rfl (zdal_p dlB_T_greatestDivisor_76 (i := 15) rfl) ?_
          refine zw_istore_n (pc := 24) (i := 2) (L2 := [some (.int (Int32.ofInt a0_)), some (.int (Int32.ofInt a1_)), some (.int (Int32.ofInt u2_)), some (.int (Int32.ofInt u2_)), some (.int (Int32.ofInt u3_)), some (.int (Int32.ofInt (zrem u1_ u2_)))]) rfl (by decide) rfl (zdal_p dlB_T_greatestDivisor_76 (i := 16) rfl) ?_
          refine zw_iload (pc := 25) (i := 5) (x := Int32.ofInt (zrem u1_ u2_)) rfl (zdal_p dlB_T_greatestDivisor_76 (i := 17) rfl) ?_
          refine zw_istore_n (pc := 27) (i := 3) (L2 := [some (.int (Int32.ofInt a0_)), some (.int (Int32.ofInt a1_)), some (.int (Int32.ofInt u2_)), some (.int (Int32.ofInt (zrem u1_ u2_))), some (.int (Int32.ofInt u3_)), some (.int (Int32.ofInt (zrem u1_ u2_)))]) rfl (by decide) rfl (zdal_p dlB_T_greatestDivisor_76 (i := 18) rfl) ?_
          refine zr_iinc (pc := 28) (i := 4) (a := u3_) (n := 1) (L2 := [some (.int (Int32.ofInt a0_)), some (.int (Int32.ofInt a1_)), some (.int (Int32.ofInt u2_)), some (.int (Int32.ofInt (zrem u1_ u2_))), some (.int (Int32.ofInt (u3_ + 1))), some (.int (Int32.ofInt (zrem u1_ u2_)))]) rfl (by decide) rfl (zdal_p dlB_T_greatestDivisor_76 (i := 19) rfl) ?_
          refine zw_goto (pc := 31) (tgt := 7) (by decide) (zdal_p dlB_T_greatestDivisor_76 (i := 20) rfl) ?_
          refine zW_le [some (.int (Int32.ofInt a0_)), some (.int (Int32.ofInt a1_)), some (.int (Int32.ofInt u2_)), some (.int (Int32.ofInt (zrem u1_ u2_))), some (.int (Int32.ofInt (u3_ + 1))), none] (⟨rfl, rfl, rfl, rfl, rfl, trivial⟩) ?_
          exact ih_7 u2_ hu2_a hu2_b (zrem u1_ u2_) (by omega) (by omega) (u3_ + 1) (by omega) (by omega) (show 0 ≤ (u3_ + 1) by first | with_reducible assumption | assumption | omega) (show 1 ≤ u2_ by first | with_reducible assumption | assumption | omega) (show u2_ ≤ 1000000 by first | with_reducible assumption | assumption | omega) (show 0 ≤ (zrem u1_ u2_) by first | with_reducible assumption | assumption | omega) (show (zrem u1_ u2_) ≤ 1000000 by first | with_reducible assumption | assumption | omega) (show Int.gcd u2_ (zrem u1_ u2_) = Int.gcd a0_ a1_ by exact hgs_.2) (show (((u3_ + 1) = 0 ∧ u2_ = a0_ ∧ (zrem u1_ u2_) = a1_) ∨ (1 ≤ (u3_ + 1) ∧ (zrem u1_ u2_) + (u3_ + 1) ≤ 25)) by first | with_reducible assumption | assumption | omega) (by omega)
  exact lp_7 _ a0_ ha0_a ha0_b a1_ ha1_a ha1_b 0 (by decide) (by decide) (show 0 ≤ (0 : Int) by first | with_reducible assumption | assumption | omega) (show 1 ≤ a0_ by first | with_reducible assumption | assumption | omega) (show a0_ ≤ 1000000 by first | with_reducible assumption | assumption | omega) (show 0 ≤ a1_ by first | with_reducible assumption | assumption | omega) (show a1_ ≤ 1000000 by first | with_reducible assumption | assumption | omega) (show Int.gcd a0_ a1_ = Int.gcd a0_ a1_ by rfl) (show (((0 : Int) = 0 ∧ a0_ = a0_ ∧ a1_ = a1_) ∨ (1 ≤ (0 : Int) ∧ a1_ + (0 : Int) ≤ 25)) by first | with_reducible assumption | assumption | omega) (Nat.lt_succ_self _)
set_option maxHeartbeats 4000000 in
theorem u_T_peakPartG (l : Launch) (d_ : Nat) (Mz : zMem) (hW : zKW d_ Mz) (hnow : zf Mz 0 2 = some (d_ + 0)) (a0_ : Int) (ha0_a : -2147483648 ≤ a0_) (ha0_b : a0_ < 2147483648) (a1_ : Int) (ha1_a : -2147483648 ≤ a1_) (ha1_b : a1_ < 2147483648) (a2_ : Int) (ha2_a : -2147483648 ≤ a2_) (ha2_b : a2_ < 2147483648) (F_ : Nat) (K_ : Nat → Nat → Int) (hA_ : zTA F_ K_) (n_ : Nat) (hn1_ : 1 ≤ n_) (hn24_ : n_ ≤ 24) (u_ : Nat → Int) (p0_ : zKm F_ K_ d_ Mz) (p1_ : ze Mz (d_ + 1) 7 = n_) (p2_ : 0 ≤ a0_) (p3_ : 0 ≤ a1_) (p4_ : a1_ < F_) (p5_ : (zPeU F_ K_ (fun k_ => (a0_).toNat.testBit k_ = true) n_ u_ ∧ (∀ k_ : Nat, k_ < F_ → -1000000 ≤ u_ k_ ∧ u_ k_ ≤ 1000000))) : zC l m_T_peakPart 0 0 [.ref 0, .int (Int32.ofInt a0_), .int (Int32.ofInt a1_), .int (Int32.ofInt a2_)] Mz (zqcI d_ [] [] [] [25, 27] Mz (fun v N => (((((a2_ = 0 ∨ a2_ = 1) ∧ zPeV (u_ (a1_).toNat) n_ a2_ v)) ∨ (¬ (a2_ = 0 ∨ a2_ = 1) ∧ v = (-1000000 : Int)))))) := by
  refine zC_of (L0 := [some (.ref 0), some (.int (Int32.ofInt a0_)), some (.int (Int32.ofInt a1_)), some (.int (Int32.ofInt a2_)), none, none, none]) md_T_peakPart (Nat.le_of_ble_eq_true rfl) rfl ?_ zQ0
  have hf : zFc d_ [] [] [] [25, 27] Mz Mz := zFc.rf
  have r_D1_7 := ze_r Mz (d_ + 1) 7
  obtain ⟨⟨hF1_, hF27_⟩, hAr_⟩ := id hA_
  obtain ⟨hFc_, hKt_⟩ := id p0_
  obtain ⟨hu_, hub_⟩ := id p5_
  have hui_ := hub_ (a1_).toNat (by omega)
  refine zw_iload_n (pc := 0) (n := 3) (x := Int32.ofInt a2_) rfl (zdal_p dlB_T_peakPart_72 (i := 0) rfl) ?_
  refine zr_if_eq (pc := 1) (tgt := 12) ⟨ha2_a, ha2_b⟩ (by decide) (zdal_p dlB_T_peakPart_72 (i := 1) rfl) (fun hc_1 => ?_) (fun hc_1 => ?_)
  · skip
    refine zw_aload_n (pc := 12) (n := 0) (x := 0) rfl (zdal_p dlB_T_peakPart_72 (i := 7) rfl) ?_
    refine zw_getF (pc := 13) f_T_28 rfl ((hf.w hW).ka (o := 0) (by decide)) (hf.now hnow) (zdal_p dlB_T_peakPart_72 (i := 8) rfl) ?_
    refine zw_getF (pc := 16) f_T_61 rfl ((hf.w hW).kr (o := 0) (by decide)) ((hf.w hW).lr (o := 0) (s := 0) (r := 1) (by decide)) (zdal_p dlB_T_peakPart_72 (i := 9) rfl) ?_
    refine zk_getI (pc := 19) f_T_65 rfl ((hf.w hW).kr (o := 1) (by decide)) (zdal_p dlB_T_peakPart_72 (i := 10) rfl) ?_
    refine zw_istore (pc := 22) (i := 4) (L2 := [some (.ref 0), some (.int (Int32.ofInt a0_)), some (.int (Int32.ofInt a1_)), some (.int (Int32.ofInt a2_)), some (.int (Int32.ofInt (ze Mz (d_ + 1) 7))), none, none]) (by decide) rfl (zdal_p dlB_T_peakPart_72 (i := 11) rfl) ?_
    refine zw_aload_n (pc := 24) (n := 0) (x := 0) rfl (zdal_p dlB_T_peakPart_72 (i := 12) rfl) ?_
    refine zw_getF (pc := 25) f_T_28 rfl ((hf.w hW).ka (o := 0) (by decide)) (hf.now hnow) (zdal_p dlB_T_peakPart_72 (i := 13) rfl) ?_
    refine zw_getF (pc := 28) f_T_169 rfl ((hf.w hW).kr (o := 0) (by decide)) ((hf.w hW).lr (o := 0) (s := 2) (r := 23) (by decide)) (zdal_p dlB_T_peakPart_72 (i := 14) rfl) ?_
    refine zw_iload_n (pc := 31) (n := 1) (x := Int32.ofInt a0_) rfl (zdal_p dlB_T_peakPart_72 (i := 15) rfl) ?_
    refine zw_iload (pc := 32) (i := 4) (x := Int32.ofInt (ze Mz (d_ + 1) 7)) rfl (zdal_p dlB_T_peakPart_72 (i := 16) rfl) ?_
    refine zk_callV hf.x (pc := 34) [.int (Int32.ofInt a0_), .int (Int32.ofInt (ze Mz (d_ + 1) 7))] [] l_T_317 (u_Sums_putScaledG l d_ Mz (hf.w hW) a0_ ha0_a ha0_b (ze Mz (d_ + 1) 7) (ze_r Mz (d_ + 1) 7).1 (ze_r Mz (d_ + 1) 7).2 F_ K_ hA_ p0_ (show 0 ≤ a0_ by first | with_reducible assumption | assumption | omega) (show 1 ≤ (ze Mz (d_ + 1) 7) by first | with_reducible assumption | assumption | omega) (show (ze Mz (d_ + 1) 7) ≤ 24 by first | with_reducible assumption | assumption | omega)) rfl rfl ((hf.w hW).kr (o := 23) (by decide)) (by decide) (by decide) (Nat.le_of_ble_eq_true rfl) (zdal_p dlB_T_peakPart_72 (i := 17) rfl) ?_
    rintro _ N1_ ⟨rfl, hsN1_, hp0_N1_⟩
    replace hp0_N1_ : (∀ u : Nat → Int, zPeU F_ K_ (fun k_ => (a0_).toNat.testBit k_ = true) (ze Mz (d_ + 1) 7) u → ∀ k : Nat, k < F_ → zg N1_ (d_ + 25) (1053 + k) = u k) := hp0_N1_
    have hf_N1_ : zFc d_ [] [] [] [25, 27] Mz N1_ := hf.tr hsN1_ (by decide) (by decide) (by decide) (by decide)
    have eD1_7_N1_ : ze N1_ (d_ + 1) 7 = ze Mz (d_ + 1) 7 := hsN1_.e (by decide)
    have c3_ : zKm F_ K_ d_ N1_ := zKm.fr (hf.w hW) hsN1_ p0_ (by decide)
    show zW l m_T_peakPart (zn Mz + 0, zw Mz + 0) N1_ 37 [some (.ref 0), some (.int (Int32.ofInt a0_)), some (.int (Int32.ofInt a1_)), some (.int (Int32.ofInt a2_)), some (.int (Int32.ofInt (ze Mz (d_ + 1) 7))), none, none] [] _
    have hwp_ := hp0_N1_
    have hwv_ := hwp_ u_ (by rw [p1_]; exact hu_)
    refine zw_aload_n (pc := 37) (n := 0) (x := 0) rfl (zdal_p dlB_T_peakPart_72 (i := 18) rfl) ?_
    refine zw_getF (pc := 38) f_T_28 rfl ((hf_N1_.w hW).ka (o := 0) (by decide)) (hf_N1_.now hnow) (zdal_p dlB_T_peakPart_72 (i := 19) rfl) ?_
    refine zw_getF (pc := 41) f_T_169 rfl ((hf_N1_.w hW).kr (o := 0) (by decide)) ((hf_N1_.w hW).lr (o := 0) (s := 2) (r := 23) (by decide)) (zdal_p dlB_T_peakPart_72 (i := 20) rfl) ?_
    refine zw_bipush (pc := 44) (v := Int32.ofInt 39) (by decide) (zdal_p dlB_T_peakPart_72 (i := 21) rfl) ?_
    refine zw_iload_n (pc := 46) (n := 2) (x := Int32.ofInt a1_) rfl (zdal_p dlB_T_peakPart_72 (i := 22) rfl) ?_
    refine zk_callV hf_N1_.x (pc := 47) [.int (Int32.ofInt 39), .int (Int32.ofInt a1_)] [] l_T_179 (u_Sums_numberAt l d_ N1_ (hf_N1_.w hW) 39 (by decide) (by decide) a1_ ha1_a ha1_b (show 0 ≤ 39 by first | with_reducible assumption | assumption | omega) (show 39 ≤ 39 by first | with_reducible assumption | assumption | omega) (show 0 ≤ a1_ by first | with_reducible assumption | assumption | omega) (show a1_ ≤ 26 by first | with_reducible assumption | assumption | omega)) rfl rfl ((hf_N1_.w hW).kr (o := 23) (by decide)) (by decide) (by decide) (Nat.le_of_ble_eq_true rfl) (zdal_p dlB_T_peakPart_72 (i := 23) rfl) ?_
    rintro _ N4_ ⟨v5_, rfl, ⟨hv5_a, hv5_b⟩, hsN4_, hp0_N4_⟩
    obtain rfl := hsN4_.eq.symm
    replace hp0_N4_ : v5_ = zg N1_ (d_ + 25) (39 * 27 + a1_).toNat := hp0_N4_
    show zW l m_T_peakPart (zn Mz + 0, zw Mz + 0) N1_ 50 [some (.ref 0), some (.int (Int32.ofInt a0_)), some (.int (Int32.ofInt a1_)), some (.int (Int32.ofInt a2_)), some (.int (Int32.ofInt (ze Mz (d_ + 1) 7))), none, none] [.long (Int64.ofInt v5_)] _
    have hv_ := hp0_N4_
    rw [show ((39 : Int) * 27 + a1_).toNat = 1053 + (a1_).toNat by omega, hwv_ _ (by omega)] at hv_
    refine zr_l2i (pc := 50) (zdal_p dlB_T_peakPart_73 (i := 0) rfl) ?_
    refine zk_nmW (fun v6_ hv6_ hv6_w => ?_)
    obtain ⟨hv6_a, hv6_b⟩ := hv6_
    have hlv_ := z32w_v (z32w_e hv6_w hv_) ⟨by omega, by omega⟩
    refine zw_istore (pc := 51) (i := 5) (L2 := [some (.ref 0), some (.int (Int32.ofInt a0_)), some (.int (Int32.ofInt a1_)), some (.int (Int32.ofInt a2_)), some (.int (Int32.ofInt (ze Mz (d_ + 1) 7))), some (.int (Int32.ofInt v6_)), none]) (by decide) rfl (zdal_p dlB_T_peakPart_73 (i := 1) rfl) ?_
    refine zw_iload (pc := 53) (i := 4) (x := Int32.ofInt (ze Mz (d_ + 1) 7)) rfl (zdal_p dlB_T_peakPart_73 (i := 2) rfl) ?_
    refine zw_iload (pc := 55) (i := 5) (x := Int32.ofInt v6_) rfl (zdal_p dlB_T_peakPart_73 (i := 3) rfl) ?_
    refine zk_mabs (pc := 57) x_T_320 (by decide) (Nat.le_of_ble_eq_true rfl) (zdal_p dlB_T_peakPart_73 (i := 4) rfl) ⟨hv6_a, hv6_b⟩ (fun v7_ hv7_ hv7_e => ?_)
    obtain ⟨hv7_a, hv7_b⟩ := hv7_
    have hab_ := hv7_e (by omega)
    refine zr_callS hf_N1_.x (pc := 60) [.int (Int32.ofInt (ze Mz (d_ + 1) 7)), .int (Int32.ofInt v7_)] [] l_T_325 (u_T_greatestDivisorG l d_ N1_ (hf_N1_.w hW) (ze Mz (d_ + 1) 7) (ze_r Mz (d_ + 1) 7).1 (ze_r Mz (d_ + 1) 7).2 v7_ hv7_a hv7_b (show 1 ≤ (ze Mz (d_ + 1) 7) by first | with_reducible assumption | assumption | omega) (show (ze Mz (d_ + 1) 7) ≤ 24 by first | with_reducible assumption | assumption | omega) (show 0 ≤ v7_ by first | with_reducible assumption | assumption | omega) (show v7_ ≤ 1000000 by first | with_reducible assumption | assumption | omega)) rfl rfl (by decide) (Nat.le_of_ble_eq_true rfl) (zdal_p dlB_T_peakPart_73 (i := 5) rfl) ?_
    rintro _ N8_ ⟨v9_, rfl, ⟨hv9_a, hv9_b⟩, hsN8_, hp0_N8_⟩
    obtain rfl := hsN8_.eq.symm
    replace hp0_N8_ : v9_ = ((Int.gcd (ze Mz (d_ + 1) 7) v7_ : Nat) : Int) := hp0_N8_
    show zW l m_T_peakPart (zn Mz + 0, zw Mz + 0) N1_ 63 [some (.ref 0), some (.int (Int32.ofInt a0_)), some (.int (Int32.ofInt a1_)), some (.int (Int32.ofInt a2_)), some (.int (Int32.ofInt (ze Mz (d_ + 1) 7))), some (.int (Int32.ofInt v6_)), none] [.int (Int32.ofInt v9_)] _
    have hgd_ := hp0_N8_
    rw [p1_] at hgd_
    have hgz_ := zgc_z (u := u_ (a1_).toNat) (n := (n_ : Int)) (by omega) (by omega) hgd_ (by omega)
    refine zw_istore (pc := 63) (i := 6) (L2 := [some (.ref 0), some (.int (Int32.ofInt a0_)), some (.int (Int32.ofInt a1_)), some (.int (Int32.ofInt a2_)), some (.int (Int32.ofInt (ze Mz (d_ + 1) 7))), some (.int (Int32.ofInt v6_)), some (.int (Int32.ofInt v9_))]) (by decide) rfl (zdal_p dlB_T_peakPart_73 (i := 6) rfl) ?_
    refine zw_iload (pc := 65) (i := 6) (x := Int32.ofInt v9_) rfl (zdal_p dlB_T_peakPart_73 (i := 7) rfl) ?_
    refine zr_if_ne (pc := 67) (tgt := 73) ⟨hv9_a, hv9_b⟩ (by decide) (zdal_p dlB_T_peakPart_73 (i := 8) rfl) (fun hc_67 => ?_) (fun hc_67 => ?_)
    · skip
      refine zw_iload_n (pc := 73) (n := 3) (x := Int32.ofInt a2_) rfl (zdal_p dlB_T_peakPart_73 (i := 11) rfl) ?_
      refine zr_if_ne (pc := 74) (tgt := 85) ⟨ha2_a, ha2_b⟩ (by decide) (zdal_p dlB_T_peakPart_73 (i := 12) rfl) (fun hc_74 => ?_) (fun hc_74 => ?_)
      · skip
        refine zw_iload (pc := 85) (i := 4) (x := Int32.ofInt (ze Mz (d_ + 1) 7)) rfl (zdal_p dlB_T_peakPart_73 (i := 17) rfl) ?_
        refine zw_iload (pc := 87) (i := 6) (x := Int32.ofInt v9_) rfl (zdal_p dlB_T_peakPart_73 (i := 18) rfl) ?_
        refine zr_idiv (pc := 89) ⟨by omega, by omega⟩ (by omega) (zdal_p dlB_T_peakPart_73 (i := 19) rfl) ?_
        have hr10_ := zquo_r (ze Mz (d_ + 1) 7) v9_
        exact zk_iret (pc := 90) (ty := .int) rfl rfl ⟨by omega, by omega⟩ hf_N1_ (show ((((a2_ = 0 ∨ a2_ = 1) ∧ zPeV (u_ (a1_).toNat) n_ a2_ (zquo (ze Mz (d_ + 1) 7) v9_))) ∨ (¬ (a2_ = 0 ∨ a2_ = 1) ∧ (zquo (ze Mz (d_ + 1) 7) v9_) = (-1000000 : Int))) by refine Or.inl ⟨by omega, ?_⟩; first | exact zPeV_0 (by omega) (by omega) (by omega) (by omega) hgz_ (by omega) (by rw [hlv_]) | exact zPeV_1 (by omega) (by omega) (by omega) (by omega) hgz_ (by omega) (by rw [p1_])) d_T_peakPart_90
      · skip
        refine zw_iload (pc := 77) (i := 5) (x := Int32.ofInt v6_) rfl (zdal_p dlB_T_peakPart_73 (i := 13) rfl) ?_
        refine zw_iload (pc := 79) (i := 6) (x := Int32.ofInt v9_) rfl (zdal_p dlB_T_peakPart_73 (i := 14) rfl) ?_
        refine zr_idiv (pc := 81) ⟨by omega, by omega⟩ (by omega) (zdal_p dlB_T_peakPart_73 (i := 15) rfl) ?_
        have hr11_ := zquo_r v6_ v9_
        refine zw_goto (pc := 82) (tgt := 90) (by decide) (zdal_p dlB_T_peakPart_73 (i := 16) rfl) ?_
        exact zk_iret (pc := 90) (ty := .int) rfl rfl ⟨by omega, by omega⟩ hf_N1_ (show ((((a2_ = 0 ∨ a2_ = 1) ∧ zPeV (u_ (a1_).toNat) n_ a2_ (zquo v6_ v9_))) ∨ (¬ (a2_ = 0 ∨ a2_ = 1) ∧ (zquo v6_ v9_) = (-1000000 : Int))) by refine Or.inl ⟨by omega, ?_⟩; first | exact zPeV_0 (by omega) (by omega) (by omega) (by omega) hgz_ (by omega) (by rw [hlv_]) | exact zPeV_1 (by omega) (by omega) (by omega) (by omega) hgz_ (by omega) (by rw [p1_])) d_T_peakPart_90
    · skip
      refine zw_ldc (pc := 70) (v := Int32.ofInt (-1000000)) (by rw [show Int32.ofInt (-1000000) = ((-1000000) : Int32) by decide]; exact k_T_204) (zdal_p dlB_T_peakPart_73 (i := 9) rfl) ?_
      exact zk_iret (pc := 72) (ty := .int) rfl rfl ⟨by omega, by omega⟩ hf_N1_ (show ((((a2_ = 0 ∨ a2_ = 1) ∧ zPeV (u_ (a1_).toNat) n_ a2_ ((-1000000)))) ∨ (¬ (a2_ = 0 ∨ a2_ = 1) ∧ ((-1000000)) = (-1000000 : Int))) by exfalso; omega) (zdal_p dlB_T_peakPart_73 (i := 10) rfl)
  · skip
    refine zw_iload_n (pc := 4) (n := 3) (x := Int32.ofInt a2_) rfl (zdal_p dlB_T_peakPart_72 (i := 2) rfl) ?_
    refine zw_iconst (pc := 5) (v := Int32.ofInt 1) (by decide) (zdal_p dlB_T_peakPart_72 (i := 3) rfl) ?_
    refine zr_icmp_eq (pc := 6) (tgt := 12) ⟨ha2_a, ha2_b⟩ ⟨(by decide), (by decide)⟩ (by decide) (zdal_p dlB_T_peakPart_72 (i := 4) rfl) (fun hc_6 => ?_) (fun hc_6 => ?_)
    · skip
      refine zw_aload_n (pc := 12) (n := 0) (x := 0) rfl (zdal_p dlB_T_peakPart_72 (i := 7) rfl) ?_
      refine zw_getF (pc := 13) f_T_28 rfl ((hf.w hW).ka (o := 0) (by decide)) (hf.now hnow) (zdal_p dlB_T_peakPart_72 (i := 8) rfl) ?_
      refine zw_getF (pc := 16) f_T_61 rfl ((hf.w hW).kr (o := 0) (by decide)) ((hf.w hW).lr (o := 0) (s := 0) (r := 1) (by decide)) (zdal_p dlB_T_peakPart_72 (i := 9) rfl) ?_
      refine zk_getI (pc := 19) f_T_65 rfl ((hf.w hW).kr (o := 1) (by decide)) (zdal_p dlB_T_peakPart_72 (i := 10) rfl) ?_
      refine zw_istore (pc := 22) (i := 4) (L2 := [some (.ref 0), some (.int (Int32.ofInt a0_)), some (.int (Int32.ofInt a1_)), some (.int (Int32.ofInt a2_)), some (.int (Int32.ofInt (ze Mz (d_ + 1) 7))), none, none]) (by decide) rfl (zdal_p dlB_T_peakPart_72 (i := 11) rfl) ?_
      refine zw_aload_n (pc := 24) (n := 0) (x := 0) rfl (zdal_p dlB_T_peakPart_72 (i := 12) rfl) ?_
      refine zw_getF (pc := 25) f_T_28 rfl ((hf.w hW).ka (o := 0) (by decide)) (hf.now hnow) (zdal_p dlB_T_peakPart_72 (i := 13) rfl) ?_
      refine zw_getF (pc := 28) f_T_169 rfl ((hf.w hW).kr (o := 0) (by decide)) ((hf.w hW).lr (o := 0) (s := 2) (r := 23) (by decide)) (zdal_p dlB_T_peakPart_72 (i := 14) rfl) ?_
      refine zw_iload_n (pc := 31) (n := 1) (x := Int32.ofInt a0_) rfl (zdal_p dlB_T_peakPart_72 (i := 15) rfl) ?_
      refine zw_iload (pc := 32) (i := 4) (x := Int32.ofInt (ze Mz (d_ + 1) 7)) rfl (zdal_p dlB_T_peakPart_72 (i := 16) rfl) ?_
      refine zk_callV hf.x (pc := 34) [.int (Int32.ofInt a0_), .int (Int32.ofInt (ze Mz (d_ + 1) 7))] [] l_T_317 (u_Sums_putScaledG l d_ Mz (hf.w hW) a0_ ha0_a ha0_b (ze Mz (d_ + 1) 7) (ze_r Mz (d_ + 1) 7).1 (ze_r Mz (d_ + 1) 7).2 F_ K_ hA_ p0_ (show 0 ≤ a0_ by first | with_reducible assumption | assumption | omega) (show 1 ≤ (ze Mz (d_ + 1) 7) by first | with_reducible assumption | assumption | omega) (show (ze Mz (d_ + 1) 7) ≤ 24 by first | with_reducible assumption | assumption | omega)) rfl rfl ((hf.w hW).kr (o := 23) (by decide)) (by decide) (by decide) (Nat.le_of_ble_eq_true rfl) (zdal_p dlB_T_peakPart_72 (i := 17) rfl) ?_
      rintro _ N12_ ⟨rfl, hsN12_, hp0_N12_⟩
      replace hp0_N12_ : (∀ u : Nat → Int, zPeU F_ K_ (fun k_ => (a0_).toNat.testBit k_ = true) (ze Mz (d_ + 1) 7) u → ∀ k : Nat, k < F_ → zg N12_ (d_ + 25) (1053 + k) = u k) := hp0_N12_
      have hf_N12_ : zFc d_ [] [] [] [25, 27] Mz N12_ := hf.tr hsN12_ (by decide) (by decide) (by decide) (by decide)
      have eD1_7_N12_ : ze N12_ (d_ + 1) 7 = ze Mz (d_ + 1) 7 := hsN12_.e (by decide)
      have c14_ : zKm F_ K_ d_ N12_ := zKm.fr (hf.w hW) hsN12_ p0_ (by decide)
      show zW l m_T_peakPart (zn Mz + 0, zw Mz + 0) N12_ 37 [some (.ref 0), some (.int (Int32.ofInt a0_)), some (.int (Int32.ofInt a1_)), some (.int (Int32.ofInt a2_)), some (.int (Int32.ofInt (ze Mz (d_ + 1) 7))), none, none] [] _
      have hwp_ := hp0_N12_
      have hwv_ := hwp_ u_ (by rw [p1_]; exact hu_)
      refine zw_aload_n (pc := 37) (n := 0) (x := 0) rfl (zdal_p dlB_T_peakPart_72 (i := 18) rfl) ?_
      refine zw_getF (pc := 38) f_T_28 rfl ((hf_N12_.w hW).ka (o := 0) (by decide)) (hf_N12_.now hnow) (zdal_p dlB_T_peakPart_72 (i := 19) rfl) ?_
      refine zw_getF (pc := 41) f_T_169 rfl ((hf_N12_.w hW).kr (o := 0) (by decide)) ((hf_N12_.w hW).lr (o := 0) (s := 2) (r := 23) (by decide)) (zdal_p dlB_T_peakPart_72 (i := 20) rfl) ?_
      refine zw_bipush (pc := 44) (v := Int32.ofInt 39) (by decide) (zdal_p dlB_T_peakPart_72 (i := 21) rfl) ?_
      refine zw_iload_n (pc := 46) (n := 2) (x := Int32.ofInt a1_) rfl (zdal_p dlB_T_peakPart_72 (i := 22) rfl) ?_
      refine zk_callV hf_N12_.x (pc := 47) [.int (Int32.ofInt 39), .int (Int32.ofInt a1_)] [] l_T_179 (u_Sums_numberAt l d_ N12_ (hf_N12_.w hW) 39 (by decide) (by decide) a1_ ha1_a ha1_b (show 0 ≤ 39 by first | with_reducible assumption | assumption | omega) (show 39 ≤ 39 by first | with_reducible assumption | assumption | omega) (show 0 ≤ a1_ by first | with_reducible assumption | assumption | omega) (show a1_ ≤ 26 by first | with_reducible assumption | assumption | omega)) rfl rfl ((hf_N12_.w hW).kr (o := 23) (by decide)) (by decide) (by decide) (Nat.le_of_ble_eq_true rfl) (zdal_p dlB_T_peakPart_72 (i := 23) rfl) ?_
      rintro _ N15_ ⟨v16_, rfl, ⟨hv16_a, hv16_b⟩, hsN15_, hp0_N15_⟩
      obtain rfl := hsN15_.eq.symm
      replace hp0_N15_ : v16_ = zg N12_ (d_ + 25) (39 * 27 + a1_).toNat := hp0_N15_
      show zW l m_T_peakPart (zn Mz + 0, zw Mz + 0) N12_ 50 [some (.ref 0), some (.int (Int32.ofInt a0_)), some (.int (Int32.ofInt a1_)), some (.int (Int32.ofInt a2_)), some (.int (Int32.ofInt (ze Mz (d_ + 1) 7))), none, none] [.long (Int64.ofInt v16_)] _
      have hv_ := hp0_N15_
      rw [show ((39 : Int) * 27 + a1_).toNat = 1053 + (a1_).toNat by omega, hwv_ _ (by omega)] at hv_
      refine zr_l2i (pc := 50) (zdal_p dlB_T_peakPart_73 (i := 0) rfl) ?_
      refine zk_nmW (fun v17_ hv17_ hv17_w => ?_)
      obtain ⟨hv17_a, hv17_b⟩ := hv17_
      have hlv_ := z32w_v (z32w_e hv17_w hv_) ⟨by omega, by omega⟩
      refine zw_istore (pc := 51) (i := 5) (L2 := [some (.ref 0), some (.int (Int32.ofInt a0_)), some (.int (Int32.ofInt a1_)), some (.int (Int32.ofInt a2_)), some (.int (Int32.ofInt (ze Mz (d_ + 1) 7))), some (.int (Int32.ofInt v17_)), none]) (by decide) rfl (zdal_p dlB_T_peakPart_73 (i := 1) rfl) ?_
      refine zw_iload (pc := 53) (i := 4) (x := Int32.ofInt (ze Mz (d_ + 1) 7)) rfl (zdal_p dlB_T_peakPart_73 (i := 2) rfl) ?_
      refine zw_iload (pc := 55) (i := 5) (x := Int32.ofInt v17_) rfl (zdal_p dlB_T_peakPart_73 (i := 3) rfl) ?_
      refine zk_mabs (pc := 57) x_T_320 (by decide) (Nat.le_of_ble_eq_true rfl) (zdal_p dlB_T_peakPart_73 (i := 4) rfl) ⟨hv17_a, hv17_b⟩ (fun v18_ hv18_ hv18_e => ?_)
      obtain ⟨hv18_a, hv18_b⟩ := hv18_
      have hab_ := hv18_e (by omega)
      refine zr_callS hf_N12_.x (pc := 60) [.int (Int32.ofInt (ze Mz (d_ + 1) 7)), .int (Int32.ofInt v18_)] [] l_T_325 (u_T_greatestDivisorG l d_ N12_ (hf_N12_.w hW) (ze Mz (d_ + 1) 7) (ze_r Mz (d_ + 1) 7).1 (ze_r Mz (d_ + 1) 7).2 v18_ hv18_a hv18_b (show 1 ≤ (ze Mz (d_ + 1) 7) by first | with_reducible assumption | assumption | omega) (show (ze Mz (d_ + 1) 7) ≤ 24 by first | with_reducible assumption | assumption | omega) (show 0 ≤ v18_ by first | with_reducible assumption | assumption | omega) (show v18_ ≤ 1000000 by first | with_reducible assumption | assumption | omega)) rfl rfl (by decide) (Nat.le_of_ble_eq_true rfl) (zdal_p dlB_T_peakPart_73 (i := 5) rfl) ?_
      rintro _ N19_ ⟨v20_, rfl, ⟨hv20_a, hv20_b⟩, hsN19_, hp0_N19_⟩
      obtain rfl := hsN19_.eq.symm
      replace hp0_N19_ : v20_ = ((Int.gcd (ze Mz (d_ + 1) 7) v18_ : Nat) : Int) := hp0_N19_
      show zW l m_T_peakPart (zn Mz + 0, zw Mz + 0) N12_ 63 [some (.ref 0), some (.int (Int32.ofInt a0_)), some (.int (Int32.ofInt a1_)), some (.int (Int32.ofInt a2_)), some (.int (Int32.ofInt (ze Mz (d_ + 1) 7))), some (.int (Int32.ofInt v17_)), none] [.int (Int32.ofInt v20_)] _
      have hgd_ := hp0_N19_
      rw [p1_] at hgd_
      have hgz_ := zgc_z (u := u_ (a1_).toNat) (n := (n_ : Int)) (by omega) (by omega) hgd_ (by omega)
      refine zw_istore (pc := 63) (i := 6) (L2 := [some (.ref 0), some (.int (Int32.ofInt a0_)), some (.int (Int32.ofInt a1_)), some (.int (Int32.ofInt a2_)), some (.int (Int32.ofInt (ze Mz (d_ + 1) 7))), some (.int (Int32.ofInt v17_)), some (.int (Int32.ofInt v20_))]) (by decide) rfl (zdal_p dlB_T_peakPart_73 (i := 6) rfl) ?_
      refine zw_iload (pc := 65) (i := 6) (x := Int32.ofInt v20_) rfl (zdal_p dlB_T_peakPart_73 (i := 7) rfl) ?_
      refine zr_if_ne (pc := 67) (tgt := 73) ⟨hv20_a, hv20_b⟩ (by decide) (zdal_p dlB_T_peakPart_73 (i := 8) rfl) (fun hc_67 => ?_) (fun hc_67 => ?_)
      · skip
        refine zw_iload_n (pc := 73) (n := 3) (x := Int32.ofInt a2_) rfl (zdal_p dlB_T_peakPart_73 (i := 11) rfl) ?_
        refine zr_if_ne (pc := 74) (tgt := 85) ⟨ha2_a, ha2_b⟩ (by decide) (zdal_p dlB_T_peakPart_73 (i := 12) rfl) (fun hc_74 => ?_) (fun hc_74 => ?_)
        · skip
          refine zw_iload (pc := 85) (i := 4) (x := Int32.ofInt (ze Mz (d_ + 1) 7)) rfl (zdal_p dlB_T_peakPart_73 (i := 17) rfl) ?_
          refine zw_iload (pc := 87) (i := 6) (x := Int32.ofInt v20_) rfl (zdal_p dlB_T_peakPart_73 (i := 18) rfl) ?_
          refine zr_idiv (pc := 89) ⟨by omega, by omega⟩ (by omega) (zdal_p dlB_T_peakPart_73 (i := 19) rfl) ?_
          have hr21_ := zquo_r (ze Mz (d_ + 1) 7) v20_
          exact zk_iret (pc := 90) (ty := .int) rfl rfl ⟨by omega, by omega⟩ hf_N12_ (show ((((a2_ = 0 ∨ a2_ = 1) ∧ zPeV (u_ (a1_).toNat) n_ a2_ (zquo (ze Mz (d_ + 1) 7) v20_))) ∨ (¬ (a2_ = 0 ∨ a2_ = 1) ∧ (zquo (ze Mz (d_ + 1) 7) v20_) = (-1000000 : Int))) by refine Or.inl ⟨by omega, ?_⟩; first | exact zPeV_0 (by omega) (by omega) (by omega) (by omega) hgz_ (by omega) (by rw [hlv_]) | exact zPeV_1 (by omega) (by omega) (by omega) (by omega) hgz_ (by omega) (by rw [p1_])) d_T_peakPart_90
        · skip
          refine zw_iload (pc := 77) (i := 5) (x := Int32.ofInt v17_) rfl (zdal_p dlB_T_peakPart_73 (i := 13) rfl) ?_
          refine zw_iload (pc := 79) (i := 6) (x := Int32.ofInt v20_) rfl (zdal_p dlB_T_peakPart_73 (i := 14) rfl) ?_
          refine zr_idiv (pc := 81) ⟨by omega, by omega⟩ (by omega) (zdal_p dlB_T_peakPart_73 (i := 15) rfl) ?_
          have hr22_ := zquo_r v17_ v20_
          refine zw_goto (pc := 82) (tgt := 90) (by decide) (zdal_p dlB_T_peakPart_73 (i := 16) rfl) ?_
          exact zk_iret (pc := 90) (ty := .int) rfl rfl ⟨by omega, by omega⟩ hf_N12_ (show ((((a2_ = 0 ∨ a2_ = 1) ∧ zPeV (u_ (a1_).toNat) n_ a2_ (zquo v17_ v20_))) ∨ (¬ (a2_ = 0 ∨ a2_ = 1) ∧ (zquo v17_ v20_) = (-1000000 : Int))) by refine Or.inl ⟨by omega, ?_⟩; first | exact zPeV_0 (by omega) (by omega) (by omega) (by omega) hgz_ (by omega) (by rw [hlv_]) | exact zPeV_1 (by omega) (by omega) (by omega) (by omega) hgz_ (by omega) (by rw [p1_])) d_T_peakPart_90
      · skip
        refine zw_ldc (pc := 70) (v := Int32.ofInt (-1000000)) (by rw [show Int32.ofInt (-1000000) = ((-1000000) : Int32) by decide]; exact k_T_204) (zdal_p dlB_T_peakPart_73 (i := 9) rfl) ?_
        exact zk_iret (pc := 72) (ty := .int) rfl rfl ⟨by omega, by omega⟩ hf_N12_ (show ((((a2_ = 0 ∨ a2_ = 1) ∧ zPeV (u_ (a1_).toNat) n_ a2_ ((-1000000)))) ∨ (¬ (a2_ = 0 ∨ a2_ = 1) ∧ ((-1000000)) = (-1000000 : Int))) by exfalso; omega) (zdal_p dlB_T_peakPart_73 (i := 10) rfl)
    · skip
      refine zw_ldc (pc := 9) (v := Int32.ofInt (-1000000)) (by rw [show Int32.ofInt (-1000000) = ((-1000000) : Int32) by decide]; exact k_T_204) (zdal_p dlB_T_peakPart_72 (i := 5) rfl) ?_
      exact zk_iret (pc := 11) (ty := .int) rfl rfl ⟨by omega, by omega⟩ hf (show ((((a2_ = 0 ∨ a2_ = 1) ∧ zPeV (u_ (a1_).toNat) n_ a2_ ((-1000000)))) ∨ (¬ (a2_ = 0 ∨ a2_ = 1) ∧ ((-1000000)) = (-1000000 : Int))) by exact Or.inr ⟨by omega, rfl⟩) (zdal_p dlB_T_peakPart_72 (i := 6) rfl)
