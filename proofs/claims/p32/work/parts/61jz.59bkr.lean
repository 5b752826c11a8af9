set_option maxHeartbeats 4000000 in
theorem u_T_isPrimeG (l : Launch) (d_ : Nat) (Mz : zMem) (hW : zKW d_ Mz) (a0_ : Int) (ha0_a : -2147483648 ≤ a0_) (ha0_b : a0_ < 2147483648) : zC l m_T_isPrime 0 0 [.int (Int32.ofInt a0_)] Mz (zqcI d_ [] [] [] [] Mz (fun v N => (((v = 1 ∧ (a0_ = 2 ∨ a0_ = 3 ∨ a0_ = 5)) ∨ (v = 0 ∧ ¬ (a0_ = 2 ∨ a0_ = 3 ∨ a0_ = 5)))))) := by
  refine zC_of (L0 := [some (.int (Int32.ofInt a0_))]) md_T_isPrime (Nat.le_of_ble_eq_true rfl) rfl ?_ zQ0
  have hf : zFc d_ [] [] [] [] Mz Mz := zFc.rf
  refine zw_iload_n (pc := 0) (n := 0) (x := Int32.ofInt a0_) rfl (zdal_p dlB_T_isPrime_30 (i := 0) rfl) ?_
  refine zw_iconst (pc := 1) (v := Int32.ofInt 2) (by decide) (zdal_p dlB_T_isPrime_30 (i := 1) rfl) ?_
  refine zr_icmp_eq (pc := 2) (tgt := 15) ⟨ha0_a, ha0_b⟩ ⟨(by decide), (by decide)⟩ (by decide) (zdal_p dlB_T_isPrime_30 (i := 2) rfl) (fun hc_2 => ?_) (fun hc_2 => ?_)
  · skip
    refine zw_iconst (pc := 15) (v := Int32.ofInt 1) (by decide) d_T_isPrime_15 ?_
    refine zw_goto (pc := 16) (tgt := 20) (by decide) d_T_isPrime_16 ?_
    exact zk_iret (pc := 20) (ty := .boolean) rfl (z_narB (by omega)) ⟨by omega, by omega⟩ hf (show ((1 = 1 ∧ (a0_ = 2 ∨ a0_ = 3 ∨ a0_ = 5)) ∨ (1 = 0 ∧ ¬ (a0_ = 2 ∨ a0_ = 3 ∨ a0_ = 5))) from Or.inl (⟨(show 1 = 1 by first | with_reducible assumption | assumption | omega), (show (a0_ = 2 ∨ a0_ = 3 ∨ a0_ = 5) by first | with_reducible assumption | assumption | omega)⟩)) d_T_isPrime_20
  · skip
    refine zw_iload_n (pc := 5) (n := 0) (x := Int32.ofInt a0_) rfl (zdal_p dlB_T_isPrime_30 (i := 3) rfl) ?_
    refine zw_iconst (pc := 6) (v := Int32.ofInt 3) (by decide) (zdal_p dlB_T_isPrime_30 (i := 4) rfl) ?_
    refine zr_icmp_eq (pc := 7) (tgt := 15) ⟨ha0_a, ha0_b⟩ ⟨(by decide), (by decide)⟩ (by decide) (zdal_p dlB_T_isPrime_30 (i := 5) rfl) (fun hc_7 => ?_) (fun hc_7 => ?_)
    · skip
      refine zw_iconst (pc := 15) (v := Int32.ofInt 1) (by decide) d_T_isPrime_15 ?_
      refine zw_goto (pc := 16) (tgt := 20) (by decide) d_T_isPrime_16 ?_
      exact zk_iret (pc := 20) (ty := .boolean) rfl (z_narB (by omega)) ⟨by omega, by omega⟩ hf (show ((1 = 1 ∧ (a0_ = 2 ∨ a0_ = 3 ∨ a0_ = 5)) ∨ (1 = 0 ∧ ¬ (a0_ = 2 ∨ a0_ = 3 ∨ a0_ = 5))) from Or.inl (⟨(show 1 = 1 by first | with_reducible assumption | assumption | omega), (show (a0_ = 2 ∨ a0_ = 3 ∨ a0_ = 5) by first | with_reducible assumption | assumption | omega)⟩)) d_T_isPrime_20
    · skip
      refine zw_iload_n (pc := 10) (n := 0) (x := Int32.ofInt a0_) rfl (zdal_p dlB_T_isPrime_30 (i := 6) rfl) ?_
      refine zw_iconst (pc := 11) (v := Int32.ofInt 5) (by decide) (zdal_p dlB_T_isPrime_30 (i := 7) rfl) ?_
      refine zr_icmp_ne (pc := 12) (tgt := 19) ⟨ha0_a, ha0_b⟩ ⟨(by decide), (by decide)⟩ (by decide) (zdal_p dlB_T_isPrime_30 (i := 8) rfl) (fun hc_12 => ?_) (fun hc_12 => ?_)
      · skip
        refine zw_iconst (pc := 19) (v := Int32.ofInt 0) (by decide) (zdal_p dlB_T_isPrime_30 (i := 11) rfl) ?_
        exact zk_iret (pc := 20) (ty := .boolean) rfl (z_narB (by omega)) ⟨by omega, by omega⟩ hf (show ((0 = 1 ∧ (a0_ = 2 ∨ a0_ = 3 ∨ a0_ = 5)) ∨ (0 = 0 ∧ ¬ (a0_ = 2 ∨ a0_ = 3 ∨ a0_ = 5))) from Or.inr (⟨(show 0 = 0 by first | with_reducible assumption | assumption | omega), (show ¬ (a0_ = 2 ∨ a0_ = 3 ∨ a0_ = 5) by first | with_reducible assumption | assumption | omega)⟩)) d_T_isPrime_20
      · skip
        refine zw_iconst (pc := 15) (v := Int32.ofInt 1) (by decide) d_T_isPrime_15 ?_
        refine zw_goto (pc := 16) (tgt := 20) (by decide) d_T_isPrime_16 ?_
        exact zk_iret (pc := 20) (ty := .boolean) rfl (z_narB (by omega)) ⟨by omega, by omega⟩ hf (show ((1 = 1 ∧ (a0_ = 2 ∨ a0_ = 3 ∨ a0_ = 5)) ∨ (1 = 0 ∧ ¬ (a0_ = 2 ∨ a0_ = 3 ∨ a0_ = 5))) from Or.inl (⟨(show 1 = 1 by first | with_reducible assumption | assumption | omega), (show (a0_ = 2 ∨ a0_ = 3 ∨ a0_ = 5) by first | with_reducible assumption | assumption | omega)⟩)) d_T_isPrime_20
set_option maxHeartbeats 4000000 in
theorem u_Sorts_isPowerApartG (l : Launch) (d_ : Nat) (Mz : zMem) (hW : zKW d_ Mz) (a0_ : Int) (ha0_a : -2147483648 ≤ a0_) (ha0_b : a0_ < 2147483648) (a1_ : Int) (ha1_a : -2147483648 ≤ a1_) (ha1_b : a1_ < 2147483648) (a2_ : Int) (ha2_a : -2147483648 ≤ a2_) (ha2_b : a2_ < 2147483648) (p0_ : 1 ≤ a0_) (p1_ : a0_ ≤ 24) (p2_ : 1 ≤ a1_) (p3_ : a1_ ≤ 24) (p4_ : (a2_ = 2 ∨ a2_ = 3 ∨ a2_ = 5)) : zC l m_Sorts_isPowerApart 0 0 [.int (Int32.ofInt a0_), .int (Int32.ofInt a1_), .int (Int32.ofInt a2_)] Mz (zqcI d_ [] [] [] [] Mz (fun v N => (((v = 1 ∧ gPwr (a2_).toNat (a0_).toNat (a1_).toNat) ∨ (v = 0 ∧ ¬ gPwr (a2_).toNat (a0_).toNat (a1_).toNat))))) := by
  refine zC_of (L0 := [some (.int (Int32.ofInt a0_)), some (.int (Int32.ofInt a1_)), some (.int (Int32.ofInt a2_)), none]) md_Sorts_isPowerApart (Nat.le_of_ble_eq_true rfl) rfl ?_ zQ0
  have hf : zFc d_ [] [] [] [] Mz Mz := zFc.rf
  refine zw_iload_n (pc := 0) (n := 0) (x := Int32.ofInt a0_) rfl (zdal_p dlB_Sorts_isPowerApart_33 (i := 0) rfl) ?_
  refine zw_istore_n (pc := 1) (i := 3) (L2 := [some (.int (Int32.ofInt a0_)), some (.int (Int32.ofInt a1_)), some (.int (Int32.ofInt a2_)), some (.int (Int32.ofInt a0_))]) rfl (by decide) rfl (zdal_p dlB_Sorts_isPowerApart_33 (i := 1) rfl) ?_
  have lp_2 : ∀ (n : Nat) (u1_ : Int) (hu1_a : -2147483648 ≤ u1_) (hu1_b : u1_ < 2147483648) (i2_ : 1 ≤ u1_) (i3_ : u1_ ≤ 120) (i4_ : zPwI (a2_).toNat (a0_).toNat (a1_).toNat u1_), (a1_ - u1_).toNat < n → zW l m_Sorts_isPowerApart (zn Mz + 0, zw Mz + 0) Mz 2 [some (.int (Int32.ofInt a0_)), some (.int (Int32.ofInt a1_)), some (.int (Int32.ofInt a2_)), some (.int (Int32.ofInt u1_))] [] (zqcI d_ [] [] [] [] Mz (fun v N => (((v = 1 ∧ gPwr (a2_).toNat (a0_).toNat (a1_).toNat) ∨ (v = 0 ∧ ¬ gPwr (a2_).toNat (a0_).toNat (a1_).toNat))))) := by
    intro n
    induction n with
    | zero =>
      intro u1_ hu1_a hu1_b i2_ i3_ i4_ h0
      exact absurd h0 (Nat.not_lt_zero _)
    | succ n ih_2 =>
      intro u1_ hu1_a hu1_b i2_ i3_ i4_ hlt_2
      have hpi_ := (show zPwI (a2_).toNat (a0_).toNat (a1_).toNat u1_ by first | with_reducible assumption | assumption)
      refine zw_iload_n (pc := 2) (n := 3) (x := Int32.ofInt u1_) rfl (zdal_p dlB_Sorts_isPowerApart_33 (i := 2) rfl) ?_
      refine zr_if_le (pc := 3) (tgt := 23) ⟨hu1_a, hu1_b⟩ (by decide) (zdal_p dlB_Sorts_isPowerApart_33 (i := 3) rfl) (fun hc_3 => ?_) (fun hc_3 => ?_)
      · skip
        refine zw_iload_n (pc := 23) (n := 3) (x := Int32.ofInt u1_) rfl d_Sorts_isPowerApart_23 ?_
        refine zw_iload_n (pc := 24) (n := 1) (x := Int32.ofInt a1_) rfl d_Sorts_isPowerApart_24 ?_
        refine zr_icmp_ne (pc := 25) (tgt := 32) ⟨hu1_a, hu1_b⟩ ⟨ha1_a, ha1_b⟩ (by decide) d_Sorts_isPowerApart_25 (fun hc_25 => ?_) (fun hc_25 => ?_)
        · skip
          refine zw_iconst (pc := 32) (v := Int32.ofInt 0) (by decide) d_Sorts_isPowerApart_32 ?_
          exact zk_iret (pc := 33) (ty := .boolean) rfl (z_narB (by omega)) ⟨by omega, by omega⟩ hf (show ((0 = 1 ∧ gPwr (a2_).toNat (a0_).toNat (a1_).toNat) ∨ (0 = 0 ∧ ¬ gPwr (a2_).toNat (a0_).toNat (a1_).toNat)) from Or.inr (⟨(show 0 = 0 by first | rfl | (exfalso; omega) | exact (fun q_ => absurd ((zPwI_e (by omega) (by omega) (by omega) hpi_ (by omega)).mpr q_) (by omega))), (show ¬ gPwr (a2_).toNat (a0_).toNat (a1_).toNat by first | rfl | (exfalso; omega) | exact (fun q_ => absurd ((zPwI_e (by omega) (by omega) (by omega) hpi_ (by omega)).mpr q_) (by omega)))⟩)) d_Sorts_isPowerApart_33
        · skip
          refine zw_iconst (pc := 28) (v := Int32.ofInt 1) (by decide) d_Sorts_isPowerApart_28 ?_
          refine zw_goto (pc := 29) (tgt := 33) (by decide) d_Sorts_isPowerApart_29 ?_
          exact zk_iret (pc := 33) (ty := .boolean) rfl (z_narB (by omega)) ⟨by omega, by omega⟩ hf (show ((1 = 1 ∧ gPwr (a2_).toNat (a0_).toNat (a1_).toNat) ∨ (1 = 0 ∧ ¬ gPwr (a2_).toNat (a0_).toNat (a1_).toNat)) from Or.inl (⟨(show 1 = 1 by first | rfl | (exfalso; omega) | exact (zPwI_e (by omega) (by omega) (by omega) hpi_ (by omega)).mp (by omega)), (show gPwr (a2_).toNat (a0_).toNat (a1_).toNat by first | rfl | (exfalso; omega) | exact (zPwI_e (by omega) (by omega) (by omega) hpi_ (by omega)).mp (by omega))⟩)) d_Sorts_isPowerApart_33
      · skip
        refine zw_iload_n (pc := 6) (n := 3) (x := Int32.ofInt u1_) rfl (zdal_p dlB_Sorts_isPowerApart_33 (i := 4) rfl) ?_
        refine zw_iload_n (pc := 7) (n := 1) (x := Int32.ofInt a1_) rfl (zdal_p dlB_Sorts_isPowerApart_33 (i := 5) rfl) ?_
        refine zr_icmp_ge (pc := 8) (tgt := 23) ⟨hu1_a, hu1_b⟩ ⟨ha1_a, ha1_b⟩ (by decide) (zdal_p dlB_Sorts_isPowerApart_33 (i := 6) rfl) (fun hc_8 => ?_) (fun hc_8 => ?_)
        · skip
          refine zw_iload_n (pc := 23) (n := 3) (x := Int32.ofInt u1_) rfl d_Sorts_isPowerApart_23 ?_
          refine zw_iload_n (pc := 24) (n := 1) (x := Int32.ofInt a1_) rfl d_Sorts_isPowerApart_24 ?_
          refine zr_icmp_ne (pc := 25) (tgt := 32) ⟨hu1_a, hu1_b⟩ ⟨ha1_a, ha1_b⟩ (by decide) d_Sorts_isPowerApart_25 (fun hc_25 => ?_) (fun hc_25 => ?_)
          · skip
            refine zw_iconst (pc := 32) (v := Int32.ofInt 0) (by decide) d_Sorts_isPowerApart_32 ?_
            exact zk_iret (pc := 33) (ty := .boolean) rfl (z_narB (by omega)) ⟨by omega, by omega⟩ hf (show ((0 = 1 ∧ gPwr (a2_).toNat (a0_).toNat (a1_).toNat) ∨ (0 = 0 ∧ ¬ gPwr (a2_).toNat (a0_).toNat (a1_).toNat)) from Or.inr (⟨(show 0 = 0 by first | rfl | (exfalso; omega) | exact (fun q_ => absurd ((zPwI_e (by omega) (by omega) (by omega) hpi_ (by omega)).mpr q_) (by omega))), (show ¬ gPwr (a2_).toNat (a0_).toNat (a1_).toNat by first | rfl | (exfalso; omega) | exact (fun q_ => absurd ((zPwI_e (by omega) (by omega) (by omega) hpi_ (by omega)).mpr q_) (by omega)))⟩)) d_Sorts_isPowerApart_33
          · skip
            refine zw_iconst (pc := 28) (v := Int32.ofInt 1) (by decide) d_Sorts_isPowerApart_28 ?_
            refine zw_goto (pc := 29) (tgt := 33) (by decide) d_Sorts_isPowerApart_29 ?_
            exact zk_iret (pc := 33) (ty := .boolean) rfl (z_narB (by omega)) ⟨by omega, by omega⟩ hf (show ((1 = 1 ∧ gPwr (a2_).toNat (a0_).toNat (a1_).toNat) ∨ (1 = 0 ∧ ¬ gPwr (a2_).toNat (a0_).toNat (a1_).toNat)) from Or.inl (⟨(show 1 = 1 by first | rfl | (exfalso; omega) | exact (zPwI_e (by omega) (by omega) (by omega) hpi_ (by omega)).mp (by omega)), (show gPwr (a2_).toNat (a0_).toNat (a1_).toNat by first | rfl | (exfalso; omega) | exact (zPwI_e (by omega) (by omega) (by omega) hpi_ (by omega)).mp (by omega))⟩)) d_Sorts_isPowerApart_33
        · skip
          refine zw_iload_n (pc := 11) (n := 2) (x := Int32.ofInt a2_) rfl (zdal_p dlB_Sorts_isPowerApart_33 (i := 7) rfl) ?_
          refine zw_iconst (pc := 12) (v := Int32.ofInt 1) (by decide) (zdal_p dlB_Sorts_isPowerApart_33 (i := 8) rfl) ?_
          refine zr_icmp_le (pc := 13) (tgt := 23) ⟨ha2_a, ha2_b⟩ ⟨(by decide), (by decide)⟩ (by decide) (zdal_p dlB_Sorts_isPowerApart_33 (i := 9) rfl) (fun hc_13 => ?_) (fun hc_13 => ?_)
          · skip
            refine zw_iload_n (pc := 23) (n := 3) (x := Int32.ofInt u1_) rfl d_Sorts_isPowerApart_23 ?_
            refine zw_iload_n (pc := 24) (n := 1) (x := Int32.ofInt a1_) rfl d_Sorts_isPowerApart_24 ?_
            refine zr_icmp_ne (pc := 25) (tgt := 32) ⟨hu1_a, hu1_b⟩ ⟨ha1_a, ha1_b⟩ (by decide) d_Sorts_isPowerApart_25 (fun hc_25 => ?_) (fun hc_25 => ?_)
            · skip
              refine zw_iconst (pc := 32) (v := Int32.ofInt 0) (by decide) d_Sorts_isPowerApart_32 ?_
              exact zk_iret (pc := 33) (ty := .boolean) rfl (z_narB (by omega)) ⟨by omega, by omega⟩ hf (show ((0 = 1 ∧ gPwr (a2_).toNat (a0_).toNat (a1_).toNat) ∨ (0 = 0 ∧ ¬ gPwr (a2_).toNat (a0_).toNat (a1_).toNat)) from Or.inr (⟨(show 0 = 0 by first | rfl | (exfalso; omega) | exact (fun q_ => absurd ((zPwI_e (by omega) (by omega) (by omega) hpi_ (by omega)).mpr q_) (by omega))), (show ¬ gPwr (a2_).toNat (a0_).toNat (a1_).toNat by first | rfl | (exfalso; omega) | exact (fun q_ => absurd ((zPwI_e (by omega) (by omega) (by omega) hpi_ (by omega)).mpr q_) (by omega)))⟩)) d_Sorts_isPowerApart_33
            · skip
              refine zw_iconst (pc := 28) (v := Int32.ofInt 1) (by decide) d_Sorts_isPowerApart_28 ?_
              refine zw_goto (pc := 29) (tgt := 33) (by decide) d_Sorts_isPowerApart_29 ?_
              exact zk_iret (pc := 33) (ty := .boolean) rfl (z_narB (by omega)) ⟨by omega, by omega⟩ hf (show ((1 = 1 ∧ gPwr (a2_).toNat (a0_).toNat (a1_).toNat) ∨ (1 = 0 ∧ ¬ gPwr (a2_).toNat (a0_).toNat (a1_).toNat)) from Or.inl (⟨(show 1 = 1 by first | rfl | (exfalso; omega) | exact (zPwI_e (by omega) (by omega) (by omega) hpi_ (by omega)).mp (by omega)), (show gPwr (a2_).toNat (a0_).toNat (a1_).toNat by first | rfl | (exfalso; omega) | exact (zPwI_e (by omega) (by omega) (by omega) hpi_ (by omega)).mp (by omega))⟩)) d_Sorts_isPowerApart_33
          · skip
            refine zw_iload_n (pc := 16) (n := 3) (x := Int32.ofInt u1_) rfl (zdal_p dlB_Sorts_isPowerApart_33 (i := 10) rfl) ?_
            refine zw_iload_n (pc := 17) (n := 2) (x := Int32.ofInt a2_) rfl (zdal_p dlB_Sorts_isPowerApart_33 (i := 11) rfl) ?_
            refine zr_imul (pc := 18) (zdal_p dlB_Sorts_isPowerApart_33 (i := 12) rfl) ?_
            have hml_ := zmulp p4_ (show 1 ≤ u1_ by omega) (show u1_ ≤ 24 by omega)
            have hpn_ := zPwI_s (q := a2_) hpi_ (by omega) (by omega)
            refine zw_istore_n (pc := 19) (i := 3) (L2 := [some (.int (Int32.ofInt a0_)), some (.int (Int32.ofInt a1_)), some (.int (Int32.ofInt a2_)), some (.int (Int32.ofInt (u1_ * a2_)))]) rfl (by decide) rfl (zdal_p dlB_Sorts_isPowerApart_33 (i := 13) rfl) ?_
            refine zw_goto (pc := 20) (tgt := 2) (by decide) (zdal_p dlB_Sorts_isPowerApart_33 (i := 14) rfl) ?_
            exact ih_2 (u1_ * a2_) (by omega) (by omega) (show 1 ≤ (u1_ * a2_) by first | with_reducible assumption | assumption | omega) (show (u1_ * a2_) ≤ 120 by first | with_reducible assumption | assumption | omega) (show zPwI (a2_).toNat (a0_).toNat (a1_).toNat (u1_ * a2_) by exact hpn_) (by omega)
  exact lp_2 _ a0_ ha0_a ha0_b (show 1 ≤ a0_ by first | with_reducible assumption | assumption | omega) (show a0_ ≤ 120 by first | with_reducible assumption | assumption | omega) (show zPwI (a2_).toNat (a0_).toNat (a1_).toNat a0_ by exact zPwI_0 (by omega)) (Nat.lt_succ_self _)
set_option maxHeartbeats 8000000 in
theorem u_Sorts_residueOfG (l : Launch) (d_ : Nat) (Mz : zMem) (hW : zKW d_ Mz) (a0_ : Int) (ha0_a : -2147483648 ≤ a0_) (ha0_b : a0_ < 2147483648) (a1_ : Int) (ha1_a : -2147483648 ≤ a1_) (ha1_b : a1_ < 2147483648) (T_ : zGT) (hT_ : T_ ∈ gTabs) (hGr_ : gGr T_) (p0_ : zTt T_ d_ Mz) (p1_ : zFir T_ d_ Mz) (p2_ : zSbK T_ d_ Mz) (p3_ : 0 ≤ a0_) (p4_ : a0_ < ((gF T_).length : Int)) (p5_ : (a1_ = 2 ∨ a1_ = 3 ∨ a1_ = 5)) : zC l m_Sorts_residueOf 0 0 [.ref (d_ + 12), .int (Int32.ofInt a0_), .int (Int32.ofInt a1_)] Mz (zqcI d_ [] [] [] [] Mz (fun v N => zfRe T_ (a0_).toNat (a1_).toNat v)) := by
  refine zC_of (L0 := [some (.ref (d_ + 12)), some (.int (Int32.ofInt a0_)), some (.int (Int32.ofInt a1_)), none, none, none]) md_Sorts_residueOf (Nat.le_of_ble_eq_true rfl) rfl ?_ zQ0
  have hf : zFc d_ [] [] [] [] Mz Mz := zFc.rf
  have r_D12_6 := ze_r Mz (d_ + 12) 6
  have hO_ := gTabs_ok T_ hT_
  have hG_ := hO_.1
  have hn24_ := hG_.2.1
  have hn1_ := hG_.1
  have hsz_ := p0_.1
  have hfl_ := p1_.1
  have hLs_ := p2_.1
  obtain ⟨⟨hm1_, hm35_⟩, hmm_, hms_, hmk_⟩ := id hLs_
  obtain ⟨⟨hF1_, hF27_⟩, hAr_⟩ := id (gT_zTA hT_)
  have hfm0_ := gFn_m (T := T_) (i := (a0_).toNat) (by omega)
  have hfma_ := (hO_.2.2.1.2.1 _ hfm0_).1
  have hfba_ := gS_b hO_ hfma_
  obtain ⟨R_, hR_⟩ := gRs_ex (p := (a1_).toNat) hT_ hGr_ hfm0_ (by omega)
  refine zw_aload_n (pc := 0) (n := 0) (x := (d_ + 12)) rfl (zdal_p dlB_Sorts_residueOf_31 (i := 0) rfl) ?_
  refine zw_getF (pc := 1) f_Sorts_26 rfl ((hf.w hW).kr (o := 12) (by decide)) ((hf.w hW).lr (o := 12) (s := 4) (r := 19) (by decide)) (zdal_p dlB_Sorts_residueOf_31 (i := 1) rfl) ?_
  refine zw_iload_n (pc := 4) (n := 1) (x := Int32.ofInt a0_) rfl (zdal_p dlB_Sorts_residueOf_31 (i := 2) rfl) ?_
  refine zk_at hf.x (pc := 5) l_Sorts_49 ((hf.w hW).kr (o := 19) (by decide)) ((hf.w hW).lr (o := 19) (s := 0) (r := 20) (by decide)) ((hf.w hW).rr (o := 20) (t := 1) (n := 27) (by decide)) (by decide) (by omega) (by omega) (by decide) (Nat.le_of_ble_eq_true rfl) (zdal_p dlB_Sorts_residueOf_31 (i := 3) rfl) (fun v1_ hv1_ hv1_a hv1_b => ?_)
  have hfva_ := hv1_
  have hfwa_ : v1_ = (((gFn T_ (a0_).toNat) : Nat) : Int) := hfva_.trans (p1_.2 _ (by omega))
  have hfta_ : (v1_).toNat = (gFn T_ (a0_).toNat) := by omega
  refine zw_istore_n (pc := 8) (i := 3) (L2 := [some (.ref (d_ + 12)), some (.int (Int32.ofInt a0_)), some (.int (Int32.ofInt a1_)), some (.int (Int32.ofInt v1_)), none, none]) rfl (by decide) rfl (zdal_p dlB_Sorts_residueOf_31 (i := 4) rfl) ?_
  refine zw_iconst (pc := 9) (v := Int32.ofInt 0) (by decide) (zdal_p dlB_Sorts_residueOf_31 (i := 5) rfl) ?_
  refine zw_istore (pc := 10) (i := 4) (L2 := [some (.ref (d_ + 12)), some (.int (Int32.ofInt a0_)), some (.int (Int32.ofInt a1_)), some (.int (Int32.ofInt v1_)), some (.int (Int32.ofInt 0)), none]) (by decide) rfl (zdal_p dlB_Sorts_residueOf_31 (i := 6) rfl) ?_
  have lp_12 : ∀ (n : Nat) (u2_ : Int) (hu2_a : -2147483648 ≤ u2_) (hu2_b : u2_ < 2147483648) (i3_ : 0 ≤ u2_) (i4_ : u2_ ≤ ze Mz (d_ + 12) 6) (i5_ : (∀ t_ : Nat, (t_ : Int) < u2_ → ¬ gCnd T_ (gFn T_ (a0_).toNat) (a1_).toNat (zRw d_ 14 Mz t_).toNat)), (ze Mz (d_ + 12) 6 - u2_).toNat < n → zW l m_Sorts_residueOf (zn Mz + 0, zw Mz + 0) Mz 12 [some (.ref (d_ + 12)), some (.int (Int32.ofInt a0_)), some (.int (Int32.ofInt a1_)), some (.int (Int32.ofInt v1_)), some (.int (Int32.ofInt u2_)), none] [] (zqcI d_ [] [] [] [] Mz (fun v N => zfRe T_ (a0_).toNat (a1_).toNat v)) := by
    intro n
    induction n with
    | zero =>
      intro u2_ hu2_a hu2_b i3_ i4_ i5_ h0
      exact absurd h0 (Nat.not_lt_zero _)
    | succ n ih_12 =>
      intro u2_ hu2_a hu2_b i3_ i4_ i5_ hlt_12
      have hnc_ := (show (∀ t_ : Nat, (t_ : Int) < u2_ → ¬ gCnd T_ (gFn T_ (a0_).toNat) (a1_).toNat (zRw d_ 14 Mz t_).toNat) by first | with_reducible assumption | assumption)
      refine zw_iload (pc := 12) (i := 4) (x := Int32.ofInt u2_) rfl (zdal_p dlB_Sorts_residueOf_31 (i := 7) rfl) ?_
      refine zw_aload_n (pc := 14) (n := 0) (x := (d_ + 12)) rfl (zdal_p dlB_Sorts_residueOf_31 (i := 8) rfl) ?_
      refine zk_getI (pc := 15) f_Sorts_36 rfl ((hf.w hW).kr (o := 12) (by decide)) (zdal_p dlB_Sorts_residueOf_31 (i := 9) rfl) ?_
      refine zr_icmp_ge (pc := 18) (tgt := 89) ⟨hu2_a, hu2_b⟩ ⟨(ze_r Mz (d_ + 12) 6).1, (ze_r Mz (d_ + 12) 6).2⟩ (by decide) (zdal_p dlB_Sorts_residueOf_31 (i := 10) rfl) (fun hc_18 => ?_) (fun hc_18 => ?_)
      · skip
        exact absurd hR_.2.1 (zRs_n (C := gCnd T_ (gFn T_ (a0_).toNat) (a1_).toNat) hLs_ hR_.1 hnc_ (by omega))
      · skip
        refine zw_aload_n (pc := 21) (n := 0) (x := (d_ + 12)) rfl (zdal_p dlB_Sorts_residueOf_31 (i := 11) rfl) ?_
        refine zw_getF (pc := 22) f_Sorts_14 rfl ((hf.w hW).kr (o := 12) (by decide)) ((hf.w hW).lr (o := 12) (s := 1) (r := 13) (by decide)) (zdal_p dlB_Sorts_residueOf_31 (i := 12) rfl) ?_
        refine zw_iload (pc := 25) (i := 4) (x := Int32.ofInt u2_) rfl (zdal_p dlB_Sorts_residueOf_31 (i := 13) rfl) ?_
        refine zk_at hf.x (pc := 27) l_Sorts_49 ((hf.w hW).kr (o := 13) (by decide)) ((hf.w hW).lr (o := 13) (s := 0) (r := 14) (by decide)) ((hf.w hW).rr (o := 14) (t := 1) (n := 35) (by decide)) (by decide) (by omega) (by omega) (by decide) (Nat.le_of_ble_eq_true rfl) (zdal_p dlB_Sorts_residueOf_31 (i := 14) rfl) (fun v6_ hv6_ hv6_a hv6_b => ?_)
        have hvx_ := hv6_
        have hmx_ := hmm_ (u2_).toNat (by omega)
        have hnx_ := gS_24 hO_ hmx_.2
        have hwx_ : zRw d_ 14 Mz (u2_).toNat = v6_ := hvx_.symm
        rw [hwx_] at hmx_ hnx_
        have hxb_ := gS_b hO_ hmx_.2
        refine zw_istore (pc := 30) (i := 5) (L2 := [some (.ref (d_ + 12)), some (.int (Int32.ofInt a0_)), some (.int (Int32.ofInt a1_)), some (.int (Int32.ofInt v1_)), some (.int (Int32.ofInt u2_)), some (.int (Int32.ofInt v6_))]) (by decide) rfl (zdal_p dlB_Sorts_residueOf_31 (i := 15) rfl) ?_
        refine zw_iload (pc := 32) (i := 5) (x := Int32.ofInt v6_) rfl (zdal_p dlB_Sorts_residueOf_31 (i := 16) rfl) ?_
        refine zw_iload_n (pc := 34) (n := 3) (x := Int32.ofInt v1_) rfl (zdal_p dlB_Sorts_residueOf_31 (i := 17) rfl) ?_
        refine zr_callS hf.x (pc := 35) [.int (Int32.ofInt v6_), .int (Int32.ofInt v1_)] [] l_Sorts_96 (u_T_isPart l d_ Mz (hf.w hW) v6_ hv6_a hv6_b v1_ hv1_a hv1_b (show 0 ≤ v6_ by first | with_reducible assumption | assumption | omega) (show v6_ < 2147483648 by first | with_reducible assumption | assumption | omega) (show 0 ≤ v1_ by first | with_reducible assumption | assumption | omega) (show v1_ < 2147483648 by first | with_reducible assumption | assumption | omega)) rfl rfl (by decide) (Nat.le_of_ble_eq_true rfl) (zdal_p dlB_Sorts_residueOf_31 (i := 18) rfl) ?_
        rintro _ N7_ ⟨v8_, rfl, ⟨hv8_a, hv8_b⟩, hsN7_, hp0_N7_⟩
        obtain rfl := hsN7_.eq.symm
        replace hp0_N7_ : ((v8_ = 1 ∧ (v6_).toNat &&& (v1_).toNat = (v6_).toNat) ∨ (v8_ = 0 ∧ ¬ (v6_).toNat &&& (v1_).toNat = (v6_).toNat)) := hp0_N7_
        rcases hp0_N7_ with ⟨rfl, ha35_0_hp0_N7_⟩ | ⟨rfl, ha35_0_hp0_N7_⟩
        · skip
          have hq1_ := ha35_0_hp0_N7_
          rw [hfta_, ← hwx_] at hq1_
          show zW l m_Sorts_residueOf (zn Mz + 0, zw Mz + 0) Mz 38 [some (.ref (d_ + 12)), some (.int (Int32.ofInt a0_)), some (.int (Int32.ofInt a1_)), some (.int (Int32.ofInt v1_)), some (.int (Int32.ofInt u2_)), some (.int (Int32.ofInt v6_))] [.int (Int32.ofInt 1)] _
          refine zr_if_eq (pc := 38) (tgt := 83) ⟨(by decide), (by decide)⟩ (by decide) (zdal_p dlB_Sorts_residueOf_31 (i := 19) rfl) (fun hc_38 => ?_) (fun hc_38 => ?_)
          · skip
            exact absurd hc_38 (by decide)
          · skip
            refine zw_iload_n (pc := 41) (n := 3) (x := Int32.ofInt v1_) rfl (zdal_p dlB_Sorts_residueOf_31 (i := 20) rfl) ?_
            refine zw_aload_n (pc := 42) (n := 0) (x := (d_ + 12)) rfl (zdal_p dlB_Sorts_residueOf_31 (i := 21) rfl) ?_
            refine zw_getF (pc := 43) f_Sorts_32 rfl ((hf.w hW).kr (o := 12) (by decide)) ((hf.w hW).lr (o := 12) (s := 0) (r := 1) (by decide)) (zdal_p dlB_Sorts_residueOf_31 (i := 22) rfl) ?_
            refine zw_iload (pc := 46) (i := 5) (x := Int32.ofInt v6_) rfl (zdal_p dlB_Sorts_residueOf_31 (i := 23) rfl) ?_
            refine zk_callV hf.x (pc := 48) [.int (Int32.ofInt v6_)] [.int (Int32.ofInt v1_)] l_Sorts_102 (u_Group_normOfG l d_ Mz (hf.w hW) v6_ hv6_a hv6_b T_ hT_ p0_ (show 0 ≤ v6_ by first | with_reducible assumption | assumption | omega) (show (v6_).toNat < 2 ^ gN T_ by exact hxb_.1)) rfl rfl ((hf.w hW).kr (o := 1) (by decide)) (by decide) (by decide) (Nat.le_of_ble_eq_true rfl) (zdal_p dlB_Sorts_residueOf_32 (i := 0) rfl) ?_
            rintro _ N9_ ⟨v10_, rfl, ⟨hv10_a, hv10_b⟩, hsN9_, ⟨hp0_N9_, hp1_N9_, hp2_N9_⟩⟩
            obtain rfl := hsN9_.eq.symm
            show zW l m_Sorts_residueOf (zn Mz + 0, zw Mz + 0) Mz 51 [some (.ref (d_ + 12)), some (.int (Int32.ofInt a0_)), some (.int (Int32.ofInt a1_)), some (.int (Int32.ofInt v1_)), some (.int (Int32.ofInt u2_)), some (.int (Int32.ofInt v6_))] [.int (Int32.ofInt v10_), .int (Int32.ofInt v1_)] _
            have hnm_ := hp0_N9_
            rw [← hwx_] at hnm_
            refine zr_callS hf.x (pc := 51) [.int (Int32.ofInt v1_), .int (Int32.ofInt v10_)] [] l_Sorts_96 (u_T_isPart l d_ Mz (hf.w hW) v1_ hv1_a hv1_b v10_ hv10_a hv10_b (show 0 ≤ v1_ by first | with_reducible assumption | assumption | omega) (show v1_ < 2147483648 by first | with_reducible assumption | assumption | omega) (show 0 ≤ v10_ by first | with_reducible assumption | assumption | omega) (show v10_ < 2147483648 by first | with_reducible assumption | assumption | omega)) rfl rfl (by decide) (Nat.le_of_ble_eq_true rfl) (zdal_p dlB_Sorts_residueOf_32 (i := 1) rfl) ?_
            rintro _ N11_ ⟨v12_, rfl, ⟨hv12_a, hv12_b⟩, hsN11_, hp0_N11_⟩
            obtain rfl := hsN11_.eq.symm
            replace hp0_N11_ : ((v12_ = 1 ∧ (v1_).toNat &&& (v10_).toNat = (v1_).toNat) ∨ (v12_ = 0 ∧ ¬ (v1_).toNat &&& (v10_).toNat = (v1_).toNat)) := hp0_N11_
            rcases hp0_N11_ with ⟨rfl, ha51_0_hp0_N11_⟩ | ⟨rfl, ha51_0_hp0_N11_⟩
            · skip
              have hq2_ := ha51_0_hp0_N11_
              rw [hfta_, hnm_, Int.toNat_natCast] at hq2_
              have hq3_ := (gNb_p hfba_.1).mp hq2_
              show zW l m_Sorts_residueOf (zn Mz + 0, zw Mz + 0) Mz 54 [some (.ref (d_ + 12)), some (.int (Int32.ofInt a0_)), some (.int (Int32.ofInt a1_)), some (.int (Int32.ofInt v1_)), some (.int (Int32.ofInt u2_)), some (.int (Int32.ofInt v6_))] [.int (Int32.ofInt 1)] _
              refine zr_if_eq (pc := 54) (tgt := 83) ⟨(by decide), (by decide)⟩ (by decide) (zdal_p dlB_Sorts_residueOf_32 (i := 2) rfl) (fun hc_54 => ?_) (fun hc_54 => ?_)
              · skip
                exact absurd hc_54 (by decide)
              · skip
                refine zw_iload (pc := 57) (i := 5) (x := Int32.ofInt v6_) rfl (zdal_p dlB_Sorts_residueOf_32 (i := 3) rfl) ?_
                refine zr_callS hf.x (pc := 59) [.int (Int32.ofInt v6_)] [] l_Sorts_78 (u_Integer_bitCount l d_ Mz (hf.w hW) v6_ hv6_a hv6_b (show 0 ≤ v6_ by first | with_reducible assumption | assumption | omega)) rfl rfl (by decide) (Nat.le_of_ble_eq_true rfl) (zdal_p dlB_Sorts_residueOf_32 (i := 4) rfl) ?_
                rintro _ N13_ ⟨v14_, rfl, ⟨hv14_a, hv14_b⟩, hsN13_, ⟨hp0_N13_, hp1_N13_, hp2_N13_⟩⟩
                obtain rfl := hsN13_.eq.symm
                show zW l m_Sorts_residueOf (zn Mz + 0, zw Mz + 0) Mz 62 [some (.ref (d_ + 12)), some (.int (Int32.ofInt a0_)), some (.int (Int32.ofInt a1_)), some (.int (Int32.ofInt v1_)), some (.int (Int32.ofInt u2_)), some (.int (Int32.ofInt v6_))] [.int (Int32.ofInt v14_)] _
                have hb1_ := hp0_N13_
                rw [kbc_g (by omega), ← hwx_] at hb1_
                have hr1_ := gcb_r hO_ hmx_.2
                rw [← hwx_] at hr1_
                refine zw_iload_n (pc := 62) (n := 3) (x := Int32.ofInt v1_) rfl (zdal_p dlB_Sorts_residueOf_32 (i := 5) rfl) ?_
                refine zr_callS hf.x (pc := 63) [.int (Int32.ofInt v1_)] [.int (Int32.ofInt v14_)] l_Sorts_78 (u_Integer_bitCount l d_ Mz (hf.w hW) v1_ hv1_a hv1_b (show 0 ≤ v1_ by first | with_reducible assumption | assumption | omega)) rfl rfl (by decide) (Nat.le_of_ble_eq_true rfl) (zdal_p dlB_Sorts_residueOf_32 (i := 6) rfl) ?_
                rintro _ N15_ ⟨v16_, rfl, ⟨hv16_a, hv16_b⟩, hsN15_, ⟨hp0_N15_, hp1_N15_, hp2_N15_⟩⟩
                obtain rfl := hsN15_.eq.symm
                show zW l m_Sorts_residueOf (zn Mz + 0, zw Mz + 0) Mz 66 [some (.ref (d_ + 12)), some (.int (Int32.ofInt a0_)), some (.int (Int32.ofInt a1_)), some (.int (Int32.ofInt v1_)), some (.int (Int32.ofInt u2_)), some (.int (Int32.ofInt v6_))] [.int (Int32.ofInt v16_), .int (Int32.ofInt v14_)] _
                have hb2_ := hp0_N15_
                rw [kbc_g (by omega), hfta_] at hb2_
                have hr2_ := gcb_r hO_ hfma_
                refine zw_iload_n (pc := 66) (n := 2) (x := Int32.ofInt a1_) rfl (zdal_p dlB_Sorts_residueOf_32 (i := 7) rfl) ?_
                refine zr_callS hf.x (pc := 67) [.int (Int32.ofInt v14_), .int (Int32.ofInt v16_), .int (Int32.ofInt a1_)] [] l_Sorts_105 (u_Sorts_isPowerApartG l d_ Mz (hf.w hW) v14_ hv14_a hv14_b v16_ hv16_a hv16_b a1_ ha1_a ha1_b (show 1 ≤ v14_ by first | with_reducible assumption | assumption | omega) (show v14_ ≤ 24 by first | with_reducible assumption | assumption | omega) (show 1 ≤ v16_ by first | with_reducible assumption | assumption | omega) (show v16_ ≤ 24 by first | with_reducible assumption | assumption | omega) (show (a1_ = 2 ∨ a1_ = 3 ∨ a1_ = 5) by first | with_reducible assumption | assumption | omega)) rfl rfl (by decide) (Nat.le_of_ble_eq_true rfl) (zdal_p dlB_Sorts_residueOf_32 (i := 8) rfl) ?_
                rintro _ N17_ ⟨v18_, rfl, ⟨hv18_a, hv18_b⟩, hsN17_, hp0_N17_⟩
                obtain rfl := hsN17_.eq.symm
                replace hp0_N17_ : ((v18_ = 1 ∧ gPwr (a1_).toNat (v14_).toNat (v16_).toNat) ∨ (v18_ = 0 ∧ ¬ gPwr (a1_).toNat (v14_).toNat (v16_).toNat)) := hp0_N17_
                rcases hp0_N17_ with ⟨rfl, ha67_0_hp0_N17_⟩ | ⟨rfl, ha67_0_hp0_N17_⟩
                · skip
                  have hq4_ := ha67_0_hp0_N17_
                  rw [hb1_, hb2_, Int.toNat_natCast, Int.toNat_natCast] at hq4_
                  have hRe_ := zRs_f hO_ hLs_ hR_ (by omega) (by omega) hnc_ ⟨hq1_, hq4_, hq3_⟩
                  show zW l m_Sorts_residueOf (zn Mz + 0, zw Mz + 0) Mz 70 [some (.ref (d_ + 12)), some (.int (Int32.ofInt a0_)), some (.int (Int32.ofInt a1_)), some (.int (Int32.ofInt v1_)), some (.int (Int32.ofInt u2_)), some (.int (Int32.ofInt v6_))] [.int (Int32.ofInt 1)] _
                  refine zr_if_eq (pc := 70) (tgt := 83) ⟨(by decide), (by decide)⟩ (by decide) (zdal_p dlB_Sorts_residueOf_32 (i := 9) rfl) (fun hc_70 => ?_) (fun hc_70 => ?_)
                  · skip
                    exact absurd hc_70 (by decide)
                  · skip
                    refine zw_aload_n (pc := 73) (n := 0) (x := (d_ + 12)) rfl (zdal_p dlB_Sorts_residueOf_32 (i := 10) rfl) ?_
                    refine zw_getF (pc := 74) f_Sorts_20 rfl ((hf.w hW).kr (o := 12) (by decide)) ((hf.w hW).lr (o := 12) (s := 2) (r := 15) (by decide)) (zdal_p dlB_Sorts_residueOf_32 (i := 11) rfl) ?_
                    refine zw_iload (pc := 77) (i := 4) (x := Int32.ofInt u2_) rfl (zdal_p dlB_Sorts_residueOf_32 (i := 12) rfl) ?_
                    have hso_ := p2_.2 (u2_).toNat (by omega)
                    refine zk_at hf.x (pc := 79) l_Sorts_49 ((hf.w hW).kr (o := 15) (by decide)) ((hf.w hW).lr (o := 15) (s := 0) (r := 16) (by decide)) ((hf.w hW).rr (o := 16) (t := 1) (n := 35) (by decide)) (by decide) (by omega) (by omega) (by decide) (Nat.le_of_ble_eq_true rfl) (zdal_p dlB_Sorts_residueOf_32 (i := 13) rfl) (fun v19_ hv19_ hv19_a hv19_b => ?_)
                    have hv_ := hv19_
                    exact zk_iret (pc := 82) (ty := .int) rfl rfl ⟨by omega, by omega⟩ hf (show zfRe T_ (a0_).toNat (a1_).toNat v19_ by exact ⟨R_, hR_, by rw [← hRe_, hv_]; exact hso_⟩) (zdal_p dlB_Sorts_residueOf_32 (i := 14) rfl)
                · skip
                  have hn4_ := ha67_0_hp0_N17_
                  rw [hb1_, hb2_, Int.toNat_natCast, Int.toNat_natCast] at hn4_
                  show zW l m_Sorts_residueOf (zn Mz + 0, zw Mz + 0) Mz 70 [some (.ref (d_ + 12)), some (.int (Int32.ofInt a0_)), some (.int (Int32.ofInt a1_)), some (.int (Int32.ofInt v1_)), some (.int (Int32.ofInt u2_)), some (.int (Int32.ofInt v6_))] [.int (Int32.ofInt 0)] _
                  refine zr_if_eq (pc := 70) (tgt := 83) ⟨(by decide), (by decide)⟩ (by decide) (zdal_p dlB_Sorts_residueOf_32 (i := 9) rfl) (fun hc_70 => ?_) (fun hc_70 => ?_)
                  · skip
                    refine zr_iinc (pc := 83) (i := 4) (a := u2_) (n := 1) (L2 := [some (.ref (d_ + 12)), some (.int (Int32.ofInt a0_)), some (.int (Int32.ofInt a1_)), some (.int (Int32.ofInt v1_)), some (.int (Int32.ofInt (u2_ + 1))), some (.int (Int32.ofInt v6_))]) rfl (by decide) rfl d_Sorts_residueOf_83 ?_
                    refine zw_goto (pc := 86) (tgt := 12) (by decide) d_Sorts_residueOf_86 ?_
                    have hnn_ : (∀ t_ : Nat, (t_ : Int) < (u2_ + 1) → ¬ gCnd T_ (gFn T_ (a0_).toNat) (a1_).toNat (zRw d_ 14 Mz t_).toNat) := zRs_s (C := gCnd T_ (gFn T_ (a0_).toNat) (a1_).toNat) hnc_ (by first | exact (fun q_ => hn1_ q_.1) | exact (fun q_ => hn3_ q_.2.2) | exact (fun q_ => hn4_ q_.2.1))
                    refine zW_le [some (.ref (d_ + 12)), some (.int (Int32.ofInt a0_)), some (.int (Int32.ofInt a1_)), some (.int (Int32.ofInt v1_)), some (.int (Int32.ofInt (u2_ + 1))), none] (⟨rfl, rfl, rfl, rfl, rfl, trivial⟩) ?_
                    exact ih_12 (u2_ + 1) (by omega) (by omega) (show 0 ≤ (u2_ + 1) by first | with_reducible assumption | assumption | omega) (show (u2_ + 1) ≤ ze Mz (d_ + 12) 6 by first | with_reducible assumption | assumption | omega) (show (∀ t_ : Nat, (t_ : Int) < (u2_ + 1) → ¬ gCnd T_ (gFn T_ (a0_).toNat) (a1_).toNat (zRw d_ 14 Mz t_).toNat) by exact hnn_) (by omega)
                  · skip
                    exact absurd hc_70 (by decide)
            · skip
              have hn2_ := ha51_0_hp0_N11_
              rw [hfta_, hnm_, Int.toNat_natCast] at hn2_
              have hn3_ := (fun z_ => hn2_ ((gNb_p hfba_.1).mpr z_))
              show zW l m_Sorts_residueOf (zn Mz + 0, zw Mz + 0) Mz 54 [some (.ref (d_ + 12)), some (.int (Int32.ofInt a0_)), some (.int (Int32.ofInt a1_)), some (.int (Int32.ofInt v1_)), some (.int (Int32.ofInt u2_)), some (.int (Int32.ofInt v6_))] [.int (Int32.ofInt 0)] _
              refine zr_if_eq (pc := 54) (tgt := 83) ⟨(by decide), (by decide)⟩ (by decide) (zdal_p dlB_Sorts_residueOf_32 (i := 2) rfl) (fun hc_54 => ?_) (fun hc_54 => ?_)
              · skip
                refine zr_iinc (pc := 83) (i := 4) (a := u2_) (n := 1) (L2 := [some (.ref (d_ + 12)), some (.int (Int32.ofInt a0_)), some (.int (Int32.ofInt a1_)), some (.int (Int32.ofInt v1_)), some (.int (Int32.ofInt (u2_ + 1))), some (.int (Int32.ofInt v6_))]) rfl (by decide) rfl d_Sorts_residueOf_83 ?_
                refine zw_goto (pc := 86) (tgt := 12) (by decide) d_Sorts_residueOf_86 ?_
                have hnn_ : (∀ t_ : Nat, (t_ : Int) < (u2_ + 1) → ¬ gCnd T_ (gFn T_ (a0_).toNat) (a1_).toNat (zRw d_ 14 Mz t_).toNat) := zRs_s (C := gCnd T_ (gFn T_ (a0_).toNat) (a1_).toNat) hnc_ (by first | exact (fun q_ => hn1_ q_.1) | exact (fun q_ => hn3_ q_.2.2) | exact (fun q_ => hn4_ q_.2.1))
                refine zW_le [some (.ref (d_ + 12)), some (.int (Int32.ofInt a0_)), some (.int (Int32.ofInt a1_)), some (.int (Int32.ofInt v1_)), some (.int (Int32.ofInt (u2_ + 1))), none] (⟨rfl, rfl, rfl, rfl, rfl, trivial⟩) ?_
                exact ih_12 (u2_ + 1) (by omega) (by omega) (show 0 ≤ (u2_ + 1) by first | with_reducible assumption | assumption | omega) (show (u2_ + 1) ≤ ze Mz (d_ + 12) 6 by first | with_reducible assumption | assumption | omega) (show (∀ t_ : Nat, (t_ : Int) < (u2_ + 1) → ¬ gCnd T_ (gFn T_ (a0_).toNat) (a1_).toNat (zRw d_ 14 Mz t_).toNat) by exact hnn_) (by omega)
              · skip
                exact absurd hc_54 (by decide)
        · skip
          have hn1_ := ha35_0_hp0_N7_
          rw [hfta_, ← hwx_] at hn1_
          show zW l m_Sorts_residueOf (zn Mz + 0, zw Mz + 0) Mz 38 [some (.ref (d_ + 12)), some (.int (Int32.ofInt a0_)), some (.int (Int32.ofInt a1_)), some (.int (Int32.ofInt v1_)), some (.int (Int32.ofInt u2_)), some (.int (Int32.ofInt v6_))] [.int (Int32.ofInt 0)] _
          refine zr_if_eq (pc := 38) (tgt := 83) ⟨(by decide), (by decide)⟩ (by decide) (zdal_p dlB_Sorts_residueOf_31 (i := 19) rfl) (fun hc_38 => ?_) (fun hc_38 => ?_)
          · skip
            refine zr_iinc (pc := 83) (i := 4) (a := u2_) (n := 1) (L2 := [some (.ref (d_ + 12)), some (.int (Int32.ofInt a0_)), some (.int (Int32.ofInt a1_)), some (.int (Int32.ofInt v1_)), some (.int (Int32.ofInt (u2_ + 1))), some (.int (Int32.ofInt v6_))]) rfl (by decide) rfl d_Sorts_residueOf_83 ?_
            refine zw_goto (pc := 86) (tgt := 12) (by decide) d_Sorts_residueOf_86 ?_
            have hnn_ : (∀ t_ : Nat, (t_ : Int) < (u2_ + 1) → ¬ gCnd T_ (gFn T_ (a0_).toNat) (a1_).toNat (zRw d_ 14 Mz t_).toNat) := zRs_s (C := gCnd T_ (gFn T_ (a0_).toNat) (a1_).toNat) hnc_ (by first | exact (fun q_ => hn1_ q_.1) | exact (fun q_ => hn3_ q_.2.2) | exact (fun q_ => hn4_ q_.2.1))
            refine zW_le [some (.ref (d_ + 12)), some (.int (Int32.ofInt a0_)), some (.int (Int32.ofInt a1_)), some (.int (Int32.ofInt v1_)), some (.int (Int32.ofInt (u2_ + 1))), none] (⟨rfl, rfl, rfl, rfl, rfl, trivial⟩) ?_
            exact ih_12 (u2_ + 1) (by omega) (by omega) (show 0 ≤ (u2_ + 1) by first | with_reducible assumption | assumption | omega) (show (u2_ + 1) ≤ ze Mz (d_ + 12) 6 by first | with_reducible assumption | assumption | omega) (show (∀ t_ : Nat, (t_ : Int) < (u2_ + 1) → ¬ gCnd T_ (gFn T_ (a0_).toNat) (a1_).toNat (zRw d_ 14 Mz t_).toNat) by exact hnn_) (by omega)
          · skip
            exact absurd hc_38 (by decide)
  exact lp_12 _ 0 (by decide) (by decide) (show 0 ≤ (0 : Int) by first | with_reducible assumption | assumption | omega) (show (0 : Int) ≤ ze Mz (d_ + 12) 6 by first | with_reducible assumption | assumption | omega) (show (∀ t_ : Nat, (t_ : Int) < (0 : Int) → ¬ gCnd T_ (gFn T_ (a0_).toNat) (a1_).toNat (zRw d_ 14 Mz t_).toNat) by exact fun t_ ht_ => absurd ht_ (by omega)) (Nat.lt_succ_self _)
set_option maxHeartbeats 4000000 in
theorem u_Sorts_blockOfG (l : Launch) (d_ : Nat) (Mz : zMem) (hW : zKW d_ Mz) (a0_ : Int) (ha0_a : -2147483648 ≤ a0_) (ha0_b : a0_ < 2147483648) (a1_ : Int) (ha1_a : -2147483648 ≤ a1_) (ha1_b : a1_ < 2147483648) (T_ : zGT) (hT_ : T_ ∈ gTabs) (hGr_ : gGr T_) (p0_ : zTt T_ d_ Mz) (p1_ : zFir T_ d_ Mz) (p2_ : zSbK T_ d_ Mz) (p3_ : 0 ≤ a0_) (p4_ : a0_ < ((gF T_).length : Int)) (p5_ : (a1_ = 2 ∨ a1_ = 3 ∨ a1_ = 5)) : zC l m_Sorts_blockOf 0 0 [.ref (d_ + 12), .int (Int32.ofInt a0_), .int (Int32.ofInt a1_)] Mz (zqcI d_ [] [] [] [] Mz (fun v N => v = ((zbq (zBlk T_ (a0_).toNat (a1_).toNat) (gF T_).length : Nat) : Int))) := by
  refine zC_of (L0 := [some (.ref (d_ + 12)), some (.int (Int32.ofInt a0_)), some (.int (Int32.ofInt a1_)), none, none, none]) md_Sorts_blockOf (Nat.le_of_ble_eq_true rfl) rfl ?_ zQ0
  have hf : zFc d_ [] [] [] [] Mz Mz := zFc.rf
  have r_D12_7 := ze_r Mz (d_ + 12) 7
  have hO_ := gTabs_ok T_ hT_
  have hG_ := hO_.1
  have hn24_ := hG_.2.1
  have hn1_ := hG_.1
  have hsz_ := p0_.1
  have hfl_ := p1_.1
  obtain ⟨⟨hF1_, hF27_⟩, hAr_⟩ := id (gT_zTA hT_)
  refine zw_aload_n (pc := 0) (n := 0) (x := (d_ + 12)) rfl (zdal_p dlB_Sorts_blockOf_35 (i := 0) rfl) ?_
  refine zw_iload_n (pc := 1) (n := 1) (x := Int32.ofInt a0_) rfl (zdal_p dlB_Sorts_blockOf_35 (i := 1) rfl) ?_
  refine zw_iload_n (pc := 2) (n := 2) (x := Int32.ofInt a1_) rfl (zdal_p dlB_Sorts_blockOf_35 (i := 2) rfl) ?_
  refine zk_callV hf.x (pc := 3) [.int (Int32.ofInt a0_), .int (Int32.ofInt a1_)] [] l_Sorts_109 (u_Sorts_residueOfG l d_ Mz (hf.w hW) a0_ ha0_a ha0_b a1_ ha1_a ha1_b T_ hT_ hGr_ p0_ p1_ p2_ (show 0 ≤ a0_ by first | with_reducible assumption | assumption | omega) (show a0_ < ((gF T_).length : Int) by first | with_reducible assumption | assumption | omega) (show (a1_ = 2 ∨ a1_ = 3 ∨ a1_ = 5) by first | with_reducible assumption | assumption | omega)) rfl rfl ((hf.w hW).kr (o := 12) (by decide)) (by decide) (by decide) (Nat.le_of_ble_eq_true rfl) (zdal_p dlB_Sorts_blockOf_35 (i := 3) rfl) ?_
  rintro _ N1_ ⟨v2_, rfl, ⟨hv2_a, hv2_b⟩, hsN1_, hp0_N1_⟩
  obtain rfl := hsN1_.eq.symm
  replace hp0_N1_ : zfRe T_ (a0_).toNat (a1_).toNat v2_ := hp0_N1_
  show zW l m_Sorts_blockOf (zn Mz + 0, zw Mz + 0) Mz 6 [some (.ref (d_ + 12)), some (.int (Int32.ofInt a0_)), some (.int (Int32.ofInt a1_)), none, none, none] [.int (Int32.ofInt v2_)] _
  have hre_ := hp0_N1_
  refine zw_istore_n (pc := 6) (i := 3) (L2 := [some (.ref (d_ + 12)), some (.int (Int32.ofInt a0_)), some (.int (Int32.ofInt a1_)), some (.int (Int32.ofInt v2_)), none, none]) rfl (by decide) rfl (zdal_p dlB_Sorts_blockOf_35 (i := 4) rfl) ?_
  refine zw_iconst (pc := 7) (v := Int32.ofInt 0) (by decide) (zdal_p dlB_Sorts_blockOf_35 (i := 5) rfl) ?_
  refine zw_istore (pc := 8) (i := 4) (L2 := [some (.ref (d_ + 12)), some (.int (Int32.ofInt a0_)), some (.int (Int32.ofInt a1_)), some (.int (Int32.ofInt v2_)), some (.int (Int32.ofInt 0)), none]) (by decide) rfl (zdal_p dlB_Sorts_blockOf_35 (i := 6) rfl) ?_
  refine zw_iconst (pc := 10) (v := Int32.ofInt 0) (by decide) (zdal_p dlB_Sorts_blockOf_35 (i := 7) rfl) ?_
  refine zw_istore (pc := 11) (i := 5) (L2 := [some (.ref (d_ + 12)), some (.int (Int32.ofInt a0_)), some (.int (Int32.ofInt a1_)), some (.int (Int32.ofInt v2_)), some (.int (Int32.ofInt 0)), some (.int (Int32.ofInt 0))]) (by decide) rfl (zdal_p dlB_Sorts_blockOf_35 (i := 8) rfl) ?_
  have lp_13 : ∀ (n : Nat) (u3_ : Int) (hu3_a : -2147483648 ≤ u3_) (hu3_b : u3_ < 2147483648) (u4_ : Int) (hu4_a : -2147483648 ≤ u4_) (hu4_b : u4_ < 2147483648) (i5_ : 0 ≤ u4_) (i6_ : u4_ ≤ ((gF T_).length : Int)) (i7_ : u3_ = ((zbq (zBlk T_ (a0_).toNat (a1_).toNat) (u4_).toNat : Nat) : Int)), (((gF T_).length : Int) - u4_).toNat < n → zW l m_Sorts_blockOf (zn Mz + 0, zw Mz + 0) Mz 13 [some (.ref (d_ + 12)), some (.int (Int32.ofInt a0_)), some (.int (Int32.ofInt a1_)), some (.int (Int32.ofInt v2_)), some (.int (Int32.ofInt u3_)), some (.int (Int32.ofInt u4_))] [] (zqcI d_ [] [] [] [] Mz (fun v N => v = ((zbq (zBlk T_ (a0_).toNat (a1_).toNat) (gF T_).length : Nat) : Int))) := by
    intro n
    induction n with
    | zero =>
      intro u3_ hu3_a hu3_b u4_ hu4_a hu4_b i5_ i6_ i7_ h0
      exact absurd h0 (Nat.not_lt_zero _)
    | succ n ih_13 =>
      intro u3_ hu3_a hu3_b u4_ hu4_a hu4_b i5_ i6_ i7_ hlt_13
      have hbi_ := (show u3_ = ((zbq (zBlk T_ (a0_).toNat (a1_).toNat) (u4_).toNat : Nat) : Int) by first | with_reducible assumption | assumption)
      refine zw_iload (pc := 13) (i := 5) (x := Int32.ofInt u4_) rfl (zdal_p dlB_Sorts_blockOf_35 (i := 9) rfl) ?_
      refine zw_aload_n (pc := 15) (n := 0) (x := (d_ + 12)) rfl (zdal_p dlB_Sorts_blockOf_35 (i := 10) rfl) ?_
      refine zk_getI (pc := 16) f_Sorts_83 rfl ((hf.w hW).kr (o := 12) (by decide)) (zdal_p dlB_Sorts_blockOf_35 (i := 11) rfl) ?_
      refine zr_icmp_ge (pc := 19) (tgt := 48) ⟨hu4_a, hu4_b⟩ ⟨(ze_r Mz (d_ + 12) 7).1, (ze_r Mz (d_ + 12) 7).2⟩ (by decide) (zdal_p dlB_Sorts_blockOf_35 (i := 12) rfl) (fun hc_19 => ?_) (fun hc_19 => ?_)
      · skip
        refine zw_iload (pc := 48) (i := 4) (x := Int32.ofInt u3_) rfl (zdal_p dlB_Sorts_blockOf_36 (i := 3) rfl) ?_
        exact zk_iret (pc := 50) (ty := .int) rfl rfl ⟨by omega, by omega⟩ hf (show u3_ = ((zbq (zBlk T_ (a0_).toNat (a1_).toNat) (gF T_).length : Nat) : Int) by rw [show (gF T_).length = (u4_).toNat by omega]; exact hbi_) (zdal_p dlB_Sorts_blockOf_36 (i := 4) rfl)
      · skip
        refine zw_aload_n (pc := 22) (n := 0) (x := (d_ + 12)) rfl (zdal_p dlB_Sorts_blockOf_35 (i := 13) rfl) ?_
        refine zw_iload (pc := 23) (i := 5) (x := Int32.ofInt u4_) rfl (zdal_p dlB_Sorts_blockOf_35 (i := 14) rfl) ?_
        refine zw_iload_n (pc := 25) (n := 2) (x := Int32.ofInt a1_) rfl (zdal_p dlB_Sorts_blockOf_35 (i := 15) rfl) ?_
        refine zk_callV hf.x (pc := 26) [.int (Int32.ofInt u4_), .int (Int32.ofInt a1_)] [] l_Sorts_109 (u_Sorts_residueOfG l d_ Mz (hf.w hW) u4_ hu4_a hu4_b a1_ ha1_a ha1_b T_ hT_ hGr_ p0_ p1_ p2_ (show 0 ≤ u4_ by first | with_reducible assumption | assumption | omega) (show u4_ < ((gF T_).length : Int) by first | with_reducible assumption | assumption | omega) (show (a1_ = 2 ∨ a1_ = 3 ∨ a1_ = 5) by first | with_reducible assumption | assumption | omega)) rfl rfl ((hf.w hW).kr (o := 12) (by decide)) (by decide) (by decide) (Nat.le_of_ble_eq_true rfl) (zdal_p dlB_Sorts_blockOf_35 (i := 16) rfl) ?_
        rintro _ N8_ ⟨v9_, rfl, ⟨hv9_a, hv9_b⟩, hsN8_, hp0_N8_⟩
        obtain rfl := hsN8_.eq.symm
        replace hp0_N8_ : zfRe T_ (u4_).toNat (a1_).toNat v9_ := hp0_N8_
        show zW l m_Sorts_blockOf (zn Mz + 0, zw Mz + 0) Mz 29 [some (.ref (d_ + 12)), some (.int (Int32.ofInt a0_)), some (.int (Int32.ofInt a1_)), some (.int (Int32.ofInt v2_)), some (.int (Int32.ofInt u3_)), some (.int (Int32.ofInt u4_))] [.int (Int32.ofInt v9_)] _
        have hrk_ := hp0_N8_
        have hbq_ := zBlk_q hO_ hrk_ hre_
        refine zw_iload_n (pc := 29) (n := 3) (x := Int32.ofInt v2_) rfl (zdal_p dlB_Sorts_blockOf_35 (i := 17) rfl) ?_
        refine zr_icmp_ne (pc := 30) (tgt := 42) ⟨hv9_a, hv9_b⟩ ⟨hv2_a, hv2_b⟩ (by decide) (zdal_p dlB_Sorts_blockOf_35 (i := 18) rfl) (fun hc_30 => ?_) (fun hc_30 => ?_)
        · skip
          refine zr_iinc (pc := 42) (i := 5) (a := u4_) (n := 1) (L2 := [some (.ref (d_ + 12)), some (.int (Int32.ofInt a0_)), some (.int (Int32.ofInt a1_)), some (.int (Int32.ofInt v2_)), some (.int (Int32.ofInt u3_)), some (.int (Int32.ofInt (u4_ + 1)))]) rfl (by decide) rfl (zdal_p dlB_Sorts_blockOf_36 (i := 1) rfl) ?_
          refine zw_goto (pc := 45) (tgt := 13) (by decide) (zdal_p dlB_Sorts_blockOf_36 (i := 2) rfl) ?_
          have hbn_ : u3_ = ((zbq (zBlk T_ (a0_).toNat (a1_).toNat) ((u4_ + 1)).toNat : Nat) : Int) := by first | exact zbq_1 (p := (zBlk T_ (a0_).toNat (a1_).toNat)) (by omega) (by omega) hbi_ (hbq_.mpr (by omega)) | exact zbq_0 (p := (zBlk T_ (a0_).toNat (a1_).toNat)) (by omega) hbi_ (fun q_ => absurd (hbq_.mp q_) (by omega))
          exact ih_13 u3_ hu3_a hu3_b (u4_ + 1) (by omega) (by omega) (show 0 ≤ (u4_ + 1) by first | with_reducible assumption | assumption | omega) (show (u4_ + 1) ≤ ((gF T_).length : Int) by first | with_reducible assumption | assumption | omega) (show u3_ = ((zbq (zBlk T_ (a0_).toNat (a1_).toNat) ((u4_ + 1)).toNat : Nat) : Int) by exact hbn_) (by omega)
        · skip
          refine zw_iload (pc := 33) (i := 4) (x := Int32.ofInt u3_) rfl (zdal_p dlB_Sorts_blockOf_35 (i := 19) rfl) ?_
          refine zw_iconst (pc := 35) (v := Int32.ofInt 1) (by decide) (zdal_p dlB_Sorts_blockOf_35 (i := 20) rfl) ?_
          refine zw_iload (pc := 36) (i := 5) (x := Int32.ofInt u4_) rfl (zdal_p dlB_Sorts_blockOf_35 (i := 21) rfl) ?_
          refine zr_ishl (pc := 38) (zdal_p dlB_Sorts_blockOf_35 (i := 22) rfl) ?_
          have hr10_ := zshl_r 1 u4_
          refine zr_ior (pc := 39) (zdal_p dlB_Sorts_blockOf_35 (i := 23) rfl) ?_
          have hr11_ := zor_r u3_ (zshl 1 u4_)
          refine zw_istore (pc := 40) (i := 4) (L2 := [some (.ref (d_ + 12)), some (.int (Int32.ofInt a0_)), some (.int (Int32.ofInt a1_)), some (.int (Int32.ofInt v2_)), some (.int (Int32.ofInt (zor u3_ (zshl 1 u4_)))), some (.int (Int32.ofInt u4_))]) (by decide) rfl (zdal_p dlB_Sorts_blockOf_36 (i := 0) rfl) ?_
          refine zr_iinc (pc := 42) (i := 5) (a := u4_) (n := 1) (L2 := [some (.ref (d_ + 12)), some (.int (Int32.ofInt a0_)), some (.int (Int32.ofInt a1_)), some (.int (Int32.ofInt v2_)), some (.int (Int32.ofInt (zor u3_ (zshl 1 u4_)))), some (.int (Int32.ofInt (u4_ + 1)))]) rfl (by decide) rfl (zdal_p dlB_Sorts_blockOf_36 (i := 1) rfl) ?_
          refine zw_goto (pc := 45) (tgt := 13) (by decide) (zdal_p dlB_Sorts_blockOf_36 (i := 2) rfl) ?_
          have hbn_ : (zor u3_ (zshl 1 u4_)) = ((zbq (zBlk T_ (a0_).toNat (a1_).toNat) ((u4_ + 1)).toNat : Nat) : Int) := by first | exact zbq_1 (p := (zBlk T_ (a0_).toNat (a1_).toNat)) (by omega) (by omega) hbi_ (hbq_.mpr (by omega)) | exact zbq_0 (p := (zBlk T_ (a0_).toNat (a1_).toNat)) (by omega) hbi_ (fun q_ => absurd (hbq_.mp q_) (by omega))
          exact ih_13 (zor u3_ (zshl 1 u4_)) (by omega) (by omega) (u4_ + 1) (by omega) (by omega) (show 0 ≤ (u4_ + 1) by first | with_reducible assumption | assumption | omega) (show (u4_ + 1) ≤ ((gF T_).length : Int) by first | with_reducible assumption | assumption | omega) (show (zor u3_ (zshl 1 u4_)) = ((zbq (zBlk T_ (a0_).toNat (a1_).toNat) ((u4_ + 1)).toNat : Nat) : Int) by exact hbn_) (by omega)
  exact lp_13 _ 0 (by decide) (by decide) 0 (by decide) (by decide) (show 0 ≤ (0 : Int) by first | with_reducible assumption | assumption | omega) (show (0 : Int) ≤ ((gF T_).length : Int) by first | with_reducible assumption | assumption | omega) (show (0 : Int) = ((zbq (zBlk T_ (a0_).toNat (a1_).toNat) ((0 : Int)).toNat : Nat) : Int) by rfl) (Nat.lt_succ_self _)
