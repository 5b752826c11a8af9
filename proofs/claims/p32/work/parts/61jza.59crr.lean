set_option maxHeartbeats 4000000 in
theorem c_M_isPrimeG (l : Launch) (Mz : zMem) (hW : zMt Mz) (a0_ : Int) (ha0_a : -2147483648 ≤ a0_) (ha0_b : a0_ < 2147483648) : zC l m_M_isPrime 0 0 [.int (Int32.ofInt a0_)] Mz (zpI [] [] Mz (fun v N => (((v = 1 ∧ (a0_ = 2 ∨ a0_ = 3 ∨ a0_ = 5)) ∨ (v = 0 ∧ ¬ (a0_ = 2 ∨ a0_ = 3 ∨ a0_ = 5)))))) := by
  refine zC_of (L0 := [some (.int (Int32.ofInt a0_))]) md_M_isPrime (Nat.le_of_ble_eq_true rfl) rfl ?_ zQ0
  have hf : zFr [] [] Mz Mz := zFr.rf
  refine zw_iload_n (pc := 0) (n := 0) (x := Int32.ofInt a0_) rfl (zdal_p dlD_M_isPrime_32 (i := 0) rfl) ?_
  refine zw_iconst (pc := 1) (v := Int32.ofInt 2) (by decide) (zdal_p dlD_M_isPrime_32 (i := 1) rfl) ?_
  refine zr_icmp_eq (pc := 2) (tgt := 15) ⟨ha0_a, ha0_b⟩ ⟨(by decide), (by decide)⟩ (by decide) (zdal_p dlD_M_isPrime_32 (i := 2) rfl) (fun hc_2 => ?_) (fun hc_2 => ?_)
  · skip
    refine zw_iconst (pc := 15) (v := Int32.ofInt 1) (by decide) d_M_isPrime_15 ?_
    refine zw_goto (pc := 16) (tgt := 20) (by decide) d_M_isPrime_16 ?_
    exact zr_iret (pc := 20) (ty := .boolean) rfl (z_narB (by omega)) ⟨by omega, by omega⟩ hf (show ((1 = 1 ∧ (a0_ = 2 ∨ a0_ = 3 ∨ a0_ = 5)) ∨ (1 = 0 ∧ ¬ (a0_ = 2 ∨ a0_ = 3 ∨ a0_ = 5))) from Or.inl (⟨(show 1 = 1 by first | with_reducible assumption | assumption | omega), (show (a0_ = 2 ∨ a0_ = 3 ∨ a0_ = 5) by first | with_reducible assumption | assumption | omega)⟩)) d_M_isPrime_20
  · skip
    refine zw_iload_n (pc := 5) (n := 0) (x := Int32.ofInt a0_) rfl (zdal_p dlD_M_isPrime_32 (i := 3) rfl) ?_
    refine zw_iconst (pc := 6) (v := Int32.ofInt 3) (by decide) (zdal_p dlD_M_isPrime_32 (i := 4) rfl) ?_
    refine zr_icmp_eq (pc := 7) (tgt := 15) ⟨ha0_a, ha0_b⟩ ⟨(by decide), (by decide)⟩ (by decide) (zdal_p dlD_M_isPrime_32 (i := 5) rfl) (fun hc_7 => ?_) (fun hc_7 => ?_)
    · skip
      refine zw_iconst (pc := 15) (v := Int32.ofInt 1) (by decide) d_M_isPrime_15 ?_
      refine zw_goto (pc := 16) (tgt := 20) (by decide) d_M_isPrime_16 ?_
      exact zr_iret (pc := 20) (ty := .boolean) rfl (z_narB (by omega)) ⟨by omega, by omega⟩ hf (show ((1 = 1 ∧ (a0_ = 2 ∨ a0_ = 3 ∨ a0_ = 5)) ∨ (1 = 0 ∧ ¬ (a0_ = 2 ∨ a0_ = 3 ∨ a0_ = 5))) from Or.inl (⟨(show 1 = 1 by first | with_reducible assumption | assumption | omega), (show (a0_ = 2 ∨ a0_ = 3 ∨ a0_ = 5) by first | with_reducible assumption | assumption | omega)⟩)) d_M_isPrime_20
    · skip
      refine zw_iload_n (pc := 10) (n := 0) (x := Int32.ofInt a0_) rfl (zdal_p dlD_M_isPrime_32 (i := 6) rfl) ?_
      refine zw_iconst (pc := 11) (v := Int32.ofInt 5) (by decide) (zdal_p dlD_M_isPrime_32 (i := 7) rfl) ?_
      refine zr_icmp_ne (pc := 12) (tgt := 19) ⟨ha0_a, ha0_b⟩ ⟨(by decide), (by decide)⟩ (by decide) (zdal_p dlD_M_isPrime_32 (i := 8) rfl) (fun hc_12 => ?_) (fun hc_12 => ?_)
      · skip
        refine zw_iconst (pc := 19) (v := Int32.ofInt 0) (by decide) (zdal_p dlD_M_isPrime_32 (i := 11) rfl) ?_
        exact zr_iret (pc := 20) (ty := .boolean) rfl (z_narB (by omega)) ⟨by omega, by omega⟩ hf (show ((0 = 1 ∧ (a0_ = 2 ∨ a0_ = 3 ∨ a0_ = 5)) ∨ (0 = 0 ∧ ¬ (a0_ = 2 ∨ a0_ = 3 ∨ a0_ = 5))) from Or.inr (⟨(show 0 = 0 by first | with_reducible assumption | assumption | omega), (show ¬ (a0_ = 2 ∨ a0_ = 3 ∨ a0_ = 5) by first | with_reducible assumption | assumption | omega)⟩)) d_M_isPrime_20
      · skip
        refine zw_iconst (pc := 15) (v := Int32.ofInt 1) (by decide) d_M_isPrime_15 ?_
        refine zw_goto (pc := 16) (tgt := 20) (by decide) d_M_isPrime_16 ?_
        exact zr_iret (pc := 20) (ty := .boolean) rfl (z_narB (by omega)) ⟨by omega, by omega⟩ hf (show ((1 = 1 ∧ (a0_ = 2 ∨ a0_ = 3 ∨ a0_ = 5)) ∨ (1 = 0 ∧ ¬ (a0_ = 2 ∨ a0_ = 3 ∨ a0_ = 5))) from Or.inl (⟨(show 1 = 1 by first | with_reducible assumption | assumption | omega), (show (a0_ = 2 ∨ a0_ = 3 ∨ a0_ = 5) by first | with_reducible assumption | assumption | omega)⟩)) d_M_isPrime_20
set_option maxHeartbeats 40000000 in
theorem c_M_residueOfG (l : Launch) (Mz : zMem) (hW : zMt Mz) (a0_ : Int) (ha0_a : -2147483648 ≤ a0_) (ha0_b : a0_ < 2147483648) (a1_ : Int) (ha1_a : -2147483648 ≤ a1_) (ha1_b : a1_ < 2147483648) (T : zGT) (hO : gOK T) (hTt : T ∈ gTabs) (hGr_ : gGr T) (p0_ : zGB T Mz) (p1_ : 0 ≤ a0_) (p2_ : a0_ < ze Mz 81 26) (p3_ : 2 ≤ a1_) (p4_ : (a1_ = 2 ∨ a1_ = 3 ∨ a1_ = 5)) : zC l m_M_residueOf 0 0 [.ref 81, .int (Int32.ofInt a0_), .int (Int32.ofInt a1_)] Mz (zpI [] [] Mz (fun v N => zfRe T (a0_).toNat (a1_).toNat v)) := by
  refine zC_of (L0 := [some (.ref 81), some (.int (Int32.ofInt a0_)), some (.int (Int32.ofInt a1_)), none, none, none, none, none, none]) md_M_residueOf (Nat.le_of_ble_eq_true rfl) rfl ?_ zQ0
  have hf : zFr [] [] Mz Mz := zFr.rf
  have r_20 := ze_r Mz 81 20
  have r_25 := ze_r Mz 81 25
  have r_26 := ze_r Mz 81 26
  have hG := hO.1
  have g24 := hG.2.1
  have g1 := hG.1
  have dv0 : zTab T Mz := p0_.1
  have dv1 : zB 85 144 0 5 Mz := p0_.2.1
  have dv2 : zJX T Mz := p0_.2.2.1
  have dv3 : zFirs T Mz := p0_.2.2.2.1
  have dv4 : zSSm T Mz := p0_.2.2.2.2.1
  have dv5 : zGD Mz := zGB.d hO p0_
  have gb := dv5.1
  have gn := dv0.1
  have hfl_ := dv3.1
  have hsz_ := dv0.1
  have hjx_ := dv2
  have hj25_ := hjx_.1.1
  have hEn_ := zJX.en hO hjx_
  have hfm0_ := gFn_m (T := T) (i := (a0_).toNat) (by omega)
  have hfma_ := (hO.2.2.1.2.1 _ hfm0_).1
  have hfba_ := gS_b hO hfma_
  obtain ⟨R_, hR_⟩ := gRs_ex (p := (a1_).toNat) hTt hGr_ hfm0_ (by omega)
  obtain ⟨hHn_, hHd_⟩ := gRs_h hTt hGr_ hfm0_
  have hrF_ := gcb_r hO hfma_
  refine zw_aload_n (pc := 0) (n := 0) (x := 81) rfl (zdal_p dlD_M_residueOf_33 (i := 0) rfl) ?_
  refine zr_getF (r := 91) (hf.w hW) (pc := 1) f_M_44 rfl (zh_91 (hf.w hW)).1 (zdal_p dlD_M_residueOf_33 (i := 1) rfl) ?_
  refine zw_iload_n (pc := 4) (n := 1) (x := Int32.ofInt a0_) rfl (zdal_p dlD_M_residueOf_33 (i := 2) rfl) ?_
  refine zr_ialdn (pc := 5) (zh_91 (hf.w hW)).2 (by decide) (by omega) (by omega) (zdal_p dlD_M_residueOf_33 (i := 3) rfl) (fun v1_ hv1_ hv1_a hv1_b => ?_)
  have hf_x := dv3.g hO (e := a0_) (by omega) (by omega)
  refine zr_toI (show v1_ = ze Mz 91 (a0_).toNat by omega) ?_
  have ho_x := hf_x.1.o hO
  have hfw_ : (ze Mz 91 (a0_).toNat) = (((gFn T (a0_).toNat) : Nat) : Int) := dv3.2 _ (by omega)
  have hft_ : ((ze Mz 91 (a0_).toNat)).toNat = (gFn T (a0_).toNat) := by omega
  refine zw_istore_n (pc := 6) (i := 3) (L2 := [some (.ref 81), some (.int (Int32.ofInt a0_)), some (.int (Int32.ofInt a1_)), some (.int (Int32.ofInt (ze Mz 91 (a0_).toNat))), none, none, none, none, none]) rfl (by decide) rfl (zdal_p dlD_M_residueOf_33 (i := 4) rfl) ?_
  refine zw_iload_n (pc := 7) (n := 3) (x := Int32.ofInt (ze Mz 91 (a0_).toNat)) rfl (zdal_p dlD_M_residueOf_33 (i := 5) rfl) ?_
  refine zw_istore (pc := 8) (i := 4) (L2 := [some (.ref 81), some (.int (Int32.ofInt a0_)), some (.int (Int32.ofInt a1_)), some (.int (Int32.ofInt (ze Mz 91 (a0_).toNat))), some (.int (Int32.ofInt (ze Mz 91 (a0_).toNat))), none, none, none, none]) (by decide) rfl (zdal_p dlD_M_residueOf_33 (i := 6) rfl) ?_
  refine zw_iconst (pc := 10) (v := Int32.ofInt 0) (by decide) (zdal_p dlD_M_residueOf_33 (i := 7) rfl) ?_
  refine zw_istore (pc := 11) (i := 5) (L2 := [some (.ref 81), some (.int (Int32.ofInt a0_)), some (.int (Int32.ofInt a1_)), some (.int (Int32.ofInt (ze Mz 91 (a0_).toNat))), some (.int (Int32.ofInt (ze Mz 91 (a0_).toNat))), some (.int (Int32.ofInt 0)), none, none, none]) (by decide) rfl (zdal_p dlD_M_residueOf_33 (i := 8) rfl) ?_
  have lp_13 : ∀ (n : Nat) (u2_ : Int) (hu2_a : -2147483648 ≤ u2_) (hu2_b : u2_ < 2147483648) (u3_ : Int) (hu3_a : -2147483648 ≤ u3_) (hu3_b : u3_ < 2147483648) (i4_ : 0 ≤ u3_) (i5_ : gMe T u2_) (i6_ : zcb u2_ 31 ≤ zcb (ze Mz 91 (a0_).toNat) 31) (i7_ : zBsI T (gFn T (a0_).toNat) (a1_).toNat (fun k_ => (ze Mz 89 k_).toNat) u2_ u3_), (ze Mz 81 25 - u3_).toNat < n → zW l m_M_residueOf (zn Mz + 0, zw Mz + 0) Mz 13 [some (.ref 81), some (.int (Int32.ofInt a0_)), some (.int (Int32.ofInt a1_)), some (.int (Int32.ofInt (ze Mz 91 (a0_).toNat))), some (.int (Int32.ofInt u2_)), some (.int (Int32.ofInt u3_)), none, none, none] [] (zpI [] [] Mz (fun v N => zfRe T (a0_).toNat (a1_).toNat v)) := by
    intro n
    induction n with
    | zero =>
      intro u2_ hu2_a hu2_b u3_ hu3_a hu3_b i4_ i5_ i6_ i7_ h0
      exact absurd h0 (Nat.not_lt_zero _)
    | succ n ih_13 =>
      intro u2_ hu2_a hu2_b u3_ hu3_a hu3_b i4_ i5_ i6_ i7_ hlt_13
      have hbi_ := (show zBsI T (gFn T (a0_).toNat) (a1_).toNat (fun k_ => (ze Mz 89 k_).toNat) u2_ u3_ by first | with_reducible assumption | assumption)
      have hbi0_ := hbi_.1
      have hb4 := (show gMe T u2_ by first | with_reducible assumption | exact hf_x.1 | assumption).b hO
      refine zw_iload (pc := 13) (i := 5) (x := Int32.ofInt u3_) rfl (zdal_p dlD_M_residueOf_33 (i := 9) rfl) ?_
      refine zw_aload_n (pc := 15) (n := 0) (x := 81) rfl (zdal_p dlD_M_residueOf_33 (i := 10) rfl) ?_
      refine zr_getI0 hf hW (pc := 16) (by decide) f_M_220 rfl (zdal_p dlD_M_residueOf_33 (i := 11) rfl) ?_
      refine zr_icmp_ge (pc := 19) (tgt := 185) ⟨hu3_a, hu3_b⟩ ⟨(ze_r Mz 81 25).1, (ze_r Mz 81 25).2⟩ (by decide) (zdal_p dlD_M_residueOf_33 (i := 12) rfl) (fun hc_19 => ?_) (fun hc_19 => ?_)
      · skip
        refine zw_aload_n (pc := 185) (n := 0) (x := 81) rfl (zdal_p dlD_M_residueOf_36 (i := 23) rfl) ?_
        refine zw_iload (pc := 186) (i := 4) (x := Int32.ofInt u2_) rfl (zdal_p dlD_M_residueOf_37 (i := 0) rfl) ?_
        refine zr_callV (hf.w hW) hf.x (pc := 188) [.int (Int32.ofInt u2_)] [] l_M_411 (c_M_sortOfSetG l Mz (hf.w hW) u2_ hu2_a hu2_b T hO p0_ (show gMe T u2_ by first | with_reducible assumption | assumption)) rfl rfl rfl (by decide) (Nat.le_of_ble_eq_true rfl) (zdal_p dlD_M_residueOf_37 (i := 1) rfl) ?_
        rintro _ N8_ ⟨v9_, rfl, ⟨hv9_a, hv9_b⟩, hsN8_, hp0_N8_⟩
        obtain rfl := hsN8_.eq.symm
        replace hp0_N8_ : zSrt T (u2_).toNat v9_ := hp0_N8_
        show zW l m_M_residueOf (zn Mz + 0, zw Mz + 0) Mz 191 [some (.ref 81), some (.int (Int32.ofInt a0_)), some (.int (Int32.ofInt a1_)), some (.int (Int32.ofInt (ze Mz 91 (a0_).toNat))), some (.int (Int32.ofInt u2_)), some (.int (Int32.ofInt u3_)), none, none, none] [.int (Int32.ofInt v9_)] _
        exact zr_iret (pc := 191) (ty := .int) rfl rfl ⟨by omega, by omega⟩ hf (show zfRe T (a0_).toNat (a1_).toNat v9_ by have hbe_ := zBsI_e hO hEn_ hbi_ (by omega) hR_; exact ⟨R_, hR_, by rw [← hbe_]; assumption⟩) (zdal_p dlD_M_residueOf_37 (i := 2) rfl)
      · skip
        refine zw_aload_n (pc := 22) (n := 0) (x := 81) rfl (zdal_p dlD_M_residueOf_33 (i := 13) rfl) ?_
        refine zr_getF (r := 89) (hf.w hW) (pc := 23) f_M_38 rfl (zh_89 (hf.w hW)).1 (zdal_p dlD_M_residueOf_33 (i := 14) rfl) ?_
        refine zw_iload (pc := 26) (i := 5) (x := Int32.ofInt u3_) rfl (zdal_p dlD_M_residueOf_33 (i := 15) rfl) ?_
        refine zr_ialdn (pc := 28) (zh_89 (hf.w hW)).2 (by decide) (by omega) (by omega) (zdal_p dlD_M_residueOf_33 (i := 16) rfl) (fun v10_ hv10_ hv10_a hv10_b => ?_)
        have hs_x := dv2.g hO (e := u3_) (by omega) (by omega)
        refine zr_toI (show v10_ = ze Mz 89 (u3_).toNat by omega) ?_
        have hsm_ : (ze Mz 89 (u3_).toNat).toNat ∈ gS T := hEn_.1 (u3_).toNat (by omega)
        have hrs_ := gcb_r hO hsm_
        have hzz_ := zpa_n (b := (ze Mz 89 (u3_).toNat).toNat) (w := (gFn T (a0_).toNat)) (by omega) (by omega)
        rw [Int.toNat_of_nonneg hs_x.2.1, ← hfw_] at hzz_
        refine zw_iload_n (pc := 29) (n := 3) (x := Int32.ofInt (ze Mz 91 (a0_).toNat)) rfl (zdal_p dlD_M_residueOf_33 (i := 17) rfl) ?_
        refine zw_iconst (pc := 30) (v := Int32.ofInt (-1)) (by decide) (zdal_p dlD_M_residueOf_33 (i := 18) rfl) ?_
        refine zr_ixor (pc := 31) (zdal_p dlD_M_residueOf_33 (i := 19) rfl) ?_
        have hr11_ := zxor_r (ze Mz 91 (a0_).toNat) ((-1))
        refine zr_iand (pc := 32) (zdal_p dlD_M_residueOf_33 (i := 20) rfl) ?_
        have hr12_ := zand_r (ze Mz 89 (u3_).toNat) (zxor (ze Mz 91 (a0_).toNat) ((-1)))
        refine zr_if_ne (pc := 33) (tgt := 179) ⟨(by omega), (by omega)⟩ (by decide) (zdal_p dlD_M_residueOf_33 (i := 21) rfl) (fun hc_33 => ?_) (fun hc_33 => ?_)
        · skip
          refine zr_iinc (pc := 179) (i := 5) (a := u3_) (n := 1) (L2 := [some (.ref 81), some (.int (Int32.ofInt a0_)), some (.int (Int32.ofInt a1_)), some (.int (Int32.ofInt (ze Mz 91 (a0_).toNat))), some (.int (Int32.ofInt u2_)), some (.int (Int32.ofInt (u3_ + 1))), none, none, none]) rfl (by decide) rfl d_M_residueOf_179 ?_
          refine zw_goto (pc := 182) (tgt := 13) (by decide) d_M_residueOf_182 ?_
          have hbx_ : zBsI T (gFn T (a0_).toNat) (a1_).toNat (fun k_ => (ze Mz 89 k_).toNat) u2_ (u3_ + 1) := by first | exact zBsI_n hbi_ (by omega) rfl hsm_ hcd_ (by omega) | exact zBsI_k hbi_ (Or.inr (by first | omega | (dsimp only; omega))) | exact zBsI_k hbi_ (Or.inl (fun q_ => absurd (hzz_.mpr q_.1) (by omega))) | exact zBsI_k hbi_ (Or.inl (fun q_ => zIsI_n hii_ (by omega) q_.2))
          exact ih_13 u2_ hu2_a hu2_b (u3_ + 1) (by omega) (by omega) (show 0 ≤ (u3_ + 1) by first | with_reducible assumption | assumption | omega) (show gMe T u2_ by first | with_reducible assumption | exact hs_x.1 | assumption) (show zcb u2_ 31 ≤ zcb (ze Mz 91 (a0_).toNat) 31 by first | with_reducible assumption | assumption | omega) (show zBsI T (gFn T (a0_).toNat) (a1_).toNat (fun k_ => (ze Mz 89 k_).toNat) u2_ (u3_ + 1) by exact hbx_) (by omega)
        · skip
          refine zw_aload_n (pc := 36) (n := 0) (x := 81) rfl (zdal_p dlD_M_residueOf_33 (i := 22) rfl) ?_
          refine zr_getF (r := 89) (hf.w hW) (pc := 37) f_M_38 rfl (zh_89 (hf.w hW)).1 (zdal_p dlD_M_residueOf_33 (i := 23) rfl) ?_
          refine zw_iload (pc := 40) (i := 5) (x := Int32.ofInt u3_) rfl (zdal_p dlD_M_residueOf_34 (i := 0) rfl) ?_
          refine zr_ialdn (pc := 42) (zh_89 (hf.w hW)).2 (by decide) (by omega) (by omega) (zdal_p dlD_M_residueOf_34 (i := 1) rfl) (fun v13_ hv13_ hv13_a hv13_b => ?_)
          have hs_x := dv2.g hO (e := u3_) (by omega) (by omega)
          refine zr_toI (show v13_ = ze Mz 89 (u3_).toNat by omega) ?_
          have hp_x := hs_x.1.o hO
          refine zr_callS hf.x (pc := 43) [.int (Int32.ofInt (ze Mz 89 (u3_).toNat))] [] l_M_253 (c_M_ones l Mz (hf.w hW) (ze Mz 89 (u3_).toNat) (by omega) (by omega) (show 0 ≤ (ze Mz 89 (u3_).toNat) by first | with_reducible assumption | assumption | omega)) rfl rfl (by decide) (Nat.le_of_ble_eq_true rfl) (zdal_p dlD_M_residueOf_34 (i := 2) rfl) ?_
          rintro _ N14_ ⟨v15_, rfl, ⟨hv15_a, hv15_b⟩, hsN14_, ⟨hp0_N14_, hp1_N14_, hp2_N14_⟩⟩
          obtain rfl := hsN14_.eq.symm
          show zW l m_M_residueOf (zn Mz + 0, zw Mz + 0) Mz 46 [some (.ref 81), some (.int (Int32.ofInt a0_)), some (.int (Int32.ofInt a1_)), some (.int (Int32.ofInt (ze Mz 91 (a0_).toNat))), some (.int (Int32.ofInt u2_)), some (.int (Int32.ofInt u3_)), none, none, none] [.int (Int32.ofInt v15_)] _
          have hc1_ := hp0_N14_
          rw [← Int.toNat_of_nonneg (show 0 ≤ ze Mz 89 (u3_).toNat by omega), zcb_n (by omega) 31 (Nat.le_refl _)] at hc1_
          replace hc1_ : v15_ = ((gcb (ze Mz 89 (u3_).toNat).toNat : Nat) : Int) := hc1_
          refine zw_iload (pc := 46) (i := 4) (x := Int32.ofInt u2_) rfl (zdal_p dlD_M_residueOf_34 (i := 3) rfl) ?_
          refine zr_callS hf.x (pc := 48) [.int (Int32.ofInt u2_)] [.int (Int32.ofInt v15_)] l_M_253 (c_M_ones l Mz (hf.w hW) u2_ hu2_a hu2_b (show 0 ≤ u2_ by first | with_reducible assumption | assumption | omega)) rfl rfl (by decide) (Nat.le_of_ble_eq_true rfl) (zdal_p dlD_M_residueOf_34 (i := 4) rfl) ?_
          rintro _ N16_ ⟨v17_, rfl, ⟨hv17_a, hv17_b⟩, hsN16_, ⟨hp0_N16_, hp1_N16_, hp2_N16_⟩⟩
          obtain rfl := hsN16_.eq.symm
          show zW l m_M_residueOf (zn Mz + 0, zw Mz + 0) Mz 51 [some (.ref 81), some (.int (Int32.ofInt a0_)), some (.int (Int32.ofInt a1_)), some (.int (Int32.ofInt (ze Mz 91 (a0_).toNat))), some (.int (Int32.ofInt u2_)), some (.int (Int32.ofInt u3_)), none, none, none] [.int (Int32.ofInt v17_), .int (Int32.ofInt v15_)] _
          have hc2_ := hp0_N16_
          rw [← Int.toNat_of_nonneg (show 0 ≤ u2_ by omega), zcb_n (by omega) 31 (Nat.le_refl _)] at hc2_
          replace hc2_ : v17_ = ((gcb (u2_).toNat : Nat) : Int) := hc2_
          refine zr_icmp_lt (pc := 51) (tgt := 57) ⟨hv15_a, hv15_b⟩ ⟨hv17_a, hv17_b⟩ (by decide) (zdal_p dlD_M_residueOf_34 (i := 5) rfl) (fun hc_51 => ?_) (fun hc_51 => ?_)
          · skip
            refine zw_iload_n (pc := 57) (n := 3) (x := Int32.ofInt (ze Mz 91 (a0_).toNat)) rfl (zdal_p dlD_M_residueOf_34 (i := 7) rfl) ?_
            refine zr_callS hf.x (pc := 58) [.int (Int32.ofInt (ze Mz 91 (a0_).toNat))] [] l_M_253 (c_M_ones l Mz (hf.w hW) (ze Mz 91 (a0_).toNat) (by omega) (by omega) (show 0 ≤ (ze Mz 91 (a0_).toNat) by first | with_reducible assumption | assumption | omega)) rfl rfl (by decide) (Nat.le_of_ble_eq_true rfl) (zdal_p dlD_M_residueOf_34 (i := 8) rfl) ?_
            rintro _ N18_ ⟨v19_, rfl, ⟨hv19_a, hv19_b⟩, hsN18_, ⟨hp0_N18_, hp1_N18_, hp2_N18_⟩⟩
            obtain rfl := hsN18_.eq.symm
            show zW l m_M_residueOf (zn Mz + 0, zw Mz + 0) Mz 61 [some (.ref 81), some (.int (Int32.ofInt a0_)), some (.int (Int32.ofInt a1_)), some (.int (Int32.ofInt (ze Mz 91 (a0_).toNat))), some (.int (Int32.ofInt u2_)), some (.int (Int32.ofInt u3_)), none, none, none] [.int (Int32.ofInt v19_)] _
            have hc3_ := hp0_N18_
            rw [hfw_, zcb_n (by omega) 31 (Nat.le_refl _)] at hc3_
            replace hc3_ : v19_ = ((gcb (gFn T (a0_).toNat) : Nat) : Int) := hc3_
            refine zw_aload_n (pc := 61) (n := 0) (x := 81) rfl (zdal_p dlD_M_residueOf_34 (i := 9) rfl) ?_
            refine zr_getF (r := 89) (hf.w hW) (pc := 62) f_M_38 rfl (zh_89 (hf.w hW)).1 (zdal_p dlD_M_residueOf_34 (i := 10) rfl) ?_
            refine zw_iload (pc := 65) (i := 5) (x := Int32.ofInt u3_) rfl (zdal_p dlD_M_residueOf_34 (i := 11) rfl) ?_
            refine zr_ialdn (pc := 67) (zh_89 (hf.w hW)).2 (by decide) (by omega) (by omega) (zdal_p dlD_M_residueOf_34 (i := 12) rfl) (fun v20_ hv20_ hv20_a hv20_b => ?_)
            have hs_x := dv2.g hO (e := u3_) (by omega) (by omega)
            refine zr_toI (show v20_ = ze Mz 89 (u3_).toNat by omega) ?_
            refine zr_callS hf.x (pc := 68) [.int (Int32.ofInt (ze Mz 89 (u3_).toNat))] [.int (Int32.ofInt v19_)] l_M_253 (c_M_ones l Mz (hf.w hW) (ze Mz 89 (u3_).toNat) (by omega) (by omega) (show 0 ≤ (ze Mz 89 (u3_).toNat) by first | with_reducible assumption | assumption | omega)) rfl rfl (by decide) (Nat.le_of_ble_eq_true rfl) (zdal_p dlD_M_residueOf_34 (i := 13) rfl) ?_
            rintro _ N21_ ⟨v22_, rfl, ⟨hv22_a, hv22_b⟩, hsN21_, ⟨hp0_N21_, hp1_N21_, hp2_N21_⟩⟩
            obtain rfl := hsN21_.eq.symm
            show zW l m_M_residueOf (zn Mz + 0, zw Mz + 0) Mz 71 [some (.ref 81), some (.int (Int32.ofInt a0_)), some (.int (Int32.ofInt a1_)), some (.int (Int32.ofInt (ze Mz 91 (a0_).toNat))), some (.int (Int32.ofInt u2_)), some (.int (Int32.ofInt u3_)), none, none, none] [.int (Int32.ofInt v22_), .int (Int32.ofInt v19_)] _
            have hc4_ := hp0_N21_
            rw [← Int.toNat_of_nonneg (show 0 ≤ ze Mz 89 (u3_).toNat by omega), zcb_n (by omega) 31 (Nat.le_refl _)] at hc4_
            replace hc4_ : v22_ = ((gcb (ze Mz 89 (u3_).toNat).toNat : Nat) : Int) := hc4_
            have hq_x := zquo_p (a := v19_) (b := v22_) (by omega) (by omega) (by omega)
            refine zr_idiv (pc := 71) ⟨by omega, by omega⟩ (by omega) (zdal_p dlD_M_residueOf_34 (i := 14) rfl) ?_
            have hr23_ := zquo_r v19_ v22_
            have hqd_ := zquo_g hc3_ hc4_ hrF_.2 hrs_.1 hrs_.2
            have hdl_ : gcb (gFn T (a0_).toNat) / gcb (ze Mz 89 (u3_).toNat).toNat ≤ gcb (gFn T (a0_).toNat) := Nat.div_le_self _ _
            refine zw_istore (pc := 72) (i := 6) (L2 := [some (.ref 81), some (.int (Int32.ofInt a0_)), some (.int (Int32.ofInt a1_)), some (.int (Int32.ofInt (ze Mz 91 (a0_).toNat))), some (.int (Int32.ofInt u2_)), some (.int (Int32.ofInt u3_)), some (.int (Int32.ofInt (zquo v19_ v22_))), none, none]) (by decide) rfl (zdal_p dlD_M_residueOf_34 (i := 15) rfl) ?_
            have lp_74 : ∀ (n : Nat) (u24_ : Int) (hu24_a : -2147483648 ≤ u24_) (hu24_b : u24_ < 2147483648) (i25_ : 1 ≤ u24_) (i26_ : zDvI (a1_).toNat (gcb (gFn T (a0_).toNat) / gcb (ze Mz 89 (u3_).toNat).toNat) u24_), (u24_).toNat < n → zW l m_M_residueOf (zn Mz + 0, zw Mz + 0) Mz 74 [some (.ref 81), some (.int (Int32.ofInt a0_)), some (.int (Int32.ofInt a1_)), some (.int (Int32.ofInt (ze Mz 91 (a0_).toNat))), some (.int (Int32.ofInt u2_)), some (.int (Int32.ofInt u3_)), some (.int (Int32.ofInt u24_)), none, none] [] (zpI [] [] Mz (fun v N => zfRe T (a0_).toNat (a1_).toNat v)) := by
              intro n
              induction n with
              | zero =>
                intro u24_ hu24_a hu24_b i25_ i26_ h0
                exact absurd h0 (Nat.not_lt_zero _)
              | succ n ih_74 =>
                intro u24_ hu24_a hu24_b i25_ i26_ hlt_74
                have hdi_ := (show zDvI (a1_).toNat (gcb (gFn T (a0_).toNat) / gcb (ze Mz 89 (u3_).toNat).toNat) u24_ by first | with_reducible assumption | assumption)
                have hdi0_ := hdi_.1
                refine zw_iload (pc := 74) (i := 6) (x := Int32.ofInt u24_) rfl (zdal_p dlD_M_residueOf_34 (i := 16) rfl) ?_
                refine zw_iload_n (pc := 76) (n := 2) (x := Int32.ofInt a1_) rfl (zdal_p dlD_M_residueOf_34 (i := 17) rfl) ?_
                refine zr_irem (pc := 77) ⟨by omega, by omega⟩ (by omega) (zdal_p dlD_M_residueOf_34 (i := 18) rfl) ?_
                have hr27_ := zrem_r u24_ a1_
                have hrm_ : (zrem u24_ a1_) = zrem u24_ a1_ := rfl
                refine zr_if_ne (pc := 78) (tgt := 90) ⟨(by omega), (by omega)⟩ (by decide) (zdal_p dlD_M_residueOf_34 (i := 19) rfl) (fun hc_78 => ?_) (fun hc_78 => ?_)
                · skip
                  refine zw_iload (pc := 90) (i := 6) (x := Int32.ofInt u24_) rfl (zdal_p dlD_M_residueOf_35 (i := 1) rfl) ?_
                  refine zw_iconst (pc := 92) (v := Int32.ofInt 1) (by decide) (zdal_p dlD_M_residueOf_35 (i := 2) rfl) ?_
                  have j_101 : ∀ (u28_ : Int) (hu28_a : -2147483648 ≤ u28_) (hu28_b : u28_ < 2147483648) (hu28_z : u28_ = 0 ∨ u28_ = 1) (i29_ : ((u28_ = 1 ∧ gPwr (a1_).toNat (gcb (ze Mz 89 (u3_).toNat).toNat) (gcb (gFn T (a0_).toNat))) ∨ (u28_ = 0 ∧ ¬ gPwr (a1_).toNat (gcb (ze Mz 89 (u3_).toNat).toNat) (gcb (gFn T (a0_).toNat))))), zW l m_M_residueOf (zn Mz + 0, zw Mz + 0) Mz 101 [some (.ref 81), some (.int (Int32.ofInt a0_)), some (.int (Int32.ofInt a1_)), some (.int (Int32.ofInt (ze Mz 91 (a0_).toNat))), some (.int (Int32.ofInt u2_)), some (.int (Int32.ofInt u3_)), some (.int (Int32.ofInt u24_)), none, none] [.int (Int32.ofInt u28_)] (zpI [] [] Mz (fun v N => zfRe T (a0_).toNat (a1_).toNat v)) := by
                    intro u28_ hu28_a hu28_b hu28_z i29_
                    refine zw_istore (pc := 101) (i := 7) (L2 := [some (.ref 81), some (.int (Int32.ofInt a0_)), some (.int (Int32.ofInt a1_)), some (.int (Int32.ofInt (ze Mz 91 (a0_).toNat))), some (.int (Int32.ofInt u2_)), some (.int (Int32.ofInt u3_)), some (.int (Int32.ofInt u24_)), some (.int (Int32.ofInt u28_)), none]) (by decide) rfl (zdal_p dlD_M_residueOf_35 (i := 7) rfl) ?_
                    refine zw_iconst (pc := 103) (v := Int32.ofInt 0) (by decide) (zdal_p dlD_M_residueOf_35 (i := 8) rfl) ?_
                    refine zw_istore (pc := 104) (i := 8) (L2 := [some (.ref 81), some (.int (Int32.ofInt a0_)), some (.int (Int32.ofInt a1_)), some (.int (Int32.ofInt (ze Mz 91 (a0_).toNat))), some (.int (Int32.ofInt u2_)), some (.int (Int32.ofInt u3_)), some (.int (Int32.ofInt u24_)), some (.int (Int32.ofInt u28_)), some (.int (Int32.ofInt 0))]) (by decide) rfl (zdal_p dlD_M_residueOf_35 (i := 9) rfl) ?_
                    have lp_106 : ∀ (n : Nat) (u30_ : Int) (hu30_a : -2147483648 ≤ u30_) (hu30_b : u30_ < 2147483648) (hu30_z : u30_ = 0 ∨ u30_ = 1) (u31_ : Int) (hu31_a : -2147483648 ≤ u31_) (hu31_b : u31_ < 2147483648) (i32_ : 0 ≤ u31_) (i33_ : u31_ ≤ gN T) (i34_ : zIsI T (gFn T (a0_).toNat) (ze Mz 89 (u3_).toNat).toNat u30_ u31_ (gPwr (a1_).toNat (gcb (ze Mz 89 (u3_).toNat).toNat) (gcb (gFn T (a0_).toNat)))), (gN T - u31_).toNat < n → zW l m_M_residueOf (zn Mz + 0, zw Mz + 0) Mz 106 [some (.ref 81), some (.int (Int32.ofInt a0_)), some (.int (Int32.ofInt a1_)), some (.int (Int32.ofInt (ze Mz 91 (a0_).toNat))), some (.int (Int32.ofInt u2_)), some (.int (Int32.ofInt u3_)), some (.int (Int32.ofInt u24_)), some (.int (Int32.ofInt u30_)), some (.int (Int32.ofInt u31_))] [] (zpI [] [] Mz (fun v N => zfRe T (a0_).toNat (a1_).toNat v)) := by
                      intro n
                      induction n with
                      | zero =>
                        intro u30_ hu30_a hu30_b hu30_z u31_ hu31_a hu31_b i32_ i33_ i34_ h0
                        exact absurd h0 (Nat.not_lt_zero _)
                      | succ n ih_106 =>
                        intro u30_ hu30_a hu30_b hu30_z u31_ hu31_a hu31_b i32_ i33_ i34_ hlt_106
                        have hii_ := (show zIsI T (gFn T (a0_).toNat) (ze Mz 89 (u3_).toNat).toNat u30_ u31_ (gPwr (a1_).toNat (gcb (ze Mz 89 (u3_).toNat).toNat) (gcb (gFn T (a0_).toNat))) by first | with_reducible assumption | assumption)
                        refine zw_iload (pc := 106) (i := 8) (x := Int32.ofInt u31_) rfl (zdal_p dlD_M_residueOf_35 (i := 10) rfl) ?_
                        refine zw_aload_n (pc := 108) (n := 0) (x := 81) rfl (zdal_p dlD_M_residueOf_35 (i := 11) rfl) ?_
                        refine zr_getI0 hf hW (pc := 109) (by decide) f_M_196 rfl (zdal_p dlD_M_residueOf_35 (i := 12) rfl) ?_
                        refine zr_icmp_ge (pc := 112) (tgt := 165) ⟨hu31_a, hu31_b⟩ ⟨(ze_r Mz 81 20).1, (ze_r Mz 81 20).2⟩ (by decide) (zdal_p dlD_M_residueOf_35 (i := 13) rfl) (fun hc_112 => ?_) (fun hc_112 => ?_)
                        · skip
                          refine zw_iload (pc := 165) (i := 7) (x := Int32.ofInt u30_) rfl (zdal_p dlD_M_residueOf_36 (i := 14) rfl) ?_
                          refine zr_if_eq (pc := 167) (tgt := 179) ⟨hu30_a, hu30_b⟩ (by decide) (zdal_p dlD_M_residueOf_36 (i := 15) rfl) (fun hc_167 => ?_) (fun hc_167 => ?_)
                          · skip
                            refine zr_iinc (pc := 179) (i := 5) (a := u3_) (n := 1) (L2 := [some (.ref 81), some (.int (Int32.ofInt a0_)), some (.int (Int32.ofInt a1_)), some (.int (Int32.ofInt (ze Mz 91 (a0_).toNat))), some (.int (Int32.ofInt u2_)), some (.int (Int32.ofInt (u3_ + 1))), some (.int (Int32.ofInt u24_)), some (.int (Int32.ofInt u30_)), some (.int (Int32.ofInt u31_))]) rfl (by decide) rfl d_M_residueOf_179 ?_
                            refine zw_goto (pc := 182) (tgt := 13) (by decide) d_M_residueOf_182 ?_
                            have hbx_ : zBsI T (gFn T (a0_).toNat) (a1_).toNat (fun k_ => (ze Mz 89 k_).toNat) u2_ (u3_ + 1) := by first | exact zBsI_n hbi_ (by omega) rfl hsm_ hcd_ (by omega) | exact zBsI_k hbi_ (Or.inr (by first | omega | (dsimp only; omega))) | exact zBsI_k hbi_ (Or.inl (fun q_ => absurd (hzz_.mpr q_.1) (by omega))) | exact zBsI_k hbi_ (Or.inl (fun q_ => zIsI_n hii_ (by omega) q_.2))
                            refine zW_le [some (.ref 81), some (.int (Int32.ofInt a0_)), some (.int (Int32.ofInt a1_)), some (.int (Int32.ofInt (ze Mz 91 (a0_).toNat))), some (.int (Int32.ofInt u2_)), some (.int (Int32.ofInt (u3_ + 1))), none, none, none] (⟨rfl, rfl, rfl, rfl, rfl, rfl, trivial⟩) ?_
                            exact ih_13 u2_ hu2_a hu2_b (u3_ + 1) (by omega) (by omega) (show 0 ≤ (u3_ + 1) by first | with_reducible assumption | assumption | omega) (show gMe T u2_ by first | with_reducible assumption | exact hs_x.1 | assumption) (show zcb u2_ 31 ≤ zcb (ze Mz 91 (a0_).toNat) 31 by first | with_reducible assumption | assumption | omega) (show zBsI T (gFn T (a0_).toNat) (a1_).toNat (fun k_ => (ze Mz 89 k_).toNat) u2_ (u3_ + 1) by exact hbx_) (by omega)
                          · skip
                            have hpn_ := zIsI_1 hii_ (by omega) (by omega)
                            have hcd_ : gCnd T (gFn T (a0_).toNat) (a1_).toNat (ze Mz 89 (u3_).toNat).toNat := ⟨hzz_.mp (by omega), hpn_⟩
                            refine zw_aload_n (pc := 170) (n := 0) (x := 81) rfl (zdal_p dlD_M_residueOf_36 (i := 16) rfl) ?_
                            refine zr_getF (r := 89) (hf.w hW) (pc := 171) f_M_38 rfl (zh_89 (hf.w hW)).1 (zdal_p dlD_M_residueOf_36 (i := 17) rfl) ?_
                            refine zw_iload (pc := 174) (i := 5) (x := Int32.ofInt u3_) rfl (zdal_p dlD_M_residueOf_36 (i := 18) rfl) ?_
                            refine zr_ialdn (pc := 176) (zh_89 (hf.w hW)).2 (by decide) (by omega) (by omega) (zdal_p dlD_M_residueOf_36 (i := 19) rfl) (fun v35_ hv35_ hv35_a hv35_b => ?_)
                            have hs_x := dv2.g hO (e := u3_) (by omega) (by omega)
                            refine zr_toI (show v35_ = ze Mz 89 (u3_).toNat by omega) ?_
                            refine zw_istore (pc := 177) (i := 4) (L2 := [some (.ref 81), some (.int (Int32.ofInt a0_)), some (.int (Int32.ofInt a1_)), some (.int (Int32.ofInt (ze Mz 91 (a0_).toNat))), some (.int (Int32.ofInt (ze Mz 89 (u3_).toNat))), some (.int (Int32.ofInt u3_)), some (.int (Int32.ofInt u24_)), some (.int (Int32.ofInt u30_)), some (.int (Int32.ofInt u31_))]) (by decide) rfl (zdal_p dlD_M_residueOf_36 (i := 20) rfl) ?_
                            refine zr_iinc (pc := 179) (i := 5) (a := u3_) (n := 1) (L2 := [some (.ref 81), some (.int (Int32.ofInt a0_)), some (.int (Int32.ofInt a1_)), some (.int (Int32.ofInt (ze Mz 91 (a0_).toNat))), some (.int (Int32.ofInt (ze Mz 89 (u3_).toNat))), some (.int (Int32.ofInt (u3_ + 1))), some (.int (Int32.ofInt u24_)), some (.int (Int32.ofInt u30_)), some (.int (Int32.ofInt u31_))]) rfl (by decide) rfl d_M_residueOf_179 ?_
                            refine zw_goto (pc := 182) (tgt := 13) (by decide) d_M_residueOf_182 ?_
                            have hbx_ : zBsI T (gFn T (a0_).toNat) (a1_).toNat (fun k_ => (ze Mz 89 k_).toNat) (ze Mz 89 (u3_).toNat) (u3_ + 1) := by first | exact zBsI_n hbi_ (by omega) rfl hsm_ hcd_ (by omega) | exact zBsI_k hbi_ (Or.inr (by first | omega | (dsimp only; omega))) | exact zBsI_k hbi_ (Or.inl (fun q_ => absurd (hzz_.mpr q_.1) (by omega))) | exact zBsI_k hbi_ (Or.inl (fun q_ => zIsI_n hii_ (by omega) q_.2))
                            refine zW_le [some (.ref 81), some (.int (Int32.ofInt a0_)), some (.int (Int32.ofInt a1_)), some (.int (Int32.ofInt (ze Mz 91 (a0_).toNat))), some (.int (Int32.ofInt (ze Mz 89 (u3_).toNat))), some (.int (Int32.ofInt (u3_ + 1))), none, none, none] (⟨rfl, rfl, rfl, rfl, rfl, rfl, trivial⟩) ?_
                            exact ih_13 (ze Mz 89 (u3_).toNat) (by omega) (by omega) (u3_ + 1) (by omega) (by omega) (show 0 ≤ (u3_ + 1) by first | with_reducible assumption | assumption | omega) (show gMe T (ze Mz 89 (u3_).toNat) by first | with_reducible assumption | exact hs_x.1 | assumption) (show zcb (ze Mz 89 (u3_).toNat) 31 ≤ zcb (ze Mz 91 (a0_).toNat) 31 by first | with_reducible assumption | assumption | omega) (show zBsI T (gFn T (a0_).toNat) (a1_).toNat (fun k_ => (ze Mz 89 k_).toNat) (ze Mz 89 (u3_).toNat) (u3_ + 1) by exact hbx_) (by omega)
                        · skip
                          refine zw_iload (pc := 115) (i := 7) (x := Int32.ofInt u30_) rfl (zdal_p dlD_M_residueOf_35 (i := 14) rfl) ?_
                          refine zr_if_eq (pc := 117) (tgt := 165) ⟨hu30_a, hu30_b⟩ (by decide) (zdal_p dlD_M_residueOf_35 (i := 15) rfl) (fun hc_117 => ?_) (fun hc_117 => ?_)
                          · skip
                            refine zw_iload (pc := 165) (i := 7) (x := Int32.ofInt u30_) rfl (zdal_p dlD_M_residueOf_36 (i := 14) rfl) ?_
                            refine zr_if_eq (pc := 167) (tgt := 179) ⟨hu30_a, hu30_b⟩ (by decide) (zdal_p dlD_M_residueOf_36 (i := 15) rfl) (fun hc_167 => ?_) (fun hc_167 => ?_)
                            · skip
                              refine zr_iinc (pc := 179) (i := 5) (a := u3_) (n := 1) (L2 := [some (.ref 81), some (.int (Int32.ofInt a0_)), some (.int (Int32.ofInt a1_)), some (.int (Int32.ofInt (ze Mz 91 (a0_).toNat))), some (.int (Int32.ofInt u2_)), some (.int (Int32.ofInt (u3_ + 1))), some (.int (Int32.ofInt u24_)), some (.int (Int32.ofInt u30_)), some (.int (Int32.ofInt u31_))]) rfl (by decide) rfl d_M_residueOf_179 ?_
                              refine zw_goto (pc := 182) (tgt := 13) (by decide) d_M_residueOf_182 ?_
                              have hbx_ : zBsI T (gFn T (a0_).toNat) (a1_).toNat (fun k_ => (ze Mz 89 k_).toNat) u2_ (u3_ + 1) := by first | exact zBsI_n hbi_ (by omega) rfl hsm_ hcd_ (by omega) | exact zBsI_k hbi_ (Or.inr (by first | omega | (dsimp only; omega))) | exact zBsI_k hbi_ (Or.inl (fun q_ => absurd (hzz_.mpr q_.1) (by omega))) | exact zBsI_k hbi_ (Or.inl (fun q_ => zIsI_n hii_ (by omega) q_.2))
                              refine zW_le [some (.ref 81), some (.int (Int32.ofInt a0_)), some (.int (Int32.ofInt a1_)), some (.int (Int32.ofInt (ze Mz 91 (a0_).toNat))), some (.int (Int32.ofInt u2_)), some (.int (Int32.ofInt (u3_ + 1))), none, none, none] (⟨rfl, rfl, rfl, rfl, rfl, rfl, trivial⟩) ?_
                              exact ih_13 u2_ hu2_a hu2_b (u3_ + 1) (by omega) (by omega) (show 0 ≤ (u3_ + 1) by first | with_reducible assumption | assumption | omega) (show gMe T u2_ by first | with_reducible assumption | exact hs_x.1 | assumption) (show zcb u2_ 31 ≤ zcb (ze Mz 91 (a0_).toNat) 31 by first | with_reducible assumption | assumption | omega) (show zBsI T (gFn T (a0_).toNat) (a1_).toNat (fun k_ => (ze Mz 89 k_).toNat) u2_ (u3_ + 1) by exact hbx_) (by omega)
                            · skip
                              have hpn_ := zIsI_1 hii_ (by omega) (by omega)
                              have hcd_ : gCnd T (gFn T (a0_).toNat) (a1_).toNat (ze Mz 89 (u3_).toNat).toNat := ⟨hzz_.mp (by omega), hpn_⟩
                              refine zw_aload_n (pc := 170) (n := 0) (x := 81) rfl (zdal_p dlD_M_residueOf_36 (i := 16) rfl) ?_
                              refine zr_getF (r := 89) (hf.w hW) (pc := 171) f_M_38 rfl (zh_89 (hf.w hW)).1 (zdal_p dlD_M_residueOf_36 (i := 17) rfl) ?_
                              refine zw_iload (pc := 174) (i := 5) (x := Int32.ofInt u3_) rfl (zdal_p dlD_M_residueOf_36 (i := 18) rfl) ?_
                              refine zr_ialdn (pc := 176) (zh_89 (hf.w hW)).2 (by decide) (by omega) (by omega) (zdal_p dlD_M_residueOf_36 (i := 19) rfl) (fun v36_ hv36_ hv36_a hv36_b => ?_)
                              have hs_x := dv2.g hO (e := u3_) (by omega) (by omega)
                              refine zr_toI (show v36_ = ze Mz 89 (u3_).toNat by omega) ?_
                              refine zw_istore (pc := 177) (i := 4) (L2 := [some (.ref 81), some (.int (Int32.ofInt a0_)), some (.int (Int32.ofInt a1_)), some (.int (Int32.ofInt (ze Mz 91 (a0_).toNat))), some (.int (Int32.ofInt (ze Mz 89 (u3_).toNat))), some (.int (Int32.ofInt u3_)), some (.int (Int32.ofInt u24_)), some (.int (Int32.ofInt u30_)), some (.int (Int32.ofInt u31_))]) (by decide) rfl (zdal_p dlD_M_residueOf_36 (i := 20) rfl) ?_
                              refine zr_iinc (pc := 179) (i := 5) (a := u3_) (n := 1) (L2 := [some (.ref 81), some (.int (Int32.ofInt a0_)), some (.int (Int32.ofInt a1_)), some (.int (Int32.ofInt (ze Mz 91 (a0_).toNat))), some (.int (Int32.ofInt (ze Mz 89 (u3_).toNat))), some (.int (Int32.ofInt (u3_ + 1))), some (.int (Int32.ofInt u24_)), some (.int (Int32.ofInt u30_)), some (.int (Int32.ofInt u31_))]) rfl (by decide) rfl d_M_residueOf_179 ?_
                              refine zw_goto (pc := 182) (tgt := 13) (by decide) d_M_residueOf_182 ?_
                              have hbx_ : zBsI T (gFn T (a0_).toNat) (a1_).toNat (fun k_ => (ze Mz 89 k_).toNat) (ze Mz 89 (u3_).toNat) (u3_ + 1) := by first | exact zBsI_n hbi_ (by omega) rfl hsm_ hcd_ (by omega) | exact zBsI_k hbi_ (Or.inr (by first | omega | (dsimp only; omega))) | exact zBsI_k hbi_ (Or.inl (fun q_ => absurd (hzz_.mpr q_.1) (by omega))) | exact zBsI_k hbi_ (Or.inl (fun q_ => zIsI_n hii_ (by omega) q_.2))
                              refine zW_le [some (.ref 81), some (.int (Int32.ofInt a0_)), some (.int (Int32.ofInt a1_)), some (.int (Int32.ofInt (ze Mz 91 (a0_).toNat))), some (.int (Int32.ofInt (ze Mz 89 (u3_).toNat))), some (.int (Int32.ofInt (u3_ + 1))), none, none, none] (⟨rfl, rfl, rfl, rfl, rfl, rfl, trivial⟩) ?_
                              exact ih_13 (ze Mz 89 (u3_).toNat) (by omega) (by omega) (u3_ + 1) (by omega) (by omega) (show 0 ≤ (u3_ + 1) by first | with_reducible assumption | assumption | omega) (show gMe T (ze Mz 89 (u3_).toNat) by first | with_reducible assumption | exact hs_x.1 | assumption) (show zcb (ze Mz 89 (u3_).toNat) 31 ≤ zcb (ze Mz 91 (a0_).toNat) 31 by first | with_reducible assumption | assumption | omega) (show zBsI T (gFn T (a0_).toNat) (a1_).toNat (fun k_ => (ze Mz 89 k_).toNat) (ze Mz 89 (u3_).toNat) (u3_ + 1) by exact hbx_) (by omega)
                          · skip
                            refine zw_iload_n (pc := 120) (n := 3) (x := Int32.ofInt (ze Mz 91 (a0_).toNat)) rfl (zdal_p dlD_M_residueOf_35 (i := 16) rfl) ?_
                            refine zw_iload (pc := 121) (i := 8) (x := Int32.ofInt u31_) rfl (zdal_p dlD_M_residueOf_35 (i := 17) rfl) ?_
                            refine zr_callS hf.x (pc := 123) [.int (Int32.ofInt (ze Mz 91 (a0_).toNat)), .int (Int32.ofInt u31_)] [] l_M_213 (c_M_holds l Mz (hf.w hW) (ze Mz 91 (a0_).toNat) (by omega) (by omega) u31_ hu31_a hu31_b (show 0 ≤ (ze Mz 91 (a0_).toNat) by first | with_reducible assumption | assumption | omega) (show 0 ≤ u31_ by first | with_reducible assumption | assumption | omega) (show u31_ < 32 by first | with_reducible assumption | assumption | omega)) rfl rfl (by decide) (Nat.le_of_ble_eq_true rfl) (zdal_p dlD_M_residueOf_35 (i := 18) rfl) ?_
                            rintro _ N37_ ⟨v38_, rfl, ⟨hv38_a, hv38_b⟩, hsN37_, hp0_N37_⟩
                            obtain rfl := hsN37_.eq.symm
                            replace hp0_N37_ : ((v38_ = 1 ∧ zbt (ze Mz 91 (a0_).toNat) u31_) ∨ (v38_ = 0 ∧ ¬ zbt (ze Mz 91 (a0_).toNat) u31_)) := hp0_N37_
                            rcases hp0_N37_ with ⟨rfl, ha123_0_hp0_N37_⟩ | ⟨rfl, ha123_0_hp0_N37_⟩
                            · skip
                              have hbt_ := (zbt_n hfw_).mp ha123_0_hp0_N37_
                              show zW l m_M_residueOf (zn Mz + 0, zw Mz + 0) Mz 126 [some (.ref 81), some (.int (Int32.ofInt a0_)), some (.int (Int32.ofInt a1_)), some (.int (Int32.ofInt (ze Mz 91 (a0_).toNat))), some (.int (Int32.ofInt u2_)), some (.int (Int32.ofInt u3_)), some (.int (Int32.ofInt u24_)), some (.int (Int32.ofInt u30_)), some (.int (Int32.ofInt u31_))] [.int (Int32.ofInt 1)] _
                              refine zr_if_eq (pc := 126) (tgt := 152) ⟨(by decide), (by decide)⟩ (by decide) (zdal_p dlD_M_residueOf_35 (i := 19) rfl) (fun hc_126 => ?_) (fun hc_126 => ?_)
                              · skip
                                exact absurd hc_126 (by decide)
                              · skip
                                refine zw_aload_n (pc := 129) (n := 0) (x := 81) rfl (zdal_p dlD_M_residueOf_35 (i := 20) rfl) ?_
                                refine zw_aload_n (pc := 130) (n := 0) (x := 81) rfl (zdal_p dlD_M_residueOf_35 (i := 21) rfl) ?_
                                refine zr_getF (r := 89) (hf.w hW) (pc := 131) f_M_38 rfl (zh_89 (hf.w hW)).1 (zdal_p dlD_M_residueOf_35 (i := 22) rfl) ?_
                                refine zw_iload (pc := 134) (i := 5) (x := Int32.ofInt u3_) rfl (zdal_p dlD_M_residueOf_35 (i := 23) rfl) ?_
                                refine zr_ialdn (pc := 136) (zh_89 (hf.w hW)).2 (by decide) (by omega) (by omega) (zdal_p dlD_M_residueOf_36 (i := 0) rfl) (fun v39_ hv39_ hv39_a hv39_b => ?_)
                                have hs_x := dv2.g hO (e := u3_) (by omega) (by omega)
                                refine zr_toI (show v39_ = ze Mz 89 (u3_).toNat by omega) ?_
                                refine zw_iload (pc := 137) (i := 8) (x := Int32.ofInt u31_) rfl (zdal_p dlD_M_residueOf_36 (i := 1) rfl) ?_
                                refine zr_callV (hf.w hW) hf.x (pc := 139) [.int (Int32.ofInt (ze Mz 89 (u3_).toNat)), .int (Int32.ofInt u31_)] [] l_M_223 (c_M_turned l Mz (hf.w hW) (ze Mz 89 (u3_).toNat) (by omega) (by omega) u31_ hu31_a hu31_b T hG dv0 (show 0 ≤ (ze Mz 89 (u3_).toNat) by first | with_reducible assumption | assumption | omega) (show 0 ≤ u31_ by first | with_reducible assumption | assumption | omega) (show u31_ < ze Mz 81 20 by first | with_reducible assumption | assumption | omega)) rfl rfl rfl (by decide) (Nat.le_of_ble_eq_true rfl) (zdal_p dlD_M_residueOf_36 (i := 2) rfl) ?_
                                rintro _ N40_ ⟨v41_, rfl, ⟨hv41_a, hv41_b⟩, hsN40_, ⟨hp0_N40_, hp1_N40_, hp2_N40_⟩⟩
                                obtain rfl := hsN40_.eq.symm
                                show zW l m_M_residueOf (zn Mz + 0, zw Mz + 0) Mz 142 [some (.ref 81), some (.int (Int32.ofInt a0_)), some (.int (Int32.ofInt a1_)), some (.int (Int32.ofInt (ze Mz 91 (a0_).toNat))), some (.int (Int32.ofInt u2_)), some (.int (Int32.ofInt u3_)), some (.int (Int32.ofInt u24_)), some (.int (Int32.ofInt u30_)), some (.int (Int32.ofInt u31_))] [.int (Int32.ofInt v41_)] _
                                have htr_ := hp0_N40_
                                refine zw_aload_n (pc := 142) (n := 0) (x := 81) rfl (zdal_p dlD_M_residueOf_36 (i := 3) rfl) ?_
                                refine zr_getF (r := 89) (hf.w hW) (pc := 143) f_M_38 rfl (zh_89 (hf.w hW)).1 (zdal_p dlD_M_residueOf_36 (i := 4) rfl) ?_
                                refine zw_iload (pc := 146) (i := 5) (x := Int32.ofInt u3_) rfl (zdal_p dlD_M_residueOf_36 (i := 5) rfl) ?_
                                refine zr_ialdn (pc := 148) (zh_89 (hf.w hW)).2 (by decide) (by omega) (by omega) (zdal_p dlD_M_residueOf_36 (i := 6) rfl) (fun v42_ hv42_ hv42_a hv42_b => ?_)
                                have hs_x := dv2.g hO (e := u3_) (by omega) (by omega)
                                refine zr_toI (show v42_ = ze Mz 89 (u3_).toNat by omega) ?_
                                refine zr_icmp_ne (pc := 149) (tgt := 156) ⟨hv41_a, hv41_b⟩ ⟨(by omega), (by omega)⟩ (by decide) (zdal_p dlD_M_residueOf_36 (i := 7) rfl) (fun hc_149 => ?_) (fun hc_149 => ?_)
                                · skip
                                  refine zw_iconst (pc := 156) (v := Int32.ofInt 0) (by decide) (zdal_p dlD_M_residueOf_36 (i := 10) rfl) ?_
                                  refine zw_istore (pc := 157) (i := 7) (L2 := [some (.ref 81), some (.int (Int32.ofInt a0_)), some (.int (Int32.ofInt a1_)), some (.int (Int32.ofInt (ze Mz 91 (a0_).toNat))), some (.int (Int32.ofInt u2_)), some (.int (Int32.ofInt u3_)), some (.int (Int32.ofInt u24_)), some (.int (Int32.ofInt 0)), some (.int (Int32.ofInt u31_))]) (by decide) rfl d_M_residueOf_157 ?_
                                  refine zr_iinc (pc := 159) (i := 8) (a := u31_) (n := 1) (L2 := [some (.ref 81), some (.int (Int32.ofInt a0_)), some (.int (Int32.ofInt a1_)), some (.int (Int32.ofInt (ze Mz 91 (a0_).toNat))), some (.int (Int32.ofInt u2_)), some (.int (Int32.ofInt u3_)), some (.int (Int32.ofInt u24_)), some (.int (Int32.ofInt 0)), some (.int (Int32.ofInt (u31_ + 1)))]) rfl (by decide) rfl d_M_residueOf_159 ?_
                                  refine zw_goto (pc := 162) (tgt := 106) (by decide) d_M_residueOf_162 ?_
                                  have hin_ : zIsI T (gFn T (a0_).toNat) (ze Mz 89 (u3_).toNat).toNat (0 : Int) (u31_ + 1) (gPwr (a1_).toNat (gcb (ze Mz 89 (u3_).toNat).toNat) (gcb (gFn T (a0_).toNat))) := zIsI_s hii_ (by omega) (by omega) (by omega) (by first | exact Or.inl ⟨rfl, Or.inl hbn_⟩ | exact Or.inl ⟨rfl, Or.inr (by omega)⟩ | exact Or.inr ⟨rfl, hbt_, by omega⟩)
                                  exact ih_106 0 (by decide) (by decide) (by omega) (u31_ + 1) (by omega) (by omega) (show 0 ≤ (u31_ + 1) by first | with_reducible assumption | assumption | omega) (show (u31_ + 1) ≤ gN T by first | with_reducible assumption | assumption | omega) (show zIsI T (gFn T (a0_).toNat) (ze Mz 89 (u3_).toNat).toNat (0 : Int) (u31_ + 1) (gPwr (a1_).toNat (gcb (ze Mz 89 (u3_).toNat).toNat) (gcb (gFn T (a0_).toNat))) by exact hin_) (by omega)
                                · skip
                                  refine zw_iconst (pc := 152) (v := Int32.ofInt 1) (by decide) (zdal_p dlD_M_residueOf_36 (i := 8) rfl) ?_
                                  refine zw_goto (pc := 153) (tgt := 157) (by decide) (zdal_p dlD_M_residueOf_36 (i := 9) rfl) ?_
                                  refine zw_istore (pc := 157) (i := 7) (L2 := [some (.ref 81), some (.int (Int32.ofInt a0_)), some (.int (Int32.ofInt a1_)), some (.int (Int32.ofInt (ze Mz 91 (a0_).toNat))), some (.int (Int32.ofInt u2_)), some (.int (Int32.ofInt u3_)), some (.int (Int32.ofInt u24_)), some (.int (Int32.ofInt 1)), some (.int (Int32.ofInt u31_))]) (by decide) rfl d_M_residueOf_157 ?_
                                  refine zr_iinc (pc := 159) (i := 8) (a := u31_) (n := 1) (L2 := [some (.ref 81), some (.int (Int32.ofInt a0_)), some (.int (Int32.ofInt a1_)), some (.int (Int32.ofInt (ze Mz 91 (a0_).toNat))), some (.int (Int32.ofInt u2_)), some (.int (Int32.ofInt u3_)), some (.int (Int32.ofInt u24_)), some (.int (Int32.ofInt 1)), some (.int (Int32.ofInt (u31_ + 1)))]) rfl (by decide) rfl d_M_residueOf_159 ?_
                                  refine zw_goto (pc := 162) (tgt := 106) (by decide) d_M_residueOf_162 ?_
                                  have hin_ : zIsI T (gFn T (a0_).toNat) (ze Mz 89 (u3_).toNat).toNat (1 : Int) (u31_ + 1) (gPwr (a1_).toNat (gcb (ze Mz 89 (u3_).toNat).toNat) (gcb (gFn T (a0_).toNat))) := zIsI_s hii_ (by omega) (by omega) (by omega) (by first | exact Or.inl ⟨rfl, Or.inl hbn_⟩ | exact Or.inl ⟨rfl, Or.inr (by omega)⟩ | exact Or.inr ⟨rfl, hbt_, by omega⟩)
                                  exact ih_106 1 (by decide) (by decide) (by omega) (u31_ + 1) (by omega) (by omega) (show 0 ≤ (u31_ + 1) by first | with_reducible assumption | assumption | omega) (show (u31_ + 1) ≤ gN T by first | with_reducible assumption | assumption | omega) (show zIsI T (gFn T (a0_).toNat) (ze Mz 89 (u3_).toNat).toNat (1 : Int) (u31_ + 1) (gPwr (a1_).toNat (gcb (ze Mz 89 (u3_).toNat).toNat) (gcb (gFn T (a0_).toNat))) by exact hin_) (by omega)
                            · skip
                              have hbn_ := (fun q_ => ha123_0_hp0_N37_ ((zbt_n hfw_).mpr q_))
                              show zW l m_M_residueOf (zn Mz + 0, zw Mz + 0) Mz 126 [some (.ref 81), some (.int (Int32.ofInt a0_)), some (.int (Int32.ofInt a1_)), some (.int (Int32.ofInt (ze Mz 91 (a0_).toNat))), some (.int (Int32.ofInt u2_)), some (.int (Int32.ofInt u3_)), some (.int (Int32.ofInt u24_)), some (.int (Int32.ofInt u30_)), some (.int (Int32.ofInt u31_))] [.int (Int32.ofInt 0)] _
                              refine zr_if_eq (pc := 126) (tgt := 152) ⟨(by decide), (by decide)⟩ (by decide) (zdal_p dlD_M_residueOf_35 (i := 19) rfl) (fun hc_126 => ?_) (fun hc_126 => ?_)
                              · skip
                                refine zw_iconst (pc := 152) (v := Int32.ofInt 1) (by decide) (zdal_p dlD_M_residueOf_36 (i := 8) rfl) ?_
                                refine zw_goto (pc := 153) (tgt := 157) (by decide) (zdal_p dlD_M_residueOf_36 (i := 9) rfl) ?_
                                refine zw_istore (pc := 157) (i := 7) (L2 := [some (.ref 81), some (.int (Int32.ofInt a0_)), some (.int (Int32.ofInt a1_)), some (.int (Int32.ofInt (ze Mz 91 (a0_).toNat))), some (.int (Int32.ofInt u2_)), some (.int (Int32.ofInt u3_)), some (.int (Int32.ofInt u24_)), some (.int (Int32.ofInt 1)), some (.int (Int32.ofInt u31_))]) (by decide) rfl d_M_residueOf_157 ?_
                                refine zr_iinc (pc := 159) (i := 8) (a := u31_) (n := 1) (L2 := [some (.ref 81), some (.int (Int32.ofInt a0_)), some (.int (Int32.ofInt a1_)), some (.int (Int32.ofInt (ze Mz 91 (a0_).toNat))), some (.int (Int32.ofInt u2_)), some (.int (Int32.ofInt u3_)), some (.int (Int32.ofInt u24_)), some (.int (Int32.ofInt 1)), some (.int (Int32.ofInt (u31_ + 1)))]) rfl (by decide) rfl d_M_residueOf_159 ?_
                                refine zw_goto (pc := 162) (tgt := 106) (by decide) d_M_residueOf_162 ?_
                                have hin_ : zIsI T (gFn T (a0_).toNat) (ze Mz 89 (u3_).toNat).toNat (1 : Int) (u31_ + 1) (gPwr (a1_).toNat (gcb (ze Mz 89 (u3_).toNat).toNat) (gcb (gFn T (a0_).toNat))) := zIsI_s hii_ (by omega) (by omega) (by omega) (by first | exact Or.inl ⟨rfl, Or.inl hbn_⟩ | exact Or.inl ⟨rfl, Or.inr (by omega)⟩ | exact Or.inr ⟨rfl, hbt_, by omega⟩)
                                exact ih_106 1 (by decide) (by decide) (by omega) (u31_ + 1) (by omega) (by omega) (show 0 ≤ (u31_ + 1) by first | with_reducible assumption | assumption | omega) (show (u31_ + 1) ≤ gN T by first | with_reducible assumption | assumption | omega) (show zIsI T (gFn T (a0_).toNat) (ze Mz 89 (u3_).toNat).toNat (1 : Int) (u31_ + 1) (gPwr (a1_).toNat (gcb (ze Mz 89 (u3_).toNat).toNat) (gcb (gFn T (a0_).toNat))) by exact hin_) (by omega)
                              · skip
                                exact absurd hc_126 (by decide)
                    exact lp_106 _ u28_ hu28_a hu28_b (by omega) 0 (by decide) (by decide) (show 0 ≤ (0 : Int) by first | with_reducible assumption | assumption | omega) (show (0 : Int) ≤ gN T by first | with_reducible assumption | assumption | omega) (show zIsI T (gFn T (a0_).toNat) (ze Mz 89 (u3_).toNat).toNat u28_ (0 : Int) (gPwr (a1_).toNat (gcb (ze Mz 89 (u3_).toNat).toNat) (gcb (gFn T (a0_).toNat))) by exact zIsI_0 (by first | with_reducible assumption | assumption)) (Nat.lt_succ_self _)
                  refine zr_icmp_ne (pc := 93) (tgt := 100) ⟨hu24_a, hu24_b⟩ ⟨(by decide), (by decide)⟩ (by decide) (zdal_p dlD_M_residueOf_35 (i := 3) rfl) (fun hc_93 => ?_) (fun hc_93 => ?_)
                  · skip
                    refine zw_iconst (pc := 100) (v := Int32.ofInt 0) (by decide) (zdal_p dlD_M_residueOf_35 (i := 6) rfl) ?_
                    exact j_101 0 (by decide) (by decide) (by omega) (show ((0 = 1 ∧ gPwr (a1_).toNat (gcb (ze Mz 89 (u3_).toNat).toNat) (gcb (gFn T (a0_).toNat))) ∨ (0 = 0 ∧ ¬ gPwr (a1_).toNat (gcb (ze Mz 89 (u3_).toNat).toNat) (gcb (gFn T (a0_).toNat)))) by have hde_ := zDvI_e (a := gcb (ze Mz 89 (u3_).toNat).toNat) (b := gcb (gFn T (a0_).toNat)) (d := a1_) (by omega) hrs_.1 hrF_.1 hrF_.2 (hHd_ _ hsm_ (hzz_.mp (by omega))) hdi_ (by omega) (by omega) (by omega); first | exact Or.inl ⟨rfl, hde_.mp (by omega)⟩ | exact Or.inr ⟨rfl, fun q_ => absurd (hde_.mpr q_) (by omega)⟩)
                  · skip
                    refine zw_iconst (pc := 96) (v := Int32.ofInt 1) (by decide) (zdal_p dlD_M_residueOf_35 (i := 4) rfl) ?_
                    refine zw_goto (pc := 97) (tgt := 101) (by decide) (zdal_p dlD_M_residueOf_35 (i := 5) rfl) ?_
                    exact j_101 1 (by decide) (by decide) (by omega) (show ((1 = 1 ∧ gPwr (a1_).toNat (gcb (ze Mz 89 (u3_).toNat).toNat) (gcb (gFn T (a0_).toNat))) ∨ (1 = 0 ∧ ¬ gPwr (a1_).toNat (gcb (ze Mz 89 (u3_).toNat).toNat) (gcb (gFn T (a0_).toNat)))) by have hde_ := zDvI_e (a := gcb (ze Mz 89 (u3_).toNat).toNat) (b := gcb (gFn T (a0_).toNat)) (d := a1_) (by omega) hrs_.1 hrF_.1 hrF_.2 (hHd_ _ hsm_ (hzz_.mp (by omega))) hdi_ (by omega) (by omega) (by omega); first | exact Or.inl ⟨rfl, hde_.mp (by omega)⟩ | exact Or.inr ⟨rfl, fun q_ => absurd (hde_.mpr q_) (by omega)⟩)
                · skip
                  refine zw_iload (pc := 81) (i := 6) (x := Int32.ofInt u24_) rfl (zdal_p dlD_M_residueOf_34 (i := 20) rfl) ?_
                  refine zw_iload_n (pc := 83) (n := 2) (x := Int32.ofInt a1_) rfl (zdal_p dlD_M_residueOf_34 (i := 21) rfl) ?_
                  have hd_x := zdv (a := u24_) (p := a1_) (by omega) (by omega) (by omega) (by omega) (by omega)
                  have hdn_ := zDvI_s hdi_ (d := a1_) (by omega) (by omega) (by omega)
                  refine zr_idiv (pc := 84) ⟨by omega, by omega⟩ (by omega) (zdal_p dlD_M_residueOf_34 (i := 22) rfl) ?_
                  have hr43_ := zquo_r u24_ a1_
                  refine zw_istore (pc := 85) (i := 6) (L2 := [some (.ref 81), some (.int (Int32.ofInt a0_)), some (.int (Int32.ofInt a1_)), some (.int (Int32.ofInt (ze Mz 91 (a0_).toNat))), some (.int (Int32.ofInt u2_)), some (.int (Int32.ofInt u3_)), some (.int (Int32.ofInt (zquo u24_ a1_))), none, none]) (by decide) rfl (zdal_p dlD_M_residueOf_34 (i := 23) rfl) ?_
                  refine zw_goto (pc := 87) (tgt := 74) (by decide) (zdal_p dlD_M_residueOf_35 (i := 0) rfl) ?_
                  exact ih_74 (zquo u24_ a1_) (by omega) (by omega) (show 1 ≤ (zquo u24_ a1_) by first | with_reducible assumption | assumption | omega) (show zDvI (a1_).toNat (gcb (gFn T (a0_).toNat) / gcb (ze Mz 89 (u3_).toNat).toNat) (zquo u24_ a1_) by exact hdn_) (by omega)
            exact lp_74 _ (zquo v19_ v22_) (by omega) (by omega) (show 1 ≤ (zquo v19_ v22_) by first | with_reducible assumption | assumption | omega) (show zDvI (a1_).toNat (gcb (gFn T (a0_).toNat) / gcb (ze Mz 89 (u3_).toNat).toNat) (zquo v19_ v22_) by exact zDvI_0 hqd_ (by omega) (by omega)) (Nat.lt_succ_self _)
          · skip
            refine zw_goto (pc := 54) (tgt := 179) (by decide) (zdal_p dlD_M_residueOf_34 (i := 6) rfl) ?_
            refine zr_iinc (pc := 179) (i := 5) (a := u3_) (n := 1) (L2 := [some (.ref 81), some (.int (Int32.ofInt a0_)), some (.int (Int32.ofInt a1_)), some (.int (Int32.ofInt (ze Mz 91 (a0_).toNat))), some (.int (Int32.ofInt u2_)), some (.int (Int32.ofInt (u3_ + 1))), none, none, none]) rfl (by decide) rfl d_M_residueOf_179 ?_
            refine zw_goto (pc := 182) (tgt := 13) (by decide) d_M_residueOf_182 ?_
            have hbx_ : zBsI T (gFn T (a0_).toNat) (a1_).toNat (fun k_ => (ze Mz 89 k_).toNat) u2_ (u3_ + 1) := by first | exact zBsI_n hbi_ (by omega) rfl hsm_ hcd_ (by omega) | exact zBsI_k hbi_ (Or.inr (by first | omega | (dsimp only; omega))) | exact zBsI_k hbi_ (Or.inl (fun q_ => absurd (hzz_.mpr q_.1) (by omega))) | exact zBsI_k hbi_ (Or.inl (fun q_ => zIsI_n hii_ (by omega) q_.2))
            exact ih_13 u2_ hu2_a hu2_b (u3_ + 1) (by omega) (by omega) (show 0 ≤ (u3_ + 1) by first | with_reducible assumption | assumption | omega) (show gMe T u2_ by first | with_reducible assumption | exact hs_x.1 | assumption) (show zcb u2_ 31 ≤ zcb (ze Mz 91 (a0_).toNat) 31 by first | with_reducible assumption | assumption | omega) (show zBsI T (gFn T (a0_).toNat) (a1_).toNat (fun k_ => (ze Mz 89 k_).toNat) u2_ (u3_ + 1) by exact hbx_) (by omega)
  exact lp_13 _ (ze Mz 91 (a0_).toNat) (by omega) (by omega) 0 (by decide) (by decide) (show 0 ≤ (0 : Int) by first | with_reducible assumption | assumption | omega) (show gMe T (ze Mz 91 (a0_).toNat) by exact hf_x.1) (show zcb (ze Mz 91 (a0_).toNat) 31 ≤ zcb (ze Mz 91 (a0_).toNat) 31 by exact Int.le_refl _) (show zBsI T (gFn T (a0_).toNat) (a1_).toNat (fun k_ => (ze Mz 89 k_).toNat) (ze Mz 91 (a0_).toNat) (0 : Int) by exact zBsI_0 hfw_ hfma_ hHn_) (Nat.lt_succ_self _)
set_option maxHeartbeats 4000000 in
theorem c_M_blockOfG (l : Launch) (Mz : zMem) (hW : zMt Mz) (a0_ : Int) (ha0_a : -2147483648 ≤ a0_) (ha0_b : a0_ < 2147483648) (a1_ : Int) (ha1_a : -2147483648 ≤ a1_) (ha1_b : a1_ < 2147483648) (T : zGT) (hO : gOK T) (hTt : T ∈ gTabs) (hGr_ : gGr T) (p0_ : zGB T Mz) (p1_ : 0 ≤ a0_) (p2_ : a0_ < ze Mz 81 26) (p3_ : 2 ≤ a1_) (p4_ : (a1_ = 2 ∨ a1_ = 3 ∨ a1_ = 5)) : zC l m_M_blockOf 0 0 [.ref 81, .int (Int32.ofInt a0_), .int (Int32.ofInt a1_)] Mz (zpI [] [] Mz (fun v N => v = ((zbq (zBlk T (a0_).toNat (a1_).toNat) (gF T).length : Nat) : Int))) := by
  refine zC_of (L0 := [some (.ref 81), some (.int (Int32.ofInt a0_)), some (.int (Int32.ofInt a1_)), none, none, none]) md_M_blockOf (Nat.le_of_ble_eq_true rfl) rfl ?_ zQ0
  have hf : zFr [] [] Mz Mz := zFr.rf
  have r_26 := ze_r Mz 81 26
  have hG := hO.1
  have g24 := hG.2.1
  have g1 := hG.1
  have dv0 : zTab T Mz := p0_.1
  have dv1 : zB 85 144 0 5 Mz := p0_.2.1
  have dv2 : zJX T Mz := p0_.2.2.1
  have dv3 : zFirs T Mz := p0_.2.2.2.1
  have dv4 : zSSm T Mz := p0_.2.2.2.2.1
  have dv5 : zGD Mz := zGB.d hO p0_
  have gb := dv5.1
  have gn := dv0.1
  have hfl_ := dv3.1
  obtain ⟨⟨hF1_, hF27_⟩, hAr_⟩ := id (gT_zTA hTt)
  refine zw_aload_n (pc := 0) (n := 0) (x := 81) rfl (zdal_p dlD_M_blockOf_39 (i := 0) rfl) ?_
  refine zw_iload_n (pc := 1) (n := 1) (x := Int32.ofInt a0_) rfl (zdal_p dlD_M_blockOf_39 (i := 1) rfl) ?_
  refine zw_iload_n (pc := 2) (n := 2) (x := Int32.ofInt a1_) rfl (zdal_p dlD_M_blockOf_39 (i := 2) rfl) ?_
  refine zr_callV (hf.w hW) hf.x (pc := 3) [.int (Int32.ofInt a0_), .int (Int32.ofInt a1_)] [] l_M_429 (c_M_residueOfG l Mz (hf.w hW) a0_ ha0_a ha0_b a1_ ha1_a ha1_b T hO hTt hGr_ p0_ (show 0 ≤ a0_ by first | with_reducible assumption | assumption | omega) (show a0_ < ze Mz 81 26 by first | with_reducible assumption | assumption | omega) (show 2 ≤ a1_ by first | with_reducible assumption | assumption | omega) (show (a1_ = 2 ∨ a1_ = 3 ∨ a1_ = 5) by first | with_reducible assumption | assumption | omega)) rfl rfl rfl (by decide) (Nat.le_of_ble_eq_true rfl) (zdal_p dlD_M_blockOf_39 (i := 3) rfl) ?_
  rintro _ N1_ ⟨v2_, rfl, ⟨hv2_a, hv2_b⟩, hsN1_, hp0_N1_⟩
  obtain rfl := hsN1_.eq.symm
  replace hp0_N1_ : zfRe T (a0_).toNat (a1_).toNat v2_ := hp0_N1_
  show zW l m_M_blockOf (zn Mz + 0, zw Mz + 0) Mz 6 [some (.ref 81), some (.int (Int32.ofInt a0_)), some (.int (Int32.ofInt a1_)), none, none, none] [.int (Int32.ofInt v2_)] _
  have hre_ := hp0_N1_
  refine zw_istore_n (pc := 6) (i := 3) (L2 := [some (.ref 81), some (.int (Int32.ofInt a0_)), some (.int (Int32.ofInt a1_)), some (.int (Int32.ofInt v2_)), none, none]) rfl (by decide) rfl (zdal_p dlD_M_blockOf_39 (i := 4) rfl) ?_
  refine zw_iconst (pc := 7) (v := Int32.ofInt 0) (by decide) (zdal_p dlD_M_blockOf_39 (i := 5) rfl) ?_
  refine zw_istore (pc := 8) (i := 4) (L2 := [some (.ref 81), some (.int (Int32.ofInt a0_)), some (.int (Int32.ofInt a1_)), some (.int (Int32.ofInt v2_)), some (.int (Int32.ofInt 0)), none]) (by decide) rfl (zdal_p dlD_M_blockOf_39 (i := 6) rfl) ?_
  refine zw_iconst (pc := 10) (v := Int32.ofInt 0) (by decide) (zdal_p dlD_M_blockOf_39 (i := 7) rfl) ?_
  refine zw_istore (pc := 11) (i := 5) (L2 := [some (.ref 81), some (.int (Int32.ofInt a0_)), some (.int (Int32.ofInt a1_)), some (.int (Int32.ofInt v2_)), some (.int (Int32.ofInt 0)), some (.int (Int32.ofInt 0))]) (by decide) rfl (zdal_p dlD_M_blockOf_39 (i := 8) rfl) ?_
  have lp_13 : ∀ (n : Nat) (u3_ : Int) (hu3_a : -2147483648 ≤ u3_) (hu3_b : u3_ < 2147483648) (u4_ : Int) (hu4_a : -2147483648 ≤ u4_) (hu4_b : u4_ < 2147483648) (i5_ : 0 ≤ u4_) (i6_ : u4_ ≤ ((gF T).length : Int)) (i7_ : u3_ = ((zbq (zBlk T (a0_).toNat (a1_).toNat) (u4_).toNat : Nat) : Int)), (((gF T).length : Int) - u4_).toNat < n → zW l m_M_blockOf (zn Mz + 0, zw Mz + 0) Mz 13 [some (.ref 81), some (.int (Int32.ofInt a0_)), some (.int (Int32.ofInt a1_)), some (.int (Int32.ofInt v2_)), some (.int (Int32.ofInt u3_)), some (.int (Int32.ofInt u4_))] [] (zpI [] [] Mz (fun v N => v = ((zbq (zBlk T (a0_).toNat (a1_).toNat) (gF T).length : Nat) : Int))) := by
    intro n
    induction n with
    | zero =>
      intro u3_ hu3_a hu3_b u4_ hu4_a hu4_b i5_ i6_ i7_ h0
      exact absurd h0 (Nat.not_lt_zero _)
    | succ n ih_13 =>
      intro u3_ hu3_a hu3_b u4_ hu4_a hu4_b i5_ i6_ i7_ hlt_13
      have hbi_ := (show u3_ = ((zbq (zBlk T (a0_).toNat (a1_).toNat) (u4_).toNat : Nat) : Int) by first | with_reducible assumption | assumption)
      refine zw_iload (pc := 13) (i := 5) (x := Int32.ofInt u4_) rfl (zdal_p dlD_M_blockOf_39 (i := 9) rfl) ?_
      refine zw_aload_n (pc := 15) (n := 0) (x := 81) rfl (zdal_p dlD_M_blockOf_39 (i := 10) rfl) ?_
      refine zr_getI0 hf hW (pc := 16) (by decide) f_M_235 rfl (zdal_p dlD_M_blockOf_39 (i := 11) rfl) ?_
      refine zr_icmp_ge (pc := 19) (tgt := 55) ⟨hu4_a, hu4_b⟩ ⟨(ze_r Mz 81 26).1, (ze_r Mz 81 26).2⟩ (by decide) (zdal_p dlD_M_blockOf_39 (i := 12) rfl) (fun hc_19 => ?_) (fun hc_19 => ?_)
      · skip
        refine zw_iload (pc := 55) (i := 4) (x := Int32.ofInt u3_) rfl (zdal_p dlD_M_blockOf_40 (i := 6) rfl) ?_
        exact zr_iret (pc := 57) (ty := .int) rfl rfl ⟨by omega, by omega⟩ hf (show u3_ = ((zbq (zBlk T (a0_).toNat (a1_).toNat) (gF T).length : Nat) : Int) by rw [show (gF T).length = (u4_).toNat by omega]; exact hbi_) (zdal_p dlD_M_blockOf_40 (i := 7) rfl)
      · skip
        refine zw_iload (pc := 22) (i := 4) (x := Int32.ofInt u3_) rfl (zdal_p dlD_M_blockOf_39 (i := 13) rfl) ?_
        refine zw_aload_n (pc := 24) (n := 0) (x := 81) rfl (zdal_p dlD_M_blockOf_39 (i := 14) rfl) ?_
        refine zw_iload (pc := 25) (i := 5) (x := Int32.ofInt u4_) rfl (zdal_p dlD_M_blockOf_39 (i := 15) rfl) ?_
        refine zw_iload_n (pc := 27) (n := 2) (x := Int32.ofInt a1_) rfl (zdal_p dlD_M_blockOf_39 (i := 16) rfl) ?_
        refine zr_callV (hf.w hW) hf.x (pc := 28) [.int (Int32.ofInt u4_), .int (Int32.ofInt a1_)] [.int (Int32.ofInt u3_)] l_M_429 (c_M_residueOfG l Mz (hf.w hW) u4_ hu4_a hu4_b a1_ ha1_a ha1_b T hO hTt hGr_ p0_ (show 0 ≤ u4_ by first | with_reducible assumption | assumption | omega) (show u4_ < ze Mz 81 26 by first | with_reducible assumption | assumption | omega) (show 2 ≤ a1_ by first | with_reducible assumption | assumption | omega) (show (a1_ = 2 ∨ a1_ = 3 ∨ a1_ = 5) by first | with_reducible assumption | assumption | omega)) rfl rfl rfl (by decide) (Nat.le_of_ble_eq_true rfl) (zdal_p dlD_M_blockOf_39 (i := 17) rfl) ?_
        rintro _ N8_ ⟨v9_, rfl, ⟨hv9_a, hv9_b⟩, hsN8_, hp0_N8_⟩
        obtain rfl := hsN8_.eq.symm
        replace hp0_N8_ : zfRe T (u4_).toNat (a1_).toNat v9_ := hp0_N8_
        show zW l m_M_blockOf (zn Mz + 0, zw Mz + 0) Mz 31 [some (.ref 81), some (.int (Int32.ofInt a0_)), some (.int (Int32.ofInt a1_)), some (.int (Int32.ofInt v2_)), some (.int (Int32.ofInt u3_)), some (.int (Int32.ofInt u4_))] [.int (Int32.ofInt v9_), .int (Int32.ofInt u3_)] _
        have hrk_ := hp0_N8_
        have hbq_ := zBlk_q hO hrk_ hre_
        refine zw_iload_n (pc := 31) (n := 3) (x := Int32.ofInt v2_) rfl (zdal_p dlD_M_blockOf_39 (i := 18) rfl) ?_
        refine zr_icmp_ne (pc := 32) (tgt := 39) ⟨hv9_a, hv9_b⟩ ⟨hv2_a, hv2_b⟩ (by decide) (zdal_p dlD_M_blockOf_39 (i := 19) rfl) (fun hc_32 => ?_) (fun hc_32 => ?_)
        · skip
          refine zw_iconst (pc := 39) (v := Int32.ofInt 0) (by decide) (zdal_p dlD_M_blockOf_39 (i := 22) rfl) ?_
          refine zr_callS hf.x (pc := 40) [.int (Int32.ofInt 0)] [.int (Int32.ofInt u3_)] l_M_256 (c_M_truth l Mz (hf.w hW) 0 (by decide) (by decide) (by omega)) rfl rfl (by decide) (Nat.le_of_ble_eq_true rfl) (zdal_p dlD_M_blockOf_39 (i := 23) rfl) ?_
          rintro _ N10_ ⟨v11_, rfl, ⟨hv11_a, hv11_b⟩, hsN10_, hp0_N10_⟩
          obtain rfl := hsN10_.eq.symm
          replace hp0_N10_ : v11_ = 0 := hp0_N10_
          show zW l m_M_blockOf (zn Mz + 0, zw Mz + 0) Mz 43 [some (.ref 81), some (.int (Int32.ofInt a0_)), some (.int (Int32.ofInt a1_)), some (.int (Int32.ofInt v2_)), some (.int (Int32.ofInt u3_)), some (.int (Int32.ofInt u4_))] [.int (Int32.ofInt v11_), .int (Int32.ofInt u3_)] _
          refine zw_iload (pc := 43) (i := 5) (x := Int32.ofInt u4_) rfl (zdal_p dlD_M_blockOf_40 (i := 0) rfl) ?_
          have hct_ := zbq_T7 (q := (zBlk T (a0_).toNat (a1_).toNat)) (t := v11_) (n := (gF T).length) (by omega) (by omega) (by omega) hbi_ (by first | exact Or.inl ⟨by omega, hbq_.mpr (by omega)⟩ | exact Or.inr ⟨by omega, fun q_ => absurd (hbq_.mp q_) (by omega)⟩)
          refine zr_ishl (pc := 45) (zdal_p dlD_M_blockOf_40 (i := 1) rfl) ?_
          have hr12_ := zshl_r v11_ u4_
          refine zr_ior (pc := 46) (zdal_p dlD_M_blockOf_40 (i := 2) rfl) ?_
          have hr13_ := zor_r u3_ (zshl v11_ u4_)
          refine zw_istore (pc := 47) (i := 4) (L2 := [some (.ref 81), some (.int (Int32.ofInt a0_)), some (.int (Int32.ofInt a1_)), some (.int (Int32.ofInt v2_)), some (.int (Int32.ofInt (zor u3_ (zshl v11_ u4_)))), some (.int (Int32.ofInt u4_))]) (by decide) rfl (zdal_p dlD_M_blockOf_40 (i := 3) rfl) ?_
          refine zr_iinc (pc := 49) (i := 5) (a := u4_) (n := 1) (L2 := [some (.ref 81), some (.int (Int32.ofInt a0_)), some (.int (Int32.ofInt a1_)), some (.int (Int32.ofInt v2_)), some (.int (Int32.ofInt (zor u3_ (zshl v11_ u4_)))), some (.int (Int32.ofInt (u4_ + 1)))]) rfl (by decide) rfl (zdal_p dlD_M_blockOf_40 (i := 4) rfl) ?_
          refine zw_goto (pc := 52) (tgt := 13) (by decide) (zdal_p dlD_M_blockOf_40 (i := 5) rfl) ?_
          exact ih_13 (zor u3_ (zshl v11_ u4_)) (by omega) (by omega) (u4_ + 1) (by omega) (by omega) (show 0 ≤ (u4_ + 1) by first | with_reducible assumption | assumption | omega) (show (u4_ + 1) ≤ ((gF T).length : Int) by first | with_reducible assumption | assumption | omega) (show (zor u3_ (zshl v11_ u4_)) = ((zbq (zBlk T (a0_).toNat (a1_).toNat) ((u4_ + 1)).toNat : Nat) : Int) by exact hct_) (by omega)
        · skip
          refine zw_iconst (pc := 35) (v := Int32.ofInt 1) (by decide) (zdal_p dlD_M_blockOf_39 (i := 20) rfl) ?_
          refine zw_goto (pc := 36) (tgt := 40) (by decide) (zdal_p dlD_M_blockOf_39 (i := 21) rfl) ?_
          refine zr_callS hf.x (pc := 40) [.int (Int32.ofInt 1)] [.int (Int32.ofInt u3_)] l_M_256 (c_M_truth l Mz (hf.w hW) 1 (by decide) (by decide) (by omega)) rfl rfl (by decide) (Nat.le_of_ble_eq_true rfl) (zdal_p dlD_M_blockOf_39 (i := 23) rfl) ?_
          rintro _ N14_ ⟨v15_, rfl, ⟨hv15_a, hv15_b⟩, hsN14_, hp0_N14_⟩
          obtain rfl := hsN14_.eq.symm
          replace hp0_N14_ : v15_ = 1 := hp0_N14_
          show zW l m_M_blockOf (zn Mz + 0, zw Mz + 0) Mz 43 [some (.ref 81), some (.int (Int32.ofInt a0_)), some (.int (Int32.ofInt a1_)), some (.int (Int32.ofInt v2_)), some (.int (Int32.ofInt u3_)), some (.int (Int32.ofInt u4_))] [.int (Int32.ofInt v15_), .int (Int32.ofInt u3_)] _
          refine zw_iload (pc := 43) (i := 5) (x := Int32.ofInt u4_) rfl (zdal_p dlD_M_blockOf_40 (i := 0) rfl) ?_
          have hct_ := zbq_T7 (q := (zBlk T (a0_).toNat (a1_).toNat)) (t := v15_) (n := (gF T).length) (by omega) (by omega) (by omega) hbi_ (by first | exact Or.inl ⟨by omega, hbq_.mpr (by omega)⟩ | exact Or.inr ⟨by omega, fun q_ => absurd (hbq_.mp q_) (by omega)⟩)
          refine zr_ishl (pc := 45) (zdal_p dlD_M_blockOf_40 (i := 1) rfl) ?_
          have hr16_ := zshl_r v15_ u4_
          refine zr_ior (pc := 46) (zdal_p dlD_M_blockOf_40 (i := 2) rfl) ?_
          have hr17_ := zor_r u3_ (zshl v15_ u4_)
          refine zw_istore (pc := 47) (i := 4) (L2 := [some (.ref 81), some (.int (Int32.ofInt a0_)), some (.int (Int32.ofInt a1_)), some (.int (Int32.ofInt v2_)), some (.int (Int32.ofInt (zor u3_ (zshl v15_ u4_)))), some (.int (Int32.ofInt u4_))]) (by decide) rfl (zdal_p dlD_M_blockOf_40 (i := 3) rfl) ?_
          refine zr_iinc (pc := 49) (i := 5) (a := u4_) (n := 1) (L2 := [some (.ref 81), some (.int (Int32.ofInt a0_)), some (.int (Int32.ofInt a1_)), some (.int (Int32.ofInt v2_)), some (.int (Int32.ofInt (zor u3_ (zshl v15_ u4_)))), some (.int (Int32.ofInt (u4_ + 1)))]) rfl (by decide) rfl (zdal_p dlD_M_blockOf_40 (i := 4) rfl) ?_
          refine zw_goto (pc := 52) (tgt := 13) (by decide) (zdal_p dlD_M_blockOf_40 (i := 5) rfl) ?_
          exact ih_13 (zor u3_ (zshl v15_ u4_)) (by omega) (by omega) (u4_ + 1) (by omega) (by omega) (show 0 ≤ (u4_ + 1) by first | with_reducible assumption | assumption | omega) (show (u4_ + 1) ≤ ((gF T).length : Int) by first | with_reducible assumption | assumption | omega) (show (zor u3_ (zshl v15_ u4_)) = ((zbq (zBlk T (a0_).toNat (a1_).toNat) ((u4_ + 1)).toNat : Nat) : Int) by exact hct_) (by omega)
  exact lp_13 _ 0 (by decide) (by decide) 0 (by decide) (by decide) (show 0 ≤ (0 : Int) by first | with_reducible assumption | assumption | omega) (show (0 : Int) ≤ ((gF T).length : Int) by first | with_reducible assumption | assumption | omega) (show (0 : Int) = ((zbq (zBlk T (a0_).toNat (a1_).toNat) ((0 : Int)).toNat : Nat) : Int) by rfl) (Nat.lt_succ_self _)
