set_option maxHeartbeats 4000000 in
theorem c_M_sortOfSetG (l : Launch) (Mz : zMem) (hW : zMt Mz) (a0_ : Int) (ha0_a : -2147483648 ≤ a0_) (ha0_b : a0_ < 2147483648) (T : zGT) (hO : gOK T) (p0_ : zGB T Mz) (p1_ : gMe T a0_) : zC l m_M_sortOfSet 0 0 [.ref 81, .int (Int32.ofInt a0_)] Mz (zpI [] [] Mz (fun v N => zSrt T (a0_).toNat v)) := by
  refine zC_of (L0 := [some (.ref 81), some (.int (Int32.ofInt a0_))]) md_M_sortOfSet (Nat.le_of_ble_eq_true rfl) rfl ?_ zQ0
  have hf : zFr [] [] Mz Mz := zFr.rf
  have r_25 := ze_r Mz 81 25
  have hG := hO.1
  have g24 := hG.2.1
  have g1 := hG.1
  have dv0 : zTab T Mz := p0_.1
  have dv1 : zB 85 144 0 5 Mz := p0_.2.1
  have dv2 : zJX T Mz := p0_.2.2.1
  have dv3 : zFirs T Mz := p0_.2.2.2.1
  have dv4 : zSSm T Mz := p0_.2.2.2.2.1
  have dv5 : zGD Mz := zGB.d hO p0_
  have gb := dv5.1
  have gn := dv0.1
  refine zw_aload_n (pc := 0) (n := 0) (x := 81) rfl (zdal_p dlD_M_sortOfSet_13 (i := 0) rfl) ?_
  refine zr_getF (r := 90) (hf.w hW) (pc := 1) f_M_41 rfl (zh_90 (hf.w hW)).1 (zdal_p dlD_M_sortOfSet_13 (i := 1) rfl) ?_
  refine zw_aload_n (pc := 4) (n := 0) (x := 81) rfl (zdal_p dlD_M_sortOfSet_13 (i := 2) rfl) ?_
  refine zw_iload_n (pc := 5) (n := 1) (x := Int32.ofInt a0_) rfl (zdal_p dlD_M_sortOfSet_13 (i := 3) rfl) ?_
  refine zr_callV (hf.w hW) hf.x (pc := 6) [.int (Int32.ofInt a0_)] [.ref 90] l_M_232 (c_M_subIndex l Mz (hf.w hW) a0_ ha0_a ha0_b (show 0 ≤ ze Mz 81 25 by first | assumption | omega) (show ze Mz 81 25 ≤ 128 by first | assumption | omega)) rfl rfl rfl (by decide) (Nat.le_of_ble_eq_true rfl) (zdal_p dlD_M_sortOfSet_13 (i := 4) rfl) ?_
  rintro _ N1_ ⟨v2_, rfl, ⟨hv2_a, hv2_b⟩, hsN1_, hp0_N1_⟩
  obtain rfl := hsN1_.eq.symm
  replace hp0_N1_ : ((0 ≤ v2_ ∧ v2_ < ze Mz 81 25 ∧ ze Mz 89 (v2_).toNat = a0_) ∨ (v2_ = -1 ∧ ∀ k : Nat, (k : Int) < ze Mz 81 25 → ze Mz 89 k ≠ a0_)) := hp0_N1_
  rcases hp0_N1_ with ⟨ha6_0_hp0_N1_, ha6_1_hp0_N1_, ha6_2_hp0_N1_⟩ | ⟨rfl, ha6_0_hp0_N1_⟩
  · skip
    show zW l m_M_sortOfSet (zn Mz + 0, zw Mz + 0) Mz 9 [some (.ref 81), some (.int (Int32.ofInt a0_))] [.int (Int32.ofInt v2_), .ref 90] _
    have hs := dv4 (v2_).toNat (by omega)
    have hsx_ := zSS.o (k := (v2_).toNat) hO dv3 dv4 (by omega)
    have hsi_ := (show ze Mz 89 (v2_).toNat = a0_ by assumption)
    rw [hsi_] at hsx_
    refine zr_ialdn (pc := 9) (zh_90 (hf.w hW)).2 (by decide) (by omega) (by omega) (zdal_p dlD_M_sortOfSet_13 (i := 5) rfl) (fun v3_ hv3_ hv3_a hv3_b => ?_)
    have hv_ := hv3_
    exact zr_iret (pc := 10) (ty := .int) rfl rfl ⟨by omega, by omega⟩ hf (show zSrt T (a0_).toNat v3_ by rw [hv_]; exact hsx_) (zdal_p dlD_M_sortOfSet_13 (i := 6) rfl)
  · skip
    obtain ⟨i0, hi0, hi1⟩ := (p1_).f hO dv2
    exact absurd hi1 (ha6_0_hp0_N1_ i0 hi0)
set_option maxHeartbeats 4000000 in
theorem c_M_sortOfG (l : Launch) (Mz : zMem) (hW : zMt Mz) (a0_ : Int) (ha0_a : -2147483648 ≤ a0_) (ha0_b : a0_ < 2147483648) (T : zGT) (hO : gOK T) (p0_ : zGB T Mz) : zC l m_M_sortOf 0 0 [.ref 81, .int (Int32.ofInt a0_)] Mz (zpI [] [] Mz (fun v N => (((gIn T a0_ ∧ ∃ R_ : Nat, gLC T (a0_).toNat R_ ∧ zSrt T R_ v) ∨ (¬ gIn T a0_ ∧ v = (-1 : Int)))))) := by
  refine zC_of (L0 := [some (.ref 81), some (.int (Int32.ofInt a0_))]) md_M_sortOf (Nat.le_of_ble_eq_true rfl) rfl ?_ zQ0
  have hf : zFr [] [] Mz Mz := zFr.rf
  have hG := hO.1
  have g24 := hG.2.1
  have g1 := hG.1
  have dv0 : zTab T Mz := p0_.1
  have dv1 : zB 85 144 0 5 Mz := p0_.2.1
  have dv2 : zJX T Mz := p0_.2.2.1
  have dv3 : zFirs T Mz := p0_.2.2.2.1
  have dv4 : zSSm T Mz := p0_.2.2.2.2.1
  have dv5 : zGD Mz := zGB.d hO p0_
  have gb := dv5.1
  have gn := dv0.1
  refine zw_aload_n (pc := 0) (n := 0) (x := 81) rfl (zdal_p dlD_M_sortOf_12 (i := 0) rfl) ?_
  refine zw_iload_n (pc := 1) (n := 1) (x := Int32.ofInt a0_) rfl (zdal_p dlD_M_sortOf_12 (i := 1) rfl) ?_
  refine zr_callV (hf.w hW) hf.x (pc := 2) [.int (Int32.ofInt a0_)] [] l_M_408 (c_M_areMembersG l Mz (hf.w hW) a0_ ha0_a ha0_b T hO p0_) rfl rfl rfl (by decide) (Nat.le_of_ble_eq_true rfl) (zdal_p dlD_M_sortOf_12 (i := 2) rfl) ?_
  rintro _ N1_ ⟨v2_, rfl, ⟨hv2_a, hv2_b⟩, hsN1_, hp0_N1_⟩
  obtain rfl := hsN1_.eq.symm
  replace hp0_N1_ : ((v2_ = 1 ∧ gIn T a0_) ∨ (v2_ = 0 ∧ ¬ gIn T a0_)) := hp0_N1_
  rcases hp0_N1_ with ⟨rfl, ha2_0_hp0_N1_⟩ | ⟨rfl, ha2_0_hp0_N1_⟩
  · skip
    show zW l m_M_sortOf (zn Mz + 0, zw Mz + 0) Mz 5 [some (.ref 81), some (.int (Int32.ofInt a0_))] [.int (Int32.ofInt 1)] _
    refine zr_if_eq (pc := 5) (tgt := 20) ⟨(by decide), (by decide)⟩ (by decide) (zdal_p dlD_M_sortOf_12 (i := 3) rfl) (fun hc_5 => ?_) (fun hc_5 => ?_)
    · skip
      exact absurd hc_5 (by decide)
    · skip
      refine zw_aload_n (pc := 8) (n := 0) (x := 81) rfl (zdal_p dlD_M_sortOf_12 (i := 4) rfl) ?_
      refine zw_aload_n (pc := 9) (n := 0) (x := 81) rfl (zdal_p dlD_M_sortOf_12 (i := 5) rfl) ?_
      refine zw_iload_n (pc := 10) (n := 1) (x := Int32.ofInt a0_) rfl (zdal_p dlD_M_sortOf_12 (i := 6) rfl) ?_
      refine zr_callV (hf.w hW) hf.x (pc := 11) [.int (Int32.ofInt a0_)] [.ref 81] l_M_229 (c_M_closed l Mz (hf.w hW) a0_ ha0_a ha0_b T hG dv0 (show gIn T a0_ by first | assumption | omega)) rfl rfl rfl (by decide) (Nat.le_of_ble_eq_true rfl) (zdal_p dlD_M_sortOf_12 (i := 7) rfl) ?_
      rintro _ N3_ ⟨v4_, rfl, ⟨hv4_a, hv4_b⟩, hsN3_, ⟨hp0_N3_, hp1_N3_, hp2_N3_⟩⟩
      obtain rfl := hsN3_.eq.symm
      show zW l m_M_sortOf (zn Mz + 0, zw Mz + 0) Mz 14 [some (.ref 81), some (.int (Int32.ofInt a0_))] [.int (Int32.ofInt v4_), .ref 81] _
      have hlc_ := hp0_N3_
      have hm_ := gMe_c hO hp0_N3_ (by omega)
      refine zr_callV (hf.w hW) hf.x (pc := 14) [.int (Int32.ofInt v4_)] [] l_M_411 (c_M_sortOfSetG l Mz (hf.w hW) v4_ hv4_a hv4_b T hO p0_ (show gMe T v4_ by exact hm_)) rfl rfl rfl (by decide) (Nat.le_of_ble_eq_true rfl) (zdal_p dlD_M_sortOf_12 (i := 8) rfl) ?_
      rintro _ N5_ ⟨v6_, rfl, ⟨hv6_a, hv6_b⟩, hsN5_, hp0_N5_⟩
      obtain rfl := hsN5_.eq.symm
      replace hp0_N5_ : zSrt T (v4_).toNat v6_ := hp0_N5_
      show zW l m_M_sortOf (zn Mz + 0, zw Mz + 0) Mz 17 [some (.ref 81), some (.int (Int32.ofInt a0_))] [.int (Int32.ofInt v6_)] _
      refine zw_goto (pc := 17) (tgt := 21) (by decide) (zdal_p dlD_M_sortOf_12 (i := 9) rfl) ?_
      exact zr_iret (pc := 21) (ty := .int) rfl rfl ⟨by omega, by omega⟩ hf (show ((gIn T a0_ ∧ ∃ R_ : Nat, gLC T (a0_).toNat R_ ∧ zSrt T R_ v6_) ∨ (¬ gIn T a0_ ∧ v6_ = (-1 : Int))) by first | exact Or.inr ⟨by assumption, rfl⟩ | exact Or.inl ⟨by assumption, _, hlc_, by assumption⟩) (zdal_p dlD_M_sortOf_12 (i := 11) rfl)
  · skip
    show zW l m_M_sortOf (zn Mz + 0, zw Mz + 0) Mz 5 [some (.ref 81), some (.int (Int32.ofInt a0_))] [.int (Int32.ofInt 0)] _
    refine zr_if_eq (pc := 5) (tgt := 20) ⟨(by decide), (by decide)⟩ (by decide) (zdal_p dlD_M_sortOf_12 (i := 3) rfl) (fun hc_5 => ?_) (fun hc_5 => ?_)
    · skip
      refine zw_iconst (pc := 20) (v := Int32.ofInt (-1)) (by decide) (zdal_p dlD_M_sortOf_12 (i := 10) rfl) ?_
      exact zr_iret (pc := 21) (ty := .int) rfl rfl ⟨by omega, by omega⟩ hf (show ((gIn T a0_ ∧ ∃ R_ : Nat, gLC T (a0_).toNat R_ ∧ zSrt T R_ ((-1))) ∨ (¬ gIn T a0_ ∧ ((-1)) = (-1 : Int))) by first | exact Or.inr ⟨by assumption, rfl⟩ | exact Or.inl ⟨by assumption, _, hlc_, by assumption⟩) (zdal_p dlD_M_sortOf_12 (i := 11) rfl)
    · skip
      exact absurd hc_5 (by decide)
