set_option maxHeartbeats 4000000 in
theorem c_M_sortOfSetG (l : Launch) (Mz : zMem) (hW : zMt Mz) (a0_ : Int) (ha0_a : -2147483648 ≤ a0_) (ha0_b : a0_ < 2147483648) (T : zGT) (hO : gOK T) (p0_ : zGB T Mz) (p1_ : gMe T a0_) : zC l m_M_sortOfSet 0 0 [.ref 81, .int (Int32.ofInt a0_)] Mz (zpI [] [] Mz (fun v N => zSrt T (a0_).toNat v)) := by
  refine zC_of (L0 := [some (.ref 81), some (.int (Int32.ofInt a0_))]) md_M_sortOfSet (Nat.le_of_ble_eq_true rfl) rfl ?_ zQ0
  have hf : zFr [] [] Mz Mz := zFr.rf
  have r_25 := ze_r Mz 81 25
  have hG := hO.1
  have g24 := hG.2.1
  have g1 := hG.1
  have dv0 : zTab T Mz := p0_.1
  have dv1 : zB 85 144 0 5 Mz := p0_.2.1
  have dv2 : zJX T Mz := p0_.2.2.1
  have dv3 : zFirs T Mz := p0_.2.2.2.1
  have dv4 : zSSm T Mz := p0_.2.2.2.2.1
  have dv5 : zGD Mz := zGB.d hO p0_
  have gb := dv5.1
  have gn := dv0.1
  refine zw_aload_n (pc := 0) (n := 0) (x := 81) rfl (zdal_p dlD_M_sortOfSet_13 (i := 0) rfl) ?_
  refine zr_getF (r := 90) (hf.w hW) (pc := 1) f_M_41 rfl (zh_90 (hf.w hW)).1 (zdal_p dlD_M_sortOfSet_13 (i := 1) rfl) ?_
  refine zw_aload_n (pc := 4) (n := 0) (x := 81) rfl (zdal_p dlD_M_sortOfSet_13 (i := 2) rfl) ?_
  refine zw_iload_n (pc := 5) (n := 1) (x := Int32.ofInt a0_) rfl (zdal_p dlD_M_sortOfSet_13 (i := 3) rfl) ?_
  refine zr_callV (hf.w hW) hf.x (pc := 6) [.int (Int32.ofInt a0_)] [.ref 90] l_M_232 (c_M_subIndex l Mz (hf.w hW) a0_ ha0_a ha0_b (show 0 ≤ ze Mz 81 25 by first | assumption | omega) (show ze Mz 81 25 ≤ 128 by first | assumption | omega)) rfl rfl rfl (by decide) (Nat.le_of_ble_eq_true rfl) (zdal_p dlD_M_sortOfSet_13 (i := 4) rfl) ?_
  rintro _ N1_ ⟨v2_, rfl, ⟨hv2_a, hv2_b⟩, hsN1_, hp0_N1_⟩
  obtain rfl := hsN1_.eq.symm
  replace hp0_N1_ : ((0 ≤ v2_ ∧ v2_ < ze Mz 81 25 ∧ ze Mz 89 (v2_).toNat = a0_) ∨ (v2_ = -1 ∧ ∀ k : Nat, (k : Int) < ze Mz 81 25 → ze Mz 89 k ≠ a0_)) := hp0_N1_
  rcases hp0_N1_ with ⟨ha6_0_hp0_N1_, ha6_1_hp0_N1_, ha6_2_hp0_N1_⟩ | ⟨rfl, ha6_0_hp0_N1_⟩
  · skip
    show zW l m_M_sortOfSet (zn Mz + 0, zw Mz + 0) Mz 9 [some (.ref 81), some (.int (Int32.ofInt a0_))] [.int (Int32.ofInt v2_), .ref 90] _
    have hs := dv4 (v2_).toNat (by omega)
    have hsx_ := zSS.o (k := (v2_).toNat) hO dv3 dv4 (by omega)
    have hsi_ := (show ze Mz 89 (v2_).toNat = a0_ by assumption)
    rw [hsi_] at hsx_
    refine zr_ialdn (pc := 9) (zh_90 (hf.w hW)).2 (by decide) (by omega) (by omega) (zdal_p dlD_M_sortOfSet_13 (i := 5) rfl) (fun v3_ hv3_ hv3_a hv3_b => ?_)
    have hv_ := hv3_
    exact zr_iret (pc := 10) (ty := .int) rfl rfl ⟨by omega, by omega⟩ hf (show zSrt T (a0_).toNat v3_ by rw [hv_]; exact hsx_) (zdal_p dlD_M_sortOfSet_13 (i := 6) rfl)
  · skip
    obtain ⟨i0, hi0, hi1⟩ := (p1_).f hO dv2
    exact absurd hi1 (ha6_0_hp0_N1_ i0 hi0)
set_option maxHeartbeats 4000000 in
theorem c_M_joinG (l : Launch) (Mz : zMem) (hW : zMt Mz) (a0_ : Int) (ha0_a : -2147483648 ≤ a0_) (ha0_b : a0_ < 2147483648) (a1_ : Int) (ha1_a : -2147483648 ≤ a1_) (ha1_b : a1_ < 2147483648) (T : zGT) (hO : gOK T) (p0_ : zGB T Mz) : zC l m_M_join 0 0 [.ref 81, .int (Int32.ofInt a0_), .int (Int32.ofInt a1_)] Mz (zpI [] [] Mz (fun v N => (((0 ≤ a0_ ∧ a0_ < ((gF T).length : Int) ∧ 0 ≤ a1_ ∧ a1_ < ((gF T).length : Int) ∧ ∃ R_ : Nat, gLC T (gFn T (a0_).toNat ||| gFn T (a1_).toNat) R_ ∧ zSrt T R_ v) ∨ (¬ (0 ≤ a0_ ∧ a0_ < ((gF T).length : Int) ∧ 0 ≤ a1_ ∧ a1_ < ((gF T).length : Int)) ∧ v = (-1 : Int)))))) := by
  refine zC_of (L0 := [some (.ref 81), some (.int (Int32.ofInt a0_)), some (.int (Int32.ofInt a1_))]) md_M_join (Nat.le_of_ble_eq_true rfl) rfl ?_ zQ0
  have hf : zFr [] [] Mz Mz := zFr.rf
  have r_26 := ze_r Mz 81 26
  have hG := hO.1
  have g24 := hG.2.1
  have g1 := hG.1
  have dv0 : zTab T Mz := p0_.1
  have dv1 : zB 85 144 0 5 Mz := p0_.2.1
  have dv2 : zJX T Mz := p0_.2.2.1
  have dv3 : zFirs T Mz := p0_.2.2.2.1
  have dv4 : zSSm T Mz := p0_.2.2.2.2.1
  have dv5 : zGD Mz := zGB.d hO p0_
  have gb := dv5.1
  have gn := dv0.1
  have hfl_ := dv3.1
  refine zw_aload_n (pc := 0) (n := 0) (x := 81) rfl (zdal_p dlD_M_join_22 (i := 0) rfl) ?_
  refine zw_iload_n (pc := 1) (n := 1) (x := Int32.ofInt a0_) rfl (zdal_p dlD_M_join_22 (i := 1) rfl) ?_
  refine zr_callV (hf.w hW) hf.x (pc := 2) [.int (Int32.ofInt a0_)] [] l_M_414 (c_M_isSortG l Mz (hf.w hW) a0_ ha0_a ha0_b T hO p0_) rfl rfl rfl (by decide) (Nat.le_of_ble_eq_true rfl) (zdal_p dlD_M_join_22 (i := 2) rfl) ?_
  rintro _ N1_ ⟨v2_, rfl, ⟨hv2_a, hv2_b⟩, hsN1_, hp0_N1_⟩
  obtain rfl := hsN1_.eq.symm
  replace hp0_N1_ : ((v2_ = 1 ∧ 0 ≤ a0_ ∧ a0_ < ze Mz 81 26) ∨ (v2_ = 0 ∧ (a0_ < 0 ∨ ze Mz 81 26 ≤ a0_))) := hp0_N1_
  rcases hp0_N1_ with ⟨rfl, ha2_0_hp0_N1_, ha2_1_hp0_N1_⟩ | ⟨rfl, ha2_0_hp0_N1_⟩
  · skip
    show zW l m_M_join (zn Mz + 0, zw Mz + 0) Mz 5 [some (.ref 81), some (.int (Int32.ofInt a0_)), some (.int (Int32.ofInt a1_))] [.int (Int32.ofInt 1)] _
    refine zr_if_eq (pc := 5) (tgt := 16) ⟨(by decide), (by decide)⟩ (by decide) (zdal_p dlD_M_join_22 (i := 3) rfl) (fun hc_5 => ?_) (fun hc_5 => ?_)
    · skip
      exact absurd hc_5 (by decide)
    · skip
      refine zw_aload_n (pc := 8) (n := 0) (x := 81) rfl (zdal_p dlD_M_join_22 (i := 4) rfl) ?_
      refine zw_iload_n (pc := 9) (n := 2) (x := Int32.ofInt a1_) rfl (zdal_p dlD_M_join_22 (i := 5) rfl) ?_
      refine zr_callV (hf.w hW) hf.x (pc := 10) [.int (Int32.ofInt a1_)] [] l_M_414 (c_M_isSortG l Mz (hf.w hW) a1_ ha1_a ha1_b T hO p0_) rfl rfl rfl (by decide) (Nat.le_of_ble_eq_true rfl) (zdal_p dlD_M_join_22 (i := 6) rfl) ?_
      rintro _ N3_ ⟨v4_, rfl, ⟨hv4_a, hv4_b⟩, hsN3_, hp0_N3_⟩
      obtain rfl := hsN3_.eq.symm
      replace hp0_N3_ : ((v4_ = 1 ∧ 0 ≤ a1_ ∧ a1_ < ze Mz 81 26) ∨ (v4_ = 0 ∧ (a1_ < 0 ∨ ze Mz 81 26 ≤ a1_))) := hp0_N3_
      rcases hp0_N3_ with ⟨rfl, ha10_0_hp0_N3_, ha10_1_hp0_N3_⟩ | ⟨rfl, ha10_0_hp0_N3_⟩
      · skip
        show zW l m_M_join (zn Mz + 0, zw Mz + 0) Mz 13 [some (.ref 81), some (.int (Int32.ofInt a0_)), some (.int (Int32.ofInt a1_))] [.int (Int32.ofInt 1)] _
        refine zr_if_ne (pc := 13) (tgt := 18) ⟨(by decide), (by decide)⟩ (by decide) (zdal_p dlD_M_join_22 (i := 7) rfl) (fun hc_13 => ?_) (fun hc_13 => ?_)
        · skip
          refine zw_aload_n (pc := 18) (n := 0) (x := 81) rfl (zdal_p dlD_M_join_22 (i := 10) rfl) ?_
          refine zw_aload_n (pc := 19) (n := 0) (x := 81) rfl (zdal_p dlD_M_join_22 (i := 11) rfl) ?_
          refine zw_aload_n (pc := 20) (n := 0) (x := 81) rfl (zdal_p dlD_M_join_22 (i := 12) rfl) ?_
          refine zr_getF (r := 91) (hf.w hW) (pc := 21) f_M_44 rfl (zh_91 (hf.w hW)).1 (zdal_p dlD_M_join_22 (i := 13) rfl) ?_
          refine zw_iload_n (pc := 24) (n := 1) (x := Int32.ofInt a0_) rfl (zdal_p dlD_M_join_22 (i := 14) rfl) ?_
          refine zr_ialdn (pc := 25) (zh_91 (hf.w hW)).2 (by decide) (by omega) (by omega) (zdal_p dlD_M_join_22 (i := 15) rfl) (fun v5_ hv5_ hv5_a hv5_b => ?_)
          have h1 := dv3.g hO (e := a0_) (by omega) (by omega)
          refine zr_toI (show v5_ = ze Mz 91 (a0_).toNat by omega) ?_
          have hfwa_ : (ze Mz 91 (a0_).toNat) = ((gFn T (a0_).toNat : Nat) : Int) := dv3.2 _ (by omega)
          have hfma_ := (hO.2.2.1.2.1 _ (gFn_m (T := T) (i := (a0_).toNat) (by omega))).1
          have hfba_ := gS_b hO hfma_
          refine zw_aload_n (pc := 26) (n := 0) (x := 81) rfl (zdal_p dlD_M_join_22 (i := 16) rfl) ?_
          refine zr_getF (r := 91) (hf.w hW) (pc := 27) f_M_44 rfl (zh_91 (hf.w hW)).1 (zdal_p dlD_M_join_22 (i := 17) rfl) ?_
          refine zw_iload_n (pc := 30) (n := 2) (x := Int32.ofInt a1_) rfl (zdal_p dlD_M_join_22 (i := 18) rfl) ?_
          refine zr_ialdn (pc := 31) (zh_91 (hf.w hW)).2 (by decide) (by omega) (by omega) (zdal_p dlD_M_join_22 (i := 19) rfl) (fun v6_ hv6_ hv6_a hv6_b => ?_)
          have h2 := dv3.g hO (e := a1_) (by omega) (by omega)
          refine zr_toI (show v6_ = ze Mz 91 (a1_).toNat by omega) ?_
          have hfwb_ : (ze Mz 91 (a1_).toNat) = ((gFn T (a1_).toNat : Nat) : Int) := dv3.2 _ (by omega)
          have hfmb_ := (hO.2.2.1.2.1 _ (gFn_m (T := T) (i := (a1_).toNat) (by omega))).1
          have hfbb_ := gS_b hO hfmb_
          refine zr_ior (pc := 32) (zdal_p dlD_M_join_22 (i := 20) rfl) ?_
          have hr7_ := zor_r (ze Mz 91 (a0_).toNat) (ze Mz 91 (a1_).toNat)
          have hnd_ : (zor (ze Mz 91 (a0_).toNat) (ze Mz 91 (a1_).toNat)) = (((gFn T (a0_).toNat ||| gFn T (a1_).toNat) : Nat) : Int) := by rw [hfwa_, hfwb_]; exact zor_n _ _ (by omega) (by omega)
          refine zr_callV (hf.w hW) hf.x (pc := 33) [.int (Int32.ofInt (zor (ze Mz 91 (a0_).toNat) (ze Mz 91 (a1_).toNat)))] [.ref 81] l_M_229 (c_M_closed l Mz (hf.w hW) (zor (ze Mz 91 (a0_).toNat) (ze Mz 91 (a1_).toNat)) (by omega) (by omega) T hG dv0 (show gIn T (zor (ze Mz 91 (a0_).toNat) (ze Mz 91 (a1_).toNat)) by exact gIn_o hG (h1.1.i hO) (h2.1.i hO))) rfl rfl rfl (by decide) (Nat.le_of_ble_eq_true rfl) (zdal_p dlD_M_join_22 (i := 21) rfl) ?_
          rintro _ N8_ ⟨v9_, rfl, ⟨hv9_a, hv9_b⟩, hsN8_, ⟨hp0_N8_, hp1_N8_, hp2_N8_⟩⟩
          obtain rfl := hsN8_.eq.symm
          show zW l m_M_join (zn Mz + 0, zw Mz + 0) Mz 36 [some (.ref 81), some (.int (Int32.ofInt a0_)), some (.int (Int32.ofInt a1_))] [.int (Int32.ofInt v9_), .ref 81] _
          have hm_Mz := gMe_c hO hp0_N8_ (by omega)
          have hlc_ := hp0_N8_
          rw [hnd_, Int.toNat_natCast] at hlc_
          refine zr_callV (hf.w hW) hf.x (pc := 36) [.int (Int32.ofInt v9_)] [] l_M_411 (c_M_sortOfSetG l Mz (hf.w hW) v9_ hv9_a hv9_b T hO p0_ (show gMe T v9_ by assumption)) rfl rfl rfl (by decide) (Nat.le_of_ble_eq_true rfl) (zdal_p dlD_M_join_22 (i := 22) rfl) ?_
          rintro _ N10_ ⟨v11_, rfl, ⟨hv11_a, hv11_b⟩, hsN10_, hp0_N10_⟩
          obtain rfl := hsN10_.eq.symm
          replace hp0_N10_ : zSrt T (v9_).toNat v11_ := hp0_N10_
          show zW l m_M_join (zn Mz + 0, zw Mz + 0) Mz 39 [some (.ref 81), some (.int (Int32.ofInt a0_)), some (.int (Int32.ofInt a1_))] [.int (Int32.ofInt v11_)] _
          have hsp_ := hp0_N10_
          exact zr_iret (pc := 39) (ty := .int) rfl rfl ⟨by omega, by omega⟩ hf (show ((0 ≤ a0_ ∧ a0_ < ((gF T).length : Int) ∧ 0 ≤ a1_ ∧ a1_ < ((gF T).length : Int) ∧ ∃ R_ : Nat, gLC T (gFn T (a0_).toNat ||| gFn T (a1_).toNat) R_ ∧ zSrt T R_ v11_) ∨ (¬ (0 ≤ a0_ ∧ a0_ < ((gF T).length : Int) ∧ 0 ≤ a1_ ∧ a1_ < ((gF T).length : Int)) ∧ v11_ = (-1 : Int))) by first | exact Or.inr ⟨by omega, rfl⟩ | exact Or.inl ⟨by omega, by omega, by omega, by omega, _, hlc_, hsp_⟩) (zdal_p dlD_M_join_22 (i := 23) rfl)
        · skip
          exact absurd hc_13 (by decide)
      · skip
        show zW l m_M_join (zn Mz + 0, zw Mz + 0) Mz 13 [some (.ref 81), some (.int (Int32.ofInt a0_)), some (.int (Int32.ofInt a1_))] [.int (Int32.ofInt 0)] _
        refine zr_if_ne (pc := 13) (tgt := 18) ⟨(by decide), (by decide)⟩ (by decide) (zdal_p dlD_M_join_22 (i := 7) rfl) (fun hc_13 => ?_) (fun hc_13 => ?_)
        · skip
          exact absurd hc_13 (by decide)
        · skip
          refine zw_iconst (pc := 16) (v := Int32.ofInt (-1)) (by decide) (zdal_p dlD_M_join_22 (i := 8) rfl) ?_
          exact zr_iret (pc := 17) (ty := .int) rfl rfl ⟨by omega, by omega⟩ hf (show ((0 ≤ a0_ ∧ a0_ < ((gF T).length : Int) ∧ 0 ≤ a1_ ∧ a1_ < ((gF T).length : Int) ∧ ∃ R_ : Nat, gLC T (gFn T (a0_).toNat ||| gFn T (a1_).toNat) R_ ∧ zSrt T R_ ((-1))) ∨ (¬ (0 ≤ a0_ ∧ a0_ < ((gF T).length : Int) ∧ 0 ≤ a1_ ∧ a1_ < ((gF T).length : Int)) ∧ ((-1)) = (-1 : Int))) by first | exact Or.inr ⟨by omega, rfl⟩ | exact Or.inl ⟨by omega, by omega, by omega, by omega, _, hlc_, hsp_⟩) (zdal_p dlD_M_join_22 (i := 9) rfl)
  · skip
    show zW l m_M_join (zn Mz + 0, zw Mz + 0) Mz 5 [some (.ref 81), some (.int (Int32.ofInt a0_)), some (.int (Int32.ofInt a1_))] [.int (Int32.ofInt 0)] _
    refine zr_if_eq (pc := 5) (tgt := 16) ⟨(by decide), (by decide)⟩ (by decide) (zdal_p dlD_M_join_22 (i := 3) rfl) (fun hc_5 => ?_) (fun hc_5 => ?_)
    · skip
      refine zw_iconst (pc := 16) (v := Int32.ofInt (-1)) (by decide) (zdal_p dlD_M_join_22 (i := 8) rfl) ?_
      exact zr_iret (pc := 17) (ty := .int) rfl rfl ⟨by omega, by omega⟩ hf (show ((0 ≤ a0_ ∧ a0_ < ((gF T).length : Int) ∧ 0 ≤ a1_ ∧ a1_ < ((gF T).length : Int) ∧ ∃ R_ : Nat, gLC T (gFn T (a0_).toNat ||| gFn T (a1_).toNat) R_ ∧ zSrt T R_ ((-1))) ∨ (¬ (0 ≤ a0_ ∧ a0_ < ((gF T).length : Int) ∧ 0 ≤ a1_ ∧ a1_ < ((gF T).length : Int)) ∧ ((-1)) = (-1 : Int))) by first | exact Or.inr ⟨by omega, rfl⟩ | exact Or.inl ⟨by omega, by omega, by omega, by omega, _, hlc_, hsp_⟩) (zdal_p dlD_M_join_22 (i := 9) rfl)
    · skip
      exact absurd hc_5 (by decide)
