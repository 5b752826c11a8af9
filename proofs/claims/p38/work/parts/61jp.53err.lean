set_option maxHeartbeats 4000000 in
theorem c_M_sortOfSetG (l : Launch) (Mz : zMem) (hW : zMt Mz) (a0_ : Int) (ha0_a : -2147483648 ≤ a0_) (ha0_b : a0_ < 2147483648) (T : zGT) (hO : gOK T) (p0_ : zGB T Mz) (p1_ : gMe T a0_) : zC l m_M_sortOfSet 0 0 [.ref 81, .int (Int32.ofInt a0_)] Mz (zpI [] [] Mz (fun v N => zSrt T (a0_).toNat v)) := by
  refine zC_of (L0 := [some (.ref 81), some (.int (Int32.ofInt a0_))]) md_M_sortOfSet (Nat.le_of_ble_eq_true rfl) rfl ?_ zQ0
  have hf : zFr [] [] Mz Mz := zFr.rf
  have r_25 := ze_r Mz 81 25
  have hG := hO.1
  have g24 := hG.2.1
  have g1 := hG.1
  have dv0 : zTab T Mz := p0_.1
  have dv1 : zB 85 144 0 5 Mz := p0_.2.1
  have dv2 : zJX T Mz := p0_.2.2.1
  have dv3 : zFirs T Mz := p0_.2.2.2.1
  have dv4 : zSSm T Mz := p0_.2.2.2.2.1
  have dv5 : zGD Mz := zGB.d hO p0_
  have gb := dv5.1
  have gn := dv0.1
  refine zw_aload_n (pc := 0) (n := 0) (x := 81) rfl (zdal_p dlD_M_sortOfSet_13 (i := 0) rfl) ?_
  refine zr_getF (r := 90) (hf.w hW) (pc := 1) f_M_41 rfl (zh_90 (hf.w hW)).1 (zdal_p dlD_M_sortOfSet_13 (i := 1) rfl) ?_
  refine zw_aload_n (pc := 4) (n := 0) (x := 81) rfl (zdal_p dlD_M_sortOfSet_13 (i := 2) rfl) ?_
  refine zw_iload_n (pc := 5) (n := 1) (x := Int32.ofInt a0_) rfl (zdal_p dlD_M_sortOfSet_13 (i := 3) rfl) ?_
  refine zr_callV (hf.w hW) hf.x (pc := 6) [.int (Int32.ofInt a0_)] [.ref 90] l_M_232 (c_M_subIndex l Mz (hf.w hW) a0_ ha0_a ha0_b (show 0 ≤ ze Mz 81 25 by first | with_reducible assumption | assumption | omega) (show ze Mz 81 25 ≤ 128 by first | with_reducible assumption | assumption | omega)) rfl rfl rfl (by decide) (Nat.le_of_ble_eq_true rfl) (zdal_p dlD_M_sortOfSet_13 (i := 4) rfl) ?_
  rintro _ N1_ ⟨v2_, rfl, ⟨hv2_a, hv2_b⟩, hsN1_, hp0_N1_⟩
  obtain rfl := hsN1_.eq.symm
  replace hp0_N1_ : ((0 ≤ v2_ ∧ v2_ < ze Mz 81 25 ∧ ze Mz 89 (v2_).toNat = a0_) ∨ (v2_ = -1 ∧ ∀ k : Nat, (k : Int) < ze Mz 81 25 → ze Mz 89 k ≠ a0_)) := hp0_N1_
  rcases hp0_N1_ with ⟨ha6_0_hp0_N1_, ha6_1_hp0_N1_, ha6_2_hp0_N1_⟩ | ⟨rfl, ha6_0_hp0_N1_⟩
  · skip
    show zW l m_M_sortOfSet (zn Mz + 0, zw Mz + 0) Mz 9 [some (.ref 81), some (.int (Int32.ofInt a0_))] [.int (Int32.ofInt v2_), .ref 90] _
    have hs := dv4 (v2_).toNat (by omega)
    have hsx_ := zSS.o (k := (v2_).toNat) hO dv3 dv4 (by omega)
    have hsi_ := (show ze Mz 89 (v2_).toNat = a0_ by first | with_reducible assumption | assumption)
    rw [hsi_] at hsx_
    refine zr_ialdn (pc := 9) (zh_90 (hf.w hW)).2 (by decide) (by omega) (by omega) (zdal_p dlD_M_sortOfSet_13 (i := 5) rfl) (fun v3_ hv3_ hv3_a hv3_b => ?_)
    have hv_ := hv3_
    exact zr_iret (pc := 10) (ty := .int) rfl rfl ⟨by omega, by omega⟩ hf (show zSrt T (a0_).toNat v3_ by rw [hv_]; exact hsx_) (zdal_p dlD_M_sortOfSet_13 (i := 6) rfl)
  · skip
    obtain ⟨i0, hi0, hi1⟩ := (p1_).f hO dv2
    exact absurd hi1 (ha6_0_hp0_N1_ i0 hi0)
