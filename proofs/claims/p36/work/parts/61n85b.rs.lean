set_option maxHeartbeats 4000000 in
theorem c_M_hasS (l : Launch) (Mz : zMem) (hW : zMt Mz) (a0_ : Int) (ha0_a : -2147483648 ≤ a0_) (ha0_b : a0_ < 2147483648) (F_ : Nat) (K_ : Nat → Nat → Int) (hA_ : zTA F_ K_) (s_ : zSg) (p0_ : zRmk F_ K_ Mz) (p1_ : zSR F_ s_ Mz) : zC l m_M_has 0 0 [.ref 81, .int (Int32.ofInt a0_)] Mz (zpJ [] [] Mz (fun v N => ((((0 ≤ a0_ ∧ a0_ < (F_ : Int)) ∧ v = s_.1 (a0_).toNat) ∨ (¬ (0 ≤ a0_ ∧ a0_ < (F_ : Int)) ∧ v = (-9223372036854775808 : Int)))))) := by
  refine zC_of (L0 := [some (.ref 81), some (.int (Int32.ofInt a0_))]) md_M_has (Nat.le_of_ble_eq_true rfl) rfl ?_ zQ0
  have hf : zFr [] [] Mz Mz := zFr.rf
  obtain ⟨⟨hF1_, hF27_⟩, hAr_⟩ := id hA_
  obtain ⟨hFc_, hKt_⟩ := id p0_
  obtain ⟨⟨hs1_, hs2_⟩, hs3_, hs4_⟩ := id p1_
  refine zw_aload_n (pc := 0) (n := 0) (x := 81) rfl d_M_has_0 ?_
  refine zw_iload_n (pc := 1) (n := 1) (x := Int32.ofInt a0_) rfl d_M_has_1 ?_
  refine zr_callV (hf.w hW) hf.x (pc := 2) [.int (Int32.ofInt a0_)] [] l_M_414 (c_M_isSortF l Mz (hf.w hW) a0_ ha0_a ha0_b F_ K_ hA_ p0_) rfl rfl rfl (by decide) (Nat.le_of_ble_eq_true rfl) d_M_has_2 ?_
  rintro _ N1_ ⟨v2_, rfl, ⟨hv2_a, hv2_b⟩, hsN1_, hp0_N1_⟩
  obtain rfl := hsN1_.eq.symm
  replace hp0_N1_ : ((v2_ = 1 ∧ 0 ≤ a0_ ∧ a0_ < (F_ : Int)) ∨ (v2_ = 0 ∧ (a0_ < 0 ∨ (F_ : Int) ≤ a0_))) := hp0_N1_
  rcases hp0_N1_ with ⟨rfl, ha2_0_hp0_N1_, ha2_1_hp0_N1_⟩ | ⟨rfl, ha2_0_hp0_N1_⟩
  · skip
    show zW l m_M_has (zn Mz + 0, zw Mz + 0) Mz 5 [some (.ref 81), some (.int (Int32.ofInt a0_))] [.int (Int32.ofInt 1)] (zpJ [] [] Mz (fun v N => ((((0 ≤ a0_ ∧ a0_ < (F_ : Int)) ∧ v = s_.1 (a0_).toNat) ∨ (¬ (0 ≤ a0_ ∧ a0_ < (F_ : Int)) ∧ v = (-9223372036854775808 : Int))))))
    refine zr_if_eq (pc := 5) (tgt := 17) ⟨(by decide), (by decide)⟩ (by decide) d_M_has_5 (fun hc_5 => ?_) (fun hc_5 => ?_)
    · skip
      exact absurd hc_5 (by decide)
    · skip
      refine zw_aload_n (pc := 8) (n := 0) (x := 81) rfl d_M_has_8 ?_
      refine zr_getF (r := 98) (hf.w hW) (pc := 9) f_M_66 rfl (zh_98 (hf.w hW)).1 d_M_has_9 ?_
      refine zw_iload_n (pc := 12) (n := 1) (x := Int32.ofInt a0_) rfl d_M_has_12 ?_
      refine zr_laldn (pc := 13) (zh_98 (hf.w hW)).2 (by decide) (by omega) (by omega) d_M_has_13 (fun v3_ hv3_ hv3_a hv3_b => ?_)
      have hv_ := hv3_.trans (hs3_ _ (by omega))
      refine zw_goto (pc := 14) (tgt := 20) (by decide) d_M_has_14 ?_
      exact zr_lret (pc := 20) rfl ⟨by omega, by omega⟩ hf (show (((0 ≤ a0_ ∧ a0_ < (F_ : Int)) ∧ v3_ = s_.1 (a0_).toNat) ∨ (¬ (0 ≤ a0_ ∧ a0_ < (F_ : Int)) ∧ v3_ = (-9223372036854775808 : Int))) by first | exact Or.inr ⟨by omega, rfl⟩ | exact Or.inl ⟨by omega, hv_⟩) d_M_has_20
  · skip
    show zW l m_M_has (zn Mz + 0, zw Mz + 0) Mz 5 [some (.ref 81), some (.int (Int32.ofInt a0_))] [.int (Int32.ofInt 0)] (zpJ [] [] Mz (fun v N => ((((0 ≤ a0_ ∧ a0_ < (F_ : Int)) ∧ v = s_.1 (a0_).toNat) ∨ (¬ (0 ≤ a0_ ∧ a0_ < (F_ : Int)) ∧ v = (-9223372036854775808 : Int))))))
    refine zr_if_eq (pc := 5) (tgt := 17) ⟨(by decide), (by decide)⟩ (by decide) d_M_has_5 (fun hc_5 => ?_) (fun hc_5 => ?_)
    · skip
      refine zr_ldc2 (pc := 17) (n := (-9223372036854775808)) (by decide) k_M_470 d_M_has_17 ?_
      exact zr_lret (pc := 20) rfl ⟨by omega, by omega⟩ hf (show (((0 ≤ a0_ ∧ a0_ < (F_ : Int)) ∧ ((-9223372036854775808)) = s_.1 (a0_).toNat) ∨ (¬ (0 ≤ a0_ ∧ a0_ < (F_ : Int)) ∧ ((-9223372036854775808)) = (-9223372036854775808 : Int))) by first | exact Or.inr ⟨by omega, rfl⟩ | exact Or.inl ⟨by omega, hv_⟩) d_M_has_20
    · skip
      exact absurd hc_5 (by decide)
