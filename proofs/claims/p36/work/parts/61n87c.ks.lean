set_option maxHeartbeats 4000000 in
theorem u_T_hasS (l : Launch) (d_ : Nat) (Mz : zMem) (hW : zKW d_ Mz) (hnow : zf Mz 0 2 = some (d_ + 0)) (a0_ : Int) (ha0_a : -2147483648 ≤ a0_) (ha0_b : a0_ < 2147483648) (F_ : Nat) (K_ : Nat → Nat → Int) (hA_ : zTA F_ K_) (s_ : zSg) (p0_ : zKm F_ K_ d_ Mz) (p1_ : zSK F_ s_ d_ Mz) : zC l m_T_has 0 0 [.ref 0, .int (Int32.ofInt a0_)] Mz (zqcJ d_ [] [] [] [] Mz (fun v N => ((((0 ≤ a0_ ∧ a0_ < (F_ : Int)) ∧ v = s_.1 (a0_).toNat) ∨ (¬ (0 ≤ a0_ ∧ a0_ < (F_ : Int)) ∧ v = (-9223372036854775808 : Int)))))) := by
  refine zC_of (L0 := [some (.ref 0), some (.int (Int32.ofInt a0_))]) md_T_has (Nat.le_of_ble_eq_true rfl) rfl ?_ zQ0
  have hf : zFc d_ [] [] [] [] Mz Mz := zFc.rf
  have r_D12_7 := ze_r Mz (d_ + 12) 7
  obtain ⟨⟨hF1_, hF27_⟩, hAr_⟩ := id hA_
  obtain ⟨hFc_, hKt_⟩ := id p0_
  refine zw_aload_n (pc := 0) (n := 0) (x := 0) rfl d_T_has_0 ?_
  refine zw_getF (pc := 1) f_T_28 rfl ((hf.w hW).ka (o := 0) (by decide)) (hf.now hnow) d_T_has_1 ?_
  refine zw_getF (pc := 4) f_T_85 rfl ((hf.w hW).kr (o := 0) (by decide)) ((hf.w hW).lr (o := 0) (s := 1) (r := 12) (by decide)) d_T_has_4 ?_
  refine zw_iload_n (pc := 7) (n := 1) (x := Int32.ofInt a0_) rfl d_T_has_7 ?_
  refine zk_callV hf.x (pc := 8) [.int (Int32.ofInt a0_)] [] l_T_143 (u_Sorts_hasSortG l d_ Mz (hf.w hW) a0_ ha0_a ha0_b) rfl rfl ((hf.w hW).kr (o := 12) (by decide)) (by decide) (by decide) (Nat.le_of_ble_eq_true rfl) d_T_has_8 ?_
  rintro _ N1_ ⟨v2_, rfl, ⟨hv2_a, hv2_b⟩, hsN1_, hp0_N1_⟩
  obtain rfl := hsN1_.eq.symm
  replace hp0_N1_ : ((v2_ = 1 ∧ 0 ≤ a0_ ∧ a0_ < ze Mz (d_ + 12) 7) ∨ (v2_ = 0 ∧ (a0_ < 0 ∨ ze Mz (d_ + 12) 7 ≤ a0_))) := hp0_N1_
  rcases hp0_N1_ with ⟨rfl, ha8_0_hp0_N1_, ha8_1_hp0_N1_⟩ | ⟨rfl, ha8_0_hp0_N1_⟩
  · skip
    show zW l m_T_has (zn Mz + 0, zw Mz + 0) Mz 11 [some (.ref 0), some (.int (Int32.ofInt a0_))] [.int (Int32.ofInt 1)] (zqcJ d_ [] [] [] [] Mz (fun v N => ((((0 ≤ a0_ ∧ a0_ < (F_ : Int)) ∧ v = s_.1 (a0_).toNat) ∨ (¬ (0 ≤ a0_ ∧ a0_ < (F_ : Int)) ∧ v = (-9223372036854775808 : Int))))))
    refine zr_if_eq (pc := 11) (tgt := 29) ⟨(by decide), (by decide)⟩ (by decide) d_T_has_11 (fun hc_11 => ?_) (fun hc_11 => ?_)
    · skip
      exact absurd hc_11 (by decide)
    · skip
      refine zw_aload_n (pc := 14) (n := 0) (x := 0) rfl d_T_has_14 ?_
      refine zw_getF (pc := 15) f_T_28 rfl ((hf.w hW).ka (o := 0) (by decide)) (hf.now hnow) d_T_has_15 ?_
      refine zw_getF (pc := 18) f_T_169 rfl ((hf.w hW).kr (o := 0) (by decide)) ((hf.w hW).lr (o := 0) (s := 2) (r := 23) (by decide)) d_T_has_18 ?_
      refine zw_iconst (pc := 21) (v := Int32.ofInt 0) (by decide) d_T_has_21 ?_
      refine zw_iload_n (pc := 22) (n := 1) (x := Int32.ofInt a0_) rfl d_T_has_22 ?_
      refine zk_callV hf.x (pc := 23) [.int (Int32.ofInt 0), .int (Int32.ofInt a0_)] [] l_T_179 (u_Sums_numberAt l d_ Mz (hf.w hW) 0 (by decide) (by decide) a0_ ha0_a ha0_b (show 0 ≤ 0 by first | assumption | omega) (show 0 ≤ 39 by first | assumption | omega) (show 0 ≤ a0_ by first | assumption | omega) (show a0_ ≤ 26 by first | assumption | omega)) rfl rfl ((hf.w hW).kr (o := 23) (by decide)) (by decide) (by decide) (Nat.le_of_ble_eq_true rfl) d_T_has_23 ?_
      rintro _ N3_ ⟨v4_, rfl, ⟨hv4_a, hv4_b⟩, hsN3_, hp0_N3_⟩
      obtain rfl := hsN3_.eq.symm
      replace hp0_N3_ : v4_ = zg Mz (d_ + 25) (0 * 27 + a0_).toNat := hp0_N3_
      show zW l m_T_has (zn Mz + 0, zw Mz + 0) Mz 26 [some (.ref 0), some (.int (Int32.ofInt a0_))] [.long (Int64.ofInt v4_)] (zqcJ d_ [] [] [] [] Mz (fun v N => ((((0 ≤ a0_ ∧ a0_ < (F_ : Int)) ∧ v = s_.1 (a0_).toNat) ∨ (¬ (0 ≤ a0_ ∧ a0_ < (F_ : Int)) ∧ v = (-9223372036854775808 : Int))))))
      have hv_ := hp0_N3_
      rw [show ((0 : Int) * 27 + a0_).toNat = (a0_).toNat by omega] at hv_
      have hw_ := hv_.trans (p1_.2.2.1 _ (by omega))
      refine zw_goto (pc := 26) (tgt := 32) (by decide) d_T_has_26 ?_
      exact zk_lret (pc := 32) rfl ⟨by omega, by omega⟩ hf (show (((0 ≤ a0_ ∧ a0_ < (F_ : Int)) ∧ v4_ = s_.1 (a0_).toNat) ∨ (¬ (0 ≤ a0_ ∧ a0_ < (F_ : Int)) ∧ v4_ = (-9223372036854775808 : Int))) by first | exact Or.inr ⟨by omega, rfl⟩ | exact Or.inl ⟨by omega, hw_⟩) d_T_has_32
  · skip
    show zW l m_T_has (zn Mz + 0, zw Mz + 0) Mz 11 [some (.ref 0), some (.int (Int32.ofInt a0_))] [.int (Int32.ofInt 0)] (zqcJ d_ [] [] [] [] Mz (fun v N => ((((0 ≤ a0_ ∧ a0_ < (F_ : Int)) ∧ v = s_.1 (a0_).toNat) ∨ (¬ (0 ≤ a0_ ∧ a0_ < (F_ : Int)) ∧ v = (-9223372036854775808 : Int))))))
    refine zr_if_eq (pc := 11) (tgt := 29) ⟨(by decide), (by decide)⟩ (by decide) d_T_has_11 (fun hc_11 => ?_) (fun hc_11 => ?_)
    · skip
      refine zr_ldc2 (pc := 29) (n := (-9223372036854775808)) (by decide) k_T_248 d_T_has_29 ?_
      exact zk_lret (pc := 32) rfl ⟨by omega, by omega⟩ hf (show (((0 ≤ a0_ ∧ a0_ < (F_ : Int)) ∧ ((-9223372036854775808)) = s_.1 (a0_).toNat) ∨ (¬ (0 ≤ a0_ ∧ a0_ < (F_ : Int)) ∧ ((-9223372036854775808)) = (-9223372036854775808 : Int))) by first | exact Or.inr ⟨by omega, rfl⟩ | exact Or.inl ⟨by omega, hw_⟩) d_T_has_32
    · skip
      exact absurd hc_11 (by decide)
