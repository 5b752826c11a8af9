/-! 85b -/
set_option maxHeartbeats 4000000 in
theorem c_M_hasS (l : Launch) (Mz : zMem) (hW : zMt Mz) (a0_ : Int) (ha0_a : -2147483648 ≤ a0_) (ha0_b : a0_ < 2147483648) (F_ : Nat) (K_ : Nat → Nat → Int) (hA_ : zTA F_ K_) (s_ : zSg) (p0_ : zRmk F_ K_ Mz) (p1_ : zSR F_ s_ Mz) : zC l m_M_has 0 0 [.ref 81, .int (Int32.ofInt a0_)] Mz (zpJ [] [] Mz (fun v N => ((((0 ≤ a0_ ∧ a0_ < (F_ : Int)) ∧ v = s_.1 (a0_).toNat) ∨ (¬ (0 ≤ a0_ ∧ a0_ < (F_ : Int)) ∧ v = (-9223372036854775808 : Int)))))) := by
  refine zC_of (L0 := [some (.ref 81), some (.int (Int32.ofInt a0_))]) md_M_has (Nat.le_of_ble_eq_true rfl) rfl ?_ zQ0
  have hf : zFr [] [] Mz Mz := zFr.rf
  obtain ⟨⟨hF1_, hF27_⟩, hAr_⟩ := id hA_
  obtain ⟨hFc_, hKt_⟩ := id p0_
  obtain ⟨⟨hs1_, hs2_⟩, hs3_, hs4_⟩ := id p1_
  refine zw_aload_n (pc := 0) (n := 0) (x := 81) rfl d_M_has_0 ?_
  refine zw_iload_n (pc := 1) (n := 1) (x := Int32.ofInt a0_) rfl d_M_has_1 ?_
  refine zr_callV (hf.w hW) hf.x (pc := 2) [.int (Int32.ofInt a0_)] [] l_M_414 (c_M_isSortF l Mz (hf.w hW) a0_ ha0_a ha0_b F_ K_ hA_ p0_) rfl rfl rfl (by decide) (Nat.le_of_ble_eq_true rfl) d_M_has_2 ?_
  rintro _ N1_ ⟨v2_, rfl, ⟨hv2_a, hv2_b⟩, hsN1_, hp0_N1_⟩
  obtain rfl := hsN1_.eq.symm
  replace hp0_N1_ : ((v2_ = 1 ∧ 0 ≤ a0_ ∧ a0_ < (F_ : Int)) ∨ (v2_ = 0 ∧ (a0_ < 0 ∨ (F_ : Int) ≤ a0_))) := hp0_N1_
  rcases hp0_N1_ with ⟨rfl, ha2_0_hp0_N1_, ha2_1_hp0_N1_⟩ | ⟨rfl, ha2_0_hp0_N1_⟩
  · skip
    show zW l m_M_has (zn Mz + 0, zw Mz + 0) Mz 5 [some (.ref 81), some (.int (Int32.ofInt a0_))] [.int (Int32.ofInt 1)] (zpJ [] [] Mz (fun v N => ((((0 ≤ a0_ ∧ a0_ < (F_ : Int)) ∧ v = s_.1 (a0_).toNat) ∨ (¬ (0 ≤ a0_ ∧ a0_ < (F_ : Int)) ∧ v = (-9223372036854775808 : Int))))))
    refine zr_if_eq (pc := 5) (tgt := 17) ⟨(by decide), (by decide)⟩ (by decide) d_M_has_5 (fun hc_5 => ?_) (fun hc_5 => ?_)
    · skip
      exact absurd hc_5 (by decide)
    · skip
      refine zw_aload_n (pc := 8) (n := 0) (x := 81) rfl d_M_has_8 ?_
      refine zr_getF (r := 98) (hf.w hW) (pc := 9) f_M_66 rfl (zh_98 (hf.w hW)).1 d_M_has_9 ?_
      refine zw_iload_n (pc := 12) (n := 1) (x := Int32.ofInt a0_) rfl d_M_has_12 ?_
      refine zr_laldn (pc := 13) (zh_98 (hf.w hW)).2 (by decide) (by omega) (by omega) d_M_has_13 (fun v3_ hv3_ hv3_a hv3_b => ?_)
      have hv_ := hv3_.trans (hs3_ _ (by omega))
      refine zw_goto (pc := 14) (tgt := 20) (by decide) d_M_has_14 ?_
      exact zr_lret (pc := 20) rfl ⟨by omega, by omega⟩ hf (show (((0 ≤ a0_ ∧ a0_ < (F_ : Int)) ∧ v3_ = s_.1 (a0_).toNat) ∨ (¬ (0 ≤ a0_ ∧ a0_ < (F_ : Int)) ∧ v3_ = (-9223372036854775808 : Int))) by first | exact Or.inr ⟨by omega, rfl⟩ | exact Or.inl ⟨by omega, hv_⟩) d_M_has_20
  · skip
    show zW l m_M_has (zn Mz + 0, zw Mz + 0) Mz 5 [some (.ref 81), some (.int (Int32.ofInt a0_))] [.int (Int32.ofInt 0)] (zpJ [] [] Mz (fun v N => ((((0 ≤ a0_ ∧ a0_ < (F_ : Int)) ∧ v = s_.1 (a0_).toNat) ∨ (¬ (0 ≤ a0_ ∧ a0_ < (F_ : Int)) ∧ v = (-9223372036854775808 : Int))))))
    refine zr_if_eq (pc := 5) (tgt := 17) ⟨(by decide), (by decide)⟩ (by decide) d_M_has_5 (fun hc_5 => ?_) (fun hc_5 => ?_)
    · skip
      refine zr_ldc2 (pc := 17) (n := (-9223372036854775808)) (by decide) k_M_470 d_M_has_17 ?_
      exact zr_lret (pc := 20) rfl ⟨by omega, by omega⟩ hf (show (((0 ≤ a0_ ∧ a0_ < (F_ : Int)) ∧ ((-9223372036854775808)) = s_.1 (a0_).toNat) ∨ (¬ (0 ≤ a0_ ∧ a0_ < (F_ : Int)) ∧ ((-9223372036854775808)) = (-9223372036854775808 : Int))) by first | exact Or.inr ⟨by omega, rfl⟩ | exact Or.inl ⟨by omega, hv_⟩) d_M_has_20
    · skip
      exact absurd hc_5 (by decide)
set_option maxHeartbeats 4000000 in
theorem c_M_namedS (l : Launch) (Mz : zMem) (hW : zMt Mz) (a0_ : Int) (ha0_a : -2147483648 ≤ a0_) (ha0_b : a0_ < 2147483648) (a1_ : Int) (ha1_a : -2147483648 ≤ a1_) (ha1_b : a1_ < 2147483648) (F_ : Nat) (K_ : Nat → Nat → Int) (hA_ : zTA F_ K_) (nm_ : List (Int × (Nat → Int))) (p0_ : zRmk F_ K_ Mz) (p1_ : zRNi nm_ F_ K_ Mz) : zC l m_M_named 0 0 [.ref 81, .int (Int32.ofInt a0_), .int (Int32.ofInt a1_)] Mz (zpJ [] [] Mz (fun v N => (((((0 ≤ a0_ ∧ a0_ < (nm_.length : Int)) ∧ (0 ≤ a1_ ∧ a1_ < (F_ : Int))) ∧ v = zvun nm_ (a0_).toNat (a1_).toNat) ∨ (¬ ((0 ≤ a0_ ∧ a0_ < (nm_.length : Int)) ∧ (0 ≤ a1_ ∧ a1_ < (F_ : Int))) ∧ v = (-9223372036854775808 : Int)))))) := by
  refine zC_of (L0 := [some (.ref 81), some (.int (Int32.ofInt a0_)), some (.int (Int32.ofInt a1_))]) md_M_named (Nat.le_of_ble_eq_true rfl) rfl ?_ zQ0
  have hf : zFr [] [] Mz Mz := zFr.rf
  have r_18 := ze_r Mz 81 18
  obtain ⟨⟨hF1_, hF27_⟩, hAr_⟩ := id hA_
  obtain ⟨hFc_, hKt_⟩ := id p0_
  have hnl_ := p1_.n
  obtain ⟨⟨hn0_, hn8_⟩, -⟩ := id p1_
  refine zw_iload_n (pc := 0) (n := 1) (x := Int32.ofInt a0_) rfl d_M_named_0 ?_
  refine zr_i2l (pc := 1) ⟨ha0_a, ha0_b⟩ d_M_named_1 ?_
  refine zw_lconst (pc := 2) (v := Int64.ofInt 0) (by decide) d_M_named_2 ?_
  refine zw_aload_n (pc := 3) (n := 0) (x := 81) rfl d_M_named_3 ?_
  refine zr_getI0 hf hW (pc := 4) (by decide) f_M_388 rfl d_M_named_4 ?_
  refine zw_iconst (pc := 7) (v := Int32.ofInt 1) (by decide) d_M_named_7 ?_
  refine zr_isub (pc := 8) d_M_named_8 ?_
  refine zr_i2l (pc := 9) ⟨(by omega), (by omega)⟩ d_M_named_9 ?_
  refine zr_callS hf.x (pc := 10) [.long (Int64.ofInt a0_), .long (Int64.ofInt 0), .long (Int64.ofInt ((ze Mz 81 18) - 1))] [] l_M_131 (c_M_isIn l Mz (hf.w hW) a0_ (by omega) (by omega) 0 (by decide) (by decide) ((ze Mz 81 18) - 1) (by omega) (by omega)) rfl rfl (by decide) (Nat.le_of_ble_eq_true rfl) d_M_named_10 ?_
  rintro _ N1_ ⟨v2_, rfl, ⟨hv2_a, hv2_b⟩, hsN1_, hp0_N1_⟩
  obtain rfl := hsN1_.eq.symm
  replace hp0_N1_ : ((v2_ = 1 ∧ 0 ≤ a0_ ∧ a0_ ≤ ((ze Mz 81 18) - 1)) ∨ (v2_ = 0 ∧ (a0_ < 0 ∨ ((ze Mz 81 18) - 1) < a0_))) := hp0_N1_
  rcases hp0_N1_ with ⟨rfl, ha10_0_hp0_N1_, ha10_1_hp0_N1_⟩ | ⟨rfl, ha10_0_hp0_N1_⟩
  · skip
    show zW l m_M_named (zn Mz + 0, zw Mz + 0) Mz 13 [some (.ref 81), some (.int (Int32.ofInt a0_)), some (.int (Int32.ofInt a1_))] [.int (Int32.ofInt 1)] (zpJ [] [] Mz (fun v N => (((((0 ≤ a0_ ∧ a0_ < (nm_.length : Int)) ∧ (0 ≤ a1_ ∧ a1_ < (F_ : Int))) ∧ v = zvun nm_ (a0_).toNat (a1_).toNat) ∨ (¬ ((0 ≤ a0_ ∧ a0_ < (nm_.length : Int)) ∧ (0 ≤ a1_ ∧ a1_ < (F_ : Int))) ∧ v = (-9223372036854775808 : Int))))))
    refine zr_if_eq (pc := 13) (tgt := 38) ⟨(by decide), (by decide)⟩ (by decide) d_M_named_13 (fun hc_13 => ?_) (fun hc_13 => ?_)
    · skip
      exact absurd hc_13 (by decide)
    · skip
      refine zw_aload_n (pc := 16) (n := 0) (x := 81) rfl d_M_named_16 ?_
      refine zw_iload_n (pc := 17) (n := 2) (x := Int32.ofInt a1_) rfl d_M_named_17 ?_
      refine zr_callV (hf.w hW) hf.x (pc := 18) [.int (Int32.ofInt a1_)] [] l_M_414 (c_M_isSortF l Mz (hf.w hW) a1_ ha1_a ha1_b F_ K_ hA_ p0_) rfl rfl rfl (by decide) (Nat.le_of_ble_eq_true rfl) d_M_named_18 ?_
      rintro _ N3_ ⟨v4_, rfl, ⟨hv4_a, hv4_b⟩, hsN3_, hp0_N3_⟩
      obtain rfl := hsN3_.eq.symm
      replace hp0_N3_ : ((v4_ = 1 ∧ 0 ≤ a1_ ∧ a1_ < (F_ : Int)) ∨ (v4_ = 0 ∧ (a1_ < 0 ∨ (F_ : Int) ≤ a1_))) := hp0_N3_
      rcases hp0_N3_ with ⟨rfl, ha18_0_hp0_N3_, ha18_1_hp0_N3_⟩ | ⟨rfl, ha18_0_hp0_N3_⟩
      · skip
        show zW l m_M_named (zn Mz + 0, zw Mz + 0) Mz 21 [some (.ref 81), some (.int (Int32.ofInt a0_)), some (.int (Int32.ofInt a1_))] [.int (Int32.ofInt 1)] (zpJ [] [] Mz (fun v N => (((((0 ≤ a0_ ∧ a0_ < (nm_.length : Int)) ∧ (0 ≤ a1_ ∧ a1_ < (F_ : Int))) ∧ v = zvun nm_ (a0_).toNat (a1_).toNat) ∨ (¬ ((0 ≤ a0_ ∧ a0_ < (nm_.length : Int)) ∧ (0 ≤ a1_ ∧ a1_ < (F_ : Int))) ∧ v = (-9223372036854775808 : Int))))))
        refine zr_if_eq (pc := 21) (tgt := 38) ⟨(by decide), (by decide)⟩ (by decide) d_M_named_21 (fun hc_21 => ?_) (fun hc_21 => ?_)
        · skip
          exact absurd hc_21 (by decide)
        · skip
          refine zw_aload_n (pc := 24) (n := 0) (x := 81) rfl d_M_named_24 ?_
          refine zr_getF (r := 104) (hf.w hW) (pc := 25) f_M_84 rfl (zh_104 (hf.w hW)).1 d_M_named_25 ?_
          refine zw_bipush (pc := 28) (v := Int32.ofInt 64) (by decide) d_M_named_28 ?_
          refine zw_iload_n (pc := 30) (n := 1) (x := Int32.ofInt a0_) rfl d_M_named_30 ?_
          refine zr_imul (pc := 31) d_M_named_31 ?_
          refine zw_iload_n (pc := 32) (n := 2) (x := Int32.ofInt a1_) rfl d_M_named_32 ?_
          refine zr_iadd (pc := 33) d_M_named_33 ?_
          refine zr_laldn (pc := 34) (zh_104 (hf.w hW)).2 (by decide) (by omega) (by omega) d_M_named_34 (fun v5_ hv5_ hv5_a hv5_b => ?_)
          have hat_ := (p1_.at (k := (a0_).toNat) (by omega)).1
          rw [show (64 : Int) * (((a0_).toNat : Nat) : Int) = 64 * a0_ by omega] at hat_
          have hv_ := (zrw_at (F := F_) (k := (a1_).toNat) (e := 64 * a0_) (by omega) (by omega) hv5_ (by omega)).trans (congrFun hat_ _)
          refine zw_goto (pc := 35) (tgt := 41) (by decide) d_M_named_35 ?_
          exact zr_lret (pc := 41) rfl ⟨by omega, by omega⟩ hf (show ((((0 ≤ a0_ ∧ a0_ < (nm_.length : Int)) ∧ (0 ≤ a1_ ∧ a1_ < (F_ : Int))) ∧ v5_ = zvun nm_ (a0_).toNat (a1_).toNat) ∨ (¬ ((0 ≤ a0_ ∧ a0_ < (nm_.length : Int)) ∧ (0 ≤ a1_ ∧ a1_ < (F_ : Int))) ∧ v5_ = (-9223372036854775808 : Int))) by first | exact Or.inr ⟨by omega, rfl⟩ | exact Or.inl ⟨by omega, hv_⟩) d_M_named_41
      · skip
        show zW l m_M_named (zn Mz + 0, zw Mz + 0) Mz 21 [some (.ref 81), some (.int (Int32.ofInt a0_)), some (.int (Int32.ofInt a1_))] [.int (Int32.ofInt 0)] (zpJ [] [] Mz (fun v N => (((((0 ≤ a0_ ∧ a0_ < (nm_.length : Int)) ∧ (0 ≤ a1_ ∧ a1_ < (F_ : Int))) ∧ v = zvun nm_ (a0_).toNat (a1_).toNat) ∨ (¬ ((0 ≤ a0_ ∧ a0_ < (nm_.length : Int)) ∧ (0 ≤ a1_ ∧ a1_ < (F_ : Int))) ∧ v = (-9223372036854775808 : Int))))))
        refine zr_if_eq (pc := 21) (tgt := 38) ⟨(by decide), (by decide)⟩ (by decide) d_M_named_21 (fun hc_21 => ?_) (fun hc_21 => ?_)
        · skip
          refine zr_ldc2 (pc := 38) (n := (-9223372036854775808)) (by decide) k_M_470 d_M_named_38 ?_
          exact zr_lret (pc := 41) rfl ⟨by omega, by omega⟩ hf (show ((((0 ≤ a0_ ∧ a0_ < (nm_.length : Int)) ∧ (0 ≤ a1_ ∧ a1_ < (F_ : Int))) ∧ ((-9223372036854775808)) = zvun nm_ (a0_).toNat (a1_).toNat) ∨ (¬ ((0 ≤ a0_ ∧ a0_ < (nm_.length : Int)) ∧ (0 ≤ a1_ ∧ a1_ < (F_ : Int))) ∧ ((-9223372036854775808)) = (-9223372036854775808 : Int))) by first | exact Or.inr ⟨by omega, rfl⟩ | exact Or.inl ⟨by omega, hv_⟩) d_M_named_41
        · skip
          exact absurd hc_21 (by decide)
  · skip
    show zW l m_M_named (zn Mz + 0, zw Mz + 0) Mz 13 [some (.ref 81), some (.int (Int32.ofInt a0_)), some (.int (Int32.ofInt a1_))] [.int (Int32.ofInt 0)] (zpJ [] [] Mz (fun v N => (((((0 ≤ a0_ ∧ a0_ < (nm_.length : Int)) ∧ (0 ≤ a1_ ∧ a1_ < (F_ : Int))) ∧ v = zvun nm_ (a0_).toNat (a1_).toNat) ∨ (¬ ((0 ≤ a0_ ∧ a0_ < (nm_.length : Int)) ∧ (0 ≤ a1_ ∧ a1_ < (F_ : Int))) ∧ v = (-9223372036854775808 : Int))))))
    refine zr_if_eq (pc := 13) (tgt := 38) ⟨(by decide), (by decide)⟩ (by decide) d_M_named_13 (fun hc_13 => ?_) (fun hc_13 => ?_)
    · skip
      refine zr_ldc2 (pc := 38) (n := (-9223372036854775808)) (by decide) k_M_470 d_M_named_38 ?_
      exact zr_lret (pc := 41) rfl ⟨by omega, by omega⟩ hf (show ((((0 ≤ a0_ ∧ a0_ < (nm_.length : Int)) ∧ (0 ≤ a1_ ∧ a1_ < (F_ : Int))) ∧ ((-9223372036854775808)) = zvun nm_ (a0_).toNat (a1_).toNat) ∨ (¬ ((0 ≤ a0_ ∧ a0_ < (nm_.length : Int)) ∧ (0 ≤ a1_ ∧ a1_ < (F_ : Int))) ∧ ((-9223372036854775808)) = (-9223372036854775808 : Int))) by first | exact Or.inr ⟨by omega, rfl⟩ | exact Or.inl ⟨by omega, hv_⟩) d_M_named_41
    · skip
      exact absurd hc_13 (by decide)
set_option maxHeartbeats 4000000 in
theorem c_M_markedS (l : Launch) (Mz : zMem) (hW : zMt Mz) (a0_ : Int) (ha0_a : -2147483648 ≤ a0_) (ha0_b : a0_ < 2147483648) (F_ : Nat) (K_ : Nat → Nat → Int) (hA_ : zTA F_ K_) (s_ : zSg) (p0_ : zRmk F_ K_ Mz) (p1_ : zSR F_ s_ Mz) (p2_ : zSB F_ s_) : zC l m_M_marked 0 0 [.ref 81, .int (Int32.ofInt a0_)] Mz (zpJ [] [] Mz (fun v N => ((((0 ≤ a0_ ∧ a0_ < (F_ : Int)) ∧ v = zmq F_ K_ s_.1 (a0_).toNat) ∨ (¬ (0 ≤ a0_ ∧ a0_ < (F_ : Int)) ∧ v = (-9223372036854775808 : Int)))))) := by
  refine zC_of (L0 := [some (.ref 81), some (.int (Int32.ofInt a0_))]) md_M_marked (Nat.le_of_ble_eq_true rfl) rfl ?_ zQ0
  have hf : zFr [] [] Mz Mz := zFr.rf
  obtain ⟨⟨hF1_, hF27_⟩, hAr_⟩ := id hA_
  obtain ⟨hFc_, hKt_⟩ := id p0_
  obtain ⟨⟨hs1_, hs2_⟩, hs3_, hs4_⟩ := id p1_
  have hev_ : ∀ k_ : Nat, k_ < F_ → (zrw F_ Mz 98 0) k_ = s_.1 k_ := fun k_ hk_ => by unfold zrw; rw [if_pos hk_, show (0 : Int).toNat + k_ = k_ by omega]; exact hs3_ k_ hk_
  have hlm_ := zlm_c p2_.1 hev_
  have hlx_ : ∀ i_, i_ < F_ → -10000000000000 ≤ (zrw F_ Mz 98 0) i_ ∧ (zrw F_ Mz 98 0) i_ ≤ 10000000000000 := fun i_ hi_ => by have h_ := hlm_ i_ hi_; unfold zLim at h_; omega
  refine zw_aload_n (pc := 0) (n := 0) (x := 81) rfl d_M_marked_0 ?_
  refine zw_iload_n (pc := 1) (n := 1) (x := Int32.ofInt a0_) rfl d_M_marked_1 ?_
  refine zr_callV (hf.w hW) hf.x (pc := 2) [.int (Int32.ofInt a0_)] [] l_M_414 (c_M_isSortF l Mz (hf.w hW) a0_ ha0_a ha0_b F_ K_ hA_ p0_) rfl rfl rfl (by decide) (Nat.le_of_ble_eq_true rfl) d_M_marked_2 ?_
  rintro _ N1_ ⟨v2_, rfl, ⟨hv2_a, hv2_b⟩, hsN1_, hp0_N1_⟩
  obtain rfl := hsN1_.eq.symm
  replace hp0_N1_ : ((v2_ = 1 ∧ 0 ≤ a0_ ∧ a0_ < (F_ : Int)) ∨ (v2_ = 0 ∧ (a0_ < 0 ∨ (F_ : Int) ≤ a0_))) := hp0_N1_
  rcases hp0_N1_ with ⟨rfl, ha2_0_hp0_N1_, ha2_1_hp0_N1_⟩ | ⟨rfl, ha2_0_hp0_N1_⟩
  · skip
    show zW l m_M_marked (zn Mz + 0, zw Mz + 0) Mz 5 [some (.ref 81), some (.int (Int32.ofInt a0_))] [.int (Int32.ofInt 1)] (zpJ [] [] Mz (fun v N => ((((0 ≤ a0_ ∧ a0_ < (F_ : Int)) ∧ v = zmq F_ K_ s_.1 (a0_).toNat) ∨ (¬ (0 ≤ a0_ ∧ a0_ < (F_ : Int)) ∧ v = (-9223372036854775808 : Int))))))
    refine zr_if_eq (pc := 5) (tgt := 21) ⟨(by decide), (by decide)⟩ (by decide) d_M_marked_5 (fun hc_5 => ?_) (fun hc_5 => ?_)
    · skip
      exact absurd hc_5 (by decide)
    · skip
      refine zw_aload_n (pc := 8) (n := 0) (x := 81) rfl d_M_marked_8 ?_
      refine zw_aload_n (pc := 9) (n := 0) (x := 81) rfl d_M_marked_9 ?_
      refine zr_getF (r := 98) (hf.w hW) (pc := 10) f_M_66 rfl (zh_98 (hf.w hW)).1 d_M_marked_10 ?_
      refine zw_iconst (pc := 13) (v := Int32.ofInt 0) (by decide) d_M_marked_13 ?_
      refine zw_iload_n (pc := 14) (n := 1) (x := Int32.ofInt a0_) rfl d_M_marked_14 ?_
      refine zr_callV (hf.w hW) hf.x (pc := 15) [.ref 98, .int (Int32.ofInt 0), .int (Int32.ofInt a0_)] [] l_M_264 (c_M_markAt_98S l Mz (hf.w hW) 0 (by decide) (by decide) a0_ ha0_a ha0_b F_ K_ hA_ p0_ (show 0 ≤ 0 by first | assumption | omega) (show 0 ≤ 0 by first | assumption | omega) (show 0 ≤ a0_ by first | assumption | omega) (show a0_ < F_ by first | assumption | omega)) rfl rfl rfl (by decide) (Nat.le_of_ble_eq_true rfl) d_M_marked_15 ?_
      rintro _ N3_ ⟨v4_, rfl, ⟨hv4_a, hv4_b⟩, hsN3_, hp0_N3_⟩
      obtain rfl := hsN3_.eq.symm
      replace hp0_N3_ : Int64.ofInt v4_ = Int64.ofInt (zmq F_ K_ (zrw F_ Mz 98 0) (a0_).toNat) := hp0_N3_
      show zW l m_M_marked (zn Mz + 0, zw Mz + 0) Mz 18 [some (.ref 81), some (.int (Int32.ofInt a0_))] [.long (Int64.ofInt v4_)] (zpJ [] [] Mz (fun v N => ((((0 ≤ a0_ ∧ a0_ < (F_ : Int)) ∧ v = zmq F_ K_ s_.1 (a0_).toNat) ∨ (¬ (0 ≤ a0_ ∧ a0_ < (F_ : Int)) ∧ v = (-9223372036854775808 : Int))))))
      have hb_ := zmq_b (j := (a0_).toNat) hF27_ (fun i_ hi_ => hAr_.1 i_ _ hi_ (by omega)) hlx_
      have hv_ := (z64q ⟨by omega, by omega⟩ ⟨by omega, by omega⟩ hp0_N3_).trans (zmq_c hev_ _)
      refine zw_goto (pc := 18) (tgt := 24) (by decide) d_M_marked_18 ?_
      exact zr_lret (pc := 24) rfl ⟨by omega, by omega⟩ hf (show (((0 ≤ a0_ ∧ a0_ < (F_ : Int)) ∧ v4_ = zmq F_ K_ s_.1 (a0_).toNat) ∨ (¬ (0 ≤ a0_ ∧ a0_ < (F_ : Int)) ∧ v4_ = (-9223372036854775808 : Int))) by first | exact Or.inr ⟨by omega, rfl⟩ | exact Or.inl ⟨by omega, hv_⟩) d_M_marked_24
  · skip
    show zW l m_M_marked (zn Mz + 0, zw Mz + 0) Mz 5 [some (.ref 81), some (.int (Int32.ofInt a0_))] [.int (Int32.ofInt 0)] (zpJ [] [] Mz (fun v N => ((((0 ≤ a0_ ∧ a0_ < (F_ : Int)) ∧ v = zmq F_ K_ s_.1 (a0_).toNat) ∨ (¬ (0 ≤ a0_ ∧ a0_ < (F_ : Int)) ∧ v = (-9223372036854775808 : Int))))))
    refine zr_if_eq (pc := 5) (tgt := 21) ⟨(by decide), (by decide)⟩ (by decide) d_M_marked_5 (fun hc_5 => ?_) (fun hc_5 => ?_)
    · skip
      refine zr_ldc2 (pc := 21) (n := (-9223372036854775808)) (by decide) k_M_470 d_M_marked_21 ?_
      exact zr_lret (pc := 24) rfl ⟨by omega, by omega⟩ hf (show (((0 ≤ a0_ ∧ a0_ < (F_ : Int)) ∧ ((-9223372036854775808)) = zmq F_ K_ s_.1 (a0_).toNat) ∨ (¬ (0 ≤ a0_ ∧ a0_ < (F_ : Int)) ∧ ((-9223372036854775808)) = (-9223372036854775808 : Int))) by first | exact Or.inr ⟨by omega, rfl⟩ | exact Or.inl ⟨by omega, hv_⟩) d_M_marked_24
    · skip
      exact absurd hc_5 (by decide)
set_option maxHeartbeats 4000000 in
theorem c_M_laysMarksS (l : Launch) (Mz : zMem) (hW : zMt Mz) (F_ : Nat) (K_ : Nat → Nat → Int) (hA_ : zTA F_ K_) (p0_ : zRmk F_ K_ Mz) (p1_ : zlm F_ (zrw F_ Mz 98 0)) : zC l m_M_laysMarks 0 0 [.ref 81] Mz (zpV [] [99] Mz (fun N => (∀ j : Nat, j < F_ → zg N 99 j = zmq F_ K_ (zrw F_ Mz 98 0) j))) := by
  refine zC_of (L0 := [some (.ref 81), none]) md_M_laysMarks (Nat.le_of_ble_eq_true rfl) rfl ?_ zQ0
  have hf : zFr [] [99] Mz Mz := zFr.rf
  have r_26 := ze_r Mz 81 26
  obtain ⟨⟨hF1_, hF27_⟩, hAr_⟩ := id hA_
  obtain ⟨hFc_, hKt_⟩ := id p0_
  have hlx_ : ∀ i_, i_ < F_ → -10000000000000 ≤ (zrw F_ Mz 98 0) i_ ∧ (zrw F_ Mz 98 0) i_ ≤ 10000000000000 := fun i_ hi_ => by have h_ := p1_ i_ hi_; unfold zLim at h_; omega
  refine zw_iconst (pc := 0) (v := Int32.ofInt 0) (by decide) d_M_laysMarks_0 ?_
  refine zw_istore_n (pc := 1) (i := 1) (L2 := [some (.ref 81), some (.int (Int32.ofInt 0))]) rfl (by decide) rfl d_M_laysMarks_1 ?_
  have lp_2 : ∀ (n : Nat) (u1_ : Int) (hu1_a : -2147483648 ≤ u1_) (hu1_b : u1_ < 2147483648) (N2_ : zMem) (hs3_ : zFr [] [99] Mz N2_) (i4_ : 0 ≤ u1_) (i5_ : u1_ ≤ F_) (i6_ : (∀ j : Nat, (j : Int) < u1_ → zg N2_ 99 j = zmq F_ K_ (zrw F_ Mz 98 0) j)), (F_ - u1_).toNat < n → zW l m_M_laysMarks (zn Mz + 0, zw Mz + 0) N2_ 2 [some (.ref 81), some (.int (Int32.ofInt u1_))] [] (zpV [] [99] Mz (fun N => (∀ j : Nat, j < F_ → zg N 99 j = zmq F_ K_ (zrw F_ Mz 98 0) j))) := by
    intro n
    induction n with
    | zero =>
      intro u1_ hu1_a hu1_b N2_ hs3_ i4_ i5_ i6_ h0
      exact absurd h0 (Nat.not_lt_zero _)
    | succ n ih_2 =>
      intro u1_ hu1_a hu1_b N2_ hs3_ i4_ i5_ i6_ hlt_2
      have hf_N2_ : zFr [] [99] Mz N2_ := hf.tr hs3_ (by decide) (by decide)
      have e26_N2_ : ze N2_ 81 26 = ze Mz 81 26 := hs3_.e (by decide)
      have c7_ : zRmk F_ K_ N2_ := zRmk.fr hs3_ p0_ (by decide) (by decide)
      have hmo_ := (show (∀ j : Nat, (j : Int) < u1_ → zg N2_ 99 j = zmq F_ K_ (zrw F_ Mz 98 0) j) by assumption)
      refine zw_iload_n (pc := 2) (n := 1) (x := Int32.ofInt u1_) rfl d_M_laysMarks_2 ?_
      refine zw_aload_n (pc := 3) (n := 0) (x := 81) rfl d_M_laysMarks_3 ?_
      refine zr_getI0 hf_N2_ hW (pc := 4) (by decide) f_M_235 rfl d_M_laysMarks_4 ?_
      refine zr_icmp_ge (pc := 7) (tgt := 32) ⟨hu1_a, hu1_b⟩ ⟨(ze_r Mz 81 26).1, (ze_r Mz 81 26).2⟩ (by decide) d_M_laysMarks_7 (fun hc_7 => ?_) (fun hc_7 => ?_)
      · skip
        exact zr_vret (pc := 32) rfl hf_N2_ (show (∀ j : Nat, j < F_ → zg N2_ 99 j = zmq F_ K_ (zrw F_ Mz 98 0) j) by exact fun j_ hj_ => hmo_ j_ (by omega)) d_M_laysMarks_32
      · skip
        refine zw_aload_n (pc := 10) (n := 0) (x := 81) rfl d_M_laysMarks_10 ?_
        refine zr_getF (r := 99) (hf_N2_.w hW) (pc := 11) f_M_69 rfl (zh_99 (hf_N2_.w hW)).1 d_M_laysMarks_11 ?_
        refine zw_iload_n (pc := 14) (n := 1) (x := Int32.ofInt u1_) rfl d_M_laysMarks_14 ?_
        refine zw_aload_n (pc := 15) (n := 0) (x := 81) rfl d_M_laysMarks_15 ?_
        refine zw_aload_n (pc := 16) (n := 0) (x := 81) rfl d_M_laysMarks_16 ?_
        refine zr_getF (r := 98) (hf_N2_.w hW) (pc := 17) f_M_66 rfl (zh_98 (hf_N2_.w hW)).1 d_M_laysMarks_17 ?_
        refine zw_iconst (pc := 20) (v := Int32.ofInt 0) (by decide) d_M_laysMarks_20 ?_
        refine zw_iload_n (pc := 21) (n := 1) (x := Int32.ofInt u1_) rfl d_M_laysMarks_21 ?_
        refine zr_callV (hf_N2_.w hW) hf_N2_.x (pc := 22) [.ref 98, .int (Int32.ofInt 0), .int (Int32.ofInt u1_)] [.int (Int32.ofInt u1_), .ref 99] l_M_264 (c_M_markAt_98S l N2_ (hf_N2_.w hW) 0 (by decide) (by decide) u1_ hu1_a hu1_b F_ K_ hA_ c7_ (show 0 ≤ 0 by first | assumption | omega) (show 0 ≤ 0 by first | assumption | omega) (show 0 ≤ u1_ by first | assumption | omega) (show u1_ < F_ by first | assumption | omega)) rfl rfl rfl (by decide) (Nat.le_of_ble_eq_true rfl) d_M_laysMarks_22 ?_
        rintro _ N8_ ⟨v9_, rfl, ⟨hv9_a, hv9_b⟩, hsN8_, hp0_N8_⟩
        obtain rfl := hsN8_.eq.symm
        replace hp0_N8_ : Int64.ofInt v9_ = Int64.ofInt (zmq F_ K_ (zrw F_ N2_ 98 0) (u1_).toNat) := hp0_N8_
        show zW l m_M_laysMarks (zn Mz + 0, zw Mz + 0) N2_ 25 [some (.ref 81), some (.int (Int32.ofInt u1_))] [.long (Int64.ofInt v9_), .int (Int32.ofInt u1_), .ref 99] (zpV [] [99] Mz (fun N => (∀ j : Nat, j < F_ → zg N 99 j = zmq F_ K_ (zrw F_ Mz 98 0) j)))
        have hb_ := zmq_b (j := (u1_).toNat) hF27_ (fun i_ hi_ => hAr_.1 i_ _ hi_ (by omega)) hlx_
        have hmk_ := hp0_N8_
        rw [show (zrw F_ N2_ 98 0) = (zrw F_ Mz 98 0) from zrw_c (fun k _ => hf_N2_.jg (by decide) (by decide) _)] at hmk_
        have hx_ := z64q ⟨by omega, by omega⟩ ⟨by omega, by omega⟩ hmk_
        refine zr_last (pc := 25) (zh_99 (hf_N2_.w hW)).2 (by decide) (by decide) (by omega) (by omega) d_M_laysMarks_25 (fun N10_ hN10_ hsN10_ => ?_)
        have hf_N10_ : zFr [] [99] Mz N10_ := hf_N2_.tr hsN10_ (by decide) (by decide)
        have hb0_N10_ : zFr [] [99] Mz N10_ := hs3_.tr hsN10_ (by decide) (by decide)
        have e26_N10_ : ze N10_ 81 26 = ze N2_ 81 26 := hsN10_.e (by decide)
        have c11_ : zRmk F_ K_ N10_ := zRmk.fr hsN10_ c7_ (by decide) (by decide)
        have hmn_ : (∀ j : Nat, (j : Int) < u1_ + 1 → zg N10_ 99 j = zmq F_ K_ (zrw F_ Mz 98 0) j) := fun k_ hk_ => by by_cases g_ : (k_ : Int) = u1_; (rw [show k_ = (u1_).toNat by omega, zs_getJ hN10_ ⟨by omega, by omega⟩]; exact hx_); (rw [zs_othJ hN10_ (by omega)]; exact hmo_ k_ (by omega))
        refine zr_iinc (pc := 26) (i := 1) (a := u1_) (n := 1) (L2 := [some (.ref 81), some (.int (Int32.ofInt (u1_ + 1)))]) rfl (by decide) rfl d_M_laysMarks_26 ?_
        refine zw_goto (pc := 29) (tgt := 2) (by decide) d_M_laysMarks_29 ?_
        exact ih_2 (u1_ + 1) (by omega) (by omega) N10_ hb0_N10_ (show 0 ≤ (u1_ + 1) by first | assumption | omega) (show (u1_ + 1) ≤ F_ by first | assumption | omega) (show (∀ j : Nat, (j : Int) < (u1_ + 1) → zg N10_ 99 j = zmq F_ K_ (zrw F_ Mz 98 0) j) by exact hmn_) (by omega)
  exact lp_2 _ 0 (by decide) (by decide) Mz zFr.rf (show 0 ≤ (0 : Int) by first | assumption | omega) (show (0 : Int) ≤ F_ by first | assumption | omega) (show (∀ j : Nat, (j : Int) < (0 : Int) → zg Mz 99 j = zmq F_ K_ (zrw F_ Mz 98 0) j) by exact fun j_ hj_ => absurd hj_ (by omega)) (Nat.lt_succ_self _)
set_option maxHeartbeats 4000000 in
theorem c_M_characterS (l : Launch) (Mz : zMem) (hW : zMt Mz) (a0_ : Int) (ha0_a : -2147483648 ≤ a0_) (ha0_b : a0_ < 2147483648) (T : zGT) (hO : gOK T) (hTt : T ∈ gTabs) (s_ : zSg) (p0_ : zGB T Mz) (p1_ : zSR (gF T).length s_ Mz) (p2_ : zSB (gF T).length s_) : zC l m_M_character 0 0 [.ref 81, .int (Int32.ofInt a0_)] Mz (zpJ [] [] Mz (fun v N => ((((0 ≤ a0_ ∧ a0_ < (gN T : Int)) ∧ v = zmq (gF T).length (gmkI T) s_.1 (gsr T (2 ^ (a0_).toNat))) ∨ (¬ (0 ≤ a0_ ∧ a0_ < (gN T : Int)) ∧ v = (-9223372036854775808 : Int)))))) := by
  refine zC_of (L0 := [some (.ref 81), some (.int (Int32.ofInt a0_))]) md_M_character (Nat.le_of_ble_eq_true rfl) rfl ?_ zQ0
  have hf : zFr [] [] Mz Mz := zFr.rf
  have r_20 := ze_r Mz 81 20
  have hG := hO.1
  have g24 := hG.2.1
  have g1 := hG.1
  have dv0 : zTab T Mz := p0_.1
  have dv1 : zB 85 144 0 5 Mz := p0_.2.1
  have dv2 : zJX T Mz := p0_.2.2.1
  have dv3 : zFirs T Mz := p0_.2.2.2.1
  have dv4 : zSSm T Mz := p0_.2.2.2.2.1
  have dv5 : zGD Mz := zGB.d hO p0_
  have dv6 : zRmk (gF T).length (gmkI T) Mz := p0_.rm
  have gb := dv5.1
  have gn := dv0.1
  have hsz_ := dv0.1
  have hfl_ := dv3.1
  have hTA_ := gT_zTA hTt
  obtain ⟨⟨hF1_, hF27_⟩, hAr_⟩ := id hTA_
  obtain ⟨⟨hs1_, hs2_⟩, hs3_, hs4_⟩ := id p1_
  have hev_ : ∀ k_ : Nat, k_ < (gF T).length → (zrw (gF T).length Mz 98 0) k_ = s_.1 k_ := fun k_ hk_ => by unfold zrw; rw [if_pos hk_, show (0 : Int).toNat + k_ = k_ by omega]; exact hs3_ k_ hk_
  have hlm_ := zlm_c p2_.1 hev_
  have hlx_ : ∀ i_, i_ < (gF T).length → -10000000000000 ≤ (zrw (gF T).length Mz 98 0) i_ ∧ (zrw (gF T).length Mz 98 0) i_ ≤ 10000000000000 := fun i_ hi_ => by have h_ := hlm_ i_ hi_; unfold zLim at h_; omega
  refine zw_aload_n (pc := 0) (n := 0) (x := 81) rfl d_M_character_0 ?_
  refine zw_iload_n (pc := 1) (n := 1) (x := Int32.ofInt a0_) rfl d_M_character_1 ?_
  refine zr_callV (hf.w hW) hf.x (pc := 2) [.int (Int32.ofInt a0_)] [] l_M_400 (c_M_isMemberG l Mz (hf.w hW) a0_ ha0_a ha0_b T hO p0_) rfl rfl rfl (by decide) (Nat.le_of_ble_eq_true rfl) d_M_character_2 ?_
  rintro _ N1_ ⟨v2_, rfl, ⟨hv2_a, hv2_b⟩, hsN1_, hp0_N1_⟩
  obtain rfl := hsN1_.eq.symm
  replace hp0_N1_ : ((v2_ = 1 ∧ 0 ≤ a0_ ∧ a0_ < ze Mz 81 20) ∨ (v2_ = 0 ∧ (a0_ < 0 ∨ ze Mz 81 20 ≤ a0_))) := hp0_N1_
  rcases hp0_N1_ with ⟨rfl, ha2_0_hp0_N1_, ha2_1_hp0_N1_⟩ | ⟨rfl, ha2_0_hp0_N1_⟩
  · skip
    show zW l m_M_character (zn Mz + 0, zw Mz + 0) Mz 5 [some (.ref 81), some (.int (Int32.ofInt a0_))] [.int (Int32.ofInt 1)] (zpJ [] [] Mz (fun v N => ((((0 ≤ a0_ ∧ a0_ < (gN T : Int)) ∧ v = zmq (gF T).length (gmkI T) s_.1 (gsr T (2 ^ (a0_).toNat))) ∨ (¬ (0 ≤ a0_ ∧ a0_ < (gN T : Int)) ∧ v = (-9223372036854775808 : Int))))))
    refine zr_if_eq (pc := 5) (tgt := 31) ⟨(by decide), (by decide)⟩ (by decide) d_M_character_5 (fun hc_5 => ?_) (fun hc_5 => ?_)
    · skip
      exact absurd hc_5 (by decide)
    · skip
      refine zw_aload_n (pc := 8) (n := 0) (x := 81) rfl d_M_character_8 ?_
      refine zw_aload_n (pc := 9) (n := 0) (x := 81) rfl d_M_character_9 ?_
      refine zr_getF (r := 98) (hf.w hW) (pc := 10) f_M_66 rfl (zh_98 (hf.w hW)).1 d_M_character_10 ?_
      refine zw_iconst (pc := 13) (v := Int32.ofInt 0) (by decide) d_M_character_13 ?_
      refine zw_aload_n (pc := 14) (n := 0) (x := 81) rfl d_M_character_14 ?_
      refine zw_aload_n (pc := 15) (n := 0) (x := 81) rfl d_M_character_15 ?_
      refine zw_iconst (pc := 16) (v := Int32.ofInt 1) (by decide) d_M_character_16 ?_
      refine zw_iload_n (pc := 17) (n := 1) (x := Int32.ofInt a0_) rfl d_M_character_17 ?_
      refine zr_ishl (pc := 18) d_M_character_18 ?_
      have hr3_ := zshl_r 1 a0_
      have hsi := zshl_i hG (k := a0_) (by omega) (by omega)
      refine zr_callV (hf.w hW) hf.x (pc := 19) [.int (Int32.ofInt (zshl 1 a0_))] [.ref 81, .int (Int32.ofInt 0), .ref 98, .ref 81] l_M_229 (c_M_closed l Mz (hf.w hW) (zshl 1 a0_) (by omega) (by omega) T hG dv0 (show gIn T (zshl 1 a0_) by exact hsi.1)) rfl rfl rfl (by decide) (Nat.le_of_ble_eq_true rfl) d_M_character_19 ?_
      rintro _ N4_ ⟨v5_, rfl, ⟨hv5_a, hv5_b⟩, hsN4_, ⟨hp0_N4_, hp1_N4_, hp2_N4_⟩⟩
      obtain rfl := hsN4_.eq.symm
      show zW l m_M_character (zn Mz + 0, zw Mz + 0) Mz 22 [some (.ref 81), some (.int (Int32.ofInt a0_))] [.int (Int32.ofInt v5_), .ref 81, .int (Int32.ofInt 0), .ref 98, .ref 81] (zpJ [] [] Mz (fun v N => ((((0 ≤ a0_ ∧ a0_ < (gN T : Int)) ∧ v = zmq (gF T).length (gmkI T) s_.1 (gsr T (2 ^ (a0_).toNat))) ∨ (¬ (0 ≤ a0_ ∧ a0_ < (gN T : Int)) ∧ v = (-9223372036854775808 : Int))))))
      have hlc_ := hp0_N4_
      have hm_Mz := gMe_c hO hp0_N4_ (by omega)
      refine zr_callV (hf.w hW) hf.x (pc := 22) [.int (Int32.ofInt v5_)] [.int (Int32.ofInt 0), .ref 98, .ref 81] l_M_411 (c_M_sortOfSetG l Mz (hf.w hW) v5_ hv5_a hv5_b T hO p0_ (show gMe T v5_ by assumption)) rfl rfl rfl (by decide) (Nat.le_of_ble_eq_true rfl) d_M_character_22 ?_
      rintro _ N6_ ⟨v7_, rfl, ⟨hv7_a, hv7_b⟩, hsN6_, hp0_N6_⟩
      obtain rfl := hsN6_.eq.symm
      replace hp0_N6_ : zSrt T (v5_).toNat v7_ := hp0_N6_
      show zW l m_M_character (zn Mz + 0, zw Mz + 0) Mz 25 [some (.ref 81), some (.int (Int32.ofInt a0_))] [.int (Int32.ofInt v7_), .int (Int32.ofInt 0), .ref 98, .ref 81] (zpJ [] [] Mz (fun v N => ((((0 ≤ a0_ ∧ a0_ < (gN T : Int)) ∧ v = zmq (gF T).length (gmkI T) s_.1 (gsr T (2 ^ (a0_).toNat))) ∨ (¬ (0 ≤ a0_ ∧ a0_ < (gN T : Int)) ∧ v = (-9223372036854775808 : Int))))))
      have hso_ := hp0_N6_
      have hgs_ := gsr_u hO hlc_ hso_
      rw [zsh_2 (show 0 ≤ a0_ by omega) (by omega)] at hgs_
      have hgl_ := hso_.1
      refine zr_callV (hf.w hW) hf.x (pc := 25) [.ref 98, .int (Int32.ofInt 0), .int (Int32.ofInt v7_)] [] l_M_264 (c_M_markAt_98S l Mz (hf.w hW) 0 (by decide) (by decide) v7_ hv7_a hv7_b (gF T).length (gmkI T) hTA_ dv6 (show 0 ≤ 0 by first | assumption | omega) (show 0 ≤ 0 by first | assumption | omega) (show 0 ≤ v7_ by first | assumption | omega) (show v7_ < (gF T).length by first | assumption | omega)) rfl rfl rfl (by decide) (Nat.le_of_ble_eq_true rfl) d_M_character_25 ?_
      rintro _ N8_ ⟨v9_, rfl, ⟨hv9_a, hv9_b⟩, hsN8_, hp0_N8_⟩
      obtain rfl := hsN8_.eq.symm
      replace hp0_N8_ : Int64.ofInt v9_ = Int64.ofInt (zmq (gF T).length (gmkI T) (zrw (gF T).length Mz 98 0) (v7_).toNat) := hp0_N8_
      show zW l m_M_character (zn Mz + 0, zw Mz + 0) Mz 28 [some (.ref 81), some (.int (Int32.ofInt a0_))] [.long (Int64.ofInt v9_)] (zpJ [] [] Mz (fun v N => ((((0 ≤ a0_ ∧ a0_ < (gN T : Int)) ∧ v = zmq (gF T).length (gmkI T) s_.1 (gsr T (2 ^ (a0_).toNat))) ∨ (¬ (0 ≤ a0_ ∧ a0_ < (gN T : Int)) ∧ v = (-9223372036854775808 : Int))))))
      have hmk_ := hp0_N8_
      rw [hgs_, Int.toNat_natCast] at hmk_
      have hb_ := zmq_b (j := gsr T (2 ^ (a0_).toNat)) hF27_ (fun i_ hi_ => hAr_.1 i_ _ hi_ (gsr_lt hTt _)) hlx_
      have hv_ := (z64q ⟨by omega, by omega⟩ ⟨by omega, by omega⟩ hmk_).trans (zmq_c hev_ _)
      refine zw_goto (pc := 28) (tgt := 34) (by decide) d_M_character_28 ?_
      exact zr_lret (pc := 34) rfl ⟨by omega, by omega⟩ hf (show (((0 ≤ a0_ ∧ a0_ < (gN T : Int)) ∧ v9_ = zmq (gF T).length (gmkI T) s_.1 (gsr T (2 ^ (a0_).toNat))) ∨ (¬ (0 ≤ a0_ ∧ a0_ < (gN T : Int)) ∧ v9_ = (-9223372036854775808 : Int))) by first | exact Or.inr ⟨by omega, rfl⟩ | exact Or.inl ⟨by omega, hv_⟩) d_M_character_34
  · skip
    show zW l m_M_character (zn Mz + 0, zw Mz + 0) Mz 5 [some (.ref 81), some (.int (Int32.ofInt a0_))] [.int (Int32.ofInt 0)] (zpJ [] [] Mz (fun v N => ((((0 ≤ a0_ ∧ a0_ < (gN T : Int)) ∧ v = zmq (gF T).length (gmkI T) s_.1 (gsr T (2 ^ (a0_).toNat))) ∨ (¬ (0 ≤ a0_ ∧ a0_ < (gN T : Int)) ∧ v = (-9223372036854775808 : Int))))))
    refine zr_if_eq (pc := 5) (tgt := 31) ⟨(by decide), (by decide)⟩ (by decide) d_M_character_5 (fun hc_5 => ?_) (fun hc_5 => ?_)
    · skip
      refine zr_ldc2 (pc := 31) (n := (-9223372036854775808)) (by decide) k_M_470 d_M_character_31 ?_
      exact zr_lret (pc := 34) rfl ⟨by omega, by omega⟩ hf (show (((0 ≤ a0_ ∧ a0_ < (gN T : Int)) ∧ ((-9223372036854775808)) = zmq (gF T).length (gmkI T) s_.1 (gsr T (2 ^ (a0_).toNat))) ∨ (¬ (0 ≤ a0_ ∧ a0_ < (gN T : Int)) ∧ ((-9223372036854775808)) = (-9223372036854775808 : Int))) by first | exact Or.inr ⟨by omega, rfl⟩ | exact Or.inl ⟨by omega, hv_⟩) d_M_character_34
    · skip
      exact absurd hc_5 (by decide)
set_option maxHeartbeats 4000000 in
theorem c_M_congruenceS (l : Launch) (Mz : zMem) (hW : zMt Mz) (a0_ : Int) (ha0_a : -2147483648 ≤ a0_) (ha0_b : a0_ < 2147483648) (T : zGT) (hO : gOK T) (hX : gEx T) (hTt : T ∈ gTabs) (s_ : zSg) (p0_ : zGB T Mz) (p1_ : zSR (gF T).length s_ Mz) (p2_ : zSB (gF T).length s_) : zC l m_M_congruence 0 0 [.ref 81, .int (Int32.ofInt a0_)] Mz (zpJ [55] [99, 109] Mz (fun v N => ((((0 ≤ a0_ ∧ a0_ < ((gF T).length : Int)) ∧ v = (zsm (zmi T (gFn T (a0_).toNat) (zcgF T (gFn T (a0_).toNat) (zmq (gF T).length (gmkI T) s_.1))) (gN T)).tdiv ((gmm T (gFn T (a0_).toNat) : Nat) : Int)) ∨ (¬ (0 ≤ a0_ ∧ a0_ < ((gF T).length : Int)) ∧ v = (-9223372036854775808 : Int)))))) := by
  refine zC_of (L0 := [some (.ref 81), some (.int (Int32.ofInt a0_))]) md_M_congruence (Nat.le_of_ble_eq_true rfl) rfl ?_ zQ0
  have hf : zFr [55] [99, 109] Mz Mz := zFr.rf
  have r_26 := ze_r Mz 81 26
  have r_55 := ze_r Mz 81 55
  have hG := hO.1
  have g24 := hG.2.1
  have g1 := hG.1
  have dv0 : zTab T Mz := p0_.1
  have dv1 : zB 85 144 0 5 Mz := p0_.2.1
  have dv2 : zJX T Mz := p0_.2.2.1
  have dv3 : zFirs T Mz := p0_.2.2.2.1
  have dv4 : zSSm T Mz := p0_.2.2.2.2.1
  have dv5 : zGD Mz := zGB.d hO p0_
  have dv6 : zRmk (gF T).length (gmkI T) Mz := p0_.rm
  have gb := dv5.1
  have gn := dv0.1
  have gfl := dv3.1
  have gf6 := gF_pos hO
  have gxl := hX.2.1
  have hTA_ := gT_zTA hTt
  obtain ⟨⟨hF1_, hF27_⟩, hAr_⟩ := id hTA_
  obtain ⟨⟨hs1_, hs2_⟩, hs3_, hs4_⟩ := id p1_
  have hev_ : ∀ k_ : Nat, k_ < (gF T).length → (zrw (gF T).length Mz 98 0) k_ = s_.1 k_ := fun k_ hk_ => by unfold zrw; rw [if_pos hk_, show (0 : Int).toNat + k_ = k_ by omega]; exact hs3_ k_ hk_
  have hlm_ := zlm_c p2_.1 hev_
  have hlx_ : ∀ i_, i_ < (gF T).length → -10000000000000 ≤ (zrw (gF T).length Mz 98 0) i_ ∧ (zrw (gF T).length Mz 98 0) i_ ≤ 10000000000000 := fun i_ hi_ => by have h_ := hlm_ i_ hi_; unfold zLim at h_; omega
  refine zw_aload_n (pc := 0) (n := 0) (x := 81) rfl d_M_congruence_0 ?_
  refine zw_iload_n (pc := 1) (n := 1) (x := Int32.ofInt a0_) rfl d_M_congruence_1 ?_
  refine zr_callV (hf.w hW) hf.x (pc := 2) [.int (Int32.ofInt a0_)] [] l_M_414 (c_M_isSortG l Mz (hf.w hW) a0_ ha0_a ha0_b T hO p0_) rfl rfl rfl (by decide) (Nat.le_of_ble_eq_true rfl) d_M_congruence_2 ?_
  rintro _ N1_ ⟨v2_, rfl, ⟨hv2_a, hv2_b⟩, hsN1_, hp0_N1_⟩
  obtain rfl := hsN1_.eq.symm
  replace hp0_N1_ : ((v2_ = 1 ∧ 0 ≤ a0_ ∧ a0_ < ze Mz 81 26) ∨ (v2_ = 0 ∧ (a0_ < 0 ∨ ze Mz 81 26 ≤ a0_))) := hp0_N1_
  rcases hp0_N1_ with ⟨rfl, ha2_0_hp0_N1_, ha2_1_hp0_N1_⟩ | ⟨rfl, ha2_0_hp0_N1_⟩
  · skip
    show zW l m_M_congruence (zn Mz + 0, zw Mz + 0) Mz 5 [some (.ref 81), some (.int (Int32.ofInt a0_))] [.int (Int32.ofInt 1)] (zpJ [55] [99, 109] Mz (fun v N => ((((0 ≤ a0_ ∧ a0_ < ((gF T).length : Int)) ∧ v = (zsm (zmi T (gFn T (a0_).toNat) (zcgF T (gFn T (a0_).toNat) (zmq (gF T).length (gmkI T) s_.1))) (gN T)).tdiv ((gmm T (gFn T (a0_).toNat) : Nat) : Int)) ∨ (¬ (0 ≤ a0_ ∧ a0_ < ((gF T).length : Int)) ∧ v = (-9223372036854775808 : Int))))))
    refine zr_if_ne (pc := 5) (tgt := 12) ⟨(by decide), (by decide)⟩ (by decide) d_M_congruence_5 (fun hc_5 => ?_) (fun hc_5 => ?_)
    · skip
      refine zw_aload_n (pc := 12) (n := 0) (x := 81) rfl d_M_congruence_12 ?_
      refine zr_callV (hf.w hW) hf.x (pc := 13) [] [] l_M_472 (c_M_laysMarksS l Mz (hf.w hW) (gF T).length (gmkI T) hTA_ dv6 (show zlm (gF T).length (zrw (gF T).length Mz 98 0) by first | assumption | omega)) rfl rfl rfl (by decide) (Nat.le_of_ble_eq_true rfl) d_M_congruence_13 ?_
      rintro _ N3_ ⟨rfl, hsN3_, hp0_N3_⟩
      replace hp0_N3_ : (∀ j : Nat, j < (gF T).length → zg N3_ 99 j = zmq (gF T).length (gmkI T) (zrw (gF T).length Mz 98 0) j) := hp0_N3_
      have hf_N3_ : zFr [55] [99, 109] Mz N3_ := hf.tr hsN3_ (by decide) (by decide)
      have e26_N3_ : ze N3_ 81 26 = ze Mz 81 26 := hsN3_.e (by decide)
      have e55_N3_ : ze N3_ 81 55 = ze Mz 81 55 := hsN3_.e (by decide)
      have c5_ : zGB T N3_ := zGB.fr hsN3_ p0_ (by decide) (by decide)
      have c6_ : zSR (gF T).length s_ N3_ := zSR.fr hsN3_ p1_ (by decide) (by decide)
      have c7_ : zTab T N3_ := zTab.fr hsN3_ dv0 (by decide) (by decide)
      have c8_ : zB 85 144 0 5 N3_ := zB.fr hsN3_ dv1 (by decide) (by decide)
      have c9_ : zJX T N3_ := zJX.fr hsN3_ dv2 (by decide) (by decide)
      have c10_ : zFirs T N3_ := zFirs.fr hsN3_ dv3 (by decide) (by decide)
      have c11_ : zSSm T N3_ := zSSm.fr hsN3_ dv4 (by decide) (by decide)
      have c12_ : zGD N3_ := zGD.fr hsN3_ dv5 (by decide) (by decide)
      have c13_ : zRmk (gF T).length (gmkI T) N3_ := zRmk.fr hsN3_ dv6 (by decide) (by decide)
      show zW l m_M_congruence (zn Mz + 0, zw Mz + 0) N3_ 16 [some (.ref 81), some (.int (Int32.ofInt a0_))] [] (zpJ [55] [99, 109] Mz (fun v N => ((((0 ≤ a0_ ∧ a0_ < ((gF T).length : Int)) ∧ v = (zsm (zmi T (gFn T (a0_).toNat) (zcgF T (gFn T (a0_).toNat) (zmq (gF T).length (gmkI T) s_.1))) (gN T)).tdiv ((gmm T (gFn T (a0_).toNat) : Nat) : Int)) ∨ (¬ (0 ≤ a0_ ∧ a0_ < ((gF T).length : Int)) ∧ v = (-9223372036854775808 : Int))))))
      have hmk_ := hp0_N3_
      have hmj_ : ∀ j_ : Nat, j_ < (gF T).length → zg N3_ 99 j_ = (zmq (gF T).length (gmkI T) s_.1) j_ := fun j_ hj_ => (hmk_ j_ hj_).trans (zmq_c hev_ _)
      have hab_ : ∀ j_ : Nat, j_ < (gF T).length → ((zmq (gF T).length (gmkI T) s_.1) j_).natAbs ≤ 6480000000000000 := fun j_ hj_ => by have h_ := zmq_b (j := j_) hF27_ (fun i_ hi_ => hAr_.1 i_ _ hi_ hj_) hlx_; rw [zmq_c hev_] at h_; omega
      refine zw_aload_n (pc := 16) (n := 0) (x := 81) rfl d_M_congruence_16 ?_
      refine zw_aload_n (pc := 17) (n := 0) (x := 81) rfl d_M_congruence_17 ?_
      refine zr_getF (r := 99) (hf_N3_.w hW) (pc := 18) f_M_69 rfl (zh_99 (hf_N3_.w hW)).1 d_M_congruence_18 ?_
      refine zw_iload_n (pc := 21) (n := 1) (x := Int32.ofInt a0_) rfl d_M_congruence_21 ?_
      refine zr_callV (hf_N3_.w hW) hf_N3_.x (pc := 22) [.ref 99, .int (Int32.ofInt a0_)] [] l_M_475 (c_M_congruenceOf_99S l N3_ (hf_N3_.w hW) a0_ ha0_a ha0_b T hO hX c5_ (show 0 ≤ a0_ by first | assumption | omega) (show a0_ < ze N3_ 81 26 by first | assumption | omega)) rfl rfl rfl (by decide) (Nat.le_of_ble_eq_true rfl) d_M_congruence_22 ?_
      rintro _ N14_ ⟨v15_, rfl, ⟨hv15_a, hv15_b⟩, hsN14_, ⟨hp0_N14_, hp1_N14_, hp2_N14_, hp3_N14_⟩⟩
      have hf_N14_ : zFr [55] [99, 109] Mz N14_ := hf_N3_.tr hsN14_ (by decide) (by decide)
      have e26_N14_ : ze N14_ 81 26 = ze N3_ 81 26 := hsN14_.e (by decide)
      have r55_N14_ := ze_r N14_ 81 55
      have c16_ : zGB T N14_ := zGB.fr hsN14_ c5_ (by decide) (by decide)
      have c17_ : zSR (gF T).length s_ N14_ := zSR.fr hsN14_ c6_ (by decide) (by decide)
      have c18_ : zTab T N14_ := zTab.fr hsN14_ c7_ (by decide) (by decide)
      have c19_ : zB 85 144 0 5 N14_ := zB.fr hsN14_ c8_ (by decide) (by decide)
      have c20_ : zJX T N14_ := zJX.fr hsN14_ c9_ (by decide) (by decide)
      have c21_ : zFirs T N14_ := zFirs.fr hsN14_ c10_ (by decide) (by decide)
      have c22_ : zSSm T N14_ := zSSm.fr hsN14_ c11_ (by decide) (by decide)
      have c23_ : zGD N14_ := zGD.fr hsN14_ c12_ (by decide) (by decide)
      have c24_ : zRmk (gF T).length (gmkI T) N14_ := zRmk.fr hsN14_ c13_ (by decide) (by decide)
      show zW l m_M_congruence (zn Mz + 0, zw Mz + 0) N14_ 25 [some (.ref 81), some (.int (Int32.ofInt a0_))] [.long (Int64.ofInt v15_)] (zpJ [55] [99, 109] Mz (fun v N => ((((0 ≤ a0_ ∧ a0_ < ((gF T).length : Int)) ∧ v = (zsm (zmi T (gFn T (a0_).toNat) (zcgF T (gFn T (a0_).toNat) (zmq (gF T).length (gmkI T) s_.1))) (gN T)).tdiv ((gmm T (gFn T (a0_).toNat) : Nat) : Int)) ∨ (¬ (0 ≤ a0_ ∧ a0_ < ((gF T).length : Int)) ∧ v = (-9223372036854775808 : Int))))))
      have hco_ := hp0_N14_
      rw [show zcgF T (gFn T (a0_).toNat) (fun j_ => zg N3_ 99 j_) = zcgF T (gFn T (a0_).toNat) (zmq (gF T).length (gmkI T) s_.1) from funext fun x_ => hmj_ _ (gsr_lt hTt _)] at hco_
      have hsb_ := zmi_sb hTt (H := (gFn T (a0_).toNat)) (f := (zmq (gF T).length (gmkI T) s_.1)) (n := gN T) (by omega) hab_
      have hve_ := z64q ⟨by omega, by omega⟩ ⟨by omega, by omega⟩ hco_
      have hgm_ := hp1_N14_
      have hqt_ := zq_t (a := v15_) (b := ze N14_ 81 55) (by omega) (by omega) (by omega) (by omega)
      rw [hve_, hgm_] at hqt_
      refine zw_aload_n (pc := 25) (n := 0) (x := 81) rfl d_M_congruence_25 ?_
      refine zr_getI (hf_N14_.w hW) (pc := 26) f_M_453 rfl d_M_congruence_26 ?_
      refine zr_i2l (pc := 29) ⟨(ze_r N14_ 81 55).1, (ze_r N14_ 81 55).2⟩ d_M_congruence_29 ?_
      refine zr_ldiv (pc := 30) ⟨by omega, by omega⟩ (by omega) d_M_congruence_30 ?_
      have hr25_ := zlquo_r v15_ (ze N14_ 81 55)
      exact zr_lret (pc := 31) rfl ⟨by omega, by omega⟩ hf_N14_ (show (((0 ≤ a0_ ∧ a0_ < ((gF T).length : Int)) ∧ (zlquo v15_ (ze N14_ 81 55)) = (zsm (zmi T (gFn T (a0_).toNat) (zcgF T (gFn T (a0_).toNat) (zmq (gF T).length (gmkI T) s_.1))) (gN T)).tdiv ((gmm T (gFn T (a0_).toNat) : Nat) : Int)) ∨ (¬ (0 ≤ a0_ ∧ a0_ < ((gF T).length : Int)) ∧ (zlquo v15_ (ze N14_ 81 55)) = (-9223372036854775808 : Int))) by first | exact Or.inr ⟨by omega, rfl⟩ | exact Or.inl ⟨by omega, by rw [hve_, hgm_]; exact hqt_⟩) d_M_congruence_31
    · skip
      exact absurd hc_5 (by decide)
  · skip
    show zW l m_M_congruence (zn Mz + 0, zw Mz + 0) Mz 5 [some (.ref 81), some (.int (Int32.ofInt a0_))] [.int (Int32.ofInt 0)] (zpJ [55] [99, 109] Mz (fun v N => ((((0 ≤ a0_ ∧ a0_ < ((gF T).length : Int)) ∧ v = (zsm (zmi T (gFn T (a0_).toNat) (zcgF T (gFn T (a0_).toNat) (zmq (gF T).length (gmkI T) s_.1))) (gN T)).tdiv ((gmm T (gFn T (a0_).toNat) : Nat) : Int)) ∨ (¬ (0 ≤ a0_ ∧ a0_ < ((gF T).length : Int)) ∧ v = (-9223372036854775808 : Int))))))
    refine zr_if_ne (pc := 5) (tgt := 12) ⟨(by decide), (by decide)⟩ (by decide) d_M_congruence_5 (fun hc_5 => ?_) (fun hc_5 => ?_)
    · skip
      exact absurd hc_5 (by decide)
    · skip
      refine zr_ldc2 (pc := 8) (n := (-9223372036854775808)) (by decide) k_M_470 d_M_congruence_8 ?_
      exact zr_lret (pc := 11) rfl ⟨by omega, by omega⟩ hf (show (((0 ≤ a0_ ∧ a0_ < ((gF T).length : Int)) ∧ ((-9223372036854775808)) = (zsm (zmi T (gFn T (a0_).toNat) (zcgF T (gFn T (a0_).toNat) (zmq (gF T).length (gmkI T) s_.1))) (gN T)).tdiv ((gmm T (gFn T (a0_).toNat) : Nat) : Int)) ∨ (¬ (0 ≤ a0_ ∧ a0_ < ((gF T).length : Int)) ∧ ((-9223372036854775808)) = (-9223372036854775808 : Int))) by first | exact Or.inr ⟨by omega, rfl⟩ | exact Or.inl ⟨by omega, by rw [hve_, hgm_]; exact hqt_⟩) d_M_congruence_11
