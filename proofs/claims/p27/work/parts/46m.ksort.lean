set_option maxHeartbeats 4000000 in
theorem u_Integer_bitCount (l : Launch) (d_ : Nat) (Mz : zMem) (hW : zKW d_ Mz) (a0_ : Int) (ha0_a : -2147483648 ≤ a0_) (ha0_b : a0_ < 2147483648) (p0_ : 0 ≤ a0_) : zC l m_Integer_bitCount 0 0 [.int (Int32.ofInt a0_)] Mz (zqcI d_ [] [] [] [] Mz (fun v N => v = (kbc (a0_).toNat : Nat) ∧ 0 ≤ v ∧ v ≤ 63)) := by
  refine zC_of (L0 := [some (.int (Int32.ofInt a0_))]) md_Integer_bitCount (Nat.le_of_ble_eq_true rfl) rfl ?_ zQ0
  have hf : zFc d_ [] [] [] [] Mz Mz := zFc.rf
  obtain ⟨n_, hn_⟩ : ∃ n : Nat, n = (a0_).toNat := ⟨_, rfl⟩
  have hn0_ : a0_ = ((n_ : Nat) : Int) := by omega
  obtain ⟨g1_, g2_⟩ := zbc_1 (n := n_) (by omega)
  obtain ⟨g3_, g4_⟩ := zbc_2 g2_
  have g5_ := kbc2_b (kbc1 n_)
  obtain ⟨g6_, g7_⟩ := zbc_3 g4_ g5_
  obtain ⟨g8_, g9_⟩ := zbc_4 g7_
  have g10_ := zbc_5 g9_
  have g11_ := kbc_b n_
  refine zw_iload_n (pc := 0) (n := 0) (x := Int32.ofInt a0_) rfl (zdal_p dlB_Integer_bitCount_152 (i := 0) rfl) ?_
  refine zw_iload_n (pc := 1) (n := 0) (x := Int32.ofInt a0_) rfl (zdal_p dlB_Integer_bitCount_152 (i := 1) rfl) ?_
  refine zw_iconst (pc := 2) (v := Int32.ofInt 1) (by decide) (zdal_p dlB_Integer_bitCount_152 (i := 2) rfl) ?_
  refine zr_iushr (pc := 3) (zdal_p dlB_Integer_bitCount_152 (i := 3) rfl) ?_
  refine zw_ldcw (pc := 4) (v := Int32.ofInt 1431655765) (by rw [show Int32.ofInt 1431655765 = (1431655765 : Int32) by decide]; exact k_Integer_265) (zdal_p dlB_Integer_bitCount_152 (i := 4) rfl) ?_
  refine zr_iand (pc := 7) (zdal_p dlB_Integer_bitCount_152 (i := 5) rfl) ?_
  have hr1_ := zand_r (zush a0_ 1) 1431655765
  refine zr_isub (pc := 8) (zdal_p dlB_Integer_bitCount_152 (i := 6) rfl) ?_
  refine zr_toI (show (a0_ - (zand (zush a0_ 1) 1431655765)) = ((kbc1 n_ : Nat) : Int) by rw [ hn0_]; exact g1_) ?_
  refine zw_istore_n (pc := 9) (i := 0) (L2 := [some (.int (Int32.ofInt (((kbc1 n_ : Nat) : Int))))]) rfl (by decide) rfl (zdal_p dlB_Integer_bitCount_152 (i := 7) rfl) ?_
  refine zw_iload_n (pc := 10) (n := 0) (x := Int32.ofInt (((kbc1 n_ : Nat) : Int))) rfl (zdal_p dlB_Integer_bitCount_152 (i := 8) rfl) ?_
  refine zw_ldcw (pc := 11) (v := Int32.ofInt 858993459) (by rw [show Int32.ofInt 858993459 = (858993459 : Int32) by decide]; exact k_Integer_266) (zdal_p dlB_Integer_bitCount_152 (i := 9) rfl) ?_
  refine zr_iand (pc := 14) (zdal_p dlB_Integer_bitCount_152 (i := 10) rfl) ?_
  have hr2_ := zand_r (((kbc1 n_ : Nat) : Int)) 858993459
  refine zw_iload_n (pc := 15) (n := 0) (x := Int32.ofInt (((kbc1 n_ : Nat) : Int))) rfl (zdal_p dlB_Integer_bitCount_152 (i := 11) rfl) ?_
  refine zw_iconst (pc := 16) (v := Int32.ofInt 2) (by decide) (zdal_p dlB_Integer_bitCount_152 (i := 12) rfl) ?_
  refine zr_iushr (pc := 17) (zdal_p dlB_Integer_bitCount_152 (i := 13) rfl) ?_
  refine zw_ldcw (pc := 18) (v := Int32.ofInt 858993459) (by rw [show Int32.ofInt 858993459 = (858993459 : Int32) by decide]; exact k_Integer_266) (zdal_p dlB_Integer_bitCount_152 (i := 14) rfl) ?_
  refine zr_iand (pc := 21) (zdal_p dlB_Integer_bitCount_152 (i := 15) rfl) ?_
  have hr3_ := zand_r (zush (((kbc1 n_ : Nat) : Int)) 2) 858993459
  refine zr_iadd (pc := 22) (zdal_p dlB_Integer_bitCount_152 (i := 16) rfl) ?_
  refine zr_toI (show ((zand (((kbc1 n_ : Nat) : Int)) 858993459) + (zand (zush (((kbc1 n_ : Nat) : Int)) 2) 858993459)) = ((kbc2 (kbc1 n_) : Nat) : Int) from g3_) ?_
  refine zw_istore_n (pc := 23) (i := 0) (L2 := [some (.int (Int32.ofInt (((kbc2 (kbc1 n_) : Nat) : Int))))]) rfl (by decide) rfl (zdal_p dlB_Integer_bitCount_152 (i := 17) rfl) ?_
  refine zw_iload_n (pc := 24) (n := 0) (x := Int32.ofInt (((kbc2 (kbc1 n_) : Nat) : Int))) rfl (zdal_p dlB_Integer_bitCount_152 (i := 18) rfl) ?_
  refine zw_iload_n (pc := 25) (n := 0) (x := Int32.ofInt (((kbc2 (kbc1 n_) : Nat) : Int))) rfl (zdal_p dlB_Integer_bitCount_152 (i := 19) rfl) ?_
  refine zw_iconst (pc := 26) (v := Int32.ofInt 4) (by decide) (zdal_p dlB_Integer_bitCount_152 (i := 20) rfl) ?_
  refine zr_iushr (pc := 27) (zdal_p dlB_Integer_bitCount_152 (i := 21) rfl) ?_
  refine zr_iadd (pc := 28) (zdal_p dlB_Integer_bitCount_152 (i := 22) rfl) ?_
  refine zw_ldcw (pc := 29) (v := Int32.ofInt 252645135) (by rw [show Int32.ofInt 252645135 = (252645135 : Int32) by decide]; exact k_Integer_267) (zdal_p dlB_Integer_bitCount_152 (i := 23) rfl) ?_
  refine zr_iand (pc := 32) (zdal_p dlB_Integer_bitCount_153 (i := 0) rfl) ?_
  have hr4_ := zand_r ((((kbc2 (kbc1 n_) : Nat) : Int)) + (zush (((kbc2 (kbc1 n_) : Nat) : Int)) 4)) 252645135
  refine zr_toI (show (zand ((((kbc2 (kbc1 n_) : Nat) : Int)) + (zush (((kbc2 (kbc1 n_) : Nat) : Int)) 4)) 252645135) = ((kbc3 (kbc2 (kbc1 n_)) : Nat) : Int) from g6_) ?_
  refine zw_istore_n (pc := 33) (i := 0) (L2 := [some (.int (Int32.ofInt (((kbc3 (kbc2 (kbc1 n_)) : Nat) : Int))))]) rfl (by decide) rfl (zdal_p dlB_Integer_bitCount_153 (i := 1) rfl) ?_
  refine zw_iload_n (pc := 34) (n := 0) (x := Int32.ofInt (((kbc3 (kbc2 (kbc1 n_)) : Nat) : Int))) rfl (zdal_p dlB_Integer_bitCount_153 (i := 2) rfl) ?_
  refine zw_iload_n (pc := 35) (n := 0) (x := Int32.ofInt (((kbc3 (kbc2 (kbc1 n_)) : Nat) : Int))) rfl (zdal_p dlB_Integer_bitCount_153 (i := 3) rfl) ?_
  refine zw_bipush (pc := 36) (v := Int32.ofInt 8) (by decide) (zdal_p dlB_Integer_bitCount_153 (i := 4) rfl) ?_
  refine zr_iushr (pc := 38) (zdal_p dlB_Integer_bitCount_153 (i := 5) rfl) ?_
  refine zr_iadd (pc := 39) (zdal_p dlB_Integer_bitCount_153 (i := 6) rfl) ?_
  refine zr_toI (show ((((kbc3 (kbc2 (kbc1 n_)) : Nat) : Int)) + (zush (((kbc3 (kbc2 (kbc1 n_)) : Nat) : Int)) 8)) = ((kbc4 (kbc3 (kbc2 (kbc1 n_))) : Nat) : Int) from g8_) ?_
  refine zw_istore_n (pc := 40) (i := 0) (L2 := [some (.int (Int32.ofInt (((kbc4 (kbc3 (kbc2 (kbc1 n_))) : Nat) : Int))))]) rfl (by decide) rfl (zdal_p dlB_Integer_bitCount_153 (i := 7) rfl) ?_
  refine zw_iload_n (pc := 41) (n := 0) (x := Int32.ofInt (((kbc4 (kbc3 (kbc2 (kbc1 n_))) : Nat) : Int))) rfl (zdal_p dlB_Integer_bitCount_153 (i := 8) rfl) ?_
  refine zw_iload_n (pc := 42) (n := 0) (x := Int32.ofInt (((kbc4 (kbc3 (kbc2 (kbc1 n_))) : Nat) : Int))) rfl (zdal_p dlB_Integer_bitCount_153 (i := 9) rfl) ?_
  refine zw_bipush (pc := 43) (v := Int32.ofInt 16) (by decide) (zdal_p dlB_Integer_bitCount_153 (i := 10) rfl) ?_
  refine zr_iushr (pc := 45) (zdal_p dlB_Integer_bitCount_153 (i := 11) rfl) ?_
  refine zr_iadd (pc := 46) (zdal_p dlB_Integer_bitCount_153 (i := 12) rfl) ?_
  refine zw_istore_n (pc := 47) (i := 0) (L2 := [some (.int (Int32.ofInt ((((kbc4 (kbc3 (kbc2 (kbc1 n_))) : Nat) : Int)) + (zush (((kbc4 (kbc3 (kbc2 (kbc1 n_))) : Nat) : Int)) 16))))]) rfl (by decide) rfl (zdal_p dlB_Integer_bitCount_153 (i := 13) rfl) ?_
  refine zw_iload_n (pc := 48) (n := 0) (x := Int32.ofInt ((((kbc4 (kbc3 (kbc2 (kbc1 n_))) : Nat) : Int)) + (zush (((kbc4 (kbc3 (kbc2 (kbc1 n_))) : Nat) : Int)) 16))) rfl (zdal_p dlB_Integer_bitCount_153 (i := 14) rfl) ?_
  refine zw_bipush (pc := 49) (v := Int32.ofInt 63) (by decide) (zdal_p dlB_Integer_bitCount_153 (i := 15) rfl) ?_
  refine zr_iand (pc := 51) (zdal_p dlB_Integer_bitCount_153 (i := 16) rfl) ?_
  have hr5_ := zand_r ((((kbc4 (kbc3 (kbc2 (kbc1 n_))) : Nat) : Int)) + (zush (((kbc4 (kbc3 (kbc2 (kbc1 n_))) : Nat) : Int)) 16)) 63
  refine zr_toI (show (zand ((((kbc4 (kbc3 (kbc2 (kbc1 n_))) : Nat) : Int)) + (zush (((kbc4 (kbc3 (kbc2 (kbc1 n_))) : Nat) : Int)) 16)) 63) = ((kbc n_ : Nat) : Int) from g10_) ?_
  exact zk_iret (pc := 52) (ty := .int) rfl rfl ⟨by omega, by omega⟩ hf ⟨(show (((kbc n_ : Nat) : Int)) = (kbc (a0_).toNat : Nat) by rw [ hn_]), (show 0 ≤ (((kbc n_ : Nat) : Int)) by first | assumption | omega), (show (((kbc n_ : Nat) : Int)) ≤ 63 by first | assumption | omega)⟩ (zdal_p dlB_Integer_bitCount_153 (i := 17) rfl)
set_option maxHeartbeats 4000000 in
theorem u_T_isPart (l : Launch) (d_ : Nat) (Mz : zMem) (hW : zKW d_ Mz) (a0_ : Int) (ha0_a : -2147483648 ≤ a0_) (ha0_b : a0_ < 2147483648) (a1_ : Int) (ha1_a : -2147483648 ≤ a1_) (ha1_b : a1_ < 2147483648) (p0_ : 0 ≤ a0_) (p1_ : a0_ < 2147483648) (p2_ : 0 ≤ a1_) (p3_ : a1_ < 2147483648) : zC l m_T_isPart 0 0 [.int (Int32.ofInt a0_), .int (Int32.ofInt a1_)] Mz (zqcI d_ [] [] [] [] Mz (fun v N => (((v = 1 ∧ (a0_).toNat &&& (a1_).toNat = (a0_).toNat) ∨ (v = 0 ∧ ¬ (a0_).toNat &&& (a1_).toNat = (a0_).toNat))))) := by
  refine zC_of (L0 := [some (.int (Int32.ofInt a0_)), some (.int (Int32.ofInt a1_))]) md_T_isPart (Nat.le_of_ble_eq_true rfl) rfl ?_ zQ0
  have hf : zFc d_ [] [] [] [] Mz Mz := zFc.rf
  have hzz_ := zpa_n (b := (a0_).toNat) (w := (a1_).toNat) (by omega) (by omega)
  rw [ Int.toNat_of_nonneg p0_, Int.toNat_of_nonneg p2_] at hzz_
  refine zw_iload_n (pc := 0) (n := 0) (x := Int32.ofInt a0_) rfl (zdal_p dlA_T_isPart_58 (i := 0) rfl) ?_
  refine zw_iload_n (pc := 1) (n := 1) (x := Int32.ofInt a1_) rfl (zdal_p dlA_T_isPart_58 (i := 1) rfl) ?_
  refine zw_iconst (pc := 2) (v := Int32.ofInt (-1)) (by decide) (zdal_p dlA_T_isPart_58 (i := 2) rfl) ?_
  refine zr_ixor (pc := 3) (zdal_p dlA_T_isPart_58 (i := 3) rfl) ?_
  have hr1_ := zxor_r a1_ ((-1))
  refine zr_iand (pc := 4) (zdal_p dlA_T_isPart_58 (i := 4) rfl) ?_
  have hr2_ := zand_r a0_ (zxor a1_ ((-1)))
  refine zr_if_ne (pc := 5) (tgt := 12) ⟨(by omega), (by omega)⟩ (by decide) (zdal_p dlA_T_isPart_58 (i := 5) rfl) (fun hc_5 => ?_) (fun hc_5 => ?_)
  · skip
    refine zw_iconst (pc := 12) (v := Int32.ofInt 0) (by decide) (zdal_p dlA_T_isPart_58 (i := 8) rfl) ?_
    exact zk_iret (pc := 13) (ty := .boolean) rfl (z_narB (by omega)) ⟨by omega, by omega⟩ hf (show ((0 = 1 ∧ (a0_).toNat &&& (a1_).toNat = (a0_).toNat) ∨ (0 = 0 ∧ ¬ (a0_).toNat &&& (a1_).toNat = (a0_).toNat)) from Or.inr (⟨(show 0 = 0 by first | rfl | exact fun q_ => absurd (hzz_.mpr q_) (by omega)), (show ¬ (a0_).toNat &&& (a1_).toNat = (a0_).toNat by first | rfl | exact fun q_ => absurd (hzz_.mpr q_) (by omega))⟩)) (zdal_p dlA_T_isPart_58 (i := 9) rfl)
  · skip
    refine zw_iconst (pc := 8) (v := Int32.ofInt 1) (by decide) (zdal_p dlA_T_isPart_58 (i := 6) rfl) ?_
    refine zw_goto (pc := 9) (tgt := 13) (by decide) (zdal_p dlA_T_isPart_58 (i := 7) rfl) ?_
    exact zk_iret (pc := 13) (ty := .boolean) rfl (z_narB (by omega)) ⟨by omega, by omega⟩ hf (show ((1 = 1 ∧ (a0_).toNat &&& (a1_).toNat = (a0_).toNat) ∨ (1 = 0 ∧ ¬ (a0_).toNat &&& (a1_).toNat = (a0_).toNat)) from Or.inl (⟨(show 1 = 1 by first | rfl | exact hzz_.mp (by omega)), (show (a0_).toNat &&& (a1_).toNat = (a0_).toNat by first | rfl | exact hzz_.mp (by omega))⟩)) (zdal_p dlA_T_isPart_58 (i := 9) rfl)
set_option maxHeartbeats 4000000 in
theorem u_Group_both (l : Launch) (d_ : Nat) (Mz : zMem) (hW : zKW d_ Mz) (a0_ : Int) (ha0_a : -2147483648 ≤ a0_) (ha0_b : a0_ < 2147483648) (a1_ : Int) (ha1_a : -2147483648 ≤ a1_) (ha1_b : a1_ < 2147483648) (T_ : zGT) (hT_ : T_ ∈ gTabs) (p0_ : zTt T_ d_ Mz) (p1_ : 0 ≤ a0_) (p2_ : a0_ < gN T_) (p3_ : 0 ≤ a1_) (p4_ : a1_ < gN T_) : zC l m_Group_both 0 0 [.ref (d_ + 1), .int (Int32.ofInt a0_), .int (Int32.ofInt a1_)] Mz (zqcI d_ [] [] [] [] Mz (fun v N => v = (gm T_ (a0_).toNat (a1_).toNat : Nat) ∧ 0 ≤ v ∧ v < gN T_)) := by
  refine zC_of (L0 := [some (.ref (d_ + 1)), some (.int (Int32.ofInt a0_)), some (.int (Int32.ofInt a1_))]) md_Group_both (Nat.le_of_ble_eq_true rfl) rfl ?_ zQ0
  have hf : zFc d_ [] [] [] [] Mz Mz := zFc.rf
  have hO_ := gTabs_ok T_ hT_
  have hG_ := hO_.1
  have hn24_ := hG_.2.1
  have hn1_ := hG_.1
  refine zw_aload_n (pc := 0) (n := 0) (x := (d_ + 1)) rfl (zdal_p dlA_Group_both_39 (i := 0) rfl) ?_
  refine zw_getF (pc := 1) f_Group_23 rfl ((hf.w hW).kr (o := 1) (by decide)) ((hf.w hW).lr (o := 1) (s := 2) (r := 6) (by decide)) (zdal_p dlA_Group_both_39 (i := 1) rfl) ?_
  refine zw_iload_n (pc := 4) (n := 1) (x := Int32.ofInt a0_) rfl (zdal_p dlA_Group_both_39 (i := 2) rfl) ?_
  refine zw_bipush (pc := 5) (v := Int32.ofInt 24) (by decide) (zdal_p dlA_Group_both_39 (i := 3) rfl) ?_
  refine zr_imul (pc := 7) (zdal_p dlA_Group_both_39 (i := 4) rfl) ?_
  refine zw_iload_n (pc := 8) (n := 2) (x := Int32.ofInt a1_) rfl (zdal_p dlA_Group_both_39 (i := 5) rfl) ?_
  refine zr_iadd (pc := 9) (zdal_p dlA_Group_both_39 (i := 6) rfl) ?_
  refine zk_at hf.x (pc := 10) l_Group_54 ((hf.w hW).kr (o := 6) (by decide)) ((hf.w hW).lr (o := 6) (s := 0) (r := 7) (by decide)) ((hf.w hW).rr (o := 7) (t := 1) (n := 576) (by decide)) (by decide) (by omega) (by omega) (by decide) (Nat.le_of_ble_eq_true rfl) (zdal_p dlA_Group_both_39 (i := 7) rfl) (fun v1_ hv1_ hv1_a hv1_b => ?_)
  obtain ⟨g1_, g2_, g3_⟩ := p0_.m hG_ p1_ p2_ p3_ p4_ hv1_
  exact zk_iret (pc := 13) (ty := .int) rfl rfl ⟨by omega, by omega⟩ hf ⟨(show v1_ = (gm T_ (a0_).toNat (a1_).toNat : Nat) by first | assumption | omega), (show 0 ≤ v1_ by first | assumption | omega), (show v1_ < gN T_ by first | assumption | omega)⟩ (zdal_p dlA_Group_both_39 (i := 8) rfl)
set_option maxHeartbeats 4000000 in
theorem u_Group_turn (l : Launch) (d_ : Nat) (Mz : zMem) (hW : zKW d_ Mz) (a0_ : Int) (ha0_a : -2147483648 ≤ a0_) (ha0_b : a0_ < 2147483648) (a1_ : Int) (ha1_a : -2147483648 ≤ a1_) (ha1_b : a1_ < 2147483648) (T_ : zGT) (hT_ : T_ ∈ gTabs) (p0_ : zTt T_ d_ Mz) (p1_ : 0 ≤ a0_) (p2_ : a0_ < gN T_) (p3_ : 0 ≤ a1_) (p4_ : a1_ < gN T_) : zC l m_Group_turn 0 0 [.ref (d_ + 1), .int (Int32.ofInt a0_), .int (Int32.ofInt a1_)] Mz (zqcI d_ [] [] [] [] Mz (fun v N => v = (gm T_ (gm T_ (gi T_ (a1_).toNat) (a0_).toNat) (a1_).toNat : Nat) ∧ 0 ≤ v ∧ v < gN T_)) := by
  refine zC_of (L0 := [some (.ref (d_ + 1)), some (.int (Int32.ofInt a0_)), some (.int (Int32.ofInt a1_)), none]) md_Group_turn (Nat.le_of_ble_eq_true rfl) rfl ?_ zQ0
  have hf : zFc d_ [] [] [] [] Mz Mz := zFc.rf
  have hO_ := gTabs_ok T_ hT_
  have hG_ := hO_.1
  have hn24_ := hG_.2.1
  have hn1_ := hG_.1
  refine zw_aload_n (pc := 0) (n := 0) (x := (d_ + 1)) rfl (zdal_p dlA_Group_turn_51 (i := 0) rfl) ?_
  refine zw_getF (pc := 1) f_Group_23 rfl ((hf.w hW).kr (o := 1) (by decide)) ((hf.w hW).lr (o := 1) (s := 2) (r := 6) (by decide)) (zdal_p dlA_Group_turn_51 (i := 1) rfl) ?_
  refine zw_aload_n (pc := 4) (n := 0) (x := (d_ + 1)) rfl (zdal_p dlA_Group_turn_51 (i := 2) rfl) ?_
  refine zw_getF (pc := 5) f_Group_26 rfl ((hf.w hW).kr (o := 1) (by decide)) ((hf.w hW).lr (o := 1) (s := 3) (r := 8) (by decide)) (zdal_p dlA_Group_turn_51 (i := 3) rfl) ?_
  refine zw_iload_n (pc := 8) (n := 2) (x := Int32.ofInt a1_) rfl (zdal_p dlA_Group_turn_51 (i := 4) rfl) ?_
  refine zk_at hf.x (pc := 9) l_Group_54 ((hf.w hW).kr (o := 8) (by decide)) ((hf.w hW).lr (o := 8) (s := 0) (r := 9) (by decide)) ((hf.w hW).rr (o := 9) (t := 1) (n := 24) (by decide)) (by decide) (by omega) (by omega) (by decide) (Nat.le_of_ble_eq_true rfl) (zdal_p dlA_Group_turn_51 (i := 5) rfl) (fun v1_ hv1_ hv1_a hv1_b => ?_)
  obtain ⟨g1_, g2_, g3_⟩ := p0_.u hG_ p3_ p4_ hv1_
  refine zw_bipush (pc := 12) (v := Int32.ofInt 24) (by decide) (zdal_p dlA_Group_turn_51 (i := 6) rfl) ?_
  refine zr_imul (pc := 14) (zdal_p dlA_Group_turn_51 (i := 7) rfl) ?_
  refine zw_iload_n (pc := 15) (n := 1) (x := Int32.ofInt a0_) rfl (zdal_p dlA_Group_turn_51 (i := 8) rfl) ?_
  refine zr_iadd (pc := 16) (zdal_p dlA_Group_turn_51 (i := 9) rfl) ?_
  refine zk_at hf.x (pc := 17) l_Group_54 ((hf.w hW).kr (o := 6) (by decide)) ((hf.w hW).lr (o := 6) (s := 0) (r := 7) (by decide)) ((hf.w hW).rr (o := 7) (t := 1) (n := 576) (by decide)) (by decide) (by omega) (by omega) (by decide) (Nat.le_of_ble_eq_true rfl) (zdal_p dlA_Group_turn_51 (i := 10) rfl) (fun v2_ hv2_ hv2_a hv2_b => ?_)
  obtain ⟨g4_, g5_, g6_⟩ := p0_.m hG_ g2_ g3_ p1_ p2_ hv2_
  refine zw_istore_n (pc := 20) (i := 3) (L2 := [some (.ref (d_ + 1)), some (.int (Int32.ofInt a0_)), some (.int (Int32.ofInt a1_)), some (.int (Int32.ofInt v2_))]) rfl (by decide) rfl (zdal_p dlA_Group_turn_51 (i := 11) rfl) ?_
  refine zw_aload_n (pc := 21) (n := 0) (x := (d_ + 1)) rfl (zdal_p dlA_Group_turn_51 (i := 12) rfl) ?_
  refine zw_getF (pc := 22) f_Group_23 rfl ((hf.w hW).kr (o := 1) (by decide)) ((hf.w hW).lr (o := 1) (s := 2) (r := 6) (by decide)) (zdal_p dlA_Group_turn_51 (i := 13) rfl) ?_
  refine zw_iload_n (pc := 25) (n := 3) (x := Int32.ofInt v2_) rfl (zdal_p dlA_Group_turn_51 (i := 14) rfl) ?_
  refine zw_bipush (pc := 26) (v := Int32.ofInt 24) (by decide) (zdal_p dlA_Group_turn_51 (i := 15) rfl) ?_
  refine zr_imul (pc := 28) (zdal_p dlA_Group_turn_51 (i := 16) rfl) ?_
  refine zw_iload_n (pc := 29) (n := 2) (x := Int32.ofInt a1_) rfl (zdal_p dlA_Group_turn_51 (i := 17) rfl) ?_
  refine zr_iadd (pc := 30) (zdal_p dlA_Group_turn_51 (i := 18) rfl) ?_
  refine zk_at hf.x (pc := 31) l_Group_54 ((hf.w hW).kr (o := 6) (by decide)) ((hf.w hW).lr (o := 6) (s := 0) (r := 7) (by decide)) ((hf.w hW).rr (o := 7) (t := 1) (n := 576) (by decide)) (by decide) (by omega) (by omega) (by decide) (Nat.le_of_ble_eq_true rfl) (zdal_p dlA_Group_turn_51 (i := 19) rfl) (fun v3_ hv3_ hv3_a hv3_b => ?_)
  obtain ⟨g7_, g8_, g9_⟩ := p0_.m hG_ g5_ g6_ p3_ p4_ hv3_
  exact zk_iret (pc := 34) (ty := .int) rfl rfl ⟨by omega, by omega⟩ hf ⟨(show v3_ = (gm T_ (gm T_ (gi T_ (a1_).toNat) (a0_).toNat) (a1_).toNat : Nat) by rw [g7_, g4_, g1_, Int.toNat_natCast, Int.toNat_natCast]), (show 0 ≤ v3_ by first | assumption | omega), (show v3_ < gN T_ by first | assumption | omega)⟩ (zdal_p dlA_Group_turn_51 (i := 20) rfl)
set_option maxHeartbeats 4000000 in
theorem u_Group_turnAll (l : Launch) (d_ : Nat) (Mz : zMem) (hW : zKW d_ Mz) (a0_ : Int) (ha0_a : -2147483648 ≤ a0_) (ha0_b : a0_ < 2147483648) (a1_ : Int) (ha1_a : -2147483648 ≤ a1_) (ha1_b : a1_ < 2147483648) (T_ : zGT) (hT_ : T_ ∈ gTabs) (p0_ : zTt T_ d_ Mz) (p1_ : 0 ≤ a0_) (p2_ : (a0_).toNat < 2 ^ gN T_) (p3_ : 0 ≤ a1_) (p4_ : a1_ < gN T_) : zC l m_Group_turnAll 0 0 [.ref (d_ + 1), .int (Int32.ofInt a0_), .int (Int32.ofInt a1_)] Mz (zqcI d_ [] [] [] [] Mz (fun v N => v = (gtr T_ (a0_).toNat (a1_).toNat : Nat) ∧ 0 ≤ v ∧ v < 16777216)) := by
  refine zC_of (L0 := [some (.ref (d_ + 1)), some (.int (Int32.ofInt a0_)), some (.int (Int32.ofInt a1_)), none, none]) md_Group_turnAll (Nat.le_of_ble_eq_true rfl) rfl ?_ zQ0
  have hf : zFc d_ [] [] [] [] Mz Mz := zFc.rf
  have r_D1_7 := ze_r Mz (d_ + 1) 7
  have hO_ := gTabs_ok T_ hT_
  have hG_ := hO_.1
  have hn24_ := hG_.2.1
  have hn1_ := hG_.1
  have h24_ := g24 hn24_ p1_ p2_
  have hsz_ := p0_.1
  have htl_ := gtr_lt hG_ (S := (a0_).toNat) (g := (a1_).toNat) (by omega)
  have hpw_ : 2 ^ gN T_ ≤ 2 ^ 24 := Nat.pow_le_pow_right (by omega) hn24_
  refine zw_iconst (pc := 0) (v := Int32.ofInt 0) (by decide) (zdal_p dlA_Group_turnAll_49 (i := 0) rfl) ?_
  refine zw_istore_n (pc := 1) (i := 3) (L2 := [some (.ref (d_ + 1)), some (.int (Int32.ofInt a0_)), some (.int (Int32.ofInt a1_)), some (.int (Int32.ofInt 0)), none]) rfl (by decide) rfl (zdal_p dlA_Group_turnAll_49 (i := 1) rfl) ?_
  refine zw_iconst (pc := 2) (v := Int32.ofInt 0) (by decide) (zdal_p dlA_Group_turnAll_49 (i := 2) rfl) ?_
  refine zw_istore (pc := 3) (i := 4) (L2 := [some (.ref (d_ + 1)), some (.int (Int32.ofInt a0_)), some (.int (Int32.ofInt a1_)), some (.int (Int32.ofInt 0)), some (.int (Int32.ofInt 0))]) (by decide) rfl (zdal_p dlA_Group_turnAll_49 (i := 3) rfl) ?_
  have lp_5 : ∀ (n : Nat) (u1_ : Int) (hu1_a : -2147483648 ≤ u1_) (hu1_b : u1_ < 2147483648) (u2_ : Int) (hu2_a : -2147483648 ≤ u2_) (hu2_b : u2_ < 2147483648) (i3_ : 0 ≤ u2_) (i4_ : u2_ ≤ gN T_) (i5_ : u1_ = (gup (gtrF T_ (a0_).toNat (a1_).toNat) 0 (u2_).toNat : Nat)), (gN T_ - u2_).toNat < n → zW l m_Group_turnAll (zn Mz + 0, zw Mz + 0) Mz 5 [some (.ref (d_ + 1)), some (.int (Int32.ofInt a0_)), some (.int (Int32.ofInt a1_)), some (.int (Int32.ofInt u1_)), some (.int (Int32.ofInt u2_))] [] (zqcI d_ [] [] [] [] Mz (fun v N => v = (gtr T_ (a0_).toNat (a1_).toNat : Nat) ∧ 0 ≤ v ∧ v < 16777216)) := by
    intro n
    induction n with
    | zero =>
      intro u1_ hu1_a hu1_b u2_ hu2_a hu2_b i3_ i4_ i5_ h0
      exact absurd h0 (Nat.not_lt_zero _)
    | succ n ih_5 =>
      intro u1_ hu1_a hu1_b u2_ hu2_a hu2_b i3_ i4_ i5_ hlt_5
      have hgt_ := (show u1_ = (gup (gtrF T_ (a0_).toNat (a1_).toNat) 0 (u2_).toNat : Nat) by assumption)
      refine zw_iload (pc := 5) (i := 4) (x := Int32.ofInt u2_) rfl (zdal_p dlA_Group_turnAll_49 (i := 4) rfl) ?_
      refine zw_aload_n (pc := 7) (n := 0) (x := (d_ + 1)) rfl (zdal_p dlA_Group_turnAll_49 (i := 5) rfl) ?_
      refine zk_getI (pc := 8) f_Group_39 rfl ((hf.w hW).kr (o := 1) (by decide)) (zdal_p dlA_Group_turnAll_49 (i := 6) rfl) ?_
      refine zr_icmp_ge (pc := 11) (tgt := 41) ⟨hu2_a, hu2_b⟩ ⟨(ze_r Mz (d_ + 1) 7).1, (ze_r Mz (d_ + 1) 7).2⟩ (by decide) (zdal_p dlA_Group_turnAll_49 (i := 7) rfl) (fun hc_11 => ?_) (fun hc_11 => ?_)
      · skip
        refine zw_iload_n (pc := 41) (n := 3) (x := Int32.ofInt u1_) rfl (zdal_p dlA_Group_turnAll_49 (i := 23) rfl) ?_
        exact zk_iret (pc := 42) (ty := .int) rfl rfl ⟨by omega, by omega⟩ hf ⟨(show u1_ = (gtr T_ (a0_).toNat (a1_).toNat : Nat) by rw [hgt_, show (u2_).toNat = gN T_ by omega]; rfl), (show 0 ≤ u1_ by omega), (show u1_ < 16777216 by rw [show (u2_).toNat = gN T_ by omega, ← gtr_e] at hgt_; omega)⟩ (zdal_p dlA_Group_turnAll_50 (i := 0) rfl)
      · skip
        refine zw_iload_n (pc := 14) (n := 1) (x := Int32.ofInt a0_) rfl (zdal_p dlA_Group_turnAll_49 (i := 8) rfl) ?_
        refine zw_iload (pc := 15) (i := 4) (x := Int32.ofInt u2_) rfl (zdal_p dlA_Group_turnAll_49 (i := 9) rfl) ?_
        refine zr_callS hf.x (pc := 17) [.int (Int32.ofInt a0_), .int (Int32.ofInt u2_)] [] l_Group_73 (u_T_isIn l d_ Mz (hf.w hW) a0_ ha0_a ha0_b u2_ hu2_a hu2_b (show 0 ≤ a0_ by first | assumption | omega) (show a0_ < 2147483648 by first | assumption | omega) (show 0 ≤ u2_ by first | assumption | omega) (show u2_ < 31 by first | assumption | omega)) rfl rfl (by decide) (Nat.le_of_ble_eq_true rfl) (zdal_p dlA_Group_turnAll_49 (i := 10) rfl) ?_
        rintro _ N6_ ⟨v7_, rfl, ⟨hv7_a, hv7_b⟩, hsN6_, hp0_N6_⟩
        obtain rfl := hsN6_.eq.symm
        replace hp0_N6_ : ((v7_ = 1 ∧ zbt a0_ u2_) ∨ (v7_ = 0 ∧ ¬ zbt a0_ u2_)) := hp0_N6_
        rcases hp0_N6_ with ⟨rfl, ha17_0_hp0_N6_⟩ | ⟨rfl, ha17_0_hp0_N6_⟩
        · skip
          have hb_ := ha17_0_hp0_N6_
          show zW l m_Group_turnAll (zn Mz + 0, zw Mz + 0) Mz 20 [some (.ref (d_ + 1)), some (.int (Int32.ofInt a0_)), some (.int (Int32.ofInt a1_)), some (.int (Int32.ofInt u1_)), some (.int (Int32.ofInt u2_))] [.int (Int32.ofInt 1)] _
          refine zr_if_eq (pc := 20) (tgt := 35) ⟨(by decide), (by decide)⟩ (by decide) (zdal_p dlA_Group_turnAll_49 (i := 11) rfl) (fun hc_20 => ?_) (fun hc_20 => ?_)
          · skip
            exact absurd hc_20 (by decide)
          · skip
            refine zw_iload_n (pc := 23) (n := 3) (x := Int32.ofInt u1_) rfl (zdal_p dlA_Group_turnAll_49 (i := 12) rfl) ?_
            refine zw_iconst (pc := 24) (v := Int32.ofInt 1) (by decide) (zdal_p dlA_Group_turnAll_49 (i := 13) rfl) ?_
            refine zw_aload_n (pc := 25) (n := 0) (x := (d_ + 1)) rfl (zdal_p dlA_Group_turnAll_49 (i := 14) rfl) ?_
            refine zw_iload (pc := 26) (i := 4) (x := Int32.ofInt u2_) rfl (zdal_p dlA_Group_turnAll_49 (i := 15) rfl) ?_
            refine zw_iload_n (pc := 28) (n := 2) (x := Int32.ofInt a1_) rfl (zdal_p dlA_Group_turnAll_49 (i := 16) rfl) ?_
            refine zk_callV hf.x (pc := 29) [.int (Int32.ofInt u2_), .int (Int32.ofInt a1_)] [.int (Int32.ofInt 1), .int (Int32.ofInt u1_)] l_Group_77 (u_Group_turn l d_ Mz (hf.w hW) u2_ hu2_a hu2_b a1_ ha1_a ha1_b T_ hT_ p0_ (show 0 ≤ u2_ by first | assumption | omega) (show u2_ < gN T_ by first | assumption | omega) (show 0 ≤ a1_ by first | assumption | omega) (show a1_ < gN T_ by first | assumption | omega)) rfl rfl ((hf.w hW).kr (o := 1) (by decide)) (by decide) (by decide) (Nat.le_of_ble_eq_true rfl) (zdal_p dlA_Group_turnAll_49 (i := 17) rfl) ?_
            rintro _ N8_ ⟨v9_, rfl, ⟨hv9_a, hv9_b⟩, hsN8_, ⟨hp0_N8_, hp1_N8_, hp2_N8_⟩⟩
            obtain rfl := hsN8_.eq.symm
            show zW l m_Group_turnAll (zn Mz + 0, zw Mz + 0) Mz 32 [some (.ref (d_ + 1)), some (.int (Int32.ofInt a0_)), some (.int (Int32.ofInt a1_)), some (.int (Int32.ofInt u1_)), some (.int (Int32.ofInt u2_))] [.int (Int32.ofInt v9_), .int (Int32.ofInt 1), .int (Int32.ofInt u1_)] _
            have hq_ := hp0_N8_
            refine zr_ishl (pc := 32) (zdal_p dlA_Group_turnAll_49 (i := 18) rfl) ?_
            have hr10_ := zshl_r 1 v9_
            refine zr_ior (pc := 33) (zdal_p dlA_Group_turnAll_49 (i := 19) rfl) ?_
            have hr11_ := zor_r u1_ (zshl 1 v9_)
            have hn_ := gtr_s1 hG_ (S := (a0_).toNat) (g := (a1_).toNat) (by omega) rfl (by omega) (by omega) hgt_ hb_ (w := ((gm T_ (gi T_ (a1_).toNat) (u2_).toNat : Nat) : Int)) rfl (hq_.trans (by rw [ Int.toNat_natCast]))
            refine zw_istore_n (pc := 34) (i := 3) (L2 := [some (.ref (d_ + 1)), some (.int (Int32.ofInt a0_)), some (.int (Int32.ofInt a1_)), some (.int (Int32.ofInt (zor u1_ (zshl 1 v9_)))), some (.int (Int32.ofInt u2_))]) rfl (by decide) rfl (zdal_p dlA_Group_turnAll_49 (i := 20) rfl) ?_
            refine zr_iinc (pc := 35) (i := 4) (a := u2_) (n := 1) (L2 := [some (.ref (d_ + 1)), some (.int (Int32.ofInt a0_)), some (.int (Int32.ofInt a1_)), some (.int (Int32.ofInt (zor u1_ (zshl 1 v9_)))), some (.int (Int32.ofInt (u2_ + 1)))]) rfl (by decide) rfl (zdal_p dlA_Group_turnAll_49 (i := 21) rfl) ?_
            refine zw_goto (pc := 38) (tgt := 5) (by decide) (zdal_p dlA_Group_turnAll_49 (i := 22) rfl) ?_
            exact ih_5 (zor u1_ (zshl 1 v9_)) (by omega) (by omega) (u2_ + 1) (by omega) (by omega) (show 0 ≤ (u2_ + 1) by first | assumption | omega) (show (u2_ + 1) ≤ gN T_ by first | assumption | omega) (show (zor u1_ (zshl 1 v9_)) = (gup (gtrF T_ (a0_).toNat (a1_).toNat) 0 ((u2_ + 1)).toNat : Nat) by exact hn_) (by omega)
        · skip
          have hn_ := gtr_s0 (T := T_) (S := (a0_).toNat) (g := (a1_).toNat) rfl (by omega) hgt_ ha17_0_hp0_N6_
          show zW l m_Group_turnAll (zn Mz + 0, zw Mz + 0) Mz 20 [some (.ref (d_ + 1)), some (.int (Int32.ofInt a0_)), some (.int (Int32.ofInt a1_)), some (.int (Int32.ofInt u1_)), some (.int (Int32.ofInt u2_))] [.int (Int32.ofInt 0)] _
          refine zr_if_eq (pc := 20) (tgt := 35) ⟨(by decide), (by decide)⟩ (by decide) (zdal_p dlA_Group_turnAll_49 (i := 11) rfl) (fun hc_20 => ?_) (fun hc_20 => ?_)
          · skip
            refine zr_iinc (pc := 35) (i := 4) (a := u2_) (n := 1) (L2 := [some (.ref (d_ + 1)), some (.int (Int32.ofInt a0_)), some (.int (Int32.ofInt a1_)), some (.int (Int32.ofInt u1_)), some (.int (Int32.ofInt (u2_ + 1)))]) rfl (by decide) rfl (zdal_p dlA_Group_turnAll_49 (i := 21) rfl) ?_
            refine zw_goto (pc := 38) (tgt := 5) (by decide) (zdal_p dlA_Group_turnAll_49 (i := 22) rfl) ?_
            exact ih_5 u1_ hu1_a hu1_b (u2_ + 1) (by omega) (by omega) (show 0 ≤ (u2_ + 1) by first | assumption | omega) (show (u2_ + 1) ≤ gN T_ by first | assumption | omega) (show u1_ = (gup (gtrF T_ (a0_).toNat (a1_).toNat) 0 ((u2_ + 1)).toNat : Nat) by exact hn_) (by omega)
          · skip
            exact absurd hc_20 (by decide)
  exact lp_5 _ 0 (by decide) (by decide) 0 (by decide) (by decide) (show 0 ≤ (0 : Int) by first | assumption | omega) (show (0 : Int) ≤ gN T_ by first | assumption | omega) (show (0 : Int) = (gup (gtrF T_ (a0_).toNat (a1_).toNat) 0 ((0 : Int)).toNat : Nat) by rfl) (Nat.lt_succ_self _)
set_option maxHeartbeats 4000000 in
theorem u_Group_spanOf (l : Launch) (d_ : Nat) (Mz : zMem) (hW : zKW d_ Mz) (a0_ : Int) (ha0_a : -2147483648 ≤ a0_) (ha0_b : a0_ < 2147483648) (T_ : zGT) (hT_ : T_ ∈ gTabs) (hAs_ : gAs T_) (p0_ : zTt T_ d_ Mz) (p1_ : 0 ≤ a0_) (p2_ : (a0_).toNat < 2 ^ gN T_) : zC l m_Group_spanOf 0 0 [.ref (d_ + 1), .int (Int32.ofInt a0_)] Mz (zqcI d_ [] [] [] [11] Mz (fun v N => gLC T_ (a0_).toNat (v).toNat ∧ 0 ≤ v ∧ v < 16777216)) := by
  refine zC_of (L0 := [some (.ref (d_ + 1)), some (.int (Int32.ofInt a0_)), none, none, none, none, none]) md_Group_spanOf (Nat.le_of_ble_eq_true rfl) rfl ?_ zQ0
  have hf : zFc d_ [] [] [] [11] Mz Mz := zFc.rf
  have r_D1_7 := ze_r Mz (d_ + 1) 7
  have hO_ := gTabs_ok T_ hT_
  have hG_ := hO_.1
  have hn24_ := hG_.2.1
  have hn1_ := hG_.1
  have h24_ := g24 hn24_ p1_ p2_
  have hsz_ := p0_.1
  refine zw_iconst (pc := 0) (v := Int32.ofInt 1) (by decide) (zdal_p dlA_Group_spanOf_36 (i := 0) rfl) ?_
  refine zw_istore_n (pc := 1) (i := 2) (L2 := [some (.ref (d_ + 1)), some (.int (Int32.ofInt a0_)), some (.int (Int32.ofInt 1)), none, none, none, none]) rfl (by decide) rfl (zdal_p dlA_Group_spanOf_36 (i := 1) rfl) ?_
  refine zw_iconst (pc := 2) (v := Int32.ofInt 1) (by decide) (zdal_p dlA_Group_spanOf_36 (i := 2) rfl) ?_
  refine zw_istore_n (pc := 3) (i := 3) (L2 := [some (.ref (d_ + 1)), some (.int (Int32.ofInt a0_)), some (.int (Int32.ofInt 1)), some (.int (Int32.ofInt 1)), none, none, none]) rfl (by decide) rfl (zdal_p dlA_Group_spanOf_36 (i := 3) rfl) ?_
  refine zw_aload_n (pc := 4) (n := 0) (x := (d_ + 1)) rfl (zdal_p dlA_Group_spanOf_36 (i := 4) rfl) ?_
  refine zw_getF (pc := 5) f_Group_29 rfl ((hf.w hW).kr (o := 1) (by decide)) ((hf.w hW).lr (o := 1) (s := 4) (r := 10) (by decide)) (zdal_p dlA_Group_spanOf_36 (i := 5) rfl) ?_
  refine zw_iconst (pc := 8) (v := Int32.ofInt 0) (by decide) (zdal_p dlA_Group_spanOf_36 (i := 6) rfl) ?_
  refine zw_iconst (pc := 9) (v := Int32.ofInt 0) (by decide) (zdal_p dlA_Group_spanOf_36 (i := 7) rfl) ?_
  refine zk_st hf.x (pc := 10) (o := 11) (by decide) l_Group_46 ((hf.w hW).kr (o := 10) (by decide)) ((hf.w hW).lr (o := 10) (s := 0) (r := 11) (by decide)) ((hf.w hW).rr (o := 11) (t := 1) (n := 24) (by decide)) (by decide) (by omega) (by omega) (by decide) (Nat.le_of_ble_eq_true rfl) (zdal_p dlA_Group_spanOf_36 (i := 8) rfl) (fun N1_ hN1_ hsN1_ => ?_)
  have hf_N1_ : zFc d_ [] [] [] [11] Mz N1_ := hf.tr hsN1_ (by decide) (by decide) (by decide) (by decide)
  have eD1_7_N1_ : ze N1_ (d_ + 1) 7 = ze Mz (d_ + 1) 7 := hsN1_.e (by decide)
  have c2_ : zTt T_ d_ N1_ := zTt.fr (hf.w hW) hsN1_ p0_ (by decide)
  have hst_ := zs_get hN1_ ⟨by omega, by omega⟩
  have hsp0_ : zSpn T_ (a0_).toNat (zRw d_ 11 N1_) 1 1 0 0 := zSpn_0 hn1_ hst_
  refine zw_iconst (pc := 13) (v := Int32.ofInt 0) (by decide) (zdal_p dlA_Group_spanOf_36 (i := 9) rfl) ?_
  refine zw_istore (pc := 14) (i := 4) (L2 := [some (.ref (d_ + 1)), some (.int (Int32.ofInt a0_)), some (.int (Int32.ofInt 1)), some (.int (Int32.ofInt 1)), some (.int (Int32.ofInt 0)), none, none]) (by decide) rfl (zdal_p dlA_Group_spanOf_36 (i := 10) rfl) ?_
  have lp_16 : ∀ (n : Nat) (u3_ : Int) (hu3_a : -2147483648 ≤ u3_) (hu3_b : u3_ < 2147483648) (u4_ : Int) (hu4_a : -2147483648 ≤ u4_) (hu4_b : u4_ < 2147483648) (u5_ : Int) (hu5_a : -2147483648 ≤ u5_) (hu5_b : u5_ < 2147483648) (N6_ : zMem) (hs7_ : zFc d_ [] [] [] [11] N1_ N6_) (i8_ : 0 ≤ u5_) (i9_ : zSpn T_ (a0_).toNat (zRw d_ 11 N6_) u3_ u4_ u5_ 0), (25 - u5_).toNat < n → zW l m_Group_spanOf (zn Mz + 0, zw Mz + 0) N6_ 16 [some (.ref (d_ + 1)), some (.int (Int32.ofInt a0_)), some (.int (Int32.ofInt u3_)), some (.int (Int32.ofInt u4_)), some (.int (Int32.ofInt u5_)), none, none] [] (zqcI d_ [] [] [] [11] Mz (fun v N => gLC T_ (a0_).toNat (v).toNat ∧ 0 ≤ v ∧ v < 16777216)) := by
    intro n
    induction n with
    | zero =>
      intro u3_ hu3_a hu3_b u4_ hu4_a hu4_b u5_ hu5_a hu5_b N6_ hs7_ i8_ i9_ h0
      exact absurd h0 (Nat.not_lt_zero _)
    | succ n ih_16 =>
      intro u3_ hu3_a hu3_b u4_ hu4_a hu4_b u5_ hu5_a hu5_b N6_ hs7_ i8_ i9_ hlt_16
      have hf_N6_ : zFc d_ [] [] [] [11] Mz N6_ := hf_N1_.tr hs7_ (by decide) (by decide) (by decide) (by decide)
      have eD1_7_N6_ : ze N6_ (d_ + 1) 7 = ze N1_ (d_ + 1) 7 := hs7_.e (by decide)
      have c10_ : zTt T_ d_ N6_ := zTt.fr (hf_N1_.w hW) hs7_ c2_ (by decide)
      have hsp_ := (show zSpn T_ (a0_).toNat (zRw d_ 11 N6_) u3_ u4_ u5_ 0 by assumption)
      obtain ⟨⟨⟨sa1_, sa2_⟩, sa3_, sa4_, sa5_⟩, sb_, -⟩ := id hsp_
      have hs24_ := g24 hn24_ sa3_ sa4_
      refine zw_iload (pc := 16) (i := 4) (x := Int32.ofInt u5_) rfl (zdal_p dlA_Group_spanOf_36 (i := 11) rfl) ?_
      refine zw_iload_n (pc := 18) (n := 3) (x := Int32.ofInt u4_) rfl (zdal_p dlA_Group_spanOf_36 (i := 12) rfl) ?_
      refine zr_icmp_ge (pc := 19) (tgt := 112) ⟨hu5_a, hu5_b⟩ ⟨hu4_a, hu4_b⟩ (by decide) (zdal_p dlA_Group_spanOf_36 (i := 13) rfl) (fun hc_19 => ?_) (fun hc_19 => ?_)
      · skip
        refine zw_iload_n (pc := 112) (n := 2) (x := Int32.ofInt u3_) rfl (zdal_p dlA_Group_spanOf_38 (i := 9) rfl) ?_
        exact zk_iret (pc := 113) (ty := .int) rfl rfl ⟨by omega, by omega⟩ hf_N6_ ⟨(show gLC T_ (a0_).toNat (u3_).toNat by exact zSpn_e hAs_ hG_ p2_ hsp_ (by omega)), (show 0 ≤ u3_ by first | assumption | omega), (show u3_ < 16777216 by first | assumption | omega)⟩ (zdal_p dlA_Group_spanOf_38 (i := 10) rfl)
      · skip
        refine zw_iload (pc := 22) (i := 4) (x := Int32.ofInt u5_) rfl (zdal_p dlA_Group_spanOf_36 (i := 14) rfl) ?_
        refine zw_bipush (pc := 24) (v := Int32.ofInt 24) (by decide) (zdal_p dlA_Group_spanOf_36 (i := 15) rfl) ?_
        refine zr_icmp_ge (pc := 26) (tgt := 112) ⟨hu5_a, hu5_b⟩ ⟨(by decide), (by decide)⟩ (by decide) (zdal_p dlA_Group_spanOf_36 (i := 16) rfl) (fun hc_26 => ?_) (fun hc_26 => ?_)
        · skip
          refine zw_iload_n (pc := 112) (n := 2) (x := Int32.ofInt u3_) rfl (zdal_p dlA_Group_spanOf_38 (i := 9) rfl) ?_
          exact zk_iret (pc := 113) (ty := .int) rfl rfl ⟨by omega, by omega⟩ hf_N6_ ⟨(show gLC T_ (a0_).toNat (u3_).toNat by exact zSpn_e hAs_ hG_ p2_ hsp_ (by omega)), (show 0 ≤ u3_ by first | assumption | omega), (show u3_ < 16777216 by first | assumption | omega)⟩ (zdal_p dlA_Group_spanOf_38 (i := 10) rfl)
        · skip
          refine zw_iconst (pc := 29) (v := Int32.ofInt 0) (by decide) (zdal_p dlA_Group_spanOf_36 (i := 17) rfl) ?_
          refine zw_istore (pc := 30) (i := 5) (L2 := [some (.ref (d_ + 1)), some (.int (Int32.ofInt a0_)), some (.int (Int32.ofInt u3_)), some (.int (Int32.ofInt u4_)), some (.int (Int32.ofInt u5_)), some (.int (Int32.ofInt 0)), none]) (by decide) rfl (zdal_p dlA_Group_spanOf_36 (i := 18) rfl) ?_
          have lp_32 : ∀ (n : Nat) (u11_ : Int) (hu11_a : -2147483648 ≤ u11_) (hu11_b : u11_ < 2147483648) (u12_ : Int) (hu12_a : -2147483648 ≤ u12_) (hu12_b : u12_ < 2147483648) (u13_ : Int) (hu13_a : -2147483648 ≤ u13_) (hu13_b : u13_ < 2147483648) (N14_ : zMem) (hs15_ : zFc d_ [] [] [] [11] N6_ N14_) (i16_ : 0 ≤ u13_) (i17_ : u5_ < u12_) (i18_ : zSpn T_ (a0_).toNat (zRw d_ 11 N14_) u11_ u12_ u5_ u13_), (gN T_ - u13_).toNat < n → zW l m_Group_spanOf (zn Mz + 0, zw Mz + 0) N14_ 32 [some (.ref (d_ + 1)), some (.int (Int32.ofInt a0_)), some (.int (Int32.ofInt u11_)), some (.int (Int32.ofInt u12_)), some (.int (Int32.ofInt u5_)), some (.int (Int32.ofInt u13_)), none] [] (zqcI d_ [] [] [] [11] Mz (fun v N => gLC T_ (a0_).toNat (v).toNat ∧ 0 ≤ v ∧ v < 16777216)) := by
            intro n
            induction n with
            | zero =>
              intro u11_ hu11_a hu11_b u12_ hu12_a hu12_b u13_ hu13_a hu13_b N14_ hs15_ i16_ i17_ i18_ h0
              exact absurd h0 (Nat.not_lt_zero _)
            | succ n ih_32 =>
              intro u11_ hu11_a hu11_b u12_ hu12_a hu12_b u13_ hu13_a hu13_b N14_ hs15_ i16_ i17_ i18_ hlt_32
              have hf_N14_ : zFc d_ [] [] [] [11] Mz N14_ := hf_N6_.tr hs15_ (by decide) (by decide) (by decide) (by decide)
              have hb0_N14_ : zFc d_ [] [] [] [11] N1_ N14_ := hs7_.tr hs15_ (by decide) (by decide) (by decide) (by decide)
              have eD1_7_N14_ : ze N14_ (d_ + 1) 7 = ze N6_ (d_ + 1) 7 := hs15_.e (by decide)
              have c19_ : zTt T_ d_ N14_ := zTt.fr (hf_N6_.w hW) hs15_ c10_ (by decide)
              have hsq_ := (show zSpn T_ (a0_).toNat (zRw d_ 11 N14_) u11_ u12_ u5_ u13_ by assumption)
              obtain ⟨⟨⟨ta1_, ta2_⟩, ta3_, ta4_, ta5_⟩, tb_, -⟩ := id hsq_
              have ht24_ := g24 hn24_ ta3_ ta4_
              refine zw_iload (pc := 32) (i := 5) (x := Int32.ofInt u13_) rfl (zdal_p dlA_Group_spanOf_36 (i := 19) rfl) ?_
              refine zw_aload_n (pc := 34) (n := 0) (x := (d_ + 1)) rfl (zdal_p dlA_Group_spanOf_36 (i := 20) rfl) ?_
              refine zk_getI (pc := 35) f_Group_39 rfl ((hf_N14_.w hW).kr (o := 1) (by decide)) (zdal_p dlA_Group_spanOf_36 (i := 21) rfl) ?_
              rw [hf_N14_.e (by decide)]
              refine zr_icmp_ge (pc := 38) (tgt := 106) ⟨hu13_a, hu13_b⟩ ⟨(ze_r Mz (d_ + 1) 7).1, (ze_r Mz (d_ + 1) 7).2⟩ (by decide) (zdal_p dlA_Group_spanOf_36 (i := 22) rfl) (fun hc_38 => ?_) (fun hc_38 => ?_)
              · skip
                refine zr_iinc (pc := 106) (i := 4) (a := u5_) (n := 1) (L2 := [some (.ref (d_ + 1)), some (.int (Int32.ofInt a0_)), some (.int (Int32.ofInt u11_)), some (.int (Int32.ofInt u12_)), some (.int (Int32.ofInt (u5_ + 1))), some (.int (Int32.ofInt u13_)), none]) rfl (by decide) rfl (zdal_p dlA_Group_spanOf_38 (i := 7) rfl) ?_
                refine zw_goto (pc := 109) (tgt := 16) (by decide) (zdal_p dlA_Group_spanOf_38 (i := 8) rfl) ?_
                refine zW_le [some (.ref (d_ + 1)), some (.int (Int32.ofInt a0_)), some (.int (Int32.ofInt u11_)), some (.int (Int32.ofInt u12_)), some (.int (Int32.ofInt (u5_ + 1))), none, none] (⟨rfl, rfl, rfl, rfl, rfl, trivial⟩) ?_
                exact ih_16 u11_ hu11_a hu11_b u12_ hu12_a hu12_b (u5_ + 1) (by omega) (by omega) N14_ hb0_N14_ (show 0 ≤ (u5_ + 1) by first | assumption | omega) (show zSpn T_ (a0_).toNat (zRw d_ 11 N14_) u11_ u12_ (u5_ + 1) 0 by exact zSpn_r hsq_ (by omega)) (by omega)
              · skip
                refine zw_iload_n (pc := 41) (n := 1) (x := Int32.ofInt a0_) rfl (zdal_p dlA_Group_spanOf_36 (i := 23) rfl) ?_
                refine zw_iload (pc := 42) (i := 5) (x := Int32.ofInt u13_) rfl (zdal_p dlA_Group_spanOf_37 (i := 0) rfl) ?_
                refine zr_callS hf_N14_.x (pc := 44) [.int (Int32.ofInt a0_), .int (Int32.ofInt u13_)] [] l_Group_73 (u_T_isIn l d_ N14_ (hf_N14_.w hW) a0_ ha0_a ha0_b u13_ hu13_a hu13_b (show 0 ≤ a0_ by first | assumption | omega) (show a0_ < 2147483648 by first | assumption | omega) (show 0 ≤ u13_ by first | assumption | omega) (show u13_ < 31 by first | assumption | omega)) rfl rfl (by decide) (Nat.le_of_ble_eq_true rfl) (zdal_p dlA_Group_spanOf_37 (i := 1) rfl) ?_
                rintro _ N20_ ⟨v21_, rfl, ⟨hv21_a, hv21_b⟩, hsN20_, hp0_N20_⟩
                obtain rfl := hsN20_.eq.symm
                replace hp0_N20_ : ((v21_ = 1 ∧ zbt a0_ u13_) ∨ (v21_ = 0 ∧ ¬ zbt a0_ u13_)) := hp0_N20_
                rcases hp0_N20_ with ⟨rfl, ha44_0_hp0_N20_⟩ | ⟨rfl, ha44_0_hp0_N20_⟩
                · skip
                  have hin_ := ha44_0_hp0_N20_
                  show zW l m_Group_spanOf (zn Mz + 0, zw Mz + 0) N14_ 47 [some (.ref (d_ + 1)), some (.int (Int32.ofInt a0_)), some (.int (Int32.ofInt u11_)), some (.int (Int32.ofInt u12_)), some (.int (Int32.ofInt u5_)), some (.int (Int32.ofInt u13_)), none] [.int (Int32.ofInt 1)] _
                  refine zr_if_eq (pc := 47) (tgt := 68) ⟨(by decide), (by decide)⟩ (by decide) (zdal_p dlA_Group_spanOf_37 (i := 2) rfl) (fun hc_47 => ?_) (fun hc_47 => ?_)
                  · skip
                    exact absurd hc_47 (by decide)
                  · skip
                    refine zw_aload_n (pc := 50) (n := 0) (x := (d_ + 1)) rfl (zdal_p dlA_Group_spanOf_37 (i := 3) rfl) ?_
                    refine zw_aload_n (pc := 51) (n := 0) (x := (d_ + 1)) rfl (zdal_p dlA_Group_spanOf_37 (i := 4) rfl) ?_
                    refine zw_getF (pc := 52) f_Group_29 rfl ((hf_N14_.w hW).kr (o := 1) (by decide)) ((hf_N14_.w hW).lr (o := 1) (s := 4) (r := 10) (by decide)) (zdal_p dlA_Group_spanOf_37 (i := 5) rfl) ?_
                    refine zw_iload (pc := 55) (i := 4) (x := Int32.ofInt u5_) rfl (zdal_p dlA_Group_spanOf_37 (i := 6) rfl) ?_
                    refine zk_at hf_N14_.x (pc := 57) l_Group_54 ((hf_N14_.w hW).kr (o := 10) (by decide)) ((hf_N14_.w hW).lr (o := 10) (s := 0) (r := 11) (by decide)) ((hf_N14_.w hW).rr (o := 11) (t := 1) (n := 24) (by decide)) (by decide) (by omega) (by omega) (by decide) (Nat.le_of_ble_eq_true rfl) (zdal_p dlA_Group_spanOf_37 (i := 7) rfl) (fun v22_ hv22_ hv22_a hv22_b => ?_)
                    have hv1_ := hv22_
                    have hv2_ := (tb_ (u5_).toNat (by omega)).1
                    rw [show zRw d_ 11 N14_ (u5_).toNat = v22_ from hv1_.symm] at hv2_
                    have hv3_ : zRw d_ 11 N14_ (u5_).toNat = v22_ := hv1_.symm
                    refine zw_iload (pc := 60) (i := 5) (x := Int32.ofInt u13_) rfl (zdal_p dlA_Group_spanOf_37 (i := 8) rfl) ?_
                    refine zk_callV hf_N14_.x (pc := 62) [.int (Int32.ofInt v22_), .int (Int32.ofInt u13_)] [] l_Group_67 (u_Group_both l d_ N14_ (hf_N14_.w hW) v22_ hv22_a hv22_b u13_ hu13_a hu13_b T_ hT_ c19_ (show 0 ≤ v22_ by first | assumption | omega) (show v22_ < gN T_ by first | assumption | omega) (show 0 ≤ u13_ by first | assumption | omega) (show u13_ < gN T_ by first | assumption | omega)) rfl rfl ((hf_N14_.w hW).kr (o := 1) (by decide)) (by decide) (by decide) (Nat.le_of_ble_eq_true rfl) (zdal_p dlA_Group_spanOf_37 (i := 9) rfl) ?_
                    rintro _ N23_ ⟨v24_, rfl, ⟨hv24_a, hv24_b⟩, hsN23_, ⟨hp0_N23_, hp1_N23_, hp2_N23_⟩⟩
                    obtain rfl := hsN23_.eq.symm
                    show zW l m_Group_spanOf (zn Mz + 0, zw Mz + 0) N14_ 65 [some (.ref (d_ + 1)), some (.int (Int32.ofInt a0_)), some (.int (Int32.ofInt u11_)), some (.int (Int32.ofInt u12_)), some (.int (Int32.ofInt u5_)), some (.int (Int32.ofInt u13_)), none] [.int (Int32.ofInt v24_)] _
                    have hq1_ := hp0_N23_
                    rw [← hv3_] at hq1_
                    refine zw_goto (pc := 65) (tgt := 69) (by decide) (zdal_p dlA_Group_spanOf_37 (i := 10) rfl) ?_
                    refine zw_istore (pc := 69) (i := 6) (L2 := [some (.ref (d_ + 1)), some (.int (Int32.ofInt a0_)), some (.int (Int32.ofInt u11_)), some (.int (Int32.ofInt u12_)), some (.int (Int32.ofInt u5_)), some (.int (Int32.ofInt u13_)), some (.int (Int32.ofInt v24_))]) (by decide) rfl (zdal_p dlA_Group_spanOf_37 (i := 12) rfl) ?_
                    refine zw_iload_n (pc := 71) (n := 2) (x := Int32.ofInt u11_) rfl (zdal_p dlA_Group_spanOf_37 (i := 13) rfl) ?_
                    refine zw_iload (pc := 72) (i := 6) (x := Int32.ofInt v24_) rfl (zdal_p dlA_Group_spanOf_37 (i := 14) rfl) ?_
                    refine zr_callS hf_N14_.x (pc := 74) [.int (Int32.ofInt u11_), .int (Int32.ofInt v24_)] [] l_Group_73 (u_T_isIn l d_ N14_ (hf_N14_.w hW) u11_ hu11_a hu11_b v24_ hv24_a hv24_b (show 0 ≤ u11_ by first | assumption | omega) (show u11_ < 2147483648 by first | assumption | omega) (show 0 ≤ v24_ by first | assumption | omega) (show v24_ < 31 by first | assumption | omega)) rfl rfl (by decide) (Nat.le_of_ble_eq_true rfl) (zdal_p dlA_Group_spanOf_37 (i := 15) rfl) ?_
                    rintro _ N25_ ⟨v26_, rfl, ⟨hv26_a, hv26_b⟩, hsN25_, hp0_N25_⟩
                    obtain rfl := hsN25_.eq.symm
                    replace hp0_N25_ : ((v26_ = 1 ∧ zbt u11_ v24_) ∨ (v26_ = 0 ∧ ¬ zbt u11_ v24_)) := hp0_N25_
                    rcases hp0_N25_ with ⟨rfl, ha74_0_hp0_N25_⟩ | ⟨rfl, ha74_0_hp0_N25_⟩
                    · skip
                      have hsn_ : zSpn T_ (a0_).toNat (zRw d_ 11 N14_) u11_ u12_ u5_ (u13_ + 1) := zSpn_n hsq_ (by omega) (by omega) (fun hx_ => by first | exact absurd hx_ hni_ | (have hh_ := ha74_0_hp0_N25_; unfold zbt at hh_; rw [hq1_, Int.toNat_natCast] at hh_; exact hh_))
                      show zW l m_Group_spanOf (zn Mz + 0, zw Mz + 0) N14_ 77 [some (.ref (d_ + 1)), some (.int (Int32.ofInt a0_)), some (.int (Int32.ofInt u11_)), some (.int (Int32.ofInt u12_)), some (.int (Int32.ofInt u5_)), some (.int (Int32.ofInt u13_)), some (.int (Int32.ofInt v24_))] [.int (Int32.ofInt 1)] _
                      refine zr_if_ne (pc := 77) (tgt := 100) ⟨(by decide), (by decide)⟩ (by decide) d_Group_spanOf_77 (fun hc_77 => ?_) (fun hc_77 => ?_)
                      · skip
                        refine zr_iinc (pc := 100) (i := 5) (a := u13_) (n := 1) (L2 := [some (.ref (d_ + 1)), some (.int (Int32.ofInt a0_)), some (.int (Int32.ofInt u11_)), some (.int (Int32.ofInt u12_)), some (.int (Int32.ofInt u5_)), some (.int (Int32.ofInt (u13_ + 1))), some (.int (Int32.ofInt v24_))]) rfl (by decide) rfl d_Group_spanOf_100 ?_
                        refine zw_goto (pc := 103) (tgt := 32) (by decide) d_Group_spanOf_103 ?_
                        refine zW_le [some (.ref (d_ + 1)), some (.int (Int32.ofInt a0_)), some (.int (Int32.ofInt u11_)), some (.int (Int32.ofInt u12_)), some (.int (Int32.ofInt u5_)), some (.int (Int32.ofInt (u13_ + 1))), none] (⟨rfl, rfl, rfl, rfl, rfl, rfl, trivial⟩) ?_
                        exact ih_32 u11_ hu11_a hu11_b u12_ hu12_a hu12_b (u13_ + 1) (by omega) (by omega) N14_ hs15_ (show 0 ≤ (u13_ + 1) by first | assumption | omega) (show u5_ < u12_ by first | assumption | omega) (show zSpn T_ (a0_).toNat (zRw d_ 11 N14_) u11_ u12_ u5_ (u13_ + 1) by exact hsn_) (by omega)
                      · skip
                        exact absurd hc_77 (by decide)
                    · skip
                      have hnot_ := ha74_0_hp0_N25_
                      have hcc_ := zSpn_c hsq_ (v := v24_) (by omega) (by first | omega | (show (0 : Int).toNat < gN T_; exact hn1_)) hnot_
                      show zW l m_Group_spanOf (zn Mz + 0, zw Mz + 0) N14_ 77 [some (.ref (d_ + 1)), some (.int (Int32.ofInt a0_)), some (.int (Int32.ofInt u11_)), some (.int (Int32.ofInt u12_)), some (.int (Int32.ofInt u5_)), some (.int (Int32.ofInt u13_)), some (.int (Int32.ofInt v24_))] [.int (Int32.ofInt 0)] _
                      refine zr_if_ne (pc := 77) (tgt := 100) ⟨(by decide), (by decide)⟩ (by decide) d_Group_spanOf_77 (fun hc_77 => ?_) (fun hc_77 => ?_)
                      · skip
                        exact absurd hc_77 (by decide)
                      · skip
                        refine zw_iload_n (pc := 80) (n := 2) (x := Int32.ofInt u11_) rfl (zdal_p dlA_Group_spanOf_37 (i := 17) rfl) ?_
                        refine zw_iconst (pc := 81) (v := Int32.ofInt 1) (by decide) (zdal_p dlA_Group_spanOf_37 (i := 18) rfl) ?_
                        refine zw_iload (pc := 82) (i := 6) (x := Int32.ofInt v24_) rfl (zdal_p dlA_Group_spanOf_37 (i := 19) rfl) ?_
                        refine zr_ishl (pc := 84) (zdal_p dlA_Group_spanOf_37 (i := 20) rfl) ?_
                        have hr27_ := zshl_r 1 v24_
                        refine zr_ior (pc := 85) (zdal_p dlA_Group_spanOf_37 (i := 21) rfl) ?_
                        have hr28_ := zor_r u11_ (zshl 1 v24_)
                        refine zw_istore_n (pc := 86) (i := 2) (L2 := [some (.ref (d_ + 1)), some (.int (Int32.ofInt a0_)), some (.int (Int32.ofInt (zor u11_ (zshl 1 v24_)))), some (.int (Int32.ofInt u12_)), some (.int (Int32.ofInt u5_)), some (.int (Int32.ofInt u13_)), some (.int (Int32.ofInt v24_))]) rfl (by decide) rfl (zdal_p dlA_Group_spanOf_37 (i := 22) rfl) ?_
                        refine zw_aload_n (pc := 87) (n := 0) (x := (d_ + 1)) rfl (zdal_p dlA_Group_spanOf_37 (i := 23) rfl) ?_
                        refine zw_getF (pc := 88) f_Group_29 rfl ((hf_N14_.w hW).kr (o := 1) (by decide)) ((hf_N14_.w hW).lr (o := 1) (s := 4) (r := 10) (by decide)) (zdal_p dlA_Group_spanOf_38 (i := 0) rfl) ?_
                        refine zw_iload_n (pc := 91) (n := 3) (x := Int32.ofInt u12_) rfl (zdal_p dlA_Group_spanOf_38 (i := 1) rfl) ?_
                        refine zw_iload (pc := 92) (i := 6) (x := Int32.ofInt v24_) rfl (zdal_p dlA_Group_spanOf_38 (i := 2) rfl) ?_
                        refine zk_st hf_N14_.x (pc := 94) (o := 11) (by decide) l_Group_46 ((hf_N14_.w hW).kr (o := 10) (by decide)) ((hf_N14_.w hW).lr (o := 10) (s := 0) (r := 11) (by decide)) ((hf_N14_.w hW).rr (o := 11) (t := 1) (n := 24) (by decide)) (by decide) (by omega) (by omega) (by decide) (Nat.le_of_ble_eq_true rfl) (zdal_p dlA_Group_spanOf_38 (i := 3) rfl) (fun N29_ hN29_ hsN29_ => ?_)
                        have hf_N29_ : zFc d_ [] [] [] [11] Mz N29_ := hf_N14_.tr hsN29_ (by decide) (by decide) (by decide) (by decide)
                        have hb0_N29_ : zFc d_ [] [] [] [11] N1_ N29_ := hb0_N14_.tr hsN29_ (by decide) (by decide) (by decide) (by decide)
                        have hb1_N29_ : zFc d_ [] [] [] [11] N6_ N29_ := hs15_.tr hsN29_ (by decide) (by decide) (by decide) (by decide)
                        have eD1_7_N29_ : ze N29_ (d_ + 1) 7 = ze N14_ (d_ + 1) 7 := hsN29_.e (by decide)
                        have c30_ : zTt T_ d_ N29_ := zTt.fr (hf_N14_.w hW) hsN29_ c19_ (by decide)
                        have hsn_ := zSpn_a hG_ hsq_ (by omega) (by omega) hin_ hq1_ hnot_ (zRw_w hN29_ ⟨by omega, by omega⟩)
                        refine zr_iinc (pc := 97) (i := 3) (a := u12_) (n := 1) (L2 := [some (.ref (d_ + 1)), some (.int (Int32.ofInt a0_)), some (.int (Int32.ofInt (zor u11_ (zshl 1 v24_)))), some (.int (Int32.ofInt (u12_ + 1))), some (.int (Int32.ofInt u5_)), some (.int (Int32.ofInt u13_)), some (.int (Int32.ofInt v24_))]) rfl (by decide) rfl (zdal_p dlA_Group_spanOf_38 (i := 4) rfl) ?_
                        refine zr_iinc (pc := 100) (i := 5) (a := u13_) (n := 1) (L2 := [some (.ref (d_ + 1)), some (.int (Int32.ofInt a0_)), some (.int (Int32.ofInt (zor u11_ (zshl 1 v24_)))), some (.int (Int32.ofInt (u12_ + 1))), some (.int (Int32.ofInt u5_)), some (.int (Int32.ofInt (u13_ + 1))), some (.int (Int32.ofInt v24_))]) rfl (by decide) rfl d_Group_spanOf_100 ?_
                        refine zw_goto (pc := 103) (tgt := 32) (by decide) d_Group_spanOf_103 ?_
                        refine zW_le [some (.ref (d_ + 1)), some (.int (Int32.ofInt a0_)), some (.int (Int32.ofInt (zor u11_ (zshl 1 v24_)))), some (.int (Int32.ofInt (u12_ + 1))), some (.int (Int32.ofInt u5_)), some (.int (Int32.ofInt (u13_ + 1))), none] (⟨rfl, rfl, rfl, rfl, rfl, rfl, trivial⟩) ?_
                        exact ih_32 (zor u11_ (zshl 1 v24_)) (by omega) (by omega) (u12_ + 1) (by omega) (by omega) (u13_ + 1) (by omega) (by omega) N29_ hb1_N29_ (show 0 ≤ (u13_ + 1) by first | assumption | omega) (show u5_ < (u12_ + 1) by first | assumption | omega) (show zSpn T_ (a0_).toNat (zRw d_ 11 N29_) (zor u11_ (zshl 1 v24_)) (u12_ + 1) u5_ (u13_ + 1) by exact hsn_) (by omega)
                · skip
                  have hni_ := ha44_0_hp0_N20_
                  show zW l m_Group_spanOf (zn Mz + 0, zw Mz + 0) N14_ 47 [some (.ref (d_ + 1)), some (.int (Int32.ofInt a0_)), some (.int (Int32.ofInt u11_)), some (.int (Int32.ofInt u12_)), some (.int (Int32.ofInt u5_)), some (.int (Int32.ofInt u13_)), none] [.int (Int32.ofInt 0)] _
                  refine zr_if_eq (pc := 47) (tgt := 68) ⟨(by decide), (by decide)⟩ (by decide) (zdal_p dlA_Group_spanOf_37 (i := 2) rfl) (fun hc_47 => ?_) (fun hc_47 => ?_)
                  · skip
                    refine zw_iconst (pc := 68) (v := Int32.ofInt 0) (by decide) (zdal_p dlA_Group_spanOf_37 (i := 11) rfl) ?_
                    refine zw_istore (pc := 69) (i := 6) (L2 := [some (.ref (d_ + 1)), some (.int (Int32.ofInt a0_)), some (.int (Int32.ofInt u11_)), some (.int (Int32.ofInt u12_)), some (.int (Int32.ofInt u5_)), some (.int (Int32.ofInt u13_)), some (.int (Int32.ofInt 0))]) (by decide) rfl (zdal_p dlA_Group_spanOf_37 (i := 12) rfl) ?_
                    refine zw_iload_n (pc := 71) (n := 2) (x := Int32.ofInt u11_) rfl (zdal_p dlA_Group_spanOf_37 (i := 13) rfl) ?_
                    refine zw_iload (pc := 72) (i := 6) (x := Int32.ofInt 0) rfl (zdal_p dlA_Group_spanOf_37 (i := 14) rfl) ?_
                    refine zr_callS hf_N14_.x (pc := 74) [.int (Int32.ofInt u11_), .int (Int32.ofInt 0)] [] l_Group_73 (u_T_isIn l d_ N14_ (hf_N14_.w hW) u11_ hu11_a hu11_b 0 (by decide) (by decide) (show 0 ≤ u11_ by first | assumption | omega) (show u11_ < 2147483648 by first | assumption | omega) (show 0 ≤ 0 by first | assumption | omega) (show 0 < 31 by first | assumption | omega)) rfl rfl (by decide) (Nat.le_of_ble_eq_true rfl) (zdal_p dlA_Group_spanOf_37 (i := 15) rfl) ?_
                    rintro _ N31_ ⟨v32_, rfl, ⟨hv32_a, hv32_b⟩, hsN31_, hp0_N31_⟩
                    obtain rfl := hsN31_.eq.symm
                    replace hp0_N31_ : ((v32_ = 1 ∧ zbt u11_ 0) ∨ (v32_ = 0 ∧ ¬ zbt u11_ 0)) := hp0_N31_
                    rcases hp0_N31_ with ⟨rfl, ha74_0_hp0_N31_⟩ | ⟨rfl, ha74_0_hp0_N31_⟩
                    · skip
                      have hsn_ : zSpn T_ (a0_).toNat (zRw d_ 11 N14_) u11_ u12_ u5_ (u13_ + 1) := zSpn_n hsq_ (by omega) (by omega) (fun hx_ => by first | exact absurd hx_ hni_ | (have hh_ := ha74_0_hp0_N31_; unfold zbt at hh_; rw [hq1_, Int.toNat_natCast] at hh_; exact hh_))
                      show zW l m_Group_spanOf (zn Mz + 0, zw Mz + 0) N14_ 77 [some (.ref (d_ + 1)), some (.int (Int32.ofInt a0_)), some (.int (Int32.ofInt u11_)), some (.int (Int32.ofInt u12_)), some (.int (Int32.ofInt u5_)), some (.int (Int32.ofInt u13_)), some (.int (Int32.ofInt 0))] [.int (Int32.ofInt 1)] _
                      refine zr_if_ne (pc := 77) (tgt := 100) ⟨(by decide), (by decide)⟩ (by decide) d_Group_spanOf_77 (fun hc_77 => ?_) (fun hc_77 => ?_)
                      · skip
                        refine zr_iinc (pc := 100) (i := 5) (a := u13_) (n := 1) (L2 := [some (.ref (d_ + 1)), some (.int (Int32.ofInt a0_)), some (.int (Int32.ofInt u11_)), some (.int (Int32.ofInt u12_)), some (.int (Int32.ofInt u5_)), some (.int (Int32.ofInt (u13_ + 1))), some (.int (Int32.ofInt 0))]) rfl (by decide) rfl d_Group_spanOf_100 ?_
                        refine zw_goto (pc := 103) (tgt := 32) (by decide) d_Group_spanOf_103 ?_
                        refine zW_le [some (.ref (d_ + 1)), some (.int (Int32.ofInt a0_)), some (.int (Int32.ofInt u11_)), some (.int (Int32.ofInt u12_)), some (.int (Int32.ofInt u5_)), some (.int (Int32.ofInt (u13_ + 1))), none] (⟨rfl, rfl, rfl, rfl, rfl, rfl, trivial⟩) ?_
                        exact ih_32 u11_ hu11_a hu11_b u12_ hu12_a hu12_b (u13_ + 1) (by omega) (by omega) N14_ hs15_ (show 0 ≤ (u13_ + 1) by first | assumption | omega) (show u5_ < u12_ by first | assumption | omega) (show zSpn T_ (a0_).toNat (zRw d_ 11 N14_) u11_ u12_ u5_ (u13_ + 1) by exact hsn_) (by omega)
                      · skip
                        exact absurd hc_77 (by decide)
                    · skip
                      have hnot_ := ha74_0_hp0_N31_
                      have hcc_ := zSpn_c hsq_ (v := (0 : Int)) (by omega) (by first | omega | (show (0 : Int).toNat < gN T_; exact hn1_)) hnot_
                      show zW l m_Group_spanOf (zn Mz + 0, zw Mz + 0) N14_ 77 [some (.ref (d_ + 1)), some (.int (Int32.ofInt a0_)), some (.int (Int32.ofInt u11_)), some (.int (Int32.ofInt u12_)), some (.int (Int32.ofInt u5_)), some (.int (Int32.ofInt u13_)), some (.int (Int32.ofInt 0))] [.int (Int32.ofInt 0)] _
                      refine zr_if_ne (pc := 77) (tgt := 100) ⟨(by decide), (by decide)⟩ (by decide) d_Group_spanOf_77 (fun hc_77 => ?_) (fun hc_77 => ?_)
                      · skip
                        exact absurd hc_77 (by decide)
                      · skip
                        exact absurd (show zbt u11_ 0 by have h0_ := (tb_ 0 (by omega)).2; rw [ta5_] at h0_; exact h0_) hnot_
                  · skip
                    exact absurd hc_47 (by decide)
          exact lp_32 _ u3_ hu3_a hu3_b u4_ hu4_a hu4_b 0 (by decide) (by decide) N6_ zFc.rf (show 0 ≤ (0 : Int) by first | assumption | omega) (show u5_ < u4_ by first | assumption | omega) (show zSpn T_ (a0_).toNat (zRw d_ 11 N6_) u3_ u4_ u5_ (0 : Int) by exact hsp_) (Nat.lt_succ_self _)
  exact lp_16 _ 1 (by decide) (by decide) 1 (by decide) (by decide) 0 (by decide) (by decide) N1_ zFc.rf (show 0 ≤ (0 : Int) by first | assumption | omega) (show zSpn T_ (a0_).toNat (zRw d_ 11 N1_) (1 : Int) (1 : Int) (0 : Int) 0 by exact hsp0_) (Nat.lt_succ_self _)
