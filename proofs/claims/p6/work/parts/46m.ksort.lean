set_option maxHeartbeats 4000000 in
theorem u_Integer_bitCount (l : Launch) (d_ : Nat) (Mz : zMem) (hW : zKW d_ Mz) (a0_ : Int) (ha0_a : -2147483648 ≤ a0_) (ha0_b : a0_ < 2147483648) (p0_ : 0 ≤ a0_) : zC l m_Integer_bitCount 0 0 [.int (Int32.ofInt a0_)] Mz (zqcI d_ [] [] [] [] Mz (fun v N => v = (kbc (a0_).toNat : Nat) ∧ 0 ≤ v ∧ v ≤ 63)) := by
  refine zC_of (L0 := [some (.int (Int32.ofInt a0_))]) md_Integer_bitCount (Nat.le_of_ble_eq_true rfl) rfl ?_ zQ0
  have hf : zFc d_ [] [] [] [] Mz Mz := zFc.rf
  obtain ⟨n_, hn_⟩ : ∃ n : Nat, n = (a0_).toNat := ⟨_, rfl⟩
  have hn0_ : a0_ = ((n_ : Nat) : Int) := by omega
  obtain ⟨g1_, g2_⟩ := zbc_1 (n := n_) (by omega)
  obtain ⟨g3_, g4_⟩ := zbc_2 g2_
  have g5_ := kbc2_b (kbc1 n_)
  obtain ⟨g6_, g7_⟩ := zbc_3 g4_ g5_
  obtain ⟨g8_, g9_⟩ := zbc_4 g7_
  have g10_ := zbc_5 g9_
  have g11_ := kbc_b n_
  refine zw_iload_n (pc := 0) (n := 0) (x := Int32.ofInt a0_) rfl (zdal_p dlB_Integer_bitCount_152 (i := 0) rfl) ?_
  refine zw_iload_n (pc := 1) (n := 0) (x := Int32.ofInt a0_) rfl (zdal_p dlB_Integer_bitCount_152 (i := 1) rfl) ?_
  refine zw_iconst (pc := 2) (v := Int32.ofInt 1) (by decide) (zdal_p dlB_Integer_bitCount_152 (i := 2) rfl) ?_
  refine zr_iushr (pc := 3) (zdal_p dlB_Integer_bitCount_152 (i := 3) rfl) ?_
  refine zw_ldcw (pc := 4) (v := Int32.ofInt 1431655765) (by rw [show Int32.ofInt 1431655765 = (1431655765 : Int32) by decide]; exact k_Integer_265) (zdal_p dlB_Integer_bitCount_152 (i := 4) rfl) ?_
  refine zr_iand (pc := 7) (zdal_p dlB_Integer_bitCount_152 (i := 5) rfl) ?_
  have hr1_ := zand_r (zush a0_ 1) 1431655765
  refine zr_isub (pc := 8) (zdal_p dlB_Integer_bitCount_152 (i := 6) rfl) ?_
  refine zr_toI (show (a0_ - (zand (zush a0_ 1) 1431655765)) = ((kbc1 n_ : Nat) : Int) by rw [ hn0_]; exact g1_) ?_
  refine zw_istore_n (pc := 9) (i := 0) (L2 := [some (.int (Int32.ofInt (((kbc1 n_ : Nat) : Int))))]) rfl (by decide) rfl (zdal_p dlB_Integer_bitCount_152 (i := 7) rfl) ?_
  refine zw_iload_n (pc := 10) (n := 0) (x := Int32.ofInt (((kbc1 n_ : Nat) : Int))) rfl (zdal_p dlB_Integer_bitCount_152 (i := 8) rfl) ?_
  refine zw_ldcw (pc := 11) (v := Int32.ofInt 858993459) (by rw [show Int32.ofInt 858993459 = (858993459 : Int32) by decide]; exact k_Integer_266) (zdal_p dlB_Integer_bitCount_152 (i := 9) rfl) ?_
  refine zr_iand (pc := 14) (zdal_p dlB_Integer_bitCount_152 (i := 10) rfl) ?_
  have hr2_ := zand_r (((kbc1 n_ : Nat) : Int)) 858993459
  refine zw_iload_n (pc := 15) (n := 0) (x := Int32.ofInt (((kbc1 n_ : Nat) : Int))) rfl (zdal_p dlB_Integer_bitCount_152 (i := 11) rfl) ?_
  refine zw_iconst (pc := 16) (v := Int32.ofInt 2) (by decide) (zdal_p dlB_Integer_bitCount_152 (i := 12) rfl) ?_
  refine zr_iushr (pc := 17) (zdal_p dlB_Integer_bitCount_152 (i := 13) rfl) ?_
  refine zw_ldcw (pc := 18) (v := Int32.ofInt 858993459) (by rw [show Int32.ofInt 858993459 = (858993459 : Int32) by decide]; exact k_Integer_266) (zdal_p dlB_Integer_bitCount_152 (i := 14) rfl) ?_
  refine zr_iand (pc := 21) (zdal_p dlB_Integer_bitCount_152 (i := 15) rfl) ?_
  have hr3_ := zand_r (zush (((kbc1 n_ : Nat) : Int)) 2) 858993459
  refine zr_iadd (pc := 22) (zdal_p dlB_Integer_bitCount_152 (i := 16) rfl) ?_
  refine zr_toI (show ((zand (((kbc1 n_ : Nat) : Int)) 858993459) + (zand (zush (((kbc1 n_ : Nat) : Int)) 2) 858993459)) = ((kbc2 (kbc1 n_) : Nat) : Int) from g3_) ?_
  refine zw_istore_n (pc := 23) (i := 0) (L2 := [some (.int (Int32.ofInt (((kbc2 (kbc1 n_) : Nat) : Int))))]) rfl (by decide) rfl (zdal_p dlB_Integer_bitCount_152 (i := 17) rfl) ?_
  refine zw_iload_n (pc := 24) (n := 0) (x := Int32.ofInt (((kbc2 (kbc1 n_) : Nat) : Int))) rfl (zdal_p dlB_Integer_bitCount_152 (i := 18) rfl) ?_
  refine zw_iload_n (pc := 25) (n := 0) (x := Int32.ofInt (((kbc2 (kbc1 n_) : Nat) : Int))) rfl (zdal_p dlB_Integer_bitCount_152 (i := 19) rfl) ?_
  refine zw_iconst (pc := 26) (v := Int32.ofInt 4) (by decide) (zdal_p dlB_Integer_bitCount_152 (i := 20) rfl) ?_
  refine zr_iushr (pc := 27) (zdal_p dlB_Integer_bitCount_152 (i := 21) rfl) ?_
  refine zr_iadd (pc := 28) (zdal_p dlB_Integer_bitCount_152 (i := 22) rfl) ?_
  refine zw_ldcw (pc := 29) (v := Int32.ofInt 252645135) (by rw [show Int32.ofInt 252645135 = (252645135 : Int32) by decide]; exact k_Integer_267) (zdal_p dlB_Integer_bitCount_152 (i := 23) rfl) ?_
  refine zr_iand (pc := 32) (zdal_p dlB_Integer_bitCount_153 (i := 0) rfl) ?_
  have hr4_ := zand_r ((((kbc2 (kbc1 n_) : Nat) : Int)) + (zush (((kbc2 (kbc1 n_) : Nat) : Int)) 4)) 252645135
  refine zr_toI (show (zand ((((kbc2 (kbc1 n_) : Nat) : Int)) + (zush (((kbc2 (kbc1 n_) : Nat) : Int)) 4)) 252645135) = ((kbc3 (kbc2 (kbc1 n_)) : Nat) : Int) from g6_) ?_
  refine zw_istore_n (pc := 33) (i := 0) (L2 := [some (.int (Int32.ofInt (((kbc3 (kbc2 (kbc1 n_)) : Nat) : Int))))]) rfl (by decide) rfl (zdal_p dlB_Integer_bitCount_153 (i := 1) rfl) ?_
  refine zw_iload_n (pc := 34) (n := 0) (x := Int32.ofInt (((kbc3 (kbc2 (kbc1 n_)) : Nat) : Int))) rfl (zdal_p dlB_Integer_bitCount_153 (i := 2) rfl) ?_
  refine zw_iload_n (pc := 35) (n := 0) (x := Int32.ofInt (((kbc3 (kbc2 (kbc1 n_)) : Nat) : Int))) rfl (zdal_p dlB_Integer_bitCount_153 (i := 3) rfl) ?_
  refine zw_bipush (pc := 36) (v := Int32.ofInt 8) (by decide) (zdal_p dlB_Integer_bitCount_153 (i := 4) rfl) ?_
  refine zr_iushr (pc := 38) (zdal_p dlB_Integer_bitCount_153 (i := 5) rfl) ?_
  refine zr_iadd (pc := 39) (zdal_p dlB_Integer_bitCount_153 (i := 6) rfl) ?_
  refine zr_toI (show ((((kbc3 (kbc2 (kbc1 n_)) : Nat) : Int)) + (zush (((kbc3 (kbc2 (kbc1 n_)) : Nat) : Int)) 8)) = ((kbc4 (kbc3 (kbc2 (kbc1 n_))) : Nat) : Int) from g8_) ?_
  refine zw_istore_n (pc := 40) (i := 0) (L2 := [some (.int (Int32.ofInt (((kbc4 (kbc3 (kbc2 (kbc1 n_))) : Nat) : Int))))]) rfl (by decide) rfl (zdal_p dlB_Integer_bitCount_153 (i := 7) rfl) ?_
  refine zw_iload_n (pc := 41) (n := 0) (x := Int32.ofInt (((kbc4 (kbc3 (kbc2 (kbc1 n_))) : Nat) : Int))) rfl (zdal_p dlB_Integer_bitCount_153 (i := 8) rfl) ?_
  refine zw_iload_n (pc := 42) (n := 0) (x := Int32.ofInt (((kbc4 (kbc3 (kbc2 (kbc1 n_))) : Nat) : Int))) rfl (zdal_p dlB_Integer_bitCount_153 (i := 9) rfl) ?_
  refine zw_bipush (pc := 43) (v := Int32.ofInt 16) (by decide) (zdal_p dlB_Integer_bitCount_153 (i := 10) rfl) ?_
  refine zr_iushr (pc := 45) (zdal_p dlB_Integer_bitCount_153 (i := 11) rfl) ?_
  refine zr_iadd (pc := 46) (zdal_p dlB_Integer_bitCount_153 (i := 12) rfl) ?_
  refine zw_istore_n (pc := 47) (i := 0) (L2 := [some (.int (Int32.ofInt ((((kbc4 (kbc3 (kbc2 (kbc1 n_))) : Nat) : Int)) + (zush (((kbc4 (kbc3 (kbc2 (kbc1 n_))) : Nat) : Int)) 16))))]) rfl (by decide) rfl (zdal_p dlB_Integer_bitCount_153 (i := 13) rfl) ?_
  refine zw_iload_n (pc := 48) (n := 0) (x := Int32.ofInt ((((kbc4 (kbc3 (kbc2 (kbc1 n_))) : Nat) : Int)) + (zush (((kbc4 (kbc3 (kbc2 (kbc1 n_))) : Nat) : Int)) 16))) rfl (zdal_p dlB_Integer_bitCount_153 (i := 14) rfl) ?_
  refine zw_bipush (pc := 49) (v := Int32.ofInt 63) (by decide) (zdal_p dlB_Integer_bitCount_153 (i := 15) rfl) ?_
  refine zr_iand (pc := 51) (zdal_p dlB_Integer_bitCount_153 (i := 16) rfl) ?_
  have hr5_ := zand_r ((((kbc4 (kbc3 (kbc2 (kbc1 n_))) : Nat) : Int)) + (zush (((kbc4 (kbc3 (kbc2 (kbc1 n_))) : Nat) : Int)) 16)) 63
  refine zr_toI (show (zand ((((kbc4 (kbc3 (kbc2 (kbc1 n_))) : Nat) : Int)) + (zush (((kbc4 (kbc3 (kbc2 (kbc1 n_))) : Nat) : Int)) 16)) 63) = ((kbc n_ : Nat) : Int) from g10_) ?_
  exact zk_iret (pc := 52) (ty := .int) rfl rfl ⟨by omega, by omega⟩ hf ⟨(show (((kbc n_ : Nat) : Int)) = (kbc (a0_).toNat : Nat) by rw [ hn_]), (show 0 ≤ (((kbc n_ : Nat) : Int)) by first | with_reducible assumption | assumption | omega), (show (((kbc n_ : Nat) : Int)) ≤ 63 by first | with_reducible assumption | assumption | omega)⟩ (zdal_p dlB_Integer_bitCount_153 (i := 17) rfl)
set_option maxHeartbeats 4000000 in
theorem u_T_isPart (l : Launch) (d_ : Nat) (Mz : zMem) (hW : zKW d_ Mz) (a0_ : Int) (ha0_a : -2147483648 ≤ a0_) (ha0_b : a0_ < 2147483648) (a1_ : Int) (ha1_a : -2147483648 ≤ a1_) (ha1_b : a1_ < 2147483648) (p0_ : 0 ≤ a0_) (p1_ : a0_ < 2147483648) (p2_ : 0 ≤ a1_) (p3_ : a1_ < 2147483648) : zC l m_T_isPart 0 0 [.int (Int32.ofInt a0_), .int (Int32.ofInt a1_)] Mz (zqcI d_ [] [] [] [] Mz (fun v N => (((v = 1 ∧ (a0_).toNat &&& (a1_).toNat = (a0_).toNat) ∨ (v = 0 ∧ ¬ (a0_).toNat &&& (a1_).toNat = (a0_).toNat))))) := by
  refine zC_of (L0 := [some (.int (Int32.ofInt a0_)), some (.int (Int32.ofInt a1_))]) md_T_isPart (Nat.le_of_ble_eq_true rfl) rfl ?_ zQ0
  have hf : zFc d_ [] [] [] [] Mz Mz := zFc.rf
  have hzz_ := zpa_n (b := (a0_).toNat) (w := (a1_).toNat) (by omega) (by omega)
  rw [ Int.toNat_of_nonneg p0_, Int.toNat_of_nonneg p2_] at hzz_
  refine zw_iload_n (pc := 0) (n := 0) (x := Int32.ofInt a0_) rfl (zdal_p dlA_T_isPart_58 (i := 0) rfl) ?_
  refine zw_iload_n (pc := 1) (n := 1) (x := Int32.ofInt a1_) rfl (zdal_p dlA_T_isPart_58 (i := 1) rfl) ?_
  refine zw_iconst (pc := 2) (v := Int32.ofInt (-1)) (by decide) (zdal_p dlA_T_isPart_58 (i := 2) rfl) ?_
  refine zr_ixor (pc := 3) (zdal_p dlA_T_isPart_58 (i := 3) rfl) ?_
  have hr1_ := zxor_r a1_ ((-1))
  refine zr_iand (pc := 4) (zdal_p dlA_T_isPart_58 (i := 4) rfl) ?_
  have hr2_ := zand_r a0_ (zxor a1_ ((-1)))
  refine zr_if_ne (pc := 5) (tgt := 12) ⟨(by omega), (by omega)⟩ (by decide) (zdal_p dlA_T_isPart_58 (i := 5) rfl) (fun hc_5 => ?_) (fun hc_5 => ?_)
  · skip
    refine zw_iconst (pc := 12) (v := Int32.ofInt 0) (by decide) (zdal_p dlA_T_isPart_58 (i := 8) rfl) ?_
    exact zk_iret (pc := 13) (ty := .boolean) rfl (z_narB (by omega)) ⟨by omega, by omega⟩ hf (show ((0 = 1 ∧ (a0_).toNat &&& (a1_).toNat = (a0_).toNat) ∨ (0 = 0 ∧ ¬ (a0_).toNat &&& (a1_).toNat = (a0_).toNat)) from Or.inr (⟨(show 0 = 0 by first | rfl | exact fun q_ => absurd (hzz_.mpr q_) (by omega)), (show ¬ (a0_).toNat &&& (a1_).toNat = (a0_).toNat by first | rfl | exact fun q_ => absurd (hzz_.mpr q_) (by omega))⟩)) (zdal_p dlA_T_isPart_58 (i := 9) rfl)
  · skip
    refine zw_iconst (pc := 8) (v := Int32.ofInt 1) (by decide) (zdal_p dlA_T_isPart_58 (i := 6) rfl) ?_
    refine zw_goto (pc := 9) (tgt := 13) (by decide) (zdal_p dlA_T_isPart_58 (i := 7) rfl) ?_
    exact zk_iret (pc := 13) (ty := .boolean) rfl (z_narB (by omega)) ⟨by omega, by omega⟩ hf (show ((1 = 1 ∧ (a0_).toNat &&& (a1_).toNat = (a0_).toNat) ∨ (1 = 0 ∧ ¬ (a0_).toNat &&& (a1_).toNat = (a0_).toNat)) from Or.inl (⟨(show 1 = 1 by first | rfl | exact hzz_.mp (by omega)), (show (a0_).toNat &&& (a1_).toNat = (a0_).toNat by first | rfl | exact hzz_.mp (by omega))⟩)) (zdal_p dlA_T_isPart_58 (i := 9) rfl)
set_option maxHeartbeats 4000000 in
theorem u_Group_both (l : Launch) (d_ : Nat) (Mz : zMem) (hW : zKW d_ Mz) (a0_ : Int) (ha0_a : -2147483648 ≤ a0_) (ha0_b : a0_ < 2147483648) (a1_ : Int) (ha1_a : -2147483648 ≤ a1_) (ha1_b : a1_ < 2147483648) (T_ : zGT) (hT_ : T_ ∈ gTabs) (p0_ : zTt T_ d_ Mz) (p1_ : 0 ≤ a0_) (p2_ : a0_ < gN T_) (p3_ : 0 ≤ a1_) (p4_ : a1_ < gN T_) : zC l m_Group_both 0 0 [.ref (d_ + 1), .int (Int32.ofInt a0_), .int (Int32.ofInt a1_)] Mz (zqcI d_ [] [] [] [] Mz (fun v N => v = (gm T_ (a0_).toNat (a1_).toNat : Nat) ∧ 0 ≤ v ∧ v < gN T_)) := by
  refine zC_of (L0 := [some (.ref (d_ + 1)), some (.int (Int32.ofInt a0_)), some (.int (Int32.ofInt a1_))]) md_Group_both (Nat.le_of_ble_eq_true rfl) rfl ?_ zQ0
  have hf : zFc d_ [] [] [] [] Mz Mz := zFc.rf
  have hO_ := gTabs_ok T_ hT_
  have hG_ := hO_.1
  have hn24_ := hG_.2.1
  have hn1_ := hG_.1
  refine zw_aload_n (pc := 0) (n := 0) (x := (d_ + 1)) rfl (zdal_p dlA_Group_both_39 (i := 0) rfl) ?_
  refine zw_getF (pc := 1) f_Group_23 rfl ((hf.w hW).kr (o := 1) (by decide)) ((hf.w hW).lr (o := 1) (s := 2) (r := 6) (by decide)) (zdal_p dlA_Group_both_39 (i := 1) rfl) ?_
  refine zw_iload_n (pc := 4) (n := 1) (x := Int32.ofInt a0_) rfl (zdal_p dlA_Group_both_39 (i := 2) rfl) ?_
  refine zw_bipush (pc := 5) (v := Int32.ofInt 24) (by decide) (zdal_p dlA_Group_both_39 (i := 3) rfl) ?_
  refine zr_imul (pc := 7) (zdal_p dlA_Group_both_39 (i := 4) rfl) ?_
  refine zw_iload_n (pc := 8) (n := 2) (x := Int32.ofInt a1_) rfl (zdal_p dlA_Group_both_39 (i := 5) rfl) ?_
  refine zr_iadd (pc := 9) (zdal_p dlA_Group_both_39 (i := 6) rfl) ?_
  refine zk_at hf.x (pc := 10) l_Group_54 ((hf.w hW).kr (o := 6) (by decide)) ((hf.w hW).lr (o := 6) (s := 0) (r := 7) (by decide)) ((hf.w hW).rr (o := 7) (t := 1) (n := 576) (by decide)) (by decide) (by omega) (by omega) (by decide) (Nat.le_of_ble_eq_true rfl) (zdal_p dlA_Group_both_39 (i := 7) rfl) (fun v1_ hv1_ hv1_a hv1_b => ?_)
  obtain ⟨g1_, g2_, g3_⟩ := p0_.m hG_ p1_ p2_ p3_ p4_ hv1_
  exact zk_iret (pc := 13) (ty := .int) rfl rfl ⟨by omega, by omega⟩ hf ⟨(show v1_ = (gm T_ (a0_).toNat (a1_).toNat : Nat) by first | with_reducible assumption | assumption | omega), (show 0 ≤ v1_ by first | with_reducible assumption | assumption | omega), (show v1_ < gN T_ by first | with_reducible assumption | assumption | omega)⟩ (zdal_p dlA_Group_both_39 (i := 8) rfl)
set_option maxHeartbeats 4000000 in
theorem u_Group_turn (l : Launch) (d_ : Nat) (Mz : zMem) (hW : zKW d_ Mz) (a0_ : Int) (ha0_a : -2147483648 ≤ a0_) (ha0_b : a0_ < 2147483648) (a1_ : Int) (ha1_a : -2147483648 ≤ a1_) (ha1_b : a1_ < 2147483648) (T_ : zGT) (hT_ : T_ ∈ gTabs) (p0_ : zTt T_ d_ Mz) (p1_ : 0 ≤ a0_) (p2_ : a0_ < gN T_) (p3_ : 0 ≤ a1_) (p4_ : a1_ < gN T_) : zC l m_Group_turn 0 0 [.ref (d_ + 1), .int (Int32.ofInt a0_), .int (Int32.ofInt a1_)] Mz (zqcI d_ [] [] [] [] Mz (fun v N => v = (gm T_ (gm T_ (gi T_ (a1_).toNat) (a0_).toNat) (a1_).toNat : Nat) ∧ 0 ≤ v ∧ v < gN T_)) := by
  refine zC_of (L0 := [some (.ref (d_ + 1)), some (.int (Int32.ofInt a0_)), some (.int (Int32.ofInt a1_)), none]) md_Group_turn (Nat.le_of_ble_eq_true rfl) rfl ?_ zQ0
  have hf : zFc d_ [] [] [] [] Mz Mz := zFc.rf
  have hO_ := gTabs_ok T_ hT_
  have hG_ := hO_.1
  have hn24_ := hG_.2.1
  have hn1_ := hG_.1
  refine zw_aload_n (pc := 0) (n := 0) (x := (d_ + 1)) rfl (zdal_p dlA_Group_turn_51 (i := 0) rfl) ?_
  refine zw_getF (pc := 1) f_Group_23 rfl ((hf.w hW).kr (o := 1) (by decide)) ((hf.w hW).lr (o := 1) (s := 2) (r := 6) (by decide)) (zdal_p dlA_Group_turn_51 (i := 1) rfl) ?_
  refine zw_aload_n (pc := 4) (n := 0) (x := (d_ + 1)) rfl (zdal_p dlA_Group_turn_51 (i := 2) rfl) ?_
  refine zw_getF (pc := 5) f_Group_26 rfl ((hf.w hW).kr (o := 1) (by decide)) ((hf.w hW).lr (o := 1) (s := 3) (r := 8) (by decide)) (zdal_p dlA_Group_turn_51 (i := 3) rfl) ?_
  refine zw_iload_n (pc := 8) (n := 2) (x := Int32.ofInt a1_) rfl (zdal_p dlA_Group_turn_51 (i := 4) rfl) ?_
  refine zk_at hf.x (pc := 9) l_Group_54 ((hf.w hW).kr (o := 8) (by decide)) ((hf.w hW).lr (o := 8) (s := 0) (r := 9) (by decide)) ((hf.w hW).rr (o := 9) (t := 1) (n := 24) (by decide)) (by decide) (by omega) (by omega) (by decide) (Nat.le_of_ble_eq_true rfl) (zdal_p dlA_Group_turn_51 (i := 5) rfl) (fun v1_ hv1_ hv1_a hv1_b => ?_)
  obtain ⟨g1_, g2_, g3_⟩ := p0_.u hG_ p3_ p4_ hv1_
  refine zw_bipush (pc := 12) (v := Int32.ofInt 24) (by decide) (zdal_p dlA_Group_turn_51 (i := 6) rfl) ?_
  refine zr_imul (pc := 14) (zdal_p dlA_Group_turn_51 (i := 7) rfl) ?_
  refine zw_iload_n (pc := 15) (n := 1) (x := Int32.ofInt a0_) rfl (zdal_p dlA_Group_turn_51 (i := 8) rfl) ?_
  refine zr_iadd (pc := 16) (zdal_p dlA_Group_turn_51 (i := 9) rfl) ?_
  refine zk_at hf.x (pc := 17) l_Group_54 ((hf.w hW).kr (o := 6) (by decide)) ((hf.w hW).lr (o := 6) (s := 0) (r := 7) (by decide)) ((hf.w hW).rr (o := 7) (t := 1) (n := 576) (by decide)) (by decide) (by omega) (by omega) (by decide) (Nat.le_of_ble_eq_true rfl) (zdal_p dlA_Group_turn_51 (i := 10) rfl) (fun v2_ hv2_ hv2_a hv2_b => ?_)
  obtain ⟨g4_, g5_, g6_⟩ := p0_.m hG_ g2_ g3_ p1_ p2_ hv2_
  refine zw_istore_n (pc := 20) (i := 3) (L2 := [some (.ref (d_ + 1)), some (.int (Int32.ofInt a0_)), some (.int (Int32.ofInt a1_)), some (.int (Int32.ofInt v2_))]) rfl (by decide) rfl (zdal_p dlA_Group_turn_51 (i := 11) rfl) ?_
  refine zw_aload_n (pc := 21) (n := 0) (x := (d_ + 1)) rfl (zdal_p dlA_Group_turn_51 (i := 12) rfl) ?_
  refine zw_getF (pc := 22) f_Group_23 rfl ((hf.w hW).kr (o := 1) (by decide)) ((hf.w hW).lr (o := 1) (s := 2) (r := 6) (by decide)) (zdal_p dlA_Group_turn_51 (i := 13) rfl) ?_
  refine zw_iload_n (pc := 25) (n := 3) (x := Int32.ofInt v2_) rfl (zdal_p dlA_Group_turn_51 (i := 14) rfl) ?_
  refine zw_bipush (pc := 26) (v := Int32.ofInt 24) (by decide) (zdal_p dlA_Group_turn_51 (i := 15) rfl) ?_
  refine zr_imul (pc := 28) (zdal_p dlA_Group_turn_51 (i := 16) rfl) ?_
  refine zw_iload_n (pc := 29) (n := 2) (x := Int32.ofInt a1_) rfl (zdal_p dlA_Group_turn_51 (i := 17) rfl) ?_
  refine zr_iadd (pc := 30) (zdal_p dlA_Group_turn_51 (i := 18) rfl) ?_
  refine zk_at hf.x (pc := 31) l_Group_54 ((hf.w hW).kr (o := 6) (by decide)) ((hf.w hW).lr (o := 6) (s := 0) (r := 7) (by decide)) ((hf.w hW).rr (o := 7) (t := 1) (n := 576) (by decide)) (by decide) (by omega) (by omega) (by decide) (Nat.le_of_ble_eq_true rfl) (zdal_p dlA_Group_turn_51 (i := 19) rfl) (fun v3_ hv3_ hv3_a hv3_b => ?_)
  obtain ⟨g7_, g8_, g9_⟩ := p0_.m hG_ g5_ g6_ p3_ p4_ hv3_
  exact zk_iret (pc := 34) (ty := .int) rfl rfl ⟨by omega, by omega⟩ hf ⟨(show v3_ = (gm T_ (gm T_ (gi T_ (a1_).toNat) (a0_).toNat) (a1_).toNat : Nat) by rw [g7_, g4_, g1_, Int.toNat_natCast, Int.toNat_natCast]), (show 0 ≤ v3_ by first | with_reducible assumption | assumption | omega), (show v3_ < gN T_ by first | with_reducible assumption | assumption | omega)⟩ (zdal_p dlA_Group_turn_51 (i := 20) rfl)
set_option maxHeartbeats 4000000 in
theorem u_Group_turnAll (l : Launch) (d_ : Nat) (Mz : zMem) (hW : zKW d_ Mz) (a0_ : Int) (ha0_a : -2147483648 ≤ a0_) (ha0_b : a0_ < 2147483648) (a1_ : Int) (ha1_a : -2147483648 ≤ a1_) (ha1_b : a1_ < 2147483648) (T_ : zGT) (hT_ : T_ ∈ gTabs) (p0_ : zTt T_ d_ Mz) (p1_ : 0 ≤ a0_) (p2_ : (a0_).toNat < 2 ^ gN T_) (p3_ : 0 ≤ a1_) (p4_ : a1_ < gN T_) : zC l m_Group_turnAll 0 0 [.ref (d_ + 1), .int (Int32.ofInt a0_), .int (Int32.ofInt a1_)] Mz (zqcI d_ [] [] [] [] Mz (fun v N => v = (gtr T_ (a0_).toNat (a1_).toNat : Nat) ∧ 0 ≤ v ∧ v < 16777216)) := by
  refine zC_of (L0 := [some (.ref (d_ + 1)), some (.int (Int32.ofInt a0_)), some (.int (Int32.ofInt a1_)), none, none]) md_Group_turnAll (Nat.le_of_ble_eq_true rfl) rfl ?_ zQ0
  have hf : zFc d_ [] [] [] [] Mz Mz := zFc.rf
  have r_D1_7 := ze_r Mz (d_ + 1) 7
  have hO_ := gTabs_ok T_ hT_
  have hG_ := hO_.1
  have hn24_ := hG_.2.1
  have hn1_ := hG_.1
  have h24_ := g24 hn24_ p1_ p2_
  have hsz_ := p0_.1
  have htl_ := gtr_lt hG_ (S := (a0_).toNat) (g := (a1_).toNat) (by omega)
  have hpw_ : 2 ^ gN T_ ≤ 2 ^ 24 := Nat.pow_le_pow_right (by omega) hn24_
  refine zw_iconst (pc := 0) (v := Int32.ofInt 0) (by decide) (zdal_p dlA_Group_turnAll_49 (i := 0) rfl) ?_
  refine zw_istore_n (pc := 1) (i := 3) (L2 := [some (.ref (d_ + 1)), some (.int (Int32.ofInt a0_)), some (.int (Int32.ofInt a1_)), some (.int (Int32.ofInt 0)), none]) rfl (by decide) rfl (zdal_p dlA_Group_turnAll_49 (i := 1) rfl) ?_
  refine zw_iconst (pc := 2) (v := Int32.ofInt 0) (by decide) (zdal_p dlA_Group_turnAll_49 (i := 2) rfl) ?_
  refine zw_istore (pc := 3) (i := 4) (L2 := [some (.ref (d_ + 1)), some (.int (Int32.ofInt a0_)), some (.int (Int32.ofInt a1_)), some (.int (Int32.ofInt 0)), some (.int (Int32.ofInt 0))]) (by decide) rfl (zdal_p dlA_Group_turnAll_49 (i := 3) rfl) ?_
  have lp_5 : ∀ (n : Nat) (u1_ : Int) (hu1_a : -2147483648 ≤ u1_) (hu1_b : u1_ < 2147483648) (u2_ : Int) (hu2_a : -2147483648 ≤ u2_) (hu2_b : u2_ < 2147483648) (i3_ : 0 ≤ u2_) (i4_ : u2_ ≤ gN T_) (i5_ : u1_ = (gup (gtrF T_ (a0_).toNat (a1_).toNat) 0 (u2_).toNat : Nat)), (gN T_ - u2_).toNat < n → zW l m_Group_turnAll (zn Mz + 0, zw Mz + 0) Mz 5 [some (.ref (d_ + 1)), some (.int (Int32.ofInt a0_)), some (.int (Int32.ofInt a1_)), some (.int (Int32.ofInt u1_)), some (.int (Int32.ofInt u2_))] [] (zqcI d_ [] [] [] [] Mz (fun v N => v = (gtr T_ (a0_).toNat (a1_).toNat : Nat) ∧ 0 ≤ v ∧ v < 16777216)) := by
    intro n
    induction n with
    | zero =>
      intro u1_ hu1_a hu1_b u2_ hu2_a hu2_b i3_ i4_ i5_ h0
      exact absurd h0 (Nat.not_lt_zero _)
    | succ n ih_5 =>
      intro u1_ hu1_a hu1_b u2_ hu2_a hu2_b i3_ i4_ i5_ hlt_5
      have hgt_ := (show u1_ = (gup (gtrF T_ (a0_).toNat (a1_).toNat) 0 (u2_).toNat : Nat) by first | with_reducible assumption | assumption)
      refine zw_iload (pc := 5) (i := 4) (x := Int32.ofInt u2_) rfl (zdal_p dlA_Group_turnAll_49 (i := 4) rfl) ?_
      refine zw_aload_n (pc := 7) (n := 0) (x := (d_ + 1)) rfl (zdal_p dlA_Group_turnAll_49 (i := 5) rfl) ?_
      refine zk_getI (pc := 8) f_Group_39 rfl ((hf.w hW).kr (o := 1) (by decide)) (zdal_p dlA_Group_turnAll_49 (i := 6) rfl) ?_
      refine zr_icmp_ge (pc := 11) (tgt := 41) ⟨hu2_a, hu2_b⟩ ⟨(ze_r Mz (d_ + 1) 7).1, (ze_r Mz (d_ + 1) 7).2⟩ (by decide) (zdal_p dlA_Group_turnAll_49 (i := 7) rfl) (fun hc_11 => ?_) (fun hc_11 => ?_)
      · skip
        refine zw_iload_n (pc := 41) (n := 3) (x := Int32.ofInt u1_) rfl (zdal_p dlA_Group_turnAll_49 (i := 23) rfl) ?_
        exact zk_iret (pc := 42) (ty := .int) rfl rfl ⟨by omega, by omega⟩ hf ⟨(show u1_ = (gtr T_ (a0_).toNat (a1_).toNat : Nat) by rw [hgt_, show (u2_).toNat = gN T_ by omega]; rfl), (show 0 ≤ u1_ by omega), (show u1_ < 16777216 by rw [show (u2_).toNat = gN T_ by omega, ← gtr_e] at hgt_; omega)⟩ (zdal_p dlA_Group_turnAll_50 (i := 0) rfl)
      · skip
        refine zw_iload_n (pc := 14) (n := 1) (x := Int32.ofInt a0_) rfl (zdal_p dlA_Group_turnAll_49 (i := 8) rfl) ?_
        refine zw_iload (pc := 15) (i := 4) (x := Int32.ofInt u2_) rfl (zdal_p dlA_Group_turnAll_49 (i := 9) rfl) ?_
        refine zr_callS hf.x (pc := 17) [.int (Int32.ofInt a0_), .int (Int32.ofInt u2_)] [] l_Group_73 (u_T_isIn l d_ Mz (hf.w hW) a0_ ha0_a ha0_b u2_ hu2_a hu2_b (show 0 ≤ a0_ by first | with_reducible assumption | assumption | omega) (show a0_ < 2147483648 by first | with_reducible assumption | assumption | omega) (show 0 ≤ u2_ by first | with_reducible assumption | assumption | omega) (show u2_ < 31 by first | with_reducible assumption | assumption | omega)) rfl rfl (by decide) (Nat.le_of_ble_eq_true rfl) (zdal_p dlA_Group_turnAll_49 (i := 10) rfl) ?_
        rintro _ N6_ ⟨v7_, rfl, ⟨hv7_a, hv7_b⟩, hsN6_, hp0_N6_⟩
        obtain rfl := hsN6_.eq.symm
        replace hp0_N6_ : ((v7_ = 1 ∧ zbt a0_ u2_) ∨ (v7_ = 0 ∧ ¬ zbt a0_ u2_)) := hp0_N6_
        rcases hp0_N6_ with ⟨rfl, ha17_0_hp0_N6_⟩ | ⟨rfl, ha17_0_hp0_N6_⟩
        · skip
          have hb_ := ha17_0_hp0_N6_
          show zW l m_Group_turnAll (zn Mz + 0, zw Mz + 0) Mz 20 [some (.ref (d_ + 1)), some (.int (Int32.ofInt a0_)), some (.int (Int32.ofInt a1_)), some (.int (Int32.ofInt u1_)), some (.int (Int32.ofInt u2_))] [.int (Int32.ofInt 1)] _
          refine zr_if_eq (pc := 20) (tgt := 35) ⟨(by decide), (by decide)⟩ (by decide) (zdal_p dlA_Group_turnAll_49 (i := 11) rfl) (fun hc_20 => ?_) (fun hc_20 => ?_)
          · skip
            exact absurd hc_20 (by decide)
          · skip
            refine zw_iload_n (pc := 23) (n := 3) (x := Int32.ofInt u1_) rfl (zdal_p dlA_Group_turnAll_49 (i := 12) rfl) ?_
            refine zw_iconst (pc := 24) (v := Int32.ofInt 1) (by decide) (zdal_p dlA_Group_turnAll_49 (i := 13) rfl) ?_
            refine zw_aload_n (pc := 25) (n := 0) (x := (d_ + 1)) rfl (zdal_p dlA_Group_turnAll_49 (i := 14) rfl) ?_
            refine zw_iload (pc := 26) (i := 4) (x := Int32.ofInt u2_) rfl (zdal_p dlA_Group_turnAll_49 (i := 15) rfl) ?_
            refine zw_iload_n (pc := 28) (n := 2) (x := Int32.ofInt a1_) rfl (zdal_p dlA_Group_turnAll_49 (i := 16) rfl) ?_
            refine zk_callV hf.x (pc := 29) [.int (Int32.ofInt u2_), .int (Int32.ofInt a1_)] [.int (Int32.ofInt 1), .int (Int32.ofInt u1_)] l_Group_77 (u_Group_turn l d_ Mz (hf.w hW) u2_ hu2_a hu2_b a1_ ha1_a ha1_b T_ hT_ p0_ (show 0 ≤ u2_ by first | with_reducible assumption | assumption | omega) (show u2_ < gN T_ by first | with_reducible assumption | assumption | omega) (show 0 ≤ a1_ by first | with_reducible assumption | assumption | omega) (show a1_ < gN T_ by first | with_reducible assumption | assumption | omega)) rfl rfl ((hf.w hW).kr (o := 1) (by decide)) (by decide) (by decide) (Nat.le_of_ble_eq_true rfl) (zdal_p dlA_Group_turnAll_49 (i := 17) rfl) ?_
            rintro _ N8_ ⟨v9_, rfl, ⟨hv9_a, hv9_b⟩, hsN8_, ⟨hp0_N8_, hp1_N8_, hp2_N8_⟩⟩
            obtain rfl := hsN8_.eq.symm
            show zW l m_Group_turnAll (zn Mz + 0, zw Mz + 0) Mz 32 [some (.ref (d_ + 1)), some (.int (Int32.ofInt a0_)), some (.int (Int32.ofInt a1_)), some (.int (Int32.ofInt u1_)), some (.int (Int32.ofInt u2_))] [.int (Int32.ofInt v9_), .int (Int32.ofInt 1), .int (Int32.ofInt u1_)] _
            have hq_ := hp0_N8_
            refine zr_ishl (pc := 32) (zdal_p dlA_Group_turnAll_49 (i := 18) rfl) ?_
            have hr10_ := zshl_r 1 v9_
            refine zr_ior (pc := 33) (zdal_p dlA_Group_turnAll_49 (i := 19) rfl) ?_
            have hr11_ := zor_r u1_ (zshl 1 v9_)
            have hn_ := gtr_s1 hG_ (S := (a0_).toNat) (g := (a1_).toNat) (by omega) rfl (by omega) (by omega) hgt_ hb_ (w := ((gm T_ (gi T_ (a1_).toNat) (u2_).toNat : Nat) : Int)) rfl (hq_.trans (by rw [ Int.toNat_natCast]))
            refine zw_istore_n (pc := 34) (i := 3) (L2 := [some (.ref (d_ + 1)), some (.int (Int32.ofInt a0_)), some (.int (Int32.ofInt a1_)), some (.int (Int32.ofInt (zor u1_ (zshl 1 v9_)))), some (.int (Int32.ofInt u2_))]) rfl (by decide) rfl (zdal_p dlA_Group_turnAll_49 (i := 20) rfl) ?_
            refine zr_iinc (pc := 35) (i := 4) (a := u2_) (n := 1) (L2 := [some (.ref (d_ + 1)), some (.int (Int32.ofInt a0_)), some (.int (Int32.ofInt a1_)), some (.int (Int32.ofInt (zor u1_ (zshl 1 v9_)))), some (.int (Int32.ofInt (u2_ + 1)))]) rfl (by decide) rfl (zdal_p dlA_Group_turnAll_49 (i := 21) rfl) ?_
            refine zw_goto (pc := 38) (tgt := 5) (by decide) (zdal_p dlA_Group_turnAll_49 (i := 22) rfl) ?_
            exact ih_5 (zor u1_ (zshl 1 v9_)) (by omega) (by omega) (u2_ + 1) (by omega) (by omega) (show 0 ≤ (u2_ + 1) by first | with_reducible assumption | assumption | omega) (show (u2_ + 1) ≤ gN T_ by first | with_reducible assumption | assumption | omega) (show (zor u1_ (zshl 1 v9_)) = (gup (gtrF T_ (a0_).toNat (a1_).toNat) 0 ((u2_ + 1)).toNat : Nat) by exact hn_) (by omega)
        · skip
          have hn_ := gtr_s0 (T := T_) (S := (a0_).toNat) (g := (a1_).toNat) rfl (by omega) hgt_ ha17_0_hp0_N6_
          show zW l m_Group_turnAll (zn Mz + 0, zw Mz + 0) Mz 20 [some (.ref (d_ + 1)), some (.int (Int32.ofInt a0_)), some (.int (Int32.ofInt a1_)), some (.int (Int32.ofInt u1_)), some (.int (Int32.ofInt u2_))] [.int (Int32.ofInt 0)] _
          refine zr_if_eq (pc := 20) (tgt := 35) ⟨(by decide), (by decide)⟩ (by decide) (zdal_p dlA_Group_turnAll_49 (i := 11) rfl) (fun hc_20 => ?_) (fun hc_20 => ?_)
          · skip
            refine zr_iinc (pc := 35) (i := 4) (a := u2_) (n := 1) (L2 := [some (.ref (d_ + 1)), some (.int (Int32.ofInt a0_)), some (.int (Int32.ofInt a1_)), some (.int (Int32.ofInt u1_)), some (.int (Int32.ofInt (u2_ + 1)))]) rfl (by decide) rfl (zdal_p dlA_Group_turnAll_49 (i := 21) rfl) ?_
            refine zw_goto (pc := 38) (tgt := 5) (by decide) (zdal_p dlA_Group_turnAll_49 (i := 22) rfl) ?_
            exact ih_5 u1_ hu1_a hu1_b (u2_ + 1) (by omega) (by omega) (show 0 ≤ (u2_ + 1) by first | with_reducible assumption | assumption | omega) (show (u2_ + 1) ≤ gN T_ by first | with_reducible assumption | assumption | omega) (show u1_ = (gup (gtrF T_ (a0_).toNat (a1_).toNat) 0 ((u2_ + 1)).toNat : Nat) by exact hn_) (by omega)
          · skip
            exact absurd hc_20 (by decide)
  exact lp_5 _ 0 (by decide) (by decide) 0 (by decide) (by decide) (show 0 ≤ (0 : Int) by first | with_reducible assumption | assumption | omega) (show (0 : Int) ≤ gN T_ by first | with_reducible assumption | assumption | omega) (show (0 : Int) = (gup (gtrF T_ (a0_).toNat (a1_).toNat) 0 ((0 : Int)).toNat : Nat) by rfl) (Nat.lt_succ_self _)
set_option maxHeartbeats 4000000 in
theorem u_Group_spanOf (l : Launch) (d_ : Nat) (Mz : zMem) (hW : zKW d_ Mz) (a0_ : Int) (ha0_a : -2147483648 ≤ a0_) (ha0_b : a0_ < 2147483648) (T_ : zGT) (hT_ : T_ ∈ gTabs) (hAs_ : gAs T_) (p0_ : zTt T_ d_ Mz) (p1_ : 0 ≤ a0_) (p2_ : (a0_).toNat < 2 ^ gN T_) : zC l m_Group_spanOf 0 0 [.ref (d_ + 1), .int (Int32.ofInt a0_)] Mz (zqcI d_ [] [] [] [11] Mz (fun v N => gLC T_ (a0_).toNat (v).toNat ∧ 0 ≤ v ∧ v < 16777216)) := by
  refine zC_of (L0 := [some (.ref (d_ + 1)), some (.int (Int32.ofInt a0_)), none, none, none, none, none]) md_Group_spanOf (Nat.le_of_ble_eq_true rfl) rfl ?_ zQ0
  have hf : zFc d_ [] [] [] [11] Mz Mz := zFc.rf
  have r_D1_7 := ze_r Mz (d_ + 1) 7
  have hO_ := gTabs_ok T_ hT_
  have hG_ := hO_.1
  have hn24_ := hG_.2.1
  have hn1_ := hG_.1
  have h24_ := g24 hn24_ p1_ p2_
  have hsz_ := p0_.1
  refine zw_iconst (pc := 0) (v := Int32.ofInt 1) (by decide) (zdal_p dlA_Group_spanOf_36 (i := 0) rfl) ?_
  refine zw_istore_n (pc := 1) (i := 2) (L2 := [some (.ref (d_ + 1)), some (.int (Int32.ofInt a0_)), some (.int (Int32.ofInt 1)), none, none, none, none]) rfl (by decide) rfl (zdal_p dlA_Group_spanOf_36 (i := 1) rfl) ?_
  refine zw_iconst (pc := 2) (v := Int32.ofInt 1) (by decide) (zdal_p dlA_Group_spanOf_36 (i := 2) rfl) ?_
  refine zw_istore_n (pc := 3) (i := 3) (L2 := [some (.ref (d_ + 1)), some (.int (Int32.ofInt a0_)), some (.int (Int32.ofInt 1)), some (.int (Int32.ofInt 1)), none, none, none]) rfl (by decide) rfl (zdal_p dlA_Group_spanOf_36 (i := 3) rfl) ?_
  refine zw_aload_n (pc := 4) (n := 0) (x := (d_ + 1)) rfl (zdal_p dlA_Group_spanOf_36 (i := 4) rfl) ?_
  refine zw_getF (pc := 5) f_Group_29 rfl ((hf.w hW).kr (o := 1) (by decide)) ((hf.w hW).lr (o := 1) (s := 4) (r := 10) (by decide)) (zdal_p dlA_Group_spanOf_36 (i := 5) rfl) ?_
  refine zw_iconst (pc := 8) (v := Int32.ofInt 0) (by decide) (zdal_p dlA_Group_spanOf_36 (i := 6) rfl) ?_
  refine zw_iconst (pc := 9) (v := Int32.ofInt 0) (by decide) (zdal_p dlA_Group_spanOf_36 (i := 7) rfl) ?_
  refine zk_st hf.x (pc := 10) (o := 11) (by decide) l_Group_46 ((hf.w hW).kr (o := 10) (by decide)) ((hf.w hW).lr (o := 10) (s := 0) (r := 11) (by decide)) ((hf.w hW).rr (o := 11) (t := 1) (n := 24) (by decide)) (by decide) (by omega) (by omega) (by decide) (Nat.le_of_ble_eq_true rfl) (zdal_p dlA_Group_spanOf_36 (i := 8) rfl) (fun N1_ hN1_ hsN1_ => ?_)
  have hf_N1_ : zFc d_ [] [] [] [11] Mz N1_ := hf.tr hsN1_ (by decide) (by decide) (by decide) (by decide)
  have eD1_7_N1_ : ze N1_ (d_ + 1) 7 = ze Mz (d_ + 1) 7 := hsN1_.e (by decide)
  have c2_ : zTt T_ d_ N1_ := zTt.fr (hf.w hW) hsN1_ p0_ (by decide)
  have hst_ := zs_get hN1_ ⟨by omega, by omega⟩
  have hsp0_ : zSpn T_ (a0_).toNat (zRw d_ 11 N1_) 1 1 0 0 := zSpn_0 hn1_ hst_
  refine zw_iconst (pc := 13) (v := Int32.ofInt 0) (by decide) (zdal_p dlA_Group_spanOf_36 (i := 9) rfl) ?_
  refine zw_istore (pc := 14) (i := 4) (L2 := [some (.ref (d_ + 1)), some (.int (Int32.ofInt a0_)), some (.int (Int32.ofInt 1)), some (.int (Int32.ofInt 1)), some (.int (Int32.ofInt 0)), none, none]) (by decide) rfl (zdal_p dlA_Group_spanOf_36 (i := 10) rfl) ?_
  have lp_16 : ∀ (n : Nat) (u3_ : Int) (hu3_a : -2147483648 ≤ u3_) (hu3_b : u3_ < 2147483648) (u4_ : Int) (hu4_a : -2147483648 ≤ u4_) (hu4_b : u4_ < 2147483648) (u5_ : Int) (hu5_a : -2147483648 ≤ u5_) (hu5_b : u5_ < 2147483648) (N6_ : zMem) (hs7_ : zFc d_ [] [] [] [11] N1_ N6_) (i8_ : 0 ≤ u5_) (i9_ : zSpn T_ (a0_).toNat (zRw d_ 11 N6_) u3_ u4_ u5_ 0), (25 - u5_).toNat < n → zW l m_Group_spanOf (zn Mz + 0, zw Mz + 0) N6_ 16 [some (.ref (d_ + 1)), some (.int (Int32.ofInt a0_)), some (.int (Int32.ofInt u3_)), some (.int (Int32.ofInt u4_)), some (.int (Int32.ofInt u5_)), none, none] [] (zqcI d_ [] [] [] [11] Mz (fun v N => gLC T_ (a0_).toNat (v).toNat ∧ 0 ≤ v ∧ v < 16777216)) := by
    intro n
    induction n with
    | zero =>
      intro u3_ hu3_a hu3_b u4_ hu4_a hu4_b u5_ hu5_a hu5_b N6_ hs7_ i8_ i9_ h0
      exact absurd h0 (Nat.not_lt_zero _)
    | succ n ih_16 =>
      intro u3_ hu3_a hu3_b u4_ hu4_a hu4_b u5_ hu5_a hu5_b N6_ hs7_ i8_ i9_ hlt_16
      have hf_N6_ : zFc d_ [] [] [] [11] Mz N6_ := hf_N1_.tr hs7_ (by decide) (by decide) (by decide) (by decide)
      have eD1_7_N6_ : ze N6_ (d_ + 1) 7 = ze N1_ (d_ + 1) 7 := hs7_.e (by decide)
      have c10_ : zTt T_ d_ N6_ := zTt.fr (hf_N1_.w hW) hs7_ c2_ (by decide)
      have hsp_ := (show zSpn T_ (a0_).toNat (zRw d_ 11 N6_) u3_ u4_ u5_ 0 by first | with_reducible assumption | assumption)
      obtain ⟨⟨⟨sa1_, sa2_⟩, sa3_, sa4_, sa5_⟩, sb_, -⟩ := id hsp_
      have hs24_ := g24 hn24_ sa3_ sa4_
      refine zw_iload (pc := 16) (i := 4) (x := Int32.ofInt u5_) rfl (zdal_p dlA_Group_spanOf_36 (i := 11) rfl) ?_
      refine zw_iload_n (pc := 18) (n := 3) (x := Int32.ofInt u4_) rfl (zdal_p dlA_Group_spanOf_36 (i := 12) rfl) ?_
      refine zr_icmp_ge (pc := 19) (tgt := 112) ⟨hu5_a, hu5_b⟩ ⟨hu4_a, hu4_b⟩ (by decide) (zdal_p dlA_Group_spanOf_36 (i := 13) rfl) (fun hc_19 => ?_) (fun hc_19 => ?_)
      · skip
        refine zw_iload_n (pc := 112) (n := 2) (x := Int32.ofInt u3_) rfl (zdal_p dlA_Group_spanOf_38 (i := 9) rfl) ?_
        exact zk_iret (pc := 113) (ty := .int) rfl rfl ⟨by omega, by omega⟩ hf_N6_ ⟨(show gLC T_ (a0_).toNat (u3_).toNat by exact zSpn_e hAs_ hG_ p2_ hsp_ (by omega)), (show 0 ≤ u3_ by first | with_reducible assumption | assumption | omega), (show u3_ < 16777216 by first | with_reducible assumption | assumption | omega)⟩ (zdal_p dlA_Group_spanOf_38 (i := 10) rfl)
      · skip
        refine zw_iload (pc := 22) (i := 4) (x := Int32.ofInt u5_) rfl (zdal_p dlA_Group_spanOf_36 (i := 14) rfl) ?_
        refine zw_bipush (pc := 24) (v := Int32.ofInt 24) (by decide) (zdal_p dlA_Group_spanOf_36 (i := 15) rfl) ?_
        refine zr_icmp_ge (pc := 26) (tgt := 112) ⟨hu5_a, hu5_b⟩ ⟨(by decide), (by decide)⟩ (by decide) (zdal_p dlA_Group_spanOf_36 (i := 16) rfl) (fun hc_26 => ?_) (fun hc_26 => ?_)
        · skip
          refine zw_iload_n (pc := 112) (n := 2) (x := Int32.ofInt u3_) rfl (zdal_p dlA_Group_spanOf_38 (i := 9) rfl) ?_
          exact zk_iret (pc := 113) (ty := .int) rfl rfl ⟨by omega, by omega⟩ hf_N6_ ⟨(show gLC T_ (a0_).toNat (u3_).toNat by exact zSpn_e hAs_ hG_ p2_ hsp_ (by omega)), (show 0 ≤ u3_ by first | with_reducible assumption | assumption | omega), (show u3_ < 16777216 by first | with_reducible assumption | assumption | omega)⟩ (zdal_p dlA_Group_spanOf_38 (i := 10) rfl)
        · skip
          refine zw_iconst (pc := 29) (v := Int32.ofInt 0) (by decide) (zdal_p dlA_Group_spanOf_36 (i := 17) rfl) ?_
          refine zw_istore (pc := 30) (i := 5) (L2 := [some (.ref (d_ + 1)), some (.int (Int32.ofInt a0_)), some (.int (Int32.ofInt u3_)), some (.int (Int32.ofInt u4_)), some (.int (Int32.ofInt u5_)), some (.int (Int32.ofInt 0)), none]) (by decide) rfl (zdal_p dlA_Group_spanOf_36 (i := 18) rfl) ?_
          have lp_32 : ∀ (n : Nat) (u11_ : Int) (hu11_a : -2147483648 ≤ u11_) (hu11_b : u11_ < 2147483648) (u12_ : Int) (hu12_a : -2147483648 ≤ u12_) (hu12_b : u12_ < 2147483648) (u13_ : Int) (hu13_a : -2147483648 ≤ u13_) (hu13_b : u13_ < 2147483648) (N14_ : zMem) (hs15_ : zFc d_ [] [] [] [11] N6_ N14_) (i16_ : 0 ≤ u13_) (i17_ : u5_ < u12_) (i18_ : zSpn T_ (a0_).toNat (zRw d_ 11 N14_) u11_ u12_ u5_ u13_), (gN T_ - u13_).toNat < n → zW l m_Group_spanOf (zn Mz + 0, zw Mz + 0) N14_ 32 [some (.ref (d_ + 1)), some (.int (Int32.ofInt a0_)), some (.int (Int32.ofInt u11_)), some (.int (Int32.ofInt u12_)), some (.int (Int32.ofInt u5_)), some (.int (Int32.ofInt u13_)), none] [] (zqcI d_ [] [] [] [11] Mz (fun v N => gLC T_ (a0_).toNat (v).toNat ∧ 0 ≤ v ∧ v < 16777216)) := by
            intro n
            induction n with
            | zero =>
              intro u11_ hu11_a hu11_b u12_ hu12_a hu12_b u13_ hu13_a hu13_b N14_ hs15_ i16_ i17_ i18_ h0
              exact absurd h0 (Nat.not_lt_zero _)
            | succ n ih_32 =>
              intro u11_ hu11_a hu11_b u12_ hu12_a hu12_b u13_ hu13_a hu13_b N14_ hs15_ i16_ i17_ i18_ hlt_32
              have hf_N14_ : zFc d_ [] [] [] [11] Mz N14_ := hf_N6_.tr hs15_ (by decide) (by decide) (by decide) (by decide)
              have hb0_N14_ : zFc d_ [] [] [] [11] N1_ N14_ := hs7_.tr hs15_ (by decide) (by decide) (by decide) (by decide)
              have eD1_7_N14_ : ze N14_ (d_ + 1) 7 = ze N6_ (d_ + 1) 7 := hs15_.e (by decide)
              have c19_ : zTt T_ d_ N14_ := zTt.fr (hf_N6_.w hW) hs15_ c10_ (by decide)
              have hsq_ := (show zSpn T_ (a0_).toNat (zRw d_ 11 N14_) u11_ u12_ u5_ u13_ by first | with_reducible assumption | assumption)
              obtain ⟨⟨⟨ta1_, ta2_⟩, ta3_, ta4_, ta5_⟩, tb_, -⟩ := id hsq_
              have ht24_ := g24 hn24_ ta3_ ta4_
              refine zw_iload (pc := 32) (i := 5) (x := Int32.ofInt u13_) rfl (zdal_p dlA_Group_spanOf_36 (i := 19) rfl) ?_
              refine zw_aload_n (pc := 34) (n := 0) (x := (d_ + 1)) rfl (zdal_p dlA_Group_spanOf_36 (i := 20) rfl) ?_
              refine zk_getI (pc := 35) f_Group_39 rfl ((hf_N14_.w hW).kr (o := 1) (by decide)) (zdal_p dlA_Group_spanOf_36 (i := 21) rfl) ?_
              rw [hf_N14_.e (by decide)]
              refine zr_icmp_ge (pc := 38) (tgt := 106) ⟨hu13_a, hu13_b⟩ ⟨(ze_r Mz (d_ + 1) 7).1, (ze_r Mz (d_ + 1) 7).2⟩ (by decide) (zdal_p dlA_Group_spanOf_36 (i := 22) rfl) (fun hc_38 => ?_) (fun hc_38 => ?_)
              · skip
                refine zr_iinc (pc := 106) (i := 4) (a := u5_) (n := 1) (L2 := [some (.ref (d_ + 1)), some (.int (Int32.ofInt a0_)), some (.int (Int32.ofInt u11_)), some (.int (Int32.ofInt u12_)), some (.int (Int32.ofInt (u5_ + 1))), some (.int (Int32.ofInt u13_)), none]) rfl (by decide) rfl (zdal_p dlA_Group_spanOf_38 (i := 7) rfl) ?_
                refine zw_goto (pc := 109) (tgt := 16) (by decide) (zdal_p dlA_Group_spanOf_38 (i := 8) rfl) ?_
                refine zW_le [some (.ref (d_ + 1)), some (.int (Int32.ofInt a0_)), some (.int (Int32.ofInt u11_)), some (.int (Int32.ofInt u12_)), some (.int (Int32.ofInt (u5_ + 1))), none, none] (⟨rfl, rfl, rfl, rfl, rfl, trivial⟩) ?_
                exact ih_16 u11_ hu11_a hu11_b u12_ hu12_a hu12_b (u5_ + 1) (by omega) (by omega) N14_ hb0_N14_ (show 0 ≤ (u5_ + 1) by first | with_reducible assumption | assumption | omega) (show zSpn T_ (a0_).toNat (zRw d_ 11 N14_) u11_ u12_ (u5_ + 1) 0 by exact zSpn_r hsq_ (by omega)) (by omega)
              · skip
                refine zw_iload_n (pc := 41) (n := 1) (x := Int32.ofInt a0_) rfl (zdal_p dlA_Group_spanOf_36 (i := 23) rfl) ?_
                refine zw_iload (pc := 42) (i := 5) (x := Int32.ofInt u13_) rfl (zdal_p dlA_Group_spanOf_37 (i := 0) rfl) ?_
                refine zr_callS hf_N14_.x (pc := 44) [.int (Int32.ofInt a0_), .int (Int32.ofInt u13_)] [] l_Group_73 (u_T_isIn l d_ N14_ (hf_N14_.w hW) a0_ ha0_a ha0_b u13_ hu13_a hu13_b (show 0 ≤ a0_ by first | with_reducible assumption | assumption | omega) (show a0_ < 2147483648 by first | with_reducible assumption | assumption | omega) (show 0 ≤ u13_ by first | with_reducible assumption | assumption | omega) (show u13_ < 31 by first | with_reducible assumption | assumption | omega)) rfl rfl (by decide) (Nat.le_of_ble_eq_true rfl) (zdal_p dlA_Group_spanOf_37 (i := 1) rfl) ?_
                rintro _ N20_ ⟨v21_, rfl, ⟨hv21_a, hv21_b⟩, hsN20_, hp0_N20_⟩
                obtain rfl := hsN20_.eq.symm
                replace hp0_N20_ : ((v21_ = 1 ∧ zbt a0_ u13_) ∨ (v21_ = 0 ∧ ¬ zbt a0_ u13_)) := hp0_N20_
                rcases hp0_N20_ with ⟨rfl, ha44_0_hp0_N20_⟩ | ⟨rfl, ha44_0_hp0_N20_⟩
                · skip
                  have hin_ := ha44_0_hp0_N20_
                  show zW l m_Group_spanOf (zn Mz + 0, zw Mz + 0) N14_ 47 [some (.ref (d_ + 1)), some (.int (Int32.ofInt a0_)), some (.int (Int32.ofInt u11_)), some (.int (Int32.ofInt u12_)), some (.int (Int32.ofInt u5_)), some (.int (Int32.ofInt u13_)), none] [.int (Int32.ofInt 1)] _
                  refine zr_if_eq (pc := 47) (tgt := 68) ⟨(by decide), (by decide)⟩ (by decide) (zdal_p dlA_Group_spanOf_37 (i := 2) rfl) (fun hc_47 => ?_) (fun hc_47 => ?_)
                  · skip
                    exact absurd hc_47 (by decide)
                  · skip
                    refine zw_aload_n (pc := 50) (n := 0) (x := (d_ + 1)) rfl (zdal_p dlA_Group_spanOf_37 (i := 3) rfl) ?_
                    refine zw_aload_n (pc := 51) (n := 0) (x := (d_ + 1)) rfl (zdal_p dlA_Group_spanOf_37 (i := 4) rfl) ?_
                    refine zw_getF (pc := 52) f_Group_29 rfl ((hf_N14_.w hW).kr (o := 1) (by decide)) ((hf_N14_.w hW).lr (o := 1) (s := 4) (r := 10) (by decide)) (zdal_p dlA_Group_spanOf_37 (i := 5) rfl) ?_
                    refine zw_iload (pc := 55) (i := 4) (x := Int32.ofInt u5_) rfl (zdal_p dlA_Group_spanOf_37 (i := 6) rfl) ?_
                    refine zk_at hf_N14_.x (pc := 57) l_Group_54 ((hf_N14_.w hW).kr (o := 10) (by decide)) ((hf_N14_.w hW).lr (o := 10) (s := 0) (r := 11) (by decide)) ((hf_N14_.w hW).rr (o := 11) (t := 1) (n := 24) (by decide)) (by decide) (by omega) (by omega) (by decide) (Nat.le_of_ble_eq_true rfl) (zdal_p dlA_Group_spanOf_37 (i := 7) rfl) (fun v22_ hv22_ hv22_a hv22_b => ?_)
                    have hv1_ := hv22_
                    have hv2_ := (tb_ (u5_).toNat (by omega)).1
                    rw [show zRw d_ 11 N14_ (u5_).toNat = v22_ from hv1_.symm] at hv2_
                    have hv3_ : zRw d_ 11 N14_ (u5_).toNat = v22_ := hv1_.symm
                    refine zw_iload (pc := 60) (i := 5) (x := Int32.ofInt u13_) rfl (zdal_p dlA_Group_spanOf_37 (i := 8) rfl) ?_
                    refine zk_callV hf_N14_.x (pc := 62) [.int (Int32.ofInt v22_), .int (Int32.ofInt u13_)] [] l_Group_67 (u_Group_both l d_ N14_ (hf_N14_.w hW) v22_ hv22_a hv22_b u13_ hu13_a hu13_b T_ hT_ c19_ (show 0 ≤ v22_ by first | with_reducible assumption | assumption | omega) (show v22_ < gN T_ by first | with_reducible assumption | assumption | omega) (show 0 ≤ u13_ by first | with_reducible assumption | assumption | omega) (show u13_ < gN T_ by first | with_reducible assumption | assumption | omega)) rfl rfl ((hf_N14_.w hW).kr (o := 1) (by decide)) (by decide) (by decide) (Nat.le_of_ble_eq_true rfl) (zdal_p dlA_Group_spanOf_37 (i := 9) rfl) ?_
                    rintro _ N23_ ⟨v24_, rfl, ⟨hv24_a, hv24_b⟩, hsN23_, ⟨hp0_N23_, hp1_N23_, hp2_N23_⟩⟩
                    obtain rfl := hsN23_.eq.symm
                    show zW l m_Group_spanOf (zn Mz + 0, zw Mz + 0) N14_ 65 [some (.ref (d_ + 1)), some (.int (Int32.ofInt a0_)), some (.int (Int32.ofInt u11_)), some (.int (Int32.ofInt u12_)), some (.int (Int32.ofInt u5_)), some (.int (Int32.ofInt u13_)), none] [.int (Int32.ofInt v24_)] _
                    have hq1_ := hp0_N23_
                    rw [← hv3_] at hq1_
                    refine zw_goto (pc := 65) (tgt := 69) (by decide) (zdal_p dlA_Group_spanOf_37 (i := 10) rfl) ?_
                    refine zw_istore (pc := 69) (i := 6) (L2 := [some (.ref (d_ + 1)), some (.int (Int32.ofInt a0_)), some (.int (Int32.ofInt u11_)), some (.int (Int32.ofInt u12_)), some (.int (Int32.ofInt u5_)), some (.int (Int32.ofInt u13_)), some (.int (Int32.ofInt v24_))]) (by decide) rfl (zdal_p dlA_Group_spanOf_37 (i := 12) rfl) ?_
                    refine zw_iload_n (pc := 71) (n := 2) (x := Int32.ofInt u11_) rfl (zdal_p dlA_Group_spanOf_37 (i := 13) rfl) ?_
                    refine zw_iload (pc := 72) (i := 6) (x := Int32.ofInt v24_) rfl (zdal_p dlA_Group_spanOf_37 (i := 14) rfl) ?_
                    refine zr_callS hf_N14_.x (pc := 74) [.int (Int32.ofInt u11_), .int (Int32.ofInt v24_)] [] l_Group_73 (u_T_isIn l d_ N14_ (hf_N14_.w hW) u11_ hu11_a hu11_b v24_ hv24_a hv24_b (show 0 ≤ u11_ by first | with_reducible assumption | assumption | omega) (show u11_ < 2147483648 by first | with_reducible assumption | assumption | omega) (show 0 ≤ v24_ by first | with_reducible assumption | assumption | omega) (show v24_ < 31 by first | with_reducible assumption | assumption | omega)) rfl rfl (by decide) (Nat.le_of_ble_eq_true rfl) (zdal_p dlA_Group_spanOf_37 (i := 15) rfl) ?_
                    rintro _ N25_ ⟨v26_, rfl, ⟨hv26_a, hv26_b⟩, hsN25_, hp0_N25_⟩
                    obtain rfl := hsN25_.eq.symm
                    replace hp0_N25_ : ((v26_ = 1 ∧ zbt u11_ v24_) ∨ (v26_ = 0 ∧ ¬ zbt u11_ v24_)) := hp0_N25_
                    rcases hp0_N25_ with ⟨rfl, ha74_0_hp0_N25_⟩ | ⟨rfl, ha74_0_hp0_N25_⟩
                    · skip
                      have hsn_ : zSpn T_ (a0_).toNat (zRw d_ 11 N14_) u11_ u12_ u5_ (u13_ + 1) := zSpn_n hsq_ (by omega) (by omega) (fun hx_ => by first | exact absurd hx_ hni_ | (have hh_ := ha74_0_hp0_N25_; unfold zbt at hh_; rw [hq1_, Int.toNat_natCast] at hh_; exact hh_))
                      show zW l m_Group_spanOf (zn Mz + 0, zw Mz + 0) N14_ 77 [some (.ref (d_ + 1)), some (.int (Int32.ofInt a0_)), some (.int (Int32.ofInt u11_)), some (.int (Int32.ofInt u12_)), some (.int (Int32.ofInt u5_)), some (.int (Int32.ofInt u13_)), some (.int (Int32.ofInt v24_))] [.int (Int32.ofInt 1)] _
                      refine zr_if_ne (pc := 77) (tgt := 100) ⟨(by decide), (by decide)⟩ (by decide) d_Group_spanOf_77 (fun hc_77 => ?_) (fun hc_77 => ?_)
                      · skip
                        refine zr_iinc (pc := 100) (i := 5) (a := u13_) (n := 1) (L2 := [some (.ref (d_ + 1)), some (.int (Int32.ofInt a0_)), some (.int (Int32.ofInt u11_)), some (.int (Int32.ofInt u12_)), some (.int (Int32.ofInt u5_)), some (.int (Int32.ofInt (u13_ + 1))), some (.int (Int32.ofInt v24_))]) rfl (by decide) rfl d_Group_spanOf_100 ?_
                        refine zw_goto (pc := 103) (tgt := 32) (by decide) d_Group_spanOf_103 ?_
                        refine zW_le [some (.ref (d_ + 1)), some (.int (Int32.ofInt a0_)), some (.int (Int32.ofInt u11_)), some (.int (Int32.ofInt u12_)), some (.int (Int32.ofInt u5_)), some (.int (Int32.ofInt (u13_ + 1))), none] (⟨rfl, rfl, rfl, rfl, rfl, rfl, trivial⟩) ?_
                        exact ih_32 u11_ hu11_a hu11_b u12_ hu12_a hu12_b (u13_ + 1) (by omega) (by omega) N14_ hs15_ (show 0 ≤ (u13_ + 1) by first | with_reducible assumption | assumption | omega) (show u5_ < u12_ by first | with_reducible assumption | assumption | omega) (show zSpn T_ (a0_).toNat (zRw d_ 11 N14_) u11_ u12_ u5_ (u13_ + 1) by exact hsn_) (by omega)
                      · skip
                        exact absurd hc_77 (by decide)
                    · skip
                      have hnot_ := ha74_0_hp0_N25_
                      have hcc_ := zSpn_c hsq_ (v := v24_) (by omega) (by first | omega | (show (0 : Int).toNat < gN T_; exact hn1_)) hnot_
                      show zW l m_Group_spanOf (zn Mz + 0, zw Mz + 0) N14_ 77 [some (.ref (d_ + 1)), some (.int (Int32.ofInt a0_)), some (.int (Int32.ofInt u11_)), some (.int (Int32.ofInt u12_)), some (.int (Int32.ofInt u5_)), some (.int (Int32.ofInt u13_)), some (.int (Int32.ofInt v24_))] [.int (Int32.ofInt 0)] _
                      refine zr_if_ne (pc := 77) (tgt := 100) ⟨(by decide), (by decide)⟩ (by decide) d_Group_spanOf_77 (fun hc_77 => ?_) (fun hc_77 => ?_)
                      · skip
                        exact absurd hc_77 (by decide)
                      · skip
                        refine zw_iload_n (pc := 80) (n := 2) (x := Int32.ofInt u11_) rfl (zdal_p dlA_Group_spanOf_37 (i := 17) rfl) ?_
                        refine zw_iconst (pc := 81) (v := Int32.ofInt 1) (by decide) (zdal_p dlA_Group_spanOf_37 (i := 18) rfl) ?_
                        refine zw_iload (pc := 82) (i := 6) (x := Int32.ofInt v24_) rfl (zdal_p dlA_Group_spanOf_37 (i := 19) rfl) ?_
                        refine zr_ishl (pc := 84) (zdal_p dlA_Group_spanOf_37 (i := 20) rfl) ?_
                        have hr27_ := zshl_r 1 v24_
                        refine zr_ior (pc := 85) (zdal_p dlA_Group_spanOf_37 (i := 21) rfl) ?_
                        have hr28_ := zor_r u11_ (zshl 1 v24_)
                        refine zw_istore_n (pc := 86) (i := 2) (L2 := [some (.ref (d_ + 1)), some (.int (Int32.ofInt a0_)), some (.int (Int32.ofInt (zor u11_ (zshl 1 v24_)))), some (.int (Int32.ofInt u12_)), some (.int (Int32.ofInt u5_)), some (.int (Int32.ofInt u13_)), some (.int (Int32.ofInt v24_))]) rfl (by decide) rfl (zdal_p dlA_Group_spanOf_37 (i := 22) rfl) ?_
                        refine zw_aload_n (pc := 87) (n := 0) (x := (d_ + 1)) rfl (zdal_p dlA_Group_spanOf_37 (i := 23) rfl) ?_
                        refine zw_getF (pc := 88) f_Group_29 rfl ((hf_N14_.w hW).kr (o := 1) (by decide)) ((hf_N14_.w hW).lr (o := 1) (s := 4) (r := 10) (by decide)) (zdal_p dlA_Group_spanOf_38 (i := 0) rfl) ?_
                        refine zw_iload_n (pc := 91) (n := 3) (x := Int32.ofInt u12_) rfl (zdal_p dlA_Group_spanOf_38 (i := 1) rfl) ?_
                        refine zw_iload (pc := 92) (i := 6) (x := Int32.ofInt v24_) rfl (zdal_p dlA_Group_spanOf_38 (i := 2) rfl) ?_
                        refine zk_st hf_N14_.x (pc := 94) (o := 11) (by decide) l_Group_46 ((hf_N14_.w hW).kr (o := 10) (by decide)) ((hf_N14_.w hW).lr (o := 10) (s := 0) (r := 11) (by decide)) ((hf_N14_.w hW).rr (o := 11) (t := 1) (n := 24) (by decide)) (by decide) (by omega) (by omega) (by decide) (Nat.le_of_ble_eq_true rfl) (zdal_p dlA_Group_spanOf_38 (i := 3) rfl) (fun N29_ hN29_ hsN29_ => ?_)
                        have hf_N29_ : zFc d_ [] [] [] [11] Mz N29_ := hf_N14_.tr hsN29_ (by decide) (by decide) (by decide) (by decide)
                        have hb0_N29_ : zFc d_ [] [] [] [11] N1_ N29_ := hb0_N14_.tr hsN29_ (by decide) (by decide) (by decide) (by decide)
                        have hb1_N29_ : zFc d_ [] [] [] [11] N6_ N29_ := hs15_.tr hsN29_ (by decide) (by decide) (by decide) (by decide)
                        have eD1_7_N29_ : ze N29_ (d_ + 1) 7 = ze N14_ (d_ + 1) 7 := hsN29_.e (by decide)
                        have c30_ : zTt T_ d_ N29_ := zTt.fr (hf_N14_.w hW) hsN29_ c19_ (by decide)
                        have hsn_ := zSpn_a hG_ hsq_ (by omega) (by omega) hin_ hq1_ hnot_ (zRw_w hN29_ ⟨by omega, by omega⟩)
                        refine zr_iinc (pc := 97) (i := 3) (a := u12_) (n := 1) (L2 := [some (.ref (d_ + 1)), some (.int (Int32.ofInt a0_)), some (.int (Int32.ofInt (zor u11_ (zshl 1 v24_)))), some (.int (Int32.ofInt (u12_ + 1))), some (.int (Int32.ofInt u5_)), some (.int (Int32.ofInt u13_)), some (.int (Int32.ofInt v24_))]) rfl (by decide) rfl (zdal_p dlA_Group_spanOf_38 (i := 4) rfl) ?_
                        refine zr_iinc (pc := 100) (i := 5) (a := u13_) (n := 1) (L2 := [some (.ref (d_ + 1)), some (.int (Int32.ofInt a0_)), some (.int (Int32.ofInt (zor u11_ (zshl 1 v24_)))), some (.int (Int32.ofInt (u12_ + 1))), some (.int (Int32.ofInt u5_)), some (.int (Int32.ofInt (u13_ + 1))), some (.int (Int32.ofInt v24_))]) rfl (by decide) rfl d_Group_spanOf_100 ?_
                        refine zw_goto (pc := 103) (tgt := 32) (by decide) d_Group_spanOf_103 ?_
                        refine zW_le [some (.ref (d_ + 1)), some (.int (Int32.ofInt a0_)), some (.int (Int32.ofInt (zor u11_ (zshl 1 v24_)))), some (.int (Int32.ofInt (u12_ + 1))), some (.int (Int32.ofInt u5_)), some (.int (Int32.ofInt (u13_ + 1))), none] (⟨rfl, rfl, rfl, rfl, rfl, rfl, trivial⟩) ?_
                        exact ih_32 (zor u11_ (zshl 1 v24_)) (by omega) (by omega) (u12_ + 1) (by omega) (by omega) (u13_ + 1) (by omega) (by omega) N29_ hb1_N29_ (show 0 ≤ (u13_ + 1) by first | with_reducible assumption | assumption | omega) (show u5_ < (u12_ + 1) by first | with_reducible assumption | assumption | omega) (show zSpn T_ (a0_).toNat (zRw d_ 11 N29_) (zor u11_ (zshl 1 v24_)) (u12_ + 1) u5_ (u13_ + 1) by exact hsn_) (by omega)
                · skip
                  have hni_ := ha44_0_hp0_N20_
                  show zW l m_Group_spanOf (zn Mz + 0, zw Mz + 0) N14_ 47 [some (.ref (d_ + 1)), some (.int (Int32.ofInt a0_)), some (.int (Int32.ofInt u11_)), some (.int (Int32.ofInt u12_)), some (.int (Int32.ofInt u5_)), some (.int (Int32.ofInt u13_)), none] [.int (Int32.ofInt 0)] _
                  refine zr_if_eq (pc := 47) (tgt := 68) ⟨(by decide), (by decide)⟩ (by decide) (zdal_p dlA_Group_spanOf_37 (i := 2) rfl) (fun hc_47 => ?_) (fun hc_47 => ?_)
                  · skip
                    refine zw_iconst (pc := 68) (v := Int32.ofInt 0) (by decide) (zdal_p dlA_Group_spanOf_37 (i := 11) rfl) ?_
                    refine zw_istore (pc := 69) (i := 6) (L2 := [some (.ref (d_ + 1)), some (.int (Int32.ofInt a0_)), some (.int (Int32.ofInt u11_)), some (.int (Int32.ofInt u12_)), some (.int (Int32.ofInt u5_)), some (.int (Int32.ofInt u13_)), some (.int (Int32.ofInt 0))]) (by decide) rfl (zdal_p dlA_Group_spanOf_37 (i := 12) rfl) ?_
                    refine zw_iload_n (pc := 71) (n := 2) (x := Int32.ofInt u11_) rfl (zdal_p dlA_Group_spanOf_37 (i := 13) rfl) ?_
                    refine zw_iload (pc := 72) (i := 6) (x := Int32.ofInt 0) rfl (zdal_p dlA_Group_spanOf_37 (i := 14) rfl) ?_
                    refine zr_callS hf_N14_.x (pc := 74) [.int (Int32.ofInt u11_), .int (Int32.ofInt 0)] [] l_Group_73 (u_T_isIn l d_ N14_ (hf_N14_.w hW) u11_ hu11_a hu11_b 0 (by decide) (by decide) (show 0 ≤ u11_ by first | with_reducible assumption | assumption | omega) (show u11_ < 2147483648 by first | with_reducible assumption | assumption | omega) (show 0 ≤ 0 by first | with_reducible assumption | assumption | omega) (show 0 < 31 by first | with_reducible assumption | assumption | omega)) rfl rfl (by decide) (Nat.le_of_ble_eq_true rfl) (zdal_p dlA_Group_spanOf_37 (i := 15) rfl) ?_
                    rintro _ N31_ ⟨v32_, rfl, ⟨hv32_a, hv32_b⟩, hsN31_, hp0_N31_⟩
                    obtain rfl := hsN31_.eq.symm
                    replace hp0_N31_ : ((v32_ = 1 ∧ zbt u11_ 0) ∨ (v32_ = 0 ∧ ¬ zbt u11_ 0)) := hp0_N31_
                    rcases hp0_N31_ with ⟨rfl, ha74_0_hp0_N31_⟩ | ⟨rfl, ha74_0_hp0_N31_⟩
                    · skip
                      have hsn_ : zSpn T_ (a0_).toNat (zRw d_ 11 N14_) u11_ u12_ u5_ (u13_ + 1) := zSpn_n hsq_ (by omega) (by omega) (fun hx_ => by first | exact absurd hx_ hni_ | (have hh_ := ha74_0_hp0_N31_; unfold zbt at hh_; rw [hq1_, Int.toNat_natCast] at hh_; exact hh_))
                      show zW l m_Group_spanOf (zn Mz + 0, zw Mz + 0) N14_ 77 [some (.ref (d_ + 1)), some (.int (Int32.ofInt a0_)), some (.int (Int32.ofInt u11_)), some (.int (Int32.ofInt u12_)), some (.int (Int32.ofInt u5_)), some (.int (Int32.ofInt u13_)), some (.int (Int32.ofInt 0))] [.int (Int32.ofInt 1)] _
                      refine zr_if_ne (pc := 77) (tgt := 100) ⟨(by decide), (by decide)⟩ (by decide) d_Group_spanOf_77 (fun hc_77 => ?_) (fun hc_77 => ?_)
                      · skip
                        refine zr_iinc (pc := 100) (i := 5) (a := u13_) (n := 1) (L2 := [some (.ref (d_ + 1)), some (.int (Int32.ofInt a0_)), some (.int (Int32.ofInt u11_)), some (.int (Int32.ofInt u12_)), some (.int (Int32.ofInt u5_)), some (.int (Int32.ofInt (u13_ + 1))), some (.int (Int32.ofInt 0))]) rfl (by decide) rfl d_Group_spanOf_100 ?_
                        refine zw_goto (pc := 103) (tgt := 32) (by decide) d_Group_spanOf_103 ?_
                        refine zW_le [some (.ref (d_ + 1)), some (.int (Int32.ofInt a0_)), some (.int (Int32.ofInt u11_)), some (.int (Int32.ofInt u12_)), some (.int (Int32.ofInt u5_)), some (.int (Int32.ofInt (u13_ + 1))), none] (⟨rfl, rfl, rfl, rfl, rfl, rfl, trivial⟩) ?_
                        exact ih_32 u11_ hu11_a hu11_b u12_ hu12_a hu12_b (u13_ + 1) (by omega) (by omega) N14_ hs15_ (show 0 ≤ (u13_ + 1) by first | with_reducible assumption | assumption | omega) (show u5_ < u12_ by first | with_reducible assumption | assumption | omega) (show zSpn T_ (a0_).toNat (zRw d_ 11 N14_) u11_ u12_ u5_ (u13_ + 1) by exact hsn_) (by omega)
                      · skip
                        exact absurd hc_77 (by decide)
                    · skip
                      have hnot_ := ha74_0_hp0_N31_
                      have hcc_ := zSpn_c hsq_ (v := (0 : Int)) (by omega) (by first | omega | (show (0 : Int).toNat < gN T_; exact hn1_)) hnot_
                      show zW l m_Group_spanOf (zn Mz + 0, zw Mz + 0) N14_ 77 [some (.ref (d_ + 1)), some (.int (Int32.ofInt a0_)), some (.int (Int32.ofInt u11_)), some (.int (Int32.ofInt u12_)), some (.int (Int32.ofInt u5_)), some (.int (Int32.ofInt u13_)), some (.int (Int32.ofInt 0))] [.int (Int32.ofInt 0)] _
                      refine zr_if_ne (pc := 77) (tgt := 100) ⟨(by decide), (by decide)⟩ (by decide) d_Group_spanOf_77 (fun hc_77 => ?_) (fun hc_77 => ?_)
                      · skip
                        exact absurd hc_77 (by decide)
                      · skip
                        exact absurd (show zbt u11_ 0 by have h0_ := (tb_ 0 (by omega)).2; rw [ta5_] at h0_; exact h0_) hnot_
                  · skip
                    exact absurd hc_47 (by decide)
          exact lp_32 _ u3_ hu3_a hu3_b u4_ hu4_a hu4_b 0 (by decide) (by decide) N6_ zFc.rf (show 0 ≤ (0 : Int) by first | with_reducible assumption | assumption | omega) (show u5_ < u4_ by first | with_reducible assumption | assumption | omega) (show zSpn T_ (a0_).toNat (zRw d_ 11 N6_) u3_ u4_ u5_ (0 : Int) by exact hsp_) (Nat.lt_succ_self _)
  exact lp_16 _ 1 (by decide) (by decide) 1 (by decide) (by decide) 0 (by decide) (by decide) N1_ zFc.rf (show 0 ≤ (0 : Int) by first | with_reducible assumption | assumption | omega) (show zSpn T_ (a0_).toNat (zRw d_ 11 N1_) (1 : Int) (1 : Int) (0 : Int) 0 by exact hsp0_) (Nat.lt_succ_self _)
set_option maxHeartbeats 4000000 in
theorem u_Sorts_indexOf (l : Launch) (d_ : Nat) (Mz : zMem) (hW : zKW d_ Mz) (a0_ : Int) (ha0_a : -2147483648 ≤ a0_) (ha0_b : a0_ < 2147483648) (p0_ : 0 ≤ ze Mz (d_ + 12) 6) (p1_ : ze Mz (d_ + 12) 6 ≤ 35) : zC l m_Sorts_indexOf 0 0 [.ref (d_ + 12), .int (Int32.ofInt a0_)] Mz (zqcI d_ [] [] [] [] Mz (fun v N => (((v = -1 ∧ (∀ i : Nat, (i : Int) < ze Mz (d_ + 12) 6 → ze Mz (d_ + 14) i ≠ a0_)) ∨ (0 ≤ v ∧ v < ze Mz (d_ + 12) 6 ∧ ze Mz (d_ + 14) (v).toNat = a0_))))) := by
  refine zC_of (L0 := [some (.ref (d_ + 12)), some (.int (Int32.ofInt a0_)), none]) md_Sorts_indexOf (Nat.le_of_ble_eq_true rfl) rfl ?_ zQ0
  have hf : zFc d_ [] [] [] [] Mz Mz := zFc.rf
  have r_D12_6 := ze_r Mz (d_ + 12) 6
  refine zw_iconst (pc := 0) (v := Int32.ofInt 0) (by decide) (zdal_p dlA_Sorts_indexOf_41 (i := 0) rfl) ?_
  refine zw_istore_n (pc := 1) (i := 2) (L2 := [some (.ref (d_ + 12)), some (.int (Int32.ofInt a0_)), some (.int (Int32.ofInt 0))]) rfl (by decide) rfl (zdal_p dlA_Sorts_indexOf_41 (i := 1) rfl) ?_
  have lp_2 : ∀ (n : Nat) (u1_ : Int) (hu1_a : -2147483648 ≤ u1_) (hu1_b : u1_ < 2147483648) (i2_ : 0 ≤ u1_) (i3_ : ∀ i : Nat, (i : Int) < u1_ → ze Mz (d_ + 14) i ≠ a0_), (ze Mz (d_ + 12) 6 - u1_).toNat < n → zW l m_Sorts_indexOf (zn Mz + 0, zw Mz + 0) Mz 2 [some (.ref (d_ + 12)), some (.int (Int32.ofInt a0_)), some (.int (Int32.ofInt u1_))] [] (zqcI d_ [] [] [] [] Mz (fun v N => (((v = -1 ∧ (∀ i : Nat, (i : Int) < ze Mz (d_ + 12) 6 → ze Mz (d_ + 14) i ≠ a0_)) ∨ (0 ≤ v ∧ v < ze Mz (d_ + 12) 6 ∧ ze Mz (d_ + 14) (v).toNat = a0_))))) := by
    intro n
    induction n with
    | zero =>
      intro u1_ hu1_a hu1_b i2_ i3_ h0
      exact absurd h0 (Nat.not_lt_zero _)
    | succ n ih_2 =>
      intro u1_ hu1_a hu1_b i2_ i3_ hlt_2
      have hno_ := (show ∀ i : Nat, (i : Int) < u1_ → ze Mz (d_ + 14) i ≠ a0_ by first | with_reducible assumption | assumption)
      refine zw_iload_n (pc := 2) (n := 2) (x := Int32.ofInt u1_) rfl (zdal_p dlA_Sorts_indexOf_41 (i := 2) rfl) ?_
      refine zw_aload_n (pc := 3) (n := 0) (x := (d_ + 12)) rfl (zdal_p dlA_Sorts_indexOf_41 (i := 3) rfl) ?_
      refine zk_getI (pc := 4) f_Sorts_36 rfl ((hf.w hW).kr (o := 12) (by decide)) (zdal_p dlA_Sorts_indexOf_41 (i := 4) rfl) ?_
      refine zr_icmp_ge (pc := 7) (tgt := 30) ⟨hu1_a, hu1_b⟩ ⟨(ze_r Mz (d_ + 12) 6).1, (ze_r Mz (d_ + 12) 6).2⟩ (by decide) (zdal_p dlA_Sorts_indexOf_41 (i := 5) rfl) (fun hc_7 => ?_) (fun hc_7 => ?_)
      · skip
        refine zw_iconst (pc := 30) (v := Int32.ofInt (-1)) (by decide) (zdal_p dlA_Sorts_indexOf_41 (i := 16) rfl) ?_
        exact zk_iret (pc := 31) (ty := .int) rfl rfl ⟨by omega, by omega⟩ hf (show ((((-1)) = -1 ∧ (∀ i : Nat, (i : Int) < ze Mz (d_ + 12) 6 → ze Mz (d_ + 14) i ≠ a0_)) ∨ (0 ≤ ((-1)) ∧ ((-1)) < ze Mz (d_ + 12) 6 ∧ ze Mz (d_ + 14) (((-1))).toNat = a0_)) from Or.inl (⟨(show ((-1)) = -1 by first | rfl | exact fun i hi => hno_ i (by omega)), (show (∀ i : Nat, (i : Int) < ze Mz (d_ + 12) 6 → ze Mz (d_ + 14) i ≠ a0_) by first | rfl | exact fun i hi => hno_ i (by omega))⟩)) (zdal_p dlA_Sorts_indexOf_41 (i := 17) rfl)
      · skip
        refine zw_aload_n (pc := 10) (n := 0) (x := (d_ + 12)) rfl (zdal_p dlA_Sorts_indexOf_41 (i := 6) rfl) ?_
        refine zw_getF (pc := 11) f_Sorts_14 rfl ((hf.w hW).kr (o := 12) (by decide)) ((hf.w hW).lr (o := 12) (s := 1) (r := 13) (by decide)) (zdal_p dlA_Sorts_indexOf_41 (i := 7) rfl) ?_
        refine zw_iload_n (pc := 14) (n := 2) (x := Int32.ofInt u1_) rfl (zdal_p dlA_Sorts_indexOf_41 (i := 8) rfl) ?_
        refine zk_at hf.x (pc := 15) l_Sorts_49 ((hf.w hW).kr (o := 13) (by decide)) ((hf.w hW).lr (o := 13) (s := 0) (r := 14) (by decide)) ((hf.w hW).rr (o := 14) (t := 1) (n := 35) (by decide)) (by decide) (by omega) (by omega) (by decide) (Nat.le_of_ble_eq_true rfl) (zdal_p dlA_Sorts_indexOf_41 (i := 9) rfl) (fun v4_ hv4_ hv4_a hv4_b => ?_)
        have hvv_ := hv4_
        refine zw_iload_n (pc := 18) (n := 1) (x := Int32.ofInt a0_) rfl (zdal_p dlA_Sorts_indexOf_41 (i := 10) rfl) ?_
        refine zr_icmp_ne (pc := 19) (tgt := 24) ⟨hv4_a, hv4_b⟩ ⟨ha0_a, ha0_b⟩ (by decide) (zdal_p dlA_Sorts_indexOf_41 (i := 11) rfl) (fun hc_19 => ?_) (fun hc_19 => ?_)
        · skip
          refine zr_iinc (pc := 24) (i := 2) (a := u1_) (n := 1) (L2 := [some (.ref (d_ + 12)), some (.int (Int32.ofInt a0_)), some (.int (Int32.ofInt (u1_ + 1)))]) rfl (by decide) rfl (zdal_p dlA_Sorts_indexOf_41 (i := 14) rfl) ?_
          refine zw_goto (pc := 27) (tgt := 2) (by decide) (zdal_p dlA_Sorts_indexOf_41 (i := 15) rfl) ?_
          have hn2_ : ∀ i : Nat, (i : Int) < (u1_ + 1) → ze Mz (d_ + 14) i ≠ a0_ := fun i hi => by by_cases g_ : (i : Int) < (u1_ + 1) - 1; exact hno_ i (by omega); rw [show i = (((u1_ + 1)) - 1).toNat by omega]; intro q_; rw [ Int.add_sub_cancel] at q_; omega
          exact ih_2 (u1_ + 1) (by omega) (by omega) (show 0 ≤ (u1_ + 1) by first | with_reducible assumption | assumption | omega) (show ∀ i : Nat, (i : Int) < (u1_ + 1) → ze Mz (d_ + 14) i ≠ a0_ by exact hn2_) (by omega)
        · skip
          refine zw_iload_n (pc := 22) (n := 2) (x := Int32.ofInt u1_) rfl (zdal_p dlA_Sorts_indexOf_41 (i := 12) rfl) ?_
          exact zk_iret (pc := 23) (ty := .int) rfl rfl ⟨by omega, by omega⟩ hf (show ((u1_ = -1 ∧ (∀ i : Nat, (i : Int) < ze Mz (d_ + 12) 6 → ze Mz (d_ + 14) i ≠ a0_)) ∨ (0 ≤ u1_ ∧ u1_ < ze Mz (d_ + 12) 6 ∧ ze Mz (d_ + 14) (u1_).toNat = a0_)) from Or.inr (⟨(show 0 ≤ u1_ by omega), (show u1_ < ze Mz (d_ + 12) 6 by omega), (show ze Mz (d_ + 14) (u1_).toNat = a0_ by omega)⟩)) (zdal_p dlA_Sorts_indexOf_41 (i := 13) rfl)
  exact lp_2 _ 0 (by decide) (by decide) (show 0 ≤ (0 : Int) by first | with_reducible assumption | assumption | omega) (show ∀ i : Nat, (i : Int) < (0 : Int) → ze Mz (d_ + 14) i ≠ a0_ by intro i hi; omega) (Nat.lt_succ_self _)
set_option maxHeartbeats 4000000 in
theorem u_Sorts_addSubgroup (l : Launch) (d_ : Nat) (Mz : zMem) (hW : zKW d_ Mz) (a0_ : Int) (ha0_a : -2147483648 ≤ a0_) (ha0_b : a0_ < 2147483648) (p0_ : 0 ≤ ze Mz (d_ + 12) 6) (p1_ : ze Mz (d_ + 12) 6 ≤ 35) (p2_ : (∀ i : Nat, (i : Int) < ze Mz (d_ + 12) 6 → ze Mz (d_ + 14) i ≠ a0_) → ze Mz (d_ + 12) 6 ≤ 34) : zC l m_Sorts_addSubgroup 0 0 [.ref (d_ + 12), .int (Int32.ofInt a0_)] Mz (zqcV d_ [] [] [(12, 6)] [14] Mz (fun N => ((((∃ k : Nat, (k : Int) < ze Mz (d_ + 12) 6 ∧ ze Mz (d_ + 14) k = a0_) ∧ (∀ j : Nat, zRw d_ 14 N j = zRw d_ 14 Mz j) ∧ ze N (d_ + 12) 6 = ze Mz (d_ + 12) 6) ∨ ((∀ i : Nat, (i : Int) < ze Mz (d_ + 12) 6 → ze Mz (d_ + 14) i ≠ a0_) ∧ ze N (d_ + 12) 6 = ze Mz (d_ + 12) 6 + 1 ∧ (∀ j : Nat, zRw d_ 14 N j = zst (zRw d_ 14 Mz) (ze Mz (d_ + 12) 6).toNat a0_ j)))))) := by
  refine zC_of (L0 := [some (.ref (d_ + 12)), some (.int (Int32.ofInt a0_))]) md_Sorts_addSubgroup (Nat.le_of_ble_eq_true rfl) rfl ?_ zQ0
  have hf : zFc d_ [] [] [(12, 6)] [14] Mz Mz := zFc.rf
  have r_D12_6 := ze_r Mz (d_ + 12) 6
  refine zw_aload_n (pc := 0) (n := 0) (x := (d_ + 12)) rfl (zdal_p dlA_Sorts_addSubgroup_40 (i := 0) rfl) ?_
  refine zw_iload_n (pc := 1) (n := 1) (x := Int32.ofInt a0_) rfl (zdal_p dlA_Sorts_addSubgroup_40 (i := 1) rfl) ?_
  refine zk_callV hf.x (pc := 2) [.int (Int32.ofInt a0_)] [] l_Sorts_72 (u_Sorts_indexOf l d_ Mz (hf.w hW) a0_ ha0_a ha0_b (show 0 ≤ ze Mz (d_ + 12) 6 by first | with_reducible assumption | assumption | omega) (show ze Mz (d_ + 12) 6 ≤ 35 by first | with_reducible assumption | assumption | omega)) rfl rfl ((hf.w hW).kr (o := 12) (by decide)) (by decide) (by decide) (Nat.le_of_ble_eq_true rfl) (zdal_p dlA_Sorts_addSubgroup_40 (i := 2) rfl) ?_
  rintro _ N1_ ⟨v2_, rfl, ⟨hv2_a, hv2_b⟩, hsN1_, hp0_N1_⟩
  obtain rfl := hsN1_.eq.symm
  replace hp0_N1_ : ((v2_ = -1 ∧ (∀ i : Nat, (i : Int) < ze Mz (d_ + 12) 6 → ze Mz (d_ + 14) i ≠ a0_)) ∨ (0 ≤ v2_ ∧ v2_ < ze Mz (d_ + 12) 6 ∧ ze Mz (d_ + 14) (v2_).toNat = a0_)) := hp0_N1_
  rcases hp0_N1_ with ⟨rfl, ha2_0_hp0_N1_⟩ | ⟨ha2_0_hp0_N1_, ha2_1_hp0_N1_, ha2_2_hp0_N1_⟩
  · skip
    have hno_ := ha2_0_hp0_N1_
    have h34_ := p2_ hno_
    show zW l m_Sorts_addSubgroup (zn Mz + 0, zw Mz + 0) Mz 5 [some (.ref (d_ + 12)), some (.int (Int32.ofInt a0_))] [.int (Int32.ofInt ((-1)))] _
    refine zw_iconst (pc := 5) (v := Int32.ofInt (-1)) (by decide) (zdal_p dlA_Sorts_addSubgroup_40 (i := 3) rfl) ?_
    refine zr_icmp_ne (pc := 6) (tgt := 40) ⟨(by decide), (by decide)⟩ ⟨(by decide), (by decide)⟩ (by decide) (zdal_p dlA_Sorts_addSubgroup_40 (i := 4) rfl) (fun hc_6 => ?_) (fun hc_6 => ?_)
    · skip
      exact absurd hc_6 (by decide)
    · skip
      refine zw_aload_n (pc := 9) (n := 0) (x := (d_ + 12)) rfl (zdal_p dlA_Sorts_addSubgroup_40 (i := 5) rfl) ?_
      refine zk_getI (pc := 10) f_Sorts_36 rfl ((hf.w hW).kr (o := 12) (by decide)) (zdal_p dlA_Sorts_addSubgroup_40 (i := 6) rfl) ?_
      refine zw_bipush (pc := 13) (v := Int32.ofInt 35) (by decide) (zdal_p dlA_Sorts_addSubgroup_40 (i := 7) rfl) ?_
      refine zr_icmp_ge (pc := 15) (tgt := 40) ⟨(ze_r Mz (d_ + 12) 6).1, (ze_r Mz (d_ + 12) 6).2⟩ ⟨(by decide), (by decide)⟩ (by decide) (zdal_p dlA_Sorts_addSubgroup_40 (i := 8) rfl) (fun hc_15 => ?_) (fun hc_15 => ?_)
      · skip
        exact zk_vret (pc := 40) rfl hf (show (((∃ k : Nat, (k : Int) < ze Mz (d_ + 12) 6 ∧ ze Mz (d_ + 14) k = a0_) ∧ (∀ j : Nat, zRw d_ 14 Mz j = zRw d_ 14 Mz j) ∧ ze Mz (d_ + 12) 6 = ze Mz (d_ + 12) 6) ∨ ((∀ i : Nat, (i : Int) < ze Mz (d_ + 12) 6 → ze Mz (d_ + 14) i ≠ a0_) ∧ ze Mz (d_ + 12) 6 = ze Mz (d_ + 12) 6 + 1 ∧ (∀ j : Nat, zRw d_ 14 Mz j = zst (zRw d_ 14 Mz) (ze Mz (d_ + 12) 6).toNat a0_ j))) from Or.inr (⟨(show (∀ i : Nat, (i : Int) < ze Mz (d_ + 12) 6 → ze Mz (d_ + 14) i ≠ a0_) by first | exact hno_ | exact hw2_ | omega | (exfalso; omega)), (show ze Mz (d_ + 12) 6 = ze Mz (d_ + 12) 6 + 1 by first | exact hno_ | exact hw2_ | omega | (exfalso; omega)), (show (∀ j : Nat, zRw d_ 14 Mz j = zst (zRw d_ 14 Mz) (ze Mz (d_ + 12) 6).toNat a0_ j) by first | exact hno_ | exact hw2_ | omega | (exfalso; omega))⟩)) d_Sorts_addSubgroup_40
      · skip
        refine zw_aload_n (pc := 18) (n := 0) (x := (d_ + 12)) rfl (zdal_p dlA_Sorts_addSubgroup_40 (i := 9) rfl) ?_
        refine zw_getF (pc := 19) f_Sorts_14 rfl ((hf.w hW).kr (o := 12) (by decide)) ((hf.w hW).lr (o := 12) (s := 1) (r := 13) (by decide)) (zdal_p dlA_Sorts_addSubgroup_40 (i := 10) rfl) ?_
        refine zw_aload_n (pc := 22) (n := 0) (x := (d_ + 12)) rfl (zdal_p dlA_Sorts_addSubgroup_40 (i := 11) rfl) ?_
        refine zk_getI (pc := 23) f_Sorts_36 rfl ((hf.w hW).kr (o := 12) (by decide)) (zdal_p dlA_Sorts_addSubgroup_40 (i := 12) rfl) ?_
        refine zw_iload_n (pc := 26) (n := 1) (x := Int32.ofInt a0_) rfl (zdal_p dlA_Sorts_addSubgroup_40 (i := 13) rfl) ?_
        refine zk_st hf.x (pc := 27) (o := 14) (by decide) l_Sorts_40 ((hf.w hW).kr (o := 13) (by decide)) ((hf.w hW).lr (o := 13) (s := 0) (r := 14) (by decide)) ((hf.w hW).rr (o := 14) (t := 1) (n := 35) (by decide)) (by decide) (by omega) (by omega) (by decide) (Nat.le_of_ble_eq_true rfl) (zdal_p dlA_Sorts_addSubgroup_40 (i := 14) rfl) (fun N3_ hN3_ hsN3_ => ?_)
        have hf_N3_ : zFc d_ [] [] [(12, 6)] [14] Mz N3_ := hf.tr hsN3_ (by decide) (by decide) (by decide) (by decide)
        have eD12_6_N3_ : ze N3_ (d_ + 12) 6 = ze Mz (d_ + 12) 6 := hsN3_.e (by decide)
        have hw_ := zRw_w hN3_ ⟨by omega, by omega⟩
        refine zw_aload_n (pc := 30) (n := 0) (x := (d_ + 12)) rfl (zdal_p dlA_Sorts_addSubgroup_40 (i := 15) rfl) ?_
        refine zw_dup (pc := 31) rfl (zdal_p dlA_Sorts_addSubgroup_40 (i := 16) rfl) ?_
        refine zk_getI (pc := 32) f_Sorts_36 rfl ((hf_N3_.w hW).kr (o := 12) (by decide)) (zdal_p dlA_Sorts_addSubgroup_40 (i := 17) rfl) ?_
        refine zw_iconst (pc := 35) (v := Int32.ofInt 1) (by decide) (zdal_p dlA_Sorts_addSubgroup_40 (i := 18) rfl) ?_
        refine zr_iadd (pc := 36) (zdal_p dlA_Sorts_addSubgroup_40 (i := 19) rfl) ?_
        refine zk_putR (pc := 37) (o := 12) (by decide) f_Sorts_36 rfl rfl ((hf_N3_.w hW).kr (o := 12) (by decide)) ⟨by omega, by omega⟩ rfl rfl (zdal_p dlA_Sorts_addSubgroup_40 (i := 20) rfl) (fun N4_ hsN4_ hvN4_ => ?_)
        have hf_N4_ : zFc d_ [] [] [(12, 6)] [14] Mz N4_ := hf_N3_.tr hsN4_ (by decide) (by decide) (by decide) (by decide)
        have rD12_6_N4_ := ze_r N4_ (d_ + 12) 6
        have hw2_ := fun j : Nat => (hsN4_.r (by decide) j : zRw d_ 14 N4_ j = zRw d_ 14 N3_ j).trans (hw_ j)
        exact zk_vret (pc := 40) rfl hf_N4_ (show (((∃ k : Nat, (k : Int) < ze Mz (d_ + 12) 6 ∧ ze Mz (d_ + 14) k = a0_) ∧ (∀ j : Nat, zRw d_ 14 N4_ j = zRw d_ 14 Mz j) ∧ ze N4_ (d_ + 12) 6 = ze Mz (d_ + 12) 6) ∨ ((∀ i : Nat, (i : Int) < ze Mz (d_ + 12) 6 → ze Mz (d_ + 14) i ≠ a0_) ∧ ze N4_ (d_ + 12) 6 = ze Mz (d_ + 12) 6 + 1 ∧ (∀ j : Nat, zRw d_ 14 N4_ j = zst (zRw d_ 14 Mz) (ze Mz (d_ + 12) 6).toNat a0_ j))) from Or.inr (⟨(show (∀ i : Nat, (i : Int) < ze Mz (d_ + 12) 6 → ze Mz (d_ + 14) i ≠ a0_) by first | exact hno_ | exact hw2_ | omega | (exfalso; omega)), (show ze N4_ (d_ + 12) 6 = ze Mz (d_ + 12) 6 + 1 by first | exact hno_ | exact hw2_ | omega | (exfalso; omega)), (show (∀ j : Nat, zRw d_ 14 N4_ j = zst (zRw d_ 14 Mz) (ze Mz (d_ + 12) 6).toNat a0_ j) by first | exact hno_ | exact hw2_ | omega | (exfalso; omega))⟩)) d_Sorts_addSubgroup_40
  · skip
    have hf0_ := ha2_0_hp0_N1_
    have hf1_ := ha2_1_hp0_N1_
    have hf2_ := ha2_2_hp0_N1_
    have hex_ : ∃ k : Nat, (k : Int) < ze Mz (d_ + 12) 6 ∧ ze Mz (d_ + 14) k = a0_ := ⟨_, by omega, hf2_⟩
    show zW l m_Sorts_addSubgroup (zn Mz + 0, zw Mz + 0) Mz 5 [some (.ref (d_ + 12)), some (.int (Int32.ofInt a0_))] [.int (Int32.ofInt v2_)] _
    refine zw_iconst (pc := 5) (v := Int32.ofInt (-1)) (by decide) (zdal_p dlA_Sorts_addSubgroup_40 (i := 3) rfl) ?_
    refine zr_icmp_ne (pc := 6) (tgt := 40) ⟨hv2_a, hv2_b⟩ ⟨(by decide), (by decide)⟩ (by decide) (zdal_p dlA_Sorts_addSubgroup_40 (i := 4) rfl) (fun hc_6 => ?_) (fun hc_6 => ?_)
    · skip
      exact zk_vret (pc := 40) rfl hf (show (((∃ k : Nat, (k : Int) < ze Mz (d_ + 12) 6 ∧ ze Mz (d_ + 14) k = a0_) ∧ (∀ j : Nat, zRw d_ 14 Mz j = zRw d_ 14 Mz j) ∧ ze Mz (d_ + 12) 6 = ze Mz (d_ + 12) 6) ∨ ((∀ i : Nat, (i : Int) < ze Mz (d_ + 12) 6 → ze Mz (d_ + 14) i ≠ a0_) ∧ ze Mz (d_ + 12) 6 = ze Mz (d_ + 12) 6 + 1 ∧ (∀ j : Nat, zRw d_ 14 Mz j = zst (zRw d_ 14 Mz) (ze Mz (d_ + 12) 6).toNat a0_ j))) from Or.inl (⟨(show (∃ k : Nat, (k : Int) < ze Mz (d_ + 12) 6 ∧ ze Mz (d_ + 14) k = a0_) by first | exact hex_ | exact fun j => rfl | omega), (show (∀ j : Nat, zRw d_ 14 Mz j = zRw d_ 14 Mz j) by first | exact hex_ | exact fun j => rfl | omega), (show ze Mz (d_ + 12) 6 = ze Mz (d_ + 12) 6 by first | exact hex_ | exact fun j => rfl | omega)⟩)) d_Sorts_addSubgroup_40
    · skip
      refine zw_aload_n (pc := 9) (n := 0) (x := (d_ + 12)) rfl (zdal_p dlA_Sorts_addSubgroup_40 (i := 5) rfl) ?_
      refine zk_getI (pc := 10) f_Sorts_36 rfl ((hf.w hW).kr (o := 12) (by decide)) (zdal_p dlA_Sorts_addSubgroup_40 (i := 6) rfl) ?_
      refine zw_bipush (pc := 13) (v := Int32.ofInt 35) (by decide) (zdal_p dlA_Sorts_addSubgroup_40 (i := 7) rfl) ?_
      refine zr_icmp_ge (pc := 15) (tgt := 40) ⟨(ze_r Mz (d_ + 12) 6).1, (ze_r Mz (d_ + 12) 6).2⟩ ⟨(by decide), (by decide)⟩ (by decide) (zdal_p dlA_Sorts_addSubgroup_40 (i := 8) rfl) (fun hc_15 => ?_) (fun hc_15 => ?_)
      · skip
        exact zk_vret (pc := 40) rfl hf (show (((∃ k : Nat, (k : Int) < ze Mz (d_ + 12) 6 ∧ ze Mz (d_ + 14) k = a0_) ∧ (∀ j : Nat, zRw d_ 14 Mz j = zRw d_ 14 Mz j) ∧ ze Mz (d_ + 12) 6 = ze Mz (d_ + 12) 6) ∨ ((∀ i : Nat, (i : Int) < ze Mz (d_ + 12) 6 → ze Mz (d_ + 14) i ≠ a0_) ∧ ze Mz (d_ + 12) 6 = ze Mz (d_ + 12) 6 + 1 ∧ (∀ j : Nat, zRw d_ 14 Mz j = zst (zRw d_ 14 Mz) (ze Mz (d_ + 12) 6).toNat a0_ j))) from Or.inl (⟨(show (∃ k : Nat, (k : Int) < ze Mz (d_ + 12) 6 ∧ ze Mz (d_ + 14) k = a0_) by first | exact hex_ | exact fun j => rfl | omega), (show (∀ j : Nat, zRw d_ 14 Mz j = zRw d_ 14 Mz j) by first | exact hex_ | exact fun j => rfl | omega), (show ze Mz (d_ + 12) 6 = ze Mz (d_ + 12) 6 by first | exact hex_ | exact fun j => rfl | omega)⟩)) d_Sorts_addSubgroup_40
      · skip
        refine zw_aload_n (pc := 18) (n := 0) (x := (d_ + 12)) rfl (zdal_p dlA_Sorts_addSubgroup_40 (i := 9) rfl) ?_
        refine zw_getF (pc := 19) f_Sorts_14 rfl ((hf.w hW).kr (o := 12) (by decide)) ((hf.w hW).lr (o := 12) (s := 1) (r := 13) (by decide)) (zdal_p dlA_Sorts_addSubgroup_40 (i := 10) rfl) ?_
        refine zw_aload_n (pc := 22) (n := 0) (x := (d_ + 12)) rfl (zdal_p dlA_Sorts_addSubgroup_40 (i := 11) rfl) ?_
        refine zk_getI (pc := 23) f_Sorts_36 rfl ((hf.w hW).kr (o := 12) (by decide)) (zdal_p dlA_Sorts_addSubgroup_40 (i := 12) rfl) ?_
        refine zw_iload_n (pc := 26) (n := 1) (x := Int32.ofInt a0_) rfl (zdal_p dlA_Sorts_addSubgroup_40 (i := 13) rfl) ?_
        refine zk_st hf.x (pc := 27) (o := 14) (by decide) l_Sorts_40 ((hf.w hW).kr (o := 13) (by decide)) ((hf.w hW).lr (o := 13) (s := 0) (r := 14) (by decide)) ((hf.w hW).rr (o := 14) (t := 1) (n := 35) (by decide)) (by decide) (by omega) (by omega) (by decide) (Nat.le_of_ble_eq_true rfl) (zdal_p dlA_Sorts_addSubgroup_40 (i := 14) rfl) (fun N5_ hN5_ hsN5_ => ?_)
        have hf_N5_ : zFc d_ [] [] [(12, 6)] [14] Mz N5_ := hf.tr hsN5_ (by decide) (by decide) (by decide) (by decide)
        have eD12_6_N5_ : ze N5_ (d_ + 12) 6 = ze Mz (d_ + 12) 6 := hsN5_.e (by decide)
        have hw_ := zRw_w hN5_ ⟨by omega, by omega⟩
        refine zw_aload_n (pc := 30) (n := 0) (x := (d_ + 12)) rfl (zdal_p dlA_Sorts_addSubgroup_40 (i := 15) rfl) ?_
        refine zw_dup (pc := 31) rfl (zdal_p dlA_Sorts_addSubgroup_40 (i := 16) rfl) ?_
        refine zk_getI (pc := 32) f_Sorts_36 rfl ((hf_N5_.w hW).kr (o := 12) (by decide)) (zdal_p dlA_Sorts_addSubgroup_40 (i := 17) rfl) ?_
        refine zw_iconst (pc := 35) (v := Int32.ofInt 1) (by decide) (zdal_p dlA_Sorts_addSubgroup_40 (i := 18) rfl) ?_
        refine zr_iadd (pc := 36) (zdal_p dlA_Sorts_addSubgroup_40 (i := 19) rfl) ?_
        refine zk_putR (pc := 37) (o := 12) (by decide) f_Sorts_36 rfl rfl ((hf_N5_.w hW).kr (o := 12) (by decide)) ⟨by omega, by omega⟩ rfl rfl (zdal_p dlA_Sorts_addSubgroup_40 (i := 20) rfl) (fun N6_ hsN6_ hvN6_ => ?_)
        have hf_N6_ : zFc d_ [] [] [(12, 6)] [14] Mz N6_ := hf_N5_.tr hsN6_ (by decide) (by decide) (by decide) (by decide)
        have rD12_6_N6_ := ze_r N6_ (d_ + 12) 6
        have hw2_ := fun j : Nat => (hsN6_.r (by decide) j : zRw d_ 14 N6_ j = zRw d_ 14 N5_ j).trans (hw_ j)
        exact zk_vret (pc := 40) rfl hf_N6_ (show (((∃ k : Nat, (k : Int) < ze Mz (d_ + 12) 6 ∧ ze Mz (d_ + 14) k = a0_) ∧ (∀ j : Nat, zRw d_ 14 N6_ j = zRw d_ 14 Mz j) ∧ ze N6_ (d_ + 12) 6 = ze Mz (d_ + 12) 6) ∨ ((∀ i : Nat, (i : Int) < ze Mz (d_ + 12) 6 → ze Mz (d_ + 14) i ≠ a0_) ∧ ze N6_ (d_ + 12) 6 = ze Mz (d_ + 12) 6 + 1 ∧ (∀ j : Nat, zRw d_ 14 N6_ j = zst (zRw d_ 14 Mz) (ze Mz (d_ + 12) 6).toNat a0_ j))) from Or.inl (⟨(show (∃ k : Nat, (k : Int) < ze Mz (d_ + 12) 6 ∧ ze Mz (d_ + 14) k = a0_) by first | exact hex_ | exact fun j => rfl | omega), (show (∀ j : Nat, zRw d_ 14 N6_ j = zRw d_ 14 Mz j) by first | exact hex_ | exact fun j => rfl | omega), (show ze N6_ (d_ + 12) 6 = ze Mz (d_ + 12) 6 by first | exact hex_ | exact fun j => rfl | omega)⟩)) d_Sorts_addSubgroup_40
set_option maxHeartbeats 4000000 in
theorem u_Sorts_isAhead (l : Launch) (d_ : Nat) (Mz : zMem) (hW : zKW d_ Mz) (a0_ : Int) (ha0_a : -2147483648 ≤ a0_) (ha0_b : a0_ < 2147483648) (a1_ : Int) (ha1_a : -2147483648 ≤ a1_) (ha1_b : a1_ < 2147483648) (p0_ : 0 ≤ a0_) (p1_ : a0_ < 16777216) (p2_ : 0 ≤ a1_) (p3_ : a1_ < 16777216) (p4_ : kbc (a0_).toNat = gcb (a0_).toNat) (p5_ : kbc (a1_).toNat = gcb (a1_).toNat) : zC l m_Sorts_isAhead 0 0 [.int (Int32.ofInt a0_), .int (Int32.ofInt a1_)] Mz (zqcI d_ [] [] [] [] Mz (fun v N => (((v = 1 ∧ zkyK a0_ < zkyK a1_) ∨ (v = 0 ∧ ¬ zkyK a0_ < zkyK a1_))))) := by
  refine zC_of (L0 := [some (.int (Int32.ofInt a0_)), some (.int (Int32.ofInt a1_)), none]) md_Sorts_isAhead (Nat.le_of_ble_eq_true rfl) rfl ?_ zQ0
  have hf : zFc d_ [] [] [] [] Mz Mz := zFc.rf
  have hky_ := zky_l (a := a0_) (b := a1_) (by omega) (by omega)
  refine zw_iload_n (pc := 0) (n := 0) (x := Int32.ofInt a0_) rfl (zdal_p dlA_Sorts_isAhead_44 (i := 0) rfl) ?_
  refine zr_callS hf.x (pc := 1) [.int (Int32.ofInt a0_)] [] l_Sorts_78 (u_Integer_bitCount l d_ Mz (hf.w hW) a0_ ha0_a ha0_b (show 0 ≤ a0_ by first | with_reducible assumption | assumption | omega)) rfl rfl (by decide) (Nat.le_of_ble_eq_true rfl) (zdal_p dlA_Sorts_isAhead_44 (i := 1) rfl) ?_
  rintro _ N1_ ⟨v2_, rfl, ⟨hv2_a, hv2_b⟩, hsN1_, ⟨hp0_N1_, hp1_N1_, hp2_N1_⟩⟩
  obtain rfl := hsN1_.eq.symm
  show zW l m_Sorts_isAhead (zn Mz + 0, zw Mz + 0) Mz 4 [some (.int (Int32.ofInt a0_)), some (.int (Int32.ofInt a1_)), none] [.int (Int32.ofInt v2_)] _
  have hb1_ := hp0_N1_
  refine zw_iload_n (pc := 4) (n := 1) (x := Int32.ofInt a1_) rfl (zdal_p dlA_Sorts_isAhead_44 (i := 2) rfl) ?_
  refine zr_callS hf.x (pc := 5) [.int (Int32.ofInt a1_)] [.int (Int32.ofInt v2_)] l_Sorts_78 (u_Integer_bitCount l d_ Mz (hf.w hW) a1_ ha1_a ha1_b (show 0 ≤ a1_ by first | with_reducible assumption | assumption | omega)) rfl rfl (by decide) (Nat.le_of_ble_eq_true rfl) (zdal_p dlA_Sorts_isAhead_44 (i := 3) rfl) ?_
  rintro _ N3_ ⟨v4_, rfl, ⟨hv4_a, hv4_b⟩, hsN3_, ⟨hp0_N3_, hp1_N3_, hp2_N3_⟩⟩
  obtain rfl := hsN3_.eq.symm
  show zW l m_Sorts_isAhead (zn Mz + 0, zw Mz + 0) Mz 8 [some (.int (Int32.ofInt a0_)), some (.int (Int32.ofInt a1_)), none] [.int (Int32.ofInt v4_), .int (Int32.ofInt v2_)] _
  have hb2_ := hp0_N3_
  refine zr_isub (pc := 8) (zdal_p dlA_Sorts_isAhead_44 (i := 4) rfl) ?_
  refine zw_istore_n (pc := 9) (i := 2) (L2 := [some (.int (Int32.ofInt a0_)), some (.int (Int32.ofInt a1_)), some (.int (Int32.ofInt (v2_ - v4_)))]) rfl (by decide) rfl (zdal_p dlA_Sorts_isAhead_44 (i := 5) rfl) ?_
  refine zw_iload_n (pc := 10) (n := 2) (x := Int32.ofInt (v2_ - v4_)) rfl (zdal_p dlA_Sorts_isAhead_44 (i := 6) rfl) ?_
  refine zr_if_lt (pc := 11) (tgt := 23) ⟨(by omega), (by omega)⟩ (by decide) (zdal_p dlA_Sorts_isAhead_44 (i := 7) rfl) (fun hc_11 => ?_) (fun hc_11 => ?_)
  · skip
    refine zw_iconst (pc := 23) (v := Int32.ofInt 1) (by decide) (zdal_p dlA_Sorts_isAhead_44 (i := 13) rfl) ?_
    refine zw_goto (pc := 24) (tgt := 28) (by decide) (zdal_p dlA_Sorts_isAhead_44 (i := 14) rfl) ?_
    exact zk_iret (pc := 28) (ty := .boolean) rfl (z_narB (by omega)) ⟨by omega, by omega⟩ hf (show ((1 = 1 ∧ zkyK a0_ < zkyK a1_) ∨ (1 = 0 ∧ ¬ zkyK a0_ < zkyK a1_)) from Or.inl (⟨(show 1 = 1 by first | exact hky_.mpr (by omega) | rfl), (show zkyK a0_ < zkyK a1_ by first | exact hky_.mpr (by omega) | rfl)⟩)) (zdal_p dlA_Sorts_isAhead_44 (i := 16) rfl)
  · skip
    refine zw_iload_n (pc := 14) (n := 2) (x := Int32.ofInt (v2_ - v4_)) rfl (zdal_p dlA_Sorts_isAhead_44 (i := 8) rfl) ?_
    refine zr_if_ne (pc := 15) (tgt := 27) ⟨(by omega), (by omega)⟩ (by decide) (zdal_p dlA_Sorts_isAhead_44 (i := 9) rfl) (fun hc_15 => ?_) (fun hc_15 => ?_)
    · skip
      refine zw_iconst (pc := 27) (v := Int32.ofInt 0) (by decide) (zdal_p dlA_Sorts_isAhead_44 (i := 15) rfl) ?_
      exact zk_iret (pc := 28) (ty := .boolean) rfl (z_narB (by omega)) ⟨by omega, by omega⟩ hf (show ((0 = 1 ∧ zkyK a0_ < zkyK a1_) ∨ (0 = 0 ∧ ¬ zkyK a0_ < zkyK a1_)) from Or.inr (⟨(show 0 = 0 by first | exact fun q_ => absurd (hky_.mp q_) (by omega) | rfl), (show ¬ zkyK a0_ < zkyK a1_ by first | exact fun q_ => absurd (hky_.mp q_) (by omega) | rfl)⟩)) (zdal_p dlA_Sorts_isAhead_44 (i := 16) rfl)
    · skip
      refine zw_iload_n (pc := 18) (n := 0) (x := Int32.ofInt a0_) rfl (zdal_p dlA_Sorts_isAhead_44 (i := 10) rfl) ?_
      refine zw_iload_n (pc := 19) (n := 1) (x := Int32.ofInt a1_) rfl (zdal_p dlA_Sorts_isAhead_44 (i := 11) rfl) ?_
      refine zr_icmp_ge (pc := 20) (tgt := 27) ⟨ha0_a, ha0_b⟩ ⟨ha1_a, ha1_b⟩ (by decide) (zdal_p dlA_Sorts_isAhead_44 (i := 12) rfl) (fun hc_20 => ?_) (fun hc_20 => ?_)
      · skip
        refine zw_iconst (pc := 27) (v := Int32.ofInt 0) (by decide) (zdal_p dlA_Sorts_isAhead_44 (i := 15) rfl) ?_
        exact zk_iret (pc := 28) (ty := .boolean) rfl (z_narB (by omega)) ⟨by omega, by omega⟩ hf (show ((0 = 1 ∧ zkyK a0_ < zkyK a1_) ∨ (0 = 0 ∧ ¬ zkyK a0_ < zkyK a1_)) from Or.inr (⟨(show 0 = 0 by first | exact fun q_ => absurd (hky_.mp q_) (by omega) | rfl), (show ¬ zkyK a0_ < zkyK a1_ by first | exact fun q_ => absurd (hky_.mp q_) (by omega) | rfl)⟩)) (zdal_p dlA_Sorts_isAhead_44 (i := 16) rfl)
      · skip
        refine zw_iconst (pc := 23) (v := Int32.ofInt 1) (by decide) (zdal_p dlA_Sorts_isAhead_44 (i := 13) rfl) ?_
        refine zw_goto (pc := 24) (tgt := 28) (by decide) (zdal_p dlA_Sorts_isAhead_44 (i := 14) rfl) ?_
        exact zk_iret (pc := 28) (ty := .boolean) rfl (z_narB (by omega)) ⟨by omega, by omega⟩ hf (show ((1 = 1 ∧ zkyK a0_ < zkyK a1_) ∨ (1 = 0 ∧ ¬ zkyK a0_ < zkyK a1_)) from Or.inl (⟨(show 1 = 1 by first | exact hky_.mpr (by omega) | rfl), (show zkyK a0_ < zkyK a1_ by first | exact hky_.mpr (by omega) | rfl)⟩)) (zdal_p dlA_Sorts_isAhead_44 (i := 16) rfl)
set_option maxHeartbeats 4000000 in
theorem u_Sorts_arrange (l : Launch) (d_ : Nat) (Mz : zMem) (hW : zKW d_ Mz) (p0_ : 1 ≤ ze Mz (d_ + 12) 6) (p1_ : ze Mz (d_ + 12) 6 ≤ 35) (p2_ : zSoK zkyK (zRw d_ 14 Mz) (zRw d_ 14 Mz) (ze Mz (d_ + 12) 6).toNat 1) (p3_ : (∀ k : Nat, (k : Int) < ze Mz (d_ + 12) 6 → (0 ≤ ze Mz (d_ + 14) k ∧ ze Mz (d_ + 14) k < 16777216) ∧ kbc (ze Mz (d_ + 14) k).toNat = gcb (ze Mz (d_ + 14) k).toNat)) : zC l m_Sorts_arrange 0 0 [.ref (d_ + 12)] Mz (zqcV d_ [] [] [] [14] Mz (fun N => (∃ i : Nat, (ze Mz (d_ + 12) 6).toNat ≤ i ∧ zSoK zkyK (zRw d_ 14 Mz) (zRw d_ 14 N) (ze Mz (d_ + 12) 6).toNat i))) := by
  refine zC_of (L0 := [some (.ref (d_ + 12)), none, none, none]) md_Sorts_arrange (Nat.le_of_ble_eq_true rfl) rfl ?_ zQ0
  have hf : zFc d_ [] [] [] [14] Mz Mz := zFc.rf
  have r_D12_6 := ze_r Mz (d_ + 12) 6
  refine zw_iconst (pc := 0) (v := Int32.ofInt 1) (by decide) (zdal_p dlA_Sorts_arrange_42 (i := 0) rfl) ?_
  refine zw_istore_n (pc := 1) (i := 1) (L2 := [some (.ref (d_ + 12)), some (.int (Int32.ofInt 1)), none, none]) rfl (by decide) rfl (zdal_p dlA_Sorts_arrange_42 (i := 1) rfl) ?_
  have lp_2 : ∀ (n : Nat) (u1_ : Int) (hu1_a : -2147483648 ≤ u1_) (hu1_b : u1_ < 2147483648) (N2_ : zMem) (hs3_ : zFc d_ [] [] [] [14] Mz N2_) (i4_ : 1 ≤ u1_) (i5_ : zSoK zkyK (zRw d_ 14 Mz) (zRw d_ 14 N2_) (ze Mz (d_ + 12) 6).toNat (u1_).toNat), (ze Mz (d_ + 12) 6 - u1_).toNat < n → zW l m_Sorts_arrange (zn Mz + 0, zw Mz + 0) N2_ 2 [some (.ref (d_ + 12)), some (.int (Int32.ofInt u1_)), none, none] [] (zqcV d_ [] [] [] [14] Mz (fun N => (∃ i : Nat, (ze Mz (d_ + 12) 6).toNat ≤ i ∧ zSoK zkyK (zRw d_ 14 Mz) (zRw d_ 14 N) (ze Mz (d_ + 12) 6).toNat i))) := by
    intro n
    induction n with
    | zero =>
      intro u1_ hu1_a hu1_b N2_ hs3_ i4_ i5_ h0
      exact absurd h0 (Nat.not_lt_zero _)
    | succ n ih_2 =>
      intro u1_ hu1_a hu1_b N2_ hs3_ i4_ i5_ hlt_2
      have hf_N2_ : zFc d_ [] [] [] [14] Mz N2_ := hf.tr hs3_ (by decide) (by decide) (by decide) (by decide)
      have eD12_6_N2_ : ze N2_ (d_ + 12) 6 = ze Mz (d_ + 12) 6 := hs3_.e (by decide)
      have hso_ := (show zSoK zkyK (zRw d_ 14 Mz) (zRw d_ 14 N2_) (ze Mz (d_ + 12) 6).toNat (u1_).toNat by first | with_reducible assumption | assumption)
      refine zw_iload_n (pc := 2) (n := 1) (x := Int32.ofInt u1_) rfl (zdal_p dlA_Sorts_arrange_42 (i := 2) rfl) ?_
      refine zw_aload_n (pc := 3) (n := 0) (x := (d_ + 12)) rfl (zdal_p dlA_Sorts_arrange_42 (i := 3) rfl) ?_
      refine zk_getI (pc := 4) f_Sorts_36 rfl ((hf_N2_.w hW).kr (o := 12) (by decide)) (zdal_p dlA_Sorts_arrange_42 (i := 4) rfl) ?_
      rw [hf_N2_.e (by decide)]
      refine zr_icmp_ge (pc := 7) (tgt := 81) ⟨hu1_a, hu1_b⟩ ⟨(ze_r Mz (d_ + 12) 6).1, (ze_r Mz (d_ + 12) 6).2⟩ (by decide) (zdal_p dlA_Sorts_arrange_42 (i := 5) rfl) (fun hc_7 => ?_) (fun hc_7 => ?_)
      · skip
        exact zk_vret (pc := 81) rfl hf_N2_ (show (∃ i : Nat, (ze Mz (d_ + 12) 6).toNat ≤ i ∧ zSoK zkyK (zRw d_ 14 Mz) (zRw d_ 14 N2_) (ze Mz (d_ + 12) 6).toNat i) by exact ⟨(u1_).toNat, by omega, hso_⟩) (zdal_p dlA_Sorts_arrange_43 (i := 19) rfl)
      · skip
        refine zw_aload_n (pc := 10) (n := 0) (x := (d_ + 12)) rfl (zdal_p dlA_Sorts_arrange_42 (i := 6) rfl) ?_
        refine zw_getF (pc := 11) f_Sorts_14 rfl ((hf_N2_.w hW).kr (o := 12) (by decide)) ((hf_N2_.w hW).lr (o := 12) (s := 1) (r := 13) (by decide)) (zdal_p dlA_Sorts_arrange_42 (i := 7) rfl) ?_
        refine zw_iload_n (pc := 14) (n := 1) (x := Int32.ofInt u1_) rfl (zdal_p dlA_Sorts_arrange_42 (i := 8) rfl) ?_
        refine zk_at hf_N2_.x (pc := 15) l_Sorts_49 ((hf_N2_.w hW).kr (o := 13) (by decide)) ((hf_N2_.w hW).lr (o := 13) (s := 0) (r := 14) (by decide)) ((hf_N2_.w hW).rr (o := 14) (t := 1) (n := 35) (by decide)) (by decide) (by omega) (by omega) (by decide) (Nat.le_of_ble_eq_true rfl) (zdal_p dlA_Sorts_arrange_42 (i := 9) rfl) (fun v6_ hv6_ hv6_a hv6_b => ?_)
        have hr1_ := hv6_
        have hsj0_ := zSj_0 hso_ (by omega : (u1_).toNat < (ze Mz (d_ + 12) 6).toNat)
        rw [show zRw d_ 14 N2_ (u1_).toNat = v6_ from hr1_.symm] at hsj0_
        refine zw_istore_n (pc := 18) (i := 2) (L2 := [some (.ref (d_ + 12)), some (.int (Int32.ofInt u1_)), some (.int (Int32.ofInt v6_)), none]) rfl (by decide) rfl (zdal_p dlA_Sorts_arrange_42 (i := 10) rfl) ?_
        refine zw_iload_n (pc := 19) (n := 1) (x := Int32.ofInt u1_) rfl (zdal_p dlA_Sorts_arrange_42 (i := 11) rfl) ?_
        refine zw_istore_n (pc := 20) (i := 3) (L2 := [some (.ref (d_ + 12)), some (.int (Int32.ofInt u1_)), some (.int (Int32.ofInt v6_)), some (.int (Int32.ofInt u1_))]) rfl (by decide) rfl (zdal_p dlA_Sorts_arrange_42 (i := 12) rfl) ?_
        have lp_21 : ∀ (n : Nat) (u7_ : Int) (hu7_a : -2147483648 ≤ u7_) (hu7_b : u7_ < 2147483648) (N8_ : zMem) (hs9_ : zFc d_ [] [] [] [14] N2_ N8_) (i10_ : 0 ≤ u7_) (i11_ : u7_ ≤ u1_) (i12_ : zSj zkyK (zRw d_ 14 Mz) (zRw d_ 14 N8_) (ze Mz (d_ + 12) 6).toNat (u1_).toNat (u7_).toNat v6_), (u7_).toNat < n → zW l m_Sorts_arrange (zn Mz + 0, zw Mz + 0) N8_ 21 [some (.ref (d_ + 12)), some (.int (Int32.ofInt u1_)), some (.int (Int32.ofInt v6_)), some (.int (Int32.ofInt u7_))] [] (zqcV d_ [] [] [] [14] Mz (fun N => (∃ i : Nat, (ze Mz (d_ + 12) 6).toNat ≤ i ∧ zSoK zkyK (zRw d_ 14 Mz) (zRw d_ 14 N) (ze Mz (d_ + 12) 6).toNat i))) := by
          intro n
          induction n with
          | zero =>
            intro u7_ hu7_a hu7_b N8_ hs9_ i10_ i11_ i12_ h0
            exact absurd h0 (Nat.not_lt_zero _)
          | succ n ih_21 =>
            intro u7_ hu7_a hu7_b N8_ hs9_ i10_ i11_ i12_ hlt_21
            have hf_N8_ : zFc d_ [] [] [] [14] Mz N8_ := hf_N2_.tr hs9_ (by decide) (by decide) (by decide) (by decide)
            have hb0_N8_ : zFc d_ [] [] [] [14] Mz N8_ := hs3_.tr hs9_ (by decide) (by decide) (by decide) (by decide)
            have eD12_6_N8_ : ze N8_ (d_ + 12) 6 = ze N2_ (d_ + 12) 6 := hs9_.e (by decide)
            have hsj_ := (show zSj zkyK (zRw d_ 14 Mz) (zRw d_ 14 N8_) (ze Mz (d_ + 12) 6).toNat (u1_).toNat (u7_).toNat v6_ by first | with_reducible assumption | assumption)
            obtain ⟨k1_, hk1_, hk2_⟩ := (zSj_m hsj_).1
            have hk3_ := p3_ k1_ (by omega)
            rw [show ze Mz (d_ + 14) k1_ = v6_ from hk2_] at hk3_
            refine zw_iload_n (pc := 21) (n := 3) (x := Int32.ofInt u7_) rfl (zdal_p dlA_Sorts_arrange_42 (i := 13) rfl) ?_
            refine zr_if_le (pc := 22) (tgt := 66) ⟨hu7_a, hu7_b⟩ (by decide) (zdal_p dlA_Sorts_arrange_42 (i := 14) rfl) (fun hc_22 => ?_) (fun hc_22 => ?_)
            · skip
              have hex_ : (u7_).toNat = 0 ∨ ¬ zkyK v6_ < zkyK (zRw d_ 14 N8_ ((u7_).toNat - 1)) := by first | exact Or.inl (by omega) | exact Or.inr hna_
              refine zw_aload_n (pc := 66) (n := 0) (x := (d_ + 12)) rfl (zdal_p dlA_Sorts_arrange_43 (i := 12) rfl) ?_
              refine zw_getF (pc := 67) f_Sorts_14 rfl ((hf_N8_.w hW).kr (o := 12) (by decide)) ((hf_N8_.w hW).lr (o := 12) (s := 1) (r := 13) (by decide)) (zdal_p dlA_Sorts_arrange_43 (i := 13) rfl) ?_
              refine zw_iload_n (pc := 70) (n := 3) (x := Int32.ofInt u7_) rfl (zdal_p dlA_Sorts_arrange_43 (i := 14) rfl) ?_
              refine zw_iload_n (pc := 71) (n := 2) (x := Int32.ofInt v6_) rfl (zdal_p dlA_Sorts_arrange_43 (i := 15) rfl) ?_
              refine zk_st hf_N8_.x (pc := 72) (o := 14) (by decide) l_Sorts_40 ((hf_N8_.w hW).kr (o := 13) (by decide)) ((hf_N8_.w hW).lr (o := 13) (s := 0) (r := 14) (by decide)) ((hf_N8_.w hW).rr (o := 14) (t := 1) (n := 35) (by decide)) (by decide) (by omega) (by omega) (by decide) (Nat.le_of_ble_eq_true rfl) (zdal_p dlA_Sorts_arrange_43 (i := 16) rfl) (fun N13_ hN13_ hsN13_ => ?_)
              have hf_N13_ : zFc d_ [] [] [] [14] Mz N13_ := hf_N8_.tr hsN13_ (by decide) (by decide) (by decide) (by decide)
              have hb0_N13_ : zFc d_ [] [] [] [14] Mz N13_ := hb0_N8_.tr hsN13_ (by decide) (by decide) (by decide) (by decide)
              have eD12_6_N13_ : ze N13_ (d_ + 12) 6 = ze N8_ (d_ + 12) 6 := hsN13_.e (by decide)
              have hse_ := zSj_e hsj_ hex_ (zRw_w hN13_ ⟨by omega, by omega⟩)
              rw [show (u1_).toNat + 1 = (u1_ + 1).toNat by omega] at hse_
              refine zr_iinc (pc := 75) (i := 1) (a := u1_) (n := 1) (L2 := [some (.ref (d_ + 12)), some (.int (Int32.ofInt (u1_ + 1))), some (.int (Int32.ofInt v6_)), some (.int (Int32.ofInt u7_))]) rfl (by decide) rfl (zdal_p dlA_Sorts_arrange_43 (i := 17) rfl) ?_
              refine zw_goto (pc := 78) (tgt := 2) (by decide) (zdal_p dlA_Sorts_arrange_43 (i := 18) rfl) ?_
              refine zW_le [some (.ref (d_ + 12)), some (.int (Int32.ofInt (u1_ + 1))), none, none] (⟨rfl, rfl, trivial⟩) ?_
              exact ih_2 (u1_ + 1) (by omega) (by omega) N13_ hb0_N13_ (show 1 ≤ (u1_ + 1) by first | with_reducible assumption | assumption | omega) (show zSoK zkyK (zRw d_ 14 Mz) (zRw d_ 14 N13_) (ze Mz (d_ + 12) 6).toNat ((u1_ + 1)).toNat by exact hse_) (by omega)
            · skip
              refine zw_iload_n (pc := 25) (n := 2) (x := Int32.ofInt v6_) rfl (zdal_p dlA_Sorts_arrange_42 (i := 15) rfl) ?_
              refine zw_aload_n (pc := 26) (n := 0) (x := (d_ + 12)) rfl (zdal_p dlA_Sorts_arrange_42 (i := 16) rfl) ?_
              refine zw_getF (pc := 27) f_Sorts_14 rfl ((hf_N8_.w hW).kr (o := 12) (by decide)) ((hf_N8_.w hW).lr (o := 12) (s := 1) (r := 13) (by decide)) (zdal_p dlA_Sorts_arrange_42 (i := 17) rfl) ?_
              refine zw_iload_n (pc := 30) (n := 3) (x := Int32.ofInt u7_) rfl (zdal_p dlA_Sorts_arrange_42 (i := 18) rfl) ?_
              refine zw_iconst (pc := 31) (v := Int32.ofInt 1) (by decide) (zdal_p dlA_Sorts_arrange_42 (i := 19) rfl) ?_
              refine zr_isub (pc := 32) (zdal_p dlA_Sorts_arrange_42 (i := 20) rfl) ?_
              refine zk_at hf_N8_.x (pc := 33) l_Sorts_49 ((hf_N8_.w hW).kr (o := 13) (by decide)) ((hf_N8_.w hW).lr (o := 13) (s := 0) (r := 14) (by decide)) ((hf_N8_.w hW).rr (o := 14) (t := 1) (n := 35) (by decide)) (by decide) (by omega) (by omega) (by decide) (Nat.le_of_ble_eq_true rfl) (zdal_p dlA_Sorts_arrange_42 (i := 21) rfl) (fun v14_ hv14_ hv14_a hv14_b => ?_)
              have hr2_ := hv14_
              obtain ⟨k2_, hk4_, hk5_⟩ := (zSj_m hsj_).2 (by omega)
              have hk6_ := p3_ k2_ (by omega)
              have hr4_ : zRw d_ 14 N8_ ((u7_).toNat - 1) = v14_ := by rw [hr2_, show (u7_ - 1).toNat = (u7_).toNat - 1 by omega]; rfl
              rw [show ze Mz (d_ + 14) k2_ = v14_ from hk5_.trans hr4_] at hk6_
              refine zr_callS hf_N8_.x (pc := 36) [.int (Int32.ofInt v6_), .int (Int32.ofInt v14_)] [] l_Sorts_75 (u_Sorts_isAhead l d_ N8_ (hf_N8_.w hW) v6_ hv6_a hv6_b v14_ hv14_a hv14_b (show 0 ≤ v6_ by exact hk3_.1.1) (show v6_ < 16777216 by exact hk3_.1.2) (show 0 ≤ v14_ by exact hk6_.1.1) (show v14_ < 16777216 by exact hk6_.1.2) (show kbc (v6_).toNat = gcb (v6_).toNat by exact hk3_.2) (show kbc (v14_).toNat = gcb (v14_).toNat by exact hk6_.2)) rfl rfl (by decide) (Nat.le_of_ble_eq_true rfl) (zdal_p dlA_Sorts_arrange_42 (i := 22) rfl) ?_
              rintro _ N15_ ⟨v16_, rfl, ⟨hv16_a, hv16_b⟩, hsN15_, hp0_N15_⟩
              obtain rfl := hsN15_.eq.symm
              replace hp0_N15_ : ((v16_ = 1 ∧ zkyK v6_ < zkyK v14_) ∨ (v16_ = 0 ∧ ¬ zkyK v6_ < zkyK v14_)) := hp0_N15_
              rcases hp0_N15_ with ⟨rfl, ha36_0_hp0_N15_⟩ | ⟨rfl, ha36_0_hp0_N15_⟩
              · skip
                have hah_ := ha36_0_hp0_N15_
                rw [← hr4_] at hah_
                show zW l m_Sorts_arrange (zn Mz + 0, zw Mz + 0) N8_ 39 [some (.ref (d_ + 12)), some (.int (Int32.ofInt u1_)), some (.int (Int32.ofInt v6_)), some (.int (Int32.ofInt u7_))] [.int (Int32.ofInt 1)] _
                refine zr_if_eq (pc := 39) (tgt := 66) ⟨(by decide), (by decide)⟩ (by decide) (zdal_p dlA_Sorts_arrange_42 (i := 23) rfl) (fun hc_39 => ?_) (fun hc_39 => ?_)
                · skip
                  exact absurd hc_39 (by decide)
                · skip
                  refine zw_aload_n (pc := 42) (n := 0) (x := (d_ + 12)) rfl (zdal_p dlA_Sorts_arrange_43 (i := 0) rfl) ?_
                  refine zw_getF (pc := 43) f_Sorts_14 rfl ((hf_N8_.w hW).kr (o := 12) (by decide)) ((hf_N8_.w hW).lr (o := 12) (s := 1) (r := 13) (by decide)) (zdal_p dlA_Sorts_arrange_43 (i := 1) rfl) ?_
                  refine zw_iload_n (pc := 46) (n := 3) (x := Int32.ofInt u7_) rfl (zdal_p dlA_Sorts_arrange_43 (i := 2) rfl) ?_
                  refine zw_aload_n (pc := 47) (n := 0) (x := (d_ + 12)) rfl (zdal_p dlA_Sorts_arrange_43 (i := 3) rfl) ?_
                  refine zw_getF (pc := 48) f_Sorts_14 rfl ((hf_N8_.w hW).kr (o := 12) (by decide)) ((hf_N8_.w hW).lr (o := 12) (s := 1) (r := 13) (by decide)) (zdal_p dlA_Sorts_arrange_43 (i := 4) rfl) ?_
                  refine zw_iload_n (pc := 51) (n := 3) (x := Int32.ofInt u7_) rfl (zdal_p dlA_Sorts_arrange_43 (i := 5) rfl) ?_
                  refine zw_iconst (pc := 52) (v := Int32.ofInt 1) (by decide) (zdal_p dlA_Sorts_arrange_43 (i := 6) rfl) ?_
                  refine zr_isub (pc := 53) (zdal_p dlA_Sorts_arrange_43 (i := 7) rfl) ?_
                  refine zk_at hf_N8_.x (pc := 54) l_Sorts_49 ((hf_N8_.w hW).kr (o := 13) (by decide)) ((hf_N8_.w hW).lr (o := 13) (s := 0) (r := 14) (by decide)) ((hf_N8_.w hW).rr (o := 14) (t := 1) (n := 35) (by decide)) (by decide) (by omega) (by omega) (by decide) (Nat.le_of_ble_eq_true rfl) (zdal_p dlA_Sorts_arrange_43 (i := 8) rfl) (fun v17_ hv17_ hv17_a hv17_b => ?_)
                  have hr3_ := hv17_
                  have hr5_ : zRw d_ 14 N8_ ((u7_).toNat - 1) = v17_ := by rw [hr3_, show (u7_ - 1).toNat = (u7_).toNat - 1 by omega]; rfl
                  refine zk_st hf_N8_.x (pc := 57) (o := 14) (by decide) l_Sorts_40 ((hf_N8_.w hW).kr (o := 13) (by decide)) ((hf_N8_.w hW).lr (o := 13) (s := 0) (r := 14) (by decide)) ((hf_N8_.w hW).rr (o := 14) (t := 1) (n := 35) (by decide)) (by decide) (by omega) (by omega) (by decide) (Nat.le_of_ble_eq_true rfl) (zdal_p dlA_Sorts_arrange_43 (i := 9) rfl) (fun N18_ hN18_ hsN18_ => ?_)
                  have hf_N18_ : zFc d_ [] [] [] [14] Mz N18_ := hf_N8_.tr hsN18_ (by decide) (by decide) (by decide) (by decide)
                  have hb0_N18_ : zFc d_ [] [] [] [14] Mz N18_ := hb0_N8_.tr hsN18_ (by decide) (by decide) (by decide) (by decide)
                  have hb1_N18_ : zFc d_ [] [] [] [14] N2_ N18_ := hs9_.tr hsN18_ (by decide) (by decide) (by decide) (by decide)
                  have eD12_6_N18_ : ze N18_ (d_ + 12) 6 = ze N8_ (d_ + 12) 6 := hsN18_.e (by decide)
                  have hss_ := zSj_s hsj_ (by omega) hah_ (fun j => (zRw_w hN18_ ⟨by omega, by omega⟩ j).trans (by rw [hr5_]))
                  rw [show (u7_).toNat - 1 = (u7_ + (-1)).toNat by omega] at hss_
                  refine zr_iinc (pc := 60) (i := 3) (a := u7_) (n := -1) (L2 := [some (.ref (d_ + 12)), some (.int (Int32.ofInt u1_)), some (.int (Int32.ofInt v6_)), some (.int (Int32.ofInt (u7_ + (-1))))]) rfl (by decide) rfl (zdal_p dlA_Sorts_arrange_43 (i := 10) rfl) ?_
                  refine zw_goto (pc := 63) (tgt := 21) (by decide) (zdal_p dlA_Sorts_arrange_43 (i := 11) rfl) ?_
                  exact ih_21 (u7_ + (-1)) (by omega) (by omega) N18_ hb1_N18_ (show 0 ≤ (u7_ + (-1)) by first | with_reducible assumption | assumption | omega) (show (u7_ + (-1)) ≤ u1_ by first | with_reducible assumption | assumption | omega) (show zSj zkyK (zRw d_ 14 Mz) (zRw d_ 14 N18_) (ze Mz (d_ + 12) 6).toNat (u1_).toNat ((u7_ + (-1))).toNat v6_ by exact hss_) (by omega)
              · skip
                have hna_ := ha36_0_hp0_N15_
                rw [← hr4_] at hna_
                show zW l m_Sorts_arrange (zn Mz + 0, zw Mz + 0) N8_ 39 [some (.ref (d_ + 12)), some (.int (Int32.ofInt u1_)), some (.int (Int32.ofInt v6_)), some (.int (Int32.ofInt u7_))] [.int (Int32.ofInt 0)] _
                refine zr_if_eq (pc := 39) (tgt := 66) ⟨(by decide), (by decide)⟩ (by decide) (zdal_p dlA_Sorts_arrange_42 (i := 23) rfl) (fun hc_39 => ?_) (fun hc_39 => ?_)
                · skip
                  have hex_ : (u7_).toNat = 0 ∨ ¬ zkyK v6_ < zkyK (zRw d_ 14 N8_ ((u7_).toNat - 1)) := by first | exact Or.inl (by omega) | exact Or.inr hna_
                  refine zw_aload_n (pc := 66) (n := 0) (x := (d_ + 12)) rfl (zdal_p dlA_Sorts_arrange_43 (i := 12) rfl) ?_
                  refine zw_getF (pc := 67) f_Sorts_14 rfl ((hf_N8_.w hW).kr (o := 12) (by decide)) ((hf_N8_.w hW).lr (o := 12) (s := 1) (r := 13) (by decide)) (zdal_p dlA_Sorts_arrange_43 (i := 13) rfl) ?_
                  refine zw_iload_n (pc := 70) (n := 3) (x := Int32.ofInt u7_) rfl (zdal_p dlA_Sorts_arrange_43 (i := 14) rfl) ?_
                  refine zw_iload_n (pc := 71) (n := 2) (x := Int32.ofInt v6_) rfl (zdal_p dlA_Sorts_arrange_43 (i := 15) rfl) ?_
                  refine zk_st hf_N8_.x (pc := 72) (o := 14) (by decide) l_Sorts_40 ((hf_N8_.w hW).kr (o := 13) (by decide)) ((hf_N8_.w hW).lr (o := 13) (s := 0) (r := 14) (by decide)) ((hf_N8_.w hW).rr (o := 14) (t := 1) (n := 35) (by decide)) (by decide) (by omega) (by omega) (by decide) (Nat.le_of_ble_eq_true rfl) (zdal_p dlA_Sorts_arrange_43 (i := 16) rfl) (fun N19_ hN19_ hsN19_ => ?_)
                  have hf_N19_ : zFc d_ [] [] [] [14] Mz N19_ := hf_N8_.tr hsN19_ (by decide) (by decide) (by decide) (by decide)
                  have hb0_N19_ : zFc d_ [] [] [] [14] Mz N19_ := hb0_N8_.tr hsN19_ (by decide) (by decide) (by decide) (by decide)
                  have eD12_6_N19_ : ze N19_ (d_ + 12) 6 = ze N8_ (d_ + 12) 6 := hsN19_.e (by decide)
                  have hse_ := zSj_e hsj_ hex_ (zRw_w hN19_ ⟨by omega, by omega⟩)
                  rw [show (u1_).toNat + 1 = (u1_ + 1).toNat by omega] at hse_
                  refine zr_iinc (pc := 75) (i := 1) (a := u1_) (n := 1) (L2 := [some (.ref (d_ + 12)), some (.int (Int32.ofInt (u1_ + 1))), some (.int (Int32.ofInt v6_)), some (.int (Int32.ofInt u7_))]) rfl (by decide) rfl (zdal_p dlA_Sorts_arrange_43 (i := 17) rfl) ?_
                  refine zw_goto (pc := 78) (tgt := 2) (by decide) (zdal_p dlA_Sorts_arrange_43 (i := 18) rfl) ?_
                  refine zW_le [some (.ref (d_ + 12)), some (.int (Int32.ofInt (u1_ + 1))), none, none] (⟨rfl, rfl, trivial⟩) ?_
                  exact ih_2 (u1_ + 1) (by omega) (by omega) N19_ hb0_N19_ (show 1 ≤ (u1_ + 1) by first | with_reducible assumption | assumption | omega) (show zSoK zkyK (zRw d_ 14 Mz) (zRw d_ 14 N19_) (ze Mz (d_ + 12) 6).toNat ((u1_ + 1)).toNat by exact hse_) (by omega)
                · skip
                  exact absurd hc_39 (by decide)
        exact lp_21 _ u1_ hu1_a hu1_b N2_ zFc.rf (show 0 ≤ u1_ by first | with_reducible assumption | assumption | omega) (show u1_ ≤ u1_ by first | with_reducible assumption | assumption | omega) (show zSj zkyK (zRw d_ 14 Mz) (zRw d_ 14 N2_) (ze Mz (d_ + 12) 6).toNat (u1_).toNat (u1_).toNat v6_ by exact hsj0_) (Nat.lt_succ_self _)
  exact lp_2 _ 1 (by decide) (by decide) Mz zFc.rf (show 1 ≤ (1 : Int) by first | with_reducible assumption | assumption | omega) (show zSoK zkyK (zRw d_ 14 Mz) (zRw d_ 14 Mz) (ze Mz (d_ + 12) 6).toNat ((1 : Int)).toNat by first | with_reducible assumption | assumption) (Nat.lt_succ_self _)
section ZKFI
variable {d : Nat} {T : zGT} {FA : List (Nat × Nat)} {CA : List Nat} {FR : List (Nat × Nat)} {CR : List Nat} {Mz Nz : zMem}
theorem zFir.fr (_ : zKW d Mz) (hf : zFc d FA CA FR CR Mz Nz) (h : zFir T d Mz) (hd : (12 < 38 ∧ 12 ∉ CR ∧ (12, 7) ∉ FR) ∧ 20 < 38 ∧ 20 ∉ CR ∧ ∀ x ∈ FR, x.1 ≠ 20) : zFir T d Nz :=
  ⟨(hf.e hd.1).trans h.1, fun i hi => (hf.r hd.2 i).trans (h.2 i hi)⟩
end ZKFI
set_option maxHeartbeats 4000000 in
theorem u_Sorts_markAt (l : Launch) (d_ : Nat) (Mz : zMem) (hW : zKW d_ Mz) (a0_ : Int) (ha0_a : -2147483648 ≤ a0_) (ha0_b : a0_ < 2147483648) (a1_ : Int) (ha1_a : -2147483648 ≤ a1_) (ha1_b : a1_ < 2147483648) (p0_ : 0 ≤ a0_) (p1_ : a0_ ≤ 26) (p2_ : 0 ≤ a1_) (p3_ : a1_ ≤ 26) : zC l m_Sorts_markAt 0 0 [.ref (d_ + 12), .int (Int32.ofInt a0_), .int (Int32.ofInt a1_)] Mz (zqcI d_ [] [] [] [] Mz (fun v N => v = ze Mz (d_ + 22) (a0_ * 27 + a1_).toNat)) := by
  refine zC_of (L0 := [some (.ref (d_ + 12)), some (.int (Int32.ofInt a0_)), some (.int (Int32.ofInt a1_))]) md_Sorts_markAt (Nat.le_of_ble_eq_true rfl) rfl ?_ zQ0
  have hf : zFc d_ [] [] [] [] Mz Mz := zFc.rf
  refine zw_aload_n (pc := 0) (n := 0) (x := (d_ + 12)) rfl (zdal_p dlA_Sorts_markAt_59 (i := 0) rfl) ?_
  refine zw_getF (pc := 1) f_Sorts_29 rfl ((hf.w hW).kr (o := 12) (by decide)) ((hf.w hW).lr (o := 12) (s := 5) (r := 21) (by decide)) (zdal_p dlA_Sorts_markAt_59 (i := 1) rfl) ?_
  refine zw_iload_n (pc := 4) (n := 1) (x := Int32.ofInt a0_) rfl (zdal_p dlA_Sorts_markAt_59 (i := 2) rfl) ?_
  refine zw_bipush (pc := 5) (v := Int32.ofInt 27) (by decide) (zdal_p dlA_Sorts_markAt_59 (i := 3) rfl) ?_
  refine zr_imul (pc := 7) (zdal_p dlA_Sorts_markAt_59 (i := 4) rfl) ?_
  refine zw_iload_n (pc := 8) (n := 2) (x := Int32.ofInt a1_) rfl (zdal_p dlA_Sorts_markAt_59 (i := 5) rfl) ?_
  refine zr_iadd (pc := 9) (zdal_p dlA_Sorts_markAt_59 (i := 6) rfl) ?_
  refine zk_at hf.x (pc := 10) l_Sorts_49 ((hf.w hW).kr (o := 21) (by decide)) ((hf.w hW).lr (o := 21) (s := 0) (r := 22) (by decide)) ((hf.w hW).rr (o := 22) (t := 1) (n := 729) (by decide)) (by decide) (by (exact zo_2198 p0_ p2_)) (by omega) (by decide) (Nat.le_of_ble_eq_true rfl) (zdal_p dlA_Sorts_markAt_59 (i := 7) rfl) (fun v1_ hv1_ hv1_a hv1_b => ?_)
  exact zk_iret (pc := 13) (ty := .int) rfl rfl ⟨by (exact hv1_a), by (exact hv1_b)⟩ hf (show v1_ = ze Mz (d_ + 22) (a0_ * 27 + a1_).toNat by first | with_reducible assumption | assumption | omega) (zdal_p dlA_Sorts_markAt_59 (i := 8) rfl)
set_option maxHeartbeats 4000000 in
theorem u_Sorts_countTurned (l : Launch) (d_ : Nat) (Mz : zMem) (hW : zKW d_ Mz) (a0_ : Int) (ha0_a : -2147483648 ≤ a0_) (ha0_b : a0_ < 2147483648) (a1_ : Int) (ha1_a : -2147483648 ≤ a1_) (ha1_b : a1_ < 2147483648) (T_ : zGT) (hT_ : T_ ∈ gTabs) (l_ : List Nat) (Kp_ : Nat) (hol_ : gOL T_ l_ Kp_ gKL) (g_ : Int) (p0_ : zFir T_ d_ Mz) (p1_ : 0 ≤ a1_) (p2_ : a1_ < (gF T_).length) (p3_ : 0 ≤ g_ ∧ g_ ≤ 24) (p4_ : a0_ = (gtr T_ (gFn T_ (a1_).toNat) (g_).toNat : Nat)) (p5_ : a0_ < 16777216) (p6_ : zFl2 T_ (zRw d_ 22 Mz) a1_ g_ 0) : zC l m_Sorts_countTurned 0 0 [.ref (d_ + 12), .int (Int32.ofInt a0_), .int (Int32.ofInt a1_)] Mz (zqcV d_ [] [] [] [22] Mz (fun N => zFl2 T_ (zRw d_ 22 N) a1_ (g_ + 1) 0)) := by
  refine zC_of (L0 := [some (.ref (d_ + 12)), some (.int (Int32.ofInt a0_)), some (.int (Int32.ofInt a1_)), none]) md_Sorts_countTurned (Nat.le_of_ble_eq_true rfl) rfl ?_ zQ0
  have hf : zFc d_ [] [] [] [22] Mz Mz := zFc.rf
  have r_D12_7 := ze_r Mz (d_ + 12) 7
  have hO_ := gTabs_ok T_ hT_
  have hG_ := hO_.1
  have hn24_ := hG_.2.1
  have hn1_ := hG_.1
  have h27_ := hol_.1.2
  have hfc_ := p0_.1
  refine zw_iconst (pc := 0) (v := Int32.ofInt 0) (by decide) (zdal_p dlA_Sorts_countTurned_56 (i := 0) rfl) ?_
  refine zw_istore_n (pc := 1) (i := 3) (L2 := [some (.ref (d_ + 12)), some (.int (Int32.ofInt a0_)), some (.int (Int32.ofInt a1_)), some (.int (Int32.ofInt 0))]) rfl (by decide) rfl (zdal_p dlA_Sorts_countTurned_56 (i := 1) rfl) ?_
  have lp_2 : ∀ (n : Nat) (u1_ : Int) (hu1_a : -2147483648 ≤ u1_) (hu1_b : u1_ < 2147483648) (N2_ : zMem) (hs3_ : zFc d_ [] [] [] [22] Mz N2_) (i4_ : 0 ≤ u1_) (i5_ : u1_ ≤ (gF T_).length) (i6_ : zFl2 T_ (zRw d_ 22 N2_) a1_ g_ u1_), ((gF T_).length - u1_).toNat < n → zW l m_Sorts_countTurned (zn Mz + 0, zw Mz + 0) N2_ 2 [some (.ref (d_ + 12)), some (.int (Int32.ofInt a0_)), some (.int (Int32.ofInt a1_)), some (.int (Int32.ofInt u1_))] [] (zqcV d_ [] [] [] [22] Mz (fun N => zFl2 T_ (zRw d_ 22 N) a1_ (g_ + 1) 0)) := by
    intro n
    induction n with
    | zero =>
      intro u1_ hu1_a hu1_b N2_ hs3_ i4_ i5_ i6_ h0
      exact absurd h0 (Nat.not_lt_zero _)
    | succ n ih_2 =>
      intro u1_ hu1_a hu1_b N2_ hs3_ i4_ i5_ i6_ hlt_2
      have hf_N2_ : zFc d_ [] [] [] [22] Mz N2_ := hf.tr hs3_ (by decide) (by decide) (by decide) (by decide)
      have eD12_7_N2_ : ze N2_ (d_ + 12) 7 = ze Mz (d_ + 12) 7 := hs3_.e (by decide)
      have c7_ : zFir T_ d_ N2_ := zFir.fr (hf.w hW) hs3_ p0_ (by decide)
      have hfl_ := (show zFl2 T_ (zRw d_ 22 N2_) a1_ g_ u1_ by first | with_reducible assumption | assumption)
      refine zw_iload_n (pc := 2) (n := 3) (x := Int32.ofInt u1_) rfl (zdal_p dlA_Sorts_countTurned_56 (i := 2) rfl) ?_
      refine zw_aload_n (pc := 3) (n := 0) (x := (d_ + 12)) rfl (zdal_p dlA_Sorts_countTurned_56 (i := 3) rfl) ?_
      refine zk_getI (pc := 4) f_Sorts_83 rfl ((hf_N2_.w hW).kr (o := 12) (by decide)) (zdal_p dlA_Sorts_countTurned_56 (i := 4) rfl) ?_
      rw [hf_N2_.e (by decide)]
      refine zr_icmp_ge (pc := 7) (tgt := 52) ⟨hu1_a, hu1_b⟩ ⟨(ze_r Mz (d_ + 12) 7).1, (ze_r Mz (d_ + 12) 7).2⟩ (by decide) (zdal_p dlA_Sorts_countTurned_56 (i := 5) rfl) (fun hc_7 => ?_) (fun hc_7 => ?_)
      · skip
        exact zk_vret (pc := 52) rfl hf_N2_ (show zFl2 T_ (zRw d_ 22 N2_) a1_ (g_ + 1) 0 by exact zFl2_r hfl_ p3_.1 (by (exact zo_2385 h27_ hc_7 hfc_ i4_))) (zdal_p dlA_Sorts_countTurned_57 (i := 5) rfl)
      · skip
        refine zw_iload_n (pc := 10) (n := 1) (x := Int32.ofInt a0_) rfl (zdal_p dlA_Sorts_countTurned_56 (i := 6) rfl) ?_
        refine zw_aload_n (pc := 11) (n := 0) (x := (d_ + 12)) rfl (zdal_p dlA_Sorts_countTurned_56 (i := 7) rfl) ?_
        refine zw_getF (pc := 12) f_Sorts_26 rfl ((hf_N2_.w hW).kr (o := 12) (by decide)) ((hf_N2_.w hW).lr (o := 12) (s := 4) (r := 19) (by decide)) (zdal_p dlA_Sorts_countTurned_56 (i := 8) rfl) ?_
        refine zw_iload_n (pc := 15) (n := 3) (x := Int32.ofInt u1_) rfl (zdal_p dlA_Sorts_countTurned_56 (i := 9) rfl) ?_
        refine zk_at hf_N2_.x (pc := 16) l_Sorts_49 ((hf_N2_.w hW).kr (o := 19) (by decide)) ((hf_N2_.w hW).lr (o := 19) (s := 0) (r := 20) (by decide)) ((hf_N2_.w hW).rr (o := 20) (t := 1) (n := 27) (by decide)) (by decide) (by (exact i4_)) (by omega) (by decide) (Nat.le_of_ble_eq_true rfl) (zdal_p dlA_Sorts_countTurned_56 (i := 10) rfl) (fun v8_ hv8_ hv8_a hv8_b => ?_)
        rw [hf_N2_.r (by decide)] at hv8_
        have hv1_ := hv8_
        have hv2_ : v8_ = ((gFn T_ (u1_).toNat : Nat) : Int) := hv1_.trans (p0_.2 _ (by (exact zo_2387 hc_7 hfc_ hu1_b i4_ i5_)))
        have hb_ := gS_b hO_ (hO_.2.2.1.2.1 _ (gFn_m (T := T_) (i := (u1_).toNat) (by (exact zo_2387 hc_7 hfc_ hu1_b i4_ i5_)))).1
        refine zr_callS hf_N2_.x (pc := 19) [.int (Int32.ofInt a0_), .int (Int32.ofInt v8_)] [] l_Sorts_96 (u_T_isPart l d_ N2_ (hf_N2_.w hW) a0_ ha0_a ha0_b v8_ hv8_a hv8_b (show 0 ≤ a0_ by first | with_reducible assumption | (exact zo_2360 ha0_a p4_) | assumption) (show a0_ < 2147483648 by first | with_reducible assumption | assumption | omega) (show 0 ≤ v8_ by first | with_reducible assumption | (exact zo_2336 hv2_ hv8_a) | assumption) (show v8_ < 2147483648 by first | with_reducible assumption | assumption | omega)) rfl rfl (by decide) (Nat.le_of_ble_eq_true rfl) (zdal_p dlA_Sorts_countTurned_56 (i := 11) rfl) ?_
        rintro _ N9_ ⟨v10_, rfl, ⟨hv10_a, hv10_b⟩, hsN9_, hp0_N9_⟩
        obtain rfl := hsN9_.eq.symm
        replace hp0_N9_ : ((v10_ = 1 ∧ (a0_).toNat &&& (v8_).toNat = (a0_).toNat) ∨ (v10_ = 0 ∧ ¬ (a0_).toNat &&& (v8_).toNat = (a0_).toNat)) := hp0_N9_
        rcases hp0_N9_ with ⟨rfl, ha19_0_hp0_N9_⟩ | ⟨rfl, ha19_0_hp0_N9_⟩
        · skip
          have hp_ := ha19_0_hp0_N9_
          rw [hv2_, p4_, Int.toNat_natCast, Int.toNat_natCast] at hp_
          show zW l m_Sorts_countTurned (zn Mz + 0, zw Mz + 0) N2_ 22 [some (.ref (d_ + 12)), some (.int (Int32.ofInt a0_)), some (.int (Int32.ofInt a1_)), some (.int (Int32.ofInt u1_))] [.int (Int32.ofInt 1)] _
          refine zr_if_eq (pc := 22) (tgt := 46) ⟨(by decide), (by decide)⟩ (by decide) (zdal_p dlA_Sorts_countTurned_56 (i := 12) rfl) (fun hc_22 => ?_) (fun hc_22 => ?_)
          · skip
            exact absurd hc_22 (by decide)
          · skip
            refine zw_aload_n (pc := 25) (n := 0) (x := (d_ + 12)) rfl (zdal_p dlA_Sorts_countTurned_56 (i := 13) rfl) ?_
            refine zw_getF (pc := 26) f_Sorts_29 rfl ((hf_N2_.w hW).kr (o := 12) (by decide)) ((hf_N2_.w hW).lr (o := 12) (s := 5) (r := 21) (by decide)) (zdal_p dlA_Sorts_countTurned_56 (i := 14) rfl) ?_
            refine zw_iload_n (pc := 29) (n := 3) (x := Int32.ofInt u1_) rfl (zdal_p dlA_Sorts_countTurned_56 (i := 15) rfl) ?_
            refine zw_bipush (pc := 30) (v := Int32.ofInt 27) (by decide) (zdal_p dlA_Sorts_countTurned_56 (i := 16) rfl) ?_
            refine zr_imul (pc := 32) (zdal_p dlA_Sorts_countTurned_56 (i := 17) rfl) ?_
            refine zw_iload_n (pc := 33) (n := 2) (x := Int32.ofInt a1_) rfl (zdal_p dlA_Sorts_countTurned_56 (i := 18) rfl) ?_
            refine zr_iadd (pc := 34) (zdal_p dlA_Sorts_countTurned_56 (i := 19) rfl) ?_
            refine zw_aload_n (pc := 35) (n := 0) (x := (d_ + 12)) rfl (zdal_p dlA_Sorts_countTurned_56 (i := 20) rfl) ?_
            refine zw_iload_n (pc := 36) (n := 3) (x := Int32.ofInt u1_) rfl (zdal_p dlA_Sorts_countTurned_56 (i := 21) rfl) ?_
            refine zw_iload_n (pc := 37) (n := 2) (x := Int32.ofInt a1_) rfl (zdal_p dlA_Sorts_countTurned_56 (i := 22) rfl) ?_
            refine zk_callV hf_N2_.x (pc := 38) [.int (Int32.ofInt u1_), .int (Int32.ofInt a1_)] [.int (Int32.ofInt ((u1_ * 27) + a1_)), .ref (d_ + 21)] l_Sorts_93 (u_Sorts_markAt l d_ N2_ (hf_N2_.w hW) u1_ hu1_a hu1_b a1_ ha1_a ha1_b (show 0 ≤ u1_ by first | with_reducible assumption | assumption | omega) (show u1_ ≤ 26 by first | with_reducible assumption | assumption | omega) (show 0 ≤ a1_ by first | with_reducible assumption | assumption | omega) (show a1_ ≤ 26 by first | with_reducible assumption | assumption | omega)) rfl rfl ((hf_N2_.w hW).kr (o := 12) (by decide)) (by decide) (by decide) (Nat.le_of_ble_eq_true rfl) (zdal_p dlA_Sorts_countTurned_56 (i := 23) rfl) ?_
            rintro _ N11_ ⟨v12_, rfl, ⟨hv12_a, hv12_b⟩, hsN11_, hp0_N11_⟩
            obtain rfl := hsN11_.eq.symm
            replace hp0_N11_ : v12_ = ze N2_ (d_ + 22) (u1_ * 27 + a1_).toNat := hp0_N11_
            show zW l m_Sorts_countTurned (zn Mz + 0, zw Mz + 0) N2_ 41 [some (.ref (d_ + 12)), some (.int (Int32.ofInt a0_)), some (.int (Int32.ofInt a1_)), some (.int (Int32.ofInt u1_))] [.int (Int32.ofInt v12_), .int (Int32.ofInt ((u1_ * 27) + a1_)), .ref (d_ + 21)] _
            have hm_ := hp0_N11_
            have hq_ := hfl_.2 (u1_).toNat (by (exact zo_2387 hc_7 hfc_ hu1_b i4_ i5_))
            rw [if_neg (by omega)] at hq_
            have hqb_ := gct_b T_ (gFn T_ (u1_).toNat) (gFn T_ (a1_).toNat) (g_).toNat
            rw [show 27 * (u1_).toNat + (a1_).toNat = (u1_ * 27 + a1_).toNat by omega] at hq_
            have hmb_ : v12_ ≤ 24 := by have e_ : v12_ = zRw d_ 22 N2_ (u1_ * 27 + a1_).toNat := hm_; omega
            refine zw_iconst (pc := 41) (v := Int32.ofInt 1) (by decide) (zdal_p dlA_Sorts_countTurned_57 (i := 0) rfl) ?_
            refine zr_iadd (pc := 42) (zdal_p dlA_Sorts_countTurned_57 (i := 1) rfl) ?_
            refine zk_st hf_N2_.x (pc := 43) (o := 22) (by decide) l_Sorts_40 ((hf_N2_.w hW).kr (o := 21) (by decide)) ((hf_N2_.w hW).lr (o := 21) (s := 0) (r := 22) (by decide)) ((hf_N2_.w hW).rr (o := 22) (t := 1) (n := 729) (by decide)) (by decide) (by (exact zo_2198 i4_ p1_)) (by omega) (by decide) (Nat.le_of_ble_eq_true rfl) (zdal_p dlA_Sorts_countTurned_57 (i := 2) rfl) (fun N13_ hN13_ hsN13_ => ?_)
            have hf_N13_ : zFc d_ [] [] [] [22] Mz N13_ := hf_N2_.tr hsN13_ (by decide) (by decide) (by decide) (by decide)
            have hb0_N13_ : zFc d_ [] [] [] [22] Mz N13_ := hs3_.tr hsN13_ (by decide) (by decide) (by decide) (by decide)
            have eD12_7_N13_ : ze N13_ (d_ + 12) 7 = ze N2_ (d_ + 12) 7 := hsN13_.e (by decide)
            have c14_ : zFir T_ d_ N13_ := zFir.fr (hf_N2_.w hW) hsN13_ c7_ (by decide)
            have hfn_ := zFl2_s h27_ hfl_ (by omega) (by omega) p3_.1 hp_ (show _ = zRw d_ 22 N2_ _ from hm_) (zRw_w hN13_ ⟨by (exact zo_679 hv12_a), by omega⟩)
            refine zr_iinc (pc := 46) (i := 3) (a := u1_) (n := 1) (L2 := [some (.ref (d_ + 12)), some (.int (Int32.ofInt a0_)), some (.int (Int32.ofInt a1_)), some (.int (Int32.ofInt (u1_ + 1)))]) rfl (by decide) rfl (zdal_p dlA_Sorts_countTurned_57 (i := 3) rfl) ?_
            refine zw_goto (pc := 49) (tgt := 2) (by decide) (zdal_p dlA_Sorts_countTurned_57 (i := 4) rfl) ?_
            exact ih_2 (u1_ + 1) (by (exact zo_74 i4_)) (by (exact zo_75 h27_ hu1_b i5_)) N13_ hb0_N13_ (show 0 ≤ (u1_ + 1) by first | with_reducible assumption | (exact zo_76 i4_) | assumption) (show (u1_ + 1) ≤ (gF T_).length by first | with_reducible assumption | (exact zo_1122 hc_7 hfc_ hu1_b i5_) | assumption) (show zFl2 T_ (zRw d_ 22 N13_) a1_ g_ (u1_ + 1) by exact hfn_) (by omega)
        · skip
          have hp_ := ha19_0_hp0_N9_
          rw [hv2_, p4_, Int.toNat_natCast, Int.toNat_natCast] at hp_
          have hfn_ := zFl2_n hfl_ (by omega) p3_.1 hp_
          show zW l m_Sorts_countTurned (zn Mz + 0, zw Mz + 0) N2_ 22 [some (.ref (d_ + 12)), some (.int (Int32.ofInt a0_)), some (.int (Int32.ofInt a1_)), some (.int (Int32.ofInt u1_))] [.int (Int32.ofInt 0)] _
          refine zr_if_eq (pc := 22) (tgt := 46) ⟨(by decide), (by decide)⟩ (by decide) (zdal_p dlA_Sorts_countTurned_56 (i := 12) rfl) (fun hc_22 => ?_) (fun hc_22 => ?_)
          · skip
            refine zr_iinc (pc := 46) (i := 3) (a := u1_) (n := 1) (L2 := [some (.ref (d_ + 12)), some (.int (Int32.ofInt a0_)), some (.int (Int32.ofInt a1_)), some (.int (Int32.ofInt (u1_ + 1)))]) rfl (by decide) rfl (zdal_p dlA_Sorts_countTurned_57 (i := 3) rfl) ?_
            refine zw_goto (pc := 49) (tgt := 2) (by decide) (zdal_p dlA_Sorts_countTurned_57 (i := 4) rfl) ?_
            exact ih_2 (u1_ + 1) (by (exact zo_74 i4_)) (by (exact zo_75 h27_ hu1_b i5_)) N2_ hs3_ (show 0 ≤ (u1_ + 1) by first | with_reducible assumption | (exact zo_76 i4_) | assumption) (show (u1_ + 1) ≤ (gF T_).length by first | with_reducible assumption | (exact zo_1122 hc_7 hfc_ hu1_b i5_) | assumption) (show zFl2 T_ (zRw d_ 22 N2_) a1_ g_ (u1_ + 1) by exact hfn_) (by omega)
          · skip
            exact absurd hc_22 (by decide)
  exact lp_2 _ 0 (by decide) (by decide) Mz zFc.rf (show 0 ≤ (0 : Int) by first | with_reducible assumption | (decide) | assumption) (show (0 : Int) ≤ (gF T_).length by first | with_reducible assumption | (exact zo_85) | assumption) (show zFl2 T_ (zRw d_ 22 Mz) a1_ g_ (0 : Int) by first | with_reducible assumption | assumption) (Nat.lt_succ_self _)
set_option maxHeartbeats 4000000 in
theorem u_Sorts_fillTable (l : Launch) (d_ : Nat) (Mz : zMem) (hW : zKW d_ Mz) (T_ : zGT) (hT_ : T_ ∈ gTabs) (l_ : List Nat) (Kp_ : Nat) (hol_ : gOL T_ l_ Kp_ gKL) (p0_ : zTt T_ d_ Mz) (p1_ : zFir T_ d_ Mz) : zC l m_Sorts_fillTable 0 0 [.ref (d_ + 12)] Mz (zqcV d_ [] [] [] [22] Mz (fun N => zKm (gF T_).length (gmkI T_) d_ N)) := by
  refine zC_of (L0 := [some (.ref (d_ + 12)), none, none, none]) md_Sorts_fillTable (Nat.le_of_ble_eq_true rfl) rfl ?_ zQ0
  have hf : zFc d_ [] [] [] [22] Mz Mz := zFc.rf
  have r_D1_7 := ze_r Mz (d_ + 1) 7
  have r_D12_7 := ze_r Mz (d_ + 12) 7
  have hO_ := gTabs_ok T_ hT_
  have hG_ := hO_.1
  have hn24_ := hG_.2.1
  have hn1_ := hG_.1
  have h27_ := hol_.1.2
  have hfc_ := p1_.1
  have hsz_ := p0_.1
  refine zw_iconst (pc := 0) (v := Int32.ofInt 0) (by decide) (zdal_p dlA_Sorts_fillTable_52 (i := 0) rfl) ?_
  refine zw_istore_n (pc := 1) (i := 1) (L2 := [some (.ref (d_ + 12)), some (.int (Int32.ofInt 0)), none, none]) rfl (by decide) rfl (zdal_p dlA_Sorts_fillTable_52 (i := 1) rfl) ?_
  have lp_2 : ∀ (n : Nat) (u1_ : Int) (hu1_a : -2147483648 ≤ u1_) (hu1_b : u1_ < 2147483648) (N2_ : zMem) (hs3_ : zFc d_ [] [] [] [22] Mz N2_) (i4_ : 0 ≤ u1_) (i5_ : zFlA T_ (zRw d_ 22 N2_) u1_), ((gF T_).length - u1_).toNat < n → zW l m_Sorts_fillTable (zn Mz + 0, zw Mz + 0) N2_ 2 [some (.ref (d_ + 12)), some (.int (Int32.ofInt u1_)), none, none] [] (zqcV d_ [] [] [] [22] Mz (fun N => zKm (gF T_).length (gmkI T_) d_ N)) := by
    intro n
    induction n with
    | zero =>
      intro u1_ hu1_a hu1_b N2_ hs3_ i4_ i5_ h0
      exact absurd h0 (Nat.not_lt_zero _)
    | succ n ih_2 =>
      intro u1_ hu1_a hu1_b N2_ hs3_ i4_ i5_ hlt_2
      have hf_N2_ : zFc d_ [] [] [] [22] Mz N2_ := hf.tr hs3_ (by decide) (by decide) (by decide) (by decide)
      have eD1_7_N2_ : ze N2_ (d_ + 1) 7 = ze Mz (d_ + 1) 7 := hs3_.e (by decide)
      have eD12_7_N2_ : ze N2_ (d_ + 12) 7 = ze Mz (d_ + 12) 7 := hs3_.e (by decide)
      have c6_ : zTt T_ d_ N2_ := zTt.fr (hf.w hW) hs3_ p0_ (by decide)
      have c7_ : zFir T_ d_ N2_ := zFir.fr (hf.w hW) hs3_ p1_ (by decide)
      have hfa_ := (show zFlA T_ (zRw d_ 22 N2_) u1_ by first | with_reducible assumption | assumption)
      refine zw_iload_n (pc := 2) (n := 1) (x := Int32.ofInt u1_) rfl (zdal_p dlA_Sorts_fillTable_52 (i := 2) rfl) ?_
      refine zw_aload_n (pc := 3) (n := 0) (x := (d_ + 12)) rfl (zdal_p dlA_Sorts_fillTable_52 (i := 3) rfl) ?_
      refine zk_getI (pc := 4) f_Sorts_83 rfl ((hf_N2_.w hW).kr (o := 12) (by decide)) (zdal_p dlA_Sorts_fillTable_52 (i := 4) rfl) ?_
      rw [hf_N2_.e (by decide)]
      refine zr_icmp_ge (pc := 7) (tgt := 143) ⟨hu1_a, hu1_b⟩ ⟨(ze_r Mz (d_ + 12) 7).1, (ze_r Mz (d_ + 12) 7).2⟩ (by decide) (zdal_p dlA_Sorts_fillTable_52 (i := 5) rfl) (fun hc_7 => ?_) (fun hc_7 => ?_)
      · skip
        exact zk_vret (pc := 143) rfl hf_N2_ (show zKm (gF T_).length (gmkI T_) d_ N2_ by exact ⟨by omega, fun i j hi hj => hfa_ i j hi hj (by omega)⟩) (zdal_p dlA_Sorts_fillTable_55 (i := 5) rfl)
      · skip
        refine zw_iconst (pc := 10) (v := Int32.ofInt 0) (by decide) (zdal_p dlA_Sorts_fillTable_52 (i := 6) rfl) ?_
        refine zw_istore_n (pc := 11) (i := 2) (L2 := [some (.ref (d_ + 12)), some (.int (Int32.ofInt u1_)), some (.int (Int32.ofInt 0)), none]) rfl (by decide) rfl (zdal_p dlA_Sorts_fillTable_52 (i := 7) rfl) ?_
        have lp_12 : ∀ (n : Nat) (u8_ : Int) (hu8_a : -2147483648 ≤ u8_) (hu8_b : u8_ < 2147483648) (N9_ : zMem) (hs10_ : zFc d_ [] [] [] [22] N2_ N9_) (i11_ : 0 ≤ u8_) (i12_ : zFl0 T_ (zRw d_ 22 N9_) u1_ u8_), ((gF T_).length - u8_).toNat < n → zW l m_Sorts_fillTable (zn Mz + 0, zw Mz + 0) N9_ 12 [some (.ref (d_ + 12)), some (.int (Int32.ofInt u1_)), some (.int (Int32.ofInt u8_)), none] [] (zqcV d_ [] [] [] [22] Mz (fun N => zKm (gF T_).length (gmkI T_) d_ N)) := by
          intro n
          induction n with
          | zero =>
            intro u8_ hu8_a hu8_b N9_ hs10_ i11_ i12_ h0
            exact absurd h0 (Nat.not_lt_zero _)
          | succ n ih_12 =>
            intro u8_ hu8_a hu8_b N9_ hs10_ i11_ i12_ hlt_12
            have hf_N9_ : zFc d_ [] [] [] [22] Mz N9_ := hf_N2_.tr hs10_ (by decide) (by decide) (by decide) (by decide)
            have hb0_N9_ : zFc d_ [] [] [] [22] Mz N9_ := hs3_.tr hs10_ (by decide) (by decide) (by decide) (by decide)
            have eD1_7_N9_ : ze N9_ (d_ + 1) 7 = ze N2_ (d_ + 1) 7 := hs10_.e (by decide)
            have eD12_7_N9_ : ze N9_ (d_ + 12) 7 = ze N2_ (d_ + 12) 7 := hs10_.e (by decide)
            have c13_ : zTt T_ d_ N9_ := zTt.fr (hf_N2_.w hW) hs10_ c6_ (by decide)
            have c14_ : zFir T_ d_ N9_ := zFir.fr (hf_N2_.w hW) hs10_ c7_ (by decide)
            have hf0_ := (show zFl0 T_ (zRw d_ 22 N9_) u1_ u8_ by first | with_reducible assumption | assumption)
            refine zw_iload_n (pc := 12) (n := 2) (x := Int32.ofInt u8_) rfl (zdal_p dlA_Sorts_fillTable_52 (i := 8) rfl) ?_
            refine zw_aload_n (pc := 13) (n := 0) (x := (d_ + 12)) rfl (zdal_p dlA_Sorts_fillTable_52 (i := 9) rfl) ?_
            refine zk_getI (pc := 14) f_Sorts_83 rfl ((hf_N9_.w hW).kr (o := 12) (by decide)) (zdal_p dlA_Sorts_fillTable_52 (i := 10) rfl) ?_
            rw [hf_N9_.e (by decide)]
            refine zr_icmp_ge (pc := 17) (tgt := 40) ⟨hu8_a, hu8_b⟩ ⟨(ze_r Mz (d_ + 12) 7).1, (ze_r Mz (d_ + 12) 7).2⟩ (by decide) (zdal_p dlA_Sorts_fillTable_52 (i := 11) rfl) (fun hc_17 => ?_) (fun hc_17 => ?_)
            · skip
              refine zw_iconst (pc := 40) (v := Int32.ofInt 0) (by decide) (zdal_p dlA_Sorts_fillTable_52 (i := 23) rfl) ?_
              refine zw_istore_n (pc := 41) (i := 2) (L2 := [some (.ref (d_ + 12)), some (.int (Int32.ofInt u1_)), some (.int (Int32.ofInt 0)), none]) rfl (by decide) rfl (zdal_p dlA_Sorts_fillTable_53 (i := 0) rfl) ?_
              have lp_42 : ∀ (n : Nat) (u15_ : Int) (hu15_a : -2147483648 ≤ u15_) (hu15_b : u15_ < 2147483648) (N16_ : zMem) (hs17_ : zFc d_ [] [] [] [22] N9_ N16_) (i18_ : 0 ≤ u15_) (i19_ : u15_ ≤ gN T_) (i20_ : zFl2 T_ (zRw d_ 22 N16_) u1_ u15_ 0), (gN T_ - u15_).toNat < n → zW l m_Sorts_fillTable (zn Mz + 0, zw Mz + 0) N16_ 42 [some (.ref (d_ + 12)), some (.int (Int32.ofInt u1_)), some (.int (Int32.ofInt u15_)), none] [] (zqcV d_ [] [] [] [22] Mz (fun N => zKm (gF T_).length (gmkI T_) d_ N)) := by
                intro n
                induction n with
                | zero =>
                  intro u15_ hu15_a hu15_b N16_ hs17_ i18_ i19_ i20_ h0
                  exact absurd h0 (Nat.not_lt_zero _)
                | succ n ih_42 =>
                  intro u15_ hu15_a hu15_b N16_ hs17_ i18_ i19_ i20_ hlt_42
                  have hf_N16_ : zFc d_ [] [] [] [22] Mz N16_ := hf_N9_.tr hs17_ (by decide) (by decide) (by decide) (by decide)
                  have hb0_N16_ : zFc d_ [] [] [] [22] Mz N16_ := hb0_N9_.tr hs17_ (by decide) (by decide) (by decide) (by decide)
                  have eD1_7_N16_ : ze N16_ (d_ + 1) 7 = ze N9_ (d_ + 1) 7 := hs17_.e (by decide)
                  have eD12_7_N16_ : ze N16_ (d_ + 12) 7 = ze N9_ (d_ + 12) 7 := hs17_.e (by decide)
                  have c21_ : zTt T_ d_ N16_ := zTt.fr (hf_N9_.w hW) hs17_ c13_ (by decide)
                  have c22_ : zFir T_ d_ N16_ := zFir.fr (hf_N9_.w hW) hs17_ c14_ (by decide)
                  have hf2_ := (show zFl2 T_ (zRw d_ 22 N16_) u1_ u15_ 0 by first | with_reducible assumption | assumption)
                  refine zw_iload_n (pc := 42) (n := 2) (x := Int32.ofInt u15_) rfl (zdal_p dlA_Sorts_fillTable_53 (i := 1) rfl) ?_
                  refine zw_aload_n (pc := 43) (n := 0) (x := (d_ + 12)) rfl (zdal_p dlA_Sorts_fillTable_53 (i := 2) rfl) ?_
                  refine zw_getF (pc := 44) f_Sorts_32 rfl ((hf_N16_.w hW).kr (o := 12) (by decide)) ((hf_N16_.w hW).lr (o := 12) (s := 0) (r := 1) (by decide)) (zdal_p dlA_Sorts_fillTable_53 (i := 3) rfl) ?_
                  refine zk_getI (pc := 47) f_Sorts_44 rfl ((hf_N16_.w hW).kr (o := 1) (by decide)) (zdal_p dlA_Sorts_fillTable_53 (i := 4) rfl) ?_
                  rw [hf_N16_.e (by decide)]
                  refine zr_icmp_ge (pc := 50) (tgt := 80) ⟨hu15_a, hu15_b⟩ ⟨(ze_r Mz (d_ + 1) 7).1, (ze_r Mz (d_ + 1) 7).2⟩ (by decide) (zdal_p dlA_Sorts_fillTable_53 (i := 5) rfl) (fun hc_50 => ?_) (fun hc_50 => ?_)
                  · skip
                    refine zw_iconst (pc := 80) (v := Int32.ofInt 0) (by decide) (zdal_p dlA_Sorts_fillTable_53 (i := 19) rfl) ?_
                    refine zw_istore_n (pc := 81) (i := 2) (L2 := [some (.ref (d_ + 12)), some (.int (Int32.ofInt u1_)), some (.int (Int32.ofInt 0)), none]) rfl (by decide) rfl (zdal_p dlA_Sorts_fillTable_53 (i := 20) rfl) ?_
                    have lp_82 : ∀ (n : Nat) (u23_ : Int) (hu23_a : -2147483648 ≤ u23_) (hu23_b : u23_ < 2147483648) (N24_ : zMem) (hs25_ : zFc d_ [] [] [] [22] N16_ N24_) (i26_ : 0 ≤ u23_) (i27_ : zFl9 T_ (zRw d_ 22 N24_) u1_ u23_), ((gF T_).length - u23_).toNat < n → zW l m_Sorts_fillTable (zn Mz + 0, zw Mz + 0) N24_ 82 [some (.ref (d_ + 12)), some (.int (Int32.ofInt u1_)), some (.int (Int32.ofInt u23_)), none] [] (zqcV d_ [] [] [] [22] Mz (fun N => zKm (gF T_).length (gmkI T_) d_ N)) := by
                      intro n
                      induction n with
                      | zero =>
                        intro u23_ hu23_a hu23_b N24_ hs25_ i26_ i27_ h0
                        exact absurd h0 (Nat.not_lt_zero _)
                      | succ n ih_82 =>
                        intro u23_ hu23_a hu23_b N24_ hs25_ i26_ i27_ hlt_82
                        have hf_N24_ : zFc d_ [] [] [] [22] Mz N24_ := hf_N16_.tr hs25_ (by decide) (by decide) (by decide) (by decide)
                        have hb0_N24_ : zFc d_ [] [] [] [22] Mz N24_ := hb0_N16_.tr hs25_ (by decide) (by decide) (by decide) (by decide)
                        have eD1_7_N24_ : ze N24_ (d_ + 1) 7 = ze N16_ (d_ + 1) 7 := hs25_.e (by decide)
                        have eD12_7_N24_ : ze N24_ (d_ + 12) 7 = ze N16_ (d_ + 12) 7 := hs25_.e (by decide)
                        have c28_ : zTt T_ d_ N24_ := zTt.fr (hf_N16_.w hW) hs25_ c21_ (by decide)
                        have c29_ : zFir T_ d_ N24_ := zFir.fr (hf_N16_.w hW) hs25_ c22_ (by decide)
                        have hf9_ := (show zFl9 T_ (zRw d_ 22 N24_) u1_ u23_ by first | with_reducible assumption | assumption)
                        refine zw_iload_n (pc := 82) (n := 2) (x := Int32.ofInt u23_) rfl (zdal_p dlA_Sorts_fillTable_53 (i := 21) rfl) ?_
                        refine zw_aload_n (pc := 83) (n := 0) (x := (d_ + 12)) rfl (zdal_p dlA_Sorts_fillTable_53 (i := 22) rfl) ?_
                        refine zk_getI (pc := 84) f_Sorts_83 rfl ((hf_N24_.w hW).kr (o := 12) (by decide)) (zdal_p dlA_Sorts_fillTable_53 (i := 23) rfl) ?_
                        rw [hf_N24_.e (by decide)]
                        refine zr_icmp_ge (pc := 87) (tgt := 137) ⟨hu23_a, hu23_b⟩ ⟨(ze_r Mz (d_ + 12) 7).1, (ze_r Mz (d_ + 12) 7).2⟩ (by decide) (zdal_p dlA_Sorts_fillTable_54 (i := 0) rfl) (fun hc_87 => ?_) (fun hc_87 => ?_)
                        · skip
                          refine zr_iinc (pc := 137) (i := 1) (a := u1_) (n := 1) (L2 := [some (.ref (d_ + 12)), some (.int (Int32.ofInt (u1_ + 1))), some (.int (Int32.ofInt u23_)), none]) rfl (by decide) rfl (zdal_p dlA_Sorts_fillTable_55 (i := 3) rfl) ?_
                          refine zw_goto (pc := 140) (tgt := 2) (by decide) (zdal_p dlA_Sorts_fillTable_55 (i := 4) rfl) ?_
                          refine zW_le [some (.ref (d_ + 12)), some (.int (Int32.ofInt (u1_ + 1))), none, none] (⟨rfl, rfl, trivial⟩) ?_
                          exact ih_2 (u1_ + 1) (by (exact zo_74 i4_)) (by (exact zo_2400 h27_ hc_7 hfc_ hu1_b)) N24_ hb0_N24_ (show 0 ≤ (u1_ + 1) by first | with_reducible assumption | (exact zo_76 i4_) | assumption) (show zFlA T_ (zRw d_ 22 N24_) (u1_ + 1) by exact zFl9_e hf9_ (by (exact zo_2385 h27_ hc_87 hfc_ i26_))) (by (exact zo_2401 hc_7 hfc_ hlt_2 hu1_b))
                        · skip
                          refine zw_aload_n (pc := 90) (n := 0) (x := (d_ + 12)) rfl (zdal_p dlA_Sorts_fillTable_54 (i := 1) rfl) ?_
                          refine zw_getF (pc := 91) f_Sorts_26 rfl ((hf_N24_.w hW).kr (o := 12) (by decide)) ((hf_N24_.w hW).lr (o := 12) (s := 4) (r := 19) (by decide)) (zdal_p dlA_Sorts_fillTable_54 (i := 2) rfl) ?_
                          refine zw_iload_n (pc := 94) (n := 2) (x := Int32.ofInt u23_) rfl (zdal_p dlA_Sorts_fillTable_54 (i := 3) rfl) ?_
                          refine zk_at hf_N24_.x (pc := 95) l_Sorts_49 ((hf_N24_.w hW).kr (o := 19) (by decide)) ((hf_N24_.w hW).lr (o := 19) (s := 0) (r := 20) (by decide)) ((hf_N24_.w hW).rr (o := 20) (t := 1) (n := 27) (by decide)) (by decide) (by (exact i26_)) (by omega) (by decide) (Nat.le_of_ble_eq_true rfl) (zdal_p dlA_Sorts_fillTable_54 (i := 4) rfl) (fun v30_ hv30_ hv30_a hv30_b => ?_)
                          rw [hf_N24_.r (by decide)] at hv30_
                          have hv3_ := hv30_
                          have hv4_ : v30_ = ((gFn T_ (u23_).toNat : Nat) : Int) := hv3_.trans (p1_.2 _ (by (exact zo_1414 hc_87 hfc_ hu23_b i26_)))
                          have hgm_ := (hO_.2.2.1.2.1 _ (gFn_m (T := T_) (i := (u23_).toNat) (by (exact zo_1414 hc_87 hfc_ hu23_b i26_)))).1
                          have hc_ := gS_b hO_ hgm_
                          have hcp_ := gcb_p hc_.2.2 hc_.2.1
                          have hkb_ := hol_.2.2.2.2.2.2.2.2.2 _ hgm_
                          refine zr_callS hf_N24_.x (pc := 98) [.int (Int32.ofInt v30_)] [] l_Sorts_78 (u_Integer_bitCount l d_ N24_ (hf_N24_.w hW) v30_ hv30_a hv30_b (show 0 ≤ v30_ by first | with_reducible assumption | (exact zo_2360 hv30_a hv4_) | assumption)) rfl rfl (by decide) (Nat.le_of_ble_eq_true rfl) (zdal_p dlA_Sorts_fillTable_54 (i := 5) rfl) ?_
                          rintro _ N31_ ⟨v32_, rfl, ⟨hv32_a, hv32_b⟩, hsN31_, ⟨hp0_N31_, hp1_N31_, hp2_N31_⟩⟩
                          obtain rfl := hsN31_.eq.symm
                          show zW l m_Sorts_fillTable (zn Mz + 0, zw Mz + 0) N24_ 101 [some (.ref (d_ + 12)), some (.int (Int32.ofInt u1_)), some (.int (Int32.ofInt u23_)), none] [.int (Int32.ofInt v32_)] _
                          have he_ := hp0_N31_
                          rw [hv4_, Int.toNat_natCast, hkb_] at he_
                          refine zw_istore_n (pc := 101) (i := 3) (L2 := [some (.ref (d_ + 12)), some (.int (Int32.ofInt u1_)), some (.int (Int32.ofInt u23_)), some (.int (Int32.ofInt v32_))]) rfl (by decide) rfl (zdal_p dlA_Sorts_fillTable_54 (i := 6) rfl) ?_
                          refine zw_aload_n (pc := 102) (n := 0) (x := (d_ + 12)) rfl (zdal_p dlA_Sorts_fillTable_54 (i := 7) rfl) ?_
                          refine zw_getF (pc := 103) f_Sorts_29 rfl ((hf_N24_.w hW).kr (o := 12) (by decide)) ((hf_N24_.w hW).lr (o := 12) (s := 5) (r := 21) (by decide)) (zdal_p dlA_Sorts_fillTable_54 (i := 8) rfl) ?_
                          refine zw_iload_n (pc := 106) (n := 2) (x := Int32.ofInt u23_) rfl (zdal_p dlA_Sorts_fillTable_54 (i := 9) rfl) ?_
                          refine zw_bipush (pc := 107) (v := Int32.ofInt 27) (by decide) (zdal_p dlA_Sorts_fillTable_54 (i := 10) rfl) ?_
                          refine zr_imul (pc := 109) (zdal_p dlA_Sorts_fillTable_54 (i := 11) rfl) ?_
                          refine zw_iload_n (pc := 110) (n := 1) (x := Int32.ofInt u1_) rfl (zdal_p dlA_Sorts_fillTable_54 (i := 12) rfl) ?_
                          refine zr_iadd (pc := 111) (zdal_p dlA_Sorts_fillTable_54 (i := 13) rfl) ?_
                          refine zw_iload_n (pc := 112) (n := 3) (x := Int32.ofInt v32_) rfl (zdal_p dlA_Sorts_fillTable_54 (i := 14) rfl) ?_
                          refine zr_if_le (pc := 113) (tgt := 127) ⟨hv32_a, hv32_b⟩ (by decide) (zdal_p dlA_Sorts_fillTable_54 (i := 15) rfl) (fun hc_113 => ?_) (fun hc_113 => ?_)
                          · skip
                            exfalso; omega
                          · skip
                            refine zw_aload_n (pc := 116) (n := 0) (x := (d_ + 12)) rfl (zdal_p dlA_Sorts_fillTable_54 (i := 16) rfl) ?_
                            refine zw_iload_n (pc := 117) (n := 2) (x := Int32.ofInt u23_) rfl (zdal_p dlA_Sorts_fillTable_54 (i := 17) rfl) ?_
                            refine zw_iload_n (pc := 118) (n := 1) (x := Int32.ofInt u1_) rfl (zdal_p dlA_Sorts_fillTable_54 (i := 18) rfl) ?_
                            refine zk_callV hf_N24_.x (pc := 119) [.int (Int32.ofInt u23_), .int (Int32.ofInt u1_)] [.int (Int32.ofInt ((u23_ * 27) + u1_)), .ref (d_ + 21)] l_Sorts_93 (u_Sorts_markAt l d_ N24_ (hf_N24_.w hW) u23_ hu23_a hu23_b u1_ hu1_a hu1_b (show 0 ≤ u23_ by first | with_reducible assumption | assumption | omega) (show u23_ ≤ 26 by first | with_reducible assumption | assumption | omega) (show 0 ≤ u1_ by first | with_reducible assumption | assumption | omega) (show u1_ ≤ 26 by first | with_reducible assumption | assumption | omega)) rfl rfl ((hf_N24_.w hW).kr (o := 12) (by decide)) (by decide) (by decide) (Nat.le_of_ble_eq_true rfl) (zdal_p dlA_Sorts_fillTable_54 (i := 19) rfl) ?_
                            rintro _ N33_ ⟨v34_, rfl, ⟨hv34_a, hv34_b⟩, hsN33_, hp0_N33_⟩
                            obtain rfl := hsN33_.eq.symm
                            replace hp0_N33_ : v34_ = ze N24_ (d_ + 22) (u23_ * 27 + u1_).toNat := hp0_N33_
                            show zW l m_Sorts_fillTable (zn Mz + 0, zw Mz + 0) N24_ 122 [some (.ref (d_ + 12)), some (.int (Int32.ofInt u1_)), some (.int (Int32.ofInt u23_)), some (.int (Int32.ofInt v32_))] [.int (Int32.ofInt v34_), .int (Int32.ofInt ((u23_ * 27) + u1_)), .ref (d_ + 21)] _
                            have hm_ := hp0_N33_
                            have hm9_ := hf9_.2 (u23_).toNat (by (exact zo_1414 hc_87 hfc_ hu23_b i26_)) (by (exact zo_68))
                            have hmb_ := gct_b T_ (gFn T_ (u23_).toNat) (gFn T_ (u1_).toNat) (gN T_)
                            rw [← gct_e] at hmb_
                            rw [show (u23_ * 27 + u1_).toNat = 27 * (u23_).toNat + (u1_).toNat by omega] at hm_
                            have hm2_ : v34_ = ((gct T_ (gFn T_ (u23_).toNat) (gFn T_ (u1_).toNat) : Nat) : Int) := hm_.trans hm9_
                            have hmx_ : v34_ = zRw d_ 22 N24_ (u23_ * 27 + u1_).toNat := by rw [show (u23_ * 27 + u1_).toNat = 27 * (u23_).toNat + (u1_).toNat by omega]; exact hm_
                            obtain ⟨w_, hw_⟩ : ∃ w : Int, w = v34_ := ⟨_, rfl⟩
                            rw [← hw_] at hm2_ hm_
                            refine zw_iload_n (pc := 122) (n := 3) (x := Int32.ofInt v32_) rfl (zdal_p dlA_Sorts_fillTable_54 (i := 20) rfl) ?_
                            refine zr_idiv (pc := 123) ⟨by (exact hv32_a), by (exact hv32_b)⟩ (by omega) (zdal_p dlA_Sorts_fillTable_54 (i := 21) rfl) ?_
                            have hr35_ := zquo_r v34_ v32_
                            have hdv_ := zquoK (a := w_) (b := v32_) (by (exact zo_537 hm2_)) (by omega) (by omega)
                            rw [hw_] at hdv_
                            refine zw_goto (pc := 124) (tgt := 128) (by decide) (zdal_p dlA_Sorts_fillTable_54 (i := 22) rfl) ?_
                            refine zk_st hf_N24_.x (pc := 128) (o := 22) (by decide) l_Sorts_40 ((hf_N24_.w hW).kr (o := 21) (by decide)) ((hf_N24_.w hW).lr (o := 21) (s := 0) (r := 22) (by decide)) ((hf_N24_.w hW).rr (o := 22) (t := 1) (n := 729) (by decide)) (by decide) (by (exact zo_2198 i26_ i4_)) (by omega) (by decide) (Nat.le_of_ble_eq_true rfl) (zdal_p dlA_Sorts_fillTable_55 (i := 0) rfl) (fun N36_ hN36_ hsN36_ => ?_)
                            have hf_N36_ : zFc d_ [] [] [] [22] Mz N36_ := hf_N24_.tr hsN36_ (by decide) (by decide) (by decide) (by decide)
                            have hb0_N36_ : zFc d_ [] [] [] [22] Mz N36_ := hb0_N24_.tr hsN36_ (by decide) (by decide) (by decide) (by decide)
                            have hb1_N36_ : zFc d_ [] [] [] [22] N16_ N36_ := hs25_.tr hsN36_ (by decide) (by decide) (by decide) (by decide)
                            have eD1_7_N36_ : ze N36_ (d_ + 1) 7 = ze N24_ (d_ + 1) 7 := hsN36_.e (by decide)
                            have eD12_7_N36_ : ze N36_ (d_ + 12) 7 = ze N24_ (d_ + 12) 7 := hsN36_.e (by decide)
                            have c37_ : zTt T_ d_ N36_ := zTt.fr (hf_N24_.w hW) hsN36_ c28_ (by decide)
                            have c38_ : zFir T_ d_ N36_ := zFir.fr (hf_N24_.w hW) hsN36_ c29_ (by decide)
                            have hs9_ := zFl9_s h27_ hol_ hf9_ (by (exact zo_1421 hc_7 hfc_ hu1_b i4_)) (by (exact zo_1421 hc_87 hfc_ hu23_b i26_)) (v := w_) (e := v32_) (by rw [hw_]; exact hmx_) he_ (by (exact zo_1 hc_113)) (by rw [hw_]; exact hdv_) (zRw_w hN36_ ⟨by (exact zo_284 hr35_.1), by (exact zo_285 hr35_.2)⟩)
                            refine zr_iinc (pc := 131) (i := 2) (a := u23_) (n := 1) (L2 := [some (.ref (d_ + 12)), some (.int (Int32.ofInt u1_)), some (.int (Int32.ofInt (u23_ + 1))), some (.int (Int32.ofInt v32_))]) rfl (by decide) rfl (zdal_p dlA_Sorts_fillTable_55 (i := 1) rfl) ?_
                            refine zw_goto (pc := 134) (tgt := 82) (by decide) (zdal_p dlA_Sorts_fillTable_55 (i := 2) rfl) ?_
                            refine zW_le [some (.ref (d_ + 12)), some (.int (Int32.ofInt u1_)), some (.int (Int32.ofInt (u23_ + 1))), none] (⟨rfl, rfl, rfl, trivial⟩) ?_
                            exact ih_82 (u23_ + 1) (by (exact zo_74 i26_)) (by (exact zo_2400 h27_ hc_87 hfc_ hu23_b)) N36_ hb1_N36_ (show 0 ≤ (u23_ + 1) by first | with_reducible assumption | (exact zo_76 i26_) | assumption) (show zFl9 T_ (zRw d_ 22 N36_) u1_ (u23_ + 1) by exact hs9_) (by (exact zo_2401 hc_87 hfc_ hlt_82 hu23_b))
                    exact lp_82 _ 0 (by decide) (by decide) N16_ zFc.rf (show 0 ≤ (0 : Int) by first | with_reducible assumption | (decide) | assumption) (show zFl9 T_ (zRw d_ 22 N16_) u1_ (0 : Int) by exact zFl2_e hf2_ (by omega)) (Nat.lt_succ_self _)
                  · skip
                    refine zw_aload_n (pc := 53) (n := 0) (x := (d_ + 12)) rfl (zdal_p dlA_Sorts_fillTable_53 (i := 6) rfl) ?_
                    refine zw_aload_n (pc := 54) (n := 0) (x := (d_ + 12)) rfl (zdal_p dlA_Sorts_fillTable_53 (i := 7) rfl) ?_
                    refine zw_getF (pc := 55) f_Sorts_32 rfl ((hf_N16_.w hW).kr (o := 12) (by decide)) ((hf_N16_.w hW).lr (o := 12) (s := 0) (r := 1) (by decide)) (zdal_p dlA_Sorts_fillTable_53 (i := 8) rfl) ?_
                    refine zw_aload_n (pc := 58) (n := 0) (x := (d_ + 12)) rfl (zdal_p dlA_Sorts_fillTable_53 (i := 9) rfl) ?_
                    refine zw_getF (pc := 59) f_Sorts_26 rfl ((hf_N16_.w hW).kr (o := 12) (by decide)) ((hf_N16_.w hW).lr (o := 12) (s := 4) (r := 19) (by decide)) (zdal_p dlA_Sorts_fillTable_53 (i := 10) rfl) ?_
                    refine zw_iload_n (pc := 62) (n := 1) (x := Int32.ofInt u1_) rfl (zdal_p dlA_Sorts_fillTable_53 (i := 11) rfl) ?_
                    refine zk_at hf_N16_.x (pc := 63) l_Sorts_49 ((hf_N16_.w hW).kr (o := 19) (by decide)) ((hf_N16_.w hW).lr (o := 19) (s := 0) (r := 20) (by decide)) ((hf_N16_.w hW).rr (o := 20) (t := 1) (n := 27) (by decide)) (by decide) (by (exact i4_)) (by omega) (by decide) (Nat.le_of_ble_eq_true rfl) (zdal_p dlA_Sorts_fillTable_53 (i := 12) rfl) (fun v39_ hv39_ hv39_a hv39_b => ?_)
                    rw [hf_N16_.r (by decide)] at hv39_
                    have hv1_ := hv39_
                    have hv2_ : v39_ = ((gFn T_ (u1_).toNat : Nat) : Int) := hv1_.trans (p1_.2 _ (by (exact zo_1414 hc_7 hfc_ hu1_b i4_)))
                    have hb_ := gS_b hO_ (hO_.2.2.1.2.1 _ (gFn_m (T := T_) (i := (u1_).toNat) (by (exact zo_1414 hc_7 hfc_ hu1_b i4_)))).1
                    refine zw_iload_n (pc := 66) (n := 2) (x := Int32.ofInt u15_) rfl (zdal_p dlA_Sorts_fillTable_53 (i := 13) rfl) ?_
                    refine zk_callV hf_N16_.x (pc := 67) [.int (Int32.ofInt v39_), .int (Int32.ofInt u15_)] [.ref (d_ + 12)] l_Sorts_86 (u_Group_turnAll l d_ N16_ (hf_N16_.w hW) v39_ hv39_a hv39_b u15_ hu15_a hu15_b T_ hT_ c21_ (show 0 ≤ v39_ by rw [hv2_]; (exact zo_85)) (show (v39_).toNat < 2 ^ gN T_ by rw [hv2_, Int.toNat_natCast]; exact hb_.1) (show 0 ≤ u15_ by first | with_reducible assumption | assumption | omega) (show u15_ < gN T_ by first | with_reducible assumption | (exact zo_1123 hc_50 hsz_ hu15_b i19_) | assumption)) rfl rfl ((hf_N16_.w hW).kr (o := 1) (by decide)) (by decide) (by decide) (Nat.le_of_ble_eq_true rfl) (zdal_p dlA_Sorts_fillTable_53 (i := 14) rfl) ?_
                    rintro _ N40_ ⟨v41_, rfl, ⟨hv41_a, hv41_b⟩, hsN40_, ⟨hp0_N40_, hp1_N40_, hp2_N40_⟩⟩
                    obtain rfl := hsN40_.eq.symm
                    show zW l m_Sorts_fillTable (zn Mz + 0, zw Mz + 0) N16_ 70 [some (.ref (d_ + 12)), some (.int (Int32.ofInt u1_)), some (.int (Int32.ofInt u15_)), none] [.int (Int32.ofInt v41_), .ref (d_ + 12)] _
                    have ht_ := hp0_N40_
                    rw [hv2_, Int.toNat_natCast] at ht_
                    refine zw_iload_n (pc := 70) (n := 1) (x := Int32.ofInt u1_) rfl (zdal_p dlA_Sorts_fillTable_53 (i := 15) rfl) ?_
                    refine zk_callV hf_N16_.x (pc := 71) [.int (Int32.ofInt v41_), .int (Int32.ofInt u1_)] [] l_Sorts_90 (u_Sorts_countTurned l d_ N16_ (hf_N16_.w hW) v41_ hv41_a hv41_b u1_ hu1_a hu1_b T_ hT_ l_ Kp_ hol_ u15_ c22_ (show 0 ≤ u1_ by first | with_reducible assumption | assumption | omega) (show u1_ < (gF T_).length by first | with_reducible assumption | (exact zo_1413 hc_7 hfc_ hu1_b) | assumption) (show 0 ≤ u15_ ∧ u15_ ≤ 24 by first | with_reducible assumption | assumption | omega) (show v41_ = (gtr T_ (gFn T_ (u1_).toNat) (u15_).toNat : Nat) by exact ht_) (show v41_ < 16777216 by (exact hp2_N40_)) (show zFl2 T_ (zRw d_ 22 N16_) u1_ u15_ 0 by first | with_reducible assumption | assumption | omega)) rfl rfl ((hf_N16_.w hW).kr (o := 12) (by decide)) (by decide) (by decide) (Nat.le_of_ble_eq_true rfl) (zdal_p dlA_Sorts_fillTable_53 (i := 16) rfl) ?_
                    rintro _ N42_ ⟨rfl, hsN42_, hp0_N42_⟩
                    replace hp0_N42_ : zFl2 T_ (zRw d_ 22 N42_) u1_ (u15_ + 1) 0 := hp0_N42_
                    have hf_N42_ : zFc d_ [] [] [] [22] Mz N42_ := hf_N16_.tr hsN42_ (by decide) (by decide) (by decide) (by decide)
                    have hb0_N42_ : zFc d_ [] [] [] [22] Mz N42_ := hb0_N16_.tr hsN42_ (by decide) (by decide) (by decide) (by decide)
                    have hb1_N42_ : zFc d_ [] [] [] [22] N9_ N42_ := hs17_.tr hsN42_ (by decide) (by decide) (by decide) (by decide)
                    have eD1_7_N42_ : ze N42_ (d_ + 1) 7 = ze N16_ (d_ + 1) 7 := hsN42_.e (by decide)
                    have eD12_7_N42_ : ze N42_ (d_ + 12) 7 = ze N16_ (d_ + 12) 7 := hsN42_.e (by decide)
                    have c44_ : zTt T_ d_ N42_ := zTt.fr (hf_N16_.w hW) hsN42_ c21_ (by decide)
                    have c45_ : zFir T_ d_ N42_ := zFir.fr (hf_N16_.w hW) hsN42_ c22_ (by decide)
                    show zW l m_Sorts_fillTable (zn Mz + 0, zw Mz + 0) N42_ 74 [some (.ref (d_ + 12)), some (.int (Int32.ofInt u1_)), some (.int (Int32.ofInt u15_)), none] [] _
                    have hs2_ := hp0_N42_
                    refine zr_iinc (pc := 74) (i := 2) (a := u15_) (n := 1) (L2 := [some (.ref (d_ + 12)), some (.int (Int32.ofInt u1_)), some (.int (Int32.ofInt (u15_ + 1))), none]) rfl (by decide) rfl (zdal_p dlA_Sorts_fillTable_53 (i := 17) rfl) ?_
                    refine zw_goto (pc := 77) (tgt := 42) (by decide) (zdal_p dlA_Sorts_fillTable_53 (i := 18) rfl) ?_
                    exact ih_42 (u15_ + 1) (by (exact zo_74 i18_)) (by omega) N42_ hb1_N42_ (show 0 ≤ (u15_ + 1) by first | with_reducible assumption | (exact zo_76 i18_) | assumption) (show (u15_ + 1) ≤ gN T_ by first | with_reducible assumption | (exact zo_1122 hc_50 hsz_ hu15_b i19_) | assumption) (show zFl2 T_ (zRw d_ 22 N42_) u1_ (u15_ + 1) 0 by exact hs2_) (by (exact zo_1124 hc_50 hlt_42 hsz_ hu15_b i19_))
              exact lp_42 _ 0 (by decide) (by decide) N9_ zFc.rf (show 0 ≤ (0 : Int) by first | with_reducible assumption | (decide) | assumption) (show (0 : Int) ≤ gN T_ by first | with_reducible assumption | (exact zo_85) | assumption) (show zFl2 T_ (zRw d_ 22 N9_) u1_ (0 : Int) 0 by exact zFl0_e hf0_ (by (exact zo_2385 h27_ hc_17 hfc_ i11_))) (Nat.lt_succ_self _)
            · skip
              refine zw_aload_n (pc := 20) (n := 0) (x := (d_ + 12)) rfl (zdal_p dlA_Sorts_fillTable_52 (i := 12) rfl) ?_
              refine zw_getF (pc := 21) f_Sorts_29 rfl ((hf_N9_.w hW).kr (o := 12) (by decide)) ((hf_N9_.w hW).lr (o := 12) (s := 5) (r := 21) (by decide)) (zdal_p dlA_Sorts_fillTable_52 (i := 13) rfl) ?_
              refine zw_iload_n (pc := 24) (n := 2) (x := Int32.ofInt u8_) rfl (zdal_p dlA_Sorts_fillTable_52 (i := 14) rfl) ?_
              refine zw_bipush (pc := 25) (v := Int32.ofInt 27) (by decide) (zdal_p dlA_Sorts_fillTable_52 (i := 15) rfl) ?_
              refine zr_imul (pc := 27) (zdal_p dlA_Sorts_fillTable_52 (i := 16) rfl) ?_
              refine zw_iload_n (pc := 28) (n := 1) (x := Int32.ofInt u1_) rfl (zdal_p dlA_Sorts_fillTable_52 (i := 17) rfl) ?_
              refine zr_iadd (pc := 29) (zdal_p dlA_Sorts_fillTable_52 (i := 18) rfl) ?_
              refine zw_iconst (pc := 30) (v := Int32.ofInt 0) (by decide) (zdal_p dlA_Sorts_fillTable_52 (i := 19) rfl) ?_
              refine zk_st hf_N9_.x (pc := 31) (o := 22) (by decide) l_Sorts_40 ((hf_N9_.w hW).kr (o := 21) (by decide)) ((hf_N9_.w hW).lr (o := 21) (s := 0) (r := 22) (by decide)) ((hf_N9_.w hW).rr (o := 22) (t := 1) (n := 729) (by decide)) (by decide) (by (exact zo_2198 i11_ i4_)) (by omega) (by decide) (Nat.le_of_ble_eq_true rfl) (zdal_p dlA_Sorts_fillTable_52 (i := 20) rfl) (fun N46_ hN46_ hsN46_ => ?_)
              have hf_N46_ : zFc d_ [] [] [] [22] Mz N46_ := hf_N9_.tr hsN46_ (by decide) (by decide) (by decide) (by decide)
              have hb0_N46_ : zFc d_ [] [] [] [22] Mz N46_ := hb0_N9_.tr hsN46_ (by decide) (by decide) (by decide) (by decide)
              have hb1_N46_ : zFc d_ [] [] [] [22] N2_ N46_ := hs10_.tr hsN46_ (by decide) (by decide) (by decide) (by decide)
              have eD1_7_N46_ : ze N46_ (d_ + 1) 7 = ze N9_ (d_ + 1) 7 := hsN46_.e (by decide)
              have eD12_7_N46_ : ze N46_ (d_ + 12) 7 = ze N9_ (d_ + 12) 7 := hsN46_.e (by decide)
              have c47_ : zTt T_ d_ N46_ := zTt.fr (hf_N9_.w hW) hsN46_ c13_ (by decide)
              have c48_ : zFir T_ d_ N46_ := zFir.fr (hf_N9_.w hW) hsN46_ c14_ (by decide)
              have hs0_ := zFl0_s h27_ hf0_ (by (exact zo_1421 hc_7 hfc_ hu1_b i4_)) (by (exact i11_)) (zRw_w hN46_ ⟨by (decide), by (decide)⟩)
              refine zr_iinc (pc := 34) (i := 2) (a := u8_) (n := 1) (L2 := [some (.ref (d_ + 12)), some (.int (Int32.ofInt u1_)), some (.int (Int32.ofInt (u8_ + 1))), none]) rfl (by decide) rfl (zdal_p dlA_Sorts_fillTable_52 (i := 21) rfl) ?_
              refine zw_goto (pc := 37) (tgt := 12) (by decide) (zdal_p dlA_Sorts_fillTable_52 (i := 22) rfl) ?_
              exact ih_12 (u8_ + 1) (by (exact zo_74 i11_)) (by (exact zo_2400 h27_ hc_17 hfc_ hu8_b)) N46_ hb1_N46_ (show 0 ≤ (u8_ + 1) by first | with_reducible assumption | (exact zo_76 i11_) | assumption) (show zFl0 T_ (zRw d_ 22 N46_) u1_ (u8_ + 1) by exact hs0_) (by (exact zo_2401 hc_17 hfc_ hlt_12 hu8_b))
        exact lp_12 _ 0 (by decide) (by decide) N2_ zFc.rf (show 0 ≤ (0 : Int) by first | with_reducible assumption | (decide) | assumption) (show zFl0 T_ (zRw d_ 22 N2_) u1_ (0 : Int) by exact zFl0_0 hfa_) (Nat.lt_succ_self _)
  exact lp_2 _ 0 (by decide) (by decide) Mz zFc.rf (show 0 ≤ (0 : Int) by first | with_reducible assumption | (decide) | assumption) (show zFlA T_ (zRw d_ 22 Mz) (0 : Int) by exact fun a b _ _ h => absurd h (by (exact zo_131))) (Nat.lt_succ_self _)
set_option maxHeartbeats 4000000 in
theorem u_Units_forget (l : Launch) (d_ : Nat) (Mz : zMem) (hW : zKW d_ Mz) : zC l m_Units_forget 0 0 [.ref (d_ + 28)] Mz (zqcV d_ [] [] [(28, 4)] [] Mz (fun N => True)) := by
  refine zC_of (L0 := [some (.ref (d_ + 28))]) md_Units_forget (Nat.le_of_ble_eq_true rfl) rfl ?_ zQ0
  have hf : zFc d_ [] [] [(28, 4)] [] Mz Mz := zFc.rf
  have r_D28_4 := ze_r Mz (d_ + 28) 4
  refine zw_aload_n (pc := 0) (n := 0) (x := (d_ + 28)) rfl (zdal_p dlA_Units_forget_60 (i := 0) rfl) ?_
  refine zw_iconst (pc := 1) (v := Int32.ofInt 0) (by decide) (zdal_p dlA_Units_forget_60 (i := 1) rfl) ?_
  refine zk_putR (pc := 2) (o := 28) (by decide) f_Units_27 rfl rfl ((hf.w hW).kr (o := 28) (by decide)) ⟨by omega, by omega⟩ (z_narB (by omega)) (z_fitB (by omega)) (zdal_p dlA_Units_forget_60 (i := 2) rfl) (fun N1_ hsN1_ hvN1_ => ?_)
  have hf_N1_ : zFc d_ [] [] [(28, 4)] [] Mz N1_ := hf.tr hsN1_ (by decide) (by decide) (by decide) (by decide)
  have rD28_4_N1_ := ze_r N1_ (d_ + 28) 4
  exact zk_vret (pc := 5) rfl hf_N1_ trivial (zdal_p dlA_Units_forget_60 (i := 3) rfl)
def zGD (M : zMem) : Prop := (1 ≤ ze M 81 20 ∧ ze M 81 20 ≤ 24 ∧ 1 ≤ ze M 81 25 ∧ ze M 81 25 ≤ 64 ∧ 1 ≤ ze M 81 26 ∧ ze M 81 26 ≤ 64) ∧ ∀ e : Int, 0 ≤ e → e < ze M 81 26 → ze M 93 (64 * e + e).toNat ≠ 0
theorem zGD.fr {S C : List Nat} {M N : zMem} (hf : zFr S C M N) (h : zGD M) (hs : 20 ∉ S ∧ 25 ∉ S ∧ 26 ∉ S) (hc : 93 ∉ C) : zGD N := by
  unfold zGD
  rw [hf.e hs.1, hf.e hs.2.1, hf.e hs.2.2]
  refine ⟨h.1, fun e h0 h1 => ?_⟩
  rw [hf.ie (by decide) hc]
  exact h.2 e h0 h1
def zCsL (T : zGT) (M : zMem) : Prop := zCs T M ((gF T).length : Int)
theorem zCsL.fr {T : zGT} {S C : List Nat} {M N : zMem} (hf : zFr S C M N) (h : zCsL T M) (_ : True) (hc : 94 ∉ C) : zCsL T N := zCs.fr hf h trivial hc
def zSSm (T : zGT) (M : zMem) : Prop := zSS T M (ze M 81 25)
theorem zSSm.fr {T : zGT} {S C : List Nat} {M N : zMem} (hf : zFr S C M N) (h : zSSm T M) (hs : 25 ∉ S ∧ 26 ∉ S) (hc : 89 ∉ C ∧ 90 ∉ C ∧ 91 ∉ C) : zSSm T N := by
  unfold zSSm
  rw [hf.e hs.1]
  exact zSS.fr hf h hs.2 hc
theorem zGB.d {T : zGT} {M : zMem} (hO : gOK T) (h : zGB T M) : zGD M := by
  obtain ⟨h1, h2, h3, h4, h5, h6, h7⟩ := h
  have a1 := h1.1
  have a2 := h3.1.1
  have a3 := zJ_le hO h3.1
  have a4 := h4.1
  have a5 := gF_pos hO
  have a6 := hO.1.1
  have a7 := hO.1.2.1
  refine ⟨by omega, fun e e0 e1 => ?_⟩
  have hk := h7 e.toNat e.toNat (by omega) (by (exact zo_2416 a4 e0 e1)) (by (exact zo_2416 a4 e0 e1))
  rw [show (64 * e + e).toNat = 64 * e.toNat + e.toNat by omega, hk]
  have := hO.2.2.2 e.toNat (by (exact zo_2416 a4 e0 e1))
  omega
def gMe (T : zGT) (x : Int) : Prop := 0 ≤ x ∧ x.toNat ∈ gS T
theorem gMe.i {T : zGT} (hO : gOK T) {x : Int} (h : gMe T x) : gIn T x := ⟨h.1, (hO.2.1.2.2 _ h.2).1.2.1⟩
theorem gMe.b {T : zGT} (hO : gOK T) {x : Int} (h : gMe T x) : 0 ≤ x ∧ x < 16777216 := by
  have := hO.sb h.2
  have := h.1
  omega
theorem gMe.f {T : zGT} (hO : gOK T) {M : zMem} (hJ : zJX T M) {x : Int} (h : gMe T x) : ∃ k : Nat, (k : Int) < ze M 81 25 ∧ ze M 89 k = x := by
  obtain ⟨h1, h2, h3⟩ := (hO.2.1.2.2 _ h.2).1
  obtain ⟨k, hk, e⟩ := zJ_all hJ.1 hJ.2 h2 h3
  have := h.1
  exact ⟨k, hk, by omega⟩
theorem zFirs.g {T : zGT} (hO : gOK T) {M : zMem} (h : zFirs T M) {e : Int} (e0 : 0 ≤ e) (e1 : e < ze M 81 26) : gMe T (ze M 91 e.toNat) ∧ 0 ≤ ze M 91 e.toNat ∧ ze M 91 e.toNat < 16777216 := by
  have a4 := h.1
  have h2 := h.2 e.toNat (by (exact zo_2416 a4 e0 e1))
  have h3 := (hO.2.2.1.2.1 _ (gF_m (T := T) (i := e.toNat) (by (exact zo_2416 a4 e0 e1)))).1
  have hm : gMe T (ze M 91 e.toNat) := ⟨by (exact zo_537 h2), by rw [h2, Int.toNat_natCast]; exact h3⟩
  exact ⟨hm, hm.b hO⟩
theorem zJX.g {T : zGT} (hO : gOK T) {M : zMem} (h : zJX T M) {e : Int} (e0 : 0 ≤ e) (e1 : e < ze M 81 25) : gMe T (ze M 89 e.toNat) ∧ 0 ≤ ze M 89 e.toNat ∧ ze M 89 e.toNat < 16777216 := by
  have hm : gMe T (ze M 89 e.toNat) := h.1.2.2.1 e.toNat (by (exact zo_587 e0 e1))
  exact ⟨hm, hm.b hO⟩
theorem zshl_b {T : zGT} (hG : gGd T) {k : Int} (e : k = (gN T : Int)) : zshl 1 k = ((2 ^ gN T : Nat) : Int) ∧ 1 ≤ zshl 1 k ∧ zshl 1 k ≤ 16777216 := by
  have h24 := hG.2.1
  have h1 : zshl 1 k = ((2 ^ gN T : Nat) : Int) := by rw [e]; exact zshl1 (gN T) (by omega)
  have h2 : (2 : Nat) ^ gN T ≤ 2 ^ 24 := Nat.pow_le_pow_right (by (decide)) h24
  have h3 : (2 : Nat) ^ 24 = 16777216 := rfl
  have h4 := Nat.two_pow_pos (gN T)
  exact ⟨h1, by omega, by omega⟩
theorem zshl_i {T : zGT} (hG : gGd T) {k : Int} (k0 : 0 ≤ k) (k1 : k < gN T) : gIn T (zshl 1 k) ∧ 0 ≤ zshl 1 k ∧ zshl 1 k < 16777216 := by
  have h24 := hG.2.1
  obtain ⟨n, rfl⟩ := Int.eq_ofNat_of_zero_le k0
  have h1 := zshl1 n (by omega)
  have h5 : 2 ^ n < 2 ^ gN T := Nat.pow_lt_pow_right (by (decide)) (by omega)
  have hi : gIn T (zshl 1 (n : Int)) := by rw [h1]; exact ⟨Int.natCast_nonneg _, by rw [Int.toNat_natCast]; exact h5⟩
  have := g24 h24 hi.1 hi.2
  exact ⟨hi, hi.1, this⟩
theorem gIn_o {T : zGT} (hG : gGd T) {x y : Int} (hx : gIn T x) (hy : gIn T y) : gIn T (zor x y) := by
  have h1 := g24 hG.2.1 hx.1 hx.2
  have h2 := g24 hG.2.1 hy.1 hy.2
  obtain ⟨x0, x1⟩ := hx
  obtain ⟨y0, y1⟩ := hy
  obtain ⟨m, rfl⟩ := Int.eq_ofNat_of_zero_le x0
  obtain ⟨n, rfl⟩ := Int.eq_ofNat_of_zero_le y0
  rw [zor_n m n (by omega) (by omega)]
  exact ⟨by (exact zo_85), by rw [Int.toNat_natCast]; exact Nat.or_lt_two_pow x1 y1⟩
theorem gMe_a {T : zGT} (hO : gOK T) {x y : Int} (hx : gMe T x) (hy : gMe T y) : gMe T (zand x y) := by
  have h1 := hx.b hO
  have h2 := hy.b hO
  obtain ⟨s1, s2, s3⟩ := (hO.2.1.2.2 _ hx.2).1
  obtain ⟨t1, t2, t3⟩ := (hO.2.1.2.2 _ hy.2).1
  obtain ⟨x0, x1⟩ := hx
  obtain ⟨y0, y1⟩ := hy
  obtain ⟨m, rfl⟩ := Int.eq_ofNat_of_zero_le x0
  obtain ⟨n, rfl⟩ := Int.eq_ofNat_of_zero_le y0
  rw [zand_n m n (by omega) (by omega)]
  exact ⟨by (exact zo_85), by rw [Int.toNat_natCast]; exact hO.clm (Nat.lt_of_le_of_lt Nat.and_le_left s2) (s3.and t3)⟩
theorem gMe_c {T : zGT} (hO : gOK T) {x v : Int} (h : gLC T x.toNat v.toNat) (h0 : 0 ≤ v) : gMe T v := ⟨h0, hO.mem h⟩
theorem zshl0_k : ∀ k : Fin 31, zshl 0 ((k.val : Nat) : Int) = 0 := by decide +kernel
theorem gIn_t {T : zGT} (hG : gGd T) {x t g : Int} (hx : gIn T x) (ht : t = 0 ∨ t = 1) (g0 : 0 ≤ g) (g1 : g < gN T) : gIn T (zor x (zshl t g)) := by
  have h24 := hG.2.1
  rcases ht with rfl | rfl
  · obtain ⟨n, rfl⟩ := Int.eq_ofNat_of_zero_le g0
    have e : zshl 0 (n : Int) = 0 := zshl0_k ⟨n, by omega⟩
    rw [e]
    exact gIn_o hG hx ⟨by (decide), Nat.two_pow_pos _⟩
  · exact gIn_o hG hx (zshl_i hG g0 g1).1
theorem gIn_0 (T : zGT) : gIn T 0 := ⟨by (decide), Nat.two_pow_pos _⟩
theorem gIn.b {T : zGT} (hG : gGd T) {x : Int} (h : gIn T x) : 0 ≤ x ∧ x < 16777216 := ⟨h.1, g24 hG.2.1 h.1 h.2⟩
theorem zquo_n {a b : Int} (a0 : 0 ≤ a) (a1 : a < 2147483648) (b0 : 1 ≤ b) (b1 : b < 2147483648) : zquo a b = a / b := by
  have ha : zn32 a := ⟨by (exact zo_168 a0), a1⟩
  have hb : zn32 b := ⟨by (exact zo_920 b0), b1⟩
  unfold zquo
  rw [Int32.toInt_div, z32 ha, z32 hb, Int.tdiv_eq_ediv_of_nonneg a0]
  have h1 : 0 ≤ a / b := Int.ediv_nonneg a0 (by (exact zo_564 b0))
  have h2 : a / b ≤ a := Int.ediv_le_self b a0
  rw [Int.bmod_def]
  omega
theorem zrem_n {a b : Int} (a0 : 0 ≤ a) (a1 : a < 2147483648) (b0 : 1 ≤ b) (b1 : b < 2147483648) : zrem a b = a - zquo a b * b := by
  have e : Int32.ofInt a / Int32.ofInt b = Int32.ofInt (zquo a b) := (Int32.ofInt_toInt _).symm
  have h1 := zquo_n a0 a1 b0 b1
  have h3 : 0 ≤ a / b := Int.ediv_nonneg a0 (by (exact zo_564 b0))
  have h4 : a / b * b ≤ a := Int.ediv_mul_le a (by (exact zo_999 b0))
  have h5 : 0 ≤ a / b * b := Int.mul_nonneg h3 (by (exact zo_564 b0))
  unfold zrem
  rw [e, ← Int32.ofInt_mul, ← Int32.ofInt_sub, z32 ⟨by rw [h1]; omega, by rw [h1]; omega⟩]
theorem zdv {a p : Int} (a0 : 1 ≤ a) (a1 : a < 2147483648) (p0 : 2 ≤ p) (p1 : p < 2147483648) (h : zrem a p = 0) : 1 ≤ zquo a p ∧ zquo a p < a := by
  have h1 := zrem_n (by (exact zo_564 a0)) a1 (by omega) p1
  have h2 := zquo_n (by (exact zo_564 a0)) a1 (by omega) p1
  have h3 : 0 ≤ a / p := Int.ediv_nonneg (by (exact zo_564 a0)) (by (exact zo_1280 p0))
  rw [h] at h1
  rw [h2] at h1 ⊢
  have hq : a / p ≠ 0 := by
    intro e
    rw [e] at h1
    omega
  have h6 : a / p * 2 ≤ a / p * p := Int.mul_le_mul_of_nonneg_left p0 h3
  omega
theorem zquo_p {a b : Int} (a1 : a ≤ 31) (b0 : 1 ≤ b) (hb : b ≤ a) : 1 ≤ zquo a b ∧ zquo a b ≤ 31 := by
  rw [zquo_n (by omega) (by (exact zo_922 a1)) b0 (by omega)]
  have h1 : 1 ≤ a / b := Int.le_ediv_of_mul_le (by omega) (by omega)
  have h2 : a / b ≤ a := Int.ediv_le_self b (by omega)
  omega
theorem zcb_1 {x : Int} (h0 : 0 ≤ x) (h1 : x < 2147483648) (hb : x.toNat.testBit 0 = true) : 1 ≤ zcb x 31 := by
  have key : ∀ k, k ≤ 30 → 1 ≤ zcb x (k + 1) := by
    intro k
    induction k with
    | zero =>
      intro _
      show 1 ≤ zcb x 0 + zand (zshr x ((0 : Nat) : Int)) 1
      have := zbit (x := x) (k := ((0 : Nat) : Int)) h0 h1 (by (decide)) (by (decide))
      rcases this with ⟨-, h⟩ | ⟨h, -⟩
      · rw [h]
        show (1 : Int) ≤ 0 + 1
        decide
      · exact absurd hb h
    | succ k ih =>
      intro hk
      show 1 ≤ zcb x (k + 1) + zand (zshr x ((k + 1 : Nat) : Int)) 1
      have h2 := ih (by omega)
      have := zbit (x := x) (k := ((k + 1 : Nat) : Int)) h0 h1 (by omega) (by omega)
      rcases this with ⟨-, h⟩ | ⟨-, h⟩ <;> rw [h] <;> omega
  exact key 30 (by (decide))
theorem gMe.o {T : zGT} (hO : gOK T) {x : Int} (h : gMe T x) : 1 ≤ zcb x 31 := by
  have hb := h.b hO
  exact zcb_1 hb.1 (by omega) (hO.2.1.2.2 _ h.2).1.2.2.1
set_option maxHeartbeats 4000000 in
theorem c_M_isMember (l : Launch) (Mz : zMem) (hW : zMt Mz) (a0_ : Int) (ha0_a : -2147483648 ≤ a0_) (ha0_b : a0_ < 2147483648) (T : zGT) (hO : gOK T) (p0_ : zGB T Mz) : zC l m_M_isMember 0 0 [.ref 81, .int (Int32.ofInt a0_)] Mz (zpI [] [] Mz (fun v N => (((v = 1 ∧ 0 ≤ a0_ ∧ a0_ < ze Mz 81 20) ∨ (v = 0))))) := by
  refine zC_of (L0 := [some (.ref 81), some (.int (Int32.ofInt a0_))]) md_M_isMember (Nat.le_of_ble_eq_true rfl) rfl ?_ zQ0
  have hf : zFr [] [] Mz Mz := zFr.rf
  have r_20 := ze_r Mz 81 20
  have hG := hO.1
  have g24 := hG.2.1
  have g1 := hG.1
  have dv0 : zTab T Mz := p0_.1
  have dv1 : zB 85 144 0 5 Mz := p0_.2.1
  have dv2 : zJX T Mz := p0_.2.2.1
  have dv3 : zFirs T Mz := p0_.2.2.2.1
  have dv4 : zSSm T Mz := p0_.2.2.2.2.1
  have dv5 : zGD Mz := zGB.d hO p0_
  have gb := dv5.1
  have gn := dv0.1
  refine zw_iload_n (pc := 0) (n := 1) (x := Int32.ofInt a0_) rfl (zdal_p dlD_M_isMember_2 (i := 0) rfl) ?_
  refine zr_i2l (pc := 1) ⟨ha0_a, ha0_b⟩ (zdal_p dlD_M_isMember_2 (i := 1) rfl) ?_
  refine zw_lconst (pc := 2) (v := Int64.ofInt 0) (by decide) (zdal_p dlD_M_isMember_2 (i := 2) rfl) ?_
  refine zw_aload_n (pc := 3) (n := 0) (x := 81) rfl (zdal_p dlD_M_isMember_2 (i := 3) rfl) ?_
  refine zr_getI0 hf hW (pc := 4) (by decide) f_M_196 rfl (zdal_p dlD_M_isMember_2 (i := 4) rfl) ?_
  refine zw_iconst (pc := 7) (v := Int32.ofInt 1) (by decide) (zdal_p dlD_M_isMember_2 (i := 5) rfl) ?_
  refine zr_isub (pc := 8) (zdal_p dlD_M_isMember_2 (i := 6) rfl) ?_
  refine zr_i2l (pc := 9) ⟨(by (exact zo_63 gb.1)), (by (exact zo_4 gb.2.1))⟩ (zdal_p dlD_M_isMember_2 (i := 7) rfl) ?_
  refine zr_callS hf.x (pc := 10) [.long (Int64.ofInt a0_), .long (Int64.ofInt 0), .long (Int64.ofInt ((ze Mz 81 20) - 1))] [] l_M_131 (c_M_isIn l Mz (hf.w hW) a0_ (by (exact zo_282 ha0_a)) (by (exact zo_283 ha0_b)) 0 (by decide) (by decide) ((ze Mz 81 20) - 1) (by (exact zo_2432 gb.1)) (by omega)) rfl rfl (by decide) (Nat.le_of_ble_eq_true rfl) (zdal_p dlD_M_isMember_2 (i := 8) rfl) ?_
  rintro _ N1_ ⟨v2_, rfl, ⟨hv2_a, hv2_b⟩, hsN1_, hp0_N1_⟩
  obtain rfl := hsN1_.eq.symm
  replace hp0_N1_ : ((v2_ = 1 ∧ 0 ≤ a0_ ∧ a0_ ≤ ((ze Mz 81 20) - 1)) ∨ (v2_ = 0 ∧ (a0_ < 0 ∨ ((ze Mz 81 20) - 1) < a0_))) := hp0_N1_
  rcases hp0_N1_ with ⟨rfl, ha10_0_hp0_N1_, ha10_1_hp0_N1_⟩ | ⟨rfl, ha10_0_hp0_N1_⟩
  · skip
    show zW l m_M_isMember (zn Mz + 0, zw Mz + 0) Mz 13 [some (.ref 81), some (.int (Int32.ofInt a0_))] [.int (Int32.ofInt 1)] _
    exact zr_iret (pc := 13) (ty := .boolean) rfl (z_narB (by (decide))) ⟨by (exact hv2_a), by (exact hv2_b)⟩ hf (show ((1 = 1 ∧ 0 ≤ a0_ ∧ a0_ < ze Mz 81 20) ∨ (1 = 0)) from Or.inl (⟨(show 1 = 1 by first | with_reducible assumption | (decide) | assumption), (show 0 ≤ a0_ by first | with_reducible assumption | assumption | omega), (show a0_ < ze Mz 81 20 by first | with_reducible assumption | (exact zo_890 ha10_1_hp0_N1_) | assumption)⟩)) (zdal_p dlD_M_isMember_2 (i := 9) rfl)
  · skip
    show zW l m_M_isMember (zn Mz + 0, zw Mz + 0) Mz 13 [some (.ref 81), some (.int (Int32.ofInt a0_))] [.int (Int32.ofInt 0)] _
    exact zr_iret (pc := 13) (ty := .boolean) rfl (z_narB (by (decide))) ⟨by (exact hv2_a), by (exact hv2_b)⟩ hf (show ((0 = 1 ∧ 0 ≤ a0_ ∧ a0_ < ze Mz 81 20) ∨ (0 = 0)) from Or.inr ((show 0 = 0 by first | with_reducible assumption | (decide) | assumption))) (zdal_p dlD_M_isMember_2 (i := 9) rfl)
set_option maxHeartbeats 4000000 in
theorem c_M_isSort (l : Launch) (Mz : zMem) (hW : zMt Mz) (a0_ : Int) (ha0_a : -2147483648 ≤ a0_) (ha0_b : a0_ < 2147483648) (T : zGT) (hO : gOK T) (p0_ : zGB T Mz) : zC l m_M_isSort 0 0 [.ref 81, .int (Int32.ofInt a0_)] Mz (zpI [] [] Mz (fun v N => (((v = 1 ∧ 0 ≤ a0_ ∧ a0_ < ze Mz 81 26) ∨ (v = 0))))) := by
  refine zC_of (L0 := [some (.ref 81), some (.int (Int32.ofInt a0_))]) md_M_isSort (Nat.le_of_ble_eq_true rfl) rfl ?_ zQ0
  have hf : zFr [] [] Mz Mz := zFr.rf
  have r_26 := ze_r Mz 81 26
  have hG := hO.1
  have g24 := hG.2.1
  have g1 := hG.1
  have dv0 : zTab T Mz := p0_.1
  have dv1 : zB 85 144 0 5 Mz := p0_.2.1
  have dv2 : zJX T Mz := p0_.2.2.1
  have dv3 : zFirs T Mz := p0_.2.2.2.1
  have dv4 : zSSm T Mz := p0_.2.2.2.2.1
  have dv5 : zGD Mz := zGB.d hO p0_
  have gb := dv5.1
  have gn := dv0.1
  refine zw_iload_n (pc := 0) (n := 1) (x := Int32.ofInt a0_) rfl (zdal_p dlD_M_isSort_17 (i := 0) rfl) ?_
  refine zr_i2l (pc := 1) ⟨ha0_a, ha0_b⟩ (zdal_p dlD_M_isSort_17 (i := 1) rfl) ?_
  refine zw_lconst (pc := 2) (v := Int64.ofInt 0) (by decide) (zdal_p dlD_M_isSort_17 (i := 2) rfl) ?_
  refine zw_aload_n (pc := 3) (n := 0) (x := 81) rfl (zdal_p dlD_M_isSort_17 (i := 3) rfl) ?_
  refine zr_getI0 hf hW (pc := 4) (by decide) f_M_235 rfl (zdal_p dlD_M_isSort_17 (i := 4) rfl) ?_
  refine zw_iconst (pc := 7) (v := Int32.ofInt 1) (by decide) (zdal_p dlD_M_isSort_17 (i := 5) rfl) ?_
  refine zr_isub (pc := 8) (zdal_p dlD_M_isSort_17 (i := 6) rfl) ?_
  refine zr_i2l (pc := 9) ⟨(by (exact zo_63 gb.2.2.2.2.1)), (by (exact zo_903 gb.2.2.2.2.2))⟩ (zdal_p dlD_M_isSort_17 (i := 7) rfl) ?_
  refine zr_callS hf.x (pc := 10) [.long (Int64.ofInt a0_), .long (Int64.ofInt 0), .long (Int64.ofInt ((ze Mz 81 26) - 1))] [] l_M_131 (c_M_isIn l Mz (hf.w hW) a0_ (by (exact zo_282 ha0_a)) (by (exact zo_283 ha0_b)) 0 (by decide) (by decide) ((ze Mz 81 26) - 1) (by (exact zo_2432 gb.2.2.2.2.1)) (by omega)) rfl rfl (by decide) (Nat.le_of_ble_eq_true rfl) (zdal_p dlD_M_isSort_17 (i := 8) rfl) ?_
  rintro _ N1_ ⟨v2_, rfl, ⟨hv2_a, hv2_b⟩, hsN1_, hp0_N1_⟩
  obtain rfl := hsN1_.eq.symm
  replace hp0_N1_ : ((v2_ = 1 ∧ 0 ≤ a0_ ∧ a0_ ≤ ((ze Mz 81 26) - 1)) ∨ (v2_ = 0 ∧ (a0_ < 0 ∨ ((ze Mz 81 26) - 1) < a0_))) := hp0_N1_
  rcases hp0_N1_ with ⟨rfl, ha10_0_hp0_N1_, ha10_1_hp0_N1_⟩ | ⟨rfl, ha10_0_hp0_N1_⟩
  · skip
    show zW l m_M_isSort (zn Mz + 0, zw Mz + 0) Mz 13 [some (.ref 81), some (.int (Int32.ofInt a0_))] [.int (Int32.ofInt 1)] _
    exact zr_iret (pc := 13) (ty := .boolean) rfl (z_narB (by (decide))) ⟨by (exact hv2_a), by (exact hv2_b)⟩ hf (show ((1 = 1 ∧ 0 ≤ a0_ ∧ a0_ < ze Mz 81 26) ∨ (1 = 0)) from Or.inl (⟨(show 1 = 1 by first | with_reducible assumption | (decide) | assumption), (show 0 ≤ a0_ by first | with_reducible assumption | assumption | omega), (show a0_ < ze Mz 81 26 by first | with_reducible assumption | (exact zo_890 ha10_1_hp0_N1_) | assumption)⟩)) (zdal_p dlD_M_isSort_17 (i := 9) rfl)
  · skip
    show zW l m_M_isSort (zn Mz + 0, zw Mz + 0) Mz 13 [some (.ref 81), some (.int (Int32.ofInt a0_))] [.int (Int32.ofInt 0)] _
    exact zr_iret (pc := 13) (ty := .boolean) rfl (z_narB (by (decide))) ⟨by (exact hv2_a), by (exact hv2_b)⟩ hf (show ((0 = 1 ∧ 0 ≤ a0_ ∧ a0_ < ze Mz 81 26) ∨ (0 = 0)) from Or.inr ((show 0 = 0 by first | with_reducible assumption | (decide) | assumption))) (zdal_p dlD_M_isSort_17 (i := 9) rfl)
set_option maxHeartbeats 4000000 in
theorem c_M_moves (l : Launch) (Mz : zMem) (hW : zMt Mz) (a0_ : Int) (ha0_a : -2147483648 ≤ a0_) (ha0_b : a0_ < 2147483648) (a1_ : Int) (ha1_a : -2147483648 ≤ a1_) (ha1_b : a1_ < 2147483648) (T : zGT) (hO : gOK T) (p0_ : zGB T Mz) (p1_ : 1 ≤ ze Mz 81 16) (p2_ : ze Mz 81 16 ≤ 6) : zC l m_M_moves 0 0 [.ref 81, .int (Int32.ofInt a0_), .int (Int32.ofInt a1_)] Mz (zpI [] [] Mz (fun v N => True)) := by
  refine zC_of (L0 := [some (.ref 81), some (.int (Int32.ofInt a0_)), some (.int (Int32.ofInt a1_))]) md_M_moves (Nat.le_of_ble_eq_true rfl) rfl ?_ zQ0
  have hf : zFr [] [] Mz Mz := zFr.rf
  have r_16 := ze_r Mz 81 16
  have r_20 := ze_r Mz 81 20
  have hG := hO.1
  have g24 := hG.2.1
  have g1 := hG.1
  have dv0 : zTab T Mz := p0_.1
  have dv1 : zB 85 144 0 5 Mz := p0_.2.1
  have dv2 : zJX T Mz := p0_.2.2.1
  have dv3 : zFirs T Mz := p0_.2.2.2.1
  have dv4 : zSSm T Mz := p0_.2.2.2.2.1
  have dv5 : zGD Mz := zGB.d hO p0_
  have gb := dv5.1
  have gn := dv0.1
  refine zw_aload_n (pc := 0) (n := 0) (x := 81) rfl (zdal_p dlD_M_moves_0 (i := 0) rfl) ?_
  refine zw_iload_n (pc := 1) (n := 1) (x := Int32.ofInt a0_) rfl (zdal_p dlD_M_moves_0 (i := 1) rfl) ?_
  refine zr_callV (hf.w hW) hf.x (pc := 2) [.int (Int32.ofInt a0_)] [] l_M_400 (c_M_isMember l Mz (hf.w hW) a0_ ha0_a ha0_b T hO p0_) rfl rfl rfl (by decide) (Nat.le_of_ble_eq_true rfl) (zdal_p dlD_M_moves_0 (i := 2) rfl) ?_
  rintro _ N1_ ⟨v2_, rfl, ⟨hv2_a, hv2_b⟩, hsN1_, hp0_N1_⟩
  obtain rfl := hsN1_.eq.symm
  replace hp0_N1_ : ((v2_ = 1 ∧ 0 ≤ a0_ ∧ a0_ < ze Mz 81 20) ∨ (v2_ = 0)) := hp0_N1_
  rcases hp0_N1_ with ⟨rfl, ha2_0_hp0_N1_, ha2_1_hp0_N1_⟩ | rfl
  · skip
    show zW l m_M_moves (zn Mz + 0, zw Mz + 0) Mz 5 [some (.ref 81), some (.int (Int32.ofInt a0_)), some (.int (Int32.ofInt a1_))] [.int (Int32.ofInt 1)] (zpI [] [] Mz (fun v N => True))
    refine zr_if_eq (pc := 5) (tgt := 38) ⟨(by decide), (by decide)⟩ (by decide) (zdal_p dlD_M_moves_0 (i := 3) rfl) (fun hc_5 => ?_) (fun hc_5 => ?_)
    · skip
      exact absurd hc_5 (by decide)
    · skip
      refine zw_iload_n (pc := 8) (n := 2) (x := Int32.ofInt a1_) rfl (zdal_p dlD_M_moves_0 (i := 4) rfl) ?_
      refine zr_i2l (pc := 9) ⟨ha1_a, ha1_b⟩ (zdal_p dlD_M_moves_0 (i := 5) rfl) ?_
      refine zw_lconst (pc := 10) (v := Int64.ofInt 0) (by decide) (zdal_p dlD_M_moves_0 (i := 6) rfl) ?_
      refine zw_aload_n (pc := 11) (n := 0) (x := 81) rfl (zdal_p dlD_M_moves_0 (i := 7) rfl) ?_
      refine zr_getI0 hf hW (pc := 12) (by decide) f_M_382 rfl (zdal_p dlD_M_moves_0 (i := 8) rfl) ?_
      refine zw_iconst (pc := 15) (v := Int32.ofInt 1) (by decide) (zdal_p dlD_M_moves_0 (i := 9) rfl) ?_
      refine zr_isub (pc := 16) (zdal_p dlD_M_moves_0 (i := 10) rfl) ?_
      refine zr_i2l (pc := 17) ⟨(by (exact zo_63 p1_)), (by (exact zo_2435 p2_))⟩ (zdal_p dlD_M_moves_0 (i := 11) rfl) ?_
      refine zr_callS hf.x (pc := 18) [.long (Int64.ofInt a1_), .long (Int64.ofInt 0), .long (Int64.ofInt ((ze Mz 81 16) - 1))] [] l_M_131 (c_M_isIn l Mz (hf.w hW) a1_ (by (exact zo_282 ha1_a)) (by (exact zo_283 ha1_b)) 0 (by decide) (by decide) ((ze Mz 81 16) - 1) (by (exact zo_2432 p1_)) (by (exact zo_2436 p2_))) rfl rfl (by decide) (Nat.le_of_ble_eq_true rfl) (zdal_p dlD_M_moves_0 (i := 12) rfl) ?_
      rintro _ N3_ ⟨v4_, rfl, ⟨hv4_a, hv4_b⟩, hsN3_, hp0_N3_⟩
      obtain rfl := hsN3_.eq.symm
      replace hp0_N3_ : ((v4_ = 1 ∧ 0 ≤ a1_ ∧ a1_ ≤ ((ze Mz 81 16) - 1)) ∨ (v4_ = 0 ∧ (a1_ < 0 ∨ ((ze Mz 81 16) - 1) < a1_))) := hp0_N3_
      rcases hp0_N3_ with ⟨rfl, ha18_0_hp0_N3_, ha18_1_hp0_N3_⟩ | ⟨rfl, ha18_0_hp0_N3_⟩
      · skip
        show zW l m_M_moves (zn Mz + 0, zw Mz + 0) Mz 21 [some (.ref 81), some (.int (Int32.ofInt a0_)), some (.int (Int32.ofInt a1_))] [.int (Int32.ofInt 1)] (zpI [] [] Mz (fun v N => True))
        refine zr_if_eq (pc := 21) (tgt := 38) ⟨(by decide), (by decide)⟩ (by decide) (zdal_p dlD_M_moves_0 (i := 13) rfl) (fun hc_21 => ?_) (fun hc_21 => ?_)
        · skip
          exact absurd hc_21 (by decide)
        · skip
          refine zw_aload_n (pc := 24) (n := 0) (x := 81) rfl (zdal_p dlD_M_moves_0 (i := 14) rfl) ?_
          refine zr_getF (r := 85) (hf.w hW) (pc := 25) f_M_26 rfl (zh_85 (hf.w hW)).1 (zdal_p dlD_M_moves_0 (i := 15) rfl) ?_
          refine zw_bipush (pc := 28) (v := Int32.ofInt 6) (by decide) (zdal_p dlD_M_moves_0 (i := 16) rfl) ?_
          refine zw_iload_n (pc := 30) (n := 1) (x := Int32.ofInt a0_) rfl (zdal_p dlD_M_moves_0 (i := 17) rfl) ?_
          refine zr_imul (pc := 31) (zdal_p dlD_M_moves_0 (i := 18) rfl) ?_
          refine zw_iload_n (pc := 32) (n := 2) (x := Int32.ofInt a1_) rfl (zdal_p dlD_M_moves_0 (i := 19) rfl) ?_
          refine zr_iadd (pc := 33) (zdal_p dlD_M_moves_0 (i := 20) rfl) ?_
          refine zr_ialdn (pc := 34) (zh_85 (hf.w hW)).2 (by decide) (by (exact zo_709 ha18_0_hp0_N3_ ha2_0_hp0_N1_)) (by omega) (zdal_p dlD_M_moves_0 (i := 21) rfl) (fun v5_ hv5_ hv5_a hv5_b => ?_)
          have hr6_ := dv1.g (e := (6 * a0_) + a1_) (by (exact zo_709 ha18_0_hp0_N3_ ha2_0_hp0_N1_)) (by omega)
          rw [← hv5_] at hr6_
          refine zw_goto (pc := 35) (tgt := 39) (by decide) (zdal_p dlD_M_moves_0 (i := 22) rfl) ?_
          exact zr_iret (pc := 39) (ty := .int) rfl rfl ⟨by (exact hv5_a), by (exact hv5_b)⟩ hf trivial (zdal_p dlD_M_moves_1 (i := 0) rfl)
      · skip
        show zW l m_M_moves (zn Mz + 0, zw Mz + 0) Mz 21 [some (.ref 81), some (.int (Int32.ofInt a0_)), some (.int (Int32.ofInt a1_))] [.int (Int32.ofInt 0)] (zpI [] [] Mz (fun v N => True))
        refine zr_if_eq (pc := 21) (tgt := 38) ⟨(by decide), (by decide)⟩ (by decide) (zdal_p dlD_M_moves_0 (i := 13) rfl) (fun hc_21 => ?_) (fun hc_21 => ?_)
        · skip
          refine zw_iconst (pc := 38) (v := Int32.ofInt (-1)) (by decide) (zdal_p dlD_M_moves_0 (i := 23) rfl) ?_
          exact zr_iret (pc := 39) (ty := .int) rfl rfl ⟨by (decide), by (decide)⟩ hf trivial (zdal_p dlD_M_moves_1 (i := 0) rfl)
        · skip
          exact absurd hc_21 (by decide)
  · skip
    show zW l m_M_moves (zn Mz + 0, zw Mz + 0) Mz 5 [some (.ref 81), some (.int (Int32.ofInt a0_)), some (.int (Int32.ofInt a1_))] [.int (Int32.ofInt 0)] (zpI [] [] Mz (fun v N => True))
    refine zr_if_eq (pc := 5) (tgt := 38) ⟨(by decide), (by decide)⟩ (by decide) (zdal_p dlD_M_moves_0 (i := 3) rfl) (fun hc_5 => ?_) (fun hc_5 => ?_)
    · skip
      refine zw_iconst (pc := 38) (v := Int32.ofInt (-1)) (by decide) (zdal_p dlD_M_moves_0 (i := 23) rfl) ?_
      exact zr_iret (pc := 39) (ty := .int) rfl rfl ⟨by (decide), by (decide)⟩ hf trivial (zdal_p dlD_M_moves_1 (i := 0) rfl)
    · skip
      exact absurd hc_5 (by decide)
set_option maxHeartbeats 4000000 in
theorem c_M_times (l : Launch) (Mz : zMem) (hW : zMt Mz) (a0_ : Int) (ha0_a : -2147483648 ≤ a0_) (ha0_b : a0_ < 2147483648) (a1_ : Int) (ha1_a : -2147483648 ≤ a1_) (ha1_b : a1_ < 2147483648) (T : zGT) (hO : gOK T) (p0_ : zGB T Mz) : zC l m_M_times 0 0 [.ref 81, .int (Int32.ofInt a0_), .int (Int32.ofInt a1_)] Mz (zpI [] [] Mz (fun v N => True)) := by
  refine zC_of (L0 := [some (.ref 81), some (.int (Int32.ofInt a0_)), some (.int (Int32.ofInt a1_))]) md_M_times (Nat.le_of_ble_eq_true rfl) rfl ?_ zQ0
  have hf : zFr [] [] Mz Mz := zFr.rf
  have r_20 := ze_r Mz 81 20
  have hG := hO.1
  have g24 := hG.2.1
  have g1 := hG.1
  have dv0 : zTab T Mz := p0_.1
  have dv1 : zB 85 144 0 5 Mz := p0_.2.1
  have dv2 : zJX T Mz := p0_.2.2.1
  have dv3 : zFirs T Mz := p0_.2.2.2.1
  have dv4 : zSSm T Mz := p0_.2.2.2.2.1
  have dv5 : zGD Mz := zGB.d hO p0_
  have gb := dv5.1
  have gn := dv0.1
  refine zw_aload_n (pc := 0) (n := 0) (x := 81) rfl (zdal_p dlD_M_times_3 (i := 0) rfl) ?_
  refine zw_iload_n (pc := 1) (n := 1) (x := Int32.ofInt a0_) rfl (zdal_p dlD_M_times_3 (i := 1) rfl) ?_
  refine zr_callV (hf.w hW) hf.x (pc := 2) [.int (Int32.ofInt a0_)] [] l_M_400 (c_M_isMember l Mz (hf.w hW) a0_ ha0_a ha0_b T hO p0_) rfl rfl rfl (by decide) (Nat.le_of_ble_eq_true rfl) (zdal_p dlD_M_times_3 (i := 2) rfl) ?_
  rintro _ N1_ ⟨v2_, rfl, ⟨hv2_a, hv2_b⟩, hsN1_, hp0_N1_⟩
  obtain rfl := hsN1_.eq.symm
  replace hp0_N1_ : ((v2_ = 1 ∧ 0 ≤ a0_ ∧ a0_ < ze Mz 81 20) ∨ (v2_ = 0)) := hp0_N1_
  rcases hp0_N1_ with ⟨rfl, ha2_0_hp0_N1_, ha2_1_hp0_N1_⟩ | rfl
  · skip
    show zW l m_M_times (zn Mz + 0, zw Mz + 0) Mz 5 [some (.ref 81), some (.int (Int32.ofInt a0_)), some (.int (Int32.ofInt a1_))] [.int (Int32.ofInt 1)] (zpI [] [] Mz (fun v N => True))
    refine zr_if_eq (pc := 5) (tgt := 25) ⟨(by decide), (by decide)⟩ (by decide) (zdal_p dlD_M_times_3 (i := 3) rfl) (fun hc_5 => ?_) (fun hc_5 => ?_)
    · skip
      exact absurd hc_5 (by decide)
    · skip
      refine zw_aload_n (pc := 8) (n := 0) (x := 81) rfl (zdal_p dlD_M_times_3 (i := 4) rfl) ?_
      refine zw_iload_n (pc := 9) (n := 2) (x := Int32.ofInt a1_) rfl (zdal_p dlD_M_times_3 (i := 5) rfl) ?_
      refine zr_callV (hf.w hW) hf.x (pc := 10) [.int (Int32.ofInt a1_)] [] l_M_400 (c_M_isMember l Mz (hf.w hW) a1_ ha1_a ha1_b T hO p0_) rfl rfl rfl (by decide) (Nat.le_of_ble_eq_true rfl) (zdal_p dlD_M_times_3 (i := 6) rfl) ?_
      rintro _ N3_ ⟨v4_, rfl, ⟨hv4_a, hv4_b⟩, hsN3_, hp0_N3_⟩
      obtain rfl := hsN3_.eq.symm
      replace hp0_N3_ : ((v4_ = 1 ∧ 0 ≤ a1_ ∧ a1_ < ze Mz 81 20) ∨ (v4_ = 0)) := hp0_N3_
      rcases hp0_N3_ with ⟨rfl, ha10_0_hp0_N3_, ha10_1_hp0_N3_⟩ | rfl
      · skip
        show zW l m_M_times (zn Mz + 0, zw Mz + 0) Mz 13 [some (.ref 81), some (.int (Int32.ofInt a0_)), some (.int (Int32.ofInt a1_))] [.int (Int32.ofInt 1)] (zpI [] [] Mz (fun v N => True))
        refine zr_if_eq (pc := 13) (tgt := 25) ⟨(by decide), (by decide)⟩ (by decide) (zdal_p dlD_M_times_3 (i := 7) rfl) (fun hc_13 => ?_) (fun hc_13 => ?_)
        · skip
          exact absurd hc_13 (by decide)
        · skip
          refine zw_aload_n (pc := 16) (n := 0) (x := 81) rfl (zdal_p dlD_M_times_3 (i := 8) rfl) ?_
          refine zw_iload_n (pc := 17) (n := 1) (x := Int32.ofInt a0_) rfl (zdal_p dlD_M_times_3 (i := 9) rfl) ?_
          refine zw_iload_n (pc := 18) (n := 2) (x := Int32.ofInt a1_) rfl (zdal_p dlD_M_times_3 (i := 10) rfl) ?_
          refine zr_callV (hf.w hW) hf.x (pc := 19) [.int (Int32.ofInt a0_), .int (Int32.ofInt a1_)] [] l_M_216 (c_M_by l Mz (hf.w hW) a0_ ha0_a ha0_b a1_ ha1_a ha1_b T hG dv0 (show 0 ≤ a0_ by first | with_reducible assumption | assumption | omega) (show a0_ < ze Mz 81 20 by first | with_reducible assumption | assumption | omega) (show 0 ≤ a1_ by first | with_reducible assumption | assumption | omega) (show a1_ < ze Mz 81 20 by first | with_reducible assumption | assumption | omega)) rfl rfl rfl (by decide) (Nat.le_of_ble_eq_true rfl) (zdal_p dlD_M_times_3 (i := 11) rfl) ?_
          rintro _ N5_ ⟨v6_, rfl, ⟨hv6_a, hv6_b⟩, hsN5_, ⟨hp0_N5_, hp1_N5_, hp2_N5_⟩⟩
          obtain rfl := hsN5_.eq.symm
          show zW l m_M_times (zn Mz + 0, zw Mz + 0) Mz 22 [some (.ref 81), some (.int (Int32.ofInt a0_)), some (.int (Int32.ofInt a1_))] [.int (Int32.ofInt v6_)] (zpI [] [] Mz (fun v N => True))
          refine zw_goto (pc := 22) (tgt := 26) (by decide) (zdal_p dlD_M_times_3 (i := 12) rfl) ?_
          exact zr_iret (pc := 26) (ty := .int) rfl rfl ⟨by (exact hv6_a), by (exact hv6_b)⟩ hf trivial (zdal_p dlD_M_times_3 (i := 14) rfl)
      · skip
        show zW l m_M_times (zn Mz + 0, zw Mz + 0) Mz 13 [some (.ref 81), some (.int (Int32.ofInt a0_)), some (.int (Int32.ofInt a1_))] [.int (Int32.ofInt 0)] (zpI [] [] Mz (fun v N => True))
        refine zr_if_eq (pc := 13) (tgt := 25) ⟨(by decide), (by decide)⟩ (by decide) (zdal_p dlD_M_times_3 (i := 7) rfl) (fun hc_13 => ?_) (fun hc_13 => ?_)
        · skip
          refine zw_iconst (pc := 25) (v := Int32.ofInt (-1)) (by decide) (zdal_p dlD_M_times_3 (i := 13) rfl) ?_
          exact zr_iret (pc := 26) (ty := .int) rfl rfl ⟨by (decide), by (decide)⟩ hf trivial (zdal_p dlD_M_times_3 (i := 14) rfl)
        · skip
          exact absurd hc_13 (by decide)
  · skip
    show zW l m_M_times (zn Mz + 0, zw Mz + 0) Mz 5 [some (.ref 81), some (.int (Int32.ofInt a0_)), some (.int (Int32.ofInt a1_))] [.int (Int32.ofInt 0)] (zpI [] [] Mz (fun v N => True))
    refine zr_if_eq (pc := 5) (tgt := 25) ⟨(by decide), (by decide)⟩ (by decide) (zdal_p dlD_M_times_3 (i := 3) rfl) (fun hc_5 => ?_) (fun hc_5 => ?_)
    · skip
      refine zw_iconst (pc := 25) (v := Int32.ofInt (-1)) (by decide) (zdal_p dlD_M_times_3 (i := 13) rfl) ?_
      exact zr_iret (pc := 26) (ty := .int) rfl rfl ⟨by (decide), by (decide)⟩ hf trivial (zdal_p dlD_M_times_3 (i := 14) rfl)
    · skip
      exact absurd hc_5 (by decide)
set_option maxHeartbeats 4000000 in
theorem c_M_areAlike (l : Launch) (Mz : zMem) (hW : zMt Mz) (a0_ : Int) (ha0_a : -2147483648 ≤ a0_) (ha0_b : a0_ < 2147483648) (T : zGT) (hO : gOK T) (p0_ : zGB T Mz) (p1_ : 0 ≤ a0_) : zC l m_M_areAlike 0 0 [.ref 81, .int (Int32.ofInt a0_)] Mz (zpI [] [] Mz (fun v N => ((v = 0 ∨ v = 1)))) := by
  refine zC_of (L0 := [some (.ref 81), some (.int (Int32.ofInt a0_)), none, none]) md_M_areAlike (Nat.le_of_ble_eq_true rfl) rfl ?_ zQ0
  have hf : zFr [] [] Mz Mz := zFr.rf
  have r_20 := ze_r Mz 81 20
  have hG := hO.1
  have g24 := hG.2.1
  have g1 := hG.1
  have dv0 : zTab T Mz := p0_.1
  have dv1 : zB 85 144 0 5 Mz := p0_.2.1
  have dv2 : zJX T Mz := p0_.2.2.1
  have dv3 : zFirs T Mz := p0_.2.2.2.1
  have dv4 : zSSm T Mz := p0_.2.2.2.2.1
  have dv5 : zGD Mz := zGB.d hO p0_
  have gb := dv5.1
  have gn := dv0.1
  refine zw_iconst (pc := 0) (v := Int32.ofInt 0) (by decide) (zdal_p dlC_M_areAlike_148 (i := 0) rfl) ?_
  refine zw_istore_n (pc := 1) (i := 2) (L2 := [some (.ref 81), some (.int (Int32.ofInt a0_)), some (.int (Int32.ofInt 0)), none]) rfl (by decide) rfl (zdal_p dlC_M_areAlike_148 (i := 1) rfl) ?_
  have lp_2 : ∀ (n : Nat) (u1_ : Int) (hu1_a : -2147483648 ≤ u1_) (hu1_b : u1_ < 2147483648) (i2_ : 0 ≤ u1_), (ze Mz 81 20 - u1_).toNat < n → zW l m_M_areAlike (zn Mz + 0, zw Mz + 0) Mz 2 [some (.ref 81), some (.int (Int32.ofInt a0_)), some (.int (Int32.ofInt u1_)), none] [] (zpI [] [] Mz (fun v N => ((v = 0 ∨ v = 1)))) := by
    intro n
    induction n with
    | zero =>
      intro u1_ hu1_a hu1_b i2_ h0
      exact absurd h0 (Nat.not_lt_zero _)
    | succ n ih_2 =>
      intro u1_ hu1_a hu1_b i2_ hlt_2
      refine zw_iload_n (pc := 2) (n := 2) (x := Int32.ofInt u1_) rfl (zdal_p dlC_M_areAlike_148 (i := 2) rfl) ?_
      refine zw_aload_n (pc := 3) (n := 0) (x := 81) rfl (zdal_p dlC_M_areAlike_148 (i := 3) rfl) ?_
      refine zr_getI0 hf hW (pc := 4) (by decide) f_M_196 rfl (zdal_p dlC_M_areAlike_148 (i := 4) rfl) ?_
      refine zr_icmp_ge (pc := 7) (tgt := 65) ⟨hu1_a, hu1_b⟩ ⟨(ze_r Mz 81 20).1, (ze_r Mz 81 20).2⟩ (by decide) (zdal_p dlC_M_areAlike_148 (i := 5) rfl) (fun hc_7 => ?_) (fun hc_7 => ?_)
      · skip
        refine zw_iconst (pc := 65) (v := Int32.ofInt 1) (by decide) (zdal_p dlC_M_areAlike_149 (i := 11) rfl) ?_
        exact zr_iret (pc := 66) (ty := .boolean) rfl (z_narB (by (decide))) ⟨by (decide), by (decide)⟩ hf (show (1 = 0 ∨ 1 = 1) by first | with_reducible assumption | (decide) | assumption) (zdal_p dlC_M_areAlike_149 (i := 12) rfl)
      · skip
        refine zw_iconst (pc := 10) (v := Int32.ofInt 0) (by decide) (zdal_p dlC_M_areAlike_148 (i := 6) rfl) ?_
        refine zw_istore_n (pc := 11) (i := 3) (L2 := [some (.ref 81), some (.int (Int32.ofInt a0_)), some (.int (Int32.ofInt u1_)), some (.int (Int32.ofInt 0))]) rfl (by decide) rfl (zdal_p dlC_M_areAlike_148 (i := 7) rfl) ?_
        have lp_12 : ∀ (n : Nat) (u3_ : Int) (hu3_a : -2147483648 ≤ u3_) (hu3_b : u3_ < 2147483648) (i4_ : 0 ≤ u3_), (ze Mz 81 20 - u3_).toNat < n → zW l m_M_areAlike (zn Mz + 0, zw Mz + 0) Mz 12 [some (.ref 81), some (.int (Int32.ofInt a0_)), some (.int (Int32.ofInt u1_)), some (.int (Int32.ofInt u3_))] [] (zpI [] [] Mz (fun v N => ((v = 0 ∨ v = 1)))) := by
          intro n
          induction n with
          | zero =>
            intro u3_ hu3_a hu3_b i4_ h0
            exact absurd h0 (Nat.not_lt_zero _)
          | succ n ih_12 =>
            intro u3_ hu3_a hu3_b i4_ hlt_12
            refine zw_iload_n (pc := 12) (n := 3) (x := Int32.ofInt u3_) rfl (zdal_p dlC_M_areAlike_148 (i := 8) rfl) ?_
            refine zw_aload_n (pc := 13) (n := 0) (x := 81) rfl (zdal_p dlC_M_areAlike_148 (i := 9) rfl) ?_
            refine zr_getI0 hf hW (pc := 14) (by decide) f_M_196 rfl (zdal_p dlC_M_areAlike_148 (i := 10) rfl) ?_
            refine zr_icmp_ge (pc := 17) (tgt := 59) ⟨hu3_a, hu3_b⟩ ⟨(ze_r Mz 81 20).1, (ze_r Mz 81 20).2⟩ (by decide) (zdal_p dlC_M_areAlike_148 (i := 11) rfl) (fun hc_17 => ?_) (fun hc_17 => ?_)
            · skip
              refine zr_iinc (pc := 59) (i := 2) (a := u1_) (n := 1) (L2 := [some (.ref 81), some (.int (Int32.ofInt a0_)), some (.int (Int32.ofInt (u1_ + 1))), some (.int (Int32.ofInt u3_))]) rfl (by decide) rfl (zdal_p dlC_M_areAlike_149 (i := 9) rfl) ?_
              refine zw_goto (pc := 62) (tgt := 2) (by decide) (zdal_p dlC_M_areAlike_149 (i := 10) rfl) ?_
              refine zW_le [some (.ref 81), some (.int (Int32.ofInt a0_)), some (.int (Int32.ofInt (u1_ + 1))), none] (⟨rfl, rfl, rfl, trivial⟩) ?_
              exact ih_2 (u1_ + 1) (by (exact zo_74 i2_)) (by (exact zo_919 gb.2.1 hc_7)) (show 0 ≤ (u1_ + 1) by first | with_reducible assumption | (exact zo_76 i2_) | assumption) (by (exact zo_147 hc_7 hlt_2))
            · skip
              refine zw_iload_n (pc := 20) (n := 1) (x := Int32.ofInt a0_) rfl (zdal_p dlC_M_areAlike_148 (i := 12) rfl) ?_
              refine zw_iload_n (pc := 21) (n := 2) (x := Int32.ofInt u1_) rfl (zdal_p dlC_M_areAlike_148 (i := 13) rfl) ?_
              refine zr_callS hf.x (pc := 22) [.int (Int32.ofInt a0_), .int (Int32.ofInt u1_)] [] l_M_213 (c_M_holds l Mz (hf.w hW) a0_ ha0_a ha0_b u1_ hu1_a hu1_b (show 0 ≤ a0_ by first | with_reducible assumption | assumption | omega) (show 0 ≤ u1_ by first | with_reducible assumption | assumption | omega) (show u1_ < 32 by first | with_reducible assumption | (exact zo_918 gb.2.1 hc_7) | assumption)) rfl rfl (by decide) (Nat.le_of_ble_eq_true rfl) (zdal_p dlC_M_areAlike_148 (i := 14) rfl) ?_
              rintro _ N5_ ⟨v6_, rfl, ⟨hv6_a, hv6_b⟩, hsN5_, hp0_N5_⟩
              obtain rfl := hsN5_.eq.symm
              replace hp0_N5_ : ((v6_ = 1 ∧ zbt a0_ u1_) ∨ (v6_ = 0 ∧ ¬ zbt a0_ u1_)) := hp0_N5_
              rcases hp0_N5_ with ⟨rfl, ha22_0_hp0_N5_⟩ | ⟨rfl, ha22_0_hp0_N5_⟩
              · skip
                show zW l m_M_areAlike (zn Mz + 0, zw Mz + 0) Mz 25 [some (.ref 81), some (.int (Int32.ofInt a0_)), some (.int (Int32.ofInt u1_)), some (.int (Int32.ofInt u3_))] [.int (Int32.ofInt 1)] _
                refine zr_if_eq (pc := 25) (tgt := 53) ⟨(by decide), (by decide)⟩ (by decide) (zdal_p dlC_M_areAlike_148 (i := 15) rfl) (fun hc_25 => ?_) (fun hc_25 => ?_)
                · skip
                  exact absurd hc_25 (by decide)
                · skip
                  refine zw_iload_n (pc := 28) (n := 1) (x := Int32.ofInt a0_) rfl (zdal_p dlC_M_areAlike_148 (i := 16) rfl) ?_
                  refine zw_iload_n (pc := 29) (n := 3) (x := Int32.ofInt u3_) rfl (zdal_p dlC_M_areAlike_148 (i := 17) rfl) ?_
                  refine zr_callS hf.x (pc := 30) [.int (Int32.ofInt a0_), .int (Int32.ofInt u3_)] [] l_M_213 (c_M_holds l Mz (hf.w hW) a0_ ha0_a ha0_b u3_ hu3_a hu3_b (show 0 ≤ a0_ by first | with_reducible assumption | assumption | omega) (show 0 ≤ u3_ by first | with_reducible assumption | assumption | omega) (show u3_ < 32 by first | with_reducible assumption | (exact zo_918 gb.2.1 hc_17) | assumption)) rfl rfl (by decide) (Nat.le_of_ble_eq_true rfl) (zdal_p dlC_M_areAlike_148 (i := 18) rfl) ?_
                  rintro _ N7_ ⟨v8_, rfl, ⟨hv8_a, hv8_b⟩, hsN7_, hp0_N7_⟩
                  obtain rfl := hsN7_.eq.symm
                  replace hp0_N7_ : ((v8_ = 1 ∧ zbt a0_ u3_) ∨ (v8_ = 0 ∧ ¬ zbt a0_ u3_)) := hp0_N7_
                  rcases hp0_N7_ with ⟨rfl, ha30_0_hp0_N7_⟩ | ⟨rfl, ha30_0_hp0_N7_⟩
                  · skip
                    show zW l m_M_areAlike (zn Mz + 0, zw Mz + 0) Mz 33 [some (.ref 81), some (.int (Int32.ofInt a0_)), some (.int (Int32.ofInt u1_)), some (.int (Int32.ofInt u3_))] [.int (Int32.ofInt 1)] _
                    refine zr_if_eq (pc := 33) (tgt := 53) ⟨(by decide), (by decide)⟩ (by decide) (zdal_p dlC_M_areAlike_148 (i := 19) rfl) (fun hc_33 => ?_) (fun hc_33 => ?_)
                    · skip
                      exact absurd hc_33 (by decide)
                    · skip
                      refine zw_aload_n (pc := 36) (n := 0) (x := 81) rfl (zdal_p dlC_M_areAlike_148 (i := 20) rfl) ?_
                      refine zw_iload_n (pc := 37) (n := 2) (x := Int32.ofInt u1_) rfl (zdal_p dlC_M_areAlike_148 (i := 21) rfl) ?_
                      refine zw_iload_n (pc := 38) (n := 3) (x := Int32.ofInt u3_) rfl (zdal_p dlC_M_areAlike_148 (i := 22) rfl) ?_
                      refine zr_callV (hf.w hW) hf.x (pc := 39) [.int (Int32.ofInt u1_), .int (Int32.ofInt u3_)] [] l_M_216 (c_M_by l Mz (hf.w hW) u1_ hu1_a hu1_b u3_ hu3_a hu3_b T hG dv0 (show 0 ≤ u1_ by first | with_reducible assumption | assumption | omega) (show u1_ < ze Mz 81 20 by first | with_reducible assumption | assumption | omega) (show 0 ≤ u3_ by first | with_reducible assumption | assumption | omega) (show u3_ < ze Mz 81 20 by first | with_reducible assumption | assumption | omega)) rfl rfl rfl (by decide) (Nat.le_of_ble_eq_true rfl) (zdal_p dlC_M_areAlike_148 (i := 23) rfl) ?_
                      rintro _ N9_ ⟨v10_, rfl, ⟨hv10_a, hv10_b⟩, hsN9_, ⟨hp0_N9_, hp1_N9_, hp2_N9_⟩⟩
                      obtain rfl := hsN9_.eq.symm
                      show zW l m_M_areAlike (zn Mz + 0, zw Mz + 0) Mz 42 [some (.ref 81), some (.int (Int32.ofInt a0_)), some (.int (Int32.ofInt u1_)), some (.int (Int32.ofInt u3_))] [.int (Int32.ofInt v10_)] _
                      refine zw_aload_n (pc := 42) (n := 0) (x := 81) rfl (zdal_p dlC_M_areAlike_149 (i := 0) rfl) ?_
                      refine zw_iload_n (pc := 43) (n := 3) (x := Int32.ofInt u3_) rfl (zdal_p dlC_M_areAlike_149 (i := 1) rfl) ?_
                      refine zw_iload_n (pc := 44) (n := 2) (x := Int32.ofInt u1_) rfl (zdal_p dlC_M_areAlike_149 (i := 2) rfl) ?_
                      refine zr_callV (hf.w hW) hf.x (pc := 45) [.int (Int32.ofInt u3_), .int (Int32.ofInt u1_)] [.int (Int32.ofInt v10_)] l_M_216 (c_M_by l Mz (hf.w hW) u3_ hu3_a hu3_b u1_ hu1_a hu1_b T hG dv0 (show 0 ≤ u3_ by first | with_reducible assumption | assumption | omega) (show u3_ < ze Mz 81 20 by first | with_reducible assumption | assumption | omega) (show 0 ≤ u1_ by first | with_reducible assumption | assumption | omega) (show u1_ < ze Mz 81 20 by first | with_reducible assumption | assumption | omega)) rfl rfl rfl (by decide) (Nat.le_of_ble_eq_true rfl) (zdal_p dlC_M_areAlike_149 (i := 3) rfl) ?_
                      rintro _ N11_ ⟨v12_, rfl, ⟨hv12_a, hv12_b⟩, hsN11_, ⟨hp0_N11_, hp1_N11_, hp2_N11_⟩⟩
                      obtain rfl := hsN11_.eq.symm
                      show zW l m_M_areAlike (zn Mz + 0, zw Mz + 0) Mz 48 [some (.ref 81), some (.int (Int32.ofInt a0_)), some (.int (Int32.ofInt u1_)), some (.int (Int32.ofInt u3_))] [.int (Int32.ofInt v12_), .int (Int32.ofInt v10_)] _
                      refine zr_icmp_eq (pc := 48) (tgt := 53) ⟨hv10_a, hv10_b⟩ ⟨hv12_a, hv12_b⟩ (by decide) (zdal_p dlC_M_areAlike_149 (i := 4) rfl) (fun hc_48 => ?_) (fun hc_48 => ?_)
                      · skip
                        refine zr_iinc (pc := 53) (i := 3) (a := u3_) (n := 1) (L2 := [some (.ref 81), some (.int (Int32.ofInt a0_)), some (.int (Int32.ofInt u1_)), some (.int (Int32.ofInt (u3_ + 1)))]) rfl (by decide) rfl d_M_areAlike_53 ?_
                        refine zw_goto (pc := 56) (tgt := 12) (by decide) d_M_areAlike_56 ?_
                        exact ih_12 (u3_ + 1) (by (exact zo_74 i4_)) (by (exact zo_919 gb.2.1 hc_17)) (show 0 ≤ (u3_ + 1) by first | with_reducible assumption | (exact zo_76 i4_) | assumption) (by (exact zo_147 hc_17 hlt_12))
                      · skip
                        refine zw_iconst (pc := 51) (v := Int32.ofInt 0) (by decide) (zdal_p dlC_M_areAlike_149 (i := 5) rfl) ?_
                        exact zr_iret (pc := 52) (ty := .boolean) rfl (z_narB (by (decide))) ⟨by (decide), by (decide)⟩ hf (show (0 = 0 ∨ 0 = 1) by first | with_reducible assumption | (decide) | assumption) (zdal_p dlC_M_areAlike_149 (i := 6) rfl)
                  · skip
                    show zW l m_M_areAlike (zn Mz + 0, zw Mz + 0) Mz 33 [some (.ref 81), some (.int (Int32.ofInt a0_)), some (.int (Int32.ofInt u1_)), some (.int (Int32.ofInt u3_))] [.int (Int32.ofInt 0)] _
                    refine zr_if_eq (pc := 33) (tgt := 53) ⟨(by decide), (by decide)⟩ (by decide) (zdal_p dlC_M_areAlike_148 (i := 19) rfl) (fun hc_33 => ?_) (fun hc_33 => ?_)
                    · skip
                      refine zr_iinc (pc := 53) (i := 3) (a := u3_) (n := 1) (L2 := [some (.ref 81), some (.int (Int32.ofInt a0_)), some (.int (Int32.ofInt u1_)), some (.int (Int32.ofInt (u3_ + 1)))]) rfl (by decide) rfl d_M_areAlike_53 ?_
                      refine zw_goto (pc := 56) (tgt := 12) (by decide) d_M_areAlike_56 ?_
                      exact ih_12 (u3_ + 1) (by (exact zo_74 i4_)) (by (exact zo_919 gb.2.1 hc_17)) (show 0 ≤ (u3_ + 1) by first | with_reducible assumption | (exact zo_76 i4_) | assumption) (by (exact zo_147 hc_17 hlt_12))
                    · skip
                      exact absurd hc_33 (by decide)
              · skip
                show zW l m_M_areAlike (zn Mz + 0, zw Mz + 0) Mz 25 [some (.ref 81), some (.int (Int32.ofInt a0_)), some (.int (Int32.ofInt u1_)), some (.int (Int32.ofInt u3_))] [.int (Int32.ofInt 0)] _
                refine zr_if_eq (pc := 25) (tgt := 53) ⟨(by decide), (by decide)⟩ (by decide) (zdal_p dlC_M_areAlike_148 (i := 15) rfl) (fun hc_25 => ?_) (fun hc_25 => ?_)
                · skip
                  refine zr_iinc (pc := 53) (i := 3) (a := u3_) (n := 1) (L2 := [some (.ref 81), some (.int (Int32.ofInt a0_)), some (.int (Int32.ofInt u1_)), some (.int (Int32.ofInt (u3_ + 1)))]) rfl (by decide) rfl d_M_areAlike_53 ?_
                  refine zw_goto (pc := 56) (tgt := 12) (by decide) d_M_areAlike_56 ?_
                  exact ih_12 (u3_ + 1) (by (exact zo_74 i4_)) (by (exact zo_919 gb.2.1 hc_17)) (show 0 ≤ (u3_ + 1) by first | with_reducible assumption | (exact zo_76 i4_) | assumption) (by (exact zo_147 hc_17 hlt_12))
                · skip
                  exact absurd hc_25 (by decide)
        exact lp_12 _ 0 (by decide) (by decide) (show 0 ≤ (0 : Int) by first | with_reducible assumption | (decide) | assumption) (Nat.lt_succ_self _)
  exact lp_2 _ 0 (by decide) (by decide) (show 0 ≤ (0 : Int) by first | with_reducible assumption | (decide) | assumption) (Nat.lt_succ_self _)
set_option maxHeartbeats 4000000 in
theorem c_M_areMembers (l : Launch) (Mz : zMem) (hW : zMt Mz) (a0_ : Int) (ha0_a : -2147483648 ≤ a0_) (ha0_b : a0_ < 2147483648) (T : zGT) (hO : gOK T) (p0_ : zGB T Mz) : zC l m_M_areMembers 0 0 [.ref 81, .int (Int32.ofInt a0_)] Mz (zpI [] [] Mz (fun v N => (((v = 1 ∧ gIn T a0_) ∨ (v = 0))))) := by
  refine zC_of (L0 := [some (.ref 81), some (.int (Int32.ofInt a0_))]) md_M_areMembers (Nat.le_of_ble_eq_true rfl) rfl ?_ zQ0
  have hf : zFr [] [] Mz Mz := zFr.rf
  have r_20 := ze_r Mz 81 20
  have hG := hO.1
  have g24 := hG.2.1
  have g1 := hG.1
  have dv0 : zTab T Mz := p0_.1
  have dv1 : zB 85 144 0 5 Mz := p0_.2.1
  have dv2 : zJX T Mz := p0_.2.2.1
  have dv3 : zFirs T Mz := p0_.2.2.2.1
  have dv4 : zSSm T Mz := p0_.2.2.2.2.1
  have dv5 : zGD Mz := zGB.d hO p0_
  have gb := dv5.1
  have gn := dv0.1
  refine zw_iload_n (pc := 0) (n := 1) (x := Int32.ofInt a0_) rfl (zdal_p dlD_M_areMembers_11 (i := 0) rfl) ?_
  refine zr_i2l (pc := 1) ⟨ha0_a, ha0_b⟩ (zdal_p dlD_M_areMembers_11 (i := 1) rfl) ?_
  refine zw_lconst (pc := 2) (v := Int64.ofInt 0) (by decide) (zdal_p dlD_M_areMembers_11 (i := 2) rfl) ?_
  refine zw_iconst (pc := 3) (v := Int32.ofInt 1) (by decide) (zdal_p dlD_M_areMembers_11 (i := 3) rfl) ?_
  refine zw_aload_n (pc := 4) (n := 0) (x := 81) rfl (zdal_p dlD_M_areMembers_11 (i := 4) rfl) ?_
  refine zr_getI0 hf hW (pc := 5) (by decide) f_M_196 rfl (zdal_p dlD_M_areMembers_11 (i := 5) rfl) ?_
  refine zr_ishl (pc := 8) (zdal_p dlD_M_areMembers_11 (i := 6) rfl) ?_
  have hr1_ := zshl_r 1 (ze Mz 81 20)
  have hsh := zshl_b hG gn
  refine zw_iconst (pc := 9) (v := Int32.ofInt 1) (by decide) (zdal_p dlD_M_areMembers_11 (i := 7) rfl) ?_
  refine zr_isub (pc := 10) (zdal_p dlD_M_areMembers_11 (i := 8) rfl) ?_
  refine zr_i2l (pc := 11) ⟨(by (exact zo_63 hsh.2.1)), (by (exact zo_601 hr1_.2))⟩ (zdal_p dlD_M_areMembers_11 (i := 9) rfl) ?_
  refine zr_callS hf.x (pc := 12) [.long (Int64.ofInt a0_), .long (Int64.ofInt 0), .long (Int64.ofInt ((zshl 1 (ze Mz 81 20)) - 1))] [] l_M_131 (c_M_isIn l Mz (hf.w hW) a0_ (by (exact zo_282 ha0_a)) (by (exact zo_283 ha0_b)) 0 (by decide) (by decide) ((zshl 1 (ze Mz 81 20)) - 1) (by (exact zo_2432 hsh.2.1)) (by omega)) rfl rfl (by decide) (Nat.le_of_ble_eq_true rfl) (zdal_p dlD_M_areMembers_11 (i := 10) rfl) ?_
  rintro _ N2_ ⟨v3_, rfl, ⟨hv3_a, hv3_b⟩, hsN2_, hp0_N2_⟩
  obtain rfl := hsN2_.eq.symm
  replace hp0_N2_ : ((v3_ = 1 ∧ 0 ≤ a0_ ∧ a0_ ≤ ((zshl 1 (ze Mz 81 20)) - 1)) ∨ (v3_ = 0 ∧ (a0_ < 0 ∨ ((zshl 1 (ze Mz 81 20)) - 1) < a0_))) := hp0_N2_
  rcases hp0_N2_ with ⟨rfl, ha12_0_hp0_N2_, ha12_1_hp0_N2_⟩ | ⟨rfl, ha12_0_hp0_N2_⟩
  · skip
    show zW l m_M_areMembers (zn Mz + 0, zw Mz + 0) Mz 15 [some (.ref 81), some (.int (Int32.ofInt a0_))] [.int (Int32.ofInt 1)] _
    exact zr_iret (pc := 15) (ty := .boolean) rfl (z_narB (by (decide))) ⟨by (exact hv3_a), by (exact hv3_b)⟩ hf (show ((1 = 1 ∧ gIn T a0_) ∨ (1 = 0)) from Or.inl (⟨(show 1 = 1 by first | (decide) | exact ⟨by omega, by omega⟩), (show gIn T a0_ by first | omega | exact ⟨by (exact ha12_0_hp0_N2_), by omega⟩)⟩)) (zdal_p dlD_M_areMembers_11 (i := 11) rfl)
  · skip
    show zW l m_M_areMembers (zn Mz + 0, zw Mz + 0) Mz 15 [some (.ref 81), some (.int (Int32.ofInt a0_))] [.int (Int32.ofInt 0)] _
    exact zr_iret (pc := 15) (ty := .boolean) rfl (z_narB (by (decide))) ⟨by (exact hv3_a), by (exact hv3_b)⟩ hf (show ((0 = 1 ∧ gIn T a0_) ∨ (0 = 0)) from Or.inr ((show 0 = 0 by first | with_reducible assumption | (decide) | assumption))) (zdal_p dlD_M_areMembers_11 (i := 11) rfl)
set_option maxHeartbeats 4000000 in
theorem c_M_alike (l : Launch) (Mz : zMem) (hW : zMt Mz) (T : zGT) (hO : gOK T) (p0_ : zGB T Mz) : zC l m_M_alike 0 0 [.ref 81] Mz (zpI [] [] Mz (fun v N => True)) := by
  refine zC_of (L0 := [some (.ref 81), none, none, none]) md_M_alike (Nat.le_of_ble_eq_true rfl) rfl ?_ zQ0
  have hf : zFr [] [] Mz Mz := zFr.rf
  have r_20 := ze_r Mz 81 20
  have hG := hO.1
  have g24 := hG.2.1
  have g1 := hG.1
  have dv0 : zTab T Mz := p0_.1
  have dv1 : zB 85 144 0 5 Mz := p0_.2.1
  have dv2 : zJX T Mz := p0_.2.2.1
  have dv3 : zFirs T Mz := p0_.2.2.2.1
  have dv4 : zSSm T Mz := p0_.2.2.2.2.1
  have dv5 : zGD Mz := zGB.d hO p0_
  have gb := dv5.1
  have gn := dv0.1
  refine zw_iconst (pc := 0) (v := Int32.ofInt 0) (by decide) (zdal_p dlD_M_alike_8 (i := 0) rfl) ?_
  refine zw_istore_n (pc := 1) (i := 1) (L2 := [some (.ref 81), some (.int (Int32.ofInt 0)), none, none]) rfl (by decide) rfl (zdal_p dlD_M_alike_8 (i := 1) rfl) ?_
  refine zw_iconst (pc := 2) (v := Int32.ofInt 0) (by decide) (zdal_p dlD_M_alike_8 (i := 2) rfl) ?_
  refine zw_istore_n (pc := 3) (i := 2) (L2 := [some (.ref 81), some (.int (Int32.ofInt 0)), some (.int (Int32.ofInt 0)), none]) rfl (by decide) rfl (zdal_p dlD_M_alike_8 (i := 3) rfl) ?_
  have lp_4 : ∀ (n : Nat) (u1_ : Int) (hu1_a : -2147483648 ≤ u1_) (hu1_b : u1_ < 2147483648) (u2_ : Int) (hu2_a : -2147483648 ≤ u2_) (hu2_b : u2_ < 2147483648) (i3_ : 0 ≤ u2_), (ze Mz 81 20 - u2_).toNat < n → zW l m_M_alike (zn Mz + 0, zw Mz + 0) Mz 4 [some (.ref 81), some (.int (Int32.ofInt u1_)), some (.int (Int32.ofInt u2_)), none] [] (zpI [] [] Mz (fun v N => True)) := by
    intro n
    induction n with
    | zero =>
      intro u1_ hu1_a hu1_b u2_ hu2_a hu2_b i3_ h0
      exact absurd h0 (Nat.not_lt_zero _)
    | succ n ih_4 =>
      intro u1_ hu1_a hu1_b u2_ hu2_a hu2_b i3_ hlt_4
      refine zw_iload_n (pc := 4) (n := 2) (x := Int32.ofInt u2_) rfl (zdal_p dlD_M_alike_8 (i := 4) rfl) ?_
      refine zw_aload_n (pc := 5) (n := 0) (x := 81) rfl (zdal_p dlD_M_alike_8 (i := 5) rfl) ?_
      refine zr_getI0 hf hW (pc := 6) (by decide) f_M_196 rfl (zdal_p dlD_M_alike_8 (i := 6) rfl) ?_
      refine zr_icmp_ge (pc := 9) (tgt := 60) ⟨hu2_a, hu2_b⟩ ⟨(ze_r Mz 81 20).1, (ze_r Mz 81 20).2⟩ (by decide) (zdal_p dlD_M_alike_8 (i := 7) rfl) (fun hc_9 => ?_) (fun hc_9 => ?_)
      · skip
        refine zw_iload_n (pc := 60) (n := 1) (x := Int32.ofInt u1_) rfl (zdal_p dlD_M_alike_9 (i := 10) rfl) ?_
        exact zr_iret (pc := 61) (ty := .int) rfl rfl ⟨by (exact hu1_a), by (exact hu1_b)⟩ hf trivial (zdal_p dlD_M_alike_9 (i := 11) rfl)
      · skip
        refine zw_iconst (pc := 12) (v := Int32.ofInt 0) (by decide) (zdal_p dlD_M_alike_8 (i := 8) rfl) ?_
        refine zw_istore_n (pc := 13) (i := 3) (L2 := [some (.ref 81), some (.int (Int32.ofInt u1_)), some (.int (Int32.ofInt u2_)), some (.int (Int32.ofInt 0))]) rfl (by decide) rfl (zdal_p dlD_M_alike_8 (i := 9) rfl) ?_
        have lp_14 : ∀ (n : Nat) (u4_ : Int) (hu4_a : -2147483648 ≤ u4_) (hu4_b : u4_ < 2147483648) (u5_ : Int) (hu5_a : -2147483648 ≤ u5_) (hu5_b : u5_ < 2147483648) (i6_ : 0 ≤ u5_), (ze Mz 81 20 - u5_).toNat < n → zW l m_M_alike (zn Mz + 0, zw Mz + 0) Mz 14 [some (.ref 81), some (.int (Int32.ofInt u4_)), some (.int (Int32.ofInt u2_)), some (.int (Int32.ofInt u5_))] [] (zpI [] [] Mz (fun v N => True)) := by
          intro n
          induction n with
          | zero =>
            intro u4_ hu4_a hu4_b u5_ hu5_a hu5_b i6_ h0
            exact absurd h0 (Nat.not_lt_zero _)
          | succ n ih_14 =>
            intro u4_ hu4_a hu4_b u5_ hu5_a hu5_b i6_ hlt_14
            refine zw_iload_n (pc := 14) (n := 3) (x := Int32.ofInt u5_) rfl (zdal_p dlD_M_alike_8 (i := 10) rfl) ?_
            refine zw_aload_n (pc := 15) (n := 0) (x := 81) rfl (zdal_p dlD_M_alike_8 (i := 11) rfl) ?_
            refine zr_getI0 hf hW (pc := 16) (by decide) f_M_196 rfl (zdal_p dlD_M_alike_8 (i := 12) rfl) ?_
            refine zr_icmp_ge (pc := 19) (tgt := 54) ⟨hu5_a, hu5_b⟩ ⟨(ze_r Mz 81 20).1, (ze_r Mz 81 20).2⟩ (by decide) (zdal_p dlD_M_alike_8 (i := 13) rfl) (fun hc_19 => ?_) (fun hc_19 => ?_)
            · skip
              refine zr_iinc (pc := 54) (i := 2) (a := u2_) (n := 1) (L2 := [some (.ref 81), some (.int (Int32.ofInt u4_)), some (.int (Int32.ofInt (u2_ + 1))), some (.int (Int32.ofInt u5_))]) rfl (by decide) rfl (zdal_p dlD_M_alike_9 (i := 8) rfl) ?_
              refine zw_goto (pc := 57) (tgt := 4) (by decide) (zdal_p dlD_M_alike_9 (i := 9) rfl) ?_
              refine zW_le [some (.ref 81), some (.int (Int32.ofInt u4_)), some (.int (Int32.ofInt (u2_ + 1))), none] (⟨rfl, rfl, rfl, trivial⟩) ?_
              exact ih_4 u4_ hu4_a hu4_b (u2_ + 1) (by (exact zo_74 i3_)) (by (exact zo_919 gb.2.1 hc_9)) (show 0 ≤ (u2_ + 1) by first | with_reducible assumption | (exact zo_76 i3_) | assumption) (by (exact zo_147 hc_9 hlt_4))
            · skip
              refine zw_iload_n (pc := 22) (n := 1) (x := Int32.ofInt u4_) rfl (zdal_p dlD_M_alike_8 (i := 14) rfl) ?_
              refine zw_aload_n (pc := 23) (n := 0) (x := 81) rfl (zdal_p dlD_M_alike_8 (i := 15) rfl) ?_
              refine zw_iload_n (pc := 24) (n := 2) (x := Int32.ofInt u2_) rfl (zdal_p dlD_M_alike_8 (i := 16) rfl) ?_
              refine zw_iload_n (pc := 25) (n := 3) (x := Int32.ofInt u5_) rfl (zdal_p dlD_M_alike_8 (i := 17) rfl) ?_
              refine zr_callV (hf.w hW) hf.x (pc := 26) [.int (Int32.ofInt u2_), .int (Int32.ofInt u5_)] [.int (Int32.ofInt u4_)] l_M_216 (c_M_by l Mz (hf.w hW) u2_ hu2_a hu2_b u5_ hu5_a hu5_b T hG dv0 (show 0 ≤ u2_ by first | with_reducible assumption | assumption | omega) (show u2_ < ze Mz 81 20 by first | with_reducible assumption | assumption | omega) (show 0 ≤ u5_ by first | with_reducible assumption | assumption | omega) (show u5_ < ze Mz 81 20 by first | with_reducible assumption | assumption | omega)) rfl rfl rfl (by decide) (Nat.le_of_ble_eq_true rfl) (zdal_p dlD_M_alike_8 (i := 18) rfl) ?_
              rintro _ N7_ ⟨v8_, rfl, ⟨hv8_a, hv8_b⟩, hsN7_, ⟨hp0_N7_, hp1_N7_, hp2_N7_⟩⟩
              obtain rfl := hsN7_.eq.symm
              show zW l m_M_alike (zn Mz + 0, zw Mz + 0) Mz 29 [some (.ref 81), some (.int (Int32.ofInt u4_)), some (.int (Int32.ofInt u2_)), some (.int (Int32.ofInt u5_))] [.int (Int32.ofInt v8_), .int (Int32.ofInt u4_)] (zpI [] [] Mz (fun v N => True))
              refine zw_aload_n (pc := 29) (n := 0) (x := 81) rfl (zdal_p dlD_M_alike_8 (i := 19) rfl) ?_
              refine zw_iload_n (pc := 30) (n := 3) (x := Int32.ofInt u5_) rfl (zdal_p dlD_M_alike_8 (i := 20) rfl) ?_
              refine zw_iload_n (pc := 31) (n := 2) (x := Int32.ofInt u2_) rfl (zdal_p dlD_M_alike_8 (i := 21) rfl) ?_
              refine zr_callV (hf.w hW) hf.x (pc := 32) [.int (Int32.ofInt u5_), .int (Int32.ofInt u2_)] [.int (Int32.ofInt v8_), .int (Int32.ofInt u4_)] l_M_216 (c_M_by l Mz (hf.w hW) u5_ hu5_a hu5_b u2_ hu2_a hu2_b T hG dv0 (show 0 ≤ u5_ by first | with_reducible assumption | assumption | omega) (show u5_ < ze Mz 81 20 by first | with_reducible assumption | assumption | omega) (show 0 ≤ u2_ by first | with_reducible assumption | assumption | omega) (show u2_ < ze Mz 81 20 by first | with_reducible assumption | assumption | omega)) rfl rfl rfl (by decide) (Nat.le_of_ble_eq_true rfl) (zdal_p dlD_M_alike_8 (i := 22) rfl) ?_
              rintro _ N9_ ⟨v10_, rfl, ⟨hv10_a, hv10_b⟩, hsN9_, ⟨hp0_N9_, hp1_N9_, hp2_N9_⟩⟩
              obtain rfl := hsN9_.eq.symm
              show zW l m_M_alike (zn Mz + 0, zw Mz + 0) Mz 35 [some (.ref 81), some (.int (Int32.ofInt u4_)), some (.int (Int32.ofInt u2_)), some (.int (Int32.ofInt u5_))] [.int (Int32.ofInt v10_), .int (Int32.ofInt v8_), .int (Int32.ofInt u4_)] (zpI [] [] Mz (fun v N => True))
              refine zr_icmp_ne (pc := 35) (tgt := 42) ⟨hv8_a, hv8_b⟩ ⟨hv10_a, hv10_b⟩ (by decide) (zdal_p dlD_M_alike_8 (i := 23) rfl) (fun hc_35 => ?_) (fun hc_35 => ?_)
              · skip
                refine zw_iconst (pc := 42) (v := Int32.ofInt 0) (by decide) (zdal_p dlD_M_alike_9 (i := 2) rfl) ?_
                refine zr_callS hf.x (pc := 43) [.int (Int32.ofInt 0)] [.int (Int32.ofInt u4_)] l_M_256 (c_M_truth l Mz (hf.w hW) 0 (by decide) (by decide) (by (decide))) rfl rfl (by decide) (Nat.le_of_ble_eq_true rfl) (zdal_p dlD_M_alike_9 (i := 3) rfl) ?_
                rintro _ N11_ ⟨v12_, rfl, ⟨hv12_a, hv12_b⟩, hsN11_, hp0_N11_⟩
                obtain rfl := hsN11_.eq.symm
                replace hp0_N11_ : v12_ = 0 := hp0_N11_
                show zW l m_M_alike (zn Mz + 0, zw Mz + 0) Mz 46 [some (.ref 81), some (.int (Int32.ofInt u4_)), some (.int (Int32.ofInt u2_)), some (.int (Int32.ofInt u5_))] [.int (Int32.ofInt v12_), .int (Int32.ofInt u4_)] (zpI [] [] Mz (fun v N => True))
                refine zr_iadd (pc := 46) (zdal_p dlD_M_alike_9 (i := 4) rfl) ?_
                refine zr_nmI (fun v13_ hv13_ => ?_)
                obtain ⟨hv13_a, hv13_b⟩ := hv13_
                refine zw_istore_n (pc := 47) (i := 1) (L2 := [some (.ref 81), some (.int (Int32.ofInt v13_)), some (.int (Int32.ofInt u2_)), some (.int (Int32.ofInt u5_))]) rfl (by decide) rfl (zdal_p dlD_M_alike_9 (i := 5) rfl) ?_
                refine zr_iinc (pc := 48) (i := 3) (a := u5_) (n := 1) (L2 := [some (.ref 81), some (.int (Int32.ofInt v13_)), some (.int (Int32.ofInt u2_)), some (.int (Int32.ofInt (u5_ + 1)))]) rfl (by decide) rfl (zdal_p dlD_M_alike_9 (i := 6) rfl) ?_
                refine zw_goto (pc := 51) (tgt := 14) (by decide) (zdal_p dlD_M_alike_9 (i := 7) rfl) ?_
                exact ih_14 v13_ hv13_a hv13_b (u5_ + 1) (by (exact zo_74 i6_)) (by (exact zo_919 gb.2.1 hc_19)) (show 0 ≤ (u5_ + 1) by first | with_reducible assumption | (exact zo_76 i6_) | assumption) (by (exact zo_147 hc_19 hlt_14))
              · skip
                refine zw_iconst (pc := 38) (v := Int32.ofInt 1) (by decide) (zdal_p dlD_M_alike_9 (i := 0) rfl) ?_
                refine zw_goto (pc := 39) (tgt := 43) (by decide) (zdal_p dlD_M_alike_9 (i := 1) rfl) ?_
                refine zr_callS hf.x (pc := 43) [.int (Int32.ofInt 1)] [.int (Int32.ofInt u4_)] l_M_256 (c_M_truth l Mz (hf.w hW) 1 (by decide) (by decide) (by (decide))) rfl rfl (by decide) (Nat.le_of_ble_eq_true rfl) (zdal_p dlD_M_alike_9 (i := 3) rfl) ?_
                rintro _ N14_ ⟨v15_, rfl, ⟨hv15_a, hv15_b⟩, hsN14_, hp0_N14_⟩
                obtain rfl := hsN14_.eq.symm
                replace hp0_N14_ : v15_ = 1 := hp0_N14_
                show zW l m_M_alike (zn Mz + 0, zw Mz + 0) Mz 46 [some (.ref 81), some (.int (Int32.ofInt u4_)), some (.int (Int32.ofInt u2_)), some (.int (Int32.ofInt u5_))] [.int (Int32.ofInt v15_), .int (Int32.ofInt u4_)] (zpI [] [] Mz (fun v N => True))
                refine zr_iadd (pc := 46) (zdal_p dlD_M_alike_9 (i := 4) rfl) ?_
                refine zr_nmI (fun v16_ hv16_ => ?_)
                obtain ⟨hv16_a, hv16_b⟩ := hv16_
                refine zw_istore_n (pc := 47) (i := 1) (L2 := [some (.ref 81), some (.int (Int32.ofInt v16_)), some (.int (Int32.ofInt u2_)), some (.int (Int32.ofInt u5_))]) rfl (by decide) rfl (zdal_p dlD_M_alike_9 (i := 5) rfl) ?_
                refine zr_iinc (pc := 48) (i := 3) (a := u5_) (n := 1) (L2 := [some (.ref 81), some (.int (Int32.ofInt v16_)), some (.int (Int32.ofInt u2_)), some (.int (Int32.ofInt (u5_ + 1)))]) rfl (by decide) rfl (zdal_p dlD_M_alike_9 (i := 6) rfl) ?_
                refine zw_goto (pc := 51) (tgt := 14) (by decide) (zdal_p dlD_M_alike_9 (i := 7) rfl) ?_
                exact ih_14 v16_ hv16_a hv16_b (u5_ + 1) (by (exact zo_74 i6_)) (by (exact zo_919 gb.2.1 hc_19)) (show 0 ≤ (u5_ + 1) by first | with_reducible assumption | (exact zo_76 i6_) | assumption) (by (exact zo_147 hc_19 hlt_14))
        exact lp_14 _ u1_ hu1_a hu1_b 0 (by decide) (by decide) (show 0 ≤ (0 : Int) by first | with_reducible assumption | (decide) | assumption) (Nat.lt_succ_self _)
  exact lp_4 _ 0 (by decide) (by decide) 0 (by decide) (by decide) (show 0 ≤ (0 : Int) by first | with_reducible assumption | (decide) | assumption) (Nat.lt_succ_self _)
set_option maxHeartbeats 4000000 in
theorem c_M_makesOf (l : Launch) (Mz : zMem) (hW : zMt Mz) (a0_ : Int) (ha0_a : -2147483648 ≤ a0_) (ha0_b : a0_ < 2147483648) (T : zGT) (hO : gOK T) (p0_ : zGB T Mz) : zC l m_M_makesOf 0 0 [.ref 81, .int (Int32.ofInt a0_)] Mz (zpI [] [] Mz (fun v N => True)) := by
  refine zC_of (L0 := [some (.ref 81), some (.int (Int32.ofInt a0_))]) md_M_makesOf (Nat.le_of_ble_eq_true rfl) rfl ?_ zQ0
  have hf : zFr [] [] Mz Mz := zFr.rf
  have hG := hO.1
  have g24 := hG.2.1
  have g1 := hG.1
  have dv0 : zTab T Mz := p0_.1
  have dv1 : zB 85 144 0 5 Mz := p0_.2.1
  have dv2 : zJX T Mz := p0_.2.2.1
  have dv3 : zFirs T Mz := p0_.2.2.2.1
  have dv4 : zSSm T Mz := p0_.2.2.2.2.1
  have dv5 : zGD Mz := zGB.d hO p0_
  have gb := dv5.1
  have gn := dv0.1
  refine zw_aload_n (pc := 0) (n := 0) (x := 81) rfl (zdal_p dlD_M_makesOf_10 (i := 0) rfl) ?_
  refine zw_iload_n (pc := 1) (n := 1) (x := Int32.ofInt a0_) rfl (zdal_p dlD_M_makesOf_10 (i := 1) rfl) ?_
  refine zr_callV (hf.w hW) hf.x (pc := 2) [.int (Int32.ofInt a0_)] [] l_M_408 (c_M_areMembers l Mz (hf.w hW) a0_ ha0_a ha0_b T hO p0_) rfl rfl rfl (by decide) (Nat.le_of_ble_eq_true rfl) (zdal_p dlD_M_makesOf_10 (i := 2) rfl) ?_
  rintro _ N1_ ⟨v2_, rfl, ⟨hv2_a, hv2_b⟩, hsN1_, hp0_N1_⟩
  obtain rfl := hsN1_.eq.symm
  replace hp0_N1_ : ((v2_ = 1 ∧ gIn T a0_) ∨ (v2_ = 0)) := hp0_N1_
  rcases hp0_N1_ with ⟨rfl, ha2_0_hp0_N1_⟩ | rfl
  · skip
    show zW l m_M_makesOf (zn Mz + 0, zw Mz + 0) Mz 5 [some (.ref 81), some (.int (Int32.ofInt a0_))] [.int (Int32.ofInt 1)] (zpI [] [] Mz (fun v N => True))
    refine zr_if_eq (pc := 5) (tgt := 16) ⟨(by decide), (by decide)⟩ (by decide) (zdal_p dlD_M_makesOf_10 (i := 3) rfl) (fun hc_5 => ?_) (fun hc_5 => ?_)
    · skip
      exact absurd hc_5 (by decide)
    · skip
      refine zw_aload_n (pc := 8) (n := 0) (x := 81) rfl (zdal_p dlD_M_makesOf_10 (i := 4) rfl) ?_
      refine zw_iload_n (pc := 9) (n := 1) (x := Int32.ofInt a0_) rfl (zdal_p dlD_M_makesOf_10 (i := 5) rfl) ?_
      refine zr_callV (hf.w hW) hf.x (pc := 10) [.int (Int32.ofInt a0_)] [] l_M_229 (c_M_closed l Mz (hf.w hW) a0_ ha0_a ha0_b T hG dv0 (show gIn T a0_ by first | with_reducible assumption | assumption | omega)) rfl rfl rfl (by decide) (Nat.le_of_ble_eq_true rfl) (zdal_p dlD_M_makesOf_10 (i := 6) rfl) ?_
      rintro _ N3_ ⟨v4_, rfl, ⟨hv4_a, hv4_b⟩, hsN3_, ⟨hp0_N3_, hp1_N3_, hp2_N3_⟩⟩
      obtain rfl := hsN3_.eq.symm
      show zW l m_M_makesOf (zn Mz + 0, zw Mz + 0) Mz 13 [some (.ref 81), some (.int (Int32.ofInt a0_))] [.int (Int32.ofInt v4_)] (zpI [] [] Mz (fun v N => True))
      refine zw_goto (pc := 13) (tgt := 17) (by decide) (zdal_p dlD_M_makesOf_10 (i := 7) rfl) ?_
      exact zr_iret (pc := 17) (ty := .int) rfl rfl ⟨by (exact hv4_a), by (exact hv4_b)⟩ hf trivial (zdal_p dlD_M_makesOf_10 (i := 9) rfl)
  · skip
    show zW l m_M_makesOf (zn Mz + 0, zw Mz + 0) Mz 5 [some (.ref 81), some (.int (Int32.ofInt a0_))] [.int (Int32.ofInt 0)] (zpI [] [] Mz (fun v N => True))
    refine zr_if_eq (pc := 5) (tgt := 16) ⟨(by decide), (by decide)⟩ (by decide) (zdal_p dlD_M_makesOf_10 (i := 3) rfl) (fun hc_5 => ?_) (fun hc_5 => ?_)
    · skip
      refine zw_iconst (pc := 16) (v := Int32.ofInt (-1)) (by decide) (zdal_p dlD_M_makesOf_10 (i := 8) rfl) ?_
      exact zr_iret (pc := 17) (ty := .int) rfl rfl ⟨by (decide), by (decide)⟩ hf trivial (zdal_p dlD_M_makesOf_10 (i := 9) rfl)
    · skip
      exact absurd hc_5 (by decide)
set_option maxHeartbeats 4000000 in
theorem c_M_sortOfSet (l : Launch) (Mz : zMem) (hW : zMt Mz) (a0_ : Int) (ha0_a : -2147483648 ≤ a0_) (ha0_b : a0_ < 2147483648) (T : zGT) (hO : gOK T) (p0_ : zGB T Mz) (p1_ : gMe T a0_) : zC l m_M_sortOfSet 0 0 [.ref 81, .int (Int32.ofInt a0_)] Mz (zpI [] [] Mz (fun v N => 0 ≤ v ∧ v < ze Mz 81 26)) := by
  refine zC_of (L0 := [some (.ref 81), some (.int (Int32.ofInt a0_))]) md_M_sortOfSet (Nat.le_of_ble_eq_true rfl) rfl ?_ zQ0
  have hf : zFr [] [] Mz Mz := zFr.rf
  have r_25 := ze_r Mz 81 25
  have r_26 := ze_r Mz 81 26
  have hG := hO.1
  have g24 := hG.2.1
  have g1 := hG.1
  have dv0 : zTab T Mz := p0_.1
  have dv1 : zB 85 144 0 5 Mz := p0_.2.1
  have dv2 : zJX T Mz := p0_.2.2.1
  have dv3 : zFirs T Mz := p0_.2.2.2.1
  have dv4 : zSSm T Mz := p0_.2.2.2.2.1
  have dv5 : zGD Mz := zGB.d hO p0_
  have gb := dv5.1
  have gn := dv0.1
  refine zw_aload_n (pc := 0) (n := 0) (x := 81) rfl (zdal_p dlD_M_sortOfSet_13 (i := 0) rfl) ?_
  refine zr_getF (r := 90) (hf.w hW) (pc := 1) f_M_41 rfl (zh_90 (hf.w hW)).1 (zdal_p dlD_M_sortOfSet_13 (i := 1) rfl) ?_
  refine zw_aload_n (pc := 4) (n := 0) (x := 81) rfl (zdal_p dlD_M_sortOfSet_13 (i := 2) rfl) ?_
  refine zw_iload_n (pc := 5) (n := 1) (x := Int32.ofInt a0_) rfl (zdal_p dlD_M_sortOfSet_13 (i := 3) rfl) ?_
  refine zr_callV (hf.w hW) hf.x (pc := 6) [.int (Int32.ofInt a0_)] [.ref 90] l_M_232 (c_M_subIndex l Mz (hf.w hW) a0_ ha0_a ha0_b (show 0 ≤ ze Mz 81 25 by first | with_reducible assumption | (exact zo_564 gb.2.2.1) | assumption) (show ze Mz 81 25 ≤ 128 by first | with_reducible assumption | (exact zo_579 gb.2.2.2.1) | assumption)) rfl rfl rfl (by decide) (Nat.le_of_ble_eq_true rfl) (zdal_p dlD_M_sortOfSet_13 (i := 4) rfl) ?_
  rintro _ N1_ ⟨v2_, rfl, ⟨hv2_a, hv2_b⟩, hsN1_, hp0_N1_⟩
  obtain rfl := hsN1_.eq.symm
  replace hp0_N1_ : ((0 ≤ v2_ ∧ v2_ < ze Mz 81 25 ∧ ze Mz 89 (v2_).toNat = a0_) ∨ (v2_ = -1 ∧ ∀ k : Nat, (k : Int) < ze Mz 81 25 → ze Mz 89 k ≠ a0_)) := hp0_N1_
  rcases hp0_N1_ with ⟨ha6_0_hp0_N1_, ha6_1_hp0_N1_, ha6_2_hp0_N1_⟩ | ⟨rfl, ha6_0_hp0_N1_⟩
  · skip
    show zW l m_M_sortOfSet (zn Mz + 0, zw Mz + 0) Mz 9 [some (.ref 81), some (.int (Int32.ofInt a0_))] [.int (Int32.ofInt v2_), .ref 90] _
    have hs := dv4 (v2_).toNat (by (exact zo_587 ha6_0_hp0_N1_ ha6_1_hp0_N1_))
    refine zr_ialdn (pc := 9) (zh_90 (hf.w hW)).2 (by decide) (by (exact ha6_0_hp0_N1_)) (by omega) (zdal_p dlD_M_sortOfSet_13 (i := 5) rfl) (fun v3_ hv3_ hv3_a hv3_b => ?_)
    exact zr_iret (pc := 10) (ty := .int) rfl rfl ⟨by (exact hv3_a), by (exact hv3_b)⟩ hf ⟨(show 0 ≤ v3_ by first | with_reducible assumption | (exact zo_574 hs.1 hv3_ hv3_a) | assumption), (show v3_ < ze Mz 81 26 by first | with_reducible assumption | assumption | omega)⟩ (zdal_p dlD_M_sortOfSet_13 (i := 6) rfl)
  · skip
    obtain ⟨i0, hi0, hi1⟩ := (p1_).f hO dv2
    exact absurd hi1 (ha6_0_hp0_N1_ i0 hi0)
set_option maxHeartbeats 4000000 in
theorem c_M_meet (l : Launch) (Mz : zMem) (hW : zMt Mz) (a0_ : Int) (ha0_a : -2147483648 ≤ a0_) (ha0_b : a0_ < 2147483648) (a1_ : Int) (ha1_a : -2147483648 ≤ a1_) (ha1_b : a1_ < 2147483648) (T : zGT) (hO : gOK T) (p0_ : zGB T Mz) : zC l m_M_meet 0 0 [.ref 81, .int (Int32.ofInt a0_), .int (Int32.ofInt a1_)] Mz (zpI [] [] Mz (fun v N => True)) := by
  refine zC_of (L0 := [some (.ref 81), some (.int (Int32.ofInt a0_)), some (.int (Int32.ofInt a1_))]) md_M_meet (Nat.le_of_ble_eq_true rfl) rfl ?_ zQ0
  have hf : zFr [] [] Mz Mz := zFr.rf
  have r_26 := ze_r Mz 81 26
  have hG := hO.1
  have g24 := hG.2.1
  have g1 := hG.1
  have dv0 : zTab T Mz := p0_.1
  have dv1 : zB 85 144 0 5 Mz := p0_.2.1
  have dv2 : zJX T Mz := p0_.2.2.1
  have dv3 : zFirs T Mz := p0_.2.2.2.1
  have dv4 : zSSm T Mz := p0_.2.2.2.2.1
  have dv5 : zGD Mz := zGB.d hO p0_
  have gb := dv5.1
  have gn := dv0.1
  refine zw_aload_n (pc := 0) (n := 0) (x := 81) rfl (zdal_p dlD_M_meet_21 (i := 0) rfl) ?_
  refine zw_iload_n (pc := 1) (n := 1) (x := Int32.ofInt a0_) rfl (zdal_p dlD_M_meet_21 (i := 1) rfl) ?_
  refine zr_callV (hf.w hW) hf.x (pc := 2) [.int (Int32.ofInt a0_)] [] l_M_414 (c_M_isSort l Mz (hf.w hW) a0_ ha0_a ha0_b T hO p0_) rfl rfl rfl (by decide) (Nat.le_of_ble_eq_true rfl) (zdal_p dlD_M_meet_21 (i := 2) rfl) ?_
  rintro _ N1_ ⟨v2_, rfl, ⟨hv2_a, hv2_b⟩, hsN1_, hp0_N1_⟩
  obtain rfl := hsN1_.eq.symm
  replace hp0_N1_ : ((v2_ = 1 ∧ 0 ≤ a0_ ∧ a0_ < ze Mz 81 26) ∨ (v2_ = 0)) := hp0_N1_
  rcases hp0_N1_ with ⟨rfl, ha2_0_hp0_N1_, ha2_1_hp0_N1_⟩ | rfl
  · skip
    show zW l m_M_meet (zn Mz + 0, zw Mz + 0) Mz 5 [some (.ref 81), some (.int (Int32.ofInt a0_)), some (.int (Int32.ofInt a1_))] [.int (Int32.ofInt 1)] (zpI [] [] Mz (fun v N => True))
    refine zr_if_eq (pc := 5) (tgt := 16) ⟨(by decide), (by decide)⟩ (by decide) (zdal_p dlD_M_meet_21 (i := 3) rfl) (fun hc_5 => ?_) (fun hc_5 => ?_)
    · skip
      exact absurd hc_5 (by decide)
    · skip
      refine zw_aload_n (pc := 8) (n := 0) (x := 81) rfl (zdal_p dlD_M_meet_21 (i := 4) rfl) ?_
      refine zw_iload_n (pc := 9) (n := 2) (x := Int32.ofInt a1_) rfl (zdal_p dlD_M_meet_21 (i := 5) rfl) ?_
      refine zr_callV (hf.w hW) hf.x (pc := 10) [.int (Int32.ofInt a1_)] [] l_M_414 (c_M_isSort l Mz (hf.w hW) a1_ ha1_a ha1_b T hO p0_) rfl rfl rfl (by decide) (Nat.le_of_ble_eq_true rfl) (zdal_p dlD_M_meet_21 (i := 6) rfl) ?_
      rintro _ N3_ ⟨v4_, rfl, ⟨hv4_a, hv4_b⟩, hsN3_, hp0_N3_⟩
      obtain rfl := hsN3_.eq.symm
      replace hp0_N3_ : ((v4_ = 1 ∧ 0 ≤ a1_ ∧ a1_ < ze Mz 81 26) ∨ (v4_ = 0)) := hp0_N3_
      rcases hp0_N3_ with ⟨rfl, ha10_0_hp0_N3_, ha10_1_hp0_N3_⟩ | rfl
      · skip
        show zW l m_M_meet (zn Mz + 0, zw Mz + 0) Mz 13 [some (.ref 81), some (.int (Int32.ofInt a0_)), some (.int (Int32.ofInt a1_))] [.int (Int32.ofInt 1)] (zpI [] [] Mz (fun v N => True))
        refine zr_if_ne (pc := 13) (tgt := 18) ⟨(by decide), (by decide)⟩ (by decide) (zdal_p dlD_M_meet_21 (i := 7) rfl) (fun hc_13 => ?_) (fun hc_13 => ?_)
        · skip
          refine zw_aload_n (pc := 18) (n := 0) (x := 81) rfl (zdal_p dlD_M_meet_21 (i := 10) rfl) ?_
          refine zw_aload_n (pc := 19) (n := 0) (x := 81) rfl (zdal_p dlD_M_meet_21 (i := 11) rfl) ?_
          refine zr_getF (r := 91) (hf.w hW) (pc := 20) f_M_44 rfl (zh_91 (hf.w hW)).1 (zdal_p dlD_M_meet_21 (i := 12) rfl) ?_
          refine zw_iload_n (pc := 23) (n := 1) (x := Int32.ofInt a0_) rfl (zdal_p dlD_M_meet_21 (i := 13) rfl) ?_
          refine zr_ialdn (pc := 24) (zh_91 (hf.w hW)).2 (by decide) (by omega) (by omega) (zdal_p dlD_M_meet_21 (i := 14) rfl) (fun v5_ hv5_ hv5_a hv5_b => ?_)
          have h1 := dv3.g hO (e := a0_) (by omega) (by omega)
          refine zr_toI (show v5_ = ze Mz 91 (a0_).toNat by omega) ?_
          refine zw_aload_n (pc := 25) (n := 0) (x := 81) rfl (zdal_p dlD_M_meet_21 (i := 15) rfl) ?_
          refine zr_getF (r := 91) (hf.w hW) (pc := 26) f_M_44 rfl (zh_91 (hf.w hW)).1 (zdal_p dlD_M_meet_21 (i := 16) rfl) ?_
          refine zw_iload_n (pc := 29) (n := 2) (x := Int32.ofInt a1_) rfl (zdal_p dlD_M_meet_21 (i := 17) rfl) ?_
          refine zr_ialdn (pc := 30) (zh_91 (hf.w hW)).2 (by decide) (by omega) (by omega) (zdal_p dlD_M_meet_21 (i := 18) rfl) (fun v6_ hv6_ hv6_a hv6_b => ?_)
          have h2 := dv3.g hO (e := a1_) (by omega) (by omega)
          refine zr_toI (show v6_ = ze Mz 91 (a1_).toNat by omega) ?_
          refine zr_iand (pc := 31) (zdal_p dlD_M_meet_21 (i := 19) rfl) ?_
          have hr7_ := zand_r (ze Mz 91 (a0_).toNat) (ze Mz 91 (a1_).toNat)
          refine zr_callV (hf.w hW) hf.x (pc := 32) [.int (Int32.ofInt (zand (ze Mz 91 (a0_).toNat) (ze Mz 91 (a1_).toNat)))] [] l_M_411 (c_M_sortOfSet l Mz (hf.w hW) (zand (ze Mz 91 (a0_).toNat) (ze Mz 91 (a1_).toNat)) (by omega) (by omega) T hO p0_ (show gMe T (zand (ze Mz 91 (a0_).toNat) (ze Mz 91 (a1_).toNat)) by exact gMe_a hO h1.1 h2.1)) rfl rfl rfl (by decide) (Nat.le_of_ble_eq_true rfl) (zdal_p dlD_M_meet_21 (i := 20) rfl) ?_
          rintro _ N8_ ⟨v9_, rfl, ⟨hv9_a, hv9_b⟩, hsN8_, ⟨hp0_N8_, hp1_N8_⟩⟩
          obtain rfl := hsN8_.eq.symm
          show zW l m_M_meet (zn Mz + 0, zw Mz + 0) Mz 35 [some (.ref 81), some (.int (Int32.ofInt a0_)), some (.int (Int32.ofInt a1_))] [.int (Int32.ofInt v9_)] (zpI [] [] Mz (fun v N => True))
          exact zr_iret (pc := 35) (ty := .int) rfl rfl ⟨by omega, by omega⟩ hf trivial (zdal_p dlD_M_meet_21 (i := 21) rfl)
        · skip
          exact absurd hc_13 (by decide)
      · skip
        show zW l m_M_meet (zn Mz + 0, zw Mz + 0) Mz 13 [some (.ref 81), some (.int (Int32.ofInt a0_)), some (.int (Int32.ofInt a1_))] [.int (Int32.ofInt 0)] (zpI [] [] Mz (fun v N => True))
        refine zr_if_ne (pc := 13) (tgt := 18) ⟨(by decide), (by decide)⟩ (by decide) (zdal_p dlD_M_meet_21 (i := 7) rfl) (fun hc_13 => ?_) (fun hc_13 => ?_)
        · skip
          exact absurd hc_13 (by decide)
        · skip
          refine zw_iconst (pc := 16) (v := Int32.ofInt (-1)) (by decide) (zdal_p dlD_M_meet_21 (i := 8) rfl) ?_
          exact zr_iret (pc := 17) (ty := .int) rfl rfl ⟨by omega, by omega⟩ hf trivial (zdal_p dlD_M_meet_21 (i := 9) rfl)
  · skip
    show zW l m_M_meet (zn Mz + 0, zw Mz + 0) Mz 5 [some (.ref 81), some (.int (Int32.ofInt a0_)), some (.int (Int32.ofInt a1_))] [.int (Int32.ofInt 0)] (zpI [] [] Mz (fun v N => True))
    refine zr_if_eq (pc := 5) (tgt := 16) ⟨(by decide), (by decide)⟩ (by decide) (zdal_p dlD_M_meet_21 (i := 3) rfl) (fun hc_5 => ?_) (fun hc_5 => ?_)
    · skip
      refine zw_iconst (pc := 16) (v := Int32.ofInt (-1)) (by decide) (zdal_p dlD_M_meet_21 (i := 8) rfl) ?_
      exact zr_iret (pc := 17) (ty := .int) rfl rfl ⟨by omega, by omega⟩ hf trivial (zdal_p dlD_M_meet_21 (i := 9) rfl)
    · skip
      exact absurd hc_5 (by decide)
set_option maxHeartbeats 4000000 in
theorem c_M_join (l : Launch) (Mz : zMem) (hW : zMt Mz) (a0_ : Int) (ha0_a : -2147483648 ≤ a0_) (ha0_b : a0_ < 2147483648) (a1_ : Int) (ha1_a : -2147483648 ≤ a1_) (ha1_b : a1_ < 2147483648) (T : zGT) (hO : gOK T) (p0_ : zGB T Mz) : zC l m_M_join 0 0 [.ref 81, .int (Int32.ofInt a0_), .int (Int32.ofInt a1_)] Mz (zpI [] [] Mz (fun v N => True)) := by
  refine zC_of (L0 := [some (.ref 81), some (.int (Int32.ofInt a0_)), some (.int (Int32.ofInt a1_))]) md_M_join (Nat.le_of_ble_eq_true rfl) rfl ?_ zQ0
  have hf : zFr [] [] Mz Mz := zFr.rf
  have r_26 := ze_r Mz 81 26
  have hG := hO.1
  have g24 := hG.2.1
  have g1 := hG.1
  have dv0 : zTab T Mz := p0_.1
  have dv1 : zB 85 144 0 5 Mz := p0_.2.1
  have dv2 : zJX T Mz := p0_.2.2.1
  have dv3 : zFirs T Mz := p0_.2.2.2.1
  have dv4 : zSSm T Mz := p0_.2.2.2.2.1
  have dv5 : zGD Mz := zGB.d hO p0_
  have gb := dv5.1
  have gn := dv0.1
  refine zw_aload_n (pc := 0) (n := 0) (x := 81) rfl (zdal_p dlD_M_join_22 (i := 0) rfl) ?_
  refine zw_iload_n (pc := 1) (n := 1) (x := Int32.ofInt a0_) rfl (zdal_p dlD_M_join_22 (i := 1) rfl) ?_
  refine zr_callV (hf.w hW) hf.x (pc := 2) [.int (Int32.ofInt a0_)] [] l_M_414 (c_M_isSort l Mz (hf.w hW) a0_ ha0_a ha0_b T hO p0_) rfl rfl rfl (by decide) (Nat.le_of_ble_eq_true rfl) (zdal_p dlD_M_join_22 (i := 2) rfl) ?_
  rintro _ N1_ ⟨v2_, rfl, ⟨hv2_a, hv2_b⟩, hsN1_, hp0_N1_⟩
  obtain rfl := hsN1_.eq.symm
  replace hp0_N1_ : ((v2_ = 1 ∧ 0 ≤ a0_ ∧ a0_ < ze Mz 81 26) ∨ (v2_ = 0)) := hp0_N1_
  rcases hp0_N1_ with ⟨rfl, ha2_0_hp0_N1_, ha2_1_hp0_N1_⟩ | rfl
  · skip
    show zW l m_M_join (zn Mz + 0, zw Mz + 0) Mz 5 [some (.ref 81), some (.int (Int32.ofInt a0_)), some (.int (Int32.ofInt a1_))] [.int (Int32.ofInt 1)] (zpI [] [] Mz (fun v N => True))
    refine zr_if_eq (pc := 5) (tgt := 16) ⟨(by decide), (by decide)⟩ (by decide) (zdal_p dlD_M_join_22 (i := 3) rfl) (fun hc_5 => ?_) (fun hc_5 => ?_)
    · skip
      exact absurd hc_5 (by decide)
    · skip
      refine zw_aload_n (pc := 8) (n := 0) (x := 81) rfl (zdal_p dlD_M_join_22 (i := 4) rfl) ?_
      refine zw_iload_n (pc := 9) (n := 2) (x := Int32.ofInt a1_) rfl (zdal_p dlD_M_join_22 (i := 5) rfl) ?_
      refine zr_callV (hf.w hW) hf.x (pc := 10) [.int (Int32.ofInt a1_)] [] l_M_414 (c_M_isSort l Mz (hf.w hW) a1_ ha1_a ha1_b T hO p0_) rfl rfl rfl (by decide) (Nat.le_of_ble_eq_true rfl) (zdal_p dlD_M_join_22 (i := 6) rfl) ?_
      rintro _ N3_ ⟨v4_, rfl, ⟨hv4_a, hv4_b⟩, hsN3_, hp0_N3_⟩
      obtain rfl := hsN3_.eq.symm
      replace hp0_N3_ : ((v4_ = 1 ∧ 0 ≤ a1_ ∧ a1_ < ze Mz 81 26) ∨ (v4_ = 0)) := hp0_N3_
      rcases hp0_N3_ with ⟨rfl, ha10_0_hp0_N3_, ha10_1_hp0_N3_⟩ | rfl
      · skip
        show zW l m_M_join (zn Mz + 0, zw Mz + 0) Mz 13 [some (.ref 81), some (.int (Int32.ofInt a0_)), some (.int (Int32.ofInt a1_))] [.int (Int32.ofInt 1)] (zpI [] [] Mz (fun v N => True))
        refine zr_if_ne (pc := 13) (tgt := 18) ⟨(by decide), (by decide)⟩ (by decide) (zdal_p dlD_M_join_22 (i := 7) rfl) (fun hc_13 => ?_) (fun hc_13 => ?_)
        · skip
          refine zw_aload_n (pc := 18) (n := 0) (x := 81) rfl (zdal_p dlD_M_join_22 (i := 10) rfl) ?_
          refine zw_aload_n (pc := 19) (n := 0) (x := 81) rfl (zdal_p dlD_M_join_22 (i := 11) rfl) ?_
          refine zw_aload_n (pc := 20) (n := 0) (x := 81) rfl (zdal_p dlD_M_join_22 (i := 12) rfl) ?_
          refine zr_getF (r := 91) (hf.w hW) (pc := 21) f_M_44 rfl (zh_91 (hf.w hW)).1 (zdal_p dlD_M_join_22 (i := 13) rfl) ?_
          refine zw_iload_n (pc := 24) (n := 1) (x := Int32.ofInt a0_) rfl (zdal_p dlD_M_join_22 (i := 14) rfl) ?_
          refine zr_ialdn (pc := 25) (zh_91 (hf.w hW)).2 (by decide) (by (exact ha2_0_hp0_N1_)) (by (exact zo_906 gb.2.2.2.2.2 ha0_b ha2_1_hp0_N1_)) (zdal_p dlD_M_join_22 (i := 15) rfl) (fun v5_ hv5_ hv5_a hv5_b => ?_)
          have h1 := dv3.g hO (e := a0_) (by (exact ha2_0_hp0_N1_)) (by (exact ha2_1_hp0_N1_))
          refine zr_toI (show v5_ = ze Mz 91 (a0_).toNat by (exact hv5_)) ?_
          refine zw_aload_n (pc := 26) (n := 0) (x := 81) rfl (zdal_p dlD_M_join_22 (i := 16) rfl) ?_
          refine zr_getF (r := 91) (hf.w hW) (pc := 27) f_M_44 rfl (zh_91 (hf.w hW)).1 (zdal_p dlD_M_join_22 (i := 17) rfl) ?_
          refine zw_iload_n (pc := 30) (n := 2) (x := Int32.ofInt a1_) rfl (zdal_p dlD_M_join_22 (i := 18) rfl) ?_
          refine zr_ialdn (pc := 31) (zh_91 (hf.w hW)).2 (by decide) (by (exact ha10_0_hp0_N3_)) (by (exact zo_837 gb.2.2.2.2.2 ha10_1_hp0_N3_ ha1_b)) (zdal_p dlD_M_join_22 (i := 19) rfl) (fun v6_ hv6_ hv6_a hv6_b => ?_)
          have h2 := dv3.g hO (e := a1_) (by (exact ha10_0_hp0_N3_)) (by (exact ha10_1_hp0_N3_))
          refine zr_toI (show v6_ = ze Mz 91 (a1_).toNat by (exact hv6_)) ?_
          refine zr_ior (pc := 32) (zdal_p dlD_M_join_22 (i := 20) rfl) ?_
          have hr7_ := zor_r (ze Mz 91 (a0_).toNat) (ze Mz 91 (a1_).toNat)
          refine zr_callV (hf.w hW) hf.x (pc := 33) [.int (Int32.ofInt (zor (ze Mz 91 (a0_).toNat) (ze Mz 91 (a1_).toNat)))] [.ref 81] l_M_229 (c_M_closed l Mz (hf.w hW) (zor (ze Mz 91 (a0_).toNat) (ze Mz 91 (a1_).toNat)) (by (exact zo_284 hr7_.1)) (by (exact zo_285 hr7_.2)) T hG dv0 (show gIn T (zor (ze Mz 91 (a0_).toNat) (ze Mz 91 (a1_).toNat)) by exact gIn_o hG (h1.1.i hO) (h2.1.i hO))) rfl rfl rfl (by decide) (Nat.le_of_ble_eq_true rfl) (zdal_p dlD_M_join_22 (i := 21) rfl) ?_
          rintro _ N8_ ⟨v9_, rfl, ⟨hv9_a, hv9_b⟩, hsN8_, ⟨hp0_N8_, hp1_N8_, hp2_N8_⟩⟩
          obtain rfl := hsN8_.eq.symm
          show zW l m_M_join (zn Mz + 0, zw Mz + 0) Mz 36 [some (.ref 81), some (.int (Int32.ofInt a0_)), some (.int (Int32.ofInt a1_))] [.int (Int32.ofInt v9_), .ref 81] (zpI [] [] Mz (fun v N => True))
          have hm_Mz := gMe_c hO hp0_N8_ (by (exact hp1_N8_))
          refine zr_callV (hf.w hW) hf.x (pc := 36) [.int (Int32.ofInt v9_)] [] l_M_411 (c_M_sortOfSet l Mz (hf.w hW) v9_ hv9_a hv9_b T hO p0_ (show gMe T v9_ by first | with_reducible assumption | assumption)) rfl rfl rfl (by decide) (Nat.le_of_ble_eq_true rfl) (zdal_p dlD_M_join_22 (i := 22) rfl) ?_
          rintro _ N10_ ⟨v11_, rfl, ⟨hv11_a, hv11_b⟩, hsN10_, ⟨hp0_N10_, hp1_N10_⟩⟩
          obtain rfl := hsN10_.eq.symm
          show zW l m_M_join (zn Mz + 0, zw Mz + 0) Mz 39 [some (.ref 81), some (.int (Int32.ofInt a0_)), some (.int (Int32.ofInt a1_))] [.int (Int32.ofInt v11_)] (zpI [] [] Mz (fun v N => True))
          exact zr_iret (pc := 39) (ty := .int) rfl rfl ⟨by (exact hv11_a), by (exact hv11_b)⟩ hf trivial (zdal_p dlD_M_join_22 (i := 23) rfl)
        · skip
          exact absurd hc_13 (by decide)
      · skip
        show zW l m_M_join (zn Mz + 0, zw Mz + 0) Mz 13 [some (.ref 81), some (.int (Int32.ofInt a0_)), some (.int (Int32.ofInt a1_))] [.int (Int32.ofInt 0)] (zpI [] [] Mz (fun v N => True))
        refine zr_if_ne (pc := 13) (tgt := 18) ⟨(by decide), (by decide)⟩ (by decide) (zdal_p dlD_M_join_22 (i := 7) rfl) (fun hc_13 => ?_) (fun hc_13 => ?_)
        · skip
          exact absurd hc_13 (by decide)
        · skip
          refine zw_iconst (pc := 16) (v := Int32.ofInt (-1)) (by decide) (zdal_p dlD_M_join_22 (i := 8) rfl) ?_
          exact zr_iret (pc := 17) (ty := .int) rfl rfl ⟨by (decide), by (decide)⟩ hf trivial (zdal_p dlD_M_join_22 (i := 9) rfl)
  · skip
    show zW l m_M_join (zn Mz + 0, zw Mz + 0) Mz 5 [some (.ref 81), some (.int (Int32.ofInt a0_)), some (.int (Int32.ofInt a1_))] [.int (Int32.ofInt 0)] (zpI [] [] Mz (fun v N => True))
    refine zr_if_eq (pc := 5) (tgt := 16) ⟨(by decide), (by decide)⟩ (by decide) (zdal_p dlD_M_join_22 (i := 3) rfl) (fun hc_5 => ?_) (fun hc_5 => ?_)
    · skip
      refine zw_iconst (pc := 16) (v := Int32.ofInt (-1)) (by decide) (zdal_p dlD_M_join_22 (i := 8) rfl) ?_
      exact zr_iret (pc := 17) (ty := .int) rfl rfl ⟨by (decide), by (decide)⟩ hf trivial (zdal_p dlD_M_join_22 (i := 9) rfl)
    · skip
      exact absurd hc_5 (by decide)
set_option maxHeartbeats 4000000 in
theorem c_M_isOfOne (l : Launch) (Mz : zMem) (hW : zMt Mz) (a0_ : Int) (ha0_a : -2147483648 ≤ a0_) (ha0_b : a0_ < 2147483648) (T : zGT) (hO : gOK T) (p0_ : zGB T Mz) (p1_ : 0 ≤ a0_) : zC l m_M_isOfOne 0 0 [.ref 81, .int (Int32.ofInt a0_)] Mz (zpI [] [] Mz (fun v N => ((v = 0 ∨ v = 1)))) := by
  refine zC_of (L0 := [some (.ref 81), some (.int (Int32.ofInt a0_)), none]) md_M_isOfOne (Nat.le_of_ble_eq_true rfl) rfl ?_ zQ0
  have hf : zFr [] [] Mz Mz := zFr.rf
  have r_20 := ze_r Mz 81 20
  have hG := hO.1
  have g24 := hG.2.1
  have g1 := hG.1
  have dv0 : zTab T Mz := p0_.1
  have dv1 : zB 85 144 0 5 Mz := p0_.2.1
  have dv2 : zJX T Mz := p0_.2.2.1
  have dv3 : zFirs T Mz := p0_.2.2.2.1
  have dv4 : zSSm T Mz := p0_.2.2.2.2.1
  have dv5 : zGD Mz := zGB.d hO p0_
  have gb := dv5.1
  have gn := dv0.1
  refine zw_iconst (pc := 0) (v := Int32.ofInt 0) (by decide) (zdal_p dlD_M_isOfOne_20 (i := 0) rfl) ?_
  refine zw_istore_n (pc := 1) (i := 2) (L2 := [some (.ref 81), some (.int (Int32.ofInt a0_)), some (.int (Int32.ofInt 0))]) rfl (by decide) rfl (zdal_p dlD_M_isOfOne_20 (i := 1) rfl) ?_
  have lp_2 : ∀ (n : Nat) (u1_ : Int) (hu1_a : -2147483648 ≤ u1_) (hu1_b : u1_ < 2147483648) (i2_ : 0 ≤ u1_), (ze Mz 81 20 - u1_).toNat < n → zW l m_M_isOfOne (zn Mz + 0, zw Mz + 0) Mz 2 [some (.ref 81), some (.int (Int32.ofInt a0_)), some (.int (Int32.ofInt u1_))] [] (zpI [] [] Mz (fun v N => ((v = 0 ∨ v = 1)))) := by
    intro n
    induction n with
    | zero =>
      intro u1_ hu1_a hu1_b i2_ h0
      exact absurd h0 (Nat.not_lt_zero _)
    | succ n ih_2 =>
      intro u1_ hu1_a hu1_b i2_ hlt_2
      refine zw_iload_n (pc := 2) (n := 2) (x := Int32.ofInt u1_) rfl (zdal_p dlD_M_isOfOne_20 (i := 2) rfl) ?_
      refine zw_aload_n (pc := 3) (n := 0) (x := 81) rfl (zdal_p dlD_M_isOfOne_20 (i := 3) rfl) ?_
      refine zr_getI0 hf hW (pc := 4) (by decide) f_M_196 rfl (zdal_p dlD_M_isOfOne_20 (i := 4) rfl) ?_
      refine zr_icmp_ge (pc := 7) (tgt := 37) ⟨hu1_a, hu1_b⟩ ⟨(ze_r Mz 81 20).1, (ze_r Mz 81 20).2⟩ (by decide) (zdal_p dlD_M_isOfOne_20 (i := 5) rfl) (fun hc_7 => ?_) (fun hc_7 => ?_)
      · skip
        refine zw_iconst (pc := 37) (v := Int32.ofInt 0) (by decide) (zdal_p dlD_M_isOfOne_20 (i := 21) rfl) ?_
        exact zr_iret (pc := 38) (ty := .boolean) rfl (z_narB (by (decide))) ⟨by (decide), by (decide)⟩ hf (show (0 = 0 ∨ 0 = 1) by first | with_reducible assumption | (decide) | assumption) (zdal_p dlD_M_isOfOne_20 (i := 22) rfl)
      · skip
        refine zw_iload_n (pc := 10) (n := 1) (x := Int32.ofInt a0_) rfl (zdal_p dlD_M_isOfOne_20 (i := 6) rfl) ?_
        refine zw_iload_n (pc := 11) (n := 2) (x := Int32.ofInt u1_) rfl (zdal_p dlD_M_isOfOne_20 (i := 7) rfl) ?_
        refine zr_callS hf.x (pc := 12) [.int (Int32.ofInt a0_), .int (Int32.ofInt u1_)] [] l_M_213 (c_M_holds l Mz (hf.w hW) a0_ ha0_a ha0_b u1_ hu1_a hu1_b (show 0 ≤ a0_ by first | with_reducible assumption | assumption | omega) (show 0 ≤ u1_ by first | with_reducible assumption | assumption | omega) (show u1_ < 32 by first | with_reducible assumption | (exact zo_918 gb.2.1 hc_7) | assumption)) rfl rfl (by decide) (Nat.le_of_ble_eq_true rfl) (zdal_p dlD_M_isOfOne_20 (i := 8) rfl) ?_
        rintro _ N3_ ⟨v4_, rfl, ⟨hv4_a, hv4_b⟩, hsN3_, hp0_N3_⟩
        obtain rfl := hsN3_.eq.symm
        replace hp0_N3_ : ((v4_ = 1 ∧ zbt a0_ u1_) ∨ (v4_ = 0 ∧ ¬ zbt a0_ u1_)) := hp0_N3_
        rcases hp0_N3_ with ⟨rfl, ha12_0_hp0_N3_⟩ | ⟨rfl, ha12_0_hp0_N3_⟩
        · skip
          show zW l m_M_isOfOne (zn Mz + 0, zw Mz + 0) Mz 15 [some (.ref 81), some (.int (Int32.ofInt a0_)), some (.int (Int32.ofInt u1_))] [.int (Int32.ofInt 1)] _
          refine zr_if_eq (pc := 15) (tgt := 31) ⟨(by decide), (by decide)⟩ (by decide) (zdal_p dlD_M_isOfOne_20 (i := 9) rfl) (fun hc_15 => ?_) (fun hc_15 => ?_)
          · skip
            exact absurd hc_15 (by decide)
          · skip
            refine zw_aload_n (pc := 18) (n := 0) (x := 81) rfl (zdal_p dlD_M_isOfOne_20 (i := 10) rfl) ?_
            refine zw_iconst (pc := 19) (v := Int32.ofInt 1) (by decide) (zdal_p dlD_M_isOfOne_20 (i := 11) rfl) ?_
            refine zw_iload_n (pc := 20) (n := 2) (x := Int32.ofInt u1_) rfl (zdal_p dlD_M_isOfOne_20 (i := 12) rfl) ?_
            refine zr_ishl (pc := 21) (zdal_p dlD_M_isOfOne_20 (i := 13) rfl) ?_
            have hr5_ := zshl_r 1 u1_
            have hsi := zshl_i hG (k := u1_) (by (exact i2_)) (by (exact zo_1014 gn hc_7))
            refine zr_callV (hf.w hW) hf.x (pc := 22) [.int (Int32.ofInt (zshl 1 u1_))] [] l_M_229 (c_M_closed l Mz (hf.w hW) (zshl 1 u1_) (by (exact zo_168 hsi.2.1)) (by (exact zo_285 hr5_.2)) T hG dv0 (show gIn T (zshl 1 u1_) by exact hsi.1)) rfl rfl rfl (by decide) (Nat.le_of_ble_eq_true rfl) (zdal_p dlD_M_isOfOne_20 (i := 14) rfl) ?_
            rintro _ N6_ ⟨v7_, rfl, ⟨hv7_a, hv7_b⟩, hsN6_, ⟨hp0_N6_, hp1_N6_, hp2_N6_⟩⟩
            obtain rfl := hsN6_.eq.symm
            show zW l m_M_isOfOne (zn Mz + 0, zw Mz + 0) Mz 25 [some (.ref 81), some (.int (Int32.ofInt a0_)), some (.int (Int32.ofInt u1_))] [.int (Int32.ofInt v7_)] _
            refine zw_iload_n (pc := 25) (n := 1) (x := Int32.ofInt a0_) rfl (zdal_p dlD_M_isOfOne_20 (i := 15) rfl) ?_
            refine zr_icmp_ne (pc := 26) (tgt := 31) ⟨hv7_a, hv7_b⟩ ⟨ha0_a, ha0_b⟩ (by decide) (zdal_p dlD_M_isOfOne_20 (i := 16) rfl) (fun hc_26 => ?_) (fun hc_26 => ?_)
            · skip
              refine zr_iinc (pc := 31) (i := 2) (a := u1_) (n := 1) (L2 := [some (.ref 81), some (.int (Int32.ofInt a0_)), some (.int (Int32.ofInt (u1_ + 1)))]) rfl (by decide) rfl (zdal_p dlD_M_isOfOne_20 (i := 19) rfl) ?_
              refine zw_goto (pc := 34) (tgt := 2) (by decide) (zdal_p dlD_M_isOfOne_20 (i := 20) rfl) ?_
              exact ih_2 (u1_ + 1) (by (exact zo_74 i2_)) (by (exact zo_919 gb.2.1 hc_7)) (show 0 ≤ (u1_ + 1) by first | with_reducible assumption | (exact zo_76 i2_) | assumption) (by (exact zo_147 hc_7 hlt_2))
            · skip
              refine zw_iconst (pc := 29) (v := Int32.ofInt 1) (by decide) (zdal_p dlD_M_isOfOne_20 (i := 17) rfl) ?_
              exact zr_iret (pc := 30) (ty := .boolean) rfl (z_narB (by (decide))) ⟨by (exact hv4_a), by (exact hv4_b)⟩ hf (show (1 = 0 ∨ 1 = 1) by first | with_reducible assumption | (decide) | assumption) (zdal_p dlD_M_isOfOne_20 (i := 18) rfl)
        · skip
          show zW l m_M_isOfOne (zn Mz + 0, zw Mz + 0) Mz 15 [some (.ref 81), some (.int (Int32.ofInt a0_)), some (.int (Int32.ofInt u1_))] [.int (Int32.ofInt 0)] _
          refine zr_if_eq (pc := 15) (tgt := 31) ⟨(by decide), (by decide)⟩ (by decide) (zdal_p dlD_M_isOfOne_20 (i := 9) rfl) (fun hc_15 => ?_) (fun hc_15 => ?_)
          · skip
            refine zr_iinc (pc := 31) (i := 2) (a := u1_) (n := 1) (L2 := [some (.ref 81), some (.int (Int32.ofInt a0_)), some (.int (Int32.ofInt (u1_ + 1)))]) rfl (by decide) rfl (zdal_p dlD_M_isOfOne_20 (i := 19) rfl) ?_
            refine zw_goto (pc := 34) (tgt := 2) (by decide) (zdal_p dlD_M_isOfOne_20 (i := 20) rfl) ?_
            exact ih_2 (u1_ + 1) (by (exact zo_74 i2_)) (by (exact zo_919 gb.2.1 hc_7)) (show 0 ≤ (u1_ + 1) by first | with_reducible assumption | (exact zo_76 i2_) | assumption) (by (exact zo_147 hc_7 hlt_2))
          · skip
            exact absurd hc_15 (by decide)
  exact lp_2 _ 0 (by decide) (by decide) (show 0 ≤ (0 : Int) by first | with_reducible assumption | (decide) | assumption) (Nat.lt_succ_self _)
set_option maxHeartbeats 4000000 in
theorem c_M_normOf (l : Launch) (Mz : zMem) (hW : zMt Mz) (a0_ : Int) (ha0_a : -2147483648 ≤ a0_) (ha0_b : a0_ < 2147483648) (T : zGT) (hO : gOK T) (p0_ : zGB T Mz) (p1_ : 0 ≤ a0_) (p2_ : a0_ < 16777216) : zC l m_M_normOf 0 0 [.ref 81, .int (Int32.ofInt a0_)] Mz (zpI [] [] Mz (fun v N => gIn T v ∧ 0 ≤ v)) := by
  refine zC_of (L0 := [some (.ref 81), some (.int (Int32.ofInt a0_)), none, none]) md_M_normOf (Nat.le_of_ble_eq_true rfl) rfl ?_ zQ0
  have hf : zFr [] [] Mz Mz := zFr.rf
  have r_20 := ze_r Mz 81 20
  have hG := hO.1
  have g24 := hG.2.1
  have g1 := hG.1
  have dv0 : zTab T Mz := p0_.1
  have dv1 : zB 85 144 0 5 Mz := p0_.2.1
  have dv2 : zJX T Mz := p0_.2.2.1
  have dv3 : zFirs T Mz := p0_.2.2.2.1
  have dv4 : zSSm T Mz := p0_.2.2.2.2.1
  have dv5 : zGD Mz := zGB.d hO p0_
  have gb := dv5.1
  have gn := dv0.1
  refine zw_iconst (pc := 0) (v := Int32.ofInt 0) (by decide) (zdal_p dlD_M_normOf_18 (i := 0) rfl) ?_
  refine zw_istore_n (pc := 1) (i := 2) (L2 := [some (.ref 81), some (.int (Int32.ofInt a0_)), some (.int (Int32.ofInt 0)), none]) rfl (by decide) rfl (zdal_p dlD_M_normOf_18 (i := 1) rfl) ?_
  refine zw_iconst (pc := 2) (v := Int32.ofInt 0) (by decide) (zdal_p dlD_M_normOf_18 (i := 2) rfl) ?_
  refine zw_istore_n (pc := 3) (i := 3) (L2 := [some (.ref 81), some (.int (Int32.ofInt a0_)), some (.int (Int32.ofInt 0)), some (.int (Int32.ofInt 0))]) rfl (by decide) rfl (zdal_p dlD_M_normOf_18 (i := 3) rfl) ?_
  have lp_4 : ∀ (n : Nat) (u1_ : Int) (hu1_a : -2147483648 ≤ u1_) (hu1_b : u1_ < 2147483648) (u2_ : Int) (hu2_a : -2147483648 ≤ u2_) (hu2_b : u2_ < 2147483648) (i3_ : 0 ≤ u2_) (i4_ : gIn T u1_), (ze Mz 81 20 - u2_).toNat < n → zW l m_M_normOf (zn Mz + 0, zw Mz + 0) Mz 4 [some (.ref 81), some (.int (Int32.ofInt a0_)), some (.int (Int32.ofInt u1_)), some (.int (Int32.ofInt u2_))] [] (zpI [] [] Mz (fun v N => gIn T v ∧ 0 ≤ v)) := by
    intro n
    induction n with
    | zero =>
      intro u1_ hu1_a hu1_b u2_ hu2_a hu2_b i3_ i4_ h0
      exact absurd h0 (Nat.not_lt_zero _)
    | succ n ih_4 =>
      intro u1_ hu1_a hu1_b u2_ hu2_a hu2_b i3_ i4_ hlt_4
      refine zw_iload_n (pc := 4) (n := 3) (x := Int32.ofInt u2_) rfl (zdal_p dlD_M_normOf_18 (i := 4) rfl) ?_
      refine zw_aload_n (pc := 5) (n := 0) (x := 81) rfl (zdal_p dlD_M_normOf_18 (i := 5) rfl) ?_
      refine zr_getI0 hf hW (pc := 6) (by decide) f_M_196 rfl (zdal_p dlD_M_normOf_18 (i := 6) rfl) ?_
      refine zr_icmp_ge (pc := 9) (tgt := 41) ⟨hu2_a, hu2_b⟩ ⟨(ze_r Mz 81 20).1, (ze_r Mz 81 20).2⟩ (by decide) (zdal_p dlD_M_normOf_18 (i := 7) rfl) (fun hc_9 => ?_) (fun hc_9 => ?_)
      · skip
        refine zw_iload_n (pc := 41) (n := 2) (x := Int32.ofInt u1_) rfl (zdal_p dlD_M_normOf_19 (i := 1) rfl) ?_
        exact zr_iret (pc := 42) (ty := .int) rfl rfl ⟨by (exact hu1_a), by (exact hu1_b)⟩ hf ⟨(show gIn T u1_ by first | with_reducible assumption | assumption | omega), (show 0 ≤ u1_ by exact (show gIn T u1_ by first | with_reducible assumption | assumption).1)⟩ (zdal_p dlD_M_normOf_19 (i := 2) rfl)
      · skip
        refine zw_iload_n (pc := 12) (n := 2) (x := Int32.ofInt u1_) rfl (zdal_p dlD_M_normOf_18 (i := 8) rfl) ?_
        refine zw_aload_n (pc := 13) (n := 0) (x := 81) rfl (zdal_p dlD_M_normOf_18 (i := 9) rfl) ?_
        refine zw_iload_n (pc := 14) (n := 1) (x := Int32.ofInt a0_) rfl (zdal_p dlD_M_normOf_18 (i := 10) rfl) ?_
        refine zw_iload_n (pc := 15) (n := 3) (x := Int32.ofInt u2_) rfl (zdal_p dlD_M_normOf_18 (i := 11) rfl) ?_
        refine zr_callV (hf.w hW) hf.x (pc := 16) [.int (Int32.ofInt a0_), .int (Int32.ofInt u2_)] [.int (Int32.ofInt u1_)] l_M_223 (c_M_turned l Mz (hf.w hW) a0_ ha0_a ha0_b u2_ hu2_a hu2_b T hG dv0 (show 0 ≤ a0_ by first | with_reducible assumption | assumption | omega) (show 0 ≤ u2_ by first | with_reducible assumption | assumption | omega) (show u2_ < ze Mz 81 20 by first | with_reducible assumption | assumption | omega)) rfl rfl rfl (by decide) (Nat.le_of_ble_eq_true rfl) (zdal_p dlD_M_normOf_18 (i := 12) rfl) ?_
        rintro _ N5_ ⟨v6_, rfl, ⟨hv6_a, hv6_b⟩, hsN5_, ⟨hp0_N5_, hp1_N5_, hp2_N5_⟩⟩
        obtain rfl := hsN5_.eq.symm
        show zW l m_M_normOf (zn Mz + 0, zw Mz + 0) Mz 19 [some (.ref 81), some (.int (Int32.ofInt a0_)), some (.int (Int32.ofInt u1_)), some (.int (Int32.ofInt u2_))] [.int (Int32.ofInt v6_), .int (Int32.ofInt u1_)] _
        refine zw_iload_n (pc := 19) (n := 1) (x := Int32.ofInt a0_) rfl (zdal_p dlD_M_normOf_18 (i := 13) rfl) ?_
        refine zr_icmp_ne (pc := 20) (tgt := 27) ⟨hv6_a, hv6_b⟩ ⟨ha0_a, ha0_b⟩ (by decide) (zdal_p dlD_M_normOf_18 (i := 14) rfl) (fun hc_20 => ?_) (fun hc_20 => ?_)
        · skip
          refine zw_iconst (pc := 27) (v := Int32.ofInt 0) (by decide) (zdal_p dlD_M_normOf_18 (i := 17) rfl) ?_
          refine zr_callS hf.x (pc := 28) [.int (Int32.ofInt 0)] [.int (Int32.ofInt u1_)] l_M_256 (c_M_truth l Mz (hf.w hW) 0 (by decide) (by decide) (by (decide))) rfl rfl (by decide) (Nat.le_of_ble_eq_true rfl) (zdal_p dlD_M_normOf_18 (i := 18) rfl) ?_
          rintro _ N7_ ⟨v8_, rfl, ⟨hv8_a, hv8_b⟩, hsN7_, hp0_N7_⟩
          obtain rfl := hsN7_.eq.symm
          replace hp0_N7_ : v8_ = 0 := hp0_N7_
          show zW l m_M_normOf (zn Mz + 0, zw Mz + 0) Mz 31 [some (.ref 81), some (.int (Int32.ofInt a0_)), some (.int (Int32.ofInt u1_)), some (.int (Int32.ofInt u2_))] [.int (Int32.ofInt v8_), .int (Int32.ofInt u1_)] _
          refine zw_iload_n (pc := 31) (n := 3) (x := Int32.ofInt u2_) rfl (zdal_p dlD_M_normOf_18 (i := 19) rfl) ?_
          refine zr_ishl (pc := 32) (zdal_p dlD_M_normOf_18 (i := 20) rfl) ?_
          have hr9_ := zshl_r v8_ u2_
          refine zr_ior (pc := 33) (zdal_p dlD_M_normOf_18 (i := 21) rfl) ?_
          have hr10_ := zor_r u1_ (zshl v8_ u2_)
          refine zw_istore_n (pc := 34) (i := 2) (L2 := [some (.ref 81), some (.int (Int32.ofInt a0_)), some (.int (Int32.ofInt (zor u1_ (zshl v8_ u2_)))), some (.int (Int32.ofInt u2_))]) rfl (by decide) rfl (zdal_p dlD_M_normOf_18 (i := 22) rfl) ?_
          refine zr_iinc (pc := 35) (i := 3) (a := u2_) (n := 1) (L2 := [some (.ref 81), some (.int (Int32.ofInt a0_)), some (.int (Int32.ofInt (zor u1_ (zshl v8_ u2_)))), some (.int (Int32.ofInt (u2_ + 1)))]) rfl (by decide) rfl (zdal_p dlD_M_normOf_18 (i := 23) rfl) ?_
          refine zw_goto (pc := 38) (tgt := 4) (by decide) (zdal_p dlD_M_normOf_19 (i := 0) rfl) ?_
          exact ih_4 (zor u1_ (zshl v8_ u2_)) (by (exact zo_284 hr10_.1)) (by (exact zo_285 hr10_.2)) (u2_ + 1) (by (exact zo_74 i3_)) (by (exact zo_919 gb.2.1 hc_9)) (show 0 ≤ (u2_ + 1) by first | with_reducible assumption | (exact zo_76 i3_) | assumption) (show gIn T (zor u1_ (zshl v8_ u2_)) by exact gIn_t hG (by first | with_reducible assumption | assumption) (by omega) (by (exact i3_)) (by (exact zo_1014 gn hc_9))) (by (exact zo_147 hc_9 hlt_4))
        · skip
          refine zw_iconst (pc := 23) (v := Int32.ofInt 1) (by decide) (zdal_p dlD_M_normOf_18 (i := 15) rfl) ?_
          refine zw_goto (pc := 24) (tgt := 28) (by decide) (zdal_p dlD_M_normOf_18 (i := 16) rfl) ?_
          refine zr_callS hf.x (pc := 28) [.int (Int32.ofInt 1)] [.int (Int32.ofInt u1_)] l_M_256 (c_M_truth l Mz (hf.w hW) 1 (by decide) (by decide) (by (decide))) rfl rfl (by decide) (Nat.le_of_ble_eq_true rfl) (zdal_p dlD_M_normOf_18 (i := 18) rfl) ?_
          rintro _ N11_ ⟨v12_, rfl, ⟨hv12_a, hv12_b⟩, hsN11_, hp0_N11_⟩
          obtain rfl := hsN11_.eq.symm
          replace hp0_N11_ : v12_ = 1 := hp0_N11_
          show zW l m_M_normOf (zn Mz + 0, zw Mz + 0) Mz 31 [some (.ref 81), some (.int (Int32.ofInt a0_)), some (.int (Int32.ofInt u1_)), some (.int (Int32.ofInt u2_))] [.int (Int32.ofInt v12_), .int (Int32.ofInt u1_)] _
          refine zw_iload_n (pc := 31) (n := 3) (x := Int32.ofInt u2_) rfl (zdal_p dlD_M_normOf_18 (i := 19) rfl) ?_
          refine zr_ishl (pc := 32) (zdal_p dlD_M_normOf_18 (i := 20) rfl) ?_
          have hr13_ := zshl_r v12_ u2_
          refine zr_ior (pc := 33) (zdal_p dlD_M_normOf_18 (i := 21) rfl) ?_
          have hr14_ := zor_r u1_ (zshl v12_ u2_)
          refine zw_istore_n (pc := 34) (i := 2) (L2 := [some (.ref 81), some (.int (Int32.ofInt a0_)), some (.int (Int32.ofInt (zor u1_ (zshl v12_ u2_)))), some (.int (Int32.ofInt u2_))]) rfl (by decide) rfl (zdal_p dlD_M_normOf_18 (i := 22) rfl) ?_
          refine zr_iinc (pc := 35) (i := 3) (a := u2_) (n := 1) (L2 := [some (.ref 81), some (.int (Int32.ofInt a0_)), some (.int (Int32.ofInt (zor u1_ (zshl v12_ u2_)))), some (.int (Int32.ofInt (u2_ + 1)))]) rfl (by decide) rfl (zdal_p dlD_M_normOf_18 (i := 23) rfl) ?_
          refine zw_goto (pc := 38) (tgt := 4) (by decide) (zdal_p dlD_M_normOf_19 (i := 0) rfl) ?_
          exact ih_4 (zor u1_ (zshl v12_ u2_)) (by (exact zo_284 hr14_.1)) (by (exact zo_285 hr14_.2)) (u2_ + 1) (by (exact zo_74 i3_)) (by (exact zo_919 gb.2.1 hc_9)) (show 0 ≤ (u2_ + 1) by first | with_reducible assumption | (exact zo_76 i3_) | assumption) (show gIn T (zor u1_ (zshl v12_ u2_)) by exact gIn_t hG (by first | with_reducible assumption | assumption) (by omega) (by (exact i3_)) (by (exact zo_1014 gn hc_9))) (by (exact zo_147 hc_9 hlt_4))
  exact lp_4 _ 0 (by decide) (by decide) 0 (by decide) (by decide) (show 0 ≤ (0 : Int) by first | with_reducible assumption | (decide) | assumption) (show gIn T (0 : Int) by exact gIn_0 T) (Nat.lt_succ_self _)
set_option maxHeartbeats 4000000 in
theorem c_M_mark (l : Launch) (Mz : zMem) (hW : zMt Mz) (a0_ : Int) (ha0_a : -2147483648 ≤ a0_) (ha0_b : a0_ < 2147483648) (a1_ : Int) (ha1_a : -2147483648 ≤ a1_) (ha1_b : a1_ < 2147483648) (T : zGT) (hO : gOK T) (p0_ : zGB T Mz) : zC l m_M_mark 0 0 [.ref 81, .int (Int32.ofInt a0_), .int (Int32.ofInt a1_)] Mz (zpI [] [] Mz (fun v N => True)) := by
  refine zC_of (L0 := [some (.ref 81), some (.int (Int32.ofInt a0_)), some (.int (Int32.ofInt a1_))]) md_M_mark (Nat.le_of_ble_eq_true rfl) rfl ?_ zQ0
  have hf : zFr [] [] Mz Mz := zFr.rf
  have r_26 := ze_r Mz 81 26
  have hG := hO.1
  have g24 := hG.2.1
  have g1 := hG.1
  have dv0 : zTab T Mz := p0_.1
  have dv1 : zB 85 144 0 5 Mz := p0_.2.1
  have dv2 : zJX T Mz := p0_.2.2.1
  have dv3 : zFirs T Mz := p0_.2.2.2.1
  have dv4 : zSSm T Mz := p0_.2.2.2.2.1
  have dv5 : zGD Mz := zGB.d hO p0_
  have gb := dv5.1
  have gn := dv0.1
  refine zw_aload_n (pc := 0) (n := 0) (x := 81) rfl (zdal_p dlD_M_mark_25 (i := 0) rfl) ?_
  refine zw_iload_n (pc := 1) (n := 1) (x := Int32.ofInt a0_) rfl (zdal_p dlD_M_mark_25 (i := 1) rfl) ?_
  refine zr_callV (hf.w hW) hf.x (pc := 2) [.int (Int32.ofInt a0_)] [] l_M_414 (c_M_isSort l Mz (hf.w hW) a0_ ha0_a ha0_b T hO p0_) rfl rfl rfl (by decide) (Nat.le_of_ble_eq_true rfl) (zdal_p dlD_M_mark_25 (i := 2) rfl) ?_
  rintro _ N1_ ⟨v2_, rfl, ⟨hv2_a, hv2_b⟩, hsN1_, hp0_N1_⟩
  obtain rfl := hsN1_.eq.symm
  replace hp0_N1_ : ((v2_ = 1 ∧ 0 ≤ a0_ ∧ a0_ < ze Mz 81 26) ∨ (v2_ = 0)) := hp0_N1_
  rcases hp0_N1_ with ⟨rfl, ha2_0_hp0_N1_, ha2_1_hp0_N1_⟩ | rfl
  · skip
    show zW l m_M_mark (zn Mz + 0, zw Mz + 0) Mz 5 [some (.ref 81), some (.int (Int32.ofInt a0_)), some (.int (Int32.ofInt a1_))] [.int (Int32.ofInt 1)] (zpI [] [] Mz (fun v N => True))
    refine zr_if_eq (pc := 5) (tgt := 30) ⟨(by decide), (by decide)⟩ (by decide) (zdal_p dlD_M_mark_25 (i := 3) rfl) (fun hc_5 => ?_) (fun hc_5 => ?_)
    · skip
      exact absurd hc_5 (by decide)
    · skip
      refine zw_aload_n (pc := 8) (n := 0) (x := 81) rfl (zdal_p dlD_M_mark_25 (i := 4) rfl) ?_
      refine zw_iload_n (pc := 9) (n := 2) (x := Int32.ofInt a1_) rfl (zdal_p dlD_M_mark_25 (i := 5) rfl) ?_
      refine zr_callV (hf.w hW) hf.x (pc := 10) [.int (Int32.ofInt a1_)] [] l_M_414 (c_M_isSort l Mz (hf.w hW) a1_ ha1_a ha1_b T hO p0_) rfl rfl rfl (by decide) (Nat.le_of_ble_eq_true rfl) (zdal_p dlD_M_mark_25 (i := 6) rfl) ?_
      rintro _ N3_ ⟨v4_, rfl, ⟨hv4_a, hv4_b⟩, hsN3_, hp0_N3_⟩
      obtain rfl := hsN3_.eq.symm
      replace hp0_N3_ : ((v4_ = 1 ∧ 0 ≤ a1_ ∧ a1_ < ze Mz 81 26) ∨ (v4_ = 0)) := hp0_N3_
      rcases hp0_N3_ with ⟨rfl, ha10_0_hp0_N3_, ha10_1_hp0_N3_⟩ | rfl
      · skip
        show zW l m_M_mark (zn Mz + 0, zw Mz + 0) Mz 13 [some (.ref 81), some (.int (Int32.ofInt a0_)), some (.int (Int32.ofInt a1_))] [.int (Int32.ofInt 1)] (zpI [] [] Mz (fun v N => True))
        refine zr_if_eq (pc := 13) (tgt := 30) ⟨(by decide), (by decide)⟩ (by decide) (zdal_p dlD_M_mark_25 (i := 7) rfl) (fun hc_13 => ?_) (fun hc_13 => ?_)
        · skip
          exact absurd hc_13 (by decide)
        · skip
          refine zw_aload_n (pc := 16) (n := 0) (x := 81) rfl (zdal_p dlD_M_mark_25 (i := 8) rfl) ?_
          refine zr_getF (r := 93) (hf.w hW) (pc := 17) f_M_50 rfl (zh_93 (hf.w hW)).1 (zdal_p dlD_M_mark_25 (i := 9) rfl) ?_
          refine zw_bipush (pc := 20) (v := Int32.ofInt 64) (by decide) (zdal_p dlD_M_mark_25 (i := 10) rfl) ?_
          refine zw_iload_n (pc := 22) (n := 1) (x := Int32.ofInt a0_) rfl (zdal_p dlD_M_mark_25 (i := 11) rfl) ?_
          refine zr_imul (pc := 23) (zdal_p dlD_M_mark_25 (i := 12) rfl) ?_
          refine zw_iload_n (pc := 24) (n := 2) (x := Int32.ofInt a1_) rfl (zdal_p dlD_M_mark_25 (i := 13) rfl) ?_
          refine zr_iadd (pc := 25) (zdal_p dlD_M_mark_25 (i := 14) rfl) ?_
          refine zr_ialdn (pc := 26) (zh_93 (hf.w hW)).2 (by decide) (by (exact zo_908 ha10_0_hp0_N3_ ha2_0_hp0_N1_)) (by omega) (zdal_p dlD_M_mark_25 (i := 15) rfl) (fun v5_ hv5_ hv5_a hv5_b => ?_)
          refine zw_goto (pc := 27) (tgt := 31) (by decide) (zdal_p dlD_M_mark_25 (i := 16) rfl) ?_
          exact zr_iret (pc := 31) (ty := .int) rfl rfl ⟨by (exact hv5_a), by (exact hv5_b)⟩ hf trivial (zdal_p dlD_M_mark_25 (i := 18) rfl)
      · skip
        show zW l m_M_mark (zn Mz + 0, zw Mz + 0) Mz 13 [some (.ref 81), some (.int (Int32.ofInt a0_)), some (.int (Int32.ofInt a1_))] [.int (Int32.ofInt 0)] (zpI [] [] Mz (fun v N => True))
        refine zr_if_eq (pc := 13) (tgt := 30) ⟨(by decide), (by decide)⟩ (by decide) (zdal_p dlD_M_mark_25 (i := 7) rfl) (fun hc_13 => ?_) (fun hc_13 => ?_)
        · skip
          refine zw_iconst (pc := 30) (v := Int32.ofInt (-1)) (by decide) (zdal_p dlD_M_mark_25 (i := 17) rfl) ?_
          exact zr_iret (pc := 31) (ty := .int) rfl rfl ⟨by (decide), by (decide)⟩ hf trivial (zdal_p dlD_M_mark_25 (i := 18) rfl)
        · skip
          exact absurd hc_13 (by decide)
  · skip
    show zW l m_M_mark (zn Mz + 0, zw Mz + 0) Mz 5 [some (.ref 81), some (.int (Int32.ofInt a0_)), some (.int (Int32.ofInt a1_))] [.int (Int32.ofInt 0)] (zpI [] [] Mz (fun v N => True))
    refine zr_if_eq (pc := 5) (tgt := 30) ⟨(by decide), (by decide)⟩ (by decide) (zdal_p dlD_M_mark_25 (i := 3) rfl) (fun hc_5 => ?_) (fun hc_5 => ?_)
    · skip
      refine zw_iconst (pc := 30) (v := Int32.ofInt (-1)) (by decide) (zdal_p dlD_M_mark_25 (i := 17) rfl) ?_
      exact zr_iret (pc := 31) (ty := .int) rfl rfl ⟨by (decide), by (decide)⟩ hf trivial (zdal_p dlD_M_mark_25 (i := 18) rfl)
    · skip
      exact absurd hc_5 (by decide)
set_option maxHeartbeats 4000000 in
theorem c_M_coset (l : Launch) (Mz : zMem) (hW : zMt Mz) (a0_ : Int) (ha0_a : -2147483648 ≤ a0_) (ha0_b : a0_ < 2147483648) (a1_ : Int) (ha1_a : -2147483648 ≤ a1_) (ha1_b : a1_ < 2147483648) (T : zGT) (hO : gOK T) (p0_ : zGB T Mz) : zC l m_M_coset 0 0 [.ref 81, .int (Int32.ofInt a0_), .int (Int32.ofInt a1_)] Mz (zpI [] [] Mz (fun v N => True)) := by
  refine zC_of (L0 := [some (.ref 81), some (.int (Int32.ofInt a0_)), some (.int (Int32.ofInt a1_))]) md_M_coset (Nat.le_of_ble_eq_true rfl) rfl ?_ zQ0
  have hf : zFr [] [] Mz Mz := zFr.rf
  have r_20 := ze_r Mz 81 20
  have r_26 := ze_r Mz 81 26
  have hG := hO.1
  have g24 := hG.2.1
  have g1 := hG.1
  have dv0 : zTab T Mz := p0_.1
  have dv1 : zB 85 144 0 5 Mz := p0_.2.1
  have dv2 : zJX T Mz := p0_.2.2.1
  have dv3 : zFirs T Mz := p0_.2.2.2.1
  have dv4 : zSSm T Mz := p0_.2.2.2.2.1
  have dv5 : zGD Mz := zGB.d hO p0_
  have gb := dv5.1
  have gn := dv0.1
  refine zw_aload_n (pc := 0) (n := 0) (x := 81) rfl (zdal_p dlD_M_coset_45 (i := 0) rfl) ?_
  refine zw_iload_n (pc := 1) (n := 1) (x := Int32.ofInt a0_) rfl (zdal_p dlD_M_coset_45 (i := 1) rfl) ?_
  refine zr_callV (hf.w hW) hf.x (pc := 2) [.int (Int32.ofInt a0_)] [] l_M_414 (c_M_isSort l Mz (hf.w hW) a0_ ha0_a ha0_b T hO p0_) rfl rfl rfl (by decide) (Nat.le_of_ble_eq_true rfl) (zdal_p dlD_M_coset_45 (i := 2) rfl) ?_
  rintro _ N1_ ⟨v2_, rfl, ⟨hv2_a, hv2_b⟩, hsN1_, hp0_N1_⟩
  obtain rfl := hsN1_.eq.symm
  replace hp0_N1_ : ((v2_ = 1 ∧ 0 ≤ a0_ ∧ a0_ < ze Mz 81 26) ∨ (v2_ = 0)) := hp0_N1_
  rcases hp0_N1_ with ⟨rfl, ha2_0_hp0_N1_, ha2_1_hp0_N1_⟩ | rfl
  · skip
    show zW l m_M_coset (zn Mz + 0, zw Mz + 0) Mz 5 [some (.ref 81), some (.int (Int32.ofInt a0_)), some (.int (Int32.ofInt a1_))] [.int (Int32.ofInt 1)] (zpI [] [] Mz (fun v N => True))
    refine zr_if_eq (pc := 5) (tgt := 30) ⟨(by decide), (by decide)⟩ (by decide) (zdal_p dlD_M_coset_45 (i := 3) rfl) (fun hc_5 => ?_) (fun hc_5 => ?_)
    · skip
      exact absurd hc_5 (by decide)
    · skip
      refine zw_aload_n (pc := 8) (n := 0) (x := 81) rfl (zdal_p dlD_M_coset_45 (i := 4) rfl) ?_
      refine zw_iload_n (pc := 9) (n := 2) (x := Int32.ofInt a1_) rfl (zdal_p dlD_M_coset_45 (i := 5) rfl) ?_
      refine zr_callV (hf.w hW) hf.x (pc := 10) [.int (Int32.ofInt a1_)] [] l_M_400 (c_M_isMember l Mz (hf.w hW) a1_ ha1_a ha1_b T hO p0_) rfl rfl rfl (by decide) (Nat.le_of_ble_eq_true rfl) (zdal_p dlD_M_coset_45 (i := 6) rfl) ?_
      rintro _ N3_ ⟨v4_, rfl, ⟨hv4_a, hv4_b⟩, hsN3_, hp0_N3_⟩
      obtain rfl := hsN3_.eq.symm
      replace hp0_N3_ : ((v4_ = 1 ∧ 0 ≤ a1_ ∧ a1_ < ze Mz 81 20) ∨ (v4_ = 0)) := hp0_N3_
      rcases hp0_N3_ with ⟨rfl, ha10_0_hp0_N3_, ha10_1_hp0_N3_⟩ | rfl
      · skip
        show zW l m_M_coset (zn Mz + 0, zw Mz + 0) Mz 13 [some (.ref 81), some (.int (Int32.ofInt a0_)), some (.int (Int32.ofInt a1_))] [.int (Int32.ofInt 1)] (zpI [] [] Mz (fun v N => True))
        refine zr_if_eq (pc := 13) (tgt := 30) ⟨(by decide), (by decide)⟩ (by decide) (zdal_p dlD_M_coset_45 (i := 7) rfl) (fun hc_13 => ?_) (fun hc_13 => ?_)
        · skip
          exact absurd hc_13 (by decide)
        · skip
          refine zw_aload_n (pc := 16) (n := 0) (x := 81) rfl (zdal_p dlD_M_coset_45 (i := 8) rfl) ?_
          refine zr_getF (r := 94) (hf.w hW) (pc := 17) f_M_53 rfl (zh_94 (hf.w hW)).1 (zdal_p dlD_M_coset_45 (i := 9) rfl) ?_
          refine zw_bipush (pc := 20) (v := Int32.ofInt 24) (by decide) (zdal_p dlD_M_coset_45 (i := 10) rfl) ?_
          refine zw_iload_n (pc := 22) (n := 1) (x := Int32.ofInt a0_) rfl (zdal_p dlD_M_coset_45 (i := 11) rfl) ?_
          refine zr_imul (pc := 23) (zdal_p dlD_M_coset_45 (i := 12) rfl) ?_
          refine zw_iload_n (pc := 24) (n := 2) (x := Int32.ofInt a1_) rfl (zdal_p dlD_M_coset_45 (i := 13) rfl) ?_
          refine zr_iadd (pc := 25) (zdal_p dlD_M_coset_45 (i := 14) rfl) ?_
          refine zr_ialdn (pc := 26) (zh_94 (hf.w hW)).2 (by decide) (by omega) (by omega) (zdal_p dlD_M_coset_45 (i := 15) rfl) (fun v5_ hv5_ hv5_a hv5_b => ?_)
          refine zw_goto (pc := 27) (tgt := 31) (by decide) (zdal_p dlD_M_coset_45 (i := 16) rfl) ?_
          exact zr_iret (pc := 31) (ty := .int) rfl rfl ⟨by (exact hv5_a), by (exact hv5_b)⟩ hf trivial (zdal_p dlD_M_coset_45 (i := 18) rfl)
      · skip
        show zW l m_M_coset (zn Mz + 0, zw Mz + 0) Mz 13 [some (.ref 81), some (.int (Int32.ofInt a0_)), some (.int (Int32.ofInt a1_))] [.int (Int32.ofInt 0)] (zpI [] [] Mz (fun v N => True))
        refine zr_if_eq (pc := 13) (tgt := 30) ⟨(by decide), (by decide)⟩ (by decide) (zdal_p dlD_M_coset_45 (i := 7) rfl) (fun hc_13 => ?_) (fun hc_13 => ?_)
        · skip
          refine zw_iconst (pc := 30) (v := Int32.ofInt (-1)) (by decide) (zdal_p dlD_M_coset_45 (i := 17) rfl) ?_
          exact zr_iret (pc := 31) (ty := .int) rfl rfl ⟨by (decide), by (decide)⟩ hf trivial (zdal_p dlD_M_coset_45 (i := 18) rfl)
        · skip
          exact absurd hc_13 (by decide)
  · skip
    show zW l m_M_coset (zn Mz + 0, zw Mz + 0) Mz 5 [some (.ref 81), some (.int (Int32.ofInt a0_)), some (.int (Int32.ofInt a1_))] [.int (Int32.ofInt 0)] (zpI [] [] Mz (fun v N => True))
    refine zr_if_eq (pc := 5) (tgt := 30) ⟨(by decide), (by decide)⟩ (by decide) (zdal_p dlD_M_coset_45 (i := 3) rfl) (fun hc_5 => ?_) (fun hc_5 => ?_)
    · skip
      refine zw_iconst (pc := 30) (v := Int32.ofInt (-1)) (by decide) (zdal_p dlD_M_coset_45 (i := 17) rfl) ?_
      exact zr_iret (pc := 31) (ty := .int) rfl rfl ⟨by (decide), by (decide)⟩ hf trivial (zdal_p dlD_M_coset_45 (i := 18) rfl)
    · skip
      exact absurd hc_5 (by decide)
set_option maxHeartbeats 4000000 in
theorem c_M_takes (l : Launch) (Mz : zMem) (hW : zMt Mz) (a0_ : Int) (ha0_a : -2147483648 ≤ a0_) (ha0_b : a0_ < 2147483648) (a1_ : Int) (ha1_a : -2147483648 ≤ a1_) (ha1_b : a1_ < 2147483648) (a2_ : Int) (ha2_a : -2147483648 ≤ a2_) (ha2_b : a2_ < 2147483648) (T : zGT) (hO : gOK T) (p0_ : zGB T Mz) : zC l m_M_takes 0 0 [.ref 81, .int (Int32.ofInt a0_), .int (Int32.ofInt a1_), .int (Int32.ofInt a2_)] Mz (zpI [] [] Mz (fun v N => True)) := by
  refine zC_of (L0 := [some (.ref 81), some (.int (Int32.ofInt a0_)), some (.int (Int32.ofInt a1_)), some (.int (Int32.ofInt a2_))]) md_M_takes (Nat.le_of_ble_eq_true rfl) rfl ?_ zQ0
  have hf : zFr [] [] Mz Mz := zFr.rf
  have r_20 := ze_r Mz 81 20
  have r_26 := ze_r Mz 81 26
  have hG := hO.1
  have g24 := hG.2.1
  have g1 := hG.1
  have dv0 : zTab T Mz := p0_.1
  have dv1 : zB 85 144 0 5 Mz := p0_.2.1
  have dv2 : zJX T Mz := p0_.2.2.1
  have dv3 : zFirs T Mz := p0_.2.2.2.1
  have dv4 : zSSm T Mz := p0_.2.2.2.2.1
  have dv5 : zGD Mz := zGB.d hO p0_
  have gb := dv5.1
  have gn := dv0.1
  refine zw_aload_n (pc := 0) (n := 0) (x := 81) rfl (zdal_p dlD_M_takes_46 (i := 0) rfl) ?_
  refine zw_iload_n (pc := 1) (n := 1) (x := Int32.ofInt a0_) rfl (zdal_p dlD_M_takes_46 (i := 1) rfl) ?_
  refine zr_callV (hf.w hW) hf.x (pc := 2) [.int (Int32.ofInt a0_)] [] l_M_414 (c_M_isSort l Mz (hf.w hW) a0_ ha0_a ha0_b T hO p0_) rfl rfl rfl (by decide) (Nat.le_of_ble_eq_true rfl) (zdal_p dlD_M_takes_46 (i := 2) rfl) ?_
  rintro _ N1_ ⟨v2_, rfl, ⟨hv2_a, hv2_b⟩, hsN1_, hp0_N1_⟩
  obtain rfl := hsN1_.eq.symm
  replace hp0_N1_ : ((v2_ = 1 ∧ 0 ≤ a0_ ∧ a0_ < ze Mz 81 26) ∨ (v2_ = 0)) := hp0_N1_
  rcases hp0_N1_ with ⟨rfl, ha2_0_hp0_N1_, ha2_1_hp0_N1_⟩ | rfl
  · skip
    show zW l m_M_takes (zn Mz + 0, zw Mz + 0) Mz 5 [some (.ref 81), some (.int (Int32.ofInt a0_)), some (.int (Int32.ofInt a1_)), some (.int (Int32.ofInt a2_))] [.int (Int32.ofInt 1)] (zpI [] [] Mz (fun v N => True))
    refine zr_if_eq (pc := 5) (tgt := 43) ⟨(by decide), (by decide)⟩ (by decide) (zdal_p dlD_M_takes_46 (i := 3) rfl) (fun hc_5 => ?_) (fun hc_5 => ?_)
    · skip
      exact absurd hc_5 (by decide)
    · skip
      refine zw_aload_n (pc := 8) (n := 0) (x := 81) rfl (zdal_p dlD_M_takes_46 (i := 4) rfl) ?_
      refine zw_iload_n (pc := 9) (n := 2) (x := Int32.ofInt a1_) rfl (zdal_p dlD_M_takes_46 (i := 5) rfl) ?_
      refine zr_callV (hf.w hW) hf.x (pc := 10) [.int (Int32.ofInt a1_)] [] l_M_400 (c_M_isMember l Mz (hf.w hW) a1_ ha1_a ha1_b T hO p0_) rfl rfl rfl (by decide) (Nat.le_of_ble_eq_true rfl) (zdal_p dlD_M_takes_46 (i := 6) rfl) ?_
      rintro _ N3_ ⟨v4_, rfl, ⟨hv4_a, hv4_b⟩, hsN3_, hp0_N3_⟩
      obtain rfl := hsN3_.eq.symm
      replace hp0_N3_ : ((v4_ = 1 ∧ 0 ≤ a1_ ∧ a1_ < ze Mz 81 20) ∨ (v4_ = 0)) := hp0_N3_
      rcases hp0_N3_ with ⟨rfl, ha10_0_hp0_N3_, ha10_1_hp0_N3_⟩ | rfl
      · skip
        show zW l m_M_takes (zn Mz + 0, zw Mz + 0) Mz 13 [some (.ref 81), some (.int (Int32.ofInt a0_)), some (.int (Int32.ofInt a1_)), some (.int (Int32.ofInt a2_))] [.int (Int32.ofInt 1)] (zpI [] [] Mz (fun v N => True))
        refine zr_if_eq (pc := 13) (tgt := 43) ⟨(by decide), (by decide)⟩ (by decide) (zdal_p dlD_M_takes_46 (i := 7) rfl) (fun hc_13 => ?_) (fun hc_13 => ?_)
        · skip
          exact absurd hc_13 (by decide)
        · skip
          refine zw_aload_n (pc := 16) (n := 0) (x := 81) rfl (zdal_p dlD_M_takes_46 (i := 8) rfl) ?_
          refine zw_iload_n (pc := 17) (n := 3) (x := Int32.ofInt a2_) rfl (zdal_p dlD_M_takes_46 (i := 9) rfl) ?_
          refine zr_callV (hf.w hW) hf.x (pc := 18) [.int (Int32.ofInt a2_)] [] l_M_400 (c_M_isMember l Mz (hf.w hW) a2_ ha2_a ha2_b T hO p0_) rfl rfl rfl (by decide) (Nat.le_of_ble_eq_true rfl) (zdal_p dlD_M_takes_46 (i := 10) rfl) ?_
          rintro _ N5_ ⟨v6_, rfl, ⟨hv6_a, hv6_b⟩, hsN5_, hp0_N5_⟩
          obtain rfl := hsN5_.eq.symm
          replace hp0_N5_ : ((v6_ = 1 ∧ 0 ≤ a2_ ∧ a2_ < ze Mz 81 20) ∨ (v6_ = 0)) := hp0_N5_
          rcases hp0_N5_ with ⟨rfl, ha18_0_hp0_N5_, ha18_1_hp0_N5_⟩ | rfl
          · skip
            show zW l m_M_takes (zn Mz + 0, zw Mz + 0) Mz 21 [some (.ref 81), some (.int (Int32.ofInt a0_)), some (.int (Int32.ofInt a1_)), some (.int (Int32.ofInt a2_))] [.int (Int32.ofInt 1)] (zpI [] [] Mz (fun v N => True))
            refine zr_if_eq (pc := 21) (tgt := 43) ⟨(by decide), (by decide)⟩ (by decide) (zdal_p dlD_M_takes_46 (i := 11) rfl) (fun hc_21 => ?_) (fun hc_21 => ?_)
            · skip
              exact absurd hc_21 (by decide)
            · skip
              refine zw_aload_n (pc := 24) (n := 0) (x := 81) rfl (zdal_p dlD_M_takes_46 (i := 12) rfl) ?_
              refine zr_getF (r := 94) (hf.w hW) (pc := 25) f_M_53 rfl (zh_94 (hf.w hW)).1 (zdal_p dlD_M_takes_46 (i := 13) rfl) ?_
              refine zw_bipush (pc := 28) (v := Int32.ofInt 24) (by decide) (zdal_p dlD_M_takes_46 (i := 14) rfl) ?_
              refine zw_iload_n (pc := 30) (n := 1) (x := Int32.ofInt a0_) rfl (zdal_p dlD_M_takes_46 (i := 15) rfl) ?_
              refine zr_imul (pc := 31) (zdal_p dlD_M_takes_46 (i := 16) rfl) ?_
              refine zw_aload_n (pc := 32) (n := 0) (x := 81) rfl (zdal_p dlD_M_takes_46 (i := 17) rfl) ?_
              refine zw_iload_n (pc := 33) (n := 2) (x := Int32.ofInt a1_) rfl (zdal_p dlD_M_takes_46 (i := 18) rfl) ?_
              refine zw_iload_n (pc := 34) (n := 3) (x := Int32.ofInt a2_) rfl (zdal_p dlD_M_takes_46 (i := 19) rfl) ?_
              refine zr_callV (hf.w hW) hf.x (pc := 35) [.int (Int32.ofInt a1_), .int (Int32.ofInt a2_)] [.int (Int32.ofInt (24 * a0_)), .ref 94] l_M_216 (c_M_by l Mz (hf.w hW) a1_ ha1_a ha1_b a2_ ha2_a ha2_b T hG dv0 (show 0 ≤ a1_ by first | with_reducible assumption | assumption | omega) (show a1_ < ze Mz 81 20 by first | with_reducible assumption | assumption | omega) (show 0 ≤ a2_ by first | with_reducible assumption | assumption | omega) (show a2_ < ze Mz 81 20 by first | with_reducible assumption | assumption | omega)) rfl rfl rfl (by decide) (Nat.le_of_ble_eq_true rfl) (zdal_p dlD_M_takes_46 (i := 20) rfl) ?_
              rintro _ N7_ ⟨v8_, rfl, ⟨hv8_a, hv8_b⟩, hsN7_, ⟨hp0_N7_, hp1_N7_, hp2_N7_⟩⟩
              obtain rfl := hsN7_.eq.symm
              show zW l m_M_takes (zn Mz + 0, zw Mz + 0) Mz 38 [some (.ref 81), some (.int (Int32.ofInt a0_)), some (.int (Int32.ofInt a1_)), some (.int (Int32.ofInt a2_))] [.int (Int32.ofInt v8_), .int (Int32.ofInt (24 * a0_)), .ref 94] (zpI [] [] Mz (fun v N => True))
              refine zr_iadd (pc := 38) (zdal_p dlD_M_takes_46 (i := 21) rfl) ?_
              refine zr_ialdn (pc := 39) (zh_94 (hf.w hW)).2 (by decide) (by (exact zo_543 ha2_0_hp0_N1_ hp1_N7_)) (by omega) (zdal_p dlD_M_takes_46 (i := 22) rfl) (fun v9_ hv9_ hv9_a hv9_b => ?_)
              refine zw_goto (pc := 40) (tgt := 44) (by decide) (zdal_p dlD_M_takes_46 (i := 23) rfl) ?_
              exact zr_iret (pc := 44) (ty := .int) rfl rfl ⟨by (exact hv9_a), by (exact hv9_b)⟩ hf trivial (zdal_p dlD_M_takes_47 (i := 1) rfl)
          · skip
            show zW l m_M_takes (zn Mz + 0, zw Mz + 0) Mz 21 [some (.ref 81), some (.int (Int32.ofInt a0_)), some (.int (Int32.ofInt a1_)), some (.int (Int32.ofInt a2_))] [.int (Int32.ofInt 0)] (zpI [] [] Mz (fun v N => True))
            refine zr_if_eq (pc := 21) (tgt := 43) ⟨(by decide), (by decide)⟩ (by decide) (zdal_p dlD_M_takes_46 (i := 11) rfl) (fun hc_21 => ?_) (fun hc_21 => ?_)
            · skip
              refine zw_iconst (pc := 43) (v := Int32.ofInt (-1)) (by decide) (zdal_p dlD_M_takes_47 (i := 0) rfl) ?_
              exact zr_iret (pc := 44) (ty := .int) rfl rfl ⟨by (decide), by (decide)⟩ hf trivial (zdal_p dlD_M_takes_47 (i := 1) rfl)
            · skip
              exact absurd hc_21 (by decide)
      · skip
        show zW l m_M_takes (zn Mz + 0, zw Mz + 0) Mz 13 [some (.ref 81), some (.int (Int32.ofInt a0_)), some (.int (Int32.ofInt a1_)), some (.int (Int32.ofInt a2_))] [.int (Int32.ofInt 0)] (zpI [] [] Mz (fun v N => True))
        refine zr_if_eq (pc := 13) (tgt := 43) ⟨(by decide), (by decide)⟩ (by decide) (zdal_p dlD_M_takes_46 (i := 7) rfl) (fun hc_13 => ?_) (fun hc_13 => ?_)
        · skip
          refine zw_iconst (pc := 43) (v := Int32.ofInt (-1)) (by decide) (zdal_p dlD_M_takes_47 (i := 0) rfl) ?_
          exact zr_iret (pc := 44) (ty := .int) rfl rfl ⟨by (decide), by (decide)⟩ hf trivial (zdal_p dlD_M_takes_47 (i := 1) rfl)
        · skip
          exact absurd hc_13 (by decide)
  · skip
    show zW l m_M_takes (zn Mz + 0, zw Mz + 0) Mz 5 [some (.ref 81), some (.int (Int32.ofInt a0_)), some (.int (Int32.ofInt a1_)), some (.int (Int32.ofInt a2_))] [.int (Int32.ofInt 0)] (zpI [] [] Mz (fun v N => True))
    refine zr_if_eq (pc := 5) (tgt := 43) ⟨(by decide), (by decide)⟩ (by decide) (zdal_p dlD_M_takes_46 (i := 3) rfl) (fun hc_5 => ?_) (fun hc_5 => ?_)
    · skip
      refine zw_iconst (pc := 43) (v := Int32.ofInt (-1)) (by decide) (zdal_p dlD_M_takes_47 (i := 0) rfl) ?_
      exact zr_iret (pc := 44) (ty := .int) rfl rfl ⟨by (decide), by (decide)⟩ hf trivial (zdal_p dlD_M_takes_47 (i := 1) rfl)
    · skip
      exact absurd hc_5 (by decide)
set_option maxHeartbeats 4000000 in
theorem c_M_keeper (l : Launch) (Mz : zMem) (hW : zMt Mz) (a0_ : Int) (ha0_a : -2147483648 ≤ a0_) (ha0_b : a0_ < 2147483648) (T : zGT) (hO : gOK T) (p0_ : zGB T Mz) (p1_ : 1 ≤ ze Mz 81 16) (p2_ : ze Mz 81 16 ≤ 6) : zC l m_M_keeper 0 0 [.ref 81, .int (Int32.ofInt a0_)] Mz (zpI [] [] Mz (fun v N => True)) := by
  refine zC_of (L0 := [some (.ref 81), some (.int (Int32.ofInt a0_)), none, none]) md_M_keeper (Nat.le_of_ble_eq_true rfl) rfl ?_ zQ0
  have hf : zFr [] [] Mz Mz := zFr.rf
  have r_16 := ze_r Mz 81 16
  have r_20 := ze_r Mz 81 20
  have hG := hO.1
  have g24 := hG.2.1
  have g1 := hG.1
  have dv0 : zTab T Mz := p0_.1
  have dv1 : zB 85 144 0 5 Mz := p0_.2.1
  have dv2 : zJX T Mz := p0_.2.2.1
  have dv3 : zFirs T Mz := p0_.2.2.2.1
  have dv4 : zSSm T Mz := p0_.2.2.2.2.1
  have dv5 : zGD Mz := zGB.d hO p0_
  have gb := dv5.1
  have gn := dv0.1
  refine zw_iload_n (pc := 0) (n := 1) (x := Int32.ofInt a0_) rfl (zdal_p dlD_M_keeper_41 (i := 0) rfl) ?_
  refine zr_i2l (pc := 1) ⟨ha0_a, ha0_b⟩ (zdal_p dlD_M_keeper_41 (i := 1) rfl) ?_
  refine zw_lconst (pc := 2) (v := Int64.ofInt 0) (by decide) (zdal_p dlD_M_keeper_41 (i := 2) rfl) ?_
  refine zw_aload_n (pc := 3) (n := 0) (x := 81) rfl (zdal_p dlD_M_keeper_41 (i := 3) rfl) ?_
  refine zr_getI0 hf hW (pc := 4) (by decide) f_M_382 rfl (zdal_p dlD_M_keeper_41 (i := 4) rfl) ?_
  refine zw_iconst (pc := 7) (v := Int32.ofInt 1) (by decide) (zdal_p dlD_M_keeper_41 (i := 5) rfl) ?_
  refine zr_isub (pc := 8) (zdal_p dlD_M_keeper_41 (i := 6) rfl) ?_
  refine zr_i2l (pc := 9) ⟨(by (exact zo_63 p1_)), (by (exact zo_2435 p2_))⟩ (zdal_p dlD_M_keeper_41 (i := 7) rfl) ?_
  refine zr_callS hf.x (pc := 10) [.long (Int64.ofInt a0_), .long (Int64.ofInt 0), .long (Int64.ofInt ((ze Mz 81 16) - 1))] [] l_M_131 (c_M_isIn l Mz (hf.w hW) a0_ (by (exact zo_282 ha0_a)) (by (exact zo_283 ha0_b)) 0 (by decide) (by decide) ((ze Mz 81 16) - 1) (by (exact zo_2432 p1_)) (by (exact zo_2436 p2_))) rfl rfl (by decide) (Nat.le_of_ble_eq_true rfl) (zdal_p dlD_M_keeper_41 (i := 8) rfl) ?_
  rintro _ N1_ ⟨v2_, rfl, ⟨hv2_a, hv2_b⟩, hsN1_, hp0_N1_⟩
  obtain rfl := hsN1_.eq.symm
  replace hp0_N1_ : ((v2_ = 1 ∧ 0 ≤ a0_ ∧ a0_ ≤ ((ze Mz 81 16) - 1)) ∨ (v2_ = 0 ∧ (a0_ < 0 ∨ ((ze Mz 81 16) - 1) < a0_))) := hp0_N1_
  rcases hp0_N1_ with ⟨rfl, ha10_0_hp0_N1_, ha10_1_hp0_N1_⟩ | ⟨rfl, ha10_0_hp0_N1_⟩
  · skip
    show zW l m_M_keeper (zn Mz + 0, zw Mz + 0) Mz 13 [some (.ref 81), some (.int (Int32.ofInt a0_)), none, none] [.int (Int32.ofInt 1)] (zpI [] [] Mz (fun v N => True))
    refine zr_if_ne (pc := 13) (tgt := 18) ⟨(by decide), (by decide)⟩ (by decide) (zdal_p dlD_M_keeper_41 (i := 9) rfl) (fun hc_13 => ?_) (fun hc_13 => ?_)
    · skip
      refine zw_iconst (pc := 18) (v := Int32.ofInt 0) (by decide) (zdal_p dlD_M_keeper_41 (i := 12) rfl) ?_
      refine zw_istore_n (pc := 19) (i := 2) (L2 := [some (.ref 81), some (.int (Int32.ofInt a0_)), some (.int (Int32.ofInt 0)), none]) rfl (by decide) rfl (zdal_p dlD_M_keeper_41 (i := 13) rfl) ?_
      refine zw_iconst (pc := 20) (v := Int32.ofInt 0) (by decide) (zdal_p dlD_M_keeper_41 (i := 14) rfl) ?_
      refine zw_istore_n (pc := 21) (i := 3) (L2 := [some (.ref 81), some (.int (Int32.ofInt a0_)), some (.int (Int32.ofInt 0)), some (.int (Int32.ofInt 0))]) rfl (by decide) rfl (zdal_p dlD_M_keeper_41 (i := 15) rfl) ?_
      have lp_22 : ∀ (n : Nat) (u3_ : Int) (hu3_a : -2147483648 ≤ u3_) (hu3_b : u3_ < 2147483648) (u4_ : Int) (hu4_a : -2147483648 ≤ u4_) (hu4_b : u4_ < 2147483648) (i5_ : 0 ≤ u4_), (ze Mz 81 20 - u4_).toNat < n → zW l m_M_keeper (zn Mz + 0, zw Mz + 0) Mz 22 [some (.ref 81), some (.int (Int32.ofInt a0_)), some (.int (Int32.ofInt u3_)), some (.int (Int32.ofInt u4_))] [] (zpI [] [] Mz (fun v N => True)) := by
        intro n
        induction n with
        | zero =>
          intro u3_ hu3_a hu3_b u4_ hu4_a hu4_b i5_ h0
          exact absurd h0 (Nat.not_lt_zero _)
        | succ n ih_22 =>
          intro u3_ hu3_a hu3_b u4_ hu4_a hu4_b i5_ hlt_22
          refine zw_iload_n (pc := 22) (n := 3) (x := Int32.ofInt u4_) rfl (zdal_p dlD_M_keeper_41 (i := 16) rfl) ?_
          refine zw_aload_n (pc := 23) (n := 0) (x := 81) rfl (zdal_p dlD_M_keeper_41 (i := 17) rfl) ?_
          refine zr_getI0 hf hW (pc := 24) (by decide) f_M_196 rfl (zdal_p dlD_M_keeper_41 (i := 18) rfl) ?_
          refine zr_icmp_ge (pc := 27) (tgt := 64) ⟨hu4_a, hu4_b⟩ ⟨(ze_r Mz 81 20).1, (ze_r Mz 81 20).2⟩ (by decide) (zdal_p dlD_M_keeper_41 (i := 19) rfl) (fun hc_27 => ?_) (fun hc_27 => ?_)
          · skip
            refine zw_iload_n (pc := 64) (n := 2) (x := Int32.ofInt u3_) rfl (zdal_p dlD_M_keeper_42 (i := 17) rfl) ?_
            exact zr_iret (pc := 65) (ty := .int) rfl rfl ⟨by (exact hu3_a), by (exact hu3_b)⟩ hf trivial (zdal_p dlD_M_keeper_42 (i := 18) rfl)
          · skip
            refine zw_iload_n (pc := 30) (n := 2) (x := Int32.ofInt u3_) rfl (zdal_p dlD_M_keeper_41 (i := 20) rfl) ?_
            refine zw_aload_n (pc := 31) (n := 0) (x := 81) rfl (zdal_p dlD_M_keeper_41 (i := 21) rfl) ?_
            refine zr_getF (r := 85) (hf.w hW) (pc := 32) f_M_26 rfl (zh_85 (hf.w hW)).1 (zdal_p dlD_M_keeper_41 (i := 22) rfl) ?_
            refine zw_bipush (pc := 35) (v := Int32.ofInt 6) (by decide) (zdal_p dlD_M_keeper_41 (i := 23) rfl) ?_
            refine zw_iload_n (pc := 37) (n := 3) (x := Int32.ofInt u4_) rfl (zdal_p dlD_M_keeper_42 (i := 0) rfl) ?_
            refine zr_imul (pc := 38) (zdal_p dlD_M_keeper_42 (i := 1) rfl) ?_
            refine zw_iload_n (pc := 39) (n := 1) (x := Int32.ofInt a0_) rfl (zdal_p dlD_M_keeper_42 (i := 2) rfl) ?_
            refine zr_iadd (pc := 40) (zdal_p dlD_M_keeper_42 (i := 3) rfl) ?_
            refine zr_ialdn (pc := 41) (zh_85 (hf.w hW)).2 (by decide) (by (exact zo_709 ha10_0_hp0_N1_ i5_)) (by (exact zo_2447 gb.2.1 ha10_1_hp0_N1_ hc_27 p2_)) (zdal_p dlD_M_keeper_42 (i := 4) rfl) (fun v6_ hv6_ hv6_a hv6_b => ?_)
            have hr7_ := dv1.g (e := (6 * u4_) + a0_) (by (exact zo_709 ha10_0_hp0_N1_ i5_)) (by (exact zo_2447 gb.2.1 ha10_1_hp0_N1_ hc_27 p2_))
            rw [← hv6_] at hr7_
            refine zw_iload_n (pc := 42) (n := 1) (x := Int32.ofInt a0_) rfl (zdal_p dlD_M_keeper_42 (i := 5) rfl) ?_
            refine zr_icmp_ne (pc := 43) (tgt := 50) ⟨hv6_a, hv6_b⟩ ⟨ha0_a, ha0_b⟩ (by decide) (zdal_p dlD_M_keeper_42 (i := 6) rfl) (fun hc_43 => ?_) (fun hc_43 => ?_)
            · skip
              refine zw_iconst (pc := 50) (v := Int32.ofInt 0) (by decide) (zdal_p dlD_M_keeper_42 (i := 9) rfl) ?_
              refine zr_callS hf.x (pc := 51) [.int (Int32.ofInt 0)] [.int (Int32.ofInt u3_)] l_M_256 (c_M_truth l Mz (hf.w hW) 0 (by decide) (by decide) (by (decide))) rfl rfl (by decide) (Nat.le_of_ble_eq_true rfl) (zdal_p dlD_M_keeper_42 (i := 10) rfl) ?_
              rintro _ N8_ ⟨v9_, rfl, ⟨hv9_a, hv9_b⟩, hsN8_, hp0_N8_⟩
              obtain rfl := hsN8_.eq.symm
              replace hp0_N8_ : v9_ = 0 := hp0_N8_
              show zW l m_M_keeper (zn Mz + 0, zw Mz + 0) Mz 54 [some (.ref 81), some (.int (Int32.ofInt a0_)), some (.int (Int32.ofInt u3_)), some (.int (Int32.ofInt u4_))] [.int (Int32.ofInt v9_), .int (Int32.ofInt u3_)] (zpI [] [] Mz (fun v N => True))
              refine zw_iload_n (pc := 54) (n := 3) (x := Int32.ofInt u4_) rfl (zdal_p dlD_M_keeper_42 (i := 11) rfl) ?_
              refine zr_ishl (pc := 55) (zdal_p dlD_M_keeper_42 (i := 12) rfl) ?_
              have hr10_ := zshl_r v9_ u4_
              refine zr_ior (pc := 56) (zdal_p dlD_M_keeper_42 (i := 13) rfl) ?_
              have hr11_ := zor_r u3_ (zshl v9_ u4_)
              refine zr_nmI (fun v12_ hv12_ => ?_)
              obtain ⟨hv12_a, hv12_b⟩ := hv12_
              refine zw_istore_n (pc := 57) (i := 2) (L2 := [some (.ref 81), some (.int (Int32.ofInt a0_)), some (.int (Int32.ofInt v12_)), some (.int (Int32.ofInt u4_))]) rfl (by decide) rfl (zdal_p dlD_M_keeper_42 (i := 14) rfl) ?_
              refine zr_iinc (pc := 58) (i := 3) (a := u4_) (n := 1) (L2 := [some (.ref 81), some (.int (Int32.ofInt a0_)), some (.int (Int32.ofInt v12_)), some (.int (Int32.ofInt (u4_ + 1)))]) rfl (by decide) rfl (zdal_p dlD_M_keeper_42 (i := 15) rfl) ?_
              refine zw_goto (pc := 61) (tgt := 22) (by decide) (zdal_p dlD_M_keeper_42 (i := 16) rfl) ?_
              exact ih_22 v12_ hv12_a hv12_b (u4_ + 1) (by (exact zo_74 i5_)) (by (exact zo_919 gb.2.1 hc_27)) (show 0 ≤ (u4_ + 1) by first | with_reducible assumption | (exact zo_76 i5_) | assumption) (by (exact zo_147 hc_27 hlt_22))
            · skip
              refine zw_iconst (pc := 46) (v := Int32.ofInt 1) (by decide) (zdal_p dlD_M_keeper_42 (i := 7) rfl) ?_
              refine zw_goto (pc := 47) (tgt := 51) (by decide) (zdal_p dlD_M_keeper_42 (i := 8) rfl) ?_
              refine zr_callS hf.x (pc := 51) [.int (Int32.ofInt 1)] [.int (Int32.ofInt u3_)] l_M_256 (c_M_truth l Mz (hf.w hW) 1 (by decide) (by decide) (by (decide))) rfl rfl (by decide) (Nat.le_of_ble_eq_true rfl) (zdal_p dlD_M_keeper_42 (i := 10) rfl) ?_
              rintro _ N13_ ⟨v14_, rfl, ⟨hv14_a, hv14_b⟩, hsN13_, hp0_N13_⟩
              obtain rfl := hsN13_.eq.symm
              replace hp0_N13_ : v14_ = 1 := hp0_N13_
              show zW l m_M_keeper (zn Mz + 0, zw Mz + 0) Mz 54 [some (.ref 81), some (.int (Int32.ofInt a0_)), some (.int (Int32.ofInt u3_)), some (.int (Int32.ofInt u4_))] [.int (Int32.ofInt v14_), .int (Int32.ofInt u3_)] (zpI [] [] Mz (fun v N => True))
              refine zw_iload_n (pc := 54) (n := 3) (x := Int32.ofInt u4_) rfl (zdal_p dlD_M_keeper_42 (i := 11) rfl) ?_
              refine zr_ishl (pc := 55) (zdal_p dlD_M_keeper_42 (i := 12) rfl) ?_
              have hr15_ := zshl_r v14_ u4_
              refine zr_ior (pc := 56) (zdal_p dlD_M_keeper_42 (i := 13) rfl) ?_
              have hr16_ := zor_r u3_ (zshl v14_ u4_)
              refine zr_nmI (fun v17_ hv17_ => ?_)
              obtain ⟨hv17_a, hv17_b⟩ := hv17_
              refine zw_istore_n (pc := 57) (i := 2) (L2 := [some (.ref 81), some (.int (Int32.ofInt a0_)), some (.int (Int32.ofInt v17_)), some (.int (Int32.ofInt u4_))]) rfl (by decide) rfl (zdal_p dlD_M_keeper_42 (i := 14) rfl) ?_
              refine zr_iinc (pc := 58) (i := 3) (a := u4_) (n := 1) (L2 := [some (.ref 81), some (.int (Int32.ofInt a0_)), some (.int (Int32.ofInt v17_)), some (.int (Int32.ofInt (u4_ + 1)))]) rfl (by decide) rfl (zdal_p dlD_M_keeper_42 (i := 15) rfl) ?_
              refine zw_goto (pc := 61) (tgt := 22) (by decide) (zdal_p dlD_M_keeper_42 (i := 16) rfl) ?_
              exact ih_22 v17_ hv17_a hv17_b (u4_ + 1) (by (exact zo_74 i5_)) (by (exact zo_919 gb.2.1 hc_27)) (show 0 ≤ (u4_ + 1) by first | with_reducible assumption | (exact zo_76 i5_) | assumption) (by (exact zo_147 hc_27 hlt_22))
      exact lp_22 _ 0 (by decide) (by decide) 0 (by decide) (by decide) (show 0 ≤ (0 : Int) by first | with_reducible assumption | (decide) | assumption) (Nat.lt_succ_self _)
    · skip
      exact absurd hc_13 (by decide)
  · skip
    show zW l m_M_keeper (zn Mz + 0, zw Mz + 0) Mz 13 [some (.ref 81), some (.int (Int32.ofInt a0_)), none, none] [.int (Int32.ofInt 0)] (zpI [] [] Mz (fun v N => True))
    refine zr_if_ne (pc := 13) (tgt := 18) ⟨(by decide), (by decide)⟩ (by decide) (zdal_p dlD_M_keeper_41 (i := 9) rfl) (fun hc_13 => ?_) (fun hc_13 => ?_)
    · skip
      exact absurd hc_13 (by decide)
    · skip
      refine zw_iconst (pc := 16) (v := Int32.ofInt (-1)) (by decide) (zdal_p dlD_M_keeper_41 (i := 10) rfl) ?_
      exact zr_iret (pc := 17) (ty := .int) rfl rfl ⟨by (decide), by (decide)⟩ hf trivial (zdal_p dlD_M_keeper_41 (i := 11) rfl)
set_option maxHeartbeats 4000000 in
theorem c_M_orbit (l : Launch) (Mz : zMem) (hW : zMt Mz) (a0_ : Int) (ha0_a : -2147483648 ≤ a0_) (ha0_b : a0_ < 2147483648) (T : zGT) (hO : gOK T) (p0_ : zGB T Mz) (p1_ : 1 ≤ ze Mz 81 16) (p2_ : ze Mz 81 16 ≤ 6) : zC l m_M_orbit 0 0 [.ref 81, .int (Int32.ofInt a0_)] Mz (zpI [] [] Mz (fun v N => True)) := by
  refine zC_of (L0 := [some (.ref 81), some (.int (Int32.ofInt a0_)), none, none]) md_M_orbit (Nat.le_of_ble_eq_true rfl) rfl ?_ zQ0
  have hf : zFr [] [] Mz Mz := zFr.rf
  have r_16 := ze_r Mz 81 16
  have r_20 := ze_r Mz 81 20
  have hG := hO.1
  have g24 := hG.2.1
  have g1 := hG.1
  have dv0 : zTab T Mz := p0_.1
  have dv1 : zB 85 144 0 5 Mz := p0_.2.1
  have dv2 : zJX T Mz := p0_.2.2.1
  have dv3 : zFirs T Mz := p0_.2.2.2.1
  have dv4 : zSSm T Mz := p0_.2.2.2.2.1
  have dv5 : zGD Mz := zGB.d hO p0_
  have gb := dv5.1
  have gn := dv0.1
  refine zw_iload_n (pc := 0) (n := 1) (x := Int32.ofInt a0_) rfl (zdal_p dlD_M_orbit_43 (i := 0) rfl) ?_
  refine zr_i2l (pc := 1) ⟨ha0_a, ha0_b⟩ (zdal_p dlD_M_orbit_43 (i := 1) rfl) ?_
  refine zw_lconst (pc := 2) (v := Int64.ofInt 0) (by decide) (zdal_p dlD_M_orbit_43 (i := 2) rfl) ?_
  refine zw_aload_n (pc := 3) (n := 0) (x := 81) rfl (zdal_p dlD_M_orbit_43 (i := 3) rfl) ?_
  refine zr_getI0 hf hW (pc := 4) (by decide) f_M_382 rfl (zdal_p dlD_M_orbit_43 (i := 4) rfl) ?_
  refine zw_iconst (pc := 7) (v := Int32.ofInt 1) (by decide) (zdal_p dlD_M_orbit_43 (i := 5) rfl) ?_
  refine zr_isub (pc := 8) (zdal_p dlD_M_orbit_43 (i := 6) rfl) ?_
  refine zr_i2l (pc := 9) ⟨(by (exact zo_63 p1_)), (by (exact zo_2435 p2_))⟩ (zdal_p dlD_M_orbit_43 (i := 7) rfl) ?_
  refine zr_callS hf.x (pc := 10) [.long (Int64.ofInt a0_), .long (Int64.ofInt 0), .long (Int64.ofInt ((ze Mz 81 16) - 1))] [] l_M_131 (c_M_isIn l Mz (hf.w hW) a0_ (by (exact zo_282 ha0_a)) (by (exact zo_283 ha0_b)) 0 (by decide) (by decide) ((ze Mz 81 16) - 1) (by (exact zo_2432 p1_)) (by (exact zo_2436 p2_))) rfl rfl (by decide) (Nat.le_of_ble_eq_true rfl) (zdal_p dlD_M_orbit_43 (i := 8) rfl) ?_
  rintro _ N1_ ⟨v2_, rfl, ⟨hv2_a, hv2_b⟩, hsN1_, hp0_N1_⟩
  obtain rfl := hsN1_.eq.symm
  replace hp0_N1_ : ((v2_ = 1 ∧ 0 ≤ a0_ ∧ a0_ ≤ ((ze Mz 81 16) - 1)) ∨ (v2_ = 0 ∧ (a0_ < 0 ∨ ((ze Mz 81 16) - 1) < a0_))) := hp0_N1_
  rcases hp0_N1_ with ⟨rfl, ha10_0_hp0_N1_, ha10_1_hp0_N1_⟩ | ⟨rfl, ha10_0_hp0_N1_⟩
  · skip
    show zW l m_M_orbit (zn Mz + 0, zw Mz + 0) Mz 13 [some (.ref 81), some (.int (Int32.ofInt a0_)), none, none] [.int (Int32.ofInt 1)] (zpI [] [] Mz (fun v N => True))
    refine zr_if_ne (pc := 13) (tgt := 18) ⟨(by decide), (by decide)⟩ (by decide) (zdal_p dlD_M_orbit_43 (i := 9) rfl) (fun hc_13 => ?_) (fun hc_13 => ?_)
    · skip
      refine zw_iconst (pc := 18) (v := Int32.ofInt 0) (by decide) (zdal_p dlD_M_orbit_43 (i := 12) rfl) ?_
      refine zw_istore_n (pc := 19) (i := 2) (L2 := [some (.ref 81), some (.int (Int32.ofInt a0_)), some (.int (Int32.ofInt 0)), none]) rfl (by decide) rfl (zdal_p dlD_M_orbit_43 (i := 13) rfl) ?_
      refine zw_iconst (pc := 20) (v := Int32.ofInt 0) (by decide) (zdal_p dlD_M_orbit_43 (i := 14) rfl) ?_
      refine zw_istore_n (pc := 21) (i := 3) (L2 := [some (.ref 81), some (.int (Int32.ofInt a0_)), some (.int (Int32.ofInt 0)), some (.int (Int32.ofInt 0))]) rfl (by decide) rfl (zdal_p dlD_M_orbit_43 (i := 15) rfl) ?_
      have lp_22 : ∀ (n : Nat) (u3_ : Int) (hu3_a : -2147483648 ≤ u3_) (hu3_b : u3_ < 2147483648) (u4_ : Int) (hu4_a : -2147483648 ≤ u4_) (hu4_b : u4_ < 2147483648) (i5_ : 0 ≤ u4_), (ze Mz 81 20 - u4_).toNat < n → zW l m_M_orbit (zn Mz + 0, zw Mz + 0) Mz 22 [some (.ref 81), some (.int (Int32.ofInt a0_)), some (.int (Int32.ofInt u3_)), some (.int (Int32.ofInt u4_))] [] (zpI [] [] Mz (fun v N => True)) := by
        intro n
        induction n with
        | zero =>
          intro u3_ hu3_a hu3_b u4_ hu4_a hu4_b i5_ h0
          exact absurd h0 (Nat.not_lt_zero _)
        | succ n ih_22 =>
          intro u3_ hu3_a hu3_b u4_ hu4_a hu4_b i5_ hlt_22
          refine zw_iload_n (pc := 22) (n := 3) (x := Int32.ofInt u4_) rfl (zdal_p dlD_M_orbit_43 (i := 16) rfl) ?_
          refine zw_aload_n (pc := 23) (n := 0) (x := 81) rfl (zdal_p dlD_M_orbit_43 (i := 17) rfl) ?_
          refine zr_getI0 hf hW (pc := 24) (by decide) f_M_196 rfl (zdal_p dlD_M_orbit_43 (i := 18) rfl) ?_
          refine zr_icmp_ge (pc := 27) (tgt := 52) ⟨hu4_a, hu4_b⟩ ⟨(ze_r Mz 81 20).1, (ze_r Mz 81 20).2⟩ (by decide) (zdal_p dlD_M_orbit_43 (i := 19) rfl) (fun hc_27 => ?_) (fun hc_27 => ?_)
          · skip
            refine zw_iload_n (pc := 52) (n := 2) (x := Int32.ofInt u3_) rfl (zdal_p dlD_M_orbit_44 (i := 11) rfl) ?_
            exact zr_iret (pc := 53) (ty := .int) rfl rfl ⟨by (exact hu3_a), by (exact hu3_b)⟩ hf trivial (zdal_p dlD_M_orbit_44 (i := 12) rfl)
          · skip
            refine zw_iload_n (pc := 30) (n := 2) (x := Int32.ofInt u3_) rfl (zdal_p dlD_M_orbit_43 (i := 20) rfl) ?_
            refine zw_iconst (pc := 31) (v := Int32.ofInt 1) (by decide) (zdal_p dlD_M_orbit_43 (i := 21) rfl) ?_
            refine zw_aload_n (pc := 32) (n := 0) (x := 81) rfl (zdal_p dlD_M_orbit_43 (i := 22) rfl) ?_
            refine zr_getF (r := 85) (hf.w hW) (pc := 33) f_M_26 rfl (zh_85 (hf.w hW)).1 (zdal_p dlD_M_orbit_43 (i := 23) rfl) ?_
            refine zw_bipush (pc := 36) (v := Int32.ofInt 6) (by decide) (zdal_p dlD_M_orbit_44 (i := 0) rfl) ?_
            refine zw_iload_n (pc := 38) (n := 3) (x := Int32.ofInt u4_) rfl (zdal_p dlD_M_orbit_44 (i := 1) rfl) ?_
            refine zr_imul (pc := 39) (zdal_p dlD_M_orbit_44 (i := 2) rfl) ?_
            refine zw_iload_n (pc := 40) (n := 1) (x := Int32.ofInt a0_) rfl (zdal_p dlD_M_orbit_44 (i := 3) rfl) ?_
            refine zr_iadd (pc := 41) (zdal_p dlD_M_orbit_44 (i := 4) rfl) ?_
            refine zr_ialdn (pc := 42) (zh_85 (hf.w hW)).2 (by decide) (by (exact zo_709 ha10_0_hp0_N1_ i5_)) (by (exact zo_2447 gb.2.1 ha10_1_hp0_N1_ hc_27 p2_)) (zdal_p dlD_M_orbit_44 (i := 5) rfl) (fun v6_ hv6_ hv6_a hv6_b => ?_)
            have hr7_ := dv1.g (e := (6 * u4_) + a0_) (by (exact zo_709 ha10_0_hp0_N1_ i5_)) (by (exact zo_2447 gb.2.1 ha10_1_hp0_N1_ hc_27 p2_))
            rw [← hv6_] at hr7_
            refine zr_ishl (pc := 43) (zdal_p dlD_M_orbit_44 (i := 6) rfl) ?_
            have hr8_ := zshl_r 1 v6_
            refine zr_ior (pc := 44) (zdal_p dlD_M_orbit_44 (i := 7) rfl) ?_
            have hr9_ := zor_r u3_ (zshl 1 v6_)
            refine zr_nmI (fun v10_ hv10_ => ?_)
            obtain ⟨hv10_a, hv10_b⟩ := hv10_
            refine zw_istore_n (pc := 45) (i := 2) (L2 := [some (.ref 81), some (.int (Int32.ofInt a0_)), some (.int (Int32.ofInt v10_)), some (.int (Int32.ofInt u4_))]) rfl (by decide) rfl (zdal_p dlD_M_orbit_44 (i := 8) rfl) ?_
            refine zr_iinc (pc := 46) (i := 3) (a := u4_) (n := 1) (L2 := [some (.ref 81), some (.int (Int32.ofInt a0_)), some (.int (Int32.ofInt v10_)), some (.int (Int32.ofInt (u4_ + 1)))]) rfl (by decide) rfl (zdal_p dlD_M_orbit_44 (i := 9) rfl) ?_
            refine zw_goto (pc := 49) (tgt := 22) (by decide) (zdal_p dlD_M_orbit_44 (i := 10) rfl) ?_
            exact ih_22 v10_ hv10_a hv10_b (u4_ + 1) (by (exact zo_74 i5_)) (by (exact zo_919 gb.2.1 hc_27)) (show 0 ≤ (u4_ + 1) by first | with_reducible assumption | (exact zo_76 i5_) | assumption) (by (exact zo_147 hc_27 hlt_22))
      exact lp_22 _ 0 (by decide) (by decide) 0 (by decide) (by decide) (show 0 ≤ (0 : Int) by first | with_reducible assumption | (decide) | assumption) (Nat.lt_succ_self _)
    · skip
      exact absurd hc_13 (by decide)
  · skip
    show zW l m_M_orbit (zn Mz + 0, zw Mz + 0) Mz 13 [some (.ref 81), some (.int (Int32.ofInt a0_)), none, none] [.int (Int32.ofInt 0)] (zpI [] [] Mz (fun v N => True))
    refine zr_if_ne (pc := 13) (tgt := 18) ⟨(by decide), (by decide)⟩ (by decide) (zdal_p dlD_M_orbit_43 (i := 9) rfl) (fun hc_13 => ?_) (fun hc_13 => ?_)
    · skip
      exact absurd hc_13 (by decide)
    · skip
      refine zw_iconst (pc := 16) (v := Int32.ofInt (-1)) (by decide) (zdal_p dlD_M_orbit_43 (i := 10) rfl) ?_
      exact zr_iret (pc := 17) (ty := .int) rfl rfl ⟨by (decide), by (decide)⟩ hf trivial (zdal_p dlD_M_orbit_43 (i := 11) rfl)
