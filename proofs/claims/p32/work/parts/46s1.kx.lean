set_option maxHeartbeats 4000000 in
theorem u_Integer_bitCountX (l : Launch) (d_ : Nat) (Mz : zMem) (hW : zKW d_ Mz) (a0_ : Int) (ha0_a : -2147483648 ≤ a0_) (ha0_b : a0_ < 2147483648) : zC l m_Integer_bitCount 0 0 [.int (Int32.ofInt a0_)] Mz (zqcI d_ [] [] [] [] Mz (fun v N => 0 ≤ v ∧ v ≤ 63)) := by
  refine zC_of (L0 := [some (.int (Int32.ofInt a0_))]) md_Integer_bitCount (Nat.le_of_ble_eq_true rfl) rfl ?_ zQ0
  have hf : zFc d_ [] [] [] [] Mz Mz := zFc.rf
  refine zw_iload_n (pc := 0) (n := 0) (x := Int32.ofInt a0_) rfl (zdal_p dlB_Integer_bitCount_152 (i := 0) rfl) ?_
  refine zw_iload_n (pc := 1) (n := 0) (x := Int32.ofInt a0_) rfl (zdal_p dlB_Integer_bitCount_152 (i := 1) rfl) ?_
  refine zw_iconst (pc := 2) (v := Int32.ofInt 1) (by decide) (zdal_p dlB_Integer_bitCount_152 (i := 2) rfl) ?_
  refine zr_iushr (pc := 3) (zdal_p dlB_Integer_bitCount_152 (i := 3) rfl) ?_
  refine zr_nmI (fun v1_ hv1_ => ?_)
  obtain ⟨hv1_a, hv1_b⟩ := hv1_
  refine zw_ldcw (pc := 4) (v := Int32.ofInt 1431655765) (by rw [show Int32.ofInt 1431655765 = (1431655765 : Int32) by decide]; exact k_Integer_265) (zdal_p dlB_Integer_bitCount_152 (i := 4) rfl) ?_
  refine zr_iand (pc := 7) (zdal_p dlB_Integer_bitCount_152 (i := 5) rfl) ?_
  have hr2_ := zand_r v1_ 1431655765
  refine zr_nmI (fun v3_ hv3_ => ?_)
  obtain ⟨hv3_a, hv3_b⟩ := hv3_
  refine zr_isub (pc := 8) (zdal_p dlB_Integer_bitCount_152 (i := 6) rfl) ?_
  refine zr_nmI (fun v4_ hv4_ => ?_)
  obtain ⟨hv4_a, hv4_b⟩ := hv4_
  refine zw_istore_n (pc := 9) (i := 0) (L2 := [some (.int (Int32.ofInt v4_))]) rfl (by decide) rfl (zdal_p dlB_Integer_bitCount_152 (i := 7) rfl) ?_
  refine zw_iload_n (pc := 10) (n := 0) (x := Int32.ofInt v4_) rfl (zdal_p dlB_Integer_bitCount_152 (i := 8) rfl) ?_
  refine zw_ldcw (pc := 11) (v := Int32.ofInt 858993459) (by rw [show Int32.ofInt 858993459 = (858993459 : Int32) by decide]; exact k_Integer_266) (zdal_p dlB_Integer_bitCount_152 (i := 9) rfl) ?_
  refine zr_iand (pc := 14) (zdal_p dlB_Integer_bitCount_152 (i := 10) rfl) ?_
  have hr5_ := zand_r v4_ 858993459
  refine zr_nmI (fun v6_ hv6_ => ?_)
  obtain ⟨hv6_a, hv6_b⟩ := hv6_
  refine zw_iload_n (pc := 15) (n := 0) (x := Int32.ofInt v4_) rfl (zdal_p dlB_Integer_bitCount_152 (i := 11) rfl) ?_
  refine zw_iconst (pc := 16) (v := Int32.ofInt 2) (by decide) (zdal_p dlB_Integer_bitCount_152 (i := 12) rfl) ?_
  refine zr_iushr (pc := 17) (zdal_p dlB_Integer_bitCount_152 (i := 13) rfl) ?_
  refine zr_nmI (fun v7_ hv7_ => ?_)
  obtain ⟨hv7_a, hv7_b⟩ := hv7_
  refine zw_ldcw (pc := 18) (v := Int32.ofInt 858993459) (by rw [show Int32.ofInt 858993459 = (858993459 : Int32) by decide]; exact k_Integer_266) (zdal_p dlB_Integer_bitCount_152 (i := 14) rfl) ?_
  refine zr_iand (pc := 21) (zdal_p dlB_Integer_bitCount_152 (i := 15) rfl) ?_
  have hr8_ := zand_r v7_ 858993459
  refine zr_nmI (fun v9_ hv9_ => ?_)
  obtain ⟨hv9_a, hv9_b⟩ := hv9_
  refine zr_iadd (pc := 22) (zdal_p dlB_Integer_bitCount_152 (i := 16) rfl) ?_
  refine zr_nmI (fun v10_ hv10_ => ?_)
  obtain ⟨hv10_a, hv10_b⟩ := hv10_
  refine zw_istore_n (pc := 23) (i := 0) (L2 := [some (.int (Int32.ofInt v10_))]) rfl (by decide) rfl (zdal_p dlB_Integer_bitCount_152 (i := 17) rfl) ?_
  refine zw_iload_n (pc := 24) (n := 0) (x := Int32.ofInt v10_) rfl (zdal_p dlB_Integer_bitCount_152 (i := 18) rfl) ?_
  refine zw_iload_n (pc := 25) (n := 0) (x := Int32.ofInt v10_) rfl (zdal_p dlB_Integer_bitCount_152 (i := 19) rfl) ?_
  refine zw_iconst (pc := 26) (v := Int32.ofInt 4) (by decide) (zdal_p dlB_Integer_bitCount_152 (i := 20) rfl) ?_
  refine zr_iushr (pc := 27) (zdal_p dlB_Integer_bitCount_152 (i := 21) rfl) ?_
  refine zr_nmI (fun v11_ hv11_ => ?_)
  obtain ⟨hv11_a, hv11_b⟩ := hv11_
  refine zr_iadd (pc := 28) (zdal_p dlB_Integer_bitCount_152 (i := 22) rfl) ?_
  refine zr_nmI (fun v12_ hv12_ => ?_)
  obtain ⟨hv12_a, hv12_b⟩ := hv12_
  refine zw_ldcw (pc := 29) (v := Int32.ofInt 252645135) (by rw [show Int32.ofInt 252645135 = (252645135 : Int32) by decide]; exact k_Integer_267) (zdal_p dlB_Integer_bitCount_152 (i := 23) rfl) ?_
  refine zr_iand (pc := 32) (zdal_p dlB_Integer_bitCount_153 (i := 0) rfl) ?_
  have hr13_ := zand_r v12_ 252645135
  refine zr_nmI (fun v14_ hv14_ => ?_)
  obtain ⟨hv14_a, hv14_b⟩ := hv14_
  refine zw_istore_n (pc := 33) (i := 0) (L2 := [some (.int (Int32.ofInt v14_))]) rfl (by decide) rfl (zdal_p dlB_Integer_bitCount_153 (i := 1) rfl) ?_
  refine zw_iload_n (pc := 34) (n := 0) (x := Int32.ofInt v14_) rfl (zdal_p dlB_Integer_bitCount_153 (i := 2) rfl) ?_
  refine zw_iload_n (pc := 35) (n := 0) (x := Int32.ofInt v14_) rfl (zdal_p dlB_Integer_bitCount_153 (i := 3) rfl) ?_
  refine zw_bipush (pc := 36) (v := Int32.ofInt 8) (by decide) (zdal_p dlB_Integer_bitCount_153 (i := 4) rfl) ?_
  refine zr_iushr (pc := 38) (zdal_p dlB_Integer_bitCount_153 (i := 5) rfl) ?_
  refine zr_nmI (fun v15_ hv15_ => ?_)
  obtain ⟨hv15_a, hv15_b⟩ := hv15_
  refine zr_iadd (pc := 39) (zdal_p dlB_Integer_bitCount_153 (i := 6) rfl) ?_
  refine zr_nmI (fun v16_ hv16_ => ?_)
  obtain ⟨hv16_a, hv16_b⟩ := hv16_
  refine zw_istore_n (pc := 40) (i := 0) (L2 := [some (.int (Int32.ofInt v16_))]) rfl (by decide) rfl (zdal_p dlB_Integer_bitCount_153 (i := 7) rfl) ?_
  refine zw_iload_n (pc := 41) (n := 0) (x := Int32.ofInt v16_) rfl (zdal_p dlB_Integer_bitCount_153 (i := 8) rfl) ?_
  refine zw_iload_n (pc := 42) (n := 0) (x := Int32.ofInt v16_) rfl (zdal_p dlB_Integer_bitCount_153 (i := 9) rfl) ?_
  refine zw_bipush (pc := 43) (v := Int32.ofInt 16) (by decide) (zdal_p dlB_Integer_bitCount_153 (i := 10) rfl) ?_
  refine zr_iushr (pc := 45) (zdal_p dlB_Integer_bitCount_153 (i := 11) rfl) ?_
  refine zr_nmI (fun v17_ hv17_ => ?_)
  obtain ⟨hv17_a, hv17_b⟩ := hv17_
  refine zr_iadd (pc := 46) (zdal_p dlB_Integer_bitCount_153 (i := 12) rfl) ?_
  refine zr_nmI (fun v18_ hv18_ => ?_)
  obtain ⟨hv18_a, hv18_b⟩ := hv18_
  refine zw_istore_n (pc := 47) (i := 0) (L2 := [some (.int (Int32.ofInt v18_))]) rfl (by decide) rfl (zdal_p dlB_Integer_bitCount_153 (i := 13) rfl) ?_
  refine zw_iload_n (pc := 48) (n := 0) (x := Int32.ofInt v18_) rfl (zdal_p dlB_Integer_bitCount_153 (i := 14) rfl) ?_
  refine zw_bipush (pc := 49) (v := Int32.ofInt 63) (by decide) (zdal_p dlB_Integer_bitCount_153 (i := 15) rfl) ?_
  refine zr_iand (pc := 51) (zdal_p dlB_Integer_bitCount_153 (i := 16) rfl) ?_
  have hr19_ := zand_r v18_ 63
  refine zk_nmI (fun v20_ hv20_ hv20_e => ?_)
  obtain ⟨hv20_a, hv20_b⟩ := hv20_
  have h63_ : 0 ≤ v20_ ∧ v20_ ≤ 63 := by rw [hv20_e ⟨(zand_r _ _).1, (zand_r _ _).2⟩]; exact zand63 _
  exact zk_iret (pc := 52) (ty := .int) rfl rfl ⟨by omega, by omega⟩ hf ⟨(show 0 ≤ v20_ by first | with_reducible assumption | assumption | omega), (show v20_ ≤ 63 by first | with_reducible assumption | assumption | omega)⟩ (zdal_p dlB_Integer_bitCount_153 (i := 17) rfl)
set_option maxHeartbeats 4000000 in
theorem u_T_placeInX (l : Launch) (d_ : Nat) (Mz : zMem) (hW : zKW d_ Mz) (a0_ : Int) (ha0_a : -2147483648 ≤ a0_) (ha0_b : a0_ < 2147483648) (a1_ : Int) (ha1_a : -2147483648 ≤ a1_) (ha1_b : a1_ < 2147483648) : zC l m_T_placeIn 0 0 [.int (Int32.ofInt a0_), .int (Int32.ofInt a1_)] Mz (zqcI d_ [] [] [] [] Mz (fun v N => True)) := by
  refine zC_of (L0 := [some (.int (Int32.ofInt a0_)), some (.int (Int32.ofInt a1_))]) md_T_placeIn (Nat.le_of_ble_eq_true rfl) rfl ?_ zQ0
  have hf : zFc d_ [] [] [] [] Mz Mz := zFc.rf
  refine zw_iload_n (pc := 0) (n := 0) (x := Int32.ofInt a0_) rfl (zdal_p dlA_T_placeIn_25 (i := 0) rfl) ?_
  refine zw_iconst (pc := 1) (v := Int32.ofInt 3) (by decide) (zdal_p dlA_T_placeIn_25 (i := 1) rfl) ?_
  refine zw_iconst (pc := 2) (v := Int32.ofInt 5) (by decide) (zdal_p dlA_T_placeIn_25 (i := 2) rfl) ?_
  refine zw_iload_n (pc := 3) (n := 1) (x := Int32.ofInt a1_) rfl (zdal_p dlA_T_placeIn_25 (i := 3) rfl) ?_
  refine zr_isub (pc := 4) (zdal_p dlA_T_placeIn_25 (i := 4) rfl) ?_
  refine zr_nmI (fun v1_ hv1_ => ?_)
  obtain ⟨hv1_a, hv1_b⟩ := hv1_
  refine zr_imul (pc := 5) (zdal_p dlA_T_placeIn_25 (i := 5) rfl) ?_
  refine zr_nmI (fun v2_ hv2_ => ?_)
  obtain ⟨hv2_a, hv2_b⟩ := hv2_
  refine zr_ishr (pc := 6) (zdal_p dlA_T_placeIn_25 (i := 6) rfl) ?_
  have hr3_ := zshr_r a0_ v2_
  refine zr_nmI (fun v4_ hv4_ => ?_)
  obtain ⟨hv4_a, hv4_b⟩ := hv4_
  refine zw_bipush (pc := 7) (v := Int32.ofInt 7) (by decide) (zdal_p dlA_T_placeIn_25 (i := 7) rfl) ?_
  refine zr_iand (pc := 9) (zdal_p dlA_T_placeIn_25 (i := 8) rfl) ?_
  have hr5_ := zand_r v4_ 7
  refine zr_nmI (fun v6_ hv6_ => ?_)
  obtain ⟨hv6_a, hv6_b⟩ := hv6_
  exact zk_iret (pc := 10) (ty := .int) rfl rfl ⟨by omega, by omega⟩ hf trivial (zdal_p dlA_T_placeIn_25 (i := 9) rfl)
set_option maxHeartbeats 4000000 in
theorem u_T_isInX (l : Launch) (d_ : Nat) (Mz : zMem) (hW : zKW d_ Mz) (a0_ : Int) (ha0_a : -2147483648 ≤ a0_) (ha0_b : a0_ < 2147483648) (a1_ : Int) (ha1_a : -2147483648 ≤ a1_) (ha1_b : a1_ < 2147483648) : zC l m_T_isIn 0 0 [.int (Int32.ofInt a0_), .int (Int32.ofInt a1_)] Mz (zqcI d_ [] [] [] [] Mz (fun v N => ((v = 0 ∨ v = 1)))) := by
  refine zC_of (L0 := [some (.int (Int32.ofInt a0_)), some (.int (Int32.ofInt a1_))]) md_T_isIn (Nat.le_of_ble_eq_true rfl) rfl ?_ zQ0
  have hf : zFc d_ [] [] [] [] Mz Mz := zFc.rf
  refine zw_iload_n (pc := 0) (n := 0) (x := Int32.ofInt a0_) rfl (zdal_p dlA_T_isIn_35 (i := 0) rfl) ?_
  refine zw_iload_n (pc := 1) (n := 1) (x := Int32.ofInt a1_) rfl (zdal_p dlA_T_isIn_35 (i := 1) rfl) ?_
  refine zr_ishr (pc := 2) (zdal_p dlA_T_isIn_35 (i := 2) rfl) ?_
  have hr1_ := zshr_r a0_ a1_
  refine zr_nmI (fun v2_ hv2_ => ?_)
  obtain ⟨hv2_a, hv2_b⟩ := hv2_
  refine zw_iconst (pc := 3) (v := Int32.ofInt 1) (by decide) (zdal_p dlA_T_isIn_35 (i := 3) rfl) ?_
  refine zr_iand (pc := 4) (zdal_p dlA_T_isIn_35 (i := 4) rfl) ?_
  have hr3_ := zand_r v2_ 1
  refine zr_nmI (fun v4_ hv4_ => ?_)
  obtain ⟨hv4_a, hv4_b⟩ := hv4_
  refine zr_if_eq (pc := 5) (tgt := 12) ⟨hv4_a, hv4_b⟩ (by decide) (zdal_p dlA_T_isIn_35 (i := 5) rfl) (fun hc_5 => ?_) (fun hc_5 => ?_)
  · skip
    refine zw_iconst (pc := 12) (v := Int32.ofInt 0) (by decide) (zdal_p dlA_T_isIn_35 (i := 8) rfl) ?_
    exact zk_iret (pc := 13) (ty := .boolean) rfl (z_narB (by omega)) ⟨by omega, by omega⟩ hf (show (((0 : Int)) = 0 ∨ ((0 : Int)) = 1) by first | with_reducible assumption | assumption | omega) (zdal_p dlA_T_isIn_35 (i := 9) rfl)
  · skip
    refine zw_iconst (pc := 8) (v := Int32.ofInt 1) (by decide) (zdal_p dlA_T_isIn_35 (i := 6) rfl) ?_
    refine zw_goto (pc := 9) (tgt := 13) (by decide) (zdal_p dlA_T_isIn_35 (i := 7) rfl) ?_
    exact zk_iret (pc := 13) (ty := .boolean) rfl (z_narB (by omega)) ⟨by omega, by omega⟩ hf (show (((1 : Int)) = 0 ∨ ((1 : Int)) = 1) by first | with_reducible assumption | assumption | omega) (zdal_p dlA_T_isIn_35 (i := 9) rfl)
set_option maxHeartbeats 4000000 in
theorem u_T_isPartX (l : Launch) (d_ : Nat) (Mz : zMem) (hW : zKW d_ Mz) (a0_ : Int) (ha0_a : -2147483648 ≤ a0_) (ha0_b : a0_ < 2147483648) (a1_ : Int) (ha1_a : -2147483648 ≤ a1_) (ha1_b : a1_ < 2147483648) : zC l m_T_isPart 0 0 [.int (Int32.ofInt a0_), .int (Int32.ofInt a1_)] Mz (zqcI d_ [] [] [] [] Mz (fun v N => ((v = 0 ∨ v = 1)))) := by
  refine zC_of (L0 := [some (.int (Int32.ofInt a0_)), some (.int (Int32.ofInt a1_))]) md_T_isPart (Nat.le_of_ble_eq_true rfl) rfl ?_ zQ0
  have hf : zFc d_ [] [] [] [] Mz Mz := zFc.rf
  refine zw_iload_n (pc := 0) (n := 0) (x := Int32.ofInt a0_) rfl (zdal_p dlA_T_isPart_58 (i := 0) rfl) ?_
  refine zw_iload_n (pc := 1) (n := 1) (x := Int32.ofInt a1_) rfl (zdal_p dlA_T_isPart_58 (i := 1) rfl) ?_
  refine zw_iconst (pc := 2) (v := Int32.ofInt (-1)) (by decide) (zdal_p dlA_T_isPart_58 (i := 2) rfl) ?_
  refine zr_ixor (pc := 3) (zdal_p dlA_T_isPart_58 (i := 3) rfl) ?_
  have hr1_ := zxor_r a1_ ((-1))
  refine zr_nmI (fun v2_ hv2_ => ?_)
  obtain ⟨hv2_a, hv2_b⟩ := hv2_
  refine zr_iand (pc := 4) (zdal_p dlA_T_isPart_58 (i := 4) rfl) ?_
  have hr3_ := zand_r a0_ v2_
  refine zr_nmI (fun v4_ hv4_ => ?_)
  obtain ⟨hv4_a, hv4_b⟩ := hv4_
  refine zr_if_ne (pc := 5) (tgt := 12) ⟨hv4_a, hv4_b⟩ (by decide) (zdal_p dlA_T_isPart_58 (i := 5) rfl) (fun hc_5 => ?_) (fun hc_5 => ?_)
  · skip
    refine zw_iconst (pc := 12) (v := Int32.ofInt 0) (by decide) (zdal_p dlA_T_isPart_58 (i := 8) rfl) ?_
    exact zk_iret (pc := 13) (ty := .boolean) rfl (z_narB (by omega)) ⟨by omega, by omega⟩ hf (show (((0 : Int)) = 0 ∨ ((0 : Int)) = 1) by first | with_reducible assumption | assumption | omega) (zdal_p dlA_T_isPart_58 (i := 9) rfl)
  · skip
    refine zw_iconst (pc := 8) (v := Int32.ofInt 1) (by decide) (zdal_p dlA_T_isPart_58 (i := 6) rfl) ?_
    refine zw_goto (pc := 9) (tgt := 13) (by decide) (zdal_p dlA_T_isPart_58 (i := 7) rfl) ?_
    exact zk_iret (pc := 13) (ty := .boolean) rfl (z_narB (by omega)) ⟨by omega, by omega⟩ hf (show (((1 : Int)) = 0 ∨ ((1 : Int)) = 1) by first | with_reducible assumption | assumption | omega) (zdal_p dlA_T_isPart_58 (i := 9) rfl)
set_option maxHeartbeats 4000000 in
theorem u_T_faultX (l : Launch) (d_ : Nat) (Mz : zMem) (hW : zKW d_ Mz) (hnow : zf Mz 0 2 = some (d_ + 0)) (a0_ : Int) (ha0_a : -2147483648 ≤ a0_) (ha0_b : a0_ < 2147483648) : zC l m_T_fault 0 0 [.ref 0, .int (Int32.ofInt a0_)] Mz (zqcI d_ [] [] [] [] Mz (fun v N => True)) := by
  refine zC_of (L0 := [some (.ref 0), some (.int (Int32.ofInt a0_))]) md_T_fault (Nat.le_of_ble_eq_true rfl) rfl ?_ zQ0
  have hf : zFc d_ [] [] [] [] Mz Mz := zFc.rf
  refine zw_iload_n (pc := 0) (n := 1) (x := Int32.ofInt a0_) rfl (zdal_p dlA_T_fault_163 (i := 0) rfl) ?_
  refine zr_if_ne (pc := 1) (tgt := 12) ⟨ha0_a, ha0_b⟩ (by decide) (zdal_p dlA_T_fault_163 (i := 1) rfl) (fun hc_1 => ?_) (fun hc_1 => ?_)
  · skip
    refine zw_iload_n (pc := 12) (n := 1) (x := Int32.ofInt a0_) rfl (zdal_p dlA_T_fault_163 (i := 6) rfl) ?_
    refine zw_iconst (pc := 13) (v := Int32.ofInt 1) (by decide) (zdal_p dlA_T_fault_163 (i := 7) rfl) ?_
    refine zr_icmp_ne (pc := 14) (tgt := 27) ⟨ha0_a, ha0_b⟩ ⟨(by decide), (by decide)⟩ (by decide) (zdal_p dlA_T_fault_163 (i := 8) rfl) (fun hc_14 => ?_) (fun hc_14 => ?_)
    · skip
      refine zw_iconst (pc := 27) (v := Int32.ofInt (-1)) (by decide) (zdal_p dlA_T_fault_163 (i := 13) rfl) ?_
      exact zk_iret (pc := 28) (ty := .int) rfl rfl ⟨by omega, by omega⟩ hf trivial (zdal_p dlA_T_fault_163 (i := 14) rfl)
    · skip
      refine zw_aload_n (pc := 17) (n := 0) (x := 0) rfl (zdal_p dlA_T_fault_163 (i := 9) rfl) ?_
      refine zw_getF (pc := 18) f_T_21 rfl ((hf.w hW).ka (o := 0) (by decide)) ((hf.w hW).la (o := 0) (s := 1) (r := 4) (by decide)) (zdal_p dlA_T_fault_163 (i := 10) rfl) ?_
      refine zk_getI (pc := 21) f_T_73 rfl ((hf.w hW).ka (o := 4) (by decide)) (zdal_p dlA_T_fault_163 (i := 11) rfl) ?_
      have hr1_ := ze_r Mz 4 3
      refine zw_goto (pc := 24) (tgt := 28) (by decide) (zdal_p dlA_T_fault_163 (i := 12) rfl) ?_
      exact zk_iret (pc := 28) (ty := .int) rfl rfl ⟨by omega, by omega⟩ hf trivial (zdal_p dlA_T_fault_163 (i := 14) rfl)
  · skip
    refine zw_aload_n (pc := 4) (n := 0) (x := 0) rfl (zdal_p dlA_T_fault_163 (i := 2) rfl) ?_
    refine zw_getF (pc := 5) f_T_21 rfl ((hf.w hW).ka (o := 0) (by decide)) ((hf.w hW).la (o := 0) (s := 1) (r := 4) (by decide)) (zdal_p dlA_T_fault_163 (i := 3) rfl) ?_
    refine zk_getI (pc := 8) f_T_70 rfl ((hf.w hW).ka (o := 4) (by decide)) (zdal_p dlA_T_fault_163 (i := 4) rfl) ?_
    have hr2_ := ze_r Mz 4 2
    exact zk_iret (pc := 11) (ty := .int) rfl rfl ⟨by omega, by omega⟩ hf trivial (zdal_p dlA_T_fault_163 (i := 5) rfl)
set_option maxHeartbeats 4000000 in
theorem u_Group_everyoneX (l : Launch) (d_ : Nat) (Mz : zMem) (hW : zKW d_ Mz) : zC l m_Group_everyone 0 0 [.ref (d_ + 1)] Mz (zqcI d_ [] [] [] [] Mz (fun v N => True)) := by
  refine zC_of (L0 := [some (.ref (d_ + 1))]) md_Group_everyone (Nat.le_of_ble_eq_true rfl) rfl ?_ zQ0
  have hf : zFc d_ [] [] [] [] Mz Mz := zFc.rf
  refine zw_iconst (pc := 0) (v := Int32.ofInt 1) (by decide) (zdal_p dlA_Group_everyone_167 (i := 0) rfl) ?_
  refine zw_aload_n (pc := 1) (n := 0) (x := (d_ + 1)) rfl (zdal_p dlA_Group_everyone_167 (i := 1) rfl) ?_
  refine zk_getI (pc := 2) f_Group_39 rfl ((hf.w hW).kr (o := 1) (by decide)) (zdal_p dlA_Group_everyone_167 (i := 2) rfl) ?_
  have hr1_ := ze_r Mz (d_ + 1) 7
  refine zr_ishl (pc := 5) (zdal_p dlA_Group_everyone_167 (i := 3) rfl) ?_
  have hr2_ := zshl_r 1 (ze Mz (d_ + 1) 7)
  refine zr_nmI (fun v3_ hv3_ => ?_)
  obtain ⟨hv3_a, hv3_b⟩ := hv3_
  refine zw_iconst (pc := 6) (v := Int32.ofInt 1) (by decide) (zdal_p dlA_Group_everyone_167 (i := 4) rfl) ?_
  refine zr_isub (pc := 7) (zdal_p dlA_Group_everyone_167 (i := 5) rfl) ?_
  refine zr_nmI (fun v4_ hv4_ => ?_)
  obtain ⟨hv4_a, hv4_b⟩ := hv4_
  exact zk_iret (pc := 8) (ty := .int) rfl rfl ⟨by omega, by omega⟩ hf trivial (zdal_p dlA_Group_everyone_167 (i := 6) rfl)
set_option maxHeartbeats 4000000 in
theorem u_Group_bothX (l : Launch) (d_ : Nat) (Mz : zMem) (hW : zKW d_ Mz) (a0_ : Int) (ha0_a : -2147483648 ≤ a0_) (ha0_b : a0_ < 2147483648) (a1_ : Int) (ha1_a : -2147483648 ≤ a1_) (ha1_b : a1_ < 2147483648) : zC l m_Group_both 0 0 [.ref (d_ + 1), .int (Int32.ofInt a0_), .int (Int32.ofInt a1_)] Mz (zqcI d_ [] [] [] [] Mz (fun v N => True)) := by
  refine zC_of (L0 := [some (.ref (d_ + 1)), some (.int (Int32.ofInt a0_)), some (.int (Int32.ofInt a1_))]) md_Group_both (Nat.le_of_ble_eq_true rfl) rfl ?_ zQ0
  have hf : zFc d_ [] [] [] [] Mz Mz := zFc.rf
  refine zw_aload_n (pc := 0) (n := 0) (x := (d_ + 1)) rfl (zdal_p dlA_Group_both_39 (i := 0) rfl) ?_
  refine zw_getF (pc := 1) f_Group_23 rfl ((hf.w hW).kr (o := 1) (by decide)) ((hf.w hW).lr (o := 1) (s := 2) (r := 6) (by decide)) (zdal_p dlA_Group_both_39 (i := 1) rfl) ?_
  refine zw_iload_n (pc := 4) (n := 1) (x := Int32.ofInt a0_) rfl (zdal_p dlA_Group_both_39 (i := 2) rfl) ?_
  refine zw_bipush (pc := 5) (v := Int32.ofInt 24) (by decide) (zdal_p dlA_Group_both_39 (i := 3) rfl) ?_
  refine zr_imul (pc := 7) (zdal_p dlA_Group_both_39 (i := 4) rfl) ?_
  refine zr_nmI (fun v1_ hv1_ => ?_)
  obtain ⟨hv1_a, hv1_b⟩ := hv1_
  refine zw_iload_n (pc := 8) (n := 2) (x := Int32.ofInt a1_) rfl (zdal_p dlA_Group_both_39 (i := 5) rfl) ?_
  refine zr_iadd (pc := 9) (zdal_p dlA_Group_both_39 (i := 6) rfl) ?_
  refine zr_nmI (fun v2_ hv2_ => ?_)
  obtain ⟨hv2_a, hv2_b⟩ := hv2_
  refine zk_atG hf.x (pc := 10) l_Group_54 ((hf.w hW).kr (o := 6) (by decide)) ((hf.w hW).lr (o := 6) (s := 0) (r := 7) (by decide)) ((hf.w hW).rr (o := 7) (t := 1) (n := 576) (by decide)) (by decide) ⟨by omega, by omega⟩ (by decide) (Nat.le_of_ble_eq_true rfl) (zdal_p dlA_Group_both_39 (i := 7) rfl) (fun v3_ hv3_ hv3_a hv3_b => ?_)
  clear hv3_
  exact zk_iret (pc := 13) (ty := .int) rfl rfl ⟨by omega, by omega⟩ hf trivial (zdal_p dlA_Group_both_39 (i := 8) rfl)
set_option maxHeartbeats 4000000 in
theorem u_Group_commutingWithX (l : Launch) (d_ : Nat) (Mz : zMem) (hW : zKW d_ Mz) (a0_ : Int) (ha0_a : -2147483648 ≤ a0_) (ha0_b : a0_ < 2147483648) (a1_ : Int) (ha1_a : -2147483648 ≤ a1_) (ha1_b : a1_ < 2147483648) : zC l m_Group_commutingWith 0 0 [.ref (d_ + 1), .int (Int32.ofInt a0_), .int (Int32.ofInt a1_)] Mz (zqcI d_ [] [] [] [] Mz (fun v N => True)) := by
  refine zC_of (L0 := [some (.ref (d_ + 1)), some (.int (Int32.ofInt a0_)), some (.int (Int32.ofInt a1_)), none, none]) md_Group_commutingWith (Nat.le_of_ble_eq_true rfl) rfl ?_ zQ0
  have hf : zFc d_ [] [] [] [] Mz Mz := zFc.rf
  refine zw_iconst (pc := 0) (v := Int32.ofInt 0) (by decide) (zdal_p dlB_Group_commutingWith_2 (i := 0) rfl) ?_
  refine zw_istore_n (pc := 1) (i := 3) (L2 := [some (.ref (d_ + 1)), some (.int (Int32.ofInt a0_)), some (.int (Int32.ofInt a1_)), some (.int (Int32.ofInt 0)), none]) rfl (by decide) rfl (zdal_p dlB_Group_commutingWith_2 (i := 1) rfl) ?_
  refine zw_iconst (pc := 2) (v := Int32.ofInt 0) (by decide) (zdal_p dlB_Group_commutingWith_2 (i := 2) rfl) ?_
  refine zw_istore (pc := 3) (i := 4) (L2 := [some (.ref (d_ + 1)), some (.int (Int32.ofInt a0_)), some (.int (Int32.ofInt a1_)), some (.int (Int32.ofInt 0)), some (.int (Int32.ofInt 0))]) (by decide) rfl (zdal_p dlB_Group_commutingWith_2 (i := 3) rfl) ?_
  have lp_5 : ∀ (n : Nat) (u1_ : Int) (hu1_a : -2147483648 ≤ u1_) (hu1_b : u1_ < 2147483648) (u2_ : Int) (hu2_a : -2147483648 ≤ u2_) (hu2_b : u2_ < 2147483648) (i3_ : 0 ≤ u2_), (ze Mz (d_ + 1) 7 - u2_).toNat < n → zW l m_Group_commutingWith (zn Mz + 0, zw Mz + 0) Mz 5 [some (.ref (d_ + 1)), some (.int (Int32.ofInt a0_)), some (.int (Int32.ofInt a1_)), some (.int (Int32.ofInt u1_)), some (.int (Int32.ofInt u2_))] [] (zqcI d_ [] [] [] [] Mz (fun v N => True)) := by
    intro n
    induction n with
    | zero =>
      intro u1_ hu1_a hu1_b u2_ hu2_a hu2_b i3_ h0
      exact absurd h0 (Nat.not_lt_zero _)
    | succ n ih_5 =>
      intro u1_ hu1_a hu1_b u2_ hu2_a hu2_b i3_ hlt_5
      refine zw_iload (pc := 5) (i := 4) (x := Int32.ofInt u2_) rfl (zdal_p dlB_Group_commutingWith_2 (i := 4) rfl) ?_
      refine zw_aload_n (pc := 7) (n := 0) (x := (d_ + 1)) rfl (zdal_p dlB_Group_commutingWith_2 (i := 5) rfl) ?_
      refine zk_getI (pc := 8) f_Group_39 rfl ((hf.w hW).kr (o := 1) (by decide)) (zdal_p dlB_Group_commutingWith_2 (i := 6) rfl) ?_
      have hr4_ := ze_r Mz (d_ + 1) 7
      refine zr_icmp_ge (pc := 11) (tgt := 53) ⟨hu2_a, hu2_b⟩ ⟨(ze_r Mz (d_ + 1) 7).1, (ze_r Mz (d_ + 1) 7).2⟩ (by decide) (zdal_p dlB_Group_commutingWith_2 (i := 7) rfl) (fun hc_11 => ?_) (fun hc_11 => ?_)
      · skip
        refine zw_iload_n (pc := 53) (n := 3) (x := Int32.ofInt u1_) rfl (zdal_p dlB_Group_commutingWith_3 (i := 5) rfl) ?_
        exact zk_iret (pc := 54) (ty := .int) rfl rfl ⟨by omega, by omega⟩ hf trivial (zdal_p dlB_Group_commutingWith_3 (i := 6) rfl)
      · skip
        refine zw_iload_n (pc := 14) (n := 2) (x := Int32.ofInt a1_) rfl (zdal_p dlB_Group_commutingWith_2 (i := 8) rfl) ?_
        refine zw_iload (pc := 15) (i := 4) (x := Int32.ofInt u2_) rfl (zdal_p dlB_Group_commutingWith_2 (i := 9) rfl) ?_
        refine zr_callS hf.x (pc := 17) [.int (Int32.ofInt a1_), .int (Int32.ofInt u2_)] [] l_Group_73 (u_T_isInX l d_ Mz (hf.w hW) a1_ ha1_a ha1_b u2_ hu2_a hu2_b) rfl rfl (by decide) (Nat.le_of_ble_eq_true rfl) (zdal_p dlB_Group_commutingWith_2 (i := 10) rfl) ?_
        rintro _ N5_ ⟨v6_, rfl, ⟨hv6_a, hv6_b⟩, hsN5_, hp0_N5_⟩
        obtain rfl := hsN5_.eq.symm
        replace hp0_N5_ : (v6_ = 0 ∨ v6_ = 1) := hp0_N5_
        show zW l m_Group_commutingWith (zn Mz + 0, zw Mz + 0) Mz 20 [some (.ref (d_ + 1)), some (.int (Int32.ofInt a0_)), some (.int (Int32.ofInt a1_)), some (.int (Int32.ofInt u1_)), some (.int (Int32.ofInt u2_))] [.int (Int32.ofInt v6_)] _
        refine zr_if_eq (pc := 20) (tgt := 47) ⟨hv6_a, hv6_b⟩ (by decide) (zdal_p dlB_Group_commutingWith_2 (i := 11) rfl) (fun hc_20 => ?_) (fun hc_20 => ?_)
        · skip
          refine zr_iinc (pc := 47) (i := 4) (a := u2_) (n := 1) (L2 := [some (.ref (d_ + 1)), some (.int (Int32.ofInt a0_)), some (.int (Int32.ofInt a1_)), some (.int (Int32.ofInt u1_)), some (.int (Int32.ofInt (u2_ + 1)))]) rfl (by decide) rfl (zdal_p dlB_Group_commutingWith_3 (i := 3) rfl) ?_
          obtain ⟨v7_, hv7_a, hv7_b, hv7_e, hv7_d⟩ := zk_gen (u2_ + 1)
          rw [hv7_e]
          refine zw_goto (pc := 50) (tgt := 5) (by decide) (zdal_p dlB_Group_commutingWith_3 (i := 4) rfl) ?_
          exact ih_5 u1_ hu1_a hu1_b v7_ hv7_a hv7_b (show 0 ≤ v7_ by first | with_reducible assumption | assumption | omega) (by omega)
        · skip
          refine zw_aload_n (pc := 23) (n := 0) (x := (d_ + 1)) rfl (zdal_p dlB_Group_commutingWith_2 (i := 12) rfl) ?_
          refine zw_iload_n (pc := 24) (n := 1) (x := Int32.ofInt a0_) rfl (zdal_p dlB_Group_commutingWith_2 (i := 13) rfl) ?_
          refine zw_iload (pc := 25) (i := 4) (x := Int32.ofInt u2_) rfl (zdal_p dlB_Group_commutingWith_2 (i := 14) rfl) ?_
          refine zk_callV hf.x (pc := 27) [.int (Int32.ofInt a0_), .int (Int32.ofInt u2_)] [] l_Group_67 (u_Group_bothX l d_ Mz (hf.w hW) a0_ ha0_a ha0_b u2_ hu2_a hu2_b) rfl rfl ((hf.w hW).kr (o := 1) (by decide)) (by decide) (by decide) (Nat.le_of_ble_eq_true rfl) (zdal_p dlB_Group_commutingWith_2 (i := 15) rfl) ?_
          rintro _ N8_ ⟨v9_, rfl, ⟨hv9_a, hv9_b⟩, hsN8_, -⟩
          obtain rfl := hsN8_.eq.symm
          show zW l m_Group_commutingWith (zn Mz + 0, zw Mz + 0) Mz 30 [some (.ref (d_ + 1)), some (.int (Int32.ofInt a0_)), some (.int (Int32.ofInt a1_)), some (.int (Int32.ofInt u1_)), some (.int (Int32.ofInt u2_))] [.int (Int32.ofInt v9_)] _
          refine zw_aload_n (pc := 30) (n := 0) (x := (d_ + 1)) rfl (zdal_p dlB_Group_commutingWith_2 (i := 16) rfl) ?_
          refine zw_iload (pc := 31) (i := 4) (x := Int32.ofInt u2_) rfl (zdal_p dlB_Group_commutingWith_2 (i := 17) rfl) ?_
          refine zw_iload_n (pc := 33) (n := 1) (x := Int32.ofInt a0_) rfl (zdal_p dlB_Group_commutingWith_2 (i := 18) rfl) ?_
          refine zk_callV hf.x (pc := 34) [.int (Int32.ofInt u2_), .int (Int32.ofInt a0_)] [.int (Int32.ofInt v9_)] l_Group_67 (u_Group_bothX l d_ Mz (hf.w hW) u2_ hu2_a hu2_b a0_ ha0_a ha0_b) rfl rfl ((hf.w hW).kr (o := 1) (by decide)) (by decide) (by decide) (Nat.le_of_ble_eq_true rfl) (zdal_p dlB_Group_commutingWith_2 (i := 19) rfl) ?_
          rintro _ N10_ ⟨v11_, rfl, ⟨hv11_a, hv11_b⟩, hsN10_, -⟩
          obtain rfl := hsN10_.eq.symm
          show zW l m_Group_commutingWith (zn Mz + 0, zw Mz + 0) Mz 37 [some (.ref (d_ + 1)), some (.int (Int32.ofInt a0_)), some (.int (Int32.ofInt a1_)), some (.int (Int32.ofInt u1_)), some (.int (Int32.ofInt u2_))] [.int (Int32.ofInt v11_), .int (Int32.ofInt v9_)] _
          refine zr_icmp_ne (pc := 37) (tgt := 47) ⟨hv9_a, hv9_b⟩ ⟨hv11_a, hv11_b⟩ (by decide) (zdal_p dlB_Group_commutingWith_2 (i := 20) rfl) (fun hc_37 => ?_) (fun hc_37 => ?_)
          · skip
            refine zr_iinc (pc := 47) (i := 4) (a := u2_) (n := 1) (L2 := [some (.ref (d_ + 1)), some (.int (Int32.ofInt a0_)), some (.int (Int32.ofInt a1_)), some (.int (Int32.ofInt u1_)), some (.int (Int32.ofInt (u2_ + 1)))]) rfl (by decide) rfl (zdal_p dlB_Group_commutingWith_3 (i := 3) rfl) ?_
            obtain ⟨v12_, hv12_a, hv12_b, hv12_e, hv12_d⟩ := zk_gen (u2_ + 1)
            rw [hv12_e]
            refine zw_goto (pc := 50) (tgt := 5) (by decide) (zdal_p dlB_Group_commutingWith_3 (i := 4) rfl) ?_
            exact ih_5 u1_ hu1_a hu1_b v12_ hv12_a hv12_b (show 0 ≤ v12_ by first | with_reducible assumption | assumption | omega) (by omega)
          · skip
            refine zw_iload_n (pc := 40) (n := 3) (x := Int32.ofInt u1_) rfl (zdal_p dlB_Group_commutingWith_2 (i := 21) rfl) ?_
            refine zw_iconst (pc := 41) (v := Int32.ofInt 1) (by decide) (zdal_p dlB_Group_commutingWith_2 (i := 22) rfl) ?_
            refine zw_iload (pc := 42) (i := 4) (x := Int32.ofInt u2_) rfl (zdal_p dlB_Group_commutingWith_2 (i := 23) rfl) ?_
            refine zr_ishl (pc := 44) (zdal_p dlB_Group_commutingWith_3 (i := 0) rfl) ?_
            have hr13_ := zshl_r 1 u2_
            refine zr_nmI (fun v14_ hv14_ => ?_)
            obtain ⟨hv14_a, hv14_b⟩ := hv14_
            refine zr_ior (pc := 45) (zdal_p dlB_Group_commutingWith_3 (i := 1) rfl) ?_
            have hr15_ := zor_r u1_ v14_
            refine zr_nmI (fun v16_ hv16_ => ?_)
            obtain ⟨hv16_a, hv16_b⟩ := hv16_
            refine zw_istore_n (pc := 46) (i := 3) (L2 := [some (.ref (d_ + 1)), some (.int (Int32.ofInt a0_)), some (.int (Int32.ofInt a1_)), some (.int (Int32.ofInt v16_)), some (.int (Int32.ofInt u2_))]) rfl (by decide) rfl (zdal_p dlB_Group_commutingWith_3 (i := 2) rfl) ?_
            refine zr_iinc (pc := 47) (i := 4) (a := u2_) (n := 1) (L2 := [some (.ref (d_ + 1)), some (.int (Int32.ofInt a0_)), some (.int (Int32.ofInt a1_)), some (.int (Int32.ofInt v16_)), some (.int (Int32.ofInt (u2_ + 1)))]) rfl (by decide) rfl (zdal_p dlB_Group_commutingWith_3 (i := 3) rfl) ?_
            obtain ⟨v17_, hv17_a, hv17_b, hv17_e, hv17_d⟩ := zk_gen (u2_ + 1)
            rw [hv17_e]
            refine zw_goto (pc := 50) (tgt := 5) (by decide) (zdal_p dlB_Group_commutingWith_3 (i := 4) rfl) ?_
            exact ih_5 v16_ hv16_a hv16_b v17_ hv17_a hv17_b (show 0 ≤ v17_ by first | with_reducible assumption | assumption | omega) (by omega)
  exact lp_5 _ 0 (by decide) (by decide) 0 (by decide) (by decide) (show 0 ≤ (0 : Int) by first | with_reducible assumption | assumption | omega) (Nat.lt_succ_self _)
set_option maxHeartbeats 4000000 in
theorem u_Group_centreOfX (l : Launch) (d_ : Nat) (Mz : zMem) (hW : zKW d_ Mz) (a0_ : Int) (ha0_a : -2147483648 ≤ a0_) (ha0_b : a0_ < 2147483648) : zC l m_Group_centreOf 0 0 [.ref (d_ + 1), .int (Int32.ofInt a0_)] Mz (zqcI d_ [] [] [] [] Mz (fun v N => True)) := by
  refine zC_of (L0 := [some (.ref (d_ + 1)), some (.int (Int32.ofInt a0_)), none, none]) md_Group_centreOf (Nat.le_of_ble_eq_true rfl) rfl ?_ zQ0
  have hf : zFc d_ [] [] [] [] Mz Mz := zFc.rf
  refine zw_iload_n (pc := 0) (n := 1) (x := Int32.ofInt a0_) rfl (zdal_p dlB_Group_centreOf_1 (i := 0) rfl) ?_
  refine zw_istore_n (pc := 1) (i := 2) (L2 := [some (.ref (d_ + 1)), some (.int (Int32.ofInt a0_)), some (.int (Int32.ofInt a0_)), none]) rfl (by decide) rfl (zdal_p dlB_Group_centreOf_1 (i := 1) rfl) ?_
  refine zw_iconst (pc := 2) (v := Int32.ofInt 0) (by decide) (zdal_p dlB_Group_centreOf_1 (i := 2) rfl) ?_
  refine zw_istore_n (pc := 3) (i := 3) (L2 := [some (.ref (d_ + 1)), some (.int (Int32.ofInt a0_)), some (.int (Int32.ofInt a0_)), some (.int (Int32.ofInt 0))]) rfl (by decide) rfl (zdal_p dlB_Group_centreOf_1 (i := 3) rfl) ?_
  have lp_4 : ∀ (n : Nat) (u1_ : Int) (hu1_a : -2147483648 ≤ u1_) (hu1_b : u1_ < 2147483648) (u2_ : Int) (hu2_a : -2147483648 ≤ u2_) (hu2_b : u2_ < 2147483648) (i3_ : 0 ≤ u2_), (ze Mz (d_ + 1) 7 - u2_).toNat < n → zW l m_Group_centreOf (zn Mz + 0, zw Mz + 0) Mz 4 [some (.ref (d_ + 1)), some (.int (Int32.ofInt a0_)), some (.int (Int32.ofInt u1_)), some (.int (Int32.ofInt u2_))] [] (zqcI d_ [] [] [] [] Mz (fun v N => True)) := by
    intro n
    induction n with
    | zero =>
      intro u1_ hu1_a hu1_b u2_ hu2_a hu2_b i3_ h0
      exact absurd h0 (Nat.not_lt_zero _)
    | succ n ih_4 =>
      intro u1_ hu1_a hu1_b u2_ hu2_a hu2_b i3_ hlt_4
      refine zw_iload_n (pc := 4) (n := 3) (x := Int32.ofInt u2_) rfl (zdal_p dlB_Group_centreOf_1 (i := 4) rfl) ?_
      refine zw_aload_n (pc := 5) (n := 0) (x := (d_ + 1)) rfl (zdal_p dlB_Group_centreOf_1 (i := 5) rfl) ?_
      refine zk_getI (pc := 6) f_Group_39 rfl ((hf.w hW).kr (o := 1) (by decide)) (zdal_p dlB_Group_centreOf_1 (i := 6) rfl) ?_
      have hr4_ := ze_r Mz (d_ + 1) 7
      refine zr_icmp_ge (pc := 9) (tgt := 35) ⟨hu2_a, hu2_b⟩ ⟨(ze_r Mz (d_ + 1) 7).1, (ze_r Mz (d_ + 1) 7).2⟩ (by decide) (zdal_p dlB_Group_centreOf_1 (i := 7) rfl) (fun hc_9 => ?_) (fun hc_9 => ?_)
      · skip
        refine zw_iload_n (pc := 35) (n := 2) (x := Int32.ofInt u1_) rfl (zdal_p dlB_Group_centreOf_1 (i := 21) rfl) ?_
        exact zk_iret (pc := 36) (ty := .int) rfl rfl ⟨by omega, by omega⟩ hf trivial (zdal_p dlB_Group_centreOf_1 (i := 22) rfl)
      · skip
        refine zw_iload_n (pc := 12) (n := 1) (x := Int32.ofInt a0_) rfl (zdal_p dlB_Group_centreOf_1 (i := 8) rfl) ?_
        refine zw_iload_n (pc := 13) (n := 3) (x := Int32.ofInt u2_) rfl (zdal_p dlB_Group_centreOf_1 (i := 9) rfl) ?_
        refine zr_callS hf.x (pc := 14) [.int (Int32.ofInt a0_), .int (Int32.ofInt u2_)] [] l_Group_73 (u_T_isInX l d_ Mz (hf.w hW) a0_ ha0_a ha0_b u2_ hu2_a hu2_b) rfl rfl (by decide) (Nat.le_of_ble_eq_true rfl) (zdal_p dlB_Group_centreOf_1 (i := 10) rfl) ?_
        rintro _ N5_ ⟨v6_, rfl, ⟨hv6_a, hv6_b⟩, hsN5_, hp0_N5_⟩
        obtain rfl := hsN5_.eq.symm
        replace hp0_N5_ : (v6_ = 0 ∨ v6_ = 1) := hp0_N5_
        show zW l m_Group_centreOf (zn Mz + 0, zw Mz + 0) Mz 17 [some (.ref (d_ + 1)), some (.int (Int32.ofInt a0_)), some (.int (Int32.ofInt u1_)), some (.int (Int32.ofInt u2_))] [.int (Int32.ofInt v6_)] _
        refine zr_if_eq (pc := 17) (tgt := 29) ⟨hv6_a, hv6_b⟩ (by decide) (zdal_p dlB_Group_centreOf_1 (i := 11) rfl) (fun hc_17 => ?_) (fun hc_17 => ?_)
        · skip
          refine zr_iinc (pc := 29) (i := 3) (a := u2_) (n := 1) (L2 := [some (.ref (d_ + 1)), some (.int (Int32.ofInt a0_)), some (.int (Int32.ofInt u1_)), some (.int (Int32.ofInt (u2_ + 1)))]) rfl (by decide) rfl (zdal_p dlB_Group_centreOf_1 (i := 19) rfl) ?_
          obtain ⟨v7_, hv7_a, hv7_b, hv7_e, hv7_d⟩ := zk_gen (u2_ + 1)
          rw [hv7_e]
          refine zw_goto (pc := 32) (tgt := 4) (by decide) (zdal_p dlB_Group_centreOf_1 (i := 20) rfl) ?_
          exact ih_4 u1_ hu1_a hu1_b v7_ hv7_a hv7_b (show 0 ≤ v7_ by first | with_reducible assumption | assumption | omega) (by omega)
        · skip
          refine zw_iload_n (pc := 20) (n := 2) (x := Int32.ofInt u1_) rfl (zdal_p dlB_Group_centreOf_1 (i := 12) rfl) ?_
          refine zw_aload_n (pc := 21) (n := 0) (x := (d_ + 1)) rfl (zdal_p dlB_Group_centreOf_1 (i := 13) rfl) ?_
          refine zw_iload_n (pc := 22) (n := 3) (x := Int32.ofInt u2_) rfl (zdal_p dlB_Group_centreOf_1 (i := 14) rfl) ?_
          refine zw_iload_n (pc := 23) (n := 1) (x := Int32.ofInt a0_) rfl (zdal_p dlB_Group_centreOf_1 (i := 15) rfl) ?_
          refine zk_callV hf.x (pc := 24) [.int (Int32.ofInt u2_), .int (Int32.ofInt a0_)] [.int (Int32.ofInt u1_)] l_Group_97 (u_Group_commutingWithX l d_ Mz (hf.w hW) u2_ hu2_a hu2_b a0_ ha0_a ha0_b) rfl rfl ((hf.w hW).kr (o := 1) (by decide)) (by decide) (by decide) (Nat.le_of_ble_eq_true rfl) (zdal_p dlB_Group_centreOf_1 (i := 16) rfl) ?_
          rintro _ N8_ ⟨v9_, rfl, ⟨hv9_a, hv9_b⟩, hsN8_, -⟩
          obtain rfl := hsN8_.eq.symm
          show zW l m_Group_centreOf (zn Mz + 0, zw Mz + 0) Mz 27 [some (.ref (d_ + 1)), some (.int (Int32.ofInt a0_)), some (.int (Int32.ofInt u1_)), some (.int (Int32.ofInt u2_))] [.int (Int32.ofInt v9_), .int (Int32.ofInt u1_)] _
          refine zr_iand (pc := 27) (zdal_p dlB_Group_centreOf_1 (i := 17) rfl) ?_
          have hr10_ := zand_r u1_ v9_
          refine zr_nmI (fun v11_ hv11_ => ?_)
          obtain ⟨hv11_a, hv11_b⟩ := hv11_
          refine zw_istore_n (pc := 28) (i := 2) (L2 := [some (.ref (d_ + 1)), some (.int (Int32.ofInt a0_)), some (.int (Int32.ofInt v11_)), some (.int (Int32.ofInt u2_))]) rfl (by decide) rfl (zdal_p dlB_Group_centreOf_1 (i := 18) rfl) ?_
          refine zr_iinc (pc := 29) (i := 3) (a := u2_) (n := 1) (L2 := [some (.ref (d_ + 1)), some (.int (Int32.ofInt a0_)), some (.int (Int32.ofInt v11_)), some (.int (Int32.ofInt (u2_ + 1)))]) rfl (by decide) rfl (zdal_p dlB_Group_centreOf_1 (i := 19) rfl) ?_
          obtain ⟨v12_, hv12_a, hv12_b, hv12_e, hv12_d⟩ := zk_gen (u2_ + 1)
          rw [hv12_e]
          refine zw_goto (pc := 32) (tgt := 4) (by decide) (zdal_p dlB_Group_centreOf_1 (i := 20) rfl) ?_
          exact ih_4 v11_ hv11_a hv11_b v12_ hv12_a hv12_b (show 0 ≤ v12_ by first | with_reducible assumption | assumption | omega) (by omega)
  exact lp_4 _ a0_ ha0_a ha0_b 0 (by decide) (by decide) (show 0 ≤ (0 : Int) by first | with_reducible assumption | assumption | omega) (Nat.lt_succ_self _)
set_option maxHeartbeats 4000000 in
theorem u_Group_isCommutingX (l : Launch) (d_ : Nat) (Mz : zMem) (hW : zKW d_ Mz) (a0_ : Int) (ha0_a : -2147483648 ≤ a0_) (ha0_b : a0_ < 2147483648) : zC l m_Group_isCommuting 0 0 [.ref (d_ + 1), .int (Int32.ofInt a0_)] Mz (zqcI d_ [] [] [] [] Mz (fun v N => ((v = 0 ∨ v = 1)))) := by
  refine zC_of (L0 := [some (.ref (d_ + 1)), some (.int (Int32.ofInt a0_))]) md_Group_isCommuting (Nat.le_of_ble_eq_true rfl) rfl ?_ zQ0
  have hf : zFc d_ [] [] [] [] Mz Mz := zFc.rf
  refine zw_aload_n (pc := 0) (n := 0) (x := (d_ + 1)) rfl (zdal_p dlB_Group_isCommuting_0 (i := 0) rfl) ?_
  refine zw_iload_n (pc := 1) (n := 1) (x := Int32.ofInt a0_) rfl (zdal_p dlB_Group_isCommuting_0 (i := 1) rfl) ?_
  refine zk_callV hf.x (pc := 2) [.int (Int32.ofInt a0_)] [] l_Group_100 (u_Group_centreOfX l d_ Mz (hf.w hW) a0_ ha0_a ha0_b) rfl rfl ((hf.w hW).kr (o := 1) (by decide)) (by decide) (by decide) (Nat.le_of_ble_eq_true rfl) (zdal_p dlB_Group_isCommuting_0 (i := 2) rfl) ?_
  rintro _ N1_ ⟨v2_, rfl, ⟨hv2_a, hv2_b⟩, hsN1_, -⟩
  obtain rfl := hsN1_.eq.symm
  show zW l m_Group_isCommuting (zn Mz + 0, zw Mz + 0) Mz 5 [some (.ref (d_ + 1)), some (.int (Int32.ofInt a0_))] [.int (Int32.ofInt v2_)] _
  refine zw_iload_n (pc := 5) (n := 1) (x := Int32.ofInt a0_) rfl (zdal_p dlB_Group_isCommuting_0 (i := 3) rfl) ?_
  refine zr_icmp_ne (pc := 6) (tgt := 13) ⟨hv2_a, hv2_b⟩ ⟨ha0_a, ha0_b⟩ (by decide) (zdal_p dlB_Group_isCommuting_0 (i := 4) rfl) (fun hc_6 => ?_) (fun hc_6 => ?_)
  · skip
    refine zw_iconst (pc := 13) (v := Int32.ofInt 0) (by decide) (zdal_p dlB_Group_isCommuting_0 (i := 7) rfl) ?_
    exact zk_iret (pc := 14) (ty := .boolean) rfl (z_narB (by omega)) ⟨by omega, by omega⟩ hf (show (((0 : Int)) = 0 ∨ ((0 : Int)) = 1) by first | with_reducible assumption | assumption | omega) (zdal_p dlB_Group_isCommuting_0 (i := 8) rfl)
  · skip
    refine zw_iconst (pc := 9) (v := Int32.ofInt 1) (by decide) (zdal_p dlB_Group_isCommuting_0 (i := 5) rfl) ?_
    refine zw_goto (pc := 10) (tgt := 14) (by decide) (zdal_p dlB_Group_isCommuting_0 (i := 6) rfl) ?_
    exact zk_iret (pc := 14) (ty := .boolean) rfl (z_narB (by omega)) ⟨by omega, by omega⟩ hf (show (((1 : Int)) = 0 ∨ ((1 : Int)) = 1) by first | with_reducible assumption | assumption | omega) (zdal_p dlB_Group_isCommuting_0 (i := 8) rfl)
set_option maxHeartbeats 4000000 in
theorem u_T_aboutX (l : Launch) (d_ : Nat) (Mz : zMem) (hW : zKW d_ Mz) (hnow : zf Mz 0 2 = some (d_ + 0)) (a0_ : Int) (ha0_a : -2147483648 ≤ a0_) (ha0_b : a0_ < 2147483648) : zC l m_T_about 0 0 [.ref 0, .int (Int32.ofInt a0_)] Mz (zqcI d_ [] [] [] [] Mz (fun v N => True)) := by
  refine zC_of (L0 := [some (.ref 0), some (.int (Int32.ofInt a0_))]) md_T_about (Nat.le_of_ble_eq_true rfl) rfl ?_ zQ0
  have hf : zFc d_ [] [] [] [] Mz Mz := zFc.rf
  refine zw_iload_n (pc := 0) (n := 1) (x := Int32.ofInt a0_) rfl (zdal_p dlA_T_about_164 (i := 0) rfl) ?_
  by_cases hs_1_0 : a0_ = 0
  · refine zr_tabIn (c := 0) (off := 51) (tgt := 52) ⟨by decide, by decide⟩ hs_1_0 (by decide) (by decide) rfl (by decide) d_T_about_1 ?_
    refine zw_aload_n (pc := 52) (n := 0) (x := 0) rfl (zdal_p dlA_T_about_164 (i := 2) rfl) ?_
    refine zw_getF (pc := 53) f_T_28 rfl ((hf.w hW).ka (o := 0) (by decide)) (hf.now hnow) (zdal_p dlA_T_about_164 (i := 3) rfl) ?_
    refine zw_getF (pc := 56) f_T_61 rfl ((hf.w hW).kr (o := 0) (by decide)) ((hf.w hW).lr (o := 0) (s := 0) (r := 1) (by decide)) (zdal_p dlA_T_about_164 (i := 4) rfl) ?_
    refine zk_getI (pc := 59) f_T_76 rfl ((hf.w hW).kr (o := 1) (by decide)) (zdal_p dlA_T_about_164 (i := 5) rfl) ?_
    have hr1_ := ze_r Mz (d_ + 1) 5
    exact zk_iret (pc := 62) (ty := .int) rfl rfl ⟨by omega, by omega⟩ hf trivial (zdal_p dlA_T_about_164 (i := 6) rfl)
  by_cases hs_1_1 : a0_ = 1
  · refine zr_tabIn (c := 1) (off := 62) (tgt := 63) ⟨by decide, by decide⟩ hs_1_1 (by decide) (by decide) rfl (by decide) d_T_about_1 ?_
    refine zw_aload_n (pc := 63) (n := 0) (x := 0) rfl (zdal_p dlA_T_about_164 (i := 7) rfl) ?_
    refine zw_getF (pc := 64) f_T_28 rfl ((hf.w hW).ka (o := 0) (by decide)) (hf.now hnow) (zdal_p dlA_T_about_164 (i := 8) rfl) ?_
    refine zw_getF (pc := 67) f_T_61 rfl ((hf.w hW).kr (o := 0) (by decide)) ((hf.w hW).lr (o := 0) (s := 0) (r := 1) (by decide)) (zdal_p dlA_T_about_164 (i := 9) rfl) ?_
    refine zk_getI (pc := 70) f_T_79 rfl ((hf.w hW).kr (o := 1) (by decide)) (zdal_p dlA_T_about_164 (i := 10) rfl) ?_
    have hr2_ := ze_r Mz (d_ + 1) 6
    exact zk_iret (pc := 73) (ty := .int) rfl rfl ⟨by omega, by omega⟩ hf trivial (zdal_p dlA_T_about_164 (i := 11) rfl)
  by_cases hs_1_2 : a0_ = 2
  · refine zr_tabIn (c := 2) (off := 73) (tgt := 74) ⟨by decide, by decide⟩ hs_1_2 (by decide) (by decide) rfl (by decide) d_T_about_1 ?_
    refine zw_aload_n (pc := 74) (n := 0) (x := 0) rfl (zdal_p dlA_T_about_164 (i := 12) rfl) ?_
    refine zw_getF (pc := 75) f_T_28 rfl ((hf.w hW).ka (o := 0) (by decide)) (hf.now hnow) (zdal_p dlA_T_about_164 (i := 13) rfl) ?_
    refine zk_getI (pc := 78) f_T_82 rfl ((hf.w hW).kr (o := 0) (by decide)) (zdal_p dlA_T_about_164 (i := 14) rfl) ?_
    have hr3_ := ze_r Mz (d_ + 0) 6
    exact zk_iret (pc := 81) (ty := .int) rfl rfl ⟨by omega, by omega⟩ hf trivial (zdal_p dlA_T_about_164 (i := 15) rfl)
  by_cases hs_1_3 : a0_ = 3
  · refine zr_tabIn (c := 3) (off := 81) (tgt := 82) ⟨by decide, by decide⟩ hs_1_3 (by decide) (by decide) rfl (by decide) d_T_about_1 ?_
    refine zw_aload_n (pc := 82) (n := 0) (x := 0) rfl (zdal_p dlA_T_about_164 (i := 16) rfl) ?_
    refine zw_getF (pc := 83) f_T_28 rfl ((hf.w hW).ka (o := 0) (by decide)) (hf.now hnow) (zdal_p dlA_T_about_164 (i := 17) rfl) ?_
    refine zw_getF (pc := 86) f_T_61 rfl ((hf.w hW).kr (o := 0) (by decide)) ((hf.w hW).lr (o := 0) (s := 0) (r := 1) (by decide)) (zdal_p dlA_T_about_164 (i := 18) rfl) ?_
    refine zk_getI (pc := 89) f_T_65 rfl ((hf.w hW).kr (o := 1) (by decide)) (zdal_p dlA_T_about_164 (i := 19) rfl) ?_
    have hr4_ := ze_r Mz (d_ + 1) 7
    exact zk_iret (pc := 92) (ty := .int) rfl rfl ⟨by omega, by omega⟩ hf trivial (zdal_p dlA_T_about_164 (i := 20) rfl)
  by_cases hs_1_4 : a0_ = 4
  · refine zr_tabIn (c := 4) (off := 92) (tgt := 93) ⟨by decide, by decide⟩ hs_1_4 (by decide) (by decide) rfl (by decide) d_T_about_1 ?_
    refine zw_aload_n (pc := 93) (n := 0) (x := 0) rfl (zdal_p dlA_T_about_164 (i := 21) rfl) ?_
    refine zw_getF (pc := 94) f_T_28 rfl ((hf.w hW).ka (o := 0) (by decide)) (hf.now hnow) (zdal_p dlA_T_about_164 (i := 22) rfl) ?_
    refine zw_getF (pc := 97) f_T_85 rfl ((hf.w hW).kr (o := 0) (by decide)) ((hf.w hW).lr (o := 0) (s := 1) (r := 12) (by decide)) (zdal_p dlA_T_about_164 (i := 23) rfl) ?_
    refine zk_getI (pc := 100) f_T_89 rfl ((hf.w hW).kr (o := 12) (by decide)) (zdal_p dlA_T_about_165 (i := 0) rfl) ?_
    have hr5_ := ze_r Mz (d_ + 12) 6
    exact zk_iret (pc := 103) (ty := .int) rfl rfl ⟨by omega, by omega⟩ hf trivial (zdal_p dlA_T_about_165 (i := 1) rfl)
  by_cases hs_1_5 : a0_ = 5
  · refine zr_tabIn (c := 5) (off := 103) (tgt := 104) ⟨by decide, by decide⟩ hs_1_5 (by decide) (by decide) rfl (by decide) d_T_about_1 ?_
    refine zw_aload_n (pc := 104) (n := 0) (x := 0) rfl (zdal_p dlA_T_about_165 (i := 2) rfl) ?_
    refine zw_getF (pc := 105) f_T_28 rfl ((hf.w hW).ka (o := 0) (by decide)) (hf.now hnow) (zdal_p dlA_T_about_165 (i := 3) rfl) ?_
    refine zw_getF (pc := 108) f_T_85 rfl ((hf.w hW).kr (o := 0) (by decide)) ((hf.w hW).lr (o := 0) (s := 1) (r := 12) (by decide)) (zdal_p dlA_T_about_165 (i := 4) rfl) ?_
    refine zk_getI (pc := 111) f_T_94 rfl ((hf.w hW).kr (o := 12) (by decide)) (zdal_p dlA_T_about_165 (i := 5) rfl) ?_
    have hr6_ := ze_r Mz (d_ + 12) 7
    exact zk_iret (pc := 114) (ty := .int) rfl rfl ⟨by omega, by omega⟩ hf trivial (zdal_p dlA_T_about_165 (i := 6) rfl)
  by_cases hs_1_6 : a0_ = 6
  · refine zr_tabIn (c := 6) (off := 114) (tgt := 115) ⟨by decide, by decide⟩ hs_1_6 (by decide) (by decide) rfl (by decide) d_T_about_1 ?_
    refine zw_aload_n (pc := 115) (n := 0) (x := 0) rfl (zdal_p dlA_T_about_165 (i := 7) rfl) ?_
    refine zw_getF (pc := 116) f_T_28 rfl ((hf.w hW).ka (o := 0) (by decide)) (hf.now hnow) (zdal_p dlA_T_about_165 (i := 8) rfl) ?_
    refine zw_getF (pc := 119) f_T_61 rfl ((hf.w hW).kr (o := 0) (by decide)) ((hf.w hW).lr (o := 0) (s := 0) (r := 1) (by decide)) (zdal_p dlA_T_about_165 (i := 9) rfl) ?_
    refine zw_aload_n (pc := 122) (n := 0) (x := 0) rfl (zdal_p dlA_T_about_165 (i := 10) rfl) ?_
    refine zw_getF (pc := 123) f_T_28 rfl ((hf.w hW).ka (o := 0) (by decide)) (hf.now hnow) (zdal_p dlA_T_about_165 (i := 11) rfl) ?_
    refine zw_getF (pc := 126) f_T_61 rfl ((hf.w hW).kr (o := 0) (by decide)) ((hf.w hW).lr (o := 0) (s := 0) (r := 1) (by decide)) (zdal_p dlA_T_about_165 (i := 12) rfl) ?_
    refine zk_callV hf.x (pc := 129) [] [.ref (d_ + 1)] l_T_97 (u_Group_everyoneX l d_ Mz (hf.w hW) ) rfl rfl ((hf.w hW).kr (o := 1) (by decide)) (by decide) (by decide) (Nat.le_of_ble_eq_true rfl) (zdal_p dlA_T_about_165 (i := 13) rfl) ?_
    rintro _ N7_ ⟨v8_, rfl, ⟨hv8_a, hv8_b⟩, hsN7_, -⟩
    obtain rfl := hsN7_.eq.symm
    show zW l m_T_about (zn Mz + 0, zw Mz + 0) Mz 132 [some (.ref 0), some (.int (Int32.ofInt a0_))] [.int (Int32.ofInt v8_), .ref (d_ + 1)] _
    refine zk_callV hf.x (pc := 132) [.int (Int32.ofInt v8_)] [] l_T_101 (u_Group_isCommutingX l d_ Mz (hf.w hW) v8_ hv8_a hv8_b) rfl rfl ((hf.w hW).kr (o := 1) (by decide)) (by decide) (by decide) (Nat.le_of_ble_eq_true rfl) (zdal_p dlA_T_about_165 (i := 14) rfl) ?_
    rintro _ N9_ ⟨v10_, rfl, ⟨hv10_a, hv10_b⟩, hsN9_, hp0_N9_⟩
    obtain rfl := hsN9_.eq.symm
    replace hp0_N9_ : (v10_ = 0 ∨ v10_ = 1) := hp0_N9_
    show zW l m_T_about (zn Mz + 0, zw Mz + 0) Mz 135 [some (.ref 0), some (.int (Int32.ofInt a0_))] [.int (Int32.ofInt v10_)] _
    refine zr_if_eq (pc := 135) (tgt := 142) ⟨hv10_a, hv10_b⟩ (by decide) (zdal_p dlA_T_about_165 (i := 15) rfl) (fun hc_135 => ?_) (fun hc_135 => ?_)
    · skip
      refine zw_iconst (pc := 142) (v := Int32.ofInt 0) (by decide) (zdal_p dlA_T_about_165 (i := 18) rfl) ?_
      exact zk_iret (pc := 143) (ty := .int) rfl rfl ⟨by omega, by omega⟩ hf trivial (zdal_p dlA_T_about_165 (i := 19) rfl)
    · skip
      refine zw_iconst (pc := 138) (v := Int32.ofInt 1) (by decide) (zdal_p dlA_T_about_165 (i := 16) rfl) ?_
      refine zw_goto (pc := 139) (tgt := 143) (by decide) (zdal_p dlA_T_about_165 (i := 17) rfl) ?_
      exact zk_iret (pc := 143) (ty := .int) rfl rfl ⟨by omega, by omega⟩ hf trivial (zdal_p dlA_T_about_165 (i := 19) rfl)
  by_cases hs_1_7 : a0_ = 7
  · refine zr_tabIn (c := 7) (off := 143) (tgt := 144) ⟨by decide, by decide⟩ hs_1_7 (by decide) (by decide) rfl (by decide) d_T_about_1 ?_
    refine zw_aload_n (pc := 144) (n := 0) (x := 0) rfl (zdal_p dlA_T_about_165 (i := 20) rfl) ?_
    refine zw_getF (pc := 145) f_T_28 rfl ((hf.w hW).ka (o := 0) (by decide)) (hf.now hnow) (zdal_p dlA_T_about_165 (i := 21) rfl) ?_
    refine zk_getI (pc := 148) f_T_105 rfl ((hf.w hW).kr (o := 0) (by decide)) (zdal_p dlA_T_about_165 (i := 22) rfl) ?_
    have hr11_ := ze_r Mz (d_ + 0) 7
    exact zk_iret (pc := 151) (ty := .int) rfl rfl ⟨by omega, by omega⟩ hf trivial (zdal_p dlA_T_about_165 (i := 23) rfl)
  by_cases hs_1_8 : a0_ = 8
  · refine zr_tabIn (c := 8) (off := 151) (tgt := 152) ⟨by decide, by decide⟩ hs_1_8 (by decide) (by decide) rfl (by decide) d_T_about_1 ?_
    refine zw_aload_n (pc := 152) (n := 0) (x := 0) rfl (zdal_p dlA_T_about_166 (i := 0) rfl) ?_
    refine zw_getF (pc := 153) f_T_10 rfl ((hf.w hW).ka (o := 0) (by decide)) ((hf.w hW).la (o := 0) (s := 0) (r := 1) (by decide)) (zdal_p dlA_T_about_166 (i := 1) rfl) ?_
    refine zk_getI (pc := 156) f_T_42 rfl ((hf.w hW).ka (o := 1) (by decide)) (zdal_p dlA_T_about_166 (i := 2) rfl) ?_
    have hr12_ := ze_r Mz 1 1
    exact zk_iret (pc := 159) (ty := .int) rfl rfl ⟨by omega, by omega⟩ hf trivial (zdal_p dlA_T_about_166 (i := 3) rfl)
  refine zr_tabOut (tgt := 160) ⟨ha0_a, ha0_b⟩ (by omega) (by decide) d_T_about_1 ?_
  refine zw_iconst (pc := 160) (v := Int32.ofInt (-1)) (by decide) (zdal_p dlA_T_about_166 (i := 4) rfl) ?_
  exact zk_iret (pc := 161) (ty := .int) rfl rfl ⟨by omega, by omega⟩ hf trivial (zdal_p dlA_T_about_166 (i := 5) rfl)
set_option maxHeartbeats 4000000 in
theorem u_Group_hasMemberX (l : Launch) (d_ : Nat) (Mz : zMem) (hW : zKW d_ Mz) (a0_ : Int) (ha0_a : -2147483648 ≤ a0_) (ha0_b : a0_ < 2147483648) : zC l m_Group_hasMember 0 0 [.ref (d_ + 1), .int (Int32.ofInt a0_)] Mz (zqcI d_ [] [] [] [] Mz (fun v N => ((v = 0 ∨ v = 1)))) := by
  refine zC_of (L0 := [some (.ref (d_ + 1)), some (.int (Int32.ofInt a0_))]) md_Group_hasMember (Nat.le_of_ble_eq_true rfl) rfl ?_ zQ0
  have hf : zFc d_ [] [] [] [] Mz Mz := zFc.rf
  refine zw_iload_n (pc := 0) (n := 1) (x := Int32.ofInt a0_) rfl (zdal_p dlB_Group_hasMember_5 (i := 0) rfl) ?_
  refine zr_if_lt (pc := 1) (tgt := 16) ⟨ha0_a, ha0_b⟩ (by decide) (zdal_p dlB_Group_hasMember_5 (i := 1) rfl) (fun hc_1 => ?_) (fun hc_1 => ?_)
  · skip
    refine zw_iconst (pc := 16) (v := Int32.ofInt 0) (by decide) (zdal_p dlB_Group_hasMember_5 (i := 8) rfl) ?_
    exact zk_iret (pc := 17) (ty := .boolean) rfl (z_narB (by omega)) ⟨by omega, by omega⟩ hf (show (((0 : Int)) = 0 ∨ ((0 : Int)) = 1) by first | with_reducible assumption | assumption | omega) (zdal_p dlB_Group_hasMember_5 (i := 9) rfl)
  · skip
    refine zw_iload_n (pc := 4) (n := 1) (x := Int32.ofInt a0_) rfl (zdal_p dlB_Group_hasMember_5 (i := 2) rfl) ?_
    refine zw_aload_n (pc := 5) (n := 0) (x := (d_ + 1)) rfl (zdal_p dlB_Group_hasMember_5 (i := 3) rfl) ?_
    refine zk_getI (pc := 6) f_Group_39 rfl ((hf.w hW).kr (o := 1) (by decide)) (zdal_p dlB_Group_hasMember_5 (i := 4) rfl) ?_
    have hr1_ := ze_r Mz (d_ + 1) 7
    refine zr_icmp_ge (pc := 9) (tgt := 16) ⟨ha0_a, ha0_b⟩ ⟨(ze_r Mz (d_ + 1) 7).1, (ze_r Mz (d_ + 1) 7).2⟩ (by decide) (zdal_p dlB_Group_hasMember_5 (i := 5) rfl) (fun hc_9 => ?_) (fun hc_9 => ?_)
    · skip
      refine zw_iconst (pc := 16) (v := Int32.ofInt 0) (by decide) (zdal_p dlB_Group_hasMember_5 (i := 8) rfl) ?_
      exact zk_iret (pc := 17) (ty := .boolean) rfl (z_narB (by omega)) ⟨by omega, by omega⟩ hf (show (((0 : Int)) = 0 ∨ ((0 : Int)) = 1) by first | with_reducible assumption | assumption | omega) (zdal_p dlB_Group_hasMember_5 (i := 9) rfl)
    · skip
      refine zw_iconst (pc := 12) (v := Int32.ofInt 1) (by decide) (zdal_p dlB_Group_hasMember_5 (i := 6) rfl) ?_
      refine zw_goto (pc := 13) (tgt := 17) (by decide) (zdal_p dlB_Group_hasMember_5 (i := 7) rfl) ?_
      exact zk_iret (pc := 17) (ty := .boolean) rfl (z_narB (by omega)) ⟨by omega, by omega⟩ hf (show (((1 : Int)) = 0 ∨ ((1 : Int)) = 1) by first | with_reducible assumption | assumption | omega) (zdal_p dlB_Group_hasMember_5 (i := 9) rfl)
set_option maxHeartbeats 4000000 in
theorem u_Group_hasPlaceX (l : Launch) (d_ : Nat) (Mz : zMem) (hW : zKW d_ Mz) (a0_ : Int) (ha0_a : -2147483648 ≤ a0_) (ha0_b : a0_ < 2147483648) : zC l m_Group_hasPlace 0 0 [.ref (d_ + 1), .int (Int32.ofInt a0_)] Mz (zqcI d_ [] [] [] [] Mz (fun v N => ((v = 0 ∨ v = 1)))) := by
  refine zC_of (L0 := [some (.ref (d_ + 1)), some (.int (Int32.ofInt a0_))]) md_Group_hasPlace (Nat.le_of_ble_eq_true rfl) rfl ?_ zQ0
  have hf : zFc d_ [] [] [] [] Mz Mz := zFc.rf
  refine zw_iload_n (pc := 0) (n := 1) (x := Int32.ofInt a0_) rfl (zdal_p dlB_Group_hasPlace_6 (i := 0) rfl) ?_
  refine zr_if_lt (pc := 1) (tgt := 16) ⟨ha0_a, ha0_b⟩ (by decide) (zdal_p dlB_Group_hasPlace_6 (i := 1) rfl) (fun hc_1 => ?_) (fun hc_1 => ?_)
  · skip
    refine zw_iconst (pc := 16) (v := Int32.ofInt 0) (by decide) (zdal_p dlB_Group_hasPlace_6 (i := 8) rfl) ?_
    exact zk_iret (pc := 17) (ty := .boolean) rfl (z_narB (by omega)) ⟨by omega, by omega⟩ hf (show (((0 : Int)) = 0 ∨ ((0 : Int)) = 1) by first | with_reducible assumption | assumption | omega) (zdal_p dlB_Group_hasPlace_6 (i := 9) rfl)
  · skip
    refine zw_iload_n (pc := 4) (n := 1) (x := Int32.ofInt a0_) rfl (zdal_p dlB_Group_hasPlace_6 (i := 2) rfl) ?_
    refine zw_aload_n (pc := 5) (n := 0) (x := (d_ + 1)) rfl (zdal_p dlB_Group_hasPlace_6 (i := 3) rfl) ?_
    refine zk_getI (pc := 6) f_Group_32 rfl ((hf.w hW).kr (o := 1) (by decide)) (zdal_p dlB_Group_hasPlace_6 (i := 4) rfl) ?_
    have hr1_ := ze_r Mz (d_ + 1) 5
    refine zr_icmp_ge (pc := 9) (tgt := 16) ⟨ha0_a, ha0_b⟩ ⟨(ze_r Mz (d_ + 1) 5).1, (ze_r Mz (d_ + 1) 5).2⟩ (by decide) (zdal_p dlB_Group_hasPlace_6 (i := 5) rfl) (fun hc_9 => ?_) (fun hc_9 => ?_)
    · skip
      refine zw_iconst (pc := 16) (v := Int32.ofInt 0) (by decide) (zdal_p dlB_Group_hasPlace_6 (i := 8) rfl) ?_
      exact zk_iret (pc := 17) (ty := .boolean) rfl (z_narB (by omega)) ⟨by omega, by omega⟩ hf (show (((0 : Int)) = 0 ∨ ((0 : Int)) = 1) by first | with_reducible assumption | assumption | omega) (zdal_p dlB_Group_hasPlace_6 (i := 9) rfl)
    · skip
      refine zw_iconst (pc := 12) (v := Int32.ofInt 1) (by decide) (zdal_p dlB_Group_hasPlace_6 (i := 6) rfl) ?_
      refine zw_goto (pc := 13) (tgt := 17) (by decide) (zdal_p dlB_Group_hasPlace_6 (i := 7) rfl) ?_
      exact zk_iret (pc := 17) (ty := .boolean) rfl (z_narB (by omega)) ⟨by omega, by omega⟩ hf (show (((1 : Int)) = 0 ∨ ((1 : Int)) = 1) by first | with_reducible assumption | assumption | omega) (zdal_p dlB_Group_hasPlace_6 (i := 9) rfl)
set_option maxHeartbeats 4000000 in
theorem u_T_movesX (l : Launch) (d_ : Nat) (Mz : zMem) (hW : zKW d_ Mz) (hnow : zf Mz 0 2 = some (d_ + 0)) (a0_ : Int) (ha0_a : -2147483648 ≤ a0_) (ha0_b : a0_ < 2147483648) (a1_ : Int) (ha1_a : -2147483648 ≤ a1_) (ha1_b : a1_ < 2147483648) : zC l m_T_moves 0 0 [.ref 0, .int (Int32.ofInt a0_), .int (Int32.ofInt a1_)] Mz (zqcI d_ [] [] [] [] Mz (fun v N => True)) := by
  refine zC_of (L0 := [some (.ref 0), some (.int (Int32.ofInt a0_)), some (.int (Int32.ofInt a1_)), none]) md_T_moves (Nat.le_of_ble_eq_true rfl) rfl ?_ zQ0
  have hf : zFc d_ [] [] [] [] Mz Mz := zFc.rf
  refine zw_aload_n (pc := 0) (n := 0) (x := 0) rfl (zdal_p dlB_T_moves_4 (i := 0) rfl) ?_
  refine zw_getF (pc := 1) f_T_28 rfl ((hf.w hW).ka (o := 0) (by decide)) (hf.now hnow) (zdal_p dlB_T_moves_4 (i := 1) rfl) ?_
  refine zw_getF (pc := 4) f_T_61 rfl ((hf.w hW).kr (o := 0) (by decide)) ((hf.w hW).lr (o := 0) (s := 0) (r := 1) (by decide)) (zdal_p dlB_T_moves_4 (i := 2) rfl) ?_
  refine zw_astore_n (pc := 7) (i := 3) (L2 := [some (.ref 0), some (.int (Int32.ofInt a0_)), some (.int (Int32.ofInt a1_)), some (.ref (d_ + 1))]) rfl (by decide) rfl (zdal_p dlB_T_moves_4 (i := 3) rfl) ?_
  refine zw_aload_n (pc := 8) (n := 3) (x := (d_ + 1)) rfl (zdal_p dlB_T_moves_4 (i := 4) rfl) ?_
  refine zw_iload_n (pc := 9) (n := 1) (x := Int32.ofInt a0_) rfl (zdal_p dlB_T_moves_4 (i := 5) rfl) ?_
  refine zk_callV hf.x (pc := 10) [.int (Int32.ofInt a0_)] [] l_T_108 (u_Group_hasMemberX l d_ Mz (hf.w hW) a0_ ha0_a ha0_b) rfl rfl ((hf.w hW).kr (o := 1) (by decide)) (by decide) (by decide) (Nat.le_of_ble_eq_true rfl) (zdal_p dlB_T_moves_4 (i := 6) rfl) ?_
  rintro _ N1_ ⟨v2_, rfl, ⟨hv2_a, hv2_b⟩, hsN1_, hp0_N1_⟩
  obtain rfl := hsN1_.eq.symm
  replace hp0_N1_ : (v2_ = 0 ∨ v2_ = 1) := hp0_N1_
  show zW l m_T_moves (zn Mz + 0, zw Mz + 0) Mz 13 [some (.ref 0), some (.int (Int32.ofInt a0_)), some (.int (Int32.ofInt a1_)), some (.ref (d_ + 1))] [.int (Int32.ofInt v2_)] _
  refine zr_if_eq (pc := 13) (tgt := 39) ⟨hv2_a, hv2_b⟩ (by decide) (zdal_p dlB_T_moves_4 (i := 7) rfl) (fun hc_13 => ?_) (fun hc_13 => ?_)
  · skip
    refine zw_iconst (pc := 39) (v := Int32.ofInt (-1)) (by decide) (zdal_p dlB_T_moves_4 (i := 19) rfl) ?_
    exact zk_iret (pc := 40) (ty := .int) rfl rfl ⟨by omega, by omega⟩ hf trivial (zdal_p dlB_T_moves_4 (i := 20) rfl)
  · skip
    refine zw_aload_n (pc := 16) (n := 3) (x := (d_ + 1)) rfl (zdal_p dlB_T_moves_4 (i := 8) rfl) ?_
    refine zw_iload_n (pc := 17) (n := 2) (x := Int32.ofInt a1_) rfl (zdal_p dlB_T_moves_4 (i := 9) rfl) ?_
    refine zk_callV hf.x (pc := 18) [.int (Int32.ofInt a1_)] [] l_T_111 (u_Group_hasPlaceX l d_ Mz (hf.w hW) a1_ ha1_a ha1_b) rfl rfl ((hf.w hW).kr (o := 1) (by decide)) (by decide) (by decide) (Nat.le_of_ble_eq_true rfl) (zdal_p dlB_T_moves_4 (i := 10) rfl) ?_
    rintro _ N3_ ⟨v4_, rfl, ⟨hv4_a, hv4_b⟩, hsN3_, hp0_N3_⟩
    obtain rfl := hsN3_.eq.symm
    replace hp0_N3_ : (v4_ = 0 ∨ v4_ = 1) := hp0_N3_
    show zW l m_T_moves (zn Mz + 0, zw Mz + 0) Mz 21 [some (.ref 0), some (.int (Int32.ofInt a0_)), some (.int (Int32.ofInt a1_)), some (.ref (d_ + 1))] [.int (Int32.ofInt v4_)] _
    refine zr_if_eq (pc := 21) (tgt := 39) ⟨hv4_a, hv4_b⟩ (by decide) (zdal_p dlB_T_moves_4 (i := 11) rfl) (fun hc_21 => ?_) (fun hc_21 => ?_)
    · skip
      refine zw_iconst (pc := 39) (v := Int32.ofInt (-1)) (by decide) (zdal_p dlB_T_moves_4 (i := 19) rfl) ?_
      exact zk_iret (pc := 40) (ty := .int) rfl rfl ⟨by omega, by omega⟩ hf trivial (zdal_p dlB_T_moves_4 (i := 20) rfl)
    · skip
      refine zw_aload_n (pc := 24) (n := 3) (x := (d_ + 1)) rfl (zdal_p dlB_T_moves_4 (i := 12) rfl) ?_
      refine zw_getF (pc := 25) f_T_114 rfl ((hf.w hW).kr (o := 1) (by decide)) ((hf.w hW).lr (o := 1) (s := 1) (r := 4) (by decide)) (zdal_p dlB_T_moves_4 (i := 13) rfl) ?_
      refine zw_iload_n (pc := 28) (n := 1) (x := Int32.ofInt a0_) rfl (zdal_p dlB_T_moves_4 (i := 14) rfl) ?_
      refine zk_atG hf.x (pc := 29) l_T_118 ((hf.w hW).kr (o := 4) (by decide)) ((hf.w hW).lr (o := 4) (s := 0) (r := 5) (by decide)) ((hf.w hW).rr (o := 5) (t := 1) (n := 24) (by decide)) (by decide) ⟨by omega, by omega⟩ (by decide) (Nat.le_of_ble_eq_true rfl) (zdal_p dlB_T_moves_4 (i := 15) rfl) (fun v5_ hv5_ hv5_a hv5_b => ?_)
      clear hv5_
      refine zw_iload_n (pc := 32) (n := 2) (x := Int32.ofInt a1_) rfl (zdal_p dlB_T_moves_4 (i := 16) rfl) ?_
      refine zr_callS hf.x (pc := 33) [.int (Int32.ofInt v5_), .int (Int32.ofInt a1_)] [] l_T_124 (u_T_placeInX l d_ Mz (hf.w hW) v5_ hv5_a hv5_b a1_ ha1_a ha1_b) rfl rfl (by decide) (Nat.le_of_ble_eq_true rfl) (zdal_p dlB_T_moves_4 (i := 17) rfl) ?_
      rintro _ N6_ ⟨v7_, rfl, ⟨hv7_a, hv7_b⟩, hsN6_, -⟩
      obtain rfl := hsN6_.eq.symm
      show zW l m_T_moves (zn Mz + 0, zw Mz + 0) Mz 36 [some (.ref 0), some (.int (Int32.ofInt a0_)), some (.int (Int32.ofInt a1_)), some (.ref (d_ + 1))] [.int (Int32.ofInt v7_)] _
      refine zw_goto (pc := 36) (tgt := 40) (by decide) (zdal_p dlB_T_moves_4 (i := 18) rfl) ?_
      exact zk_iret (pc := 40) (ty := .int) rfl rfl ⟨by omega, by omega⟩ hf trivial (zdal_p dlB_T_moves_4 (i := 20) rfl)
set_option maxHeartbeats 4000000 in
theorem u_T_timesX (l : Launch) (d_ : Nat) (Mz : zMem) (hW : zKW d_ Mz) (hnow : zf Mz 0 2 = some (d_ + 0)) (a0_ : Int) (ha0_a : -2147483648 ≤ a0_) (ha0_b : a0_ < 2147483648) (a1_ : Int) (ha1_a : -2147483648 ≤ a1_) (ha1_b : a1_ < 2147483648) : zC l m_T_times 0 0 [.ref 0, .int (Int32.ofInt a0_), .int (Int32.ofInt a1_)] Mz (zqcI d_ [] [] [] [] Mz (fun v N => True)) := by
  refine zC_of (L0 := [some (.ref 0), some (.int (Int32.ofInt a0_)), some (.int (Int32.ofInt a1_))]) md_T_times (Nat.le_of_ble_eq_true rfl) rfl ?_ zQ0
  have hf : zFc d_ [] [] [] [] Mz Mz := zFc.rf
  refine zw_aload_n (pc := 0) (n := 0) (x := 0) rfl (zdal_p dlB_T_times_7 (i := 0) rfl) ?_
  refine zw_getF (pc := 1) f_T_28 rfl ((hf.w hW).ka (o := 0) (by decide)) (hf.now hnow) (zdal_p dlB_T_times_7 (i := 1) rfl) ?_
  refine zw_getF (pc := 4) f_T_61 rfl ((hf.w hW).kr (o := 0) (by decide)) ((hf.w hW).lr (o := 0) (s := 0) (r := 1) (by decide)) (zdal_p dlB_T_times_7 (i := 2) rfl) ?_
  refine zw_iload_n (pc := 7) (n := 1) (x := Int32.ofInt a0_) rfl (zdal_p dlB_T_times_7 (i := 3) rfl) ?_
  refine zk_callV hf.x (pc := 8) [.int (Int32.ofInt a0_)] [] l_T_108 (u_Group_hasMemberX l d_ Mz (hf.w hW) a0_ ha0_a ha0_b) rfl rfl ((hf.w hW).kr (o := 1) (by decide)) (by decide) (by decide) (Nat.le_of_ble_eq_true rfl) (zdal_p dlB_T_times_7 (i := 4) rfl) ?_
  rintro _ N1_ ⟨v2_, rfl, ⟨hv2_a, hv2_b⟩, hsN1_, hp0_N1_⟩
  obtain rfl := hsN1_.eq.symm
  replace hp0_N1_ : (v2_ = 0 ∨ v2_ = 1) := hp0_N1_
  show zW l m_T_times (zn Mz + 0, zw Mz + 0) Mz 11 [some (.ref 0), some (.int (Int32.ofInt a0_)), some (.int (Int32.ofInt a1_))] [.int (Int32.ofInt v2_)] _
  refine zr_if_eq (pc := 11) (tgt := 43) ⟨hv2_a, hv2_b⟩ (by decide) (zdal_p dlB_T_times_7 (i := 5) rfl) (fun hc_11 => ?_) (fun hc_11 => ?_)
  · skip
    refine zw_iconst (pc := 43) (v := Int32.ofInt (-1)) (by decide) (zdal_p dlB_T_times_7 (i := 19) rfl) ?_
    exact zk_iret (pc := 44) (ty := .int) rfl rfl ⟨by omega, by omega⟩ hf trivial (zdal_p dlB_T_times_7 (i := 20) rfl)
  · skip
    refine zw_aload_n (pc := 14) (n := 0) (x := 0) rfl (zdal_p dlB_T_times_7 (i := 6) rfl) ?_
    refine zw_getF (pc := 15) f_T_28 rfl ((hf.w hW).ka (o := 0) (by decide)) (hf.now hnow) (zdal_p dlB_T_times_7 (i := 7) rfl) ?_
    refine zw_getF (pc := 18) f_T_61 rfl ((hf.w hW).kr (o := 0) (by decide)) ((hf.w hW).lr (o := 0) (s := 0) (r := 1) (by decide)) (zdal_p dlB_T_times_7 (i := 8) rfl) ?_
    refine zw_iload_n (pc := 21) (n := 2) (x := Int32.ofInt a1_) rfl (zdal_p dlB_T_times_7 (i := 9) rfl) ?_
    refine zk_callV hf.x (pc := 22) [.int (Int32.ofInt a1_)] [] l_T_108 (u_Group_hasMemberX l d_ Mz (hf.w hW) a1_ ha1_a ha1_b) rfl rfl ((hf.w hW).kr (o := 1) (by decide)) (by decide) (by decide) (Nat.le_of_ble_eq_true rfl) (zdal_p dlB_T_times_7 (i := 10) rfl) ?_
    rintro _ N3_ ⟨v4_, rfl, ⟨hv4_a, hv4_b⟩, hsN3_, hp0_N3_⟩
    obtain rfl := hsN3_.eq.symm
    replace hp0_N3_ : (v4_ = 0 ∨ v4_ = 1) := hp0_N3_
    show zW l m_T_times (zn Mz + 0, zw Mz + 0) Mz 25 [some (.ref 0), some (.int (Int32.ofInt a0_)), some (.int (Int32.ofInt a1_))] [.int (Int32.ofInt v4_)] _
    refine zr_if_eq (pc := 25) (tgt := 43) ⟨hv4_a, hv4_b⟩ (by decide) (zdal_p dlB_T_times_7 (i := 11) rfl) (fun hc_25 => ?_) (fun hc_25 => ?_)
    · skip
      refine zw_iconst (pc := 43) (v := Int32.ofInt (-1)) (by decide) (zdal_p dlB_T_times_7 (i := 19) rfl) ?_
      exact zk_iret (pc := 44) (ty := .int) rfl rfl ⟨by omega, by omega⟩ hf trivial (zdal_p dlB_T_times_7 (i := 20) rfl)
    · skip
      refine zw_aload_n (pc := 28) (n := 0) (x := 0) rfl (zdal_p dlB_T_times_7 (i := 12) rfl) ?_
      refine zw_getF (pc := 29) f_T_28 rfl ((hf.w hW).ka (o := 0) (by decide)) (hf.now hnow) (zdal_p dlB_T_times_7 (i := 13) rfl) ?_
      refine zw_getF (pc := 32) f_T_61 rfl ((hf.w hW).kr (o := 0) (by decide)) ((hf.w hW).lr (o := 0) (s := 0) (r := 1) (by decide)) (zdal_p dlB_T_times_7 (i := 14) rfl) ?_
      refine zw_iload_n (pc := 35) (n := 1) (x := Int32.ofInt a0_) rfl (zdal_p dlB_T_times_7 (i := 15) rfl) ?_
      refine zw_iload_n (pc := 36) (n := 2) (x := Int32.ofInt a1_) rfl (zdal_p dlB_T_times_7 (i := 16) rfl) ?_
      refine zk_callV hf.x (pc := 37) [.int (Int32.ofInt a0_), .int (Int32.ofInt a1_)] [] l_T_128 (u_Group_bothX l d_ Mz (hf.w hW) a0_ ha0_a ha0_b a1_ ha1_a ha1_b) rfl rfl ((hf.w hW).kr (o := 1) (by decide)) (by decide) (by decide) (Nat.le_of_ble_eq_true rfl) (zdal_p dlB_T_times_7 (i := 17) rfl) ?_
      rintro _ N5_ ⟨v6_, rfl, ⟨hv6_a, hv6_b⟩, hsN5_, -⟩
      obtain rfl := hsN5_.eq.symm
      show zW l m_T_times (zn Mz + 0, zw Mz + 0) Mz 40 [some (.ref 0), some (.int (Int32.ofInt a0_)), some (.int (Int32.ofInt a1_))] [.int (Int32.ofInt v6_)] _
      refine zw_goto (pc := 40) (tgt := 44) (by decide) (zdal_p dlB_T_times_7 (i := 18) rfl) ?_
      exact zk_iret (pc := 44) (ty := .int) rfl rfl ⟨by omega, by omega⟩ hf trivial (zdal_p dlB_T_times_7 (i := 20) rfl)
set_option maxHeartbeats 4000000 in
theorem u_Group_repeatsOfX (l : Launch) (d_ : Nat) (Mz : zMem) (hW : zKW d_ Mz) (a0_ : Int) (ha0_a : -2147483648 ≤ a0_) (ha0_b : a0_ < 2147483648) : zC l m_Group_repeatsOf 0 0 [.ref (d_ + 1), .int (Int32.ofInt a0_)] Mz (zqcI d_ [] [] [] [] Mz (fun v N => True)) := by
  refine zC_of (L0 := [some (.ref (d_ + 1)), some (.int (Int32.ofInt a0_)), none, none]) md_Group_repeatsOf (Nat.le_of_ble_eq_true rfl) rfl ?_ zQ0
  have hf : zFc d_ [] [] [] [] Mz Mz := zFc.rf
  refine zw_iload_n (pc := 0) (n := 1) (x := Int32.ofInt a0_) rfl (zdal_p dlB_Group_repeatsOf_9 (i := 0) rfl) ?_
  refine zw_istore_n (pc := 1) (i := 2) (L2 := [some (.ref (d_ + 1)), some (.int (Int32.ofInt a0_)), some (.int (Int32.ofInt a0_)), none]) rfl (by decide) rfl (zdal_p dlB_Group_repeatsOf_9 (i := 1) rfl) ?_
  refine zw_iconst (pc := 2) (v := Int32.ofInt 1) (by decide) (zdal_p dlB_Group_repeatsOf_9 (i := 2) rfl) ?_
  refine zw_istore_n (pc := 3) (i := 3) (L2 := [some (.ref (d_ + 1)), some (.int (Int32.ofInt a0_)), some (.int (Int32.ofInt a0_)), some (.int (Int32.ofInt 1))]) rfl (by decide) rfl (zdal_p dlB_Group_repeatsOf_9 (i := 3) rfl) ?_
  have lp_4 : ∀ (n : Nat) (u1_ : Int) (hu1_a : -2147483648 ≤ u1_) (hu1_b : u1_ < 2147483648) (u2_ : Int) (hu2_a : -2147483648 ≤ u2_) (hu2_b : u2_ < 2147483648) (i3_ : 1 ≤ u2_), (24 - u2_).toNat < n → zW l m_Group_repeatsOf (zn Mz + 0, zw Mz + 0) Mz 4 [some (.ref (d_ + 1)), some (.int (Int32.ofInt a0_)), some (.int (Int32.ofInt u1_)), some (.int (Int32.ofInt u2_))] [] (zqcI d_ [] [] [] [] Mz (fun v N => True)) := by
    intro n
    induction n with
    | zero =>
      intro u1_ hu1_a hu1_b u2_ hu2_a hu2_b i3_ h0
      exact absurd h0 (Nat.not_lt_zero _)
    | succ n ih_4 =>
      intro u1_ hu1_a hu1_b u2_ hu2_a hu2_b i3_ hlt_4
      refine zw_iload_n (pc := 4) (n := 2) (x := Int32.ofInt u1_) rfl (zdal_p dlB_Group_repeatsOf_9 (i := 4) rfl) ?_
      refine zr_if_eq (pc := 5) (tgt := 27) ⟨hu1_a, hu1_b⟩ (by decide) (zdal_p dlB_Group_repeatsOf_9 (i := 5) rfl) (fun hc_5 => ?_) (fun hc_5 => ?_)
      · skip
        refine zw_iload_n (pc := 27) (n := 3) (x := Int32.ofInt u2_) rfl (zdal_p dlB_Group_repeatsOf_9 (i := 16) rfl) ?_
        exact zk_iret (pc := 28) (ty := .int) rfl rfl ⟨by omega, by omega⟩ hf trivial (zdal_p dlB_Group_repeatsOf_9 (i := 17) rfl)
      · skip
        refine zw_iload_n (pc := 8) (n := 3) (x := Int32.ofInt u2_) rfl (zdal_p dlB_Group_repeatsOf_9 (i := 6) rfl) ?_
        refine zw_bipush (pc := 9) (v := Int32.ofInt 24) (by decide) (zdal_p dlB_Group_repeatsOf_9 (i := 7) rfl) ?_
        refine zr_icmp_ge (pc := 11) (tgt := 27) ⟨hu2_a, hu2_b⟩ ⟨(by decide), (by decide)⟩ (by decide) (zdal_p dlB_Group_repeatsOf_9 (i := 8) rfl) (fun hc_11 => ?_) (fun hc_11 => ?_)
        · skip
          refine zw_iload_n (pc := 27) (n := 3) (x := Int32.ofInt u2_) rfl (zdal_p dlB_Group_repeatsOf_9 (i := 16) rfl) ?_
          exact zk_iret (pc := 28) (ty := .int) rfl rfl ⟨by omega, by omega⟩ hf trivial (zdal_p dlB_Group_repeatsOf_9 (i := 17) rfl)
        · skip
          refine zw_aload_n (pc := 14) (n := 0) (x := (d_ + 1)) rfl (zdal_p dlB_Group_repeatsOf_9 (i := 9) rfl) ?_
          refine zw_iload_n (pc := 15) (n := 2) (x := Int32.ofInt u1_) rfl (zdal_p dlB_Group_repeatsOf_9 (i := 10) rfl) ?_
          refine zw_iload_n (pc := 16) (n := 1) (x := Int32.ofInt a0_) rfl (zdal_p dlB_Group_repeatsOf_9 (i := 11) rfl) ?_
          refine zk_callV hf.x (pc := 17) [.int (Int32.ofInt u1_), .int (Int32.ofInt a0_)] [] l_Group_67 (u_Group_bothX l d_ Mz (hf.w hW) u1_ hu1_a hu1_b a0_ ha0_a ha0_b) rfl rfl ((hf.w hW).kr (o := 1) (by decide)) (by decide) (by decide) (Nat.le_of_ble_eq_true rfl) (zdal_p dlB_Group_repeatsOf_9 (i := 12) rfl) ?_
          rintro _ N4_ ⟨v5_, rfl, ⟨hv5_a, hv5_b⟩, hsN4_, -⟩
          obtain rfl := hsN4_.eq.symm
          show zW l m_Group_repeatsOf (zn Mz + 0, zw Mz + 0) Mz 20 [some (.ref (d_ + 1)), some (.int (Int32.ofInt a0_)), some (.int (Int32.ofInt u1_)), some (.int (Int32.ofInt u2_))] [.int (Int32.ofInt v5_)] _
          refine zw_istore_n (pc := 20) (i := 2) (L2 := [some (.ref (d_ + 1)), some (.int (Int32.ofInt a0_)), some (.int (Int32.ofInt v5_)), some (.int (Int32.ofInt u2_))]) rfl (by decide) rfl (zdal_p dlB_Group_repeatsOf_9 (i := 13) rfl) ?_
          refine zr_iinc (pc := 21) (i := 3) (a := u2_) (n := 1) (L2 := [some (.ref (d_ + 1)), some (.int (Int32.ofInt a0_)), some (.int (Int32.ofInt v5_)), some (.int (Int32.ofInt (u2_ + 1)))]) rfl (by decide) rfl (zdal_p dlB_Group_repeatsOf_9 (i := 14) rfl) ?_
          obtain ⟨v6_, hv6_a, hv6_b, hv6_e, hv6_d⟩ := zk_gen (u2_ + 1)
          rw [hv6_e]
          refine zw_goto (pc := 24) (tgt := 4) (by decide) (zdal_p dlB_Group_repeatsOf_9 (i := 15) rfl) ?_
          exact ih_4 v5_ hv5_a hv5_b v6_ hv6_a hv6_b (show 1 ≤ v6_ by first | with_reducible assumption | assumption | omega) (by omega)
  exact lp_4 _ a0_ ha0_a ha0_b 1 (by decide) (by decide) (show 1 ≤ (1 : Int) by first | with_reducible assumption | assumption | omega) (Nat.lt_succ_self _)
set_option maxHeartbeats 4000000 in
theorem u_T_orderX (l : Launch) (d_ : Nat) (Mz : zMem) (hW : zKW d_ Mz) (hnow : zf Mz 0 2 = some (d_ + 0)) (a0_ : Int) (ha0_a : -2147483648 ≤ a0_) (ha0_b : a0_ < 2147483648) : zC l m_T_order 0 0 [.ref 0, .int (Int32.ofInt a0_)] Mz (zqcI d_ [] [] [] [] Mz (fun v N => True)) := by
  refine zC_of (L0 := [some (.ref 0), some (.int (Int32.ofInt a0_))]) md_T_order (Nat.le_of_ble_eq_true rfl) rfl ?_ zQ0
  have hf : zFc d_ [] [] [] [] Mz Mz := zFc.rf
  refine zw_aload_n (pc := 0) (n := 0) (x := 0) rfl (zdal_p dlB_T_order_8 (i := 0) rfl) ?_
  refine zw_getF (pc := 1) f_T_28 rfl ((hf.w hW).ka (o := 0) (by decide)) (hf.now hnow) (zdal_p dlB_T_order_8 (i := 1) rfl) ?_
  refine zw_getF (pc := 4) f_T_61 rfl ((hf.w hW).kr (o := 0) (by decide)) ((hf.w hW).lr (o := 0) (s := 0) (r := 1) (by decide)) (zdal_p dlB_T_order_8 (i := 2) rfl) ?_
  refine zw_iload_n (pc := 7) (n := 1) (x := Int32.ofInt a0_) rfl (zdal_p dlB_T_order_8 (i := 3) rfl) ?_
  refine zk_callV hf.x (pc := 8) [.int (Int32.ofInt a0_)] [] l_T_108 (u_Group_hasMemberX l d_ Mz (hf.w hW) a0_ ha0_a ha0_b) rfl rfl ((hf.w hW).kr (o := 1) (by decide)) (by decide) (by decide) (Nat.le_of_ble_eq_true rfl) (zdal_p dlB_T_order_8 (i := 4) rfl) ?_
  rintro _ N1_ ⟨v2_, rfl, ⟨hv2_a, hv2_b⟩, hsN1_, hp0_N1_⟩
  obtain rfl := hsN1_.eq.symm
  replace hp0_N1_ : (v2_ = 0 ∨ v2_ = 1) := hp0_N1_
  show zW l m_T_order (zn Mz + 0, zw Mz + 0) Mz 11 [some (.ref 0), some (.int (Int32.ofInt a0_))] [.int (Int32.ofInt v2_)] _
  refine zr_if_eq (pc := 11) (tgt := 28) ⟨hv2_a, hv2_b⟩ (by decide) (zdal_p dlB_T_order_8 (i := 5) rfl) (fun hc_11 => ?_) (fun hc_11 => ?_)
  · skip
    refine zw_iconst (pc := 28) (v := Int32.ofInt (-1)) (by decide) (zdal_p dlB_T_order_8 (i := 12) rfl) ?_
    exact zk_iret (pc := 29) (ty := .int) rfl rfl ⟨by omega, by omega⟩ hf trivial (zdal_p dlB_T_order_8 (i := 13) rfl)
  · skip
    refine zw_aload_n (pc := 14) (n := 0) (x := 0) rfl (zdal_p dlB_T_order_8 (i := 6) rfl) ?_
    refine zw_getF (pc := 15) f_T_28 rfl ((hf.w hW).ka (o := 0) (by decide)) (hf.now hnow) (zdal_p dlB_T_order_8 (i := 7) rfl) ?_
    refine zw_getF (pc := 18) f_T_61 rfl ((hf.w hW).kr (o := 0) (by decide)) ((hf.w hW).lr (o := 0) (s := 0) (r := 1) (by decide)) (zdal_p dlB_T_order_8 (i := 8) rfl) ?_
    refine zw_iload_n (pc := 21) (n := 1) (x := Int32.ofInt a0_) rfl (zdal_p dlB_T_order_8 (i := 9) rfl) ?_
    refine zk_callV hf.x (pc := 22) [.int (Int32.ofInt a0_)] [] l_T_131 (u_Group_repeatsOfX l d_ Mz (hf.w hW) a0_ ha0_a ha0_b) rfl rfl ((hf.w hW).kr (o := 1) (by decide)) (by decide) (by decide) (Nat.le_of_ble_eq_true rfl) (zdal_p dlB_T_order_8 (i := 10) rfl) ?_
    rintro _ N3_ ⟨v4_, rfl, ⟨hv4_a, hv4_b⟩, hsN3_, -⟩
    obtain rfl := hsN3_.eq.symm
    show zW l m_T_order (zn Mz + 0, zw Mz + 0) Mz 25 [some (.ref 0), some (.int (Int32.ofInt a0_))] [.int (Int32.ofInt v4_)] _
    refine zw_goto (pc := 25) (tgt := 29) (by decide) (zdal_p dlB_T_order_8 (i := 11) rfl) ?_
    exact zk_iret (pc := 29) (ty := .int) rfl rfl ⟨by omega, by omega⟩ hf trivial (zdal_p dlB_T_order_8 (i := 13) rfl)
set_option maxHeartbeats 4000000 in
theorem u_Group_spanOfX (l : Launch) (d_ : Nat) (Mz : zMem) (hW : zKW d_ Mz) (a0_ : Int) (ha0_a : -2147483648 ≤ a0_) (ha0_b : a0_ < 2147483648) : zC l m_Group_spanOf 0 0 [.ref (d_ + 1), .int (Int32.ofInt a0_)] Mz (zqcI d_ [] [] [] [11] Mz (fun v N => True)) := by
  refine zC_of (L0 := [some (.ref (d_ + 1)), some (.int (Int32.ofInt a0_)), none, none, none, none, none]) md_Group_spanOf (Nat.le_of_ble_eq_true rfl) rfl ?_ zQ0
  have hf : zFc d_ [] [] [] [11] Mz Mz := zFc.rf
  refine zw_iconst (pc := 0) (v := Int32.ofInt 1) (by decide) (zdal_p dlA_Group_spanOf_36 (i := 0) rfl) ?_
  refine zw_istore_n (pc := 1) (i := 2) (L2 := [some (.ref (d_ + 1)), some (.int (Int32.ofInt a0_)), some (.int (Int32.ofInt 1)), none, none, none, none]) rfl (by decide) rfl (zdal_p dlA_Group_spanOf_36 (i := 1) rfl) ?_
  refine zw_iconst (pc := 2) (v := Int32.ofInt 1) (by decide) (zdal_p dlA_Group_spanOf_36 (i := 2) rfl) ?_
  refine zw_istore_n (pc := 3) (i := 3) (L2 := [some (.ref (d_ + 1)), some (.int (Int32.ofInt a0_)), some (.int (Int32.ofInt 1)), some (.int (Int32.ofInt 1)), none, none, none]) rfl (by decide) rfl (zdal_p dlA_Group_spanOf_36 (i := 3) rfl) ?_
  refine zw_aload_n (pc := 4) (n := 0) (x := (d_ + 1)) rfl (zdal_p dlA_Group_spanOf_36 (i := 4) rfl) ?_
  refine zw_getF (pc := 5) f_Group_29 rfl ((hf.w hW).kr (o := 1) (by decide)) ((hf.w hW).lr (o := 1) (s := 4) (r := 10) (by decide)) (zdal_p dlA_Group_spanOf_36 (i := 5) rfl) ?_
  refine zw_iconst (pc := 8) (v := Int32.ofInt 0) (by decide) (zdal_p dlA_Group_spanOf_36 (i := 6) rfl) ?_
  refine zw_iconst (pc := 9) (v := Int32.ofInt 0) (by decide) (zdal_p dlA_Group_spanOf_36 (i := 7) rfl) ?_
  refine zk_stG hf.x (pc := 10) (o := 11) (by decide) l_Group_46 ((hf.w hW).kr (o := 10) (by decide)) ((hf.w hW).lr (o := 10) (s := 0) (r := 11) (by decide)) ((hf.w hW).rr (o := 11) (t := 1) (n := 24) (by decide)) (by decide) ⟨by omega, by omega⟩ (by decide) (Nat.le_of_ble_eq_true rfl) (zdal_p dlA_Group_spanOf_36 (i := 8) rfl) (fun N1_ hsN1_ => ?_)
  have hf_N1_ : zFc d_ [] [] [] [11] Mz N1_ := hf.tr hsN1_ (by decide) (by decide) (by decide) (by decide)
  refine zw_iconst (pc := 13) (v := Int32.ofInt 0) (by decide) (zdal_p dlA_Group_spanOf_36 (i := 9) rfl) ?_
  refine zw_istore (pc := 14) (i := 4) (L2 := [some (.ref (d_ + 1)), some (.int (Int32.ofInt a0_)), some (.int (Int32.ofInt 1)), some (.int (Int32.ofInt 1)), some (.int (Int32.ofInt 0)), none, none]) (by decide) rfl (zdal_p dlA_Group_spanOf_36 (i := 10) rfl) ?_
  have lp_16 : ∀ (n : Nat) (u2_ : Int) (hu2_a : -2147483648 ≤ u2_) (hu2_b : u2_ < 2147483648) (u3_ : Int) (hu3_a : -2147483648 ≤ u3_) (hu3_b : u3_ < 2147483648) (u4_ : Int) (hu4_a : -2147483648 ≤ u4_) (hu4_b : u4_ < 2147483648) (N5_ : zMem) (hs6_ : zFc d_ [] [] [] [11] N1_ N5_) (i7_ : 0 ≤ u4_), (24 - u4_).toNat < n → zW l m_Group_spanOf (zn Mz + 0, zw Mz + 0) N5_ 16 [some (.ref (d_ + 1)), some (.int (Int32.ofInt a0_)), some (.int (Int32.ofInt u2_)), some (.int (Int32.ofInt u3_)), some (.int (Int32.ofInt u4_)), none, none] [] (zqcI d_ [] [] [] [11] Mz (fun v N => True)) := by
    intro n
    induction n with
    | zero =>
      intro u2_ hu2_a hu2_b u3_ hu3_a hu3_b u4_ hu4_a hu4_b N5_ hs6_ i7_ h0
      exact absurd h0 (Nat.not_lt_zero _)
    | succ n ih_16 =>
      intro u2_ hu2_a hu2_b u3_ hu3_a hu3_b u4_ hu4_a hu4_b N5_ hs6_ i7_ hlt_16
      have hf_N5_ : zFc d_ [] [] [] [11] Mz N5_ := hf_N1_.tr hs6_ (by decide) (by decide) (by decide) (by decide)
      refine zw_iload (pc := 16) (i := 4) (x := Int32.ofInt u4_) rfl (zdal_p dlA_Group_spanOf_36 (i := 11) rfl) ?_
      refine zw_iload_n (pc := 18) (n := 3) (x := Int32.ofInt u3_) rfl (zdal_p dlA_Group_spanOf_36 (i := 12) rfl) ?_
      refine zr_icmp_ge (pc := 19) (tgt := 112) ⟨hu4_a, hu4_b⟩ ⟨hu3_a, hu3_b⟩ (by decide) (zdal_p dlA_Group_spanOf_36 (i := 13) rfl) (fun hc_19 => ?_) (fun hc_19 => ?_)
      · skip
        refine zw_iload_n (pc := 112) (n := 2) (x := Int32.ofInt u2_) rfl (zdal_p dlA_Group_spanOf_38 (i := 9) rfl) ?_
        exact zk_iret (pc := 113) (ty := .int) rfl rfl ⟨by omega, by omega⟩ hf_N5_ trivial (zdal_p dlA_Group_spanOf_38 (i := 10) rfl)
      · skip
        refine zw_iload (pc := 22) (i := 4) (x := Int32.ofInt u4_) rfl (zdal_p dlA_Group_spanOf_36 (i := 14) rfl) ?_
        refine zw_bipush (pc := 24) (v := Int32.ofInt 24) (by decide) (zdal_p dlA_Group_spanOf_36 (i := 15) rfl) ?_
        refine zr_icmp_ge (pc := 26) (tgt := 112) ⟨hu4_a, hu4_b⟩ ⟨(by decide), (by decide)⟩ (by decide) (zdal_p dlA_Group_spanOf_36 (i := 16) rfl) (fun hc_26 => ?_) (fun hc_26 => ?_)
        · skip
          refine zw_iload_n (pc := 112) (n := 2) (x := Int32.ofInt u2_) rfl (zdal_p dlA_Group_spanOf_38 (i := 9) rfl) ?_
          exact zk_iret (pc := 113) (ty := .int) rfl rfl ⟨by omega, by omega⟩ hf_N5_ trivial (zdal_p dlA_Group_spanOf_38 (i := 10) rfl)
        · skip
          refine zw_iconst (pc := 29) (v := Int32.ofInt 0) (by decide) (zdal_p dlA_Group_spanOf_36 (i := 17) rfl) ?_
          refine zw_istore (pc := 30) (i := 5) (L2 := [some (.ref (d_ + 1)), some (.int (Int32.ofInt a0_)), some (.int (Int32.ofInt u2_)), some (.int (Int32.ofInt u3_)), some (.int (Int32.ofInt u4_)), some (.int (Int32.ofInt 0)), none]) (by decide) rfl (zdal_p dlA_Group_spanOf_36 (i := 18) rfl) ?_
          have lp_32 : ∀ (n : Nat) (u8_ : Int) (hu8_a : -2147483648 ≤ u8_) (hu8_b : u8_ < 2147483648) (u9_ : Int) (hu9_a : -2147483648 ≤ u9_) (hu9_b : u9_ < 2147483648) (u10_ : Int) (hu10_a : -2147483648 ≤ u10_) (hu10_b : u10_ < 2147483648) (N11_ : zMem) (hs12_ : zFc d_ [] [] [] [11] N5_ N11_) (i13_ : 0 ≤ u10_), (ze Mz (d_ + 1) 7 - u10_).toNat < n → zW l m_Group_spanOf (zn Mz + 0, zw Mz + 0) N11_ 32 [some (.ref (d_ + 1)), some (.int (Int32.ofInt a0_)), some (.int (Int32.ofInt u8_)), some (.int (Int32.ofInt u9_)), some (.int (Int32.ofInt u4_)), some (.int (Int32.ofInt u10_)), none] [] (zqcI d_ [] [] [] [11] Mz (fun v N => True)) := by
            intro n
            induction n with
            | zero =>
              intro u8_ hu8_a hu8_b u9_ hu9_a hu9_b u10_ hu10_a hu10_b N11_ hs12_ i13_ h0
              exact absurd h0 (Nat.not_lt_zero _)
            | succ n ih_32 =>
              intro u8_ hu8_a hu8_b u9_ hu9_a hu9_b u10_ hu10_a hu10_b N11_ hs12_ i13_ hlt_32
              have hf_N11_ : zFc d_ [] [] [] [11] Mz N11_ := hf_N5_.tr hs12_ (by decide) (by decide) (by decide) (by decide)
              have hb0_N11_ : zFc d_ [] [] [] [11] N1_ N11_ := hs6_.tr hs12_ (by decide) (by decide) (by decide) (by decide)
              refine zw_iload (pc := 32) (i := 5) (x := Int32.ofInt u10_) rfl (zdal_p dlA_Group_spanOf_36 (i := 19) rfl) ?_
              refine zw_aload_n (pc := 34) (n := 0) (x := (d_ + 1)) rfl (zdal_p dlA_Group_spanOf_36 (i := 20) rfl) ?_
              refine zk_getI (pc := 35) f_Group_39 rfl ((hf_N11_.w hW).kr (o := 1) (by decide)) (zdal_p dlA_Group_spanOf_36 (i := 21) rfl) ?_
              rw [hf_N11_.e (by decide)]
              have hr14_ := ze_r Mz (d_ + 1) 7
              refine zr_icmp_ge (pc := 38) (tgt := 106) ⟨hu10_a, hu10_b⟩ ⟨(ze_r Mz (d_ + 1) 7).1, (ze_r Mz (d_ + 1) 7).2⟩ (by decide) (zdal_p dlA_Group_spanOf_36 (i := 22) rfl) (fun hc_38 => ?_) (fun hc_38 => ?_)
              · skip
                refine zr_iinc (pc := 106) (i := 4) (a := u4_) (n := 1) (L2 := [some (.ref (d_ + 1)), some (.int (Int32.ofInt a0_)), some (.int (Int32.ofInt u8_)), some (.int (Int32.ofInt u9_)), some (.int (Int32.ofInt (u4_ + 1))), some (.int (Int32.ofInt u10_)), none]) rfl (by decide) rfl (zdal_p dlA_Group_spanOf_38 (i := 7) rfl) ?_
                obtain ⟨v15_, hv15_a, hv15_b, hv15_e, hv15_d⟩ := zk_gen (u4_ + 1)
                rw [hv15_e]
                refine zw_goto (pc := 109) (tgt := 16) (by decide) (zdal_p dlA_Group_spanOf_38 (i := 8) rfl) ?_
                refine zW_le [some (.ref (d_ + 1)), some (.int (Int32.ofInt a0_)), some (.int (Int32.ofInt u8_)), some (.int (Int32.ofInt u9_)), some (.int (Int32.ofInt v15_)), none, none] (⟨rfl, rfl, rfl, rfl, rfl, trivial⟩) ?_
                exact ih_16 u8_ hu8_a hu8_b u9_ hu9_a hu9_b v15_ hv15_a hv15_b N11_ hb0_N11_ (show 0 ≤ v15_ by first | with_reducible assumption | assumption | omega) (by omega)
              · skip
                refine zw_iload_n (pc := 41) (n := 1) (x := Int32.ofInt a0_) rfl (zdal_p dlA_Group_spanOf_36 (i := 23) rfl) ?_
                refine zw_iload (pc := 42) (i := 5) (x := Int32.ofInt u10_) rfl (zdal_p dlA_Group_spanOf_37 (i := 0) rfl) ?_
                refine zr_callS hf_N11_.x (pc := 44) [.int (Int32.ofInt a0_), .int (Int32.ofInt u10_)] [] l_Group_73 (u_T_isInX l d_ N11_ (hf_N11_.w hW) a0_ ha0_a ha0_b u10_ hu10_a hu10_b) rfl rfl (by decide) (Nat.le_of_ble_eq_true rfl) (zdal_p dlA_Group_spanOf_37 (i := 1) rfl) ?_
                rintro _ N16_ ⟨v17_, rfl, ⟨hv17_a, hv17_b⟩, hsN16_, hp0_N16_⟩
                obtain rfl := hsN16_.eq.symm
                replace hp0_N16_ : (v17_ = 0 ∨ v17_ = 1) := hp0_N16_
                show zW l m_Group_spanOf (zn Mz + 0, zw Mz + 0) N11_ 47 [some (.ref (d_ + 1)), some (.int (Int32.ofInt a0_)), some (.int (Int32.ofInt u8_)), some (.int (Int32.ofInt u9_)), some (.int (Int32.ofInt u4_)), some (.int (Int32.ofInt u10_)), none] [.int (Int32.ofInt v17_)] _
                refine zr_if_eq (pc := 47) (tgt := 68) ⟨hv17_a, hv17_b⟩ (by decide) (zdal_p dlA_Group_spanOf_37 (i := 2) rfl) (fun hc_47 => ?_) (fun hc_47 => ?_)
                · skip
                  refine zw_iconst (pc := 68) (v := Int32.ofInt 0) (by decide) (zdal_p dlA_Group_spanOf_37 (i := 11) rfl) ?_
                  refine zw_istore (pc := 69) (i := 6) (L2 := [some (.ref (d_ + 1)), some (.int (Int32.ofInt a0_)), some (.int (Int32.ofInt u8_)), some (.int (Int32.ofInt u9_)), some (.int (Int32.ofInt u4_)), some (.int (Int32.ofInt u10_)), some (.int (Int32.ofInt 0))]) (by decide) rfl (zdal_p dlA_Group_spanOf_37 (i := 12) rfl) ?_
                  refine zw_iload_n (pc := 71) (n := 2) (x := Int32.ofInt u8_) rfl (zdal_p dlA_Group_spanOf_37 (i := 13) rfl) ?_
                  refine zw_iload (pc := 72) (i := 6) (x := Int32.ofInt 0) rfl (zdal_p dlA_Group_spanOf_37 (i := 14) rfl) ?_
                  refine zr_callS hf_N11_.x (pc := 74) [.int (Int32.ofInt u8_), .int (Int32.ofInt 0)] [] l_Group_73 (u_T_isInX l d_ N11_ (hf_N11_.w hW) u8_ hu8_a hu8_b 0 (by decide) (by decide)) rfl rfl (by decide) (Nat.le_of_ble_eq_true rfl) (zdal_p dlA_Group_spanOf_37 (i := 15) rfl) ?_
                  rintro _ N18_ ⟨v19_, rfl, ⟨hv19_a, hv19_b⟩, hsN18_, hp0_N18_⟩
                  obtain rfl := hsN18_.eq.symm
                  replace hp0_N18_ : (v19_ = 0 ∨ v19_ = 1) := hp0_N18_
                  show zW l m_Group_spanOf (zn Mz + 0, zw Mz + 0) N11_ 77 [some (.ref (d_ + 1)), some (.int (Int32.ofInt a0_)), some (.int (Int32.ofInt u8_)), some (.int (Int32.ofInt u9_)), some (.int (Int32.ofInt u4_)), some (.int (Int32.ofInt u10_)), some (.int (Int32.ofInt 0))] [.int (Int32.ofInt v19_)] _
                  refine zr_if_ne (pc := 77) (tgt := 100) ⟨hv19_a, hv19_b⟩ (by decide) d_Group_spanOf_77 (fun hc_77 => ?_) (fun hc_77 => ?_)
                  · skip
                    refine zr_iinc (pc := 100) (i := 5) (a := u10_) (n := 1) (L2 := [some (.ref (d_ + 1)), some (.int (Int32.ofInt a0_)), some (.int (Int32.ofInt u8_)), some (.int (Int32.ofInt u9_)), some (.int (Int32.ofInt u4_)), some (.int (Int32.ofInt (u10_ + 1))), some (.int (Int32.ofInt 0))]) rfl (by decide) rfl d_Group_spanOf_100 ?_
                    obtain ⟨v20_, hv20_a, hv20_b, hv20_e, hv20_d⟩ := zk_gen (u10_ + 1)
                    rw [hv20_e]
                    refine zw_goto (pc := 103) (tgt := 32) (by decide) d_Group_spanOf_103 ?_
                    refine zW_le [some (.ref (d_ + 1)), some (.int (Int32.ofInt a0_)), some (.int (Int32.ofInt u8_)), some (.int (Int32.ofInt u9_)), some (.int (Int32.ofInt u4_)), some (.int (Int32.ofInt v20_)), none] (⟨rfl, rfl, rfl, rfl, rfl, rfl, trivial⟩) ?_
                    exact ih_32 u8_ hu8_a hu8_b u9_ hu9_a hu9_b v20_ hv20_a hv20_b N11_ hs12_ (show 0 ≤ v20_ by first | with_reducible assumption | assumption | omega) (by omega)
                  · skip
                    refine zw_iload_n (pc := 80) (n := 2) (x := Int32.ofInt u8_) rfl (zdal_p dlA_Group_spanOf_37 (i := 17) rfl) ?_
                    refine zw_iconst (pc := 81) (v := Int32.ofInt 1) (by decide) (zdal_p dlA_Group_spanOf_37 (i := 18) rfl) ?_
                    refine zw_iload (pc := 82) (i := 6) (x := Int32.ofInt 0) rfl (zdal_p dlA_Group_spanOf_37 (i := 19) rfl) ?_
                    refine zr_ishl (pc := 84) (zdal_p dlA_Group_spanOf_37 (i := 20) rfl) ?_
                    have hr21_ := zshl_r 1 0
                    refine zr_nmI (fun v22_ hv22_ => ?_)
                    obtain ⟨hv22_a, hv22_b⟩ := hv22_
                    refine zr_ior (pc := 85) (zdal_p dlA_Group_spanOf_37 (i := 21) rfl) ?_
                    have hr23_ := zor_r u8_ v22_
                    refine zr_nmI (fun v24_ hv24_ => ?_)
                    obtain ⟨hv24_a, hv24_b⟩ := hv24_
                    refine zw_istore_n (pc := 86) (i := 2) (L2 := [some (.ref (d_ + 1)), some (.int (Int32.ofInt a0_)), some (.int (Int32.ofInt v24_)), some (.int (Int32.ofInt u9_)), some (.int (Int32.ofInt u4_)), some (.int (Int32.ofInt u10_)), some (.int (Int32.ofInt 0))]) rfl (by decide) rfl (zdal_p dlA_Group_spanOf_37 (i := 22) rfl) ?_
                    refine zw_aload_n (pc := 87) (n := 0) (x := (d_ + 1)) rfl (zdal_p dlA_Group_spanOf_37 (i := 23) rfl) ?_
                    refine zw_getF (pc := 88) f_Group_29 rfl ((hf_N11_.w hW).kr (o := 1) (by decide)) ((hf_N11_.w hW).lr (o := 1) (s := 4) (r := 10) (by decide)) (zdal_p dlA_Group_spanOf_38 (i := 0) rfl) ?_
                    refine zw_iload_n (pc := 91) (n := 3) (x := Int32.ofInt u9_) rfl (zdal_p dlA_Group_spanOf_38 (i := 1) rfl) ?_
                    refine zw_iload (pc := 92) (i := 6) (x := Int32.ofInt 0) rfl (zdal_p dlA_Group_spanOf_38 (i := 2) rfl) ?_
                    refine zk_stG hf_N11_.x (pc := 94) (o := 11) (by decide) l_Group_46 ((hf_N11_.w hW).kr (o := 10) (by decide)) ((hf_N11_.w hW).lr (o := 10) (s := 0) (r := 11) (by decide)) ((hf_N11_.w hW).rr (o := 11) (t := 1) (n := 24) (by decide)) (by decide) ⟨by omega, by omega⟩ (by decide) (Nat.le_of_ble_eq_true rfl) (zdal_p dlA_Group_spanOf_38 (i := 3) rfl) (fun N25_ hsN25_ => ?_)
                    have hf_N25_ : zFc d_ [] [] [] [11] Mz N25_ := hf_N11_.tr hsN25_ (by decide) (by decide) (by decide) (by decide)
                    have hb0_N25_ : zFc d_ [] [] [] [11] N1_ N25_ := hb0_N11_.tr hsN25_ (by decide) (by decide) (by decide) (by decide)
                    have hb1_N25_ : zFc d_ [] [] [] [11] N5_ N25_ := hs12_.tr hsN25_ (by decide) (by decide) (by decide) (by decide)
                    refine zr_iinc (pc := 97) (i := 3) (a := u9_) (n := 1) (L2 := [some (.ref (d_ + 1)), some (.int (Int32.ofInt a0_)), some (.int (Int32.ofInt v24_)), some (.int (Int32.ofInt (u9_ + 1))), some (.int (Int32.ofInt u4_)), some (.int (Int32.ofInt u10_)), some (.int (Int32.ofInt 0))]) rfl (by decide) rfl (zdal_p dlA_Group_spanOf_38 (i := 4) rfl) ?_
                    obtain ⟨v26_, hv26_a, hv26_b, hv26_e, hv26_d⟩ := zk_gen (u9_ + 1)
                    rw [hv26_e]
                    refine zr_iinc (pc := 100) (i := 5) (a := u10_) (n := 1) (L2 := [some (.ref (d_ + 1)), some (.int (Int32.ofInt a0_)), some (.int (Int32.ofInt v24_)), some (.int (Int32.ofInt v26_)), some (.int (Int32.ofInt u4_)), some (.int (Int32.ofInt (u10_ + 1))), some (.int (Int32.ofInt 0))]) rfl (by decide) rfl d_Group_spanOf_100 ?_
                    obtain ⟨v27_, hv27_a, hv27_b, hv27_e, hv27_d⟩ := zk_gen (u10_ + 1)
                    rw [hv27_e]
                    refine zw_goto (pc := 103) (tgt := 32) (by decide) d_Group_spanOf_103 ?_
                    refine zW_le [some (.ref (d_ + 1)), some (.int (Int32.ofInt a0_)), some (.int (Int32.ofInt v24_)), some (.int (Int32.ofInt v26_)), some (.int (Int32.ofInt u4_)), some (.int (Int32.ofInt v27_)), none] (⟨rfl, rfl, rfl, rfl, rfl, rfl, trivial⟩) ?_
                    exact ih_32 v24_ hv24_a hv24_b v26_ hv26_a hv26_b v27_ hv27_a hv27_b N25_ hb1_N25_ (show 0 ≤ v27_ by first | with_reducible assumption | assumption | omega) (by omega)
                · skip
                  refine zw_aload_n (pc := 50) (n := 0) (x := (d_ + 1)) rfl (zdal_p dlA_Group_spanOf_37 (i := 3) rfl) ?_
                  refine zw_aload_n (pc := 51) (n := 0) (x := (d_ + 1)) rfl (zdal_p dlA_Group_spanOf_37 (i := 4) rfl) ?_
                  refine zw_getF (pc := 52) f_Group_29 rfl ((hf_N11_.w hW).kr (o := 1) (by decide)) ((hf_N11_.w hW).lr (o := 1) (s := 4) (r := 10) (by decide)) (zdal_p dlA_Group_spanOf_37 (i := 5) rfl) ?_
                  refine zw_iload (pc := 55) (i := 4) (x := Int32.ofInt u4_) rfl (zdal_p dlA_Group_spanOf_37 (i := 6) rfl) ?_
                  refine zk_atG hf_N11_.x (pc := 57) l_Group_54 ((hf_N11_.w hW).kr (o := 10) (by decide)) ((hf_N11_.w hW).lr (o := 10) (s := 0) (r := 11) (by decide)) ((hf_N11_.w hW).rr (o := 11) (t := 1) (n := 24) (by decide)) (by decide) ⟨by omega, by omega⟩ (by decide) (Nat.le_of_ble_eq_true rfl) (zdal_p dlA_Group_spanOf_37 (i := 7) rfl) (fun v28_ hv28_ hv28_a hv28_b => ?_)
                  clear hv28_
                  refine zw_iload (pc := 60) (i := 5) (x := Int32.ofInt u10_) rfl (zdal_p dlA_Group_spanOf_37 (i := 8) rfl) ?_
                  refine zk_callV hf_N11_.x (pc := 62) [.int (Int32.ofInt v28_), .int (Int32.ofInt u10_)] [] l_Group_67 (u_Group_bothX l d_ N11_ (hf_N11_.w hW) v28_ hv28_a hv28_b u10_ hu10_a hu10_b) rfl rfl ((hf_N11_.w hW).kr (o := 1) (by decide)) (by decide) (by decide) (Nat.le_of_ble_eq_true rfl) (zdal_p dlA_Group_spanOf_37 (i := 9) rfl) ?_
                  rintro _ N29_ ⟨v30_, rfl, ⟨hv30_a, hv30_b⟩, hsN29_, -⟩
                  obtain rfl := hsN29_.eq.symm
                  show zW l m_Group_spanOf (zn Mz + 0, zw Mz + 0) N11_ 65 [some (.ref (d_ + 1)), some (.int (Int32.ofInt a0_)), some (.int (Int32.ofInt u8_)), some (.int (Int32.ofInt u9_)), some (.int (Int32.ofInt u4_)), some (.int (Int32.ofInt u10_)), none] [.int (Int32.ofInt v30_)] _
                  refine zw_goto (pc := 65) (tgt := 69) (by decide) (zdal_p dlA_Group_spanOf_37 (i := 10) rfl) ?_
                  refine zw_istore (pc := 69) (i := 6) (L2 := [some (.ref (d_ + 1)), some (.int (Int32.ofInt a0_)), some (.int (Int32.ofInt u8_)), some (.int (Int32.ofInt u9_)), some (.int (Int32.ofInt u4_)), some (.int (Int32.ofInt u10_)), some (.int (Int32.ofInt v30_))]) (by decide) rfl (zdal_p dlA_Group_spanOf_37 (i := 12) rfl) ?_
                  refine zw_iload_n (pc := 71) (n := 2) (x := Int32.ofInt u8_) rfl (zdal_p dlA_Group_spanOf_37 (i := 13) rfl) ?_
                  refine zw_iload (pc := 72) (i := 6) (x := Int32.ofInt v30_) rfl (zdal_p dlA_Group_spanOf_37 (i := 14) rfl) ?_
                  refine zr_callS hf_N11_.x (pc := 74) [.int (Int32.ofInt u8_), .int (Int32.ofInt v30_)] [] l_Group_73 (u_T_isInX l d_ N11_ (hf_N11_.w hW) u8_ hu8_a hu8_b v30_ hv30_a hv30_b) rfl rfl (by decide) (Nat.le_of_ble_eq_true rfl) (zdal_p dlA_Group_spanOf_37 (i := 15) rfl) ?_
                  rintro _ N31_ ⟨v32_, rfl, ⟨hv32_a, hv32_b⟩, hsN31_, hp0_N31_⟩
                  obtain rfl := hsN31_.eq.symm
                  replace hp0_N31_ : (v32_ = 0 ∨ v32_ = 1) := hp0_N31_
                  show zW l m_Group_spanOf (zn Mz + 0, zw Mz + 0) N11_ 77 [some (.ref (d_ + 1)), some (.int (Int32.ofInt a0_)), some (.int (Int32.ofInt u8_)), some (.int (Int32.ofInt u9_)), some (.int (Int32.ofInt u4_)), some (.int (Int32.ofInt u10_)), some (.int (Int32.ofInt v30_))] [.int (Int32.ofInt v32_)] _
                  refine zr_if_ne (pc := 77) (tgt := 100) ⟨hv32_a, hv32_b⟩ (by decide) d_Group_spanOf_77 (fun hc_77 => ?_) (fun hc_77 => ?_)
                  · skip
                    refine zr_iinc (pc := 100) (i := 5) (a := u10_) (n := 1) (L2 := [some (.ref (d_ + 1)), some (.int (Int32.ofInt a0_)), some (.int (Int32.ofInt u8_)), some (.int (Int32.ofInt u9_)), some (.int (Int32.ofInt u4_)), some (.int (Int32.ofInt (u10_ + 1))), some (.int (Int32.ofInt v30_))]) rfl (by decide) rfl d_Group_spanOf_100 ?_
                    obtain ⟨v33_, hv33_a, hv33_b, hv33_e, hv33_d⟩ := zk_gen (u10_ + 1)
                    rw [hv33_e]
                    refine zw_goto (pc := 103) (tgt := 32) (by decide) d_Group_spanOf_103 ?_
                    refine zW_le [some (.ref (d_ + 1)), some (.int (Int32.ofInt a0_)), some (.int (Int32.ofInt u8_)), some (.int (Int32.ofInt u9_)), some (.int (Int32.ofInt u4_)), some (.int (Int32.ofInt v33_)), none] (⟨rfl, rfl, rfl, rfl, rfl, rfl, trivial⟩) ?_
                    exact ih_32 u8_ hu8_a hu8_b u9_ hu9_a hu9_b v33_ hv33_a hv33_b N11_ hs12_ (show 0 ≤ v33_ by first | with_reducible assumption | assumption | omega) (by omega)
                  · skip
                    refine zw_iload_n (pc := 80) (n := 2) (x := Int32.ofInt u8_) rfl (zdal_p dlA_Group_spanOf_37 (i := 17) rfl) ?_
                    refine zw_iconst (pc := 81) (v := Int32.ofInt 1) (by decide) (zdal_p dlA_Group_spanOf_37 (i := 18) rfl) ?_
                    refine zw_iload (pc := 82) (i := 6) (x := Int32.ofInt v30_) rfl (zdal_p dlA_Group_spanOf_37 (i := 19) rfl) ?_
                    refine zr_ishl (pc := 84) (zdal_p dlA_Group_spanOf_37 (i := 20) rfl) ?_
                    have hr34_ := zshl_r 1 v30_
                    refine zr_nmI (fun v35_ hv35_ => ?_)
                    obtain ⟨hv35_a, hv35_b⟩ := hv35_
                    refine zr_ior (pc := 85) (zdal_p dlA_Group_spanOf_37 (i := 21) rfl) ?_
                    have hr36_ := zor_r u8_ v35_
                    refine zr_nmI (fun v37_ hv37_ => ?_)
                    obtain ⟨hv37_a, hv37_b⟩ := hv37_
                    refine zw_istore_n (pc := 86) (i := 2) (L2 := [some (.ref (d_ + 1)), some (.int (Int32.ofInt a0_)), some (.int (Int32.ofInt v37_)), some (.int (Int32.ofInt u9_)), some (.int (Int32.ofInt u4_)), some (.int (Int32.ofInt u10_)), some (.int (Int32.ofInt v30_))]) rfl (by decide) rfl (zdal_p dlA_Group_spanOf_37 (i := 22) rfl) ?_
                    refine zw_aload_n (pc := 87) (n := 0) (x := (d_ + 1)) rfl (zdal_p dlA_Group_spanOf_37 (i := 23) rfl) ?_
                    refine zw_getF (pc := 88) f_Group_29 rfl ((hf_N11_.w hW).kr (o := 1) (by decide)) ((hf_N11_.w hW).lr (o := 1) (s := 4) (r := 10) (by decide)) (zdal_p dlA_Group_spanOf_38 (i := 0) rfl) ?_
                    refine zw_iload_n (pc := 91) (n := 3) (x := Int32.ofInt u9_) rfl (zdal_p dlA_Group_spanOf_38 (i := 1) rfl) ?_
                    refine zw_iload (pc := 92) (i := 6) (x := Int32.ofInt v30_) rfl (zdal_p dlA_Group_spanOf_38 (i := 2) rfl) ?_
                    refine zk_stG hf_N11_.x (pc := 94) (o := 11) (by decide) l_Group_46 ((hf_N11_.w hW).kr (o := 10) (by decide)) ((hf_N11_.w hW).lr (o := 10) (s := 0) (r := 11) (by decide)) ((hf_N11_.w hW).rr (o := 11) (t := 1) (n := 24) (by decide)) (by decide) ⟨by omega, by omega⟩ (by decide) (Nat.le_of_ble_eq_true rfl) (zdal_p dlA_Group_spanOf_38 (i := 3) rfl) (fun N38_ hsN38_ => ?_)
                    have hf_N38_ : zFc d_ [] [] [] [11] Mz N38_ := hf_N11_.tr hsN38_ (by decide) (by decide) (by decide) (by decide)
                    have hb0_N38_ : zFc d_ [] [] [] [11] N1_ N38_ := hb0_N11_.tr hsN38_ (by decide) (by decide) (by decide) (by decide)
                    have hb1_N38_ : zFc d_ [] [] [] [11] N5_ N38_ := hs12_.tr hsN38_ (by decide) (by decide) (by decide) (by decide)
                    refine zr_iinc (pc := 97) (i := 3) (a := u9_) (n := 1) (L2 := [some (.ref (d_ + 1)), some (.int (Int32.ofInt a0_)), some (.int (Int32.ofInt v37_)), some (.int (Int32.ofInt (u9_ + 1))), some (.int (Int32.ofInt u4_)), some (.int (Int32.ofInt u10_)), some (.int (Int32.ofInt v30_))]) rfl (by decide) rfl (zdal_p dlA_Group_spanOf_38 (i := 4) rfl) ?_
                    obtain ⟨v39_, hv39_a, hv39_b, hv39_e, hv39_d⟩ := zk_gen (u9_ + 1)
                    rw [hv39_e]
                    refine zr_iinc (pc := 100) (i := 5) (a := u10_) (n := 1) (L2 := [some (.ref (d_ + 1)), some (.int (Int32.ofInt a0_)), some (.int (Int32.ofInt v37_)), some (.int (Int32.ofInt v39_)), some (.int (Int32.ofInt u4_)), some (.int (Int32.ofInt (u10_ + 1))), some (.int (Int32.ofInt v30_))]) rfl (by decide) rfl d_Group_spanOf_100 ?_
                    obtain ⟨v40_, hv40_a, hv40_b, hv40_e, hv40_d⟩ := zk_gen (u10_ + 1)
                    rw [hv40_e]
                    refine zw_goto (pc := 103) (tgt := 32) (by decide) d_Group_spanOf_103 ?_
                    refine zW_le [some (.ref (d_ + 1)), some (.int (Int32.ofInt a0_)), some (.int (Int32.ofInt v37_)), some (.int (Int32.ofInt v39_)), some (.int (Int32.ofInt u4_)), some (.int (Int32.ofInt v40_)), none] (⟨rfl, rfl, rfl, rfl, rfl, rfl, trivial⟩) ?_
                    exact ih_32 v37_ hv37_a hv37_b v39_ hv39_a hv39_b v40_ hv40_a hv40_b N38_ hb1_N38_ (show 0 ≤ v40_ by first | with_reducible assumption | assumption | omega) (by omega)
          exact lp_32 _ u2_ hu2_a hu2_b u3_ hu3_a hu3_b 0 (by decide) (by decide) N5_ zFc.rf (show 0 ≤ (0 : Int) by first | with_reducible assumption | assumption | omega) (Nat.lt_succ_self _)
  exact lp_16 _ 1 (by decide) (by decide) 1 (by decide) (by decide) 0 (by decide) (by decide) N1_ zFc.rf (show 0 ≤ (0 : Int) by first | with_reducible assumption | assumption | omega) (Nat.lt_succ_self _)
set_option maxHeartbeats 4000000 in
theorem u_Group_hasMembersX (l : Launch) (d_ : Nat) (Mz : zMem) (hW : zKW d_ Mz) (a0_ : Int) (ha0_a : -2147483648 ≤ a0_) (ha0_b : a0_ < 2147483648) : zC l m_Group_hasMembers 0 0 [.ref (d_ + 1), .int (Int32.ofInt a0_)] Mz (zqcI d_ [] [] [] [] Mz (fun v N => ((v = 0 ∨ v = 1)))) := by
  refine zC_of (L0 := [some (.ref (d_ + 1)), some (.int (Int32.ofInt a0_))]) md_Group_hasMembers (Nat.le_of_ble_eq_true rfl) rfl ?_ zQ0
  have hf : zFc d_ [] [] [] [] Mz Mz := zFc.rf
  refine zw_iload_n (pc := 0) (n := 1) (x := Int32.ofInt a0_) rfl (zdal_p dlB_Group_hasMembers_11 (i := 0) rfl) ?_
  refine zw_aload_n (pc := 1) (n := 0) (x := (d_ + 1)) rfl (zdal_p dlB_Group_hasMembers_11 (i := 1) rfl) ?_
  refine zk_getI (pc := 2) f_Group_39 rfl ((hf.w hW).kr (o := 1) (by decide)) (zdal_p dlB_Group_hasMembers_11 (i := 2) rfl) ?_
  have hr1_ := ze_r Mz (d_ + 1) 7
  refine zr_iushr (pc := 5) (zdal_p dlB_Group_hasMembers_11 (i := 3) rfl) ?_
  refine zr_nmI (fun v2_ hv2_ => ?_)
  obtain ⟨hv2_a, hv2_b⟩ := hv2_
  refine zr_if_ne (pc := 6) (tgt := 13) ⟨hv2_a, hv2_b⟩ (by decide) (zdal_p dlB_Group_hasMembers_11 (i := 4) rfl) (fun hc_6 => ?_) (fun hc_6 => ?_)
  · skip
    refine zw_iconst (pc := 13) (v := Int32.ofInt 0) (by decide) (zdal_p dlB_Group_hasMembers_11 (i := 7) rfl) ?_
    exact zk_iret (pc := 14) (ty := .boolean) rfl (z_narB (by omega)) ⟨by omega, by omega⟩ hf (show (((0 : Int)) = 0 ∨ ((0 : Int)) = 1) by first | with_reducible assumption | assumption | omega) (zdal_p dlB_Group_hasMembers_11 (i := 8) rfl)
  · skip
    refine zw_iconst (pc := 9) (v := Int32.ofInt 1) (by decide) (zdal_p dlB_Group_hasMembers_11 (i := 5) rfl) ?_
    refine zw_goto (pc := 10) (tgt := 14) (by decide) (zdal_p dlB_Group_hasMembers_11 (i := 6) rfl) ?_
    exact zk_iret (pc := 14) (ty := .boolean) rfl (z_narB (by omega)) ⟨by omega, by omega⟩ hf (show (((1 : Int)) = 0 ∨ ((1 : Int)) = 1) by first | with_reducible assumption | assumption | omega) (zdal_p dlB_Group_hasMembers_11 (i := 8) rfl)
set_option maxHeartbeats 4000000 in
theorem u_T_makesOfX (l : Launch) (d_ : Nat) (Mz : zMem) (hW : zKW d_ Mz) (hnow : zf Mz 0 2 = some (d_ + 0)) (a0_ : Int) (ha0_a : -2147483648 ≤ a0_) (ha0_b : a0_ < 2147483648) : zC l m_T_makesOf 0 0 [.ref 0, .int (Int32.ofInt a0_)] Mz (zqcI d_ [] [] [] [11] Mz (fun v N => True)) := by
  refine zC_of (L0 := [some (.ref 0), some (.int (Int32.ofInt a0_))]) md_T_makesOf (Nat.le_of_ble_eq_true rfl) rfl ?_ zQ0
  have hf : zFc d_ [] [] [] [11] Mz Mz := zFc.rf
  refine zw_aload_n (pc := 0) (n := 0) (x := 0) rfl (zdal_p dlB_T_makesOf_10 (i := 0) rfl) ?_
  refine zw_getF (pc := 1) f_T_28 rfl ((hf.w hW).ka (o := 0) (by decide)) (hf.now hnow) (zdal_p dlB_T_makesOf_10 (i := 1) rfl) ?_
  refine zw_getF (pc := 4) f_T_61 rfl ((hf.w hW).kr (o := 0) (by decide)) ((hf.w hW).lr (o := 0) (s := 0) (r := 1) (by decide)) (zdal_p dlB_T_makesOf_10 (i := 2) rfl) ?_
  refine zw_iload_n (pc := 7) (n := 1) (x := Int32.ofInt a0_) rfl (zdal_p dlB_T_makesOf_10 (i := 3) rfl) ?_
  refine zk_callV hf.x (pc := 8) [.int (Int32.ofInt a0_)] [] l_T_134 (u_Group_hasMembersX l d_ Mz (hf.w hW) a0_ ha0_a ha0_b) rfl rfl ((hf.w hW).kr (o := 1) (by decide)) (by decide) (by decide) (Nat.le_of_ble_eq_true rfl) (zdal_p dlB_T_makesOf_10 (i := 4) rfl) ?_
  rintro _ N1_ ⟨v2_, rfl, ⟨hv2_a, hv2_b⟩, hsN1_, hp0_N1_⟩
  obtain rfl := hsN1_.eq.symm
  replace hp0_N1_ : (v2_ = 0 ∨ v2_ = 1) := hp0_N1_
  show zW l m_T_makesOf (zn Mz + 0, zw Mz + 0) Mz 11 [some (.ref 0), some (.int (Int32.ofInt a0_))] [.int (Int32.ofInt v2_)] _
  refine zr_if_eq (pc := 11) (tgt := 28) ⟨hv2_a, hv2_b⟩ (by decide) (zdal_p dlB_T_makesOf_10 (i := 5) rfl) (fun hc_11 => ?_) (fun hc_11 => ?_)
  · skip
    refine zw_iconst (pc := 28) (v := Int32.ofInt (-1)) (by decide) (zdal_p dlB_T_makesOf_10 (i := 12) rfl) ?_
    exact zk_iret (pc := 29) (ty := .int) rfl rfl ⟨by omega, by omega⟩ hf trivial (zdal_p dlB_T_makesOf_10 (i := 13) rfl)
  · skip
    refine zw_aload_n (pc := 14) (n := 0) (x := 0) rfl (zdal_p dlB_T_makesOf_10 (i := 6) rfl) ?_
    refine zw_getF (pc := 15) f_T_28 rfl ((hf.w hW).ka (o := 0) (by decide)) (hf.now hnow) (zdal_p dlB_T_makesOf_10 (i := 7) rfl) ?_
    refine zw_getF (pc := 18) f_T_61 rfl ((hf.w hW).kr (o := 0) (by decide)) ((hf.w hW).lr (o := 0) (s := 0) (r := 1) (by decide)) (zdal_p dlB_T_makesOf_10 (i := 8) rfl) ?_
    refine zw_iload_n (pc := 21) (n := 1) (x := Int32.ofInt a0_) rfl (zdal_p dlB_T_makesOf_10 (i := 9) rfl) ?_
    refine zk_callV hf.x (pc := 22) [.int (Int32.ofInt a0_)] [] l_T_137 (u_Group_spanOfX l d_ Mz (hf.w hW) a0_ ha0_a ha0_b) rfl rfl ((hf.w hW).kr (o := 1) (by decide)) (by decide) (by decide) (Nat.le_of_ble_eq_true rfl) (zdal_p dlB_T_makesOf_10 (i := 10) rfl) ?_
    rintro _ N3_ ⟨v4_, rfl, ⟨hv4_a, hv4_b⟩, hsN3_, -⟩
    have hf_N3_ : zFc d_ [] [] [] [11] Mz N3_ := hf.tr hsN3_ (by decide) (by decide) (by decide) (by decide)
    show zW l m_T_makesOf (zn Mz + 0, zw Mz + 0) N3_ 25 [some (.ref 0), some (.int (Int32.ofInt a0_))] [.int (Int32.ofInt v4_)] _
    refine zw_goto (pc := 25) (tgt := 29) (by decide) (zdal_p dlB_T_makesOf_10 (i := 11) rfl) ?_
    exact zk_iret (pc := 29) (ty := .int) rfl rfl ⟨by omega, by omega⟩ hf_N3_ trivial (zdal_p dlB_T_makesOf_10 (i := 13) rfl)
set_option maxHeartbeats 4000000 in
theorem u_Sorts_indexOfX (l : Launch) (d_ : Nat) (Mz : zMem) (hW : zKW d_ Mz) (a0_ : Int) (ha0_a : -2147483648 ≤ a0_) (ha0_b : a0_ < 2147483648) : zC l m_Sorts_indexOf 0 0 [.ref (d_ + 12), .int (Int32.ofInt a0_)] Mz (zqcI d_ [] [] [] [] Mz (fun v N => True)) := by
  refine zC_of (L0 := [some (.ref (d_ + 12)), some (.int (Int32.ofInt a0_)), none]) md_Sorts_indexOf (Nat.le_of_ble_eq_true rfl) rfl ?_ zQ0
  have hf : zFc d_ [] [] [] [] Mz Mz := zFc.rf
  refine zw_iconst (pc := 0) (v := Int32.ofInt 0) (by decide) (zdal_p dlA_Sorts_indexOf_41 (i := 0) rfl) ?_
  refine zw_istore_n (pc := 1) (i := 2) (L2 := [some (.ref (d_ + 12)), some (.int (Int32.ofInt a0_)), some (.int (Int32.ofInt 0))]) rfl (by decide) rfl (zdal_p dlA_Sorts_indexOf_41 (i := 1) rfl) ?_
  have lp_2 : ∀ (n : Nat) (u1_ : Int) (hu1_a : -2147483648 ≤ u1_) (hu1_b : u1_ < 2147483648) (i2_ : 0 ≤ u1_), (ze Mz (d_ + 12) 6 - u1_).toNat < n → zW l m_Sorts_indexOf (zn Mz + 0, zw Mz + 0) Mz 2 [some (.ref (d_ + 12)), some (.int (Int32.ofInt a0_)), some (.int (Int32.ofInt u1_))] [] (zqcI d_ [] [] [] [] Mz (fun v N => True)) := by
    intro n
    induction n with
    | zero =>
      intro u1_ hu1_a hu1_b i2_ h0
      exact absurd h0 (Nat.not_lt_zero _)
    | succ n ih_2 =>
      intro u1_ hu1_a hu1_b i2_ hlt_2
      refine zw_iload_n (pc := 2) (n := 2) (x := Int32.ofInt u1_) rfl (zdal_p dlA_Sorts_indexOf_41 (i := 2) rfl) ?_
      refine zw_aload_n (pc := 3) (n := 0) (x := (d_ + 12)) rfl (zdal_p dlA_Sorts_indexOf_41 (i := 3) rfl) ?_
      refine zk_getI (pc := 4) f_Sorts_36 rfl ((hf.w hW).kr (o := 12) (by decide)) (zdal_p dlA_Sorts_indexOf_41 (i := 4) rfl) ?_
      have hr3_ := ze_r Mz (d_ + 12) 6
      refine zr_icmp_ge (pc := 7) (tgt := 30) ⟨hu1_a, hu1_b⟩ ⟨(ze_r Mz (d_ + 12) 6).1, (ze_r Mz (d_ + 12) 6).2⟩ (by decide) (zdal_p dlA_Sorts_indexOf_41 (i := 5) rfl) (fun hc_7 => ?_) (fun hc_7 => ?_)
      · skip
        refine zw_iconst (pc := 30) (v := Int32.ofInt (-1)) (by decide) (zdal_p dlA_Sorts_indexOf_41 (i := 16) rfl) ?_
        exact zk_iret (pc := 31) (ty := .int) rfl rfl ⟨by omega, by omega⟩ hf trivial (zdal_p dlA_Sorts_indexOf_41 (i := 17) rfl)
      · skip
        refine zw_aload_n (pc := 10) (n := 0) (x := (d_ + 12)) rfl (zdal_p dlA_Sorts_indexOf_41 (i := 6) rfl) ?_
        refine zw_getF (pc := 11) f_Sorts_14 rfl ((hf.w hW).kr (o := 12) (by decide)) ((hf.w hW).lr (o := 12) (s := 1) (r := 13) (by decide)) (zdal_p dlA_Sorts_indexOf_41 (i := 7) rfl) ?_
        refine zw_iload_n (pc := 14) (n := 2) (x := Int32.ofInt u1_) rfl (zdal_p dlA_Sorts_indexOf_41 (i := 8) rfl) ?_
        refine zk_atG hf.x (pc := 15) l_Sorts_49 ((hf.w hW).kr (o := 13) (by decide)) ((hf.w hW).lr (o := 13) (s := 0) (r := 14) (by decide)) ((hf.w hW).rr (o := 14) (t := 1) (n := 35) (by decide)) (by decide) ⟨by omega, by omega⟩ (by decide) (Nat.le_of_ble_eq_true rfl) (zdal_p dlA_Sorts_indexOf_41 (i := 9) rfl) (fun v4_ hv4_ hv4_a hv4_b => ?_)
        clear hv4_
        refine zw_iload_n (pc := 18) (n := 1) (x := Int32.ofInt a0_) rfl (zdal_p dlA_Sorts_indexOf_41 (i := 10) rfl) ?_
        refine zr_icmp_ne (pc := 19) (tgt := 24) ⟨hv4_a, hv4_b⟩ ⟨ha0_a, ha0_b⟩ (by decide) (zdal_p dlA_Sorts_indexOf_41 (i := 11) rfl) (fun hc_19 => ?_) (fun hc_19 => ?_)
        · skip
          refine zr_iinc (pc := 24) (i := 2) (a := u1_) (n := 1) (L2 := [some (.ref (d_ + 12)), some (.int (Int32.ofInt a0_)), some (.int (Int32.ofInt (u1_ + 1)))]) rfl (by decide) rfl (zdal_p dlA_Sorts_indexOf_41 (i := 14) rfl) ?_
          obtain ⟨v5_, hv5_a, hv5_b, hv5_e, hv5_d⟩ := zk_gen (u1_ + 1)
          rw [hv5_e]
          refine zw_goto (pc := 27) (tgt := 2) (by decide) (zdal_p dlA_Sorts_indexOf_41 (i := 15) rfl) ?_
          exact ih_2 v5_ hv5_a hv5_b (show 0 ≤ v5_ by first | with_reducible assumption | assumption | omega) (by omega)
        · skip
          refine zw_iload_n (pc := 22) (n := 2) (x := Int32.ofInt u1_) rfl (zdal_p dlA_Sorts_indexOf_41 (i := 12) rfl) ?_
          exact zk_iret (pc := 23) (ty := .int) rfl rfl ⟨by omega, by omega⟩ hf trivial (zdal_p dlA_Sorts_indexOf_41 (i := 13) rfl)
  exact lp_2 _ 0 (by decide) (by decide) (show 0 ≤ (0 : Int) by first | with_reducible assumption | assumption | omega) (Nat.lt_succ_self _)
set_option maxHeartbeats 4000000 in
theorem u_Sorts_spannedSortX (l : Launch) (d_ : Nat) (Mz : zMem) (hW : zKW d_ Mz) (a0_ : Int) (ha0_a : -2147483648 ≤ a0_) (ha0_b : a0_ < 2147483648) : zC l m_Sorts_spannedSort 0 0 [.ref (d_ + 12), .int (Int32.ofInt a0_)] Mz (zqcI d_ [] [] [] [11] Mz (fun v N => True)) := by
  refine zC_of (L0 := [some (.ref (d_ + 12)), some (.int (Int32.ofInt a0_))]) md_Sorts_spannedSort (Nat.le_of_ble_eq_true rfl) rfl ?_ zQ0
  have hf : zFc d_ [] [] [] [11] Mz Mz := zFc.rf
  refine zw_aload_n (pc := 0) (n := 0) (x := (d_ + 12)) rfl (zdal_p dlB_Sorts_spannedSort_13 (i := 0) rfl) ?_
  refine zw_getF (pc := 1) f_Sorts_20 rfl ((hf.w hW).kr (o := 12) (by decide)) ((hf.w hW).lr (o := 12) (s := 2) (r := 15) (by decide)) (zdal_p dlB_Sorts_spannedSort_13 (i := 1) rfl) ?_
  refine zw_aload_n (pc := 4) (n := 0) (x := (d_ + 12)) rfl (zdal_p dlB_Sorts_spannedSort_13 (i := 2) rfl) ?_
  refine zw_aload_n (pc := 5) (n := 0) (x := (d_ + 12)) rfl (zdal_p dlB_Sorts_spannedSort_13 (i := 3) rfl) ?_
  refine zw_getF (pc := 6) f_Sorts_32 rfl ((hf.w hW).kr (o := 12) (by decide)) ((hf.w hW).lr (o := 12) (s := 0) (r := 1) (by decide)) (zdal_p dlB_Sorts_spannedSort_13 (i := 4) rfl) ?_
  refine zw_iload_n (pc := 9) (n := 1) (x := Int32.ofInt a0_) rfl (zdal_p dlB_Sorts_spannedSort_13 (i := 5) rfl) ?_
  refine zk_callV hf.x (pc := 10) [.int (Int32.ofInt a0_)] [.ref (d_ + 12), .ref (d_ + 15)] l_Sorts_57 (u_Group_spanOfX l d_ Mz (hf.w hW) a0_ ha0_a ha0_b) rfl rfl ((hf.w hW).kr (o := 1) (by decide)) (by decide) (by decide) (Nat.le_of_ble_eq_true rfl) (zdal_p dlB_Sorts_spannedSort_13 (i := 6) rfl) ?_
  rintro _ N1_ ⟨v2_, rfl, ⟨hv2_a, hv2_b⟩, hsN1_, -⟩
  have hf_N1_ : zFc d_ [] [] [] [11] Mz N1_ := hf.tr hsN1_ (by decide) (by decide) (by decide) (by decide)
  show zW l m_Sorts_spannedSort (zn Mz + 0, zw Mz + 0) N1_ 13 [some (.ref (d_ + 12)), some (.int (Int32.ofInt a0_))] [.int (Int32.ofInt v2_), .ref (d_ + 12), .ref (d_ + 15)] _
  refine zk_callV hf_N1_.x (pc := 13) [.int (Int32.ofInt v2_)] [.ref (d_ + 15)] l_Sorts_72 (u_Sorts_indexOfX l d_ N1_ (hf_N1_.w hW) v2_ hv2_a hv2_b) rfl rfl ((hf_N1_.w hW).kr (o := 12) (by decide)) (by decide) (by decide) (Nat.le_of_ble_eq_true rfl) (zdal_p dlB_Sorts_spannedSort_13 (i := 7) rfl) ?_
  rintro _ N3_ ⟨v4_, rfl, ⟨hv4_a, hv4_b⟩, hsN3_, -⟩
  obtain rfl := hsN3_.eq.symm
  show zW l m_Sorts_spannedSort (zn Mz + 0, zw Mz + 0) N1_ 16 [some (.ref (d_ + 12)), some (.int (Int32.ofInt a0_))] [.int (Int32.ofInt v4_), .ref (d_ + 15)] _
  refine zk_atG hf_N1_.x (pc := 16) l_Sorts_49 ((hf_N1_.w hW).kr (o := 15) (by decide)) ((hf_N1_.w hW).lr (o := 15) (s := 0) (r := 16) (by decide)) ((hf_N1_.w hW).rr (o := 16) (t := 1) (n := 35) (by decide)) (by decide) ⟨by omega, by omega⟩ (by decide) (Nat.le_of_ble_eq_true rfl) (zdal_p dlB_Sorts_spannedSort_13 (i := 8) rfl) (fun v5_ hv5_ hv5_a hv5_b => ?_)
  clear hv5_
  exact zk_iret (pc := 19) (ty := .int) rfl rfl ⟨by omega, by omega⟩ hf_N1_ trivial (zdal_p dlB_Sorts_spannedSort_13 (i := 9) rfl)
set_option maxHeartbeats 4000000 in
theorem u_T_sortOfX (l : Launch) (d_ : Nat) (Mz : zMem) (hW : zKW d_ Mz) (hnow : zf Mz 0 2 = some (d_ + 0)) (a0_ : Int) (ha0_a : -2147483648 ≤ a0_) (ha0_b : a0_ < 2147483648) : zC l m_T_sortOf 0 0 [.ref 0, .int (Int32.ofInt a0_)] Mz (zqcI d_ [] [] [] [11] Mz (fun v N => True)) := by
  refine zC_of (L0 := [some (.ref 0), some (.int (Int32.ofInt a0_))]) md_T_sortOf (Nat.le_of_ble_eq_true rfl) rfl ?_ zQ0
  have hf : zFc d_ [] [] [] [11] Mz Mz := zFc.rf
  refine zw_aload_n (pc := 0) (n := 0) (x := 0) rfl (zdal_p dlB_T_sortOf_12 (i := 0) rfl) ?_
  refine zw_getF (pc := 1) f_T_28 rfl ((hf.w hW).ka (o := 0) (by decide)) (hf.now hnow) (zdal_p dlB_T_sortOf_12 (i := 1) rfl) ?_
  refine zw_getF (pc := 4) f_T_61 rfl ((hf.w hW).kr (o := 0) (by decide)) ((hf.w hW).lr (o := 0) (s := 0) (r := 1) (by decide)) (zdal_p dlB_T_sortOf_12 (i := 2) rfl) ?_
  refine zw_iload_n (pc := 7) (n := 1) (x := Int32.ofInt a0_) rfl (zdal_p dlB_T_sortOf_12 (i := 3) rfl) ?_
  refine zk_callV hf.x (pc := 8) [.int (Int32.ofInt a0_)] [] l_T_134 (u_Group_hasMembersX l d_ Mz (hf.w hW) a0_ ha0_a ha0_b) rfl rfl ((hf.w hW).kr (o := 1) (by decide)) (by decide) (by decide) (Nat.le_of_ble_eq_true rfl) (zdal_p dlB_T_sortOf_12 (i := 4) rfl) ?_
  rintro _ N1_ ⟨v2_, rfl, ⟨hv2_a, hv2_b⟩, hsN1_, hp0_N1_⟩
  obtain rfl := hsN1_.eq.symm
  replace hp0_N1_ : (v2_ = 0 ∨ v2_ = 1) := hp0_N1_
  show zW l m_T_sortOf (zn Mz + 0, zw Mz + 0) Mz 11 [some (.ref 0), some (.int (Int32.ofInt a0_))] [.int (Int32.ofInt v2_)] _
  refine zr_if_eq (pc := 11) (tgt := 28) ⟨hv2_a, hv2_b⟩ (by decide) (zdal_p dlB_T_sortOf_12 (i := 5) rfl) (fun hc_11 => ?_) (fun hc_11 => ?_)
  · skip
    refine zw_iconst (pc := 28) (v := Int32.ofInt (-1)) (by decide) (zdal_p dlB_T_sortOf_12 (i := 12) rfl) ?_
    exact zk_iret (pc := 29) (ty := .int) rfl rfl ⟨by omega, by omega⟩ hf trivial (zdal_p dlB_T_sortOf_12 (i := 13) rfl)
  · skip
    refine zw_aload_n (pc := 14) (n := 0) (x := 0) rfl (zdal_p dlB_T_sortOf_12 (i := 6) rfl) ?_
    refine zw_getF (pc := 15) f_T_28 rfl ((hf.w hW).ka (o := 0) (by decide)) (hf.now hnow) (zdal_p dlB_T_sortOf_12 (i := 7) rfl) ?_
    refine zw_getF (pc := 18) f_T_85 rfl ((hf.w hW).kr (o := 0) (by decide)) ((hf.w hW).lr (o := 0) (s := 1) (r := 12) (by decide)) (zdal_p dlB_T_sortOf_12 (i := 8) rfl) ?_
    refine zw_iload_n (pc := 21) (n := 1) (x := Int32.ofInt a0_) rfl (zdal_p dlB_T_sortOf_12 (i := 9) rfl) ?_
    refine zk_callV hf.x (pc := 22) [.int (Int32.ofInt a0_)] [] l_T_140 (u_Sorts_spannedSortX l d_ Mz (hf.w hW) a0_ ha0_a ha0_b) rfl rfl ((hf.w hW).kr (o := 12) (by decide)) (by decide) (by decide) (Nat.le_of_ble_eq_true rfl) (zdal_p dlB_T_sortOf_12 (i := 10) rfl) ?_
    rintro _ N3_ ⟨v4_, rfl, ⟨hv4_a, hv4_b⟩, hsN3_, -⟩
    have hf_N3_ : zFc d_ [] [] [] [11] Mz N3_ := hf.tr hsN3_ (by decide) (by decide) (by decide) (by decide)
    show zW l m_T_sortOf (zn Mz + 0, zw Mz + 0) N3_ 25 [some (.ref 0), some (.int (Int32.ofInt a0_))] [.int (Int32.ofInt v4_)] _
    refine zw_goto (pc := 25) (tgt := 29) (by decide) (zdal_p dlB_T_sortOf_12 (i := 11) rfl) ?_
    exact zk_iret (pc := 29) (ty := .int) rfl rfl ⟨by omega, by omega⟩ hf_N3_ trivial (zdal_p dlB_T_sortOf_12 (i := 13) rfl)
set_option maxHeartbeats 4000000 in
theorem u_Sorts_hasSortX (l : Launch) (d_ : Nat) (Mz : zMem) (hW : zKW d_ Mz) (a0_ : Int) (ha0_a : -2147483648 ≤ a0_) (ha0_b : a0_ < 2147483648) : zC l m_Sorts_hasSort 0 0 [.ref (d_ + 12), .int (Int32.ofInt a0_)] Mz (zqcI d_ [] [] [] [] Mz (fun v N => ((v = 0 ∨ v = 1)))) := by
  refine zC_of (L0 := [some (.ref (d_ + 12)), some (.int (Int32.ofInt a0_))]) md_Sorts_hasSort (Nat.le_of_ble_eq_true rfl) rfl ?_ zQ0
  have hf : zFc d_ [] [] [] [] Mz Mz := zFc.rf
  refine zw_iload_n (pc := 0) (n := 1) (x := Int32.ofInt a0_) rfl (zdal_p dlB_Sorts_hasSort_17 (i := 0) rfl) ?_
  refine zr_if_lt (pc := 1) (tgt := 16) ⟨ha0_a, ha0_b⟩ (by decide) (zdal_p dlB_Sorts_hasSort_17 (i := 1) rfl) (fun hc_1 => ?_) (fun hc_1 => ?_)
  · skip
    refine zw_iconst (pc := 16) (v := Int32.ofInt 0) (by decide) (zdal_p dlB_Sorts_hasSort_17 (i := 8) rfl) ?_
    exact zk_iret (pc := 17) (ty := .boolean) rfl (z_narB (by omega)) ⟨by omega, by omega⟩ hf (show (((0 : Int)) = 0 ∨ ((0 : Int)) = 1) by first | with_reducible assumption | assumption | omega) d_Sorts_hasSort_17
  · skip
    refine zw_iload_n (pc := 4) (n := 1) (x := Int32.ofInt a0_) rfl (zdal_p dlB_Sorts_hasSort_17 (i := 2) rfl) ?_
    refine zw_aload_n (pc := 5) (n := 0) (x := (d_ + 12)) rfl (zdal_p dlB_Sorts_hasSort_17 (i := 3) rfl) ?_
    refine zk_getI (pc := 6) f_Sorts_83 rfl ((hf.w hW).kr (o := 12) (by decide)) (zdal_p dlB_Sorts_hasSort_17 (i := 4) rfl) ?_
    have hr1_ := ze_r Mz (d_ + 12) 7
    refine zr_icmp_ge (pc := 9) (tgt := 16) ⟨ha0_a, ha0_b⟩ ⟨(ze_r Mz (d_ + 12) 7).1, (ze_r Mz (d_ + 12) 7).2⟩ (by decide) (zdal_p dlB_Sorts_hasSort_17 (i := 5) rfl) (fun hc_9 => ?_) (fun hc_9 => ?_)
    · skip
      refine zw_iconst (pc := 16) (v := Int32.ofInt 0) (by decide) (zdal_p dlB_Sorts_hasSort_17 (i := 8) rfl) ?_
      exact zk_iret (pc := 17) (ty := .boolean) rfl (z_narB (by omega)) ⟨by omega, by omega⟩ hf (show (((0 : Int)) = 0 ∨ ((0 : Int)) = 1) by first | with_reducible assumption | assumption | omega) d_Sorts_hasSort_17
    · skip
      refine zw_iconst (pc := 12) (v := Int32.ofInt 1) (by decide) (zdal_p dlB_Sorts_hasSort_17 (i := 6) rfl) ?_
      refine zw_goto (pc := 13) (tgt := 17) (by decide) (zdal_p dlB_Sorts_hasSort_17 (i := 7) rfl) ?_
      exact zk_iret (pc := 17) (ty := .boolean) rfl (z_narB (by omega)) ⟨by omega, by omega⟩ hf (show (((1 : Int)) = 0 ∨ ((1 : Int)) = 1) by first | with_reducible assumption | assumption | omega) d_Sorts_hasSort_17
set_option maxHeartbeats 4000000 in
theorem u_Sorts_countWithinX (l : Launch) (d_ : Nat) (Mz : zMem) (hW : zKW d_ Mz) (a0_ : Int) (ha0_a : -2147483648 ≤ a0_) (ha0_b : a0_ < 2147483648) (a1_ : Int) (ha1_a : -2147483648 ≤ a1_) (ha1_b : a1_ < 2147483648) : zC l m_Sorts_countWithin 0 0 [.ref (d_ + 12), .int (Int32.ofInt a0_), .int (Int32.ofInt a1_)] Mz (zqcI d_ [] [] [] [] Mz (fun v N => True)) := by
  refine zC_of (L0 := [some (.ref (d_ + 12)), some (.int (Int32.ofInt a0_)), some (.int (Int32.ofInt a1_)), none, none]) md_Sorts_countWithin (Nat.le_of_ble_eq_true rfl) rfl ?_ zQ0
  have hf : zFc d_ [] [] [] [] Mz Mz := zFc.rf
  refine zw_iconst (pc := 0) (v := Int32.ofInt 0) (by decide) (zdal_p dlB_Sorts_countWithin_19 (i := 0) rfl) ?_
  refine zw_istore_n (pc := 1) (i := 3) (L2 := [some (.ref (d_ + 12)), some (.int (Int32.ofInt a0_)), some (.int (Int32.ofInt a1_)), some (.int (Int32.ofInt 0)), none]) rfl (by decide) rfl (zdal_p dlB_Sorts_countWithin_19 (i := 1) rfl) ?_
  refine zw_iconst (pc := 2) (v := Int32.ofInt 0) (by decide) (zdal_p dlB_Sorts_countWithin_19 (i := 2) rfl) ?_
  refine zw_istore (pc := 3) (i := 4) (L2 := [some (.ref (d_ + 12)), some (.int (Int32.ofInt a0_)), some (.int (Int32.ofInt a1_)), some (.int (Int32.ofInt 0)), some (.int (Int32.ofInt 0))]) (by decide) rfl (zdal_p dlB_Sorts_countWithin_19 (i := 3) rfl) ?_
  have lp_5 : ∀ (n : Nat) (u1_ : Int) (hu1_a : -2147483648 ≤ u1_) (hu1_b : u1_ < 2147483648) (u2_ : Int) (hu2_a : -2147483648 ≤ u2_) (hu2_b : u2_ < 2147483648) (i3_ : 0 ≤ u2_), (ze Mz (d_ + 12) 6 - u2_).toNat < n → zW l m_Sorts_countWithin (zn Mz + 0, zw Mz + 0) Mz 5 [some (.ref (d_ + 12)), some (.int (Int32.ofInt a0_)), some (.int (Int32.ofInt a1_)), some (.int (Int32.ofInt u1_)), some (.int (Int32.ofInt u2_))] [] (zqcI d_ [] [] [] [] Mz (fun v N => True)) := by
    intro n
    induction n with
    | zero =>
      intro u1_ hu1_a hu1_b u2_ hu2_a hu2_b i3_ h0
      exact absurd h0 (Nat.not_lt_zero _)
    | succ n ih_5 =>
      intro u1_ hu1_a hu1_b u2_ hu2_a hu2_b i3_ hlt_5
      refine zw_iload (pc := 5) (i := 4) (x := Int32.ofInt u2_) rfl (zdal_p dlB_Sorts_countWithin_19 (i := 4) rfl) ?_
      refine zw_aload_n (pc := 7) (n := 0) (x := (d_ + 12)) rfl (zdal_p dlB_Sorts_countWithin_19 (i := 5) rfl) ?_
      refine zk_getI (pc := 8) f_Sorts_36 rfl ((hf.w hW).kr (o := 12) (by decide)) (zdal_p dlB_Sorts_countWithin_19 (i := 6) rfl) ?_
      have hr4_ := ze_r Mz (d_ + 12) 6
      refine zr_icmp_ge (pc := 11) (tgt := 59) ⟨hu2_a, hu2_b⟩ ⟨(ze_r Mz (d_ + 12) 6).1, (ze_r Mz (d_ + 12) 6).2⟩ (by decide) (zdal_p dlB_Sorts_countWithin_19 (i := 7) rfl) (fun hc_11 => ?_) (fun hc_11 => ?_)
      · skip
        refine zw_iload_n (pc := 59) (n := 3) (x := Int32.ofInt u1_) rfl (zdal_p dlB_Sorts_countWithin_20 (i := 3) rfl) ?_
        exact zk_iret (pc := 60) (ty := .int) rfl rfl ⟨by omega, by omega⟩ hf trivial (zdal_p dlB_Sorts_countWithin_20 (i := 4) rfl)
      · skip
        refine zw_aload_n (pc := 14) (n := 0) (x := (d_ + 12)) rfl (zdal_p dlB_Sorts_countWithin_19 (i := 8) rfl) ?_
        refine zw_getF (pc := 15) f_Sorts_20 rfl ((hf.w hW).kr (o := 12) (by decide)) ((hf.w hW).lr (o := 12) (s := 2) (r := 15) (by decide)) (zdal_p dlB_Sorts_countWithin_19 (i := 9) rfl) ?_
        refine zw_iload (pc := 18) (i := 4) (x := Int32.ofInt u2_) rfl (zdal_p dlB_Sorts_countWithin_19 (i := 10) rfl) ?_
        refine zk_atG hf.x (pc := 20) l_Sorts_49 ((hf.w hW).kr (o := 15) (by decide)) ((hf.w hW).lr (o := 15) (s := 0) (r := 16) (by decide)) ((hf.w hW).rr (o := 16) (t := 1) (n := 35) (by decide)) (by decide) ⟨by omega, by omega⟩ (by decide) (Nat.le_of_ble_eq_true rfl) (zdal_p dlB_Sorts_countWithin_19 (i := 11) rfl) (fun v5_ hv5_ hv5_a hv5_b => ?_)
        clear hv5_
        refine zw_iload_n (pc := 23) (n := 1) (x := Int32.ofInt a0_) rfl (zdal_p dlB_Sorts_countWithin_19 (i := 12) rfl) ?_
        refine zr_icmp_ne (pc := 24) (tgt := 53) ⟨hv5_a, hv5_b⟩ ⟨ha0_a, ha0_b⟩ (by decide) (zdal_p dlB_Sorts_countWithin_19 (i := 13) rfl) (fun hc_24 => ?_) (fun hc_24 => ?_)
        · skip
          refine zr_iinc (pc := 53) (i := 4) (a := u2_) (n := 1) (L2 := [some (.ref (d_ + 12)), some (.int (Int32.ofInt a0_)), some (.int (Int32.ofInt a1_)), some (.int (Int32.ofInt u1_)), some (.int (Int32.ofInt (u2_ + 1)))]) rfl (by decide) rfl (zdal_p dlB_Sorts_countWithin_20 (i := 1) rfl) ?_
          obtain ⟨v6_, hv6_a, hv6_b, hv6_e, hv6_d⟩ := zk_gen (u2_ + 1)
          rw [hv6_e]
          refine zw_goto (pc := 56) (tgt := 5) (by decide) (zdal_p dlB_Sorts_countWithin_20 (i := 2) rfl) ?_
          exact ih_5 u1_ hu1_a hu1_b v6_ hv6_a hv6_b (show 0 ≤ v6_ by first | with_reducible assumption | assumption | omega) (by omega)
        · skip
          refine zw_aload_n (pc := 27) (n := 0) (x := (d_ + 12)) rfl (zdal_p dlB_Sorts_countWithin_19 (i := 14) rfl) ?_
          refine zw_getF (pc := 28) f_Sorts_14 rfl ((hf.w hW).kr (o := 12) (by decide)) ((hf.w hW).lr (o := 12) (s := 1) (r := 13) (by decide)) (zdal_p dlB_Sorts_countWithin_19 (i := 15) rfl) ?_
          refine zw_iload (pc := 31) (i := 4) (x := Int32.ofInt u2_) rfl (zdal_p dlB_Sorts_countWithin_19 (i := 16) rfl) ?_
          refine zk_atG hf.x (pc := 33) l_Sorts_49 ((hf.w hW).kr (o := 13) (by decide)) ((hf.w hW).lr (o := 13) (s := 0) (r := 14) (by decide)) ((hf.w hW).rr (o := 14) (t := 1) (n := 35) (by decide)) (by decide) ⟨by omega, by omega⟩ (by decide) (Nat.le_of_ble_eq_true rfl) (zdal_p dlB_Sorts_countWithin_19 (i := 17) rfl) (fun v7_ hv7_ hv7_a hv7_b => ?_)
          clear hv7_
          refine zw_aload_n (pc := 36) (n := 0) (x := (d_ + 12)) rfl (zdal_p dlB_Sorts_countWithin_19 (i := 18) rfl) ?_
          refine zw_getF (pc := 37) f_Sorts_26 rfl ((hf.w hW).kr (o := 12) (by decide)) ((hf.w hW).lr (o := 12) (s := 4) (r := 19) (by decide)) (zdal_p dlB_Sorts_countWithin_19 (i := 19) rfl) ?_
          refine zw_iload_n (pc := 40) (n := 2) (x := Int32.ofInt a1_) rfl (zdal_p dlB_Sorts_countWithin_19 (i := 20) rfl) ?_
          refine zk_atG hf.x (pc := 41) l_Sorts_49 ((hf.w hW).kr (o := 19) (by decide)) ((hf.w hW).lr (o := 19) (s := 0) (r := 20) (by decide)) ((hf.w hW).rr (o := 20) (t := 1) (n := 27) (by decide)) (by decide) ⟨by omega, by omega⟩ (by decide) (Nat.le_of_ble_eq_true rfl) (zdal_p dlB_Sorts_countWithin_19 (i := 21) rfl) (fun v8_ hv8_ hv8_a hv8_b => ?_)
          clear hv8_
          refine zr_callS hf.x (pc := 44) [.int (Int32.ofInt v7_), .int (Int32.ofInt v8_)] [] l_Sorts_96 (u_T_isPartX l d_ Mz (hf.w hW) v7_ hv7_a hv7_b v8_ hv8_a hv8_b) rfl rfl (by decide) (Nat.le_of_ble_eq_true rfl) (zdal_p dlB_Sorts_countWithin_19 (i := 22) rfl) ?_
          rintro _ N9_ ⟨v10_, rfl, ⟨hv10_a, hv10_b⟩, hsN9_, hp0_N9_⟩
          obtain rfl := hsN9_.eq.symm
          replace hp0_N9_ : (v10_ = 0 ∨ v10_ = 1) := hp0_N9_
          show zW l m_Sorts_countWithin (zn Mz + 0, zw Mz + 0) Mz 47 [some (.ref (d_ + 12)), some (.int (Int32.ofInt a0_)), some (.int (Int32.ofInt a1_)), some (.int (Int32.ofInt u1_)), some (.int (Int32.ofInt u2_))] [.int (Int32.ofInt v10_)] _
          refine zr_if_eq (pc := 47) (tgt := 53) ⟨hv10_a, hv10_b⟩ (by decide) (zdal_p dlB_Sorts_countWithin_19 (i := 23) rfl) (fun hc_47 => ?_) (fun hc_47 => ?_)
          · skip
            refine zr_iinc (pc := 53) (i := 4) (a := u2_) (n := 1) (L2 := [some (.ref (d_ + 12)), some (.int (Int32.ofInt a0_)), some (.int (Int32.ofInt a1_)), some (.int (Int32.ofInt u1_)), some (.int (Int32.ofInt (u2_ + 1)))]) rfl (by decide) rfl (zdal_p dlB_Sorts_countWithin_20 (i := 1) rfl) ?_
            obtain ⟨v11_, hv11_a, hv11_b, hv11_e, hv11_d⟩ := zk_gen (u2_ + 1)
            rw [hv11_e]
            refine zw_goto (pc := 56) (tgt := 5) (by decide) (zdal_p dlB_Sorts_countWithin_20 (i := 2) rfl) ?_
            exact ih_5 u1_ hu1_a hu1_b v11_ hv11_a hv11_b (show 0 ≤ v11_ by first | with_reducible assumption | assumption | omega) (by omega)
          · skip
            refine zr_iinc (pc := 50) (i := 3) (a := u1_) (n := 1) (L2 := [some (.ref (d_ + 12)), some (.int (Int32.ofInt a0_)), some (.int (Int32.ofInt a1_)), some (.int (Int32.ofInt (u1_ + 1))), some (.int (Int32.ofInt u2_))]) rfl (by decide) rfl (zdal_p dlB_Sorts_countWithin_20 (i := 0) rfl) ?_
            obtain ⟨v12_, hv12_a, hv12_b, hv12_e, hv12_d⟩ := zk_gen (u1_ + 1)
            rw [hv12_e]
            refine zr_iinc (pc := 53) (i := 4) (a := u2_) (n := 1) (L2 := [some (.ref (d_ + 12)), some (.int (Int32.ofInt a0_)), some (.int (Int32.ofInt a1_)), some (.int (Int32.ofInt v12_)), some (.int (Int32.ofInt (u2_ + 1)))]) rfl (by decide) rfl (zdal_p dlB_Sorts_countWithin_20 (i := 1) rfl) ?_
            obtain ⟨v13_, hv13_a, hv13_b, hv13_e, hv13_d⟩ := zk_gen (u2_ + 1)
            rw [hv13_e]
            refine zw_goto (pc := 56) (tgt := 5) (by decide) (zdal_p dlB_Sorts_countWithin_20 (i := 2) rfl) ?_
            exact ih_5 v12_ hv12_a hv12_b v13_ hv13_a hv13_b (show 0 ≤ v13_ by first | with_reducible assumption | assumption | omega) (by omega)
  exact lp_5 _ 0 (by decide) (by decide) 0 (by decide) (by decide) (show 0 ≤ (0 : Int) by first | with_reducible assumption | assumption | omega) (Nat.lt_succ_self _)
set_option maxHeartbeats 4000000 in
theorem u_Sorts_countOfX (l : Launch) (d_ : Nat) (Mz : zMem) (hW : zKW d_ Mz) (a0_ : Int) (ha0_a : -2147483648 ≤ a0_) (ha0_b : a0_ < 2147483648) : zC l m_Sorts_countOf 0 0 [.ref (d_ + 12), .int (Int32.ofInt a0_)] Mz (zqcI d_ [] [] [] [] Mz (fun v N => True)) := by
  refine zC_of (L0 := [some (.ref (d_ + 12)), some (.int (Int32.ofInt a0_))]) md_Sorts_countOf (Nat.le_of_ble_eq_true rfl) rfl ?_ zQ0
  have hf : zFc d_ [] [] [] [] Mz Mz := zFc.rf
  refine zw_aload_n (pc := 0) (n := 0) (x := (d_ + 12)) rfl (zdal_p dlB_Sorts_countOf_18 (i := 0) rfl) ?_
  refine zw_iload_n (pc := 1) (n := 1) (x := Int32.ofInt a0_) rfl (zdal_p dlB_Sorts_countOf_18 (i := 1) rfl) ?_
  refine zw_aload_n (pc := 2) (n := 0) (x := (d_ + 12)) rfl (zdal_p dlB_Sorts_countOf_18 (i := 2) rfl) ?_
  refine zk_getI (pc := 3) f_Sorts_83 rfl ((hf.w hW).kr (o := 12) (by decide)) (zdal_p dlB_Sorts_countOf_18 (i := 3) rfl) ?_
  have hr1_ := ze_r Mz (d_ + 12) 7
  refine zw_iconst (pc := 6) (v := Int32.ofInt 1) (by decide) (zdal_p dlB_Sorts_countOf_18 (i := 4) rfl) ?_
  refine zr_isub (pc := 7) (zdal_p dlB_Sorts_countOf_18 (i := 5) rfl) ?_
  refine zr_nmI (fun v2_ hv2_ => ?_)
  obtain ⟨hv2_a, hv2_b⟩ := hv2_
  refine zk_callV hf.x (pc := 8) [.int (Int32.ofInt a0_), .int (Int32.ofInt v2_)] [] l_Sorts_99 (u_Sorts_countWithinX l d_ Mz (hf.w hW) a0_ ha0_a ha0_b v2_ hv2_a hv2_b) rfl rfl ((hf.w hW).kr (o := 12) (by decide)) (by decide) (by decide) (Nat.le_of_ble_eq_true rfl) (zdal_p dlB_Sorts_countOf_18 (i := 6) rfl) ?_
  rintro _ N3_ ⟨v4_, rfl, ⟨hv4_a, hv4_b⟩, hsN3_, -⟩
  obtain rfl := hsN3_.eq.symm
  show zW l m_Sorts_countOf (zn Mz + 0, zw Mz + 0) Mz 11 [some (.ref (d_ + 12)), some (.int (Int32.ofInt a0_))] [.int (Int32.ofInt v4_)] _
  exact zk_iret (pc := 11) (ty := .int) rfl rfl ⟨by omega, by omega⟩ hf trivial (zdal_p dlB_Sorts_countOf_18 (i := 7) rfl)
set_option maxHeartbeats 4000000 in
theorem u_Group_turnX (l : Launch) (d_ : Nat) (Mz : zMem) (hW : zKW d_ Mz) (a0_ : Int) (ha0_a : -2147483648 ≤ a0_) (ha0_b : a0_ < 2147483648) (a1_ : Int) (ha1_a : -2147483648 ≤ a1_) (ha1_b : a1_ < 2147483648) : zC l m_Group_turn 0 0 [.ref (d_ + 1), .int (Int32.ofInt a0_), .int (Int32.ofInt a1_)] Mz (zqcI d_ [] [] [] [] Mz (fun v N => True)) := by
  refine zC_of (L0 := [some (.ref (d_ + 1)), some (.int (Int32.ofInt a0_)), some (.int (Int32.ofInt a1_)), none]) md_Group_turn (Nat.le_of_ble_eq_true rfl) rfl ?_ zQ0
  have hf : zFc d_ [] [] [] [] Mz Mz := zFc.rf
  refine zw_aload_n (pc := 0) (n := 0) (x := (d_ + 1)) rfl (zdal_p dlA_Group_turn_51 (i := 0) rfl) ?_
  refine zw_getF (pc := 1) f_Group_23 rfl ((hf.w hW).kr (o := 1) (by decide)) ((hf.w hW).lr (o := 1) (s := 2) (r := 6) (by decide)) (zdal_p dlA_Group_turn_51 (i := 1) rfl) ?_
  refine zw_aload_n (pc := 4) (n := 0) (x := (d_ + 1)) rfl (zdal_p dlA_Group_turn_51 (i := 2) rfl) ?_
  refine zw_getF (pc := 5) f_Group_26 rfl ((hf.w hW).kr (o := 1) (by decide)) ((hf.w hW).lr (o := 1) (s := 3) (r := 8) (by decide)) (zdal_p dlA_Group_turn_51 (i := 3) rfl) ?_
  refine zw_iload_n (pc := 8) (n := 2) (x := Int32.ofInt a1_) rfl (zdal_p dlA_Group_turn_51 (i := 4) rfl) ?_
  refine zk_atG hf.x (pc := 9) l_Group_54 ((hf.w hW).kr (o := 8) (by decide)) ((hf.w hW).lr (o := 8) (s := 0) (r := 9) (by decide)) ((hf.w hW).rr (o := 9) (t := 1) (n := 24) (by decide)) (by decide) ⟨by omega, by omega⟩ (by decide) (Nat.le_of_ble_eq_true rfl) (zdal_p dlA_Group_turn_51 (i := 5) rfl) (fun v1_ hv1_ hv1_a hv1_b => ?_)
  clear hv1_
  refine zw_bipush (pc := 12) (v := Int32.ofInt 24) (by decide) (zdal_p dlA_Group_turn_51 (i := 6) rfl) ?_
  refine zr_imul (pc := 14) (zdal_p dlA_Group_turn_51 (i := 7) rfl) ?_
  refine zr_nmI (fun v2_ hv2_ => ?_)
  obtain ⟨hv2_a, hv2_b⟩ := hv2_
  refine zw_iload_n (pc := 15) (n := 1) (x := Int32.ofInt a0_) rfl (zdal_p dlA_Group_turn_51 (i := 8) rfl) ?_
  refine zr_iadd (pc := 16) (zdal_p dlA_Group_turn_51 (i := 9) rfl) ?_
  refine zr_nmI (fun v3_ hv3_ => ?_)
  obtain ⟨hv3_a, hv3_b⟩ := hv3_
  refine zk_atG hf.x (pc := 17) l_Group_54 ((hf.w hW).kr (o := 6) (by decide)) ((hf.w hW).lr (o := 6) (s := 0) (r := 7) (by decide)) ((hf.w hW).rr (o := 7) (t := 1) (n := 576) (by decide)) (by decide) ⟨by omega, by omega⟩ (by decide) (Nat.le_of_ble_eq_true rfl) (zdal_p dlA_Group_turn_51 (i := 10) rfl) (fun v4_ hv4_ hv4_a hv4_b => ?_)
  clear hv4_
  refine zw_istore_n (pc := 20) (i := 3) (L2 := [some (.ref (d_ + 1)), some (.int (Int32.ofInt a0_)), some (.int (Int32.ofInt a1_)), some (.int (Int32.ofInt v4_))]) rfl (by decide) rfl (zdal_p dlA_Group_turn_51 (i := 11) rfl) ?_
  refine zw_aload_n (pc := 21) (n := 0) (x := (d_ + 1)) rfl (zdal_p dlA_Group_turn_51 (i := 12) rfl) ?_
  refine zw_getF (pc := 22) f_Group_23 rfl ((hf.w hW).kr (o := 1) (by decide)) ((hf.w hW).lr (o := 1) (s := 2) (r := 6) (by decide)) (zdal_p dlA_Group_turn_51 (i := 13) rfl) ?_
  refine zw_iload_n (pc := 25) (n := 3) (x := Int32.ofInt v4_) rfl (zdal_p dlA_Group_turn_51 (i := 14) rfl) ?_
  refine zw_bipush (pc := 26) (v := Int32.ofInt 24) (by decide) (zdal_p dlA_Group_turn_51 (i := 15) rfl) ?_
  refine zr_imul (pc := 28) (zdal_p dlA_Group_turn_51 (i := 16) rfl) ?_
  refine zr_nmI (fun v5_ hv5_ => ?_)
  obtain ⟨hv5_a, hv5_b⟩ := hv5_
  refine zw_iload_n (pc := 29) (n := 2) (x := Int32.ofInt a1_) rfl (zdal_p dlA_Group_turn_51 (i := 17) rfl) ?_
  refine zr_iadd (pc := 30) (zdal_p dlA_Group_turn_51 (i := 18) rfl) ?_
  refine zr_nmI (fun v6_ hv6_ => ?_)
  obtain ⟨hv6_a, hv6_b⟩ := hv6_
  refine zk_atG hf.x (pc := 31) l_Group_54 ((hf.w hW).kr (o := 6) (by decide)) ((hf.w hW).lr (o := 6) (s := 0) (r := 7) (by decide)) ((hf.w hW).rr (o := 7) (t := 1) (n := 576) (by decide)) (by decide) ⟨by omega, by omega⟩ (by decide) (Nat.le_of_ble_eq_true rfl) (zdal_p dlA_Group_turn_51 (i := 19) rfl) (fun v7_ hv7_ hv7_a hv7_b => ?_)
  clear hv7_
  exact zk_iret (pc := 34) (ty := .int) rfl rfl ⟨by omega, by omega⟩ hf trivial (zdal_p dlA_Group_turn_51 (i := 20) rfl)
set_option maxHeartbeats 4000000 in
theorem u_Group_turnAllX (l : Launch) (d_ : Nat) (Mz : zMem) (hW : zKW d_ Mz) (a0_ : Int) (ha0_a : -2147483648 ≤ a0_) (ha0_b : a0_ < 2147483648) (a1_ : Int) (ha1_a : -2147483648 ≤ a1_) (ha1_b : a1_ < 2147483648) : zC l m_Group_turnAll 0 0 [.ref (d_ + 1), .int (Int32.ofInt a0_), .int (Int32.ofInt a1_)] Mz (zqcI d_ [] [] [] [] Mz (fun v N => True)) := by
  refine zC_of (L0 := [some (.ref (d_ + 1)), some (.int (Int32.ofInt a0_)), some (.int (Int32.ofInt a1_)), none, none]) md_Group_turnAll (Nat.le_of_ble_eq_true rfl) rfl ?_ zQ0
  have hf : zFc d_ [] [] [] [] Mz Mz := zFc.rf
  refine zw_iconst (pc := 0) (v := Int32.ofInt 0) (by decide) (zdal_p dlA_Group_turnAll_49 (i := 0) rfl) ?_
  refine zw_istore_n (pc := 1) (i := 3) (L2 := [some (.ref (d_ + 1)), some (.int (Int32.ofInt a0_)), some (.int (Int32.ofInt a1_)), some (.int (Int32.ofInt 0)), none]) rfl (by decide) rfl (zdal_p dlA_Group_turnAll_49 (i := 1) rfl) ?_
  refine zw_iconst (pc := 2) (v := Int32.ofInt 0) (by decide) (zdal_p dlA_Group_turnAll_49 (i := 2) rfl) ?_
  refine zw_istore (pc := 3) (i := 4) (L2 := [some (.ref (d_ + 1)), some (.int (Int32.ofInt a0_)), some (.int (Int32.ofInt a1_)), some (.int (Int32.ofInt 0)), some (.int (Int32.ofInt 0))]) (by decide) rfl (zdal_p dlA_Group_turnAll_49 (i := 3) rfl) ?_
  have lp_5 : ∀ (n : Nat) (u1_ : Int) (hu1_a : -2147483648 ≤ u1_) (hu1_b : u1_ < 2147483648) (u2_ : Int) (hu2_a : -2147483648 ≤ u2_) (hu2_b : u2_ < 2147483648) (i3_ : 0 ≤ u2_), (ze Mz (d_ + 1) 7 - u2_).toNat < n → zW l m_Group_turnAll (zn Mz + 0, zw Mz + 0) Mz 5 [some (.ref (d_ + 1)), some (.int (Int32.ofInt a0_)), some (.int (Int32.ofInt a1_)), some (.int (Int32.ofInt u1_)), some (.int (Int32.ofInt u2_))] [] (zqcI d_ [] [] [] [] Mz (fun v N => True)) := by
    intro n
    induction n with
    | zero =>
      intro u1_ hu1_a hu1_b u2_ hu2_a hu2_b i3_ h0
      exact absurd h0 (Nat.not_lt_zero _)
    | succ n ih_5 =>
      intro u1_ hu1_a hu1_b u2_ hu2_a hu2_b i3_ hlt_5
      refine zw_iload (pc := 5) (i := 4) (x := Int32.ofInt u2_) rfl (zdal_p dlA_Group_turnAll_49 (i := 4) rfl) ?_
      refine zw_aload_n (pc := 7) (n := 0) (x := (d_ + 1)) rfl (zdal_p dlA_Group_turnAll_49 (i := 5) rfl) ?_
      refine zk_getI (pc := 8) f_Group_39 rfl ((hf.w hW).kr (o := 1) (by decide)) (zdal_p dlA_Group_turnAll_49 (i := 6) rfl) ?_
      have hr4_ := ze_r Mz (d_ + 1) 7
      refine zr_icmp_ge (pc := 11) (tgt := 41) ⟨hu2_a, hu2_b⟩ ⟨(ze_r Mz (d_ + 1) 7).1, (ze_r Mz (d_ + 1) 7).2⟩ (by decide) (zdal_p dlA_Group_turnAll_49 (i := 7) rfl) (fun hc_11 => ?_) (fun hc_11 => ?_)
      · skip
        refine zw_iload_n (pc := 41) (n := 3) (x := Int32.ofInt u1_) rfl (zdal_p dlA_Group_turnAll_49 (i := 23) rfl) ?_
        exact zk_iret (pc := 42) (ty := .int) rfl rfl ⟨by omega, by omega⟩ hf trivial (zdal_p dlA_Group_turnAll_50 (i := 0) rfl)
      · skip
        refine zw_iload_n (pc := 14) (n := 1) (x := Int32.ofInt a0_) rfl (zdal_p dlA_Group_turnAll_49 (i := 8) rfl) ?_
        refine zw_iload (pc := 15) (i := 4) (x := Int32.ofInt u2_) rfl (zdal_p dlA_Group_turnAll_49 (i := 9) rfl) ?_
        refine zr_callS hf.x (pc := 17) [.int (Int32.ofInt a0_), .int (Int32.ofInt u2_)] [] l_Group_73 (u_T_isInX l d_ Mz (hf.w hW) a0_ ha0_a ha0_b u2_ hu2_a hu2_b) rfl rfl (by decide) (Nat.le_of_ble_eq_true rfl) (zdal_p dlA_Group_turnAll_49 (i := 10) rfl) ?_
        rintro _ N5_ ⟨v6_, rfl, ⟨hv6_a, hv6_b⟩, hsN5_, hp0_N5_⟩
        obtain rfl := hsN5_.eq.symm
        replace hp0_N5_ : (v6_ = 0 ∨ v6_ = 1) := hp0_N5_
        show zW l m_Group_turnAll (zn Mz + 0, zw Mz + 0) Mz 20 [some (.ref (d_ + 1)), some (.int (Int32.ofInt a0_)), some (.int (Int32.ofInt a1_)), some (.int (Int32.ofInt u1_)), some (.int (Int32.ofInt u2_))] [.int (Int32.ofInt v6_)] _
        refine zr_if_eq (pc := 20) (tgt := 35) ⟨hv6_a, hv6_b⟩ (by decide) (zdal_p dlA_Group_turnAll_49 (i := 11) rfl) (fun hc_20 => ?_) (fun hc_20 => ?_)
        · skip
          refine zr_iinc (pc := 35) (i := 4) (a := u2_) (n := 1) (L2 := [some (.ref (d_ + 1)), some (.int (Int32.ofInt a0_)), some (.int (Int32.ofInt a1_)), some (.int (Int32.ofInt u1_)), some (.int (Int32.ofInt (u2_ + 1)))]) rfl (by decide) rfl (zdal_p dlA_Group_turnAll_49 (i := 21) rfl) ?_
          obtain ⟨v7_, hv7_a, hv7_b, hv7_e, hv7_d⟩ := zk_gen (u2_ + 1)
          rw [hv7_e]
          refine zw_goto (pc := 38) (tgt := 5) (by decide) (zdal_p dlA_Group_turnAll_49 (i := 22) rfl) ?_
          exact ih_5 u1_ hu1_a hu1_b v7_ hv7_a hv7_b (show 0 ≤ v7_ by first | with_reducible assumption | assumption | omega) (by omega)
        · skip
          refine zw_iload_n (pc := 23) (n := 3) (x := Int32.ofInt u1_) rfl (zdal_p dlA_Group_turnAll_49 (i := 12) rfl) ?_
          refine zw_iconst (pc := 24) (v := Int32.ofInt 1) (by decide) (zdal_p dlA_Group_turnAll_49 (i := 13) rfl) ?_
          refine zw_aload_n (pc := 25) (n := 0) (x := (d_ + 1)) rfl (zdal_p dlA_Group_turnAll_49 (i := 14) rfl) ?_
          refine zw_iload (pc := 26) (i := 4) (x := Int32.ofInt u2_) rfl (zdal_p dlA_Group_turnAll_49 (i := 15) rfl) ?_
          refine zw_iload_n (pc := 28) (n := 2) (x := Int32.ofInt a1_) rfl (zdal_p dlA_Group_turnAll_49 (i := 16) rfl) ?_
          refine zk_callV hf.x (pc := 29) [.int (Int32.ofInt u2_), .int (Int32.ofInt a1_)] [.int (Int32.ofInt 1), .int (Int32.ofInt u1_)] l_Group_77 (u_Group_turnX l d_ Mz (hf.w hW) u2_ hu2_a hu2_b a1_ ha1_a ha1_b) rfl rfl ((hf.w hW).kr (o := 1) (by decide)) (by decide) (by decide) (Nat.le_of_ble_eq_true rfl) (zdal_p dlA_Group_turnAll_49 (i := 17) rfl) ?_
          rintro _ N8_ ⟨v9_, rfl, ⟨hv9_a, hv9_b⟩, hsN8_, -⟩
          obtain rfl := hsN8_.eq.symm
          show zW l m_Group_turnAll (zn Mz + 0, zw Mz + 0) Mz 32 [some (.ref (d_ + 1)), some (.int (Int32.ofInt a0_)), some (.int (Int32.ofInt a1_)), some (.int (Int32.ofInt u1_)), some (.int (Int32.ofInt u2_))] [.int (Int32.ofInt v9_), .int (Int32.ofInt 1), .int (Int32.ofInt u1_)] _
          refine zr_ishl (pc := 32) (zdal_p dlA_Group_turnAll_49 (i := 18) rfl) ?_
          have hr10_ := zshl_r 1 v9_
          refine zr_nmI (fun v11_ hv11_ => ?_)
          obtain ⟨hv11_a, hv11_b⟩ := hv11_
          refine zr_ior (pc := 33) (zdal_p dlA_Group_turnAll_49 (i := 19) rfl) ?_
          have hr12_ := zor_r u1_ v11_
          refine zr_nmI (fun v13_ hv13_ => ?_)
          obtain ⟨hv13_a, hv13_b⟩ := hv13_
          refine zw_istore_n (pc := 34) (i := 3) (L2 := [some (.ref (d_ + 1)), some (.int (Int32.ofInt a0_)), some (.int (Int32.ofInt a1_)), some (.int (Int32.ofInt v13_)), some (.int (Int32.ofInt u2_))]) rfl (by decide) rfl (zdal_p dlA_Group_turnAll_49 (i := 20) rfl) ?_
          refine zr_iinc (pc := 35) (i := 4) (a := u2_) (n := 1) (L2 := [some (.ref (d_ + 1)), some (.int (Int32.ofInt a0_)), some (.int (Int32.ofInt a1_)), some (.int (Int32.ofInt v13_)), some (.int (Int32.ofInt (u2_ + 1)))]) rfl (by decide) rfl (zdal_p dlA_Group_turnAll_49 (i := 21) rfl) ?_
          obtain ⟨v14_, hv14_a, hv14_b, hv14_e, hv14_d⟩ := zk_gen (u2_ + 1)
          rw [hv14_e]
          refine zw_goto (pc := 38) (tgt := 5) (by decide) (zdal_p dlA_Group_turnAll_49 (i := 22) rfl) ?_
          exact ih_5 v13_ hv13_a hv13_b v14_ hv14_a hv14_b (show 0 ≤ v14_ by first | with_reducible assumption | assumption | omega) (by omega)
  exact lp_5 _ 0 (by decide) (by decide) 0 (by decide) (by decide) (show 0 ≤ (0 : Int) by first | with_reducible assumption | assumption | omega) (Nat.lt_succ_self _)
set_option maxHeartbeats 4000000 in
theorem u_Group_normOfX (l : Launch) (d_ : Nat) (Mz : zMem) (hW : zKW d_ Mz) (a0_ : Int) (ha0_a : -2147483648 ≤ a0_) (ha0_b : a0_ < 2147483648) : zC l m_Group_normOf 0 0 [.ref (d_ + 1), .int (Int32.ofInt a0_)] Mz (zqcI d_ [] [] [] [] Mz (fun v N => True)) := by
  refine zC_of (L0 := [some (.ref (d_ + 1)), some (.int (Int32.ofInt a0_)), none, none]) md_Group_normOf (Nat.le_of_ble_eq_true rfl) rfl ?_ zQ0
  have hf : zFc d_ [] [] [] [] Mz Mz := zFc.rf
  refine zw_iconst (pc := 0) (v := Int32.ofInt 0) (by decide) (zdal_p dlB_Group_normOf_21 (i := 0) rfl) ?_
  refine zw_istore_n (pc := 1) (i := 2) (L2 := [some (.ref (d_ + 1)), some (.int (Int32.ofInt a0_)), some (.int (Int32.ofInt 0)), none]) rfl (by decide) rfl (zdal_p dlB_Group_normOf_21 (i := 1) rfl) ?_
  refine zw_iconst (pc := 2) (v := Int32.ofInt 0) (by decide) (zdal_p dlB_Group_normOf_21 (i := 2) rfl) ?_
  refine zw_istore_n (pc := 3) (i := 3) (L2 := [some (.ref (d_ + 1)), some (.int (Int32.ofInt a0_)), some (.int (Int32.ofInt 0)), some (.int (Int32.ofInt 0))]) rfl (by decide) rfl (zdal_p dlB_Group_normOf_21 (i := 3) rfl) ?_
  have lp_4 : ∀ (n : Nat) (u1_ : Int) (hu1_a : -2147483648 ≤ u1_) (hu1_b : u1_ < 2147483648) (u2_ : Int) (hu2_a : -2147483648 ≤ u2_) (hu2_b : u2_ < 2147483648) (i3_ : 0 ≤ u2_), (ze Mz (d_ + 1) 7 - u2_).toNat < n → zW l m_Group_normOf (zn Mz + 0, zw Mz + 0) Mz 4 [some (.ref (d_ + 1)), some (.int (Int32.ofInt a0_)), some (.int (Int32.ofInt u1_)), some (.int (Int32.ofInt u2_))] [] (zqcI d_ [] [] [] [] Mz (fun v N => True)) := by
    intro n
    induction n with
    | zero =>
      intro u1_ hu1_a hu1_b u2_ hu2_a hu2_b i3_ h0
      exact absurd h0 (Nat.not_lt_zero _)
    | succ n ih_4 =>
      intro u1_ hu1_a hu1_b u2_ hu2_a hu2_b i3_ hlt_4
      refine zw_iload_n (pc := 4) (n := 3) (x := Int32.ofInt u2_) rfl (zdal_p dlB_Group_normOf_21 (i := 4) rfl) ?_
      refine zw_aload_n (pc := 5) (n := 0) (x := (d_ + 1)) rfl (zdal_p dlB_Group_normOf_21 (i := 5) rfl) ?_
      refine zk_getI (pc := 6) f_Group_39 rfl ((hf.w hW).kr (o := 1) (by decide)) (zdal_p dlB_Group_normOf_21 (i := 6) rfl) ?_
      have hr4_ := ze_r Mz (d_ + 1) 7
      refine zr_icmp_ge (pc := 9) (tgt := 34) ⟨hu2_a, hu2_b⟩ ⟨(ze_r Mz (d_ + 1) 7).1, (ze_r Mz (d_ + 1) 7).2⟩ (by decide) (zdal_p dlB_Group_normOf_21 (i := 7) rfl) (fun hc_9 => ?_) (fun hc_9 => ?_)
      · skip
        refine zw_iload_n (pc := 34) (n := 2) (x := Int32.ofInt u1_) rfl (zdal_p dlB_Group_normOf_21 (i := 22) rfl) ?_
        exact zk_iret (pc := 35) (ty := .int) rfl rfl ⟨by omega, by omega⟩ hf trivial (zdal_p dlB_Group_normOf_21 (i := 23) rfl)
      · skip
        refine zw_aload_n (pc := 12) (n := 0) (x := (d_ + 1)) rfl (zdal_p dlB_Group_normOf_21 (i := 8) rfl) ?_
        refine zw_iload_n (pc := 13) (n := 1) (x := Int32.ofInt a0_) rfl (zdal_p dlB_Group_normOf_21 (i := 9) rfl) ?_
        refine zw_iload_n (pc := 14) (n := 3) (x := Int32.ofInt u2_) rfl (zdal_p dlB_Group_normOf_21 (i := 10) rfl) ?_
        refine zk_callV hf.x (pc := 15) [.int (Int32.ofInt a0_), .int (Int32.ofInt u2_)] [] l_Group_80 (u_Group_turnAllX l d_ Mz (hf.w hW) a0_ ha0_a ha0_b u2_ hu2_a hu2_b) rfl rfl ((hf.w hW).kr (o := 1) (by decide)) (by decide) (by decide) (Nat.le_of_ble_eq_true rfl) (zdal_p dlB_Group_normOf_21 (i := 11) rfl) ?_
        rintro _ N5_ ⟨v6_, rfl, ⟨hv6_a, hv6_b⟩, hsN5_, -⟩
        obtain rfl := hsN5_.eq.symm
        show zW l m_Group_normOf (zn Mz + 0, zw Mz + 0) Mz 18 [some (.ref (d_ + 1)), some (.int (Int32.ofInt a0_)), some (.int (Int32.ofInt u1_)), some (.int (Int32.ofInt u2_))] [.int (Int32.ofInt v6_)] _
        refine zw_iload_n (pc := 18) (n := 1) (x := Int32.ofInt a0_) rfl (zdal_p dlB_Group_normOf_21 (i := 12) rfl) ?_
        refine zr_icmp_ne (pc := 19) (tgt := 28) ⟨hv6_a, hv6_b⟩ ⟨ha0_a, ha0_b⟩ (by decide) (zdal_p dlB_Group_normOf_21 (i := 13) rfl) (fun hc_19 => ?_) (fun hc_19 => ?_)
        · skip
          refine zr_iinc (pc := 28) (i := 3) (a := u2_) (n := 1) (L2 := [some (.ref (d_ + 1)), some (.int (Int32.ofInt a0_)), some (.int (Int32.ofInt u1_)), some (.int (Int32.ofInt (u2_ + 1)))]) rfl (by decide) rfl (zdal_p dlB_Group_normOf_21 (i := 20) rfl) ?_
          obtain ⟨v7_, hv7_a, hv7_b, hv7_e, hv7_d⟩ := zk_gen (u2_ + 1)
          rw [hv7_e]
          refine zw_goto (pc := 31) (tgt := 4) (by decide) (zdal_p dlB_Group_normOf_21 (i := 21) rfl) ?_
          exact ih_4 u1_ hu1_a hu1_b v7_ hv7_a hv7_b (show 0 ≤ v7_ by first | with_reducible assumption | assumption | omega) (by omega)
        · skip
          refine zw_iload_n (pc := 22) (n := 2) (x := Int32.ofInt u1_) rfl (zdal_p dlB_Group_normOf_21 (i := 14) rfl) ?_
          refine zw_iconst (pc := 23) (v := Int32.ofInt 1) (by decide) (zdal_p dlB_Group_normOf_21 (i := 15) rfl) ?_
          refine zw_iload_n (pc := 24) (n := 3) (x := Int32.ofInt u2_) rfl (zdal_p dlB_Group_normOf_21 (i := 16) rfl) ?_
          refine zr_ishl (pc := 25) (zdal_p dlB_Group_normOf_21 (i := 17) rfl) ?_
          have hr8_ := zshl_r 1 u2_
          refine zr_nmI (fun v9_ hv9_ => ?_)
          obtain ⟨hv9_a, hv9_b⟩ := hv9_
          refine zr_ior (pc := 26) (zdal_p dlB_Group_normOf_21 (i := 18) rfl) ?_
          have hr10_ := zor_r u1_ v9_
          refine zr_nmI (fun v11_ hv11_ => ?_)
          obtain ⟨hv11_a, hv11_b⟩ := hv11_
          refine zw_istore_n (pc := 27) (i := 2) (L2 := [some (.ref (d_ + 1)), some (.int (Int32.ofInt a0_)), some (.int (Int32.ofInt v11_)), some (.int (Int32.ofInt u2_))]) rfl (by decide) rfl (zdal_p dlB_Group_normOf_21 (i := 19) rfl) ?_
          refine zr_iinc (pc := 28) (i := 3) (a := u2_) (n := 1) (L2 := [some (.ref (d_ + 1)), some (.int (Int32.ofInt a0_)), some (.int (Int32.ofInt v11_)), some (.int (Int32.ofInt (u2_ + 1)))]) rfl (by decide) rfl (zdal_p dlB_Group_normOf_21 (i := 20) rfl) ?_
          obtain ⟨v12_, hv12_a, hv12_b, hv12_e, hv12_d⟩ := zk_gen (u2_ + 1)
          rw [hv12_e]
          refine zw_goto (pc := 31) (tgt := 4) (by decide) (zdal_p dlB_Group_normOf_21 (i := 21) rfl) ?_
          exact ih_4 v11_ hv11_a hv11_b v12_ hv12_a hv12_b (show 0 ≤ v12_ by first | with_reducible assumption | assumption | omega) (by omega)
  exact lp_4 _ 0 (by decide) (by decide) 0 (by decide) (by decide) (show 0 ≤ (0 : Int) by first | with_reducible assumption | assumption | omega) (Nat.lt_succ_self _)
set_option maxHeartbeats 4000000 in
theorem u_Group_isMadeByOneX (l : Launch) (d_ : Nat) (Mz : zMem) (hW : zKW d_ Mz) (a0_ : Int) (ha0_a : -2147483648 ≤ a0_) (ha0_b : a0_ < 2147483648) : zC l m_Group_isMadeByOne 0 0 [.ref (d_ + 1), .int (Int32.ofInt a0_)] Mz (zqcI d_ [] [] [] [] Mz (fun v N => ((v = 0 ∨ v = 1)))) := by
  refine zC_of (L0 := [some (.ref (d_ + 1)), some (.int (Int32.ofInt a0_)), none, none]) md_Group_isMadeByOne (Nat.le_of_ble_eq_true rfl) rfl ?_ zQ0
  have hf : zFc d_ [] [] [] [] Mz Mz := zFc.rf
  refine zw_iload_n (pc := 0) (n := 1) (x := Int32.ofInt a0_) rfl (zdal_p dlB_Group_isMadeByOne_22 (i := 0) rfl) ?_
  refine zr_callS hf.x (pc := 1) [.int (Int32.ofInt a0_)] [] l_Group_83 (u_Integer_bitCountX l d_ Mz (hf.w hW) a0_ ha0_a ha0_b) rfl rfl (by decide) (Nat.le_of_ble_eq_true rfl) (zdal_p dlB_Group_isMadeByOne_22 (i := 1) rfl) ?_
  rintro _ N1_ ⟨v2_, rfl, ⟨hv2_a, hv2_b⟩, hsN1_, ⟨hp0_N1_, hp1_N1_⟩⟩
  obtain rfl := hsN1_.eq.symm
  show zW l m_Group_isMadeByOne (zn Mz + 0, zw Mz + 0) Mz 4 [some (.ref (d_ + 1)), some (.int (Int32.ofInt a0_)), none, none] [.int (Int32.ofInt v2_)] _
  refine zw_istore_n (pc := 4) (i := 2) (L2 := [some (.ref (d_ + 1)), some (.int (Int32.ofInt a0_)), some (.int (Int32.ofInt v2_)), none]) rfl (by decide) rfl (zdal_p dlB_Group_isMadeByOne_22 (i := 2) rfl) ?_
  refine zw_iconst (pc := 5) (v := Int32.ofInt 0) (by decide) (zdal_p dlB_Group_isMadeByOne_22 (i := 3) rfl) ?_
  refine zw_istore_n (pc := 6) (i := 3) (L2 := [some (.ref (d_ + 1)), some (.int (Int32.ofInt a0_)), some (.int (Int32.ofInt v2_)), some (.int (Int32.ofInt 0))]) rfl (by decide) rfl (zdal_p dlB_Group_isMadeByOne_22 (i := 4) rfl) ?_
  have lp_7 : ∀ (n : Nat) (u3_ : Int) (hu3_a : -2147483648 ≤ u3_) (hu3_b : u3_ < 2147483648) (i4_ : 0 ≤ u3_), (ze Mz (d_ + 1) 7 - u3_).toNat < n → zW l m_Group_isMadeByOne (zn Mz + 0, zw Mz + 0) Mz 7 [some (.ref (d_ + 1)), some (.int (Int32.ofInt a0_)), some (.int (Int32.ofInt v2_)), some (.int (Int32.ofInt u3_))] [] (zqcI d_ [] [] [] [] Mz (fun v N => ((v = 0 ∨ v = 1)))) := by
    intro n
    induction n with
    | zero =>
      intro u3_ hu3_a hu3_b i4_ h0
      exact absurd h0 (Nat.not_lt_zero _)
    | succ n ih_7 =>
      intro u3_ hu3_a hu3_b i4_ hlt_7
      refine zw_iload_n (pc := 7) (n := 3) (x := Int32.ofInt u3_) rfl (zdal_p dlB_Group_isMadeByOne_22 (i := 5) rfl) ?_
      refine zw_aload_n (pc := 8) (n := 0) (x := (d_ + 1)) rfl (zdal_p dlB_Group_isMadeByOne_22 (i := 6) rfl) ?_
      refine zk_getI (pc := 9) f_Group_39 rfl ((hf.w hW).kr (o := 1) (by decide)) (zdal_p dlB_Group_isMadeByOne_22 (i := 7) rfl) ?_
      have hr5_ := ze_r Mz (d_ + 1) 7
      refine zr_icmp_ge (pc := 12) (tgt := 40) ⟨hu3_a, hu3_b⟩ ⟨(ze_r Mz (d_ + 1) 7).1, (ze_r Mz (d_ + 1) 7).2⟩ (by decide) (zdal_p dlB_Group_isMadeByOne_22 (i := 8) rfl) (fun hc_12 => ?_) (fun hc_12 => ?_)
      · skip
        refine zw_iconst (pc := 40) (v := Int32.ofInt 0) (by decide) (zdal_p dlB_Group_isMadeByOne_22 (i := 22) rfl) ?_
        exact zk_iret (pc := 41) (ty := .boolean) rfl (z_narB (by omega)) ⟨by omega, by omega⟩ hf (show (((0 : Int)) = 0 ∨ ((0 : Int)) = 1) by first | with_reducible assumption | assumption | omega) (zdal_p dlB_Group_isMadeByOne_22 (i := 23) rfl)
      · skip
        refine zw_iload_n (pc := 15) (n := 1) (x := Int32.ofInt a0_) rfl (zdal_p dlB_Group_isMadeByOne_22 (i := 9) rfl) ?_
        refine zw_iload_n (pc := 16) (n := 3) (x := Int32.ofInt u3_) rfl (zdal_p dlB_Group_isMadeByOne_22 (i := 10) rfl) ?_
        refine zr_callS hf.x (pc := 17) [.int (Int32.ofInt a0_), .int (Int32.ofInt u3_)] [] l_Group_73 (u_T_isInX l d_ Mz (hf.w hW) a0_ ha0_a ha0_b u3_ hu3_a hu3_b) rfl rfl (by decide) (Nat.le_of_ble_eq_true rfl) (zdal_p dlB_Group_isMadeByOne_22 (i := 11) rfl) ?_
        rintro _ N6_ ⟨v7_, rfl, ⟨hv7_a, hv7_b⟩, hsN6_, hp0_N6_⟩
        obtain rfl := hsN6_.eq.symm
        replace hp0_N6_ : (v7_ = 0 ∨ v7_ = 1) := hp0_N6_
        show zW l m_Group_isMadeByOne (zn Mz + 0, zw Mz + 0) Mz 20 [some (.ref (d_ + 1)), some (.int (Int32.ofInt a0_)), some (.int (Int32.ofInt v2_)), some (.int (Int32.ofInt u3_))] [.int (Int32.ofInt v7_)] _
        refine zr_if_eq (pc := 20) (tgt := 34) ⟨hv7_a, hv7_b⟩ (by decide) (zdal_p dlB_Group_isMadeByOne_22 (i := 12) rfl) (fun hc_20 => ?_) (fun hc_20 => ?_)
        · skip
          refine zr_iinc (pc := 34) (i := 3) (a := u3_) (n := 1) (L2 := [some (.ref (d_ + 1)), some (.int (Int32.ofInt a0_)), some (.int (Int32.ofInt v2_)), some (.int (Int32.ofInt (u3_ + 1)))]) rfl (by decide) rfl (zdal_p dlB_Group_isMadeByOne_22 (i := 20) rfl) ?_
          obtain ⟨v8_, hv8_a, hv8_b, hv8_e, hv8_d⟩ := zk_gen (u3_ + 1)
          rw [hv8_e]
          refine zw_goto (pc := 37) (tgt := 7) (by decide) (zdal_p dlB_Group_isMadeByOne_22 (i := 21) rfl) ?_
          exact ih_7 v8_ hv8_a hv8_b (show 0 ≤ v8_ by first | with_reducible assumption | assumption | omega) (by omega)
        · skip
          refine zw_aload_n (pc := 23) (n := 0) (x := (d_ + 1)) rfl (zdal_p dlB_Group_isMadeByOne_22 (i := 13) rfl) ?_
          refine zw_iload_n (pc := 24) (n := 3) (x := Int32.ofInt u3_) rfl (zdal_p dlB_Group_isMadeByOne_22 (i := 14) rfl) ?_
          refine zk_callV hf.x (pc := 25) [.int (Int32.ofInt u3_)] [] l_Group_70 (u_Group_repeatsOfX l d_ Mz (hf.w hW) u3_ hu3_a hu3_b) rfl rfl ((hf.w hW).kr (o := 1) (by decide)) (by decide) (by decide) (Nat.le_of_ble_eq_true rfl) (zdal_p dlB_Group_isMadeByOne_22 (i := 15) rfl) ?_
          rintro _ N9_ ⟨v10_, rfl, ⟨hv10_a, hv10_b⟩, hsN9_, -⟩
          obtain rfl := hsN9_.eq.symm
          show zW l m_Group_isMadeByOne (zn Mz + 0, zw Mz + 0) Mz 28 [some (.ref (d_ + 1)), some (.int (Int32.ofInt a0_)), some (.int (Int32.ofInt v2_)), some (.int (Int32.ofInt u3_))] [.int (Int32.ofInt v10_)] _
          refine zw_iload_n (pc := 28) (n := 2) (x := Int32.ofInt v2_) rfl (zdal_p dlB_Group_isMadeByOne_22 (i := 16) rfl) ?_
          refine zr_icmp_ne (pc := 29) (tgt := 34) ⟨hv10_a, hv10_b⟩ ⟨hv2_a, hv2_b⟩ (by decide) (zdal_p dlB_Group_isMadeByOne_22 (i := 17) rfl) (fun hc_29 => ?_) (fun hc_29 => ?_)
          · skip
            refine zr_iinc (pc := 34) (i := 3) (a := u3_) (n := 1) (L2 := [some (.ref (d_ + 1)), some (.int (Int32.ofInt a0_)), some (.int (Int32.ofInt v2_)), some (.int (Int32.ofInt (u3_ + 1)))]) rfl (by decide) rfl (zdal_p dlB_Group_isMadeByOne_22 (i := 20) rfl) ?_
            obtain ⟨v11_, hv11_a, hv11_b, hv11_e, hv11_d⟩ := zk_gen (u3_ + 1)
            rw [hv11_e]
            refine zw_goto (pc := 37) (tgt := 7) (by decide) (zdal_p dlB_Group_isMadeByOne_22 (i := 21) rfl) ?_
            exact ih_7 v11_ hv11_a hv11_b (show 0 ≤ v11_ by first | with_reducible assumption | assumption | omega) (by omega)
          · skip
            refine zw_iconst (pc := 32) (v := Int32.ofInt 1) (by decide) (zdal_p dlB_Group_isMadeByOne_22 (i := 18) rfl) ?_
            exact zk_iret (pc := 33) (ty := .boolean) rfl (z_narB (by omega)) ⟨by omega, by omega⟩ hf (show (((1 : Int)) = 0 ∨ ((1 : Int)) = 1) by first | with_reducible assumption | assumption | omega) (zdal_p dlB_Group_isMadeByOne_22 (i := 19) rfl)
  exact lp_7 _ 0 (by decide) (by decide) (show 0 ≤ (0 : Int) by first | with_reducible assumption | assumption | omega) (Nat.lt_succ_self _)
set_option maxHeartbeats 4000000 in
theorem u_T_sortX (l : Launch) (d_ : Nat) (Mz : zMem) (hW : zKW d_ Mz) (hnow : zf Mz 0 2 = some (d_ + 0)) (a0_ : Int) (ha0_a : -2147483648 ≤ a0_) (ha0_b : a0_ < 2147483648) (a1_ : Int) (ha1_a : -2147483648 ≤ a1_) (ha1_b : a1_ < 2147483648) : zC l m_T_sort 0 0 [.ref 0, .int (Int32.ofInt a0_), .int (Int32.ofInt a1_)] Mz (zqcI d_ [] [] [] [] Mz (fun v N => True)) := by
  refine zC_of (L0 := [some (.ref 0), some (.int (Int32.ofInt a0_)), some (.int (Int32.ofInt a1_)), none, none]) md_T_sort (Nat.le_of_ble_eq_true rfl) rfl ?_ zQ0
  have hf : zFc d_ [] [] [] [] Mz Mz := zFc.rf
  refine zw_aload_n (pc := 0) (n := 0) (x := 0) rfl (zdal_p dlB_T_sort_14 (i := 0) rfl) ?_
  refine zw_getF (pc := 1) f_T_28 rfl ((hf.w hW).ka (o := 0) (by decide)) (hf.now hnow) (zdal_p dlB_T_sort_14 (i := 1) rfl) ?_
  refine zw_getF (pc := 4) f_T_85 rfl ((hf.w hW).kr (o := 0) (by decide)) ((hf.w hW).lr (o := 0) (s := 1) (r := 12) (by decide)) (zdal_p dlB_T_sort_14 (i := 2) rfl) ?_
  refine zw_astore_n (pc := 7) (i := 3) (L2 := [some (.ref 0), some (.int (Int32.ofInt a0_)), some (.int (Int32.ofInt a1_)), some (.ref (d_ + 12)), none]) rfl (by decide) rfl (zdal_p dlB_T_sort_14 (i := 3) rfl) ?_
  refine zw_aload_n (pc := 8) (n := 3) (x := (d_ + 12)) rfl (zdal_p dlB_T_sort_14 (i := 4) rfl) ?_
  refine zw_iload_n (pc := 9) (n := 1) (x := Int32.ofInt a0_) rfl (zdal_p dlB_T_sort_14 (i := 5) rfl) ?_
  refine zk_callV hf.x (pc := 10) [.int (Int32.ofInt a0_)] [] l_T_143 (u_Sorts_hasSortX l d_ Mz (hf.w hW) a0_ ha0_a ha0_b) rfl rfl ((hf.w hW).kr (o := 12) (by decide)) (by decide) (by decide) (Nat.le_of_ble_eq_true rfl) (zdal_p dlB_T_sort_14 (i := 6) rfl) ?_
  rintro _ N1_ ⟨v2_, rfl, ⟨hv2_a, hv2_b⟩, hsN1_, hp0_N1_⟩
  obtain rfl := hsN1_.eq.symm
  replace hp0_N1_ : (v2_ = 0 ∨ v2_ = 1) := hp0_N1_
  show zW l m_T_sort (zn Mz + 0, zw Mz + 0) Mz 13 [some (.ref 0), some (.int (Int32.ofInt a0_)), some (.int (Int32.ofInt a1_)), some (.ref (d_ + 12)), none] [.int (Int32.ofInt v2_)] _
  refine zr_if_ne (pc := 13) (tgt := 18) ⟨hv2_a, hv2_b⟩ (by decide) (zdal_p dlB_T_sort_14 (i := 7) rfl) (fun hc_13 => ?_) (fun hc_13 => ?_)
  · skip
    refine zw_aload_n (pc := 18) (n := 3) (x := (d_ + 12)) rfl (zdal_p dlB_T_sort_14 (i := 10) rfl) ?_
    refine zw_getF (pc := 19) f_T_146 rfl ((hf.w hW).kr (o := 12) (by decide)) ((hf.w hW).lr (o := 12) (s := 4) (r := 19) (by decide)) (zdal_p dlB_T_sort_14 (i := 11) rfl) ?_
    refine zw_iload_n (pc := 22) (n := 1) (x := Int32.ofInt a0_) rfl (zdal_p dlB_T_sort_14 (i := 12) rfl) ?_
    refine zk_atG hf.x (pc := 23) l_T_118 ((hf.w hW).kr (o := 19) (by decide)) ((hf.w hW).lr (o := 19) (s := 0) (r := 20) (by decide)) ((hf.w hW).rr (o := 20) (t := 1) (n := 27) (by decide)) (by decide) ⟨by omega, by omega⟩ (by decide) (Nat.le_of_ble_eq_true rfl) (zdal_p dlB_T_sort_14 (i := 13) rfl) (fun v3_ hv3_ hv3_a hv3_b => ?_)
    clear hv3_
    refine zw_istore (pc := 26) (i := 4) (L2 := [some (.ref 0), some (.int (Int32.ofInt a0_)), some (.int (Int32.ofInt a1_)), some (.ref (d_ + 12)), some (.int (Int32.ofInt v3_))]) (by decide) rfl (zdal_p dlB_T_sort_14 (i := 14) rfl) ?_
    refine zw_iload_n (pc := 28) (n := 2) (x := Int32.ofInt a1_) rfl (zdal_p dlB_T_sort_14 (i := 15) rfl) ?_
    by_cases hs_29_0 : a1_ = 0
    · refine zr_tabIn (c := 0) (off := 39) (tgt := 68) ⟨by decide, by decide⟩ hs_29_0 (by decide) (by decide) rfl (by decide) d_T_sort_29 ?_
      refine zw_iload (pc := 68) (i := 4) (x := Int32.ofInt v3_) rfl (zdal_p dlB_T_sort_14 (i := 17) rfl) ?_
      refine zr_callS hf.x (pc := 70) [.int (Int32.ofInt v3_)] [] l_T_149 (u_Integer_bitCountX l d_ Mz (hf.w hW) v3_ hv3_a hv3_b) rfl rfl (by decide) (Nat.le_of_ble_eq_true rfl) (zdal_p dlB_T_sort_14 (i := 18) rfl) ?_
      rintro _ N4_ ⟨v5_, rfl, ⟨hv5_a, hv5_b⟩, hsN4_, ⟨hp0_N4_, hp1_N4_⟩⟩
      obtain rfl := hsN4_.eq.symm
      show zW l m_T_sort (zn Mz + 0, zw Mz + 0) Mz 73 [some (.ref 0), some (.int (Int32.ofInt a0_)), some (.int (Int32.ofInt a1_)), some (.ref (d_ + 12)), some (.int (Int32.ofInt v3_))] [.int (Int32.ofInt v5_)] _
      exact zk_iret (pc := 73) (ty := .int) rfl rfl ⟨by omega, by omega⟩ hf trivial (zdal_p dlB_T_sort_14 (i := 19) rfl)
    by_cases hs_29_1 : a1_ = 1
    · refine zr_tabIn (c := 1) (off := 45) (tgt := 74) ⟨by decide, by decide⟩ hs_29_1 (by decide) (by decide) rfl (by decide) d_T_sort_29 ?_
      refine zw_aload_n (pc := 74) (n := 3) (x := (d_ + 12)) rfl (zdal_p dlB_T_sort_14 (i := 20) rfl) ?_
      refine zw_iload_n (pc := 75) (n := 1) (x := Int32.ofInt a0_) rfl (zdal_p dlB_T_sort_14 (i := 21) rfl) ?_
      refine zk_callV hf.x (pc := 76) [.int (Int32.ofInt a0_)] [] l_T_154 (u_Sorts_countOfX l d_ Mz (hf.w hW) a0_ ha0_a ha0_b) rfl rfl ((hf.w hW).kr (o := 12) (by decide)) (by decide) (by decide) (Nat.le_of_ble_eq_true rfl) (zdal_p dlB_T_sort_14 (i := 22) rfl) ?_
      rintro _ N6_ ⟨v7_, rfl, ⟨hv7_a, hv7_b⟩, hsN6_, -⟩
      obtain rfl := hsN6_.eq.symm
      show zW l m_T_sort (zn Mz + 0, zw Mz + 0) Mz 79 [some (.ref 0), some (.int (Int32.ofInt a0_)), some (.int (Int32.ofInt a1_)), some (.ref (d_ + 12)), some (.int (Int32.ofInt v3_))] [.int (Int32.ofInt v7_)] _
      exact zk_iret (pc := 79) (ty := .int) rfl rfl ⟨by omega, by omega⟩ hf trivial (zdal_p dlB_T_sort_14 (i := 23) rfl)
    by_cases hs_29_2 : a1_ = 2
    · refine zr_tabIn (c := 2) (off := 51) (tgt := 80) ⟨by decide, by decide⟩ hs_29_2 (by decide) (by decide) rfl (by decide) d_T_sort_29 ?_
      refine zw_iload (pc := 80) (i := 4) (x := Int32.ofInt v3_) rfl (zdal_p dlB_T_sort_15 (i := 0) rfl) ?_
      exact zk_iret (pc := 82) (ty := .int) rfl rfl ⟨by omega, by omega⟩ hf trivial (zdal_p dlB_T_sort_15 (i := 1) rfl)
    by_cases hs_29_3 : a1_ = 3
    · refine zr_tabIn (c := 3) (off := 54) (tgt := 83) ⟨by decide, by decide⟩ hs_29_3 (by decide) (by decide) rfl (by decide) d_T_sort_29 ?_
      refine zw_aload_n (pc := 83) (n := 0) (x := 0) rfl (zdal_p dlB_T_sort_15 (i := 2) rfl) ?_
      refine zw_getF (pc := 84) f_T_28 rfl ((hf.w hW).ka (o := 0) (by decide)) (hf.now hnow) (zdal_p dlB_T_sort_15 (i := 3) rfl) ?_
      refine zw_getF (pc := 87) f_T_61 rfl ((hf.w hW).kr (o := 0) (by decide)) ((hf.w hW).lr (o := 0) (s := 0) (r := 1) (by decide)) (zdal_p dlB_T_sort_15 (i := 4) rfl) ?_
      refine zw_iload (pc := 90) (i := 4) (x := Int32.ofInt v3_) rfl (zdal_p dlB_T_sort_15 (i := 5) rfl) ?_
      refine zk_callV hf.x (pc := 92) [.int (Int32.ofInt v3_)] [] l_T_157 (u_Group_normOfX l d_ Mz (hf.w hW) v3_ hv3_a hv3_b) rfl rfl ((hf.w hW).kr (o := 1) (by decide)) (by decide) (by decide) (Nat.le_of_ble_eq_true rfl) (zdal_p dlB_T_sort_15 (i := 6) rfl) ?_
      rintro _ N8_ ⟨v9_, rfl, ⟨hv9_a, hv9_b⟩, hsN8_, -⟩
      obtain rfl := hsN8_.eq.symm
      show zW l m_T_sort (zn Mz + 0, zw Mz + 0) Mz 95 [some (.ref 0), some (.int (Int32.ofInt a0_)), some (.int (Int32.ofInt a1_)), some (.ref (d_ + 12)), some (.int (Int32.ofInt v3_))] [.int (Int32.ofInt v9_)] _
      refine zr_callS hf.x (pc := 95) [.int (Int32.ofInt v9_)] [] l_T_149 (u_Integer_bitCountX l d_ Mz (hf.w hW) v9_ hv9_a hv9_b) rfl rfl (by decide) (Nat.le_of_ble_eq_true rfl) (zdal_p dlB_T_sort_15 (i := 7) rfl) ?_
      rintro _ N10_ ⟨v11_, rfl, ⟨hv11_a, hv11_b⟩, hsN10_, ⟨hp0_N10_, hp1_N10_⟩⟩
      obtain rfl := hsN10_.eq.symm
      show zW l m_T_sort (zn Mz + 0, zw Mz + 0) Mz 98 [some (.ref 0), some (.int (Int32.ofInt a0_)), some (.int (Int32.ofInt a1_)), some (.ref (d_ + 12)), some (.int (Int32.ofInt v3_))] [.int (Int32.ofInt v11_)] _
      exact zk_iret (pc := 98) (ty := .int) rfl rfl ⟨by omega, by omega⟩ hf trivial (zdal_p dlB_T_sort_15 (i := 8) rfl)
    by_cases hs_29_4 : a1_ = 4
    · refine zr_tabIn (c := 4) (off := 70) (tgt := 99) ⟨by decide, by decide⟩ hs_29_4 (by decide) (by decide) rfl (by decide) d_T_sort_29 ?_
      refine zw_aload_n (pc := 99) (n := 0) (x := 0) rfl (zdal_p dlB_T_sort_15 (i := 9) rfl) ?_
      refine zw_getF (pc := 100) f_T_28 rfl ((hf.w hW).ka (o := 0) (by decide)) (hf.now hnow) (zdal_p dlB_T_sort_15 (i := 10) rfl) ?_
      refine zw_getF (pc := 103) f_T_61 rfl ((hf.w hW).kr (o := 0) (by decide)) ((hf.w hW).lr (o := 0) (s := 0) (r := 1) (by decide)) (zdal_p dlB_T_sort_15 (i := 11) rfl) ?_
      refine zw_iload (pc := 106) (i := 4) (x := Int32.ofInt v3_) rfl (zdal_p dlB_T_sort_15 (i := 12) rfl) ?_
      refine zk_callV hf.x (pc := 108) [.int (Int32.ofInt v3_)] [] l_T_160 (u_Group_isMadeByOneX l d_ Mz (hf.w hW) v3_ hv3_a hv3_b) rfl rfl ((hf.w hW).kr (o := 1) (by decide)) (by decide) (by decide) (Nat.le_of_ble_eq_true rfl) (zdal_p dlB_T_sort_15 (i := 13) rfl) ?_
      rintro _ N12_ ⟨v13_, rfl, ⟨hv13_a, hv13_b⟩, hsN12_, hp0_N12_⟩
      obtain rfl := hsN12_.eq.symm
      replace hp0_N12_ : (v13_ = 0 ∨ v13_ = 1) := hp0_N12_
      show zW l m_T_sort (zn Mz + 0, zw Mz + 0) Mz 111 [some (.ref 0), some (.int (Int32.ofInt a0_)), some (.int (Int32.ofInt a1_)), some (.ref (d_ + 12)), some (.int (Int32.ofInt v3_))] [.int (Int32.ofInt v13_)] _
      refine zr_if_eq (pc := 111) (tgt := 118) ⟨hv13_a, hv13_b⟩ (by decide) (zdal_p dlB_T_sort_15 (i := 14) rfl) (fun hc_111 => ?_) (fun hc_111 => ?_)
      · skip
        refine zw_iconst (pc := 118) (v := Int32.ofInt 0) (by decide) (zdal_p dlB_T_sort_15 (i := 17) rfl) ?_
        exact zk_iret (pc := 119) (ty := .int) rfl rfl ⟨by omega, by omega⟩ hf trivial (zdal_p dlB_T_sort_15 (i := 18) rfl)
      · skip
        refine zw_iconst (pc := 114) (v := Int32.ofInt 1) (by decide) (zdal_p dlB_T_sort_15 (i := 15) rfl) ?_
        refine zw_goto (pc := 115) (tgt := 119) (by decide) (zdal_p dlB_T_sort_15 (i := 16) rfl) ?_
        exact zk_iret (pc := 119) (ty := .int) rfl rfl ⟨by omega, by omega⟩ hf trivial (zdal_p dlB_T_sort_15 (i := 18) rfl)
    by_cases hs_29_5 : a1_ = 5
    · refine zr_tabIn (c := 5) (off := 91) (tgt := 120) ⟨by decide, by decide⟩ hs_29_5 (by decide) (by decide) rfl (by decide) d_T_sort_29 ?_
      refine zw_aload_n (pc := 120) (n := 0) (x := 0) rfl (zdal_p dlB_T_sort_15 (i := 19) rfl) ?_
      refine zw_getF (pc := 121) f_T_28 rfl ((hf.w hW).ka (o := 0) (by decide)) (hf.now hnow) (zdal_p dlB_T_sort_15 (i := 20) rfl) ?_
      refine zw_getF (pc := 124) f_T_61 rfl ((hf.w hW).kr (o := 0) (by decide)) ((hf.w hW).lr (o := 0) (s := 0) (r := 1) (by decide)) (zdal_p dlB_T_sort_15 (i := 21) rfl) ?_
      refine zw_iload (pc := 127) (i := 4) (x := Int32.ofInt v3_) rfl (zdal_p dlB_T_sort_15 (i := 22) rfl) ?_
      refine zk_callV hf.x (pc := 129) [.int (Int32.ofInt v3_)] [] l_T_101 (u_Group_isCommutingX l d_ Mz (hf.w hW) v3_ hv3_a hv3_b) rfl rfl ((hf.w hW).kr (o := 1) (by decide)) (by decide) (by decide) (Nat.le_of_ble_eq_true rfl) (zdal_p dlB_T_sort_15 (i := 23) rfl) ?_
      rintro _ N14_ ⟨v15_, rfl, ⟨hv15_a, hv15_b⟩, hsN14_, hp0_N14_⟩
      obtain rfl := hsN14_.eq.symm
      replace hp0_N14_ : (v15_ = 0 ∨ v15_ = 1) := hp0_N14_
      show zW l m_T_sort (zn Mz + 0, zw Mz + 0) Mz 132 [some (.ref 0), some (.int (Int32.ofInt a0_)), some (.int (Int32.ofInt a1_)), some (.ref (d_ + 12)), some (.int (Int32.ofInt v3_))] [.int (Int32.ofInt v15_)] _
      refine zr_if_eq (pc := 132) (tgt := 139) ⟨hv15_a, hv15_b⟩ (by decide) (zdal_p dlB_T_sort_16 (i := 0) rfl) (fun hc_132 => ?_) (fun hc_132 => ?_)
      · skip
        refine zw_iconst (pc := 139) (v := Int32.ofInt 0) (by decide) (zdal_p dlB_T_sort_16 (i := 3) rfl) ?_
        exact zk_iret (pc := 140) (ty := .int) rfl rfl ⟨by omega, by omega⟩ hf trivial (zdal_p dlB_T_sort_16 (i := 4) rfl)
      · skip
        refine zw_iconst (pc := 135) (v := Int32.ofInt 1) (by decide) (zdal_p dlB_T_sort_16 (i := 1) rfl) ?_
        refine zw_goto (pc := 136) (tgt := 140) (by decide) (zdal_p dlB_T_sort_16 (i := 2) rfl) ?_
        exact zk_iret (pc := 140) (ty := .int) rfl rfl ⟨by omega, by omega⟩ hf trivial (zdal_p dlB_T_sort_16 (i := 4) rfl)
    refine zr_tabOut (tgt := 141) ⟨ha1_a, ha1_b⟩ (by omega) (by decide) d_T_sort_29 ?_
    refine zw_iconst (pc := 141) (v := Int32.ofInt (-1)) (by decide) (zdal_p dlB_T_sort_16 (i := 5) rfl) ?_
    exact zk_iret (pc := 142) (ty := .int) rfl rfl ⟨by omega, by omega⟩ hf trivial (zdal_p dlB_T_sort_16 (i := 6) rfl)
  · skip
    refine zw_iconst (pc := 16) (v := Int32.ofInt (-1)) (by decide) (zdal_p dlB_T_sort_14 (i := 8) rfl) ?_
    exact zk_iret (pc := 17) (ty := .int) rfl rfl ⟨by omega, by omega⟩ hf trivial (zdal_p dlB_T_sort_14 (i := 9) rfl)
set_option maxHeartbeats 4000000 in
theorem u_T_withinX (l : Launch) (d_ : Nat) (Mz : zMem) (hW : zKW d_ Mz) (hnow : zf Mz 0 2 = some (d_ + 0)) (a0_ : Int) (ha0_a : -2147483648 ≤ a0_) (ha0_b : a0_ < 2147483648) (a1_ : Int) (ha1_a : -2147483648 ≤ a1_) (ha1_b : a1_ < 2147483648) : zC l m_T_within 0 0 [.ref 0, .int (Int32.ofInt a0_), .int (Int32.ofInt a1_)] Mz (zqcI d_ [] [] [] [] Mz (fun v N => True)) := by
  refine zC_of (L0 := [some (.ref 0), some (.int (Int32.ofInt a0_)), some (.int (Int32.ofInt a1_))]) md_T_within (Nat.le_of_ble_eq_true rfl) rfl ?_ zQ0
  have hf : zFc d_ [] [] [] [] Mz Mz := zFc.rf
  refine zw_aload_n (pc := 0) (n := 0) (x := 0) rfl (zdal_p dlB_T_within_23 (i := 0) rfl) ?_
  refine zw_getF (pc := 1) f_T_28 rfl ((hf.w hW).ka (o := 0) (by decide)) (hf.now hnow) (zdal_p dlB_T_within_23 (i := 1) rfl) ?_
  refine zw_getF (pc := 4) f_T_85 rfl ((hf.w hW).kr (o := 0) (by decide)) ((hf.w hW).lr (o := 0) (s := 1) (r := 12) (by decide)) (zdal_p dlB_T_within_23 (i := 2) rfl) ?_
  refine zw_iload_n (pc := 7) (n := 1) (x := Int32.ofInt a0_) rfl (zdal_p dlB_T_within_23 (i := 3) rfl) ?_
  refine zk_callV hf.x (pc := 8) [.int (Int32.ofInt a0_)] [] l_T_143 (u_Sorts_hasSortX l d_ Mz (hf.w hW) a0_ ha0_a ha0_b) rfl rfl ((hf.w hW).kr (o := 12) (by decide)) (by decide) (by decide) (Nat.le_of_ble_eq_true rfl) (zdal_p dlB_T_within_23 (i := 4) rfl) ?_
  rintro _ N1_ ⟨v2_, rfl, ⟨hv2_a, hv2_b⟩, hsN1_, hp0_N1_⟩
  obtain rfl := hsN1_.eq.symm
  replace hp0_N1_ : (v2_ = 0 ∨ v2_ = 1) := hp0_N1_
  show zW l m_T_within (zn Mz + 0, zw Mz + 0) Mz 11 [some (.ref 0), some (.int (Int32.ofInt a0_)), some (.int (Int32.ofInt a1_))] [.int (Int32.ofInt v2_)] _
  refine zr_if_eq (pc := 11) (tgt := 43) ⟨hv2_a, hv2_b⟩ (by decide) (zdal_p dlB_T_within_23 (i := 5) rfl) (fun hc_11 => ?_) (fun hc_11 => ?_)
  · skip
    refine zw_iconst (pc := 43) (v := Int32.ofInt (-1)) (by decide) (zdal_p dlB_T_within_23 (i := 19) rfl) ?_
    exact zk_iret (pc := 44) (ty := .int) rfl rfl ⟨by omega, by omega⟩ hf trivial (zdal_p dlB_T_within_23 (i := 20) rfl)
  · skip
    refine zw_aload_n (pc := 14) (n := 0) (x := 0) rfl (zdal_p dlB_T_within_23 (i := 6) rfl) ?_
    refine zw_getF (pc := 15) f_T_28 rfl ((hf.w hW).ka (o := 0) (by decide)) (hf.now hnow) (zdal_p dlB_T_within_23 (i := 7) rfl) ?_
    refine zw_getF (pc := 18) f_T_85 rfl ((hf.w hW).kr (o := 0) (by decide)) ((hf.w hW).lr (o := 0) (s := 1) (r := 12) (by decide)) (zdal_p dlB_T_within_23 (i := 8) rfl) ?_
    refine zw_iload_n (pc := 21) (n := 2) (x := Int32.ofInt a1_) rfl (zdal_p dlB_T_within_23 (i := 9) rfl) ?_
    refine zk_callV hf.x (pc := 22) [.int (Int32.ofInt a1_)] [] l_T_143 (u_Sorts_hasSortX l d_ Mz (hf.w hW) a1_ ha1_a ha1_b) rfl rfl ((hf.w hW).kr (o := 12) (by decide)) (by decide) (by decide) (Nat.le_of_ble_eq_true rfl) (zdal_p dlB_T_within_23 (i := 10) rfl) ?_
    rintro _ N3_ ⟨v4_, rfl, ⟨hv4_a, hv4_b⟩, hsN3_, hp0_N3_⟩
    obtain rfl := hsN3_.eq.symm
    replace hp0_N3_ : (v4_ = 0 ∨ v4_ = 1) := hp0_N3_
    show zW l m_T_within (zn Mz + 0, zw Mz + 0) Mz 25 [some (.ref 0), some (.int (Int32.ofInt a0_)), some (.int (Int32.ofInt a1_))] [.int (Int32.ofInt v4_)] _
    refine zr_if_eq (pc := 25) (tgt := 43) ⟨hv4_a, hv4_b⟩ (by decide) (zdal_p dlB_T_within_23 (i := 11) rfl) (fun hc_25 => ?_) (fun hc_25 => ?_)
    · skip
      refine zw_iconst (pc := 43) (v := Int32.ofInt (-1)) (by decide) (zdal_p dlB_T_within_23 (i := 19) rfl) ?_
      exact zk_iret (pc := 44) (ty := .int) rfl rfl ⟨by omega, by omega⟩ hf trivial (zdal_p dlB_T_within_23 (i := 20) rfl)
    · skip
      refine zw_aload_n (pc := 28) (n := 0) (x := 0) rfl (zdal_p dlB_T_within_23 (i := 12) rfl) ?_
      refine zw_getF (pc := 29) f_T_28 rfl ((hf.w hW).ka (o := 0) (by decide)) (hf.now hnow) (zdal_p dlB_T_within_23 (i := 13) rfl) ?_
      refine zw_getF (pc := 32) f_T_85 rfl ((hf.w hW).kr (o := 0) (by decide)) ((hf.w hW).lr (o := 0) (s := 1) (r := 12) (by decide)) (zdal_p dlB_T_within_23 (i := 14) rfl) ?_
      refine zw_iload_n (pc := 35) (n := 1) (x := Int32.ofInt a0_) rfl (zdal_p dlB_T_within_23 (i := 15) rfl) ?_
      refine zw_iload_n (pc := 36) (n := 2) (x := Int32.ofInt a1_) rfl (zdal_p dlB_T_within_23 (i := 16) rfl) ?_
      refine zk_callV hf.x (pc := 37) [.int (Int32.ofInt a0_), .int (Int32.ofInt a1_)] [] l_T_163 (u_Sorts_countWithinX l d_ Mz (hf.w hW) a0_ ha0_a ha0_b a1_ ha1_a ha1_b) rfl rfl ((hf.w hW).kr (o := 12) (by decide)) (by decide) (by decide) (Nat.le_of_ble_eq_true rfl) (zdal_p dlB_T_within_23 (i := 17) rfl) ?_
      rintro _ N5_ ⟨v6_, rfl, ⟨hv6_a, hv6_b⟩, hsN5_, -⟩
      obtain rfl := hsN5_.eq.symm
      show zW l m_T_within (zn Mz + 0, zw Mz + 0) Mz 40 [some (.ref 0), some (.int (Int32.ofInt a0_)), some (.int (Int32.ofInt a1_))] [.int (Int32.ofInt v6_)] _
      refine zw_goto (pc := 40) (tgt := 44) (by decide) (zdal_p dlB_T_within_23 (i := 18) rfl) ?_
      exact zk_iret (pc := 44) (ty := .int) rfl rfl ⟨by omega, by omega⟩ hf trivial (zdal_p dlB_T_within_23 (i := 20) rfl)
set_option maxHeartbeats 4000000 in
theorem u_Sorts_markAtX (l : Launch) (d_ : Nat) (Mz : zMem) (hW : zKW d_ Mz) (a0_ : Int) (ha0_a : -2147483648 ≤ a0_) (ha0_b : a0_ < 2147483648) (a1_ : Int) (ha1_a : -2147483648 ≤ a1_) (ha1_b : a1_ < 2147483648) : zC l m_Sorts_markAt 0 0 [.ref (d_ + 12), .int (Int32.ofInt a0_), .int (Int32.ofInt a1_)] Mz (zqcI d_ [] [] [] [] Mz (fun v N => True)) := by
  refine zC_of (L0 := [some (.ref (d_ + 12)), some (.int (Int32.ofInt a0_)), some (.int (Int32.ofInt a1_))]) md_Sorts_markAt (Nat.le_of_ble_eq_true rfl) rfl ?_ zQ0
  have hf : zFc d_ [] [] [] [] Mz Mz := zFc.rf
  refine zw_aload_n (pc := 0) (n := 0) (x := (d_ + 12)) rfl (zdal_p dlA_Sorts_markAt_59 (i := 0) rfl) ?_
  refine zw_getF (pc := 1) f_Sorts_29 rfl ((hf.w hW).kr (o := 12) (by decide)) ((hf.w hW).lr (o := 12) (s := 5) (r := 21) (by decide)) (zdal_p dlA_Sorts_markAt_59 (i := 1) rfl) ?_
  refine zw_iload_n (pc := 4) (n := 1) (x := Int32.ofInt a0_) rfl (zdal_p dlA_Sorts_markAt_59 (i := 2) rfl) ?_
  refine zw_bipush (pc := 5) (v := Int32.ofInt 27) (by decide) (zdal_p dlA_Sorts_markAt_59 (i := 3) rfl) ?_
  refine zr_imul (pc := 7) (zdal_p dlA_Sorts_markAt_59 (i := 4) rfl) ?_
  refine zr_nmI (fun v1_ hv1_ => ?_)
  obtain ⟨hv1_a, hv1_b⟩ := hv1_
  refine zw_iload_n (pc := 8) (n := 2) (x := Int32.ofInt a1_) rfl (zdal_p dlA_Sorts_markAt_59 (i := 5) rfl) ?_
  refine zr_iadd (pc := 9) (zdal_p dlA_Sorts_markAt_59 (i := 6) rfl) ?_
  refine zr_nmI (fun v2_ hv2_ => ?_)
  obtain ⟨hv2_a, hv2_b⟩ := hv2_
  refine zk_atG hf.x (pc := 10) l_Sorts_49 ((hf.w hW).kr (o := 21) (by decide)) ((hf.w hW).lr (o := 21) (s := 0) (r := 22) (by decide)) ((hf.w hW).rr (o := 22) (t := 1) (n := 729) (by decide)) (by decide) ⟨by omega, by omega⟩ (by decide) (Nat.le_of_ble_eq_true rfl) (zdal_p dlA_Sorts_markAt_59 (i := 7) rfl) (fun v3_ hv3_ hv3_a hv3_b => ?_)
  clear hv3_
  exact zk_iret (pc := 13) (ty := .int) rfl rfl ⟨by omega, by omega⟩ hf trivial (zdal_p dlA_Sorts_markAt_59 (i := 8) rfl)
set_option maxHeartbeats 4000000 in
theorem u_T_markX (l : Launch) (d_ : Nat) (Mz : zMem) (hW : zKW d_ Mz) (hnow : zf Mz 0 2 = some (d_ + 0)) (a0_ : Int) (ha0_a : -2147483648 ≤ a0_) (ha0_b : a0_ < 2147483648) (a1_ : Int) (ha1_a : -2147483648 ≤ a1_) (ha1_b : a1_ < 2147483648) : zC l m_T_mark 0 0 [.ref 0, .int (Int32.ofInt a0_), .int (Int32.ofInt a1_)] Mz (zqcI d_ [] [] [] [] Mz (fun v N => True)) := by
  refine zC_of (L0 := [some (.ref 0), some (.int (Int32.ofInt a0_)), some (.int (Int32.ofInt a1_))]) md_T_mark (Nat.le_of_ble_eq_true rfl) rfl ?_ zQ0
  have hf : zFc d_ [] [] [] [] Mz Mz := zFc.rf
  refine zw_aload_n (pc := 0) (n := 0) (x := 0) rfl (zdal_p dlB_T_mark_24 (i := 0) rfl) ?_
  refine zw_getF (pc := 1) f_T_28 rfl ((hf.w hW).ka (o := 0) (by decide)) (hf.now hnow) (zdal_p dlB_T_mark_24 (i := 1) rfl) ?_
  refine zw_getF (pc := 4) f_T_85 rfl ((hf.w hW).kr (o := 0) (by decide)) ((hf.w hW).lr (o := 0) (s := 1) (r := 12) (by decide)) (zdal_p dlB_T_mark_24 (i := 2) rfl) ?_
  refine zw_iload_n (pc := 7) (n := 1) (x := Int32.ofInt a0_) rfl (zdal_p dlB_T_mark_24 (i := 3) rfl) ?_
  refine zk_callV hf.x (pc := 8) [.int (Int32.ofInt a0_)] [] l_T_143 (u_Sorts_hasSortX l d_ Mz (hf.w hW) a0_ ha0_a ha0_b) rfl rfl ((hf.w hW).kr (o := 12) (by decide)) (by decide) (by decide) (Nat.le_of_ble_eq_true rfl) (zdal_p dlB_T_mark_24 (i := 4) rfl) ?_
  rintro _ N1_ ⟨v2_, rfl, ⟨hv2_a, hv2_b⟩, hsN1_, hp0_N1_⟩
  obtain rfl := hsN1_.eq.symm
  replace hp0_N1_ : (v2_ = 0 ∨ v2_ = 1) := hp0_N1_
  show zW l m_T_mark (zn Mz + 0, zw Mz + 0) Mz 11 [some (.ref 0), some (.int (Int32.ofInt a0_)), some (.int (Int32.ofInt a1_))] [.int (Int32.ofInt v2_)] _
  refine zr_if_eq (pc := 11) (tgt := 43) ⟨hv2_a, hv2_b⟩ (by decide) (zdal_p dlB_T_mark_24 (i := 5) rfl) (fun hc_11 => ?_) (fun hc_11 => ?_)
  · skip
    refine zw_iconst (pc := 43) (v := Int32.ofInt (-1)) (by decide) (zdal_p dlB_T_mark_24 (i := 19) rfl) ?_
    exact zk_iret (pc := 44) (ty := .int) rfl rfl ⟨by omega, by omega⟩ hf trivial (zdal_p dlB_T_mark_24 (i := 20) rfl)
  · skip
    refine zw_aload_n (pc := 14) (n := 0) (x := 0) rfl (zdal_p dlB_T_mark_24 (i := 6) rfl) ?_
    refine zw_getF (pc := 15) f_T_28 rfl ((hf.w hW).ka (o := 0) (by decide)) (hf.now hnow) (zdal_p dlB_T_mark_24 (i := 7) rfl) ?_
    refine zw_getF (pc := 18) f_T_85 rfl ((hf.w hW).kr (o := 0) (by decide)) ((hf.w hW).lr (o := 0) (s := 1) (r := 12) (by decide)) (zdal_p dlB_T_mark_24 (i := 8) rfl) ?_
    refine zw_iload_n (pc := 21) (n := 2) (x := Int32.ofInt a1_) rfl (zdal_p dlB_T_mark_24 (i := 9) rfl) ?_
    refine zk_callV hf.x (pc := 22) [.int (Int32.ofInt a1_)] [] l_T_143 (u_Sorts_hasSortX l d_ Mz (hf.w hW) a1_ ha1_a ha1_b) rfl rfl ((hf.w hW).kr (o := 12) (by decide)) (by decide) (by decide) (Nat.le_of_ble_eq_true rfl) (zdal_p dlB_T_mark_24 (i := 10) rfl) ?_
    rintro _ N3_ ⟨v4_, rfl, ⟨hv4_a, hv4_b⟩, hsN3_, hp0_N3_⟩
    obtain rfl := hsN3_.eq.symm
    replace hp0_N3_ : (v4_ = 0 ∨ v4_ = 1) := hp0_N3_
    show zW l m_T_mark (zn Mz + 0, zw Mz + 0) Mz 25 [some (.ref 0), some (.int (Int32.ofInt a0_)), some (.int (Int32.ofInt a1_))] [.int (Int32.ofInt v4_)] _
    refine zr_if_eq (pc := 25) (tgt := 43) ⟨hv4_a, hv4_b⟩ (by decide) (zdal_p dlB_T_mark_24 (i := 11) rfl) (fun hc_25 => ?_) (fun hc_25 => ?_)
    · skip
      refine zw_iconst (pc := 43) (v := Int32.ofInt (-1)) (by decide) (zdal_p dlB_T_mark_24 (i := 19) rfl) ?_
      exact zk_iret (pc := 44) (ty := .int) rfl rfl ⟨by omega, by omega⟩ hf trivial (zdal_p dlB_T_mark_24 (i := 20) rfl)
    · skip
      refine zw_aload_n (pc := 28) (n := 0) (x := 0) rfl (zdal_p dlB_T_mark_24 (i := 12) rfl) ?_
      refine zw_getF (pc := 29) f_T_28 rfl ((hf.w hW).ka (o := 0) (by decide)) (hf.now hnow) (zdal_p dlB_T_mark_24 (i := 13) rfl) ?_
      refine zw_getF (pc := 32) f_T_85 rfl ((hf.w hW).kr (o := 0) (by decide)) ((hf.w hW).lr (o := 0) (s := 1) (r := 12) (by decide)) (zdal_p dlB_T_mark_24 (i := 14) rfl) ?_
      refine zw_iload_n (pc := 35) (n := 1) (x := Int32.ofInt a0_) rfl (zdal_p dlB_T_mark_24 (i := 15) rfl) ?_
      refine zw_iload_n (pc := 36) (n := 2) (x := Int32.ofInt a1_) rfl (zdal_p dlB_T_mark_24 (i := 16) rfl) ?_
      refine zk_callV hf.x (pc := 37) [.int (Int32.ofInt a0_), .int (Int32.ofInt a1_)] [] l_T_166 (u_Sorts_markAtX l d_ Mz (hf.w hW) a0_ ha0_a ha0_b a1_ ha1_a ha1_b) rfl rfl ((hf.w hW).kr (o := 12) (by decide)) (by decide) (by decide) (Nat.le_of_ble_eq_true rfl) (zdal_p dlB_T_mark_24 (i := 17) rfl) ?_
      rintro _ N5_ ⟨v6_, rfl, ⟨hv6_a, hv6_b⟩, hsN5_, -⟩
      obtain rfl := hsN5_.eq.symm
      show zW l m_T_mark (zn Mz + 0, zw Mz + 0) Mz 40 [some (.ref 0), some (.int (Int32.ofInt a0_)), some (.int (Int32.ofInt a1_))] [.int (Int32.ofInt v6_)] _
      refine zw_goto (pc := 40) (tgt := 44) (by decide) (zdal_p dlB_T_mark_24 (i := 18) rfl) ?_
      exact zk_iret (pc := 44) (ty := .int) rfl rfl ⟨by omega, by omega⟩ hf trivial (zdal_p dlB_T_mark_24 (i := 20) rfl)
set_option maxHeartbeats 4000000 in
theorem u_Sums_numberAtX (l : Launch) (d_ : Nat) (Mz : zMem) (hW : zKW d_ Mz) (a0_ : Int) (ha0_a : -2147483648 ≤ a0_) (ha0_b : a0_ < 2147483648) (a1_ : Int) (ha1_a : -2147483648 ≤ a1_) (ha1_b : a1_ < 2147483648) : zC l m_Sums_numberAt 0 0 [.ref (d_ + 23), .int (Int32.ofInt a0_), .int (Int32.ofInt a1_)] Mz (zqcJ d_ [] [] [] [] Mz (fun v N => True)) := by
  refine zC_of (L0 := [some (.ref (d_ + 23)), some (.int (Int32.ofInt a0_)), some (.int (Int32.ofInt a1_))]) md_Sums_numberAt (Nat.le_of_ble_eq_true rfl) rfl ?_ zQ0
  have hf : zFc d_ [] [] [] [] Mz Mz := zFc.rf
  refine zw_aload_n (pc := 0) (n := 0) (x := (d_ + 23)) rfl (zdal_p dlA_Sums_numberAt_146 (i := 0) rfl) ?_
  refine zw_getF (pc := 1) f_Sums_16 rfl ((hf.w hW).kr (o := 23) (by decide)) ((hf.w hW).lr (o := 23) (s := 1) (r := 24) (by decide)) (zdal_p dlA_Sums_numberAt_146 (i := 1) rfl) ?_
  refine zw_iload_n (pc := 4) (n := 1) (x := Int32.ofInt a0_) rfl (zdal_p dlA_Sums_numberAt_146 (i := 2) rfl) ?_
  refine zw_bipush (pc := 5) (v := Int32.ofInt 27) (by decide) (zdal_p dlA_Sums_numberAt_146 (i := 3) rfl) ?_
  refine zr_imul (pc := 7) (zdal_p dlA_Sums_numberAt_146 (i := 4) rfl) ?_
  refine zr_nmI (fun v1_ hv1_ => ?_)
  obtain ⟨hv1_a, hv1_b⟩ := hv1_
  refine zw_iload_n (pc := 8) (n := 2) (x := Int32.ofInt a1_) rfl (zdal_p dlA_Sums_numberAt_146 (i := 5) rfl) ?_
  refine zr_iadd (pc := 9) (zdal_p dlA_Sums_numberAt_146 (i := 6) rfl) ?_
  refine zr_nmI (fun v2_ hv2_ => ?_)
  obtain ⟨hv2_a, hv2_b⟩ := hv2_
  refine zk_atGJ hf.x (pc := 10) l_Sums_27 ((hf.w hW).kr (o := 24) (by decide)) ((hf.w hW).lr (o := 24) (s := 0) (r := 25) (by decide)) ((hf.w hW).rr (o := 25) (t := 2) (n := 1080) (by decide)) (by decide) ⟨by omega, by omega⟩ (by decide) (Nat.le_of_ble_eq_true rfl) (zdal_p dlA_Sums_numberAt_146 (i := 7) rfl) (fun v3_ hv3_ hv3_a hv3_b => ?_)
  clear hv3_
  exact zk_lret (pc := 13) rfl ⟨by omega, by omega⟩ hf trivial (zdal_p dlA_Sums_numberAt_146 (i := 8) rfl)
set_option maxHeartbeats 4000000 in
theorem u_Sums_solveX (l : Launch) (d_ : Nat) (Mz : zMem) (hW : zKW d_ Mz) (a0_ : Int) (ha0_a : -2147483648 ≤ a0_) (ha0_b : a0_ < 2147483648) : zC l m_Sums_solve 0 0 [.ref (d_ + 23), .int (Int32.ofInt a0_)] Mz (zqcV d_ [] [] [] [25] Mz (fun N => True)) := by
  refine zC_of (L0 := [some (.ref (d_ + 23)), some (.int (Int32.ofInt a0_)), none, none, none, none]) md_Sums_solve (Nat.le_of_ble_eq_true rfl) rfl ?_ zQ0
  have hf : zFc d_ [] [] [] [25] Mz Mz := zFc.rf
  refine zw_aload_n (pc := 0) (n := 0) (x := (d_ + 23)) rfl (zdal_p dlA_Sums_solve_140 (i := 0) rfl) ?_
  refine zw_getF (pc := 1) f_Sums_23 rfl ((hf.w hW).kr (o := 23) (by decide)) ((hf.w hW).lr (o := 23) (s := 0) (r := 12) (by decide)) (zdal_p dlA_Sums_solve_140 (i := 1) rfl) ?_
  refine zk_getI (pc := 4) f_Sums_35 rfl ((hf.w hW).kr (o := 12) (by decide)) (zdal_p dlA_Sums_solve_140 (i := 2) rfl) ?_
  have hr1_ := ze_r Mz (d_ + 12) 7
  refine zw_iconst (pc := 7) (v := Int32.ofInt 1) (by decide) (zdal_p dlA_Sums_solve_140 (i := 3) rfl) ?_
  refine zr_isub (pc := 8) (zdal_p dlA_Sums_solve_140 (i := 4) rfl) ?_
  refine zr_nmI (fun v2_ hv2_ => ?_)
  obtain ⟨hv2_a, hv2_b⟩ := hv2_
  refine zw_istore_n (pc := 9) (i := 2) (L2 := [some (.ref (d_ + 23)), some (.int (Int32.ofInt a0_)), some (.int (Int32.ofInt v2_)), none, none, none]) rfl (by decide) rfl (zdal_p dlA_Sums_solve_140 (i := 5) rfl) ?_
  have lp_10 : ∀ (n : Nat) (u3_ : Int) (hu3_a : -2147483648 ≤ u3_) (hu3_b : u3_ < 2147483648) (N4_ : zMem) (hs5_ : zFc d_ [] [] [] [25] Mz N4_) (i6_ : u3_ ≤ v2_), (u3_ + 1).toNat < n → zW l m_Sums_solve (zn Mz + 0, zw Mz + 0) N4_ 10 [some (.ref (d_ + 23)), some (.int (Int32.ofInt a0_)), some (.int (Int32.ofInt u3_)), none, none, none] [] (zqcV d_ [] [] [] [25] Mz (fun N => True)) := by
    intro n
    induction n with
    | zero =>
      intro u3_ hu3_a hu3_b N4_ hs5_ i6_ h0
      exact absurd h0 (Nat.not_lt_zero _)
    | succ n ih_10 =>
      intro u3_ hu3_a hu3_b N4_ hs5_ i6_ hlt_10
      have hf_N4_ : zFc d_ [] [] [] [25] Mz N4_ := hf.tr hs5_ (by decide) (by decide) (by decide) (by decide)
      refine zw_iload_n (pc := 10) (n := 2) (x := Int32.ofInt u3_) rfl (zdal_p dlA_Sums_solve_140 (i := 6) rfl) ?_
      refine zr_if_lt (pc := 11) (tgt := 133) ⟨hu3_a, hu3_b⟩ (by decide) (zdal_p dlA_Sums_solve_140 (i := 7) rfl) (fun hc_11 => ?_) (fun hc_11 => ?_)
      · skip
        exact zk_vret (pc := 133) rfl hf_N4_ trivial (zdal_p dlA_Sums_solve_143 (i := 2) rfl)
      · skip
        refine zw_aload_n (pc := 14) (n := 0) (x := (d_ + 23)) rfl (zdal_p dlA_Sums_solve_140 (i := 8) rfl) ?_
        refine zw_getF (pc := 15) f_Sums_20 rfl ((hf_N4_.w hW).kr (o := 23) (by decide)) ((hf_N4_.w hW).lr (o := 23) (s := 2) (r := 26) (by decide)) (zdal_p dlA_Sums_solve_140 (i := 9) rfl) ?_
        refine zw_iload_n (pc := 18) (n := 2) (x := Int32.ofInt u3_) rfl (zdal_p dlA_Sums_solve_140 (i := 10) rfl) ?_
        refine zk_atGJ hf_N4_.x (pc := 19) l_Sums_27 ((hf_N4_.w hW).kr (o := 26) (by decide)) ((hf_N4_.w hW).lr (o := 26) (s := 0) (r := 27) (by decide)) ((hf_N4_.w hW).rr (o := 27) (t := 2) (n := 27) (by decide)) (by decide) ⟨by omega, by omega⟩ (by decide) (Nat.le_of_ble_eq_true rfl) (zdal_p dlA_Sums_solve_140 (i := 11) rfl) (fun v7_ hv7_ hv7_a hv7_b => ?_)
        clear hv7_
        refine zw_lstore_n (pc := 22) (i := 3) (L2 := [some (.ref (d_ + 23)), some (.int (Int32.ofInt a0_)), some (.int (Int32.ofInt u3_)), some (.long (Int64.ofInt v7_)), none, none]) rfl (by decide) rfl (zdal_p dlA_Sums_solve_140 (i := 12) rfl) ?_
        refine zw_iload_n (pc := 23) (n := 2) (x := Int32.ofInt u3_) rfl (zdal_p dlA_Sums_solve_140 (i := 13) rfl) ?_
        refine zw_iconst (pc := 24) (v := Int32.ofInt 1) (by decide) (zdal_p dlA_Sums_solve_140 (i := 14) rfl) ?_
        refine zr_iadd (pc := 25) (zdal_p dlA_Sums_solve_140 (i := 15) rfl) ?_
        refine zr_nmI (fun v8_ hv8_ => ?_)
        obtain ⟨hv8_a, hv8_b⟩ := hv8_
        refine zw_istore (pc := 26) (i := 5) (L2 := [some (.ref (d_ + 23)), some (.int (Int32.ofInt a0_)), some (.int (Int32.ofInt u3_)), some (.long (Int64.ofInt v7_)), none, some (.int (Int32.ofInt v8_))]) (by decide) rfl (zdal_p dlA_Sums_solve_140 (i := 16) rfl) ?_
        have lp_28 : ∀ (n : Nat) (u9_ : Int) (hu9_a : -9223372036854775808 ≤ u9_) (hu9_b : u9_ < 9223372036854775808) (u10_ : Int) (hu10_a : -2147483648 ≤ u10_) (hu10_b : u10_ < 2147483648) (i11_ : v8_ ≤ u10_), (ze Mz (d_ + 12) 7 - u10_).toNat < n → zW l m_Sums_solve (zn Mz + 0, zw Mz + 0) N4_ 28 [some (.ref (d_ + 23)), some (.int (Int32.ofInt a0_)), some (.int (Int32.ofInt u3_)), some (.long (Int64.ofInt u9_)), none, some (.int (Int32.ofInt u10_))] [] (zqcV d_ [] [] [] [25] Mz (fun N => True)) := by
          intro n
          induction n with
          | zero =>
            intro u9_ hu9_a hu9_b u10_ hu10_a hu10_b i11_ h0
            exact absurd h0 (Nat.not_lt_zero _)
          | succ n ih_28 =>
            intro u9_ hu9_a hu9_b u10_ hu10_a hu10_b i11_ hlt_28
            refine zw_iload (pc := 28) (i := 5) (x := Int32.ofInt u10_) rfl (zdal_p dlA_Sums_solve_140 (i := 17) rfl) ?_
            refine zw_aload_n (pc := 30) (n := 0) (x := (d_ + 23)) rfl (zdal_p dlA_Sums_solve_140 (i := 18) rfl) ?_
            refine zw_getF (pc := 31) f_Sums_23 rfl ((hf_N4_.w hW).kr (o := 23) (by decide)) ((hf_N4_.w hW).lr (o := 23) (s := 0) (r := 12) (by decide)) (zdal_p dlA_Sums_solve_140 (i := 19) rfl) ?_
            refine zk_getI (pc := 34) f_Sums_35 rfl ((hf_N4_.w hW).kr (o := 12) (by decide)) (zdal_p dlA_Sums_solve_140 (i := 20) rfl) ?_
            rw [hf_N4_.e (by decide)]
            refine zr_icmp_ge (pc := 37) (tgt := 82) ⟨hu10_a, hu10_b⟩ ⟨(ze_r Mz (d_ + 12) 7).1, (ze_r Mz (d_ + 12) 7).2⟩ (by decide) (zdal_p dlA_Sums_solve_140 (i := 21) rfl) (fun hc_37 => ?_) (fun hc_37 => ?_)
            · skip
              refine zw_aload_n (pc := 82) (n := 0) (x := (d_ + 23)) rfl (zdal_p dlA_Sums_solve_141 (i := 22) rfl) ?_
              refine zw_getF (pc := 83) f_Sums_23 rfl ((hf_N4_.w hW).kr (o := 23) (by decide)) ((hf_N4_.w hW).lr (o := 23) (s := 0) (r := 12) (by decide)) (zdal_p dlA_Sums_solve_141 (i := 23) rfl) ?_
              refine zw_getF (pc := 86) f_Sums_41 rfl ((hf_N4_.w hW).kr (o := 12) (by decide)) ((hf_N4_.w hW).lr (o := 12) (s := 5) (r := 21) (by decide)) (zdal_p dlA_Sums_solve_142 (i := 0) rfl) ?_
              refine zw_iload_n (pc := 89) (n := 2) (x := Int32.ofInt u3_) rfl (zdal_p dlA_Sums_solve_142 (i := 1) rfl) ?_
              refine zw_bipush (pc := 90) (v := Int32.ofInt 27) (by decide) (zdal_p dlA_Sums_solve_142 (i := 2) rfl) ?_
              refine zr_imul (pc := 92) (zdal_p dlA_Sums_solve_142 (i := 3) rfl) ?_
              refine zr_nmI (fun v12_ hv12_ => ?_)
              obtain ⟨hv12_a, hv12_b⟩ := hv12_
              refine zw_iload_n (pc := 93) (n := 2) (x := Int32.ofInt u3_) rfl (zdal_p dlA_Sums_solve_142 (i := 4) rfl) ?_
              refine zr_iadd (pc := 94) (zdal_p dlA_Sums_solve_142 (i := 5) rfl) ?_
              refine zr_nmI (fun v13_ hv13_ => ?_)
              obtain ⟨hv13_a, hv13_b⟩ := hv13_
              refine zk_atG hf_N4_.x (pc := 95) l_Sums_45 ((hf_N4_.w hW).kr (o := 21) (by decide)) ((hf_N4_.w hW).lr (o := 21) (s := 0) (r := 22) (by decide)) ((hf_N4_.w hW).rr (o := 22) (t := 1) (n := 729) (by decide)) (by decide) ⟨by omega, by omega⟩ (by decide) (Nat.le_of_ble_eq_true rfl) (zdal_p dlA_Sums_solve_142 (i := 6) rfl) (fun v14_ hv14_ hv14_a hv14_b => ?_)
              clear hv14_
              refine zw_istore (pc := 98) (i := 5) (L2 := [some (.ref (d_ + 23)), some (.int (Int32.ofInt a0_)), some (.int (Int32.ofInt u3_)), some (.long (Int64.ofInt u9_)), none, some (.int (Int32.ofInt v14_))]) (by decide) rfl (zdal_p dlA_Sums_solve_142 (i := 7) rfl) ?_
              refine zw_aload_n (pc := 100) (n := 0) (x := (d_ + 23)) rfl (zdal_p dlA_Sums_solve_142 (i := 8) rfl) ?_
              refine zw_getF (pc := 101) f_Sums_16 rfl ((hf_N4_.w hW).kr (o := 23) (by decide)) ((hf_N4_.w hW).lr (o := 23) (s := 1) (r := 24) (by decide)) (zdal_p dlA_Sums_solve_142 (i := 9) rfl) ?_
              refine zw_iload_n (pc := 104) (n := 1) (x := Int32.ofInt a0_) rfl (zdal_p dlA_Sums_solve_142 (i := 10) rfl) ?_
              refine zw_bipush (pc := 105) (v := Int32.ofInt 27) (by decide) (zdal_p dlA_Sums_solve_142 (i := 11) rfl) ?_
              refine zr_imul (pc := 107) (zdal_p dlA_Sums_solve_142 (i := 12) rfl) ?_
              refine zr_nmI (fun v15_ hv15_ => ?_)
              obtain ⟨hv15_a, hv15_b⟩ := hv15_
              refine zw_iload_n (pc := 108) (n := 2) (x := Int32.ofInt u3_) rfl (zdal_p dlA_Sums_solve_142 (i := 13) rfl) ?_
              refine zr_iadd (pc := 109) (zdal_p dlA_Sums_solve_142 (i := 14) rfl) ?_
              refine zr_nmI (fun v16_ hv16_ => ?_)
              obtain ⟨hv16_a, hv16_b⟩ := hv16_
              refine zw_iload (pc := 110) (i := 5) (x := Int32.ofInt v14_) rfl (zdal_p dlA_Sums_solve_142 (i := 15) rfl) ?_
              refine zr_if_eq (pc := 112) (tgt := 123) ⟨hv14_a, hv14_b⟩ (by decide) (zdal_p dlA_Sums_solve_142 (i := 16) rfl) (fun hc_112 => ?_) (fun hc_112 => ?_)
              · skip
                refine zw_lconst (pc := 123) (v := Int64.ofInt 0) (by decide) (zdal_p dlA_Sums_solve_142 (i := 22) rfl) ?_
                refine zk_stGJ hf_N4_.x (pc := 124) (o := 25) (by decide) l_Sums_31 ((hf_N4_.w hW).kr (o := 24) (by decide)) ((hf_N4_.w hW).lr (o := 24) (s := 0) (r := 25) (by decide)) ((hf_N4_.w hW).rr (o := 25) (t := 2) (n := 1080) (by decide)) (by decide) ⟨by omega, by omega⟩ (by decide) (Nat.le_of_ble_eq_true rfl) (zdal_p dlA_Sums_solve_142 (i := 23) rfl) (fun N17_ hsN17_ => ?_)
                have hf_N17_ : zFc d_ [] [] [] [25] Mz N17_ := hf_N4_.tr hsN17_ (by decide) (by decide) (by decide) (by decide)
                have hb0_N17_ : zFc d_ [] [] [] [25] Mz N17_ := hs5_.tr hsN17_ (by decide) (by decide) (by decide) (by decide)
                refine zr_iinc (pc := 127) (i := 2) (a := u3_) (n := -1) (L2 := [some (.ref (d_ + 23)), some (.int (Int32.ofInt a0_)), some (.int (Int32.ofInt (u3_ + (-1)))), some (.long (Int64.ofInt u9_)), none, some (.int (Int32.ofInt v14_))]) rfl (by decide) rfl (zdal_p dlA_Sums_solve_143 (i := 0) rfl) ?_
                obtain ⟨v18_, hv18_a, hv18_b, hv18_e, hv18_d⟩ := zk_gen (u3_ + (-1))
                rw [hv18_e]
                refine zw_goto (pc := 130) (tgt := 10) (by decide) (zdal_p dlA_Sums_solve_143 (i := 1) rfl) ?_
                refine zW_le [some (.ref (d_ + 23)), some (.int (Int32.ofInt a0_)), some (.int (Int32.ofInt v18_)), none, none, none] (⟨rfl, rfl, rfl, trivial⟩) ?_
                exact ih_10 v18_ hv18_a hv18_b N17_ hb0_N17_ (show v18_ ≤ v2_ by first | with_reducible assumption | assumption | omega) (by omega)
              · skip
                refine zw_lload_n (pc := 115) (n := 3) (x := Int64.ofInt u9_) rfl (zdal_p dlA_Sums_solve_142 (i := 17) rfl) ?_
                refine zw_iload (pc := 116) (i := 5) (x := Int32.ofInt v14_) rfl (zdal_p dlA_Sums_solve_142 (i := 18) rfl) ?_
                refine zr_i2l (pc := 118) ⟨hv14_a, hv14_b⟩ (zdal_p dlA_Sums_solve_142 (i := 19) rfl) ?_
                refine zr_ldiv (pc := 119) ⟨by omega, by omega⟩ (by omega) (zdal_p dlA_Sums_solve_142 (i := 20) rfl) ?_
                have hr19_ := zlquo_r u9_ v14_
                refine zr_nmJ (fun v20_ hv20_ => ?_)
                obtain ⟨hv20_a, hv20_b⟩ := hv20_
                refine zw_goto (pc := 120) (tgt := 124) (by decide) (zdal_p dlA_Sums_solve_142 (i := 21) rfl) ?_
                refine zk_stGJ hf_N4_.x (pc := 124) (o := 25) (by decide) l_Sums_31 ((hf_N4_.w hW).kr (o := 24) (by decide)) ((hf_N4_.w hW).lr (o := 24) (s := 0) (r := 25) (by decide)) ((hf_N4_.w hW).rr (o := 25) (t := 2) (n := 1080) (by decide)) (by decide) ⟨by omega, by omega⟩ (by decide) (Nat.le_of_ble_eq_true rfl) (zdal_p dlA_Sums_solve_142 (i := 23) rfl) (fun N21_ hsN21_ => ?_)
                have hf_N21_ : zFc d_ [] [] [] [25] Mz N21_ := hf_N4_.tr hsN21_ (by decide) (by decide) (by decide) (by decide)
                have hb0_N21_ : zFc d_ [] [] [] [25] Mz N21_ := hs5_.tr hsN21_ (by decide) (by decide) (by decide) (by decide)
                refine zr_iinc (pc := 127) (i := 2) (a := u3_) (n := -1) (L2 := [some (.ref (d_ + 23)), some (.int (Int32.ofInt a0_)), some (.int (Int32.ofInt (u3_ + (-1)))), some (.long (Int64.ofInt u9_)), none, some (.int (Int32.ofInt v14_))]) rfl (by decide) rfl (zdal_p dlA_Sums_solve_143 (i := 0) rfl) ?_
                obtain ⟨v22_, hv22_a, hv22_b, hv22_e, hv22_d⟩ := zk_gen (u3_ + (-1))
                rw [hv22_e]
                refine zw_goto (pc := 130) (tgt := 10) (by decide) (zdal_p dlA_Sums_solve_143 (i := 1) rfl) ?_
                refine zW_le [some (.ref (d_ + 23)), some (.int (Int32.ofInt a0_)), some (.int (Int32.ofInt v22_)), none, none, none] (⟨rfl, rfl, rfl, trivial⟩) ?_
                exact ih_10 v22_ hv22_a hv22_b N21_ hb0_N21_ (show v22_ ≤ v2_ by first | with_reducible assumption | assumption | omega) (by omega)
            · skip
              refine zw_lload_n (pc := 40) (n := 3) (x := Int64.ofInt u9_) rfl (zdal_p dlA_Sums_solve_140 (i := 22) rfl) ?_
              refine zw_aload_n (pc := 41) (n := 0) (x := (d_ + 23)) rfl (zdal_p dlA_Sums_solve_140 (i := 23) rfl) ?_
              refine zw_getF (pc := 42) f_Sums_16 rfl ((hf_N4_.w hW).kr (o := 23) (by decide)) ((hf_N4_.w hW).lr (o := 23) (s := 1) (r := 24) (by decide)) (zdal_p dlA_Sums_solve_141 (i := 0) rfl) ?_
              refine zw_iload_n (pc := 45) (n := 1) (x := Int32.ofInt a0_) rfl (zdal_p dlA_Sums_solve_141 (i := 1) rfl) ?_
              refine zw_bipush (pc := 46) (v := Int32.ofInt 27) (by decide) (zdal_p dlA_Sums_solve_141 (i := 2) rfl) ?_
              refine zr_imul (pc := 48) (zdal_p dlA_Sums_solve_141 (i := 3) rfl) ?_
              refine zr_nmI (fun v23_ hv23_ => ?_)
              obtain ⟨hv23_a, hv23_b⟩ := hv23_
              refine zw_iload (pc := 49) (i := 5) (x := Int32.ofInt u10_) rfl (zdal_p dlA_Sums_solve_141 (i := 4) rfl) ?_
              refine zr_iadd (pc := 51) (zdal_p dlA_Sums_solve_141 (i := 5) rfl) ?_
              refine zr_nmI (fun v24_ hv24_ => ?_)
              obtain ⟨hv24_a, hv24_b⟩ := hv24_
              refine zk_atGJ hf_N4_.x (pc := 52) l_Sums_27 ((hf_N4_.w hW).kr (o := 24) (by decide)) ((hf_N4_.w hW).lr (o := 24) (s := 0) (r := 25) (by decide)) ((hf_N4_.w hW).rr (o := 25) (t := 2) (n := 1080) (by decide)) (by decide) ⟨by omega, by omega⟩ (by decide) (Nat.le_of_ble_eq_true rfl) (zdal_p dlA_Sums_solve_141 (i := 6) rfl) (fun v25_ hv25_ hv25_a hv25_b => ?_)
              clear hv25_
              refine zw_aload_n (pc := 55) (n := 0) (x := (d_ + 23)) rfl (zdal_p dlA_Sums_solve_141 (i := 7) rfl) ?_
              refine zw_getF (pc := 56) f_Sums_23 rfl ((hf_N4_.w hW).kr (o := 23) (by decide)) ((hf_N4_.w hW).lr (o := 23) (s := 0) (r := 12) (by decide)) (zdal_p dlA_Sums_solve_141 (i := 8) rfl) ?_
              refine zw_getF (pc := 59) f_Sums_41 rfl ((hf_N4_.w hW).kr (o := 12) (by decide)) ((hf_N4_.w hW).lr (o := 12) (s := 5) (r := 21) (by decide)) (zdal_p dlA_Sums_solve_141 (i := 9) rfl) ?_
              refine zw_iload (pc := 62) (i := 5) (x := Int32.ofInt u10_) rfl (zdal_p dlA_Sums_solve_141 (i := 10) rfl) ?_
              refine zw_bipush (pc := 64) (v := Int32.ofInt 27) (by decide) (zdal_p dlA_Sums_solve_141 (i := 11) rfl) ?_
              refine zr_imul (pc := 66) (zdal_p dlA_Sums_solve_141 (i := 12) rfl) ?_
              refine zr_nmI (fun v26_ hv26_ => ?_)
              obtain ⟨hv26_a, hv26_b⟩ := hv26_
              refine zw_iload_n (pc := 67) (n := 2) (x := Int32.ofInt u3_) rfl (zdal_p dlA_Sums_solve_141 (i := 13) rfl) ?_
              refine zr_iadd (pc := 68) (zdal_p dlA_Sums_solve_141 (i := 14) rfl) ?_
              refine zr_nmI (fun v27_ hv27_ => ?_)
              obtain ⟨hv27_a, hv27_b⟩ := hv27_
              refine zk_atG hf_N4_.x (pc := 69) l_Sums_45 ((hf_N4_.w hW).kr (o := 21) (by decide)) ((hf_N4_.w hW).lr (o := 21) (s := 0) (r := 22) (by decide)) ((hf_N4_.w hW).rr (o := 22) (t := 1) (n := 729) (by decide)) (by decide) ⟨by omega, by omega⟩ (by decide) (Nat.le_of_ble_eq_true rfl) (zdal_p dlA_Sums_solve_141 (i := 15) rfl) (fun v28_ hv28_ hv28_a hv28_b => ?_)
              clear hv28_
              refine zr_i2l (pc := 72) ⟨hv28_a, hv28_b⟩ (zdal_p dlA_Sums_solve_141 (i := 16) rfl) ?_
              refine zr_lmul (pc := 73) (zdal_p dlA_Sums_solve_141 (i := 17) rfl) ?_
              refine zr_nmJ (fun v29_ hv29_ => ?_)
              obtain ⟨hv29_a, hv29_b⟩ := hv29_
              refine zr_lsub (pc := 74) (zdal_p dlA_Sums_solve_141 (i := 18) rfl) ?_
              refine zr_nmJ (fun v30_ hv30_ => ?_)
              obtain ⟨hv30_a, hv30_b⟩ := hv30_
              refine zw_lstore_n (pc := 75) (i := 3) (L2 := [some (.ref (d_ + 23)), some (.int (Int32.ofInt a0_)), some (.int (Int32.ofInt u3_)), some (.long (Int64.ofInt v30_)), none, some (.int (Int32.ofInt u10_))]) rfl (by decide) rfl (zdal_p dlA_Sums_solve_141 (i := 19) rfl) ?_
              refine zr_iinc (pc := 76) (i := 5) (a := u10_) (n := 1) (L2 := [some (.ref (d_ + 23)), some (.int (Int32.ofInt a0_)), some (.int (Int32.ofInt u3_)), some (.long (Int64.ofInt v30_)), none, some (.int (Int32.ofInt (u10_ + 1)))]) rfl (by decide) rfl (zdal_p dlA_Sums_solve_141 (i := 20) rfl) ?_
              obtain ⟨v31_, hv31_a, hv31_b, hv31_e, hv31_d⟩ := zk_gen (u10_ + 1)
              rw [hv31_e]
              refine zw_goto (pc := 79) (tgt := 28) (by decide) (zdal_p dlA_Sums_solve_141 (i := 21) rfl) ?_
              exact ih_28 v30_ hv30_a hv30_b v31_ hv31_a hv31_b (show v8_ ≤ v31_ by first | with_reducible assumption | assumption | omega) (by omega)
        exact lp_28 _ v7_ hv7_a hv7_b v8_ hv8_a hv8_b (show v8_ ≤ v8_ by first | with_reducible assumption | assumption | omega) (Nat.lt_succ_self _)
  exact lp_10 _ v2_ hv2_a hv2_b Mz zFc.rf (show v2_ ≤ v2_ by first | with_reducible assumption | assumption | omega) (Nat.lt_succ_self _)
set_option maxHeartbeats 4000000 in
theorem u_Sums_putProductX (l : Launch) (d_ : Nat) (Mz : zMem) (hW : zKW d_ Mz) (a0_ : Int) (ha0_a : -2147483648 ≤ a0_) (ha0_b : a0_ < 2147483648) (a1_ : Int) (ha1_a : -2147483648 ≤ a1_) (ha1_b : a1_ < 2147483648) : zC l m_Sums_putProduct 0 0 [.ref (d_ + 23), .int (Int32.ofInt a0_), .int (Int32.ofInt a1_)] Mz (zqcV d_ [] [] [] [25, 27] Mz (fun N => True)) := by
  refine zC_of (L0 := [some (.ref (d_ + 23)), some (.int (Int32.ofInt a0_)), some (.int (Int32.ofInt a1_)), none]) md_Sums_putProduct (Nat.le_of_ble_eq_true rfl) rfl ?_ zQ0
  have hf : zFc d_ [] [] [] [25, 27] Mz Mz := zFc.rf
  refine zw_iconst (pc := 0) (v := Int32.ofInt 0) (by decide) (zdal_p dlB_Sums_putProduct_27 (i := 0) rfl) ?_
  refine zw_istore_n (pc := 1) (i := 3) (L2 := [some (.ref (d_ + 23)), some (.int (Int32.ofInt a0_)), some (.int (Int32.ofInt a1_)), some (.int (Int32.ofInt 0))]) rfl (by decide) rfl (zdal_p dlB_Sums_putProduct_27 (i := 1) rfl) ?_
  have lp_2 : ∀ (n : Nat) (u1_ : Int) (hu1_a : -2147483648 ≤ u1_) (hu1_b : u1_ < 2147483648) (N2_ : zMem) (hs3_ : zFc d_ [] [] [] [27] Mz N2_) (i4_ : 0 ≤ u1_), (ze Mz (d_ + 12) 7 - u1_).toNat < n → zW l m_Sums_putProduct (zn Mz + 0, zw Mz + 0) N2_ 2 [some (.ref (d_ + 23)), some (.int (Int32.ofInt a0_)), some (.int (Int32.ofInt a1_)), some (.int (Int32.ofInt u1_))] [] (zqcV d_ [] [] [] [25, 27] Mz (fun N => True)) := by
    intro n
    induction n with
    | zero =>
      intro u1_ hu1_a hu1_b N2_ hs3_ i4_ h0
      exact absurd h0 (Nat.not_lt_zero _)
    | succ n ih_2 =>
      intro u1_ hu1_a hu1_b N2_ hs3_ i4_ hlt_2
      have hf_N2_ : zFc d_ [] [] [] [25, 27] Mz N2_ := hf.tr hs3_ (by decide) (by decide) (by decide) (by decide)
      refine zw_iload_n (pc := 2) (n := 3) (x := Int32.ofInt u1_) rfl (zdal_p dlB_Sums_putProduct_27 (i := 2) rfl) ?_
      refine zw_aload_n (pc := 3) (n := 0) (x := (d_ + 23)) rfl (zdal_p dlB_Sums_putProduct_27 (i := 3) rfl) ?_
      refine zw_getF (pc := 4) f_Sums_23 rfl ((hf_N2_.w hW).kr (o := 23) (by decide)) ((hf_N2_.w hW).lr (o := 23) (s := 0) (r := 12) (by decide)) (zdal_p dlB_Sums_putProduct_27 (i := 4) rfl) ?_
      refine zk_getI (pc := 7) f_Sums_35 rfl ((hf_N2_.w hW).kr (o := 12) (by decide)) (zdal_p dlB_Sums_putProduct_27 (i := 5) rfl) ?_
      rw [hf_N2_.e (by decide)]
      have hr5_ := ze_r Mz (d_ + 12) 7
      refine zr_icmp_ge (pc := 10) (tgt := 48) ⟨hu1_a, hu1_b⟩ ⟨(ze_r Mz (d_ + 12) 7).1, (ze_r Mz (d_ + 12) 7).2⟩ (by decide) (zdal_p dlB_Sums_putProduct_27 (i := 6) rfl) (fun hc_10 => ?_) (fun hc_10 => ?_)
      · skip
        refine zw_aload_n (pc := 48) (n := 0) (x := (d_ + 23)) rfl (zdal_p dlB_Sums_putProduct_28 (i := 2) rfl) ?_
        refine zw_bipush (pc := 49) (v := Int32.ofInt 39) (by decide) (zdal_p dlB_Sums_putProduct_28 (i := 3) rfl) ?_
        refine zk_callV hf_N2_.x (pc := 51) [.int (Int32.ofInt 39)] [] l_Sums_58 (u_Sums_solveX l d_ N2_ (hf_N2_.w hW) 39 (by decide) (by decide)) rfl rfl ((hf_N2_.w hW).kr (o := 23) (by decide)) (by decide) (by decide) (Nat.le_of_ble_eq_true rfl) (zdal_p dlB_Sums_putProduct_28 (i := 4) rfl) ?_
        rintro _ N6_ ⟨rfl, hsN6_, -⟩
        have hf_N6_ : zFc d_ [] [] [] [25, 27] Mz N6_ := hf_N2_.tr hsN6_ (by decide) (by decide) (by decide) (by decide)
        show zW l m_Sums_putProduct (zn Mz + 0, zw Mz + 0) N6_ 54 [some (.ref (d_ + 23)), some (.int (Int32.ofInt a0_)), some (.int (Int32.ofInt a1_)), some (.int (Int32.ofInt u1_))] [] _
        exact zk_vret (pc := 54) rfl hf_N6_ trivial (zdal_p dlB_Sums_putProduct_28 (i := 5) rfl)
      · skip
        refine zw_aload_n (pc := 13) (n := 0) (x := (d_ + 23)) rfl (zdal_p dlB_Sums_putProduct_27 (i := 7) rfl) ?_
        refine zw_getF (pc := 14) f_Sums_20 rfl ((hf_N2_.w hW).kr (o := 23) (by decide)) ((hf_N2_.w hW).lr (o := 23) (s := 2) (r := 26) (by decide)) (zdal_p dlB_Sums_putProduct_27 (i := 8) rfl) ?_
        refine zw_iload_n (pc := 17) (n := 3) (x := Int32.ofInt u1_) rfl (zdal_p dlB_Sums_putProduct_27 (i := 9) rfl) ?_
        refine zw_aload_n (pc := 18) (n := 0) (x := (d_ + 23)) rfl (zdal_p dlB_Sums_putProduct_27 (i := 10) rfl) ?_
        refine zw_getF (pc := 19) f_Sums_23 rfl ((hf_N2_.w hW).kr (o := 23) (by decide)) ((hf_N2_.w hW).lr (o := 23) (s := 0) (r := 12) (by decide)) (zdal_p dlB_Sums_putProduct_27 (i := 11) rfl) ?_
        refine zw_iload_n (pc := 22) (n := 1) (x := Int32.ofInt a0_) rfl (zdal_p dlB_Sums_putProduct_27 (i := 12) rfl) ?_
        refine zw_iload_n (pc := 23) (n := 3) (x := Int32.ofInt u1_) rfl (zdal_p dlB_Sums_putProduct_27 (i := 13) rfl) ?_
        refine zk_callV hf_N2_.x (pc := 24) [.int (Int32.ofInt a0_), .int (Int32.ofInt u1_)] [.int (Int32.ofInt u1_), .ref (d_ + 26)] l_Sums_54 (u_Sorts_markAtX l d_ N2_ (hf_N2_.w hW) a0_ ha0_a ha0_b u1_ hu1_a hu1_b) rfl rfl ((hf_N2_.w hW).kr (o := 12) (by decide)) (by decide) (by decide) (Nat.le_of_ble_eq_true rfl) (zdal_p dlB_Sums_putProduct_27 (i := 14) rfl) ?_
        rintro _ N8_ ⟨v9_, rfl, ⟨hv9_a, hv9_b⟩, hsN8_, -⟩
        obtain rfl := hsN8_.eq.symm
        show zW l m_Sums_putProduct (zn Mz + 0, zw Mz + 0) N2_ 27 [some (.ref (d_ + 23)), some (.int (Int32.ofInt a0_)), some (.int (Int32.ofInt a1_)), some (.int (Int32.ofInt u1_))] [.int (Int32.ofInt v9_), .int (Int32.ofInt u1_), .ref (d_ + 26)] _
        refine zr_i2l (pc := 27) ⟨hv9_a, hv9_b⟩ (zdal_p dlB_Sums_putProduct_27 (i := 15) rfl) ?_
        refine zw_aload_n (pc := 28) (n := 0) (x := (d_ + 23)) rfl (zdal_p dlB_Sums_putProduct_27 (i := 16) rfl) ?_
        refine zw_getF (pc := 29) f_Sums_23 rfl ((hf_N2_.w hW).kr (o := 23) (by decide)) ((hf_N2_.w hW).lr (o := 23) (s := 0) (r := 12) (by decide)) (zdal_p dlB_Sums_putProduct_27 (i := 17) rfl) ?_
        refine zw_iload_n (pc := 32) (n := 2) (x := Int32.ofInt a1_) rfl (zdal_p dlB_Sums_putProduct_27 (i := 18) rfl) ?_
        refine zw_iload_n (pc := 33) (n := 3) (x := Int32.ofInt u1_) rfl (zdal_p dlB_Sums_putProduct_27 (i := 19) rfl) ?_
        refine zk_callV hf_N2_.x (pc := 34) [.int (Int32.ofInt a1_), .int (Int32.ofInt u1_)] [.long (Int64.ofInt v9_), .int (Int32.ofInt u1_), .ref (d_ + 26)] l_Sums_54 (u_Sorts_markAtX l d_ N2_ (hf_N2_.w hW) a1_ ha1_a ha1_b u1_ hu1_a hu1_b) rfl rfl ((hf_N2_.w hW).kr (o := 12) (by decide)) (by decide) (by decide) (Nat.le_of_ble_eq_true rfl) (zdal_p dlB_Sums_putProduct_27 (i := 20) rfl) ?_
        rintro _ N10_ ⟨v11_, rfl, ⟨hv11_a, hv11_b⟩, hsN10_, -⟩
        obtain rfl := hsN10_.eq.symm
        show zW l m_Sums_putProduct (zn Mz + 0, zw Mz + 0) N2_ 37 [some (.ref (d_ + 23)), some (.int (Int32.ofInt a0_)), some (.int (Int32.ofInt a1_)), some (.int (Int32.ofInt u1_))] [.int (Int32.ofInt v11_), .long (Int64.ofInt v9_), .int (Int32.ofInt u1_), .ref (d_ + 26)] _
        refine zr_i2l (pc := 37) ⟨hv11_a, hv11_b⟩ (zdal_p dlB_Sums_putProduct_27 (i := 21) rfl) ?_
        refine zr_lmul (pc := 38) (zdal_p dlB_Sums_putProduct_27 (i := 22) rfl) ?_
        refine zr_nmJ (fun v12_ hv12_ => ?_)
        obtain ⟨hv12_a, hv12_b⟩ := hv12_
        refine zk_stGJ hf_N2_.x (pc := 39) (o := 27) (by decide) l_Sums_31 ((hf_N2_.w hW).kr (o := 26) (by decide)) ((hf_N2_.w hW).lr (o := 26) (s := 0) (r := 27) (by decide)) ((hf_N2_.w hW).rr (o := 27) (t := 2) (n := 27) (by decide)) (by decide) ⟨by omega, by omega⟩ (by decide) (Nat.le_of_ble_eq_true rfl) (zdal_p dlB_Sums_putProduct_27 (i := 23) rfl) (fun N13_ hsN13_ => ?_)
        have hf_N13_ : zFc d_ [] [] [] [25, 27] Mz N13_ := hf_N2_.tr hsN13_ (by decide) (by decide) (by decide) (by decide)
        have hb0_N13_ : zFc d_ [] [] [] [27] Mz N13_ := hs3_.tr hsN13_ (by decide) (by decide) (by decide) (by decide)
        refine zr_iinc (pc := 42) (i := 3) (a := u1_) (n := 1) (L2 := [some (.ref (d_ + 23)), some (.int (Int32.ofInt a0_)), some (.int (Int32.ofInt a1_)), some (.int (Int32.ofInt (u1_ + 1)))]) rfl (by decide) rfl (zdal_p dlB_Sums_putProduct_28 (i := 0) rfl) ?_
        obtain ⟨v14_, hv14_a, hv14_b, hv14_e, hv14_d⟩ := zk_gen (u1_ + 1)
        rw [hv14_e]
        refine zw_goto (pc := 45) (tgt := 2) (by decide) (zdal_p dlB_Sums_putProduct_28 (i := 1) rfl) ?_
        exact ih_2 v14_ hv14_a hv14_b N13_ hb0_N13_ (show 0 ≤ v14_ by first | with_reducible assumption | assumption | omega) (by omega)
  exact lp_2 _ 0 (by decide) (by decide) Mz zFc.rf (show 0 ≤ (0 : Int) by first | with_reducible assumption | assumption | omega) (Nat.lt_succ_self _)
