set_option maxHeartbeats 4000000 in
theorem u_Sorts_hasSortG (l : Launch) (d_ : Nat) (Mz : zMem) (hW : zKW d_ Mz) (a0_ : Int) (ha0_a : -2147483648 ≤ a0_) (ha0_b : a0_ < 2147483648) : zC l m_Sorts_hasSort 0 0 [.ref (d_ + 12), .int (Int32.ofInt a0_)] Mz (zqcI d_ [] [] [] [] Mz (fun v N => (((v = 1 ∧ 0 ≤ a0_ ∧ a0_ < ze Mz (d_ + 12) 7) ∨ (v = 0 ∧ (a0_ < 0 ∨ ze Mz (d_ + 12) 7 ≤ a0_)))))) := by
  refine zC_of (L0 := [some (.ref (d_ + 12)), some (.int (Int32.ofInt a0_))]) md_Sorts_hasSort (Nat.le_of_ble_eq_true rfl) rfl ?_ zQ0
  have hf : zFc d_ [] [] [] [] Mz Mz := zFc.rf
  have r_D12_7 := ze_r Mz (d_ + 12) 7
  refine zw_iload_n (pc := 0) (n := 1) (x := Int32.ofInt a0_) rfl (zdal_p dlB_Sorts_hasSort_17 (i := 0) rfl) ?_
  refine zr_if_lt (pc := 1) (tgt := 16) ⟨ha0_a, ha0_b⟩ (by decide) (zdal_p dlB_Sorts_hasSort_17 (i := 1) rfl) (fun hc_1 => ?_) (fun hc_1 => ?_)
  · skip
    refine zw_iconst (pc := 16) (v := Int32.ofInt 0) (by decide) (zdal_p dlB_Sorts_hasSort_17 (i := 8) rfl) ?_
    exact zk_iret (pc := 17) (ty := .boolean) rfl (z_narB (by omega)) ⟨by omega, by omega⟩ hf (show ((0 = 1 ∧ 0 ≤ a0_ ∧ a0_ < ze Mz (d_ + 12) 7) ∨ (0 = 0 ∧ (a0_ < 0 ∨ ze Mz (d_ + 12) 7 ≤ a0_))) from Or.inr (⟨(show 0 = 0 by first | with_reducible assumption | assumption | omega), (show (a0_ < 0 ∨ ze Mz (d_ + 12) 7 ≤ a0_) by first | with_reducible assumption | assumption | omega)⟩)) d_Sorts_hasSort_17
  · skip
    refine zw_iload_n (pc := 4) (n := 1) (x := Int32.ofInt a0_) rfl (zdal_p dlB_Sorts_hasSort_17 (i := 2) rfl) ?_
    refine zw_aload_n (pc := 5) (n := 0) (x := (d_ + 12)) rfl (zdal_p dlB_Sorts_hasSort_17 (i := 3) rfl) ?_
    refine zk_getI (pc := 6) f_Sorts_83 rfl ((hf.w hW).kr (o := 12) (by decide)) (zdal_p dlB_Sorts_hasSort_17 (i := 4) rfl) ?_
    refine zr_icmp_ge (pc := 9) (tgt := 16) ⟨ha0_a, ha0_b⟩ ⟨(ze_r Mz (d_ + 12) 7).1, (ze_r Mz (d_ + 12) 7).2⟩ (by decide) (zdal_p dlB_Sorts_hasSort_17 (i := 5) rfl) (fun hc_9 => ?_) (fun hc_9 => ?_)
    · skip
      refine zw_iconst (pc := 16) (v := Int32.ofInt 0) (by decide) (zdal_p dlB_Sorts_hasSort_17 (i := 8) rfl) ?_
      exact zk_iret (pc := 17) (ty := .boolean) rfl (z_narB (by omega)) ⟨by omega, by omega⟩ hf (show ((0 = 1 ∧ 0 ≤ a0_ ∧ a0_ < ze Mz (d_ + 12) 7) ∨ (0 = 0 ∧ (a0_ < 0 ∨ ze Mz (d_ + 12) 7 ≤ a0_))) from Or.inr (⟨(show 0 = 0 by first | with_reducible assumption | assumption | omega), (show (a0_ < 0 ∨ ze Mz (d_ + 12) 7 ≤ a0_) by first | with_reducible assumption | assumption | omega)⟩)) d_Sorts_hasSort_17
    · skip
      refine zw_iconst (pc := 12) (v := Int32.ofInt 1) (by decide) (zdal_p dlB_Sorts_hasSort_17 (i := 6) rfl) ?_
      refine zw_goto (pc := 13) (tgt := 17) (by decide) (zdal_p dlB_Sorts_hasSort_17 (i := 7) rfl) ?_
      exact zk_iret (pc := 17) (ty := .boolean) rfl (z_narB (by omega)) ⟨by omega, by omega⟩ hf (show ((1 = 1 ∧ 0 ≤ a0_ ∧ a0_ < ze Mz (d_ + 12) 7) ∨ (1 = 0 ∧ (a0_ < 0 ∨ ze Mz (d_ + 12) 7 ≤ a0_))) from Or.inl (⟨(show 1 = 1 by first | with_reducible assumption | assumption | omega), (show 0 ≤ a0_ by first | with_reducible assumption | assumption | omega), (show a0_ < ze Mz (d_ + 12) 7 by first | with_reducible assumption | assumption | omega)⟩)) d_Sorts_hasSort_17
