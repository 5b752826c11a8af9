set_option maxHeartbeats 4000000 in
theorem c_M_fault (l : Launch) (Mz : zMem) (hW : zMt Mz) (a0_ : Int) (ha0_a : -2147483648 ≤ a0_) (ha0_b : a0_ < 2147483648) : zC l m_M_fault 0 0 [.ref 81, .int (Int32.ofInt a0_)] Mz (zpI [] [] Mz (fun v N => True)) := by
  refine zC_of (L0 := [some (.ref 81), some (.int (Int32.ofInt a0_))]) md_M_fault (Nat.le_of_ble_eq_true rfl) rfl ?_ zQ0
  have hf : zFr [] [] Mz Mz := zFr.rf
  have r_9 := ze_r Mz 81 9
  have r_10 := ze_r Mz 81 10
  refine zw_iload_n (pc := 0) (n := 1) (x := Int32.ofInt a0_) rfl d_M_fault_0 ?_
  refine zr_if_ne (pc := 1) (tgt := 11) ⟨ha0_a, ha0_b⟩ (by decide) d_M_fault_1 (fun hc_1 => ?_) (fun hc_1 => ?_)
  · skip
    refine zw_iload_n (pc := 11) (n := 1) (x := Int32.ofInt a0_) rfl d_M_fault_11 ?_
    refine zw_iconst (pc := 12) (v := Int32.ofInt 1) (by decide) d_M_fault_12 ?_
    refine zr_icmp_ne (pc := 13) (tgt := 23) ⟨ha0_a, ha0_b⟩ ⟨(by decide), (by decide)⟩ (by decide) d_M_fault_13 (fun hc_13 => ?_) (fun hc_13 => ?_)
    · skip
      refine zw_iconst (pc := 23) (v := Int32.ofInt (-1)) (by decide) d_M_fault_23 ?_
      exact zr_iret (pc := 24) (ty := .int) rfl rfl ⟨by omega, by omega⟩ hf trivial d_M_fault_24
    · skip
      refine zw_aload_n (pc := 16) (n := 0) (x := 81) rfl d_M_fault_16 ?_
      refine zr_getI0 hf hW (pc := 17) (by decide) f_M_17 rfl d_M_fault_17 ?_
      refine zw_goto (pc := 20) (tgt := 24) (by decide) d_M_fault_20 ?_
      exact zr_iret (pc := 24) (ty := .int) rfl rfl ⟨by omega, by omega⟩ hf trivial d_M_fault_24
  · skip
    refine zw_aload_n (pc := 4) (n := 0) (x := 81) rfl d_M_fault_4 ?_
    refine zr_getI0 hf hW (pc := 5) (by decide) f_M_379 rfl d_M_fault_5 ?_
    refine zw_goto (pc := 8) (tgt := 24) (by decide) d_M_fault_8 ?_
    exact zr_iret (pc := 24) (ty := .int) rfl rfl ⟨by omega, by omega⟩ hf trivial d_M_fault_24
set_option maxHeartbeats 4000000 in
theorem c_M_tells (l : Launch) (Mz : zMem) (hW : zMt Mz) : zC l m_M_tells 0 0 [.ref 81] Mz (zpV [9, 10] [] Mz (fun N => True)) := by
  refine zC_of (L0 := [some (.ref 81)]) md_M_tells (Nat.le_of_ble_eq_true rfl) rfl ?_ zQ0
  have hf : zFr [9, 10] [] Mz Mz := zFr.rf
  have r_7 := ze_r Mz 81 7
  have r_8 := ze_r Mz 81 8
  have r_9 := ze_r Mz 81 9
  have r_10 := ze_r Mz 81 10
  refine zw_aload_n (pc := 0) (n := 0) (x := 81) rfl d_M_tells_0 ?_
  refine zw_aload_n (pc := 1) (n := 0) (x := 81) rfl d_M_tells_1 ?_
  refine zr_getI0 hf hW (pc := 2) (by decide) f_M_172 rfl d_M_tells_2 ?_
  refine zr_putI (hf.w hW) (pc := 5) f_M_379 rfl rfl ⟨by omega, by omega⟩ rfl rfl d_M_tells_5 (fun N1_ hsN1_ hvN1_ => ?_)
  have hf_N1_ : zFr [9, 10] [] Mz N1_ := hf.tr hsN1_ (by decide) (by decide)
  have e7_N1_ : ze N1_ 81 7 = ze Mz 81 7 := hsN1_.e (by decide)
  have e8_N1_ : ze N1_ 81 8 = ze Mz 81 8 := hsN1_.e (by decide)
  have r9_N1_ := ze_r N1_ 81 9
  have e10_N1_ : ze N1_ 81 10 = ze Mz 81 10 := hsN1_.e (by decide)
  refine zw_aload_n (pc := 8) (n := 0) (x := 81) rfl d_M_tells_8 ?_
  refine zw_aload_n (pc := 9) (n := 0) (x := 81) rfl d_M_tells_9 ?_
  refine zr_getI0 hf_N1_ hW (pc := 10) (by decide) f_M_13 rfl d_M_tells_10 ?_
  refine zr_putI (hf_N1_.w hW) (pc := 13) f_M_17 rfl rfl ⟨by omega, by omega⟩ rfl rfl d_M_tells_13 (fun N2_ hsN2_ hvN2_ => ?_)
  have hf_N2_ : zFr [9, 10] [] Mz N2_ := hf_N1_.tr hsN2_ (by decide) (by decide)
  have e7_N2_ : ze N2_ 81 7 = ze N1_ 81 7 := hsN2_.e (by decide)
  have e8_N2_ : ze N2_ 81 8 = ze N1_ 81 8 := hsN2_.e (by decide)
  have e9_N2_ : ze N2_ 81 9 = ze N1_ 81 9 := hsN2_.e (by decide)
  have r10_N2_ := ze_r N2_ 81 10
  exact zr_vret (pc := 16) rfl hf_N2_ trivial d_M_tells_16
