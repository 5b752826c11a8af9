set_option maxHeartbeats 4000000 in
theorem u_Units_forget (l : Launch) (d_ : Nat) (Mz : zMem) (hW : zKW d_ Mz) : zC l m_Units_forget 0 0 [.ref (d_ + 28)] Mz (zqcV d_ [] [] [(28, 4)] [] Mz (fun N => True)) := by
  refine zC_of (L0 := [some (.ref (d_ + 28))]) md_Units_forget (Nat.le_of_ble_eq_true rfl) rfl ?_ zQ0
  have hf : zFc d_ [] [] [(28, 4)] [] Mz Mz := zFc.rf
  have r_D28_4 := ze_r Mz (d_ + 28) 4
  refine zw_aload_n (pc := 0) (n := 0) (x := (d_ + 28)) rfl d_Units_forget_0 ?_
  refine zw_iconst (pc := 1) (v := Int32.ofInt 0) (by decide) d_Units_forget_1 ?_
  refine zk_putR (pc := 2) (o := 28) (by decide) f_Units_27 rfl rfl ((hf.w hW).kr (o := 28) (by decide)) ⟨by omega, by omega⟩ (z_narB (by omega)) (z_fitB (by omega)) d_Units_forget_2 (fun N1_ hsN1_ hvN1_ => ?_)
  have hf_N1_ : zFc d_ [] [] [(28, 4)] [] Mz N1_ := hf.tr hsN1_ (by decide) (by decide) (by decide) (by decide)
  have rD28_4_N1_ := ze_r N1_ (d_ + 28) 4
  exact zk_vret (pc := 5) rfl hf_N1_ trivial d_Units_forget_5
