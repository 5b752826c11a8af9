set_option maxHeartbeats 4000000 in
theorem u_Group_everyoneG (l : Launch) (d_ : Nat) (Mz : zMem) (hW : zKW d_ Mz) (T_ : zGT) (hT_ : T_ ∈ gTabs) (p0_ : zTt T_ d_ Mz) : zC l m_Group_everyone 0 0 [.ref (d_ + 1)] Mz (zqcI d_ [] [] [] [] Mz (fun v N => v = ((2 ^ gN T_ - 1 : Nat) : Int) ∧ 0 ≤ v ∧ v < 16777216)) := by
  refine zC_of (L0 := [some (.ref (d_ + 1))]) md_Group_everyone (Nat.le_of_ble_eq_true rfl) rfl ?_ zQ0
  have hf : zFc d_ [] [] [] [] Mz Mz := zFc.rf
  have r_D1_7 := ze_r Mz (d_ + 1) 7
  have hO_ := gTabs_ok T_ hT_
  have hG_ := hO_.1
  have hn24_ := hG_.2.1
  have hn1_ := hG_.1
  have hsz_ := p0_.1
  have hsh_ := zshl_b hG_ hsz_
  refine zw_iconst (pc := 0) (v := Int32.ofInt 1) (by decide) (zdal_p dlA_Group_everyone_167 (i := 0) rfl) ?_
  refine zw_aload_n (pc := 1) (n := 0) (x := (d_ + 1)) rfl (zdal_p dlA_Group_everyone_167 (i := 1) rfl) ?_
  refine zk_getI (pc := 2) f_Group_39 rfl ((hf.w hW).kr (o := 1) (by decide)) (zdal_p dlA_Group_everyone_167 (i := 2) rfl) ?_
  refine zr_ishl (pc := 5) (zdal_p dlA_Group_everyone_167 (i := 3) rfl) ?_
  have hr1_ := zshl_r 1 (ze Mz (d_ + 1) 7)
  refine zw_iconst (pc := 6) (v := Int32.ofInt 1) (by decide) (zdal_p dlA_Group_everyone_167 (i := 4) rfl) ?_
  refine zr_isub (pc := 7) (zdal_p dlA_Group_everyone_167 (i := 5) rfl) ?_
  exact zk_iret (pc := 8) (ty := .int) rfl rfl ⟨by omega, by omega⟩ hf ⟨(show ((zshl 1 (ze Mz (d_ + 1) 7)) - 1) = ((2 ^ gN T_ - 1 : Nat) : Int) by omega), (show 0 ≤ ((zshl 1 (ze Mz (d_ + 1) 7)) - 1) by first | with_reducible assumption | assumption | omega), (show ((zshl 1 (ze Mz (d_ + 1) 7)) - 1) < 16777216 by first | with_reducible assumption | assumption | omega)⟩ (zdal_p dlA_Group_everyone_167 (i := 6) rfl)
