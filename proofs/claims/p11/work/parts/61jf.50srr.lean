set_option maxHeartbeats 4000000 in
theorem c_M_areMembersG (l : Launch) (Mz : zMem) (hW : zMt Mz) (a0_ : Int) (ha0_a : -2147483648 ≤ a0_) (ha0_b : a0_ < 2147483648) (T : zGT) (hO : gOK T) (p0_ : zGB T Mz) : zC l m_M_areMembers 0 0 [.ref 81, .int (Int32.ofInt a0_)] Mz (zpI [] [] Mz (fun v N => (((v = 1 ∧ gIn T a0_) ∨ (v = 0 ∧ ¬ gIn T a0_))))) := by
  refine zC_of (L0 := [some (.ref 81), some (.int (Int32.ofInt a0_))]) md_M_areMembers (Nat.le_of_ble_eq_true rfl) rfl ?_ zQ0
  have hf : zFr [] [] Mz Mz := zFr.rf
  have r_20 := ze_r Mz 81 20
  have hG := hO.1
  have g24 := hG.2.1
  have g1 := hG.1
  have dv0 : zTab T Mz := p0_.1
  have dv1 : zB 85 144 0 5 Mz := p0_.2.1
  have dv2 : zJX T Mz := p0_.2.2.1
  have dv3 : zFirs T Mz := p0_.2.2.2.1
  have dv4 : zSSm T Mz := p0_.2.2.2.2.1
  have dv5 : zGD Mz := zGB.d hO p0_
  have gb := dv5.1
  have gn := dv0.1
  refine zw_iload_n (pc := 0) (n := 1) (x := Int32.ofInt a0_) rfl (zdal_p dlD_M_areMembers_11 (i := 0) rfl) ?_
  refine zr_i2l (pc := 1) ⟨ha0_a, ha0_b⟩ (zdal_p dlD_M_areMembers_11 (i := 1) rfl) ?_
  refine zw_lconst (pc := 2) (v := Int64.ofInt 0) (by decide) (zdal_p dlD_M_areMembers_11 (i := 2) rfl) ?_
  refine zw_iconst (pc := 3) (v := Int32.ofInt 1) (by decide) (zdal_p dlD_M_areMembers_11 (i := 3) rfl) ?_
  refine zw_aload_n (pc := 4) (n := 0) (x := 81) rfl (zdal_p dlD_M_areMembers_11 (i := 4) rfl) ?_
  refine zr_getI0 hf hW (pc := 5) (by decide) f_M_196 rfl (zdal_p dlD_M_areMembers_11 (i := 5) rfl) ?_
  refine zr_ishl (pc := 8) (zdal_p dlD_M_areMembers_11 (i := 6) rfl) ?_
  have hr1_ := zshl_r 1 (ze Mz 81 20)
  have hsh := zshl_b hG gn
  refine zw_iconst (pc := 9) (v := Int32.ofInt 1) (by decide) (zdal_p dlD_M_areMembers_11 (i := 7) rfl) ?_
  refine zr_isub (pc := 10) (zdal_p dlD_M_areMembers_11 (i := 8) rfl) ?_
  refine zr_i2l (pc := 11) ⟨(by omega), (by omega)⟩ (zdal_p dlD_M_areMembers_11 (i := 9) rfl) ?_
  refine zr_callS hf.x (pc := 12) [.long (Int64.ofInt a0_), .long (Int64.ofInt 0), .long (Int64.ofInt ((zshl 1 (ze Mz 81 20)) - 1))] [] l_M_131 (c_M_isIn l Mz (hf.w hW) a0_ (by omega) (by omega) 0 (by decide) (by decide) ((zshl 1 (ze Mz 81 20)) - 1) (by omega) (by omega)) rfl rfl (by decide) (Nat.le_of_ble_eq_true rfl) (zdal_p dlD_M_areMembers_11 (i := 10) rfl) ?_
  rintro _ N2_ ⟨v3_, rfl, ⟨hv3_a, hv3_b⟩, hsN2_, hp0_N2_⟩
  obtain rfl := hsN2_.eq.symm
  replace hp0_N2_ : ((v3_ = 1 ∧ 0 ≤ a0_ ∧ a0_ ≤ ((zshl 1 (ze Mz 81 20)) - 1)) ∨ (v3_ = 0 ∧ (a0_ < 0 ∨ ((zshl 1 (ze Mz 81 20)) - 1) < a0_))) := hp0_N2_
  rcases hp0_N2_ with ⟨rfl, ha12_0_hp0_N2_, ha12_1_hp0_N2_⟩ | ⟨rfl, ha12_0_hp0_N2_⟩
  · skip
    show zW l m_M_areMembers (zn Mz + 0, zw Mz + 0) Mz 15 [some (.ref 81), some (.int (Int32.ofInt a0_))] [.int (Int32.ofInt 1)] _
    exact zr_iret (pc := 15) (ty := .boolean) rfl (z_narB (by omega)) ⟨by omega, by omega⟩ hf (show ((1 = 1 ∧ gIn T a0_) ∨ (1 = 0 ∧ ¬ gIn T a0_)) from Or.inl (⟨(show 1 = 1 by first | omega | exact ⟨by omega, by omega⟩), (show gIn T a0_ by first | omega | exact ⟨by omega, by omega⟩)⟩)) (zdal_p dlD_M_areMembers_11 (i := 11) rfl)
  · skip
    show zW l m_M_areMembers (zn Mz + 0, zw Mz + 0) Mz 15 [some (.ref 81), some (.int (Int32.ofInt a0_))] [.int (Int32.ofInt 0)] _
    exact zr_iret (pc := 15) (ty := .boolean) rfl (z_narB (by omega)) ⟨by omega, by omega⟩ hf (show ((0 = 1 ∧ gIn T a0_) ∨ (0 = 0 ∧ ¬ gIn T a0_)) from Or.inr (⟨(show 0 = 0 by first | omega | exact fun q_ => by have h1_ := q_.1; have h2_ := q_.2; omega), (show ¬ gIn T a0_ by first | omega | exact fun q_ => by have h1_ := q_.1; have h2_ := q_.2; omega)⟩)) (zdal_p dlD_M_areMembers_11 (i := 11) rfl)
