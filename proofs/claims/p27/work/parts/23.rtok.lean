def zhr (M : zMem) (k : Int) : Int := if ze M 81 3 + k < ze M 81 2 then ze M 82 (ze M 81 3 + k).toNat else -1
def zTv (M : zMem) : Prop := ze M 81 5 = 2 → 0 ≤ ze M 81 6 ∧ ze M 81 6 ≤ 999
theorem zTv.fr {S C : List Nat} {M N : zMem} (hf : zFr S C M N) (h : zTv M) (hs : 5 ∉ S ∧ 6 ∉ S) (_ : True) : zTv N := by
  unfold zTv
  rw [hf.e hs.1, hf.e hs.2]
  exact h
set_option maxHeartbeats 4000000 in
theorem c_M_truth (l : Launch) (Mz : zMem) (hW : zMt Mz) (a0_ : Int) (ha0_a : -2147483648 ≤ a0_) (ha0_b : a0_ < 2147483648) (ha0_z : a0_ = 0 ∨ a0_ = 1) : zC l m_M_truth 0 0 [.int (Int32.ofInt a0_)] Mz (zpI [] [] Mz (fun v N => v = a0_)) := by
  refine zC_of (L0 := [some (.int (Int32.ofInt a0_))]) md_M_truth (Nat.le_of_ble_eq_true rfl) rfl ?_ zQ0
  have hf : zFr [] [] Mz Mz := zFr.rf
  refine zw_iload_n (pc := 0) (n := 0) (x := Int32.ofInt a0_) rfl (zdal_p dlC_M_truth_47 (i := 0) rfl) ?_
  refine zr_if_eq (pc := 1) (tgt := 8) ⟨by omega, by omega⟩ (by decide) (zdal_p dlC_M_truth_47 (i := 1) rfl) (fun hc_1 => ?_) (fun hc_1 => ?_)
  · skip
    refine zw_iconst (pc := 8) (v := Int32.ofInt 0) (by decide) (zdal_p dlC_M_truth_47 (i := 4) rfl) ?_
    exact zr_iret (pc := 9) (ty := .int) rfl rfl ⟨by omega, by omega⟩ hf (show 0 = a0_ by omega) (zdal_p dlC_M_truth_47 (i := 5) rfl)
  · skip
    refine zw_iconst (pc := 4) (v := Int32.ofInt 1) (by decide) (zdal_p dlC_M_truth_47 (i := 2) rfl) ?_
    refine zw_goto (pc := 5) (tgt := 9) (by decide) (zdal_p dlC_M_truth_47 (i := 3) rfl) ?_
    exact zr_iret (pc := 9) (ty := .int) rfl rfl ⟨by omega, by omega⟩ hf (show 1 = a0_ by omega) (zdal_p dlC_M_truth_47 (i := 5) rfl)
set_option maxHeartbeats 4000000 in
theorem c_M_isIn (l : Launch) (Mz : zMem) (hW : zMt Mz) (a0_ : Int) (ha0_a : -9223372036854775808 ≤ a0_) (ha0_b : a0_ < 9223372036854775808) (a1_ : Int) (ha1_a : -9223372036854775808 ≤ a1_) (ha1_b : a1_ < 9223372036854775808) (a2_ : Int) (ha2_a : -9223372036854775808 ≤ a2_) (ha2_b : a2_ < 9223372036854775808) : zC l m_M_isIn 0 0 [.long (Int64.ofInt a0_), .long (Int64.ofInt a1_), .long (Int64.ofInt a2_)] Mz (zpI [] [] Mz (fun v N => (((v = 1 ∧ a1_ ≤ a0_ ∧ a0_ ≤ a2_) ∨ (v = 0 ∧ (a0_ < a1_ ∨ a2_ < a0_)))))) := by
  refine zC_of (L0 := [some (.long (Int64.ofInt a0_)), none, some (.long (Int64.ofInt a1_)), none, some (.long (Int64.ofInt a2_)), none]) md_M_isIn (Nat.le_of_ble_eq_true rfl) rfl ?_ zQ0
  have hf : zFr [] [] Mz Mz := zFr.rf
  refine zw_lload_n (pc := 0) (n := 0) (x := Int64.ofInt a0_) rfl (zdal_p dlC_M_isIn_56 (i := 0) rfl) ?_
  refine zw_lload_n (pc := 1) (n := 2) (x := Int64.ofInt a1_) rfl (zdal_p dlC_M_isIn_56 (i := 1) rfl) ?_
  refine zr_lcmp (pc := 2) ⟨by omega, by omega⟩ ⟨by omega, by omega⟩ (zdal_p dlC_M_isIn_56 (i := 2) rfl) ?_
  have hr1_ := zcmp_s a0_ a1_
  refine zr_if_lt (pc := 3) (tgt := 17) ⟨by omega, by omega⟩ (by decide) (zdal_p dlC_M_isIn_56 (i := 3) rfl) (fun hc_3 => ?_) (fun hc_3 => ?_)
  · skip
    refine zw_iconst (pc := 17) (v := Int32.ofInt 0) (by decide) (zdal_p dlC_M_isIn_56 (i := 10) rfl) ?_
    exact zr_iret (pc := 18) (ty := .boolean) rfl (z_narB (by omega)) ⟨by omega, by omega⟩ hf (show ((0 = 1 ∧ a1_ ≤ a0_ ∧ a0_ ≤ a2_) ∨ (0 = 0 ∧ (a0_ < a1_ ∨ a2_ < a0_))) from Or.inr (⟨(show 0 = 0 by omega), (show (a0_ < a1_ ∨ a2_ < a0_) by omega)⟩)) (zdal_p dlC_M_isIn_56 (i := 11) rfl)
  · skip
    refine zw_lload_n (pc := 6) (n := 0) (x := Int64.ofInt a0_) rfl (zdal_p dlC_M_isIn_56 (i := 4) rfl) ?_
    refine zw_lload (pc := 7) (i := 4) (x := Int64.ofInt a2_) rfl (zdal_p dlC_M_isIn_56 (i := 5) rfl) ?_
    refine zr_lcmp (pc := 9) ⟨by omega, by omega⟩ ⟨by omega, by omega⟩ (zdal_p dlC_M_isIn_56 (i := 6) rfl) ?_
    have hr2_ := zcmp_s a0_ a2_
    refine zr_if_gt (pc := 10) (tgt := 17) ⟨by omega, by omega⟩ (by decide) (zdal_p dlC_M_isIn_56 (i := 7) rfl) (fun hc_10 => ?_) (fun hc_10 => ?_)
    · skip
      refine zw_iconst (pc := 17) (v := Int32.ofInt 0) (by decide) (zdal_p dlC_M_isIn_56 (i := 10) rfl) ?_
      exact zr_iret (pc := 18) (ty := .boolean) rfl (z_narB (by omega)) ⟨by omega, by omega⟩ hf (show ((0 = 1 ∧ a1_ ≤ a0_ ∧ a0_ ≤ a2_) ∨ (0 = 0 ∧ (a0_ < a1_ ∨ a2_ < a0_))) from Or.inr (⟨(show 0 = 0 by omega), (show (a0_ < a1_ ∨ a2_ < a0_) by omega)⟩)) (zdal_p dlC_M_isIn_56 (i := 11) rfl)
    · skip
      refine zw_iconst (pc := 13) (v := Int32.ofInt 1) (by decide) (zdal_p dlC_M_isIn_56 (i := 8) rfl) ?_
      refine zw_goto (pc := 14) (tgt := 18) (by decide) (zdal_p dlC_M_isIn_56 (i := 9) rfl) ?_
      exact zr_iret (pc := 18) (ty := .boolean) rfl (z_narB (by omega)) ⟨by omega, by omega⟩ hf (show ((1 = 1 ∧ a1_ ≤ a0_ ∧ a0_ ≤ a2_) ∨ (1 = 0 ∧ (a0_ < a1_ ∨ a2_ < a0_))) from Or.inl (⟨(show 1 = 1 by omega), (show a1_ ≤ a0_ by omega), (show a0_ ≤ a2_ by omega)⟩)) (zdal_p dlC_M_isIn_56 (i := 11) rfl)
set_option maxHeartbeats 4000000 in
theorem c_M_end (l : Launch) (Mz : zMem) (hW : zMt Mz) (a0_ : Int) (ha0_a : -2147483648 ≤ a0_) (ha0_b : a0_ < 2147483648) (p0_ : 0 ≤ ze Mz 81 1) (p1_ : ze Mz 81 1 ≤ 700) : zC l m_M_end 0 0 [.ref 81, .int (Int32.ofInt a0_)] Mz (zpI [1] [] Mz (fun v N => ((((a0_ < 0 ∨ ze Mz 81 1 < a0_) ∧ v = -1 ∧ ze N 81 1 = ze Mz 81 1) ∨ (0 ≤ a0_ ∧ a0_ ≤ ze Mz 81 1 ∧ v = a0_ ∧ ze N 81 1 = a0_))))) := by
  refine zC_of (L0 := [some (.ref 81), some (.int (Int32.ofInt a0_))]) md_M_end (Nat.le_of_ble_eq_true rfl) rfl ?_ zQ0
  have hf : zFr [1] [] Mz Mz := zFr.rf
  have r_1 := ze_r Mz 81 1
  refine zw_iload_n (pc := 0) (n := 1) (x := Int32.ofInt a0_) rfl (zdal_p dlC_M_end_55 (i := 0) rfl) ?_
  refine zr_i2l (pc := 1) ⟨by omega, by omega⟩ (zdal_p dlC_M_end_55 (i := 1) rfl) ?_
  refine zw_lconst (pc := 2) (v := Int64.ofInt 0) (by decide) (zdal_p dlC_M_end_55 (i := 2) rfl) ?_
  refine zw_aload_n (pc := 3) (n := 0) (x := 81) rfl (zdal_p dlC_M_end_55 (i := 3) rfl) ?_
  refine zr_getI (hf.w hW) (pc := 4) f_M_124 rfl (zdal_p dlC_M_end_55 (i := 4) rfl) ?_
  refine zr_i2l (pc := 7) ⟨by omega, by omega⟩ (zdal_p dlC_M_end_55 (i := 5) rfl) ?_
  refine zr_callS hf.x (pc := 8) [.long (Int64.ofInt a0_), .long (Int64.ofInt 0), .long (Int64.ofInt (ze Mz 81 1))] [] l_M_131 (c_M_isIn l Mz (hf.w hW) a0_ (by omega) (by omega) 0 (by omega) (by omega) (ze Mz 81 1) (by omega) (by omega)) rfl rfl (by decide) (Nat.le_of_ble_eq_true rfl) (zdal_p dlC_M_end_55 (i := 6) rfl) ?_
  rintro _ N1_ ⟨v2_, rfl, ⟨hv2_a, hv2_b⟩, hsN1_, hp0_N1_⟩
  obtain rfl := hsN1_.eq.symm
  replace hp0_N1_ : ((v2_ = 1 ∧ 0 ≤ a0_ ∧ a0_ ≤ (ze Mz 81 1)) ∨ (v2_ = 0 ∧ (a0_ < 0 ∨ (ze Mz 81 1) < a0_))) := hp0_N1_
  rcases hp0_N1_ with ⟨rfl, ha8_0_hp0_N1_, ha8_1_hp0_N1_⟩ | ⟨rfl, ha8_0_hp0_N1_⟩
  · skip
    show zW l m_M_end (zn Mz + 0, zw Mz + 0) Mz 11 [some (.ref 81), some (.int (Int32.ofInt a0_))] [.int (Int32.ofInt 1)] _
    refine zr_if_ne (pc := 11) (tgt := 16) ⟨by omega, by omega⟩ (by decide) (zdal_p dlC_M_end_55 (i := 7) rfl) (fun hc_11 => ?_) (fun hc_11 => ?_)
    · skip
      refine zw_aload_n (pc := 16) (n := 0) (x := 81) rfl (zdal_p dlC_M_end_55 (i := 10) rfl) ?_
      refine zw_iload_n (pc := 17) (n := 1) (x := Int32.ofInt a0_) rfl (zdal_p dlC_M_end_55 (i := 11) rfl) ?_
      refine zr_putI (hf.w hW) (pc := 18) f_M_124 rfl rfl ⟨by omega, by omega⟩ rfl rfl (zdal_p dlC_M_end_55 (i := 12) rfl) (fun N3_ hsN3_ hvN3_ => ?_)
      have hf_N3_ : zFr [1] [] Mz N3_ := hf.tr hsN3_ (by decide) (by decide)
      have r1_N3_ := ze_r N3_ 81 1
      refine zw_iload_n (pc := 21) (n := 1) (x := Int32.ofInt a0_) rfl (zdal_p dlC_M_end_55 (i := 13) rfl) ?_
      exact zr_iret (pc := 22) (ty := .int) rfl rfl ⟨by omega, by omega⟩ hf_N3_ (show (((a0_ < 0 ∨ ze Mz 81 1 < a0_) ∧ a0_ = -1 ∧ ze N3_ 81 1 = ze Mz 81 1) ∨ (0 ≤ a0_ ∧ a0_ ≤ ze Mz 81 1 ∧ a0_ = a0_ ∧ ze N3_ 81 1 = a0_)) by omega) (zdal_p dlC_M_end_55 (i := 14) rfl)
    · skip
      exact absurd hc_11 (by decide)
  · skip
    show zW l m_M_end (zn Mz + 0, zw Mz + 0) Mz 11 [some (.ref 81), some (.int (Int32.ofInt a0_))] [.int (Int32.ofInt 0)] _
    refine zr_if_ne (pc := 11) (tgt := 16) ⟨by omega, by omega⟩ (by decide) (zdal_p dlC_M_end_55 (i := 7) rfl) (fun hc_11 => ?_) (fun hc_11 => ?_)
    · skip
      exact absurd hc_11 (by decide)
    · skip
      refine zw_iconst (pc := 14) (v := Int32.ofInt (-1)) (by decide) (zdal_p dlC_M_end_55 (i := 8) rfl) ?_
      exact zr_iret (pc := 15) (ty := .int) rfl rfl ⟨by omega, by omega⟩ hf (show (((a0_ < 0 ∨ ze Mz 81 1 < a0_) ∧ ((-1)) = -1 ∧ ze Mz 81 1 = ze Mz 81 1) ∨ (0 ≤ a0_ ∧ a0_ ≤ ze Mz 81 1 ∧ ((-1)) = a0_ ∧ ze Mz 81 1 = a0_)) by omega) (zdal_p dlC_M_end_55 (i := 9) rfl)
set_option maxHeartbeats 4000000 in
theorem c_M_here (l : Launch) (Mz : zMem) (hW : zMt Mz) (a0_ : Int) (ha0_a : -2147483648 ≤ a0_) (ha0_b : a0_ < 2147483648) (p0_ : 0 ≤ ze Mz 81 3 + a0_) (p1_ : ze Mz 81 3 ≤ 700) (p2_ : a0_ ≤ 1000) (p3_ : ze Mz 81 2 ≤ 700) : zC l m_M_here 0 0 [.ref 81, .int (Int32.ofInt a0_)] Mz (zpI [] [] Mz (fun v N => (((v = -1 ∧ ze Mz 81 2 ≤ ze Mz 81 3 + a0_) ∨ ze Mz 81 3 + a0_ < ze Mz 81 2)) ∧ v = zhr Mz a0_)) := by
  refine zC_of (L0 := [some (.ref 81), some (.int (Int32.ofInt a0_))]) md_M_here (Nat.le_of_ble_eq_true rfl) rfl ?_ zQ0
  have hf : zFr [] [] Mz Mz := zFr.rf
  have r_2 := ze_r Mz 81 2
  have r_3 := ze_r Mz 81 3
  refine zw_aload_n (pc := 0) (n := 0) (x := 81) rfl (zdal_p dlC_M_here_66 (i := 0) rfl) ?_
  refine zr_getI0 hf hW (pc := 1) (by decide) f_M_135 rfl (zdal_p dlC_M_here_66 (i := 1) rfl) ?_
  refine zw_iload_n (pc := 4) (n := 1) (x := Int32.ofInt a0_) rfl (zdal_p dlC_M_here_66 (i := 2) rfl) ?_
  refine zr_iadd (pc := 5) (zdal_p dlC_M_here_66 (i := 3) rfl) ?_
  refine zw_aload_n (pc := 6) (n := 0) (x := 81) rfl (zdal_p dlC_M_here_66 (i := 4) rfl) ?_
  refine zr_getI0 hf hW (pc := 7) (by decide) f_M_138 rfl (zdal_p dlC_M_here_66 (i := 5) rfl) ?_
  refine zr_icmp_ge (pc := 10) (tgt := 27) ⟨by omega, by omega⟩ ⟨by omega, by omega⟩ (by decide) (zdal_p dlC_M_here_66 (i := 6) rfl) (fun hc_10 => ?_) (fun hc_10 => ?_)
  · skip
    refine zw_iconst (pc := 27) (v := Int32.ofInt (-1)) (by decide) (zdal_p dlC_M_here_66 (i := 15) rfl) ?_
    exact zr_iret (pc := 28) (ty := .int) rfl rfl ⟨by omega, by omega⟩ hf ⟨(show ((((-1)) = -1 ∧ ze Mz 81 2 ≤ ze Mz 81 3 + a0_) ∨ ze Mz 81 3 + a0_ < ze Mz 81 2) by omega), (show ((-1)) = zhr Mz a0_ by unfold zhr; split <;> omega)⟩ (zdal_p dlC_M_here_66 (i := 16) rfl)
  · skip
    refine zw_aload_n (pc := 13) (n := 0) (x := 81) rfl (zdal_p dlC_M_here_66 (i := 7) rfl) ?_
    refine zr_getF (r := 82) (hf.w hW) (pc := 14) f_M_7 rfl (zh_82 (hf.w hW)).1 (zdal_p dlC_M_here_66 (i := 8) rfl) ?_
    refine zw_aload_n (pc := 17) (n := 0) (x := 81) rfl (zdal_p dlC_M_here_66 (i := 9) rfl) ?_
    refine zr_getI0 hf hW (pc := 18) (by decide) f_M_135 rfl (zdal_p dlC_M_here_66 (i := 10) rfl) ?_
    refine zw_iload_n (pc := 21) (n := 1) (x := Int32.ofInt a0_) rfl (zdal_p dlC_M_here_66 (i := 11) rfl) ?_
    refine zr_iadd (pc := 22) (zdal_p dlC_M_here_66 (i := 12) rfl) ?_
    refine zr_ialdn (pc := 23) (zh_82 (hf.w hW)).2 (by decide) (by omega) (by omega) (zdal_p dlC_M_here_66 (i := 13) rfl) (fun v1_ hv1_ hv1_a hv1_b => ?_)
    refine zw_goto (pc := 24) (tgt := 28) (by decide) (zdal_p dlC_M_here_66 (i := 14) rfl) ?_
    exact zr_iret (pc := 28) (ty := .int) rfl rfl ⟨by omega, by omega⟩ hf ⟨(show ((v1_ = -1 ∧ ze Mz 81 2 ≤ ze Mz 81 3 + a0_) ∨ ze Mz 81 3 + a0_ < ze Mz 81 2) by omega), (show v1_ = zhr Mz a0_ by unfold zhr; split <;> omega)⟩ (zdal_p dlC_M_here_66 (i := 16) rfl)
set_option maxHeartbeats 4000000 in
theorem c_M_isLetter (l : Launch) (Mz : zMem) (hW : zMt Mz) (a0_ : Int) (ha0_a : -2147483648 ≤ a0_) (ha0_b : a0_ < 2147483648) : zC l m_M_isLetter 0 0 [.int (Int32.ofInt a0_)] Mz (zpI [] [] Mz (fun v N => (((v = 1 ∧ 97 ≤ a0_ ∧ a0_ ≤ 122) ∨ (v = 0 ∧ (a0_ < 97 ∨ 122 < a0_)))))) := by
  refine zC_of (L0 := [some (.int (Int32.ofInt a0_))]) md_M_isLetter (Nat.le_of_ble_eq_true rfl) rfl ?_ zQ0
  have hf : zFr [] [] Mz Mz := zFr.rf
  refine zw_iload_n (pc := 0) (n := 0) (x := Int32.ofInt a0_) rfl (zdal_p dlC_M_isLetter_67 (i := 0) rfl) ?_
  refine zw_bipush (pc := 1) (v := Int32.ofInt 97) (by decide) (zdal_p dlC_M_isLetter_67 (i := 1) rfl) ?_
  refine zr_icmp_lt (pc := 3) (tgt := 16) ⟨by omega, by omega⟩ ⟨by omega, by omega⟩ (by decide) (zdal_p dlC_M_isLetter_67 (i := 2) rfl) (fun hc_3 => ?_) (fun hc_3 => ?_)
  · skip
    refine zw_iconst (pc := 16) (v := Int32.ofInt 0) (by decide) (zdal_p dlC_M_isLetter_67 (i := 8) rfl) ?_
    exact zr_iret (pc := 17) (ty := .boolean) rfl (z_narB (by omega)) ⟨by omega, by omega⟩ hf (show ((0 = 1 ∧ 97 ≤ a0_ ∧ a0_ ≤ 122) ∨ (0 = 0 ∧ (a0_ < 97 ∨ 122 < a0_))) from Or.inr (⟨(show 0 = 0 by omega), (show (a0_ < 97 ∨ 122 < a0_) by omega)⟩)) (zdal_p dlC_M_isLetter_67 (i := 9) rfl)
  · skip
    refine zw_iload_n (pc := 6) (n := 0) (x := Int32.ofInt a0_) rfl (zdal_p dlC_M_isLetter_67 (i := 3) rfl) ?_
    refine zw_bipush (pc := 7) (v := Int32.ofInt 122) (by decide) (zdal_p dlC_M_isLetter_67 (i := 4) rfl) ?_
    refine zr_icmp_gt (pc := 9) (tgt := 16) ⟨by omega, by omega⟩ ⟨by omega, by omega⟩ (by decide) (zdal_p dlC_M_isLetter_67 (i := 5) rfl) (fun hc_9 => ?_) (fun hc_9 => ?_)
    · skip
      refine zw_iconst (pc := 16) (v := Int32.ofInt 0) (by decide) (zdal_p dlC_M_isLetter_67 (i := 8) rfl) ?_
      exact zr_iret (pc := 17) (ty := .boolean) rfl (z_narB (by omega)) ⟨by omega, by omega⟩ hf (show ((0 = 1 ∧ 97 ≤ a0_ ∧ a0_ ≤ 122) ∨ (0 = 0 ∧ (a0_ < 97 ∨ 122 < a0_))) from Or.inr (⟨(show 0 = 0 by omega), (show (a0_ < 97 ∨ 122 < a0_) by omega)⟩)) (zdal_p dlC_M_isLetter_67 (i := 9) rfl)
    · skip
      refine zw_iconst (pc := 12) (v := Int32.ofInt 1) (by decide) (zdal_p dlC_M_isLetter_67 (i := 6) rfl) ?_
      refine zw_goto (pc := 13) (tgt := 17) (by decide) (zdal_p dlC_M_isLetter_67 (i := 7) rfl) ?_
      exact zr_iret (pc := 17) (ty := .boolean) rfl (z_narB (by omega)) ⟨by omega, by omega⟩ hf (show ((1 = 1 ∧ 97 ≤ a0_ ∧ a0_ ≤ 122) ∨ (1 = 0 ∧ (a0_ < 97 ∨ 122 < a0_))) from Or.inl (⟨(show 1 = 1 by omega), (show 97 ≤ a0_ by omega), (show a0_ ≤ 122 by omega)⟩)) (zdal_p dlC_M_isLetter_67 (i := 9) rfl)
set_option maxHeartbeats 4000000 in
theorem c_M_isDigit (l : Launch) (Mz : zMem) (hW : zMt Mz) (a0_ : Int) (ha0_a : -2147483648 ≤ a0_) (ha0_b : a0_ < 2147483648) : zC l m_M_isDigit 0 0 [.int (Int32.ofInt a0_)] Mz (zpI [] [] Mz (fun v N => (((v = 1 ∧ 48 ≤ a0_ ∧ a0_ ≤ 57) ∨ (v = 0 ∧ (a0_ < 48 ∨ 57 < a0_)))))) := by
  refine zC_of (L0 := [some (.int (Int32.ofInt a0_))]) md_M_isDigit (Nat.le_of_ble_eq_true rfl) rfl ?_ zQ0
  have hf : zFr [] [] Mz Mz := zFr.rf
  refine zw_iload_n (pc := 0) (n := 0) (x := Int32.ofInt a0_) rfl (zdal_p dlC_M_isDigit_68 (i := 0) rfl) ?_
  refine zw_bipush (pc := 1) (v := Int32.ofInt 48) (by decide) (zdal_p dlC_M_isDigit_68 (i := 1) rfl) ?_
  refine zr_icmp_lt (pc := 3) (tgt := 16) ⟨by omega, by omega⟩ ⟨by omega, by omega⟩ (by decide) (zdal_p dlC_M_isDigit_68 (i := 2) rfl) (fun hc_3 => ?_) (fun hc_3 => ?_)
  · skip
    refine zw_iconst (pc := 16) (v := Int32.ofInt 0) (by decide) (zdal_p dlC_M_isDigit_68 (i := 8) rfl) ?_
    exact zr_iret (pc := 17) (ty := .boolean) rfl (z_narB (by omega)) ⟨by omega, by omega⟩ hf (show ((0 = 1 ∧ 48 ≤ a0_ ∧ a0_ ≤ 57) ∨ (0 = 0 ∧ (a0_ < 48 ∨ 57 < a0_))) from Or.inr (⟨(show 0 = 0 by omega), (show (a0_ < 48 ∨ 57 < a0_) by omega)⟩)) (zdal_p dlC_M_isDigit_68 (i := 9) rfl)
  · skip
    refine zw_iload_n (pc := 6) (n := 0) (x := Int32.ofInt a0_) rfl (zdal_p dlC_M_isDigit_68 (i := 3) rfl) ?_
    refine zw_bipush (pc := 7) (v := Int32.ofInt 57) (by decide) (zdal_p dlC_M_isDigit_68 (i := 4) rfl) ?_
    refine zr_icmp_gt (pc := 9) (tgt := 16) ⟨by omega, by omega⟩ ⟨by omega, by omega⟩ (by decide) (zdal_p dlC_M_isDigit_68 (i := 5) rfl) (fun hc_9 => ?_) (fun hc_9 => ?_)
    · skip
      refine zw_iconst (pc := 16) (v := Int32.ofInt 0) (by decide) (zdal_p dlC_M_isDigit_68 (i := 8) rfl) ?_
      exact zr_iret (pc := 17) (ty := .boolean) rfl (z_narB (by omega)) ⟨by omega, by omega⟩ hf (show ((0 = 1 ∧ 48 ≤ a0_ ∧ a0_ ≤ 57) ∨ (0 = 0 ∧ (a0_ < 48 ∨ 57 < a0_))) from Or.inr (⟨(show 0 = 0 by omega), (show (a0_ < 48 ∨ 57 < a0_) by omega)⟩)) (zdal_p dlC_M_isDigit_68 (i := 9) rfl)
    · skip
      refine zw_iconst (pc := 12) (v := Int32.ofInt 1) (by decide) (zdal_p dlC_M_isDigit_68 (i := 6) rfl) ?_
      refine zw_goto (pc := 13) (tgt := 17) (by decide) (zdal_p dlC_M_isDigit_68 (i := 7) rfl) ?_
      exact zr_iret (pc := 17) (ty := .boolean) rfl (z_narB (by omega)) ⟨by omega, by omega⟩ hf (show ((1 = 1 ∧ 48 ≤ a0_ ∧ a0_ ≤ 57) ∨ (1 = 0 ∧ (a0_ < 48 ∨ 57 < a0_))) from Or.inl (⟨(show 1 = 1 by omega), (show 48 ≤ a0_ by omega), (show a0_ ≤ 57 by omega)⟩)) (zdal_p dlC_M_isDigit_68 (i := 9) rfl)
set_option maxHeartbeats 4000000 in
theorem c_M_isGood (l : Launch) (Mz : zMem) (hW : zMt Mz) : zC l m_M_isGood 0 0 [.ref 81] Mz (zpI [] [] Mz (fun v N => (((v = 1 ∧ ze Mz 81 7 = 0) ∨ (v = 0 ∧ ze Mz 81 7 ≠ 0))))) := by
  refine zC_of (L0 := [some (.ref 81)]) md_M_isGood (Nat.le_of_ble_eq_true rfl) rfl ?_ zQ0
  have hf : zFr [] [] Mz Mz := zFr.rf
  have r_7 := ze_r Mz 81 7
  refine zw_aload_n (pc := 0) (n := 0) (x := 81) rfl (zdal_p dlC_M_isGood_77 (i := 0) rfl) ?_
  refine zr_getI0 hf hW (pc := 1) (by decide) f_M_172 rfl (zdal_p dlC_M_isGood_77 (i := 1) rfl) ?_
  refine zr_if_ne (pc := 4) (tgt := 11) ⟨by omega, by omega⟩ (by decide) (zdal_p dlC_M_isGood_77 (i := 2) rfl) (fun hc_4 => ?_) (fun hc_4 => ?_)
  · skip
    refine zw_iconst (pc := 11) (v := Int32.ofInt 0) (by decide) (zdal_p dlC_M_isGood_77 (i := 5) rfl) ?_
    exact zr_iret (pc := 12) (ty := .boolean) rfl (z_narB (by omega)) ⟨by omega, by omega⟩ hf (show ((0 = 1 ∧ ze Mz 81 7 = 0) ∨ (0 = 0 ∧ ze Mz 81 7 ≠ 0)) from Or.inr (⟨(show 0 = 0 by omega), (show ze Mz 81 7 ≠ 0 by omega)⟩)) (zdal_p dlC_M_isGood_77 (i := 6) rfl)
  · skip
    refine zw_iconst (pc := 7) (v := Int32.ofInt 1) (by decide) (zdal_p dlC_M_isGood_77 (i := 3) rfl) ?_
    refine zw_goto (pc := 8) (tgt := 12) (by decide) (zdal_p dlC_M_isGood_77 (i := 4) rfl) ?_
    exact zr_iret (pc := 12) (ty := .boolean) rfl (z_narB (by omega)) ⟨by omega, by omega⟩ hf (show ((1 = 1 ∧ ze Mz 81 7 = 0) ∨ (1 = 0 ∧ ze Mz 81 7 ≠ 0)) from Or.inl (⟨(show 1 = 1 by omega), (show ze Mz 81 7 = 0 by omega)⟩)) (zdal_p dlC_M_isGood_77 (i := 6) rfl)
