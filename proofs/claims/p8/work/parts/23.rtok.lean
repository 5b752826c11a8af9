/-! the reference: small methods, the tape, the tokens -/
def zhr (M : zMem) (k : Int) : Int := if ze M 81 3 + k < ze M 81 2 then ze M 82 (ze M 81 3 + k).toNat else -1
theorem zhr_c (M : zMem) (a b : Int) : a = b → zhr M a = zhr M b := fun h => by rw [h]
/-- what is left of the text, a fault aside -/
def zmu (M : zMem) : Int := if ze M 81 7 = 0 then 1 + 2 * (ze M 81 2 - ze M 81 3) + (if ze M 81 5 = 0 then 0 else 1) else 0
theorem zmu_s (M : zMem) : (ze M 81 7 ≠ 0 ∧ zmu M = 0) ∨ (ze M 81 7 = 0 ∧ ze M 81 5 = 0 ∧ zmu M = 1 + 2 * (ze M 81 2 - ze M 81 3)) ∨ (ze M 81 7 = 0 ∧ ze M 81 5 ≠ 0 ∧ zmu M = 2 + 2 * (ze M 81 2 - ze M 81 3)) := by
  unfold zmu
  by_cases h : ze M 81 7 = 0
  · rw [if_pos h]
    by_cases h5 : ze M 81 5 = 0
    · rw [if_pos h5]; omega
    · rw [if_neg h5]; omega
  · rw [if_neg h]; omega
theorem zmu_f {S C : List Nat} {M N : zMem} (h : zFr S C M N) (hs : 2 ∉ S ∧ 3 ∉ S ∧ 5 ∉ S ∧ 7 ∉ S) : zmu N = zmu M := by
  unfold zmu
  rw [h.e hs.1, h.e hs.2.1, h.e hs.2.2.1, h.e hs.2.2.2]
def zTv (M : zMem) : Prop := ze M 81 5 = 2 → 0 ≤ ze M 81 6 ∧ ze M 81 6 ≤ 999
theorem zTv.fr {S C : List Nat} {M N : zMem} (hf : zFr S C M N) (h : zTv M) (hs : 5 ∉ S ∧ 6 ∉ S) (_ : True) : zTv N := by
  unfold zTv
  rw [hf.e hs.1, hf.e hs.2]
  exact h
/-! 23 -/
set_option maxHeartbeats 4000000 in
theorem c_M_truth (l : Launch) (Mz : zMem) (hW : zMt Mz) (a0_ : Int) (ha0_a : -2147483648 ≤ a0_) (ha0_b : a0_ < 2147483648) (ha0_z : a0_ = 0 ∨ a0_ = 1) : zC l m_M_truth 0 0 [.int (Int32.ofInt a0_)] Mz (zpI [] [] Mz (fun v N => v = a0_)) := by
  refine zC_of (L0 := [some (.int (Int32.ofInt a0_))]) md_M_truth (Nat.le_of_ble_eq_true rfl) rfl ?_ zQ0
  have hf : zFr [] [] Mz Mz := zFr.rf
  refine zw_iload_n (pc := 0) (n := 0) (x := Int32.ofInt a0_) rfl d_M_truth_0 ?_
  refine zr_if_eq (pc := 1) (tgt := 8) ⟨by omega, by omega⟩ (by decide) d_M_truth_1 (fun hc_1 => ?_) (fun hc_1 => ?_)
  · skip
    refine zw_iconst (pc := 8) (v := Int32.ofInt 0) (by decide) d_M_truth_8 ?_
    exact zr_iret (pc := 9) (ty := .int) rfl rfl ⟨by omega, by omega⟩ hf (show 0 = a0_ by omega) d_M_truth_9
  · skip
    refine zw_iconst (pc := 4) (v := Int32.ofInt 1) (by decide) d_M_truth_4 ?_
    refine zw_goto (pc := 5) (tgt := 9) (by decide) d_M_truth_5 ?_
    exact zr_iret (pc := 9) (ty := .int) rfl rfl ⟨by omega, by omega⟩ hf (show 1 = a0_ by omega) d_M_truth_9
set_option maxHeartbeats 4000000 in
theorem c_M_isIn (l : Launch) (Mz : zMem) (hW : zMt Mz) (a0_ : Int) (ha0_a : -9223372036854775808 ≤ a0_) (ha0_b : a0_ < 9223372036854775808) (a1_ : Int) (ha1_a : -9223372036854775808 ≤ a1_) (ha1_b : a1_ < 9223372036854775808) (a2_ : Int) (ha2_a : -9223372036854775808 ≤ a2_) (ha2_b : a2_ < 9223372036854775808) : zC l m_M_isIn 0 0 [.long (Int64.ofInt a0_), .long (Int64.ofInt a1_), .long (Int64.ofInt a2_)] Mz (zpI [] [] Mz (fun v N => (((v = 1 ∧ a1_ ≤ a0_ ∧ a0_ ≤ a2_) ∨ (v = 0 ∧ (a0_ < a1_ ∨ a2_ < a0_)))))) := by
  refine zC_of (L0 := [some (.long (Int64.ofInt a0_)), none, some (.long (Int64.ofInt a1_)), none, some (.long (Int64.ofInt a2_)), none]) md_M_isIn (Nat.le_of_ble_eq_true rfl) rfl ?_ zQ0
  have hf : zFr [] [] Mz Mz := zFr.rf
  refine zw_lload_n (pc := 0) (n := 0) (x := Int64.ofInt a0_) rfl d_M_isIn_0 ?_
  refine zw_lload_n (pc := 1) (n := 2) (x := Int64.ofInt a1_) rfl d_M_isIn_1 ?_
  refine zr_lcmp (pc := 2) ⟨by omega, by omega⟩ ⟨by omega, by omega⟩ d_M_isIn_2 ?_
  have hr1_ := zcmp_s a0_ a1_
  refine zr_if_lt (pc := 3) (tgt := 17) ⟨by omega, by omega⟩ (by decide) d_M_isIn_3 (fun hc_3 => ?_) (fun hc_3 => ?_)
  · skip
    refine zw_iconst (pc := 17) (v := Int32.ofInt 0) (by decide) d_M_isIn_17 ?_
    exact zr_iret (pc := 18) (ty := .boolean) rfl (z_narB (by omega)) ⟨by omega, by omega⟩ hf (show ((0 = 1 ∧ a1_ ≤ a0_ ∧ a0_ ≤ a2_) ∨ (0 = 0 ∧ (a0_ < a1_ ∨ a2_ < a0_))) from Or.inr (⟨(show 0 = 0 by omega), (show (a0_ < a1_ ∨ a2_ < a0_) by omega)⟩)) d_M_isIn_18
  · skip
    refine zw_lload_n (pc := 6) (n := 0) (x := Int64.ofInt a0_) rfl d_M_isIn_6 ?_
    refine zw_lload (pc := 7) (i := 4) (x := Int64.ofInt a2_) rfl d_M_isIn_7 ?_
    refine zr_lcmp (pc := 9) ⟨by omega, by omega⟩ ⟨by omega, by omega⟩ d_M_isIn_9 ?_
    have hr2_ := zcmp_s a0_ a2_
    refine zr_if_gt (pc := 10) (tgt := 17) ⟨by omega, by omega⟩ (by decide) d_M_isIn_10 (fun hc_10 => ?_) (fun hc_10 => ?_)
    · skip
      refine zw_iconst (pc := 17) (v := Int32.ofInt 0) (by decide) d_M_isIn_17 ?_
      exact zr_iret (pc := 18) (ty := .boolean) rfl (z_narB (by omega)) ⟨by omega, by omega⟩ hf (show ((0 = 1 ∧ a1_ ≤ a0_ ∧ a0_ ≤ a2_) ∨ (0 = 0 ∧ (a0_ < a1_ ∨ a2_ < a0_))) from Or.inr (⟨(show 0 = 0 by omega), (show (a0_ < a1_ ∨ a2_ < a0_) by omega)⟩)) d_M_isIn_18
    · skip
      refine zw_iconst (pc := 13) (v := Int32.ofInt 1) (by decide) d_M_isIn_13 ?_
      refine zw_goto (pc := 14) (tgt := 18) (by decide) d_M_isIn_14 ?_
      exact zr_iret (pc := 18) (ty := .boolean) rfl (z_narB (by omega)) ⟨by omega, by omega⟩ hf (show ((1 = 1 ∧ a1_ ≤ a0_ ∧ a0_ ≤ a2_) ∨ (1 = 0 ∧ (a0_ < a1_ ∨ a2_ < a0_))) from Or.inl (⟨(show 1 = 1 by omega), (show a1_ ≤ a0_ by omega), (show a0_ ≤ a2_ by omega)⟩)) d_M_isIn_18
set_option maxHeartbeats 4000000 in
theorem c_M_end (l : Launch) (Mz : zMem) (hW : zMt Mz) (a0_ : Int) (ha0_a : -2147483648 ≤ a0_) (ha0_b : a0_ < 2147483648) (p0_ : 0 ≤ ze Mz 81 1) (p1_ : ze Mz 81 1 ≤ 700) : zC l m_M_end 0 0 [.ref 81, .int (Int32.ofInt a0_)] Mz (zpI [1] [] Mz (fun v N => ((((a0_ < 0 ∨ ze Mz 81 1 < a0_) ∧ v = -1 ∧ ze N 81 1 = ze Mz 81 1) ∨ (0 ≤ a0_ ∧ a0_ ≤ ze Mz 81 1 ∧ v = a0_ ∧ ze N 81 1 = a0_))))) := by
  refine zC_of (L0 := [some (.ref 81), some (.int (Int32.ofInt a0_))]) md_M_end (Nat.le_of_ble_eq_true rfl) rfl ?_ zQ0
  have hf : zFr [1] [] Mz Mz := zFr.rf
  have r_1 := ze_r Mz 81 1
  refine zw_iload_n (pc := 0) (n := 1) (x := Int32.ofInt a0_) rfl d_M_end_0 ?_
  refine zr_i2l (pc := 1) ⟨by omega, by omega⟩ d_M_end_1 ?_
  refine zw_lconst (pc := 2) (v := Int64.ofInt 0) (by decide) d_M_end_2 ?_
  refine zw_aload_n (pc := 3) (n := 0) (x := 81) rfl d_M_end_3 ?_
  refine zr_getI (hf.w hW) (pc := 4) f_M_124 rfl d_M_end_4 ?_
  refine zr_i2l (pc := 7) ⟨by omega, by omega⟩ d_M_end_7 ?_
  refine zr_callS hf.x (pc := 8) [.long (Int64.ofInt a0_), .long (Int64.ofInt 0), .long (Int64.ofInt (ze Mz 81 1))] [] l_M_131 (c_M_isIn l Mz (hf.w hW) a0_ (by omega) (by omega) 0 (by omega) (by omega) (ze Mz 81 1) (by omega) (by omega)) rfl rfl (by decide) (Nat.le_of_ble_eq_true rfl) d_M_end_8 ?_
  rintro _ N1_ ⟨v2_, rfl, ⟨hv2_a, hv2_b⟩, hsN1_, hp0_N1_⟩
  obtain rfl := hsN1_.eq.symm
  replace hp0_N1_ : ((v2_ = 1 ∧ 0 ≤ a0_ ∧ a0_ ≤ (ze Mz 81 1)) ∨ (v2_ = 0 ∧ (a0_ < 0 ∨ (ze Mz 81 1) < a0_))) := hp0_N1_
  rcases hp0_N1_ with ⟨rfl, ha8_0_hp0_N1_, ha8_1_hp0_N1_⟩ | ⟨rfl, ha8_0_hp0_N1_⟩
  · skip
    show zW l m_M_end (zn Mz + 0, zw Mz + 0) Mz 11 [some (.ref 81), some (.int (Int32.ofInt a0_))] [.int (Int32.ofInt 1)] (zpI [1] [] Mz (fun v N => ((((a0_ < 0 ∨ ze Mz 81 1 < a0_) ∧ v = -1 ∧ ze N 81 1 = ze Mz 81 1) ∨ (0 ≤ a0_ ∧ a0_ ≤ ze Mz 81 1 ∧ v = a0_ ∧ ze N 81 1 = a0_)))))
    refine zr_if_ne (pc := 11) (tgt := 16) ⟨by omega, by omega⟩ (by decide) d_M_end_11 (fun hc_11 => ?_) (fun hc_11 => ?_)
    · skip
      refine zw_aload_n (pc := 16) (n := 0) (x := 81) rfl d_M_end_16 ?_
      refine zw_iload_n (pc := 17) (n := 1) (x := Int32.ofInt a0_) rfl d_M_end_17 ?_
      refine zr_putI (hf.w hW) (pc := 18) f_M_124 rfl rfl ⟨by omega, by omega⟩ rfl rfl d_M_end_18 (fun N3_ hsN3_ hvN3_ => ?_)
      have hf_N3_ : zFr [1] [] Mz N3_ := hf.tr hsN3_ (by decide) (by decide)
      have r1_N3_ := ze_r N3_ 81 1
      refine zw_iload_n (pc := 21) (n := 1) (x := Int32.ofInt a0_) rfl d_M_end_21 ?_
      exact zr_iret (pc := 22) (ty := .int) rfl rfl ⟨by omega, by omega⟩ hf_N3_ (show (((a0_ < 0 ∨ ze Mz 81 1 < a0_) ∧ a0_ = -1 ∧ ze N3_ 81 1 = ze Mz 81 1) ∨ (0 ≤ a0_ ∧ a0_ ≤ ze Mz 81 1 ∧ a0_ = a0_ ∧ ze N3_ 81 1 = a0_)) by omega) d_M_end_22
    · skip
      exact absurd hc_11 (by decide)
  · skip
    show zW l m_M_end (zn Mz + 0, zw Mz + 0) Mz 11 [some (.ref 81), some (.int (Int32.ofInt a0_))] [.int (Int32.ofInt 0)] (zpI [1] [] Mz (fun v N => ((((a0_ < 0 ∨ ze Mz 81 1 < a0_) ∧ v = -1 ∧ ze N 81 1 = ze Mz 81 1) ∨ (0 ≤ a0_ ∧ a0_ ≤ ze Mz 81 1 ∧ v = a0_ ∧ ze N 81 1 = a0_)))))
    refine zr_if_ne (pc := 11) (tgt := 16) ⟨by omega, by omega⟩ (by decide) d_M_end_11 (fun hc_11 => ?_) (fun hc_11 => ?_)
    · skip
      exact absurd hc_11 (by decide)
    · skip
      refine zw_iconst (pc := 14) (v := Int32.ofInt (-1)) (by decide) d_M_end_14 ?_
      exact zr_iret (pc := 15) (ty := .int) rfl rfl ⟨by omega, by omega⟩ hf (show (((a0_ < 0 ∨ ze Mz 81 1 < a0_) ∧ ((-1)) = -1 ∧ ze Mz 81 1 = ze Mz 81 1) ∨ (0 ≤ a0_ ∧ a0_ ≤ ze Mz 81 1 ∧ ((-1)) = a0_ ∧ ze Mz 81 1 = a0_)) by omega) d_M_end_15
set_option maxHeartbeats 4000000 in
theorem c_M_here (l : Launch) (Mz : zMem) (hW : zMt Mz) (a0_ : Int) (ha0_a : -2147483648 ≤ a0_) (ha0_b : a0_ < 2147483648) (p0_ : 0 ≤ ze Mz 81 3 + a0_) (p1_ : ze Mz 81 3 ≤ 700) (p2_ : a0_ ≤ 1000) (p3_ : ze Mz 81 2 ≤ 700) : zC l m_M_here 0 0 [.ref 81, .int (Int32.ofInt a0_)] Mz (zpI [] [] Mz (fun v N => (((v = -1 ∧ ze Mz 81 2 ≤ ze Mz 81 3 + a0_) ∨ ze Mz 81 3 + a0_ < ze Mz 81 2)) ∧ v = zhr Mz a0_)) := by
  refine zC_of (L0 := [some (.ref 81), some (.int (Int32.ofInt a0_))]) md_M_here (Nat.le_of_ble_eq_true rfl) rfl ?_ zQ0
  have hf : zFr [] [] Mz Mz := zFr.rf
  have r_2 := ze_r Mz 81 2
  have r_3 := ze_r Mz 81 3
  refine zw_aload_n (pc := 0) (n := 0) (x := 81) rfl d_M_here_0 ?_
  refine zr_getI0 hf hW (pc := 1) (by decide) f_M_135 rfl d_M_here_1 ?_
  refine zw_iload_n (pc := 4) (n := 1) (x := Int32.ofInt a0_) rfl d_M_here_4 ?_
  refine zr_iadd (pc := 5) d_M_here_5 ?_
  refine zw_aload_n (pc := 6) (n := 0) (x := 81) rfl d_M_here_6 ?_
  refine zr_getI0 hf hW (pc := 7) (by decide) f_M_138 rfl d_M_here_7 ?_
  refine zr_icmp_ge (pc := 10) (tgt := 27) ⟨by omega, by omega⟩ ⟨by omega, by omega⟩ (by decide) d_M_here_10 (fun hc_10 => ?_) (fun hc_10 => ?_)
  · skip
    refine zw_iconst (pc := 27) (v := Int32.ofInt (-1)) (by decide) d_M_here_27 ?_
    exact zr_iret (pc := 28) (ty := .int) rfl rfl ⟨by omega, by omega⟩ hf ⟨(show ((((-1)) = -1 ∧ ze Mz 81 2 ≤ ze Mz 81 3 + a0_) ∨ ze Mz 81 3 + a0_ < ze Mz 81 2) by omega), (show ((-1)) = zhr Mz a0_ by unfold zhr; split <;> omega)⟩ d_M_here_28
  · skip
    refine zw_aload_n (pc := 13) (n := 0) (x := 81) rfl d_M_here_13 ?_
    refine zr_getF (r := 82) (hf.w hW) (pc := 14) f_M_7 rfl (zh_82 (hf.w hW)).1 d_M_here_14 ?_
    refine zw_aload_n (pc := 17) (n := 0) (x := 81) rfl d_M_here_17 ?_
    refine zr_getI0 hf hW (pc := 18) (by decide) f_M_135 rfl d_M_here_18 ?_
    refine zw_iload_n (pc := 21) (n := 1) (x := Int32.ofInt a0_) rfl d_M_here_21 ?_
    refine zr_iadd (pc := 22) d_M_here_22 ?_
    refine zr_ialdn (pc := 23) (zh_82 (hf.w hW)).2 (by decide) (by omega) (by omega) d_M_here_23 (fun v1_ hv1_ hv1_a hv1_b => ?_)
    refine zw_goto (pc := 24) (tgt := 28) (by decide) d_M_here_24 ?_
    exact zr_iret (pc := 28) (ty := .int) rfl rfl ⟨by omega, by omega⟩ hf ⟨(show ((v1_ = -1 ∧ ze Mz 81 2 ≤ ze Mz 81 3 + a0_) ∨ ze Mz 81 3 + a0_ < ze Mz 81 2) by omega), (show v1_ = zhr Mz a0_ by unfold zhr; split <;> omega)⟩ d_M_here_28
set_option maxHeartbeats 4000000 in
theorem c_M_isLetter (l : Launch) (Mz : zMem) (hW : zMt Mz) (a0_ : Int) (ha0_a : -2147483648 ≤ a0_) (ha0_b : a0_ < 2147483648) : zC l m_M_isLetter 0 0 [.int (Int32.ofInt a0_)] Mz (zpI [] [] Mz (fun v N => (((v = 1 ∧ 97 ≤ a0_ ∧ a0_ ≤ 122) ∨ (v = 0 ∧ (a0_ < 97 ∨ 122 < a0_)))))) := by
  refine zC_of (L0 := [some (.int (Int32.ofInt a0_))]) md_M_isLetter (Nat.le_of_ble_eq_true rfl) rfl ?_ zQ0
  have hf : zFr [] [] Mz Mz := zFr.rf
  refine zw_iload_n (pc := 0) (n := 0) (x := Int32.ofInt a0_) rfl d_M_isLetter_0 ?_
  refine zw_bipush (pc := 1) (v := Int32.ofInt 97) (by decide) d_M_isLetter_1 ?_
  refine zr_icmp_lt (pc := 3) (tgt := 16) ⟨by omega, by omega⟩ ⟨by omega, by omega⟩ (by decide) d_M_isLetter_3 (fun hc_3 => ?_) (fun hc_3 => ?_)
  · skip
    refine zw_iconst (pc := 16) (v := Int32.ofInt 0) (by decide) d_M_isLetter_16 ?_
    exact zr_iret (pc := 17) (ty := .boolean) rfl (z_narB (by omega)) ⟨by omega, by omega⟩ hf (show ((0 = 1 ∧ 97 ≤ a0_ ∧ a0_ ≤ 122) ∨ (0 = 0 ∧ (a0_ < 97 ∨ 122 < a0_))) from Or.inr (⟨(show 0 = 0 by omega), (show (a0_ < 97 ∨ 122 < a0_) by omega)⟩)) d_M_isLetter_17
  · skip
    refine zw_iload_n (pc := 6) (n := 0) (x := Int32.ofInt a0_) rfl d_M_isLetter_6 ?_
    refine zw_bipush (pc := 7) (v := Int32.ofInt 122) (by decide) d_M_isLetter_7 ?_
    refine zr_icmp_gt (pc := 9) (tgt := 16) ⟨by omega, by omega⟩ ⟨by omega, by omega⟩ (by decide) d_M_isLetter_9 (fun hc_9 => ?_) (fun hc_9 => ?_)
    · skip
      refine zw_iconst (pc := 16) (v := Int32.ofInt 0) (by decide) d_M_isLetter_16 ?_
      exact zr_iret (pc := 17) (ty := .boolean) rfl (z_narB (by omega)) ⟨by omega, by omega⟩ hf (show ((0 = 1 ∧ 97 ≤ a0_ ∧ a0_ ≤ 122) ∨ (0 = 0 ∧ (a0_ < 97 ∨ 122 < a0_))) from Or.inr (⟨(show 0 = 0 by omega), (show (a0_ < 97 ∨ 122 < a0_) by omega)⟩)) d_M_isLetter_17
    · skip
      refine zw_iconst (pc := 12) (v := Int32.ofInt 1) (by decide) d_M_isLetter_12 ?_
      refine zw_goto (pc := 13) (tgt := 17) (by decide) d_M_isLetter_13 ?_
      exact zr_iret (pc := 17) (ty := .boolean) rfl (z_narB (by omega)) ⟨by omega, by omega⟩ hf (show ((1 = 1 ∧ 97 ≤ a0_ ∧ a0_ ≤ 122) ∨ (1 = 0 ∧ (a0_ < 97 ∨ 122 < a0_))) from Or.inl (⟨(show 1 = 1 by omega), (show 97 ≤ a0_ by omega), (show a0_ ≤ 122 by omega)⟩)) d_M_isLetter_17
set_option maxHeartbeats 4000000 in
theorem c_M_isDigit (l : Launch) (Mz : zMem) (hW : zMt Mz) (a0_ : Int) (ha0_a : -2147483648 ≤ a0_) (ha0_b : a0_ < 2147483648) : zC l m_M_isDigit 0 0 [.int (Int32.ofInt a0_)] Mz (zpI [] [] Mz (fun v N => (((v = 1 ∧ 48 ≤ a0_ ∧ a0_ ≤ 57) ∨ (v = 0 ∧ (a0_ < 48 ∨ 57 < a0_)))))) := by
  refine zC_of (L0 := [some (.int (Int32.ofInt a0_))]) md_M_isDigit (Nat.le_of_ble_eq_true rfl) rfl ?_ zQ0
  have hf : zFr [] [] Mz Mz := zFr.rf
  refine zw_iload_n (pc := 0) (n := 0) (x := Int32.ofInt a0_) rfl d_M_isDigit_0 ?_
  refine zw_bipush (pc := 1) (v := Int32.ofInt 48) (by decide) d_M_isDigit_1 ?_
  refine zr_icmp_lt (pc := 3) (tgt := 16) ⟨by omega, by omega⟩ ⟨by omega, by omega⟩ (by decide) d_M_isDigit_3 (fun hc_3 => ?_) (fun hc_3 => ?_)
  · skip
    refine zw_iconst (pc := 16) (v := Int32.ofInt 0) (by decide) d_M_isDigit_16 ?_
    exact zr_iret (pc := 17) (ty := .boolean) rfl (z_narB (by omega)) ⟨by omega, by omega⟩ hf (show ((0 = 1 ∧ 48 ≤ a0_ ∧ a0_ ≤ 57) ∨ (0 = 0 ∧ (a0_ < 48 ∨ 57 < a0_))) from Or.inr (⟨(show 0 = 0 by omega), (show (a0_ < 48 ∨ 57 < a0_) by omega)⟩)) d_M_isDigit_17
  · skip
    refine zw_iload_n (pc := 6) (n := 0) (x := Int32.ofInt a0_) rfl d_M_isDigit_6 ?_
    refine zw_bipush (pc := 7) (v := Int32.ofInt 57) (by decide) d_M_isDigit_7 ?_
    refine zr_icmp_gt (pc := 9) (tgt := 16) ⟨by omega, by omega⟩ ⟨by omega, by omega⟩ (by decide) d_M_isDigit_9 (fun hc_9 => ?_) (fun hc_9 => ?_)
    · skip
      refine zw_iconst (pc := 16) (v := Int32.ofInt 0) (by decide) d_M_isDigit_16 ?_
      exact zr_iret (pc := 17) (ty := .boolean) rfl (z_narB (by omega)) ⟨by omega, by omega⟩ hf (show ((0 = 1 ∧ 48 ≤ a0_ ∧ a0_ ≤ 57) ∨ (0 = 0 ∧ (a0_ < 48 ∨ 57 < a0_))) from Or.inr (⟨(show 0 = 0 by omega), (show (a0_ < 48 ∨ 57 < a0_) by omega)⟩)) d_M_isDigit_17
    · skip
      refine zw_iconst (pc := 12) (v := Int32.ofInt 1) (by decide) d_M_isDigit_12 ?_
      refine zw_goto (pc := 13) (tgt := 17) (by decide) d_M_isDigit_13 ?_
      exact zr_iret (pc := 17) (ty := .boolean) rfl (z_narB (by omega)) ⟨by omega, by omega⟩ hf (show ((1 = 1 ∧ 48 ≤ a0_ ∧ a0_ ≤ 57) ∨ (1 = 0 ∧ (a0_ < 48 ∨ 57 < a0_))) from Or.inl (⟨(show 1 = 1 by omega), (show 48 ≤ a0_ by omega), (show a0_ ≤ 57 by omega)⟩)) d_M_isDigit_17
set_option maxHeartbeats 4000000 in
theorem c_M_isSign (l : Launch) (Mz : zMem) (hW : zMt Mz) (a0_ : Int) (ha0_a : -2147483648 ≤ a0_) (ha0_b : a0_ < 2147483648) : zC l m_M_isSign 0 0 [.int (Int32.ofInt a0_)] Mz (zpI [] [] Mz (fun v N => ((v = 0 ∨ v = 1)))) := by
  refine zC_of (L0 := [some (.int (Int32.ofInt a0_))]) md_M_isSign (Nat.le_of_ble_eq_true rfl) rfl ?_ zQ0
  have hf : zFr [] [] Mz Mz := zFr.rf
  refine zw_iload_n (pc := 0) (n := 0) (x := Int32.ofInt a0_) rfl d_M_isSign_0 ?_
  refine zw_bipush (pc := 1) (v := Int32.ofInt 61) (by decide) d_M_isSign_1 ?_
  refine zr_icmp_eq (pc := 3) (tgt := 48) ⟨by omega, by omega⟩ ⟨by omega, by omega⟩ (by decide) d_M_isSign_3 (fun hc_3 => ?_) (fun hc_3 => ?_)
  · skip
    refine zw_iconst (pc := 48) (v := Int32.ofInt 1) (by decide) d_M_isSign_48 ?_
    refine zw_goto (pc := 49) (tgt := 53) (by decide) d_M_isSign_49 ?_
    exact zr_iret (pc := 53) (ty := .boolean) rfl (z_narB (by omega)) ⟨by omega, by omega⟩ hf (show (1 = 0 ∨ 1 = 1) by omega) d_M_isSign_53
  · skip
    refine zw_iload_n (pc := 6) (n := 0) (x := Int32.ofInt a0_) rfl d_M_isSign_6 ?_
    refine zw_bipush (pc := 7) (v := Int32.ofInt 43) (by decide) d_M_isSign_7 ?_
    refine zr_icmp_eq (pc := 9) (tgt := 48) ⟨by omega, by omega⟩ ⟨by omega, by omega⟩ (by decide) d_M_isSign_9 (fun hc_9 => ?_) (fun hc_9 => ?_)
    · skip
      refine zw_iconst (pc := 48) (v := Int32.ofInt 1) (by decide) d_M_isSign_48 ?_
      refine zw_goto (pc := 49) (tgt := 53) (by decide) d_M_isSign_49 ?_
      exact zr_iret (pc := 53) (ty := .boolean) rfl (z_narB (by omega)) ⟨by omega, by omega⟩ hf (show (1 = 0 ∨ 1 = 1) by omega) d_M_isSign_53
    · skip
      refine zw_iload_n (pc := 12) (n := 0) (x := Int32.ofInt a0_) rfl d_M_isSign_12 ?_
      refine zw_bipush (pc := 13) (v := Int32.ofInt 42) (by decide) d_M_isSign_13 ?_
      refine zr_icmp_eq (pc := 15) (tgt := 48) ⟨by omega, by omega⟩ ⟨by omega, by omega⟩ (by decide) d_M_isSign_15 (fun hc_15 => ?_) (fun hc_15 => ?_)
      · skip
        refine zw_iconst (pc := 48) (v := Int32.ofInt 1) (by decide) d_M_isSign_48 ?_
        refine zw_goto (pc := 49) (tgt := 53) (by decide) d_M_isSign_49 ?_
        exact zr_iret (pc := 53) (ty := .boolean) rfl (z_narB (by omega)) ⟨by omega, by omega⟩ hf (show (1 = 0 ∨ 1 = 1) by omega) d_M_isSign_53
      · skip
        refine zw_iload_n (pc := 18) (n := 0) (x := Int32.ofInt a0_) rfl d_M_isSign_18 ?_
        refine zw_bipush (pc := 19) (v := Int32.ofInt 45) (by decide) d_M_isSign_19 ?_
        refine zr_icmp_eq (pc := 21) (tgt := 48) ⟨by omega, by omega⟩ ⟨by omega, by omega⟩ (by decide) d_M_isSign_21 (fun hc_21 => ?_) (fun hc_21 => ?_)
        · skip
          refine zw_iconst (pc := 48) (v := Int32.ofInt 1) (by decide) d_M_isSign_48 ?_
          refine zw_goto (pc := 49) (tgt := 53) (by decide) d_M_isSign_49 ?_
          exact zr_iret (pc := 53) (ty := .boolean) rfl (z_narB (by omega)) ⟨by omega, by omega⟩ hf (show (1 = 0 ∨ 1 = 1) by omega) d_M_isSign_53
        · skip
          refine zw_iload_n (pc := 24) (n := 0) (x := Int32.ofInt a0_) rfl d_M_isSign_24 ?_
          refine zw_bipush (pc := 25) (v := Int32.ofInt 94) (by decide) d_M_isSign_25 ?_
          refine zr_icmp_eq (pc := 27) (tgt := 48) ⟨by omega, by omega⟩ ⟨by omega, by omega⟩ (by decide) d_M_isSign_27 (fun hc_27 => ?_) (fun hc_27 => ?_)
          · skip
            refine zw_iconst (pc := 48) (v := Int32.ofInt 1) (by decide) d_M_isSign_48 ?_
            refine zw_goto (pc := 49) (tgt := 53) (by decide) d_M_isSign_49 ?_
            exact zr_iret (pc := 53) (ty := .boolean) rfl (z_narB (by omega)) ⟨by omega, by omega⟩ hf (show (1 = 0 ∨ 1 = 1) by omega) d_M_isSign_53
          · skip
            refine zw_iload_n (pc := 30) (n := 0) (x := Int32.ofInt a0_) rfl d_M_isSign_30 ?_
            refine zw_bipush (pc := 31) (v := Int32.ofInt 40) (by decide) d_M_isSign_31 ?_
            refine zr_icmp_eq (pc := 33) (tgt := 48) ⟨by omega, by omega⟩ ⟨by omega, by omega⟩ (by decide) d_M_isSign_33 (fun hc_33 => ?_) (fun hc_33 => ?_)
            · skip
              refine zw_iconst (pc := 48) (v := Int32.ofInt 1) (by decide) d_M_isSign_48 ?_
              refine zw_goto (pc := 49) (tgt := 53) (by decide) d_M_isSign_49 ?_
              exact zr_iret (pc := 53) (ty := .boolean) rfl (z_narB (by omega)) ⟨by omega, by omega⟩ hf (show (1 = 0 ∨ 1 = 1) by omega) d_M_isSign_53
            · skip
              refine zw_iload_n (pc := 36) (n := 0) (x := Int32.ofInt a0_) rfl d_M_isSign_36 ?_
              refine zw_bipush (pc := 37) (v := Int32.ofInt 41) (by decide) d_M_isSign_37 ?_
              refine zr_icmp_eq (pc := 39) (tgt := 48) ⟨by omega, by omega⟩ ⟨by omega, by omega⟩ (by decide) d_M_isSign_39 (fun hc_39 => ?_) (fun hc_39 => ?_)
              · skip
                refine zw_iconst (pc := 48) (v := Int32.ofInt 1) (by decide) d_M_isSign_48 ?_
                refine zw_goto (pc := 49) (tgt := 53) (by decide) d_M_isSign_49 ?_
                exact zr_iret (pc := 53) (ty := .boolean) rfl (z_narB (by omega)) ⟨by omega, by omega⟩ hf (show (1 = 0 ∨ 1 = 1) by omega) d_M_isSign_53
              · skip
                refine zw_iload_n (pc := 42) (n := 0) (x := Int32.ofInt a0_) rfl d_M_isSign_42 ?_
                refine zw_bipush (pc := 43) (v := Int32.ofInt 59) (by decide) d_M_isSign_43 ?_
                refine zr_icmp_ne (pc := 45) (tgt := 52) ⟨by omega, by omega⟩ ⟨by omega, by omega⟩ (by decide) d_M_isSign_45 (fun hc_45 => ?_) (fun hc_45 => ?_)
                · skip
                  refine zw_iconst (pc := 52) (v := Int32.ofInt 0) (by decide) d_M_isSign_52 ?_
                  exact zr_iret (pc := 53) (ty := .boolean) rfl (z_narB (by omega)) ⟨by omega, by omega⟩ hf (show (0 = 0 ∨ 0 = 1) by omega) d_M_isSign_53
                · skip
                  refine zw_iconst (pc := 48) (v := Int32.ofInt 1) (by decide) d_M_isSign_48 ?_
                  refine zw_goto (pc := 49) (tgt := 53) (by decide) d_M_isSign_49 ?_
                  exact zr_iret (pc := 53) (ty := .boolean) rfl (z_narB (by omega)) ⟨by omega, by omega⟩ hf (show (1 = 0 ∨ 1 = 1) by omega) d_M_isSign_53
set_option maxHeartbeats 4000000 in
theorem c_M_goOn (l : Launch) (Mz : zMem) (hW : zMt Mz) (p0_ : 0 ≤ ze Mz 81 3) (p1_ : ze Mz 81 3 ≤ ze Mz 81 2) (p2_ : ze Mz 81 2 ≤ 700) (p3_ : ze Mz 81 5 ≠ 0) (p4_ : ze Mz 81 7 = 0) : zC l m_M_goOn 0 0 [.ref 81] Mz (zpV [3, 4, 5, 6, 11] [] Mz (fun N => 0 ≤ ze N 81 3 ∧ ze N 81 3 ≤ ze N 81 2 ∧ zTv N ∧ ze Mz 81 3 ≤ ze N 81 3 ∧ zmu N < zmu Mz)) := by
  refine zC_of (L0 := [some (.ref 81), none, none]) md_M_goOn (Nat.le_of_ble_eq_true rfl) rfl ?_ zQ0
  have hf : zFr [3, 4, 5, 6, 11] [] Mz Mz := zFr.rf
  have r_2 := ze_r Mz 81 2
  have r_3 := ze_r Mz 81 3
  have r_4 := ze_r Mz 81 4
  have r_5 := ze_r Mz 81 5
  have r_6 := ze_r Mz 81 6
  have r_7 := ze_r Mz 81 7
  have lp_0 : ∀ (n : Nat) (N1_ : zMem) (hs2_ : zFr [3] [] Mz N1_) (i3_ : ze Mz 81 3 ≤ ze N1_ 81 3) (i4_ : ze N1_ 81 3 ≤ ze Mz 81 2), (ze Mz 81 2 - ze N1_ 81 3).toNat < n → zW l m_M_goOn (zn Mz + 0, zw Mz + 0) N1_ 0 [some (.ref 81), none, none] [] (zpV [3, 4, 5, 6, 11] [] Mz (fun N => 0 ≤ ze N 81 3 ∧ ze N 81 3 ≤ ze N 81 2 ∧ zTv N ∧ ze Mz 81 3 ≤ ze N 81 3 ∧ zmu N < zmu Mz)) := by
    intro n
    induction n with
    | zero =>
      intro N1_ hs2_ i3_ i4_ h0
      exact absurd h0 (Nat.not_lt_zero _)
    | succ n ih_0 =>
      intro N1_ hs2_ i3_ i4_ hlt_0
      have hf_N1_ : zFr [3, 4, 5, 6, 11] [] Mz N1_ := hf.tr hs2_ (by decide) (by decide)
      have e2_N1_ : ze N1_ 81 2 = ze Mz 81 2 := hs2_.e (by decide)
      have r3_N1_ := ze_r N1_ 81 3
      have e4_N1_ : ze N1_ 81 4 = ze Mz 81 4 := hs2_.e (by decide)
      have e5_N1_ : ze N1_ 81 5 = ze Mz 81 5 := hs2_.e (by decide)
      have e6_N1_ : ze N1_ 81 6 = ze Mz 81 6 := hs2_.e (by decide)
      have e7_N1_ : ze N1_ 81 7 = ze Mz 81 7 := hs2_.e (by decide)
      refine zw_aload_n (pc := 0) (n := 0) (x := 81) rfl d_M_goOn_0 ?_
      refine zw_iconst (pc := 1) (v := Int32.ofInt 0) (by decide) d_M_goOn_1 ?_
      refine zr_callV (hf_N1_.w hW) hf_N1_.x (pc := 2) [.int (Int32.ofInt 0)] [] l_M_141 (c_M_here l N1_ (hf_N1_.w hW) 0 (by omega) (by omega) (show 0 ≤ ze N1_ 81 3 + 0 by omega) (show ze N1_ 81 3 ≤ 700 by omega) (show 0 ≤ 1000 by omega) (show ze N1_ 81 2 ≤ 700 by omega)) rfl rfl rfl (by decide) (Nat.le_of_ble_eq_true rfl) d_M_goOn_2 ?_
      rintro _ N5_ ⟨v6_, rfl, ⟨hv6_a, hv6_b⟩, hsN5_, ⟨hp0_N5_, hp1_N5_⟩⟩
      obtain rfl := hsN5_.eq.symm
      show zW l m_M_goOn (zn Mz + 0, zw Mz + 0) N1_ 5 [some (.ref 81), none, none] [.int (Int32.ofInt v6_)] (zpV [3, 4, 5, 6, 11] [] Mz (fun N => 0 ≤ ze N 81 3 ∧ ze N 81 3 ≤ ze N 81 2 ∧ zTv N ∧ ze Mz 81 3 ≤ ze N 81 3 ∧ zmu N < zmu Mz))
      refine zw_bipush (pc := 5) (v := Int32.ofInt 32) (by decide) d_M_goOn_5 ?_
      refine zr_icmp_eq (pc := 7) (tgt := 20) ⟨by omega, by omega⟩ ⟨by omega, by omega⟩ (by decide) d_M_goOn_7 (fun hc_7 => ?_) (fun hc_7 => ?_)
      · skip
        refine zw_aload_n (pc := 20) (n := 0) (x := 81) rfl d_M_goOn_20 ?_
        refine zw_dup (pc := 21) rfl d_M_goOn_21 ?_
        refine zr_getI (hf_N1_.w hW) (pc := 22) f_M_135 rfl d_M_goOn_22 ?_
        refine zw_iconst (pc := 25) (v := Int32.ofInt 1) (by decide) d_M_goOn_25 ?_
        refine zr_iadd (pc := 26) d_M_goOn_26 ?_
        refine zr_putI (hf_N1_.w hW) (pc := 27) f_M_135 rfl rfl ⟨by omega, by omega⟩ rfl rfl d_M_goOn_27 (fun N7_ hsN7_ hvN7_ => ?_)
        have hf_N7_ : zFr [3, 4, 5, 6, 11] [] Mz N7_ := hf_N1_.tr hsN7_ (by decide) (by decide)
        have hb0_N7_ : zFr [3] [] Mz N7_ := hs2_.tr hsN7_ (by decide) (by decide)
        have e2_N7_ : ze N7_ 81 2 = ze N1_ 81 2 := hsN7_.e (by decide)
        have r3_N7_ := ze_r N7_ 81 3
        have e4_N7_ : ze N7_ 81 4 = ze N1_ 81 4 := hsN7_.e (by decide)
        have e5_N7_ : ze N7_ 81 5 = ze N1_ 81 5 := hsN7_.e (by decide)
        have e6_N7_ : ze N7_ 81 6 = ze N1_ 81 6 := hsN7_.e (by decide)
        have e7_N7_ : ze N7_ 81 7 = ze N1_ 81 7 := hsN7_.e (by decide)
        refine zw_goto (pc := 30) (tgt := 0) (by decide) d_M_goOn_30 ?_
        exact ih_0 N7_ hb0_N7_ (show ze Mz 81 3 ≤ ze N7_ 81 3 by omega) (show ze N7_ 81 3 ≤ ze Mz 81 2 by omega) (by omega)
      · skip
        refine zw_aload_n (pc := 10) (n := 0) (x := 81) rfl d_M_goOn_10 ?_
        refine zw_iconst (pc := 11) (v := Int32.ofInt 0) (by decide) d_M_goOn_11 ?_
        refine zr_callV (hf_N1_.w hW) hf_N1_.x (pc := 12) [.int (Int32.ofInt 0)] [] l_M_141 (c_M_here l N1_ (hf_N1_.w hW) 0 (by omega) (by omega) (show 0 ≤ ze N1_ 81 3 + 0 by omega) (show ze N1_ 81 3 ≤ 700 by omega) (show 0 ≤ 1000 by omega) (show ze N1_ 81 2 ≤ 700 by omega)) rfl rfl rfl (by decide) (Nat.le_of_ble_eq_true rfl) d_M_goOn_12 ?_
        rintro _ N8_ ⟨v9_, rfl, ⟨hv9_a, hv9_b⟩, hsN8_, ⟨hp0_N8_, hp1_N8_⟩⟩
        obtain rfl := hsN8_.eq.symm
        show zW l m_M_goOn (zn Mz + 0, zw Mz + 0) N1_ 15 [some (.ref 81), none, none] [.int (Int32.ofInt v9_)] (zpV [3, 4, 5, 6, 11] [] Mz (fun N => 0 ≤ ze N 81 3 ∧ ze N 81 3 ≤ ze N 81 2 ∧ zTv N ∧ ze Mz 81 3 ≤ ze N 81 3 ∧ zmu N < zmu Mz))
        refine zw_bipush (pc := 15) (v := Int32.ofInt 10) (by decide) d_M_goOn_15 ?_
        refine zr_icmp_ne (pc := 17) (tgt := 33) ⟨by omega, by omega⟩ ⟨by omega, by omega⟩ (by decide) d_M_goOn_17 (fun hc_17 => ?_) (fun hc_17 => ?_)
        · skip
          refine zw_aload_n (pc := 33) (n := 0) (x := 81) rfl d_M_goOn_33 ?_
          refine zw_aload_n (pc := 34) (n := 0) (x := 81) rfl d_M_goOn_34 ?_
          refine zr_getI (hf_N1_.w hW) (pc := 35) f_M_135 rfl d_M_goOn_35 ?_
          refine zr_putI (hf_N1_.w hW) (pc := 38) f_M_145 rfl rfl ⟨by omega, by omega⟩ rfl rfl d_M_goOn_38 (fun N10_ hsN10_ hvN10_ => ?_)
          have hf_N10_ : zFr [3, 4, 5, 6, 11] [] Mz N10_ := hf_N1_.tr hsN10_ (by decide) (by decide)
          have e2_N10_ : ze N10_ 81 2 = ze N1_ 81 2 := hsN10_.e (by decide)
          have e3_N10_ : ze N10_ 81 3 = ze N1_ 81 3 := hsN10_.e (by decide)
          have r4_N10_ := ze_r N10_ 81 4
          have e5_N10_ : ze N10_ 81 5 = ze N1_ 81 5 := hsN10_.e (by decide)
          have e6_N10_ : ze N10_ 81 6 = ze N1_ 81 6 := hsN10_.e (by decide)
          have e7_N10_ : ze N10_ 81 7 = ze N1_ 81 7 := hsN10_.e (by decide)
          refine zw_aload_n (pc := 41) (n := 0) (x := 81) rfl d_M_goOn_41 ?_
          refine zw_lconst (pc := 42) (v := Int64.ofInt 0) (by decide) d_M_goOn_42 ?_
          refine zr_putJ (hf_N10_.w hW) (pc := 43) f_M_148 rfl rfl rfl rfl d_M_goOn_43 (fun N11_ hsN11_ hvN11_ => ?_)
          have hf_N11_ : zFr [3, 4, 5, 6, 11] [] Mz N11_ := hf_N10_.tr hsN11_ (by decide) (by decide)
          have e2_N11_ : ze N11_ 81 2 = ze N10_ 81 2 := hsN11_.e (by decide)
          have e3_N11_ : ze N11_ 81 3 = ze N10_ 81 3 := hsN11_.e (by decide)
          have e4_N11_ : ze N11_ 81 4 = ze N10_ 81 4 := hsN11_.e (by decide)
          have e5_N11_ : ze N11_ 81 5 = ze N10_ 81 5 := hsN11_.e (by decide)
          have e6_N11_ : ze N11_ 81 6 = ze N10_ 81 6 := hsN11_.e (by decide)
          have e7_N11_ : ze N11_ 81 7 = ze N10_ 81 7 := hsN11_.e (by decide)
          refine zw_aload_n (pc := 46) (n := 0) (x := 81) rfl d_M_goOn_46 ?_
          refine zw_iconst (pc := 47) (v := Int32.ofInt 0) (by decide) d_M_goOn_47 ?_
          refine zr_putI (hf_N11_.w hW) (pc := 48) f_M_152 rfl rfl ⟨by omega, by omega⟩ rfl rfl d_M_goOn_48 (fun N12_ hsN12_ hvN12_ => ?_)
          have hf_N12_ : zFr [3, 4, 5, 6, 11] [] Mz N12_ := hf_N11_.tr hsN12_ (by decide) (by decide)
          have e2_N12_ : ze N12_ 81 2 = ze N11_ 81 2 := hsN12_.e (by decide)
          have e3_N12_ : ze N12_ 81 3 = ze N11_ 81 3 := hsN12_.e (by decide)
          have e4_N12_ : ze N12_ 81 4 = ze N11_ 81 4 := hsN12_.e (by decide)
          have e5_N12_ : ze N12_ 81 5 = ze N11_ 81 5 := hsN12_.e (by decide)
          have r6_N12_ := ze_r N12_ 81 6
          have e7_N12_ : ze N12_ 81 7 = ze N11_ 81 7 := hsN12_.e (by decide)
          refine zw_aload_n (pc := 51) (n := 0) (x := 81) rfl d_M_goOn_51 ?_
          refine zw_iconst (pc := 52) (v := Int32.ofInt 0) (by decide) d_M_goOn_52 ?_
          refine zr_callV (hf_N12_.w hW) hf_N12_.x (pc := 53) [.int (Int32.ofInt 0)] [] l_M_141 (c_M_here l N12_ (hf_N12_.w hW) 0 (by omega) (by omega) (show 0 ≤ ze N12_ 81 3 + 0 by omega) (show ze N12_ 81 3 ≤ 700 by omega) (show 0 ≤ 1000 by omega) (show ze N12_ 81 2 ≤ 700 by omega)) rfl rfl rfl (by decide) (Nat.le_of_ble_eq_true rfl) d_M_goOn_53 ?_
          rintro _ N13_ ⟨v14_, rfl, ⟨hv14_a, hv14_b⟩, hsN13_, ⟨hp0_N13_, hp1_N13_⟩⟩
          obtain rfl := hsN13_.eq.symm
          show zW l m_M_goOn (zn Mz + 0, zw Mz + 0) N12_ 56 [some (.ref 81), none, none] [.int (Int32.ofInt v14_)] (zpV [3, 4, 5, 6, 11] [] Mz (fun N => 0 ≤ ze N 81 3 ∧ ze N 81 3 ≤ ze N 81 2 ∧ zTv N ∧ ze Mz 81 3 ≤ ze N 81 3 ∧ zmu N < zmu Mz))
          refine zw_istore_n (pc := 56) (i := 1) (L2 := [some (.ref 81), some (.int (Int32.ofInt v14_)), none]) rfl (by decide) rfl d_M_goOn_56 ?_
          refine zw_iconst (pc := 57) (v := Int32.ofInt 0) (by decide) d_M_goOn_57 ?_
          refine zw_istore_n (pc := 58) (i := 2) (L2 := [some (.ref 81), some (.int (Int32.ofInt v14_)), some (.int (Int32.ofInt 0))]) rfl (by decide) rfl d_M_goOn_58 ?_
          refine zw_iload_n (pc := 59) (n := 1) (x := Int32.ofInt v14_) rfl d_M_goOn_59 ?_
          refine zr_if_ge (pc := 60) (tgt := 69) ⟨by omega, by omega⟩ (by decide) d_M_goOn_60 (fun hc_60 => ?_) (fun hc_60 => ?_)
          · skip
            refine zw_iload_n (pc := 69) (n := 1) (x := Int32.ofInt v14_) rfl d_M_goOn_69 ?_
            refine zr_callS hf_N12_.x (pc := 70) [.int (Int32.ofInt v14_)] [] l_M_158 (c_M_isLetter l N12_ (hf_N12_.w hW) v14_ (by omega) (by omega)) rfl rfl (by decide) (Nat.le_of_ble_eq_true rfl) d_M_goOn_70 ?_
            rintro _ N15_ ⟨v16_, rfl, ⟨hv16_a, hv16_b⟩, hsN15_, hp0_N15_⟩
            obtain rfl := hsN15_.eq.symm
            replace hp0_N15_ : ((v16_ = 1 ∧ 97 ≤ v14_ ∧ v14_ ≤ 122) ∨ (v16_ = 0 ∧ (v14_ < 97 ∨ 122 < v14_))) := hp0_N15_
            rcases hp0_N15_ with ⟨rfl, ha70_0_hp0_N15_, ha70_1_hp0_N15_⟩ | ⟨rfl, ha70_0_hp0_N15_⟩
            · skip
              show zW l m_M_goOn (zn Mz + 0, zw Mz + 0) N12_ 73 [some (.ref 81), some (.int (Int32.ofInt v14_)), some (.int (Int32.ofInt 0))] [.int (Int32.ofInt 1)] (zpV [3, 4, 5, 6, 11] [] Mz (fun N => 0 ≤ ze N 81 3 ∧ ze N 81 3 ≤ ze N 81 2 ∧ zTv N ∧ ze Mz 81 3 ≤ ze N 81 3 ∧ zmu N < zmu Mz))
              refine zr_if_eq (pc := 73) (tgt := 135) ⟨by omega, by omega⟩ (by decide) d_M_goOn_73 (fun hc_73 => ?_) (fun hc_73 => ?_)
              · skip
                exact absurd hc_73 (by decide)
              · skip
                have lp_76 : ∀ (n : Nat) (u17_ : Int) (hu17_a : -2147483648 ≤ u17_) (hu17_b : u17_ < 2147483648) (N18_ : zMem) (hs19_ : zFr [11] [] N12_ N18_) (i20_ : 0 ≤ u17_) (i21_ : ze N18_ 81 3 + u17_ ≤ ze Mz 81 2) (i22_ : (1 ≤ u17_ ∨ (u17_ = 0 ∧ 97 ≤ zhr N18_ 0 ∧ zhr N18_ 0 ≤ 122))), (ze Mz 81 2 - ze N18_ 81 3 - u17_).toNat < n → zW l m_M_goOn (zn Mz + 0, zw Mz + 0) N18_ 76 [some (.ref 81), some (.int (Int32.ofInt v14_)), some (.int (Int32.ofInt u17_))] [] (zpV [3, 4, 5, 6, 11] [] Mz (fun N => 0 ≤ ze N 81 3 ∧ ze N 81 3 ≤ ze N 81 2 ∧ zTv N ∧ ze Mz 81 3 ≤ ze N 81 3 ∧ zmu N < zmu Mz)) := by
                  intro n
                  induction n with
                  | zero =>
                    intro u17_ hu17_a hu17_b N18_ hs19_ i20_ i21_ i22_ h0
                    exact absurd h0 (Nat.not_lt_zero _)
                  | succ n ih_76 =>
                    intro u17_ hu17_a hu17_b N18_ hs19_ i20_ i21_ i22_ hlt_76
                    have hf_N18_ : zFr [3, 4, 5, 6, 11] [] Mz N18_ := hf_N12_.tr hs19_ (by decide) (by decide)
                    have e2_N18_ : ze N18_ 81 2 = ze N12_ 81 2 := hs19_.e (by decide)
                    have e3_N18_ : ze N18_ 81 3 = ze N12_ 81 3 := hs19_.e (by decide)
                    have e4_N18_ : ze N18_ 81 4 = ze N12_ 81 4 := hs19_.e (by decide)
                    have e5_N18_ : ze N18_ 81 5 = ze N12_ 81 5 := hs19_.e (by decide)
                    have e6_N18_ : ze N18_ 81 6 = ze N12_ 81 6 := hs19_.e (by decide)
                    have e7_N18_ : ze N18_ 81 7 = ze N12_ 81 7 := hs19_.e (by decide)
                    have hz := zhr_c N18_ u17_ 0
                    refine zw_aload_n (pc := 76) (n := 0) (x := 81) rfl d_M_goOn_76 ?_
                    refine zw_iload_n (pc := 77) (n := 2) (x := Int32.ofInt u17_) rfl d_M_goOn_77 ?_
                    refine zr_callV (hf_N18_.w hW) hf_N18_.x (pc := 78) [.int (Int32.ofInt u17_)] [] l_M_141 (c_M_here l N18_ (hf_N18_.w hW) u17_ (by omega) (by omega) (show 0 ≤ ze N18_ 81 3 + u17_ by omega) (show ze N18_ 81 3 ≤ 700 by omega) (show u17_ ≤ 1000 by omega) (show ze N18_ 81 2 ≤ 700 by omega)) rfl rfl rfl (by decide) (Nat.le_of_ble_eq_true rfl) d_M_goOn_78 ?_
                    rintro _ N23_ ⟨v24_, rfl, ⟨hv24_a, hv24_b⟩, hsN23_, ⟨hp0_N23_, hp1_N23_⟩⟩
                    obtain rfl := hsN23_.eq.symm
                    show zW l m_M_goOn (zn Mz + 0, zw Mz + 0) N18_ 81 [some (.ref 81), some (.int (Int32.ofInt v14_)), some (.int (Int32.ofInt u17_))] [.int (Int32.ofInt v24_)] (zpV [3, 4, 5, 6, 11] [] Mz (fun N => 0 ≤ ze N 81 3 ∧ ze N 81 3 ≤ ze N 81 2 ∧ zTv N ∧ ze Mz 81 3 ≤ ze N 81 3 ∧ zmu N < zmu Mz))
                    refine zr_callS hf_N18_.x (pc := 81) [.int (Int32.ofInt v24_)] [] l_M_158 (c_M_isLetter l N18_ (hf_N18_.w hW) v24_ (by omega) (by omega)) rfl rfl (by decide) (Nat.le_of_ble_eq_true rfl) d_M_goOn_81 ?_
                    rintro _ N25_ ⟨v26_, rfl, ⟨hv26_a, hv26_b⟩, hsN25_, hp0_N25_⟩
                    obtain rfl := hsN25_.eq.symm
                    replace hp0_N25_ : ((v26_ = 1 ∧ 97 ≤ v24_ ∧ v24_ ≤ 122) ∨ (v26_ = 0 ∧ (v24_ < 97 ∨ 122 < v24_))) := hp0_N25_
                    rcases hp0_N25_ with ⟨rfl, ha81_0_hp0_N25_, ha81_1_hp0_N25_⟩ | ⟨rfl, ha81_0_hp0_N25_⟩
                    · skip
                      show zW l m_M_goOn (zn Mz + 0, zw Mz + 0) N18_ 84 [some (.ref 81), some (.int (Int32.ofInt v14_)), some (.int (Int32.ofInt u17_))] [.int (Int32.ofInt 1)] (zpV [3, 4, 5, 6, 11] [] Mz (fun N => 0 ≤ ze N 81 3 ∧ ze N 81 3 ≤ ze N 81 2 ∧ zTv N ∧ ze Mz 81 3 ≤ ze N 81 3 ∧ zmu N < zmu Mz))
                      refine zr_if_eq (pc := 84) (tgt := 117) ⟨by omega, by omega⟩ (by decide) d_M_goOn_84 (fun hc_84 => ?_) (fun hc_84 => ?_)
                      · skip
                        exact absurd hc_84 (by decide)
                      · skip
                        refine zw_iload_n (pc := 87) (n := 2) (x := Int32.ofInt u17_) rfl d_M_goOn_87 ?_
                        refine zw_bipush (pc := 88) (v := Int32.ofInt 6) (by decide) d_M_goOn_88 ?_
                        refine zr_icmp_ge (pc := 90) (tgt := 111) ⟨by omega, by omega⟩ ⟨by omega, by omega⟩ (by decide) d_M_goOn_90 (fun hc_90 => ?_) (fun hc_90 => ?_)
                        · skip
                          refine zr_iinc (pc := 111) (i := 2) (a := u17_) (n := 1) (L2 := [some (.ref 81), some (.int (Int32.ofInt v14_)), some (.int (Int32.ofInt (u17_ + 1)))]) rfl (by decide) rfl d_M_goOn_111 ?_
                          refine zw_goto (pc := 114) (tgt := 76) (by decide) d_M_goOn_114 ?_
                          exact ih_76 (u17_ + 1) (by omega) (by omega) N18_ hs19_ (show 0 ≤ (u17_ + 1) by omega) (show ze N18_ 81 3 + (u17_ + 1) ≤ ze Mz 81 2 by omega) (show (1 ≤ (u17_ + 1) ∨ ((u17_ + 1) = 0 ∧ 97 ≤ zhr N18_ 0 ∧ zhr N18_ 0 ≤ 122)) by omega) (by omega)
                        · skip
                          refine zw_aload_n (pc := 93) (n := 0) (x := 81) rfl d_M_goOn_93 ?_
                          refine zw_aload_n (pc := 94) (n := 0) (x := 81) rfl d_M_goOn_94 ?_
                          refine zr_getJ (hf_N18_.w hW) (pc := 95) f_M_148 rfl d_M_goOn_95 ?_
                          have hr27_ := zg_r N18_ 81 11
                          refine zw_bipush (pc := 98) (v := Int32.ofInt 8) (by decide) d_M_goOn_98 ?_
                          refine zr_lshl (pc := 100) d_M_goOn_100 ?_
                          have hr28_ := zlshl_r (zg N18_ 81 11) 8
                          refine zw_aload_n (pc := 101) (n := 0) (x := 81) rfl d_M_goOn_101 ?_
                          refine zw_iload_n (pc := 102) (n := 2) (x := Int32.ofInt u17_) rfl d_M_goOn_102 ?_
                          refine zr_callV (hf_N18_.w hW) hf_N18_.x (pc := 103) [.int (Int32.ofInt u17_)] [.long (Int64.ofInt (zlshl (zg N18_ 81 11) 8)), .ref 81] l_M_141 (c_M_here l N18_ (hf_N18_.w hW) u17_ (by omega) (by omega) (show 0 ≤ ze N18_ 81 3 + u17_ by omega) (show ze N18_ 81 3 ≤ 700 by omega) (show u17_ ≤ 1000 by omega) (show ze N18_ 81 2 ≤ 700 by omega)) rfl rfl rfl (by decide) (Nat.le_of_ble_eq_true rfl) d_M_goOn_103 ?_
                          rintro _ N29_ ⟨v30_, rfl, ⟨hv30_a, hv30_b⟩, hsN29_, ⟨hp0_N29_, hp1_N29_⟩⟩
                          obtain rfl := hsN29_.eq.symm
                          show zW l m_M_goOn (zn Mz + 0, zw Mz + 0) N18_ 106 [some (.ref 81), some (.int (Int32.ofInt v14_)), some (.int (Int32.ofInt u17_))] [.int (Int32.ofInt v30_), .long (Int64.ofInt (zlshl (zg N18_ 81 11) 8)), .ref 81] (zpV [3, 4, 5, 6, 11] [] Mz (fun N => 0 ≤ ze N 81 3 ∧ ze N 81 3 ≤ ze N 81 2 ∧ zTv N ∧ ze Mz 81 3 ≤ ze N 81 3 ∧ zmu N < zmu Mz))
                          refine zr_i2l (pc := 106) ⟨by omega, by omega⟩ d_M_goOn_106 ?_
                          refine zr_lor (pc := 107) d_M_goOn_107 ?_
                          have hr31_ := zlor_r (zlshl (zg N18_ 81 11) 8) v30_
                          refine zr_putJ (hf_N18_.w hW) (pc := 108) f_M_148 rfl rfl rfl rfl d_M_goOn_108 (fun N32_ hsN32_ hvN32_ => ?_)
                          have hf_N32_ : zFr [3, 4, 5, 6, 11] [] Mz N32_ := hf_N18_.tr hsN32_ (by decide) (by decide)
                          have hb0_N32_ : zFr [11] [] N12_ N32_ := hs19_.tr hsN32_ (by decide) (by decide)
                          have e2_N32_ : ze N32_ 81 2 = ze N18_ 81 2 := hsN32_.e (by decide)
                          have e3_N32_ : ze N32_ 81 3 = ze N18_ 81 3 := hsN32_.e (by decide)
                          have e4_N32_ : ze N32_ 81 4 = ze N18_ 81 4 := hsN32_.e (by decide)
                          have e5_N32_ : ze N32_ 81 5 = ze N18_ 81 5 := hsN32_.e (by decide)
                          have e6_N32_ : ze N32_ 81 6 = ze N18_ 81 6 := hsN32_.e (by decide)
                          have e7_N32_ : ze N32_ 81 7 = ze N18_ 81 7 := hsN32_.e (by decide)
                          refine zr_iinc (pc := 111) (i := 2) (a := u17_) (n := 1) (L2 := [some (.ref 81), some (.int (Int32.ofInt v14_)), some (.int (Int32.ofInt (u17_ + 1)))]) rfl (by decide) rfl d_M_goOn_111 ?_
                          refine zw_goto (pc := 114) (tgt := 76) (by decide) d_M_goOn_114 ?_
                          exact ih_76 (u17_ + 1) (by omega) (by omega) N32_ hb0_N32_ (show 0 ≤ (u17_ + 1) by omega) (show ze N32_ 81 3 + (u17_ + 1) ≤ ze Mz 81 2 by omega) (show (1 ≤ (u17_ + 1) ∨ ((u17_ + 1) = 0 ∧ 97 ≤ zhr N32_ 0 ∧ zhr N32_ 0 ≤ 122)) by omega) (by omega)
                    · skip
                      show zW l m_M_goOn (zn Mz + 0, zw Mz + 0) N18_ 84 [some (.ref 81), some (.int (Int32.ofInt v14_)), some (.int (Int32.ofInt u17_))] [.int (Int32.ofInt 0)] (zpV [3, 4, 5, 6, 11] [] Mz (fun N => 0 ≤ ze N 81 3 ∧ ze N 81 3 ≤ ze N 81 2 ∧ zTv N ∧ ze Mz 81 3 ≤ ze N 81 3 ∧ zmu N < zmu Mz))
                      refine zr_if_eq (pc := 84) (tgt := 117) ⟨by omega, by omega⟩ (by decide) d_M_goOn_84 (fun hc_84 => ?_) (fun hc_84 => ?_)
                      · skip
                        refine zw_aload_n (pc := 117) (n := 0) (x := 81) rfl d_M_goOn_117 ?_
                        refine zw_iload_n (pc := 118) (n := 2) (x := Int32.ofInt u17_) rfl d_M_goOn_118 ?_
                        refine zw_bipush (pc := 119) (v := Int32.ofInt 6) (by decide) d_M_goOn_119 ?_
                        refine zr_icmp_le (pc := 121) (tgt := 128) ⟨by omega, by omega⟩ ⟨by omega, by omega⟩ (by decide) d_M_goOn_121 (fun hc_121 => ?_) (fun hc_121 => ?_)
                        · skip
                          refine zw_iconst (pc := 128) (v := Int32.ofInt 1) (by decide) d_M_goOn_128 ?_
                          refine zr_putI (hf_N18_.w hW) (pc := 129) f_M_155 rfl rfl ⟨by omega, by omega⟩ rfl rfl d_M_goOn_129 (fun N33_ hsN33_ hvN33_ => ?_)
                          have hf_N33_ : zFr [3, 4, 5, 6, 11] [] Mz N33_ := hf_N18_.tr hsN33_ (by decide) (by decide)
                          have e2_N33_ : ze N33_ 81 2 = ze N18_ 81 2 := hsN33_.e (by decide)
                          have e3_N33_ : ze N33_ 81 3 = ze N18_ 81 3 := hsN33_.e (by decide)
                          have e4_N33_ : ze N33_ 81 4 = ze N18_ 81 4 := hsN33_.e (by decide)
                          have r5_N33_ := ze_r N33_ 81 5
                          have e6_N33_ : ze N33_ 81 6 = ze N18_ 81 6 := hsN33_.e (by decide)
                          have e7_N33_ : ze N33_ 81 7 = ze N18_ 81 7 := hsN33_.e (by decide)
                          refine zw_goto (pc := 132) (tgt := 235) (by decide) d_M_goOn_132 ?_
                          refine zw_aload_n (pc := 235) (n := 0) (x := 81) rfl d_M_goOn_235 ?_
                          refine zw_dup (pc := 236) rfl d_M_goOn_236 ?_
                          refine zr_getI (hf_N33_.w hW) (pc := 237) f_M_135 rfl d_M_goOn_237 ?_
                          refine zw_iload_n (pc := 240) (n := 2) (x := Int32.ofInt u17_) rfl d_M_goOn_240 ?_
                          refine zr_iadd (pc := 241) d_M_goOn_241 ?_
                          refine zr_putI (hf_N33_.w hW) (pc := 242) f_M_135 rfl rfl ⟨by omega, by omega⟩ rfl rfl d_M_goOn_242 (fun N34_ hsN34_ hvN34_ => ?_)
                          have hf_N34_ : zFr [3, 4, 5, 6, 11] [] Mz N34_ := hf_N33_.tr hsN34_ (by decide) (by decide)
                          have e2_N34_ : ze N34_ 81 2 = ze N33_ 81 2 := hsN34_.e (by decide)
                          have r3_N34_ := ze_r N34_ 81 3
                          have e4_N34_ : ze N34_ 81 4 = ze N33_ 81 4 := hsN34_.e (by decide)
                          have e5_N34_ : ze N34_ 81 5 = ze N33_ 81 5 := hsN34_.e (by decide)
                          have e6_N34_ : ze N34_ 81 6 = ze N33_ 81 6 := hsN34_.e (by decide)
                          have e7_N34_ : ze N34_ 81 7 = ze N33_ 81 7 := hsN34_.e (by decide)
                          have hz0 := zmu_s Mz
                          have hz1 := zmu_s N34_
                          exact zr_vret (pc := 245) rfl hf_N34_ ⟨(show 0 ≤ ze N34_ 81 3 by omega), (show ze N34_ 81 3 ≤ ze N34_ 81 2 by omega), (by intro h2; omega), (show ze Mz 81 3 ≤ ze N34_ 81 3 by omega), (show zmu N34_ < zmu Mz by omega)⟩ d_M_goOn_245
                        · skip
                          refine zw_iconst (pc := 124) (v := Int32.ofInt 4) (by decide) d_M_goOn_124 ?_
                          refine zw_goto (pc := 125) (tgt := 129) (by decide) d_M_goOn_125 ?_
                          refine zr_putI (hf_N18_.w hW) (pc := 129) f_M_155 rfl rfl ⟨by omega, by omega⟩ rfl rfl d_M_goOn_129 (fun N35_ hsN35_ hvN35_ => ?_)
                          have hf_N35_ : zFr [3, 4, 5, 6, 11] [] Mz N35_ := hf_N18_.tr hsN35_ (by decide) (by decide)
                          have e2_N35_ : ze N35_ 81 2 = ze N18_ 81 2 := hsN35_.e (by decide)
                          have e3_N35_ : ze N35_ 81 3 = ze N18_ 81 3 := hsN35_.e (by decide)
                          have e4_N35_ : ze N35_ 81 4 = ze N18_ 81 4 := hsN35_.e (by decide)
                          have r5_N35_ := ze_r N35_ 81 5
                          have e6_N35_ : ze N35_ 81 6 = ze N18_ 81 6 := hsN35_.e (by decide)
                          have e7_N35_ : ze N35_ 81 7 = ze N18_ 81 7 := hsN35_.e (by decide)
                          refine zw_goto (pc := 132) (tgt := 235) (by decide) d_M_goOn_132 ?_
                          refine zw_aload_n (pc := 235) (n := 0) (x := 81) rfl d_M_goOn_235 ?_
                          refine zw_dup (pc := 236) rfl d_M_goOn_236 ?_
                          refine zr_getI (hf_N35_.w hW) (pc := 237) f_M_135 rfl d_M_goOn_237 ?_
                          refine zw_iload_n (pc := 240) (n := 2) (x := Int32.ofInt u17_) rfl d_M_goOn_240 ?_
                          refine zr_iadd (pc := 241) d_M_goOn_241 ?_
                          refine zr_putI (hf_N35_.w hW) (pc := 242) f_M_135 rfl rfl ⟨by omega, by omega⟩ rfl rfl d_M_goOn_242 (fun N36_ hsN36_ hvN36_ => ?_)
                          have hf_N36_ : zFr [3, 4, 5, 6, 11] [] Mz N36_ := hf_N35_.tr hsN36_ (by decide) (by decide)
                          have e2_N36_ : ze N36_ 81 2 = ze N35_ 81 2 := hsN36_.e (by decide)
                          have r3_N36_ := ze_r N36_ 81 3
                          have e4_N36_ : ze N36_ 81 4 = ze N35_ 81 4 := hsN36_.e (by decide)
                          have e5_N36_ : ze N36_ 81 5 = ze N35_ 81 5 := hsN36_.e (by decide)
                          have e6_N36_ : ze N36_ 81 6 = ze N35_ 81 6 := hsN36_.e (by decide)
                          have e7_N36_ : ze N36_ 81 7 = ze N35_ 81 7 := hsN36_.e (by decide)
                          have hz0 := zmu_s Mz
                          have hz1 := zmu_s N36_
                          exact zr_vret (pc := 245) rfl hf_N36_ ⟨(show 0 ≤ ze N36_ 81 3 by omega), (show ze N36_ 81 3 ≤ ze N36_ 81 2 by omega), (by intro h2; omega), (show ze Mz 81 3 ≤ ze N36_ 81 3 by omega), (show zmu N36_ < zmu Mz by omega)⟩ d_M_goOn_245
                      · skip
                        exact absurd hc_84 (by decide)
                exact lp_76 _ 0 (by omega) (by omega) N12_ zFr.rf (show 0 ≤ 0 by omega) (show ze N12_ 81 3 + 0 ≤ ze Mz 81 2 by omega) (show (1 ≤ 0 ∨ (0 = 0 ∧ 97 ≤ zhr N12_ 0 ∧ zhr N12_ 0 ≤ 122)) by omega) (Nat.lt_succ_self _)
            · skip
              show zW l m_M_goOn (zn Mz + 0, zw Mz + 0) N12_ 73 [some (.ref 81), some (.int (Int32.ofInt v14_)), some (.int (Int32.ofInt 0))] [.int (Int32.ofInt 0)] (zpV [3, 4, 5, 6, 11] [] Mz (fun N => 0 ≤ ze N 81 3 ∧ ze N 81 3 ≤ ze N 81 2 ∧ zTv N ∧ ze Mz 81 3 ≤ ze N 81 3 ∧ zmu N < zmu Mz))
              refine zr_if_eq (pc := 73) (tgt := 135) ⟨by omega, by omega⟩ (by decide) d_M_goOn_73 (fun hc_73 => ?_) (fun hc_73 => ?_)
              · skip
                refine zw_iload_n (pc := 135) (n := 1) (x := Int32.ofInt v14_) rfl d_M_goOn_135 ?_
                refine zr_callS hf_N12_.x (pc := 136) [.int (Int32.ofInt v14_)] [] l_M_162 (c_M_isDigit l N12_ (hf_N12_.w hW) v14_ (by omega) (by omega)) rfl rfl (by decide) (Nat.le_of_ble_eq_true rfl) d_M_goOn_136 ?_
                rintro _ N37_ ⟨v38_, rfl, ⟨hv38_a, hv38_b⟩, hsN37_, hp0_N37_⟩
                obtain rfl := hsN37_.eq.symm
                replace hp0_N37_ : ((v38_ = 1 ∧ 48 ≤ v14_ ∧ v14_ ≤ 57) ∨ (v38_ = 0 ∧ (v14_ < 48 ∨ 57 < v14_))) := hp0_N37_
                rcases hp0_N37_ with ⟨rfl, ha136_0_hp0_N37_, ha136_1_hp0_N37_⟩ | ⟨rfl, ha136_0_hp0_N37_⟩
                · skip
                  show zW l m_M_goOn (zn Mz + 0, zw Mz + 0) N12_ 139 [some (.ref 81), some (.int (Int32.ofInt v14_)), some (.int (Int32.ofInt 0))] [.int (Int32.ofInt 1)] (zpV [3, 4, 5, 6, 11] [] Mz (fun N => 0 ≤ ze N 81 3 ∧ ze N 81 3 ≤ ze N 81 2 ∧ zTv N ∧ ze Mz 81 3 ≤ ze N 81 3 ∧ zmu N < zmu Mz))
                  refine zr_if_eq (pc := 139) (tgt := 212) ⟨by omega, by omega⟩ (by decide) d_M_goOn_139 (fun hc_139 => ?_) (fun hc_139 => ?_)
                  · skip
                    exact absurd hc_139 (by decide)
                  · skip
                    have lp_142 : ∀ (n : Nat) (u39_ : Int) (hu39_a : -2147483648 ≤ u39_) (hu39_b : u39_ < 2147483648) (N40_ : zMem) (hs41_ : zFr [6] [] N12_ N40_) (i42_ : 0 ≤ u39_) (i43_ : ze N40_ 81 3 + u39_ ≤ ze Mz 81 2) (i44_ : (1 ≤ u39_ ∨ (u39_ = 0 ∧ 48 ≤ zhr N40_ 0 ∧ zhr N40_ 0 ≤ 57))) (i45_ : 0 ≤ ze N40_ 81 6) (i46_ : ((u39_ = 0 ∧ ze N40_ 81 6 = 0) ∨ (u39_ = 1 ∧ ze N40_ 81 6 ≤ 9) ∨ (u39_ = 2 ∧ ze N40_ 81 6 ≤ 99) ∨ (3 ≤ u39_ ∧ ze N40_ 81 6 ≤ 999))), (ze Mz 81 2 - ze N40_ 81 3 - u39_).toNat < n → zW l m_M_goOn (zn Mz + 0, zw Mz + 0) N40_ 142 [some (.ref 81), some (.int (Int32.ofInt v14_)), some (.int (Int32.ofInt u39_))] [] (zpV [3, 4, 5, 6, 11] [] Mz (fun N => 0 ≤ ze N 81 3 ∧ ze N 81 3 ≤ ze N 81 2 ∧ zTv N ∧ ze Mz 81 3 ≤ ze N 81 3 ∧ zmu N < zmu Mz)) := by
                      intro n
                      induction n with
                      | zero =>
                        intro u39_ hu39_a hu39_b N40_ hs41_ i42_ i43_ i44_ i45_ i46_ h0
                        exact absurd h0 (Nat.not_lt_zero _)
                      | succ n ih_142 =>
                        intro u39_ hu39_a hu39_b N40_ hs41_ i42_ i43_ i44_ i45_ i46_ hlt_142
                        have hf_N40_ : zFr [3, 4, 5, 6, 11] [] Mz N40_ := hf_N12_.tr hs41_ (by decide) (by decide)
                        have e2_N40_ : ze N40_ 81 2 = ze N12_ 81 2 := hs41_.e (by decide)
                        have e3_N40_ : ze N40_ 81 3 = ze N12_ 81 3 := hs41_.e (by decide)
                        have e4_N40_ : ze N40_ 81 4 = ze N12_ 81 4 := hs41_.e (by decide)
                        have e5_N40_ : ze N40_ 81 5 = ze N12_ 81 5 := hs41_.e (by decide)
                        have r6_N40_ := ze_r N40_ 81 6
                        have e7_N40_ : ze N40_ 81 7 = ze N12_ 81 7 := hs41_.e (by decide)
                        have hz := zhr_c N40_ u39_ 0
                        refine zw_aload_n (pc := 142) (n := 0) (x := 81) rfl d_M_goOn_142 ?_
                        refine zw_iload_n (pc := 143) (n := 2) (x := Int32.ofInt u39_) rfl d_M_goOn_143 ?_
                        refine zr_callV (hf_N40_.w hW) hf_N40_.x (pc := 144) [.int (Int32.ofInt u39_)] [] l_M_141 (c_M_here l N40_ (hf_N40_.w hW) u39_ (by omega) (by omega) (show 0 ≤ ze N40_ 81 3 + u39_ by omega) (show ze N40_ 81 3 ≤ 700 by omega) (show u39_ ≤ 1000 by omega) (show ze N40_ 81 2 ≤ 700 by omega)) rfl rfl rfl (by decide) (Nat.le_of_ble_eq_true rfl) d_M_goOn_144 ?_
                        rintro _ N47_ ⟨v48_, rfl, ⟨hv48_a, hv48_b⟩, hsN47_, ⟨hp0_N47_, hp1_N47_⟩⟩
                        obtain rfl := hsN47_.eq.symm
                        show zW l m_M_goOn (zn Mz + 0, zw Mz + 0) N40_ 147 [some (.ref 81), some (.int (Int32.ofInt v14_)), some (.int (Int32.ofInt u39_))] [.int (Int32.ofInt v48_)] (zpV [3, 4, 5, 6, 11] [] Mz (fun N => 0 ≤ ze N 81 3 ∧ ze N 81 3 ≤ ze N 81 2 ∧ zTv N ∧ ze Mz 81 3 ≤ ze N 81 3 ∧ zmu N < zmu Mz))
                        refine zr_callS hf_N40_.x (pc := 147) [.int (Int32.ofInt v48_)] [] l_M_162 (c_M_isDigit l N40_ (hf_N40_.w hW) v48_ (by omega) (by omega)) rfl rfl (by decide) (Nat.le_of_ble_eq_true rfl) d_M_goOn_147 ?_
                        rintro _ N49_ ⟨v50_, rfl, ⟨hv50_a, hv50_b⟩, hsN49_, hp0_N49_⟩
                        obtain rfl := hsN49_.eq.symm
                        replace hp0_N49_ : ((v50_ = 1 ∧ 48 ≤ v48_ ∧ v48_ ≤ 57) ∨ (v50_ = 0 ∧ (v48_ < 48 ∨ 57 < v48_))) := hp0_N49_
                        rcases hp0_N49_ with ⟨rfl, ha147_0_hp0_N49_, ha147_1_hp0_N49_⟩ | ⟨rfl, ha147_0_hp0_N49_⟩
                        · skip
                          show zW l m_M_goOn (zn Mz + 0, zw Mz + 0) N40_ 150 [some (.ref 81), some (.int (Int32.ofInt v14_)), some (.int (Int32.ofInt u39_))] [.int (Int32.ofInt 1)] (zpV [3, 4, 5, 6, 11] [] Mz (fun N => 0 ≤ ze N 81 3 ∧ ze N 81 3 ≤ ze N 81 2 ∧ zTv N ∧ ze Mz 81 3 ≤ ze N 81 3 ∧ zmu N < zmu Mz))
                          refine zr_if_eq (pc := 150) (tgt := 184) ⟨by omega, by omega⟩ (by decide) d_M_goOn_150 (fun hc_150 => ?_) (fun hc_150 => ?_)
                          · skip
                            exact absurd hc_150 (by decide)
                          · skip
                            refine zw_iload_n (pc := 153) (n := 2) (x := Int32.ofInt u39_) rfl d_M_goOn_153 ?_
                            refine zw_iconst (pc := 154) (v := Int32.ofInt 3) (by decide) d_M_goOn_154 ?_
                            refine zr_icmp_ge (pc := 155) (tgt := 178) ⟨by omega, by omega⟩ ⟨by omega, by omega⟩ (by decide) d_M_goOn_155 (fun hc_155 => ?_) (fun hc_155 => ?_)
                            · skip
                              refine zr_iinc (pc := 178) (i := 2) (a := u39_) (n := 1) (L2 := [some (.ref 81), some (.int (Int32.ofInt v14_)), some (.int (Int32.ofInt (u39_ + 1)))]) rfl (by decide) rfl d_M_goOn_178 ?_
                              refine zw_goto (pc := 181) (tgt := 142) (by decide) d_M_goOn_181 ?_
                              exact ih_142 (u39_ + 1) (by omega) (by omega) N40_ hs41_ (show 0 ≤ (u39_ + 1) by omega) (show ze N40_ 81 3 + (u39_ + 1) ≤ ze Mz 81 2 by omega) (show (1 ≤ (u39_ + 1) ∨ ((u39_ + 1) = 0 ∧ 48 ≤ zhr N40_ 0 ∧ zhr N40_ 0 ≤ 57)) by omega) (show 0 ≤ ze N40_ 81 6 by omega) (show (((u39_ + 1) = 0 ∧ ze N40_ 81 6 = 0) ∨ ((u39_ + 1) = 1 ∧ ze N40_ 81 6 ≤ 9) ∨ ((u39_ + 1) = 2 ∧ ze N40_ 81 6 ≤ 99) ∨ (3 ≤ (u39_ + 1) ∧ ze N40_ 81 6 ≤ 999)) by omega) (by omega)
                            · skip
                              refine zw_aload_n (pc := 158) (n := 0) (x := 81) rfl d_M_goOn_158 ?_
                              refine zw_bipush (pc := 159) (v := Int32.ofInt 10) (by decide) d_M_goOn_159 ?_
                              refine zw_aload_n (pc := 161) (n := 0) (x := 81) rfl d_M_goOn_161 ?_
                              refine zr_getI (hf_N40_.w hW) (pc := 162) f_M_152 rfl d_M_goOn_162 ?_
                              refine zr_imul (pc := 165) d_M_goOn_165 ?_
                              refine zw_aload_n (pc := 166) (n := 0) (x := 81) rfl d_M_goOn_166 ?_
                              refine zw_iload_n (pc := 167) (n := 2) (x := Int32.ofInt u39_) rfl d_M_goOn_167 ?_
                              refine zr_callV (hf_N40_.w hW) hf_N40_.x (pc := 168) [.int (Int32.ofInt u39_)] [.int (Int32.ofInt (10 * (ze N40_ 81 6))), .ref 81] l_M_141 (c_M_here l N40_ (hf_N40_.w hW) u39_ (by omega) (by omega) (show 0 ≤ ze N40_ 81 3 + u39_ by omega) (show ze N40_ 81 3 ≤ 700 by omega) (show u39_ ≤ 1000 by omega) (show ze N40_ 81 2 ≤ 700 by omega)) rfl rfl rfl (by decide) (Nat.le_of_ble_eq_true rfl) d_M_goOn_168 ?_
                              rintro _ N51_ ⟨v52_, rfl, ⟨hv52_a, hv52_b⟩, hsN51_, ⟨hp0_N51_, hp1_N51_⟩⟩
                              obtain rfl := hsN51_.eq.symm
                              show zW l m_M_goOn (zn Mz + 0, zw Mz + 0) N40_ 171 [some (.ref 81), some (.int (Int32.ofInt v14_)), some (.int (Int32.ofInt u39_))] [.int (Int32.ofInt v52_), .int (Int32.ofInt (10 * (ze N40_ 81 6))), .ref 81] (zpV [3, 4, 5, 6, 11] [] Mz (fun N => 0 ≤ ze N 81 3 ∧ ze N 81 3 ≤ ze N 81 2 ∧ zTv N ∧ ze Mz 81 3 ≤ ze N 81 3 ∧ zmu N < zmu Mz))
                              refine zr_iadd (pc := 171) d_M_goOn_171 ?_
                              refine zw_bipush (pc := 172) (v := Int32.ofInt 48) (by decide) d_M_goOn_172 ?_
                              refine zr_isub (pc := 174) d_M_goOn_174 ?_
                              refine zr_putI (hf_N40_.w hW) (pc := 175) f_M_152 rfl rfl ⟨by omega, by omega⟩ rfl rfl d_M_goOn_175 (fun N53_ hsN53_ hvN53_ => ?_)
                              have hf_N53_ : zFr [3, 4, 5, 6, 11] [] Mz N53_ := hf_N40_.tr hsN53_ (by decide) (by decide)
                              have hb0_N53_ : zFr [6] [] N12_ N53_ := hs41_.tr hsN53_ (by decide) (by decide)
                              have e2_N53_ : ze N53_ 81 2 = ze N40_ 81 2 := hsN53_.e (by decide)
                              have e3_N53_ : ze N53_ 81 3 = ze N40_ 81 3 := hsN53_.e (by decide)
                              have e4_N53_ : ze N53_ 81 4 = ze N40_ 81 4 := hsN53_.e (by decide)
                              have e5_N53_ : ze N53_ 81 5 = ze N40_ 81 5 := hsN53_.e (by decide)
                              have r6_N53_ := ze_r N53_ 81 6
                              have e7_N53_ : ze N53_ 81 7 = ze N40_ 81 7 := hsN53_.e (by decide)
                              refine zr_iinc (pc := 178) (i := 2) (a := u39_) (n := 1) (L2 := [some (.ref 81), some (.int (Int32.ofInt v14_)), some (.int (Int32.ofInt (u39_ + 1)))]) rfl (by decide) rfl d_M_goOn_178 ?_
                              refine zw_goto (pc := 181) (tgt := 142) (by decide) d_M_goOn_181 ?_
                              exact ih_142 (u39_ + 1) (by omega) (by omega) N53_ hb0_N53_ (show 0 ≤ (u39_ + 1) by omega) (show ze N53_ 81 3 + (u39_ + 1) ≤ ze Mz 81 2 by omega) (show (1 ≤ (u39_ + 1) ∨ ((u39_ + 1) = 0 ∧ 48 ≤ zhr N53_ 0 ∧ zhr N53_ 0 ≤ 57)) by omega) (show 0 ≤ ze N53_ 81 6 by omega) (show (((u39_ + 1) = 0 ∧ ze N53_ 81 6 = 0) ∨ ((u39_ + 1) = 1 ∧ ze N53_ 81 6 ≤ 9) ∨ ((u39_ + 1) = 2 ∧ ze N53_ 81 6 ≤ 99) ∨ (3 ≤ (u39_ + 1) ∧ ze N53_ 81 6 ≤ 999)) by omega) (by omega)
                        · skip
                          show zW l m_M_goOn (zn Mz + 0, zw Mz + 0) N40_ 150 [some (.ref 81), some (.int (Int32.ofInt v14_)), some (.int (Int32.ofInt u39_))] [.int (Int32.ofInt 0)] (zpV [3, 4, 5, 6, 11] [] Mz (fun N => 0 ≤ ze N 81 3 ∧ ze N 81 3 ≤ ze N 81 2 ∧ zTv N ∧ ze Mz 81 3 ≤ ze N 81 3 ∧ zmu N < zmu Mz))
                          refine zr_if_eq (pc := 150) (tgt := 184) ⟨by omega, by omega⟩ (by decide) d_M_goOn_150 (fun hc_150 => ?_) (fun hc_150 => ?_)
                          · skip
                            refine zw_aload_n (pc := 184) (n := 0) (x := 81) rfl d_M_goOn_184 ?_
                            refine zw_iload_n (pc := 185) (n := 2) (x := Int32.ofInt u39_) rfl d_M_goOn_185 ?_
                            refine zw_iconst (pc := 186) (v := Int32.ofInt 3) (by decide) d_M_goOn_186 ?_
                            refine zr_icmp_gt (pc := 187) (tgt := 201) ⟨by omega, by omega⟩ ⟨by omega, by omega⟩ (by decide) d_M_goOn_187 (fun hc_187 => ?_) (fun hc_187 => ?_)
                            · skip
                              refine zw_iconst (pc := 201) (v := Int32.ofInt 4) (by decide) d_M_goOn_201 ?_
                              refine zw_goto (pc := 202) (tgt := 206) (by decide) d_M_goOn_202 ?_
                              refine zr_putI (hf_N40_.w hW) (pc := 206) f_M_155 rfl rfl ⟨by omega, by omega⟩ rfl rfl d_M_goOn_206 (fun N54_ hsN54_ hvN54_ => ?_)
                              have hf_N54_ : zFr [3, 4, 5, 6, 11] [] Mz N54_ := hf_N40_.tr hsN54_ (by decide) (by decide)
                              have e2_N54_ : ze N54_ 81 2 = ze N40_ 81 2 := hsN54_.e (by decide)
                              have e3_N54_ : ze N54_ 81 3 = ze N40_ 81 3 := hsN54_.e (by decide)
                              have e4_N54_ : ze N54_ 81 4 = ze N40_ 81 4 := hsN54_.e (by decide)
                              have r5_N54_ := ze_r N54_ 81 5
                              have e6_N54_ : ze N54_ 81 6 = ze N40_ 81 6 := hsN54_.e (by decide)
                              have e7_N54_ : ze N54_ 81 7 = ze N40_ 81 7 := hsN54_.e (by decide)
                              refine zw_goto (pc := 209) (tgt := 235) (by decide) d_M_goOn_209 ?_
                              refine zw_aload_n (pc := 235) (n := 0) (x := 81) rfl d_M_goOn_235 ?_
                              refine zw_dup (pc := 236) rfl d_M_goOn_236 ?_
                              refine zr_getI (hf_N54_.w hW) (pc := 237) f_M_135 rfl d_M_goOn_237 ?_
                              refine zw_iload_n (pc := 240) (n := 2) (x := Int32.ofInt u39_) rfl d_M_goOn_240 ?_
                              refine zr_iadd (pc := 241) d_M_goOn_241 ?_
                              refine zr_putI (hf_N54_.w hW) (pc := 242) f_M_135 rfl rfl ⟨by omega, by omega⟩ rfl rfl d_M_goOn_242 (fun N55_ hsN55_ hvN55_ => ?_)
                              have hf_N55_ : zFr [3, 4, 5, 6, 11] [] Mz N55_ := hf_N54_.tr hsN55_ (by decide) (by decide)
                              have e2_N55_ : ze N55_ 81 2 = ze N54_ 81 2 := hsN55_.e (by decide)
                              have r3_N55_ := ze_r N55_ 81 3
                              have e4_N55_ : ze N55_ 81 4 = ze N54_ 81 4 := hsN55_.e (by decide)
                              have e5_N55_ : ze N55_ 81 5 = ze N54_ 81 5 := hsN55_.e (by decide)
                              have e6_N55_ : ze N55_ 81 6 = ze N54_ 81 6 := hsN55_.e (by decide)
                              have e7_N55_ : ze N55_ 81 7 = ze N54_ 81 7 := hsN55_.e (by decide)
                              have hz0 := zmu_s Mz
                              have hz1 := zmu_s N55_
                              exact zr_vret (pc := 245) rfl hf_N55_ ⟨(show 0 ≤ ze N55_ 81 3 by omega), (show ze N55_ 81 3 ≤ ze N55_ 81 2 by omega), (by intro h2; omega), (show ze Mz 81 3 ≤ ze N55_ 81 3 by omega), (show zmu N55_ < zmu Mz by omega)⟩ d_M_goOn_245
                            · skip
                              refine zw_aload_n (pc := 190) (n := 0) (x := 81) rfl d_M_goOn_190 ?_
                              refine zw_iload_n (pc := 191) (n := 2) (x := Int32.ofInt u39_) rfl d_M_goOn_191 ?_
                              refine zr_callV (hf_N40_.w hW) hf_N40_.x (pc := 192) [.int (Int32.ofInt u39_)] [.ref 81] l_M_141 (c_M_here l N40_ (hf_N40_.w hW) u39_ (by omega) (by omega) (show 0 ≤ ze N40_ 81 3 + u39_ by omega) (show ze N40_ 81 3 ≤ 700 by omega) (show u39_ ≤ 1000 by omega) (show ze N40_ 81 2 ≤ 700 by omega)) rfl rfl rfl (by decide) (Nat.le_of_ble_eq_true rfl) d_M_goOn_192 ?_
                              rintro _ N56_ ⟨v57_, rfl, ⟨hv57_a, hv57_b⟩, hsN56_, ⟨hp0_N56_, hp1_N56_⟩⟩
                              obtain rfl := hsN56_.eq.symm
                              show zW l m_M_goOn (zn Mz + 0, zw Mz + 0) N40_ 195 [some (.ref 81), some (.int (Int32.ofInt v14_)), some (.int (Int32.ofInt u39_))] [.int (Int32.ofInt v57_), .ref 81] (zpV [3, 4, 5, 6, 11] [] Mz (fun N => 0 ≤ ze N 81 3 ∧ ze N 81 3 ≤ ze N 81 2 ∧ zTv N ∧ ze Mz 81 3 ≤ ze N 81 3 ∧ zmu N < zmu Mz))
                              refine zr_callS hf_N40_.x (pc := 195) [.int (Int32.ofInt v57_)] [.ref 81] l_M_158 (c_M_isLetter l N40_ (hf_N40_.w hW) v57_ (by omega) (by omega)) rfl rfl (by decide) (Nat.le_of_ble_eq_true rfl) d_M_goOn_195 ?_
                              rintro _ N58_ ⟨v59_, rfl, ⟨hv59_a, hv59_b⟩, hsN58_, hp0_N58_⟩
                              obtain rfl := hsN58_.eq.symm
                              replace hp0_N58_ : ((v59_ = 1 ∧ 97 ≤ v57_ ∧ v57_ ≤ 122) ∨ (v59_ = 0 ∧ (v57_ < 97 ∨ 122 < v57_))) := hp0_N58_
                              rcases hp0_N58_ with ⟨rfl, ha195_0_hp0_N58_, ha195_1_hp0_N58_⟩ | ⟨rfl, ha195_0_hp0_N58_⟩
                              · skip
                                show zW l m_M_goOn (zn Mz + 0, zw Mz + 0) N40_ 198 [some (.ref 81), some (.int (Int32.ofInt v14_)), some (.int (Int32.ofInt u39_))] [.int (Int32.ofInt 1), .ref 81] (zpV [3, 4, 5, 6, 11] [] Mz (fun N => 0 ≤ ze N 81 3 ∧ ze N 81 3 ≤ ze N 81 2 ∧ zTv N ∧ ze Mz 81 3 ≤ ze N 81 3 ∧ zmu N < zmu Mz))
                                refine zr_if_eq (pc := 198) (tgt := 205) ⟨by omega, by omega⟩ (by decide) d_M_goOn_198 (fun hc_198 => ?_) (fun hc_198 => ?_)
                                · skip
                                  exact absurd hc_198 (by decide)
                                · skip
                                  refine zw_iconst (pc := 201) (v := Int32.ofInt 4) (by decide) d_M_goOn_201 ?_
                                  refine zw_goto (pc := 202) (tgt := 206) (by decide) d_M_goOn_202 ?_
                                  refine zr_putI (hf_N40_.w hW) (pc := 206) f_M_155 rfl rfl ⟨by omega, by omega⟩ rfl rfl d_M_goOn_206 (fun N60_ hsN60_ hvN60_ => ?_)
                                  have hf_N60_ : zFr [3, 4, 5, 6, 11] [] Mz N60_ := hf_N40_.tr hsN60_ (by decide) (by decide)
                                  have e2_N60_ : ze N60_ 81 2 = ze N40_ 81 2 := hsN60_.e (by decide)
                                  have e3_N60_ : ze N60_ 81 3 = ze N40_ 81 3 := hsN60_.e (by decide)
                                  have e4_N60_ : ze N60_ 81 4 = ze N40_ 81 4 := hsN60_.e (by decide)
                                  have r5_N60_ := ze_r N60_ 81 5
                                  have e6_N60_ : ze N60_ 81 6 = ze N40_ 81 6 := hsN60_.e (by decide)
                                  have e7_N60_ : ze N60_ 81 7 = ze N40_ 81 7 := hsN60_.e (by decide)
                                  refine zw_goto (pc := 209) (tgt := 235) (by decide) d_M_goOn_209 ?_
                                  refine zw_aload_n (pc := 235) (n := 0) (x := 81) rfl d_M_goOn_235 ?_
                                  refine zw_dup (pc := 236) rfl d_M_goOn_236 ?_
                                  refine zr_getI (hf_N60_.w hW) (pc := 237) f_M_135 rfl d_M_goOn_237 ?_
                                  refine zw_iload_n (pc := 240) (n := 2) (x := Int32.ofInt u39_) rfl d_M_goOn_240 ?_
                                  refine zr_iadd (pc := 241) d_M_goOn_241 ?_
                                  refine zr_putI (hf_N60_.w hW) (pc := 242) f_M_135 rfl rfl ⟨by omega, by omega⟩ rfl rfl d_M_goOn_242 (fun N61_ hsN61_ hvN61_ => ?_)
                                  have hf_N61_ : zFr [3, 4, 5, 6, 11] [] Mz N61_ := hf_N60_.tr hsN61_ (by decide) (by decide)
                                  have e2_N61_ : ze N61_ 81 2 = ze N60_ 81 2 := hsN61_.e (by decide)
                                  have r3_N61_ := ze_r N61_ 81 3
                                  have e4_N61_ : ze N61_ 81 4 = ze N60_ 81 4 := hsN61_.e (by decide)
                                  have e5_N61_ : ze N61_ 81 5 = ze N60_ 81 5 := hsN61_.e (by decide)
                                  have e6_N61_ : ze N61_ 81 6 = ze N60_ 81 6 := hsN61_.e (by decide)
                                  have e7_N61_ : ze N61_ 81 7 = ze N60_ 81 7 := hsN61_.e (by decide)
                                  have hz0 := zmu_s Mz
                                  have hz1 := zmu_s N61_
                                  exact zr_vret (pc := 245) rfl hf_N61_ ⟨(show 0 ≤ ze N61_ 81 3 by omega), (show ze N61_ 81 3 ≤ ze N61_ 81 2 by omega), (by intro h2; omega), (show ze Mz 81 3 ≤ ze N61_ 81 3 by omega), (show zmu N61_ < zmu Mz by omega)⟩ d_M_goOn_245
                              · skip
                                show zW l m_M_goOn (zn Mz + 0, zw Mz + 0) N40_ 198 [some (.ref 81), some (.int (Int32.ofInt v14_)), some (.int (Int32.ofInt u39_))] [.int (Int32.ofInt 0), .ref 81] (zpV [3, 4, 5, 6, 11] [] Mz (fun N => 0 ≤ ze N 81 3 ∧ ze N 81 3 ≤ ze N 81 2 ∧ zTv N ∧ ze Mz 81 3 ≤ ze N 81 3 ∧ zmu N < zmu Mz))
                                refine zr_if_eq (pc := 198) (tgt := 205) ⟨by omega, by omega⟩ (by decide) d_M_goOn_198 (fun hc_198 => ?_) (fun hc_198 => ?_)
                                · skip
                                  refine zw_iconst (pc := 205) (v := Int32.ofInt 2) (by decide) d_M_goOn_205 ?_
                                  refine zr_putI (hf_N40_.w hW) (pc := 206) f_M_155 rfl rfl ⟨by omega, by omega⟩ rfl rfl d_M_goOn_206 (fun N62_ hsN62_ hvN62_ => ?_)
                                  have hf_N62_ : zFr [3, 4, 5, 6, 11] [] Mz N62_ := hf_N40_.tr hsN62_ (by decide) (by decide)
                                  have e2_N62_ : ze N62_ 81 2 = ze N40_ 81 2 := hsN62_.e (by decide)
                                  have e3_N62_ : ze N62_ 81 3 = ze N40_ 81 3 := hsN62_.e (by decide)
                                  have e4_N62_ : ze N62_ 81 4 = ze N40_ 81 4 := hsN62_.e (by decide)
                                  have r5_N62_ := ze_r N62_ 81 5
                                  have e6_N62_ : ze N62_ 81 6 = ze N40_ 81 6 := hsN62_.e (by decide)
                                  have e7_N62_ : ze N62_ 81 7 = ze N40_ 81 7 := hsN62_.e (by decide)
                                  refine zw_goto (pc := 209) (tgt := 235) (by decide) d_M_goOn_209 ?_
                                  refine zw_aload_n (pc := 235) (n := 0) (x := 81) rfl d_M_goOn_235 ?_
                                  refine zw_dup (pc := 236) rfl d_M_goOn_236 ?_
                                  refine zr_getI (hf_N62_.w hW) (pc := 237) f_M_135 rfl d_M_goOn_237 ?_
                                  refine zw_iload_n (pc := 240) (n := 2) (x := Int32.ofInt u39_) rfl d_M_goOn_240 ?_
                                  refine zr_iadd (pc := 241) d_M_goOn_241 ?_
                                  refine zr_putI (hf_N62_.w hW) (pc := 242) f_M_135 rfl rfl ⟨by omega, by omega⟩ rfl rfl d_M_goOn_242 (fun N63_ hsN63_ hvN63_ => ?_)
                                  have hf_N63_ : zFr [3, 4, 5, 6, 11] [] Mz N63_ := hf_N62_.tr hsN63_ (by decide) (by decide)
                                  have e2_N63_ : ze N63_ 81 2 = ze N62_ 81 2 := hsN63_.e (by decide)
                                  have r3_N63_ := ze_r N63_ 81 3
                                  have e4_N63_ : ze N63_ 81 4 = ze N62_ 81 4 := hsN63_.e (by decide)
                                  have e5_N63_ : ze N63_ 81 5 = ze N62_ 81 5 := hsN63_.e (by decide)
                                  have e6_N63_ : ze N63_ 81 6 = ze N62_ 81 6 := hsN63_.e (by decide)
                                  have e7_N63_ : ze N63_ 81 7 = ze N62_ 81 7 := hsN63_.e (by decide)
                                  have hz0 := zmu_s Mz
                                  have hz1 := zmu_s N63_
                                  exact zr_vret (pc := 245) rfl hf_N63_ ⟨(show 0 ≤ ze N63_ 81 3 by omega), (show ze N63_ 81 3 ≤ ze N63_ 81 2 by omega), (by intro h2; omega), (show ze Mz 81 3 ≤ ze N63_ 81 3 by omega), (show zmu N63_ < zmu Mz by omega)⟩ d_M_goOn_245
                                · skip
                                  exact absurd hc_198 (by decide)
                          · skip
                            exact absurd hc_150 (by decide)
                    exact lp_142 _ 0 (by omega) (by omega) N12_ zFr.rf (show 0 ≤ 0 by omega) (show ze N12_ 81 3 + 0 ≤ ze Mz 81 2 by omega) (show (1 ≤ 0 ∨ (0 = 0 ∧ 48 ≤ zhr N12_ 0 ∧ zhr N12_ 0 ≤ 57)) by omega) (show 0 ≤ ze N12_ 81 6 by omega) (show ((0 = 0 ∧ ze N12_ 81 6 = 0) ∨ (0 = 1 ∧ ze N12_ 81 6 ≤ 9) ∨ (0 = 2 ∧ ze N12_ 81 6 ≤ 99) ∨ (3 ≤ 0 ∧ ze N12_ 81 6 ≤ 999)) by omega) (Nat.lt_succ_self _)
                · skip
                  show zW l m_M_goOn (zn Mz + 0, zw Mz + 0) N12_ 139 [some (.ref 81), some (.int (Int32.ofInt v14_)), some (.int (Int32.ofInt 0))] [.int (Int32.ofInt 0)] (zpV [3, 4, 5, 6, 11] [] Mz (fun N => 0 ≤ ze N 81 3 ∧ ze N 81 3 ≤ ze N 81 2 ∧ zTv N ∧ ze Mz 81 3 ≤ ze N 81 3 ∧ zmu N < zmu Mz))
                  refine zr_if_eq (pc := 139) (tgt := 212) ⟨by omega, by omega⟩ (by decide) d_M_goOn_139 (fun hc_139 => ?_) (fun hc_139 => ?_)
                  · skip
                    refine zw_aload_n (pc := 212) (n := 0) (x := 81) rfl d_M_goOn_212 ?_
                    refine zw_iload_n (pc := 213) (n := 1) (x := Int32.ofInt v14_) rfl d_M_goOn_213 ?_
                    refine zr_callS hf_N12_.x (pc := 214) [.int (Int32.ofInt v14_)] [.ref 81] l_M_165 (c_M_isSign l N12_ (hf_N12_.w hW) v14_ (by omega) (by omega)) rfl rfl (by decide) (Nat.le_of_ble_eq_true rfl) d_M_goOn_214 ?_
                    rintro _ N64_ ⟨v65_, rfl, ⟨hv65_a, hv65_b⟩, hsN64_, hp0_N64_⟩
                    obtain rfl := hsN64_.eq.symm
                    replace hp0_N64_ : (v65_ = 0 ∨ v65_ = 1) := hp0_N64_
                    show zW l m_M_goOn (zn Mz + 0, zw Mz + 0) N12_ 217 [some (.ref 81), some (.int (Int32.ofInt v14_)), some (.int (Int32.ofInt 0))] [.int (Int32.ofInt v65_), .ref 81] (zpV [3, 4, 5, 6, 11] [] Mz (fun N => 0 ≤ ze N 81 3 ∧ ze N 81 3 ≤ ze N 81 2 ∧ zTv N ∧ ze Mz 81 3 ≤ ze N 81 3 ∧ zmu N < zmu Mz))
                    refine zr_if_eq (pc := 217) (tgt := 224) ⟨by omega, by omega⟩ (by decide) d_M_goOn_217 (fun hc_217 => ?_) (fun hc_217 => ?_)
                    · skip
                      refine zw_iconst (pc := 224) (v := Int32.ofInt 4) (by decide) d_M_goOn_224 ?_
                      refine zr_putI (hf_N12_.w hW) (pc := 225) f_M_155 rfl rfl ⟨by omega, by omega⟩ rfl rfl d_M_goOn_225 (fun N66_ hsN66_ hvN66_ => ?_)
                      have hf_N66_ : zFr [3, 4, 5, 6, 11] [] Mz N66_ := hf_N12_.tr hsN66_ (by decide) (by decide)
                      have e2_N66_ : ze N66_ 81 2 = ze N12_ 81 2 := hsN66_.e (by decide)
                      have e3_N66_ : ze N66_ 81 3 = ze N12_ 81 3 := hsN66_.e (by decide)
                      have e4_N66_ : ze N66_ 81 4 = ze N12_ 81 4 := hsN66_.e (by decide)
                      have r5_N66_ := ze_r N66_ 81 5
                      have e6_N66_ : ze N66_ 81 6 = ze N12_ 81 6 := hsN66_.e (by decide)
                      have e7_N66_ : ze N66_ 81 7 = ze N12_ 81 7 := hsN66_.e (by decide)
                      refine zw_aload_n (pc := 228) (n := 0) (x := 81) rfl d_M_goOn_228 ?_
                      refine zw_iload_n (pc := 229) (n := 1) (x := Int32.ofInt v14_) rfl d_M_goOn_229 ?_
                      refine zr_putI (hf_N66_.w hW) (pc := 230) f_M_152 rfl rfl ⟨by omega, by omega⟩ rfl rfl d_M_goOn_230 (fun N67_ hsN67_ hvN67_ => ?_)
                      have hf_N67_ : zFr [3, 4, 5, 6, 11] [] Mz N67_ := hf_N66_.tr hsN67_ (by decide) (by decide)
                      have e2_N67_ : ze N67_ 81 2 = ze N66_ 81 2 := hsN67_.e (by decide)
                      have e3_N67_ : ze N67_ 81 3 = ze N66_ 81 3 := hsN67_.e (by decide)
                      have e4_N67_ : ze N67_ 81 4 = ze N66_ 81 4 := hsN67_.e (by decide)
                      have e5_N67_ : ze N67_ 81 5 = ze N66_ 81 5 := hsN67_.e (by decide)
                      have r6_N67_ := ze_r N67_ 81 6
                      have e7_N67_ : ze N67_ 81 7 = ze N66_ 81 7 := hsN67_.e (by decide)
                      refine zw_iconst (pc := 233) (v := Int32.ofInt 1) (by decide) d_M_goOn_233 ?_
                      refine zw_istore_n (pc := 234) (i := 2) (L2 := [some (.ref 81), some (.int (Int32.ofInt v14_)), some (.int (Int32.ofInt 1))]) rfl (by decide) rfl d_M_goOn_234 ?_
                      refine zw_aload_n (pc := 235) (n := 0) (x := 81) rfl d_M_goOn_235 ?_
                      refine zw_dup (pc := 236) rfl d_M_goOn_236 ?_
                      refine zr_getI (hf_N67_.w hW) (pc := 237) f_M_135 rfl d_M_goOn_237 ?_
                      refine zw_iload_n (pc := 240) (n := 2) (x := Int32.ofInt 1) rfl d_M_goOn_240 ?_
                      refine zr_iadd (pc := 241) d_M_goOn_241 ?_
                      refine zr_putI (hf_N67_.w hW) (pc := 242) f_M_135 rfl rfl ⟨by omega, by omega⟩ rfl rfl d_M_goOn_242 (fun N68_ hsN68_ hvN68_ => ?_)
                      have hf_N68_ : zFr [3, 4, 5, 6, 11] [] Mz N68_ := hf_N67_.tr hsN68_ (by decide) (by decide)
                      have e2_N68_ : ze N68_ 81 2 = ze N67_ 81 2 := hsN68_.e (by decide)
                      have r3_N68_ := ze_r N68_ 81 3
                      have e4_N68_ : ze N68_ 81 4 = ze N67_ 81 4 := hsN68_.e (by decide)
                      have e5_N68_ : ze N68_ 81 5 = ze N67_ 81 5 := hsN68_.e (by decide)
                      have e6_N68_ : ze N68_ 81 6 = ze N67_ 81 6 := hsN68_.e (by decide)
                      have e7_N68_ : ze N68_ 81 7 = ze N67_ 81 7 := hsN68_.e (by decide)
                      have hz0 := zmu_s Mz
                      have hz1 := zmu_s N68_
                      exact zr_vret (pc := 245) rfl hf_N68_ ⟨(show 0 ≤ ze N68_ 81 3 by omega), (show ze N68_ 81 3 ≤ ze N68_ 81 2 by omega), (by intro h2; omega), (show ze Mz 81 3 ≤ ze N68_ 81 3 by omega), (show zmu N68_ < zmu Mz by omega)⟩ d_M_goOn_245
                    · skip
                      refine zw_iconst (pc := 220) (v := Int32.ofInt 3) (by decide) d_M_goOn_220 ?_
                      refine zw_goto (pc := 221) (tgt := 225) (by decide) d_M_goOn_221 ?_
                      refine zr_putI (hf_N12_.w hW) (pc := 225) f_M_155 rfl rfl ⟨by omega, by omega⟩ rfl rfl d_M_goOn_225 (fun N69_ hsN69_ hvN69_ => ?_)
                      have hf_N69_ : zFr [3, 4, 5, 6, 11] [] Mz N69_ := hf_N12_.tr hsN69_ (by decide) (by decide)
                      have e2_N69_ : ze N69_ 81 2 = ze N12_ 81 2 := hsN69_.e (by decide)
                      have e3_N69_ : ze N69_ 81 3 = ze N12_ 81 3 := hsN69_.e (by decide)
                      have e4_N69_ : ze N69_ 81 4 = ze N12_ 81 4 := hsN69_.e (by decide)
                      have r5_N69_ := ze_r N69_ 81 5
                      have e6_N69_ : ze N69_ 81 6 = ze N12_ 81 6 := hsN69_.e (by decide)
                      have e7_N69_ : ze N69_ 81 7 = ze N12_ 81 7 := hsN69_.e (by decide)
                      refine zw_aload_n (pc := 228) (n := 0) (x := 81) rfl d_M_goOn_228 ?_
                      refine zw_iload_n (pc := 229) (n := 1) (x := Int32.ofInt v14_) rfl d_M_goOn_229 ?_
                      refine zr_putI (hf_N69_.w hW) (pc := 230) f_M_152 rfl rfl ⟨by omega, by omega⟩ rfl rfl d_M_goOn_230 (fun N70_ hsN70_ hvN70_ => ?_)
                      have hf_N70_ : zFr [3, 4, 5, 6, 11] [] Mz N70_ := hf_N69_.tr hsN70_ (by decide) (by decide)
                      have e2_N70_ : ze N70_ 81 2 = ze N69_ 81 2 := hsN70_.e (by decide)
                      have e3_N70_ : ze N70_ 81 3 = ze N69_ 81 3 := hsN70_.e (by decide)
                      have e4_N70_ : ze N70_ 81 4 = ze N69_ 81 4 := hsN70_.e (by decide)
                      have e5_N70_ : ze N70_ 81 5 = ze N69_ 81 5 := hsN70_.e (by decide)
                      have r6_N70_ := ze_r N70_ 81 6
                      have e7_N70_ : ze N70_ 81 7 = ze N69_ 81 7 := hsN70_.e (by decide)
                      refine zw_iconst (pc := 233) (v := Int32.ofInt 1) (by decide) d_M_goOn_233 ?_
                      refine zw_istore_n (pc := 234) (i := 2) (L2 := [some (.ref 81), some (.int (Int32.ofInt v14_)), some (.int (Int32.ofInt 1))]) rfl (by decide) rfl d_M_goOn_234 ?_
                      refine zw_aload_n (pc := 235) (n := 0) (x := 81) rfl d_M_goOn_235 ?_
                      refine zw_dup (pc := 236) rfl d_M_goOn_236 ?_
                      refine zr_getI (hf_N70_.w hW) (pc := 237) f_M_135 rfl d_M_goOn_237 ?_
                      refine zw_iload_n (pc := 240) (n := 2) (x := Int32.ofInt 1) rfl d_M_goOn_240 ?_
                      refine zr_iadd (pc := 241) d_M_goOn_241 ?_
                      refine zr_putI (hf_N70_.w hW) (pc := 242) f_M_135 rfl rfl ⟨by omega, by omega⟩ rfl rfl d_M_goOn_242 (fun N71_ hsN71_ hvN71_ => ?_)
                      have hf_N71_ : zFr [3, 4, 5, 6, 11] [] Mz N71_ := hf_N70_.tr hsN71_ (by decide) (by decide)
                      have e2_N71_ : ze N71_ 81 2 = ze N70_ 81 2 := hsN71_.e (by decide)
                      have r3_N71_ := ze_r N71_ 81 3
                      have e4_N71_ : ze N71_ 81 4 = ze N70_ 81 4 := hsN71_.e (by decide)
                      have e5_N71_ : ze N71_ 81 5 = ze N70_ 81 5 := hsN71_.e (by decide)
                      have e6_N71_ : ze N71_ 81 6 = ze N70_ 81 6 := hsN71_.e (by decide)
                      have e7_N71_ : ze N71_ 81 7 = ze N70_ 81 7 := hsN71_.e (by decide)
                      have hz0 := zmu_s Mz
                      have hz1 := zmu_s N71_
                      exact zr_vret (pc := 245) rfl hf_N71_ ⟨(show 0 ≤ ze N71_ 81 3 by omega), (show ze N71_ 81 3 ≤ ze N71_ 81 2 by omega), (by intro h2; omega), (show ze Mz 81 3 ≤ ze N71_ 81 3 by omega), (show zmu N71_ < zmu Mz by omega)⟩ d_M_goOn_245
                  · skip
                    exact absurd hc_139 (by decide)
              · skip
                exact absurd hc_73 (by decide)
          · skip
            refine zw_aload_n (pc := 63) (n := 0) (x := 81) rfl d_M_goOn_63 ?_
            refine zw_iconst (pc := 64) (v := Int32.ofInt 0) (by decide) d_M_goOn_64 ?_
            refine zr_putI (hf_N12_.w hW) (pc := 65) f_M_155 rfl rfl ⟨by omega, by omega⟩ rfl rfl d_M_goOn_65 (fun N72_ hsN72_ hvN72_ => ?_)
            have hf_N72_ : zFr [3, 4, 5, 6, 11] [] Mz N72_ := hf_N12_.tr hsN72_ (by decide) (by decide)
            have e2_N72_ : ze N72_ 81 2 = ze N12_ 81 2 := hsN72_.e (by decide)
            have e3_N72_ : ze N72_ 81 3 = ze N12_ 81 3 := hsN72_.e (by decide)
            have e4_N72_ : ze N72_ 81 4 = ze N12_ 81 4 := hsN72_.e (by decide)
            have r5_N72_ := ze_r N72_ 81 5
            have e6_N72_ : ze N72_ 81 6 = ze N12_ 81 6 := hsN72_.e (by decide)
            have e7_N72_ : ze N72_ 81 7 = ze N12_ 81 7 := hsN72_.e (by decide)
            have hz0 := zmu_s Mz
            have hz1 := zmu_s N72_
            exact zr_vret (pc := 68) rfl hf_N72_ ⟨(show 0 ≤ ze N72_ 81 3 by omega), (show ze N72_ 81 3 ≤ ze N72_ 81 2 by omega), (by intro h2; omega), (show ze Mz 81 3 ≤ ze N72_ 81 3 by omega), (show zmu N72_ < zmu Mz by omega)⟩ d_M_goOn_68
        · skip
          refine zw_aload_n (pc := 20) (n := 0) (x := 81) rfl d_M_goOn_20 ?_
          refine zw_dup (pc := 21) rfl d_M_goOn_21 ?_
          refine zr_getI (hf_N1_.w hW) (pc := 22) f_M_135 rfl d_M_goOn_22 ?_
          refine zw_iconst (pc := 25) (v := Int32.ofInt 1) (by decide) d_M_goOn_25 ?_
          refine zr_iadd (pc := 26) d_M_goOn_26 ?_
          refine zr_putI (hf_N1_.w hW) (pc := 27) f_M_135 rfl rfl ⟨by omega, by omega⟩ rfl rfl d_M_goOn_27 (fun N73_ hsN73_ hvN73_ => ?_)
          have hf_N73_ : zFr [3, 4, 5, 6, 11] [] Mz N73_ := hf_N1_.tr hsN73_ (by decide) (by decide)
          have hb0_N73_ : zFr [3] [] Mz N73_ := hs2_.tr hsN73_ (by decide) (by decide)
          have e2_N73_ : ze N73_ 81 2 = ze N1_ 81 2 := hsN73_.e (by decide)
          have r3_N73_ := ze_r N73_ 81 3
          have e4_N73_ : ze N73_ 81 4 = ze N1_ 81 4 := hsN73_.e (by decide)
          have e5_N73_ : ze N73_ 81 5 = ze N1_ 81 5 := hsN73_.e (by decide)
          have e6_N73_ : ze N73_ 81 6 = ze N1_ 81 6 := hsN73_.e (by decide)
          have e7_N73_ : ze N73_ 81 7 = ze N1_ 81 7 := hsN73_.e (by decide)
          refine zw_goto (pc := 30) (tgt := 0) (by decide) d_M_goOn_30 ?_
          exact ih_0 N73_ hb0_N73_ (show ze Mz 81 3 ≤ ze N73_ 81 3 by omega) (show ze N73_ 81 3 ≤ ze Mz 81 2 by omega) (by omega)
  exact lp_0 _ Mz zFr.rf (show ze Mz 81 3 ≤ ze Mz 81 3 by omega) (show ze Mz 81 3 ≤ ze Mz 81 2 by omega) (Nat.lt_succ_self _)
set_option maxHeartbeats 4000000 in
theorem c_M_goOnB (l : Launch) (Mz : zMem) (hW : zMt Mz) (p0_ : 0 ≤ ze Mz 81 3) (p1_ : ze Mz 81 3 ≤ ze Mz 81 2) (p2_ : ze Mz 81 2 ≤ 700) : zC l m_M_goOn 0 0 [.ref 81] Mz (zpV [3, 4, 5, 6, 11] [] Mz (fun N => 0 ≤ ze N 81 3 ∧ ze N 81 3 ≤ ze N 81 2 ∧ zTv N)) := by
  refine zC_of (L0 := [some (.ref 81), none, none]) md_M_goOn (Nat.le_of_ble_eq_true rfl) rfl ?_ zQ0
  have hf : zFr [3, 4, 5, 6, 11] [] Mz Mz := zFr.rf
  have r_2 := ze_r Mz 81 2
  have r_3 := ze_r Mz 81 3
  have r_4 := ze_r Mz 81 4
  have r_5 := ze_r Mz 81 5
  have r_6 := ze_r Mz 81 6
  have lp_0 : ∀ (n : Nat) (N1_ : zMem) (hs2_ : zFr [3] [] Mz N1_) (i3_ : ze Mz 81 3 ≤ ze N1_ 81 3) (i4_ : ze N1_ 81 3 ≤ ze Mz 81 2), (ze Mz 81 2 - ze N1_ 81 3).toNat < n → zW l m_M_goOn (zn Mz + 0, zw Mz + 0) N1_ 0 [some (.ref 81), none, none] [] (zpV [3, 4, 5, 6, 11] [] Mz (fun N => 0 ≤ ze N 81 3 ∧ ze N 81 3 ≤ ze N 81 2 ∧ zTv N)) := by
    intro n
    induction n with
    | zero =>
      intro N1_ hs2_ i3_ i4_ h0
      exact absurd h0 (Nat.not_lt_zero _)
    | succ n ih_0 =>
      intro N1_ hs2_ i3_ i4_ hlt_0
      have hf_N1_ : zFr [3, 4, 5, 6, 11] [] Mz N1_ := hf.tr hs2_ (by decide) (by decide)
      have e2_N1_ : ze N1_ 81 2 = ze Mz 81 2 := hs2_.e (by decide)
      have r3_N1_ := ze_r N1_ 81 3
      have e4_N1_ : ze N1_ 81 4 = ze Mz 81 4 := hs2_.e (by decide)
      have e5_N1_ : ze N1_ 81 5 = ze Mz 81 5 := hs2_.e (by decide)
      have e6_N1_ : ze N1_ 81 6 = ze Mz 81 6 := hs2_.e (by decide)
      refine zw_aload_n (pc := 0) (n := 0) (x := 81) rfl d_M_goOn_0 ?_
      refine zw_iconst (pc := 1) (v := Int32.ofInt 0) (by decide) d_M_goOn_1 ?_
      refine zr_callV (hf_N1_.w hW) hf_N1_.x (pc := 2) [.int (Int32.ofInt 0)] [] l_M_141 (c_M_here l N1_ (hf_N1_.w hW) 0 (by omega) (by omega) (show 0 ≤ ze N1_ 81 3 + 0 by omega) (show ze N1_ 81 3 ≤ 700 by omega) (show 0 ≤ 1000 by omega) (show ze N1_ 81 2 ≤ 700 by omega)) rfl rfl rfl (by decide) (Nat.le_of_ble_eq_true rfl) d_M_goOn_2 ?_
      rintro _ N5_ ⟨v6_, rfl, ⟨hv6_a, hv6_b⟩, hsN5_, ⟨hp0_N5_, hp1_N5_⟩⟩
      obtain rfl := hsN5_.eq.symm
      show zW l m_M_goOn (zn Mz + 0, zw Mz + 0) N1_ 5 [some (.ref 81), none, none] [.int (Int32.ofInt v6_)] (zpV [3, 4, 5, 6, 11] [] Mz (fun N => 0 ≤ ze N 81 3 ∧ ze N 81 3 ≤ ze N 81 2 ∧ zTv N))
      refine zw_bipush (pc := 5) (v := Int32.ofInt 32) (by decide) d_M_goOn_5 ?_
      refine zr_icmp_eq (pc := 7) (tgt := 20) ⟨by omega, by omega⟩ ⟨by omega, by omega⟩ (by decide) d_M_goOn_7 (fun hc_7 => ?_) (fun hc_7 => ?_)
      · skip
        refine zw_aload_n (pc := 20) (n := 0) (x := 81) rfl d_M_goOn_20 ?_
        refine zw_dup (pc := 21) rfl d_M_goOn_21 ?_
        refine zr_getI (hf_N1_.w hW) (pc := 22) f_M_135 rfl d_M_goOn_22 ?_
        refine zw_iconst (pc := 25) (v := Int32.ofInt 1) (by decide) d_M_goOn_25 ?_
        refine zr_iadd (pc := 26) d_M_goOn_26 ?_
        refine zr_putI (hf_N1_.w hW) (pc := 27) f_M_135 rfl rfl ⟨by omega, by omega⟩ rfl rfl d_M_goOn_27 (fun N7_ hsN7_ hvN7_ => ?_)
        have hf_N7_ : zFr [3, 4, 5, 6, 11] [] Mz N7_ := hf_N1_.tr hsN7_ (by decide) (by decide)
        have hb0_N7_ : zFr [3] [] Mz N7_ := hs2_.tr hsN7_ (by decide) (by decide)
        have e2_N7_ : ze N7_ 81 2 = ze N1_ 81 2 := hsN7_.e (by decide)
        have r3_N7_ := ze_r N7_ 81 3
        have e4_N7_ : ze N7_ 81 4 = ze N1_ 81 4 := hsN7_.e (by decide)
        have e5_N7_ : ze N7_ 81 5 = ze N1_ 81 5 := hsN7_.e (by decide)
        have e6_N7_ : ze N7_ 81 6 = ze N1_ 81 6 := hsN7_.e (by decide)
        refine zw_goto (pc := 30) (tgt := 0) (by decide) d_M_goOn_30 ?_
        exact ih_0 N7_ hb0_N7_ (show ze Mz 81 3 ≤ ze N7_ 81 3 by omega) (show ze N7_ 81 3 ≤ ze Mz 81 2 by omega) (by omega)
      · skip
        refine zw_aload_n (pc := 10) (n := 0) (x := 81) rfl d_M_goOn_10 ?_
        refine zw_iconst (pc := 11) (v := Int32.ofInt 0) (by decide) d_M_goOn_11 ?_
        refine zr_callV (hf_N1_.w hW) hf_N1_.x (pc := 12) [.int (Int32.ofInt 0)] [] l_M_141 (c_M_here l N1_ (hf_N1_.w hW) 0 (by omega) (by omega) (show 0 ≤ ze N1_ 81 3 + 0 by omega) (show ze N1_ 81 3 ≤ 700 by omega) (show 0 ≤ 1000 by omega) (show ze N1_ 81 2 ≤ 700 by omega)) rfl rfl rfl (by decide) (Nat.le_of_ble_eq_true rfl) d_M_goOn_12 ?_
        rintro _ N8_ ⟨v9_, rfl, ⟨hv9_a, hv9_b⟩, hsN8_, ⟨hp0_N8_, hp1_N8_⟩⟩
        obtain rfl := hsN8_.eq.symm
        show zW l m_M_goOn (zn Mz + 0, zw Mz + 0) N1_ 15 [some (.ref 81), none, none] [.int (Int32.ofInt v9_)] (zpV [3, 4, 5, 6, 11] [] Mz (fun N => 0 ≤ ze N 81 3 ∧ ze N 81 3 ≤ ze N 81 2 ∧ zTv N))
        refine zw_bipush (pc := 15) (v := Int32.ofInt 10) (by decide) d_M_goOn_15 ?_
        refine zr_icmp_ne (pc := 17) (tgt := 33) ⟨by omega, by omega⟩ ⟨by omega, by omega⟩ (by decide) d_M_goOn_17 (fun hc_17 => ?_) (fun hc_17 => ?_)
        · skip
          refine zw_aload_n (pc := 33) (n := 0) (x := 81) rfl d_M_goOn_33 ?_
          refine zw_aload_n (pc := 34) (n := 0) (x := 81) rfl d_M_goOn_34 ?_
          refine zr_getI (hf_N1_.w hW) (pc := 35) f_M_135 rfl d_M_goOn_35 ?_
          refine zr_putI (hf_N1_.w hW) (pc := 38) f_M_145 rfl rfl ⟨by omega, by omega⟩ rfl rfl d_M_goOn_38 (fun N10_ hsN10_ hvN10_ => ?_)
          have hf_N10_ : zFr [3, 4, 5, 6, 11] [] Mz N10_ := hf_N1_.tr hsN10_ (by decide) (by decide)
          have e2_N10_ : ze N10_ 81 2 = ze N1_ 81 2 := hsN10_.e (by decide)
          have e3_N10_ : ze N10_ 81 3 = ze N1_ 81 3 := hsN10_.e (by decide)
          have r4_N10_ := ze_r N10_ 81 4
          have e5_N10_ : ze N10_ 81 5 = ze N1_ 81 5 := hsN10_.e (by decide)
          have e6_N10_ : ze N10_ 81 6 = ze N1_ 81 6 := hsN10_.e (by decide)
          refine zw_aload_n (pc := 41) (n := 0) (x := 81) rfl d_M_goOn_41 ?_
          refine zw_lconst (pc := 42) (v := Int64.ofInt 0) (by decide) d_M_goOn_42 ?_
          refine zr_putJ (hf_N10_.w hW) (pc := 43) f_M_148 rfl rfl rfl rfl d_M_goOn_43 (fun N11_ hsN11_ hvN11_ => ?_)
          have hf_N11_ : zFr [3, 4, 5, 6, 11] [] Mz N11_ := hf_N10_.tr hsN11_ (by decide) (by decide)
          have e2_N11_ : ze N11_ 81 2 = ze N10_ 81 2 := hsN11_.e (by decide)
          have e3_N11_ : ze N11_ 81 3 = ze N10_ 81 3 := hsN11_.e (by decide)
          have e4_N11_ : ze N11_ 81 4 = ze N10_ 81 4 := hsN11_.e (by decide)
          have e5_N11_ : ze N11_ 81 5 = ze N10_ 81 5 := hsN11_.e (by decide)
          have e6_N11_ : ze N11_ 81 6 = ze N10_ 81 6 := hsN11_.e (by decide)
          refine zw_aload_n (pc := 46) (n := 0) (x := 81) rfl d_M_goOn_46 ?_
          refine zw_iconst (pc := 47) (v := Int32.ofInt 0) (by decide) d_M_goOn_47 ?_
          refine zr_putI (hf_N11_.w hW) (pc := 48) f_M_152 rfl rfl ⟨by omega, by omega⟩ rfl rfl d_M_goOn_48 (fun N12_ hsN12_ hvN12_ => ?_)
          have hf_N12_ : zFr [3, 4, 5, 6, 11] [] Mz N12_ := hf_N11_.tr hsN12_ (by decide) (by decide)
          have e2_N12_ : ze N12_ 81 2 = ze N11_ 81 2 := hsN12_.e (by decide)
          have e3_N12_ : ze N12_ 81 3 = ze N11_ 81 3 := hsN12_.e (by decide)
          have e4_N12_ : ze N12_ 81 4 = ze N11_ 81 4 := hsN12_.e (by decide)
          have e5_N12_ : ze N12_ 81 5 = ze N11_ 81 5 := hsN12_.e (by decide)
          have r6_N12_ := ze_r N12_ 81 6
          refine zw_aload_n (pc := 51) (n := 0) (x := 81) rfl d_M_goOn_51 ?_
          refine zw_iconst (pc := 52) (v := Int32.ofInt 0) (by decide) d_M_goOn_52 ?_
          refine zr_callV (hf_N12_.w hW) hf_N12_.x (pc := 53) [.int (Int32.ofInt 0)] [] l_M_141 (c_M_here l N12_ (hf_N12_.w hW) 0 (by omega) (by omega) (show 0 ≤ ze N12_ 81 3 + 0 by omega) (show ze N12_ 81 3 ≤ 700 by omega) (show 0 ≤ 1000 by omega) (show ze N12_ 81 2 ≤ 700 by omega)) rfl rfl rfl (by decide) (Nat.le_of_ble_eq_true rfl) d_M_goOn_53 ?_
          rintro _ N13_ ⟨v14_, rfl, ⟨hv14_a, hv14_b⟩, hsN13_, ⟨hp0_N13_, hp1_N13_⟩⟩
          obtain rfl := hsN13_.eq.symm
          show zW l m_M_goOn (zn Mz + 0, zw Mz + 0) N12_ 56 [some (.ref 81), none, none] [.int (Int32.ofInt v14_)] (zpV [3, 4, 5, 6, 11] [] Mz (fun N => 0 ≤ ze N 81 3 ∧ ze N 81 3 ≤ ze N 81 2 ∧ zTv N))
          refine zw_istore_n (pc := 56) (i := 1) (L2 := [some (.ref 81), some (.int (Int32.ofInt v14_)), none]) rfl (by decide) rfl d_M_goOn_56 ?_
          refine zw_iconst (pc := 57) (v := Int32.ofInt 0) (by decide) d_M_goOn_57 ?_
          refine zw_istore_n (pc := 58) (i := 2) (L2 := [some (.ref 81), some (.int (Int32.ofInt v14_)), some (.int (Int32.ofInt 0))]) rfl (by decide) rfl d_M_goOn_58 ?_
          refine zw_iload_n (pc := 59) (n := 1) (x := Int32.ofInt v14_) rfl d_M_goOn_59 ?_
          refine zr_if_ge (pc := 60) (tgt := 69) ⟨by omega, by omega⟩ (by decide) d_M_goOn_60 (fun hc_60 => ?_) (fun hc_60 => ?_)
          · skip
            refine zw_iload_n (pc := 69) (n := 1) (x := Int32.ofInt v14_) rfl d_M_goOn_69 ?_
            refine zr_callS hf_N12_.x (pc := 70) [.int (Int32.ofInt v14_)] [] l_M_158 (c_M_isLetter l N12_ (hf_N12_.w hW) v14_ (by omega) (by omega)) rfl rfl (by decide) (Nat.le_of_ble_eq_true rfl) d_M_goOn_70 ?_
            rintro _ N15_ ⟨v16_, rfl, ⟨hv16_a, hv16_b⟩, hsN15_, hp0_N15_⟩
            obtain rfl := hsN15_.eq.symm
            replace hp0_N15_ : ((v16_ = 1 ∧ 97 ≤ v14_ ∧ v14_ ≤ 122) ∨ (v16_ = 0 ∧ (v14_ < 97 ∨ 122 < v14_))) := hp0_N15_
            rcases hp0_N15_ with ⟨rfl, ha70_0_hp0_N15_, ha70_1_hp0_N15_⟩ | ⟨rfl, ha70_0_hp0_N15_⟩
            · skip
              show zW l m_M_goOn (zn Mz + 0, zw Mz + 0) N12_ 73 [some (.ref 81), some (.int (Int32.ofInt v14_)), some (.int (Int32.ofInt 0))] [.int (Int32.ofInt 1)] (zpV [3, 4, 5, 6, 11] [] Mz (fun N => 0 ≤ ze N 81 3 ∧ ze N 81 3 ≤ ze N 81 2 ∧ zTv N))
              refine zr_if_eq (pc := 73) (tgt := 135) ⟨by omega, by omega⟩ (by decide) d_M_goOn_73 (fun hc_73 => ?_) (fun hc_73 => ?_)
              · skip
                exact absurd hc_73 (by decide)
              · skip
                have lp_76 : ∀ (n : Nat) (u17_ : Int) (hu17_a : -2147483648 ≤ u17_) (hu17_b : u17_ < 2147483648) (N18_ : zMem) (hs19_ : zFr [11] [] N12_ N18_) (i20_ : 0 ≤ u17_) (i21_ : ze N18_ 81 3 + u17_ ≤ ze Mz 81 2) (i22_ : (1 ≤ u17_ ∨ (u17_ = 0 ∧ 97 ≤ zhr N18_ 0 ∧ zhr N18_ 0 ≤ 122))), (ze Mz 81 2 - ze N18_ 81 3 - u17_).toNat < n → zW l m_M_goOn (zn Mz + 0, zw Mz + 0) N18_ 76 [some (.ref 81), some (.int (Int32.ofInt v14_)), some (.int (Int32.ofInt u17_))] [] (zpV [3, 4, 5, 6, 11] [] Mz (fun N => 0 ≤ ze N 81 3 ∧ ze N 81 3 ≤ ze N 81 2 ∧ zTv N)) := by
                  intro n
                  induction n with
                  | zero =>
                    intro u17_ hu17_a hu17_b N18_ hs19_ i20_ i21_ i22_ h0
                    exact absurd h0 (Nat.not_lt_zero _)
                  | succ n ih_76 =>
                    intro u17_ hu17_a hu17_b N18_ hs19_ i20_ i21_ i22_ hlt_76
                    have hf_N18_ : zFr [3, 4, 5, 6, 11] [] Mz N18_ := hf_N12_.tr hs19_ (by decide) (by decide)
                    have e2_N18_ : ze N18_ 81 2 = ze N12_ 81 2 := hs19_.e (by decide)
                    have e3_N18_ : ze N18_ 81 3 = ze N12_ 81 3 := hs19_.e (by decide)
                    have e4_N18_ : ze N18_ 81 4 = ze N12_ 81 4 := hs19_.e (by decide)
                    have e5_N18_ : ze N18_ 81 5 = ze N12_ 81 5 := hs19_.e (by decide)
                    have e6_N18_ : ze N18_ 81 6 = ze N12_ 81 6 := hs19_.e (by decide)
                    have hz := zhr_c N18_ u17_ 0
                    refine zw_aload_n (pc := 76) (n := 0) (x := 81) rfl d_M_goOn_76 ?_
                    refine zw_iload_n (pc := 77) (n := 2) (x := Int32.ofInt u17_) rfl d_M_goOn_77 ?_
                    refine zr_callV (hf_N18_.w hW) hf_N18_.x (pc := 78) [.int (Int32.ofInt u17_)] [] l_M_141 (c_M_here l N18_ (hf_N18_.w hW) u17_ (by omega) (by omega) (show 0 ≤ ze N18_ 81 3 + u17_ by omega) (show ze N18_ 81 3 ≤ 700 by omega) (show u17_ ≤ 1000 by omega) (show ze N18_ 81 2 ≤ 700 by omega)) rfl rfl rfl (by decide) (Nat.le_of_ble_eq_true rfl) d_M_goOn_78 ?_
                    rintro _ N23_ ⟨v24_, rfl, ⟨hv24_a, hv24_b⟩, hsN23_, ⟨hp0_N23_, hp1_N23_⟩⟩
                    obtain rfl := hsN23_.eq.symm
                    show zW l m_M_goOn (zn Mz + 0, zw Mz + 0) N18_ 81 [some (.ref 81), some (.int (Int32.ofInt v14_)), some (.int (Int32.ofInt u17_))] [.int (Int32.ofInt v24_)] (zpV [3, 4, 5, 6, 11] [] Mz (fun N => 0 ≤ ze N 81 3 ∧ ze N 81 3 ≤ ze N 81 2 ∧ zTv N))
                    refine zr_callS hf_N18_.x (pc := 81) [.int (Int32.ofInt v24_)] [] l_M_158 (c_M_isLetter l N18_ (hf_N18_.w hW) v24_ (by omega) (by omega)) rfl rfl (by decide) (Nat.le_of_ble_eq_true rfl) d_M_goOn_81 ?_
                    rintro _ N25_ ⟨v26_, rfl, ⟨hv26_a, hv26_b⟩, hsN25_, hp0_N25_⟩
                    obtain rfl := hsN25_.eq.symm
                    replace hp0_N25_ : ((v26_ = 1 ∧ 97 ≤ v24_ ∧ v24_ ≤ 122) ∨ (v26_ = 0 ∧ (v24_ < 97 ∨ 122 < v24_))) := hp0_N25_
                    rcases hp0_N25_ with ⟨rfl, ha81_0_hp0_N25_, ha81_1_hp0_N25_⟩ | ⟨rfl, ha81_0_hp0_N25_⟩
                    · skip
                      show zW l m_M_goOn (zn Mz + 0, zw Mz + 0) N18_ 84 [some (.ref 81), some (.int (Int32.ofInt v14_)), some (.int (Int32.ofInt u17_))] [.int (Int32.ofInt 1)] (zpV [3, 4, 5, 6, 11] [] Mz (fun N => 0 ≤ ze N 81 3 ∧ ze N 81 3 ≤ ze N 81 2 ∧ zTv N))
                      refine zr_if_eq (pc := 84) (tgt := 117) ⟨by omega, by omega⟩ (by decide) d_M_goOn_84 (fun hc_84 => ?_) (fun hc_84 => ?_)
                      · skip
                        exact absurd hc_84 (by decide)
                      · skip
                        refine zw_iload_n (pc := 87) (n := 2) (x := Int32.ofInt u17_) rfl d_M_goOn_87 ?_
                        refine zw_bipush (pc := 88) (v := Int32.ofInt 6) (by decide) d_M_goOn_88 ?_
                        refine zr_icmp_ge (pc := 90) (tgt := 111) ⟨by omega, by omega⟩ ⟨by omega, by omega⟩ (by decide) d_M_goOn_90 (fun hc_90 => ?_) (fun hc_90 => ?_)
                        · skip
                          refine zr_iinc (pc := 111) (i := 2) (a := u17_) (n := 1) (L2 := [some (.ref 81), some (.int (Int32.ofInt v14_)), some (.int (Int32.ofInt (u17_ + 1)))]) rfl (by decide) rfl d_M_goOn_111 ?_
                          refine zw_goto (pc := 114) (tgt := 76) (by decide) d_M_goOn_114 ?_
                          exact ih_76 (u17_ + 1) (by omega) (by omega) N18_ hs19_ (show 0 ≤ (u17_ + 1) by omega) (show ze N18_ 81 3 + (u17_ + 1) ≤ ze Mz 81 2 by omega) (show (1 ≤ (u17_ + 1) ∨ ((u17_ + 1) = 0 ∧ 97 ≤ zhr N18_ 0 ∧ zhr N18_ 0 ≤ 122)) by omega) (by omega)
                        · skip
                          refine zw_aload_n (pc := 93) (n := 0) (x := 81) rfl d_M_goOn_93 ?_
                          refine zw_aload_n (pc := 94) (n := 0) (x := 81) rfl d_M_goOn_94 ?_
                          refine zr_getJ (hf_N18_.w hW) (pc := 95) f_M_148 rfl d_M_goOn_95 ?_
                          have hr27_ := zg_r N18_ 81 11
                          refine zw_bipush (pc := 98) (v := Int32.ofInt 8) (by decide) d_M_goOn_98 ?_
                          refine zr_lshl (pc := 100) d_M_goOn_100 ?_
                          have hr28_ := zlshl_r (zg N18_ 81 11) 8
                          refine zw_aload_n (pc := 101) (n := 0) (x := 81) rfl d_M_goOn_101 ?_
                          refine zw_iload_n (pc := 102) (n := 2) (x := Int32.ofInt u17_) rfl d_M_goOn_102 ?_
                          refine zr_callV (hf_N18_.w hW) hf_N18_.x (pc := 103) [.int (Int32.ofInt u17_)] [.long (Int64.ofInt (zlshl (zg N18_ 81 11) 8)), .ref 81] l_M_141 (c_M_here l N18_ (hf_N18_.w hW) u17_ (by omega) (by omega) (show 0 ≤ ze N18_ 81 3 + u17_ by omega) (show ze N18_ 81 3 ≤ 700 by omega) (show u17_ ≤ 1000 by omega) (show ze N18_ 81 2 ≤ 700 by omega)) rfl rfl rfl (by decide) (Nat.le_of_ble_eq_true rfl) d_M_goOn_103 ?_
                          rintro _ N29_ ⟨v30_, rfl, ⟨hv30_a, hv30_b⟩, hsN29_, ⟨hp0_N29_, hp1_N29_⟩⟩
                          obtain rfl := hsN29_.eq.symm
                          show zW l m_M_goOn (zn Mz + 0, zw Mz + 0) N18_ 106 [some (.ref 81), some (.int (Int32.ofInt v14_)), some (.int (Int32.ofInt u17_))] [.int (Int32.ofInt v30_), .long (Int64.ofInt (zlshl (zg N18_ 81 11) 8)), .ref 81] (zpV [3, 4, 5, 6, 11] [] Mz (fun N => 0 ≤ ze N 81 3 ∧ ze N 81 3 ≤ ze N 81 2 ∧ zTv N))
                          refine zr_i2l (pc := 106) ⟨by omega, by omega⟩ d_M_goOn_106 ?_
                          refine zr_lor (pc := 107) d_M_goOn_107 ?_
                          have hr31_ := zlor_r (zlshl (zg N18_ 81 11) 8) v30_
                          refine zr_putJ (hf_N18_.w hW) (pc := 108) f_M_148 rfl rfl rfl rfl d_M_goOn_108 (fun N32_ hsN32_ hvN32_ => ?_)
                          have hf_N32_ : zFr [3, 4, 5, 6, 11] [] Mz N32_ := hf_N18_.tr hsN32_ (by decide) (by decide)
                          have hb0_N32_ : zFr [11] [] N12_ N32_ := hs19_.tr hsN32_ (by decide) (by decide)
                          have e2_N32_ : ze N32_ 81 2 = ze N18_ 81 2 := hsN32_.e (by decide)
                          have e3_N32_ : ze N32_ 81 3 = ze N18_ 81 3 := hsN32_.e (by decide)
                          have e4_N32_ : ze N32_ 81 4 = ze N18_ 81 4 := hsN32_.e (by decide)
                          have e5_N32_ : ze N32_ 81 5 = ze N18_ 81 5 := hsN32_.e (by decide)
                          have e6_N32_ : ze N32_ 81 6 = ze N18_ 81 6 := hsN32_.e (by decide)
                          refine zr_iinc (pc := 111) (i := 2) (a := u17_) (n := 1) (L2 := [some (.ref 81), some (.int (Int32.ofInt v14_)), some (.int (Int32.ofInt (u17_ + 1)))]) rfl (by decide) rfl d_M_goOn_111 ?_
                          refine zw_goto (pc := 114) (tgt := 76) (by decide) d_M_goOn_114 ?_
                          exact ih_76 (u17_ + 1) (by omega) (by omega) N32_ hb0_N32_ (show 0 ≤ (u17_ + 1) by omega) (show ze N32_ 81 3 + (u17_ + 1) ≤ ze Mz 81 2 by omega) (show (1 ≤ (u17_ + 1) ∨ ((u17_ + 1) = 0 ∧ 97 ≤ zhr N32_ 0 ∧ zhr N32_ 0 ≤ 122)) by omega) (by omega)
                    · skip
                      show zW l m_M_goOn (zn Mz + 0, zw Mz + 0) N18_ 84 [some (.ref 81), some (.int (Int32.ofInt v14_)), some (.int (Int32.ofInt u17_))] [.int (Int32.ofInt 0)] (zpV [3, 4, 5, 6, 11] [] Mz (fun N => 0 ≤ ze N 81 3 ∧ ze N 81 3 ≤ ze N 81 2 ∧ zTv N))
                      refine zr_if_eq (pc := 84) (tgt := 117) ⟨by omega, by omega⟩ (by decide) d_M_goOn_84 (fun hc_84 => ?_) (fun hc_84 => ?_)
                      · skip
                        refine zw_aload_n (pc := 117) (n := 0) (x := 81) rfl d_M_goOn_117 ?_
                        refine zw_iload_n (pc := 118) (n := 2) (x := Int32.ofInt u17_) rfl d_M_goOn_118 ?_
                        refine zw_bipush (pc := 119) (v := Int32.ofInt 6) (by decide) d_M_goOn_119 ?_
                        refine zr_icmp_le (pc := 121) (tgt := 128) ⟨by omega, by omega⟩ ⟨by omega, by omega⟩ (by decide) d_M_goOn_121 (fun hc_121 => ?_) (fun hc_121 => ?_)
                        · skip
                          refine zw_iconst (pc := 128) (v := Int32.ofInt 1) (by decide) d_M_goOn_128 ?_
                          refine zr_putI (hf_N18_.w hW) (pc := 129) f_M_155 rfl rfl ⟨by omega, by omega⟩ rfl rfl d_M_goOn_129 (fun N33_ hsN33_ hvN33_ => ?_)
                          have hf_N33_ : zFr [3, 4, 5, 6, 11] [] Mz N33_ := hf_N18_.tr hsN33_ (by decide) (by decide)
                          have e2_N33_ : ze N33_ 81 2 = ze N18_ 81 2 := hsN33_.e (by decide)
                          have e3_N33_ : ze N33_ 81 3 = ze N18_ 81 3 := hsN33_.e (by decide)
                          have e4_N33_ : ze N33_ 81 4 = ze N18_ 81 4 := hsN33_.e (by decide)
                          have r5_N33_ := ze_r N33_ 81 5
                          have e6_N33_ : ze N33_ 81 6 = ze N18_ 81 6 := hsN33_.e (by decide)
                          refine zw_goto (pc := 132) (tgt := 235) (by decide) d_M_goOn_132 ?_
                          refine zw_aload_n (pc := 235) (n := 0) (x := 81) rfl d_M_goOn_235 ?_
                          refine zw_dup (pc := 236) rfl d_M_goOn_236 ?_
                          refine zr_getI (hf_N33_.w hW) (pc := 237) f_M_135 rfl d_M_goOn_237 ?_
                          refine zw_iload_n (pc := 240) (n := 2) (x := Int32.ofInt u17_) rfl d_M_goOn_240 ?_
                          refine zr_iadd (pc := 241) d_M_goOn_241 ?_
                          refine zr_putI (hf_N33_.w hW) (pc := 242) f_M_135 rfl rfl ⟨by omega, by omega⟩ rfl rfl d_M_goOn_242 (fun N34_ hsN34_ hvN34_ => ?_)
                          have hf_N34_ : zFr [3, 4, 5, 6, 11] [] Mz N34_ := hf_N33_.tr hsN34_ (by decide) (by decide)
                          have e2_N34_ : ze N34_ 81 2 = ze N33_ 81 2 := hsN34_.e (by decide)
                          have r3_N34_ := ze_r N34_ 81 3
                          have e4_N34_ : ze N34_ 81 4 = ze N33_ 81 4 := hsN34_.e (by decide)
                          have e5_N34_ : ze N34_ 81 5 = ze N33_ 81 5 := hsN34_.e (by decide)
                          have e6_N34_ : ze N34_ 81 6 = ze N33_ 81 6 := hsN34_.e (by decide)
                          exact zr_vret (pc := 245) rfl hf_N34_ ⟨(show 0 ≤ ze N34_ 81 3 by omega), (show ze N34_ 81 3 ≤ ze N34_ 81 2 by omega), (by intro h2; omega)⟩ d_M_goOn_245
                        · skip
                          refine zw_iconst (pc := 124) (v := Int32.ofInt 4) (by decide) d_M_goOn_124 ?_
                          refine zw_goto (pc := 125) (tgt := 129) (by decide) d_M_goOn_125 ?_
                          refine zr_putI (hf_N18_.w hW) (pc := 129) f_M_155 rfl rfl ⟨by omega, by omega⟩ rfl rfl d_M_goOn_129 (fun N35_ hsN35_ hvN35_ => ?_)
                          have hf_N35_ : zFr [3, 4, 5, 6, 11] [] Mz N35_ := hf_N18_.tr hsN35_ (by decide) (by decide)
                          have e2_N35_ : ze N35_ 81 2 = ze N18_ 81 2 := hsN35_.e (by decide)
                          have e3_N35_ : ze N35_ 81 3 = ze N18_ 81 3 := hsN35_.e (by decide)
                          have e4_N35_ : ze N35_ 81 4 = ze N18_ 81 4 := hsN35_.e (by decide)
                          have r5_N35_ := ze_r N35_ 81 5
                          have e6_N35_ : ze N35_ 81 6 = ze N18_ 81 6 := hsN35_.e (by decide)
                          refine zw_goto (pc := 132) (tgt := 235) (by decide) d_M_goOn_132 ?_
                          refine zw_aload_n (pc := 235) (n := 0) (x := 81) rfl d_M_goOn_235 ?_
                          refine zw_dup (pc := 236) rfl d_M_goOn_236 ?_
                          refine zr_getI (hf_N35_.w hW) (pc := 237) f_M_135 rfl d_M_goOn_237 ?_
                          refine zw_iload_n (pc := 240) (n := 2) (x := Int32.ofInt u17_) rfl d_M_goOn_240 ?_
                          refine zr_iadd (pc := 241) d_M_goOn_241 ?_
                          refine zr_putI (hf_N35_.w hW) (pc := 242) f_M_135 rfl rfl ⟨by omega, by omega⟩ rfl rfl d_M_goOn_242 (fun N36_ hsN36_ hvN36_ => ?_)
                          have hf_N36_ : zFr [3, 4, 5, 6, 11] [] Mz N36_ := hf_N35_.tr hsN36_ (by decide) (by decide)
                          have e2_N36_ : ze N36_ 81 2 = ze N35_ 81 2 := hsN36_.e (by decide)
                          have r3_N36_ := ze_r N36_ 81 3
                          have e4_N36_ : ze N36_ 81 4 = ze N35_ 81 4 := hsN36_.e (by decide)
                          have e5_N36_ : ze N36_ 81 5 = ze N35_ 81 5 := hsN36_.e (by decide)
                          have e6_N36_ : ze N36_ 81 6 = ze N35_ 81 6 := hsN36_.e (by decide)
                          exact zr_vret (pc := 245) rfl hf_N36_ ⟨(show 0 ≤ ze N36_ 81 3 by omega), (show ze N36_ 81 3 ≤ ze N36_ 81 2 by omega), (by intro h2; omega)⟩ d_M_goOn_245
                      · skip
                        exact absurd hc_84 (by decide)
                exact lp_76 _ 0 (by omega) (by omega) N12_ zFr.rf (show 0 ≤ 0 by omega) (show ze N12_ 81 3 + 0 ≤ ze Mz 81 2 by omega) (show (1 ≤ 0 ∨ (0 = 0 ∧ 97 ≤ zhr N12_ 0 ∧ zhr N12_ 0 ≤ 122)) by omega) (Nat.lt_succ_self _)
            · skip
              show zW l m_M_goOn (zn Mz + 0, zw Mz + 0) N12_ 73 [some (.ref 81), some (.int (Int32.ofInt v14_)), some (.int (Int32.ofInt 0))] [.int (Int32.ofInt 0)] (zpV [3, 4, 5, 6, 11] [] Mz (fun N => 0 ≤ ze N 81 3 ∧ ze N 81 3 ≤ ze N 81 2 ∧ zTv N))
              refine zr_if_eq (pc := 73) (tgt := 135) ⟨by omega, by omega⟩ (by decide) d_M_goOn_73 (fun hc_73 => ?_) (fun hc_73 => ?_)
              · skip
                refine zw_iload_n (pc := 135) (n := 1) (x := Int32.ofInt v14_) rfl d_M_goOn_135 ?_
                refine zr_callS hf_N12_.x (pc := 136) [.int (Int32.ofInt v14_)] [] l_M_162 (c_M_isDigit l N12_ (hf_N12_.w hW) v14_ (by omega) (by omega)) rfl rfl (by decide) (Nat.le_of_ble_eq_true rfl) d_M_goOn_136 ?_
                rintro _ N37_ ⟨v38_, rfl, ⟨hv38_a, hv38_b⟩, hsN37_, hp0_N37_⟩
                obtain rfl := hsN37_.eq.symm
                replace hp0_N37_ : ((v38_ = 1 ∧ 48 ≤ v14_ ∧ v14_ ≤ 57) ∨ (v38_ = 0 ∧ (v14_ < 48 ∨ 57 < v14_))) := hp0_N37_
                rcases hp0_N37_ with ⟨rfl, ha136_0_hp0_N37_, ha136_1_hp0_N37_⟩ | ⟨rfl, ha136_0_hp0_N37_⟩
                · skip
                  show zW l m_M_goOn (zn Mz + 0, zw Mz + 0) N12_ 139 [some (.ref 81), some (.int (Int32.ofInt v14_)), some (.int (Int32.ofInt 0))] [.int (Int32.ofInt 1)] (zpV [3, 4, 5, 6, 11] [] Mz (fun N => 0 ≤ ze N 81 3 ∧ ze N 81 3 ≤ ze N 81 2 ∧ zTv N))
                  refine zr_if_eq (pc := 139) (tgt := 212) ⟨by omega, by omega⟩ (by decide) d_M_goOn_139 (fun hc_139 => ?_) (fun hc_139 => ?_)
                  · skip
                    exact absurd hc_139 (by decide)
                  · skip
                    have lp_142 : ∀ (n : Nat) (u39_ : Int) (hu39_a : -2147483648 ≤ u39_) (hu39_b : u39_ < 2147483648) (N40_ : zMem) (hs41_ : zFr [6] [] N12_ N40_) (i42_ : 0 ≤ u39_) (i43_ : ze N40_ 81 3 + u39_ ≤ ze Mz 81 2) (i44_ : (1 ≤ u39_ ∨ (u39_ = 0 ∧ 48 ≤ zhr N40_ 0 ∧ zhr N40_ 0 ≤ 57))) (i45_ : 0 ≤ ze N40_ 81 6) (i46_ : ((u39_ = 0 ∧ ze N40_ 81 6 = 0) ∨ (u39_ = 1 ∧ ze N40_ 81 6 ≤ 9) ∨ (u39_ = 2 ∧ ze N40_ 81 6 ≤ 99) ∨ (3 ≤ u39_ ∧ ze N40_ 81 6 ≤ 999))), (ze Mz 81 2 - ze N40_ 81 3 - u39_).toNat < n → zW l m_M_goOn (zn Mz + 0, zw Mz + 0) N40_ 142 [some (.ref 81), some (.int (Int32.ofInt v14_)), some (.int (Int32.ofInt u39_))] [] (zpV [3, 4, 5, 6, 11] [] Mz (fun N => 0 ≤ ze N 81 3 ∧ ze N 81 3 ≤ ze N 81 2 ∧ zTv N)) := by
                      intro n
                      induction n with
                      | zero =>
                        intro u39_ hu39_a hu39_b N40_ hs41_ i42_ i43_ i44_ i45_ i46_ h0
                        exact absurd h0 (Nat.not_lt_zero _)
                      | succ n ih_142 =>
                        intro u39_ hu39_a hu39_b N40_ hs41_ i42_ i43_ i44_ i45_ i46_ hlt_142
                        have hf_N40_ : zFr [3, 4, 5, 6, 11] [] Mz N40_ := hf_N12_.tr hs41_ (by decide) (by decide)
                        have e2_N40_ : ze N40_ 81 2 = ze N12_ 81 2 := hs41_.e (by decide)
                        have e3_N40_ : ze N40_ 81 3 = ze N12_ 81 3 := hs41_.e (by decide)
                        have e4_N40_ : ze N40_ 81 4 = ze N12_ 81 4 := hs41_.e (by decide)
                        have e5_N40_ : ze N40_ 81 5 = ze N12_ 81 5 := hs41_.e (by decide)
                        have r6_N40_ := ze_r N40_ 81 6
                        have hz := zhr_c N40_ u39_ 0
                        refine zw_aload_n (pc := 142) (n := 0) (x := 81) rfl d_M_goOn_142 ?_
                        refine zw_iload_n (pc := 143) (n := 2) (x := Int32.ofInt u39_) rfl d_M_goOn_143 ?_
                        refine zr_callV (hf_N40_.w hW) hf_N40_.x (pc := 144) [.int (Int32.ofInt u39_)] [] l_M_141 (c_M_here l N40_ (hf_N40_.w hW) u39_ (by omega) (by omega) (show 0 ≤ ze N40_ 81 3 + u39_ by omega) (show ze N40_ 81 3 ≤ 700 by omega) (show u39_ ≤ 1000 by omega) (show ze N40_ 81 2 ≤ 700 by omega)) rfl rfl rfl (by decide) (Nat.le_of_ble_eq_true rfl) d_M_goOn_144 ?_
                        rintro _ N47_ ⟨v48_, rfl, ⟨hv48_a, hv48_b⟩, hsN47_, ⟨hp0_N47_, hp1_N47_⟩⟩
                        obtain rfl := hsN47_.eq.symm
                        show zW l m_M_goOn (zn Mz + 0, zw Mz + 0) N40_ 147 [some (.ref 81), some (.int (Int32.ofInt v14_)), some (.int (Int32.ofInt u39_))] [.int (Int32.ofInt v48_)] (zpV [3, 4, 5, 6, 11] [] Mz (fun N => 0 ≤ ze N 81 3 ∧ ze N 81 3 ≤ ze N 81 2 ∧ zTv N))
                        refine zr_callS hf_N40_.x (pc := 147) [.int (Int32.ofInt v48_)] [] l_M_162 (c_M_isDigit l N40_ (hf_N40_.w hW) v48_ (by omega) (by omega)) rfl rfl (by decide) (Nat.le_of_ble_eq_true rfl) d_M_goOn_147 ?_
                        rintro _ N49_ ⟨v50_, rfl, ⟨hv50_a, hv50_b⟩, hsN49_, hp0_N49_⟩
                        obtain rfl := hsN49_.eq.symm
                        replace hp0_N49_ : ((v50_ = 1 ∧ 48 ≤ v48_ ∧ v48_ ≤ 57) ∨ (v50_ = 0 ∧ (v48_ < 48 ∨ 57 < v48_))) := hp0_N49_
                        rcases hp0_N49_ with ⟨rfl, ha147_0_hp0_N49_, ha147_1_hp0_N49_⟩ | ⟨rfl, ha147_0_hp0_N49_⟩
                        · skip
                          show zW l m_M_goOn (zn Mz + 0, zw Mz + 0) N40_ 150 [some (.ref 81), some (.int (Int32.ofInt v14_)), some (.int (Int32.ofInt u39_))] [.int (Int32.ofInt 1)] (zpV [3, 4, 5, 6, 11] [] Mz (fun N => 0 ≤ ze N 81 3 ∧ ze N 81 3 ≤ ze N 81 2 ∧ zTv N))
                          refine zr_if_eq (pc := 150) (tgt := 184) ⟨by omega, by omega⟩ (by decide) d_M_goOn_150 (fun hc_150 => ?_) (fun hc_150 => ?_)
                          · skip
                            exact absurd hc_150 (by decide)
                          · skip
                            refine zw_iload_n (pc := 153) (n := 2) (x := Int32.ofInt u39_) rfl d_M_goOn_153 ?_
                            refine zw_iconst (pc := 154) (v := Int32.ofInt 3) (by decide) d_M_goOn_154 ?_
                            refine zr_icmp_ge (pc := 155) (tgt := 178) ⟨by omega, by omega⟩ ⟨by omega, by omega⟩ (by decide) d_M_goOn_155 (fun hc_155 => ?_) (fun hc_155 => ?_)
                            · skip
                              refine zr_iinc (pc := 178) (i := 2) (a := u39_) (n := 1) (L2 := [some (.ref 81), some (.int (Int32.ofInt v14_)), some (.int (Int32.ofInt (u39_ + 1)))]) rfl (by decide) rfl d_M_goOn_178 ?_
                              refine zw_goto (pc := 181) (tgt := 142) (by decide) d_M_goOn_181 ?_
                              exact ih_142 (u39_ + 1) (by omega) (by omega) N40_ hs41_ (show 0 ≤ (u39_ + 1) by omega) (show ze N40_ 81 3 + (u39_ + 1) ≤ ze Mz 81 2 by omega) (show (1 ≤ (u39_ + 1) ∨ ((u39_ + 1) = 0 ∧ 48 ≤ zhr N40_ 0 ∧ zhr N40_ 0 ≤ 57)) by omega) (show 0 ≤ ze N40_ 81 6 by omega) (show (((u39_ + 1) = 0 ∧ ze N40_ 81 6 = 0) ∨ ((u39_ + 1) = 1 ∧ ze N40_ 81 6 ≤ 9) ∨ ((u39_ + 1) = 2 ∧ ze N40_ 81 6 ≤ 99) ∨ (3 ≤ (u39_ + 1) ∧ ze N40_ 81 6 ≤ 999)) by omega) (by omega)
                            · skip
                              refine zw_aload_n (pc := 158) (n := 0) (x := 81) rfl d_M_goOn_158 ?_
                              refine zw_bipush (pc := 159) (v := Int32.ofInt 10) (by decide) d_M_goOn_159 ?_
                              refine zw_aload_n (pc := 161) (n := 0) (x := 81) rfl d_M_goOn_161 ?_
                              refine zr_getI (hf_N40_.w hW) (pc := 162) f_M_152 rfl d_M_goOn_162 ?_
                              refine zr_imul (pc := 165) d_M_goOn_165 ?_
                              refine zw_aload_n (pc := 166) (n := 0) (x := 81) rfl d_M_goOn_166 ?_
                              refine zw_iload_n (pc := 167) (n := 2) (x := Int32.ofInt u39_) rfl d_M_goOn_167 ?_
                              refine zr_callV (hf_N40_.w hW) hf_N40_.x (pc := 168) [.int (Int32.ofInt u39_)] [.int (Int32.ofInt (10 * (ze N40_ 81 6))), .ref 81] l_M_141 (c_M_here l N40_ (hf_N40_.w hW) u39_ (by omega) (by omega) (show 0 ≤ ze N40_ 81 3 + u39_ by omega) (show ze N40_ 81 3 ≤ 700 by omega) (show u39_ ≤ 1000 by omega) (show ze N40_ 81 2 ≤ 700 by omega)) rfl rfl rfl (by decide) (Nat.le_of_ble_eq_true rfl) d_M_goOn_168 ?_
                              rintro _ N51_ ⟨v52_, rfl, ⟨hv52_a, hv52_b⟩, hsN51_, ⟨hp0_N51_, hp1_N51_⟩⟩
                              obtain rfl := hsN51_.eq.symm
                              show zW l m_M_goOn (zn Mz + 0, zw Mz + 0) N40_ 171 [some (.ref 81), some (.int (Int32.ofInt v14_)), some (.int (Int32.ofInt u39_))] [.int (Int32.ofInt v52_), .int (Int32.ofInt (10 * (ze N40_ 81 6))), .ref 81] (zpV [3, 4, 5, 6, 11] [] Mz (fun N => 0 ≤ ze N 81 3 ∧ ze N 81 3 ≤ ze N 81 2 ∧ zTv N))
                              refine zr_iadd (pc := 171) d_M_goOn_171 ?_
                              refine zw_bipush (pc := 172) (v := Int32.ofInt 48) (by decide) d_M_goOn_172 ?_
                              refine zr_isub (pc := 174) d_M_goOn_174 ?_
                              refine zr_putI (hf_N40_.w hW) (pc := 175) f_M_152 rfl rfl ⟨by omega, by omega⟩ rfl rfl d_M_goOn_175 (fun N53_ hsN53_ hvN53_ => ?_)
                              have hf_N53_ : zFr [3, 4, 5, 6, 11] [] Mz N53_ := hf_N40_.tr hsN53_ (by decide) (by decide)
                              have hb0_N53_ : zFr [6] [] N12_ N53_ := hs41_.tr hsN53_ (by decide) (by decide)
                              have e2_N53_ : ze N53_ 81 2 = ze N40_ 81 2 := hsN53_.e (by decide)
                              have e3_N53_ : ze N53_ 81 3 = ze N40_ 81 3 := hsN53_.e (by decide)
                              have e4_N53_ : ze N53_ 81 4 = ze N40_ 81 4 := hsN53_.e (by decide)
                              have e5_N53_ : ze N53_ 81 5 = ze N40_ 81 5 := hsN53_.e (by decide)
                              have r6_N53_ := ze_r N53_ 81 6
                              refine zr_iinc (pc := 178) (i := 2) (a := u39_) (n := 1) (L2 := [some (.ref 81), some (.int (Int32.ofInt v14_)), some (.int (Int32.ofInt (u39_ + 1)))]) rfl (by decide) rfl d_M_goOn_178 ?_
                              refine zw_goto (pc := 181) (tgt := 142) (by decide) d_M_goOn_181 ?_
                              exact ih_142 (u39_ + 1) (by omega) (by omega) N53_ hb0_N53_ (show 0 ≤ (u39_ + 1) by omega) (show ze N53_ 81 3 + (u39_ + 1) ≤ ze Mz 81 2 by omega) (show (1 ≤ (u39_ + 1) ∨ ((u39_ + 1) = 0 ∧ 48 ≤ zhr N53_ 0 ∧ zhr N53_ 0 ≤ 57)) by omega) (show 0 ≤ ze N53_ 81 6 by omega) (show (((u39_ + 1) = 0 ∧ ze N53_ 81 6 = 0) ∨ ((u39_ + 1) = 1 ∧ ze N53_ 81 6 ≤ 9) ∨ ((u39_ + 1) = 2 ∧ ze N53_ 81 6 ≤ 99) ∨ (3 ≤ (u39_ + 1) ∧ ze N53_ 81 6 ≤ 999)) by omega) (by omega)
                        · skip
                          show zW l m_M_goOn (zn Mz + 0, zw Mz + 0) N40_ 150 [some (.ref 81), some (.int (Int32.ofInt v14_)), some (.int (Int32.ofInt u39_))] [.int (Int32.ofInt 0)] (zpV [3, 4, 5, 6, 11] [] Mz (fun N => 0 ≤ ze N 81 3 ∧ ze N 81 3 ≤ ze N 81 2 ∧ zTv N))
                          refine zr_if_eq (pc := 150) (tgt := 184) ⟨by omega, by omega⟩ (by decide) d_M_goOn_150 (fun hc_150 => ?_) (fun hc_150 => ?_)
                          · skip
                            refine zw_aload_n (pc := 184) (n := 0) (x := 81) rfl d_M_goOn_184 ?_
                            refine zw_iload_n (pc := 185) (n := 2) (x := Int32.ofInt u39_) rfl d_M_goOn_185 ?_
                            refine zw_iconst (pc := 186) (v := Int32.ofInt 3) (by decide) d_M_goOn_186 ?_
                            refine zr_icmp_gt (pc := 187) (tgt := 201) ⟨by omega, by omega⟩ ⟨by omega, by omega⟩ (by decide) d_M_goOn_187 (fun hc_187 => ?_) (fun hc_187 => ?_)
                            · skip
                              refine zw_iconst (pc := 201) (v := Int32.ofInt 4) (by decide) d_M_goOn_201 ?_
                              refine zw_goto (pc := 202) (tgt := 206) (by decide) d_M_goOn_202 ?_
                              refine zr_putI (hf_N40_.w hW) (pc := 206) f_M_155 rfl rfl ⟨by omega, by omega⟩ rfl rfl d_M_goOn_206 (fun N54_ hsN54_ hvN54_ => ?_)
                              have hf_N54_ : zFr [3, 4, 5, 6, 11] [] Mz N54_ := hf_N40_.tr hsN54_ (by decide) (by decide)
                              have e2_N54_ : ze N54_ 81 2 = ze N40_ 81 2 := hsN54_.e (by decide)
                              have e3_N54_ : ze N54_ 81 3 = ze N40_ 81 3 := hsN54_.e (by decide)
                              have e4_N54_ : ze N54_ 81 4 = ze N40_ 81 4 := hsN54_.e (by decide)
                              have r5_N54_ := ze_r N54_ 81 5
                              have e6_N54_ : ze N54_ 81 6 = ze N40_ 81 6 := hsN54_.e (by decide)
                              refine zw_goto (pc := 209) (tgt := 235) (by decide) d_M_goOn_209 ?_
                              refine zw_aload_n (pc := 235) (n := 0) (x := 81) rfl d_M_goOn_235 ?_
                              refine zw_dup (pc := 236) rfl d_M_goOn_236 ?_
                              refine zr_getI (hf_N54_.w hW) (pc := 237) f_M_135 rfl d_M_goOn_237 ?_
                              refine zw_iload_n (pc := 240) (n := 2) (x := Int32.ofInt u39_) rfl d_M_goOn_240 ?_
                              refine zr_iadd (pc := 241) d_M_goOn_241 ?_
                              refine zr_putI (hf_N54_.w hW) (pc := 242) f_M_135 rfl rfl ⟨by omega, by omega⟩ rfl rfl d_M_goOn_242 (fun N55_ hsN55_ hvN55_ => ?_)
                              have hf_N55_ : zFr [3, 4, 5, 6, 11] [] Mz N55_ := hf_N54_.tr hsN55_ (by decide) (by decide)
                              have e2_N55_ : ze N55_ 81 2 = ze N54_ 81 2 := hsN55_.e (by decide)
                              have r3_N55_ := ze_r N55_ 81 3
                              have e4_N55_ : ze N55_ 81 4 = ze N54_ 81 4 := hsN55_.e (by decide)
                              have e5_N55_ : ze N55_ 81 5 = ze N54_ 81 5 := hsN55_.e (by decide)
                              have e6_N55_ : ze N55_ 81 6 = ze N54_ 81 6 := hsN55_.e (by decide)
                              exact zr_vret (pc := 245) rfl hf_N55_ ⟨(show 0 ≤ ze N55_ 81 3 by omega), (show ze N55_ 81 3 ≤ ze N55_ 81 2 by omega), (by intro h2; omega)⟩ d_M_goOn_245
                            · skip
                              refine zw_aload_n (pc := 190) (n := 0) (x := 81) rfl d_M_goOn_190 ?_
                              refine zw_iload_n (pc := 191) (n := 2) (x := Int32.ofInt u39_) rfl d_M_goOn_191 ?_
                              refine zr_callV (hf_N40_.w hW) hf_N40_.x (pc := 192) [.int (Int32.ofInt u39_)] [.ref 81] l_M_141 (c_M_here l N40_ (hf_N40_.w hW) u39_ (by omega) (by omega) (show 0 ≤ ze N40_ 81 3 + u39_ by omega) (show ze N40_ 81 3 ≤ 700 by omega) (show u39_ ≤ 1000 by omega) (show ze N40_ 81 2 ≤ 700 by omega)) rfl rfl rfl (by decide) (Nat.le_of_ble_eq_true rfl) d_M_goOn_192 ?_
                              rintro _ N56_ ⟨v57_, rfl, ⟨hv57_a, hv57_b⟩, hsN56_, ⟨hp0_N56_, hp1_N56_⟩⟩
                              obtain rfl := hsN56_.eq.symm
                              show zW l m_M_goOn (zn Mz + 0, zw Mz + 0) N40_ 195 [some (.ref 81), some (.int (Int32.ofInt v14_)), some (.int (Int32.ofInt u39_))] [.int (Int32.ofInt v57_), .ref 81] (zpV [3, 4, 5, 6, 11] [] Mz (fun N => 0 ≤ ze N 81 3 ∧ ze N 81 3 ≤ ze N 81 2 ∧ zTv N))
                              refine zr_callS hf_N40_.x (pc := 195) [.int (Int32.ofInt v57_)] [.ref 81] l_M_158 (c_M_isLetter l N40_ (hf_N40_.w hW) v57_ (by omega) (by omega)) rfl rfl (by decide) (Nat.le_of_ble_eq_true rfl) d_M_goOn_195 ?_
                              rintro _ N58_ ⟨v59_, rfl, ⟨hv59_a, hv59_b⟩, hsN58_, hp0_N58_⟩
                              obtain rfl := hsN58_.eq.symm
                              replace hp0_N58_ : ((v59_ = 1 ∧ 97 ≤ v57_ ∧ v57_ ≤ 122) ∨ (v59_ = 0 ∧ (v57_ < 97 ∨ 122 < v57_))) := hp0_N58_
                              rcases hp0_N58_ with ⟨rfl, ha195_0_hp0_N58_, ha195_1_hp0_N58_⟩ | ⟨rfl, ha195_0_hp0_N58_⟩
                              · skip
                                show zW l m_M_goOn (zn Mz + 0, zw Mz + 0) N40_ 198 [some (.ref 81), some (.int (Int32.ofInt v14_)), some (.int (Int32.ofInt u39_))] [.int (Int32.ofInt 1), .ref 81] (zpV [3, 4, 5, 6, 11] [] Mz (fun N => 0 ≤ ze N 81 3 ∧ ze N 81 3 ≤ ze N 81 2 ∧ zTv N))
                                refine zr_if_eq (pc := 198) (tgt := 205) ⟨by omega, by omega⟩ (by decide) d_M_goOn_198 (fun hc_198 => ?_) (fun hc_198 => ?_)
                                · skip
                                  exact absurd hc_198 (by decide)
                                · skip
                                  refine zw_iconst (pc := 201) (v := Int32.ofInt 4) (by decide) d_M_goOn_201 ?_
                                  refine zw_goto (pc := 202) (tgt := 206) (by decide) d_M_goOn_202 ?_
                                  refine zr_putI (hf_N40_.w hW) (pc := 206) f_M_155 rfl rfl ⟨by omega, by omega⟩ rfl rfl d_M_goOn_206 (fun N60_ hsN60_ hvN60_ => ?_)
                                  have hf_N60_ : zFr [3, 4, 5, 6, 11] [] Mz N60_ := hf_N40_.tr hsN60_ (by decide) (by decide)
                                  have e2_N60_ : ze N60_ 81 2 = ze N40_ 81 2 := hsN60_.e (by decide)
                                  have e3_N60_ : ze N60_ 81 3 = ze N40_ 81 3 := hsN60_.e (by decide)
                                  have e4_N60_ : ze N60_ 81 4 = ze N40_ 81 4 := hsN60_.e (by decide)
                                  have r5_N60_ := ze_r N60_ 81 5
                                  have e6_N60_ : ze N60_ 81 6 = ze N40_ 81 6 := hsN60_.e (by decide)
                                  refine zw_goto (pc := 209) (tgt := 235) (by decide) d_M_goOn_209 ?_
                                  refine zw_aload_n (pc := 235) (n := 0) (x := 81) rfl d_M_goOn_235 ?_
                                  refine zw_dup (pc := 236) rfl d_M_goOn_236 ?_
                                  refine zr_getI (hf_N60_.w hW) (pc := 237) f_M_135 rfl d_M_goOn_237 ?_
                                  refine zw_iload_n (pc := 240) (n := 2) (x := Int32.ofInt u39_) rfl d_M_goOn_240 ?_
                                  refine zr_iadd (pc := 241) d_M_goOn_241 ?_
                                  refine zr_putI (hf_N60_.w hW) (pc := 242) f_M_135 rfl rfl ⟨by omega, by omega⟩ rfl rfl d_M_goOn_242 (fun N61_ hsN61_ hvN61_ => ?_)
                                  have hf_N61_ : zFr [3, 4, 5, 6, 11] [] Mz N61_ := hf_N60_.tr hsN61_ (by decide) (by decide)
                                  have e2_N61_ : ze N61_ 81 2 = ze N60_ 81 2 := hsN61_.e (by decide)
                                  have r3_N61_ := ze_r N61_ 81 3
                                  have e4_N61_ : ze N61_ 81 4 = ze N60_ 81 4 := hsN61_.e (by decide)
                                  have e5_N61_ : ze N61_ 81 5 = ze N60_ 81 5 := hsN61_.e (by decide)
                                  have e6_N61_ : ze N61_ 81 6 = ze N60_ 81 6 := hsN61_.e (by decide)
                                  exact zr_vret (pc := 245) rfl hf_N61_ ⟨(show 0 ≤ ze N61_ 81 3 by omega), (show ze N61_ 81 3 ≤ ze N61_ 81 2 by omega), (by intro h2; omega)⟩ d_M_goOn_245
                              · skip
                                show zW l m_M_goOn (zn Mz + 0, zw Mz + 0) N40_ 198 [some (.ref 81), some (.int (Int32.ofInt v14_)), some (.int (Int32.ofInt u39_))] [.int (Int32.ofInt 0), .ref 81] (zpV [3, 4, 5, 6, 11] [] Mz (fun N => 0 ≤ ze N 81 3 ∧ ze N 81 3 ≤ ze N 81 2 ∧ zTv N))
                                refine zr_if_eq (pc := 198) (tgt := 205) ⟨by omega, by omega⟩ (by decide) d_M_goOn_198 (fun hc_198 => ?_) (fun hc_198 => ?_)
                                · skip
                                  refine zw_iconst (pc := 205) (v := Int32.ofInt 2) (by decide) d_M_goOn_205 ?_
                                  refine zr_putI (hf_N40_.w hW) (pc := 206) f_M_155 rfl rfl ⟨by omega, by omega⟩ rfl rfl d_M_goOn_206 (fun N62_ hsN62_ hvN62_ => ?_)
                                  have hf_N62_ : zFr [3, 4, 5, 6, 11] [] Mz N62_ := hf_N40_.tr hsN62_ (by decide) (by decide)
                                  have e2_N62_ : ze N62_ 81 2 = ze N40_ 81 2 := hsN62_.e (by decide)
                                  have e3_N62_ : ze N62_ 81 3 = ze N40_ 81 3 := hsN62_.e (by decide)
                                  have e4_N62_ : ze N62_ 81 4 = ze N40_ 81 4 := hsN62_.e (by decide)
                                  have r5_N62_ := ze_r N62_ 81 5
                                  have e6_N62_ : ze N62_ 81 6 = ze N40_ 81 6 := hsN62_.e (by decide)
                                  refine zw_goto (pc := 209) (tgt := 235) (by decide) d_M_goOn_209 ?_
                                  refine zw_aload_n (pc := 235) (n := 0) (x := 81) rfl d_M_goOn_235 ?_
                                  refine zw_dup (pc := 236) rfl d_M_goOn_236 ?_
                                  refine zr_getI (hf_N62_.w hW) (pc := 237) f_M_135 rfl d_M_goOn_237 ?_
                                  refine zw_iload_n (pc := 240) (n := 2) (x := Int32.ofInt u39_) rfl d_M_goOn_240 ?_
                                  refine zr_iadd (pc := 241) d_M_goOn_241 ?_
                                  refine zr_putI (hf_N62_.w hW) (pc := 242) f_M_135 rfl rfl ⟨by omega, by omega⟩ rfl rfl d_M_goOn_242 (fun N63_ hsN63_ hvN63_ => ?_)
                                  have hf_N63_ : zFr [3, 4, 5, 6, 11] [] Mz N63_ := hf_N62_.tr hsN63_ (by decide) (by decide)
                                  have e2_N63_ : ze N63_ 81 2 = ze N62_ 81 2 := hsN63_.e (by decide)
                                  have r3_N63_ := ze_r N63_ 81 3
                                  have e4_N63_ : ze N63_ 81 4 = ze N62_ 81 4 := hsN63_.e (by decide)
                                  have e5_N63_ : ze N63_ 81 5 = ze N62_ 81 5 := hsN63_.e (by decide)
                                  have e6_N63_ : ze N63_ 81 6 = ze N62_ 81 6 := hsN63_.e (by decide)
                                  exact zr_vret (pc := 245) rfl hf_N63_ ⟨(show 0 ≤ ze N63_ 81 3 by omega), (show ze N63_ 81 3 ≤ ze N63_ 81 2 by omega), (by intro h2; omega)⟩ d_M_goOn_245
                                · skip
                                  exact absurd hc_198 (by decide)
                          · skip
                            exact absurd hc_150 (by decide)
                    exact lp_142 _ 0 (by omega) (by omega) N12_ zFr.rf (show 0 ≤ 0 by omega) (show ze N12_ 81 3 + 0 ≤ ze Mz 81 2 by omega) (show (1 ≤ 0 ∨ (0 = 0 ∧ 48 ≤ zhr N12_ 0 ∧ zhr N12_ 0 ≤ 57)) by omega) (show 0 ≤ ze N12_ 81 6 by omega) (show ((0 = 0 ∧ ze N12_ 81 6 = 0) ∨ (0 = 1 ∧ ze N12_ 81 6 ≤ 9) ∨ (0 = 2 ∧ ze N12_ 81 6 ≤ 99) ∨ (3 ≤ 0 ∧ ze N12_ 81 6 ≤ 999)) by omega) (Nat.lt_succ_self _)
                · skip
                  show zW l m_M_goOn (zn Mz + 0, zw Mz + 0) N12_ 139 [some (.ref 81), some (.int (Int32.ofInt v14_)), some (.int (Int32.ofInt 0))] [.int (Int32.ofInt 0)] (zpV [3, 4, 5, 6, 11] [] Mz (fun N => 0 ≤ ze N 81 3 ∧ ze N 81 3 ≤ ze N 81 2 ∧ zTv N))
                  refine zr_if_eq (pc := 139) (tgt := 212) ⟨by omega, by omega⟩ (by decide) d_M_goOn_139 (fun hc_139 => ?_) (fun hc_139 => ?_)
                  · skip
                    refine zw_aload_n (pc := 212) (n := 0) (x := 81) rfl d_M_goOn_212 ?_
                    refine zw_iload_n (pc := 213) (n := 1) (x := Int32.ofInt v14_) rfl d_M_goOn_213 ?_
                    refine zr_callS hf_N12_.x (pc := 214) [.int (Int32.ofInt v14_)] [.ref 81] l_M_165 (c_M_isSign l N12_ (hf_N12_.w hW) v14_ (by omega) (by omega)) rfl rfl (by decide) (Nat.le_of_ble_eq_true rfl) d_M_goOn_214 ?_
                    rintro _ N64_ ⟨v65_, rfl, ⟨hv65_a, hv65_b⟩, hsN64_, hp0_N64_⟩
                    obtain rfl := hsN64_.eq.symm
                    replace hp0_N64_ : (v65_ = 0 ∨ v65_ = 1) := hp0_N64_
                    show zW l m_M_goOn (zn Mz + 0, zw Mz + 0) N12_ 217 [some (.ref 81), some (.int (Int32.ofInt v14_)), some (.int (Int32.ofInt 0))] [.int (Int32.ofInt v65_), .ref 81] (zpV [3, 4, 5, 6, 11] [] Mz (fun N => 0 ≤ ze N 81 3 ∧ ze N 81 3 ≤ ze N 81 2 ∧ zTv N))
                    refine zr_if_eq (pc := 217) (tgt := 224) ⟨by omega, by omega⟩ (by decide) d_M_goOn_217 (fun hc_217 => ?_) (fun hc_217 => ?_)
                    · skip
                      refine zw_iconst (pc := 224) (v := Int32.ofInt 4) (by decide) d_M_goOn_224 ?_
                      refine zr_putI (hf_N12_.w hW) (pc := 225) f_M_155 rfl rfl ⟨by omega, by omega⟩ rfl rfl d_M_goOn_225 (fun N66_ hsN66_ hvN66_ => ?_)
                      have hf_N66_ : zFr [3, 4, 5, 6, 11] [] Mz N66_ := hf_N12_.tr hsN66_ (by decide) (by decide)
                      have e2_N66_ : ze N66_ 81 2 = ze N12_ 81 2 := hsN66_.e (by decide)
                      have e3_N66_ : ze N66_ 81 3 = ze N12_ 81 3 := hsN66_.e (by decide)
                      have e4_N66_ : ze N66_ 81 4 = ze N12_ 81 4 := hsN66_.e (by decide)
                      have r5_N66_ := ze_r N66_ 81 5
                      have e6_N66_ : ze N66_ 81 6 = ze N12_ 81 6 := hsN66_.e (by decide)
                      refine zw_aload_n (pc := 228) (n := 0) (x := 81) rfl d_M_goOn_228 ?_
                      refine zw_iload_n (pc := 229) (n := 1) (x := Int32.ofInt v14_) rfl d_M_goOn_229 ?_
                      refine zr_putI (hf_N66_.w hW) (pc := 230) f_M_152 rfl rfl ⟨by omega, by omega⟩ rfl rfl d_M_goOn_230 (fun N67_ hsN67_ hvN67_ => ?_)
                      have hf_N67_ : zFr [3, 4, 5, 6, 11] [] Mz N67_ := hf_N66_.tr hsN67_ (by decide) (by decide)
                      have e2_N67_ : ze N67_ 81 2 = ze N66_ 81 2 := hsN67_.e (by decide)
                      have e3_N67_ : ze N67_ 81 3 = ze N66_ 81 3 := hsN67_.e (by decide)
                      have e4_N67_ : ze N67_ 81 4 = ze N66_ 81 4 := hsN67_.e (by decide)
                      have e5_N67_ : ze N67_ 81 5 = ze N66_ 81 5 := hsN67_.e (by decide)
                      have r6_N67_ := ze_r N67_ 81 6
                      refine zw_iconst (pc := 233) (v := Int32.ofInt 1) (by decide) d_M_goOn_233 ?_
                      refine zw_istore_n (pc := 234) (i := 2) (L2 := [some (.ref 81), some (.int (Int32.ofInt v14_)), some (.int (Int32.ofInt 1))]) rfl (by decide) rfl d_M_goOn_234 ?_
                      refine zw_aload_n (pc := 235) (n := 0) (x := 81) rfl d_M_goOn_235 ?_
                      refine zw_dup (pc := 236) rfl d_M_goOn_236 ?_
                      refine zr_getI (hf_N67_.w hW) (pc := 237) f_M_135 rfl d_M_goOn_237 ?_
                      refine zw_iload_n (pc := 240) (n := 2) (x := Int32.ofInt 1) rfl d_M_goOn_240 ?_
                      refine zr_iadd (pc := 241) d_M_goOn_241 ?_
                      refine zr_putI (hf_N67_.w hW) (pc := 242) f_M_135 rfl rfl ⟨by omega, by omega⟩ rfl rfl d_M_goOn_242 (fun N68_ hsN68_ hvN68_ => ?_)
                      have hf_N68_ : zFr [3, 4, 5, 6, 11] [] Mz N68_ := hf_N67_.tr hsN68_ (by decide) (by decide)
                      have e2_N68_ : ze N68_ 81 2 = ze N67_ 81 2 := hsN68_.e (by decide)
                      have r3_N68_ := ze_r N68_ 81 3
                      have e4_N68_ : ze N68_ 81 4 = ze N67_ 81 4 := hsN68_.e (by decide)
                      have e5_N68_ : ze N68_ 81 5 = ze N67_ 81 5 := hsN68_.e (by decide)
                      have e6_N68_ : ze N68_ 81 6 = ze N67_ 81 6 := hsN68_.e (by decide)
                      exact zr_vret (pc := 245) rfl hf_N68_ ⟨(show 0 ≤ ze N68_ 81 3 by omega), (show ze N68_ 81 3 ≤ ze N68_ 81 2 by omega), (by intro h2; omega)⟩ d_M_goOn_245
                    · skip
                      refine zw_iconst (pc := 220) (v := Int32.ofInt 3) (by decide) d_M_goOn_220 ?_
                      refine zw_goto (pc := 221) (tgt := 225) (by decide) d_M_goOn_221 ?_
                      refine zr_putI (hf_N12_.w hW) (pc := 225) f_M_155 rfl rfl ⟨by omega, by omega⟩ rfl rfl d_M_goOn_225 (fun N69_ hsN69_ hvN69_ => ?_)
                      have hf_N69_ : zFr [3, 4, 5, 6, 11] [] Mz N69_ := hf_N12_.tr hsN69_ (by decide) (by decide)
                      have e2_N69_ : ze N69_ 81 2 = ze N12_ 81 2 := hsN69_.e (by decide)
                      have e3_N69_ : ze N69_ 81 3 = ze N12_ 81 3 := hsN69_.e (by decide)
                      have e4_N69_ : ze N69_ 81 4 = ze N12_ 81 4 := hsN69_.e (by decide)
                      have r5_N69_ := ze_r N69_ 81 5
                      have e6_N69_ : ze N69_ 81 6 = ze N12_ 81 6 := hsN69_.e (by decide)
                      refine zw_aload_n (pc := 228) (n := 0) (x := 81) rfl d_M_goOn_228 ?_
                      refine zw_iload_n (pc := 229) (n := 1) (x := Int32.ofInt v14_) rfl d_M_goOn_229 ?_
                      refine zr_putI (hf_N69_.w hW) (pc := 230) f_M_152 rfl rfl ⟨by omega, by omega⟩ rfl rfl d_M_goOn_230 (fun N70_ hsN70_ hvN70_ => ?_)
                      have hf_N70_ : zFr [3, 4, 5, 6, 11] [] Mz N70_ := hf_N69_.tr hsN70_ (by decide) (by decide)
                      have e2_N70_ : ze N70_ 81 2 = ze N69_ 81 2 := hsN70_.e (by decide)
                      have e3_N70_ : ze N70_ 81 3 = ze N69_ 81 3 := hsN70_.e (by decide)
                      have e4_N70_ : ze N70_ 81 4 = ze N69_ 81 4 := hsN70_.e (by decide)
                      have e5_N70_ : ze N70_ 81 5 = ze N69_ 81 5 := hsN70_.e (by decide)
                      have r6_N70_ := ze_r N70_ 81 6
                      refine zw_iconst (pc := 233) (v := Int32.ofInt 1) (by decide) d_M_goOn_233 ?_
                      refine zw_istore_n (pc := 234) (i := 2) (L2 := [some (.ref 81), some (.int (Int32.ofInt v14_)), some (.int (Int32.ofInt 1))]) rfl (by decide) rfl d_M_goOn_234 ?_
                      refine zw_aload_n (pc := 235) (n := 0) (x := 81) rfl d_M_goOn_235 ?_
                      refine zw_dup (pc := 236) rfl d_M_goOn_236 ?_
                      refine zr_getI (hf_N70_.w hW) (pc := 237) f_M_135 rfl d_M_goOn_237 ?_
                      refine zw_iload_n (pc := 240) (n := 2) (x := Int32.ofInt 1) rfl d_M_goOn_240 ?_
                      refine zr_iadd (pc := 241) d_M_goOn_241 ?_
                      refine zr_putI (hf_N70_.w hW) (pc := 242) f_M_135 rfl rfl ⟨by omega, by omega⟩ rfl rfl d_M_goOn_242 (fun N71_ hsN71_ hvN71_ => ?_)
                      have hf_N71_ : zFr [3, 4, 5, 6, 11] [] Mz N71_ := hf_N70_.tr hsN71_ (by decide) (by decide)
                      have e2_N71_ : ze N71_ 81 2 = ze N70_ 81 2 := hsN71_.e (by decide)
                      have r3_N71_ := ze_r N71_ 81 3
                      have e4_N71_ : ze N71_ 81 4 = ze N70_ 81 4 := hsN71_.e (by decide)
                      have e5_N71_ : ze N71_ 81 5 = ze N70_ 81 5 := hsN71_.e (by decide)
                      have e6_N71_ : ze N71_ 81 6 = ze N70_ 81 6 := hsN71_.e (by decide)
                      exact zr_vret (pc := 245) rfl hf_N71_ ⟨(show 0 ≤ ze N71_ 81 3 by omega), (show ze N71_ 81 3 ≤ ze N71_ 81 2 by omega), (by intro h2; omega)⟩ d_M_goOn_245
                  · skip
                    exact absurd hc_139 (by decide)
              · skip
                exact absurd hc_73 (by decide)
          · skip
            refine zw_aload_n (pc := 63) (n := 0) (x := 81) rfl d_M_goOn_63 ?_
            refine zw_iconst (pc := 64) (v := Int32.ofInt 0) (by decide) d_M_goOn_64 ?_
            refine zr_putI (hf_N12_.w hW) (pc := 65) f_M_155 rfl rfl ⟨by omega, by omega⟩ rfl rfl d_M_goOn_65 (fun N72_ hsN72_ hvN72_ => ?_)
            have hf_N72_ : zFr [3, 4, 5, 6, 11] [] Mz N72_ := hf_N12_.tr hsN72_ (by decide) (by decide)
            have e2_N72_ : ze N72_ 81 2 = ze N12_ 81 2 := hsN72_.e (by decide)
            have e3_N72_ : ze N72_ 81 3 = ze N12_ 81 3 := hsN72_.e (by decide)
            have e4_N72_ : ze N72_ 81 4 = ze N12_ 81 4 := hsN72_.e (by decide)
            have r5_N72_ := ze_r N72_ 81 5
            have e6_N72_ : ze N72_ 81 6 = ze N12_ 81 6 := hsN72_.e (by decide)
            exact zr_vret (pc := 68) rfl hf_N72_ ⟨(show 0 ≤ ze N72_ 81 3 by omega), (show ze N72_ 81 3 ≤ ze N72_ 81 2 by omega), (by intro h2; omega)⟩ d_M_goOn_68
        · skip
          refine zw_aload_n (pc := 20) (n := 0) (x := 81) rfl d_M_goOn_20 ?_
          refine zw_dup (pc := 21) rfl d_M_goOn_21 ?_
          refine zr_getI (hf_N1_.w hW) (pc := 22) f_M_135 rfl d_M_goOn_22 ?_
          refine zw_iconst (pc := 25) (v := Int32.ofInt 1) (by decide) d_M_goOn_25 ?_
          refine zr_iadd (pc := 26) d_M_goOn_26 ?_
          refine zr_putI (hf_N1_.w hW) (pc := 27) f_M_135 rfl rfl ⟨by omega, by omega⟩ rfl rfl d_M_goOn_27 (fun N73_ hsN73_ hvN73_ => ?_)
          have hf_N73_ : zFr [3, 4, 5, 6, 11] [] Mz N73_ := hf_N1_.tr hsN73_ (by decide) (by decide)
          have hb0_N73_ : zFr [3] [] Mz N73_ := hs2_.tr hsN73_ (by decide) (by decide)
          have e2_N73_ : ze N73_ 81 2 = ze N1_ 81 2 := hsN73_.e (by decide)
          have r3_N73_ := ze_r N73_ 81 3
          have e4_N73_ : ze N73_ 81 4 = ze N1_ 81 4 := hsN73_.e (by decide)
          have e5_N73_ : ze N73_ 81 5 = ze N1_ 81 5 := hsN73_.e (by decide)
          have e6_N73_ : ze N73_ 81 6 = ze N1_ 81 6 := hsN73_.e (by decide)
          refine zw_goto (pc := 30) (tgt := 0) (by decide) d_M_goOn_30 ?_
          exact ih_0 N73_ hb0_N73_ (show ze Mz 81 3 ≤ ze N73_ 81 3 by omega) (show ze N73_ 81 3 ≤ ze Mz 81 2 by omega) (by omega)
  exact lp_0 _ Mz zFr.rf (show ze Mz 81 3 ≤ ze Mz 81 3 by omega) (show ze Mz 81 3 ≤ ze Mz 81 2 by omega) (Nat.lt_succ_self _)
set_option maxHeartbeats 4000000 in
theorem c_M_begins (l : Launch) (Mz : zMem) (hW : zMt Mz) (p0_ : 0 ≤ ze Mz 81 1) (p1_ : ze Mz 81 1 ≤ 700) : zC l m_M_begins 0 0 [.ref 81] Mz (zpV [1, 2, 3, 4, 5, 6, 7, 8, 11] [] Mz (fun N => 0 ≤ ze N 81 3 ∧ ze N 81 3 ≤ ze N 81 2 ∧ zTv N ∧ 0 ≤ ze N 81 2 ∧ ze N 81 2 ≤ 700 ∧ ze N 81 1 = 0 ∧ ze N 81 7 = 0)) := by
  refine zC_of (L0 := [some (.ref 81)]) md_M_begins (Nat.le_of_ble_eq_true rfl) rfl ?_ zQ0
  have hf : zFr [1, 2, 3, 4, 5, 6, 7, 8, 11] [] Mz Mz := zFr.rf
  have r_1 := ze_r Mz 81 1
  have r_2 := ze_r Mz 81 2
  have r_3 := ze_r Mz 81 3
  have r_7 := ze_r Mz 81 7
  have r_8 := ze_r Mz 81 8
  refine zw_aload_n (pc := 0) (n := 0) (x := 81) rfl d_M_begins_0 ?_
  refine zw_aload_n (pc := 1) (n := 0) (x := 81) rfl d_M_begins_1 ?_
  refine zr_getI (hf.w hW) (pc := 2) f_M_124 rfl d_M_begins_2 ?_
  refine zr_putI (hf.w hW) (pc := 5) f_M_138 rfl rfl ⟨by omega, by omega⟩ rfl rfl d_M_begins_5 (fun N1_ hsN1_ hvN1_ => ?_)
  have hf_N1_ : zFr [1, 2, 3, 4, 5, 6, 7, 8, 11] [] Mz N1_ := hf.tr hsN1_ (by decide) (by decide)
  have e1_N1_ : ze N1_ 81 1 = ze Mz 81 1 := hsN1_.e (by decide)
  have r2_N1_ := ze_r N1_ 81 2
  have e3_N1_ : ze N1_ 81 3 = ze Mz 81 3 := hsN1_.e (by decide)
  have e7_N1_ : ze N1_ 81 7 = ze Mz 81 7 := hsN1_.e (by decide)
  have e8_N1_ : ze N1_ 81 8 = ze Mz 81 8 := hsN1_.e (by decide)
  refine zw_aload_n (pc := 8) (n := 0) (x := 81) rfl d_M_begins_8 ?_
  refine zw_iconst (pc := 9) (v := Int32.ofInt 0) (by decide) d_M_begins_9 ?_
  refine zr_putI (hf_N1_.w hW) (pc := 10) f_M_124 rfl rfl ⟨by omega, by omega⟩ rfl rfl d_M_begins_10 (fun N2_ hsN2_ hvN2_ => ?_)
  have hf_N2_ : zFr [1, 2, 3, 4, 5, 6, 7, 8, 11] [] Mz N2_ := hf_N1_.tr hsN2_ (by decide) (by decide)
  have r1_N2_ := ze_r N2_ 81 1
  have e2_N2_ : ze N2_ 81 2 = ze N1_ 81 2 := hsN2_.e (by decide)
  have e3_N2_ : ze N2_ 81 3 = ze N1_ 81 3 := hsN2_.e (by decide)
  have e7_N2_ : ze N2_ 81 7 = ze N1_ 81 7 := hsN2_.e (by decide)
  have e8_N2_ : ze N2_ 81 8 = ze N1_ 81 8 := hsN2_.e (by decide)
  refine zw_aload_n (pc := 13) (n := 0) (x := 81) rfl d_M_begins_13 ?_
  refine zw_iconst (pc := 14) (v := Int32.ofInt 0) (by decide) d_M_begins_14 ?_
  refine zr_putI (hf_N2_.w hW) (pc := 15) f_M_135 rfl rfl ⟨by omega, by omega⟩ rfl rfl d_M_begins_15 (fun N3_ hsN3_ hvN3_ => ?_)
  have hf_N3_ : zFr [1, 2, 3, 4, 5, 6, 7, 8, 11] [] Mz N3_ := hf_N2_.tr hsN3_ (by decide) (by decide)
  have e1_N3_ : ze N3_ 81 1 = ze N2_ 81 1 := hsN3_.e (by decide)
  have e2_N3_ : ze N3_ 81 2 = ze N2_ 81 2 := hsN3_.e (by decide)
  have r3_N3_ := ze_r N3_ 81 3
  have e7_N3_ : ze N3_ 81 7 = ze N2_ 81 7 := hsN3_.e (by decide)
  have e8_N3_ : ze N3_ 81 8 = ze N2_ 81 8 := hsN3_.e (by decide)
  refine zw_aload_n (pc := 18) (n := 0) (x := 81) rfl d_M_begins_18 ?_
  refine zw_iconst (pc := 19) (v := Int32.ofInt 0) (by decide) d_M_begins_19 ?_
  refine zr_putI (hf_N3_.w hW) (pc := 20) f_M_172 rfl rfl ⟨by omega, by omega⟩ rfl rfl d_M_begins_20 (fun N4_ hsN4_ hvN4_ => ?_)
  have hf_N4_ : zFr [1, 2, 3, 4, 5, 6, 7, 8, 11] [] Mz N4_ := hf_N3_.tr hsN4_ (by decide) (by decide)
  have e1_N4_ : ze N4_ 81 1 = ze N3_ 81 1 := hsN4_.e (by decide)
  have e2_N4_ : ze N4_ 81 2 = ze N3_ 81 2 := hsN4_.e (by decide)
  have e3_N4_ : ze N4_ 81 3 = ze N3_ 81 3 := hsN4_.e (by decide)
  have r7_N4_ := ze_r N4_ 81 7
  have e8_N4_ : ze N4_ 81 8 = ze N3_ 81 8 := hsN4_.e (by decide)
  refine zw_aload_n (pc := 23) (n := 0) (x := 81) rfl d_M_begins_23 ?_
  refine zw_iconst (pc := 24) (v := Int32.ofInt (-1)) (by decide) d_M_begins_24 ?_
  refine zr_putI (hf_N4_.w hW) (pc := 25) f_M_13 rfl rfl ⟨by omega, by omega⟩ rfl rfl d_M_begins_25 (fun N5_ hsN5_ hvN5_ => ?_)
  have hf_N5_ : zFr [1, 2, 3, 4, 5, 6, 7, 8, 11] [] Mz N5_ := hf_N4_.tr hsN5_ (by decide) (by decide)
  have e1_N5_ : ze N5_ 81 1 = ze N4_ 81 1 := hsN5_.e (by decide)
  have e2_N5_ : ze N5_ 81 2 = ze N4_ 81 2 := hsN5_.e (by decide)
  have e3_N5_ : ze N5_ 81 3 = ze N4_ 81 3 := hsN5_.e (by decide)
  have e7_N5_ : ze N5_ 81 7 = ze N4_ 81 7 := hsN5_.e (by decide)
  have r8_N5_ := ze_r N5_ 81 8
  refine zw_aload_n (pc := 28) (n := 0) (x := 81) rfl d_M_begins_28 ?_
  refine zr_callV (hf_N5_.w hW) hf_N5_.x (pc := 29) [] [] l_M_193 (c_M_goOnB l N5_ (hf_N5_.w hW) (show 0 ≤ ze N5_ 81 3 by omega) (show ze N5_ 81 3 ≤ ze N5_ 81 2 by omega) (show ze N5_ 81 2 ≤ 700 by omega)) rfl rfl rfl (by decide) (Nat.le_of_ble_eq_true rfl) d_M_begins_29 ?_
  rintro _ N6_ ⟨rfl, hsN6_, ⟨hp0_N6_, hp1_N6_, hp2_N6_⟩⟩
  have hf_N6_ : zFr [1, 2, 3, 4, 5, 6, 7, 8, 11] [] Mz N6_ := hf_N5_.tr hsN6_ (by decide) (by decide)
  have e1_N6_ : ze N6_ 81 1 = ze N5_ 81 1 := hsN6_.e (by decide)
  have e2_N6_ : ze N6_ 81 2 = ze N5_ 81 2 := hsN6_.e (by decide)
  have r3_N6_ := ze_r N6_ 81 3
  have e7_N6_ : ze N6_ 81 7 = ze N5_ 81 7 := hsN6_.e (by decide)
  have e8_N6_ : ze N6_ 81 8 = ze N5_ 81 8 := hsN6_.e (by decide)
  show zW l m_M_begins (zn Mz + 0, zw Mz + 0) N6_ 32 [some (.ref 81)] [] (zpV [1, 2, 3, 4, 5, 6, 7, 8, 11] [] Mz (fun N => 0 ≤ ze N 81 3 ∧ ze N 81 3 ≤ ze N 81 2 ∧ zTv N ∧ 0 ≤ ze N 81 2 ∧ ze N 81 2 ≤ 700 ∧ ze N 81 1 = 0 ∧ ze N 81 7 = 0))
  exact zr_vret (pc := 32) rfl hf_N6_ ⟨(show 0 ≤ ze N6_ 81 3 by omega), (show ze N6_ 81 3 ≤ ze N6_ 81 2 by omega), hp2_N6_, (show 0 ≤ ze N6_ 81 2 by omega), (show ze N6_ 81 2 ≤ 700 by omega), (show ze N6_ 81 1 = 0 by omega), (show ze N6_ 81 7 = 0 by omega)⟩ d_M_begins_32
set_option maxHeartbeats 4000000 in
theorem c_M_isGood (l : Launch) (Mz : zMem) (hW : zMt Mz) : zC l m_M_isGood 0 0 [.ref 81] Mz (zpI [] [] Mz (fun v N => (((v = 1 ∧ ze Mz 81 7 = 0) ∨ (v = 0 ∧ ze Mz 81 7 ≠ 0))))) := by
  refine zC_of (L0 := [some (.ref 81)]) md_M_isGood (Nat.le_of_ble_eq_true rfl) rfl ?_ zQ0
  have hf : zFr [] [] Mz Mz := zFr.rf
  have r_7 := ze_r Mz 81 7
  refine zw_aload_n (pc := 0) (n := 0) (x := 81) rfl d_M_isGood_0 ?_
  refine zr_getI0 hf hW (pc := 1) (by decide) f_M_172 rfl d_M_isGood_1 ?_
  refine zr_if_ne (pc := 4) (tgt := 11) ⟨by omega, by omega⟩ (by decide) d_M_isGood_4 (fun hc_4 => ?_) (fun hc_4 => ?_)
  · skip
    refine zw_iconst (pc := 11) (v := Int32.ofInt 0) (by decide) d_M_isGood_11 ?_
    exact zr_iret (pc := 12) (ty := .boolean) rfl (z_narB (by omega)) ⟨by omega, by omega⟩ hf (show ((0 = 1 ∧ ze Mz 81 7 = 0) ∨ (0 = 0 ∧ ze Mz 81 7 ≠ 0)) from Or.inr (⟨(show 0 = 0 by omega), (show ze Mz 81 7 ≠ 0 by omega)⟩)) d_M_isGood_12
  · skip
    refine zw_iconst (pc := 7) (v := Int32.ofInt 1) (by decide) d_M_isGood_7 ?_
    refine zw_goto (pc := 8) (tgt := 12) (by decide) d_M_isGood_8 ?_
    exact zr_iret (pc := 12) (ty := .boolean) rfl (z_narB (by omega)) ⟨by omega, by omega⟩ hf (show ((1 = 1 ∧ ze Mz 81 7 = 0) ∨ (1 = 0 ∧ ze Mz 81 7 ≠ 0)) from Or.inl (⟨(show 1 = 1 by omega), (show ze Mz 81 7 = 0 by omega)⟩)) d_M_isGood_12
set_option maxHeartbeats 4000000 in
theorem c_M_isWord (l : Launch) (Mz : zMem) (hW : zMt Mz) (a0_ : Int) (ha0_a : -9223372036854775808 ≤ a0_) (ha0_b : a0_ < 9223372036854775808) : zC l m_M_isWord 0 0 [.ref 81, .long (Int64.ofInt a0_)] Mz (zpI [] [] Mz (fun v N => (((v = 1 ∧ ze Mz 81 7 = 0 ∧ ze Mz 81 5 = 1) ∨ (v = 0))))) := by
  refine zC_of (L0 := [some (.ref 81), some (.long (Int64.ofInt a0_)), none]) md_M_isWord (Nat.le_of_ble_eq_true rfl) rfl ?_ zQ0
  have hf : zFr [] [] Mz Mz := zFr.rf
  have r_5 := ze_r Mz 81 5
  have r_7 := ze_r Mz 81 7
  refine zw_aload_n (pc := 0) (n := 0) (x := 81) rfl d_M_isWord_0 ?_
  refine zr_getI0 hf hW (pc := 1) (by decide) f_M_172 rfl d_M_isWord_1 ?_
  refine zr_if_ne (pc := 4) (tgt := 28) ⟨by omega, by omega⟩ (by decide) d_M_isWord_4 (fun hc_4 => ?_) (fun hc_4 => ?_)
  · skip
    refine zw_iconst (pc := 28) (v := Int32.ofInt 0) (by decide) d_M_isWord_28 ?_
    exact zr_iret (pc := 29) (ty := .boolean) rfl (z_narB (by omega)) ⟨by omega, by omega⟩ hf (show ((0 = 1 ∧ ze Mz 81 7 = 0 ∧ ze Mz 81 5 = 1) ∨ (0 = 0)) from Or.inr ((show 0 = 0 by omega))) d_M_isWord_29
  · skip
    refine zw_aload_n (pc := 7) (n := 0) (x := 81) rfl d_M_isWord_7 ?_
    refine zr_getI0 hf hW (pc := 8) (by decide) f_M_155 rfl d_M_isWord_8 ?_
    refine zw_iconst (pc := 11) (v := Int32.ofInt 1) (by decide) d_M_isWord_11 ?_
    refine zr_icmp_ne (pc := 12) (tgt := 28) ⟨by omega, by omega⟩ ⟨by omega, by omega⟩ (by decide) d_M_isWord_12 (fun hc_12 => ?_) (fun hc_12 => ?_)
    · skip
      refine zw_iconst (pc := 28) (v := Int32.ofInt 0) (by decide) d_M_isWord_28 ?_
      exact zr_iret (pc := 29) (ty := .boolean) rfl (z_narB (by omega)) ⟨by omega, by omega⟩ hf (show ((0 = 1 ∧ ze Mz 81 7 = 0 ∧ ze Mz 81 5 = 1) ∨ (0 = 0)) from Or.inr ((show 0 = 0 by omega))) d_M_isWord_29
    · skip
      refine zw_aload_n (pc := 15) (n := 0) (x := 81) rfl d_M_isWord_15 ?_
      refine zr_getJ (hf.w hW) (pc := 16) f_M_148 rfl d_M_isWord_16 ?_
      have hr1_ := zg_r Mz 81 11
      refine zw_lload_n (pc := 19) (n := 1) (x := Int64.ofInt a0_) rfl d_M_isWord_19 ?_
      refine zr_lcmp (pc := 20) ⟨by omega, by omega⟩ ⟨by omega, by omega⟩ d_M_isWord_20 ?_
      have hr2_ := zcmp_s (zg Mz 81 11) a0_
      refine zr_if_ne (pc := 21) (tgt := 28) ⟨by omega, by omega⟩ (by decide) d_M_isWord_21 (fun hc_21 => ?_) (fun hc_21 => ?_)
      · skip
        refine zw_iconst (pc := 28) (v := Int32.ofInt 0) (by decide) d_M_isWord_28 ?_
        exact zr_iret (pc := 29) (ty := .boolean) rfl (z_narB (by omega)) ⟨by omega, by omega⟩ hf (show ((0 = 1 ∧ ze Mz 81 7 = 0 ∧ ze Mz 81 5 = 1) ∨ (0 = 0)) from Or.inr ((show 0 = 0 by omega))) d_M_isWord_29
      · skip
        refine zw_iconst (pc := 24) (v := Int32.ofInt 1) (by decide) d_M_isWord_24 ?_
        refine zw_goto (pc := 25) (tgt := 29) (by decide) d_M_isWord_25 ?_
        exact zr_iret (pc := 29) (ty := .boolean) rfl (z_narB (by omega)) ⟨by omega, by omega⟩ hf (show ((1 = 1 ∧ ze Mz 81 7 = 0 ∧ ze Mz 81 5 = 1) ∨ (1 = 0)) from Or.inl (⟨(show 1 = 1 by omega), (show ze Mz 81 7 = 0 by omega), (show ze Mz 81 5 = 1 by omega)⟩)) d_M_isWord_29
set_option maxHeartbeats 4000000 in
theorem c_M_isSignHere (l : Launch) (Mz : zMem) (hW : zMt Mz) (a0_ : Int) (ha0_a : -2147483648 ≤ a0_) (ha0_b : a0_ < 2147483648) : zC l m_M_isSignHere 0 0 [.ref 81, .int (Int32.ofInt a0_)] Mz (zpI [] [] Mz (fun v N => (((v = 1 ∧ ze Mz 81 7 = 0 ∧ ze Mz 81 5 = 3 ∧ ze Mz 81 6 = a0_) ∨ (v = 0))))) := by
  refine zC_of (L0 := [some (.ref 81), some (.int (Int32.ofInt a0_))]) md_M_isSignHere (Nat.le_of_ble_eq_true rfl) rfl ?_ zQ0
  have hf : zFr [] [] Mz Mz := zFr.rf
  have r_5 := ze_r Mz 81 5
  have r_6 := ze_r Mz 81 6
  have r_7 := ze_r Mz 81 7
  refine zw_aload_n (pc := 0) (n := 0) (x := 81) rfl d_M_isSignHere_0 ?_
  refine zr_getI0 hf hW (pc := 1) (by decide) f_M_172 rfl d_M_isSignHere_1 ?_
  refine zr_if_ne (pc := 4) (tgt := 27) ⟨by omega, by omega⟩ (by decide) d_M_isSignHere_4 (fun hc_4 => ?_) (fun hc_4 => ?_)
  · skip
    refine zw_iconst (pc := 27) (v := Int32.ofInt 0) (by decide) d_M_isSignHere_27 ?_
    exact zr_iret (pc := 28) (ty := .boolean) rfl (z_narB (by omega)) ⟨by omega, by omega⟩ hf (show ((0 = 1 ∧ ze Mz 81 7 = 0 ∧ ze Mz 81 5 = 3 ∧ ze Mz 81 6 = a0_) ∨ (0 = 0)) from Or.inr ((show 0 = 0 by omega))) d_M_isSignHere_28
  · skip
    refine zw_aload_n (pc := 7) (n := 0) (x := 81) rfl d_M_isSignHere_7 ?_
    refine zr_getI0 hf hW (pc := 8) (by decide) f_M_155 rfl d_M_isSignHere_8 ?_
    refine zw_iconst (pc := 11) (v := Int32.ofInt 3) (by decide) d_M_isSignHere_11 ?_
    refine zr_icmp_ne (pc := 12) (tgt := 27) ⟨by omega, by omega⟩ ⟨by omega, by omega⟩ (by decide) d_M_isSignHere_12 (fun hc_12 => ?_) (fun hc_12 => ?_)
    · skip
      refine zw_iconst (pc := 27) (v := Int32.ofInt 0) (by decide) d_M_isSignHere_27 ?_
      exact zr_iret (pc := 28) (ty := .boolean) rfl (z_narB (by omega)) ⟨by omega, by omega⟩ hf (show ((0 = 1 ∧ ze Mz 81 7 = 0 ∧ ze Mz 81 5 = 3 ∧ ze Mz 81 6 = a0_) ∨ (0 = 0)) from Or.inr ((show 0 = 0 by omega))) d_M_isSignHere_28
    · skip
      refine zw_aload_n (pc := 15) (n := 0) (x := 81) rfl d_M_isSignHere_15 ?_
      refine zr_getI0 hf hW (pc := 16) (by decide) f_M_152 rfl d_M_isSignHere_16 ?_
      refine zw_iload_n (pc := 19) (n := 1) (x := Int32.ofInt a0_) rfl d_M_isSignHere_19 ?_
      refine zr_icmp_ne (pc := 20) (tgt := 27) ⟨by omega, by omega⟩ ⟨by omega, by omega⟩ (by decide) d_M_isSignHere_20 (fun hc_20 => ?_) (fun hc_20 => ?_)
      · skip
        refine zw_iconst (pc := 27) (v := Int32.ofInt 0) (by decide) d_M_isSignHere_27 ?_
        exact zr_iret (pc := 28) (ty := .boolean) rfl (z_narB (by omega)) ⟨by omega, by omega⟩ hf (show ((0 = 1 ∧ ze Mz 81 7 = 0 ∧ ze Mz 81 5 = 3 ∧ ze Mz 81 6 = a0_) ∨ (0 = 0)) from Or.inr ((show 0 = 0 by omega))) d_M_isSignHere_28
      · skip
        refine zw_iconst (pc := 23) (v := Int32.ofInt 1) (by decide) d_M_isSignHere_23 ?_
        refine zw_goto (pc := 24) (tgt := 28) (by decide) d_M_isSignHere_24 ?_
        exact zr_iret (pc := 28) (ty := .boolean) rfl (z_narB (by omega)) ⟨by omega, by omega⟩ hf (show ((1 = 1 ∧ ze Mz 81 7 = 0 ∧ ze Mz 81 5 = 3 ∧ ze Mz 81 6 = a0_) ∨ (1 = 0)) from Or.inl (⟨(show 1 = 1 by omega), (show ze Mz 81 7 = 0 by omega), (show ze Mz 81 5 = 3 by omega), (show ze Mz 81 6 = a0_ by omega)⟩)) d_M_isSignHere_28
set_option maxHeartbeats 4000000 in
theorem c_M_isName (l : Launch) (Mz : zMem) (hW : zMt Mz) : zC l m_M_isName 0 0 [.ref 81] Mz (zpI [] [] Mz (fun v N => (((v = 1 ∧ ze Mz 81 5 = 1) ∨ (v = 0))))) := by
  refine zC_of (L0 := [some (.ref 81)]) md_M_isName (Nat.le_of_ble_eq_true rfl) rfl ?_ zQ0
  have hf : zFr [] [] Mz Mz := zFr.rf
  have r_5 := ze_r Mz 81 5
  refine zw_aload_n (pc := 0) (n := 0) (x := 81) rfl d_M_isName_0 ?_
  refine zr_getI0 hf hW (pc := 1) (by decide) f_M_155 rfl d_M_isName_1 ?_
  refine zw_iconst (pc := 4) (v := Int32.ofInt 1) (by decide) d_M_isName_4 ?_
  refine zr_icmp_ne (pc := 5) (tgt := 56) ⟨by omega, by omega⟩ ⟨by omega, by omega⟩ (by decide) d_M_isName_5 (fun hc_5 => ?_) (fun hc_5 => ?_)
  · skip
    refine zw_iconst (pc := 56) (v := Int32.ofInt 0) (by decide) d_M_isName_56 ?_
    exact zr_iret (pc := 57) (ty := .boolean) rfl (z_narB (by omega)) ⟨by omega, by omega⟩ hf (show ((0 = 1 ∧ ze Mz 81 5 = 1) ∨ (0 = 0)) from Or.inr ((show 0 = 0 by omega))) d_M_isName_57
  · skip
    refine zw_aload_n (pc := 8) (n := 0) (x := 81) rfl d_M_isName_8 ?_
    refine zr_getJ (hf.w hW) (pc := 9) f_M_148 rfl d_M_isName_9 ?_
    have hr1_ := zg_r Mz 81 11
    refine zr_ldc2 (pc := 12) (n := 123610792682867) (by decide) k_M_175 d_M_isName_12 ?_
    refine zr_lcmp (pc := 15) ⟨by omega, by omega⟩ ⟨by omega, by omega⟩ d_M_isName_15 ?_
    have hr2_ := zcmp_s (zg Mz 81 11) 123610792682867
    refine zr_if_eq (pc := 16) (tgt := 56) ⟨by omega, by omega⟩ (by decide) d_M_isName_16 (fun hc_16 => ?_) (fun hc_16 => ?_)
    · skip
      refine zw_iconst (pc := 56) (v := Int32.ofInt 0) (by decide) d_M_isName_56 ?_
      exact zr_iret (pc := 57) (ty := .boolean) rfl (z_narB (by omega)) ⟨by omega, by omega⟩ hf (show ((0 = 1 ∧ ze Mz 81 5 = 1) ∨ (0 = 0)) from Or.inr ((show 0 = 0 by omega))) d_M_isName_57
    · skip
      refine zw_aload_n (pc := 19) (n := 0) (x := 81) rfl d_M_isName_19 ?_
      refine zr_getJ (hf.w hW) (pc := 20) f_M_148 rfl d_M_isName_20 ?_
      refine zr_ldc2 (pc := 23) (n := 1836021349) (by decide) k_M_177 d_M_isName_23 ?_
      refine zr_lcmp (pc := 26) ⟨by omega, by omega⟩ ⟨by omega, by omega⟩ d_M_isName_26 ?_
      have hr3_ := zcmp_s (zg Mz 81 11) 1836021349
      refine zr_if_eq (pc := 27) (tgt := 56) ⟨by omega, by omega⟩ (by decide) d_M_isName_27 (fun hc_27 => ?_) (fun hc_27 => ?_)
      · skip
        refine zw_iconst (pc := 56) (v := Int32.ofInt 0) (by decide) d_M_isName_56 ?_
        exact zr_iret (pc := 57) (ty := .boolean) rfl (z_narB (by omega)) ⟨by omega, by omega⟩ hf (show ((0 = 1 ∧ ze Mz 81 5 = 1) ∨ (0 = 0)) from Or.inr ((show 0 = 0 by omega))) d_M_isName_57
      · skip
        refine zw_aload_n (pc := 30) (n := 0) (x := 81) rfl d_M_isName_30 ?_
        refine zr_getJ (hf.w hW) (pc := 31) f_M_148 rfl d_M_isName_31 ?_
        refine zr_ldc2 (pc := 34) (n := 7103860) (by decide) k_M_179 d_M_isName_34 ?_
        refine zr_lcmp (pc := 37) ⟨by omega, by omega⟩ ⟨by omega, by omega⟩ d_M_isName_37 ?_
        have hr4_ := zcmp_s (zg Mz 81 11) 7103860
        refine zr_if_eq (pc := 38) (tgt := 56) ⟨by omega, by omega⟩ (by decide) d_M_isName_38 (fun hc_38 => ?_) (fun hc_38 => ?_)
        · skip
          refine zw_iconst (pc := 56) (v := Int32.ofInt 0) (by decide) d_M_isName_56 ?_
          exact zr_iret (pc := 57) (ty := .boolean) rfl (z_narB (by omega)) ⟨by omega, by omega⟩ hf (show ((0 = 1 ∧ ze Mz 81 5 = 1) ∨ (0 = 0)) from Or.inr ((show 0 = 0 by omega))) d_M_isName_57
        · skip
          refine zw_aload_n (pc := 41) (n := 0) (x := 81) rfl d_M_isName_41 ?_
          refine zr_getJ (hf.w hW) (pc := 42) f_M_148 rfl d_M_isName_42 ?_
          refine zr_ldc2 (pc := 45) (n := 1936683636) (by decide) k_M_181 d_M_isName_45 ?_
          refine zr_lcmp (pc := 48) ⟨by omega, by omega⟩ ⟨by omega, by omega⟩ d_M_isName_48 ?_
          have hr5_ := zcmp_s (zg Mz 81 11) 1936683636
          refine zr_if_eq (pc := 49) (tgt := 56) ⟨by omega, by omega⟩ (by decide) d_M_isName_49 (fun hc_49 => ?_) (fun hc_49 => ?_)
          · skip
            refine zw_iconst (pc := 56) (v := Int32.ofInt 0) (by decide) d_M_isName_56 ?_
            exact zr_iret (pc := 57) (ty := .boolean) rfl (z_narB (by omega)) ⟨by omega, by omega⟩ hf (show ((0 = 1 ∧ ze Mz 81 5 = 1) ∨ (0 = 0)) from Or.inr ((show 0 = 0 by omega))) d_M_isName_57
          · skip
            refine zw_iconst (pc := 52) (v := Int32.ofInt 1) (by decide) d_M_isName_52 ?_
            refine zw_goto (pc := 53) (tgt := 57) (by decide) d_M_isName_53 ?_
            exact zr_iret (pc := 57) (ty := .boolean) rfl (z_narB (by omega)) ⟨by omega, by omega⟩ hf (show ((1 = 1 ∧ ze Mz 81 5 = 1) ∨ (1 = 0)) from Or.inl (⟨(show 1 = 1 by omega), (show ze Mz 81 5 = 1 by omega)⟩)) d_M_isName_57
set_option maxHeartbeats 4000000 in
theorem c_M_wrongAt (l : Launch) (Mz : zMem) (hW : zMt Mz) (a0_ : Int) (ha0_a : -2147483648 ≤ a0_) (ha0_b : a0_ < 2147483648) (a1_ : Int) (ha1_a : -2147483648 ≤ a1_) (ha1_b : a1_ < 2147483648) (p0_ : ze Mz 81 7 = 0) (p1_ : 1 ≤ a0_) : zC l m_M_wrongAt 0 0 [.ref 81, .int (Int32.ofInt a0_), .int (Int32.ofInt a1_)] Mz (zpV [7, 8] [] Mz (fun N => 1 ≤ ze N 81 7 ∧ zmu N = 0)) := by
  refine zC_of (L0 := [some (.ref 81), some (.int (Int32.ofInt a0_)), some (.int (Int32.ofInt a1_))]) md_M_wrongAt (Nat.le_of_ble_eq_true rfl) rfl ?_ zQ0
  have hf : zFr [7, 8] [] Mz Mz := zFr.rf
  have r_7 := ze_r Mz 81 7
  have r_8 := ze_r Mz 81 8
  refine zw_aload_n (pc := 0) (n := 0) (x := 81) rfl d_M_wrongAt_0 ?_
  refine zr_getI (hf.w hW) (pc := 1) f_M_172 rfl d_M_wrongAt_1 ?_
  refine zr_if_le (pc := 4) (tgt := 8) ⟨by omega, by omega⟩ (by decide) d_M_wrongAt_4 (fun hc_4 => ?_) (fun hc_4 => ?_)
  · skip
    refine zw_aload_n (pc := 8) (n := 0) (x := 81) rfl d_M_wrongAt_8 ?_
    refine zw_iload_n (pc := 9) (n := 1) (x := Int32.ofInt a0_) rfl d_M_wrongAt_9 ?_
    refine zr_putI (hf.w hW) (pc := 10) f_M_172 rfl rfl ⟨by omega, by omega⟩ rfl rfl d_M_wrongAt_10 (fun N1_ hsN1_ hvN1_ => ?_)
    have hf_N1_ : zFr [7, 8] [] Mz N1_ := hf.tr hsN1_ (by decide) (by decide)
    have r7_N1_ := ze_r N1_ 81 7
    have e8_N1_ : ze N1_ 81 8 = ze Mz 81 8 := hsN1_.e (by decide)
    refine zw_aload_n (pc := 13) (n := 0) (x := 81) rfl d_M_wrongAt_13 ?_
    refine zw_iload_n (pc := 14) (n := 2) (x := Int32.ofInt a1_) rfl d_M_wrongAt_14 ?_
    refine zr_putI (hf_N1_.w hW) (pc := 15) f_M_13 rfl rfl ⟨by omega, by omega⟩ rfl rfl d_M_wrongAt_15 (fun N2_ hsN2_ hvN2_ => ?_)
    have hf_N2_ : zFr [7, 8] [] Mz N2_ := hf_N1_.tr hsN2_ (by decide) (by decide)
    have e7_N2_ : ze N2_ 81 7 = ze N1_ 81 7 := hsN2_.e (by decide)
    have r8_N2_ := ze_r N2_ 81 8
    have hz1 := zmu_s N2_
    exact zr_vret (pc := 18) rfl hf_N2_ ⟨(show 1 ≤ ze N2_ 81 7 by omega), (show zmu N2_ = 0 by omega)⟩ d_M_wrongAt_18
  · skip
    have hz1 := zmu_s Mz
    exact zr_vret (pc := 7) rfl hf ⟨(show 1 ≤ ze Mz 81 7 by omega), (show zmu Mz = 0 by omega)⟩ d_M_wrongAt_7
set_option maxHeartbeats 4000000 in
theorem c_M_wrong (l : Launch) (Mz : zMem) (hW : zMt Mz) (a0_ : Int) (ha0_a : -2147483648 ≤ a0_) (ha0_b : a0_ < 2147483648) (p0_ : ze Mz 81 7 = 0) (p1_ : 1 ≤ a0_) : zC l m_M_wrong 0 0 [.ref 81, .int (Int32.ofInt a0_)] Mz (zpV [7, 8] [] Mz (fun N => 1 ≤ ze N 81 7 ∧ zmu N = 0)) := by
  refine zC_of (L0 := [some (.ref 81), some (.int (Int32.ofInt a0_))]) md_M_wrong (Nat.le_of_ble_eq_true rfl) rfl ?_ zQ0
  have hf : zFr [7, 8] [] Mz Mz := zFr.rf
  have r_4 := ze_r Mz 81 4
  have r_5 := ze_r Mz 81 5
  have r_7 := ze_r Mz 81 7
  refine zw_aload_n (pc := 0) (n := 0) (x := 81) rfl d_M_wrong_0 ?_
  refine zw_aload_n (pc := 1) (n := 0) (x := 81) rfl d_M_wrong_1 ?_
  refine zr_getI0 hf hW (pc := 2) (by decide) f_M_155 rfl d_M_wrong_2 ?_
  refine zw_iconst (pc := 5) (v := Int32.ofInt 4) (by decide) d_M_wrong_5 ?_
  refine zr_icmp_ne (pc := 6) (tgt := 13) ⟨by omega, by omega⟩ ⟨by omega, by omega⟩ (by decide) d_M_wrong_6 (fun hc_6 => ?_) (fun hc_6 => ?_)
  · skip
    refine zw_iload_n (pc := 13) (n := 1) (x := Int32.ofInt a0_) rfl d_M_wrong_13 ?_
    refine zw_aload_n (pc := 14) (n := 0) (x := 81) rfl d_M_wrong_14 ?_
    refine zr_getI0 hf hW (pc := 15) (by decide) f_M_145 rfl d_M_wrong_15 ?_
    refine zr_callV (hf.w hW) hf.x (pc := 18) [.int (Int32.ofInt a0_), .int (Int32.ofInt (ze Mz 81 4))] [] l_M_168 (c_M_wrongAt l Mz (hf.w hW) a0_ (by omega) (by omega) (ze Mz 81 4) (by omega) (by omega) (show ze Mz 81 7 = 0 by omega) (show 1 ≤ a0_ by omega)) rfl rfl rfl (by decide) (Nat.le_of_ble_eq_true rfl) d_M_wrong_18 ?_
    rintro _ N1_ ⟨rfl, hsN1_, ⟨hp0_N1_, hp1_N1_⟩⟩
    have hf_N1_ : zFr [7, 8] [] Mz N1_ := hf.tr hsN1_ (by decide) (by decide)
    have e4_N1_ : ze N1_ 81 4 = ze Mz 81 4 := hsN1_.e (by decide)
    have e5_N1_ : ze N1_ 81 5 = ze Mz 81 5 := hsN1_.e (by decide)
    have r7_N1_ := ze_r N1_ 81 7
    show zW l m_M_wrong (zn Mz + 0, zw Mz + 0) N1_ 21 [some (.ref 81), some (.int (Int32.ofInt a0_))] [] (zpV [7, 8] [] Mz (fun N => 1 ≤ ze N 81 7 ∧ zmu N = 0))
    exact zr_vret (pc := 21) rfl hf_N1_ ⟨(show 1 ≤ ze N1_ 81 7 by omega), (show zmu N1_ = 0 by omega)⟩ d_M_wrong_21
  · skip
    refine zw_iconst (pc := 9) (v := Int32.ofInt 1) (by decide) d_M_wrong_9 ?_
    refine zw_goto (pc := 10) (tgt := 14) (by decide) d_M_wrong_10 ?_
    refine zw_aload_n (pc := 14) (n := 0) (x := 81) rfl d_M_wrong_14 ?_
    refine zr_getI0 hf hW (pc := 15) (by decide) f_M_145 rfl d_M_wrong_15 ?_
    refine zr_callV (hf.w hW) hf.x (pc := 18) [.int (Int32.ofInt 1), .int (Int32.ofInt (ze Mz 81 4))] [] l_M_168 (c_M_wrongAt l Mz (hf.w hW) 1 (by omega) (by omega) (ze Mz 81 4) (by omega) (by omega) (show ze Mz 81 7 = 0 by omega) (show 1 ≤ 1 by omega)) rfl rfl rfl (by decide) (Nat.le_of_ble_eq_true rfl) d_M_wrong_18 ?_
    rintro _ N3_ ⟨rfl, hsN3_, ⟨hp0_N3_, hp1_N3_⟩⟩
    have hf_N3_ : zFr [7, 8] [] Mz N3_ := hf.tr hsN3_ (by decide) (by decide)
    have e4_N3_ : ze N3_ 81 4 = ze Mz 81 4 := hsN3_.e (by decide)
    have e5_N3_ : ze N3_ 81 5 = ze Mz 81 5 := hsN3_.e (by decide)
    have r7_N3_ := ze_r N3_ 81 7
    show zW l m_M_wrong (zn Mz + 0, zw Mz + 0) N3_ 21 [some (.ref 81), some (.int (Int32.ofInt a0_))] [] (zpV [7, 8] [] Mz (fun N => 1 ≤ ze N 81 7 ∧ zmu N = 0))
    exact zr_vret (pc := 21) rfl hf_N3_ ⟨(show 1 ≤ ze N3_ 81 7 by omega), (show zmu N3_ = 0 by omega)⟩ d_M_wrong_21
set_option maxHeartbeats 4000000 in
theorem c_M_number (l : Launch) (Mz : zMem) (hW : zMt Mz) (a0_ : Int) (ha0_a : -2147483648 ≤ a0_) (ha0_b : a0_ < 2147483648) (a1_ : Int) (ha1_a : -2147483648 ≤ a1_) (ha1_b : a1_ < 2147483648) (p0_ : 0 ≤ ze Mz 81 3) (p1_ : ze Mz 81 3 ≤ ze Mz 81 2) (p2_ : ze Mz 81 2 ≤ 700) (p3_ : zTv Mz) (p4_ : 0 ≤ ze Mz 81 7) : zC l m_M_number 0 0 [.ref 81, .int (Int32.ofInt a0_), .int (Int32.ofInt a1_)] Mz (zpI [3, 4, 5, 6, 7, 8, 11] [] Mz (fun v N => 0 ≤ ze N 81 3 ∧ ze N 81 3 ≤ ze N 81 2 ∧ zTv N ∧ (((1 ≤ ze N 81 7 ∧ zmu N = 0) ∨ (ze N 81 7 = 0 ∧ ze Mz 81 7 = 0 ∧ zmu N < zmu Mz ∧ a0_ ≤ v ∧ v ≤ a1_))))) := by
  refine zC_of (L0 := [some (.ref 81), some (.int (Int32.ofInt a0_)), some (.int (Int32.ofInt a1_)), none]) md_M_number (Nat.le_of_ble_eq_true rfl) rfl ?_ zQ0
  have hf : zFr [3, 4, 5, 6, 7, 8, 11] [] Mz Mz := zFr.rf
  have r_2 := ze_r Mz 81 2
  have r_3 := ze_r Mz 81 3
  have r_5 := ze_r Mz 81 5
  have r_6 := ze_r Mz 81 6
  have r_7 := ze_r Mz 81 7
  refine zw_aload_n (pc := 0) (n := 0) (x := 81) rfl d_M_number_0 ?_
  refine zr_callV (hf.w hW) hf.x (pc := 1) [] [] l_M_183 (c_M_isGood l Mz (hf.w hW) ) rfl rfl rfl (by decide) (Nat.le_of_ble_eq_true rfl) d_M_number_1 ?_
  rintro _ N1_ ⟨v2_, rfl, ⟨hv2_a, hv2_b⟩, hsN1_, hp0_N1_⟩
  obtain rfl := hsN1_.eq.symm
  replace hp0_N1_ : ((v2_ = 1 ∧ ze Mz 81 7 = 0) ∨ (v2_ = 0 ∧ ze Mz 81 7 ≠ 0)) := hp0_N1_
  rcases hp0_N1_ with ⟨rfl, ha1_0_hp0_N1_⟩ | ⟨rfl, ha1_0_hp0_N1_⟩
  · skip
    show zW l m_M_number (zn Mz + 0, zw Mz + 0) Mz 4 [some (.ref 81), some (.int (Int32.ofInt a0_)), some (.int (Int32.ofInt a1_)), none] [.int (Int32.ofInt 1)] (zpI [3, 4, 5, 6, 7, 8, 11] [] Mz (fun v N => 0 ≤ ze N 81 3 ∧ ze N 81 3 ≤ ze N 81 2 ∧ zTv N ∧ (((1 ≤ ze N 81 7 ∧ zmu N = 0) ∨ (ze N 81 7 = 0 ∧ ze Mz 81 7 = 0 ∧ zmu N < zmu Mz ∧ a0_ ≤ v ∧ v ≤ a1_)))))
    refine zr_if_eq (pc := 4) (tgt := 20) ⟨by omega, by omega⟩ (by decide) d_M_number_4 (fun hc_4 => ?_) (fun hc_4 => ?_)
    · skip
      exact absurd hc_4 (by decide)
    · skip
      refine zw_aload_n (pc := 7) (n := 0) (x := 81) rfl d_M_number_7 ?_
      refine zr_getI (hf.w hW) (pc := 8) f_M_155 rfl d_M_number_8 ?_
      refine zw_iconst (pc := 11) (v := Int32.ofInt 2) (by decide) d_M_number_11 ?_
      refine zr_icmp_eq (pc := 12) (tgt := 20) ⟨by omega, by omega⟩ ⟨by omega, by omega⟩ (by decide) d_M_number_12 (fun hc_12 => ?_) (fun hc_12 => ?_)
      · skip
        refine zw_aload_n (pc := 20) (n := 0) (x := 81) rfl d_M_number_20 ?_
        refine zr_getI (hf.w hW) (pc := 21) f_M_152 rfl d_M_number_21 ?_
        refine zw_istore_n (pc := 24) (i := 3) (L2 := [some (.ref 81), some (.int (Int32.ofInt a0_)), some (.int (Int32.ofInt a1_)), some (.int (Int32.ofInt (ze Mz 81 6)))]) rfl (by decide) rfl d_M_number_24 ?_
        refine zw_aload_n (pc := 25) (n := 0) (x := 81) rfl d_M_number_25 ?_
        refine zr_callV (hf.w hW) hf.x (pc := 26) [] [] l_M_183 (c_M_isGood l Mz (hf.w hW) ) rfl rfl rfl (by decide) (Nat.le_of_ble_eq_true rfl) d_M_number_26 ?_
        rintro _ N3_ ⟨v4_, rfl, ⟨hv4_a, hv4_b⟩, hsN3_, hp0_N3_⟩
        obtain rfl := hsN3_.eq.symm
        replace hp0_N3_ : ((v4_ = 1 ∧ ze Mz 81 7 = 0) ∨ (v4_ = 0 ∧ ze Mz 81 7 ≠ 0)) := hp0_N3_
        rcases hp0_N3_ with ⟨rfl, ha26_0_hp0_N3_⟩ | ⟨rfl, ha26_0_hp0_N3_⟩
        · skip
          show zW l m_M_number (zn Mz + 0, zw Mz + 0) Mz 29 [some (.ref 81), some (.int (Int32.ofInt a0_)), some (.int (Int32.ofInt a1_)), some (.int (Int32.ofInt (ze Mz 81 6)))] [.int (Int32.ofInt 1)] (zpI [3, 4, 5, 6, 7, 8, 11] [] Mz (fun v N => 0 ≤ ze N 81 3 ∧ ze N 81 3 ≤ ze N 81 2 ∧ zTv N ∧ (((1 ≤ ze N 81 7 ∧ zmu N = 0) ∨ (ze N 81 7 = 0 ∧ ze Mz 81 7 = 0 ∧ zmu N < zmu Mz ∧ a0_ ≤ v ∧ v ≤ a1_)))))
          refine zr_if_eq (pc := 29) (tgt := 49) ⟨by omega, by omega⟩ (by decide) d_M_number_29 (fun hc_29 => ?_) (fun hc_29 => ?_)
          · skip
            exact absurd hc_29 (by decide)
          · skip
            refine zw_iload_n (pc := 32) (n := 3) (x := Int32.ofInt (ze Mz 81 6)) rfl d_M_number_32 ?_
            refine zr_i2l (pc := 33) ⟨by omega, by omega⟩ d_M_number_33 ?_
            refine zw_iload_n (pc := 34) (n := 1) (x := Int32.ofInt a0_) rfl d_M_number_34 ?_
            refine zr_i2l (pc := 35) ⟨by omega, by omega⟩ d_M_number_35 ?_
            refine zw_iload_n (pc := 36) (n := 2) (x := Int32.ofInt a1_) rfl d_M_number_36 ?_
            refine zr_i2l (pc := 37) ⟨by omega, by omega⟩ d_M_number_37 ?_
            refine zr_callS hf.x (pc := 38) [.long (Int64.ofInt (ze Mz 81 6)), .long (Int64.ofInt a0_), .long (Int64.ofInt a1_)] [] l_M_131 (c_M_isIn l Mz (hf.w hW) (ze Mz 81 6) (by omega) (by omega) a0_ (by omega) (by omega) a1_ (by omega) (by omega)) rfl rfl (by decide) (Nat.le_of_ble_eq_true rfl) d_M_number_38 ?_
            rintro _ N5_ ⟨v6_, rfl, ⟨hv6_a, hv6_b⟩, hsN5_, hp0_N5_⟩
            obtain rfl := hsN5_.eq.symm
            replace hp0_N5_ : ((v6_ = 1 ∧ a0_ ≤ (ze Mz 81 6) ∧ (ze Mz 81 6) ≤ a1_) ∨ (v6_ = 0 ∧ ((ze Mz 81 6) < a0_ ∨ a1_ < (ze Mz 81 6)))) := hp0_N5_
            rcases hp0_N5_ with ⟨rfl, ha38_0_hp0_N5_, ha38_1_hp0_N5_⟩ | ⟨rfl, ha38_0_hp0_N5_⟩
            · skip
              show zW l m_M_number (zn Mz + 0, zw Mz + 0) Mz 41 [some (.ref 81), some (.int (Int32.ofInt a0_)), some (.int (Int32.ofInt a1_)), some (.int (Int32.ofInt (ze Mz 81 6)))] [.int (Int32.ofInt 1)] (zpI [3, 4, 5, 6, 7, 8, 11] [] Mz (fun v N => 0 ≤ ze N 81 3 ∧ ze N 81 3 ≤ ze N 81 2 ∧ zTv N ∧ (((1 ≤ ze N 81 7 ∧ zmu N = 0) ∨ (ze N 81 7 = 0 ∧ ze Mz 81 7 = 0 ∧ zmu N < zmu Mz ∧ a0_ ≤ v ∧ v ≤ a1_)))))
              refine zr_if_ne (pc := 41) (tgt := 49) ⟨by omega, by omega⟩ (by decide) d_M_number_41 (fun hc_41 => ?_) (fun hc_41 => ?_)
              · skip
                refine zw_aload_n (pc := 49) (n := 0) (x := 81) rfl d_M_number_49 ?_
                refine zr_callV (hf.w hW) hf.x (pc := 50) [] [] l_M_183 (c_M_isGood l Mz (hf.w hW) ) rfl rfl rfl (by decide) (Nat.le_of_ble_eq_true rfl) d_M_number_50 ?_
                rintro _ N7_ ⟨v8_, rfl, ⟨hv8_a, hv8_b⟩, hsN7_, hp0_N7_⟩
                obtain rfl := hsN7_.eq.symm
                replace hp0_N7_ : ((v8_ = 1 ∧ ze Mz 81 7 = 0) ∨ (v8_ = 0 ∧ ze Mz 81 7 ≠ 0)) := hp0_N7_
                rcases hp0_N7_ with ⟨rfl, ha50_0_hp0_N7_⟩ | ⟨rfl, ha50_0_hp0_N7_⟩
                · skip
                  show zW l m_M_number (zn Mz + 0, zw Mz + 0) Mz 53 [some (.ref 81), some (.int (Int32.ofInt a0_)), some (.int (Int32.ofInt a1_)), some (.int (Int32.ofInt (ze Mz 81 6)))] [.int (Int32.ofInt 1)] (zpI [3, 4, 5, 6, 7, 8, 11] [] Mz (fun v N => 0 ≤ ze N 81 3 ∧ ze N 81 3 ≤ ze N 81 2 ∧ zTv N ∧ (((1 ≤ ze N 81 7 ∧ zmu N = 0) ∨ (ze N 81 7 = 0 ∧ ze Mz 81 7 = 0 ∧ zmu N < zmu Mz ∧ a0_ ≤ v ∧ v ≤ a1_)))))
                  refine zr_if_eq (pc := 53) (tgt := 60) ⟨by omega, by omega⟩ (by decide) d_M_number_53 (fun hc_53 => ?_) (fun hc_53 => ?_)
                  · skip
                    exact absurd hc_53 (by decide)
                  · skip
                    refine zw_aload_n (pc := 56) (n := 0) (x := 81) rfl d_M_number_56 ?_
                    refine zr_callV (hf.w hW) hf.x (pc := 57) [] [] l_M_193 (c_M_goOn l Mz (hf.w hW) (show 0 ≤ ze Mz 81 3 by omega) (show ze Mz 81 3 ≤ ze Mz 81 2 by omega) (show ze Mz 81 2 ≤ 700 by omega) (show ze Mz 81 5 ≠ 0 by omega) (show ze Mz 81 7 = 0 by omega)) rfl rfl rfl (by decide) (Nat.le_of_ble_eq_true rfl) d_M_number_57 ?_
                    rintro _ N9_ ⟨rfl, hsN9_, ⟨hp0_N9_, hp1_N9_, hp2_N9_, hp3_N9_, hp4_N9_⟩⟩
                    have hf_N9_ : zFr [3, 4, 5, 6, 7, 8, 11] [] Mz N9_ := hf.tr hsN9_ (by decide) (by decide)
                    have e2_N9_ : ze N9_ 81 2 = ze Mz 81 2 := hsN9_.e (by decide)
                    have r3_N9_ := ze_r N9_ 81 3
                    have r5_N9_ := ze_r N9_ 81 5
                    have r6_N9_ := ze_r N9_ 81 6
                    have e7_N9_ : ze N9_ 81 7 = ze Mz 81 7 := hsN9_.e (by decide)
                    show zW l m_M_number (zn Mz + 0, zw Mz + 0) N9_ 60 [some (.ref 81), some (.int (Int32.ofInt a0_)), some (.int (Int32.ofInt a1_)), some (.int (Int32.ofInt (ze Mz 81 6)))] [] (zpI [3, 4, 5, 6, 7, 8, 11] [] Mz (fun v N => 0 ≤ ze N 81 3 ∧ ze N 81 3 ≤ ze N 81 2 ∧ zTv N ∧ (((1 ≤ ze N 81 7 ∧ zmu N = 0) ∨ (ze N 81 7 = 0 ∧ ze Mz 81 7 = 0 ∧ zmu N < zmu Mz ∧ a0_ ≤ v ∧ v ≤ a1_)))))
                    refine zw_iload_n (pc := 60) (n := 3) (x := Int32.ofInt (ze Mz 81 6)) rfl d_M_number_60 ?_
                    have hz0 := zmu_s N9_
                    exact zr_iret (pc := 61) (ty := .int) rfl rfl ⟨by omega, by omega⟩ hf_N9_ ⟨(show 0 ≤ ze N9_ 81 3 by omega), (show ze N9_ 81 3 ≤ ze N9_ 81 2 by omega), hp2_N9_, (show ((1 ≤ ze N9_ 81 7 ∧ zmu N9_ = 0) ∨ (ze N9_ 81 7 = 0 ∧ ze Mz 81 7 = 0 ∧ zmu N9_ < zmu Mz ∧ a0_ ≤ (ze Mz 81 6) ∧ (ze Mz 81 6) ≤ a1_)) from Or.inr (⟨(show ze N9_ 81 7 = 0 by omega), (show ze Mz 81 7 = 0 by omega), (show zmu N9_ < zmu Mz by omega), (show a0_ ≤ (ze Mz 81 6) by omega), (show (ze Mz 81 6) ≤ a1_ by omega)⟩))⟩ d_M_number_61
                · skip
                  exfalso; omega
              · skip
                exact absurd hc_41 (by decide)
            · skip
              show zW l m_M_number (zn Mz + 0, zw Mz + 0) Mz 41 [some (.ref 81), some (.int (Int32.ofInt a0_)), some (.int (Int32.ofInt a1_)), some (.int (Int32.ofInt (ze Mz 81 6)))] [.int (Int32.ofInt 0)] (zpI [3, 4, 5, 6, 7, 8, 11] [] Mz (fun v N => 0 ≤ ze N 81 3 ∧ ze N 81 3 ≤ ze N 81 2 ∧ zTv N ∧ (((1 ≤ ze N 81 7 ∧ zmu N = 0) ∨ (ze N 81 7 = 0 ∧ ze Mz 81 7 = 0 ∧ zmu N < zmu Mz ∧ a0_ ≤ v ∧ v ≤ a1_)))))
              refine zr_if_ne (pc := 41) (tgt := 49) ⟨by omega, by omega⟩ (by decide) d_M_number_41 (fun hc_41 => ?_) (fun hc_41 => ?_)
              · skip
                exact absurd hc_41 (by decide)
              · skip
                refine zw_aload_n (pc := 44) (n := 0) (x := 81) rfl d_M_number_44 ?_
                refine zw_iconst (pc := 45) (v := Int32.ofInt 4) (by decide) d_M_number_45 ?_
                refine zr_callV (hf.w hW) hf.x (pc := 46) [.int (Int32.ofInt 4)] [] l_M_190 (c_M_wrong l Mz (hf.w hW) 4 (by omega) (by omega) (show ze Mz 81 7 = 0 by omega) (show 1 ≤ 4 by omega)) rfl rfl rfl (by decide) (Nat.le_of_ble_eq_true rfl) d_M_number_46 ?_
                rintro _ N11_ ⟨rfl, hsN11_, ⟨hp0_N11_, hp1_N11_⟩⟩
                have hf_N11_ : zFr [3, 4, 5, 6, 7, 8, 11] [] Mz N11_ := hf.tr hsN11_ (by decide) (by decide)
                have e2_N11_ : ze N11_ 81 2 = ze Mz 81 2 := hsN11_.e (by decide)
                have e3_N11_ : ze N11_ 81 3 = ze Mz 81 3 := hsN11_.e (by decide)
                have e5_N11_ : ze N11_ 81 5 = ze Mz 81 5 := hsN11_.e (by decide)
                have e6_N11_ : ze N11_ 81 6 = ze Mz 81 6 := hsN11_.e (by decide)
                have r7_N11_ := ze_r N11_ 81 7
                have c13_ : zTv N11_ := zTv.fr hsN11_ p3_ (by decide) (by decide)
                show zW l m_M_number (zn Mz + 0, zw Mz + 0) N11_ 49 [some (.ref 81), some (.int (Int32.ofInt a0_)), some (.int (Int32.ofInt a1_)), some (.int (Int32.ofInt (ze Mz 81 6)))] [] (zpI [3, 4, 5, 6, 7, 8, 11] [] Mz (fun v N => 0 ≤ ze N 81 3 ∧ ze N 81 3 ≤ ze N 81 2 ∧ zTv N ∧ (((1 ≤ ze N 81 7 ∧ zmu N = 0) ∨ (ze N 81 7 = 0 ∧ ze Mz 81 7 = 0 ∧ zmu N < zmu Mz ∧ a0_ ≤ v ∧ v ≤ a1_)))))
                refine zw_aload_n (pc := 49) (n := 0) (x := 81) rfl d_M_number_49 ?_
                refine zr_callV (hf_N11_.w hW) hf_N11_.x (pc := 50) [] [] l_M_183 (c_M_isGood l N11_ (hf_N11_.w hW) ) rfl rfl rfl (by decide) (Nat.le_of_ble_eq_true rfl) d_M_number_50 ?_
                rintro _ N14_ ⟨v15_, rfl, ⟨hv15_a, hv15_b⟩, hsN14_, hp0_N14_⟩
                obtain rfl := hsN14_.eq.symm
                replace hp0_N14_ : ((v15_ = 1 ∧ ze N11_ 81 7 = 0) ∨ (v15_ = 0 ∧ ze N11_ 81 7 ≠ 0)) := hp0_N14_
                rcases hp0_N14_ with ⟨rfl, ha50_0_hp0_N14_⟩ | ⟨rfl, ha50_0_hp0_N14_⟩
                · skip
                  show zW l m_M_number (zn Mz + 0, zw Mz + 0) N11_ 53 [some (.ref 81), some (.int (Int32.ofInt a0_)), some (.int (Int32.ofInt a1_)), some (.int (Int32.ofInt (ze Mz 81 6)))] [.int (Int32.ofInt 1)] (zpI [3, 4, 5, 6, 7, 8, 11] [] Mz (fun v N => 0 ≤ ze N 81 3 ∧ ze N 81 3 ≤ ze N 81 2 ∧ zTv N ∧ (((1 ≤ ze N 81 7 ∧ zmu N = 0) ∨ (ze N 81 7 = 0 ∧ ze Mz 81 7 = 0 ∧ zmu N < zmu Mz ∧ a0_ ≤ v ∧ v ≤ a1_)))))
                  refine zr_if_eq (pc := 53) (tgt := 60) ⟨by omega, by omega⟩ (by decide) d_M_number_53 (fun hc_53 => ?_) (fun hc_53 => ?_)
                  · skip
                    exact absurd hc_53 (by decide)
                  · skip
                    refine zw_aload_n (pc := 56) (n := 0) (x := 81) rfl d_M_number_56 ?_
                    refine zr_callV (hf_N11_.w hW) hf_N11_.x (pc := 57) [] [] l_M_193 (c_M_goOn l N11_ (hf_N11_.w hW) (show 0 ≤ ze N11_ 81 3 by omega) (show ze N11_ 81 3 ≤ ze N11_ 81 2 by omega) (show ze N11_ 81 2 ≤ 700 by omega) (show ze N11_ 81 5 ≠ 0 by omega) (show ze N11_ 81 7 = 0 by omega)) rfl rfl rfl (by decide) (Nat.le_of_ble_eq_true rfl) d_M_number_57 ?_
                    rintro _ N16_ ⟨rfl, hsN16_, ⟨hp0_N16_, hp1_N16_, hp2_N16_, hp3_N16_, hp4_N16_⟩⟩
                    have hf_N16_ : zFr [3, 4, 5, 6, 7, 8, 11] [] Mz N16_ := hf_N11_.tr hsN16_ (by decide) (by decide)
                    have e2_N16_ : ze N16_ 81 2 = ze N11_ 81 2 := hsN16_.e (by decide)
                    have r3_N16_ := ze_r N16_ 81 3
                    have r5_N16_ := ze_r N16_ 81 5
                    have r6_N16_ := ze_r N16_ 81 6
                    have e7_N16_ : ze N16_ 81 7 = ze N11_ 81 7 := hsN16_.e (by decide)
                    show zW l m_M_number (zn Mz + 0, zw Mz + 0) N16_ 60 [some (.ref 81), some (.int (Int32.ofInt a0_)), some (.int (Int32.ofInt a1_)), some (.int (Int32.ofInt (ze Mz 81 6)))] [] (zpI [3, 4, 5, 6, 7, 8, 11] [] Mz (fun v N => 0 ≤ ze N 81 3 ∧ ze N 81 3 ≤ ze N 81 2 ∧ zTv N ∧ (((1 ≤ ze N 81 7 ∧ zmu N = 0) ∨ (ze N 81 7 = 0 ∧ ze Mz 81 7 = 0 ∧ zmu N < zmu Mz ∧ a0_ ≤ v ∧ v ≤ a1_)))))
                    refine zw_iload_n (pc := 60) (n := 3) (x := Int32.ofInt (ze Mz 81 6)) rfl d_M_number_60 ?_
                    have hz0 := zmu_s N16_
                    exact zr_iret (pc := 61) (ty := .int) rfl rfl ⟨by omega, by omega⟩ hf_N16_ ⟨(show 0 ≤ ze N16_ 81 3 by omega), (show ze N16_ 81 3 ≤ ze N16_ 81 2 by omega), hp2_N16_, (show ((1 ≤ ze N16_ 81 7 ∧ zmu N16_ = 0) ∨ (ze N16_ 81 7 = 0 ∧ ze Mz 81 7 = 0 ∧ zmu N16_ < zmu Mz ∧ a0_ ≤ (ze Mz 81 6) ∧ (ze Mz 81 6) ≤ a1_)) from Or.inr (⟨(show ze N16_ 81 7 = 0 by omega), (show ze Mz 81 7 = 0 by omega), (show zmu N16_ < zmu Mz by omega), (show a0_ ≤ (ze Mz 81 6) by omega), (show (ze Mz 81 6) ≤ a1_ by omega)⟩))⟩ d_M_number_61
                · skip
                  show zW l m_M_number (zn Mz + 0, zw Mz + 0) N11_ 53 [some (.ref 81), some (.int (Int32.ofInt a0_)), some (.int (Int32.ofInt a1_)), some (.int (Int32.ofInt (ze Mz 81 6)))] [.int (Int32.ofInt 0)] (zpI [3, 4, 5, 6, 7, 8, 11] [] Mz (fun v N => 0 ≤ ze N 81 3 ∧ ze N 81 3 ≤ ze N 81 2 ∧ zTv N ∧ (((1 ≤ ze N 81 7 ∧ zmu N = 0) ∨ (ze N 81 7 = 0 ∧ ze Mz 81 7 = 0 ∧ zmu N < zmu Mz ∧ a0_ ≤ v ∧ v ≤ a1_)))))
                  refine zr_if_eq (pc := 53) (tgt := 60) ⟨by omega, by omega⟩ (by decide) d_M_number_53 (fun hc_53 => ?_) (fun hc_53 => ?_)
                  · skip
                    refine zw_iload_n (pc := 60) (n := 3) (x := Int32.ofInt (ze Mz 81 6)) rfl d_M_number_60 ?_
                    have hz0 := zmu_s N11_
                    exact zr_iret (pc := 61) (ty := .int) rfl rfl ⟨by omega, by omega⟩ hf_N11_ ⟨(show 0 ≤ ze N11_ 81 3 by omega), (show ze N11_ 81 3 ≤ ze N11_ 81 2 by omega), c13_, (show ((1 ≤ ze N11_ 81 7 ∧ zmu N11_ = 0) ∨ (ze N11_ 81 7 = 0 ∧ ze Mz 81 7 = 0 ∧ zmu N11_ < zmu Mz ∧ a0_ ≤ (ze Mz 81 6) ∧ (ze Mz 81 6) ≤ a1_)) from Or.inl (⟨(show 1 ≤ ze N11_ 81 7 by omega), (show zmu N11_ = 0 by omega)⟩))⟩ d_M_number_61
                  · skip
                    exact absurd hc_53 (by decide)
        · skip
          exfalso; omega
      · skip
        refine zw_aload_n (pc := 15) (n := 0) (x := 81) rfl d_M_number_15 ?_
        refine zw_iconst (pc := 16) (v := Int32.ofInt 2) (by decide) d_M_number_16 ?_
        refine zr_callV (hf.w hW) hf.x (pc := 17) [.int (Int32.ofInt 2)] [] l_M_190 (c_M_wrong l Mz (hf.w hW) 2 (by omega) (by omega) (show ze Mz 81 7 = 0 by omega) (show 1 ≤ 2 by omega)) rfl rfl rfl (by decide) (Nat.le_of_ble_eq_true rfl) d_M_number_17 ?_
        rintro _ N18_ ⟨rfl, hsN18_, ⟨hp0_N18_, hp1_N18_⟩⟩
        have hf_N18_ : zFr [3, 4, 5, 6, 7, 8, 11] [] Mz N18_ := hf.tr hsN18_ (by decide) (by decide)
        have e2_N18_ : ze N18_ 81 2 = ze Mz 81 2 := hsN18_.e (by decide)
        have e3_N18_ : ze N18_ 81 3 = ze Mz 81 3 := hsN18_.e (by decide)
        have e5_N18_ : ze N18_ 81 5 = ze Mz 81 5 := hsN18_.e (by decide)
        have e6_N18_ : ze N18_ 81 6 = ze Mz 81 6 := hsN18_.e (by decide)
        have r7_N18_ := ze_r N18_ 81 7
        have c20_ : zTv N18_ := zTv.fr hsN18_ p3_ (by decide) (by decide)
        show zW l m_M_number (zn Mz + 0, zw Mz + 0) N18_ 20 [some (.ref 81), some (.int (Int32.ofInt a0_)), some (.int (Int32.ofInt a1_)), none] [] (zpI [3, 4, 5, 6, 7, 8, 11] [] Mz (fun v N => 0 ≤ ze N 81 3 ∧ ze N 81 3 ≤ ze N 81 2 ∧ zTv N ∧ (((1 ≤ ze N 81 7 ∧ zmu N = 0) ∨ (ze N 81 7 = 0 ∧ ze Mz 81 7 = 0 ∧ zmu N < zmu Mz ∧ a0_ ≤ v ∧ v ≤ a1_)))))
        refine zw_aload_n (pc := 20) (n := 0) (x := 81) rfl d_M_number_20 ?_
        refine zr_getI (hf_N18_.w hW) (pc := 21) f_M_152 rfl d_M_number_21 ?_
        refine zw_istore_n (pc := 24) (i := 3) (L2 := [some (.ref 81), some (.int (Int32.ofInt a0_)), some (.int (Int32.ofInt a1_)), some (.int (Int32.ofInt (ze N18_ 81 6)))]) rfl (by decide) rfl d_M_number_24 ?_
        refine zw_aload_n (pc := 25) (n := 0) (x := 81) rfl d_M_number_25 ?_
        refine zr_callV (hf_N18_.w hW) hf_N18_.x (pc := 26) [] [] l_M_183 (c_M_isGood l N18_ (hf_N18_.w hW) ) rfl rfl rfl (by decide) (Nat.le_of_ble_eq_true rfl) d_M_number_26 ?_
        rintro _ N21_ ⟨v22_, rfl, ⟨hv22_a, hv22_b⟩, hsN21_, hp0_N21_⟩
        obtain rfl := hsN21_.eq.symm
        replace hp0_N21_ : ((v22_ = 1 ∧ ze N18_ 81 7 = 0) ∨ (v22_ = 0 ∧ ze N18_ 81 7 ≠ 0)) := hp0_N21_
        rcases hp0_N21_ with ⟨rfl, ha26_0_hp0_N21_⟩ | ⟨rfl, ha26_0_hp0_N21_⟩
        · skip
          show zW l m_M_number (zn Mz + 0, zw Mz + 0) N18_ 29 [some (.ref 81), some (.int (Int32.ofInt a0_)), some (.int (Int32.ofInt a1_)), some (.int (Int32.ofInt (ze N18_ 81 6)))] [.int (Int32.ofInt 1)] (zpI [3, 4, 5, 6, 7, 8, 11] [] Mz (fun v N => 0 ≤ ze N 81 3 ∧ ze N 81 3 ≤ ze N 81 2 ∧ zTv N ∧ (((1 ≤ ze N 81 7 ∧ zmu N = 0) ∨ (ze N 81 7 = 0 ∧ ze Mz 81 7 = 0 ∧ zmu N < zmu Mz ∧ a0_ ≤ v ∧ v ≤ a1_)))))
          refine zr_if_eq (pc := 29) (tgt := 49) ⟨by omega, by omega⟩ (by decide) d_M_number_29 (fun hc_29 => ?_) (fun hc_29 => ?_)
          · skip
            exact absurd hc_29 (by decide)
          · skip
            refine zw_iload_n (pc := 32) (n := 3) (x := Int32.ofInt (ze N18_ 81 6)) rfl d_M_number_32 ?_
            refine zr_i2l (pc := 33) ⟨by omega, by omega⟩ d_M_number_33 ?_
            refine zw_iload_n (pc := 34) (n := 1) (x := Int32.ofInt a0_) rfl d_M_number_34 ?_
            refine zr_i2l (pc := 35) ⟨by omega, by omega⟩ d_M_number_35 ?_
            refine zw_iload_n (pc := 36) (n := 2) (x := Int32.ofInt a1_) rfl d_M_number_36 ?_
            refine zr_i2l (pc := 37) ⟨by omega, by omega⟩ d_M_number_37 ?_
            refine zr_callS hf_N18_.x (pc := 38) [.long (Int64.ofInt (ze N18_ 81 6)), .long (Int64.ofInt a0_), .long (Int64.ofInt a1_)] [] l_M_131 (c_M_isIn l N18_ (hf_N18_.w hW) (ze N18_ 81 6) (by omega) (by omega) a0_ (by omega) (by omega) a1_ (by omega) (by omega)) rfl rfl (by decide) (Nat.le_of_ble_eq_true rfl) d_M_number_38 ?_
            rintro _ N23_ ⟨v24_, rfl, ⟨hv24_a, hv24_b⟩, hsN23_, hp0_N23_⟩
            obtain rfl := hsN23_.eq.symm
            replace hp0_N23_ : ((v24_ = 1 ∧ a0_ ≤ (ze N18_ 81 6) ∧ (ze N18_ 81 6) ≤ a1_) ∨ (v24_ = 0 ∧ ((ze N18_ 81 6) < a0_ ∨ a1_ < (ze N18_ 81 6)))) := hp0_N23_
            rcases hp0_N23_ with ⟨rfl, ha38_0_hp0_N23_, ha38_1_hp0_N23_⟩ | ⟨rfl, ha38_0_hp0_N23_⟩
            · skip
              show zW l m_M_number (zn Mz + 0, zw Mz + 0) N18_ 41 [some (.ref 81), some (.int (Int32.ofInt a0_)), some (.int (Int32.ofInt a1_)), some (.int (Int32.ofInt (ze N18_ 81 6)))] [.int (Int32.ofInt 1)] (zpI [3, 4, 5, 6, 7, 8, 11] [] Mz (fun v N => 0 ≤ ze N 81 3 ∧ ze N 81 3 ≤ ze N 81 2 ∧ zTv N ∧ (((1 ≤ ze N 81 7 ∧ zmu N = 0) ∨ (ze N 81 7 = 0 ∧ ze Mz 81 7 = 0 ∧ zmu N < zmu Mz ∧ a0_ ≤ v ∧ v ≤ a1_)))))
              refine zr_if_ne (pc := 41) (tgt := 49) ⟨by omega, by omega⟩ (by decide) d_M_number_41 (fun hc_41 => ?_) (fun hc_41 => ?_)
              · skip
                refine zw_aload_n (pc := 49) (n := 0) (x := 81) rfl d_M_number_49 ?_
                refine zr_callV (hf_N18_.w hW) hf_N18_.x (pc := 50) [] [] l_M_183 (c_M_isGood l N18_ (hf_N18_.w hW) ) rfl rfl rfl (by decide) (Nat.le_of_ble_eq_true rfl) d_M_number_50 ?_
                rintro _ N25_ ⟨v26_, rfl, ⟨hv26_a, hv26_b⟩, hsN25_, hp0_N25_⟩
                obtain rfl := hsN25_.eq.symm
                replace hp0_N25_ : ((v26_ = 1 ∧ ze N18_ 81 7 = 0) ∨ (v26_ = 0 ∧ ze N18_ 81 7 ≠ 0)) := hp0_N25_
                rcases hp0_N25_ with ⟨rfl, ha50_0_hp0_N25_⟩ | ⟨rfl, ha50_0_hp0_N25_⟩
                · skip
                  show zW l m_M_number (zn Mz + 0, zw Mz + 0) N18_ 53 [some (.ref 81), some (.int (Int32.ofInt a0_)), some (.int (Int32.ofInt a1_)), some (.int (Int32.ofInt (ze N18_ 81 6)))] [.int (Int32.ofInt 1)] (zpI [3, 4, 5, 6, 7, 8, 11] [] Mz (fun v N => 0 ≤ ze N 81 3 ∧ ze N 81 3 ≤ ze N 81 2 ∧ zTv N ∧ (((1 ≤ ze N 81 7 ∧ zmu N = 0) ∨ (ze N 81 7 = 0 ∧ ze Mz 81 7 = 0 ∧ zmu N < zmu Mz ∧ a0_ ≤ v ∧ v ≤ a1_)))))
                  refine zr_if_eq (pc := 53) (tgt := 60) ⟨by omega, by omega⟩ (by decide) d_M_number_53 (fun hc_53 => ?_) (fun hc_53 => ?_)
                  · skip
                    exact absurd hc_53 (by decide)
                  · skip
                    refine zw_aload_n (pc := 56) (n := 0) (x := 81) rfl d_M_number_56 ?_
                    refine zr_callV (hf_N18_.w hW) hf_N18_.x (pc := 57) [] [] l_M_193 (c_M_goOn l N18_ (hf_N18_.w hW) (show 0 ≤ ze N18_ 81 3 by omega) (show ze N18_ 81 3 ≤ ze N18_ 81 2 by omega) (show ze N18_ 81 2 ≤ 700 by omega) (show ze N18_ 81 5 ≠ 0 by omega) (show ze N18_ 81 7 = 0 by omega)) rfl rfl rfl (by decide) (Nat.le_of_ble_eq_true rfl) d_M_number_57 ?_
                    rintro _ N27_ ⟨rfl, hsN27_, ⟨hp0_N27_, hp1_N27_, hp2_N27_, hp3_N27_, hp4_N27_⟩⟩
                    have hf_N27_ : zFr [3, 4, 5, 6, 7, 8, 11] [] Mz N27_ := hf_N18_.tr hsN27_ (by decide) (by decide)
                    have e2_N27_ : ze N27_ 81 2 = ze N18_ 81 2 := hsN27_.e (by decide)
                    have r3_N27_ := ze_r N27_ 81 3
                    have r5_N27_ := ze_r N27_ 81 5
                    have r6_N27_ := ze_r N27_ 81 6
                    have e7_N27_ : ze N27_ 81 7 = ze N18_ 81 7 := hsN27_.e (by decide)
                    show zW l m_M_number (zn Mz + 0, zw Mz + 0) N27_ 60 [some (.ref 81), some (.int (Int32.ofInt a0_)), some (.int (Int32.ofInt a1_)), some (.int (Int32.ofInt (ze N18_ 81 6)))] [] (zpI [3, 4, 5, 6, 7, 8, 11] [] Mz (fun v N => 0 ≤ ze N 81 3 ∧ ze N 81 3 ≤ ze N 81 2 ∧ zTv N ∧ (((1 ≤ ze N 81 7 ∧ zmu N = 0) ∨ (ze N 81 7 = 0 ∧ ze Mz 81 7 = 0 ∧ zmu N < zmu Mz ∧ a0_ ≤ v ∧ v ≤ a1_)))))
                    refine zw_iload_n (pc := 60) (n := 3) (x := Int32.ofInt (ze N18_ 81 6)) rfl d_M_number_60 ?_
                    have hz0 := zmu_s N27_
                    exact zr_iret (pc := 61) (ty := .int) rfl rfl ⟨by omega, by omega⟩ hf_N27_ ⟨(show 0 ≤ ze N27_ 81 3 by omega), (show ze N27_ 81 3 ≤ ze N27_ 81 2 by omega), hp2_N27_, (show ((1 ≤ ze N27_ 81 7 ∧ zmu N27_ = 0) ∨ (ze N27_ 81 7 = 0 ∧ ze Mz 81 7 = 0 ∧ zmu N27_ < zmu Mz ∧ a0_ ≤ (ze N18_ 81 6) ∧ (ze N18_ 81 6) ≤ a1_)) from Or.inr (⟨(show ze N27_ 81 7 = 0 by omega), (show ze Mz 81 7 = 0 by omega), (show zmu N27_ < zmu Mz by omega), (show a0_ ≤ (ze N18_ 81 6) by omega), (show (ze N18_ 81 6) ≤ a1_ by omega)⟩))⟩ d_M_number_61
                · skip
                  exfalso; omega
              · skip
                exact absurd hc_41 (by decide)
            · skip
              show zW l m_M_number (zn Mz + 0, zw Mz + 0) N18_ 41 [some (.ref 81), some (.int (Int32.ofInt a0_)), some (.int (Int32.ofInt a1_)), some (.int (Int32.ofInt (ze N18_ 81 6)))] [.int (Int32.ofInt 0)] (zpI [3, 4, 5, 6, 7, 8, 11] [] Mz (fun v N => 0 ≤ ze N 81 3 ∧ ze N 81 3 ≤ ze N 81 2 ∧ zTv N ∧ (((1 ≤ ze N 81 7 ∧ zmu N = 0) ∨ (ze N 81 7 = 0 ∧ ze Mz 81 7 = 0 ∧ zmu N < zmu Mz ∧ a0_ ≤ v ∧ v ≤ a1_)))))
              refine zr_if_ne (pc := 41) (tgt := 49) ⟨by omega, by omega⟩ (by decide) d_M_number_41 (fun hc_41 => ?_) (fun hc_41 => ?_)
              · skip
                exact absurd hc_41 (by decide)
              · skip
                refine zw_aload_n (pc := 44) (n := 0) (x := 81) rfl d_M_number_44 ?_
                refine zw_iconst (pc := 45) (v := Int32.ofInt 4) (by decide) d_M_number_45 ?_
                refine zr_callV (hf_N18_.w hW) hf_N18_.x (pc := 46) [.int (Int32.ofInt 4)] [] l_M_190 (c_M_wrong l N18_ (hf_N18_.w hW) 4 (by omega) (by omega) (show ze N18_ 81 7 = 0 by omega) (show 1 ≤ 4 by omega)) rfl rfl rfl (by decide) (Nat.le_of_ble_eq_true rfl) d_M_number_46 ?_
                rintro _ N29_ ⟨rfl, hsN29_, ⟨hp0_N29_, hp1_N29_⟩⟩
                have hf_N29_ : zFr [3, 4, 5, 6, 7, 8, 11] [] Mz N29_ := hf_N18_.tr hsN29_ (by decide) (by decide)
                have e2_N29_ : ze N29_ 81 2 = ze N18_ 81 2 := hsN29_.e (by decide)
                have e3_N29_ : ze N29_ 81 3 = ze N18_ 81 3 := hsN29_.e (by decide)
                have e5_N29_ : ze N29_ 81 5 = ze N18_ 81 5 := hsN29_.e (by decide)
                have e6_N29_ : ze N29_ 81 6 = ze N18_ 81 6 := hsN29_.e (by decide)
                have r7_N29_ := ze_r N29_ 81 7
                have c31_ : zTv N29_ := zTv.fr hsN29_ c20_ (by decide) (by decide)
                show zW l m_M_number (zn Mz + 0, zw Mz + 0) N29_ 49 [some (.ref 81), some (.int (Int32.ofInt a0_)), some (.int (Int32.ofInt a1_)), some (.int (Int32.ofInt (ze N18_ 81 6)))] [] (zpI [3, 4, 5, 6, 7, 8, 11] [] Mz (fun v N => 0 ≤ ze N 81 3 ∧ ze N 81 3 ≤ ze N 81 2 ∧ zTv N ∧ (((1 ≤ ze N 81 7 ∧ zmu N = 0) ∨ (ze N 81 7 = 0 ∧ ze Mz 81 7 = 0 ∧ zmu N < zmu Mz ∧ a0_ ≤ v ∧ v ≤ a1_)))))
                refine zw_aload_n (pc := 49) (n := 0) (x := 81) rfl d_M_number_49 ?_
                refine zr_callV (hf_N29_.w hW) hf_N29_.x (pc := 50) [] [] l_M_183 (c_M_isGood l N29_ (hf_N29_.w hW) ) rfl rfl rfl (by decide) (Nat.le_of_ble_eq_true rfl) d_M_number_50 ?_
                rintro _ N32_ ⟨v33_, rfl, ⟨hv33_a, hv33_b⟩, hsN32_, hp0_N32_⟩
                obtain rfl := hsN32_.eq.symm
                replace hp0_N32_ : ((v33_ = 1 ∧ ze N29_ 81 7 = 0) ∨ (v33_ = 0 ∧ ze N29_ 81 7 ≠ 0)) := hp0_N32_
                rcases hp0_N32_ with ⟨rfl, ha50_0_hp0_N32_⟩ | ⟨rfl, ha50_0_hp0_N32_⟩
                · skip
                  show zW l m_M_number (zn Mz + 0, zw Mz + 0) N29_ 53 [some (.ref 81), some (.int (Int32.ofInt a0_)), some (.int (Int32.ofInt a1_)), some (.int (Int32.ofInt (ze N18_ 81 6)))] [.int (Int32.ofInt 1)] (zpI [3, 4, 5, 6, 7, 8, 11] [] Mz (fun v N => 0 ≤ ze N 81 3 ∧ ze N 81 3 ≤ ze N 81 2 ∧ zTv N ∧ (((1 ≤ ze N 81 7 ∧ zmu N = 0) ∨ (ze N 81 7 = 0 ∧ ze Mz 81 7 = 0 ∧ zmu N < zmu Mz ∧ a0_ ≤ v ∧ v ≤ a1_)))))
                  refine zr_if_eq (pc := 53) (tgt := 60) ⟨by omega, by omega⟩ (by decide) d_M_number_53 (fun hc_53 => ?_) (fun hc_53 => ?_)
                  · skip
                    exact absurd hc_53 (by decide)
                  · skip
                    refine zw_aload_n (pc := 56) (n := 0) (x := 81) rfl d_M_number_56 ?_
                    refine zr_callV (hf_N29_.w hW) hf_N29_.x (pc := 57) [] [] l_M_193 (c_M_goOn l N29_ (hf_N29_.w hW) (show 0 ≤ ze N29_ 81 3 by omega) (show ze N29_ 81 3 ≤ ze N29_ 81 2 by omega) (show ze N29_ 81 2 ≤ 700 by omega) (show ze N29_ 81 5 ≠ 0 by omega) (show ze N29_ 81 7 = 0 by omega)) rfl rfl rfl (by decide) (Nat.le_of_ble_eq_true rfl) d_M_number_57 ?_
                    rintro _ N34_ ⟨rfl, hsN34_, ⟨hp0_N34_, hp1_N34_, hp2_N34_, hp3_N34_, hp4_N34_⟩⟩
                    have hf_N34_ : zFr [3, 4, 5, 6, 7, 8, 11] [] Mz N34_ := hf_N29_.tr hsN34_ (by decide) (by decide)
                    have e2_N34_ : ze N34_ 81 2 = ze N29_ 81 2 := hsN34_.e (by decide)
                    have r3_N34_ := ze_r N34_ 81 3
                    have r5_N34_ := ze_r N34_ 81 5
                    have r6_N34_ := ze_r N34_ 81 6
                    have e7_N34_ : ze N34_ 81 7 = ze N29_ 81 7 := hsN34_.e (by decide)
                    show zW l m_M_number (zn Mz + 0, zw Mz + 0) N34_ 60 [some (.ref 81), some (.int (Int32.ofInt a0_)), some (.int (Int32.ofInt a1_)), some (.int (Int32.ofInt (ze N18_ 81 6)))] [] (zpI [3, 4, 5, 6, 7, 8, 11] [] Mz (fun v N => 0 ≤ ze N 81 3 ∧ ze N 81 3 ≤ ze N 81 2 ∧ zTv N ∧ (((1 ≤ ze N 81 7 ∧ zmu N = 0) ∨ (ze N 81 7 = 0 ∧ ze Mz 81 7 = 0 ∧ zmu N < zmu Mz ∧ a0_ ≤ v ∧ v ≤ a1_)))))
                    refine zw_iload_n (pc := 60) (n := 3) (x := Int32.ofInt (ze N18_ 81 6)) rfl d_M_number_60 ?_
                    have hz0 := zmu_s N34_
                    exact zr_iret (pc := 61) (ty := .int) rfl rfl ⟨by omega, by omega⟩ hf_N34_ ⟨(show 0 ≤ ze N34_ 81 3 by omega), (show ze N34_ 81 3 ≤ ze N34_ 81 2 by omega), hp2_N34_, (show ((1 ≤ ze N34_ 81 7 ∧ zmu N34_ = 0) ∨ (ze N34_ 81 7 = 0 ∧ ze Mz 81 7 = 0 ∧ zmu N34_ < zmu Mz ∧ a0_ ≤ (ze N18_ 81 6) ∧ (ze N18_ 81 6) ≤ a1_)) from Or.inr (⟨(show ze N34_ 81 7 = 0 by omega), (show ze Mz 81 7 = 0 by omega), (show zmu N34_ < zmu Mz by omega), (show a0_ ≤ (ze N18_ 81 6) by omega), (show (ze N18_ 81 6) ≤ a1_ by omega)⟩))⟩ d_M_number_61
                · skip
                  show zW l m_M_number (zn Mz + 0, zw Mz + 0) N29_ 53 [some (.ref 81), some (.int (Int32.ofInt a0_)), some (.int (Int32.ofInt a1_)), some (.int (Int32.ofInt (ze N18_ 81 6)))] [.int (Int32.ofInt 0)] (zpI [3, 4, 5, 6, 7, 8, 11] [] Mz (fun v N => 0 ≤ ze N 81 3 ∧ ze N 81 3 ≤ ze N 81 2 ∧ zTv N ∧ (((1 ≤ ze N 81 7 ∧ zmu N = 0) ∨ (ze N 81 7 = 0 ∧ ze Mz 81 7 = 0 ∧ zmu N < zmu Mz ∧ a0_ ≤ v ∧ v ≤ a1_)))))
                  refine zr_if_eq (pc := 53) (tgt := 60) ⟨by omega, by omega⟩ (by decide) d_M_number_53 (fun hc_53 => ?_) (fun hc_53 => ?_)
                  · skip
                    refine zw_iload_n (pc := 60) (n := 3) (x := Int32.ofInt (ze N18_ 81 6)) rfl d_M_number_60 ?_
                    have hz0 := zmu_s N29_
                    exact zr_iret (pc := 61) (ty := .int) rfl rfl ⟨by omega, by omega⟩ hf_N29_ ⟨(show 0 ≤ ze N29_ 81 3 by omega), (show ze N29_ 81 3 ≤ ze N29_ 81 2 by omega), c31_, (show ((1 ≤ ze N29_ 81 7 ∧ zmu N29_ = 0) ∨ (ze N29_ 81 7 = 0 ∧ ze Mz 81 7 = 0 ∧ zmu N29_ < zmu Mz ∧ a0_ ≤ (ze N18_ 81 6) ∧ (ze N18_ 81 6) ≤ a1_)) from Or.inl (⟨(show 1 ≤ ze N29_ 81 7 by omega), (show zmu N29_ = 0 by omega)⟩))⟩ d_M_number_61
                  · skip
                    exact absurd hc_53 (by decide)
        · skip
          show zW l m_M_number (zn Mz + 0, zw Mz + 0) N18_ 29 [some (.ref 81), some (.int (Int32.ofInt a0_)), some (.int (Int32.ofInt a1_)), some (.int (Int32.ofInt (ze N18_ 81 6)))] [.int (Int32.ofInt 0)] (zpI [3, 4, 5, 6, 7, 8, 11] [] Mz (fun v N => 0 ≤ ze N 81 3 ∧ ze N 81 3 ≤ ze N 81 2 ∧ zTv N ∧ (((1 ≤ ze N 81 7 ∧ zmu N = 0) ∨ (ze N 81 7 = 0 ∧ ze Mz 81 7 = 0 ∧ zmu N < zmu Mz ∧ a0_ ≤ v ∧ v ≤ a1_)))))
          refine zr_if_eq (pc := 29) (tgt := 49) ⟨by omega, by omega⟩ (by decide) d_M_number_29 (fun hc_29 => ?_) (fun hc_29 => ?_)
          · skip
            refine zw_aload_n (pc := 49) (n := 0) (x := 81) rfl d_M_number_49 ?_
            refine zr_callV (hf_N18_.w hW) hf_N18_.x (pc := 50) [] [] l_M_183 (c_M_isGood l N18_ (hf_N18_.w hW) ) rfl rfl rfl (by decide) (Nat.le_of_ble_eq_true rfl) d_M_number_50 ?_
            rintro _ N36_ ⟨v37_, rfl, ⟨hv37_a, hv37_b⟩, hsN36_, hp0_N36_⟩
            obtain rfl := hsN36_.eq.symm
            replace hp0_N36_ : ((v37_ = 1 ∧ ze N18_ 81 7 = 0) ∨ (v37_ = 0 ∧ ze N18_ 81 7 ≠ 0)) := hp0_N36_
            rcases hp0_N36_ with ⟨rfl, ha50_0_hp0_N36_⟩ | ⟨rfl, ha50_0_hp0_N36_⟩
            · skip
              exfalso; omega
            · skip
              show zW l m_M_number (zn Mz + 0, zw Mz + 0) N18_ 53 [some (.ref 81), some (.int (Int32.ofInt a0_)), some (.int (Int32.ofInt a1_)), some (.int (Int32.ofInt (ze N18_ 81 6)))] [.int (Int32.ofInt 0)] (zpI [3, 4, 5, 6, 7, 8, 11] [] Mz (fun v N => 0 ≤ ze N 81 3 ∧ ze N 81 3 ≤ ze N 81 2 ∧ zTv N ∧ (((1 ≤ ze N 81 7 ∧ zmu N = 0) ∨ (ze N 81 7 = 0 ∧ ze Mz 81 7 = 0 ∧ zmu N < zmu Mz ∧ a0_ ≤ v ∧ v ≤ a1_)))))
              refine zr_if_eq (pc := 53) (tgt := 60) ⟨by omega, by omega⟩ (by decide) d_M_number_53 (fun hc_53 => ?_) (fun hc_53 => ?_)
              · skip
                refine zw_iload_n (pc := 60) (n := 3) (x := Int32.ofInt (ze N18_ 81 6)) rfl d_M_number_60 ?_
                have hz0 := zmu_s N18_
                exact zr_iret (pc := 61) (ty := .int) rfl rfl ⟨by omega, by omega⟩ hf_N18_ ⟨(show 0 ≤ ze N18_ 81 3 by omega), (show ze N18_ 81 3 ≤ ze N18_ 81 2 by omega), c20_, (show ((1 ≤ ze N18_ 81 7 ∧ zmu N18_ = 0) ∨ (ze N18_ 81 7 = 0 ∧ ze Mz 81 7 = 0 ∧ zmu N18_ < zmu Mz ∧ a0_ ≤ (ze N18_ 81 6) ∧ (ze N18_ 81 6) ≤ a1_)) from Or.inl (⟨(show 1 ≤ ze N18_ 81 7 by omega), (show zmu N18_ = 0 by omega)⟩))⟩ d_M_number_61
              · skip
                exact absurd hc_53 (by decide)
          · skip
            exact absurd hc_29 (by decide)
  · skip
    show zW l m_M_number (zn Mz + 0, zw Mz + 0) Mz 4 [some (.ref 81), some (.int (Int32.ofInt a0_)), some (.int (Int32.ofInt a1_)), none] [.int (Int32.ofInt 0)] (zpI [3, 4, 5, 6, 7, 8, 11] [] Mz (fun v N => 0 ≤ ze N 81 3 ∧ ze N 81 3 ≤ ze N 81 2 ∧ zTv N ∧ (((1 ≤ ze N 81 7 ∧ zmu N = 0) ∨ (ze N 81 7 = 0 ∧ ze Mz 81 7 = 0 ∧ zmu N < zmu Mz ∧ a0_ ≤ v ∧ v ≤ a1_)))))
    refine zr_if_eq (pc := 4) (tgt := 20) ⟨by omega, by omega⟩ (by decide) d_M_number_4 (fun hc_4 => ?_) (fun hc_4 => ?_)
    · skip
      refine zw_aload_n (pc := 20) (n := 0) (x := 81) rfl d_M_number_20 ?_
      refine zr_getI (hf.w hW) (pc := 21) f_M_152 rfl d_M_number_21 ?_
      refine zw_istore_n (pc := 24) (i := 3) (L2 := [some (.ref 81), some (.int (Int32.ofInt a0_)), some (.int (Int32.ofInt a1_)), some (.int (Int32.ofInt (ze Mz 81 6)))]) rfl (by decide) rfl d_M_number_24 ?_
      refine zw_aload_n (pc := 25) (n := 0) (x := 81) rfl d_M_number_25 ?_
      refine zr_callV (hf.w hW) hf.x (pc := 26) [] [] l_M_183 (c_M_isGood l Mz (hf.w hW) ) rfl rfl rfl (by decide) (Nat.le_of_ble_eq_true rfl) d_M_number_26 ?_
      rintro _ N38_ ⟨v39_, rfl, ⟨hv39_a, hv39_b⟩, hsN38_, hp0_N38_⟩
      obtain rfl := hsN38_.eq.symm
      replace hp0_N38_ : ((v39_ = 1 ∧ ze Mz 81 7 = 0) ∨ (v39_ = 0 ∧ ze Mz 81 7 ≠ 0)) := hp0_N38_
      rcases hp0_N38_ with ⟨rfl, ha26_0_hp0_N38_⟩ | ⟨rfl, ha26_0_hp0_N38_⟩
      · skip
        exfalso; omega
      · skip
        show zW l m_M_number (zn Mz + 0, zw Mz + 0) Mz 29 [some (.ref 81), some (.int (Int32.ofInt a0_)), some (.int (Int32.ofInt a1_)), some (.int (Int32.ofInt (ze Mz 81 6)))] [.int (Int32.ofInt 0)] (zpI [3, 4, 5, 6, 7, 8, 11] [] Mz (fun v N => 0 ≤ ze N 81 3 ∧ ze N 81 3 ≤ ze N 81 2 ∧ zTv N ∧ (((1 ≤ ze N 81 7 ∧ zmu N = 0) ∨ (ze N 81 7 = 0 ∧ ze Mz 81 7 = 0 ∧ zmu N < zmu Mz ∧ a0_ ≤ v ∧ v ≤ a1_)))))
        refine zr_if_eq (pc := 29) (tgt := 49) ⟨by omega, by omega⟩ (by decide) d_M_number_29 (fun hc_29 => ?_) (fun hc_29 => ?_)
        · skip
          refine zw_aload_n (pc := 49) (n := 0) (x := 81) rfl d_M_number_49 ?_
          refine zr_callV (hf.w hW) hf.x (pc := 50) [] [] l_M_183 (c_M_isGood l Mz (hf.w hW) ) rfl rfl rfl (by decide) (Nat.le_of_ble_eq_true rfl) d_M_number_50 ?_
          rintro _ N40_ ⟨v41_, rfl, ⟨hv41_a, hv41_b⟩, hsN40_, hp0_N40_⟩
          obtain rfl := hsN40_.eq.symm
          replace hp0_N40_ : ((v41_ = 1 ∧ ze Mz 81 7 = 0) ∨ (v41_ = 0 ∧ ze Mz 81 7 ≠ 0)) := hp0_N40_
          rcases hp0_N40_ with ⟨rfl, ha50_0_hp0_N40_⟩ | ⟨rfl, ha50_0_hp0_N40_⟩
          · skip
            exfalso; omega
          · skip
            show zW l m_M_number (zn Mz + 0, zw Mz + 0) Mz 53 [some (.ref 81), some (.int (Int32.ofInt a0_)), some (.int (Int32.ofInt a1_)), some (.int (Int32.ofInt (ze Mz 81 6)))] [.int (Int32.ofInt 0)] (zpI [3, 4, 5, 6, 7, 8, 11] [] Mz (fun v N => 0 ≤ ze N 81 3 ∧ ze N 81 3 ≤ ze N 81 2 ∧ zTv N ∧ (((1 ≤ ze N 81 7 ∧ zmu N = 0) ∨ (ze N 81 7 = 0 ∧ ze Mz 81 7 = 0 ∧ zmu N < zmu Mz ∧ a0_ ≤ v ∧ v ≤ a1_)))))
            refine zr_if_eq (pc := 53) (tgt := 60) ⟨by omega, by omega⟩ (by decide) d_M_number_53 (fun hc_53 => ?_) (fun hc_53 => ?_)
            · skip
              refine zw_iload_n (pc := 60) (n := 3) (x := Int32.ofInt (ze Mz 81 6)) rfl d_M_number_60 ?_
              have hz0 := zmu_s Mz
              exact zr_iret (pc := 61) (ty := .int) rfl rfl ⟨by omega, by omega⟩ hf ⟨(show 0 ≤ ze Mz 81 3 by omega), (show ze Mz 81 3 ≤ ze Mz 81 2 by omega), p3_, (show ((1 ≤ ze Mz 81 7 ∧ zmu Mz = 0) ∨ (ze Mz 81 7 = 0 ∧ ze Mz 81 7 = 0 ∧ zmu Mz < zmu Mz ∧ a0_ ≤ (ze Mz 81 6) ∧ (ze Mz 81 6) ≤ a1_)) from Or.inl (⟨(show 1 ≤ ze Mz 81 7 by omega), (show zmu Mz = 0 by omega)⟩))⟩ d_M_number_61
            · skip
              exact absurd hc_53 (by decide)
        · skip
          exact absurd hc_29 (by decide)
    · skip
      exact absurd hc_4 (by decide)
