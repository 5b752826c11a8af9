theorem zush_neg {a : Int} {k : Nat} (ha : zn32 a) (hk : k ≤ 24) (g : a < 0) : zush a k ≠ 0 := by
  intro h
  unfold zush at h
  have h1 : ((Int32.ofInt a : Int32).toUInt32 >>> ((Int32.ofInt (k : Int) : Int32).toUInt32 &&& Int32.toUInt32 31)).toInt32 = 0 := Int32.toInt_inj.mp (by rw [h]; rfl)
  have h2 := congrArg Int32.toUInt32 h1
  rw [UInt32.toUInt32_toInt32] at h2
  have h3 := congrArg UInt32.toNat h2
  rw [UInt32.toNat_shiftRight, zush_k ⟨k, by omega⟩, Nat.shiftRight_eq_div_pow] at h3
  have e : (Int32.ofInt a : Int32).toUInt32.toNat = (a + 4294967296).toNat := by
    show (BitVec.ofInt 32 a).toNat = _
    rw [BitVec.toNat_ofInt]
    have := ha.1
    omega
  have hp : 2 ^ k ≤ 2 ^ 24 := Nat.pow_le_pow_right (by omega) hk
  have h0 := ha.1
  have hz : (Int32.ofInt a : Int32).toUInt32.toNat / 2 ^ k = 0 := h3
  rw [Nat.div_eq_zero_iff] at hz
  rcases hz with hz | hz
  · exact absurd hz (Nat.ne_of_gt (Nat.two_pow_pos k))
  · rw [e] at hz
    omega
theorem zush_0 {a : Int} {k : Nat} (ha : zn32 a) (hk : k ≤ 24) : zush a k = 0 ↔ 0 ≤ a ∧ a.toNat < 2 ^ k := by
  by_cases g : 0 ≤ a
  · have h := zush_n a.toNat k (by have := ha.2; omega) (by omega)
    rw [Int.toNat_of_nonneg g] at h
    rw [h, Nat.shiftRight_eq_div_pow]
    constructor
    · intro h2
      refine ⟨g, ?_⟩
      have h3 : a.toNat / 2 ^ k = 0 := by omega
      rcases Nat.div_eq_zero_iff.mp h3 with q | q
      · exact absurd q (Nat.ne_of_gt (Nat.two_pow_pos k))
      · exact q
    · intro h2
      rw [Nat.div_eq_of_lt h2.2]
      rfl
  · exact ⟨fun h => absurd h (zush_neg ha hk (by omega)), fun h => absurd h.1 g⟩
theorem zush_r (a b : Int) : -2147483648 ≤ zush a b ∧ zush a b < 2147483648 := z32r _
set_option maxHeartbeats 4000000 in
theorem u_Group_hasMembersG (l : Launch) (d_ : Nat) (Mz : zMem) (hW : zKW d_ Mz) (a0_ : Int) (ha0_a : -2147483648 ≤ a0_) (ha0_b : a0_ < 2147483648) (T_ : zGT) (hT_ : T_ ∈ gTabs) (p0_ : zTt T_ d_ Mz) : zC l m_Group_hasMembers 0 0 [.ref (d_ + 1), .int (Int32.ofInt a0_)] Mz (zqcI d_ [] [] [] [] Mz (fun v N => (((v = 1 ∧ gIn T_ a0_) ∨ (v = 0 ∧ ¬ gIn T_ a0_))))) := by
  refine zC_of (L0 := [some (.ref (d_ + 1)), some (.int (Int32.ofInt a0_))]) md_Group_hasMembers (Nat.le_of_ble_eq_true rfl) rfl ?_ zQ0
  have hf : zFc d_ [] [] [] [] Mz Mz := zFc.rf
  have r_D1_7 := ze_r Mz (d_ + 1) 7
  have hsz_ := p0_.1
  have hO_ := gTabs_ok T_ hT_
  have g24_ := hO_.1.2.1
  refine zw_iload_n (pc := 0) (n := 1) (x := Int32.ofInt a0_) rfl (zdal_p dlB_Group_hasMembers_11 (i := 0) rfl) ?_
  refine zw_aload_n (pc := 1) (n := 0) (x := (d_ + 1)) rfl (zdal_p dlB_Group_hasMembers_11 (i := 1) rfl) ?_
  refine zk_getI (pc := 2) f_Group_39 rfl ((hf.w hW).kr (o := 1) (by decide)) (zdal_p dlB_Group_hasMembers_11 (i := 2) rfl) ?_
  refine zr_iushr (pc := 5) (zdal_p dlB_Group_hasMembers_11 (i := 3) rfl) ?_
  have hz_ := zush_0 (a := a0_) (k := gN T_) ⟨ha0_a, ha0_b⟩ g24_
  rw [← hsz_] at hz_
  have hzr_ := zush_r a0_ (ze Mz (d_ + 1) 7)
  refine zr_if_ne (pc := 6) (tgt := 13) ⟨(by omega), (by omega)⟩ (by decide) (zdal_p dlB_Group_hasMembers_11 (i := 4) rfl) (fun hc_6 => ?_) (fun hc_6 => ?_)
  · skip
    refine zw_iconst (pc := 13) (v := Int32.ofInt 0) (by decide) (zdal_p dlB_Group_hasMembers_11 (i := 7) rfl) ?_
    exact zk_iret (pc := 14) (ty := .boolean) rfl (z_narB (by omega)) ⟨by omega, by omega⟩ hf (show ((0 = 1 ∧ gIn T_ a0_) ∨ (0 = 0 ∧ ¬ gIn T_ a0_)) from Or.inr (⟨(show 0 = 0 by first | rfl | exact fun q_ => absurd (hz_.mpr q_) (by assumption)), (show ¬ gIn T_ a0_ by first | rfl | exact fun q_ => absurd (hz_.mpr q_) (by assumption))⟩)) (zdal_p dlB_Group_hasMembers_11 (i := 8) rfl)
  · skip
    refine zw_iconst (pc := 9) (v := Int32.ofInt 1) (by decide) (zdal_p dlB_Group_hasMembers_11 (i := 5) rfl) ?_
    refine zw_goto (pc := 10) (tgt := 14) (by decide) (zdal_p dlB_Group_hasMembers_11 (i := 6) rfl) ?_
    exact zk_iret (pc := 14) (ty := .boolean) rfl (z_narB (by omega)) ⟨by omega, by omega⟩ hf (show ((1 = 1 ∧ gIn T_ a0_) ∨ (1 = 0 ∧ ¬ gIn T_ a0_)) from Or.inl (⟨(show 1 = 1 by first | rfl | exact hz_.mp (by assumption)), (show gIn T_ a0_ by first | rfl | exact hz_.mp (by assumption))⟩)) (zdal_p dlB_Group_hasMembers_11 (i := 8) rfl)
