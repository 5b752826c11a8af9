theorem zush_neg {a : Int} {k : Nat} (ha : zn32 a) (hk : k ≤ 24) (g : a < 0) : zush a k ≠ 0 := by
  intro h
  unfold zush at h
  have h1 : ((Int32.ofInt a : Int32).toUInt32 >>> ((Int32.ofInt (k : Int) : Int32).toUInt32 &&& Int32.toUInt32 31)).toInt32 = 0 := Int32.toInt_inj.mp (by rw [h]; rfl)
  have h2 := congrArg Int32.toUInt32 h1
  rw [UInt32.toUInt32_toInt32] at h2
  have h3 := congrArg UInt32.toNat h2
  rw [UInt32.toNat_shiftRight, zush_k ⟨k, by omega⟩, Nat.shiftRight_eq_div_pow] at h3
  have e : (Int32.ofInt a : Int32).toUInt32.toNat = (a + 4294967296).toNat := by
    show (BitVec.ofInt 32 a).toNat = _
    rw [BitVec.toNat_ofInt]
    have := ha.1
    omega
  have hp : 2 ^ k ≤ 2 ^ 24 := Nat.pow_le_pow_right (by omega) hk
  have h0 := ha.1
  have hz : (Int32.ofInt a : Int32).toUInt32.toNat / 2 ^ k = 0 := h3
  rw [Nat.div_eq_zero_iff] at hz
  rcases hz with hz | hz
  · exact absurd hz (Nat.ne_of_gt (Nat.two_pow_pos k))
  · rw [e] at hz
    omega
theorem zush_0 {a : Int} {k : Nat} (ha : zn32 a) (hk : k ≤ 24) : zush a k = 0 ↔ 0 ≤ a ∧ a.toNat < 2 ^ k := by
  by_cases g : 0 ≤ a
  · have h := zush_n a.toNat k (by have := ha.2; omega) (by omega)
    rw [Int.toNat_of_nonneg g] at h
    rw [h, Nat.shiftRight_eq_div_pow]
    constructor
    · intro h2
      refine ⟨g, ?_⟩
      have h3 : a.toNat / 2 ^ k = 0 := by omega
      rcases Nat.div_eq_zero_iff.mp h3 with q | q
      · exact absurd q (Nat.ne_of_gt (Nat.two_pow_pos k))
      · exact q
    · intro h2
      rw [Nat.div_eq_of_lt h2.2]
      rfl
  · exact ⟨fun h => absurd h (zush_neg ha hk (by omega)), fun h => absurd h.1 g⟩
theorem zush_r (a b : Int) : -2147483648 ≤ zush a b ∧ zush a b < 2147483648 := z32r _
set_option maxHeartbeats 4000000 in
theorem u_Group_hasMembersG (l : Launch) (d_ : Nat) (Mz : zMem) (hW : zKW d_ Mz) (a0_ : Int) (ha0_a : -2147483648 ≤ a0_) (ha0_b : a0_ < 2147483648) (T_ : zGT) (hT_ : T_ ∈ gTabs) (p0_ : zTt T_ d_ Mz) : zC l m_Group_hasMembers 0 0 [.ref (d_ + 1), .int (Int32.ofInt a0_)] Mz (zqcI d_ [] [] [] [] Mz (fun v N => (((v = 1 ∧ gIn T_ a0_) ∨ (v = 0 ∧ ¬ gIn T_ a0_))))) := by
  refine zC_of (L0 := [some (.ref (d_ + 1)), some (.int (Int32.ofInt a0_))]) md_Group_hasMembers (Nat.le_of_ble_eq_true rfl) rfl ?_ zQ0
  have hf : zFc d_ [] [] [] [] Mz Mz := zFc.rf
  have r_D1_7 := ze_r Mz (d_ + 1) 7
  have hsz_ := p0_.1
  have hO_ := gTabs_ok T_ hT_
  have g24_ := hO_.1.2.1
  refine zw_iload_n (pc := 0) (n := 1) (x := Int32.ofInt a0_) rfl d_Group_hasMembers_0 ?_
  refine zw_aload_n (pc := 1) (n := 0) (x := (d_ + 1)) rfl d_Group_hasMembers_1 ?_
  refine zk_getI (pc := 2) f_Group_39 rfl ((hf.w hW).kr (o := 1) (by decide)) d_Group_hasMembers_2 ?_
  refine zr_iushr (pc := 5) d_Group_hasMembers_5 ?_
  have hz_ := zush_0 (a := a0_) (k := gN T_) ⟨ha0_a, ha0_b⟩ g24_
  rw [← hsz_] at hz_
  have hzr_ := zush_r a0_ (ze Mz (d_ + 1) 7)
  refine zr_if_ne (pc := 6) (tgt := 13) ⟨(by omega), (by omega)⟩ (by decide) d_Group_hasMembers_6 (fun hc_6 => ?_) (fun hc_6 => ?_)
  · skip
    refine zw_iconst (pc := 13) (v := Int32.ofInt 0) (by decide) d_Group_hasMembers_13 ?_
    exact zk_iret (pc := 14) (ty := .boolean) rfl (z_narB (by omega)) ⟨by omega, by omega⟩ hf (show ((0 = 1 ∧ gIn T_ a0_) ∨ (0 = 0 ∧ ¬ gIn T_ a0_)) from Or.inr (⟨(show 0 = 0 by first | rfl | exact fun q_ => absurd (hz_.mpr q_) (by assumption)), (show ¬ gIn T_ a0_ by first | rfl | exact fun q_ => absurd (hz_.mpr q_) (by assumption))⟩)) d_Group_hasMembers_14
  · skip
    refine zw_iconst (pc := 9) (v := Int32.ofInt 1) (by decide) d_Group_hasMembers_9 ?_
    refine zw_goto (pc := 10) (tgt := 14) (by decide) d_Group_hasMembers_10 ?_
    exact zk_iret (pc := 14) (ty := .boolean) rfl (z_narB (by omega)) ⟨by omega, by omega⟩ hf (show ((1 = 1 ∧ gIn T_ a0_) ∨ (1 = 0 ∧ ¬ gIn T_ a0_)) from Or.inl (⟨(show 1 = 1 by first | rfl | exact hz_.mp (by assumption)), (show gIn T_ a0_ by first | rfl | exact hz_.mp (by assumption))⟩)) d_Group_hasMembers_14
set_option maxHeartbeats 4000000 in
theorem u_T_makesOfG (l : Launch) (d_ : Nat) (Mz : zMem) (hW : zKW d_ Mz) (hnow : zf Mz 0 2 = some (d_ + 0)) (a0_ : Int) (ha0_a : -2147483648 ≤ a0_) (ha0_b : a0_ < 2147483648) (T_ : zGT) (hT_ : T_ ∈ gTabs) (hAs_ : gAs T_) (p0_ : zTt T_ d_ Mz) : zC l m_T_makesOf 0 0 [.ref 0, .int (Int32.ofInt a0_)] Mz (zqcI d_ [] [] [] [11] Mz (fun v N => (((gIn T_ a0_ ∧ gLC T_ (a0_).toNat (v).toNat ∧ 0 ≤ v) ∨ (¬ gIn T_ a0_ ∧ v = (-1 : Int)))))) := by
  refine zC_of (L0 := [some (.ref 0), some (.int (Int32.ofInt a0_))]) md_T_makesOf (Nat.le_of_ble_eq_true rfl) rfl ?_ zQ0
  have hf : zFc d_ [] [] [] [11] Mz Mz := zFc.rf
  refine zw_aload_n (pc := 0) (n := 0) (x := 0) rfl d_T_makesOf_0 ?_
  refine zw_getF (pc := 1) f_T_28 rfl ((hf.w hW).ka (o := 0) (by decide)) (hf.now hnow) d_T_makesOf_1 ?_
  refine zw_getF (pc := 4) f_T_61 rfl ((hf.w hW).kr (o := 0) (by decide)) ((hf.w hW).lr (o := 0) (s := 0) (r := 1) (by decide)) d_T_makesOf_4 ?_
  refine zw_iload_n (pc := 7) (n := 1) (x := Int32.ofInt a0_) rfl d_T_makesOf_7 ?_
  refine zk_callV hf.x (pc := 8) [.int (Int32.ofInt a0_)] [] l_T_134 (u_Group_hasMembersG l d_ Mz (hf.w hW) a0_ ha0_a ha0_b T_ hT_ p0_) rfl rfl ((hf.w hW).kr (o := 1) (by decide)) (by decide) (by decide) (Nat.le_of_ble_eq_true rfl) d_T_makesOf_8 ?_
  rintro _ N1_ ⟨v2_, rfl, ⟨hv2_a, hv2_b⟩, hsN1_, hp0_N1_⟩
  obtain rfl := hsN1_.eq.symm
  replace hp0_N1_ : ((v2_ = 1 ∧ gIn T_ a0_) ∨ (v2_ = 0 ∧ ¬ gIn T_ a0_)) := hp0_N1_
  rcases hp0_N1_ with ⟨rfl, ha8_0_hp0_N1_⟩ | ⟨rfl, ha8_0_hp0_N1_⟩
  · skip
    have hin_ := ha8_0_hp0_N1_
    have hi1_ := hin_.1
    have hi2_ := hin_.2
    show zW l m_T_makesOf (zn Mz + 0, zw Mz + 0) Mz 11 [some (.ref 0), some (.int (Int32.ofInt a0_))] [.int (Int32.ofInt 1)] (zqcI d_ [] [] [] [11] Mz (fun v N => (((gIn T_ a0_ ∧ gLC T_ (a0_).toNat (v).toNat ∧ 0 ≤ v) ∨ (¬ gIn T_ a0_ ∧ v = (-1 : Int))))))
    refine zr_if_eq (pc := 11) (tgt := 28) ⟨(by decide), (by decide)⟩ (by decide) d_T_makesOf_11 (fun hc_11 => ?_) (fun hc_11 => ?_)
    · skip
      exact absurd hc_11 (by decide)
    · skip
      refine zw_aload_n (pc := 14) (n := 0) (x := 0) rfl d_T_makesOf_14 ?_
      refine zw_getF (pc := 15) f_T_28 rfl ((hf.w hW).ka (o := 0) (by decide)) (hf.now hnow) d_T_makesOf_15 ?_
      refine zw_getF (pc := 18) f_T_61 rfl ((hf.w hW).kr (o := 0) (by decide)) ((hf.w hW).lr (o := 0) (s := 0) (r := 1) (by decide)) d_T_makesOf_18 ?_
      refine zw_iload_n (pc := 21) (n := 1) (x := Int32.ofInt a0_) rfl d_T_makesOf_21 ?_
      refine zk_callV hf.x (pc := 22) [.int (Int32.ofInt a0_)] [] l_T_137 (u_Group_spanOf l d_ Mz (hf.w hW) a0_ ha0_a ha0_b T_ hT_ hAs_ p0_ (show 0 ≤ a0_ by first | assumption | omega) (show (a0_).toNat < 2 ^ gN T_ by first | assumption | omega)) rfl rfl ((hf.w hW).kr (o := 1) (by decide)) (by decide) (by decide) (Nat.le_of_ble_eq_true rfl) d_T_makesOf_22 ?_
      rintro _ N3_ ⟨v4_, rfl, ⟨hv4_a, hv4_b⟩, hsN3_, ⟨hp0_N3_, hp1_N3_, hp2_N3_⟩⟩
      have hf_N3_ : zFc d_ [] [] [] [11] Mz N3_ := hf.tr hsN3_ (by decide) (by decide) (by decide) (by decide)
      have c5_ : zTt T_ d_ N3_ := zTt.fr (hf.w hW) hsN3_ p0_ (by decide)
      show zW l m_T_makesOf (zn Mz + 0, zw Mz + 0) N3_ 25 [some (.ref 0), some (.int (Int32.ofInt a0_))] [.int (Int32.ofInt v4_)] (zqcI d_ [] [] [] [11] Mz (fun v N => (((gIn T_ a0_ ∧ gLC T_ (a0_).toNat (v).toNat ∧ 0 ≤ v) ∨ (¬ gIn T_ a0_ ∧ v = (-1 : Int))))))
      refine zw_goto (pc := 25) (tgt := 29) (by decide) d_T_makesOf_25 ?_
      exact zk_iret (pc := 29) (ty := .int) rfl rfl ⟨by omega, by omega⟩ hf_N3_ (show ((gIn T_ a0_ ∧ gLC T_ (a0_).toNat (v4_).toNat ∧ 0 ≤ v4_) ∨ (¬ gIn T_ a0_ ∧ v4_ = (-1 : Int))) by first | exact Or.inr ⟨hno_, rfl⟩ | exact Or.inl ⟨hin_, by assumption, by omega⟩) d_T_makesOf_29
  · skip
    have hno_ := ha8_0_hp0_N1_
    show zW l m_T_makesOf (zn Mz + 0, zw Mz + 0) Mz 11 [some (.ref 0), some (.int (Int32.ofInt a0_))] [.int (Int32.ofInt 0)] (zqcI d_ [] [] [] [11] Mz (fun v N => (((gIn T_ a0_ ∧ gLC T_ (a0_).toNat (v).toNat ∧ 0 ≤ v) ∨ (¬ gIn T_ a0_ ∧ v = (-1 : Int))))))
    refine zr_if_eq (pc := 11) (tgt := 28) ⟨(by decide), (by decide)⟩ (by decide) d_T_makesOf_11 (fun hc_11 => ?_) (fun hc_11 => ?_)
    · skip
      refine zw_iconst (pc := 28) (v := Int32.ofInt (-1)) (by decide) d_T_makesOf_28 ?_
      exact zk_iret (pc := 29) (ty := .int) rfl rfl ⟨by omega, by omega⟩ hf (show ((gIn T_ a0_ ∧ gLC T_ (a0_).toNat (((-1))).toNat ∧ 0 ≤ ((-1))) ∨ (¬ gIn T_ a0_ ∧ ((-1)) = (-1 : Int))) by first | exact Or.inr ⟨hno_, rfl⟩ | exact Or.inl ⟨hin_, by assumption, by omega⟩) d_T_makesOf_29
    · skip
      exact absurd hc_11 (by decide)
