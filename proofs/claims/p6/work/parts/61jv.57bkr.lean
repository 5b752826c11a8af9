set_option maxHeartbeats 4000000 in
theorem u_Group_normOfG (l : Launch) (d_ : Nat) (Mz : zMem) (hW : zKW d_ Mz) (a0_ : Int) (ha0_a : -2147483648 ≤ a0_) (ha0_b : a0_ < 2147483648) (T_ : zGT) (hT_ : T_ ∈ gTabs) (p0_ : zTt T_ d_ Mz) (p1_ : 0 ≤ a0_) (p2_ : (a0_).toNat < 2 ^ gN T_) : zC l m_Group_normOf 0 0 [.ref (d_ + 1), .int (Int32.ofInt a0_)] Mz (zqcI d_ [] [] [] [] Mz (fun v N => v = ((zbq (gNb T_ (a0_).toNat) (gN T_) : Nat) : Int) ∧ 0 ≤ v ∧ v < 16777216)) := by
  refine zC_of (L0 := [some (.ref (d_ + 1)), some (.int (Int32.ofInt a0_)), none, none]) md_Group_normOf (Nat.le_of_ble_eq_true rfl) rfl ?_ zQ0
  have hf : zFc d_ [] [] [] [] Mz Mz := zFc.rf
  have r_D1_7 := ze_r Mz (d_ + 1) 7
  have hO_ := gTabs_ok T_ hT_
  have hG_ := hO_.1
  have hn24_ := hG_.2.1
  have hn1_ := hG_.1
  have hsz_ := p0_.1
  have h24_ := g24 hn24_ p1_ p2_
  refine zw_iconst (pc := 0) (v := Int32.ofInt 0) (by decide) (zdal_p dlB_Group_normOf_21 (i := 0) rfl) ?_
  refine zw_istore_n (pc := 1) (i := 2) (L2 := [some (.ref (d_ + 1)), some (.int (Int32.ofInt a0_)), some (.int (Int32.ofInt 0)), none]) rfl (by decide) rfl (zdal_p dlB_Group_normOf_21 (i := 1) rfl) ?_
  refine zw_iconst (pc := 2) (v := Int32.ofInt 0) (by decide) (zdal_p dlB_Group_normOf_21 (i := 2) rfl) ?_
  refine zw_istore_n (pc := 3) (i := 3) (L2 := [some (.ref (d_ + 1)), some (.int (Int32.ofInt a0_)), some (.int (Int32.ofInt 0)), some (.int (Int32.ofInt 0))]) rfl (by decide) rfl (zdal_p dlB_Group_normOf_21 (i := 3) rfl) ?_
  have lp_4 : ∀ (n : Nat) (u1_ : Int) (hu1_a : -2147483648 ≤ u1_) (hu1_b : u1_ < 2147483648) (u2_ : Int) (hu2_a : -2147483648 ≤ u2_) (hu2_b : u2_ < 2147483648) (i3_ : 0 ≤ u2_) (i4_ : u2_ ≤ gN T_) (i5_ : u1_ = ((zbq (gNb T_ (a0_).toNat) (u2_).toNat : Nat) : Int)), (gN T_ - u2_).toNat < n → zW l m_Group_normOf (zn Mz + 0, zw Mz + 0) Mz 4 [some (.ref (d_ + 1)), some (.int (Int32.ofInt a0_)), some (.int (Int32.ofInt u1_)), some (.int (Int32.ofInt u2_))] [] (zqcI d_ [] [] [] [] Mz (fun v N => v = ((zbq (gNb T_ (a0_).toNat) (gN T_) : Nat) : Int) ∧ 0 ≤ v ∧ v < 16777216)) := by
    intro n
    induction n with
    | zero =>
      intro u1_ hu1_a hu1_b u2_ hu2_a hu2_b i3_ i4_ i5_ h0
      exact absurd h0 (Nat.not_lt_zero _)
    | succ n ih_4 =>
      intro u1_ hu1_a hu1_b u2_ hu2_a hu2_b i3_ i4_ i5_ hlt_4
      have hnb_ := (show u1_ = ((zbq (gNb T_ (a0_).toNat) (u2_).toNat : Nat) : Int) by first | with_reducible assumption | assumption)
      have hnr_ := zbq_r hn24_ (by omega) hnb_
      refine zw_iload_n (pc := 4) (n := 3) (x := Int32.ofInt u2_) rfl (zdal_p dlB_Group_normOf_21 (i := 4) rfl) ?_
      refine zw_aload_n (pc := 5) (n := 0) (x := (d_ + 1)) rfl (zdal_p dlB_Group_normOf_21 (i := 5) rfl) ?_
      refine zk_getI (pc := 6) f_Group_39 rfl ((hf.w hW).kr (o := 1) (by decide)) (zdal_p dlB_Group_normOf_21 (i := 6) rfl) ?_
      refine zr_icmp_ge (pc := 9) (tgt := 34) ⟨hu2_a, hu2_b⟩ ⟨(ze_r Mz (d_ + 1) 7).1, (ze_r Mz (d_ + 1) 7).2⟩ (by decide) (zdal_p dlB_Group_normOf_21 (i := 7) rfl) (fun hc_9 => ?_) (fun hc_9 => ?_)
      · skip
        refine zw_iload_n (pc := 34) (n := 2) (x := Int32.ofInt u1_) rfl (zdal_p dlB_Group_normOf_21 (i := 22) rfl) ?_
        exact zk_iret (pc := 35) (ty := .int) rfl rfl ⟨by omega, by omega⟩ hf ⟨(show u1_ = ((zbq (gNb T_ (a0_).toNat) (gN T_) : Nat) : Int) by rw [show gN T_ = (u2_).toNat by omega]; exact hnb_), (show 0 ≤ u1_ by first | with_reducible assumption | assumption | omega), (show u1_ < 16777216 by first | with_reducible assumption | assumption | omega)⟩ (zdal_p dlB_Group_normOf_21 (i := 23) rfl)
      · skip
        refine zw_aload_n (pc := 12) (n := 0) (x := (d_ + 1)) rfl (zdal_p dlB_Group_normOf_21 (i := 8) rfl) ?_
        refine zw_iload_n (pc := 13) (n := 1) (x := Int32.ofInt a0_) rfl (zdal_p dlB_Group_normOf_21 (i := 9) rfl) ?_
        refine zw_iload_n (pc := 14) (n := 3) (x := Int32.ofInt u2_) rfl (zdal_p dlB_Group_normOf_21 (i := 10) rfl) ?_
        refine zk_callV hf.x (pc := 15) [.int (Int32.ofInt a0_), .int (Int32.ofInt u2_)] [] l_Group_80 (u_Group_turnAll l d_ Mz (hf.w hW) a0_ ha0_a ha0_b u2_ hu2_a hu2_b T_ hT_ p0_ (show 0 ≤ a0_ by first | with_reducible assumption | assumption | omega) (show (a0_).toNat < 2 ^ gN T_ by first | with_reducible assumption | assumption | omega) (show 0 ≤ u2_ by first | with_reducible assumption | assumption | omega) (show u2_ < gN T_ by first | with_reducible assumption | assumption | omega)) rfl rfl ((hf.w hW).kr (o := 1) (by decide)) (by decide) (by decide) (Nat.le_of_ble_eq_true rfl) (zdal_p dlB_Group_normOf_21 (i := 11) rfl) ?_
        rintro _ N6_ ⟨v7_, rfl, ⟨hv7_a, hv7_b⟩, hsN6_, ⟨hp0_N6_, hp1_N6_, hp2_N6_⟩⟩
        obtain rfl := hsN6_.eq.symm
        show zW l m_Group_normOf (zn Mz + 0, zw Mz + 0) Mz 18 [some (.ref (d_ + 1)), some (.int (Int32.ofInt a0_)), some (.int (Int32.ofInt u1_)), some (.int (Int32.ofInt u2_))] [.int (Int32.ofInt v7_)] _
        have htr_ := hp0_N6_
        refine zw_iload_n (pc := 18) (n := 1) (x := Int32.ofInt a0_) rfl (zdal_p dlB_Group_normOf_21 (i := 12) rfl) ?_
        refine zr_icmp_ne (pc := 19) (tgt := 28) ⟨hv7_a, hv7_b⟩ ⟨ha0_a, ha0_b⟩ (by decide) (zdal_p dlB_Group_normOf_21 (i := 13) rfl) (fun hc_19 => ?_) (fun hc_19 => ?_)
        · skip
          refine zr_iinc (pc := 28) (i := 3) (a := u2_) (n := 1) (L2 := [some (.ref (d_ + 1)), some (.int (Int32.ofInt a0_)), some (.int (Int32.ofInt u1_)), some (.int (Int32.ofInt (u2_ + 1)))]) rfl (by decide) rfl (zdal_p dlB_Group_normOf_21 (i := 20) rfl) ?_
          refine zw_goto (pc := 31) (tgt := 4) (by decide) (zdal_p dlB_Group_normOf_21 (i := 21) rfl) ?_
          have hnx_ : u1_ = ((zbq (gNb T_ (a0_).toNat) ((u2_ + 1)).toNat : Nat) : Int) := by first | exact zbq_1 (p := (gNb T_ (a0_).toNat)) (by omega) (by omega) hnb_ (by unfold gNb; omega) | exact zbq_0 (p := (gNb T_ (a0_).toNat)) (by omega) hnb_ (by unfold gNb; omega)
          exact ih_4 u1_ hu1_a hu1_b (u2_ + 1) (by omega) (by omega) (show 0 ≤ (u2_ + 1) by first | with_reducible assumption | assumption | omega) (show (u2_ + 1) ≤ gN T_ by first | with_reducible assumption | assumption | omega) (show u1_ = ((zbq (gNb T_ (a0_).toNat) ((u2_ + 1)).toNat : Nat) : Int) by exact hnx_) (by omega)
        · skip
          refine zw_iload_n (pc := 22) (n := 2) (x := Int32.ofInt u1_) rfl (zdal_p dlB_Group_normOf_21 (i := 14) rfl) ?_
          refine zw_iconst (pc := 23) (v := Int32.ofInt 1) (by decide) (zdal_p dlB_Group_normOf_21 (i := 15) rfl) ?_
          refine zw_iload_n (pc := 24) (n := 3) (x := Int32.ofInt u2_) rfl (zdal_p dlB_Group_normOf_21 (i := 16) rfl) ?_
          refine zr_ishl (pc := 25) (zdal_p dlB_Group_normOf_21 (i := 17) rfl) ?_
          have hr8_ := zshl_r 1 u2_
          refine zr_ior (pc := 26) (zdal_p dlB_Group_normOf_21 (i := 18) rfl) ?_
          have hr9_ := zor_r u1_ (zshl 1 u2_)
          refine zw_istore_n (pc := 27) (i := 2) (L2 := [some (.ref (d_ + 1)), some (.int (Int32.ofInt a0_)), some (.int (Int32.ofInt (zor u1_ (zshl 1 u2_)))), some (.int (Int32.ofInt u2_))]) rfl (by decide) rfl (zdal_p dlB_Group_normOf_21 (i := 19) rfl) ?_
          refine zr_iinc (pc := 28) (i := 3) (a := u2_) (n := 1) (L2 := [some (.ref (d_ + 1)), some (.int (Int32.ofInt a0_)), some (.int (Int32.ofInt (zor u1_ (zshl 1 u2_)))), some (.int (Int32.ofInt (u2_ + 1)))]) rfl (by decide) rfl (zdal_p dlB_Group_normOf_21 (i := 20) rfl) ?_
          refine zw_goto (pc := 31) (tgt := 4) (by decide) (zdal_p dlB_Group_normOf_21 (i := 21) rfl) ?_
          have hnx_ : (zor u1_ (zshl 1 u2_)) = ((zbq (gNb T_ (a0_).toNat) ((u2_ + 1)).toNat : Nat) : Int) := by first | exact zbq_1 (p := (gNb T_ (a0_).toNat)) (by omega) (by omega) hnb_ (by unfold gNb; omega) | exact zbq_0 (p := (gNb T_ (a0_).toNat)) (by omega) hnb_ (by unfold gNb; omega)
          exact ih_4 (zor u1_ (zshl 1 u2_)) (by omega) (by omega) (u2_ + 1) (by omega) (by omega) (show 0 ≤ (u2_ + 1) by first | with_reducible assumption | assumption | omega) (show (u2_ + 1) ≤ gN T_ by first | with_reducible assumption | assumption | omega) (show (zor u1_ (zshl 1 u2_)) = ((zbq (gNb T_ (a0_).toNat) ((u2_ + 1)).toNat : Nat) : Int) by exact hnx_) (by omega)
  exact lp_4 _ 0 (by decide) (by decide) 0 (by decide) (by decide) (show 0 ≤ (0 : Int) by first | with_reducible assumption | assumption | omega) (show (0 : Int) ≤ gN T_ by first | with_reducible assumption | assumption | omega) (show (0 : Int) = ((zbq (gNb T_ (a0_).toNat) ((0 : Int)).toNat : Nat) : Int) by rfl) (Nat.lt_succ_self _)
set_option maxHeartbeats 4000000 in
theorem u_Group_isCommutingG (l : Launch) (d_ : Nat) (Mz : zMem) (hW : zKW d_ Mz) (a0_ : Int) (ha0_a : -2147483648 ≤ a0_) (ha0_b : a0_ < 2147483648) (T_ : zGT) (hT_ : T_ ∈ gTabs) (p0_ : zTt T_ d_ Mz) (p1_ : 0 ≤ a0_) (p2_ : (a0_).toNat < 2 ^ gN T_) : zC l m_Group_isCommuting 0 0 [.ref (d_ + 1), .int (Int32.ofInt a0_)] Mz (zqcI d_ [] [] [] [] Mz (fun v N => (((v = 1 ∧ gAb T_ (a0_).toNat) ∨ (v = 0 ∧ ¬ gAb T_ (a0_).toNat))))) := by
  refine zC_of (L0 := [some (.ref (d_ + 1)), some (.int (Int32.ofInt a0_))]) md_Group_isCommuting (Nat.le_of_ble_eq_true rfl) rfl ?_ zQ0
  have hf : zFc d_ [] [] [] [] Mz Mz := zFc.rf
  have hO_ := gTabs_ok T_ hT_
  have hG_ := hO_.1
  have hn24_ := hG_.2.1
  have hn1_ := hG_.1
  have hac_ := gAb_c (T := T_) p2_
  refine zw_aload_n (pc := 0) (n := 0) (x := (d_ + 1)) rfl (zdal_p dlB_Group_isCommuting_0 (i := 0) rfl) ?_
  refine zw_iload_n (pc := 1) (n := 1) (x := Int32.ofInt a0_) rfl (zdal_p dlB_Group_isCommuting_0 (i := 1) rfl) ?_
  refine zk_callV hf.x (pc := 2) [.int (Int32.ofInt a0_)] [] l_Group_100 (u_Group_centreOfG l d_ Mz (hf.w hW) a0_ ha0_a ha0_b T_ hT_ p0_ (show 0 ≤ a0_ by first | with_reducible assumption | assumption | omega) (show (a0_).toNat < 2 ^ gN T_ by first | with_reducible assumption | assumption | omega)) rfl rfl ((hf.w hW).kr (o := 1) (by decide)) (by decide) (by decide) (Nat.le_of_ble_eq_true rfl) (zdal_p dlB_Group_isCommuting_0 (i := 2) rfl) ?_
  rintro _ N1_ ⟨v2_, rfl, ⟨hv2_a, hv2_b⟩, hsN1_, ⟨hp0_N1_, hp1_N1_, hp2_N1_⟩⟩
  obtain rfl := hsN1_.eq.symm
  show zW l m_Group_isCommuting (zn Mz + 0, zw Mz + 0) Mz 5 [some (.ref (d_ + 1)), some (.int (Int32.ofInt a0_))] [.int (Int32.ofInt v2_)] _
  have hce_ := hp0_N1_
  refine zw_iload_n (pc := 5) (n := 1) (x := Int32.ofInt a0_) rfl (zdal_p dlB_Group_isCommuting_0 (i := 3) rfl) ?_
  refine zr_icmp_ne (pc := 6) (tgt := 13) ⟨hv2_a, hv2_b⟩ ⟨ha0_a, ha0_b⟩ (by decide) (zdal_p dlB_Group_isCommuting_0 (i := 4) rfl) (fun hc_6 => ?_) (fun hc_6 => ?_)
  · skip
    refine zw_iconst (pc := 13) (v := Int32.ofInt 0) (by decide) (zdal_p dlB_Group_isCommuting_0 (i := 7) rfl) ?_
    exact zk_iret (pc := 14) (ty := .boolean) rfl (z_narB (by omega)) ⟨by omega, by omega⟩ hf (show ((0 = 1 ∧ gAb T_ (a0_).toNat) ∨ (0 = 0 ∧ ¬ gAb T_ (a0_).toNat)) from Or.inr (⟨(show 0 = 0 by first | rfl | exact (fun q_ => absurd (hac_.mpr q_) (by omega))), (show ¬ gAb T_ (a0_).toNat by first | rfl | exact (fun q_ => absurd (hac_.mpr q_) (by omega)))⟩)) (zdal_p dlB_Group_isCommuting_0 (i := 8) rfl)
  · skip
    refine zw_iconst (pc := 9) (v := Int32.ofInt 1) (by decide) (zdal_p dlB_Group_isCommuting_0 (i := 5) rfl) ?_
    refine zw_goto (pc := 10) (tgt := 14) (by decide) (zdal_p dlB_Group_isCommuting_0 (i := 6) rfl) ?_
    exact zk_iret (pc := 14) (ty := .boolean) rfl (z_narB (by omega)) ⟨by omega, by omega⟩ hf (show ((1 = 1 ∧ gAb T_ (a0_).toNat) ∨ (1 = 0 ∧ ¬ gAb T_ (a0_).toNat)) from Or.inl (⟨(show 1 = 1 by first | rfl | exact hac_.mp (by omega)), (show gAb T_ (a0_).toNat by first | rfl | exact hac_.mp (by omega))⟩)) (zdal_p dlB_Group_isCommuting_0 (i := 8) rfl)
