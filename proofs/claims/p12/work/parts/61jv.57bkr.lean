set_option maxHeartbeats 4000000 in
theorem u_Group_normOfG (l : Launch) (d_ : Nat) (Mz : zMem) (hW : zKW d_ Mz) (a0_ : Int) (ha0_a : -2147483648 ≤ a0_) (ha0_b : a0_ < 2147483648) (T_ : zGT) (hT_ : T_ ∈ gTabs) (p0_ : zTt T_ d_ Mz) (p1_ : 0 ≤ a0_) (p2_ : (a0_).toNat < 2 ^ gN T_) : zC l m_Group_normOf 0 0 [.ref (d_ + 1), .int (Int32.ofInt a0_)] Mz (zqcI d_ [] [] [] [] Mz (fun v N => v = ((zbq (gNb T_ (a0_).toNat) (gN T_) : Nat) : Int) ∧ 0 ≤ v ∧ v < 16777216)) := by
  refine zC_of (L0 := [some (.ref (d_ + 1)), some (.int (Int32.ofInt a0_)), none, none]) md_Group_normOf (Nat.le_of_ble_eq_true rfl) rfl ?_ zQ0
  have hf : zFc d_ [] [] [] [] Mz Mz := zFc.rf
  have r_D1_7 := ze_r Mz (d_ + 1) 7
  have hO_ := gTabs_ok T_ hT_
  have hG_ := hO_.1
  have hn24_ := hG_.2.1
  have hn1_ := hG_.1
  have hsz_ := p0_.1
  have h24_ := g24 hn24_ p1_ p2_
  refine zw_iconst (pc := 0) (v := Int32.ofInt 0) (by decide) (zdal_p dlB_Group_normOf_21 (i := 0) rfl) ?_
  refine zw_istore_n (pc := 1) (i := 2) (L2 := [some (.ref (d_ + 1)), some (.int (Int32.ofInt a0_)), some (.int (Int32.ofInt 0)), none]) rfl (by decide) rfl (zdal_p dlB_Group_normOf_21 (i := 1) rfl) ?_
  refine zw_iconst (pc := 2) (v := Int32.ofInt 0) (by decide) (zdal_p dlB_Group_normOf_21 (i := 2) rfl) ?_
  refine zw_istore_n (pc := 3) (i := 3) (L2 := [some (.ref (d_ + 1)), some (.int (Int32.ofInt a0_)), some (.int (Int32.ofInt 0)), some (.int (Int32.ofInt 0))]) rfl (by decide) rfl (zdal_p dlB_Group_normOf_21 (i := 3) rfl) ?_
  have lp_4 : ∀ (n : Nat) (u1_ : Int) (hu1_a : -2147483648 ≤ u1_) (hu1_b : u1_ < 2147483648) (u2_ : Int) (hu2_a : -2147483648 ≤ u2_) (hu2_b : u2_ < 2147483648) (i3_ : 0 ≤ u2_) (i4_ : u2_ ≤ gN T_) (i5_ : u1_ = ((zbq (gNb T_ (a0_).toNat) (u2_).toNat : Nat) : Int)), (gN T_ - u2_).toNat < n → zW l m_Group_normOf (zn Mz + 0, zw Mz + 0) Mz 4 [some (.ref (d_ + 1)), some (.int (Int32.ofInt a0_)), some (.int (Int32.ofInt u1_)), some (.int (Int32.ofInt u2_))] [] (zqcI d_ [] [] [] [] Mz (fun v N => v = ((zbq (gNb T_ (a0_).toNat) (gN T_) : Nat) : Int) ∧ 0 ≤ v ∧ v < 16777216)) := by
    intro n
    induction n with
    | zero =>
      intro u1_ hu1_a hu1_b u2_ hu2_a hu2_b i3_ i4_ i5_ h0
      exact absurd h0 (Nat.not_lt_zero _)
    | succ n ih_4 =>
      intro u1_ hu1_a hu1_b u2_ hu2_a hu2_b i3_ i4_ i5_ hlt_4
      have hnb_ := (show u1_ = ((zbq (gNb T_ (a0_).toNat) (u2_).toNat : Nat) : Int) by first | with_reducible assumption | assumption)
      have hnr_ := zbq_r hn24_ (by omega) hnb_
      refine zw_iload_n (pc := 4) (n := 3) (x := Int32.ofInt u2_) rfl (zdal_p dlB_Group_normOf_21 (i := 4) rfl) ?_
      refine zw_aload_n (pc := 5) (n := 0) (x := (d_ + 1)) rfl (zdal_p dlB_Group_normOf_21 (i := 5) rfl) ?_
      refine zk_getI (pc := 6) f_Group_39 rfl ((hf.w hW).kr (o := 1) (by decide)) (zdal_p dlB_Group_normOf_21 (i := 6) rfl) ?_
      refine zr_icmp_ge (pc := 9) (tgt := 34) ⟨hu2_a, hu2_b⟩ ⟨(ze_r Mz (d_ + 1) 7).1, (ze_r Mz (d_ + 1) 7).2⟩ (by decide) (zdal_p dlB_Group_normOf_21 (i := 7) rfl) (fun hc_9 => ?_) (fun hc_9 => ?_)
      · skip
        refine zw_iload_n (pc := 34) (n := 2) (x := Int32.ofInt u1_) rfl (zdal_p dlB_Group_normOf_21 (i := 22) rfl) ?_
        exact zk_iret (pc := 35) (ty := .int) rfl rfl ⟨by omega, by omega⟩ hf ⟨(show u1_ = ((zbq (gNb T_ (a0_).toNat) (gN T_) : Nat) : Int) by rw [show gN T_ = (u2_).toNat by omega]; exact hnb_), (show 0 ≤ u1_ by first | with_reducible assumption | assumption | omega), (show u1_ < 16777216 by first | with_reducible assumption | assumption | omega)⟩ (zdal_p dlB_Group_normOf_21 (i := 23) rfl)
      · skip
        refine zw_aload_n (pc := 12) (n := 0) (x := (d_ + 1)) rfl (zdal_p dlB_Group_normOf_21 (i := 8) rfl) ?_
        refine zw_iload_n (pc := 13) (n := 1) (x := Int32.ofInt a0_) rfl (zdal_p dlB_Group_normOf_21 (i := 9) rfl) ?_
        refine zw_iload_n (pc := 14) (n := 3) (x := Int32.ofInt u2_) rfl (zdal_p dlB_Group_normOf_21 (i := 10) rfl) ?_
        refine zk_callV hf.x (pc := 15) [.int (Int32.ofInt a0_), .int (Int32.ofInt u2_)] [] l_Group_80 (u_Group_turnAll l d_ Mz (hf.w hW) a0_ ha0_a ha0_b u2_ hu2_a hu2_b T_ hT_ p0_ (show 0 ≤ a0_ by first | with_reducible assumption | assumption | omega) (show (a0_).toNat < 2 ^ gN T_ by first | with_reducible assumption | assumption | omega) (show 0 ≤ u2_ by first | with_reducible assumption | assumption | omega) (show u2_ < gN T_ by first | with_reducible assumption | assumption | omega)) rfl rfl ((hf.w hW).kr (o := 1) (by decide)) (by decide) (by decide) (Nat.le_of_ble_eq_true rfl) (zdal_p dlB_Group_normOf_21 (i := 11) rfl) ?_
        rintro _ N6_ ⟨v7_, rfl, ⟨hv7_a, hv7_b⟩, hsN6_, ⟨hp0_N6_, hp1_N6_, hp2_N6_⟩⟩
        obtain rfl := hsN6_.eq.symm
        show zW l m_Group_normOf (zn Mz + 0, zw Mz + 0) Mz 18 [some (.ref (d_ + 1)), some (.int (Int32.ofInt a0_)), some (.int (Int32.ofInt u1_)), some (.int (Int32.ofInt u2_))] [.int (Int32.ofInt v7_)] _
        have htr_ := hp0_N6_
        refine zw_iload_n (pc := 18) (n := 1) (x := Int32.ofInt a0_) rfl (zdal_p dlB_Group_normOf_21 (i := 12) rfl) ?_
        refine zr_icmp_ne (pc := 19) (tgt := 28) ⟨hv7_a, hv7_b⟩ ⟨ha0_a, ha0_b⟩ (by decide) (zdal_p dlB_Group_normOf_21 (i := 13) rfl) (fun hc_19 => ?_) (fun hc_19 => ?_)
        · skip
          refine zr_iinc (pc := 28) (i := 3) (a := u2_) (n := 1) (L2 := [some (.ref (d_ + 1)), some (.int (Int32.ofInt a0_)), some (.int (Int32.ofInt u1_)), some (.int (Int32.ofInt (u2_ + 1)))]) rfl (by decide) rfl (zdal_p dlB_Group_normOf_21 (i := 20) rfl) ?_
          refine zw_goto (pc := 31) (tgt := 4) (by decide) (zdal_p dlB_Group_normOf_21 (i := 21) rfl) ?_
          have hnx_ : u1_ = ((zbq (gNb T_ (a0_).toNat) ((u2_ + 1)).toNat : Nat) : Int) := by first | exact zbq_1 (p := (gNb T_ (a0_).toNat)) (by omega) (by omega) hnb_ (by unfold gNb; omega) | exact zbq_0 (p := (gNb T_ (a0_).toNat)) (by omega) hnb_ (by unfold gNb; omega)
          exact ih_4 u1_ hu1_a hu1_b (u2_ + 1) (by omega) (by omega) (show 0 ≤ (u2_ + 1) by first | with_reducible assumption | assumption | omega) (show (u2_ + 1) ≤ gN T_ by first | with_reducible assumption | assumption | omega) (show u1_ = ((zbq (gNb T_ (a0_).toNat) ((u2_ + 1)).toNat : Nat) : Int) by exact hnx_) (by omega)
        · skip
          refine zw_iload_n (pc := 22) (n := 2) (x := Int32.ofInt u1_) rfl (zdal_p dlB_Group_normOf_21 (i := 14) rfl) ?_
          refine zw_iconst (pc := 23) (v := Int32.ofInt 1) (by decide) (zdal_p dlB_Group_normOf_21 (i := 15) rfl) ?_
          refine zw_iload_n (pc := 24) (n := 3) (x := Int32.ofInt u2_) rfl (zdal_p dlB_Group_normOf_21 (i := 16) rfl) ?_
          refine zr_ishl (pc := 25) (zdal_p dlB_Group_normOf_21 (i := 17) rfl) ?_
          have hr8_ := zshl_r 1 u2_
          refine zr_ior (pc := 26) (zdal_p dlB_Group_normOf_21 (i := 18) rfl) ?_
          have hr9_ := zor_r u1_ (zshl 1 u2_)
          refine zw_istore_n (pc := 27) (i := 2) (L2 := [some (.ref (d_ + 1)), some (.int (Int32.ofInt a0_)), some (.int (Int32.ofInt (zor u1_ (zshl 1 u2_)))), some (.int (Int32.ofInt u2_))]) rfl (by decide) rfl (zdal_p dlB_Group_normOf_21 (i := 19) rfl) ?_
          refine zr_iinc (pc := 28) (i := 3) (a := u2_) (n := 1) (L2 := [some (.ref (d_ + 1)), some (.int (Int32.ofInt a0_)), some (.int (Int32.ofInt (zor u1_ (zshl 1 u2_)))), some (.int (Int32.ofInt (u2_ + 1)))]) rfl (by decide) rfl (zdal_p dlB_Group_normOf_21 (i := 20) rfl) ?_
          refine zw_goto (pc := 31) (tgt := 4) (by decide) (zdal_p dlB_Group_normOf_21 (i := 21) rfl) ?_
          have hnx_ : (zor u1_ (zshl 1 u2_)) = ((zbq (gNb T_ (a0_).toNat) ((u2_ + 1)).toNat : Nat) : Int) := by first | exact zbq_1 (p := (gNb T_ (a0_).toNat)) (by omega) (by omega) hnb_ (by unfold gNb; omega) | exact zbq_0 (p := (gNb T_ (a0_).toNat)) (by omega) hnb_ (by unfold gNb; omega)
          exact ih_4 (zor u1_ (zshl 1 u2_)) (by omega) (by omega) (u2_ + 1) (by omega) (by omega) (show 0 ≤ (u2_ + 1) by first | with_reducible assumption | assumption | omega) (show (u2_ + 1) ≤ gN T_ by first | with_reducible assumption | assumption | omega) (show (zor u1_ (zshl 1 u2_)) = ((zbq (gNb T_ (a0_).toNat) ((u2_ + 1)).toNat : Nat) : Int) by exact hnx_) (by omega)
  exact lp_4 _ 0 (by decide) (by decide) 0 (by decide) (by decide) (show 0 ≤ (0 : Int) by first | with_reducible assumption | assumption | omega) (show (0 : Int) ≤ gN T_ by first | with_reducible assumption | assumption | omega) (show (0 : Int) = ((zbq (gNb T_ (a0_).toNat) ((0 : Int)).toNat : Nat) : Int) by rfl) (Nat.lt_succ_self _)
set_option maxHeartbeats 4000000 in
theorem u_Group_isMadeByOneG (l : Launch) (d_ : Nat) (Mz : zMem) (hW : zKW d_ Mz) (a0_ : Int) (ha0_a : -2147483648 ≤ a0_) (ha0_b : a0_ < 2147483648) (T_ : zGT) (hT_ : T_ ∈ gTabs) (p0_ : zTt T_ d_ Mz) (p1_ : 0 ≤ a0_) (p2_ : (a0_).toNat < 2 ^ gN T_) : zC l m_Group_isMadeByOne 0 0 [.ref (d_ + 1), .int (Int32.ofInt a0_)] Mz (zqcI d_ [] [] [] [] Mz (fun v N => (((v = 1 ∧ gM1 T_ (a0_).toNat) ∨ (v = 0 ∧ ¬ gM1 T_ (a0_).toNat))))) := by
  refine zC_of (L0 := [some (.ref (d_ + 1)), some (.int (Int32.ofInt a0_)), none, none]) md_Group_isMadeByOne (Nat.le_of_ble_eq_true rfl) rfl ?_ zQ0
  have hf : zFc d_ [] [] [] [] Mz Mz := zFc.rf
  have r_D1_7 := ze_r Mz (d_ + 1) 7
  have hO_ := gTabs_ok T_ hT_
  have hG_ := hO_.1
  have hn24_ := hG_.2.1
  have hn1_ := hG_.1
  have hsz_ := p0_.1
  have h24_ := g24 hn24_ p1_ p2_
  refine zw_iload_n (pc := 0) (n := 1) (x := Int32.ofInt a0_) rfl (zdal_p dlB_Group_isMadeByOne_22 (i := 0) rfl) ?_
  refine zr_callS hf.x (pc := 1) [.int (Int32.ofInt a0_)] [] l_Group_83 (u_Integer_bitCount l d_ Mz (hf.w hW) a0_ ha0_a ha0_b (show 0 ≤ a0_ by first | with_reducible assumption | assumption | omega)) rfl rfl (by decide) (Nat.le_of_ble_eq_true rfl) (zdal_p dlB_Group_isMadeByOne_22 (i := 1) rfl) ?_
  rintro _ N1_ ⟨v2_, rfl, ⟨hv2_a, hv2_b⟩, hsN1_, ⟨hp0_N1_, hp1_N1_, hp2_N1_⟩⟩
  obtain rfl := hsN1_.eq.symm
  show zW l m_Group_isMadeByOne (zn Mz + 0, zw Mz + 0) Mz 4 [some (.ref (d_ + 1)), some (.int (Int32.ofInt a0_)), none, none] [.int (Int32.ofInt v2_)] _
  have hbc_ := hp0_N1_
  rw [kbc_g (by omega)] at hbc_
  refine zw_istore_n (pc := 4) (i := 2) (L2 := [some (.ref (d_ + 1)), some (.int (Int32.ofInt a0_)), some (.int (Int32.ofInt v2_)), none]) rfl (by decide) rfl (zdal_p dlB_Group_isMadeByOne_22 (i := 2) rfl) ?_
  refine zw_iconst (pc := 5) (v := Int32.ofInt 0) (by decide) (zdal_p dlB_Group_isMadeByOne_22 (i := 3) rfl) ?_
  refine zw_istore_n (pc := 6) (i := 3) (L2 := [some (.ref (d_ + 1)), some (.int (Int32.ofInt a0_)), some (.int (Int32.ofInt v2_)), some (.int (Int32.ofInt 0))]) rfl (by decide) rfl (zdal_p dlB_Group_isMadeByOne_22 (i := 4) rfl) ?_
  have lp_7 : ∀ (n : Nat) (u3_ : Int) (hu3_a : -2147483648 ≤ u3_) (hu3_b : u3_ < 2147483648) (i4_ : 0 ≤ u3_) (i5_ : u3_ ≤ gN T_) (i6_ : v2_ = ((gcb (a0_).toNat : Nat) : Int)) (i7_ : (∀ x_ : Nat, (x_ : Int) < u3_ → (a0_).toNat.testBit x_ = true → ¬ gOr T_ x_ (gcb (a0_).toNat))), (gN T_ - u3_).toNat < n → zW l m_Group_isMadeByOne (zn Mz + 0, zw Mz + 0) Mz 7 [some (.ref (d_ + 1)), some (.int (Int32.ofInt a0_)), some (.int (Int32.ofInt v2_)), some (.int (Int32.ofInt u3_))] [] (zqcI d_ [] [] [] [] Mz (fun v N => (((v = 1 ∧ gM1 T_ (a0_).toNat) ∨ (v = 0 ∧ ¬ gM1 T_ (a0_).toNat))))) := by
    intro n
    induction n with
    | zero =>
      intro u3_ hu3_a hu3_b i4_ i5_ i6_ i7_ h0
      exact absurd h0 (Nat.not_lt_zero _)
    | succ n ih_7 =>
      intro u3_ hu3_a hu3_b i4_ i5_ i6_ i7_ hlt_7
      have hm1_ := (show (∀ x_ : Nat, (x_ : Int) < u3_ → (a0_).toNat.testBit x_ = true → ¬ gOr T_ x_ (gcb (a0_).toNat)) by first | with_reducible assumption | assumption)
      have hc1_ := (show v2_ = ((gcb (a0_).toNat : Nat) : Int) by first | with_reducible assumption | assumption)
      refine zw_iload_n (pc := 7) (n := 3) (x := Int32.ofInt u3_) rfl (zdal_p dlB_Group_isMadeByOne_22 (i := 5) rfl) ?_
      refine zw_aload_n (pc := 8) (n := 0) (x := (d_ + 1)) rfl (zdal_p dlB_Group_isMadeByOne_22 (i := 6) rfl) ?_
      refine zk_getI (pc := 9) f_Group_39 rfl ((hf.w hW).kr (o := 1) (by decide)) (zdal_p dlB_Group_isMadeByOne_22 (i := 7) rfl) ?_
      refine zr_icmp_ge (pc := 12) (tgt := 40) ⟨hu3_a, hu3_b⟩ ⟨(ze_r Mz (d_ + 1) 7).1, (ze_r Mz (d_ + 1) 7).2⟩ (by decide) (zdal_p dlB_Group_isMadeByOne_22 (i := 8) rfl) (fun hc_12 => ?_) (fun hc_12 => ?_)
      · skip
        refine zw_iconst (pc := 40) (v := Int32.ofInt 0) (by decide) (zdal_p dlB_Group_isMadeByOne_22 (i := 22) rfl) ?_
        exact zk_iret (pc := 41) (ty := .boolean) rfl (z_narB (by omega)) ⟨by omega, by omega⟩ hf (show ((0 = 1 ∧ gM1 T_ (a0_).toNat) ∨ (0 = 0 ∧ ¬ gM1 T_ (a0_).toNat)) from Or.inr (⟨(show 0 = 0 by first | rfl | exact (fun ⟨x_, hx_, hb_, hg_⟩ => hm1_ x_ (by omega) hb_ hg_)), (show ¬ gM1 T_ (a0_).toNat by first | rfl | exact (fun ⟨x_, hx_, hb_, hg_⟩ => hm1_ x_ (by omega) hb_ hg_))⟩)) (zdal_p dlB_Group_isMadeByOne_22 (i := 23) rfl)
      · skip
        refine zw_iload_n (pc := 15) (n := 1) (x := Int32.ofInt a0_) rfl (zdal_p dlB_Group_isMadeByOne_22 (i := 9) rfl) ?_
        refine zw_iload_n (pc := 16) (n := 3) (x := Int32.ofInt u3_) rfl (zdal_p dlB_Group_isMadeByOne_22 (i := 10) rfl) ?_
        refine zr_callS hf.x (pc := 17) [.int (Int32.ofInt a0_), .int (Int32.ofInt u3_)] [] l_Group_73 (u_T_isIn l d_ Mz (hf.w hW) a0_ ha0_a ha0_b u3_ hu3_a hu3_b (show 0 ≤ a0_ by first | with_reducible assumption | assumption | omega) (show a0_ < 2147483648 by first | with_reducible assumption | assumption | omega) (show 0 ≤ u3_ by first | with_reducible assumption | assumption | omega) (show u3_ < 31 by first | with_reducible assumption | assumption | omega)) rfl rfl (by decide) (Nat.le_of_ble_eq_true rfl) (zdal_p dlB_Group_isMadeByOne_22 (i := 11) rfl) ?_
        rintro _ N8_ ⟨v9_, rfl, ⟨hv9_a, hv9_b⟩, hsN8_, hp0_N8_⟩
        obtain rfl := hsN8_.eq.symm
        replace hp0_N8_ : ((v9_ = 1 ∧ zbt a0_ u3_) ∨ (v9_ = 0 ∧ ¬ zbt a0_ u3_)) := hp0_N8_
        rcases hp0_N8_ with ⟨rfl, ha17_0_hp0_N8_⟩ | ⟨rfl, ha17_0_hp0_N8_⟩
        · skip
          have hin_ := ha17_0_hp0_N8_
          show zW l m_Group_isMadeByOne (zn Mz + 0, zw Mz + 0) Mz 20 [some (.ref (d_ + 1)), some (.int (Int32.ofInt a0_)), some (.int (Int32.ofInt v2_)), some (.int (Int32.ofInt u3_))] [.int (Int32.ofInt 1)] _
          refine zr_if_eq (pc := 20) (tgt := 34) ⟨(by decide), (by decide)⟩ (by decide) (zdal_p dlB_Group_isMadeByOne_22 (i := 12) rfl) (fun hc_20 => ?_) (fun hc_20 => ?_)
          · skip
            exact absurd hc_20 (by decide)
          · skip
            refine zw_aload_n (pc := 23) (n := 0) (x := (d_ + 1)) rfl (zdal_p dlB_Group_isMadeByOne_22 (i := 13) rfl) ?_
            refine zw_iload_n (pc := 24) (n := 3) (x := Int32.ofInt u3_) rfl (zdal_p dlB_Group_isMadeByOne_22 (i := 14) rfl) ?_
            refine zk_callV hf.x (pc := 25) [.int (Int32.ofInt u3_)] [] l_Group_70 (u_Group_repeatsOfG l d_ Mz (hf.w hW) u3_ hu3_a hu3_b T_ hT_ p0_ (show 0 ≤ u3_ by first | with_reducible assumption | assumption | omega) (show u3_ < gN T_ by first | with_reducible assumption | assumption | omega)) rfl rfl ((hf.w hW).kr (o := 1) (by decide)) (by decide) (by decide) (Nat.le_of_ble_eq_true rfl) (zdal_p dlB_Group_isMadeByOne_22 (i := 15) rfl) ?_
            rintro _ N10_ ⟨v11_, rfl, ⟨hv11_a, hv11_b⟩, hsN10_, ⟨hp0_N10_, hp1_N10_, hp2_N10_⟩⟩
            obtain rfl := hsN10_.eq.symm
            show zW l m_Group_isMadeByOne (zn Mz + 0, zw Mz + 0) Mz 28 [some (.ref (d_ + 1)), some (.int (Int32.ofInt a0_)), some (.int (Int32.ofInt v2_)), some (.int (Int32.ofInt u3_))] [.int (Int32.ofInt v11_)] _
            have hor_ := hp0_N10_
            have hor1_ := hp1_N10_
            have hq_ := gOr_q (w := gcb (a0_).toNat) hor_ hor1_
            refine zw_iload_n (pc := 28) (n := 2) (x := Int32.ofInt v2_) rfl (zdal_p dlB_Group_isMadeByOne_22 (i := 16) rfl) ?_
            refine zr_icmp_ne (pc := 29) (tgt := 34) ⟨hv11_a, hv11_b⟩ ⟨hv2_a, hv2_b⟩ (by decide) (zdal_p dlB_Group_isMadeByOne_22 (i := 17) rfl) (fun hc_29 => ?_) (fun hc_29 => ?_)
            · skip
              refine zr_iinc (pc := 34) (i := 3) (a := u3_) (n := 1) (L2 := [some (.ref (d_ + 1)), some (.int (Int32.ofInt a0_)), some (.int (Int32.ofInt v2_)), some (.int (Int32.ofInt (u3_ + 1)))]) rfl (by decide) rfl (zdal_p dlB_Group_isMadeByOne_22 (i := 20) rfl) ?_
              refine zw_goto (pc := 37) (tgt := 7) (by decide) (zdal_p dlB_Group_isMadeByOne_22 (i := 21) rfl) ?_
              have hm2_ : (∀ x_ : Nat, (x_ : Int) < (u3_ + 1) → (a0_).toNat.testBit x_ = true → ¬ gOr T_ x_ (gcb (a0_).toNat)) := zM1_s hm1_ (by first | exact Or.inl hno_ | exact Or.inr (fun q_ => absurd (hq_.mpr q_) (by omega)))
              exact ih_7 (u3_ + 1) (by omega) (by omega) (show 0 ≤ (u3_ + 1) by first | with_reducible assumption | assumption | omega) (show (u3_ + 1) ≤ gN T_ by first | with_reducible assumption | assumption | omega) (show v2_ = ((gcb (a0_).toNat : Nat) : Int) by first | with_reducible assumption | assumption | omega) (show (∀ x_ : Nat, (x_ : Int) < (u3_ + 1) → (a0_).toNat.testBit x_ = true → ¬ gOr T_ x_ (gcb (a0_).toNat)) by exact hm2_) (by omega)
            · skip
              refine zw_iconst (pc := 32) (v := Int32.ofInt 1) (by decide) (zdal_p dlB_Group_isMadeByOne_22 (i := 18) rfl) ?_
              exact zk_iret (pc := 33) (ty := .boolean) rfl (z_narB (by omega)) ⟨by omega, by omega⟩ hf (show ((1 = 1 ∧ gM1 T_ (a0_).toNat) ∨ (1 = 0 ∧ ¬ gM1 T_ (a0_).toNat)) from Or.inl (⟨(show 1 = 1 by first | rfl | exact ⟨(u3_).toNat, by omega, hin_, hq_.mp (by omega)⟩), (show gM1 T_ (a0_).toNat by first | rfl | exact ⟨(u3_).toNat, by omega, hin_, hq_.mp (by omega)⟩)⟩)) (zdal_p dlB_Group_isMadeByOne_22 (i := 19) rfl)
        · skip
          have hno_ := ha17_0_hp0_N8_
          show zW l m_Group_isMadeByOne (zn Mz + 0, zw Mz + 0) Mz 20 [some (.ref (d_ + 1)), some (.int (Int32.ofInt a0_)), some (.int (Int32.ofInt v2_)), some (.int (Int32.ofInt u3_))] [.int (Int32.ofInt 0)] _
          refine zr_if_eq (pc := 20) (tgt := 34) ⟨(by decide), (by decide)⟩ (by decide) (zdal_p dlB_Group_isMadeByOne_22 (i := 12) rfl) (fun hc_20 => ?_) (fun hc_20 => ?_)
          · skip
            refine zr_iinc (pc := 34) (i := 3) (a := u3_) (n := 1) (L2 := [some (.ref (d_ + 1)), some (.int (Int32.ofInt a0_)), some (.int (Int32.ofInt v2_)), some (.int (Int32.ofInt (u3_ + 1)))]) rfl (by decide) rfl (zdal_p dlB_Group_isMadeByOne_22 (i := 20) rfl) ?_
            refine zw_goto (pc := 37) (tgt := 7) (by decide) (zdal_p dlB_Group_isMadeByOne_22 (i := 21) rfl) ?_
            have hm2_ : (∀ x_ : Nat, (x_ : Int) < (u3_ + 1) → (a0_).toNat.testBit x_ = true → ¬ gOr T_ x_ (gcb (a0_).toNat)) := zM1_s hm1_ (by first | exact Or.inl hno_ | exact Or.inr (fun q_ => absurd (hq_.mpr q_) (by omega)))
            exact ih_7 (u3_ + 1) (by omega) (by omega) (show 0 ≤ (u3_ + 1) by first | with_reducible assumption | assumption | omega) (show (u3_ + 1) ≤ gN T_ by first | with_reducible assumption | assumption | omega) (show v2_ = ((gcb (a0_).toNat : Nat) : Int) by first | with_reducible assumption | assumption | omega) (show (∀ x_ : Nat, (x_ : Int) < (u3_ + 1) → (a0_).toNat.testBit x_ = true → ¬ gOr T_ x_ (gcb (a0_).toNat)) by exact hm2_) (by omega)
          · skip
            exact absurd hc_20 (by decide)
  exact lp_7 _ 0 (by decide) (by decide) (show 0 ≤ (0 : Int) by first | with_reducible assumption | assumption | omega) (show (0 : Int) ≤ gN T_ by first | with_reducible assumption | assumption | omega) (show v2_ = ((gcb (a0_).toNat : Nat) : Int) by exact hbc_) (show (∀ x_ : Nat, (x_ : Int) < (0 : Int) → (a0_).toNat.testBit x_ = true → ¬ gOr T_ x_ (gcb (a0_).toNat)) by exact fun x_ hx_ => absurd hx_ (by omega)) (Nat.lt_succ_self _)
set_option maxHeartbeats 4000000 in
theorem u_Group_isCommutingG (l : Launch) (d_ : Nat) (Mz : zMem) (hW : zKW d_ Mz) (a0_ : Int) (ha0_a : -2147483648 ≤ a0_) (ha0_b : a0_ < 2147483648) (T_ : zGT) (hT_ : T_ ∈ gTabs) (p0_ : zTt T_ d_ Mz) (p1_ : 0 ≤ a0_) (p2_ : (a0_).toNat < 2 ^ gN T_) : zC l m_Group_isCommuting 0 0 [.ref (d_ + 1), .int (Int32.ofInt a0_)] Mz (zqcI d_ [] [] [] [] Mz (fun v N => (((v = 1 ∧ gAb T_ (a0_).toNat) ∨ (v = 0 ∧ ¬ gAb T_ (a0_).toNat))))) := by
  refine zC_of (L0 := [some (.ref (d_ + 1)), some (.int (Int32.ofInt a0_))]) md_Group_isCommuting (Nat.le_of_ble_eq_true rfl) rfl ?_ zQ0
  have hf : zFc d_ [] [] [] [] Mz Mz := zFc.rf
  have hO_ := gTabs_ok T_ hT_
  have hG_ := hO_.1
  have hn24_ := hG_.2.1
  have hn1_ := hG_.1
  have hac_ := gAb_c (T := T_) p2_
  refine zw_aload_n (pc := 0) (n := 0) (x := (d_ + 1)) rfl (zdal_p dlB_Group_isCommuting_0 (i := 0) rfl) ?_
  refine zw_iload_n (pc := 1) (n := 1) (x := Int32.ofInt a0_) rfl (zdal_p dlB_Group_isCommuting_0 (i := 1) rfl) ?_
  refine zk_callV hf.x (pc := 2) [.int (Int32.ofInt a0_)] [] l_Group_100 (u_Group_centreOfG l d_ Mz (hf.w hW) a0_ ha0_a ha0_b T_ hT_ p0_ (show 0 ≤ a0_ by first | with_reducible assumption | assumption | omega) (show (a0_).toNat < 2 ^ gN T_ by first | with_reducible assumption | assumption | omega)) rfl rfl ((hf.w hW).kr (o := 1) (by decide)) (by decide) (by decide) (Nat.le_of_ble_eq_true rfl) (zdal_p dlB_Group_isCommuting_0 (i := 2) rfl) ?_
  rintro _ N1_ ⟨v2_, rfl, ⟨hv2_a, hv2_b⟩, hsN1_, ⟨hp0_N1_, hp1_N1_, hp2_N1_⟩⟩
  obtain rfl := hsN1_.eq.symm
  show zW l m_Group_isCommuting (zn Mz + 0, zw Mz + 0) Mz 5 [some (.ref (d_ + 1)), some (.int (Int32.ofInt a0_))] [.int (Int32.ofInt v2_)] _
  have hce_ := hp0_N1_
  refine zw_iload_n (pc := 5) (n := 1) (x := Int32.ofInt a0_) rfl (zdal_p dlB_Group_isCommuting_0 (i := 3) rfl) ?_
  refine zr_icmp_ne (pc := 6) (tgt := 13) ⟨hv2_a, hv2_b⟩ ⟨ha0_a, ha0_b⟩ (by decide) (zdal_p dlB_Group_isCommuting_0 (i := 4) rfl) (fun hc_6 => ?_) (fun hc_6 => ?_)
  · skip
    refine zw_iconst (pc := 13) (v := Int32.ofInt 0) (by decide) (zdal_p dlB_Group_isCommuting_0 (i := 7) rfl) ?_
    exact zk_iret (pc := 14) (ty := .boolean) rfl (z_narB (by omega)) ⟨by omega, by omega⟩ hf (show ((0 = 1 ∧ gAb T_ (a0_).toNat) ∨ (0 = 0 ∧ ¬ gAb T_ (a0_).toNat)) from Or.inr (⟨(show 0 = 0 by first | rfl | exact (fun q_ => absurd (hac_.mpr q_) (by omega))), (show ¬ gAb T_ (a0_).toNat by first | rfl | exact (fun q_ => absurd (hac_.mpr q_) (by omega)))⟩)) (zdal_p dlB_Group_isCommuting_0 (i := 8) rfl)
  · skip
    refine zw_iconst (pc := 9) (v := Int32.ofInt 1) (by decide) (zdal_p dlB_Group_isCommuting_0 (i := 5) rfl) ?_
    refine zw_goto (pc := 10) (tgt := 14) (by decide) (zdal_p dlB_Group_isCommuting_0 (i := 6) rfl) ?_
    exact zk_iret (pc := 14) (ty := .boolean) rfl (z_narB (by omega)) ⟨by omega, by omega⟩ hf (show ((1 = 1 ∧ gAb T_ (a0_).toNat) ∨ (1 = 0 ∧ ¬ gAb T_ (a0_).toNat)) from Or.inl (⟨(show 1 = 1 by first | rfl | exact hac_.mp (by omega)), (show gAb T_ (a0_).toNat by first | rfl | exact hac_.mp (by omega))⟩)) (zdal_p dlB_Group_isCommuting_0 (i := 8) rfl)
set_option maxHeartbeats 4000000 in
theorem u_Sorts_countOfG (l : Launch) (d_ : Nat) (Mz : zMem) (hW : zKW d_ Mz) (a0_ : Int) (ha0_a : -2147483648 ≤ a0_) (ha0_b : a0_ < 2147483648) (T_ : zGT) (hT_ : T_ ∈ gTabs) (p0_ : zFir T_ d_ Mz) (p1_ : zSbK T_ d_ Mz) (p2_ : 0 ≤ a0_) (p3_ : a0_ < (gF T_).length) : zC l m_Sorts_countOf 0 0 [.ref (d_ + 12), .int (Int32.ofInt a0_)] Mz (zqcI d_ [] [] [] [] Mz (fun v N => zfWi T_ a0_ (2 ^ gN T_ - 1) v)) := by
  refine zC_of (L0 := [some (.ref (d_ + 12)), some (.int (Int32.ofInt a0_))]) md_Sorts_countOf (Nat.le_of_ble_eq_true rfl) rfl ?_ zQ0
  have hf : zFc d_ [] [] [] [] Mz Mz := zFc.rf
  have r_D12_7 := ze_r Mz (d_ + 12) 7
  have hO_ := gTabs_ok T_ hT_
  have hG_ := hO_.1
  have hn24_ := hG_.2.1
  have hn1_ := hG_.1
  have hfl_ := p0_.1
  obtain ⟨⟨hF1_, hF27_⟩, hAr_⟩ := id (gT_zTA hT_)
  refine zw_aload_n (pc := 0) (n := 0) (x := (d_ + 12)) rfl (zdal_p dlB_Sorts_countOf_18 (i := 0) rfl) ?_
  refine zw_iload_n (pc := 1) (n := 1) (x := Int32.ofInt a0_) rfl (zdal_p dlB_Sorts_countOf_18 (i := 1) rfl) ?_
  refine zw_aload_n (pc := 2) (n := 0) (x := (d_ + 12)) rfl (zdal_p dlB_Sorts_countOf_18 (i := 2) rfl) ?_
  refine zk_getI (pc := 3) f_Sorts_83 rfl ((hf.w hW).kr (o := 12) (by decide)) (zdal_p dlB_Sorts_countOf_18 (i := 3) rfl) ?_
  refine zw_iconst (pc := 6) (v := Int32.ofInt 1) (by decide) (zdal_p dlB_Sorts_countOf_18 (i := 4) rfl) ?_
  refine zr_isub (pc := 7) (zdal_p dlB_Sorts_countOf_18 (i := 5) rfl) ?_
  refine zk_callV hf.x (pc := 8) [.int (Int32.ofInt a0_), .int (Int32.ofInt ((ze Mz (d_ + 12) 7) - 1))] [] l_Sorts_99 (u_Sorts_countWithinG l d_ Mz (hf.w hW) a0_ ha0_a ha0_b ((ze Mz (d_ + 12) 7) - 1) (by omega) (by omega) T_ hT_ p0_ p1_ (show 0 ≤ a0_ by first | with_reducible assumption | assumption | omega) (show a0_ < (gF T_).length by first | with_reducible assumption | assumption | omega) (show 0 ≤ ((ze Mz (d_ + 12) 7) - 1) by first | with_reducible assumption | assumption | omega) (show ((ze Mz (d_ + 12) 7) - 1) < (gF T_).length by first | with_reducible assumption | assumption | omega)) rfl rfl ((hf.w hW).kr (o := 12) (by decide)) (by decide) (by decide) (Nat.le_of_ble_eq_true rfl) (zdal_p dlB_Sorts_countOf_18 (i := 6) rfl) ?_
  rintro _ N1_ ⟨v2_, rfl, ⟨hv2_a, hv2_b⟩, hsN1_, hp0_N1_⟩
  obtain rfl := hsN1_.eq.symm
  replace hp0_N1_ : zfWi T_ a0_ (gFn T_ (((ze Mz (d_ + 12) 7) - 1)).toNat) v2_ := hp0_N1_
  show zW l m_Sorts_countOf (zn Mz + 0, zw Mz + 0) Mz 11 [some (.ref (d_ + 12)), some (.int (Int32.ofInt a0_))] [.int (Int32.ofInt v2_)] _
  have hwi_ := hp0_N1_
  rw [show (ze Mz (d_ + 12) 7 - 1).toNat = (gF T_).length - 1 by omega, gFn_la hT_ hO_] at hwi_
  exact zk_iret (pc := 11) (ty := .int) rfl rfl ⟨by omega, by omega⟩ hf (show zfWi T_ a0_ (2 ^ gN T_ - 1) v2_ by exact hwi_) (zdal_p dlB_Sorts_countOf_18 (i := 7) rfl)
set_option maxHeartbeats 4000000 in
theorem u_T_sortG (l : Launch) (d_ : Nat) (Mz : zMem) (hW : zKW d_ Mz) (hnow : zf Mz 0 2 = some (d_ + 0)) (a0_ : Int) (ha0_a : -2147483648 ≤ a0_) (ha0_b : a0_ < 2147483648) (a1_ : Int) (ha1_a : -2147483648 ≤ a1_) (ha1_b : a1_ < 2147483648) (T_ : zGT) (hT_ : T_ ∈ gTabs) (p0_ : zTt T_ d_ Mz) (p1_ : zFir T_ d_ Mz) (p2_ : zSbK T_ d_ Mz) : zC l m_T_sort 0 0 [.ref 0, .int (Int32.ofInt a0_), .int (Int32.ofInt a1_)] Mz (zqcI d_ [] [] [] [] Mz (fun v N => (((0 ≤ a0_ ∧ a0_ < ((gF T_).length : Int) ∧ zfSo T_ a0_ (gFn T_ (a0_).toNat) a1_ v) ∨ (¬ (0 ≤ a0_ ∧ a0_ < ((gF T_).length : Int)) ∧ v = (-1 : Int)))))) := by
  refine zC_of (L0 := [some (.ref 0), some (.int (Int32.ofInt a0_)), some (.int (Int32.ofInt a1_)), none, none]) md_T_sort (Nat.le_of_ble_eq_true rfl) rfl ?_ zQ0
  have hf : zFc d_ [] [] [] [] Mz Mz := zFc.rf
  have r_D12_7 := ze_r Mz (d_ + 12) 7
  have hO_ := gTabs_ok T_ hT_
  have hG_ := hO_.1
  have hn24_ := hG_.2.1
  have hn1_ := hG_.1
  have hsz_ := p0_.1
  have hfl_ := p1_.1
  obtain ⟨⟨hF1_, hF27_⟩, hAr_⟩ := id (gT_zTA hT_)
  refine zw_aload_n (pc := 0) (n := 0) (x := 0) rfl (zdal_p dlB_T_sort_14 (i := 0) rfl) ?_
  refine zw_getF (pc := 1) f_T_28 rfl ((hf.w hW).ka (o := 0) (by decide)) (hf.now hnow) (zdal_p dlB_T_sort_14 (i := 1) rfl) ?_
  refine zw_getF (pc := 4) f_T_85 rfl ((hf.w hW).kr (o := 0) (by decide)) ((hf.w hW).lr (o := 0) (s := 1) (r := 12) (by decide)) (zdal_p dlB_T_sort_14 (i := 2) rfl) ?_
  refine zw_astore_n (pc := 7) (i := 3) (L2 := [some (.ref 0), some (.int (Int32.ofInt a0_)), some (.int (Int32.ofInt a1_)), some (.ref (d_ + 12)), none]) rfl (by decide) rfl (zdal_p dlB_T_sort_14 (i := 3) rfl) ?_
  refine zw_aload_n (pc := 8) (n := 3) (x := (d_ + 12)) rfl (zdal_p dlB_T_sort_14 (i := 4) rfl) ?_
  refine zw_iload_n (pc := 9) (n := 1) (x := Int32.ofInt a0_) rfl (zdal_p dlB_T_sort_14 (i := 5) rfl) ?_
  refine zk_callV hf.x (pc := 10) [.int (Int32.ofInt a0_)] [] l_T_143 (u_Sorts_hasSortG l d_ Mz (hf.w hW) a0_ ha0_a ha0_b) rfl rfl ((hf.w hW).kr (o := 12) (by decide)) (by decide) (by decide) (Nat.le_of_ble_eq_true rfl) (zdal_p dlB_T_sort_14 (i := 6) rfl) ?_
  rintro _ N1_ ⟨v2_, rfl, ⟨hv2_a, hv2_b⟩, hsN1_, hp0_N1_⟩
  obtain rfl := hsN1_.eq.symm
  replace hp0_N1_ : ((v2_ = 1 ∧ 0 ≤ a0_ ∧ a0_ < ze Mz (d_ + 12) 7) ∨ (v2_ = 0 ∧ (a0_ < 0 ∨ ze Mz (d_ + 12) 7 ≤ a0_))) := hp0_N1_
  rcases hp0_N1_ with ⟨rfl, ha10_0_hp0_N1_, ha10_1_hp0_N1_⟩ | ⟨rfl, ha10_0_hp0_N1_⟩
  · skip
    show zW l m_T_sort (zn Mz + 0, zw Mz + 0) Mz 13 [some (.ref 0), some (.int (Int32.ofInt a0_)), some (.int (Int32.ofInt a1_)), some (.ref (d_ + 12)), none] [.int (Int32.ofInt 1)] _
    refine zr_if_ne (pc := 13) (tgt := 18) ⟨(by decide), (by decide)⟩ (by decide) (zdal_p dlB_T_sort_14 (i := 7) rfl) (fun hc_13 => ?_) (fun hc_13 => ?_)
    · skip
      refine zw_aload_n (pc := 18) (n := 3) (x := (d_ + 12)) rfl (zdal_p dlB_T_sort_14 (i := 10) rfl) ?_
      refine zw_getF (pc := 19) f_T_146 rfl ((hf.w hW).kr (o := 12) (by decide)) ((hf.w hW).lr (o := 12) (s := 4) (r := 19) (by decide)) (zdal_p dlB_T_sort_14 (i := 11) rfl) ?_
      refine zw_iload_n (pc := 22) (n := 1) (x := Int32.ofInt a0_) rfl (zdal_p dlB_T_sort_14 (i := 12) rfl) ?_
      refine zk_at hf.x (pc := 23) l_T_118 ((hf.w hW).kr (o := 19) (by decide)) ((hf.w hW).lr (o := 19) (s := 0) (r := 20) (by decide)) ((hf.w hW).rr (o := 20) (t := 1) (n := 27) (by decide)) (by decide) (by omega) (by omega) (by decide) (Nat.le_of_ble_eq_true rfl) (zdal_p dlB_T_sort_14 (i := 13) rfl) (fun v3_ hv3_ hv3_a hv3_b => ?_)
      have hfv_ := hv3_
      have hfw_ : v3_ = (((gFn T_ (a0_).toNat) : Nat) : Int) := hfv_.trans (p1_.2 _ (by omega))
      have hfm_ := (hO_.2.2.1.2.1 _ (gFn_m (T := T_) (i := (a0_).toNat) (by omega))).1
      have hfb_ := gS_b hO_ hfm_
      have hft_ : (v3_).toNat = (gFn T_ (a0_).toNat) := by omega
      refine zw_istore (pc := 26) (i := 4) (L2 := [some (.ref 0), some (.int (Int32.ofInt a0_)), some (.int (Int32.ofInt a1_)), some (.ref (d_ + 12)), some (.int (Int32.ofInt v3_))]) (by decide) rfl (zdal_p dlB_T_sort_14 (i := 14) rfl) ?_
      refine zw_iload_n (pc := 28) (n := 2) (x := Int32.ofInt a1_) rfl (zdal_p dlB_T_sort_14 (i := 15) rfl) ?_
      by_cases hs_29_0 : a1_ = 0
      · refine zr_tabIn (c := 0) (off := 39) (tgt := 68) ⟨by decide, by decide⟩ hs_29_0 (by decide) (by decide) rfl (by decide) d_T_sort_29 ?_
        refine zw_iload (pc := 68) (i := 4) (x := Int32.ofInt v3_) rfl (zdal_p dlB_T_sort_14 (i := 17) rfl) ?_
        refine zr_callS hf.x (pc := 70) [.int (Int32.ofInt v3_)] [] l_T_149 (u_Integer_bitCount l d_ Mz (hf.w hW) v3_ hv3_a hv3_b (show 0 ≤ v3_ by first | with_reducible assumption | assumption | omega)) rfl rfl (by decide) (Nat.le_of_ble_eq_true rfl) (zdal_p dlB_T_sort_14 (i := 18) rfl) ?_
        rintro _ N4_ ⟨v5_, rfl, ⟨hv5_a, hv5_b⟩, hsN4_, ⟨hp0_N4_, hp1_N4_, hp2_N4_⟩⟩
        obtain rfl := hsN4_.eq.symm
        show zW l m_T_sort (zn Mz + 0, zw Mz + 0) Mz 73 [some (.ref 0), some (.int (Int32.ofInt a0_)), some (.int (Int32.ofInt a1_)), some (.ref (d_ + 12)), some (.int (Int32.ofInt v3_))] [.int (Int32.ofInt v5_)] _
        have hbc_ := hp0_N4_
        rw [kbc_g (by omega), hft_] at hbc_
        exact zk_iret (pc := 73) (ty := .int) rfl rfl ⟨by omega, by omega⟩ hf (show ((0 ≤ a0_ ∧ a0_ < ((gF T_).length : Int) ∧ zfSo T_ a0_ (gFn T_ (a0_).toNat) a1_ v5_) ∨ (¬ (0 ≤ a0_ ∧ a0_ < ((gF T_).length : Int)) ∧ v5_ = (-1 : Int))) by exact Or.inl ⟨by omega, by omega, Or.inl ⟨by omega, hbc_⟩⟩) (zdal_p dlB_T_sort_14 (i := 19) rfl)
      by_cases hs_29_1 : a1_ = 1
      · refine zr_tabIn (c := 1) (off := 45) (tgt := 74) ⟨by decide, by decide⟩ hs_29_1 (by decide) (by decide) rfl (by decide) d_T_sort_29 ?_
        refine zw_aload_n (pc := 74) (n := 3) (x := (d_ + 12)) rfl (zdal_p dlB_T_sort_14 (i := 20) rfl) ?_
        refine zw_iload_n (pc := 75) (n := 1) (x := Int32.ofInt a0_) rfl (zdal_p dlB_T_sort_14 (i := 21) rfl) ?_
        refine zk_callV hf.x (pc := 76) [.int (Int32.ofInt a0_)] [] l_T_154 (u_Sorts_countOfG l d_ Mz (hf.w hW) a0_ ha0_a ha0_b T_ hT_ p1_ p2_ (show 0 ≤ a0_ by first | with_reducible assumption | assumption | omega) (show a0_ < (gF T_).length by first | with_reducible assumption | assumption | omega)) rfl rfl ((hf.w hW).kr (o := 12) (by decide)) (by decide) (by decide) (Nat.le_of_ble_eq_true rfl) (zdal_p dlB_T_sort_14 (i := 22) rfl) ?_
        rintro _ N6_ ⟨v7_, rfl, ⟨hv7_a, hv7_b⟩, hsN6_, hp0_N6_⟩
        obtain rfl := hsN6_.eq.symm
        replace hp0_N6_ : zfWi T_ a0_ (2 ^ gN T_ - 1) v7_ := hp0_N6_
        show zW l m_T_sort (zn Mz + 0, zw Mz + 0) Mz 79 [some (.ref 0), some (.int (Int32.ofInt a0_)), some (.int (Int32.ofInt a1_)), some (.ref (d_ + 12)), some (.int (Int32.ofInt v3_))] [.int (Int32.ofInt v7_)] _
        have hco_ := hp0_N6_
        exact zk_iret (pc := 79) (ty := .int) rfl rfl ⟨by omega, by omega⟩ hf (show ((0 ≤ a0_ ∧ a0_ < ((gF T_).length : Int) ∧ zfSo T_ a0_ (gFn T_ (a0_).toNat) a1_ v7_) ∨ (¬ (0 ≤ a0_ ∧ a0_ < ((gF T_).length : Int)) ∧ v7_ = (-1 : Int))) by exact Or.inl ⟨by omega, by omega, Or.inr (Or.inl ⟨by omega, hco_⟩)⟩) (zdal_p dlB_T_sort_14 (i := 23) rfl)
      by_cases hs_29_2 : a1_ = 2
      · refine zr_tabIn (c := 2) (off := 51) (tgt := 80) ⟨by decide, by decide⟩ hs_29_2 (by decide) (by decide) rfl (by decide) d_T_sort_29 ?_
        refine zw_iload (pc := 80) (i := 4) (x := Int32.ofInt v3_) rfl (zdal_p dlB_T_sort_15 (i := 0) rfl) ?_
        exact zk_iret (pc := 82) (ty := .int) rfl rfl ⟨by omega, by omega⟩ hf (show ((0 ≤ a0_ ∧ a0_ < ((gF T_).length : Int) ∧ zfSo T_ a0_ (gFn T_ (a0_).toNat) a1_ v3_) ∨ (¬ (0 ≤ a0_ ∧ a0_ < ((gF T_).length : Int)) ∧ v3_ = (-1 : Int))) by exact Or.inl ⟨by omega, by omega, Or.inr (Or.inr (Or.inl ⟨by omega, hfw_⟩))⟩) (zdal_p dlB_T_sort_15 (i := 1) rfl)
      by_cases hs_29_3 : a1_ = 3
      · refine zr_tabIn (c := 3) (off := 54) (tgt := 83) ⟨by decide, by decide⟩ hs_29_3 (by decide) (by decide) rfl (by decide) d_T_sort_29 ?_
        refine zw_aload_n (pc := 83) (n := 0) (x := 0) rfl (zdal_p dlB_T_sort_15 (i := 2) rfl) ?_
        refine zw_getF (pc := 84) f_T_28 rfl ((hf.w hW).ka (o := 0) (by decide)) (hf.now hnow) (zdal_p dlB_T_sort_15 (i := 3) rfl) ?_
        refine zw_getF (pc := 87) f_T_61 rfl ((hf.w hW).kr (o := 0) (by decide)) ((hf.w hW).lr (o := 0) (s := 0) (r := 1) (by decide)) (zdal_p dlB_T_sort_15 (i := 4) rfl) ?_
        refine zw_iload (pc := 90) (i := 4) (x := Int32.ofInt v3_) rfl (zdal_p dlB_T_sort_15 (i := 5) rfl) ?_
        refine zk_callV hf.x (pc := 92) [.int (Int32.ofInt v3_)] [] l_T_157 (u_Group_normOfG l d_ Mz (hf.w hW) v3_ hv3_a hv3_b T_ hT_ p0_ (show 0 ≤ v3_ by first | with_reducible assumption | assumption | omega) (show (v3_).toNat < 2 ^ gN T_ by rw [hft_]; exact hfb_.1)) rfl rfl ((hf.w hW).kr (o := 1) (by decide)) (by decide) (by decide) (Nat.le_of_ble_eq_true rfl) (zdal_p dlB_T_sort_15 (i := 6) rfl) ?_
        rintro _ N8_ ⟨v9_, rfl, ⟨hv9_a, hv9_b⟩, hsN8_, ⟨hp0_N8_, hp1_N8_, hp2_N8_⟩⟩
        obtain rfl := hsN8_.eq.symm
        show zW l m_T_sort (zn Mz + 0, zw Mz + 0) Mz 95 [some (.ref 0), some (.int (Int32.ofInt a0_)), some (.int (Int32.ofInt a1_)), some (.ref (d_ + 12)), some (.int (Int32.ofInt v3_))] [.int (Int32.ofInt v9_)] _
        have hnm_ := hp0_N8_
        rw [hft_] at hnm_
        have hnr_ := zbq_lt (gNb T_ (gFn T_ (a0_).toNat)) (gN T_)
        have hp2_ : 2 ^ gN T_ ≤ 2 ^ 24 := Nat.pow_le_pow_right (by omega) hn24_
        refine zr_callS hf.x (pc := 95) [.int (Int32.ofInt v9_)] [] l_T_149 (u_Integer_bitCount l d_ Mz (hf.w hW) v9_ hv9_a hv9_b (show 0 ≤ v9_ by first | with_reducible assumption | assumption | omega)) rfl rfl (by decide) (Nat.le_of_ble_eq_true rfl) (zdal_p dlB_T_sort_15 (i := 7) rfl) ?_
        rintro _ N10_ ⟨v11_, rfl, ⟨hv11_a, hv11_b⟩, hsN10_, ⟨hp0_N10_, hp1_N10_, hp2_N10_⟩⟩
        obtain rfl := hsN10_.eq.symm
        show zW l m_T_sort (zn Mz + 0, zw Mz + 0) Mz 98 [some (.ref 0), some (.int (Int32.ofInt a0_)), some (.int (Int32.ofInt a1_)), some (.ref (d_ + 12)), some (.int (Int32.ofInt v3_))] [.int (Int32.ofInt v11_)] _
        have hbn_ := hp0_N10_
        rw [kbc_g (by omega), hnm_, Int.toNat_natCast] at hbn_
        exact zk_iret (pc := 98) (ty := .int) rfl rfl ⟨by omega, by omega⟩ hf (show ((0 ≤ a0_ ∧ a0_ < ((gF T_).length : Int) ∧ zfSo T_ a0_ (gFn T_ (a0_).toNat) a1_ v11_) ∨ (¬ (0 ≤ a0_ ∧ a0_ < ((gF T_).length : Int)) ∧ v11_ = (-1 : Int))) by exact Or.inl ⟨by omega, by omega, Or.inr (Or.inr (Or.inr (Or.inl ⟨by omega, hbn_⟩)))⟩) (zdal_p dlB_T_sort_15 (i := 8) rfl)
      by_cases hs_29_4 : a1_ = 4
      · refine zr_tabIn (c := 4) (off := 70) (tgt := 99) ⟨by decide, by decide⟩ hs_29_4 (by decide) (by decide) rfl (by decide) d_T_sort_29 ?_
        refine zw_aload_n (pc := 99) (n := 0) (x := 0) rfl (zdal_p dlB_T_sort_15 (i := 9) rfl) ?_
        refine zw_getF (pc := 100) f_T_28 rfl ((hf.w hW).ka (o := 0) (by decide)) (hf.now hnow) (zdal_p dlB_T_sort_15 (i := 10) rfl) ?_
        refine zw_getF (pc := 103) f_T_61 rfl ((hf.w hW).kr (o := 0) (by decide)) ((hf.w hW).lr (o := 0) (s := 0) (r := 1) (by decide)) (zdal_p dlB_T_sort_15 (i := 11) rfl) ?_
        refine zw_iload (pc := 106) (i := 4) (x := Int32.ofInt v3_) rfl (zdal_p dlB_T_sort_15 (i := 12) rfl) ?_
        refine zk_callV hf.x (pc := 108) [.int (Int32.ofInt v3_)] [] l_T_160 (u_Group_isMadeByOneG l d_ Mz (hf.w hW) v3_ hv3_a hv3_b T_ hT_ p0_ (show 0 ≤ v3_ by first | with_reducible assumption | assumption | omega) (show (v3_).toNat < 2 ^ gN T_ by rw [hft_]; exact hfb_.1)) rfl rfl ((hf.w hW).kr (o := 1) (by decide)) (by decide) (by decide) (Nat.le_of_ble_eq_true rfl) (zdal_p dlB_T_sort_15 (i := 13) rfl) ?_
        rintro _ N12_ ⟨v13_, rfl, ⟨hv13_a, hv13_b⟩, hsN12_, hp0_N12_⟩
        obtain rfl := hsN12_.eq.symm
        replace hp0_N12_ : ((v13_ = 1 ∧ gM1 T_ (v3_).toNat) ∨ (v13_ = 0 ∧ ¬ gM1 T_ (v3_).toNat)) := hp0_N12_
        rcases hp0_N12_ with ⟨rfl, ha108_0_hp0_N12_⟩ | ⟨rfl, ha108_0_hp0_N12_⟩
        · skip
          have hm_ := ha108_0_hp0_N12_
          rw [hft_] at hm_
          show zW l m_T_sort (zn Mz + 0, zw Mz + 0) Mz 111 [some (.ref 0), some (.int (Int32.ofInt a0_)), some (.int (Int32.ofInt a1_)), some (.ref (d_ + 12)), some (.int (Int32.ofInt v3_))] [.int (Int32.ofInt 1)] _
          refine zr_if_eq (pc := 111) (tgt := 118) ⟨(by decide), (by decide)⟩ (by decide) (zdal_p dlB_T_sort_15 (i := 14) rfl) (fun hc_111 => ?_) (fun hc_111 => ?_)
          · skip
            exact absurd hc_111 (by decide)
          · skip
            refine zw_iconst (pc := 114) (v := Int32.ofInt 1) (by decide) (zdal_p dlB_T_sort_15 (i := 15) rfl) ?_
            refine zw_goto (pc := 115) (tgt := 119) (by decide) (zdal_p dlB_T_sort_15 (i := 16) rfl) ?_
            exact zk_iret (pc := 119) (ty := .int) rfl rfl ⟨by omega, by omega⟩ hf (show ((0 ≤ a0_ ∧ a0_ < ((gF T_).length : Int) ∧ zfSo T_ a0_ (gFn T_ (a0_).toNat) a1_ 1) ∨ (¬ (0 ≤ a0_ ∧ a0_ < ((gF T_).length : Int)) ∧ 1 = (-1 : Int))) by exact Or.inl ⟨by omega, by omega, Or.inr (Or.inr (Or.inr (Or.inr (Or.inl ⟨by omega, by first | exact Or.inl ⟨by omega, hm_⟩ | exact Or.inr ⟨by omega, hm_⟩⟩))))⟩) (zdal_p dlB_T_sort_15 (i := 18) rfl)
        · skip
          have hm_ := ha108_0_hp0_N12_
          rw [hft_] at hm_
          show zW l m_T_sort (zn Mz + 0, zw Mz + 0) Mz 111 [some (.ref 0), some (.int (Int32.ofInt a0_)), some (.int (Int32.ofInt a1_)), some (.ref (d_ + 12)), some (.int (Int32.ofInt v3_))] [.int (Int32.ofInt 0)] _
          refine zr_if_eq (pc := 111) (tgt := 118) ⟨(by decide), (by decide)⟩ (by decide) (zdal_p dlB_T_sort_15 (i := 14) rfl) (fun hc_111 => ?_) (fun hc_111 => ?_)
          · skip
            refine zw_iconst (pc := 118) (v := Int32.ofInt 0) (by decide) (zdal_p dlB_T_sort_15 (i := 17) rfl) ?_
            exact zk_iret (pc := 119) (ty := .int) rfl rfl ⟨by omega, by omega⟩ hf (show ((0 ≤ a0_ ∧ a0_ < ((gF T_).length : Int) ∧ zfSo T_ a0_ (gFn T_ (a0_).toNat) a1_ 0) ∨ (¬ (0 ≤ a0_ ∧ a0_ < ((gF T_).length : Int)) ∧ 0 = (-1 : Int))) by exact Or.inl ⟨by omega, by omega, Or.inr (Or.inr (Or.inr (Or.inr (Or.inl ⟨by omega, by first | exact Or.inl ⟨by omega, hm_⟩ | exact Or.inr ⟨by omega, hm_⟩⟩))))⟩) (zdal_p dlB_T_sort_15 (i := 18) rfl)
          · skip
            exact absurd hc_111 (by decide)
      by_cases hs_29_5 : a1_ = 5
      · refine zr_tabIn (c := 5) (off := 91) (tgt := 120) ⟨by decide, by decide⟩ hs_29_5 (by decide) (by decide) rfl (by decide) d_T_sort_29 ?_
        refine zw_aload_n (pc := 120) (n := 0) (x := 0) rfl (zdal_p dlB_T_sort_15 (i := 19) rfl) ?_
        refine zw_getF (pc := 121) f_T_28 rfl ((hf.w hW).ka (o := 0) (by decide)) (hf.now hnow) (zdal_p dlB_T_sort_15 (i := 20) rfl) ?_
        refine zw_getF (pc := 124) f_T_61 rfl ((hf.w hW).kr (o := 0) (by decide)) ((hf.w hW).lr (o := 0) (s := 0) (r := 1) (by decide)) (zdal_p dlB_T_sort_15 (i := 21) rfl) ?_
        refine zw_iload (pc := 127) (i := 4) (x := Int32.ofInt v3_) rfl (zdal_p dlB_T_sort_15 (i := 22) rfl) ?_
        refine zk_callV hf.x (pc := 129) [.int (Int32.ofInt v3_)] [] l_T_101 (u_Group_isCommutingG l d_ Mz (hf.w hW) v3_ hv3_a hv3_b T_ hT_ p0_ (show 0 ≤ v3_ by first | with_reducible assumption | assumption | omega) (show (v3_).toNat < 2 ^ gN T_ by rw [hft_]; exact hfb_.1)) rfl rfl ((hf.w hW).kr (o := 1) (by decide)) (by decide) (by decide) (Nat.le_of_ble_eq_true rfl) (zdal_p dlB_T_sort_15 (i := 23) rfl) ?_
        rintro _ N14_ ⟨v15_, rfl, ⟨hv15_a, hv15_b⟩, hsN14_, hp0_N14_⟩
        obtain rfl := hsN14_.eq.symm
        replace hp0_N14_ : ((v15_ = 1 ∧ gAb T_ (v3_).toNat) ∨ (v15_ = 0 ∧ ¬ gAb T_ (v3_).toNat)) := hp0_N14_
        rcases hp0_N14_ with ⟨rfl, ha129_0_hp0_N14_⟩ | ⟨rfl, ha129_0_hp0_N14_⟩
        · skip
          have hm_ := ha129_0_hp0_N14_
          rw [hft_] at hm_
          show zW l m_T_sort (zn Mz + 0, zw Mz + 0) Mz 132 [some (.ref 0), some (.int (Int32.ofInt a0_)), some (.int (Int32.ofInt a1_)), some (.ref (d_ + 12)), some (.int (Int32.ofInt v3_))] [.int (Int32.ofInt 1)] _
          refine zr_if_eq (pc := 132) (tgt := 139) ⟨(by decide), (by decide)⟩ (by decide) (zdal_p dlB_T_sort_16 (i := 0) rfl) (fun hc_132 => ?_) (fun hc_132 => ?_)
          · skip
            exact absurd hc_132 (by decide)
          · skip
            refine zw_iconst (pc := 135) (v := Int32.ofInt 1) (by decide) (zdal_p dlB_T_sort_16 (i := 1) rfl) ?_
            refine zw_goto (pc := 136) (tgt := 140) (by decide) (zdal_p dlB_T_sort_16 (i := 2) rfl) ?_
            exact zk_iret (pc := 140) (ty := .int) rfl rfl ⟨by omega, by omega⟩ hf (show ((0 ≤ a0_ ∧ a0_ < ((gF T_).length : Int) ∧ zfSo T_ a0_ (gFn T_ (a0_).toNat) a1_ 1) ∨ (¬ (0 ≤ a0_ ∧ a0_ < ((gF T_).length : Int)) ∧ 1 = (-1 : Int))) by exact Or.inl ⟨by omega, by omega, Or.inr (Or.inr (Or.inr (Or.inr (Or.inr (Or.inl ⟨by omega, by first | exact Or.inl ⟨by omega, hm_⟩ | exact Or.inr ⟨by omega, hm_⟩⟩)))))⟩) (zdal_p dlB_T_sort_16 (i := 4) rfl)
        · skip
          have hm_ := ha129_0_hp0_N14_
          rw [hft_] at hm_
          show zW l m_T_sort (zn Mz + 0, zw Mz + 0) Mz 132 [some (.ref 0), some (.int (Int32.ofInt a0_)), some (.int (Int32.ofInt a1_)), some (.ref (d_ + 12)), some (.int (Int32.ofInt v3_))] [.int (Int32.ofInt 0)] _
          refine zr_if_eq (pc := 132) (tgt := 139) ⟨(by decide), (by decide)⟩ (by decide) (zdal_p dlB_T_sort_16 (i := 0) rfl) (fun hc_132 => ?_) (fun hc_132 => ?_)
          · skip
            refine zw_iconst (pc := 139) (v := Int32.ofInt 0) (by decide) (zdal_p dlB_T_sort_16 (i := 3) rfl) ?_
            exact zk_iret (pc := 140) (ty := .int) rfl rfl ⟨by omega, by omega⟩ hf (show ((0 ≤ a0_ ∧ a0_ < ((gF T_).length : Int) ∧ zfSo T_ a0_ (gFn T_ (a0_).toNat) a1_ 0) ∨ (¬ (0 ≤ a0_ ∧ a0_ < ((gF T_).length : Int)) ∧ 0 = (-1 : Int))) by exact Or.inl ⟨by omega, by omega, Or.inr (Or.inr (Or.inr (Or.inr (Or.inr (Or.inl ⟨by omega, by first | exact Or.inl ⟨by omega, hm_⟩ | exact Or.inr ⟨by omega, hm_⟩⟩)))))⟩) (zdal_p dlB_T_sort_16 (i := 4) rfl)
          · skip
            exact absurd hc_132 (by decide)
      refine zr_tabOut (tgt := 141) ⟨ha1_a, ha1_b⟩ (by omega) (by decide) d_T_sort_29 ?_
      refine zw_iconst (pc := 141) (v := Int32.ofInt (-1)) (by decide) (zdal_p dlB_T_sort_16 (i := 5) rfl) ?_
      exact zk_iret (pc := 142) (ty := .int) rfl rfl ⟨by omega, by omega⟩ hf (show ((0 ≤ a0_ ∧ a0_ < ((gF T_).length : Int) ∧ zfSo T_ a0_ (gFn T_ (a0_).toNat) a1_ ((-1))) ∨ (¬ (0 ≤ a0_ ∧ a0_ < ((gF T_).length : Int)) ∧ ((-1)) = (-1 : Int))) by exact Or.inl ⟨by omega, by omega, Or.inr (Or.inr (Or.inr (Or.inr (Or.inr (Or.inr ⟨by omega, rfl⟩)))))⟩) (zdal_p dlB_T_sort_16 (i := 6) rfl)
    · skip
      exact absurd hc_13 (by decide)
  · skip
    show zW l m_T_sort (zn Mz + 0, zw Mz + 0) Mz 13 [some (.ref 0), some (.int (Int32.ofInt a0_)), some (.int (Int32.ofInt a1_)), some (.ref (d_ + 12)), none] [.int (Int32.ofInt 0)] _
    refine zr_if_ne (pc := 13) (tgt := 18) ⟨(by decide), (by decide)⟩ (by decide) (zdal_p dlB_T_sort_14 (i := 7) rfl) (fun hc_13 => ?_) (fun hc_13 => ?_)
    · skip
      exact absurd hc_13 (by decide)
    · skip
      refine zw_iconst (pc := 16) (v := Int32.ofInt (-1)) (by decide) (zdal_p dlB_T_sort_14 (i := 8) rfl) ?_
      exact zk_iret (pc := 17) (ty := .int) rfl rfl ⟨by omega, by omega⟩ hf (show ((0 ≤ a0_ ∧ a0_ < ((gF T_).length : Int) ∧ zfSo T_ a0_ (gFn T_ (a0_).toNat) a1_ ((-1))) ∨ (¬ (0 ≤ a0_ ∧ a0_ < ((gF T_).length : Int)) ∧ ((-1)) = (-1 : Int))) by exact Or.inr ⟨by omega, rfl⟩) (zdal_p dlB_T_sort_14 (i := 9) rfl)
