set_option maxHeartbeats 4000000 in
theorem u_Tokens_isBlankX (l : Launch) (d_ : Nat) (Mz : zMem) (hW : zKW d_ Mz) (a0_ : Int) (ha0_a : -2147483648 ≤ a0_) (ha0_b : a0_ < 2147483648) : zC l m_Tokens_isBlank 0 0 [.int (Int32.ofInt a0_)] Mz (zqcI d_ [] [] [] [] Mz (fun v N => ((v = 0 ∨ v = 1)))) := by
  refine zC_of (L0 := [some (.int (Int32.ofInt a0_))]) md_Tokens_isBlank (Nat.le_of_ble_eq_true rfl) rfl ?_ zQ0
  have hf : zFc d_ [] [] [] [] Mz Mz := zFc.rf
  refine zw_iload_n (pc := 0) (n := 0) (x := Int32.ofInt a0_) rfl (zdal_p dlA_Tokens_isBlank_76 (i := 0) rfl) ?_
  refine zw_bipush (pc := 1) (v := Int32.ofInt 32) (by decide) (zdal_p dlA_Tokens_isBlank_76 (i := 1) rfl) ?_
  refine zr_icmp_eq (pc := 3) (tgt := 12) ⟨ha0_a, ha0_b⟩ ⟨(by decide), (by decide)⟩ (by decide) (zdal_p dlA_Tokens_isBlank_76 (i := 2) rfl) (fun hc_3 => ?_) (fun hc_3 => ?_)
  · skip
    refine zw_iconst (pc := 12) (v := Int32.ofInt 1) (by decide) (zdal_p dlA_Tokens_isBlank_76 (i := 6) rfl) ?_
    refine zw_goto (pc := 13) (tgt := 17) (by decide) (zdal_p dlA_Tokens_isBlank_76 (i := 7) rfl) ?_
    exact zk_iret (pc := 17) (ty := .boolean) rfl (z_narB (by (decide))) ⟨by (decide), by (decide)⟩ hf (show (((1 : Int)) = 0 ∨ ((1 : Int)) = 1) by first | with_reducible assumption | (decide) | assumption) d_Tokens_isBlank_17
  · skip
    refine zw_iload_n (pc := 6) (n := 0) (x := Int32.ofInt a0_) rfl (zdal_p dlA_Tokens_isBlank_76 (i := 3) rfl) ?_
    refine zw_bipush (pc := 7) (v := Int32.ofInt 10) (by decide) (zdal_p dlA_Tokens_isBlank_76 (i := 4) rfl) ?_
    refine zr_icmp_ne (pc := 9) (tgt := 16) ⟨ha0_a, ha0_b⟩ ⟨(by decide), (by decide)⟩ (by decide) (zdal_p dlA_Tokens_isBlank_76 (i := 5) rfl) (fun hc_9 => ?_) (fun hc_9 => ?_)
    · skip
      refine zw_iconst (pc := 16) (v := Int32.ofInt 0) (by decide) (zdal_p dlA_Tokens_isBlank_76 (i := 8) rfl) ?_
      exact zk_iret (pc := 17) (ty := .boolean) rfl (z_narB (by (decide))) ⟨by (decide), by (decide)⟩ hf (show (((0 : Int)) = 0 ∨ ((0 : Int)) = 1) by first | with_reducible assumption | (decide) | assumption) d_Tokens_isBlank_17
    · skip
      refine zw_iconst (pc := 12) (v := Int32.ofInt 1) (by decide) (zdal_p dlA_Tokens_isBlank_76 (i := 6) rfl) ?_
      refine zw_goto (pc := 13) (tgt := 17) (by decide) (zdal_p dlA_Tokens_isBlank_76 (i := 7) rfl) ?_
      exact zk_iret (pc := 17) (ty := .boolean) rfl (z_narB (by (decide))) ⟨by (decide), by (decide)⟩ hf (show (((1 : Int)) = 0 ∨ ((1 : Int)) = 1) by first | with_reducible assumption | (decide) | assumption) d_Tokens_isBlank_17
set_option maxHeartbeats 4000000 in
theorem u_Tokens_pastBlanksX (l : Launch) (d_ : Nat) (Mz : zMem) (hW : zKW d_ Mz) (a0_ : Int) (ha0_a : -2147483648 ≤ a0_) (ha0_b : a0_ < 2147483648) : zC l m_Tokens_pastBlanks 0 0 [.ref 1, .int (Int32.ofInt a0_)] Mz (zqcI d_ [] [] [] [] Mz (fun v N => True)) := by
  refine zC_of (L0 := [some (.ref 1), some (.int (Int32.ofInt a0_)), none]) md_Tokens_pastBlanks (Nat.le_of_ble_eq_true rfl) rfl ?_ zQ0
  have hf : zFc d_ [] [] [] [] Mz Mz := zFc.rf
  refine zw_iload_n (pc := 0) (n := 1) (x := Int32.ofInt a0_) rfl (zdal_p dlA_Tokens_pastBlanks_75 (i := 0) rfl) ?_
  refine zw_istore_n (pc := 1) (i := 2) (L2 := [some (.ref 1), some (.int (Int32.ofInt a0_)), some (.int (Int32.ofInt a0_))]) rfl (by decide) rfl (zdal_p dlA_Tokens_pastBlanks_75 (i := 1) rfl) ?_
  have lp_2 : ∀ (n : Nat) (u1_ : Int) (hu1_a : -2147483648 ≤ u1_) (hu1_b : u1_ < 2147483648) (i2_ : a0_ ≤ u1_), (ze Mz 1 1 - u1_).toNat < n → zW l m_Tokens_pastBlanks (zn Mz + 0, zw Mz + 0) Mz 2 [some (.ref 1), some (.int (Int32.ofInt a0_)), some (.int (Int32.ofInt u1_))] [] (zqcI d_ [] [] [] [] Mz (fun v N => True)) := by
    intro n
    induction n with
    | zero =>
      intro u1_ hu1_a hu1_b i2_ h0
      exact absurd h0 (Nat.not_lt_zero _)
    | succ n ih_2 =>
      intro u1_ hu1_a hu1_b i2_ hlt_2
      refine zw_iload_n (pc := 2) (n := 2) (x := Int32.ofInt u1_) rfl (zdal_p dlA_Tokens_pastBlanks_75 (i := 2) rfl) ?_
      refine zw_aload_n (pc := 3) (n := 0) (x := 1) rfl (zdal_p dlA_Tokens_pastBlanks_75 (i := 3) rfl) ?_
      refine zk_getI (pc := 4) f_Tokens_20 rfl ((hf.w hW).ka (o := 1) (by decide)) (zdal_p dlA_Tokens_pastBlanks_75 (i := 4) rfl) ?_
      have hr3_ := ze_r Mz 1 1
      refine zr_icmp_ge (pc := 7) (tgt := 30) ⟨hu1_a, hu1_b⟩ ⟨(ze_r Mz 1 1).1, (ze_r Mz 1 1).2⟩ (by decide) (zdal_p dlA_Tokens_pastBlanks_75 (i := 5) rfl) (fun hc_7 => ?_) (fun hc_7 => ?_)
      · skip
        refine zw_iload_n (pc := 30) (n := 2) (x := Int32.ofInt u1_) rfl (zdal_p dlA_Tokens_pastBlanks_75 (i := 14) rfl) ?_
        exact zk_iret (pc := 31) (ty := .int) rfl rfl ⟨by (exact hu1_a), by (exact hu1_b)⟩ hf trivial (zdal_p dlA_Tokens_pastBlanks_75 (i := 15) rfl)
      · skip
        refine zw_aload_n (pc := 10) (n := 0) (x := 1) rfl (zdal_p dlA_Tokens_pastBlanks_75 (i := 6) rfl) ?_
        refine zw_getF (pc := 11) f_Tokens_14 rfl ((hf.w hW).ka (o := 1) (by decide)) ((hf.w hW).la (o := 1) (s := 0) (r := 2) (by decide)) (zdal_p dlA_Tokens_pastBlanks_75 (i := 7) rfl) ?_
        refine zw_iload_n (pc := 14) (n := 2) (x := Int32.ofInt u1_) rfl (zdal_p dlA_Tokens_pastBlanks_75 (i := 8) rfl) ?_
        refine zk_atG hf.x (pc := 15) l_Tokens_47 ((hf.w hW).ka (o := 2) (by decide)) ((hf.w hW).la (o := 2) (s := 0) (r := 3) (by decide)) ((hf.w hW).ra (o := 3) (t := 1) (n := 700) (by decide)) (by decide) ⟨by (exact hu1_a), by (exact hu1_b)⟩ (by decide) (Nat.le_of_ble_eq_true rfl) (zdal_p dlA_Tokens_pastBlanks_75 (i := 9) rfl) (fun v4_ hv4_ hv4_a hv4_b => ?_)
        clear hv4_
        refine zr_callS hf.x (pc := 18) [.int (Int32.ofInt v4_)] [] l_Tokens_73 (u_Tokens_isBlankX l d_ Mz (hf.w hW) v4_ hv4_a hv4_b) rfl rfl (by decide) (Nat.le_of_ble_eq_true rfl) (zdal_p dlA_Tokens_pastBlanks_75 (i := 10) rfl) ?_
        rintro _ N5_ ⟨v6_, rfl, ⟨hv6_a, hv6_b⟩, hsN5_, hp0_N5_⟩
        obtain rfl := hsN5_.eq.symm
        replace hp0_N5_ : (v6_ = 0 ∨ v6_ = 1) := hp0_N5_
        show zW l m_Tokens_pastBlanks (zn Mz + 0, zw Mz + 0) Mz 21 [some (.ref 1), some (.int (Int32.ofInt a0_)), some (.int (Int32.ofInt u1_))] [.int (Int32.ofInt v6_)] _
        refine zr_if_eq (pc := 21) (tgt := 30) ⟨hv6_a, hv6_b⟩ (by decide) (zdal_p dlA_Tokens_pastBlanks_75 (i := 11) rfl) (fun hc_21 => ?_) (fun hc_21 => ?_)
        · skip
          refine zw_iload_n (pc := 30) (n := 2) (x := Int32.ofInt u1_) rfl (zdal_p dlA_Tokens_pastBlanks_75 (i := 14) rfl) ?_
          exact zk_iret (pc := 31) (ty := .int) rfl rfl ⟨by (exact hu1_a), by (exact hu1_b)⟩ hf trivial (zdal_p dlA_Tokens_pastBlanks_75 (i := 15) rfl)
        · skip
          refine zr_iinc (pc := 24) (i := 2) (a := u1_) (n := 1) (L2 := [some (.ref 1), some (.int (Int32.ofInt a0_)), some (.int (Int32.ofInt (u1_ + 1)))]) rfl (by decide) rfl (zdal_p dlA_Tokens_pastBlanks_75 (i := 12) rfl) ?_
          obtain ⟨v7_, hv7_a, hv7_b, hv7_e, hv7_d⟩ := zk_gen (u1_ + 1)
          rw [hv7_e]
          refine zw_goto (pc := 27) (tgt := 2) (by decide) (zdal_p dlA_Tokens_pastBlanks_75 (i := 13) rfl) ?_
          exact ih_2 v7_ hv7_a hv7_b (show a0_ ≤ v7_ by first | with_reducible assumption | assumption | omega) (by omega)
  exact lp_2 _ a0_ ha0_a ha0_b (show a0_ ≤ a0_ by first | with_reducible assumption | (exact zo_628) | assumption) (Nat.lt_succ_self _)
set_option maxHeartbeats 4000000 in
theorem u_Tokens_isLetterX (l : Launch) (d_ : Nat) (Mz : zMem) (hW : zKW d_ Mz) (a0_ : Int) (ha0_a : -2147483648 ≤ a0_) (ha0_b : a0_ < 2147483648) : zC l m_Tokens_isLetter 0 0 [.int (Int32.ofInt a0_)] Mz (zqcI d_ [] [] [] [] Mz (fun v N => ((v = 0 ∨ v = 1)))) := by
  refine zC_of (L0 := [some (.int (Int32.ofInt a0_))]) md_Tokens_isLetter (Nat.le_of_ble_eq_true rfl) rfl ?_ zQ0
  have hf : zFc d_ [] [] [] [] Mz Mz := zFc.rf
  refine zw_iload_n (pc := 0) (n := 0) (x := Int32.ofInt a0_) rfl (zdal_p dlA_Tokens_isLetter_77 (i := 0) rfl) ?_
  refine zw_bipush (pc := 1) (v := Int32.ofInt 97) (by decide) (zdal_p dlA_Tokens_isLetter_77 (i := 1) rfl) ?_
  refine zr_icmp_lt (pc := 3) (tgt := 16) ⟨ha0_a, ha0_b⟩ ⟨(by decide), (by decide)⟩ (by decide) (zdal_p dlA_Tokens_isLetter_77 (i := 2) rfl) (fun hc_3 => ?_) (fun hc_3 => ?_)
  · skip
    refine zw_iconst (pc := 16) (v := Int32.ofInt 0) (by decide) (zdal_p dlA_Tokens_isLetter_77 (i := 8) rfl) ?_
    exact zk_iret (pc := 17) (ty := .boolean) rfl (z_narB (by (decide))) ⟨by (decide), by (decide)⟩ hf (show (((0 : Int)) = 0 ∨ ((0 : Int)) = 1) by first | with_reducible assumption | (decide) | assumption) d_Tokens_isLetter_17
  · skip
    refine zw_iload_n (pc := 6) (n := 0) (x := Int32.ofInt a0_) rfl (zdal_p dlA_Tokens_isLetter_77 (i := 3) rfl) ?_
    refine zw_bipush (pc := 7) (v := Int32.ofInt 122) (by decide) (zdal_p dlA_Tokens_isLetter_77 (i := 4) rfl) ?_
    refine zr_icmp_gt (pc := 9) (tgt := 16) ⟨ha0_a, ha0_b⟩ ⟨(by decide), (by decide)⟩ (by decide) (zdal_p dlA_Tokens_isLetter_77 (i := 5) rfl) (fun hc_9 => ?_) (fun hc_9 => ?_)
    · skip
      refine zw_iconst (pc := 16) (v := Int32.ofInt 0) (by decide) (zdal_p dlA_Tokens_isLetter_77 (i := 8) rfl) ?_
      exact zk_iret (pc := 17) (ty := .boolean) rfl (z_narB (by (decide))) ⟨by (decide), by (decide)⟩ hf (show (((0 : Int)) = 0 ∨ ((0 : Int)) = 1) by first | with_reducible assumption | (decide) | assumption) d_Tokens_isLetter_17
    · skip
      refine zw_iconst (pc := 12) (v := Int32.ofInt 1) (by decide) (zdal_p dlA_Tokens_isLetter_77 (i := 6) rfl) ?_
      refine zw_goto (pc := 13) (tgt := 17) (by decide) (zdal_p dlA_Tokens_isLetter_77 (i := 7) rfl) ?_
      exact zk_iret (pc := 17) (ty := .boolean) rfl (z_narB (by (decide))) ⟨by (decide), by (decide)⟩ hf (show (((1 : Int)) = 0 ∨ ((1 : Int)) = 1) by first | with_reducible assumption | (decide) | assumption) d_Tokens_isLetter_17
set_option maxHeartbeats 4000000 in
theorem u_Tokens_readWordX (l : Launch) (d_ : Nat) (Mz : zMem) (hW : zKW d_ Mz) : zC l m_Tokens_readWord 0 0 [.ref 1] Mz (zqcV d_ [(1, 3), (1, 4), (1, 5)] [] [] [] Mz (fun N => True)) := by
  refine zC_of (L0 := [some (.ref 1)]) md_Tokens_readWord (Nat.le_of_ble_eq_true rfl) rfl ?_ zQ0
  have hf : zFc d_ [(1, 3), (1, 4), (1, 5)] [] [] [] Mz Mz := zFc.rf
  have r_A1_1 := ze_r Mz 1 1
  have r_A1_3 := ze_r Mz 1 3
  have lp_0 : ∀ (n : Nat) (N1_ : zMem) (hs2_ : zFc d_ [(1, 3), (1, 5)] [] [] [] Mz N1_), (ze N1_ 1 1 - ze N1_ 1 3).toNat < n → zW l m_Tokens_readWord (zn Mz + 0, zw Mz + 0) N1_ 0 [some (.ref 1)] [] (zqcV d_ [(1, 3), (1, 4), (1, 5)] [] [] [] Mz (fun N => True)) := by
    intro n
    induction n with
    | zero =>
      intro N1_ hs2_ h0
      exact absurd h0 (Nat.not_lt_zero _)
    | succ n ih_0 =>
      intro N1_ hs2_ hlt_0
      have hf_N1_ : zFc d_ [(1, 3), (1, 4), (1, 5)] [] [] [] Mz N1_ := hf.tr hs2_ (by decide) (by decide) (by decide) (by decide)
      have eA1_1_N1_ : ze N1_ 1 1 = ze Mz 1 1 := hs2_.ea (hf.w hW) (by decide)
      have rA1_3_N1_ := ze_r N1_ 1 3
      refine zw_aload_n (pc := 0) (n := 0) (x := 1) rfl (zdal_p dlA_Tokens_readWord_78 (i := 0) rfl) ?_
      refine zk_getI (pc := 1) f_Tokens_28 rfl ((hf_N1_.w hW).ka (o := 1) (by decide)) (zdal_p dlA_Tokens_readWord_78 (i := 1) rfl) ?_
      have hr3_ := ze_r N1_ 1 3
      refine zw_aload_n (pc := 4) (n := 0) (x := 1) rfl (zdal_p dlA_Tokens_readWord_78 (i := 2) rfl) ?_
      refine zk_getI (pc := 5) f_Tokens_20 rfl ((hf_N1_.w hW).ka (o := 1) (by decide)) (zdal_p dlA_Tokens_readWord_78 (i := 3) rfl) ?_
      rw [hf_N1_.ea hW (by decide)]
      refine zr_icmp_ge (pc := 8) (tgt := 69) ⟨(ze_r N1_ 1 3).1, (ze_r N1_ 1 3).2⟩ ⟨(ze_r Mz 1 1).1, (ze_r Mz 1 1).2⟩ (by decide) (zdal_p dlA_Tokens_readWord_78 (i := 4) rfl) (fun hc_8 => ?_) (fun hc_8 => ?_)
      · skip
        refine zw_aload_n (pc := 69) (n := 0) (x := 1) rfl (zdal_p dlA_Tokens_readWord_79 (i := 11) rfl) ?_
        refine zw_aload_n (pc := 70) (n := 0) (x := 1) rfl (zdal_p dlA_Tokens_readWord_79 (i := 12) rfl) ?_
        refine zk_getI (pc := 71) f_Tokens_28 rfl ((hf_N1_.w hW).ka (o := 1) (by decide)) (zdal_p dlA_Tokens_readWord_79 (i := 13) rfl) ?_
        refine zw_aload_n (pc := 74) (n := 0) (x := 1) rfl (zdal_p dlA_Tokens_readWord_79 (i := 14) rfl) ?_
        refine zk_getI (pc := 75) f_Tokens_38 rfl ((hf_N1_.w hW).ka (o := 1) (by decide)) (zdal_p dlA_Tokens_readWord_79 (i := 15) rfl) ?_
        rw [hf_N1_.ea hW (by decide)]
        have hr4_ := ze_r Mz 1 2
        refine zr_isub (pc := 78) (zdal_p dlA_Tokens_readWord_79 (i := 16) rfl) ?_
        refine zr_nmI (fun v5_ hv5_ => ?_)
        obtain ⟨hv5_a, hv5_b⟩ := hv5_
        refine zw_bipush (pc := 79) (v := Int32.ofInt 6) (by decide) (zdal_p dlA_Tokens_readWord_79 (i := 17) rfl) ?_
        refine zr_icmp_gt (pc := 81) (tgt := 88) ⟨hv5_a, hv5_b⟩ ⟨(by decide), (by decide)⟩ (by decide) (zdal_p dlA_Tokens_readWord_79 (i := 18) rfl) (fun hc_81 => ?_) (fun hc_81 => ?_)
        · skip
          refine zw_iconst (pc := 88) (v := Int32.ofInt 4) (by decide) (zdal_p dlA_Tokens_readWord_79 (i := 21) rfl) ?_
          refine zk_putA (pc := 89) (hf_N1_.w hW) (by decide) f_Tokens_44 rfl rfl ((hf_N1_.w hW).ka (o := 1) (by decide)) ⟨by (decide), by (decide)⟩ rfl rfl d_Tokens_readWord_89 (fun N6_ hsN6_ hvN6_ => ?_)
          have hf_N6_ : zFc d_ [(1, 3), (1, 4), (1, 5)] [] [] [] Mz N6_ := hf_N1_.tr hsN6_ (by decide) (by decide) (by decide) (by decide)
          have eA1_1_N6_ : ze N6_ 1 1 = ze N1_ 1 1 := hsN6_.ea (hf_N1_.w hW) (by decide)
          have eA1_3_N6_ : ze N6_ 1 3 = ze N1_ 1 3 := hsN6_.ea (hf_N1_.w hW) (by decide)
          exact zk_vret (pc := 92) rfl hf_N6_ trivial d_Tokens_readWord_92
        · skip
          refine zw_iconst (pc := 84) (v := Int32.ofInt 1) (by decide) (zdal_p dlA_Tokens_readWord_79 (i := 19) rfl) ?_
          refine zw_goto (pc := 85) (tgt := 89) (by decide) (zdal_p dlA_Tokens_readWord_79 (i := 20) rfl) ?_
          refine zk_putA (pc := 89) (hf_N1_.w hW) (by decide) f_Tokens_44 rfl rfl ((hf_N1_.w hW).ka (o := 1) (by decide)) ⟨by (decide), by (decide)⟩ rfl rfl d_Tokens_readWord_89 (fun N7_ hsN7_ hvN7_ => ?_)
          have hf_N7_ : zFc d_ [(1, 3), (1, 4), (1, 5)] [] [] [] Mz N7_ := hf_N1_.tr hsN7_ (by decide) (by decide) (by decide) (by decide)
          have eA1_1_N7_ : ze N7_ 1 1 = ze N1_ 1 1 := hsN7_.ea (hf_N1_.w hW) (by decide)
          have eA1_3_N7_ : ze N7_ 1 3 = ze N1_ 1 3 := hsN7_.ea (hf_N1_.w hW) (by decide)
          exact zk_vret (pc := 92) rfl hf_N7_ trivial d_Tokens_readWord_92
      · skip
        refine zw_aload_n (pc := 11) (n := 0) (x := 1) rfl (zdal_p dlA_Tokens_readWord_78 (i := 5) rfl) ?_
        refine zw_getF (pc := 12) f_Tokens_14 rfl ((hf_N1_.w hW).ka (o := 1) (by decide)) ((hf_N1_.w hW).la (o := 1) (s := 0) (r := 2) (by decide)) (zdal_p dlA_Tokens_readWord_78 (i := 6) rfl) ?_
        refine zw_aload_n (pc := 15) (n := 0) (x := 1) rfl (zdal_p dlA_Tokens_readWord_78 (i := 7) rfl) ?_
        refine zk_getI (pc := 16) f_Tokens_28 rfl ((hf_N1_.w hW).ka (o := 1) (by decide)) (zdal_p dlA_Tokens_readWord_78 (i := 8) rfl) ?_
        refine zk_atG hf_N1_.x (pc := 19) l_Tokens_47 ((hf_N1_.w hW).ka (o := 2) (by decide)) ((hf_N1_.w hW).la (o := 2) (s := 0) (r := 3) (by decide)) ((hf_N1_.w hW).ra (o := 3) (t := 1) (n := 700) (by decide)) (by decide) ⟨by (exact zo_284 rA1_3_N1_.1), by (exact zo_285 rA1_3_N1_.2)⟩ (by decide) (Nat.le_of_ble_eq_true rfl) (zdal_p dlA_Tokens_readWord_78 (i := 9) rfl) (fun v8_ hv8_ hv8_a hv8_b => ?_)
        clear hv8_
        refine zr_callS hf_N1_.x (pc := 22) [.int (Int32.ofInt v8_)] [] l_Tokens_50 (u_Tokens_isLetterX l d_ N1_ (hf_N1_.w hW) v8_ hv8_a hv8_b) rfl rfl (by decide) (Nat.le_of_ble_eq_true rfl) (zdal_p dlA_Tokens_readWord_78 (i := 10) rfl) ?_
        rintro _ N9_ ⟨v10_, rfl, ⟨hv10_a, hv10_b⟩, hsN9_, hp0_N9_⟩
        obtain rfl := hsN9_.eq.symm
        replace hp0_N9_ : (v10_ = 0 ∨ v10_ = 1) := hp0_N9_
        show zW l m_Tokens_readWord (zn Mz + 0, zw Mz + 0) N1_ 25 [some (.ref 1)] [.int (Int32.ofInt v10_)] _
        refine zr_if_eq (pc := 25) (tgt := 69) ⟨hv10_a, hv10_b⟩ (by decide) (zdal_p dlA_Tokens_readWord_78 (i := 11) rfl) (fun hc_25 => ?_) (fun hc_25 => ?_)
        · skip
          refine zw_aload_n (pc := 69) (n := 0) (x := 1) rfl (zdal_p dlA_Tokens_readWord_79 (i := 11) rfl) ?_
          refine zw_aload_n (pc := 70) (n := 0) (x := 1) rfl (zdal_p dlA_Tokens_readWord_79 (i := 12) rfl) ?_
          refine zk_getI (pc := 71) f_Tokens_28 rfl ((hf_N1_.w hW).ka (o := 1) (by decide)) (zdal_p dlA_Tokens_readWord_79 (i := 13) rfl) ?_
          refine zw_aload_n (pc := 74) (n := 0) (x := 1) rfl (zdal_p dlA_Tokens_readWord_79 (i := 14) rfl) ?_
          refine zk_getI (pc := 75) f_Tokens_38 rfl ((hf_N1_.w hW).ka (o := 1) (by decide)) (zdal_p dlA_Tokens_readWord_79 (i := 15) rfl) ?_
          rw [hf_N1_.ea hW (by decide)]
          have hr11_ := ze_r Mz 1 2
          refine zr_isub (pc := 78) (zdal_p dlA_Tokens_readWord_79 (i := 16) rfl) ?_
          refine zr_nmI (fun v12_ hv12_ => ?_)
          obtain ⟨hv12_a, hv12_b⟩ := hv12_
          refine zw_bipush (pc := 79) (v := Int32.ofInt 6) (by decide) (zdal_p dlA_Tokens_readWord_79 (i := 17) rfl) ?_
          refine zr_icmp_gt (pc := 81) (tgt := 88) ⟨hv12_a, hv12_b⟩ ⟨(by decide), (by decide)⟩ (by decide) (zdal_p dlA_Tokens_readWord_79 (i := 18) rfl) (fun hc_81 => ?_) (fun hc_81 => ?_)
          · skip
            refine zw_iconst (pc := 88) (v := Int32.ofInt 4) (by decide) (zdal_p dlA_Tokens_readWord_79 (i := 21) rfl) ?_
            refine zk_putA (pc := 89) (hf_N1_.w hW) (by decide) f_Tokens_44 rfl rfl ((hf_N1_.w hW).ka (o := 1) (by decide)) ⟨by (decide), by (decide)⟩ rfl rfl d_Tokens_readWord_89 (fun N13_ hsN13_ hvN13_ => ?_)
            have hf_N13_ : zFc d_ [(1, 3), (1, 4), (1, 5)] [] [] [] Mz N13_ := hf_N1_.tr hsN13_ (by decide) (by decide) (by decide) (by decide)
            have eA1_1_N13_ : ze N13_ 1 1 = ze N1_ 1 1 := hsN13_.ea (hf_N1_.w hW) (by decide)
            have eA1_3_N13_ : ze N13_ 1 3 = ze N1_ 1 3 := hsN13_.ea (hf_N1_.w hW) (by decide)
            exact zk_vret (pc := 92) rfl hf_N13_ trivial d_Tokens_readWord_92
          · skip
            refine zw_iconst (pc := 84) (v := Int32.ofInt 1) (by decide) (zdal_p dlA_Tokens_readWord_79 (i := 19) rfl) ?_
            refine zw_goto (pc := 85) (tgt := 89) (by decide) (zdal_p dlA_Tokens_readWord_79 (i := 20) rfl) ?_
            refine zk_putA (pc := 89) (hf_N1_.w hW) (by decide) f_Tokens_44 rfl rfl ((hf_N1_.w hW).ka (o := 1) (by decide)) ⟨by (decide), by (decide)⟩ rfl rfl d_Tokens_readWord_89 (fun N14_ hsN14_ hvN14_ => ?_)
            have hf_N14_ : zFc d_ [(1, 3), (1, 4), (1, 5)] [] [] [] Mz N14_ := hf_N1_.tr hsN14_ (by decide) (by decide) (by decide) (by decide)
            have eA1_1_N14_ : ze N14_ 1 1 = ze N1_ 1 1 := hsN14_.ea (hf_N1_.w hW) (by decide)
            have eA1_3_N14_ : ze N14_ 1 3 = ze N1_ 1 3 := hsN14_.ea (hf_N1_.w hW) (by decide)
            exact zk_vret (pc := 92) rfl hf_N14_ trivial d_Tokens_readWord_92
        · skip
          refine zw_aload_n (pc := 28) (n := 0) (x := 1) rfl (zdal_p dlA_Tokens_readWord_78 (i := 12) rfl) ?_
          refine zw_aload_n (pc := 29) (n := 0) (x := 1) rfl (zdal_p dlA_Tokens_readWord_78 (i := 13) rfl) ?_
          refine zk_getI (pc := 30) f_Tokens_41 rfl ((hf_N1_.w hW).ka (o := 1) (by decide)) (zdal_p dlA_Tokens_readWord_78 (i := 14) rfl) ?_
          have hr15_ := ze_r N1_ 1 5
          refine zw_bipush (pc := 33) (v := Int32.ofInt 27) (by decide) (zdal_p dlA_Tokens_readWord_78 (i := 15) rfl) ?_
          refine zr_imul (pc := 35) (zdal_p dlA_Tokens_readWord_78 (i := 16) rfl) ?_
          refine zr_nmI (fun v16_ hv16_ => ?_)
          obtain ⟨hv16_a, hv16_b⟩ := hv16_
          refine zw_aload_n (pc := 36) (n := 0) (x := 1) rfl (zdal_p dlA_Tokens_readWord_78 (i := 17) rfl) ?_
          refine zw_getF (pc := 37) f_Tokens_14 rfl ((hf_N1_.w hW).ka (o := 1) (by decide)) ((hf_N1_.w hW).la (o := 1) (s := 0) (r := 2) (by decide)) (zdal_p dlA_Tokens_readWord_78 (i := 18) rfl) ?_
          refine zw_aload_n (pc := 40) (n := 0) (x := 1) rfl (zdal_p dlA_Tokens_readWord_78 (i := 19) rfl) ?_
          refine zk_getI (pc := 41) f_Tokens_28 rfl ((hf_N1_.w hW).ka (o := 1) (by decide)) (zdal_p dlA_Tokens_readWord_78 (i := 20) rfl) ?_
          refine zk_atG hf_N1_.x (pc := 44) l_Tokens_47 ((hf_N1_.w hW).ka (o := 2) (by decide)) ((hf_N1_.w hW).la (o := 2) (s := 0) (r := 3) (by decide)) ((hf_N1_.w hW).ra (o := 3) (t := 1) (n := 700) (by decide)) (by decide) ⟨by (exact zo_284 rA1_3_N1_.1), by (exact zo_285 rA1_3_N1_.2)⟩ (by decide) (Nat.le_of_ble_eq_true rfl) (zdal_p dlA_Tokens_readWord_78 (i := 21) rfl) (fun v17_ hv17_ hv17_a hv17_b => ?_)
          clear hv17_
          refine zr_iadd (pc := 47) (zdal_p dlA_Tokens_readWord_78 (i := 22) rfl) ?_
          refine zr_nmI (fun v18_ hv18_ => ?_)
          obtain ⟨hv18_a, hv18_b⟩ := hv18_
          refine zw_bipush (pc := 48) (v := Int32.ofInt 97) (by decide) (zdal_p dlA_Tokens_readWord_78 (i := 23) rfl) ?_
          refine zr_isub (pc := 50) (zdal_p dlA_Tokens_readWord_79 (i := 0) rfl) ?_
          refine zr_nmI (fun v19_ hv19_ => ?_)
          obtain ⟨hv19_a, hv19_b⟩ := hv19_
          refine zw_iconst (pc := 51) (v := Int32.ofInt 1) (by decide) (zdal_p dlA_Tokens_readWord_79 (i := 1) rfl) ?_
          refine zr_iadd (pc := 52) (zdal_p dlA_Tokens_readWord_79 (i := 2) rfl) ?_
          refine zr_nmI (fun v20_ hv20_ => ?_)
          obtain ⟨hv20_a, hv20_b⟩ := hv20_
          refine zk_putA (pc := 53) (hf_N1_.w hW) (by decide) f_Tokens_41 rfl rfl ((hf_N1_.w hW).ka (o := 1) (by decide)) ⟨by (exact hv20_a), by (exact hv20_b)⟩ rfl rfl (zdal_p dlA_Tokens_readWord_79 (i := 3) rfl) (fun N21_ hsN21_ hvN21_ => ?_)
          have hf_N21_ : zFc d_ [(1, 3), (1, 4), (1, 5)] [] [] [] Mz N21_ := hf_N1_.tr hsN21_ (by decide) (by decide) (by decide) (by decide)
          have hb0_N21_ : zFc d_ [(1, 3), (1, 5)] [] [] [] Mz N21_ := hs2_.tr hsN21_ (by decide) (by decide) (by decide) (by decide)
          have eA1_1_N21_ : ze N21_ 1 1 = ze N1_ 1 1 := hsN21_.ea (hf_N1_.w hW) (by decide)
          have eA1_3_N21_ : ze N21_ 1 3 = ze N1_ 1 3 := hsN21_.ea (hf_N1_.w hW) (by decide)
          refine zw_aload_n (pc := 56) (n := 0) (x := 1) rfl (zdal_p dlA_Tokens_readWord_79 (i := 4) rfl) ?_
          refine zw_dup (pc := 57) rfl (zdal_p dlA_Tokens_readWord_79 (i := 5) rfl) ?_
          refine zk_getI (pc := 58) f_Tokens_28 rfl ((hf_N21_.w hW).ka (o := 1) (by decide)) (zdal_p dlA_Tokens_readWord_79 (i := 6) rfl) ?_
          have hr22_ := ze_r N21_ 1 3
          refine zw_iconst (pc := 61) (v := Int32.ofInt 1) (by decide) (zdal_p dlA_Tokens_readWord_79 (i := 7) rfl) ?_
          refine zr_iadd (pc := 62) (zdal_p dlA_Tokens_readWord_79 (i := 8) rfl) ?_
          refine zk_nmI (fun v23_ hv23_ hv23_e => ?_)
          obtain ⟨hv23_a, hv23_b⟩ := hv23_
          have hx_ := hv23_e ⟨by (exact zo_679 hr22_.1), by omega⟩
          refine zk_putA (pc := 63) (hf_N21_.w hW) (by decide) f_Tokens_28 rfl rfl ((hf_N21_.w hW).ka (o := 1) (by decide)) ⟨by (exact hv23_a), by (exact hv23_b)⟩ rfl rfl (zdal_p dlA_Tokens_readWord_79 (i := 9) rfl) (fun N24_ hsN24_ hvN24_ => ?_)
          have hf_N24_ : zFc d_ [(1, 3), (1, 4), (1, 5)] [] [] [] Mz N24_ := hf_N21_.tr hsN24_ (by decide) (by decide) (by decide) (by decide)
          have hb0_N24_ : zFc d_ [(1, 3), (1, 5)] [] [] [] Mz N24_ := hb0_N21_.tr hsN24_ (by decide) (by decide) (by decide) (by decide)
          have eA1_1_N24_ : ze N24_ 1 1 = ze N21_ 1 1 := hsN24_.ea (hf_N21_.w hW) (by decide)
          have rA1_3_N24_ := ze_r N24_ 1 3
          refine zw_goto (pc := 66) (tgt := 0) (by decide) (zdal_p dlA_Tokens_readWord_79 (i := 10) rfl) ?_
          exact ih_0 N24_ hb0_N24_ (by omega)
  exact lp_0 _ Mz zFc.rf (Nat.lt_succ_self _)
set_option maxHeartbeats 4000000 in
theorem u_Tokens_isDigitX (l : Launch) (d_ : Nat) (Mz : zMem) (hW : zKW d_ Mz) (a0_ : Int) (ha0_a : -2147483648 ≤ a0_) (ha0_b : a0_ < 2147483648) : zC l m_Tokens_isDigit 0 0 [.int (Int32.ofInt a0_)] Mz (zqcI d_ [] [] [] [] Mz (fun v N => ((v = 0 ∨ v = 1)))) := by
  refine zC_of (L0 := [some (.int (Int32.ofInt a0_))]) md_Tokens_isDigit (Nat.le_of_ble_eq_true rfl) rfl ?_ zQ0
  have hf : zFc d_ [] [] [] [] Mz Mz := zFc.rf
  refine zw_iload_n (pc := 0) (n := 0) (x := Int32.ofInt a0_) rfl (zdal_p dlA_Tokens_isDigit_80 (i := 0) rfl) ?_
  refine zw_bipush (pc := 1) (v := Int32.ofInt 48) (by decide) (zdal_p dlA_Tokens_isDigit_80 (i := 1) rfl) ?_
  refine zr_icmp_lt (pc := 3) (tgt := 16) ⟨ha0_a, ha0_b⟩ ⟨(by decide), (by decide)⟩ (by decide) (zdal_p dlA_Tokens_isDigit_80 (i := 2) rfl) (fun hc_3 => ?_) (fun hc_3 => ?_)
  · skip
    refine zw_iconst (pc := 16) (v := Int32.ofInt 0) (by decide) (zdal_p dlA_Tokens_isDigit_80 (i := 8) rfl) ?_
    exact zk_iret (pc := 17) (ty := .boolean) rfl (z_narB (by (decide))) ⟨by (decide), by (decide)⟩ hf (show (((0 : Int)) = 0 ∨ ((0 : Int)) = 1) by first | with_reducible assumption | (decide) | assumption) d_Tokens_isDigit_17
  · skip
    refine zw_iload_n (pc := 6) (n := 0) (x := Int32.ofInt a0_) rfl (zdal_p dlA_Tokens_isDigit_80 (i := 3) rfl) ?_
    refine zw_bipush (pc := 7) (v := Int32.ofInt 57) (by decide) (zdal_p dlA_Tokens_isDigit_80 (i := 4) rfl) ?_
    refine zr_icmp_gt (pc := 9) (tgt := 16) ⟨ha0_a, ha0_b⟩ ⟨(by decide), (by decide)⟩ (by decide) (zdal_p dlA_Tokens_isDigit_80 (i := 5) rfl) (fun hc_9 => ?_) (fun hc_9 => ?_)
    · skip
      refine zw_iconst (pc := 16) (v := Int32.ofInt 0) (by decide) (zdal_p dlA_Tokens_isDigit_80 (i := 8) rfl) ?_
      exact zk_iret (pc := 17) (ty := .boolean) rfl (z_narB (by (decide))) ⟨by (decide), by (decide)⟩ hf (show (((0 : Int)) = 0 ∨ ((0 : Int)) = 1) by first | with_reducible assumption | (decide) | assumption) d_Tokens_isDigit_17
    · skip
      refine zw_iconst (pc := 12) (v := Int32.ofInt 1) (by decide) (zdal_p dlA_Tokens_isDigit_80 (i := 6) rfl) ?_
      refine zw_goto (pc := 13) (tgt := 17) (by decide) (zdal_p dlA_Tokens_isDigit_80 (i := 7) rfl) ?_
      exact zk_iret (pc := 17) (ty := .boolean) rfl (z_narB (by (decide))) ⟨by (decide), by (decide)⟩ hf (show (((1 : Int)) = 0 ∨ ((1 : Int)) = 1) by first | with_reducible assumption | (decide) | assumption) d_Tokens_isDigit_17
set_option maxHeartbeats 4000000 in
theorem u_Tokens_pastDigitsX (l : Launch) (d_ : Nat) (Mz : zMem) (hW : zKW d_ Mz) (a0_ : Int) (ha0_a : -2147483648 ≤ a0_) (ha0_b : a0_ < 2147483648) : zC l m_Tokens_pastDigits 0 0 [.ref 1, .int (Int32.ofInt a0_)] Mz (zqcI d_ [] [] [] [] Mz (fun v N => True)) := by
  refine zC_of (L0 := [some (.ref 1), some (.int (Int32.ofInt a0_)), none]) md_Tokens_pastDigits (Nat.le_of_ble_eq_true rfl) rfl ?_ zQ0
  have hf : zFc d_ [] [] [] [] Mz Mz := zFc.rf
  refine zw_iload_n (pc := 0) (n := 1) (x := Int32.ofInt a0_) rfl (zdal_p dlA_Tokens_pastDigits_83 (i := 0) rfl) ?_
  refine zw_istore_n (pc := 1) (i := 2) (L2 := [some (.ref 1), some (.int (Int32.ofInt a0_)), some (.int (Int32.ofInt a0_))]) rfl (by decide) rfl (zdal_p dlA_Tokens_pastDigits_83 (i := 1) rfl) ?_
  have lp_2 : ∀ (n : Nat) (u1_ : Int) (hu1_a : -2147483648 ≤ u1_) (hu1_b : u1_ < 2147483648) (i2_ : a0_ ≤ u1_), (ze Mz 1 1 - u1_).toNat < n → zW l m_Tokens_pastDigits (zn Mz + 0, zw Mz + 0) Mz 2 [some (.ref 1), some (.int (Int32.ofInt a0_)), some (.int (Int32.ofInt u1_))] [] (zqcI d_ [] [] [] [] Mz (fun v N => True)) := by
    intro n
    induction n with
    | zero =>
      intro u1_ hu1_a hu1_b i2_ h0
      exact absurd h0 (Nat.not_lt_zero _)
    | succ n ih_2 =>
      intro u1_ hu1_a hu1_b i2_ hlt_2
      refine zw_iload_n (pc := 2) (n := 2) (x := Int32.ofInt u1_) rfl (zdal_p dlA_Tokens_pastDigits_83 (i := 2) rfl) ?_
      refine zw_aload_n (pc := 3) (n := 0) (x := 1) rfl (zdal_p dlA_Tokens_pastDigits_83 (i := 3) rfl) ?_
      refine zk_getI (pc := 4) f_Tokens_20 rfl ((hf.w hW).ka (o := 1) (by decide)) (zdal_p dlA_Tokens_pastDigits_83 (i := 4) rfl) ?_
      have hr3_ := ze_r Mz 1 1
      refine zr_icmp_ge (pc := 7) (tgt := 30) ⟨hu1_a, hu1_b⟩ ⟨(ze_r Mz 1 1).1, (ze_r Mz 1 1).2⟩ (by decide) (zdal_p dlA_Tokens_pastDigits_83 (i := 5) rfl) (fun hc_7 => ?_) (fun hc_7 => ?_)
      · skip
        refine zw_iload_n (pc := 30) (n := 2) (x := Int32.ofInt u1_) rfl (zdal_p dlA_Tokens_pastDigits_83 (i := 14) rfl) ?_
        exact zk_iret (pc := 31) (ty := .int) rfl rfl ⟨by (exact hu1_a), by (exact hu1_b)⟩ hf trivial (zdal_p dlA_Tokens_pastDigits_83 (i := 15) rfl)
      · skip
        refine zw_aload_n (pc := 10) (n := 0) (x := 1) rfl (zdal_p dlA_Tokens_pastDigits_83 (i := 6) rfl) ?_
        refine zw_getF (pc := 11) f_Tokens_14 rfl ((hf.w hW).ka (o := 1) (by decide)) ((hf.w hW).la (o := 1) (s := 0) (r := 2) (by decide)) (zdal_p dlA_Tokens_pastDigits_83 (i := 7) rfl) ?_
        refine zw_iload_n (pc := 14) (n := 2) (x := Int32.ofInt u1_) rfl (zdal_p dlA_Tokens_pastDigits_83 (i := 8) rfl) ?_
        refine zk_atG hf.x (pc := 15) l_Tokens_47 ((hf.w hW).ka (o := 2) (by decide)) ((hf.w hW).la (o := 2) (s := 0) (r := 3) (by decide)) ((hf.w hW).ra (o := 3) (t := 1) (n := 700) (by decide)) (by decide) ⟨by (exact hu1_a), by (exact hu1_b)⟩ (by decide) (Nat.le_of_ble_eq_true rfl) (zdal_p dlA_Tokens_pastDigits_83 (i := 9) rfl) (fun v4_ hv4_ hv4_a hv4_b => ?_)
        clear hv4_
        refine zr_callS hf.x (pc := 18) [.int (Int32.ofInt v4_)] [] l_Tokens_57 (u_Tokens_isDigitX l d_ Mz (hf.w hW) v4_ hv4_a hv4_b) rfl rfl (by decide) (Nat.le_of_ble_eq_true rfl) (zdal_p dlA_Tokens_pastDigits_83 (i := 10) rfl) ?_
        rintro _ N5_ ⟨v6_, rfl, ⟨hv6_a, hv6_b⟩, hsN5_, hp0_N5_⟩
        obtain rfl := hsN5_.eq.symm
        replace hp0_N5_ : (v6_ = 0 ∨ v6_ = 1) := hp0_N5_
        show zW l m_Tokens_pastDigits (zn Mz + 0, zw Mz + 0) Mz 21 [some (.ref 1), some (.int (Int32.ofInt a0_)), some (.int (Int32.ofInt u1_))] [.int (Int32.ofInt v6_)] _
        refine zr_if_eq (pc := 21) (tgt := 30) ⟨hv6_a, hv6_b⟩ (by decide) (zdal_p dlA_Tokens_pastDigits_83 (i := 11) rfl) (fun hc_21 => ?_) (fun hc_21 => ?_)
        · skip
          refine zw_iload_n (pc := 30) (n := 2) (x := Int32.ofInt u1_) rfl (zdal_p dlA_Tokens_pastDigits_83 (i := 14) rfl) ?_
          exact zk_iret (pc := 31) (ty := .int) rfl rfl ⟨by (exact hu1_a), by (exact hu1_b)⟩ hf trivial (zdal_p dlA_Tokens_pastDigits_83 (i := 15) rfl)
        · skip
          refine zr_iinc (pc := 24) (i := 2) (a := u1_) (n := 1) (L2 := [some (.ref 1), some (.int (Int32.ofInt a0_)), some (.int (Int32.ofInt (u1_ + 1)))]) rfl (by decide) rfl (zdal_p dlA_Tokens_pastDigits_83 (i := 12) rfl) ?_
          obtain ⟨v7_, hv7_a, hv7_b, hv7_e, hv7_d⟩ := zk_gen (u1_ + 1)
          rw [hv7_e]
          refine zw_goto (pc := 27) (tgt := 2) (by decide) (zdal_p dlA_Tokens_pastDigits_83 (i := 13) rfl) ?_
          exact ih_2 v7_ hv7_a hv7_b (show a0_ ≤ v7_ by first | with_reducible assumption | assumption | omega) (by omega)
  exact lp_2 _ a0_ ha0_a ha0_b (show a0_ ≤ a0_ by first | with_reducible assumption | (exact zo_628) | assumption) (Nat.lt_succ_self _)
set_option maxHeartbeats 4000000 in
theorem u_Tokens_numberFromX (l : Launch) (d_ : Nat) (Mz : zMem) (hW : zKW d_ Mz) (a0_ : Int) (ha0_a : -2147483648 ≤ a0_) (ha0_b : a0_ < 2147483648) (a1_ : Int) (ha1_a : -2147483648 ≤ a1_) (ha1_b : a1_ < 2147483648) : zC l m_Tokens_numberFrom 0 0 [.ref 1, .int (Int32.ofInt a0_), .int (Int32.ofInt a1_)] Mz (zqcI d_ [] [] [] [] Mz (fun v N => True)) := by
  refine zC_of (L0 := [some (.ref 1), some (.int (Int32.ofInt a0_)), some (.int (Int32.ofInt a1_)), none, none]) md_Tokens_numberFrom (Nat.le_of_ble_eq_true rfl) rfl ?_ zQ0
  have hf : zFc d_ [] [] [] [] Mz Mz := zFc.rf
  refine zw_iconst (pc := 0) (v := Int32.ofInt 0) (by decide) (zdal_p dlA_Tokens_numberFrom_84 (i := 0) rfl) ?_
  refine zw_istore_n (pc := 1) (i := 3) (L2 := [some (.ref 1), some (.int (Int32.ofInt a0_)), some (.int (Int32.ofInt a1_)), some (.int (Int32.ofInt 0)), none]) rfl (by decide) rfl (zdal_p dlA_Tokens_numberFrom_84 (i := 1) rfl) ?_
  refine zw_iload_n (pc := 2) (n := 1) (x := Int32.ofInt a0_) rfl (zdal_p dlA_Tokens_numberFrom_84 (i := 2) rfl) ?_
  refine zw_istore (pc := 3) (i := 4) (L2 := [some (.ref 1), some (.int (Int32.ofInt a0_)), some (.int (Int32.ofInt a1_)), some (.int (Int32.ofInt 0)), some (.int (Int32.ofInt a0_))]) (by decide) rfl (zdal_p dlA_Tokens_numberFrom_84 (i := 3) rfl) ?_
  have lp_5 : ∀ (n : Nat) (u1_ : Int) (hu1_a : -2147483648 ≤ u1_) (hu1_b : u1_ < 2147483648) (u2_ : Int) (hu2_a : -2147483648 ≤ u2_) (hu2_b : u2_ < 2147483648) (i3_ : a0_ ≤ u2_), (a1_ - u2_).toNat < n → zW l m_Tokens_numberFrom (zn Mz + 0, zw Mz + 0) Mz 5 [some (.ref 1), some (.int (Int32.ofInt a0_)), some (.int (Int32.ofInt a1_)), some (.int (Int32.ofInt u1_)), some (.int (Int32.ofInt u2_))] [] (zqcI d_ [] [] [] [] Mz (fun v N => True)) := by
    intro n
    induction n with
    | zero =>
      intro u1_ hu1_a hu1_b u2_ hu2_a hu2_b i3_ h0
      exact absurd h0 (Nat.not_lt_zero _)
    | succ n ih_5 =>
      intro u1_ hu1_a hu1_b u2_ hu2_a hu2_b i3_ hlt_5
      refine zw_iload (pc := 5) (i := 4) (x := Int32.ofInt u2_) rfl (zdal_p dlA_Tokens_numberFrom_84 (i := 4) rfl) ?_
      refine zw_iload_n (pc := 7) (n := 2) (x := Int32.ofInt a1_) rfl (zdal_p dlA_Tokens_numberFrom_84 (i := 5) rfl) ?_
      refine zr_icmp_ge (pc := 8) (tgt := 35) ⟨hu2_a, hu2_b⟩ ⟨ha1_a, ha1_b⟩ (by decide) (zdal_p dlA_Tokens_numberFrom_84 (i := 6) rfl) (fun hc_8 => ?_) (fun hc_8 => ?_)
      · skip
        refine zw_iload_n (pc := 35) (n := 3) (x := Int32.ofInt u1_) rfl (zdal_p dlA_Tokens_numberFrom_84 (i := 20) rfl) ?_
        exact zk_iret (pc := 36) (ty := .int) rfl rfl ⟨by (exact hu1_a), by (exact hu1_b)⟩ hf trivial (zdal_p dlA_Tokens_numberFrom_84 (i := 21) rfl)
      · skip
        refine zw_iload_n (pc := 11) (n := 3) (x := Int32.ofInt u1_) rfl (zdal_p dlA_Tokens_numberFrom_84 (i := 7) rfl) ?_
        refine zw_bipush (pc := 12) (v := Int32.ofInt 10) (by decide) (zdal_p dlA_Tokens_numberFrom_84 (i := 8) rfl) ?_
        refine zr_imul (pc := 14) (zdal_p dlA_Tokens_numberFrom_84 (i := 9) rfl) ?_
        refine zr_nmI (fun v4_ hv4_ => ?_)
        obtain ⟨hv4_a, hv4_b⟩ := hv4_
        refine zw_aload_n (pc := 15) (n := 0) (x := 1) rfl (zdal_p dlA_Tokens_numberFrom_84 (i := 10) rfl) ?_
        refine zw_getF (pc := 16) f_Tokens_14 rfl ((hf.w hW).ka (o := 1) (by decide)) ((hf.w hW).la (o := 1) (s := 0) (r := 2) (by decide)) (zdal_p dlA_Tokens_numberFrom_84 (i := 11) rfl) ?_
        refine zw_iload (pc := 19) (i := 4) (x := Int32.ofInt u2_) rfl (zdal_p dlA_Tokens_numberFrom_84 (i := 12) rfl) ?_
        refine zk_atG hf.x (pc := 21) l_Tokens_47 ((hf.w hW).ka (o := 2) (by decide)) ((hf.w hW).la (o := 2) (s := 0) (r := 3) (by decide)) ((hf.w hW).ra (o := 3) (t := 1) (n := 700) (by decide)) (by decide) ⟨by (exact hu2_a), by (exact hu2_b)⟩ (by decide) (Nat.le_of_ble_eq_true rfl) (zdal_p dlA_Tokens_numberFrom_84 (i := 13) rfl) (fun v5_ hv5_ hv5_a hv5_b => ?_)
        clear hv5_
        refine zr_iadd (pc := 24) (zdal_p dlA_Tokens_numberFrom_84 (i := 14) rfl) ?_
        refine zr_nmI (fun v6_ hv6_ => ?_)
        obtain ⟨hv6_a, hv6_b⟩ := hv6_
        refine zw_bipush (pc := 25) (v := Int32.ofInt 48) (by decide) (zdal_p dlA_Tokens_numberFrom_84 (i := 15) rfl) ?_
        refine zr_isub (pc := 27) (zdal_p dlA_Tokens_numberFrom_84 (i := 16) rfl) ?_
        refine zr_nmI (fun v7_ hv7_ => ?_)
        obtain ⟨hv7_a, hv7_b⟩ := hv7_
        refine zw_istore_n (pc := 28) (i := 3) (L2 := [some (.ref 1), some (.int (Int32.ofInt a0_)), some (.int (Int32.ofInt a1_)), some (.int (Int32.ofInt v7_)), some (.int (Int32.ofInt u2_))]) rfl (by decide) rfl (zdal_p dlA_Tokens_numberFrom_84 (i := 17) rfl) ?_
        refine zr_iinc (pc := 29) (i := 4) (a := u2_) (n := 1) (L2 := [some (.ref 1), some (.int (Int32.ofInt a0_)), some (.int (Int32.ofInt a1_)), some (.int (Int32.ofInt v7_)), some (.int (Int32.ofInt (u2_ + 1)))]) rfl (by decide) rfl (zdal_p dlA_Tokens_numberFrom_84 (i := 18) rfl) ?_
        obtain ⟨v8_, hv8_a, hv8_b, hv8_e, hv8_d⟩ := zk_gen (u2_ + 1)
        rw [hv8_e]
        refine zw_goto (pc := 32) (tgt := 5) (by decide) (zdal_p dlA_Tokens_numberFrom_84 (i := 19) rfl) ?_
        exact ih_5 v7_ hv7_a hv7_b v8_ hv8_a hv8_b (show a0_ ≤ v8_ by first | with_reducible assumption | assumption | omega) (by omega)
  exact lp_5 _ 0 (by decide) (by decide) a0_ ha0_a ha0_b (show a0_ ≤ a0_ by first | with_reducible assumption | (exact zo_628) | assumption) (Nat.lt_succ_self _)
set_option maxHeartbeats 4000000 in
theorem u_Tokens_readNumberX (l : Launch) (d_ : Nat) (Mz : zMem) (hW : zKW d_ Mz) : zC l m_Tokens_readNumber 0 0 [.ref 1] Mz (zqcV d_ [(1, 3), (1, 4), (1, 5)] [] [] [] Mz (fun N => True)) := by
  refine zC_of (L0 := [some (.ref 1), none]) md_Tokens_readNumber (Nat.le_of_ble_eq_true rfl) rfl ?_ zQ0
  have hf : zFc d_ [(1, 3), (1, 4), (1, 5)] [] [] [] Mz Mz := zFc.rf
  refine zw_aload_n (pc := 0) (n := 0) (x := 1) rfl (zdal_p dlA_Tokens_readNumber_81 (i := 0) rfl) ?_
  refine zw_aload_n (pc := 1) (n := 0) (x := 1) rfl (zdal_p dlA_Tokens_readNumber_81 (i := 1) rfl) ?_
  refine zw_aload_n (pc := 2) (n := 0) (x := 1) rfl (zdal_p dlA_Tokens_readNumber_81 (i := 2) rfl) ?_
  refine zk_getI (pc := 3) f_Tokens_38 rfl ((hf.w hW).ka (o := 1) (by decide)) (zdal_p dlA_Tokens_readNumber_81 (i := 3) rfl) ?_
  have hr1_ := ze_r Mz 1 2
  refine zk_callV hf.x (pc := 6) [.int (Int32.ofInt (ze Mz 1 2))] [.ref 1] l_Tokens_66 (u_Tokens_pastDigitsX l d_ Mz (hf.w hW) (ze Mz 1 2) (ze_r Mz 1 2).1 (ze_r Mz 1 2).2) rfl rfl ((hf.w hW).ka (o := 1) (by decide)) (by decide) (by decide) (Nat.le_of_ble_eq_true rfl) (zdal_p dlA_Tokens_readNumber_81 (i := 4) rfl) ?_
  rintro _ N2_ ⟨v3_, rfl, ⟨hv3_a, hv3_b⟩, hsN2_, -⟩
  obtain rfl := hsN2_.eq.symm
  show zW l m_Tokens_readNumber (zn Mz + 0, zw Mz + 0) Mz 9 [some (.ref 1), none] [.int (Int32.ofInt v3_), .ref 1] _
  refine zk_putA (pc := 9) (hf.w hW) (by decide) f_Tokens_28 rfl rfl ((hf.w hW).ka (o := 1) (by decide)) ⟨by (exact hv3_a), by (exact hv3_b)⟩ rfl rfl (zdal_p dlA_Tokens_readNumber_81 (i := 5) rfl) (fun N4_ hsN4_ hvN4_ => ?_)
  have hf_N4_ : zFc d_ [(1, 3), (1, 4), (1, 5)] [] [] [] Mz N4_ := hf.tr hsN4_ (by decide) (by decide) (by decide) (by decide)
  refine zw_aload_n (pc := 12) (n := 0) (x := 1) rfl (zdal_p dlA_Tokens_readNumber_81 (i := 6) rfl) ?_
  refine zw_aload_n (pc := 13) (n := 0) (x := 1) rfl (zdal_p dlA_Tokens_readNumber_81 (i := 7) rfl) ?_
  refine zw_aload_n (pc := 14) (n := 0) (x := 1) rfl (zdal_p dlA_Tokens_readNumber_81 (i := 8) rfl) ?_
  refine zk_getI (pc := 15) f_Tokens_38 rfl ((hf_N4_.w hW).ka (o := 1) (by decide)) (zdal_p dlA_Tokens_readNumber_81 (i := 9) rfl) ?_
  rw [hf_N4_.ea hW (by decide)]
  refine zw_aload_n (pc := 18) (n := 0) (x := 1) rfl (zdal_p dlA_Tokens_readNumber_81 (i := 10) rfl) ?_
  refine zk_getI (pc := 19) f_Tokens_28 rfl ((hf_N4_.w hW).ka (o := 1) (by decide)) (zdal_p dlA_Tokens_readNumber_81 (i := 11) rfl) ?_
  have hr5_ := ze_r N4_ 1 3
  refine zk_callV hf_N4_.x (pc := 22) [.int (Int32.ofInt (ze Mz 1 2)), .int (Int32.ofInt (ze N4_ 1 3))] [.ref 1] l_Tokens_69 (u_Tokens_numberFromX l d_ N4_ (hf_N4_.w hW) (ze Mz 1 2) (ze_r Mz 1 2).1 (ze_r Mz 1 2).2 (ze N4_ 1 3) (ze_r N4_ 1 3).1 (ze_r N4_ 1 3).2) rfl rfl ((hf_N4_.w hW).ka (o := 1) (by decide)) (by decide) (by decide) (Nat.le_of_ble_eq_true rfl) (zdal_p dlA_Tokens_readNumber_81 (i := 12) rfl) ?_
  rintro _ N6_ ⟨v7_, rfl, ⟨hv7_a, hv7_b⟩, hsN6_, -⟩
  obtain rfl := hsN6_.eq.symm
  show zW l m_Tokens_readNumber (zn Mz + 0, zw Mz + 0) N4_ 25 [some (.ref 1), none] [.int (Int32.ofInt v7_), .ref 1] _
  refine zk_putA (pc := 25) (hf_N4_.w hW) (by decide) f_Tokens_41 rfl rfl ((hf_N4_.w hW).ka (o := 1) (by decide)) ⟨by (exact hv7_a), by (exact hv7_b)⟩ rfl rfl (zdal_p dlA_Tokens_readNumber_81 (i := 13) rfl) (fun N8_ hsN8_ hvN8_ => ?_)
  have hf_N8_ : zFc d_ [(1, 3), (1, 4), (1, 5)] [] [] [] Mz N8_ := hf_N4_.tr hsN8_ (by decide) (by decide) (by decide) (by decide)
  refine zw_aload_n (pc := 28) (n := 0) (x := 1) rfl (zdal_p dlA_Tokens_readNumber_81 (i := 14) rfl) ?_
  refine zk_getI (pc := 29) f_Tokens_28 rfl ((hf_N8_.w hW).ka (o := 1) (by decide)) (zdal_p dlA_Tokens_readNumber_81 (i := 15) rfl) ?_
  have hr9_ := ze_r N8_ 1 3
  refine zw_aload_n (pc := 32) (n := 0) (x := 1) rfl (zdal_p dlA_Tokens_readNumber_81 (i := 16) rfl) ?_
  refine zk_getI (pc := 33) f_Tokens_20 rfl ((hf_N8_.w hW).ka (o := 1) (by decide)) (zdal_p dlA_Tokens_readNumber_81 (i := 17) rfl) ?_
  rw [hf_N8_.ea hW (by decide)]
  have hr10_ := ze_r Mz 1 1
  refine zr_icmp_ge (pc := 36) (tgt := 60) ⟨(ze_r N8_ 1 3).1, (ze_r N8_ 1 3).2⟩ ⟨(ze_r Mz 1 1).1, (ze_r Mz 1 1).2⟩ (by decide) (zdal_p dlA_Tokens_readNumber_81 (i := 18) rfl) (fun hc_36 => ?_) (fun hc_36 => ?_)
  · skip
    refine zw_iconst (pc := 60) (v := Int32.ofInt 0) (by decide) (zdal_p dlA_Tokens_readNumber_82 (i := 4) rfl) ?_
    refine zw_istore_n (pc := 61) (i := 1) (L2 := [some (.ref 1), some (.int (Int32.ofInt 0))]) rfl (by decide) rfl d_Tokens_readNumber_61 ?_
    refine zw_aload_n (pc := 62) (n := 0) (x := 1) rfl d_Tokens_readNumber_62 ?_
    refine zw_aload_n (pc := 63) (n := 0) (x := 1) rfl d_Tokens_readNumber_63 ?_
    refine zk_getI (pc := 64) f_Tokens_28 rfl ((hf_N8_.w hW).ka (o := 1) (by decide)) d_Tokens_readNumber_64 ?_
    refine zw_aload_n (pc := 67) (n := 0) (x := 1) rfl d_Tokens_readNumber_67 ?_
    refine zk_getI (pc := 68) f_Tokens_38 rfl ((hf_N8_.w hW).ka (o := 1) (by decide)) d_Tokens_readNumber_68 ?_
    rw [hf_N8_.ea hW (by decide)]
    refine zr_isub (pc := 71) d_Tokens_readNumber_71 ?_
    refine zr_nmI (fun v11_ hv11_ => ?_)
    obtain ⟨hv11_a, hv11_b⟩ := hv11_
    refine zw_iconst (pc := 72) (v := Int32.ofInt 3) (by decide) d_Tokens_readNumber_72 ?_
    refine zr_icmp_gt (pc := 73) (tgt := 84) ⟨hv11_a, hv11_b⟩ ⟨(by decide), (by decide)⟩ (by decide) d_Tokens_readNumber_73 (fun hc_73 => ?_) (fun hc_73 => ?_)
    · skip
      refine zw_iconst (pc := 84) (v := Int32.ofInt 4) (by decide) d_Tokens_readNumber_84 ?_
      refine zk_putA (pc := 85) (hf_N8_.w hW) (by decide) f_Tokens_44 rfl rfl ((hf_N8_.w hW).ka (o := 1) (by decide)) ⟨by (decide), by (decide)⟩ rfl rfl d_Tokens_readNumber_85 (fun N12_ hsN12_ hvN12_ => ?_)
      have hf_N12_ : zFc d_ [(1, 3), (1, 4), (1, 5)] [] [] [] Mz N12_ := hf_N8_.tr hsN12_ (by decide) (by decide) (by decide) (by decide)
      exact zk_vret (pc := 88) rfl hf_N12_ trivial d_Tokens_readNumber_88
    · skip
      refine zw_iload_n (pc := 76) (n := 1) (x := Int32.ofInt 0) rfl d_Tokens_readNumber_76 ?_
      refine zr_if_ne (pc := 77) (tgt := 84) ⟨(by decide), (by decide)⟩ (by decide) d_Tokens_readNumber_77 (fun hc_77 => ?_) (fun hc_77 => ?_)
      · skip
        exact absurd hc_77 (by decide)
      · skip
        refine zw_iconst (pc := 80) (v := Int32.ofInt 2) (by decide) (zdal_p dlA_Tokens_readNumber_82 (i := 16) rfl) ?_
        refine zw_goto (pc := 81) (tgt := 85) (by decide) (zdal_p dlA_Tokens_readNumber_82 (i := 17) rfl) ?_
        refine zk_putA (pc := 85) (hf_N8_.w hW) (by decide) f_Tokens_44 rfl rfl ((hf_N8_.w hW).ka (o := 1) (by decide)) ⟨by (decide), by (decide)⟩ rfl rfl d_Tokens_readNumber_85 (fun N13_ hsN13_ hvN13_ => ?_)
        have hf_N13_ : zFc d_ [(1, 3), (1, 4), (1, 5)] [] [] [] Mz N13_ := hf_N8_.tr hsN13_ (by decide) (by decide) (by decide) (by decide)
        exact zk_vret (pc := 88) rfl hf_N13_ trivial d_Tokens_readNumber_88
  · skip
    refine zw_aload_n (pc := 39) (n := 0) (x := 1) rfl (zdal_p dlA_Tokens_readNumber_81 (i := 19) rfl) ?_
    refine zw_getF (pc := 40) f_Tokens_14 rfl ((hf_N8_.w hW).ka (o := 1) (by decide)) ((hf_N8_.w hW).la (o := 1) (s := 0) (r := 2) (by decide)) (zdal_p dlA_Tokens_readNumber_81 (i := 20) rfl) ?_
    refine zw_aload_n (pc := 43) (n := 0) (x := 1) rfl (zdal_p dlA_Tokens_readNumber_81 (i := 21) rfl) ?_
    refine zk_getI (pc := 44) f_Tokens_28 rfl ((hf_N8_.w hW).ka (o := 1) (by decide)) (zdal_p dlA_Tokens_readNumber_81 (i := 22) rfl) ?_
    refine zk_atG hf_N8_.x (pc := 47) l_Tokens_47 ((hf_N8_.w hW).ka (o := 2) (by decide)) ((hf_N8_.w hW).la (o := 2) (s := 0) (r := 3) (by decide)) ((hf_N8_.w hW).ra (o := 3) (t := 1) (n := 700) (by decide)) (by decide) ⟨by (exact zo_284 hr9_.1), by (exact zo_285 hr9_.2)⟩ (by decide) (Nat.le_of_ble_eq_true rfl) (zdal_p dlA_Tokens_readNumber_81 (i := 23) rfl) (fun v14_ hv14_ hv14_a hv14_b => ?_)
    clear hv14_
    refine zr_callS hf_N8_.x (pc := 50) [.int (Int32.ofInt v14_)] [] l_Tokens_50 (u_Tokens_isLetterX l d_ N8_ (hf_N8_.w hW) v14_ hv14_a hv14_b) rfl rfl (by decide) (Nat.le_of_ble_eq_true rfl) (zdal_p dlA_Tokens_readNumber_82 (i := 0) rfl) ?_
    rintro _ N15_ ⟨v16_, rfl, ⟨hv16_a, hv16_b⟩, hsN15_, hp0_N15_⟩
    obtain rfl := hsN15_.eq.symm
    replace hp0_N15_ : (v16_ = 0 ∨ v16_ = 1) := hp0_N15_
    show zW l m_Tokens_readNumber (zn Mz + 0, zw Mz + 0) N8_ 53 [some (.ref 1), none] [.int (Int32.ofInt v16_)] _
    refine zr_if_eq (pc := 53) (tgt := 60) ⟨hv16_a, hv16_b⟩ (by decide) (zdal_p dlA_Tokens_readNumber_82 (i := 1) rfl) (fun hc_53 => ?_) (fun hc_53 => ?_)
    · skip
      refine zw_iconst (pc := 60) (v := Int32.ofInt 0) (by decide) (zdal_p dlA_Tokens_readNumber_82 (i := 4) rfl) ?_
      refine zw_istore_n (pc := 61) (i := 1) (L2 := [some (.ref 1), some (.int (Int32.ofInt 0))]) rfl (by decide) rfl d_Tokens_readNumber_61 ?_
      refine zw_aload_n (pc := 62) (n := 0) (x := 1) rfl d_Tokens_readNumber_62 ?_
      refine zw_aload_n (pc := 63) (n := 0) (x := 1) rfl d_Tokens_readNumber_63 ?_
      refine zk_getI (pc := 64) f_Tokens_28 rfl ((hf_N8_.w hW).ka (o := 1) (by decide)) d_Tokens_readNumber_64 ?_
      refine zw_aload_n (pc := 67) (n := 0) (x := 1) rfl d_Tokens_readNumber_67 ?_
      refine zk_getI (pc := 68) f_Tokens_38 rfl ((hf_N8_.w hW).ka (o := 1) (by decide)) d_Tokens_readNumber_68 ?_
      rw [hf_N8_.ea hW (by decide)]
      refine zr_isub (pc := 71) d_Tokens_readNumber_71 ?_
      refine zr_nmI (fun v17_ hv17_ => ?_)
      obtain ⟨hv17_a, hv17_b⟩ := hv17_
      refine zw_iconst (pc := 72) (v := Int32.ofInt 3) (by decide) d_Tokens_readNumber_72 ?_
      refine zr_icmp_gt (pc := 73) (tgt := 84) ⟨hv17_a, hv17_b⟩ ⟨(by decide), (by decide)⟩ (by decide) d_Tokens_readNumber_73 (fun hc_73 => ?_) (fun hc_73 => ?_)
      · skip
        refine zw_iconst (pc := 84) (v := Int32.ofInt 4) (by decide) d_Tokens_readNumber_84 ?_
        refine zk_putA (pc := 85) (hf_N8_.w hW) (by decide) f_Tokens_44 rfl rfl ((hf_N8_.w hW).ka (o := 1) (by decide)) ⟨by (decide), by (decide)⟩ rfl rfl d_Tokens_readNumber_85 (fun N18_ hsN18_ hvN18_ => ?_)
        have hf_N18_ : zFc d_ [(1, 3), (1, 4), (1, 5)] [] [] [] Mz N18_ := hf_N8_.tr hsN18_ (by decide) (by decide) (by decide) (by decide)
        exact zk_vret (pc := 88) rfl hf_N18_ trivial d_Tokens_readNumber_88
      · skip
        refine zw_iload_n (pc := 76) (n := 1) (x := Int32.ofInt 0) rfl d_Tokens_readNumber_76 ?_
        refine zr_if_ne (pc := 77) (tgt := 84) ⟨(by decide), (by decide)⟩ (by decide) d_Tokens_readNumber_77 (fun hc_77 => ?_) (fun hc_77 => ?_)
        · skip
          exact absurd hc_77 (by decide)
        · skip
          refine zw_iconst (pc := 80) (v := Int32.ofInt 2) (by decide) (zdal_p dlA_Tokens_readNumber_82 (i := 16) rfl) ?_
          refine zw_goto (pc := 81) (tgt := 85) (by decide) (zdal_p dlA_Tokens_readNumber_82 (i := 17) rfl) ?_
          refine zk_putA (pc := 85) (hf_N8_.w hW) (by decide) f_Tokens_44 rfl rfl ((hf_N8_.w hW).ka (o := 1) (by decide)) ⟨by (decide), by (decide)⟩ rfl rfl d_Tokens_readNumber_85 (fun N19_ hsN19_ hvN19_ => ?_)
          have hf_N19_ : zFc d_ [(1, 3), (1, 4), (1, 5)] [] [] [] Mz N19_ := hf_N8_.tr hsN19_ (by decide) (by decide) (by decide) (by decide)
          exact zk_vret (pc := 88) rfl hf_N19_ trivial d_Tokens_readNumber_88
    · skip
      refine zw_iconst (pc := 56) (v := Int32.ofInt 1) (by decide) (zdal_p dlA_Tokens_readNumber_82 (i := 2) rfl) ?_
      refine zw_goto (pc := 57) (tgt := 61) (by decide) (zdal_p dlA_Tokens_readNumber_82 (i := 3) rfl) ?_
      refine zw_istore_n (pc := 61) (i := 1) (L2 := [some (.ref 1), some (.int (Int32.ofInt 1))]) rfl (by decide) rfl d_Tokens_readNumber_61 ?_
      refine zw_aload_n (pc := 62) (n := 0) (x := 1) rfl d_Tokens_readNumber_62 ?_
      refine zw_aload_n (pc := 63) (n := 0) (x := 1) rfl d_Tokens_readNumber_63 ?_
      refine zk_getI (pc := 64) f_Tokens_28 rfl ((hf_N8_.w hW).ka (o := 1) (by decide)) d_Tokens_readNumber_64 ?_
      refine zw_aload_n (pc := 67) (n := 0) (x := 1) rfl d_Tokens_readNumber_67 ?_
      refine zk_getI (pc := 68) f_Tokens_38 rfl ((hf_N8_.w hW).ka (o := 1) (by decide)) d_Tokens_readNumber_68 ?_
      rw [hf_N8_.ea hW (by decide)]
      refine zr_isub (pc := 71) d_Tokens_readNumber_71 ?_
      refine zr_nmI (fun v20_ hv20_ => ?_)
      obtain ⟨hv20_a, hv20_b⟩ := hv20_
      refine zw_iconst (pc := 72) (v := Int32.ofInt 3) (by decide) d_Tokens_readNumber_72 ?_
      refine zr_icmp_gt (pc := 73) (tgt := 84) ⟨hv20_a, hv20_b⟩ ⟨(by decide), (by decide)⟩ (by decide) d_Tokens_readNumber_73 (fun hc_73 => ?_) (fun hc_73 => ?_)
      · skip
        refine zw_iconst (pc := 84) (v := Int32.ofInt 4) (by decide) d_Tokens_readNumber_84 ?_
        refine zk_putA (pc := 85) (hf_N8_.w hW) (by decide) f_Tokens_44 rfl rfl ((hf_N8_.w hW).ka (o := 1) (by decide)) ⟨by (decide), by (decide)⟩ rfl rfl d_Tokens_readNumber_85 (fun N21_ hsN21_ hvN21_ => ?_)
        have hf_N21_ : zFc d_ [(1, 3), (1, 4), (1, 5)] [] [] [] Mz N21_ := hf_N8_.tr hsN21_ (by decide) (by decide) (by decide) (by decide)
        exact zk_vret (pc := 88) rfl hf_N21_ trivial d_Tokens_readNumber_88
      · skip
        refine zw_iload_n (pc := 76) (n := 1) (x := Int32.ofInt 1) rfl d_Tokens_readNumber_76 ?_
        refine zr_if_ne (pc := 77) (tgt := 84) ⟨(by decide), (by decide)⟩ (by decide) d_Tokens_readNumber_77 (fun hc_77 => ?_) (fun hc_77 => ?_)
        · skip
          refine zw_iconst (pc := 84) (v := Int32.ofInt 4) (by decide) d_Tokens_readNumber_84 ?_
          refine zk_putA (pc := 85) (hf_N8_.w hW) (by decide) f_Tokens_44 rfl rfl ((hf_N8_.w hW).ka (o := 1) (by decide)) ⟨by (decide), by (decide)⟩ rfl rfl d_Tokens_readNumber_85 (fun N22_ hsN22_ hvN22_ => ?_)
          have hf_N22_ : zFc d_ [(1, 3), (1, 4), (1, 5)] [] [] [] Mz N22_ := hf_N8_.tr hsN22_ (by decide) (by decide) (by decide) (by decide)
          exact zk_vret (pc := 88) rfl hf_N22_ trivial d_Tokens_readNumber_88
        · skip
          exact absurd hc_77 (by decide)
set_option maxHeartbeats 4000000 in
theorem u_Tokens_isSignByteX (l : Launch) (d_ : Nat) (Mz : zMem) (hW : zKW d_ Mz) (a0_ : Int) (ha0_a : -2147483648 ≤ a0_) (ha0_b : a0_ < 2147483648) : zC l m_Tokens_isSignByte 0 0 [.int (Int32.ofInt a0_)] Mz (zqcI d_ [] [] [] [] Mz (fun v N => ((v = 0 ∨ v = 1)))) := by
  refine zC_of (L0 := [some (.int (Int32.ofInt a0_))]) md_Tokens_isSignByte (Nat.le_of_ble_eq_true rfl) rfl ?_ zQ0
  have hf : zFc d_ [] [] [] [] Mz Mz := zFc.rf
  refine zw_iload_n (pc := 0) (n := 0) (x := Int32.ofInt a0_) rfl (zdal_p dlA_Tokens_isSignByte_85 (i := 0) rfl) ?_
  refine zw_bipush (pc := 1) (v := Int32.ofInt 61) (by decide) (zdal_p dlA_Tokens_isSignByte_85 (i := 1) rfl) ?_
  refine zr_icmp_eq (pc := 3) (tgt := 48) ⟨ha0_a, ha0_b⟩ ⟨(by decide), (by decide)⟩ (by decide) (zdal_p dlA_Tokens_isSignByte_85 (i := 2) rfl) (fun hc_3 => ?_) (fun hc_3 => ?_)
  · skip
    refine zw_iconst (pc := 48) (v := Int32.ofInt 1) (by decide) d_Tokens_isSignByte_48 ?_
    refine zw_goto (pc := 49) (tgt := 53) (by decide) d_Tokens_isSignByte_49 ?_
    exact zk_iret (pc := 53) (ty := .boolean) rfl (z_narB (by (decide))) ⟨by (decide), by (decide)⟩ hf (show (((1 : Int)) = 0 ∨ ((1 : Int)) = 1) by first | with_reducible assumption | (decide) | assumption) d_Tokens_isSignByte_53
  · skip
    refine zw_iload_n (pc := 6) (n := 0) (x := Int32.ofInt a0_) rfl (zdal_p dlA_Tokens_isSignByte_85 (i := 3) rfl) ?_
    refine zw_bipush (pc := 7) (v := Int32.ofInt 43) (by decide) (zdal_p dlA_Tokens_isSignByte_85 (i := 4) rfl) ?_
    refine zr_icmp_eq (pc := 9) (tgt := 48) ⟨ha0_a, ha0_b⟩ ⟨(by decide), (by decide)⟩ (by decide) (zdal_p dlA_Tokens_isSignByte_85 (i := 5) rfl) (fun hc_9 => ?_) (fun hc_9 => ?_)
    · skip
      refine zw_iconst (pc := 48) (v := Int32.ofInt 1) (by decide) d_Tokens_isSignByte_48 ?_
      refine zw_goto (pc := 49) (tgt := 53) (by decide) d_Tokens_isSignByte_49 ?_
      exact zk_iret (pc := 53) (ty := .boolean) rfl (z_narB (by (decide))) ⟨by (decide), by (decide)⟩ hf (show (((1 : Int)) = 0 ∨ ((1 : Int)) = 1) by first | with_reducible assumption | (decide) | assumption) d_Tokens_isSignByte_53
    · skip
      refine zw_iload_n (pc := 12) (n := 0) (x := Int32.ofInt a0_) rfl (zdal_p dlA_Tokens_isSignByte_85 (i := 6) rfl) ?_
      refine zw_bipush (pc := 13) (v := Int32.ofInt 45) (by decide) (zdal_p dlA_Tokens_isSignByte_85 (i := 7) rfl) ?_
      refine zr_icmp_eq (pc := 15) (tgt := 48) ⟨ha0_a, ha0_b⟩ ⟨(by decide), (by decide)⟩ (by decide) (zdal_p dlA_Tokens_isSignByte_85 (i := 8) rfl) (fun hc_15 => ?_) (fun hc_15 => ?_)
      · skip
        refine zw_iconst (pc := 48) (v := Int32.ofInt 1) (by decide) d_Tokens_isSignByte_48 ?_
        refine zw_goto (pc := 49) (tgt := 53) (by decide) d_Tokens_isSignByte_49 ?_
        exact zk_iret (pc := 53) (ty := .boolean) rfl (z_narB (by (decide))) ⟨by (decide), by (decide)⟩ hf (show (((1 : Int)) = 0 ∨ ((1 : Int)) = 1) by first | with_reducible assumption | (decide) | assumption) d_Tokens_isSignByte_53
      · skip
        refine zw_iload_n (pc := 18) (n := 0) (x := Int32.ofInt a0_) rfl (zdal_p dlA_Tokens_isSignByte_85 (i := 9) rfl) ?_
        refine zw_bipush (pc := 19) (v := Int32.ofInt 42) (by decide) (zdal_p dlA_Tokens_isSignByte_85 (i := 10) rfl) ?_
        refine zr_icmp_eq (pc := 21) (tgt := 48) ⟨ha0_a, ha0_b⟩ ⟨(by decide), (by decide)⟩ (by decide) (zdal_p dlA_Tokens_isSignByte_85 (i := 11) rfl) (fun hc_21 => ?_) (fun hc_21 => ?_)
        · skip
          refine zw_iconst (pc := 48) (v := Int32.ofInt 1) (by decide) d_Tokens_isSignByte_48 ?_
          refine zw_goto (pc := 49) (tgt := 53) (by decide) d_Tokens_isSignByte_49 ?_
          exact zk_iret (pc := 53) (ty := .boolean) rfl (z_narB (by (decide))) ⟨by (decide), by (decide)⟩ hf (show (((1 : Int)) = 0 ∨ ((1 : Int)) = 1) by first | with_reducible assumption | (decide) | assumption) d_Tokens_isSignByte_53
        · skip
          refine zw_iload_n (pc := 24) (n := 0) (x := Int32.ofInt a0_) rfl (zdal_p dlA_Tokens_isSignByte_85 (i := 12) rfl) ?_
          refine zw_bipush (pc := 25) (v := Int32.ofInt 94) (by decide) (zdal_p dlA_Tokens_isSignByte_85 (i := 13) rfl) ?_
          refine zr_icmp_eq (pc := 27) (tgt := 48) ⟨ha0_a, ha0_b⟩ ⟨(by decide), (by decide)⟩ (by decide) (zdal_p dlA_Tokens_isSignByte_85 (i := 14) rfl) (fun hc_27 => ?_) (fun hc_27 => ?_)
          · skip
            refine zw_iconst (pc := 48) (v := Int32.ofInt 1) (by decide) d_Tokens_isSignByte_48 ?_
            refine zw_goto (pc := 49) (tgt := 53) (by decide) d_Tokens_isSignByte_49 ?_
            exact zk_iret (pc := 53) (ty := .boolean) rfl (z_narB (by (decide))) ⟨by (decide), by (decide)⟩ hf (show (((1 : Int)) = 0 ∨ ((1 : Int)) = 1) by first | with_reducible assumption | (decide) | assumption) d_Tokens_isSignByte_53
          · skip
            refine zw_iload_n (pc := 30) (n := 0) (x := Int32.ofInt a0_) rfl (zdal_p dlA_Tokens_isSignByte_85 (i := 15) rfl) ?_
            refine zw_bipush (pc := 31) (v := Int32.ofInt 40) (by decide) (zdal_p dlA_Tokens_isSignByte_85 (i := 16) rfl) ?_
            refine zr_icmp_eq (pc := 33) (tgt := 48) ⟨ha0_a, ha0_b⟩ ⟨(by decide), (by decide)⟩ (by decide) (zdal_p dlA_Tokens_isSignByte_85 (i := 17) rfl) (fun hc_33 => ?_) (fun hc_33 => ?_)
            · skip
              refine zw_iconst (pc := 48) (v := Int32.ofInt 1) (by decide) d_Tokens_isSignByte_48 ?_
              refine zw_goto (pc := 49) (tgt := 53) (by decide) d_Tokens_isSignByte_49 ?_
              exact zk_iret (pc := 53) (ty := .boolean) rfl (z_narB (by (decide))) ⟨by (decide), by (decide)⟩ hf (show (((1 : Int)) = 0 ∨ ((1 : Int)) = 1) by first | with_reducible assumption | (decide) | assumption) d_Tokens_isSignByte_53
            · skip
              refine zw_iload_n (pc := 36) (n := 0) (x := Int32.ofInt a0_) rfl (zdal_p dlA_Tokens_isSignByte_85 (i := 18) rfl) ?_
              refine zw_bipush (pc := 37) (v := Int32.ofInt 41) (by decide) (zdal_p dlA_Tokens_isSignByte_85 (i := 19) rfl) ?_
              refine zr_icmp_eq (pc := 39) (tgt := 48) ⟨ha0_a, ha0_b⟩ ⟨(by decide), (by decide)⟩ (by decide) (zdal_p dlA_Tokens_isSignByte_85 (i := 20) rfl) (fun hc_39 => ?_) (fun hc_39 => ?_)
              · skip
                refine zw_iconst (pc := 48) (v := Int32.ofInt 1) (by decide) d_Tokens_isSignByte_48 ?_
                refine zw_goto (pc := 49) (tgt := 53) (by decide) d_Tokens_isSignByte_49 ?_
                exact zk_iret (pc := 53) (ty := .boolean) rfl (z_narB (by (decide))) ⟨by (decide), by (decide)⟩ hf (show (((1 : Int)) = 0 ∨ ((1 : Int)) = 1) by first | with_reducible assumption | (decide) | assumption) d_Tokens_isSignByte_53
              · skip
                refine zw_iload_n (pc := 42) (n := 0) (x := Int32.ofInt a0_) rfl (zdal_p dlA_Tokens_isSignByte_85 (i := 21) rfl) ?_
                refine zw_bipush (pc := 43) (v := Int32.ofInt 59) (by decide) (zdal_p dlA_Tokens_isSignByte_85 (i := 22) rfl) ?_
                refine zr_icmp_ne (pc := 45) (tgt := 52) ⟨ha0_a, ha0_b⟩ ⟨(by decide), (by decide)⟩ (by decide) (zdal_p dlA_Tokens_isSignByte_85 (i := 23) rfl) (fun hc_45 => ?_) (fun hc_45 => ?_)
                · skip
                  refine zw_iconst (pc := 52) (v := Int32.ofInt 0) (by decide) (zdal_p dlA_Tokens_isSignByte_86 (i := 2) rfl) ?_
                  exact zk_iret (pc := 53) (ty := .boolean) rfl (z_narB (by (decide))) ⟨by (decide), by (decide)⟩ hf (show (((0 : Int)) = 0 ∨ ((0 : Int)) = 1) by first | with_reducible assumption | (decide) | assumption) d_Tokens_isSignByte_53
                · skip
                  refine zw_iconst (pc := 48) (v := Int32.ofInt 1) (by decide) d_Tokens_isSignByte_48 ?_
                  refine zw_goto (pc := 49) (tgt := 53) (by decide) d_Tokens_isSignByte_49 ?_
                  exact zk_iret (pc := 53) (ty := .boolean) rfl (z_narB (by (decide))) ⟨by (decide), by (decide)⟩ hf (show (((1 : Int)) = 0 ∨ ((1 : Int)) = 1) by first | with_reducible assumption | (decide) | assumption) d_Tokens_isSignByte_53
set_option maxHeartbeats 4000000 in
theorem u_Tokens_stepX (l : Launch) (d_ : Nat) (Mz : zMem) (hW : zKW d_ Mz) : zC l m_Tokens_step 0 0 [.ref 1] Mz (zqcV d_ [(1, 2), (1, 3), (1, 4), (1, 5)] [] [] [] Mz (fun N => True)) := by
  refine zC_of (L0 := [some (.ref 1)]) md_Tokens_step (Nat.le_of_ble_eq_true rfl) rfl ?_ zQ0
  have hf : zFc d_ [(1, 2), (1, 3), (1, 4), (1, 5)] [] [] [] Mz Mz := zFc.rf
  refine zw_aload_n (pc := 0) (n := 0) (x := 1) rfl (zdal_p dlA_Tokens_step_72 (i := 0) rfl) ?_
  refine zw_aload_n (pc := 1) (n := 0) (x := 1) rfl (zdal_p dlA_Tokens_step_72 (i := 1) rfl) ?_
  refine zw_aload_n (pc := 2) (n := 0) (x := 1) rfl (zdal_p dlA_Tokens_step_72 (i := 2) rfl) ?_
  refine zk_getI (pc := 3) f_Tokens_28 rfl ((hf.w hW).ka (o := 1) (by decide)) (zdal_p dlA_Tokens_step_72 (i := 3) rfl) ?_
  have hr1_ := ze_r Mz 1 3
  refine zk_callV hf.x (pc := 6) [.int (Int32.ofInt (ze Mz 1 3))] [.ref 1] l_Tokens_34 (u_Tokens_pastBlanksX l d_ Mz (hf.w hW) (ze Mz 1 3) (ze_r Mz 1 3).1 (ze_r Mz 1 3).2) rfl rfl ((hf.w hW).ka (o := 1) (by decide)) (by decide) (by decide) (Nat.le_of_ble_eq_true rfl) (zdal_p dlA_Tokens_step_72 (i := 4) rfl) ?_
  rintro _ N2_ ⟨v3_, rfl, ⟨hv3_a, hv3_b⟩, hsN2_, -⟩
  obtain rfl := hsN2_.eq.symm
  show zW l m_Tokens_step (zn Mz + 0, zw Mz + 0) Mz 9 [some (.ref 1)] [.int (Int32.ofInt v3_), .ref 1] _
  refine zk_putA (pc := 9) (hf.w hW) (by decide) f_Tokens_38 rfl rfl ((hf.w hW).ka (o := 1) (by decide)) ⟨by (exact hv3_a), by (exact hv3_b)⟩ rfl rfl (zdal_p dlA_Tokens_step_72 (i := 5) rfl) (fun N4_ hsN4_ hvN4_ => ?_)
  have hf_N4_ : zFc d_ [(1, 2), (1, 3), (1, 4), (1, 5)] [] [] [] Mz N4_ := hf.tr hsN4_ (by decide) (by decide) (by decide) (by decide)
  refine zw_aload_n (pc := 12) (n := 0) (x := 1) rfl (zdal_p dlA_Tokens_step_72 (i := 6) rfl) ?_
  refine zw_aload_n (pc := 13) (n := 0) (x := 1) rfl (zdal_p dlA_Tokens_step_72 (i := 7) rfl) ?_
  refine zk_getI (pc := 14) f_Tokens_38 rfl ((hf_N4_.w hW).ka (o := 1) (by decide)) (zdal_p dlA_Tokens_step_72 (i := 8) rfl) ?_
  have hr5_ := ze_r N4_ 1 2
  refine zk_putA (pc := 17) (hf_N4_.w hW) (by decide) f_Tokens_28 rfl rfl ((hf_N4_.w hW).ka (o := 1) (by decide)) ⟨by (exact zo_284 hr5_.1), by (exact zo_285 hr5_.2)⟩ rfl rfl (zdal_p dlA_Tokens_step_72 (i := 9) rfl) (fun N6_ hsN6_ hvN6_ => ?_)
  have hf_N6_ : zFc d_ [(1, 2), (1, 3), (1, 4), (1, 5)] [] [] [] Mz N6_ := hf_N4_.tr hsN6_ (by decide) (by decide) (by decide) (by decide)
  refine zw_aload_n (pc := 20) (n := 0) (x := 1) rfl (zdal_p dlA_Tokens_step_72 (i := 10) rfl) ?_
  refine zw_iconst (pc := 21) (v := Int32.ofInt 0) (by decide) (zdal_p dlA_Tokens_step_72 (i := 11) rfl) ?_
  refine zk_putA (pc := 22) (hf_N6_.w hW) (by decide) f_Tokens_41 rfl rfl ((hf_N6_.w hW).ka (o := 1) (by decide)) ⟨by (decide), by (decide)⟩ rfl rfl (zdal_p dlA_Tokens_step_72 (i := 12) rfl) (fun N7_ hsN7_ hvN7_ => ?_)
  have hf_N7_ : zFc d_ [(1, 2), (1, 3), (1, 4), (1, 5)] [] [] [] Mz N7_ := hf_N6_.tr hsN7_ (by decide) (by decide) (by decide) (by decide)
  refine zw_aload_n (pc := 25) (n := 0) (x := 1) rfl (zdal_p dlA_Tokens_step_72 (i := 13) rfl) ?_
  refine zk_getI (pc := 26) f_Tokens_38 rfl ((hf_N7_.w hW).ka (o := 1) (by decide)) (zdal_p dlA_Tokens_step_72 (i := 14) rfl) ?_
  have hr8_ := ze_r N7_ 1 2
  refine zw_aload_n (pc := 29) (n := 0) (x := 1) rfl (zdal_p dlA_Tokens_step_72 (i := 15) rfl) ?_
  refine zk_getI (pc := 30) f_Tokens_20 rfl ((hf_N7_.w hW).ka (o := 1) (by decide)) (zdal_p dlA_Tokens_step_72 (i := 16) rfl) ?_
  rw [hf_N7_.ea hW (by decide)]
  have hr9_ := ze_r Mz 1 1
  refine zr_icmp_lt (pc := 33) (tgt := 44) ⟨(ze_r N7_ 1 2).1, (ze_r N7_ 1 2).2⟩ ⟨(ze_r Mz 1 1).1, (ze_r Mz 1 1).2⟩ (by decide) (zdal_p dlA_Tokens_step_72 (i := 17) rfl) (fun hc_33 => ?_) (fun hc_33 => ?_)
  · skip
    refine zw_aload_n (pc := 44) (n := 0) (x := 1) rfl (zdal_p dlA_Tokens_step_72 (i := 22) rfl) ?_
    refine zw_getF (pc := 45) f_Tokens_14 rfl ((hf_N7_.w hW).ka (o := 1) (by decide)) ((hf_N7_.w hW).la (o := 1) (s := 0) (r := 2) (by decide)) (zdal_p dlA_Tokens_step_72 (i := 23) rfl) ?_
    refine zw_aload_n (pc := 48) (n := 0) (x := 1) rfl (zdal_p dlA_Tokens_step_73 (i := 0) rfl) ?_
    refine zk_getI (pc := 49) f_Tokens_38 rfl ((hf_N7_.w hW).ka (o := 1) (by decide)) (zdal_p dlA_Tokens_step_73 (i := 1) rfl) ?_
    refine zk_atG hf_N7_.x (pc := 52) l_Tokens_47 ((hf_N7_.w hW).ka (o := 2) (by decide)) ((hf_N7_.w hW).la (o := 2) (s := 0) (r := 3) (by decide)) ((hf_N7_.w hW).ra (o := 3) (t := 1) (n := 700) (by decide)) (by decide) ⟨by (exact zo_284 hr8_.1), by (exact zo_285 hr8_.2)⟩ (by decide) (Nat.le_of_ble_eq_true rfl) (zdal_p dlA_Tokens_step_73 (i := 2) rfl) (fun v10_ hv10_ hv10_a hv10_b => ?_)
    clear hv10_
    refine zr_callS hf_N7_.x (pc := 55) [.int (Int32.ofInt v10_)] [] l_Tokens_50 (u_Tokens_isLetterX l d_ N7_ (hf_N7_.w hW) v10_ hv10_a hv10_b) rfl rfl (by decide) (Nat.le_of_ble_eq_true rfl) (zdal_p dlA_Tokens_step_73 (i := 3) rfl) ?_
    rintro _ N11_ ⟨v12_, rfl, ⟨hv12_a, hv12_b⟩, hsN11_, hp0_N11_⟩
    obtain rfl := hsN11_.eq.symm
    replace hp0_N11_ : (v12_ = 0 ∨ v12_ = 1) := hp0_N11_
    show zW l m_Tokens_step (zn Mz + 0, zw Mz + 0) N7_ 58 [some (.ref 1)] [.int (Int32.ofInt v12_)] _
    refine zr_if_eq (pc := 58) (tgt := 68) ⟨hv12_a, hv12_b⟩ (by decide) (zdal_p dlA_Tokens_step_73 (i := 4) rfl) (fun hc_58 => ?_) (fun hc_58 => ?_)
    · skip
      refine zw_aload_n (pc := 68) (n := 0) (x := 1) rfl (zdal_p dlA_Tokens_step_73 (i := 8) rfl) ?_
      refine zw_getF (pc := 69) f_Tokens_14 rfl ((hf_N7_.w hW).ka (o := 1) (by decide)) ((hf_N7_.w hW).la (o := 1) (s := 0) (r := 2) (by decide)) (zdal_p dlA_Tokens_step_73 (i := 9) rfl) ?_
      refine zw_aload_n (pc := 72) (n := 0) (x := 1) rfl (zdal_p dlA_Tokens_step_73 (i := 10) rfl) ?_
      refine zk_getI (pc := 73) f_Tokens_38 rfl ((hf_N7_.w hW).ka (o := 1) (by decide)) (zdal_p dlA_Tokens_step_73 (i := 11) rfl) ?_
      refine zk_atG hf_N7_.x (pc := 76) l_Tokens_47 ((hf_N7_.w hW).ka (o := 2) (by decide)) ((hf_N7_.w hW).la (o := 2) (s := 0) (r := 3) (by decide)) ((hf_N7_.w hW).ra (o := 3) (t := 1) (n := 700) (by decide)) (by decide) ⟨by (exact zo_284 hr8_.1), by (exact zo_285 hr8_.2)⟩ (by decide) (Nat.le_of_ble_eq_true rfl) (zdal_p dlA_Tokens_step_73 (i := 12) rfl) (fun v13_ hv13_ hv13_a hv13_b => ?_)
      clear hv13_
      refine zr_callS hf_N7_.x (pc := 79) [.int (Int32.ofInt v13_)] [] l_Tokens_57 (u_Tokens_isDigitX l d_ N7_ (hf_N7_.w hW) v13_ hv13_a hv13_b) rfl rfl (by decide) (Nat.le_of_ble_eq_true rfl) (zdal_p dlA_Tokens_step_73 (i := 13) rfl) ?_
      rintro _ N14_ ⟨v15_, rfl, ⟨hv15_a, hv15_b⟩, hsN14_, hp0_N14_⟩
      obtain rfl := hsN14_.eq.symm
      replace hp0_N14_ : (v15_ = 0 ∨ v15_ = 1) := hp0_N14_
      show zW l m_Tokens_step (zn Mz + 0, zw Mz + 0) N7_ 82 [some (.ref 1)] [.int (Int32.ofInt v15_)] _
      refine zr_if_eq (pc := 82) (tgt := 92) ⟨hv15_a, hv15_b⟩ (by decide) (zdal_p dlA_Tokens_step_73 (i := 14) rfl) (fun hc_82 => ?_) (fun hc_82 => ?_)
      · skip
        refine zw_aload_n (pc := 92) (n := 0) (x := 1) rfl (zdal_p dlA_Tokens_step_73 (i := 18) rfl) ?_
        refine zw_aload_n (pc := 93) (n := 0) (x := 1) rfl (zdal_p dlA_Tokens_step_73 (i := 19) rfl) ?_
        refine zw_getF (pc := 94) f_Tokens_14 rfl ((hf_N7_.w hW).ka (o := 1) (by decide)) ((hf_N7_.w hW).la (o := 1) (s := 0) (r := 2) (by decide)) (zdal_p dlA_Tokens_step_73 (i := 20) rfl) ?_
        refine zw_aload_n (pc := 97) (n := 0) (x := 1) rfl (zdal_p dlA_Tokens_step_73 (i := 21) rfl) ?_
        refine zk_getI (pc := 98) f_Tokens_38 rfl ((hf_N7_.w hW).ka (o := 1) (by decide)) (zdal_p dlA_Tokens_step_73 (i := 22) rfl) ?_
        refine zk_atG hf_N7_.x (pc := 101) l_Tokens_47 ((hf_N7_.w hW).ka (o := 2) (by decide)) ((hf_N7_.w hW).la (o := 2) (s := 0) (r := 3) (by decide)) ((hf_N7_.w hW).ra (o := 3) (t := 1) (n := 700) (by decide)) (by decide) ⟨by (exact zo_284 hr8_.1), by (exact zo_285 hr8_.2)⟩ (by decide) (Nat.le_of_ble_eq_true rfl) (zdal_p dlA_Tokens_step_73 (i := 23) rfl) (fun v16_ hv16_ hv16_a hv16_b => ?_)
        clear hv16_
        refine zk_putA (pc := 104) (hf_N7_.w hW) (by decide) f_Tokens_41 rfl rfl ((hf_N7_.w hW).ka (o := 1) (by decide)) ⟨by (exact hv16_a), by (exact hv16_b)⟩ rfl rfl (zdal_p dlA_Tokens_step_74 (i := 0) rfl) (fun N17_ hsN17_ hvN17_ => ?_)
        have hf_N17_ : zFc d_ [(1, 2), (1, 3), (1, 4), (1, 5)] [] [] [] Mz N17_ := hf_N7_.tr hsN17_ (by decide) (by decide) (by decide) (by decide)
        refine zw_aload_n (pc := 107) (n := 0) (x := 1) rfl (zdal_p dlA_Tokens_step_74 (i := 1) rfl) ?_
        refine zw_aload_n (pc := 108) (n := 0) (x := 1) rfl (zdal_p dlA_Tokens_step_74 (i := 2) rfl) ?_
        refine zk_getI (pc := 109) f_Tokens_41 rfl ((hf_N17_.w hW).ka (o := 1) (by decide)) (zdal_p dlA_Tokens_step_74 (i := 3) rfl) ?_
        have hr18_ := ze_r N17_ 1 5
        refine zr_callS hf_N17_.x (pc := 112) [.int (Int32.ofInt (ze N17_ 1 5))] [.ref 1] l_Tokens_63 (u_Tokens_isSignByteX l d_ N17_ (hf_N17_.w hW) (ze N17_ 1 5) (ze_r N17_ 1 5).1 (ze_r N17_ 1 5).2) rfl rfl (by decide) (Nat.le_of_ble_eq_true rfl) (zdal_p dlA_Tokens_step_74 (i := 4) rfl) ?_
        rintro _ N19_ ⟨v20_, rfl, ⟨hv20_a, hv20_b⟩, hsN19_, hp0_N19_⟩
        obtain rfl := hsN19_.eq.symm
        replace hp0_N19_ : (v20_ = 0 ∨ v20_ = 1) := hp0_N19_
        show zW l m_Tokens_step (zn Mz + 0, zw Mz + 0) N17_ 115 [some (.ref 1)] [.int (Int32.ofInt v20_), .ref 1] _
        refine zr_if_eq (pc := 115) (tgt := 122) ⟨hv20_a, hv20_b⟩ (by decide) (zdal_p dlA_Tokens_step_74 (i := 5) rfl) (fun hc_115 => ?_) (fun hc_115 => ?_)
        · skip
          refine zw_iconst (pc := 122) (v := Int32.ofInt 4) (by decide) (zdal_p dlA_Tokens_step_74 (i := 8) rfl) ?_
          refine zk_putA (pc := 123) (hf_N17_.w hW) (by decide) f_Tokens_44 rfl rfl ((hf_N17_.w hW).ka (o := 1) (by decide)) ⟨by (decide), by (decide)⟩ rfl rfl (zdal_p dlA_Tokens_step_74 (i := 9) rfl) (fun N21_ hsN21_ hvN21_ => ?_)
          have hf_N21_ : zFc d_ [(1, 2), (1, 3), (1, 4), (1, 5)] [] [] [] Mz N21_ := hf_N17_.tr hsN21_ (by decide) (by decide) (by decide) (by decide)
          refine zw_aload_n (pc := 126) (n := 0) (x := 1) rfl (zdal_p dlA_Tokens_step_74 (i := 10) rfl) ?_
          refine zw_aload_n (pc := 127) (n := 0) (x := 1) rfl (zdal_p dlA_Tokens_step_74 (i := 11) rfl) ?_
          refine zk_getI (pc := 128) f_Tokens_38 rfl ((hf_N21_.w hW).ka (o := 1) (by decide)) (zdal_p dlA_Tokens_step_74 (i := 12) rfl) ?_
          have hr22_ := ze_r N21_ 1 2
          refine zw_iconst (pc := 131) (v := Int32.ofInt 1) (by decide) (zdal_p dlA_Tokens_step_74 (i := 13) rfl) ?_
          refine zr_iadd (pc := 132) (zdal_p dlA_Tokens_step_74 (i := 14) rfl) ?_
          refine zr_nmI (fun v23_ hv23_ => ?_)
          obtain ⟨hv23_a, hv23_b⟩ := hv23_
          refine zk_putA (pc := 133) (hf_N21_.w hW) (by decide) f_Tokens_28 rfl rfl ((hf_N21_.w hW).ka (o := 1) (by decide)) ⟨by (exact hv23_a), by (exact hv23_b)⟩ rfl rfl (zdal_p dlA_Tokens_step_74 (i := 15) rfl) (fun N24_ hsN24_ hvN24_ => ?_)
          have hf_N24_ : zFc d_ [(1, 2), (1, 3), (1, 4), (1, 5)] [] [] [] Mz N24_ := hf_N21_.tr hsN24_ (by decide) (by decide) (by decide) (by decide)
          exact zk_vret (pc := 136) rfl hf_N24_ trivial d_Tokens_step_136
        · skip
          refine zw_iconst (pc := 118) (v := Int32.ofInt 3) (by decide) (zdal_p dlA_Tokens_step_74 (i := 6) rfl) ?_
          refine zw_goto (pc := 119) (tgt := 123) (by decide) (zdal_p dlA_Tokens_step_74 (i := 7) rfl) ?_
          refine zk_putA (pc := 123) (hf_N17_.w hW) (by decide) f_Tokens_44 rfl rfl ((hf_N17_.w hW).ka (o := 1) (by decide)) ⟨by (decide), by (decide)⟩ rfl rfl (zdal_p dlA_Tokens_step_74 (i := 9) rfl) (fun N25_ hsN25_ hvN25_ => ?_)
          have hf_N25_ : zFc d_ [(1, 2), (1, 3), (1, 4), (1, 5)] [] [] [] Mz N25_ := hf_N17_.tr hsN25_ (by decide) (by decide) (by decide) (by decide)
          refine zw_aload_n (pc := 126) (n := 0) (x := 1) rfl (zdal_p dlA_Tokens_step_74 (i := 10) rfl) ?_
          refine zw_aload_n (pc := 127) (n := 0) (x := 1) rfl (zdal_p dlA_Tokens_step_74 (i := 11) rfl) ?_
          refine zk_getI (pc := 128) f_Tokens_38 rfl ((hf_N25_.w hW).ka (o := 1) (by decide)) (zdal_p dlA_Tokens_step_74 (i := 12) rfl) ?_
          have hr26_ := ze_r N25_ 1 2
          refine zw_iconst (pc := 131) (v := Int32.ofInt 1) (by decide) (zdal_p dlA_Tokens_step_74 (i := 13) rfl) ?_
          refine zr_iadd (pc := 132) (zdal_p dlA_Tokens_step_74 (i := 14) rfl) ?_
          refine zr_nmI (fun v27_ hv27_ => ?_)
          obtain ⟨hv27_a, hv27_b⟩ := hv27_
          refine zk_putA (pc := 133) (hf_N25_.w hW) (by decide) f_Tokens_28 rfl rfl ((hf_N25_.w hW).ka (o := 1) (by decide)) ⟨by (exact hv27_a), by (exact hv27_b)⟩ rfl rfl (zdal_p dlA_Tokens_step_74 (i := 15) rfl) (fun N28_ hsN28_ hvN28_ => ?_)
          have hf_N28_ : zFc d_ [(1, 2), (1, 3), (1, 4), (1, 5)] [] [] [] Mz N28_ := hf_N25_.tr hsN28_ (by decide) (by decide) (by decide) (by decide)
          exact zk_vret (pc := 136) rfl hf_N28_ trivial d_Tokens_step_136
      · skip
        refine zw_aload_n (pc := 85) (n := 0) (x := 1) rfl (zdal_p dlA_Tokens_step_73 (i := 15) rfl) ?_
        refine zk_callV hf_N7_.x (pc := 86) [] [] l_Tokens_60 (u_Tokens_readNumberX l d_ N7_ (hf_N7_.w hW) ) rfl rfl ((hf_N7_.w hW).ka (o := 1) (by decide)) (by decide) (by decide) (Nat.le_of_ble_eq_true rfl) (zdal_p dlA_Tokens_step_73 (i := 16) rfl) ?_
        rintro _ N29_ ⟨rfl, hsN29_, -⟩
        have hf_N29_ : zFc d_ [(1, 2), (1, 3), (1, 4), (1, 5)] [] [] [] Mz N29_ := hf_N7_.tr hsN29_ (by decide) (by decide) (by decide) (by decide)
        show zW l m_Tokens_step (zn Mz + 0, zw Mz + 0) N29_ 89 [some (.ref 1)] [] _
        refine zw_goto (pc := 89) (tgt := 136) (by decide) (zdal_p dlA_Tokens_step_73 (i := 17) rfl) ?_
        exact zk_vret (pc := 136) rfl hf_N29_ trivial d_Tokens_step_136
    · skip
      refine zw_aload_n (pc := 61) (n := 0) (x := 1) rfl (zdal_p dlA_Tokens_step_73 (i := 5) rfl) ?_
      refine zk_callV hf_N7_.x (pc := 62) [] [] l_Tokens_54 (u_Tokens_readWordX l d_ N7_ (hf_N7_.w hW) ) rfl rfl ((hf_N7_.w hW).ka (o := 1) (by decide)) (by decide) (by decide) (Nat.le_of_ble_eq_true rfl) (zdal_p dlA_Tokens_step_73 (i := 6) rfl) ?_
      rintro _ N31_ ⟨rfl, hsN31_, -⟩
      have hf_N31_ : zFc d_ [(1, 2), (1, 3), (1, 4), (1, 5)] [] [] [] Mz N31_ := hf_N7_.tr hsN31_ (by decide) (by decide) (by decide) (by decide)
      show zW l m_Tokens_step (zn Mz + 0, zw Mz + 0) N31_ 65 [some (.ref 1)] [] _
      refine zw_goto (pc := 65) (tgt := 136) (by decide) (zdal_p dlA_Tokens_step_73 (i := 7) rfl) ?_
      exact zk_vret (pc := 136) rfl hf_N31_ trivial d_Tokens_step_136
  · skip
    refine zw_aload_n (pc := 36) (n := 0) (x := 1) rfl (zdal_p dlA_Tokens_step_72 (i := 18) rfl) ?_
    refine zw_iconst (pc := 37) (v := Int32.ofInt 0) (by decide) (zdal_p dlA_Tokens_step_72 (i := 19) rfl) ?_
    refine zk_putA (pc := 38) (hf_N7_.w hW) (by decide) f_Tokens_44 rfl rfl ((hf_N7_.w hW).ka (o := 1) (by decide)) ⟨by (decide), by (decide)⟩ rfl rfl (zdal_p dlA_Tokens_step_72 (i := 20) rfl) (fun N33_ hsN33_ hvN33_ => ?_)
    have hf_N33_ : zFc d_ [(1, 2), (1, 3), (1, 4), (1, 5)] [] [] [] Mz N33_ := hf_N7_.tr hsN33_ (by decide) (by decide) (by decide) (by decide)
    refine zw_goto (pc := 41) (tgt := 136) (by decide) (zdal_p dlA_Tokens_step_72 (i := 21) rfl) ?_
    exact zk_vret (pc := 136) rfl hf_N33_ trivial d_Tokens_step_136
set_option maxHeartbeats 4000000 in
theorem u_Tokens_rewindX (l : Launch) (d_ : Nat) (Mz : zMem) (hW : zKW d_ Mz) : zC l m_Tokens_rewind 0 0 [.ref 1] Mz (zqcV d_ [(1, 2), (1, 3), (1, 4), (1, 5)] [] [] [] Mz (fun N => True)) := by
  refine zC_of (L0 := [some (.ref 1)]) md_Tokens_rewind (Nat.le_of_ble_eq_true rfl) rfl ?_ zQ0
  have hf : zFc d_ [(1, 2), (1, 3), (1, 4), (1, 5)] [] [] [] Mz Mz := zFc.rf
  refine zw_aload_n (pc := 0) (n := 0) (x := 1) rfl (zdal_p dlA_Tokens_rewind_71 (i := 0) rfl) ?_
  refine zw_iconst (pc := 1) (v := Int32.ofInt 0) (by decide) (zdal_p dlA_Tokens_rewind_71 (i := 1) rfl) ?_
  refine zk_putA (pc := 2) (hf.w hW) (by decide) f_Tokens_28 rfl rfl ((hf.w hW).ka (o := 1) (by decide)) ⟨by (decide), by (decide)⟩ rfl rfl (zdal_p dlA_Tokens_rewind_71 (i := 2) rfl) (fun N1_ hsN1_ hvN1_ => ?_)
  have hf_N1_ : zFc d_ [(1, 2), (1, 3), (1, 4), (1, 5)] [] [] [] Mz N1_ := hf.tr hsN1_ (by decide) (by decide) (by decide) (by decide)
  refine zw_aload_n (pc := 5) (n := 0) (x := 1) rfl (zdal_p dlA_Tokens_rewind_71 (i := 3) rfl) ?_
  refine zk_callV hf_N1_.x (pc := 6) [] [] l_Tokens_31 (u_Tokens_stepX l d_ N1_ (hf_N1_.w hW) ) rfl rfl ((hf_N1_.w hW).ka (o := 1) (by decide)) (by decide) (by decide) (Nat.le_of_ble_eq_true rfl) (zdal_p dlA_Tokens_rewind_71 (i := 4) rfl) ?_
  rintro _ N2_ ⟨rfl, hsN2_, -⟩
  have hf_N2_ : zFc d_ [(1, 2), (1, 3), (1, 4), (1, 5)] [] [] [] Mz N2_ := hf_N1_.tr hsN2_ (by decide) (by decide) (by decide) (by decide)
  show zW l m_Tokens_rewind (zn Mz + 0, zw Mz + 0) N2_ 9 [some (.ref 1)] [] _
  exact zk_vret (pc := 9) rfl hf_N2_ trivial (zdal_p dlA_Tokens_rewind_71 (i := 5) rfl)
set_option maxHeartbeats 4000000 in
theorem u_Reader_beginX (l : Launch) (d_ : Nat) (Mz : zMem) (hW : zKW d_ Mz) : zC l m_Reader_begin 0 0 [.ref 4] Mz (zqcV d_ [(1, 2), (1, 3), (1, 4), (1, 5), (4, 2), (4, 3)] [] [] [] Mz (fun N => True)) := by
  refine zC_of (L0 := [some (.ref 4)]) md_Reader_begin (Nat.le_of_ble_eq_true rfl) rfl ?_ zQ0
  have hf : zFc d_ [(1, 2), (1, 3), (1, 4), (1, 5), (4, 2), (4, 3)] [] [] [] Mz Mz := zFc.rf
  refine zw_aload_n (pc := 0) (n := 0) (x := 4) rfl (zdal_p dlA_Reader_begin_70 (i := 0) rfl) ?_
  refine zw_iconst (pc := 1) (v := Int32.ofInt 0) (by decide) (zdal_p dlA_Reader_begin_70 (i := 1) rfl) ?_
  refine zk_putA (pc := 2) (hf.w hW) (by decide) f_Reader_19 rfl rfl ((hf.w hW).ka (o := 4) (by decide)) ⟨by (decide), by (decide)⟩ rfl rfl (zdal_p dlA_Reader_begin_70 (i := 2) rfl) (fun N1_ hsN1_ hvN1_ => ?_)
  have hf_N1_ : zFc d_ [(1, 2), (1, 3), (1, 4), (1, 5), (4, 2), (4, 3)] [] [] [] Mz N1_ := hf.tr hsN1_ (by decide) (by decide) (by decide) (by decide)
  refine zw_aload_n (pc := 5) (n := 0) (x := 4) rfl (zdal_p dlA_Reader_begin_70 (i := 3) rfl) ?_
  refine zw_iconst (pc := 6) (v := Int32.ofInt (-1)) (by decide) (zdal_p dlA_Reader_begin_70 (i := 4) rfl) ?_
  refine zk_putA (pc := 7) (hf_N1_.w hW) (by decide) f_Reader_9 rfl rfl ((hf_N1_.w hW).ka (o := 4) (by decide)) ⟨by (decide), by (decide)⟩ rfl rfl (zdal_p dlA_Reader_begin_70 (i := 5) rfl) (fun N2_ hsN2_ hvN2_ => ?_)
  have hf_N2_ : zFc d_ [(1, 2), (1, 3), (1, 4), (1, 5), (4, 2), (4, 3)] [] [] [] Mz N2_ := hf_N1_.tr hsN2_ (by decide) (by decide) (by decide) (by decide)
  refine zw_aload_n (pc := 10) (n := 0) (x := 4) rfl (zdal_p dlA_Reader_begin_70 (i := 6) rfl) ?_
  refine zw_getF (pc := 11) f_Reader_15 rfl ((hf_N2_.w hW).ka (o := 4) (by decide)) ((hf_N2_.w hW).la (o := 4) (s := 0) (r := 1) (by decide)) (zdal_p dlA_Reader_begin_70 (i := 7) rfl) ?_
  refine zk_callV hf_N2_.x (pc := 14) [] [] l_Reader_22 (u_Tokens_rewindX l d_ N2_ (hf_N2_.w hW) ) rfl rfl ((hf_N2_.w hW).ka (o := 1) (by decide)) (by decide) (by decide) (Nat.le_of_ble_eq_true rfl) (zdal_p dlA_Reader_begin_70 (i := 8) rfl) ?_
  rintro _ N3_ ⟨rfl, hsN3_, -⟩
  have hf_N3_ : zFc d_ [(1, 2), (1, 3), (1, 4), (1, 5), (4, 2), (4, 3)] [] [] [] Mz N3_ := hf_N2_.tr hsN3_ (by decide) (by decide) (by decide) (by decide)
  show zW l m_Reader_begin (zn Mz + 0, zw Mz + 0) N3_ 17 [some (.ref 4)] [] _
  exact zk_vret (pc := 17) rfl hf_N3_ trivial (zdal_p dlA_Reader_begin_70 (i := 9) rfl)
set_option maxHeartbeats 4000000 in
theorem u_Calc_beginX (l : Launch) (d_ : Nat) (Mz : zMem) (hW : zKW d_ Mz) : zC l m_Calc_begin 0 0 [.ref (d_ + 33)] Mz (zqcV d_ [] [] [(33, 2), (33, 3), (33, 4), (33, 5), (33, 6)] [] Mz (fun N => True)) := by
  refine zC_of (L0 := [some (.ref (d_ + 33))]) md_Calc_begin (Nat.le_of_ble_eq_true rfl) rfl ?_ zQ0
  have hf : zFc d_ [] [] [(33, 2), (33, 3), (33, 4), (33, 5), (33, 6)] [] Mz Mz := zFc.rf
  refine zw_aload_n (pc := 0) (n := 0) (x := (d_ + 33)) rfl (zdal_p dlA_Calc_begin_113 (i := 0) rfl) ?_
  refine zw_iconst (pc := 1) (v := Int32.ofInt 0) (by decide) (zdal_p dlA_Calc_begin_113 (i := 1) rfl) ?_
  refine zk_putR (pc := 2) (o := 33) (by decide) f_Calc_24 rfl rfl ((hf.w hW).kr (o := 33) (by decide)) ⟨by (decide), by (decide)⟩ rfl rfl (zdal_p dlA_Calc_begin_113 (i := 2) rfl) (fun N1_ hsN1_ hvN1_ => ?_)
  have hf_N1_ : zFc d_ [] [] [(33, 2), (33, 3), (33, 4), (33, 5), (33, 6)] [] Mz N1_ := hf.tr hsN1_ (by decide) (by decide) (by decide) (by decide)
  refine zw_aload_n (pc := 5) (n := 0) (x := (d_ + 33)) rfl (zdal_p dlA_Calc_begin_113 (i := 3) rfl) ?_
  refine zw_iconst (pc := 6) (v := Int32.ofInt 0) (by decide) (zdal_p dlA_Calc_begin_113 (i := 4) rfl) ?_
  refine zk_putR (pc := 7) (o := 33) (by decide) f_Calc_28 rfl rfl ((hf_N1_.w hW).kr (o := 33) (by decide)) ⟨by (decide), by (decide)⟩ rfl rfl (zdal_p dlA_Calc_begin_113 (i := 5) rfl) (fun N2_ hsN2_ hvN2_ => ?_)
  have hf_N2_ : zFc d_ [] [] [(33, 2), (33, 3), (33, 4), (33, 5), (33, 6)] [] Mz N2_ := hf_N1_.tr hsN2_ (by decide) (by decide) (by decide) (by decide)
  refine zw_aload_n (pc := 10) (n := 0) (x := (d_ + 33)) rfl (zdal_p dlA_Calc_begin_113 (i := 6) rfl) ?_
  refine zw_iconst (pc := 11) (v := Int32.ofInt 0) (by decide) (zdal_p dlA_Calc_begin_113 (i := 7) rfl) ?_
  refine zk_putR (pc := 12) (o := 33) (by decide) f_Calc_31 rfl rfl ((hf_N2_.w hW).kr (o := 33) (by decide)) ⟨by (decide), by (decide)⟩ rfl rfl (zdal_p dlA_Calc_begin_113 (i := 8) rfl) (fun N3_ hsN3_ hvN3_ => ?_)
  have hf_N3_ : zFc d_ [] [] [(33, 2), (33, 3), (33, 4), (33, 5), (33, 6)] [] Mz N3_ := hf_N2_.tr hsN3_ (by decide) (by decide) (by decide) (by decide)
  refine zw_aload_n (pc := 15) (n := 0) (x := (d_ + 33)) rfl (zdal_p dlA_Calc_begin_113 (i := 9) rfl) ?_
  refine zw_iconst (pc := 16) (v := Int32.ofInt 0) (by decide) (zdal_p dlA_Calc_begin_113 (i := 10) rfl) ?_
  refine zk_putR (pc := 17) (o := 33) (by decide) f_Calc_34 rfl rfl ((hf_N3_.w hW).kr (o := 33) (by decide)) ⟨by (decide), by (decide)⟩ rfl rfl (zdal_p dlA_Calc_begin_113 (i := 11) rfl) (fun N4_ hsN4_ hvN4_ => ?_)
  have hf_N4_ : zFc d_ [] [] [(33, 2), (33, 3), (33, 4), (33, 5), (33, 6)] [] Mz N4_ := hf_N3_.tr hsN4_ (by decide) (by decide) (by decide) (by decide)
  refine zw_aload_n (pc := 20) (n := 0) (x := (d_ + 33)) rfl (zdal_p dlA_Calc_begin_113 (i := 12) rfl) ?_
  refine zw_iconst (pc := 21) (v := Int32.ofInt 0) (by decide) (zdal_p dlA_Calc_begin_113 (i := 13) rfl) ?_
  refine zk_putR (pc := 22) (o := 33) (by decide) f_Calc_37 rfl rfl ((hf_N4_.w hW).kr (o := 33) (by decide)) ⟨by (decide), by (decide)⟩ (z_narB (by (decide))) (z_fitB (by (decide))) (zdal_p dlA_Calc_begin_113 (i := 14) rfl) (fun N5_ hsN5_ hvN5_ => ?_)
  have hf_N5_ : zFc d_ [] [] [(33, 2), (33, 3), (33, 4), (33, 5), (33, 6)] [] Mz N5_ := hf_N4_.tr hsN5_ (by decide) (by decide) (by decide) (by decide)
  exact zk_vret (pc := 25) rfl hf_N5_ trivial (zdal_p dlA_Calc_begin_113 (i := 15) rfl)
set_option maxHeartbeats 4000000 in
theorem u_Tokens_isSignX (l : Launch) (d_ : Nat) (Mz : zMem) (hW : zKW d_ Mz) (a0_ : Int) (ha0_a : -2147483648 ≤ a0_) (ha0_b : a0_ < 2147483648) : zC l m_Tokens_isSign 0 0 [.ref 1, .int (Int32.ofInt a0_)] Mz (zqcI d_ [] [] [] [] Mz (fun v N => ((v = 0 ∨ v = 1)))) := by
  refine zC_of (L0 := [some (.ref 1), some (.int (Int32.ofInt a0_))]) md_Tokens_isSign (Nat.le_of_ble_eq_true rfl) rfl ?_ zQ0
  have hf : zFc d_ [] [] [] [] Mz Mz := zFc.rf
  refine zw_aload_n (pc := 0) (n := 0) (x := 1) rfl (zdal_p dlA_Tokens_isSign_95 (i := 0) rfl) ?_
  refine zk_getI (pc := 1) f_Tokens_44 rfl ((hf.w hW).ka (o := 1) (by decide)) (zdal_p dlA_Tokens_isSign_95 (i := 1) rfl) ?_
  have hr1_ := ze_r Mz 1 4
  refine zw_iconst (pc := 4) (v := Int32.ofInt 3) (by decide) (zdal_p dlA_Tokens_isSign_95 (i := 2) rfl) ?_
  refine zr_icmp_ne (pc := 5) (tgt := 20) ⟨(ze_r Mz 1 4).1, (ze_r Mz 1 4).2⟩ ⟨(by decide), (by decide)⟩ (by decide) (zdal_p dlA_Tokens_isSign_95 (i := 3) rfl) (fun hc_5 => ?_) (fun hc_5 => ?_)
  · skip
    refine zw_iconst (pc := 20) (v := Int32.ofInt 0) (by decide) (zdal_p dlA_Tokens_isSign_95 (i := 10) rfl) ?_
    exact zk_iret (pc := 21) (ty := .boolean) rfl (z_narB (by (decide))) ⟨by (decide), by (decide)⟩ hf (show (((0 : Int)) = 0 ∨ ((0 : Int)) = 1) by first | with_reducible assumption | (decide) | assumption) d_Tokens_isSign_21
  · skip
    refine zw_aload_n (pc := 8) (n := 0) (x := 1) rfl (zdal_p dlA_Tokens_isSign_95 (i := 4) rfl) ?_
    refine zk_getI (pc := 9) f_Tokens_41 rfl ((hf.w hW).ka (o := 1) (by decide)) (zdal_p dlA_Tokens_isSign_95 (i := 5) rfl) ?_
    have hr2_ := ze_r Mz 1 5
    refine zw_iload_n (pc := 12) (n := 1) (x := Int32.ofInt a0_) rfl (zdal_p dlA_Tokens_isSign_95 (i := 6) rfl) ?_
    refine zr_icmp_ne (pc := 13) (tgt := 20) ⟨(ze_r Mz 1 5).1, (ze_r Mz 1 5).2⟩ ⟨ha0_a, ha0_b⟩ (by decide) (zdal_p dlA_Tokens_isSign_95 (i := 7) rfl) (fun hc_13 => ?_) (fun hc_13 => ?_)
    · skip
      refine zw_iconst (pc := 20) (v := Int32.ofInt 0) (by decide) (zdal_p dlA_Tokens_isSign_95 (i := 10) rfl) ?_
      exact zk_iret (pc := 21) (ty := .boolean) rfl (z_narB (by (decide))) ⟨by (decide), by (decide)⟩ hf (show (((0 : Int)) = 0 ∨ ((0 : Int)) = 1) by first | with_reducible assumption | (decide) | assumption) d_Tokens_isSign_21
    · skip
      refine zw_iconst (pc := 16) (v := Int32.ofInt 1) (by decide) (zdal_p dlA_Tokens_isSign_95 (i := 8) rfl) ?_
      refine zw_goto (pc := 17) (tgt := 21) (by decide) (zdal_p dlA_Tokens_isSign_95 (i := 9) rfl) ?_
      exact zk_iret (pc := 21) (ty := .boolean) rfl (z_narB (by (decide))) ⟨by (decide), by (decide)⟩ hf (show (((1 : Int)) = 0 ∨ ((1 : Int)) = 1) by first | with_reducible assumption | (decide) | assumption) d_Tokens_isSign_21
set_option maxHeartbeats 4000000 in
theorem u_Reader_refuseAtX (l : Launch) (d_ : Nat) (Mz : zMem) (hW : zKW d_ Mz) (a0_ : Int) (ha0_a : -2147483648 ≤ a0_) (ha0_b : a0_ < 2147483648) (a1_ : Int) (ha1_a : -2147483648 ≤ a1_) (ha1_b : a1_ < 2147483648) : zC l m_Reader_refuseAt 0 0 [.ref 4, .int (Int32.ofInt a0_), .int (Int32.ofInt a1_)] Mz (zqcI d_ [(4, 2), (4, 3)] [] [] [] Mz (fun v N => ((v = 0 ∨ v = 1)))) := by
  refine zC_of (L0 := [some (.ref 4), some (.int (Int32.ofInt a0_)), some (.int (Int32.ofInt a1_))]) md_Reader_refuseAt (Nat.le_of_ble_eq_true rfl) rfl ?_ zQ0
  have hf : zFc d_ [(4, 2), (4, 3)] [] [] [] Mz Mz := zFc.rf
  refine zw_aload_n (pc := 0) (n := 0) (x := 4) rfl (zdal_p dlA_Reader_refuseAt_92 (i := 0) rfl) ?_
  refine zw_iload_n (pc := 1) (n := 1) (x := Int32.ofInt a0_) rfl (zdal_p dlA_Reader_refuseAt_92 (i := 1) rfl) ?_
  refine zk_putA (pc := 2) (hf.w hW) (by decide) f_Reader_19 rfl rfl ((hf.w hW).ka (o := 4) (by decide)) ⟨by (exact ha0_a), by (exact ha0_b)⟩ rfl rfl (zdal_p dlA_Reader_refuseAt_92 (i := 2) rfl) (fun N1_ hsN1_ hvN1_ => ?_)
  have hf_N1_ : zFc d_ [(4, 2), (4, 3)] [] [] [] Mz N1_ := hf.tr hsN1_ (by decide) (by decide) (by decide) (by decide)
  refine zw_aload_n (pc := 5) (n := 0) (x := 4) rfl (zdal_p dlA_Reader_refuseAt_92 (i := 3) rfl) ?_
  refine zw_iload_n (pc := 6) (n := 2) (x := Int32.ofInt a1_) rfl (zdal_p dlA_Reader_refuseAt_92 (i := 4) rfl) ?_
  refine zk_putA (pc := 7) (hf_N1_.w hW) (by decide) f_Reader_9 rfl rfl ((hf_N1_.w hW).ka (o := 4) (by decide)) ⟨by (exact ha1_a), by (exact ha1_b)⟩ rfl rfl (zdal_p dlA_Reader_refuseAt_92 (i := 5) rfl) (fun N2_ hsN2_ hvN2_ => ?_)
  have hf_N2_ : zFc d_ [(4, 2), (4, 3)] [] [] [] Mz N2_ := hf_N1_.tr hsN2_ (by decide) (by decide) (by decide) (by decide)
  refine zw_iconst (pc := 10) (v := Int32.ofInt 0) (by decide) (zdal_p dlA_Reader_refuseAt_92 (i := 6) rfl) ?_
  exact zk_iret (pc := 11) (ty := .boolean) rfl (z_narB (by (decide))) ⟨by (decide), by (decide)⟩ hf_N2_ (show (((0 : Int)) = 0 ∨ ((0 : Int)) = 1) by first | with_reducible assumption | (decide) | assumption) (zdal_p dlA_Reader_refuseAt_92 (i := 7) rfl)
set_option maxHeartbeats 4000000 in
theorem u_Reader_refuseX (l : Launch) (d_ : Nat) (Mz : zMem) (hW : zKW d_ Mz) (a0_ : Int) (ha0_a : -2147483648 ≤ a0_) (ha0_b : a0_ < 2147483648) : zC l m_Reader_refuse 0 0 [.ref 4, .int (Int32.ofInt a0_)] Mz (zqcI d_ [(4, 2), (4, 3)] [] [] [] Mz (fun v N => ((v = 0 ∨ v = 1)))) := by
  refine zC_of (L0 := [some (.ref 4), some (.int (Int32.ofInt a0_))]) md_Reader_refuse (Nat.le_of_ble_eq_true rfl) rfl ?_ zQ0
  have hf : zFc d_ [(4, 2), (4, 3)] [] [] [] Mz Mz := zFc.rf
  refine zw_aload_n (pc := 0) (n := 0) (x := 4) rfl (zdal_p dlA_Reader_refuse_91 (i := 0) rfl) ?_
  refine zw_aload_n (pc := 1) (n := 0) (x := 4) rfl (zdal_p dlA_Reader_refuse_91 (i := 1) rfl) ?_
  refine zw_getF (pc := 2) f_Reader_15 rfl ((hf.w hW).ka (o := 4) (by decide)) ((hf.w hW).la (o := 4) (s := 0) (r := 1) (by decide)) (zdal_p dlA_Reader_refuse_91 (i := 2) rfl) ?_
  refine zk_getI (pc := 5) f_Reader_27 rfl ((hf.w hW).ka (o := 1) (by decide)) (zdal_p dlA_Reader_refuse_91 (i := 3) rfl) ?_
  have hr1_ := ze_r Mz 1 4
  refine zw_iconst (pc := 8) (v := Int32.ofInt 4) (by decide) (zdal_p dlA_Reader_refuse_91 (i := 4) rfl) ?_
  refine zr_icmp_ne (pc := 9) (tgt := 16) ⟨(ze_r Mz 1 4).1, (ze_r Mz 1 4).2⟩ ⟨(by decide), (by decide)⟩ (by decide) (zdal_p dlA_Reader_refuse_91 (i := 5) rfl) (fun hc_9 => ?_) (fun hc_9 => ?_)
  · skip
    refine zw_iload_n (pc := 16) (n := 1) (x := Int32.ofInt a0_) rfl (zdal_p dlA_Reader_refuse_91 (i := 8) rfl) ?_
    refine zw_aload_n (pc := 17) (n := 0) (x := 4) rfl (zdal_p dlA_Reader_refuse_91 (i := 9) rfl) ?_
    refine zw_getF (pc := 18) f_Reader_15 rfl ((hf.w hW).ka (o := 4) (by decide)) ((hf.w hW).la (o := 4) (s := 0) (r := 1) (by decide)) (zdal_p dlA_Reader_refuse_91 (i := 10) rfl) ?_
    refine zk_getI (pc := 21) f_Reader_30 rfl ((hf.w hW).ka (o := 1) (by decide)) (zdal_p dlA_Reader_refuse_91 (i := 11) rfl) ?_
    have hr2_ := ze_r Mz 1 2
    refine zk_callV hf.x (pc := 24) [.int (Int32.ofInt a0_), .int (Int32.ofInt (ze Mz 1 2))] [] l_Reader_33 (u_Reader_refuseAtX l d_ Mz (hf.w hW) a0_ ha0_a ha0_b (ze Mz 1 2) (ze_r Mz 1 2).1 (ze_r Mz 1 2).2) rfl rfl ((hf.w hW).ka (o := 4) (by decide)) (by decide) (by decide) (Nat.le_of_ble_eq_true rfl) (zdal_p dlA_Reader_refuse_91 (i := 12) rfl) ?_
    rintro _ N3_ ⟨v4_, rfl, ⟨hv4_a, hv4_b⟩, hsN3_, hp0_N3_⟩
    replace hp0_N3_ : (v4_ = 0 ∨ v4_ = 1) := hp0_N3_
    have hf_N3_ : zFc d_ [(4, 2), (4, 3)] [] [] [] Mz N3_ := hf.tr hsN3_ (by decide) (by decide) (by decide) (by decide)
    show zW l m_Reader_refuse (zn Mz + 0, zw Mz + 0) N3_ 27 [some (.ref 4), some (.int (Int32.ofInt a0_))] [.int (Int32.ofInt v4_)] _
    exact zk_iret (pc := 27) (ty := .boolean) rfl (z_narB (by (exact hp0_N3_))) ⟨by (exact hv4_a), by (exact hv4_b)⟩ hf_N3_ (show (v4_ = 0 ∨ v4_ = 1) by first | with_reducible assumption | assumption | omega) (zdal_p dlA_Reader_refuse_91 (i := 13) rfl)
  · skip
    refine zw_iconst (pc := 12) (v := Int32.ofInt 1) (by decide) (zdal_p dlA_Reader_refuse_91 (i := 6) rfl) ?_
    refine zw_goto (pc := 13) (tgt := 17) (by decide) (zdal_p dlA_Reader_refuse_91 (i := 7) rfl) ?_
    refine zw_aload_n (pc := 17) (n := 0) (x := 4) rfl (zdal_p dlA_Reader_refuse_91 (i := 9) rfl) ?_
    refine zw_getF (pc := 18) f_Reader_15 rfl ((hf.w hW).ka (o := 4) (by decide)) ((hf.w hW).la (o := 4) (s := 0) (r := 1) (by decide)) (zdal_p dlA_Reader_refuse_91 (i := 10) rfl) ?_
    refine zk_getI (pc := 21) f_Reader_30 rfl ((hf.w hW).ka (o := 1) (by decide)) (zdal_p dlA_Reader_refuse_91 (i := 11) rfl) ?_
    have hr5_ := ze_r Mz 1 2
    refine zk_callV hf.x (pc := 24) [.int (Int32.ofInt 1), .int (Int32.ofInt (ze Mz 1 2))] [] l_Reader_33 (u_Reader_refuseAtX l d_ Mz (hf.w hW) 1 (by decide) (by decide) (ze Mz 1 2) (ze_r Mz 1 2).1 (ze_r Mz 1 2).2) rfl rfl ((hf.w hW).ka (o := 4) (by decide)) (by decide) (by decide) (Nat.le_of_ble_eq_true rfl) (zdal_p dlA_Reader_refuse_91 (i := 12) rfl) ?_
    rintro _ N6_ ⟨v7_, rfl, ⟨hv7_a, hv7_b⟩, hsN6_, hp0_N6_⟩
    replace hp0_N6_ : (v7_ = 0 ∨ v7_ = 1) := hp0_N6_
    have hf_N6_ : zFc d_ [(4, 2), (4, 3)] [] [] [] Mz N6_ := hf.tr hsN6_ (by decide) (by decide) (by decide) (by decide)
    show zW l m_Reader_refuse (zn Mz + 0, zw Mz + 0) N6_ 27 [some (.ref 4), some (.int (Int32.ofInt a0_))] [.int (Int32.ofInt v7_)] _
    exact zk_iret (pc := 27) (ty := .boolean) rfl (z_narB (by (exact hp0_N6_))) ⟨by (exact hv7_a), by (exact hv7_b)⟩ hf_N6_ (show (v7_ = 0 ∨ v7_ = 1) by first | with_reducible assumption | assumption | omega) (zdal_p dlA_Reader_refuse_91 (i := 13) rfl)
set_option maxHeartbeats 4000000 in
theorem u_Reader_countUnitX (l : Launch) (d_ : Nat) (Mz : zMem) (hW : zKW d_ Mz) : zC l m_Reader_countUnit 0 0 [.ref 4, .ref (d_ + 33)] Mz (zqcI d_ [(4, 1), (4, 2), (4, 3)] [] [] [] Mz (fun v N => ((v = 0 ∨ v = 1)))) := by
  refine zC_of (L0 := [some (.ref 4), some (.ref (d_ + 33))]) md_Reader_countUnit (Nat.le_of_ble_eq_true rfl) rfl ?_ zQ0
  have hf : zFc d_ [(4, 1), (4, 2), (4, 3)] [] [] [] Mz Mz := zFc.rf
  refine zw_aload_n (pc := 0) (n := 0) (x := 4) rfl (zdal_p dlA_Reader_countUnit_116 (i := 0) rfl) ?_
  refine zk_getI (pc := 1) f_Reader_126 rfl ((hf.w hW).ka (o := 4) (by decide)) (zdal_p dlA_Reader_countUnit_116 (i := 1) rfl) ?_
  have hr1_ := ze_r Mz 4 1
  refine zw_bipush (pc := 4) (v := Int32.ofInt 30) (by decide) (zdal_p dlA_Reader_countUnit_116 (i := 2) rfl) ?_
  refine zr_icmp_ge (pc := 6) (tgt := 18) ⟨(ze_r Mz 4 1).1, (ze_r Mz 4 1).2⟩ ⟨(by decide), (by decide)⟩ (by decide) (zdal_p dlA_Reader_countUnit_116 (i := 3) rfl) (fun hc_6 => ?_) (fun hc_6 => ?_)
  · skip
    refine zw_aload_n (pc := 18) (n := 0) (x := 4) rfl (zdal_p dlA_Reader_countUnit_116 (i := 8) rfl) ?_
    refine zw_iconst (pc := 19) (v := Int32.ofInt 5) (by decide) (zdal_p dlA_Reader_countUnit_116 (i := 9) rfl) ?_
    refine zk_callV hf.x (pc := 20) [.int (Int32.ofInt 5)] [] l_Reader_41 (u_Reader_refuseX l d_ Mz (hf.w hW) 5 (by decide) (by decide)) rfl rfl ((hf.w hW).ka (o := 4) (by decide)) (by decide) (by decide) (Nat.le_of_ble_eq_true rfl) (zdal_p dlA_Reader_countUnit_116 (i := 10) rfl) ?_
    rintro _ N2_ ⟨v3_, rfl, ⟨hv3_a, hv3_b⟩, hsN2_, hp0_N2_⟩
    replace hp0_N2_ : (v3_ = 0 ∨ v3_ = 1) := hp0_N2_
    have hf_N2_ : zFc d_ [(4, 1), (4, 2), (4, 3)] [] [] [] Mz N2_ := hf.tr hsN2_ (by decide) (by decide) (by decide) (by decide)
    show zW l m_Reader_countUnit (zn Mz + 0, zw Mz + 0) N2_ 23 [some (.ref 4), some (.ref (d_ + 33))] [.int (Int32.ofInt v3_)] _
    exact zk_iret (pc := 23) (ty := .boolean) rfl (z_narB (by (exact hp0_N2_))) ⟨by (exact hv3_a), by (exact hv3_b)⟩ hf_N2_ (show (v3_ = 0 ∨ v3_ = 1) by first | with_reducible assumption | assumption | omega) (zdal_p dlA_Reader_countUnit_116 (i := 11) rfl)
  · skip
    refine zw_aload_n (pc := 9) (n := 1) (x := (d_ + 33)) rfl (zdal_p dlA_Reader_countUnit_116 (i := 4) rfl) ?_
    refine zk_getI (pc := 10) f_Reader_149 rfl ((hf.w hW).kr (o := 33) (by decide)) (zdal_p dlA_Reader_countUnit_116 (i := 5) rfl) ?_
    have hr4_ := ze_r Mz (d_ + 33) 4
    refine zw_bipush (pc := 13) (v := Int32.ofInt 6) (by decide) (zdal_p dlA_Reader_countUnit_116 (i := 6) rfl) ?_
    refine zr_icmp_le (pc := 15) (tgt := 24) ⟨(ze_r Mz (d_ + 33) 4).1, (ze_r Mz (d_ + 33) 4).2⟩ ⟨(by decide), (by decide)⟩ (by decide) (zdal_p dlA_Reader_countUnit_116 (i := 7) rfl) (fun hc_15 => ?_) (fun hc_15 => ?_)
    · skip
      refine zw_aload_n (pc := 24) (n := 0) (x := 4) rfl (zdal_p dlA_Reader_countUnit_116 (i := 12) rfl) ?_
      refine zw_dup (pc := 25) rfl (zdal_p dlA_Reader_countUnit_116 (i := 13) rfl) ?_
      refine zk_getI (pc := 26) f_Reader_126 rfl ((hf.w hW).ka (o := 4) (by decide)) (zdal_p dlA_Reader_countUnit_116 (i := 14) rfl) ?_
      refine zw_iconst (pc := 29) (v := Int32.ofInt 1) (by decide) (zdal_p dlA_Reader_countUnit_116 (i := 15) rfl) ?_
      refine zr_iadd (pc := 30) (zdal_p dlA_Reader_countUnit_116 (i := 16) rfl) ?_
      refine zr_nmI (fun v5_ hv5_ => ?_)
      obtain ⟨hv5_a, hv5_b⟩ := hv5_
      refine zk_putA (pc := 31) (hf.w hW) (by decide) f_Reader_126 rfl rfl ((hf.w hW).ka (o := 4) (by decide)) ⟨by (exact hv5_a), by (exact hv5_b)⟩ rfl rfl (zdal_p dlA_Reader_countUnit_116 (i := 17) rfl) (fun N6_ hsN6_ hvN6_ => ?_)
      have hf_N6_ : zFc d_ [(4, 1), (4, 2), (4, 3)] [] [] [] Mz N6_ := hf.tr hsN6_ (by decide) (by decide) (by decide) (by decide)
      refine zw_iconst (pc := 34) (v := Int32.ofInt 1) (by decide) (zdal_p dlA_Reader_countUnit_116 (i := 18) rfl) ?_
      exact zk_iret (pc := 35) (ty := .boolean) rfl (z_narB (by (decide))) ⟨by (decide), by (decide)⟩ hf_N6_ (show (((1 : Int)) = 0 ∨ ((1 : Int)) = 1) by first | with_reducible assumption | (decide) | assumption) (zdal_p dlA_Reader_countUnit_116 (i := 19) rfl)
    · skip
      refine zw_aload_n (pc := 18) (n := 0) (x := 4) rfl (zdal_p dlA_Reader_countUnit_116 (i := 8) rfl) ?_
      refine zw_iconst (pc := 19) (v := Int32.ofInt 5) (by decide) (zdal_p dlA_Reader_countUnit_116 (i := 9) rfl) ?_
      refine zk_callV hf.x (pc := 20) [.int (Int32.ofInt 5)] [] l_Reader_41 (u_Reader_refuseX l d_ Mz (hf.w hW) 5 (by decide) (by decide)) rfl rfl ((hf.w hW).ka (o := 4) (by decide)) (by decide) (by decide) (Nat.le_of_ble_eq_true rfl) (zdal_p dlA_Reader_countUnit_116 (i := 10) rfl) ?_
      rintro _ N7_ ⟨v8_, rfl, ⟨hv8_a, hv8_b⟩, hsN7_, hp0_N7_⟩
      replace hp0_N7_ : (v8_ = 0 ∨ v8_ = 1) := hp0_N7_
      have hf_N7_ : zFc d_ [(4, 1), (4, 2), (4, 3)] [] [] [] Mz N7_ := hf.tr hsN7_ (by decide) (by decide) (by decide) (by decide)
      show zW l m_Reader_countUnit (zn Mz + 0, zw Mz + 0) N7_ 23 [some (.ref 4), some (.ref (d_ + 33))] [.int (Int32.ofInt v8_)] _
      exact zk_iret (pc := 23) (ty := .boolean) rfl (z_narB (by (exact hp0_N7_))) ⟨by (exact hv8_a), by (exact hv8_b)⟩ hf_N7_ (show (v8_ = 0 ∨ v8_ = 1) by first | with_reducible assumption | assumption | omega) (zdal_p dlA_Reader_countUnit_116 (i := 11) rfl)
set_option maxHeartbeats 4000000 in
theorem u_Calc_pushSignX (l : Launch) (d_ : Nat) (Mz : zMem) (hW : zKW d_ Mz) (a0_ : Int) (ha0_a : -2147483648 ≤ a0_) (ha0_b : a0_ < 2147483648) : zC l m_Calc_pushSign 0 0 [.ref (d_ + 33), .int (Int32.ofInt a0_)] Mz (zqcV d_ [] [] [(33, 2)] [35] Mz (fun N => True)) := by
  refine zC_of (L0 := [some (.ref (d_ + 33)), some (.int (Int32.ofInt a0_))]) md_Calc_pushSign (Nat.le_of_ble_eq_true rfl) rfl ?_ zQ0
  have hf : zFc d_ [] [] [(33, 2)] [35] Mz Mz := zFc.rf
  refine zw_aload_n (pc := 0) (n := 0) (x := (d_ + 33)) rfl (zdal_p dlA_Calc_pushSign_118 (i := 0) rfl) ?_
  refine zk_getI (pc := 1) f_Calc_24 rfl ((hf.w hW).kr (o := 33) (by decide)) (zdal_p dlA_Calc_pushSign_118 (i := 1) rfl) ?_
  have hr1_ := ze_r Mz (d_ + 33) 2
  refine zw_bipush (pc := 4) (v := Int32.ofInt 24) (by decide) (zdal_p dlA_Calc_pushSign_118 (i := 2) rfl) ?_
  refine zr_icmp_ge (pc := 6) (tgt := 31) ⟨(ze_r Mz (d_ + 33) 2).1, (ze_r Mz (d_ + 33) 2).2⟩ ⟨(by decide), (by decide)⟩ (by decide) (zdal_p dlA_Calc_pushSign_118 (i := 3) rfl) (fun hc_6 => ?_) (fun hc_6 => ?_)
  · skip
    exact zk_vret (pc := 31) rfl hf trivial (zdal_p dlA_Calc_pushSign_118 (i := 16) rfl)
  · skip
    refine zw_aload_n (pc := 9) (n := 0) (x := (d_ + 33)) rfl (zdal_p dlA_Calc_pushSign_118 (i := 4) rfl) ?_
    refine zw_getF (pc := 10) f_Calc_14 rfl ((hf.w hW).kr (o := 33) (by decide)) ((hf.w hW).lr (o := 33) (s := 1) (r := 34) (by decide)) (zdal_p dlA_Calc_pushSign_118 (i := 5) rfl) ?_
    refine zw_aload_n (pc := 13) (n := 0) (x := (d_ + 33)) rfl (zdal_p dlA_Calc_pushSign_118 (i := 6) rfl) ?_
    refine zk_getI (pc := 14) f_Calc_24 rfl ((hf.w hW).kr (o := 33) (by decide)) (zdal_p dlA_Calc_pushSign_118 (i := 7) rfl) ?_
    refine zw_iload_n (pc := 17) (n := 1) (x := Int32.ofInt a0_) rfl (zdal_p dlA_Calc_pushSign_118 (i := 8) rfl) ?_
    refine zk_stG hf.x (pc := 18) (o := 35) (by decide) l_Calc_47 ((hf.w hW).kr (o := 34) (by decide)) ((hf.w hW).lr (o := 34) (s := 0) (r := 35) (by decide)) ((hf.w hW).rr (o := 35) (t := 1) (n := 24) (by decide)) (by decide) ⟨by (exact zo_284 hr1_.1), by omega⟩ (by decide) (Nat.le_of_ble_eq_true rfl) (zdal_p dlA_Calc_pushSign_118 (i := 9) rfl) (fun N2_ hsN2_ => ?_)
    have hf_N2_ : zFc d_ [] [] [(33, 2)] [35] Mz N2_ := hf.tr hsN2_ (by decide) (by decide) (by decide) (by decide)
    refine zw_aload_n (pc := 21) (n := 0) (x := (d_ + 33)) rfl (zdal_p dlA_Calc_pushSign_118 (i := 10) rfl) ?_
    refine zw_dup (pc := 22) rfl (zdal_p dlA_Calc_pushSign_118 (i := 11) rfl) ?_
    refine zk_getI (pc := 23) f_Calc_24 rfl ((hf_N2_.w hW).kr (o := 33) (by decide)) (zdal_p dlA_Calc_pushSign_118 (i := 12) rfl) ?_
    have hr3_ := ze_r N2_ (d_ + 33) 2
    refine zw_iconst (pc := 26) (v := Int32.ofInt 1) (by decide) (zdal_p dlA_Calc_pushSign_118 (i := 13) rfl) ?_
    refine zr_iadd (pc := 27) (zdal_p dlA_Calc_pushSign_118 (i := 14) rfl) ?_
    refine zr_nmI (fun v4_ hv4_ => ?_)
    obtain ⟨hv4_a, hv4_b⟩ := hv4_
    refine zk_putR (pc := 28) (o := 33) (by decide) f_Calc_24 rfl rfl ((hf_N2_.w hW).kr (o := 33) (by decide)) ⟨by (exact hv4_a), by (exact hv4_b)⟩ rfl rfl (zdal_p dlA_Calc_pushSign_118 (i := 15) rfl) (fun N5_ hsN5_ hvN5_ => ?_)
    have hf_N5_ : zFc d_ [] [] [(33, 2)] [35] Mz N5_ := hf_N2_.tr hsN5_ (by decide) (by decide) (by decide) (by decide)
    exact zk_vret (pc := 31) rfl hf_N5_ trivial (zdal_p dlA_Calc_pushSign_118 (i := 16) rfl)
set_option maxHeartbeats 4000000 in
theorem u_Calc_openX (l : Launch) (d_ : Nat) (Mz : zMem) (hW : zKW d_ Mz) (a0_ : Int) (ha0_a : -2147483648 ≤ a0_) (ha0_b : a0_ < 2147483648) (ha0_z : a0_ = 0 ∨ a0_ = 1) : zC l m_Calc_open 0 0 [.ref (d_ + 33), .int (Int32.ofInt a0_)] Mz (zqcV d_ [] [] [(33, 2), (33, 4), (33, 5)] [35] Mz (fun N => True)) := by
  refine zC_of (L0 := [some (.ref (d_ + 33)), some (.int (Int32.ofInt a0_))]) md_Calc_open (Nat.le_of_ble_eq_true rfl) rfl ?_ zQ0
  have hf : zFc d_ [] [] [(33, 2), (33, 4), (33, 5)] [35] Mz Mz := zFc.rf
  refine zw_aload_n (pc := 0) (n := 0) (x := (d_ + 33)) rfl (zdal_p dlA_Calc_open_117 (i := 0) rfl) ?_
  refine zw_iload_n (pc := 1) (n := 1) (x := Int32.ofInt a0_) rfl (zdal_p dlA_Calc_open_117 (i := 1) rfl) ?_
  refine zr_if_eq (pc := 2) (tgt := 10) ⟨ha0_a, ha0_b⟩ (by decide) (zdal_p dlA_Calc_open_117 (i := 2) rfl) (fun hc_2 => ?_) (fun hc_2 => ?_)
  · skip
    refine zw_bipush (pc := 10) (v := Int32.ofInt 126) (by decide) (zdal_p dlA_Calc_open_117 (i := 5) rfl) ?_
    refine zk_callV hf.x (pc := 12) [.int (Int32.ofInt 126)] [] l_Calc_55 (u_Calc_pushSignX l d_ Mz (hf.w hW) 126 (by decide) (by decide)) rfl rfl ((hf.w hW).kr (o := 33) (by decide)) (by decide) (by decide) (Nat.le_of_ble_eq_true rfl) (zdal_p dlA_Calc_open_117 (i := 6) rfl) ?_
    rintro _ N1_ ⟨rfl, hsN1_, -⟩
    have hf_N1_ : zFc d_ [] [] [(33, 2), (33, 4), (33, 5)] [35] Mz N1_ := hf.tr hsN1_ (by decide) (by decide) (by decide) (by decide)
    show zW l m_Calc_open (zn Mz + 0, zw Mz + 0) N1_ 15 [some (.ref (d_ + 33)), some (.int (Int32.ofInt a0_))] [] _
    refine zw_aload_n (pc := 15) (n := 0) (x := (d_ + 33)) rfl (zdal_p dlA_Calc_open_117 (i := 7) rfl) ?_
    refine zw_dup (pc := 16) rfl (zdal_p dlA_Calc_open_117 (i := 8) rfl) ?_
    refine zk_getI (pc := 17) f_Calc_31 rfl ((hf_N1_.w hW).kr (o := 33) (by decide)) (zdal_p dlA_Calc_open_117 (i := 9) rfl) ?_
    have hr3_ := ze_r N1_ (d_ + 33) 4
    refine zw_iconst (pc := 20) (v := Int32.ofInt 1) (by decide) (zdal_p dlA_Calc_open_117 (i := 10) rfl) ?_
    refine zr_iadd (pc := 21) (zdal_p dlA_Calc_open_117 (i := 11) rfl) ?_
    refine zr_nmI (fun v4_ hv4_ => ?_)
    obtain ⟨hv4_a, hv4_b⟩ := hv4_
    refine zk_putR (pc := 22) (o := 33) (by decide) f_Calc_31 rfl rfl ((hf_N1_.w hW).kr (o := 33) (by decide)) ⟨by (exact hv4_a), by (exact hv4_b)⟩ rfl rfl (zdal_p dlA_Calc_open_117 (i := 12) rfl) (fun N5_ hsN5_ hvN5_ => ?_)
    have hf_N5_ : zFc d_ [] [] [(33, 2), (33, 4), (33, 5)] [35] Mz N5_ := hf_N1_.tr hsN5_ (by decide) (by decide) (by decide) (by decide)
    refine zw_aload_n (pc := 25) (n := 0) (x := (d_ + 33)) rfl (zdal_p dlA_Calc_open_117 (i := 13) rfl) ?_
    refine zw_dup (pc := 26) rfl (zdal_p dlA_Calc_open_117 (i := 14) rfl) ?_
    refine zk_getI (pc := 27) f_Calc_34 rfl ((hf_N5_.w hW).kr (o := 33) (by decide)) (zdal_p dlA_Calc_open_117 (i := 15) rfl) ?_
    have hr6_ := ze_r N5_ (d_ + 33) 5
    refine zw_iload_n (pc := 30) (n := 1) (x := Int32.ofInt a0_) rfl (zdal_p dlA_Calc_open_117 (i := 16) rfl) ?_
    refine zr_if_eq (pc := 31) (tgt := 38) ⟨ha0_a, ha0_b⟩ (by decide) (zdal_p dlA_Calc_open_117 (i := 17) rfl) (fun hc_31 => ?_) (fun hc_31 => ?_)
    · skip
      refine zw_iconst (pc := 38) (v := Int32.ofInt 0) (by decide) (zdal_p dlA_Calc_open_117 (i := 20) rfl) ?_
      refine zr_iadd (pc := 39) d_Calc_open_39 ?_
      refine zr_nmI (fun v7_ hv7_ => ?_)
      obtain ⟨hv7_a, hv7_b⟩ := hv7_
      refine zk_putR (pc := 40) (o := 33) (by decide) f_Calc_34 rfl rfl ((hf_N5_.w hW).kr (o := 33) (by decide)) ⟨by (exact hv7_a), by (exact hv7_b)⟩ rfl rfl d_Calc_open_40 (fun N8_ hsN8_ hvN8_ => ?_)
      have hf_N8_ : zFc d_ [] [] [(33, 2), (33, 4), (33, 5)] [35] Mz N8_ := hf_N5_.tr hsN8_ (by decide) (by decide) (by decide) (by decide)
      exact zk_vret (pc := 43) rfl hf_N8_ trivial d_Calc_open_43
    · skip
      refine zw_iconst (pc := 34) (v := Int32.ofInt 1) (by decide) (zdal_p dlA_Calc_open_117 (i := 18) rfl) ?_
      refine zw_goto (pc := 35) (tgt := 39) (by decide) (zdal_p dlA_Calc_open_117 (i := 19) rfl) ?_
      refine zr_iadd (pc := 39) d_Calc_open_39 ?_
      refine zr_nmI (fun v9_ hv9_ => ?_)
      obtain ⟨hv9_a, hv9_b⟩ := hv9_
      refine zk_putR (pc := 40) (o := 33) (by decide) f_Calc_34 rfl rfl ((hf_N5_.w hW).kr (o := 33) (by decide)) ⟨by (exact hv9_a), by (exact hv9_b)⟩ rfl rfl d_Calc_open_40 (fun N10_ hsN10_ hvN10_ => ?_)
      have hf_N10_ : zFc d_ [] [] [(33, 2), (33, 4), (33, 5)] [35] Mz N10_ := hf_N5_.tr hsN10_ (by decide) (by decide) (by decide) (by decide)
      exact zk_vret (pc := 43) rfl hf_N10_ trivial d_Calc_open_43
  · skip
    refine zw_bipush (pc := 5) (v := Int32.ofInt 40) (by decide) (zdal_p dlA_Calc_open_117 (i := 3) rfl) ?_
    refine zw_goto (pc := 7) (tgt := 12) (by decide) (zdal_p dlA_Calc_open_117 (i := 4) rfl) ?_
    refine zk_callV hf.x (pc := 12) [.int (Int32.ofInt 40)] [] l_Calc_55 (u_Calc_pushSignX l d_ Mz (hf.w hW) 40 (by decide) (by decide)) rfl rfl ((hf.w hW).kr (o := 33) (by decide)) (by decide) (by decide) (Nat.le_of_ble_eq_true rfl) (zdal_p dlA_Calc_open_117 (i := 6) rfl) ?_
    rintro _ N11_ ⟨rfl, hsN11_, -⟩
    have hf_N11_ : zFc d_ [] [] [(33, 2), (33, 4), (33, 5)] [35] Mz N11_ := hf.tr hsN11_ (by decide) (by decide) (by decide) (by decide)
    show zW l m_Calc_open (zn Mz + 0, zw Mz + 0) N11_ 15 [some (.ref (d_ + 33)), some (.int (Int32.ofInt a0_))] [] _
    refine zw_aload_n (pc := 15) (n := 0) (x := (d_ + 33)) rfl (zdal_p dlA_Calc_open_117 (i := 7) rfl) ?_
    refine zw_dup (pc := 16) rfl (zdal_p dlA_Calc_open_117 (i := 8) rfl) ?_
    refine zk_getI (pc := 17) f_Calc_31 rfl ((hf_N11_.w hW).kr (o := 33) (by decide)) (zdal_p dlA_Calc_open_117 (i := 9) rfl) ?_
    have hr13_ := ze_r N11_ (d_ + 33) 4
    refine zw_iconst (pc := 20) (v := Int32.ofInt 1) (by decide) (zdal_p dlA_Calc_open_117 (i := 10) rfl) ?_
    refine zr_iadd (pc := 21) (zdal_p dlA_Calc_open_117 (i := 11) rfl) ?_
    refine zr_nmI (fun v14_ hv14_ => ?_)
    obtain ⟨hv14_a, hv14_b⟩ := hv14_
    refine zk_putR (pc := 22) (o := 33) (by decide) f_Calc_31 rfl rfl ((hf_N11_.w hW).kr (o := 33) (by decide)) ⟨by (exact hv14_a), by (exact hv14_b)⟩ rfl rfl (zdal_p dlA_Calc_open_117 (i := 12) rfl) (fun N15_ hsN15_ hvN15_ => ?_)
    have hf_N15_ : zFc d_ [] [] [(33, 2), (33, 4), (33, 5)] [35] Mz N15_ := hf_N11_.tr hsN15_ (by decide) (by decide) (by decide) (by decide)
    refine zw_aload_n (pc := 25) (n := 0) (x := (d_ + 33)) rfl (zdal_p dlA_Calc_open_117 (i := 13) rfl) ?_
    refine zw_dup (pc := 26) rfl (zdal_p dlA_Calc_open_117 (i := 14) rfl) ?_
    refine zk_getI (pc := 27) f_Calc_34 rfl ((hf_N15_.w hW).kr (o := 33) (by decide)) (zdal_p dlA_Calc_open_117 (i := 15) rfl) ?_
    have hr16_ := ze_r N15_ (d_ + 33) 5
    refine zw_iload_n (pc := 30) (n := 1) (x := Int32.ofInt a0_) rfl (zdal_p dlA_Calc_open_117 (i := 16) rfl) ?_
    refine zr_if_eq (pc := 31) (tgt := 38) ⟨ha0_a, ha0_b⟩ (by decide) (zdal_p dlA_Calc_open_117 (i := 17) rfl) (fun hc_31 => ?_) (fun hc_31 => ?_)
    · skip
      refine zw_iconst (pc := 38) (v := Int32.ofInt 0) (by decide) (zdal_p dlA_Calc_open_117 (i := 20) rfl) ?_
      refine zr_iadd (pc := 39) d_Calc_open_39 ?_
      refine zr_nmI (fun v17_ hv17_ => ?_)
      obtain ⟨hv17_a, hv17_b⟩ := hv17_
      refine zk_putR (pc := 40) (o := 33) (by decide) f_Calc_34 rfl rfl ((hf_N15_.w hW).kr (o := 33) (by decide)) ⟨by (exact hv17_a), by (exact hv17_b)⟩ rfl rfl d_Calc_open_40 (fun N18_ hsN18_ hvN18_ => ?_)
      have hf_N18_ : zFc d_ [] [] [(33, 2), (33, 4), (33, 5)] [35] Mz N18_ := hf_N15_.tr hsN18_ (by decide) (by decide) (by decide) (by decide)
      exact zk_vret (pc := 43) rfl hf_N18_ trivial d_Calc_open_43
    · skip
      refine zw_iconst (pc := 34) (v := Int32.ofInt 1) (by decide) (zdal_p dlA_Calc_open_117 (i := 18) rfl) ?_
      refine zw_goto (pc := 35) (tgt := 39) (by decide) (zdal_p dlA_Calc_open_117 (i := 19) rfl) ?_
      refine zr_iadd (pc := 39) d_Calc_open_39 ?_
      refine zr_nmI (fun v19_ hv19_ => ?_)
      obtain ⟨hv19_a, hv19_b⟩ := hv19_
      refine zk_putR (pc := 40) (o := 33) (by decide) f_Calc_34 rfl rfl ((hf_N15_.w hW).kr (o := 33) (by decide)) ⟨by (exact hv19_a), by (exact hv19_b)⟩ rfl rfl d_Calc_open_40 (fun N20_ hsN20_ hvN20_ => ?_)
      have hf_N20_ : zFc d_ [] [] [(33, 2), (33, 4), (33, 5)] [35] Mz N20_ := hf_N15_.tr hsN20_ (by decide) (by decide) (by decide) (by decide)
      exact zk_vret (pc := 43) rfl hf_N20_ trivial d_Calc_open_43
set_option maxHeartbeats 4000000 in
theorem u_Reader_readAheadX (l : Launch) (d_ : Nat) (Mz : zMem) (hW : zKW d_ Mz) : zC l m_Reader_readAhead 0 0 [.ref 4, .ref (d_ + 33)] Mz (zqcI d_ [(1, 2), (1, 3), (1, 4), (1, 5), (4, 1), (4, 2), (4, 3)] [] [(33, 2), (33, 4), (33, 5)] [35] Mz (fun v N => ((v = 0 ∨ v = 1)))) := by
  refine zC_of (L0 := [some (.ref 4), some (.ref (d_ + 33)), none, none]) md_Reader_readAhead (Nat.le_of_ble_eq_true rfl) rfl ?_ zQ0
  have hf : zFc d_ [(1, 2), (1, 3), (1, 4), (1, 5), (4, 1), (4, 2), (4, 3)] [] [(33, 2), (33, 4), (33, 5)] [35] Mz Mz := zFc.rf
  refine zw_iconst (pc := 0) (v := Int32.ofInt 0) (by decide) (zdal_p dlA_Reader_readAhead_114 (i := 0) rfl) ?_
  refine zw_istore_n (pc := 1) (i := 2) (L2 := [some (.ref 4), some (.ref (d_ + 33)), some (.int (Int32.ofInt 0)), none]) rfl (by decide) rfl (zdal_p dlA_Reader_readAhead_114 (i := 1) rfl) ?_
  have lp_2 : ∀ (n : Nat) (u1_ : Int) (hu1_a : -2147483648 ≤ u1_) (hu1_b : u1_ < 2147483648) (N2_ : zMem) (hs3_ : zFc d_ [(1, 2), (1, 3), (1, 4), (1, 5), (4, 1), (4, 2), (4, 3)] [] [(33, 2), (33, 4), (33, 5)] [35] Mz N2_) (i4_ : 0 ≤ u1_), (30 + 1 - u1_).toNat < n → zW l m_Reader_readAhead (zn Mz + 0, zw Mz + 0) N2_ 2 [some (.ref 4), some (.ref (d_ + 33)), some (.int (Int32.ofInt u1_)), none] [] (zqcI d_ [(1, 2), (1, 3), (1, 4), (1, 5), (4, 1), (4, 2), (4, 3)] [] [(33, 2), (33, 4), (33, 5)] [35] Mz (fun v N => ((v = 0 ∨ v = 1)))) := by
    intro n
    induction n with
    | zero =>
      intro u1_ hu1_a hu1_b N2_ hs3_ i4_ h0
      exact absurd h0 (Nat.not_lt_zero _)
    | succ n ih_2 =>
      intro u1_ hu1_a hu1_b N2_ hs3_ i4_ hlt_2
      have hf_N2_ : zFc d_ [(1, 2), (1, 3), (1, 4), (1, 5), (4, 1), (4, 2), (4, 3)] [] [(33, 2), (33, 4), (33, 5)] [35] Mz N2_ := hf.tr hs3_ (by decide) (by decide) (by decide) (by decide)
      refine zw_iload_n (pc := 2) (n := 2) (x := Int32.ofInt u1_) rfl (zdal_p dlA_Reader_readAhead_114 (i := 2) rfl) ?_
      refine zw_bipush (pc := 3) (v := Int32.ofInt 30) (by decide) (zdal_p dlA_Reader_readAhead_114 (i := 3) rfl) ?_
      refine zr_icmp_gt (pc := 5) (tgt := 64) ⟨hu1_a, hu1_b⟩ ⟨(by decide), (by decide)⟩ (by decide) (zdal_p dlA_Reader_readAhead_114 (i := 4) rfl) (fun hc_5 => ?_) (fun hc_5 => ?_)
      · skip
        refine zw_aload_n (pc := 64) (n := 0) (x := 4) rfl (zdal_p dlA_Reader_readAhead_115 (i := 9) rfl) ?_
        refine zw_iconst (pc := 65) (v := Int32.ofInt 5) (by decide) (zdal_p dlA_Reader_readAhead_115 (i := 10) rfl) ?_
        refine zk_callV hf_N2_.x (pc := 66) [.int (Int32.ofInt 5)] [] l_Reader_41 (u_Reader_refuseX l d_ N2_ (hf_N2_.w hW) 5 (by decide) (by decide)) rfl rfl ((hf_N2_.w hW).ka (o := 4) (by decide)) (by decide) (by decide) (Nat.le_of_ble_eq_true rfl) (zdal_p dlA_Reader_readAhead_115 (i := 11) rfl) ?_
        rintro _ N5_ ⟨v6_, rfl, ⟨hv6_a, hv6_b⟩, hsN5_, hp0_N5_⟩
        replace hp0_N5_ : (v6_ = 0 ∨ v6_ = 1) := hp0_N5_
        have hf_N5_ : zFc d_ [(1, 2), (1, 3), (1, 4), (1, 5), (4, 1), (4, 2), (4, 3)] [] [(33, 2), (33, 4), (33, 5)] [35] Mz N5_ := hf_N2_.tr hsN5_ (by decide) (by decide) (by decide) (by decide)
        show zW l m_Reader_readAhead (zn Mz + 0, zw Mz + 0) N5_ 69 [some (.ref 4), some (.ref (d_ + 33)), some (.int (Int32.ofInt u1_)), none] [.int (Int32.ofInt v6_)] _
        exact zk_iret (pc := 69) (ty := .boolean) rfl (z_narB (by (exact hp0_N5_))) ⟨by (exact hv6_a), by (exact hv6_b)⟩ hf_N5_ (show (v6_ = 0 ∨ v6_ = 1) by first | with_reducible assumption | assumption | omega) (zdal_p dlA_Reader_readAhead_115 (i := 12) rfl)
      · skip
        refine zw_aload_n (pc := 8) (n := 0) (x := 4) rfl (zdal_p dlA_Reader_readAhead_114 (i := 5) rfl) ?_
        refine zw_getF (pc := 9) f_Reader_15 rfl ((hf_N2_.w hW).ka (o := 4) (by decide)) ((hf_N2_.w hW).la (o := 4) (s := 0) (r := 1) (by decide)) (zdal_p dlA_Reader_readAhead_114 (i := 6) rfl) ?_
        refine zw_bipush (pc := 12) (v := Int32.ofInt 40) (by decide) (zdal_p dlA_Reader_readAhead_114 (i := 7) rfl) ?_
        refine zk_callV hf_N2_.x (pc := 14) [.int (Int32.ofInt 40)] [] l_Reader_37 (u_Tokens_isSignX l d_ N2_ (hf_N2_.w hW) 40 (by decide) (by decide)) rfl rfl ((hf_N2_.w hW).ka (o := 1) (by decide)) (by decide) (by decide) (Nat.le_of_ble_eq_true rfl) (zdal_p dlA_Reader_readAhead_114 (i := 8) rfl) ?_
        rintro _ N7_ ⟨v8_, rfl, ⟨hv8_a, hv8_b⟩, hsN7_, hp0_N7_⟩
        obtain rfl := hsN7_.eq.symm
        replace hp0_N7_ : (v8_ = 0 ∨ v8_ = 1) := hp0_N7_
        show zW l m_Reader_readAhead (zn Mz + 0, zw Mz + 0) N2_ 17 [some (.ref 4), some (.ref (d_ + 33)), some (.int (Int32.ofInt u1_)), none] [.int (Int32.ofInt v8_)] _
        refine zw_istore_n (pc := 17) (i := 3) (L2 := [some (.ref 4), some (.ref (d_ + 33)), some (.int (Int32.ofInt u1_)), some (.int (Int32.ofInt v8_))]) rfl (by decide) rfl (zdal_p dlA_Reader_readAhead_114 (i := 9) rfl) ?_
        refine zw_iload_n (pc := 18) (n := 3) (x := Int32.ofInt v8_) rfl (zdal_p dlA_Reader_readAhead_114 (i := 10) rfl) ?_
        refine zr_if_ne (pc := 19) (tgt := 36) ⟨hv8_a, hv8_b⟩ (by decide) (zdal_p dlA_Reader_readAhead_114 (i := 11) rfl) (fun hc_19 => ?_) (fun hc_19 => ?_)
        · skip
          refine zw_aload_n (pc := 36) (n := 0) (x := 4) rfl (zdal_p dlA_Reader_readAhead_114 (i := 19) rfl) ?_
          refine zw_aload_n (pc := 37) (n := 1) (x := (d_ + 33)) rfl (zdal_p dlA_Reader_readAhead_114 (i := 20) rfl) ?_
          refine zk_callV hf_N2_.x (pc := 38) [.ref (d_ + 33)] [] l_Reader_152 (u_Reader_countUnitX l d_ N2_ (hf_N2_.w hW) ) rfl rfl ((hf_N2_.w hW).ka (o := 4) (by decide)) (by decide) (by decide) (Nat.le_of_ble_eq_true rfl) (zdal_p dlA_Reader_readAhead_114 (i := 21) rfl) ?_
          rintro _ N9_ ⟨v10_, rfl, ⟨hv10_a, hv10_b⟩, hsN9_, hp0_N9_⟩
          replace hp0_N9_ : (v10_ = 0 ∨ v10_ = 1) := hp0_N9_
          have hf_N9_ : zFc d_ [(1, 2), (1, 3), (1, 4), (1, 5), (4, 1), (4, 2), (4, 3)] [] [(33, 2), (33, 4), (33, 5)] [35] Mz N9_ := hf_N2_.tr hsN9_ (by decide) (by decide) (by decide) (by decide)
          have hb0_N9_ : zFc d_ [(1, 2), (1, 3), (1, 4), (1, 5), (4, 1), (4, 2), (4, 3)] [] [(33, 2), (33, 4), (33, 5)] [35] Mz N9_ := hs3_.tr hsN9_ (by decide) (by decide) (by decide) (by decide)
          show zW l m_Reader_readAhead (zn Mz + 0, zw Mz + 0) N9_ 41 [some (.ref 4), some (.ref (d_ + 33)), some (.int (Int32.ofInt u1_)), some (.int (Int32.ofInt v8_))] [.int (Int32.ofInt v10_)] _
          refine zr_if_ne (pc := 41) (tgt := 46) ⟨hv10_a, hv10_b⟩ (by decide) d_Reader_readAhead_41 (fun hc_41 => ?_) (fun hc_41 => ?_)
          · skip
            refine zw_aload_n (pc := 46) (n := 1) (x := (d_ + 33)) rfl (zdal_p dlA_Reader_readAhead_115 (i := 1) rfl) ?_
            refine zw_iload_n (pc := 47) (n := 3) (x := Int32.ofInt v8_) rfl (zdal_p dlA_Reader_readAhead_115 (i := 2) rfl) ?_
            refine zk_callV hf_N9_.x (pc := 48) [.int (Int32.ofInt v8_)] [] l_Reader_155 (u_Calc_openX l d_ N9_ (hf_N9_.w hW) v8_ hv8_a hv8_b (by (exact hp0_N7_))) rfl rfl ((hf_N9_.w hW).kr (o := 33) (by decide)) (by decide) (by decide) (Nat.le_of_ble_eq_true rfl) (zdal_p dlA_Reader_readAhead_115 (i := 3) rfl) ?_
            rintro _ N11_ ⟨rfl, hsN11_, -⟩
            have hf_N11_ : zFc d_ [(1, 2), (1, 3), (1, 4), (1, 5), (4, 1), (4, 2), (4, 3)] [] [(33, 2), (33, 4), (33, 5)] [35] Mz N11_ := hf_N9_.tr hsN11_ (by decide) (by decide) (by decide) (by decide)
            have hb0_N11_ : zFc d_ [(1, 2), (1, 3), (1, 4), (1, 5), (4, 1), (4, 2), (4, 3)] [] [(33, 2), (33, 4), (33, 5)] [35] Mz N11_ := hb0_N9_.tr hsN11_ (by decide) (by decide) (by decide) (by decide)
            show zW l m_Reader_readAhead (zn Mz + 0, zw Mz + 0) N11_ 51 [some (.ref 4), some (.ref (d_ + 33)), some (.int (Int32.ofInt u1_)), some (.int (Int32.ofInt v8_))] [] _
            refine zw_aload_n (pc := 51) (n := 0) (x := 4) rfl (zdal_p dlA_Reader_readAhead_115 (i := 4) rfl) ?_
            refine zw_getF (pc := 52) f_Reader_15 rfl ((hf_N11_.w hW).ka (o := 4) (by decide)) ((hf_N11_.w hW).la (o := 4) (s := 0) (r := 1) (by decide)) (zdal_p dlA_Reader_readAhead_115 (i := 5) rfl) ?_
            refine zk_callV hf_N11_.x (pc := 55) [] [] l_Reader_44 (u_Tokens_stepX l d_ N11_ (hf_N11_.w hW) ) rfl rfl ((hf_N11_.w hW).ka (o := 1) (by decide)) (by decide) (by decide) (Nat.le_of_ble_eq_true rfl) (zdal_p dlA_Reader_readAhead_115 (i := 6) rfl) ?_
            rintro _ N13_ ⟨rfl, hsN13_, -⟩
            have hf_N13_ : zFc d_ [(1, 2), (1, 3), (1, 4), (1, 5), (4, 1), (4, 2), (4, 3)] [] [(33, 2), (33, 4), (33, 5)] [35] Mz N13_ := hf_N11_.tr hsN13_ (by decide) (by decide) (by decide) (by decide)
            have hb0_N13_ : zFc d_ [(1, 2), (1, 3), (1, 4), (1, 5), (4, 1), (4, 2), (4, 3)] [] [(33, 2), (33, 4), (33, 5)] [35] Mz N13_ := hb0_N11_.tr hsN13_ (by decide) (by decide) (by decide) (by decide)
            show zW l m_Reader_readAhead (zn Mz + 0, zw Mz + 0) N13_ 58 [some (.ref 4), some (.ref (d_ + 33)), some (.int (Int32.ofInt u1_)), some (.int (Int32.ofInt v8_))] [] _
            refine zr_iinc (pc := 58) (i := 2) (a := u1_) (n := 1) (L2 := [some (.ref 4), some (.ref (d_ + 33)), some (.int (Int32.ofInt (u1_ + 1))), some (.int (Int32.ofInt v8_))]) rfl (by decide) rfl (zdal_p dlA_Reader_readAhead_115 (i := 7) rfl) ?_
            obtain ⟨v15_, hv15_a, hv15_b, hv15_e, hv15_d⟩ := zk_gen (u1_ + 1)
            rw [hv15_e]
            refine zw_goto (pc := 61) (tgt := 2) (by decide) (zdal_p dlA_Reader_readAhead_115 (i := 8) rfl) ?_
            refine zW_le [some (.ref 4), some (.ref (d_ + 33)), some (.int (Int32.ofInt v15_)), none] (⟨rfl, rfl, rfl, trivial⟩) ?_
            exact ih_2 v15_ hv15_a hv15_b N13_ hb0_N13_ (show 0 ≤ v15_ by first | with_reducible assumption | assumption | omega) (by omega)
          · skip
            refine zw_iconst (pc := 44) (v := Int32.ofInt 0) (by decide) (zdal_p dlA_Reader_readAhead_114 (i := 23) rfl) ?_
            exact zk_iret (pc := 45) (ty := .boolean) rfl (z_narB (by (decide))) ⟨by (decide), by (decide)⟩ hf_N9_ (show (((0 : Int)) = 0 ∨ ((0 : Int)) = 1) by first | with_reducible assumption | (decide) | assumption) (zdal_p dlA_Reader_readAhead_115 (i := 0) rfl)
        · skip
          refine zw_aload_n (pc := 22) (n := 0) (x := 4) rfl (zdal_p dlA_Reader_readAhead_114 (i := 12) rfl) ?_
          refine zw_getF (pc := 23) f_Reader_15 rfl ((hf_N2_.w hW).ka (o := 4) (by decide)) ((hf_N2_.w hW).la (o := 4) (s := 0) (r := 1) (by decide)) (zdal_p dlA_Reader_readAhead_114 (i := 13) rfl) ?_
          refine zw_bipush (pc := 26) (v := Int32.ofInt 45) (by decide) (zdal_p dlA_Reader_readAhead_114 (i := 14) rfl) ?_
          refine zk_callV hf_N2_.x (pc := 28) [.int (Int32.ofInt 45)] [] l_Reader_37 (u_Tokens_isSignX l d_ N2_ (hf_N2_.w hW) 45 (by decide) (by decide)) rfl rfl ((hf_N2_.w hW).ka (o := 1) (by decide)) (by decide) (by decide) (Nat.le_of_ble_eq_true rfl) (zdal_p dlA_Reader_readAhead_114 (i := 15) rfl) ?_
          rintro _ N16_ ⟨v17_, rfl, ⟨hv17_a, hv17_b⟩, hsN16_, hp0_N16_⟩
          obtain rfl := hsN16_.eq.symm
          replace hp0_N16_ : (v17_ = 0 ∨ v17_ = 1) := hp0_N16_
          show zW l m_Reader_readAhead (zn Mz + 0, zw Mz + 0) N2_ 31 [some (.ref 4), some (.ref (d_ + 33)), some (.int (Int32.ofInt u1_)), some (.int (Int32.ofInt v8_))] [.int (Int32.ofInt v17_)] _
          refine zr_if_ne (pc := 31) (tgt := 36) ⟨hv17_a, hv17_b⟩ (by decide) (zdal_p dlA_Reader_readAhead_114 (i := 16) rfl) (fun hc_31 => ?_) (fun hc_31 => ?_)
          · skip
            refine zw_aload_n (pc := 36) (n := 0) (x := 4) rfl (zdal_p dlA_Reader_readAhead_114 (i := 19) rfl) ?_
            refine zw_aload_n (pc := 37) (n := 1) (x := (d_ + 33)) rfl (zdal_p dlA_Reader_readAhead_114 (i := 20) rfl) ?_
            refine zk_callV hf_N2_.x (pc := 38) [.ref (d_ + 33)] [] l_Reader_152 (u_Reader_countUnitX l d_ N2_ (hf_N2_.w hW) ) rfl rfl ((hf_N2_.w hW).ka (o := 4) (by decide)) (by decide) (by decide) (Nat.le_of_ble_eq_true rfl) (zdal_p dlA_Reader_readAhead_114 (i := 21) rfl) ?_
            rintro _ N18_ ⟨v19_, rfl, ⟨hv19_a, hv19_b⟩, hsN18_, hp0_N18_⟩
            replace hp0_N18_ : (v19_ = 0 ∨ v19_ = 1) := hp0_N18_
            have hf_N18_ : zFc d_ [(1, 2), (1, 3), (1, 4), (1, 5), (4, 1), (4, 2), (4, 3)] [] [(33, 2), (33, 4), (33, 5)] [35] Mz N18_ := hf_N2_.tr hsN18_ (by decide) (by decide) (by decide) (by decide)
            have hb0_N18_ : zFc d_ [(1, 2), (1, 3), (1, 4), (1, 5), (4, 1), (4, 2), (4, 3)] [] [(33, 2), (33, 4), (33, 5)] [35] Mz N18_ := hs3_.tr hsN18_ (by decide) (by decide) (by decide) (by decide)
            show zW l m_Reader_readAhead (zn Mz + 0, zw Mz + 0) N18_ 41 [some (.ref 4), some (.ref (d_ + 33)), some (.int (Int32.ofInt u1_)), some (.int (Int32.ofInt v8_))] [.int (Int32.ofInt v19_)] _
            refine zr_if_ne (pc := 41) (tgt := 46) ⟨hv19_a, hv19_b⟩ (by decide) d_Reader_readAhead_41 (fun hc_41 => ?_) (fun hc_41 => ?_)
            · skip
              refine zw_aload_n (pc := 46) (n := 1) (x := (d_ + 33)) rfl (zdal_p dlA_Reader_readAhead_115 (i := 1) rfl) ?_
              refine zw_iload_n (pc := 47) (n := 3) (x := Int32.ofInt v8_) rfl (zdal_p dlA_Reader_readAhead_115 (i := 2) rfl) ?_
              refine zk_callV hf_N18_.x (pc := 48) [.int (Int32.ofInt v8_)] [] l_Reader_155 (u_Calc_openX l d_ N18_ (hf_N18_.w hW) v8_ hv8_a hv8_b (by (exact hp0_N7_))) rfl rfl ((hf_N18_.w hW).kr (o := 33) (by decide)) (by decide) (by decide) (Nat.le_of_ble_eq_true rfl) (zdal_p dlA_Reader_readAhead_115 (i := 3) rfl) ?_
              rintro _ N20_ ⟨rfl, hsN20_, -⟩
              have hf_N20_ : zFc d_ [(1, 2), (1, 3), (1, 4), (1, 5), (4, 1), (4, 2), (4, 3)] [] [(33, 2), (33, 4), (33, 5)] [35] Mz N20_ := hf_N18_.tr hsN20_ (by decide) (by decide) (by decide) (by decide)
              have hb0_N20_ : zFc d_ [(1, 2), (1, 3), (1, 4), (1, 5), (4, 1), (4, 2), (4, 3)] [] [(33, 2), (33, 4), (33, 5)] [35] Mz N20_ := hb0_N18_.tr hsN20_ (by decide) (by decide) (by decide) (by decide)
              show zW l m_Reader_readAhead (zn Mz + 0, zw Mz + 0) N20_ 51 [some (.ref 4), some (.ref (d_ + 33)), some (.int (Int32.ofInt u1_)), some (.int (Int32.ofInt v8_))] [] _
              refine zw_aload_n (pc := 51) (n := 0) (x := 4) rfl (zdal_p dlA_Reader_readAhead_115 (i := 4) rfl) ?_
              refine zw_getF (pc := 52) f_Reader_15 rfl ((hf_N20_.w hW).ka (o := 4) (by decide)) ((hf_N20_.w hW).la (o := 4) (s := 0) (r := 1) (by decide)) (zdal_p dlA_Reader_readAhead_115 (i := 5) rfl) ?_
              refine zk_callV hf_N20_.x (pc := 55) [] [] l_Reader_44 (u_Tokens_stepX l d_ N20_ (hf_N20_.w hW) ) rfl rfl ((hf_N20_.w hW).ka (o := 1) (by decide)) (by decide) (by decide) (Nat.le_of_ble_eq_true rfl) (zdal_p dlA_Reader_readAhead_115 (i := 6) rfl) ?_
              rintro _ N22_ ⟨rfl, hsN22_, -⟩
              have hf_N22_ : zFc d_ [(1, 2), (1, 3), (1, 4), (1, 5), (4, 1), (4, 2), (4, 3)] [] [(33, 2), (33, 4), (33, 5)] [35] Mz N22_ := hf_N20_.tr hsN22_ (by decide) (by decide) (by decide) (by decide)
              have hb0_N22_ : zFc d_ [(1, 2), (1, 3), (1, 4), (1, 5), (4, 1), (4, 2), (4, 3)] [] [(33, 2), (33, 4), (33, 5)] [35] Mz N22_ := hb0_N20_.tr hsN22_ (by decide) (by decide) (by decide) (by decide)
              show zW l m_Reader_readAhead (zn Mz + 0, zw Mz + 0) N22_ 58 [some (.ref 4), some (.ref (d_ + 33)), some (.int (Int32.ofInt u1_)), some (.int (Int32.ofInt v8_))] [] _
              refine zr_iinc (pc := 58) (i := 2) (a := u1_) (n := 1) (L2 := [some (.ref 4), some (.ref (d_ + 33)), some (.int (Int32.ofInt (u1_ + 1))), some (.int (Int32.ofInt v8_))]) rfl (by decide) rfl (zdal_p dlA_Reader_readAhead_115 (i := 7) rfl) ?_
              obtain ⟨v24_, hv24_a, hv24_b, hv24_e, hv24_d⟩ := zk_gen (u1_ + 1)
              rw [hv24_e]
              refine zw_goto (pc := 61) (tgt := 2) (by decide) (zdal_p dlA_Reader_readAhead_115 (i := 8) rfl) ?_
              refine zW_le [some (.ref 4), some (.ref (d_ + 33)), some (.int (Int32.ofInt v24_)), none] (⟨rfl, rfl, rfl, trivial⟩) ?_
              exact ih_2 v24_ hv24_a hv24_b N22_ hb0_N22_ (show 0 ≤ v24_ by first | with_reducible assumption | assumption | omega) (by omega)
            · skip
              refine zw_iconst (pc := 44) (v := Int32.ofInt 0) (by decide) (zdal_p dlA_Reader_readAhead_114 (i := 23) rfl) ?_
              exact zk_iret (pc := 45) (ty := .boolean) rfl (z_narB (by (decide))) ⟨by (decide), by (decide)⟩ hf_N18_ (show (((0 : Int)) = 0 ∨ ((0 : Int)) = 1) by first | with_reducible assumption | (decide) | assumption) (zdal_p dlA_Reader_readAhead_115 (i := 0) rfl)
          · skip
            refine zw_iconst (pc := 34) (v := Int32.ofInt 1) (by decide) (zdal_p dlA_Reader_readAhead_114 (i := 17) rfl) ?_
            exact zk_iret (pc := 35) (ty := .boolean) rfl (z_narB (by (decide))) ⟨by (decide), by (decide)⟩ hf_N2_ (show (((1 : Int)) = 0 ∨ ((1 : Int)) = 1) by first | with_reducible assumption | (decide) | assumption) (zdal_p dlA_Reader_readAhead_114 (i := 18) rfl)
  exact lp_2 _ 0 (by decide) (by decide) Mz zFc.rf (show 0 ≤ (0 : Int) by first | with_reducible assumption | (decide) | assumption) (Nat.lt_succ_self _)
set_option maxHeartbeats 4000000 in
theorem u_Tokens_isNumberX (l : Launch) (d_ : Nat) (Mz : zMem) (hW : zKW d_ Mz) : zC l m_Tokens_isNumber 0 0 [.ref 1] Mz (zqcI d_ [] [] [] [] Mz (fun v N => ((v = 0 ∨ v = 1)))) := by
  refine zC_of (L0 := [some (.ref 1)]) md_Tokens_isNumber (Nat.le_of_ble_eq_true rfl) rfl ?_ zQ0
  have hf : zFc d_ [] [] [] [] Mz Mz := zFc.rf
  refine zw_aload_n (pc := 0) (n := 0) (x := 1) rfl (zdal_p dlA_Tokens_isNumber_93 (i := 0) rfl) ?_
  refine zk_getI (pc := 1) f_Tokens_44 rfl ((hf.w hW).ka (o := 1) (by decide)) (zdal_p dlA_Tokens_isNumber_93 (i := 1) rfl) ?_
  have hr1_ := ze_r Mz 1 4
  refine zw_iconst (pc := 4) (v := Int32.ofInt 2) (by decide) (zdal_p dlA_Tokens_isNumber_93 (i := 2) rfl) ?_
  refine zr_icmp_ne (pc := 5) (tgt := 12) ⟨(ze_r Mz 1 4).1, (ze_r Mz 1 4).2⟩ ⟨(by decide), (by decide)⟩ (by decide) (zdal_p dlA_Tokens_isNumber_93 (i := 3) rfl) (fun hc_5 => ?_) (fun hc_5 => ?_)
  · skip
    refine zw_iconst (pc := 12) (v := Int32.ofInt 0) (by decide) (zdal_p dlA_Tokens_isNumber_93 (i := 6) rfl) ?_
    exact zk_iret (pc := 13) (ty := .boolean) rfl (z_narB (by (decide))) ⟨by (decide), by (decide)⟩ hf (show (((0 : Int)) = 0 ∨ ((0 : Int)) = 1) by first | with_reducible assumption | (decide) | assumption) (zdal_p dlA_Tokens_isNumber_93 (i := 7) rfl)
  · skip
    refine zw_iconst (pc := 8) (v := Int32.ofInt 1) (by decide) (zdal_p dlA_Tokens_isNumber_93 (i := 4) rfl) ?_
    refine zw_goto (pc := 9) (tgt := 13) (by decide) (zdal_p dlA_Tokens_isNumber_93 (i := 5) rfl) ?_
    exact zk_iret (pc := 13) (ty := .boolean) rfl (z_narB (by (decide))) ⟨by (decide), by (decide)⟩ hf (show (((1 : Int)) = 0 ∨ ((1 : Int)) = 1) by first | with_reducible assumption | (decide) | assumption) (zdal_p dlA_Tokens_isNumber_93 (i := 7) rfl)
set_option maxHeartbeats 4000000 in
theorem u_Tokens_isWordX (l : Launch) (d_ : Nat) (Mz : zMem) (hW : zKW d_ Mz) (a0_ : Nat) (ha0_ : a0_ < zsN) : zC l m_Tokens_isWord 0 0 [.ref 1, .ref (zK a0_)] Mz (zqcI d_ [] [] [] [] Mz (fun v N => ((v = 0 ∨ v = 1)))) := by
  refine zC_of (L0 := [some (.ref 1), some (.ref (zK a0_)), none]) md_Tokens_isWord (Nat.le_of_ble_eq_true rfl) rfl ?_ zQ0
  have hf : zFc d_ [] [] [] [] Mz Mz := zFc.rf
  have hl6_ := zsl_6 ha0_
  refine zw_aload_n (pc := 0) (n := 0) (x := 1) rfl (zdal_p dlA_Tokens_isWord_89 (i := 0) rfl) ?_
  refine zk_getI (pc := 1) f_Tokens_44 rfl ((hf.w hW).ka (o := 1) (by decide)) (zdal_p dlA_Tokens_isWord_89 (i := 1) rfl) ?_
  have hr1_ := ze_r Mz 1 4
  refine zw_iconst (pc := 4) (v := Int32.ofInt 1) (by decide) (zdal_p dlA_Tokens_isWord_89 (i := 2) rfl) ?_
  refine zr_icmp_ne (pc := 5) (tgt := 24) ⟨(ze_r Mz 1 4).1, (ze_r Mz 1 4).2⟩ ⟨(by decide), (by decide)⟩ (by decide) (zdal_p dlA_Tokens_isWord_89 (i := 3) rfl) (fun hc_5 => ?_) (fun hc_5 => ?_)
  · skip
    refine zw_iconst (pc := 24) (v := Int32.ofInt 0) (by decide) (zdal_p dlA_Tokens_isWord_89 (i := 12) rfl) ?_
    exact zk_iret (pc := 25) (ty := .boolean) rfl (z_narB (by (decide))) ⟨by (decide), by (decide)⟩ hf (show (((0 : Int)) = 0 ∨ ((0 : Int)) = 1) by first | with_reducible assumption | (decide) | assumption) (zdal_p dlA_Tokens_isWord_89 (i := 13) rfl)
  · skip
    refine zw_aload_n (pc := 8) (n := 1) (x := (zK a0_)) rfl (zdal_p dlA_Tokens_isWord_89 (i := 4) rfl) ?_
    refine zk_len (pc := 9) (i := a0_) ha0_ l_Tokens_76 (by decide) (Nat.le_of_ble_eq_true rfl) (zdal_p dlA_Tokens_isWord_89 (i := 5) rfl) ?_
    refine zw_aload_n (pc := 12) (n := 0) (x := 1) rfl (zdal_p dlA_Tokens_isWord_89 (i := 6) rfl) ?_
    refine zk_getI (pc := 13) f_Tokens_28 rfl ((hf.w hW).ka (o := 1) (by decide)) (zdal_p dlA_Tokens_isWord_89 (i := 7) rfl) ?_
    have hr2_ := ze_r Mz 1 3
    refine zw_aload_n (pc := 16) (n := 0) (x := 1) rfl (zdal_p dlA_Tokens_isWord_89 (i := 8) rfl) ?_
    refine zk_getI (pc := 17) f_Tokens_38 rfl ((hf.w hW).ka (o := 1) (by decide)) (zdal_p dlA_Tokens_isWord_89 (i := 9) rfl) ?_
    have hr3_ := ze_r Mz 1 2
    refine zr_isub (pc := 20) (zdal_p dlA_Tokens_isWord_89 (i := 10) rfl) ?_
    refine zr_nmI (fun v4_ hv4_ => ?_)
    obtain ⟨hv4_a, hv4_b⟩ := hv4_
    refine zr_icmp_eq (pc := 21) (tgt := 26) ⟨(by (exact zo_526)), (by (exact zo_2236 hl6_.2))⟩ ⟨hv4_a, hv4_b⟩ (by decide) (zdal_p dlA_Tokens_isWord_89 (i := 11) rfl) (fun hc_21 => ?_) (fun hc_21 => ?_)
    · skip
      refine zw_iconst (pc := 26) (v := Int32.ofInt 0) (by decide) (zdal_p dlA_Tokens_isWord_89 (i := 14) rfl) ?_
      refine zw_istore_n (pc := 27) (i := 2) (L2 := [some (.ref 1), some (.ref (zK a0_)), some (.int (Int32.ofInt 0))]) rfl (by decide) rfl (zdal_p dlA_Tokens_isWord_89 (i := 15) rfl) ?_
      have lp_28 : ∀ (n : Nat) (u5_ : Int) (hu5_a : -2147483648 ≤ u5_) (hu5_b : u5_ < 2147483648) (i6_ : 0 ≤ u5_), (((zsl a0_ : Nat) : Int) - u5_).toNat < n → zW l m_Tokens_isWord (zn Mz + 0, zw Mz + 0) Mz 28 [some (.ref 1), some (.ref (zK a0_)), some (.int (Int32.ofInt u5_))] [] (zqcI d_ [] [] [] [] Mz (fun v N => ((v = 0 ∨ v = 1)))) := by
        intro n
        induction n with
        | zero =>
          intro u5_ hu5_a hu5_b i6_ h0
          exact absurd h0 (Nat.not_lt_zero _)
        | succ n ih_28 =>
          intro u5_ hu5_a hu5_b i6_ hlt_28
          refine zw_iload_n (pc := 28) (n := 2) (x := Int32.ofInt u5_) rfl (zdal_p dlA_Tokens_isWord_89 (i := 16) rfl) ?_
          refine zw_aload_n (pc := 29) (n := 1) (x := (zK a0_)) rfl (zdal_p dlA_Tokens_isWord_89 (i := 17) rfl) ?_
          refine zk_len (pc := 30) (i := a0_) ha0_ l_Tokens_76 (by decide) (Nat.le_of_ble_eq_true rfl) (zdal_p dlA_Tokens_isWord_89 (i := 18) rfl) ?_
          refine zr_icmp_ge (pc := 33) (tgt := 65) ⟨hu5_a, hu5_b⟩ ⟨(by (exact zo_526)), (by (exact zo_2236 hl6_.2))⟩ (by decide) (zdal_p dlA_Tokens_isWord_89 (i := 19) rfl) (fun hc_33 => ?_) (fun hc_33 => ?_)
          · skip
            refine zw_iconst (pc := 65) (v := Int32.ofInt 1) (by decide) (zdal_p dlA_Tokens_isWord_90 (i := 11) rfl) ?_
            exact zk_iret (pc := 66) (ty := .boolean) rfl (z_narB (by (decide))) ⟨by (decide), by (decide)⟩ hf (show (((1 : Int)) = 0 ∨ ((1 : Int)) = 1) by first | with_reducible assumption | (decide) | assumption) (zdal_p dlA_Tokens_isWord_90 (i := 12) rfl)
          · skip
            refine zw_aload_n (pc := 36) (n := 0) (x := 1) rfl (zdal_p dlA_Tokens_isWord_89 (i := 20) rfl) ?_
            refine zw_getF (pc := 37) f_Tokens_14 rfl ((hf.w hW).ka (o := 1) (by decide)) ((hf.w hW).la (o := 1) (s := 0) (r := 2) (by decide)) (zdal_p dlA_Tokens_isWord_89 (i := 21) rfl) ?_
            refine zw_aload_n (pc := 40) (n := 0) (x := 1) rfl (zdal_p dlA_Tokens_isWord_89 (i := 22) rfl) ?_
            refine zk_getI (pc := 41) f_Tokens_38 rfl ((hf.w hW).ka (o := 1) (by decide)) (zdal_p dlA_Tokens_isWord_89 (i := 23) rfl) ?_
            refine zw_iload_n (pc := 44) (n := 2) (x := Int32.ofInt u5_) rfl (zdal_p dlA_Tokens_isWord_90 (i := 0) rfl) ?_
            refine zr_iadd (pc := 45) (zdal_p dlA_Tokens_isWord_90 (i := 1) rfl) ?_
            refine zr_nmI (fun v7_ hv7_ => ?_)
            obtain ⟨hv7_a, hv7_b⟩ := hv7_
            refine zk_atG hf.x (pc := 46) l_Tokens_47 ((hf.w hW).ka (o := 2) (by decide)) ((hf.w hW).la (o := 2) (s := 0) (r := 3) (by decide)) ((hf.w hW).ra (o := 3) (t := 1) (n := 700) (by decide)) (by decide) ⟨by (exact hv7_a), by (exact hv7_b)⟩ (by decide) (Nat.le_of_ble_eq_true rfl) (zdal_p dlA_Tokens_isWord_90 (i := 2) rfl) (fun v8_ hv8_ hv8_a hv8_b => ?_)
            clear hv8_
            refine zw_aload_n (pc := 49) (n := 1) (x := (zK a0_)) rfl (zdal_p dlA_Tokens_isWord_90 (i := 3) rfl) ?_
            refine zw_iload_n (pc := 50) (n := 2) (x := Int32.ofInt u5_) rfl (zdal_p dlA_Tokens_isWord_90 (i := 4) rfl) ?_
            refine zk_chr (pc := 51) (i := a0_) ha0_ (by (exact i6_)) (by (exact hc_33)) l_Tokens_81 (by decide) (Nat.le_of_ble_eq_true rfl) (zdal_p dlA_Tokens_isWord_90 (i := 5) rfl) (fun v9_ hv9_ hv9_a hv9_b => ?_)
            refine zr_icmp_eq (pc := 54) (tgt := 59) ⟨hv8_a, hv8_b⟩ ⟨hv9_a, hv9_b⟩ (by decide) (zdal_p dlA_Tokens_isWord_90 (i := 6) rfl) (fun hc_54 => ?_) (fun hc_54 => ?_)
            · skip
              refine zr_iinc (pc := 59) (i := 2) (a := u5_) (n := 1) (L2 := [some (.ref 1), some (.ref (zK a0_)), some (.int (Int32.ofInt (u5_ + 1)))]) rfl (by decide) rfl (zdal_p dlA_Tokens_isWord_90 (i := 9) rfl) ?_
              obtain ⟨v10_, hv10_a, hv10_b, hv10_e, hv10_d⟩ := zk_gen (u5_ + 1)
              rw [hv10_e]
              refine zw_goto (pc := 62) (tgt := 28) (by decide) (zdal_p dlA_Tokens_isWord_90 (i := 10) rfl) ?_
              exact ih_28 v10_ hv10_a hv10_b (show 0 ≤ v10_ by first | with_reducible assumption | assumption | omega) (by omega)
            · skip
              refine zw_iconst (pc := 57) (v := Int32.ofInt 0) (by decide) (zdal_p dlA_Tokens_isWord_90 (i := 7) rfl) ?_
              exact zk_iret (pc := 58) (ty := .boolean) rfl (z_narB (by (decide))) ⟨by (decide), by (decide)⟩ hf (show (((0 : Int)) = 0 ∨ ((0 : Int)) = 1) by first | with_reducible assumption | (decide) | assumption) (zdal_p dlA_Tokens_isWord_90 (i := 8) rfl)
      exact lp_28 _ 0 (by decide) (by decide) (show 0 ≤ (0 : Int) by first | with_reducible assumption | (decide) | assumption) (Nat.lt_succ_self _)
    · skip
      refine zw_iconst (pc := 24) (v := Int32.ofInt 0) (by decide) (zdal_p dlA_Tokens_isWord_89 (i := 12) rfl) ?_
      exact zk_iret (pc := 25) (ty := .boolean) rfl (z_narB (by (decide))) ⟨by (decide), by (decide)⟩ hf (show (((0 : Int)) = 0 ∨ ((0 : Int)) = 1) by first | with_reducible assumption | (decide) | assumption) (zdal_p dlA_Tokens_isWord_89 (i := 13) rfl)
set_option maxHeartbeats 4000000 in
theorem u_Tokens_isNameX (l : Launch) (d_ : Nat) (Mz : zMem) (hW : zKW d_ Mz) : zC l m_Tokens_isName 0 0 [.ref 1] Mz (zqcI d_ [] [] [] [] Mz (fun v N => ((v = 0 ∨ v = 1)))) := by
  refine zC_of (L0 := [some (.ref 1)]) md_Tokens_isName (Nat.le_of_ble_eq_true rfl) rfl ?_ zQ0
  have hf : zFc d_ [] [] [] [] Mz Mz := zFc.rf
  refine zw_aload_n (pc := 0) (n := 0) (x := 1) rfl (zdal_p dlA_Tokens_isName_107 (i := 0) rfl) ?_
  refine zk_getI (pc := 1) f_Tokens_44 rfl ((hf.w hW).ka (o := 1) (by decide)) (zdal_p dlA_Tokens_isName_107 (i := 1) rfl) ?_
  have hr1_ := ze_r Mz 1 4
  refine zw_iconst (pc := 4) (v := Int32.ofInt 1) (by decide) (zdal_p dlA_Tokens_isName_107 (i := 2) rfl) ?_
  refine zr_icmp_ne (pc := 5) (tgt := 48) ⟨(ze_r Mz 1 4).1, (ze_r Mz 1 4).2⟩ ⟨(by decide), (by decide)⟩ (by decide) (zdal_p dlA_Tokens_isName_107 (i := 3) rfl) (fun hc_5 => ?_) (fun hc_5 => ?_)
  · skip
    refine zw_iconst (pc := 48) (v := Int32.ofInt 0) (by decide) d_Tokens_isName_48 ?_
    exact zk_iret (pc := 49) (ty := .boolean) rfl (z_narB (by (decide))) ⟨by (decide), by (decide)⟩ hf (show (((0 : Int)) = 0 ∨ ((0 : Int)) = 1) by first | with_reducible assumption | (decide) | assumption) d_Tokens_isName_49
  · skip
    refine zw_aload_n (pc := 8) (n := 0) (x := 1) rfl (zdal_p dlA_Tokens_isName_107 (i := 4) rfl) ?_
    refine zw_ldcs (pc := 9) (i := 0) (List.mem_of_getElem? (i := 3) rfl) (zdal_p dlA_Tokens_isName_107 (i := 5) rfl) ?_
    refine zk_callV hf.x (pc := 11) [.ref (zK 0)] [] l_Tokens_87 (u_Tokens_isWordX l d_ Mz (hf.w hW) 0 (by decide)) rfl rfl ((hf.w hW).ka (o := 1) (by decide)) (by decide) (by decide) (Nat.le_of_ble_eq_true rfl) (zdal_p dlA_Tokens_isName_107 (i := 6) rfl) ?_
    rintro _ N2_ ⟨v3_, rfl, ⟨hv3_a, hv3_b⟩, hsN2_, hp0_N2_⟩
    obtain rfl := hsN2_.eq.symm
    replace hp0_N2_ : (v3_ = 0 ∨ v3_ = 1) := hp0_N2_
    show zW l m_Tokens_isName (zn Mz + 0, zw Mz + 0) Mz 14 [some (.ref 1)] [.int (Int32.ofInt v3_)] _
    refine zr_if_ne (pc := 14) (tgt := 48) ⟨hv3_a, hv3_b⟩ (by decide) (zdal_p dlA_Tokens_isName_107 (i := 7) rfl) (fun hc_14 => ?_) (fun hc_14 => ?_)
    · skip
      refine zw_iconst (pc := 48) (v := Int32.ofInt 0) (by decide) d_Tokens_isName_48 ?_
      exact zk_iret (pc := 49) (ty := .boolean) rfl (z_narB (by (decide))) ⟨by (decide), by (decide)⟩ hf (show (((0 : Int)) = 0 ∨ ((0 : Int)) = 1) by first | with_reducible assumption | (decide) | assumption) d_Tokens_isName_49
    · skip
      refine zw_aload_n (pc := 17) (n := 0) (x := 1) rfl (zdal_p dlA_Tokens_isName_107 (i := 8) rfl) ?_
      refine zw_ldcs (pc := 18) (i := 1) (List.mem_of_getElem? (i := 4) rfl) (zdal_p dlA_Tokens_isName_107 (i := 9) rfl) ?_
      refine zk_callV hf.x (pc := 20) [.ref (zK 1)] [] l_Tokens_87 (u_Tokens_isWordX l d_ Mz (hf.w hW) 1 (by decide)) rfl rfl ((hf.w hW).ka (o := 1) (by decide)) (by decide) (by decide) (Nat.le_of_ble_eq_true rfl) (zdal_p dlA_Tokens_isName_107 (i := 10) rfl) ?_
      rintro _ N4_ ⟨v5_, rfl, ⟨hv5_a, hv5_b⟩, hsN4_, hp0_N4_⟩
      obtain rfl := hsN4_.eq.symm
      replace hp0_N4_ : (v5_ = 0 ∨ v5_ = 1) := hp0_N4_
      show zW l m_Tokens_isName (zn Mz + 0, zw Mz + 0) Mz 23 [some (.ref 1)] [.int (Int32.ofInt v5_)] _
      refine zr_if_ne (pc := 23) (tgt := 48) ⟨hv5_a, hv5_b⟩ (by decide) (zdal_p dlA_Tokens_isName_107 (i := 11) rfl) (fun hc_23 => ?_) (fun hc_23 => ?_)
      · skip
        refine zw_iconst (pc := 48) (v := Int32.ofInt 0) (by decide) d_Tokens_isName_48 ?_
        exact zk_iret (pc := 49) (ty := .boolean) rfl (z_narB (by (decide))) ⟨by (decide), by (decide)⟩ hf (show (((0 : Int)) = 0 ∨ ((0 : Int)) = 1) by first | with_reducible assumption | (decide) | assumption) d_Tokens_isName_49
      · skip
        refine zw_aload_n (pc := 26) (n := 0) (x := 1) rfl (zdal_p dlA_Tokens_isName_107 (i := 12) rfl) ?_
        refine zw_ldcs (pc := 27) (i := 2) (List.mem_of_getElem? (i := 5) rfl) (zdal_p dlA_Tokens_isName_107 (i := 13) rfl) ?_
        refine zk_callV hf.x (pc := 29) [.ref (zK 2)] [] l_Tokens_87 (u_Tokens_isWordX l d_ Mz (hf.w hW) 2 (by decide)) rfl rfl ((hf.w hW).ka (o := 1) (by decide)) (by decide) (by decide) (Nat.le_of_ble_eq_true rfl) (zdal_p dlA_Tokens_isName_107 (i := 14) rfl) ?_
        rintro _ N6_ ⟨v7_, rfl, ⟨hv7_a, hv7_b⟩, hsN6_, hp0_N6_⟩
        obtain rfl := hsN6_.eq.symm
        replace hp0_N6_ : (v7_ = 0 ∨ v7_ = 1) := hp0_N6_
        show zW l m_Tokens_isName (zn Mz + 0, zw Mz + 0) Mz 32 [some (.ref 1)] [.int (Int32.ofInt v7_)] _
        refine zr_if_ne (pc := 32) (tgt := 48) ⟨hv7_a, hv7_b⟩ (by decide) (zdal_p dlA_Tokens_isName_107 (i := 15) rfl) (fun hc_32 => ?_) (fun hc_32 => ?_)
        · skip
          refine zw_iconst (pc := 48) (v := Int32.ofInt 0) (by decide) d_Tokens_isName_48 ?_
          exact zk_iret (pc := 49) (ty := .boolean) rfl (z_narB (by (decide))) ⟨by (decide), by (decide)⟩ hf (show (((0 : Int)) = 0 ∨ ((0 : Int)) = 1) by first | with_reducible assumption | (decide) | assumption) d_Tokens_isName_49
        · skip
          refine zw_aload_n (pc := 35) (n := 0) (x := 1) rfl (zdal_p dlA_Tokens_isName_107 (i := 16) rfl) ?_
          refine zw_ldcs (pc := 36) (i := 3) (List.mem_of_getElem? (i := 6) rfl) (zdal_p dlA_Tokens_isName_107 (i := 17) rfl) ?_
          refine zk_callV hf.x (pc := 38) [.ref (zK 3)] [] l_Tokens_87 (u_Tokens_isWordX l d_ Mz (hf.w hW) 3 (by decide)) rfl rfl ((hf.w hW).ka (o := 1) (by decide)) (by decide) (by decide) (Nat.le_of_ble_eq_true rfl) (zdal_p dlA_Tokens_isName_107 (i := 18) rfl) ?_
          rintro _ N8_ ⟨v9_, rfl, ⟨hv9_a, hv9_b⟩, hsN8_, hp0_N8_⟩
          obtain rfl := hsN8_.eq.symm
          replace hp0_N8_ : (v9_ = 0 ∨ v9_ = 1) := hp0_N8_
          show zW l m_Tokens_isName (zn Mz + 0, zw Mz + 0) Mz 41 [some (.ref 1)] [.int (Int32.ofInt v9_)] _
          refine zr_if_ne (pc := 41) (tgt := 48) ⟨hv9_a, hv9_b⟩ (by decide) (zdal_p dlA_Tokens_isName_107 (i := 19) rfl) (fun hc_41 => ?_) (fun hc_41 => ?_)
          · skip
            refine zw_iconst (pc := 48) (v := Int32.ofInt 0) (by decide) d_Tokens_isName_48 ?_
            exact zk_iret (pc := 49) (ty := .boolean) rfl (z_narB (by (decide))) ⟨by (decide), by (decide)⟩ hf (show (((0 : Int)) = 0 ∨ ((0 : Int)) = 1) by first | with_reducible assumption | (decide) | assumption) d_Tokens_isName_49
          · skip
            refine zw_iconst (pc := 44) (v := Int32.ofInt 1) (by decide) (zdal_p dlA_Tokens_isName_107 (i := 20) rfl) ?_
            refine zw_goto (pc := 45) (tgt := 49) (by decide) (zdal_p dlA_Tokens_isName_107 (i := 21) rfl) ?_
            exact zk_iret (pc := 49) (ty := .boolean) rfl (z_narB (by (decide))) ⟨by (decide), by (decide)⟩ hf (show (((1 : Int)) = 0 ∨ ((1 : Int)) = 1) by first | with_reducible assumption | (decide) | assumption) d_Tokens_isName_49
set_option maxHeartbeats 4000000 in
theorem u_Troupe_nameOfX (l : Launch) (d_ : Nat) (Mz : zMem) (hW : zKW d_ Mz) (a0_ : Int) (ha0_a : -2147483648 ≤ a0_) (ha0_b : a0_ < 2147483648) : zC l m_Troupe_nameOf 0 0 [.ref (d_ + 0), .int (Int32.ofInt a0_)] Mz (zqcI d_ [] [] [] [] Mz (fun v N => True)) := by
  refine zC_of (L0 := [some (.ref (d_ + 0)), some (.int (Int32.ofInt a0_)), none]) md_Troupe_nameOf (Nat.le_of_ble_eq_true rfl) rfl ?_ zQ0
  have hf : zFc d_ [] [] [] [] Mz Mz := zFc.rf
  refine zw_iconst (pc := 0) (v := Int32.ofInt 0) (by decide) (zdal_p dlA_Troupe_nameOf_108 (i := 0) rfl) ?_
  refine zw_istore_n (pc := 1) (i := 2) (L2 := [some (.ref (d_ + 0)), some (.int (Int32.ofInt a0_)), some (.int (Int32.ofInt 0))]) rfl (by decide) rfl (zdal_p dlA_Troupe_nameOf_108 (i := 1) rfl) ?_
  have lp_2 : ∀ (n : Nat) (u1_ : Int) (hu1_a : -2147483648 ≤ u1_) (hu1_b : u1_ < 2147483648) (i2_ : 0 ≤ u1_), (ze Mz (d_ + 0) 6 - u1_).toNat < n → zW l m_Troupe_nameOf (zn Mz + 0, zw Mz + 0) Mz 2 [some (.ref (d_ + 0)), some (.int (Int32.ofInt a0_)), some (.int (Int32.ofInt u1_))] [] (zqcI d_ [] [] [] [] Mz (fun v N => True)) := by
    intro n
    induction n with
    | zero =>
      intro u1_ hu1_a hu1_b i2_ h0
      exact absurd h0 (Nat.not_lt_zero _)
    | succ n ih_2 =>
      intro u1_ hu1_a hu1_b i2_ hlt_2
      refine zw_iload_n (pc := 2) (n := 2) (x := Int32.ofInt u1_) rfl (zdal_p dlA_Troupe_nameOf_108 (i := 2) rfl) ?_
      refine zw_aload_n (pc := 3) (n := 0) (x := (d_ + 0)) rfl (zdal_p dlA_Troupe_nameOf_108 (i := 3) rfl) ?_
      refine zk_getI (pc := 4) f_Troupe_64 rfl ((hf.w hW).kr (o := 0) (by decide)) (zdal_p dlA_Troupe_nameOf_108 (i := 4) rfl) ?_
      have hr3_ := ze_r Mz (d_ + 0) 6
      refine zr_icmp_ge (pc := 7) (tgt := 30) ⟨hu1_a, hu1_b⟩ ⟨(ze_r Mz (d_ + 0) 6).1, (ze_r Mz (d_ + 0) 6).2⟩ (by decide) (zdal_p dlA_Troupe_nameOf_108 (i := 5) rfl) (fun hc_7 => ?_) (fun hc_7 => ?_)
      · skip
        refine zw_iconst (pc := 30) (v := Int32.ofInt (-1)) (by decide) (zdal_p dlA_Troupe_nameOf_108 (i := 16) rfl) ?_
        exact zk_iret (pc := 31) (ty := .int) rfl rfl ⟨by (decide), by (decide)⟩ hf trivial (zdal_p dlA_Troupe_nameOf_108 (i := 17) rfl)
      · skip
        refine zw_aload_n (pc := 10) (n := 0) (x := (d_ + 0)) rfl (zdal_p dlA_Troupe_nameOf_108 (i := 6) rfl) ?_
        refine zw_getF (pc := 11) f_Troupe_57 rfl ((hf.w hW).kr (o := 0) (by decide)) ((hf.w hW).lr (o := 0) (s := 5) (r := 36) (by decide)) (zdal_p dlA_Troupe_nameOf_108 (i := 7) rfl) ?_
        refine zw_iload_n (pc := 14) (n := 2) (x := Int32.ofInt u1_) rfl (zdal_p dlA_Troupe_nameOf_108 (i := 8) rfl) ?_
        refine zk_atG hf.x (pc := 15) l_Troupe_85 ((hf.w hW).kr (o := 36) (by decide)) ((hf.w hW).lr (o := 36) (s := 0) (r := 37) (by decide)) ((hf.w hW).rr (o := 37) (t := 1) (n := 8) (by decide)) (by decide) ⟨by (exact hu1_a), by (exact hu1_b)⟩ (by decide) (Nat.le_of_ble_eq_true rfl) (zdal_p dlA_Troupe_nameOf_108 (i := 9) rfl) (fun v4_ hv4_ hv4_a hv4_b => ?_)
        clear hv4_
        refine zw_iload_n (pc := 18) (n := 1) (x := Int32.ofInt a0_) rfl (zdal_p dlA_Troupe_nameOf_108 (i := 10) rfl) ?_
        refine zr_icmp_ne (pc := 19) (tgt := 24) ⟨hv4_a, hv4_b⟩ ⟨ha0_a, ha0_b⟩ (by decide) (zdal_p dlA_Troupe_nameOf_108 (i := 11) rfl) (fun hc_19 => ?_) (fun hc_19 => ?_)
        · skip
          refine zr_iinc (pc := 24) (i := 2) (a := u1_) (n := 1) (L2 := [some (.ref (d_ + 0)), some (.int (Int32.ofInt a0_)), some (.int (Int32.ofInt (u1_ + 1)))]) rfl (by decide) rfl (zdal_p dlA_Troupe_nameOf_108 (i := 14) rfl) ?_
          obtain ⟨v5_, hv5_a, hv5_b, hv5_e, hv5_d⟩ := zk_gen (u1_ + 1)
          rw [hv5_e]
          refine zw_goto (pc := 27) (tgt := 2) (by decide) (zdal_p dlA_Troupe_nameOf_108 (i := 15) rfl) ?_
          exact ih_2 v5_ hv5_a hv5_b (show 0 ≤ v5_ by first | with_reducible assumption | assumption | omega) (by omega)
        · skip
          refine zw_iload_n (pc := 22) (n := 2) (x := Int32.ofInt u1_) rfl (zdal_p dlA_Troupe_nameOf_108 (i := 12) rfl) ?_
          exact zk_iret (pc := 23) (ty := .int) rfl rfl ⟨by (exact hu1_a), by (exact hu1_b)⟩ hf trivial (zdal_p dlA_Troupe_nameOf_108 (i := 13) rfl)
  exact lp_2 _ 0 (by decide) (by decide) (show 0 ≤ (0 : Int) by first | with_reducible assumption | (decide) | assumption) (Nat.lt_succ_self _)
set_option maxHeartbeats 4000000 in
theorem u_Calc_topShelfX (l : Launch) (d_ : Nat) (Mz : zMem) (hW : zKW d_ Mz) : zC l m_Calc_topShelf 0 0 [.ref (d_ + 33)] Mz (zqcI d_ [] [] [] [] Mz (fun v N => True)) := by
  refine zC_of (L0 := [some (.ref (d_ + 33))]) md_Calc_topShelf (Nat.le_of_ble_eq_true rfl) rfl ?_ zQ0
  have hf : zFc d_ [] [] [] [] Mz Mz := zFc.rf
  refine zw_bipush (pc := 0) (v := Int32.ofInt 21) (by decide) (zdal_p dlA_Calc_topShelf_126 (i := 0) rfl) ?_
  refine zw_aload_n (pc := 2) (n := 0) (x := (d_ + 33)) rfl (zdal_p dlA_Calc_topShelf_126 (i := 1) rfl) ?_
  refine zk_getI (pc := 3) f_Calc_28 rfl ((hf.w hW).kr (o := 33) (by decide)) (zdal_p dlA_Calc_topShelf_126 (i := 2) rfl) ?_
  have hr1_ := ze_r Mz (d_ + 33) 3
  refine zr_iadd (pc := 6) (zdal_p dlA_Calc_topShelf_126 (i := 3) rfl) ?_
  refine zr_nmI (fun v2_ hv2_ => ?_)
  obtain ⟨hv2_a, hv2_b⟩ := hv2_
  refine zw_iconst (pc := 7) (v := Int32.ofInt 1) (by decide) (zdal_p dlA_Calc_topShelf_126 (i := 4) rfl) ?_
  refine zr_isub (pc := 8) (zdal_p dlA_Calc_topShelf_126 (i := 5) rfl) ?_
  refine zr_nmI (fun v3_ hv3_ => ?_)
  obtain ⟨hv3_a, hv3_b⟩ := hv3_
  exact zk_iret (pc := 9) (ty := .int) rfl rfl ⟨by (exact hv3_a), by (exact hv3_b)⟩ hf trivial (zdal_p dlA_Calc_topShelf_126 (i := 6) rfl)
set_option maxHeartbeats 4000000 in
theorem u_Calc_nextShelfX (l : Launch) (d_ : Nat) (Mz : zMem) (hW : zKW d_ Mz) : zC l m_Calc_nextShelf 0 0 [.ref (d_ + 33)] Mz (zqcI d_ [] [] [(33, 3)] [] Mz (fun v N => True)) := by
  refine zC_of (L0 := [some (.ref (d_ + 33))]) md_Calc_nextShelf (Nat.le_of_ble_eq_true rfl) rfl ?_ zQ0
  have hf : zFc d_ [] [] [(33, 3)] [] Mz Mz := zFc.rf
  refine zw_aload_n (pc := 0) (n := 0) (x := (d_ + 33)) rfl (zdal_p dlA_Calc_nextShelf_125 (i := 0) rfl) ?_
  refine zk_getI (pc := 1) f_Calc_28 rfl ((hf.w hW).kr (o := 33) (by decide)) (zdal_p dlA_Calc_nextShelf_125 (i := 1) rfl) ?_
  have hr1_ := ze_r Mz (d_ + 33) 3
  refine zw_bipush (pc := 4) (v := Int32.ofInt 18) (by decide) (zdal_p dlA_Calc_nextShelf_125 (i := 2) rfl) ?_
  refine zr_icmp_ge (pc := 6) (tgt := 19) ⟨(ze_r Mz (d_ + 33) 3).1, (ze_r Mz (d_ + 33) 3).2⟩ ⟨(by decide), (by decide)⟩ (by decide) (zdal_p dlA_Calc_nextShelf_125 (i := 3) rfl) (fun hc_6 => ?_) (fun hc_6 => ?_)
  · skip
    refine zw_aload_n (pc := 19) (n := 0) (x := (d_ + 33)) rfl (zdal_p dlA_Calc_nextShelf_125 (i := 10) rfl) ?_
    refine zk_callV hf.x (pc := 20) [] [] l_Calc_43 (u_Calc_topShelfX l d_ Mz (hf.w hW) ) rfl rfl ((hf.w hW).kr (o := 33) (by decide)) (by decide) (by decide) (Nat.le_of_ble_eq_true rfl) (zdal_p dlA_Calc_nextShelf_125 (i := 11) rfl) ?_
    rintro _ N2_ ⟨v3_, rfl, ⟨hv3_a, hv3_b⟩, hsN2_, -⟩
    obtain rfl := hsN2_.eq.symm
    show zW l m_Calc_nextShelf (zn Mz + 0, zw Mz + 0) Mz 23 [some (.ref (d_ + 33))] [.int (Int32.ofInt v3_)] _
    exact zk_iret (pc := 23) (ty := .int) rfl rfl ⟨by (exact hv3_a), by (exact hv3_b)⟩ hf trivial (zdal_p dlA_Calc_nextShelf_125 (i := 12) rfl)
  · skip
    refine zw_aload_n (pc := 9) (n := 0) (x := (d_ + 33)) rfl (zdal_p dlA_Calc_nextShelf_125 (i := 4) rfl) ?_
    refine zw_dup (pc := 10) rfl (zdal_p dlA_Calc_nextShelf_125 (i := 5) rfl) ?_
    refine zk_getI (pc := 11) f_Calc_28 rfl ((hf.w hW).kr (o := 33) (by decide)) (zdal_p dlA_Calc_nextShelf_125 (i := 6) rfl) ?_
    refine zw_iconst (pc := 14) (v := Int32.ofInt 1) (by decide) (zdal_p dlA_Calc_nextShelf_125 (i := 7) rfl) ?_
    refine zr_iadd (pc := 15) (zdal_p dlA_Calc_nextShelf_125 (i := 8) rfl) ?_
    refine zr_nmI (fun v4_ hv4_ => ?_)
    obtain ⟨hv4_a, hv4_b⟩ := hv4_
    refine zk_putR (pc := 16) (o := 33) (by decide) f_Calc_28 rfl rfl ((hf.w hW).kr (o := 33) (by decide)) ⟨by (exact hv4_a), by (exact hv4_b)⟩ rfl rfl (zdal_p dlA_Calc_nextShelf_125 (i := 9) rfl) (fun N5_ hsN5_ hvN5_ => ?_)
    have hf_N5_ : zFc d_ [] [] [(33, 3)] [] Mz N5_ := hf.tr hsN5_ (by decide) (by decide) (by decide) (by decide)
    refine zw_aload_n (pc := 19) (n := 0) (x := (d_ + 33)) rfl (zdal_p dlA_Calc_nextShelf_125 (i := 10) rfl) ?_
    refine zk_callV hf_N5_.x (pc := 20) [] [] l_Calc_43 (u_Calc_topShelfX l d_ N5_ (hf_N5_.w hW) ) rfl rfl ((hf_N5_.w hW).kr (o := 33) (by decide)) (by decide) (by decide) (Nat.le_of_ble_eq_true rfl) (zdal_p dlA_Calc_nextShelf_125 (i := 11) rfl) ?_
    rintro _ N6_ ⟨v7_, rfl, ⟨hv7_a, hv7_b⟩, hsN6_, -⟩
    obtain rfl := hsN6_.eq.symm
    show zW l m_Calc_nextShelf (zn Mz + 0, zw Mz + 0) N5_ 23 [some (.ref (d_ + 33))] [.int (Int32.ofInt v7_)] _
    exact zk_iret (pc := 23) (ty := .int) rfl rfl ⟨by (exact hv7_a), by (exact hv7_b)⟩ hf_N5_ trivial (zdal_p dlA_Calc_nextShelf_125 (i := 12) rfl)
set_option maxHeartbeats 4000000 in
theorem u_Calc_pushNamedX (l : Launch) (d_ : Nat) (Mz : zMem) (hW : zKW d_ Mz) (a0_ : Int) (ha0_a : -2147483648 ≤ a0_) (ha0_b : a0_ < 2147483648) : zC l m_Calc_pushNamed 0 0 [.ref (d_ + 33), .int (Int32.ofInt a0_)] Mz (zqcV d_ [] [] [(33, 3)] [25] Mz (fun N => True)) := by
  refine zC_of (L0 := [some (.ref (d_ + 33)), some (.int (Int32.ofInt a0_))]) md_Calc_pushNamed (Nat.le_of_ble_eq_true rfl) rfl ?_ zQ0
  have hf : zFc d_ [] [] [(33, 3)] [25] Mz Mz := zFc.rf
  refine zw_aload_n (pc := 0) (n := 0) (x := (d_ + 33)) rfl (zdal_p dlA_Calc_pushNamed_124 (i := 0) rfl) ?_
  refine zw_getF (pc := 1) f_Calc_20 rfl ((hf.w hW).kr (o := 33) (by decide)) ((hf.w hW).lr (o := 33) (s := 0) (r := 23) (by decide)) (zdal_p dlA_Calc_pushNamed_124 (i := 1) rfl) ?_
  refine zw_iconst (pc := 4) (v := Int32.ofInt 1) (by decide) (zdal_p dlA_Calc_pushNamed_124 (i := 2) rfl) ?_
  refine zw_iload_n (pc := 5) (n := 1) (x := Int32.ofInt a0_) rfl (zdal_p dlA_Calc_pushNamed_124 (i := 3) rfl) ?_
  refine zr_iadd (pc := 6) (zdal_p dlA_Calc_pushNamed_124 (i := 4) rfl) ?_
  refine zr_nmI (fun v1_ hv1_ => ?_)
  obtain ⟨hv1_a, hv1_b⟩ := hv1_
  refine zw_aload_n (pc := 7) (n := 0) (x := (d_ + 33)) rfl (zdal_p dlA_Calc_pushNamed_124 (i := 5) rfl) ?_
  refine zk_callV hf.x (pc := 8) [] [.int (Int32.ofInt v1_), .ref (d_ + 23)] l_Calc_58 (u_Calc_nextShelfX l d_ Mz (hf.w hW) ) rfl rfl ((hf.w hW).kr (o := 33) (by decide)) (by decide) (by decide) (Nat.le_of_ble_eq_true rfl) (zdal_p dlA_Calc_pushNamed_124 (i := 6) rfl) ?_
  rintro _ N2_ ⟨v3_, rfl, ⟨hv3_a, hv3_b⟩, hsN2_, -⟩
  have hf_N2_ : zFc d_ [] [] [(33, 3)] [25] Mz N2_ := hf.tr hsN2_ (by decide) (by decide) (by decide) (by decide)
  show zW l m_Calc_pushNamed (zn Mz + 0, zw Mz + 0) N2_ 11 [some (.ref (d_ + 33)), some (.int (Int32.ofInt a0_))] [.int (Int32.ofInt v3_), .int (Int32.ofInt v1_), .ref (d_ + 23)] _
  refine zk_callV hf_N2_.x (pc := 11) [.int (Int32.ofInt v1_), .int (Int32.ofInt v3_)] [] l_Calc_65 (u_Sums_copyX l d_ N2_ (hf_N2_.w hW) v1_ hv1_a hv1_b v3_ hv3_a hv3_b) rfl rfl ((hf_N2_.w hW).kr (o := 23) (by decide)) (by decide) (by decide) (Nat.le_of_ble_eq_true rfl) (zdal_p dlA_Calc_pushNamed_124 (i := 7) rfl) ?_
  rintro _ N4_ ⟨rfl, hsN4_, -⟩
  have hf_N4_ : zFc d_ [] [] [(33, 3)] [25] Mz N4_ := hf_N2_.tr hsN4_ (by decide) (by decide) (by decide) (by decide)
  show zW l m_Calc_pushNamed (zn Mz + 0, zw Mz + 0) N4_ 14 [some (.ref (d_ + 33)), some (.int (Int32.ofInt a0_))] [] _
  exact zk_vret (pc := 14) rfl hf_N4_ trivial (zdal_p dlA_Calc_pushNamed_124 (i := 8) rfl)
set_option maxHeartbeats 4000000 in
theorem u_Reader_readNamedX (l : Launch) (d_ : Nat) (Mz : zMem) (hW : zKW d_ Mz) : zC l m_Reader_readNamed 0 0 [.ref 4, .ref (d_ + 0)] Mz (zqcI d_ [(4, 1), (4, 2), (4, 3)] [] [(33, 3)] [25] Mz (fun v N => ((v = 0 ∨ v = 1)))) := by
  refine zC_of (L0 := [some (.ref 4), some (.ref (d_ + 0)), none]) md_Reader_readNamed (Nat.le_of_ble_eq_true rfl) rfl ?_ zQ0
  have hf : zFc d_ [(4, 1), (4, 2), (4, 3)] [] [(33, 3)] [25] Mz Mz := zFc.rf
  refine zw_aload_n (pc := 0) (n := 0) (x := 4) rfl (zdal_p dlA_Reader_readNamed_122 (i := 0) rfl) ?_
  refine zw_getF (pc := 1) f_Reader_15 rfl ((hf.w hW).ka (o := 4) (by decide)) ((hf.w hW).la (o := 4) (s := 0) (r := 1) (by decide)) (zdal_p dlA_Reader_readNamed_122 (i := 1) rfl) ?_
  refine zk_callV hf.x (pc := 4) [] [] l_Reader_101 (u_Tokens_isNameX l d_ Mz (hf.w hW) ) rfl rfl ((hf.w hW).ka (o := 1) (by decide)) (by decide) (by decide) (Nat.le_of_ble_eq_true rfl) (zdal_p dlA_Reader_readNamed_122 (i := 2) rfl) ?_
  rintro _ N1_ ⟨v2_, rfl, ⟨hv2_a, hv2_b⟩, hsN1_, hp0_N1_⟩
  obtain rfl := hsN1_.eq.symm
  replace hp0_N1_ : (v2_ = 0 ∨ v2_ = 1) := hp0_N1_
  show zW l m_Reader_readNamed (zn Mz + 0, zw Mz + 0) Mz 7 [some (.ref 4), some (.ref (d_ + 0)), none] [.int (Int32.ofInt v2_)] _
  refine zr_if_ne (pc := 7) (tgt := 16) ⟨hv2_a, hv2_b⟩ (by decide) (zdal_p dlA_Reader_readNamed_122 (i := 3) rfl) (fun hc_7 => ?_) (fun hc_7 => ?_)
  · skip
    refine zw_aload_n (pc := 16) (n := 1) (x := (d_ + 0)) rfl (zdal_p dlA_Reader_readNamed_122 (i := 8) rfl) ?_
    refine zw_aload_n (pc := 17) (n := 0) (x := 4) rfl (zdal_p dlA_Reader_readNamed_122 (i := 9) rfl) ?_
    refine zw_getF (pc := 18) f_Reader_15 rfl ((hf.w hW).ka (o := 4) (by decide)) ((hf.w hW).la (o := 4) (s := 0) (r := 1) (by decide)) (zdal_p dlA_Reader_readNamed_122 (i := 10) rfl) ?_
    refine zk_getI (pc := 21) f_Reader_57 rfl ((hf.w hW).ka (o := 1) (by decide)) (zdal_p dlA_Reader_readNamed_122 (i := 11) rfl) ?_
    have hr3_ := ze_r Mz 1 5
    refine zk_callV hf.x (pc := 24) [.int (Int32.ofInt (ze Mz 1 5))] [] l_Reader_104 (u_Troupe_nameOfX l d_ Mz (hf.w hW) (ze Mz 1 5) (ze_r Mz 1 5).1 (ze_r Mz 1 5).2) rfl rfl ((hf.w hW).kr (o := 0) (by decide)) (by decide) (by decide) (Nat.le_of_ble_eq_true rfl) (zdal_p dlA_Reader_readNamed_122 (i := 12) rfl) ?_
    rintro _ N4_ ⟨v5_, rfl, ⟨hv5_a, hv5_b⟩, hsN4_, -⟩
    obtain rfl := hsN4_.eq.symm
    show zW l m_Reader_readNamed (zn Mz + 0, zw Mz + 0) Mz 27 [some (.ref 4), some (.ref (d_ + 0)), none] [.int (Int32.ofInt v5_)] _
    refine zw_istore_n (pc := 27) (i := 2) (L2 := [some (.ref 4), some (.ref (d_ + 0)), some (.int (Int32.ofInt v5_))]) rfl (by decide) rfl (zdal_p dlA_Reader_readNamed_122 (i := 13) rfl) ?_
    refine zw_iload_n (pc := 28) (n := 2) (x := Int32.ofInt v5_) rfl (zdal_p dlA_Reader_readNamed_122 (i := 14) rfl) ?_
    refine zw_iconst (pc := 29) (v := Int32.ofInt (-1)) (by decide) (zdal_p dlA_Reader_readNamed_122 (i := 15) rfl) ?_
    refine zr_icmp_ne (pc := 30) (tgt := 39) ⟨hv5_a, hv5_b⟩ ⟨(by decide), (by decide)⟩ (by decide) (zdal_p dlA_Reader_readNamed_122 (i := 16) rfl) (fun hc_30 => ?_) (fun hc_30 => ?_)
    · skip
      refine zw_aload_n (pc := 39) (n := 0) (x := 4) rfl (zdal_p dlA_Reader_readNamed_122 (i := 21) rfl) ?_
      refine zw_aload_n (pc := 40) (n := 1) (x := (d_ + 0)) rfl (zdal_p dlA_Reader_readNamed_122 (i := 22) rfl) ?_
      refine zw_getF (pc := 41) f_Reader_111 rfl ((hf.w hW).kr (o := 0) (by decide)) ((hf.w hW).lr (o := 0) (s := 4) (r := 33) (by decide)) (zdal_p dlA_Reader_readNamed_122 (i := 23) rfl) ?_
      refine zk_callV hf.x (pc := 44) [.ref (d_ + 33)] [] l_Reader_152 (u_Reader_countUnitX l d_ Mz (hf.w hW) ) rfl rfl ((hf.w hW).ka (o := 4) (by decide)) (by decide) (by decide) (Nat.le_of_ble_eq_true rfl) (zdal_p dlA_Reader_readNamed_123 (i := 0) rfl) ?_
      rintro _ N6_ ⟨v7_, rfl, ⟨hv7_a, hv7_b⟩, hsN6_, hp0_N6_⟩
      replace hp0_N6_ : (v7_ = 0 ∨ v7_ = 1) := hp0_N6_
      have hf_N6_ : zFc d_ [(4, 1), (4, 2), (4, 3)] [] [(33, 3)] [25] Mz N6_ := hf.tr hsN6_ (by decide) (by decide) (by decide) (by decide)
      show zW l m_Reader_readNamed (zn Mz + 0, zw Mz + 0) N6_ 47 [some (.ref 4), some (.ref (d_ + 0)), some (.int (Int32.ofInt v5_))] [.int (Int32.ofInt v7_)] _
      refine zr_if_ne (pc := 47) (tgt := 52) ⟨hv7_a, hv7_b⟩ (by decide) (zdal_p dlA_Reader_readNamed_123 (i := 1) rfl) (fun hc_47 => ?_) (fun hc_47 => ?_)
      · skip
        refine zw_aload_n (pc := 52) (n := 1) (x := (d_ + 0)) rfl (zdal_p dlA_Reader_readNamed_123 (i := 4) rfl) ?_
        refine zw_getF (pc := 53) f_Reader_111 rfl ((hf_N6_.w hW).kr (o := 0) (by decide)) ((hf_N6_.w hW).lr (o := 0) (s := 4) (r := 33) (by decide)) (zdal_p dlA_Reader_readNamed_123 (i := 5) rfl) ?_
        refine zw_iload_n (pc := 56) (n := 2) (x := Int32.ofInt v5_) rfl (zdal_p dlA_Reader_readNamed_123 (i := 6) rfl) ?_
        refine zk_callV hf_N6_.x (pc := 57) [.int (Int32.ofInt v5_)] [] l_Reader_176 (u_Calc_pushNamedX l d_ N6_ (hf_N6_.w hW) v5_ hv5_a hv5_b) rfl rfl ((hf_N6_.w hW).kr (o := 33) (by decide)) (by decide) (by decide) (Nat.le_of_ble_eq_true rfl) (zdal_p dlA_Reader_readNamed_123 (i := 7) rfl) ?_
        rintro _ N8_ ⟨rfl, hsN8_, -⟩
        have hf_N8_ : zFc d_ [(4, 1), (4, 2), (4, 3)] [] [(33, 3)] [25] Mz N8_ := hf_N6_.tr hsN8_ (by decide) (by decide) (by decide) (by decide)
        show zW l m_Reader_readNamed (zn Mz + 0, zw Mz + 0) N8_ 60 [some (.ref 4), some (.ref (d_ + 0)), some (.int (Int32.ofInt v5_))] [] _
        refine zw_iconst (pc := 60) (v := Int32.ofInt 1) (by decide) (zdal_p dlA_Reader_readNamed_123 (i := 8) rfl) ?_
        exact zk_iret (pc := 61) (ty := .boolean) rfl (z_narB (by (decide))) ⟨by (decide), by (decide)⟩ hf_N8_ (show (((1 : Int)) = 0 ∨ ((1 : Int)) = 1) by first | with_reducible assumption | (decide) | assumption) (zdal_p dlA_Reader_readNamed_123 (i := 9) rfl)
      · skip
        refine zw_iconst (pc := 50) (v := Int32.ofInt 0) (by decide) (zdal_p dlA_Reader_readNamed_123 (i := 2) rfl) ?_
        exact zk_iret (pc := 51) (ty := .boolean) rfl (z_narB (by (decide))) ⟨by (decide), by (decide)⟩ hf_N6_ (show (((0 : Int)) = 0 ∨ ((0 : Int)) = 1) by first | with_reducible assumption | (decide) | assumption) (zdal_p dlA_Reader_readNamed_123 (i := 3) rfl)
    · skip
      refine zw_aload_n (pc := 33) (n := 0) (x := 4) rfl (zdal_p dlA_Reader_readNamed_122 (i := 17) rfl) ?_
      refine zw_iconst (pc := 34) (v := Int32.ofInt 3) (by decide) (zdal_p dlA_Reader_readNamed_122 (i := 18) rfl) ?_
      refine zk_callV hf.x (pc := 35) [.int (Int32.ofInt 3)] [] l_Reader_41 (u_Reader_refuseX l d_ Mz (hf.w hW) 3 (by decide) (by decide)) rfl rfl ((hf.w hW).ka (o := 4) (by decide)) (by decide) (by decide) (Nat.le_of_ble_eq_true rfl) (zdal_p dlA_Reader_readNamed_122 (i := 19) rfl) ?_
      rintro _ N10_ ⟨v11_, rfl, ⟨hv11_a, hv11_b⟩, hsN10_, hp0_N10_⟩
      replace hp0_N10_ : (v11_ = 0 ∨ v11_ = 1) := hp0_N10_
      have hf_N10_ : zFc d_ [(4, 1), (4, 2), (4, 3)] [] [(33, 3)] [25] Mz N10_ := hf.tr hsN10_ (by decide) (by decide) (by decide) (by decide)
      show zW l m_Reader_readNamed (zn Mz + 0, zw Mz + 0) N10_ 38 [some (.ref 4), some (.ref (d_ + 0)), some (.int (Int32.ofInt v5_))] [.int (Int32.ofInt v11_)] _
      exact zk_iret (pc := 38) (ty := .boolean) rfl (z_narB (by (exact hp0_N10_))) ⟨by (exact hv11_a), by (exact hv11_b)⟩ hf_N10_ (show (v11_ = 0 ∨ v11_ = 1) by first | with_reducible assumption | assumption | omega) (zdal_p dlA_Reader_readNamed_122 (i := 20) rfl)
  · skip
    refine zw_aload_n (pc := 10) (n := 0) (x := 4) rfl (zdal_p dlA_Reader_readNamed_122 (i := 4) rfl) ?_
    refine zw_iconst (pc := 11) (v := Int32.ofInt 2) (by decide) (zdal_p dlA_Reader_readNamed_122 (i := 5) rfl) ?_
    refine zk_callV hf.x (pc := 12) [.int (Int32.ofInt 2)] [] l_Reader_41 (u_Reader_refuseX l d_ Mz (hf.w hW) 2 (by decide) (by decide)) rfl rfl ((hf.w hW).ka (o := 4) (by decide)) (by decide) (by decide) (Nat.le_of_ble_eq_true rfl) (zdal_p dlA_Reader_readNamed_122 (i := 6) rfl) ?_
    rintro _ N12_ ⟨v13_, rfl, ⟨hv13_a, hv13_b⟩, hsN12_, hp0_N12_⟩
    replace hp0_N12_ : (v13_ = 0 ∨ v13_ = 1) := hp0_N12_
    have hf_N12_ : zFc d_ [(4, 1), (4, 2), (4, 3)] [] [(33, 3)] [25] Mz N12_ := hf.tr hsN12_ (by decide) (by decide) (by decide) (by decide)
    show zW l m_Reader_readNamed (zn Mz + 0, zw Mz + 0) N12_ 15 [some (.ref 4), some (.ref (d_ + 0)), none] [.int (Int32.ofInt v13_)] _
    exact zk_iret (pc := 15) (ty := .boolean) rfl (z_narB (by (exact hp0_N12_))) ⟨by (exact hv13_a), by (exact hv13_b)⟩ hf_N12_ (show (v13_ = 0 ∨ v13_ = 1) by first | with_reducible assumption | assumption | omega) (zdal_p dlA_Reader_readNamed_122 (i := 7) rfl)
set_option maxHeartbeats 4000000 in
theorem u_Sums_putSingleX (l : Launch) (d_ : Nat) (Mz : zMem) (hW : zKW d_ Mz) (a0_ : Int) (ha0_a : -2147483648 ≤ a0_) (ha0_b : a0_ < 2147483648) (a1_ : Int) (ha1_a : -2147483648 ≤ a1_) (ha1_b : a1_ < 2147483648) (a2_ : Int) (ha2_a : -9223372036854775808 ≤ a2_) (ha2_b : a2_ < 9223372036854775808) : zC l m_Sums_putSingle 0 0 [.ref (d_ + 23), .int (Int32.ofInt a0_), .int (Int32.ofInt a1_), .long (Int64.ofInt a2_)] Mz (zqcV d_ [] [] [] [25] Mz (fun N => True)) := by
  refine zC_of (L0 := [some (.ref (d_ + 23)), some (.int (Int32.ofInt a0_)), some (.int (Int32.ofInt a1_)), some (.long (Int64.ofInt a2_)), none, none]) md_Sums_putSingle (Nat.le_of_ble_eq_true rfl) rfl ?_ zQ0
  have hf : zFc d_ [] [] [] [25] Mz Mz := zFc.rf
  refine zw_iconst (pc := 0) (v := Int32.ofInt 0) (by decide) (zdal_p dlA_Sums_putSingle_61 (i := 0) rfl) ?_
  refine zw_istore (pc := 1) (i := 5) (L2 := [some (.ref (d_ + 23)), some (.int (Int32.ofInt a0_)), some (.int (Int32.ofInt a1_)), some (.long (Int64.ofInt a2_)), none, some (.int (Int32.ofInt 0))]) (by decide) rfl (zdal_p dlA_Sums_putSingle_61 (i := 1) rfl) ?_
  have lp_3 : ∀ (n : Nat) (u1_ : Int) (hu1_a : -2147483648 ≤ u1_) (hu1_b : u1_ < 2147483648) (N2_ : zMem) (hs3_ : zFc d_ [] [] [] [25] Mz N2_) (i4_ : 0 ≤ u1_), (ze Mz (d_ + 12) 7 - u1_).toNat < n → zW l m_Sums_putSingle (zn Mz + 0, zw Mz + 0) N2_ 3 [some (.ref (d_ + 23)), some (.int (Int32.ofInt a0_)), some (.int (Int32.ofInt a1_)), some (.long (Int64.ofInt a2_)), none, some (.int (Int32.ofInt u1_))] [] (zqcV d_ [] [] [] [25] Mz (fun N => True)) := by
    intro n
    induction n with
    | zero =>
      intro u1_ hu1_a hu1_b N2_ hs3_ i4_ h0
      exact absurd h0 (Nat.not_lt_zero _)
    | succ n ih_3 =>
      intro u1_ hu1_a hu1_b N2_ hs3_ i4_ hlt_3
      have hf_N2_ : zFc d_ [] [] [] [25] Mz N2_ := hf.tr hs3_ (by decide) (by decide) (by decide) (by decide)
      refine zw_iload (pc := 3) (i := 5) (x := Int32.ofInt u1_) rfl (zdal_p dlA_Sums_putSingle_61 (i := 2) rfl) ?_
      refine zw_aload_n (pc := 5) (n := 0) (x := (d_ + 23)) rfl (zdal_p dlA_Sums_putSingle_61 (i := 3) rfl) ?_
      refine zw_getF (pc := 6) f_Sums_23 rfl ((hf_N2_.w hW).kr (o := 23) (by decide)) ((hf_N2_.w hW).lr (o := 23) (s := 0) (r := 12) (by decide)) (zdal_p dlA_Sums_putSingle_61 (i := 4) rfl) ?_
      refine zk_getI (pc := 9) f_Sums_35 rfl ((hf_N2_.w hW).kr (o := 12) (by decide)) (zdal_p dlA_Sums_putSingle_61 (i := 5) rfl) ?_
      rw [hf_N2_.e (by decide)]
      have hr5_ := ze_r Mz (d_ + 12) 7
      refine zr_icmp_ge (pc := 12) (tgt := 46) ⟨hu1_a, hu1_b⟩ ⟨(ze_r Mz (d_ + 12) 7).1, (ze_r Mz (d_ + 12) 7).2⟩ (by decide) (zdal_p dlA_Sums_putSingle_61 (i := 6) rfl) (fun hc_12 => ?_) (fun hc_12 => ?_)
      · skip
        exact zk_vret (pc := 46) rfl hf_N2_ trivial (zdal_p dlA_Sums_putSingle_61 (i := 23) rfl)
      · skip
        refine zw_aload_n (pc := 15) (n := 0) (x := (d_ + 23)) rfl (zdal_p dlA_Sums_putSingle_61 (i := 7) rfl) ?_
        refine zw_getF (pc := 16) f_Sums_16 rfl ((hf_N2_.w hW).kr (o := 23) (by decide)) ((hf_N2_.w hW).lr (o := 23) (s := 1) (r := 24) (by decide)) (zdal_p dlA_Sums_putSingle_61 (i := 8) rfl) ?_
        refine zw_iload_n (pc := 19) (n := 1) (x := Int32.ofInt a0_) rfl (zdal_p dlA_Sums_putSingle_61 (i := 9) rfl) ?_
        refine zw_bipush (pc := 20) (v := Int32.ofInt 27) (by decide) (zdal_p dlA_Sums_putSingle_61 (i := 10) rfl) ?_
        refine zr_imul (pc := 22) (zdal_p dlA_Sums_putSingle_61 (i := 11) rfl) ?_
        refine zr_nmI (fun v6_ hv6_ => ?_)
        obtain ⟨hv6_a, hv6_b⟩ := hv6_
        refine zw_iload (pc := 23) (i := 5) (x := Int32.ofInt u1_) rfl (zdal_p dlA_Sums_putSingle_61 (i := 12) rfl) ?_
        refine zr_iadd (pc := 25) (zdal_p dlA_Sums_putSingle_61 (i := 13) rfl) ?_
        refine zr_nmI (fun v7_ hv7_ => ?_)
        obtain ⟨hv7_a, hv7_b⟩ := hv7_
        refine zw_iload (pc := 26) (i := 5) (x := Int32.ofInt u1_) rfl (zdal_p dlA_Sums_putSingle_61 (i := 14) rfl) ?_
        refine zw_iload_n (pc := 28) (n := 2) (x := Int32.ofInt a1_) rfl (zdal_p dlA_Sums_putSingle_61 (i := 15) rfl) ?_
        refine zr_icmp_ne (pc := 29) (tgt := 36) ⟨hu1_a, hu1_b⟩ ⟨ha1_a, ha1_b⟩ (by decide) (zdal_p dlA_Sums_putSingle_61 (i := 16) rfl) (fun hc_29 => ?_) (fun hc_29 => ?_)
        · skip
          refine zw_lconst (pc := 36) (v := Int64.ofInt 0) (by decide) (zdal_p dlA_Sums_putSingle_61 (i := 19) rfl) ?_
          refine zk_stGJ hf_N2_.x (pc := 37) (o := 25) (by decide) l_Sums_31 ((hf_N2_.w hW).kr (o := 24) (by decide)) ((hf_N2_.w hW).lr (o := 24) (s := 0) (r := 25) (by decide)) ((hf_N2_.w hW).rr (o := 25) (t := 2) (n := 1080) (by decide)) (by decide) ⟨by (exact hv7_a), by (exact hv7_b)⟩ (by decide) (Nat.le_of_ble_eq_true rfl) (zdal_p dlA_Sums_putSingle_61 (i := 20) rfl) (fun N8_ hsN8_ => ?_)
          have hf_N8_ : zFc d_ [] [] [] [25] Mz N8_ := hf_N2_.tr hsN8_ (by decide) (by decide) (by decide) (by decide)
          have hb0_N8_ : zFc d_ [] [] [] [25] Mz N8_ := hs3_.tr hsN8_ (by decide) (by decide) (by decide) (by decide)
          refine zr_iinc (pc := 40) (i := 5) (a := u1_) (n := 1) (L2 := [some (.ref (d_ + 23)), some (.int (Int32.ofInt a0_)), some (.int (Int32.ofInt a1_)), some (.long (Int64.ofInt a2_)), none, some (.int (Int32.ofInt (u1_ + 1)))]) rfl (by decide) rfl (zdal_p dlA_Sums_putSingle_61 (i := 21) rfl) ?_
          obtain ⟨v9_, hv9_a, hv9_b, hv9_e, hv9_d⟩ := zk_gen (u1_ + 1)
          rw [hv9_e]
          refine zw_goto (pc := 43) (tgt := 3) (by decide) (zdal_p dlA_Sums_putSingle_61 (i := 22) rfl) ?_
          exact ih_3 v9_ hv9_a hv9_b N8_ hb0_N8_ (show 0 ≤ v9_ by first | with_reducible assumption | assumption | omega) (by omega)
        · skip
          refine zw_lload_n (pc := 32) (n := 3) (x := Int64.ofInt a2_) rfl (zdal_p dlA_Sums_putSingle_61 (i := 17) rfl) ?_
          refine zw_goto (pc := 33) (tgt := 37) (by decide) (zdal_p dlA_Sums_putSingle_61 (i := 18) rfl) ?_
          refine zk_stGJ hf_N2_.x (pc := 37) (o := 25) (by decide) l_Sums_31 ((hf_N2_.w hW).kr (o := 24) (by decide)) ((hf_N2_.w hW).lr (o := 24) (s := 0) (r := 25) (by decide)) ((hf_N2_.w hW).rr (o := 25) (t := 2) (n := 1080) (by decide)) (by decide) ⟨by (exact hv7_a), by (exact hv7_b)⟩ (by decide) (Nat.le_of_ble_eq_true rfl) (zdal_p dlA_Sums_putSingle_61 (i := 20) rfl) (fun N10_ hsN10_ => ?_)
          have hf_N10_ : zFc d_ [] [] [] [25] Mz N10_ := hf_N2_.tr hsN10_ (by decide) (by decide) (by decide) (by decide)
          have hb0_N10_ : zFc d_ [] [] [] [25] Mz N10_ := hs3_.tr hsN10_ (by decide) (by decide) (by decide) (by decide)
          refine zr_iinc (pc := 40) (i := 5) (a := u1_) (n := 1) (L2 := [some (.ref (d_ + 23)), some (.int (Int32.ofInt a0_)), some (.int (Int32.ofInt a1_)), some (.long (Int64.ofInt a2_)), none, some (.int (Int32.ofInt (u1_ + 1)))]) rfl (by decide) rfl (zdal_p dlA_Sums_putSingle_61 (i := 21) rfl) ?_
          obtain ⟨v11_, hv11_a, hv11_b, hv11_e, hv11_d⟩ := zk_gen (u1_ + 1)
          rw [hv11_e]
          refine zw_goto (pc := 43) (tgt := 3) (by decide) (zdal_p dlA_Sums_putSingle_61 (i := 22) rfl) ?_
          exact ih_3 v11_ hv11_a hv11_b N10_ hb0_N10_ (show 0 ≤ v11_ by first | with_reducible assumption | assumption | omega) (by omega)
  exact lp_3 _ 0 (by decide) (by decide) Mz zFc.rf (show 0 ≤ (0 : Int) by first | with_reducible assumption | (decide) | assumption) (Nat.lt_succ_self _)
set_option maxHeartbeats 4000000 in
theorem u_Calc_pushSingleX (l : Launch) (d_ : Nat) (Mz : zMem) (hW : zKW d_ Mz) (a0_ : Int) (ha0_a : -2147483648 ≤ a0_) (ha0_b : a0_ < 2147483648) (a1_ : Int) (ha1_a : -2147483648 ≤ a1_) (ha1_b : a1_ < 2147483648) : zC l m_Calc_pushSingle 0 0 [.ref (d_ + 33), .int (Int32.ofInt a0_), .int (Int32.ofInt a1_)] Mz (zqcV d_ [] [] [(33, 3)] [25] Mz (fun N => True)) := by
  refine zC_of (L0 := [some (.ref (d_ + 33)), some (.int (Int32.ofInt a0_)), some (.int (Int32.ofInt a1_))]) md_Calc_pushSingle (Nat.le_of_ble_eq_true rfl) rfl ?_ zQ0
  have hf : zFc d_ [] [] [(33, 3)] [25] Mz Mz := zFc.rf
  refine zw_aload_n (pc := 0) (n := 0) (x := (d_ + 33)) rfl (zdal_p dlA_Calc_pushSingle_130 (i := 0) rfl) ?_
  refine zw_getF (pc := 1) f_Calc_20 rfl ((hf.w hW).kr (o := 33) (by decide)) ((hf.w hW).lr (o := 33) (s := 0) (r := 23) (by decide)) (zdal_p dlA_Calc_pushSingle_130 (i := 1) rfl) ?_
  refine zw_aload_n (pc := 4) (n := 0) (x := (d_ + 33)) rfl (zdal_p dlA_Calc_pushSingle_130 (i := 2) rfl) ?_
  refine zk_callV hf.x (pc := 5) [] [.ref (d_ + 23)] l_Calc_58 (u_Calc_nextShelfX l d_ Mz (hf.w hW) ) rfl rfl ((hf.w hW).kr (o := 33) (by decide)) (by decide) (by decide) (Nat.le_of_ble_eq_true rfl) (zdal_p dlA_Calc_pushSingle_130 (i := 3) rfl) ?_
  rintro _ N1_ ⟨v2_, rfl, ⟨hv2_a, hv2_b⟩, hsN1_, -⟩
  have hf_N1_ : zFc d_ [] [] [(33, 3)] [25] Mz N1_ := hf.tr hsN1_ (by decide) (by decide) (by decide) (by decide)
  show zW l m_Calc_pushSingle (zn Mz + 0, zw Mz + 0) N1_ 8 [some (.ref (d_ + 33)), some (.int (Int32.ofInt a0_)), some (.int (Int32.ofInt a1_))] [.int (Int32.ofInt v2_), .ref (d_ + 23)] _
  refine zw_iload_n (pc := 8) (n := 1) (x := Int32.ofInt a0_) rfl (zdal_p dlA_Calc_pushSingle_130 (i := 4) rfl) ?_
  refine zw_iload_n (pc := 9) (n := 2) (x := Int32.ofInt a1_) rfl (zdal_p dlA_Calc_pushSingle_130 (i := 5) rfl) ?_
  refine zr_i2l (pc := 10) ⟨ha1_a, ha1_b⟩ (zdal_p dlA_Calc_pushSingle_130 (i := 6) rfl) ?_
  refine zk_callV hf_N1_.x (pc := 11) [.int (Int32.ofInt v2_), .int (Int32.ofInt a0_), .long (Int64.ofInt a1_)] [] l_Calc_61 (u_Sums_putSingleX l d_ N1_ (hf_N1_.w hW) v2_ hv2_a hv2_b a0_ ha0_a ha0_b a1_ (by (exact zo_282 ha1_a)) (by (exact zo_283 ha1_b))) rfl rfl ((hf_N1_.w hW).kr (o := 23) (by decide)) (by decide) (by decide) (Nat.le_of_ble_eq_true rfl) (zdal_p dlA_Calc_pushSingle_130 (i := 7) rfl) ?_
  rintro _ N3_ ⟨rfl, hsN3_, -⟩
  have hf_N3_ : zFc d_ [] [] [(33, 3)] [25] Mz N3_ := hf_N1_.tr hsN3_ (by decide) (by decide) (by decide) (by decide)
  show zW l m_Calc_pushSingle (zn Mz + 0, zw Mz + 0) N3_ 14 [some (.ref (d_ + 33)), some (.int (Int32.ofInt a0_)), some (.int (Int32.ofInt a1_))] [] _
  exact zk_vret (pc := 14) rfl hf_N3_ trivial (zdal_p dlA_Calc_pushSingle_130 (i := 8) rfl)
