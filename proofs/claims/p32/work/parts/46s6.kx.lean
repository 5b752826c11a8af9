set_option maxHeartbeats 4000000 in
theorem u_Sums_hasNoneBelowX (l : Launch) (d_ : Nat) (Mz : zMem) (hW : zKW d_ Mz) (a0_ : Int) (ha0_a : -2147483648 ≤ a0_) (ha0_b : a0_ < 2147483648) : zC l m_Sums_hasNoneBelow 0 0 [.ref (d_ + 23), .int (Int32.ofInt a0_)] Mz (zqcI d_ [] [] [] [] Mz (fun v N => ((v = 0 ∨ v = 1)))) := by
  refine zC_of (L0 := [some (.ref (d_ + 23)), some (.int (Int32.ofInt a0_)), none]) md_Sums_hasNoneBelow (Nat.le_of_ble_eq_true rfl) rfl ?_ zQ0
  have hf : zFc d_ [] [] [] [] Mz Mz := zFc.rf
  refine zw_iconst (pc := 0) (v := Int32.ofInt 0) (by decide) (zdal_p dlB_Sums_hasNoneBelow_117 (i := 0) rfl) ?_
  refine zw_istore_n (pc := 1) (i := 2) (L2 := [some (.ref (d_ + 23)), some (.int (Int32.ofInt a0_)), some (.int (Int32.ofInt 0))]) rfl (by decide) rfl (zdal_p dlB_Sums_hasNoneBelow_117 (i := 1) rfl) ?_
  have lp_2 : ∀ (n : Nat) (u1_ : Int) (hu1_a : -2147483648 ≤ u1_) (hu1_b : u1_ < 2147483648) (i2_ : 0 ≤ u1_), (ze Mz (d_ + 12) 7 - u1_).toNat < n → zW l m_Sums_hasNoneBelow (zn Mz + 0, zw Mz + 0) Mz 2 [some (.ref (d_ + 23)), some (.int (Int32.ofInt a0_)), some (.int (Int32.ofInt u1_))] [] (zqcI d_ [] [] [] [] Mz (fun v N => ((v = 0 ∨ v = 1)))) := by
    intro n
    induction n with
    | zero =>
      intro u1_ hu1_a hu1_b i2_ h0
      exact absurd h0 (Nat.not_lt_zero _)
    | succ n ih_2 =>
      intro u1_ hu1_a hu1_b i2_ hlt_2
      refine zw_iload_n (pc := 2) (n := 2) (x := Int32.ofInt u1_) rfl (zdal_p dlB_Sums_hasNoneBelow_117 (i := 2) rfl) ?_
      refine zw_aload_n (pc := 3) (n := 0) (x := (d_ + 23)) rfl (zdal_p dlB_Sums_hasNoneBelow_117 (i := 3) rfl) ?_
      refine zw_getF (pc := 4) f_Sums_23 rfl ((hf.w hW).kr (o := 23) (by decide)) ((hf.w hW).lr (o := 23) (s := 0) (r := 12) (by decide)) (zdal_p dlB_Sums_hasNoneBelow_117 (i := 4) rfl) ?_
      refine zk_getI (pc := 7) f_Sums_35 rfl ((hf.w hW).kr (o := 12) (by decide)) (zdal_p dlB_Sums_hasNoneBelow_117 (i := 5) rfl) ?_
      have hr3_ := ze_r Mz (d_ + 12) 7
      refine zr_icmp_ge (pc := 10) (tgt := 32) ⟨hu1_a, hu1_b⟩ ⟨(ze_r Mz (d_ + 12) 7).1, (ze_r Mz (d_ + 12) 7).2⟩ (by decide) (zdal_p dlB_Sums_hasNoneBelow_117 (i := 6) rfl) (fun hc_10 => ?_) (fun hc_10 => ?_)
      · skip
        refine zw_iconst (pc := 32) (v := Int32.ofInt 1) (by decide) (zdal_p dlB_Sums_hasNoneBelow_117 (i := 18) rfl) ?_
        exact zk_iret (pc := 33) (ty := .boolean) rfl (z_narB (by omega)) ⟨by omega, by omega⟩ hf (show (((1 : Int)) = 0 ∨ ((1 : Int)) = 1) by first | with_reducible assumption | assumption | omega) (zdal_p dlB_Sums_hasNoneBelow_117 (i := 19) rfl)
      · skip
        refine zw_aload_n (pc := 13) (n := 0) (x := (d_ + 23)) rfl (zdal_p dlB_Sums_hasNoneBelow_117 (i := 7) rfl) ?_
        refine zw_iload_n (pc := 14) (n := 1) (x := Int32.ofInt a0_) rfl (zdal_p dlB_Sums_hasNoneBelow_117 (i := 8) rfl) ?_
        refine zw_iload_n (pc := 15) (n := 2) (x := Int32.ofInt u1_) rfl (zdal_p dlB_Sums_hasNoneBelow_117 (i := 9) rfl) ?_
        refine zk_callV hf.x (pc := 16) [.int (Int32.ofInt a0_), .int (Int32.ofInt u1_)] [] l_Sums_67 (u_Sums_numberAtX l d_ Mz (hf.w hW) a0_ ha0_a ha0_b u1_ hu1_a hu1_b) rfl rfl ((hf.w hW).kr (o := 23) (by decide)) (by decide) (by decide) (Nat.le_of_ble_eq_true rfl) (zdal_p dlB_Sums_hasNoneBelow_117 (i := 10) rfl) ?_
        rintro _ N4_ ⟨v5_, rfl, ⟨hv5_a, hv5_b⟩, hsN4_, -⟩
        obtain rfl := hsN4_.eq.symm
        show zW l m_Sums_hasNoneBelow (zn Mz + 0, zw Mz + 0) Mz 19 [some (.ref (d_ + 23)), some (.int (Int32.ofInt a0_)), some (.int (Int32.ofInt u1_))] [.long (Int64.ofInt v5_)] _
        refine zw_lconst (pc := 19) (v := Int64.ofInt 0) (by decide) (zdal_p dlB_Sums_hasNoneBelow_117 (i := 11) rfl) ?_
        refine zr_lcmp (pc := 20) ⟨hv5_a, hv5_b⟩ ⟨(by decide), (by decide)⟩ (zdal_p dlB_Sums_hasNoneBelow_117 (i := 12) rfl) ?_
        have hr6_ := zcmp_s v5_ 0
        refine zr_if_ge (pc := 21) (tgt := 26) ⟨(by omega), (by omega)⟩ (by decide) (zdal_p dlB_Sums_hasNoneBelow_117 (i := 13) rfl) (fun hc_21 => ?_) (fun hc_21 => ?_)
        · skip
          refine zr_iinc (pc := 26) (i := 2) (a := u1_) (n := 1) (L2 := [some (.ref (d_ + 23)), some (.int (Int32.ofInt a0_)), some (.int (Int32.ofInt (u1_ + 1)))]) rfl (by decide) rfl (zdal_p dlB_Sums_hasNoneBelow_117 (i := 16) rfl) ?_
          obtain ⟨v7_, hv7_a, hv7_b, hv7_e, hv7_d⟩ := zk_gen (u1_ + 1)
          rw [hv7_e]
          refine zw_goto (pc := 29) (tgt := 2) (by decide) (zdal_p dlB_Sums_hasNoneBelow_117 (i := 17) rfl) ?_
          exact ih_2 v7_ hv7_a hv7_b (show 0 ≤ v7_ by first | with_reducible assumption | assumption | omega) (by omega)
        · skip
          refine zw_iconst (pc := 24) (v := Int32.ofInt 0) (by decide) (zdal_p dlB_Sums_hasNoneBelow_117 (i := 14) rfl) ?_
          exact zk_iret (pc := 25) (ty := .boolean) rfl (z_narB (by omega)) ⟨by omega, by omega⟩ hf (show (((0 : Int)) = 0 ∨ ((0 : Int)) = 1) by first | with_reducible assumption | assumption | omega) (zdal_p dlB_Sums_hasNoneBelow_117 (i := 15) rfl)
  exact lp_2 _ 0 (by decide) (by decide) (show 0 ≤ (0 : Int) by first | with_reducible assumption | assumption | omega) (Nat.lt_succ_self _)
set_option maxHeartbeats 4000000 in
theorem u_Sums_marksAreX (l : Launch) (d_ : Nat) (Mz : zMem) (hW : zKW d_ Mz) (a0_ : Int) (ha0_a : -2147483648 ≤ a0_) (ha0_b : a0_ < 2147483648) (a1_ : Int) (ha1_a : -2147483648 ≤ a1_) (ha1_b : a1_ < 2147483648) : zC l m_Sums_marksAre 0 0 [.ref (d_ + 23), .int (Int32.ofInt a0_), .int (Int32.ofInt a1_)] Mz (zqcI d_ [] [] [] [] Mz (fun v N => ((v = 0 ∨ v = 1)))) := by
  refine zC_of (L0 := [some (.ref (d_ + 23)), some (.int (Int32.ofInt a0_)), some (.int (Int32.ofInt a1_)), none]) md_Sums_marksAre (Nat.le_of_ble_eq_true rfl) rfl ?_ zQ0
  have hf : zFc d_ [] [] [] [] Mz Mz := zFc.rf
  refine zw_iconst (pc := 0) (v := Int32.ofInt 0) (by decide) (zdal_p dlB_Sums_marksAre_118 (i := 0) rfl) ?_
  refine zw_istore_n (pc := 1) (i := 3) (L2 := [some (.ref (d_ + 23)), some (.int (Int32.ofInt a0_)), some (.int (Int32.ofInt a1_)), some (.int (Int32.ofInt 0))]) rfl (by decide) rfl (zdal_p dlB_Sums_marksAre_118 (i := 1) rfl) ?_
  have lp_2 : ∀ (n : Nat) (u1_ : Int) (hu1_a : -2147483648 ≤ u1_) (hu1_b : u1_ < 2147483648) (i2_ : 0 ≤ u1_), (ze Mz (d_ + 12) 7 - u1_).toNat < n → zW l m_Sums_marksAre (zn Mz + 0, zw Mz + 0) Mz 2 [some (.ref (d_ + 23)), some (.int (Int32.ofInt a0_)), some (.int (Int32.ofInt a1_)), some (.int (Int32.ofInt u1_))] [] (zqcI d_ [] [] [] [] Mz (fun v N => ((v = 0 ∨ v = 1)))) := by
    intro n
    induction n with
    | zero =>
      intro u1_ hu1_a hu1_b i2_ h0
      exact absurd h0 (Nat.not_lt_zero _)
    | succ n ih_2 =>
      intro u1_ hu1_a hu1_b i2_ hlt_2
      refine zw_iload_n (pc := 2) (n := 3) (x := Int32.ofInt u1_) rfl (zdal_p dlB_Sums_marksAre_118 (i := 2) rfl) ?_
      refine zw_aload_n (pc := 3) (n := 0) (x := (d_ + 23)) rfl (zdal_p dlB_Sums_marksAre_118 (i := 3) rfl) ?_
      refine zw_getF (pc := 4) f_Sums_23 rfl ((hf.w hW).kr (o := 23) (by decide)) ((hf.w hW).lr (o := 23) (s := 0) (r := 12) (by decide)) (zdal_p dlB_Sums_marksAre_118 (i := 4) rfl) ?_
      refine zk_getI (pc := 7) f_Sums_35 rfl ((hf.w hW).kr (o := 12) (by decide)) (zdal_p dlB_Sums_marksAre_118 (i := 5) rfl) ?_
      have hr3_ := ze_r Mz (d_ + 12) 7
      refine zr_icmp_ge (pc := 10) (tgt := 49) ⟨hu1_a, hu1_b⟩ ⟨(ze_r Mz (d_ + 12) 7).1, (ze_r Mz (d_ + 12) 7).2⟩ (by decide) (zdal_p dlB_Sums_marksAre_118 (i := 6) rfl) (fun hc_10 => ?_) (fun hc_10 => ?_)
      · skip
        refine zw_iconst (pc := 49) (v := Int32.ofInt 1) (by decide) (zdal_p dlB_Sums_marksAre_119 (i := 3) rfl) ?_
        exact zk_iret (pc := 50) (ty := .boolean) rfl (z_narB (by omega)) ⟨by omega, by omega⟩ hf (show (((1 : Int)) = 0 ∨ ((1 : Int)) = 1) by first | with_reducible assumption | assumption | omega) (zdal_p dlB_Sums_marksAre_119 (i := 4) rfl)
      · skip
        refine zw_aload_n (pc := 13) (n := 0) (x := (d_ + 23)) rfl (zdal_p dlB_Sums_marksAre_118 (i := 7) rfl) ?_
        refine zw_getF (pc := 14) f_Sums_20 rfl ((hf.w hW).kr (o := 23) (by decide)) ((hf.w hW).lr (o := 23) (s := 2) (r := 26) (by decide)) (zdal_p dlB_Sums_marksAre_118 (i := 8) rfl) ?_
        refine zw_iload_n (pc := 17) (n := 3) (x := Int32.ofInt u1_) rfl (zdal_p dlB_Sums_marksAre_118 (i := 9) rfl) ?_
        refine zk_atGJ hf.x (pc := 18) l_Sums_27 ((hf.w hW).kr (o := 26) (by decide)) ((hf.w hW).lr (o := 26) (s := 0) (r := 27) (by decide)) ((hf.w hW).rr (o := 27) (t := 2) (n := 27) (by decide)) (by decide) ⟨by omega, by omega⟩ (by decide) (Nat.le_of_ble_eq_true rfl) (zdal_p dlB_Sums_marksAre_118 (i := 10) rfl) (fun v4_ hv4_ hv4_a hv4_b => ?_)
        clear hv4_
        refine zw_iload_n (pc := 21) (n := 1) (x := Int32.ofInt a0_) rfl (zdal_p dlB_Sums_marksAre_118 (i := 11) rfl) ?_
        refine zr_i2l (pc := 22) ⟨ha0_a, ha0_b⟩ (zdal_p dlB_Sums_marksAre_118 (i := 12) rfl) ?_
        refine zr_lcmp (pc := 23) ⟨hv4_a, hv4_b⟩ ⟨(by omega), (by omega)⟩ (zdal_p dlB_Sums_marksAre_118 (i := 13) rfl) ?_
        have hr5_ := zcmp_s v4_ a0_
        refine zr_if_eq (pc := 24) (tgt := 43) ⟨(by omega), (by omega)⟩ (by decide) (zdal_p dlB_Sums_marksAre_118 (i := 14) rfl) (fun hc_24 => ?_) (fun hc_24 => ?_)
        · skip
          refine zr_iinc (pc := 43) (i := 3) (a := u1_) (n := 1) (L2 := [some (.ref (d_ + 23)), some (.int (Int32.ofInt a0_)), some (.int (Int32.ofInt a1_)), some (.int (Int32.ofInt (u1_ + 1)))]) rfl (by decide) rfl (zdal_p dlB_Sums_marksAre_119 (i := 1) rfl) ?_
          obtain ⟨v6_, hv6_a, hv6_b, hv6_e, hv6_d⟩ := zk_gen (u1_ + 1)
          rw [hv6_e]
          refine zw_goto (pc := 46) (tgt := 2) (by decide) (zdal_p dlB_Sums_marksAre_119 (i := 2) rfl) ?_
          exact ih_2 v6_ hv6_a hv6_b (show 0 ≤ v6_ by first | with_reducible assumption | assumption | omega) (by omega)
        · skip
          refine zw_aload_n (pc := 27) (n := 0) (x := (d_ + 23)) rfl (zdal_p dlB_Sums_marksAre_118 (i := 15) rfl) ?_
          refine zw_getF (pc := 28) f_Sums_20 rfl ((hf.w hW).kr (o := 23) (by decide)) ((hf.w hW).lr (o := 23) (s := 2) (r := 26) (by decide)) (zdal_p dlB_Sums_marksAre_118 (i := 16) rfl) ?_
          refine zw_iload_n (pc := 31) (n := 3) (x := Int32.ofInt u1_) rfl (zdal_p dlB_Sums_marksAre_118 (i := 17) rfl) ?_
          refine zk_atGJ hf.x (pc := 32) l_Sums_27 ((hf.w hW).kr (o := 26) (by decide)) ((hf.w hW).lr (o := 26) (s := 0) (r := 27) (by decide)) ((hf.w hW).rr (o := 27) (t := 2) (n := 27) (by decide)) (by decide) ⟨by omega, by omega⟩ (by decide) (Nat.le_of_ble_eq_true rfl) (zdal_p dlB_Sums_marksAre_118 (i := 18) rfl) (fun v7_ hv7_ hv7_a hv7_b => ?_)
          clear hv7_
          refine zw_iload_n (pc := 35) (n := 2) (x := Int32.ofInt a1_) rfl (zdal_p dlB_Sums_marksAre_118 (i := 19) rfl) ?_
          refine zr_i2l (pc := 36) ⟨ha1_a, ha1_b⟩ (zdal_p dlB_Sums_marksAre_118 (i := 20) rfl) ?_
          refine zr_lcmp (pc := 37) ⟨hv7_a, hv7_b⟩ ⟨(by omega), (by omega)⟩ (zdal_p dlB_Sums_marksAre_118 (i := 21) rfl) ?_
          have hr8_ := zcmp_s v7_ a1_
          refine zr_if_eq (pc := 38) (tgt := 43) ⟨(by omega), (by omega)⟩ (by decide) (zdal_p dlB_Sums_marksAre_118 (i := 22) rfl) (fun hc_38 => ?_) (fun hc_38 => ?_)
          · skip
            refine zr_iinc (pc := 43) (i := 3) (a := u1_) (n := 1) (L2 := [some (.ref (d_ + 23)), some (.int (Int32.ofInt a0_)), some (.int (Int32.ofInt a1_)), some (.int (Int32.ofInt (u1_ + 1)))]) rfl (by decide) rfl (zdal_p dlB_Sums_marksAre_119 (i := 1) rfl) ?_
            obtain ⟨v9_, hv9_a, hv9_b, hv9_e, hv9_d⟩ := zk_gen (u1_ + 1)
            rw [hv9_e]
            refine zw_goto (pc := 46) (tgt := 2) (by decide) (zdal_p dlB_Sums_marksAre_119 (i := 2) rfl) ?_
            exact ih_2 v9_ hv9_a hv9_b (show 0 ≤ v9_ by first | with_reducible assumption | assumption | omega) (by omega)
          · skip
            refine zw_iconst (pc := 41) (v := Int32.ofInt 0) (by decide) (zdal_p dlB_Sums_marksAre_118 (i := 23) rfl) ?_
            exact zk_iret (pc := 42) (ty := .boolean) rfl (z_narB (by omega)) ⟨by omega, by omega⟩ hf (show (((0 : Int)) = 0 ∨ ((0 : Int)) = 1) by first | with_reducible assumption | assumption | omega) (zdal_p dlB_Sums_marksAre_119 (i := 0) rfl)
  exact lp_2 _ 0 (by decide) (by decide) (show 0 ≤ (0 : Int) by first | with_reducible assumption | assumption | omega) (Nat.lt_succ_self _)
set_option maxHeartbeats 4000000 in
theorem u_Sums_hasMarkNoughtX (l : Launch) (d_ : Nat) (Mz : zMem) (hW : zKW d_ Mz) : zC l m_Sums_hasMarkNought 0 0 [.ref (d_ + 23)] Mz (zqcI d_ [] [] [] [] Mz (fun v N => ((v = 0 ∨ v = 1)))) := by
  refine zC_of (L0 := [some (.ref (d_ + 23)), none]) md_Sums_hasMarkNought (Nat.le_of_ble_eq_true rfl) rfl ?_ zQ0
  have hf : zFc d_ [] [] [] [] Mz Mz := zFc.rf
  refine zw_iconst (pc := 0) (v := Int32.ofInt 0) (by decide) (zdal_p dlB_Sums_hasMarkNought_120 (i := 0) rfl) ?_
  refine zw_istore_n (pc := 1) (i := 1) (L2 := [some (.ref (d_ + 23)), some (.int (Int32.ofInt 0))]) rfl (by decide) rfl (zdal_p dlB_Sums_hasMarkNought_120 (i := 1) rfl) ?_
  have lp_2 : ∀ (n : Nat) (u1_ : Int) (hu1_a : -2147483648 ≤ u1_) (hu1_b : u1_ < 2147483648) (i2_ : 0 ≤ u1_), (ze Mz (d_ + 12) 7 - u1_).toNat < n → zW l m_Sums_hasMarkNought (zn Mz + 0, zw Mz + 0) Mz 2 [some (.ref (d_ + 23)), some (.int (Int32.ofInt u1_))] [] (zqcI d_ [] [] [] [] Mz (fun v N => ((v = 0 ∨ v = 1)))) := by
    intro n
    induction n with
    | zero =>
      intro u1_ hu1_a hu1_b i2_ h0
      exact absurd h0 (Nat.not_lt_zero _)
    | succ n ih_2 =>
      intro u1_ hu1_a hu1_b i2_ hlt_2
      refine zw_iload_n (pc := 2) (n := 1) (x := Int32.ofInt u1_) rfl (zdal_p dlB_Sums_hasMarkNought_120 (i := 2) rfl) ?_
      refine zw_aload_n (pc := 3) (n := 0) (x := (d_ + 23)) rfl (zdal_p dlB_Sums_hasMarkNought_120 (i := 3) rfl) ?_
      refine zw_getF (pc := 4) f_Sums_23 rfl ((hf.w hW).kr (o := 23) (by decide)) ((hf.w hW).lr (o := 23) (s := 0) (r := 12) (by decide)) (zdal_p dlB_Sums_hasMarkNought_120 (i := 4) rfl) ?_
      refine zk_getI (pc := 7) f_Sums_35 rfl ((hf.w hW).kr (o := 12) (by decide)) (zdal_p dlB_Sums_hasMarkNought_120 (i := 5) rfl) ?_
      have hr3_ := ze_r Mz (d_ + 12) 7
      refine zr_icmp_ge (pc := 10) (tgt := 34) ⟨hu1_a, hu1_b⟩ ⟨(ze_r Mz (d_ + 12) 7).1, (ze_r Mz (d_ + 12) 7).2⟩ (by decide) (zdal_p dlB_Sums_hasMarkNought_120 (i := 6) rfl) (fun hc_10 => ?_) (fun hc_10 => ?_)
      · skip
        refine zw_iconst (pc := 34) (v := Int32.ofInt 0) (by decide) (zdal_p dlB_Sums_hasMarkNought_120 (i := 18) rfl) ?_
        exact zk_iret (pc := 35) (ty := .boolean) rfl (z_narB (by omega)) ⟨by omega, by omega⟩ hf (show (((0 : Int)) = 0 ∨ ((0 : Int)) = 1) by first | with_reducible assumption | assumption | omega) (zdal_p dlB_Sums_hasMarkNought_120 (i := 19) rfl)
      · skip
        refine zw_aload_n (pc := 13) (n := 0) (x := (d_ + 23)) rfl (zdal_p dlB_Sums_hasMarkNought_120 (i := 7) rfl) ?_
        refine zw_getF (pc := 14) f_Sums_20 rfl ((hf.w hW).kr (o := 23) (by decide)) ((hf.w hW).lr (o := 23) (s := 2) (r := 26) (by decide)) (zdal_p dlB_Sums_hasMarkNought_120 (i := 8) rfl) ?_
        refine zw_iload_n (pc := 17) (n := 1) (x := Int32.ofInt u1_) rfl (zdal_p dlB_Sums_hasMarkNought_120 (i := 9) rfl) ?_
        refine zk_atGJ hf.x (pc := 18) l_Sums_27 ((hf.w hW).kr (o := 26) (by decide)) ((hf.w hW).lr (o := 26) (s := 0) (r := 27) (by decide)) ((hf.w hW).rr (o := 27) (t := 2) (n := 27) (by decide)) (by decide) ⟨by omega, by omega⟩ (by decide) (Nat.le_of_ble_eq_true rfl) (zdal_p dlB_Sums_hasMarkNought_120 (i := 10) rfl) (fun v4_ hv4_ hv4_a hv4_b => ?_)
        clear hv4_
        refine zw_lconst (pc := 21) (v := Int64.ofInt 0) (by decide) (zdal_p dlB_Sums_hasMarkNought_120 (i := 11) rfl) ?_
        refine zr_lcmp (pc := 22) ⟨hv4_a, hv4_b⟩ ⟨(by decide), (by decide)⟩ (zdal_p dlB_Sums_hasMarkNought_120 (i := 12) rfl) ?_
        have hr5_ := zcmp_s v4_ 0
        refine zr_if_ne (pc := 23) (tgt := 28) ⟨(by omega), (by omega)⟩ (by decide) (zdal_p dlB_Sums_hasMarkNought_120 (i := 13) rfl) (fun hc_23 => ?_) (fun hc_23 => ?_)
        · skip
          refine zr_iinc (pc := 28) (i := 1) (a := u1_) (n := 1) (L2 := [some (.ref (d_ + 23)), some (.int (Int32.ofInt (u1_ + 1)))]) rfl (by decide) rfl (zdal_p dlB_Sums_hasMarkNought_120 (i := 16) rfl) ?_
          obtain ⟨v6_, hv6_a, hv6_b, hv6_e, hv6_d⟩ := zk_gen (u1_ + 1)
          rw [hv6_e]
          refine zw_goto (pc := 31) (tgt := 2) (by decide) (zdal_p dlB_Sums_hasMarkNought_120 (i := 17) rfl) ?_
          exact ih_2 v6_ hv6_a hv6_b (show 0 ≤ v6_ by first | with_reducible assumption | assumption | omega) (by omega)
        · skip
          refine zw_iconst (pc := 26) (v := Int32.ofInt 1) (by decide) (zdal_p dlB_Sums_hasMarkNought_120 (i := 14) rfl) ?_
          exact zk_iret (pc := 27) (ty := .boolean) rfl (z_narB (by omega)) ⟨by omega, by omega⟩ hf (show (((1 : Int)) = 0 ∨ ((1 : Int)) = 1) by first | with_reducible assumption | assumption | omega) (zdal_p dlB_Sums_hasMarkNought_120 (i := 15) rfl)
  exact lp_2 _ 0 (by decide) (by decide) (show 0 ≤ (0 : Int) by first | with_reducible assumption | assumption | omega) (Nat.lt_succ_self _)
set_option maxHeartbeats 4000000 in
theorem u_T_isX (l : Launch) (d_ : Nat) (Mz : zMem) (hW : zKW d_ Mz) (hnow : zf Mz 0 2 = some (d_ + 0)) (a0_ : Int) (ha0_a : -2147483648 ≤ a0_) (ha0_b : a0_ < 2147483648) : zC l m_T_is 0 0 [.ref 0, .int (Int32.ofInt a0_)] Mz (zqcI d_ [] [] [] [27] Mz (fun v N => True)) := by
  refine zC_of (L0 := [some (.ref 0), some (.int (Int32.ofInt a0_)), none]) md_T_is (Nat.le_of_ble_eq_true rfl) rfl ?_ zQ0
  have hf : zFc d_ [] [] [] [27] Mz Mz := zFc.rf
  refine zw_aload_n (pc := 0) (n := 0) (x := 0) rfl (zdal_p dlB_T_is_115 (i := 0) rfl) ?_
  refine zw_getF (pc := 1) f_T_28 rfl ((hf.w hW).ka (o := 0) (by decide)) (hf.now hnow) (zdal_p dlB_T_is_115 (i := 1) rfl) ?_
  refine zw_getF (pc := 4) f_T_169 rfl ((hf.w hW).kr (o := 0) (by decide)) ((hf.w hW).lr (o := 0) (s := 2) (r := 23) (by decide)) (zdal_p dlB_T_is_115 (i := 2) rfl) ?_
  refine zw_astore_n (pc := 7) (i := 2) (L2 := [some (.ref 0), some (.int (Int32.ofInt a0_)), some (.ref (d_ + 23))]) rfl (by decide) rfl (zdal_p dlB_T_is_115 (i := 3) rfl) ?_
  refine zw_aload_n (pc := 8) (n := 2) (x := (d_ + 23)) rfl (zdal_p dlB_T_is_115 (i := 4) rfl) ?_
  refine zw_iconst (pc := 9) (v := Int32.ofInt 0) (by decide) (zdal_p dlB_T_is_115 (i := 5) rfl) ?_
  refine zk_callV hf.x (pc := 10) [.int (Int32.ofInt 0)] [] l_T_256 (u_Sums_putMarksX l d_ Mz (hf.w hW) 0 (by decide) (by decide)) rfl rfl ((hf.w hW).kr (o := 23) (by decide)) (by decide) (by decide) (Nat.le_of_ble_eq_true rfl) (zdal_p dlB_T_is_115 (i := 6) rfl) ?_
  rintro _ N1_ ⟨rfl, hsN1_, -⟩
  have hf_N1_ : zFc d_ [] [] [] [27] Mz N1_ := hf.tr hsN1_ (by decide) (by decide) (by decide) (by decide)
  show zW l m_T_is (zn Mz + 0, zw Mz + 0) N1_ 13 [some (.ref 0), some (.int (Int32.ofInt a0_)), some (.ref (d_ + 23))] [] _
  refine zw_iload_n (pc := 13) (n := 1) (x := Int32.ofInt a0_) rfl (zdal_p dlB_T_is_115 (i := 7) rfl) ?_
  by_cases hs_14_0 : a0_ = 0
  · refine zr_tabIn (c := 0) (off := 30) (tgt := 44) ⟨by decide, by decide⟩ hs_14_0 (by decide) (by decide) rfl (by decide) d_T_is_14 ?_
    refine zw_aload_n (pc := 44) (n := 2) (x := (d_ + 23)) rfl (zdal_p dlB_T_is_115 (i := 9) rfl) ?_
    refine zw_iconst (pc := 45) (v := Int32.ofInt 0) (by decide) (zdal_p dlB_T_is_115 (i := 10) rfl) ?_
    refine zk_callV hf_N1_.x (pc := 46) [.int (Int32.ofInt 0)] [] l_T_270 (u_Sums_hasNoneBelowX l d_ N1_ (hf_N1_.w hW) 0 (by decide) (by decide)) rfl rfl ((hf_N1_.w hW).kr (o := 23) (by decide)) (by decide) (by decide) (Nat.le_of_ble_eq_true rfl) (zdal_p dlB_T_is_115 (i := 11) rfl) ?_
    rintro _ N3_ ⟨v4_, rfl, ⟨hv4_a, hv4_b⟩, hsN3_, hp0_N3_⟩
    obtain rfl := hsN3_.eq.symm
    replace hp0_N3_ : (v4_ = 0 ∨ v4_ = 1) := hp0_N3_
    show zW l m_T_is (zn Mz + 0, zw Mz + 0) N1_ 49 [some (.ref 0), some (.int (Int32.ofInt a0_)), some (.ref (d_ + 23))] [.int (Int32.ofInt v4_)] _
    refine zr_if_eq (pc := 49) (tgt := 56) ⟨hv4_a, hv4_b⟩ (by decide) (zdal_p dlB_T_is_115 (i := 12) rfl) (fun hc_49 => ?_) (fun hc_49 => ?_)
    · skip
      refine zw_iconst (pc := 56) (v := Int32.ofInt 0) (by decide) (zdal_p dlB_T_is_115 (i := 15) rfl) ?_
      exact zk_iret (pc := 57) (ty := .int) rfl rfl ⟨by omega, by omega⟩ hf_N1_ trivial (zdal_p dlB_T_is_115 (i := 16) rfl)
    · skip
      refine zw_iconst (pc := 52) (v := Int32.ofInt 1) (by decide) (zdal_p dlB_T_is_115 (i := 13) rfl) ?_
      refine zw_goto (pc := 53) (tgt := 57) (by decide) (zdal_p dlB_T_is_115 (i := 14) rfl) ?_
      exact zk_iret (pc := 57) (ty := .int) rfl rfl ⟨by omega, by omega⟩ hf_N1_ trivial (zdal_p dlB_T_is_115 (i := 16) rfl)
  by_cases hs_14_1 : a0_ = 1
  · refine zr_tabIn (c := 1) (off := 44) (tgt := 58) ⟨by decide, by decide⟩ hs_14_1 (by decide) (by decide) rfl (by decide) d_T_is_14 ?_
    refine zw_aload_n (pc := 58) (n := 2) (x := (d_ + 23)) rfl (zdal_p dlB_T_is_115 (i := 17) rfl) ?_
    refine zw_iconst (pc := 59) (v := Int32.ofInt 0) (by decide) (zdal_p dlB_T_is_115 (i := 18) rfl) ?_
    refine zw_iconst (pc := 60) (v := Int32.ofInt 1) (by decide) (zdal_p dlB_T_is_115 (i := 19) rfl) ?_
    refine zk_callV hf_N1_.x (pc := 61) [.int (Int32.ofInt 0), .int (Int32.ofInt 1)] [] l_T_273 (u_Sums_marksAreX l d_ N1_ (hf_N1_.w hW) 0 (by decide) (by decide) 1 (by decide) (by decide)) rfl rfl ((hf_N1_.w hW).kr (o := 23) (by decide)) (by decide) (by decide) (Nat.le_of_ble_eq_true rfl) (zdal_p dlB_T_is_115 (i := 20) rfl) ?_
    rintro _ N5_ ⟨v6_, rfl, ⟨hv6_a, hv6_b⟩, hsN5_, hp0_N5_⟩
    obtain rfl := hsN5_.eq.symm
    replace hp0_N5_ : (v6_ = 0 ∨ v6_ = 1) := hp0_N5_
    show zW l m_T_is (zn Mz + 0, zw Mz + 0) N1_ 64 [some (.ref 0), some (.int (Int32.ofInt a0_)), some (.ref (d_ + 23))] [.int (Int32.ofInt v6_)] _
    refine zr_if_eq (pc := 64) (tgt := 71) ⟨hv6_a, hv6_b⟩ (by decide) (zdal_p dlB_T_is_115 (i := 21) rfl) (fun hc_64 => ?_) (fun hc_64 => ?_)
    · skip
      refine zw_iconst (pc := 71) (v := Int32.ofInt 0) (by decide) (zdal_p dlB_T_is_116 (i := 0) rfl) ?_
      exact zk_iret (pc := 72) (ty := .int) rfl rfl ⟨by omega, by omega⟩ hf_N1_ trivial (zdal_p dlB_T_is_116 (i := 1) rfl)
    · skip
      refine zw_iconst (pc := 67) (v := Int32.ofInt 1) (by decide) (zdal_p dlB_T_is_115 (i := 22) rfl) ?_
      refine zw_goto (pc := 68) (tgt := 72) (by decide) (zdal_p dlB_T_is_115 (i := 23) rfl) ?_
      exact zk_iret (pc := 72) (ty := .int) rfl rfl ⟨by omega, by omega⟩ hf_N1_ trivial (zdal_p dlB_T_is_116 (i := 1) rfl)
  by_cases hs_14_2 : a0_ = 2
  · refine zr_tabIn (c := 2) (off := 59) (tgt := 73) ⟨by decide, by decide⟩ hs_14_2 (by decide) (by decide) rfl (by decide) d_T_is_14 ?_
    refine zw_aload_n (pc := 73) (n := 2) (x := (d_ + 23)) rfl (zdal_p dlB_T_is_116 (i := 2) rfl) ?_
    refine zw_iconst (pc := 74) (v := Int32.ofInt (-1)) (by decide) (zdal_p dlB_T_is_116 (i := 3) rfl) ?_
    refine zw_iconst (pc := 75) (v := Int32.ofInt 1) (by decide) (zdal_p dlB_T_is_116 (i := 4) rfl) ?_
    refine zk_callV hf_N1_.x (pc := 76) [.int (Int32.ofInt ((-1))), .int (Int32.ofInt 1)] [] l_T_273 (u_Sums_marksAreX l d_ N1_ (hf_N1_.w hW) ((-1)) (by decide) (by decide) 1 (by decide) (by decide)) rfl rfl ((hf_N1_.w hW).kr (o := 23) (by decide)) (by decide) (by decide) (Nat.le_of_ble_eq_true rfl) (zdal_p dlB_T_is_116 (i := 5) rfl) ?_
    rintro _ N7_ ⟨v8_, rfl, ⟨hv8_a, hv8_b⟩, hsN7_, hp0_N7_⟩
    obtain rfl := hsN7_.eq.symm
    replace hp0_N7_ : (v8_ = 0 ∨ v8_ = 1) := hp0_N7_
    show zW l m_T_is (zn Mz + 0, zw Mz + 0) N1_ 79 [some (.ref 0), some (.int (Int32.ofInt a0_)), some (.ref (d_ + 23))] [.int (Int32.ofInt v8_)] _
    refine zr_if_eq (pc := 79) (tgt := 86) ⟨hv8_a, hv8_b⟩ (by decide) (zdal_p dlB_T_is_116 (i := 6) rfl) (fun hc_79 => ?_) (fun hc_79 => ?_)
    · skip
      refine zw_iconst (pc := 86) (v := Int32.ofInt 0) (by decide) (zdal_p dlB_T_is_116 (i := 9) rfl) ?_
      exact zk_iret (pc := 87) (ty := .int) rfl rfl ⟨by omega, by omega⟩ hf_N1_ trivial (zdal_p dlB_T_is_116 (i := 10) rfl)
    · skip
      refine zw_iconst (pc := 82) (v := Int32.ofInt 1) (by decide) (zdal_p dlB_T_is_116 (i := 7) rfl) ?_
      refine zw_goto (pc := 83) (tgt := 87) (by decide) (zdal_p dlB_T_is_116 (i := 8) rfl) ?_
      exact zk_iret (pc := 87) (ty := .int) rfl rfl ⟨by omega, by omega⟩ hf_N1_ trivial (zdal_p dlB_T_is_116 (i := 10) rfl)
  by_cases hs_14_3 : a0_ = 3
  · refine zr_tabIn (c := 3) (off := 74) (tgt := 88) ⟨by decide, by decide⟩ hs_14_3 (by decide) (by decide) rfl (by decide) d_T_is_14 ?_
    refine zw_aload_n (pc := 88) (n := 2) (x := (d_ + 23)) rfl (zdal_p dlB_T_is_116 (i := 11) rfl) ?_
    refine zk_callV hf_N1_.x (pc := 89) [] [] l_T_277 (u_Sums_hasMarkNoughtX l d_ N1_ (hf_N1_.w hW) ) rfl rfl ((hf_N1_.w hW).kr (o := 23) (by decide)) (by decide) (by decide) (Nat.le_of_ble_eq_true rfl) (zdal_p dlB_T_is_116 (i := 12) rfl) ?_
    rintro _ N9_ ⟨v10_, rfl, ⟨hv10_a, hv10_b⟩, hsN9_, hp0_N9_⟩
    obtain rfl := hsN9_.eq.symm
    replace hp0_N9_ : (v10_ = 0 ∨ v10_ = 1) := hp0_N9_
    show zW l m_T_is (zn Mz + 0, zw Mz + 0) N1_ 92 [some (.ref 0), some (.int (Int32.ofInt a0_)), some (.ref (d_ + 23))] [.int (Int32.ofInt v10_)] _
    refine zr_if_eq (pc := 92) (tgt := 99) ⟨hv10_a, hv10_b⟩ (by decide) (zdal_p dlB_T_is_116 (i := 13) rfl) (fun hc_92 => ?_) (fun hc_92 => ?_)
    · skip
      refine zw_iconst (pc := 99) (v := Int32.ofInt 0) (by decide) (zdal_p dlB_T_is_116 (i := 16) rfl) ?_
      exact zk_iret (pc := 100) (ty := .int) rfl rfl ⟨by omega, by omega⟩ hf_N1_ trivial (zdal_p dlB_T_is_116 (i := 17) rfl)
    · skip
      refine zw_iconst (pc := 95) (v := Int32.ofInt 1) (by decide) (zdal_p dlB_T_is_116 (i := 14) rfl) ?_
      refine zw_goto (pc := 96) (tgt := 100) (by decide) (zdal_p dlB_T_is_116 (i := 15) rfl) ?_
      exact zk_iret (pc := 100) (ty := .int) rfl rfl ⟨by omega, by omega⟩ hf_N1_ trivial (zdal_p dlB_T_is_116 (i := 17) rfl)
  refine zr_tabOut (tgt := 101) ⟨ha0_a, ha0_b⟩ (by omega) (by decide) d_T_is_14 ?_
  refine zw_iconst (pc := 101) (v := Int32.ofInt (-1)) (by decide) (zdal_p dlB_T_is_116 (i := 18) rfl) ?_
  exact zk_iret (pc := 102) (ty := .int) rfl rfl ⟨by omega, by omega⟩ hf_N1_ trivial (zdal_p dlB_T_is_116 (i := 19) rfl)
set_option maxHeartbeats 4000000 in
theorem u_Sums_copyX (l : Launch) (d_ : Nat) (Mz : zMem) (hW : zKW d_ Mz) (a0_ : Int) (ha0_a : -2147483648 ≤ a0_) (ha0_b : a0_ < 2147483648) (a1_ : Int) (ha1_a : -2147483648 ≤ a1_) (ha1_b : a1_ < 2147483648) : zC l m_Sums_copy 0 0 [.ref (d_ + 23), .int (Int32.ofInt a0_), .int (Int32.ofInt a1_)] Mz (zqcV d_ [] [] [] [25] Mz (fun N => True)) := by
  refine zC_of (L0 := [some (.ref (d_ + 23)), some (.int (Int32.ofInt a0_)), some (.int (Int32.ofInt a1_)), none]) md_Sums_copy (Nat.le_of_ble_eq_true rfl) rfl ?_ zQ0
  have hf : zFc d_ [] [] [] [25] Mz Mz := zFc.rf
  refine zw_iconst (pc := 0) (v := Int32.ofInt 0) (by decide) (zdal_p dlA_Sums_copy_127 (i := 0) rfl) ?_
  refine zw_istore_n (pc := 1) (i := 3) (L2 := [some (.ref (d_ + 23)), some (.int (Int32.ofInt a0_)), some (.int (Int32.ofInt a1_)), some (.int (Int32.ofInt 0))]) rfl (by decide) rfl (zdal_p dlA_Sums_copy_127 (i := 1) rfl) ?_
  have lp_2 : ∀ (n : Nat) (u1_ : Int) (hu1_a : -2147483648 ≤ u1_) (hu1_b : u1_ < 2147483648) (N2_ : zMem) (hs3_ : zFc d_ [] [] [] [25] Mz N2_) (i4_ : 0 ≤ u1_), (ze Mz (d_ + 12) 7 - u1_).toNat < n → zW l m_Sums_copy (zn Mz + 0, zw Mz + 0) N2_ 2 [some (.ref (d_ + 23)), some (.int (Int32.ofInt a0_)), some (.int (Int32.ofInt a1_)), some (.int (Int32.ofInt u1_))] [] (zqcV d_ [] [] [] [25] Mz (fun N => True)) := by
    intro n
    induction n with
    | zero =>
      intro u1_ hu1_a hu1_b N2_ hs3_ i4_ h0
      exact absurd h0 (Nat.not_lt_zero _)
    | succ n ih_2 =>
      intro u1_ hu1_a hu1_b N2_ hs3_ i4_ hlt_2
      have hf_N2_ : zFc d_ [] [] [] [25] Mz N2_ := hf.tr hs3_ (by decide) (by decide) (by decide) (by decide)
      refine zw_iload_n (pc := 2) (n := 3) (x := Int32.ofInt u1_) rfl (zdal_p dlA_Sums_copy_127 (i := 2) rfl) ?_
      refine zw_aload_n (pc := 3) (n := 0) (x := (d_ + 23)) rfl (zdal_p dlA_Sums_copy_127 (i := 3) rfl) ?_
      refine zw_getF (pc := 4) f_Sums_23 rfl ((hf_N2_.w hW).kr (o := 23) (by decide)) ((hf_N2_.w hW).lr (o := 23) (s := 0) (r := 12) (by decide)) (zdal_p dlA_Sums_copy_127 (i := 4) rfl) ?_
      refine zk_getI (pc := 7) f_Sums_35 rfl ((hf_N2_.w hW).kr (o := 12) (by decide)) (zdal_p dlA_Sums_copy_127 (i := 5) rfl) ?_
      rw [hf_N2_.e (by decide)]
      have hr5_ := ze_r Mz (d_ + 12) 7
      refine zr_icmp_ge (pc := 10) (tgt := 45) ⟨hu1_a, hu1_b⟩ ⟨(ze_r Mz (d_ + 12) 7).1, (ze_r Mz (d_ + 12) 7).2⟩ (by decide) (zdal_p dlA_Sums_copy_127 (i := 6) rfl) (fun hc_10 => ?_) (fun hc_10 => ?_)
      · skip
        exact zk_vret (pc := 45) rfl hf_N2_ trivial (zdal_p dlA_Sums_copy_128 (i := 1) rfl)
      · skip
        refine zw_aload_n (pc := 13) (n := 0) (x := (d_ + 23)) rfl (zdal_p dlA_Sums_copy_127 (i := 7) rfl) ?_
        refine zw_getF (pc := 14) f_Sums_16 rfl ((hf_N2_.w hW).kr (o := 23) (by decide)) ((hf_N2_.w hW).lr (o := 23) (s := 1) (r := 24) (by decide)) (zdal_p dlA_Sums_copy_127 (i := 8) rfl) ?_
        refine zw_iload_n (pc := 17) (n := 2) (x := Int32.ofInt a1_) rfl (zdal_p dlA_Sums_copy_127 (i := 9) rfl) ?_
        refine zw_bipush (pc := 18) (v := Int32.ofInt 27) (by decide) (zdal_p dlA_Sums_copy_127 (i := 10) rfl) ?_
        refine zr_imul (pc := 20) (zdal_p dlA_Sums_copy_127 (i := 11) rfl) ?_
        refine zr_nmI (fun v6_ hv6_ => ?_)
        obtain ⟨hv6_a, hv6_b⟩ := hv6_
        refine zw_iload_n (pc := 21) (n := 3) (x := Int32.ofInt u1_) rfl (zdal_p dlA_Sums_copy_127 (i := 12) rfl) ?_
        refine zr_iadd (pc := 22) (zdal_p dlA_Sums_copy_127 (i := 13) rfl) ?_
        refine zr_nmI (fun v7_ hv7_ => ?_)
        obtain ⟨hv7_a, hv7_b⟩ := hv7_
        refine zw_aload_n (pc := 23) (n := 0) (x := (d_ + 23)) rfl (zdal_p dlA_Sums_copy_127 (i := 14) rfl) ?_
        refine zw_getF (pc := 24) f_Sums_16 rfl ((hf_N2_.w hW).kr (o := 23) (by decide)) ((hf_N2_.w hW).lr (o := 23) (s := 1) (r := 24) (by decide)) (zdal_p dlA_Sums_copy_127 (i := 15) rfl) ?_
        refine zw_iload_n (pc := 27) (n := 1) (x := Int32.ofInt a0_) rfl (zdal_p dlA_Sums_copy_127 (i := 16) rfl) ?_
        refine zw_bipush (pc := 28) (v := Int32.ofInt 27) (by decide) (zdal_p dlA_Sums_copy_127 (i := 17) rfl) ?_
        refine zr_imul (pc := 30) (zdal_p dlA_Sums_copy_127 (i := 18) rfl) ?_
        refine zr_nmI (fun v8_ hv8_ => ?_)
        obtain ⟨hv8_a, hv8_b⟩ := hv8_
        refine zw_iload_n (pc := 31) (n := 3) (x := Int32.ofInt u1_) rfl (zdal_p dlA_Sums_copy_127 (i := 19) rfl) ?_
        refine zr_iadd (pc := 32) (zdal_p dlA_Sums_copy_127 (i := 20) rfl) ?_
        refine zr_nmI (fun v9_ hv9_ => ?_)
        obtain ⟨hv9_a, hv9_b⟩ := hv9_
        refine zk_atGJ hf_N2_.x (pc := 33) l_Sums_27 ((hf_N2_.w hW).kr (o := 24) (by decide)) ((hf_N2_.w hW).lr (o := 24) (s := 0) (r := 25) (by decide)) ((hf_N2_.w hW).rr (o := 25) (t := 2) (n := 1080) (by decide)) (by decide) ⟨by omega, by omega⟩ (by decide) (Nat.le_of_ble_eq_true rfl) (zdal_p dlA_Sums_copy_127 (i := 21) rfl) (fun v10_ hv10_ hv10_a hv10_b => ?_)
        clear hv10_
        refine zk_stGJ hf_N2_.x (pc := 36) (o := 25) (by decide) l_Sums_31 ((hf_N2_.w hW).kr (o := 24) (by decide)) ((hf_N2_.w hW).lr (o := 24) (s := 0) (r := 25) (by decide)) ((hf_N2_.w hW).rr (o := 25) (t := 2) (n := 1080) (by decide)) (by decide) ⟨by omega, by omega⟩ (by decide) (Nat.le_of_ble_eq_true rfl) (zdal_p dlA_Sums_copy_127 (i := 22) rfl) (fun N11_ hsN11_ => ?_)
        have hf_N11_ : zFc d_ [] [] [] [25] Mz N11_ := hf_N2_.tr hsN11_ (by decide) (by decide) (by decide) (by decide)
        have hb0_N11_ : zFc d_ [] [] [] [25] Mz N11_ := hs3_.tr hsN11_ (by decide) (by decide) (by decide) (by decide)
        refine zr_iinc (pc := 39) (i := 3) (a := u1_) (n := 1) (L2 := [some (.ref (d_ + 23)), some (.int (Int32.ofInt a0_)), some (.int (Int32.ofInt a1_)), some (.int (Int32.ofInt (u1_ + 1)))]) rfl (by decide) rfl (zdal_p dlA_Sums_copy_127 (i := 23) rfl) ?_
        obtain ⟨v12_, hv12_a, hv12_b, hv12_e, hv12_d⟩ := zk_gen (u1_ + 1)
        rw [hv12_e]
        refine zw_goto (pc := 42) (tgt := 2) (by decide) (zdal_p dlA_Sums_copy_128 (i := 0) rfl) ?_
        exact ih_2 v12_ hv12_a hv12_b N11_ hb0_N11_ (show 0 ≤ v12_ by first | with_reducible assumption | assumption | omega) (by omega)
  exact lp_2 _ 0 (by decide) (by decide) Mz zFc.rf (show 0 ≤ (0 : Int) by first | with_reducible assumption | assumption | omega) (Nat.lt_succ_self _)
set_option maxHeartbeats 4000000 in
theorem u_Troupe_becomeX (l : Launch) (d_ : Nat) (Mz : zMem) (hW : zKW d_ Mz) (a0_ : Int) (ha0_a : -2147483648 ≤ a0_) (ha0_b : a0_ < 2147483648) : zC l m_Troupe_become 0 0 [.ref (d_ + 0), .int (Int32.ofInt a0_)] Mz (zqcV d_ [] [] [(0, 7), (0, 8)] [25] Mz (fun N => True)) := by
  refine zC_of (L0 := [some (.ref (d_ + 0)), some (.int (Int32.ofInt a0_))]) md_Troupe_become (Nat.le_of_ble_eq_true rfl) rfl ?_ zQ0
  have hf : zFc d_ [] [] [(0, 7), (0, 8)] [25] Mz Mz := zFc.rf
  refine zw_aload_n (pc := 0) (n := 0) (x := (d_ + 0)) rfl (zdal_p dlB_Troupe_become_125 (i := 0) rfl) ?_
  refine zw_getF (pc := 1) f_Troupe_32 rfl ((hf.w hW).kr (o := 0) (by decide)) ((hf.w hW).lr (o := 0) (s := 2) (r := 23) (by decide)) (zdal_p dlB_Troupe_become_125 (i := 1) rfl) ?_
  refine zw_iconst (pc := 4) (v := Int32.ofInt 0) (by decide) (zdal_p dlB_Troupe_become_125 (i := 2) rfl) ?_
  refine zw_bipush (pc := 5) (v := Int32.ofInt 9) (by decide) (zdal_p dlB_Troupe_become_125 (i := 3) rfl) ?_
  refine zw_aload_n (pc := 7) (n := 0) (x := (d_ + 0)) rfl (zdal_p dlB_Troupe_become_125 (i := 4) rfl) ?_
  refine zk_getI (pc := 8) f_Troupe_71 rfl ((hf.w hW).kr (o := 0) (by decide)) (zdal_p dlB_Troupe_become_125 (i := 5) rfl) ?_
  have hr1_ := ze_r Mz (d_ + 0) 8
  refine zr_iadd (pc := 11) (zdal_p dlB_Troupe_become_125 (i := 6) rfl) ?_
  refine zr_nmI (fun v2_ hv2_ => ?_)
  obtain ⟨hv2_a, hv2_b⟩ := hv2_
  refine zk_callV hf.x (pc := 12) [.int (Int32.ofInt 0), .int (Int32.ofInt v2_)] [] l_Troupe_93 (u_Sums_copyX l d_ Mz (hf.w hW) 0 (by decide) (by decide) v2_ hv2_a hv2_b) rfl rfl ((hf.w hW).kr (o := 23) (by decide)) (by decide) (by decide) (Nat.le_of_ble_eq_true rfl) (zdal_p dlB_Troupe_become_125 (i := 7) rfl) ?_
  rintro _ N3_ ⟨rfl, hsN3_, -⟩
  have hf_N3_ : zFc d_ [] [] [(0, 7), (0, 8)] [25] Mz N3_ := hf.tr hsN3_ (by decide) (by decide) (by decide) (by decide)
  show zW l m_Troupe_become (zn Mz + 0, zw Mz + 0) N3_ 15 [some (.ref (d_ + 0)), some (.int (Int32.ofInt a0_))] [] _
  refine zw_aload_n (pc := 15) (n := 0) (x := (d_ + 0)) rfl (zdal_p dlB_Troupe_become_125 (i := 8) rfl) ?_
  refine zw_aload_n (pc := 16) (n := 0) (x := (d_ + 0)) rfl (zdal_p dlB_Troupe_become_125 (i := 9) rfl) ?_
  refine zk_getI (pc := 17) f_Troupe_71 rfl ((hf_N3_.w hW).kr (o := 0) (by decide)) (zdal_p dlB_Troupe_become_125 (i := 10) rfl) ?_
  have hr5_ := ze_r N3_ (d_ + 0) 8
  refine zw_iconst (pc := 20) (v := Int32.ofInt 1) (by decide) (zdal_p dlB_Troupe_become_125 (i := 11) rfl) ?_
  refine zr_iadd (pc := 21) (zdal_p dlB_Troupe_become_125 (i := 12) rfl) ?_
  refine zr_nmI (fun v6_ hv6_ => ?_)
  obtain ⟨hv6_a, hv6_b⟩ := hv6_
  refine zw_bipush (pc := 22) (v := Int32.ofInt 12) (by decide) (zdal_p dlB_Troupe_become_125 (i := 13) rfl) ?_
  refine zr_irem (pc := 24) ⟨by omega, by omega⟩ (by omega) (zdal_p dlB_Troupe_become_125 (i := 14) rfl) ?_
  have hr7_ := zrem_r v6_ 12
  refine zr_nmI (fun v8_ hv8_ => ?_)
  obtain ⟨hv8_a, hv8_b⟩ := hv8_
  refine zk_putR (pc := 25) (o := 0) (by decide) f_Troupe_71 rfl rfl ((hf_N3_.w hW).kr (o := 0) (by decide)) ⟨by omega, by omega⟩ rfl rfl (zdal_p dlB_Troupe_become_125 (i := 15) rfl) (fun N9_ hsN9_ hvN9_ => ?_)
  have hf_N9_ : zFc d_ [] [] [(0, 7), (0, 8)] [25] Mz N9_ := hf_N3_.tr hsN9_ (by decide) (by decide) (by decide) (by decide)
  refine zw_aload_n (pc := 28) (n := 0) (x := (d_ + 0)) rfl (zdal_p dlB_Troupe_become_125 (i := 16) rfl) ?_
  refine zw_aload_n (pc := 29) (n := 0) (x := (d_ + 0)) rfl (zdal_p dlB_Troupe_become_125 (i := 17) rfl) ?_
  refine zk_getI (pc := 30) f_Troupe_68 rfl ((hf_N9_.w hW).kr (o := 0) (by decide)) (zdal_p dlB_Troupe_become_125 (i := 18) rfl) ?_
  have hr10_ := ze_r N9_ (d_ + 0) 7
  refine zw_iconst (pc := 33) (v := Int32.ofInt 1) (by decide) (zdal_p dlB_Troupe_become_125 (i := 19) rfl) ?_
  refine zr_iadd (pc := 34) (zdal_p dlB_Troupe_become_125 (i := 20) rfl) ?_
  refine zr_nmI (fun v11_ hv11_ => ?_)
  obtain ⟨hv11_a, hv11_b⟩ := hv11_
  refine zw_bipush (pc := 35) (v := Int32.ofInt 12) (by decide) (zdal_p dlB_Troupe_become_125 (i := 21) rfl) ?_
  refine zk_mmin (pc := 37) x_Troupe_96 (by decide) (Nat.le_of_ble_eq_true rfl) (zdal_p dlB_Troupe_become_125 (i := 22) rfl) ⟨hv11_a, hv11_b⟩ ⟨(by decide), (by decide)⟩ (fun v12_ hv12_ => ?_)
  have hv12_a : -2147483648 ≤ v12_ := by omega
  have hv12_b : v12_ < 2147483648 := by omega
  clear hv12_
  refine zk_putR (pc := 40) (o := 0) (by decide) f_Troupe_68 rfl rfl ((hf_N9_.w hW).kr (o := 0) (by decide)) ⟨by omega, by omega⟩ rfl rfl (zdal_p dlB_Troupe_become_125 (i := 23) rfl) (fun N13_ hsN13_ hvN13_ => ?_)
  have hf_N13_ : zFc d_ [] [] [(0, 7), (0, 8)] [25] Mz N13_ := hf_N9_.tr hsN13_ (by decide) (by decide) (by decide) (by decide)
  refine zw_aload_n (pc := 43) (n := 0) (x := (d_ + 0)) rfl (zdal_p dlB_Troupe_become_126 (i := 0) rfl) ?_
  refine zw_getF (pc := 44) f_Troupe_32 rfl ((hf_N13_.w hW).kr (o := 0) (by decide)) ((hf_N13_.w hW).lr (o := 0) (s := 2) (r := 23) (by decide)) (zdal_p dlB_Troupe_become_126 (i := 1) rfl) ?_
  refine zw_iload_n (pc := 47) (n := 1) (x := Int32.ofInt a0_) rfl (zdal_p dlB_Troupe_become_126 (i := 2) rfl) ?_
  refine zw_iconst (pc := 48) (v := Int32.ofInt 0) (by decide) (zdal_p dlB_Troupe_become_126 (i := 3) rfl) ?_
  refine zk_callV hf_N13_.x (pc := 49) [.int (Int32.ofInt a0_), .int (Int32.ofInt 0)] [] l_Troupe_93 (u_Sums_copyX l d_ N13_ (hf_N13_.w hW) a0_ ha0_a ha0_b 0 (by decide) (by decide)) rfl rfl ((hf_N13_.w hW).kr (o := 23) (by decide)) (by decide) (by decide) (Nat.le_of_ble_eq_true rfl) (zdal_p dlB_Troupe_become_126 (i := 4) rfl) ?_
  rintro _ N14_ ⟨rfl, hsN14_, -⟩
  have hf_N14_ : zFc d_ [] [] [(0, 7), (0, 8)] [25] Mz N14_ := hf_N13_.tr hsN14_ (by decide) (by decide) (by decide) (by decide)
  show zW l m_Troupe_become (zn Mz + 0, zw Mz + 0) N14_ 52 [some (.ref (d_ + 0)), some (.int (Int32.ofInt a0_))] [] _
  exact zk_vret (pc := 52) rfl hf_N14_ trivial (zdal_p dlB_Troupe_become_126 (i := 5) rfl)
set_option maxHeartbeats 4000000 in
theorem u_Group_isSetKeptX (l : Launch) (d_ : Nat) (Mz : zMem) (hW : zKW d_ Mz) (a0_ : Int) (ha0_a : -2147483648 ≤ a0_) (ha0_b : a0_ < 2147483648) (a1_ : Int) (ha1_a : -2147483648 ≤ a1_) (ha1_b : a1_ < 2147483648) : zC l m_Group_isSetKept 0 0 [.ref (d_ + 1), .int (Int32.ofInt a0_), .int (Int32.ofInt a1_)] Mz (zqcI d_ [] [] [] [] Mz (fun v N => ((v = 0 ∨ v = 1)))) := by
  refine zC_of (L0 := [some (.ref (d_ + 1)), some (.int (Int32.ofInt a0_)), some (.int (Int32.ofInt a1_)), none]) md_Group_isSetKept (Nat.le_of_ble_eq_true rfl) rfl ?_ zQ0
  have hf : zFc d_ [] [] [] [] Mz Mz := zFc.rf
  refine zw_iconst (pc := 0) (v := Int32.ofInt 0) (by decide) (zdal_p dlB_Group_isSetKept_133 (i := 0) rfl) ?_
  refine zw_istore_n (pc := 1) (i := 3) (L2 := [some (.ref (d_ + 1)), some (.int (Int32.ofInt a0_)), some (.int (Int32.ofInt a1_)), some (.int (Int32.ofInt 0))]) rfl (by decide) rfl (zdal_p dlB_Group_isSetKept_133 (i := 1) rfl) ?_
  have lp_2 : ∀ (n : Nat) (u1_ : Int) (hu1_a : -2147483648 ≤ u1_) (hu1_b : u1_ < 2147483648) (i2_ : 0 ≤ u1_), (ze Mz (d_ + 1) 5 - u1_).toNat < n → zW l m_Group_isSetKept (zn Mz + 0, zw Mz + 0) Mz 2 [some (.ref (d_ + 1)), some (.int (Int32.ofInt a0_)), some (.int (Int32.ofInt a1_)), some (.int (Int32.ofInt u1_))] [] (zqcI d_ [] [] [] [] Mz (fun v N => ((v = 0 ∨ v = 1)))) := by
    intro n
    induction n with
    | zero =>
      intro u1_ hu1_a hu1_b i2_ h0
      exact absurd h0 (Nat.not_lt_zero _)
    | succ n ih_2 =>
      intro u1_ hu1_a hu1_b i2_ hlt_2
      refine zw_iload_n (pc := 2) (n := 3) (x := Int32.ofInt u1_) rfl (zdal_p dlB_Group_isSetKept_133 (i := 2) rfl) ?_
      refine zw_aload_n (pc := 3) (n := 0) (x := (d_ + 1)) rfl (zdal_p dlB_Group_isSetKept_133 (i := 3) rfl) ?_
      refine zk_getI (pc := 4) f_Group_32 rfl ((hf.w hW).kr (o := 1) (by decide)) (zdal_p dlB_Group_isSetKept_133 (i := 4) rfl) ?_
      have hr3_ := ze_r Mz (d_ + 1) 5
      refine zr_icmp_ge (pc := 7) (tgt := 39) ⟨hu1_a, hu1_b⟩ ⟨(ze_r Mz (d_ + 1) 5).1, (ze_r Mz (d_ + 1) 5).2⟩ (by decide) (zdal_p dlB_Group_isSetKept_133 (i := 5) rfl) (fun hc_7 => ?_) (fun hc_7 => ?_)
      · skip
        refine zw_iconst (pc := 39) (v := Int32.ofInt 1) (by decide) (zdal_p dlB_Group_isSetKept_133 (i := 21) rfl) ?_
        exact zk_iret (pc := 40) (ty := .boolean) rfl (z_narB (by omega)) ⟨by omega, by omega⟩ hf (show (((1 : Int)) = 0 ∨ ((1 : Int)) = 1) by first | with_reducible assumption | assumption | omega) (zdal_p dlB_Group_isSetKept_133 (i := 22) rfl)
      · skip
        refine zw_iload_n (pc := 10) (n := 1) (x := Int32.ofInt a0_) rfl (zdal_p dlB_Group_isSetKept_133 (i := 6) rfl) ?_
        refine zw_iload_n (pc := 11) (n := 3) (x := Int32.ofInt u1_) rfl (zdal_p dlB_Group_isSetKept_133 (i := 7) rfl) ?_
        refine zr_callS hf.x (pc := 12) [.int (Int32.ofInt a0_), .int (Int32.ofInt u1_)] [] l_Group_73 (u_T_isInX l d_ Mz (hf.w hW) a0_ ha0_a ha0_b u1_ hu1_a hu1_b) rfl rfl (by decide) (Nat.le_of_ble_eq_true rfl) (zdal_p dlB_Group_isSetKept_133 (i := 8) rfl) ?_
        rintro _ N4_ ⟨v5_, rfl, ⟨hv5_a, hv5_b⟩, hsN4_, hp0_N4_⟩
        obtain rfl := hsN4_.eq.symm
        replace hp0_N4_ : (v5_ = 0 ∨ v5_ = 1) := hp0_N4_
        show zW l m_Group_isSetKept (zn Mz + 0, zw Mz + 0) Mz 15 [some (.ref (d_ + 1)), some (.int (Int32.ofInt a0_)), some (.int (Int32.ofInt a1_)), some (.int (Int32.ofInt u1_))] [.int (Int32.ofInt v5_)] _
        refine zr_if_eq (pc := 15) (tgt := 33) ⟨hv5_a, hv5_b⟩ (by decide) (zdal_p dlB_Group_isSetKept_133 (i := 9) rfl) (fun hc_15 => ?_) (fun hc_15 => ?_)
        · skip
          refine zr_iinc (pc := 33) (i := 3) (a := u1_) (n := 1) (L2 := [some (.ref (d_ + 1)), some (.int (Int32.ofInt a0_)), some (.int (Int32.ofInt a1_)), some (.int (Int32.ofInt (u1_ + 1)))]) rfl (by decide) rfl (zdal_p dlB_Group_isSetKept_133 (i := 19) rfl) ?_
          obtain ⟨v6_, hv6_a, hv6_b, hv6_e, hv6_d⟩ := zk_gen (u1_ + 1)
          rw [hv6_e]
          refine zw_goto (pc := 36) (tgt := 2) (by decide) (zdal_p dlB_Group_isSetKept_133 (i := 20) rfl) ?_
          exact ih_2 v6_ hv6_a hv6_b (show 0 ≤ v6_ by first | with_reducible assumption | assumption | omega) (by omega)
        · skip
          refine zw_aload_n (pc := 18) (n := 0) (x := (d_ + 1)) rfl (zdal_p dlB_Group_isSetKept_133 (i := 10) rfl) ?_
          refine zw_iload_n (pc := 19) (n := 3) (x := Int32.ofInt u1_) rfl (zdal_p dlB_Group_isSetKept_133 (i := 11) rfl) ?_
          refine zw_iload_n (pc := 20) (n := 2) (x := Int32.ofInt a1_) rfl (zdal_p dlB_Group_isSetKept_133 (i := 12) rfl) ?_
          refine zk_callV hf.x (pc := 21) [.int (Int32.ofInt u1_), .int (Int32.ofInt a1_)] [] l_Group_103 (u_Group_placesReachedX l d_ Mz (hf.w hW) u1_ hu1_a hu1_b a1_ ha1_a ha1_b) rfl rfl ((hf.w hW).kr (o := 1) (by decide)) (by decide) (by decide) (Nat.le_of_ble_eq_true rfl) (zdal_p dlB_Group_isSetKept_133 (i := 13) rfl) ?_
          rintro _ N7_ ⟨v8_, rfl, ⟨hv8_a, hv8_b⟩, hsN7_, -⟩
          obtain rfl := hsN7_.eq.symm
          show zW l m_Group_isSetKept (zn Mz + 0, zw Mz + 0) Mz 24 [some (.ref (d_ + 1)), some (.int (Int32.ofInt a0_)), some (.int (Int32.ofInt a1_)), some (.int (Int32.ofInt u1_))] [.int (Int32.ofInt v8_)] _
          refine zw_iload_n (pc := 24) (n := 1) (x := Int32.ofInt a0_) rfl (zdal_p dlB_Group_isSetKept_133 (i := 14) rfl) ?_
          refine zr_callS hf.x (pc := 25) [.int (Int32.ofInt v8_), .int (Int32.ofInt a0_)] [] l_Group_115 (u_T_isPartX l d_ Mz (hf.w hW) v8_ hv8_a hv8_b a0_ ha0_a ha0_b) rfl rfl (by decide) (Nat.le_of_ble_eq_true rfl) (zdal_p dlB_Group_isSetKept_133 (i := 15) rfl) ?_
          rintro _ N9_ ⟨v10_, rfl, ⟨hv10_a, hv10_b⟩, hsN9_, hp0_N9_⟩
          obtain rfl := hsN9_.eq.symm
          replace hp0_N9_ : (v10_ = 0 ∨ v10_ = 1) := hp0_N9_
          show zW l m_Group_isSetKept (zn Mz + 0, zw Mz + 0) Mz 28 [some (.ref (d_ + 1)), some (.int (Int32.ofInt a0_)), some (.int (Int32.ofInt a1_)), some (.int (Int32.ofInt u1_))] [.int (Int32.ofInt v10_)] _
          refine zr_if_ne (pc := 28) (tgt := 33) ⟨hv10_a, hv10_b⟩ (by decide) (zdal_p dlB_Group_isSetKept_133 (i := 16) rfl) (fun hc_28 => ?_) (fun hc_28 => ?_)
          · skip
            refine zr_iinc (pc := 33) (i := 3) (a := u1_) (n := 1) (L2 := [some (.ref (d_ + 1)), some (.int (Int32.ofInt a0_)), some (.int (Int32.ofInt a1_)), some (.int (Int32.ofInt (u1_ + 1)))]) rfl (by decide) rfl (zdal_p dlB_Group_isSetKept_133 (i := 19) rfl) ?_
            obtain ⟨v11_, hv11_a, hv11_b, hv11_e, hv11_d⟩ := zk_gen (u1_ + 1)
            rw [hv11_e]
            refine zw_goto (pc := 36) (tgt := 2) (by decide) (zdal_p dlB_Group_isSetKept_133 (i := 20) rfl) ?_
            exact ih_2 v11_ hv11_a hv11_b (show 0 ≤ v11_ by first | with_reducible assumption | assumption | omega) (by omega)
          · skip
            refine zw_iconst (pc := 31) (v := Int32.ofInt 0) (by decide) (zdal_p dlB_Group_isSetKept_133 (i := 17) rfl) ?_
            exact zk_iret (pc := 32) (ty := .boolean) rfl (z_narB (by omega)) ⟨by omega, by omega⟩ hf (show (((0 : Int)) = 0 ∨ ((0 : Int)) = 1) by first | with_reducible assumption | assumption | omega) (zdal_p dlB_Group_isSetKept_133 (i := 18) rfl)
  exact lp_2 _ 0 (by decide) (by decide) (show 0 ≤ (0 : Int) by first | with_reducible assumption | assumption | omega) (Nat.lt_succ_self _)
set_option maxHeartbeats 4000000 in
theorem u_Group_countSetsKeptX (l : Launch) (d_ : Nat) (Mz : zMem) (hW : zKW d_ Mz) (a0_ : Int) (ha0_a : -2147483648 ≤ a0_) (ha0_b : a0_ < 2147483648) (a1_ : Int) (ha1_a : -2147483648 ≤ a1_) (ha1_b : a1_ < 2147483648) : zC l m_Group_countSetsKept 0 0 [.ref (d_ + 1), .int (Int32.ofInt a0_), .int (Int32.ofInt a1_)] Mz (zqcI d_ [] [] [] [] Mz (fun v N => True)) := by
  refine zC_of (L0 := [some (.ref (d_ + 1)), some (.int (Int32.ofInt a0_)), some (.int (Int32.ofInt a1_)), none, none]) md_Group_countSetsKept (Nat.le_of_ble_eq_true rfl) rfl ?_ zQ0
  have hf : zFc d_ [] [] [] [] Mz Mz := zFc.rf
  refine zw_iconst (pc := 0) (v := Int32.ofInt 0) (by decide) (zdal_p dlB_Group_countSetsKept_132 (i := 0) rfl) ?_
  refine zw_istore_n (pc := 1) (i := 3) (L2 := [some (.ref (d_ + 1)), some (.int (Int32.ofInt a0_)), some (.int (Int32.ofInt a1_)), some (.int (Int32.ofInt 0)), none]) rfl (by decide) rfl (zdal_p dlB_Group_countSetsKept_132 (i := 1) rfl) ?_
  refine zw_iconst (pc := 2) (v := Int32.ofInt 0) (by decide) (zdal_p dlB_Group_countSetsKept_132 (i := 2) rfl) ?_
  refine zw_istore (pc := 3) (i := 4) (L2 := [some (.ref (d_ + 1)), some (.int (Int32.ofInt a0_)), some (.int (Int32.ofInt a1_)), some (.int (Int32.ofInt 0)), some (.int (Int32.ofInt 0))]) (by decide) rfl (zdal_p dlB_Group_countSetsKept_132 (i := 3) rfl) ?_
  have lp_5 : ∀ (n : Nat) (u1_ : Int) (hu1_a : -2147483648 ≤ u1_) (hu1_b : u1_ < 2147483648) (u2_ : Int) (hu2_a : -2147483648 ≤ u2_) (hu2_b : u2_ < 2147483648) (i3_ : 0 ≤ u2_), (2147483648 - u2_).toNat < n → zW l m_Group_countSetsKept (zn Mz + 0, zw Mz + 0) Mz 5 [some (.ref (d_ + 1)), some (.int (Int32.ofInt a0_)), some (.int (Int32.ofInt a1_)), some (.int (Int32.ofInt u1_)), some (.int (Int32.ofInt u2_))] [] (zqcI d_ [] [] [] [] Mz (fun v N => True)) := by
    intro n
    induction n with
    | zero =>
      intro u1_ hu1_a hu1_b u2_ hu2_a hu2_b i3_ h0
      exact absurd h0 (Nat.not_lt_zero _)
    | succ n ih_5 =>
      intro u1_ hu1_a hu1_b u2_ hu2_a hu2_b i3_ hlt_5
      refine zw_iload (pc := 5) (i := 4) (x := Int32.ofInt u2_) rfl (zdal_p dlB_Group_countSetsKept_132 (i := 4) rfl) ?_
      refine zw_iconst (pc := 7) (v := Int32.ofInt 1) (by decide) (zdal_p dlB_Group_countSetsKept_132 (i := 5) rfl) ?_
      refine zw_aload_n (pc := 8) (n := 0) (x := (d_ + 1)) rfl (zdal_p dlB_Group_countSetsKept_132 (i := 6) rfl) ?_
      refine zk_getI (pc := 9) f_Group_32 rfl ((hf.w hW).kr (o := 1) (by decide)) (zdal_p dlB_Group_countSetsKept_132 (i := 7) rfl) ?_
      have hr4_ := ze_r Mz (d_ + 1) 5
      refine zr_ishl (pc := 12) (zdal_p dlB_Group_countSetsKept_132 (i := 8) rfl) ?_
      have hr5_ := zshl_r 1 (ze Mz (d_ + 1) 5)
      refine zr_nmI (fun v6_ hv6_ => ?_)
      obtain ⟨hv6_a, hv6_b⟩ := hv6_
      refine zr_icmp_ge (pc := 13) (tgt := 44) ⟨hu2_a, hu2_b⟩ ⟨hv6_a, hv6_b⟩ (by decide) (zdal_p dlB_Group_countSetsKept_132 (i := 9) rfl) (fun hc_13 => ?_) (fun hc_13 => ?_)
      · skip
        refine zw_iload_n (pc := 44) (n := 3) (x := Int32.ofInt u1_) rfl (zdal_p dlB_Group_countSetsKept_132 (i := 22) rfl) ?_
        exact zk_iret (pc := 45) (ty := .int) rfl rfl ⟨by omega, by omega⟩ hf trivial (zdal_p dlB_Group_countSetsKept_132 (i := 23) rfl)
      · skip
        refine zw_iload (pc := 16) (i := 4) (x := Int32.ofInt u2_) rfl (zdal_p dlB_Group_countSetsKept_132 (i := 10) rfl) ?_
        refine zr_callS hf.x (pc := 18) [.int (Int32.ofInt u2_)] [] l_Group_83 (u_Integer_bitCountX l d_ Mz (hf.w hW) u2_ hu2_a hu2_b) rfl rfl (by decide) (Nat.le_of_ble_eq_true rfl) (zdal_p dlB_Group_countSetsKept_132 (i := 11) rfl) ?_
        rintro _ N7_ ⟨v8_, rfl, ⟨hv8_a, hv8_b⟩, hsN7_, ⟨hp0_N7_, hp1_N7_⟩⟩
        obtain rfl := hsN7_.eq.symm
        show zW l m_Group_countSetsKept (zn Mz + 0, zw Mz + 0) Mz 21 [some (.ref (d_ + 1)), some (.int (Int32.ofInt a0_)), some (.int (Int32.ofInt a1_)), some (.int (Int32.ofInt u1_)), some (.int (Int32.ofInt u2_))] [.int (Int32.ofInt v8_)] _
        refine zw_iload_n (pc := 21) (n := 1) (x := Int32.ofInt a0_) rfl (zdal_p dlB_Group_countSetsKept_132 (i := 12) rfl) ?_
        refine zr_icmp_ne (pc := 22) (tgt := 38) ⟨hv8_a, hv8_b⟩ ⟨ha0_a, ha0_b⟩ (by decide) (zdal_p dlB_Group_countSetsKept_132 (i := 13) rfl) (fun hc_22 => ?_) (fun hc_22 => ?_)
        · skip
          refine zr_iinc (pc := 38) (i := 4) (a := u2_) (n := 1) (L2 := [some (.ref (d_ + 1)), some (.int (Int32.ofInt a0_)), some (.int (Int32.ofInt a1_)), some (.int (Int32.ofInt u1_)), some (.int (Int32.ofInt (u2_ + 1)))]) rfl (by decide) rfl (zdal_p dlB_Group_countSetsKept_132 (i := 20) rfl) ?_
          obtain ⟨v9_, hv9_a, hv9_b, hv9_e, hv9_d⟩ := zk_gen (u2_ + 1)
          rw [hv9_e]
          refine zw_goto (pc := 41) (tgt := 5) (by decide) (zdal_p dlB_Group_countSetsKept_132 (i := 21) rfl) ?_
          exact ih_5 u1_ hu1_a hu1_b v9_ hv9_a hv9_b (show 0 ≤ v9_ by first | with_reducible assumption | assumption | omega) (by omega)
        · skip
          refine zw_aload_n (pc := 25) (n := 0) (x := (d_ + 1)) rfl (zdal_p dlB_Group_countSetsKept_132 (i := 14) rfl) ?_
          refine zw_iload (pc := 26) (i := 4) (x := Int32.ofInt u2_) rfl (zdal_p dlB_Group_countSetsKept_132 (i := 15) rfl) ?_
          refine zw_iload_n (pc := 28) (n := 2) (x := Int32.ofInt a1_) rfl (zdal_p dlB_Group_countSetsKept_132 (i := 16) rfl) ?_
          refine zk_callV hf.x (pc := 29) [.int (Int32.ofInt u2_), .int (Int32.ofInt a1_)] [] l_Group_112 (u_Group_isSetKeptX l d_ Mz (hf.w hW) u2_ hu2_a hu2_b a1_ ha1_a ha1_b) rfl rfl ((hf.w hW).kr (o := 1) (by decide)) (by decide) (by decide) (Nat.le_of_ble_eq_true rfl) (zdal_p dlB_Group_countSetsKept_132 (i := 17) rfl) ?_
          rintro _ N10_ ⟨v11_, rfl, ⟨hv11_a, hv11_b⟩, hsN10_, hp0_N10_⟩
          obtain rfl := hsN10_.eq.symm
          replace hp0_N10_ : (v11_ = 0 ∨ v11_ = 1) := hp0_N10_
          show zW l m_Group_countSetsKept (zn Mz + 0, zw Mz + 0) Mz 32 [some (.ref (d_ + 1)), some (.int (Int32.ofInt a0_)), some (.int (Int32.ofInt a1_)), some (.int (Int32.ofInt u1_)), some (.int (Int32.ofInt u2_))] [.int (Int32.ofInt v11_)] _
          refine zr_if_eq (pc := 32) (tgt := 38) ⟨hv11_a, hv11_b⟩ (by decide) (zdal_p dlB_Group_countSetsKept_132 (i := 18) rfl) (fun hc_32 => ?_) (fun hc_32 => ?_)
          · skip
            refine zr_iinc (pc := 38) (i := 4) (a := u2_) (n := 1) (L2 := [some (.ref (d_ + 1)), some (.int (Int32.ofInt a0_)), some (.int (Int32.ofInt a1_)), some (.int (Int32.ofInt u1_)), some (.int (Int32.ofInt (u2_ + 1)))]) rfl (by decide) rfl (zdal_p dlB_Group_countSetsKept_132 (i := 20) rfl) ?_
            obtain ⟨v12_, hv12_a, hv12_b, hv12_e, hv12_d⟩ := zk_gen (u2_ + 1)
            rw [hv12_e]
            refine zw_goto (pc := 41) (tgt := 5) (by decide) (zdal_p dlB_Group_countSetsKept_132 (i := 21) rfl) ?_
            exact ih_5 u1_ hu1_a hu1_b v12_ hv12_a hv12_b (show 0 ≤ v12_ by first | with_reducible assumption | assumption | omega) (by omega)
          · skip
            refine zr_iinc (pc := 35) (i := 3) (a := u1_) (n := 1) (L2 := [some (.ref (d_ + 1)), some (.int (Int32.ofInt a0_)), some (.int (Int32.ofInt a1_)), some (.int (Int32.ofInt (u1_ + 1))), some (.int (Int32.ofInt u2_))]) rfl (by decide) rfl (zdal_p dlB_Group_countSetsKept_132 (i := 19) rfl) ?_
            obtain ⟨v13_, hv13_a, hv13_b, hv13_e, hv13_d⟩ := zk_gen (u1_ + 1)
            rw [hv13_e]
            refine zr_iinc (pc := 38) (i := 4) (a := u2_) (n := 1) (L2 := [some (.ref (d_ + 1)), some (.int (Int32.ofInt a0_)), some (.int (Int32.ofInt a1_)), some (.int (Int32.ofInt v13_)), some (.int (Int32.ofInt (u2_ + 1)))]) rfl (by decide) rfl (zdal_p dlB_Group_countSetsKept_132 (i := 20) rfl) ?_
            obtain ⟨v14_, hv14_a, hv14_b, hv14_e, hv14_d⟩ := zk_gen (u2_ + 1)
            rw [hv14_e]
            refine zw_goto (pc := 41) (tgt := 5) (by decide) (zdal_p dlB_Group_countSetsKept_132 (i := 21) rfl) ?_
            exact ih_5 v13_ hv13_a hv13_b v14_ hv14_a hv14_b (show 0 ≤ v14_ by first | with_reducible assumption | assumption | omega) (by omega)
  exact lp_5 _ 0 (by decide) (by decide) 0 (by decide) (by decide) (show 0 ≤ (0 : Int) by first | with_reducible assumption | assumption | omega) (Nat.lt_succ_self _)
set_option maxHeartbeats 4000000 in
theorem u_Group_powerX (l : Launch) (d_ : Nat) (Mz : zMem) (hW : zKW d_ Mz) (a0_ : Int) (ha0_a : -2147483648 ≤ a0_) (ha0_b : a0_ < 2147483648) (a1_ : Int) (ha1_a : -2147483648 ≤ a1_) (ha1_b : a1_ < 2147483648) : zC l m_Group_power 0 0 [.int (Int32.ofInt a0_), .int (Int32.ofInt a1_)] Mz (zqcI d_ [] [] [] [] Mz (fun v N => True)) := by
  refine zC_of (L0 := [some (.int (Int32.ofInt a0_)), some (.int (Int32.ofInt a1_)), none, none]) md_Group_power (Nat.le_of_ble_eq_true rfl) rfl ?_ zQ0
  have hf : zFc d_ [] [] [] [] Mz Mz := zFc.rf
  refine zw_iconst (pc := 0) (v := Int32.ofInt 1) (by decide) (zdal_p dlB_Group_power_134 (i := 0) rfl) ?_
  refine zw_istore_n (pc := 1) (i := 2) (L2 := [some (.int (Int32.ofInt a0_)), some (.int (Int32.ofInt a1_)), some (.int (Int32.ofInt 1)), none]) rfl (by decide) rfl (zdal_p dlB_Group_power_134 (i := 1) rfl) ?_
  refine zw_iconst (pc := 2) (v := Int32.ofInt 0) (by decide) (zdal_p dlB_Group_power_134 (i := 2) rfl) ?_
  refine zw_istore_n (pc := 3) (i := 3) (L2 := [some (.int (Int32.ofInt a0_)), some (.int (Int32.ofInt a1_)), some (.int (Int32.ofInt 1)), some (.int (Int32.ofInt 0))]) rfl (by decide) rfl (zdal_p dlB_Group_power_134 (i := 3) rfl) ?_
  have lp_4 : ∀ (n : Nat) (u1_ : Int) (hu1_a : -2147483648 ≤ u1_) (hu1_b : u1_ < 2147483648) (u2_ : Int) (hu2_a : -2147483648 ≤ u2_) (hu2_b : u2_ < 2147483648) (i3_ : 0 ≤ u2_), (a1_ - u2_).toNat < n → zW l m_Group_power (zn Mz + 0, zw Mz + 0) Mz 4 [some (.int (Int32.ofInt a0_)), some (.int (Int32.ofInt a1_)), some (.int (Int32.ofInt u1_)), some (.int (Int32.ofInt u2_))] [] (zqcI d_ [] [] [] [] Mz (fun v N => True)) := by
    intro n
    induction n with
    | zero =>
      intro u1_ hu1_a hu1_b u2_ hu2_a hu2_b i3_ h0
      exact absurd h0 (Nat.not_lt_zero _)
    | succ n ih_4 =>
      intro u1_ hu1_a hu1_b u2_ hu2_a hu2_b i3_ hlt_4
      refine zw_iload_n (pc := 4) (n := 3) (x := Int32.ofInt u2_) rfl (zdal_p dlB_Group_power_134 (i := 4) rfl) ?_
      refine zw_iload_n (pc := 5) (n := 1) (x := Int32.ofInt a1_) rfl (zdal_p dlB_Group_power_134 (i := 5) rfl) ?_
      refine zr_icmp_ge (pc := 6) (tgt := 19) ⟨hu2_a, hu2_b⟩ ⟨ha1_a, ha1_b⟩ (by decide) (zdal_p dlB_Group_power_134 (i := 6) rfl) (fun hc_6 => ?_) (fun hc_6 => ?_)
      · skip
        refine zw_iload_n (pc := 19) (n := 2) (x := Int32.ofInt u1_) rfl (zdal_p dlB_Group_power_134 (i := 13) rfl) ?_
        exact zk_iret (pc := 20) (ty := .int) rfl rfl ⟨by omega, by omega⟩ hf trivial (zdal_p dlB_Group_power_134 (i := 14) rfl)
      · skip
        refine zw_iload_n (pc := 9) (n := 2) (x := Int32.ofInt u1_) rfl (zdal_p dlB_Group_power_134 (i := 7) rfl) ?_
        refine zw_iload_n (pc := 10) (n := 0) (x := Int32.ofInt a0_) rfl (zdal_p dlB_Group_power_134 (i := 8) rfl) ?_
        refine zr_imul (pc := 11) (zdal_p dlB_Group_power_134 (i := 9) rfl) ?_
        refine zr_nmI (fun v4_ hv4_ => ?_)
        obtain ⟨hv4_a, hv4_b⟩ := hv4_
        refine zw_istore_n (pc := 12) (i := 2) (L2 := [some (.int (Int32.ofInt a0_)), some (.int (Int32.ofInt a1_)), some (.int (Int32.ofInt v4_)), some (.int (Int32.ofInt u2_))]) rfl (by decide) rfl (zdal_p dlB_Group_power_134 (i := 10) rfl) ?_
        refine zr_iinc (pc := 13) (i := 3) (a := u2_) (n := 1) (L2 := [some (.int (Int32.ofInt a0_)), some (.int (Int32.ofInt a1_)), some (.int (Int32.ofInt v4_)), some (.int (Int32.ofInt (u2_ + 1)))]) rfl (by decide) rfl (zdal_p dlB_Group_power_134 (i := 11) rfl) ?_
        obtain ⟨v5_, hv5_a, hv5_b, hv5_e, hv5_d⟩ := zk_gen (u2_ + 1)
        rw [hv5_e]
        refine zw_goto (pc := 16) (tgt := 4) (by decide) (zdal_p dlB_Group_power_134 (i := 12) rfl) ?_
        exact ih_4 v4_ hv4_a hv4_b v5_ hv5_a hv5_b (show 0 ≤ v5_ by first | with_reducible assumption | assumption | omega) (by omega)
  exact lp_4 _ 1 (by decide) (by decide) 0 (by decide) (by decide) (show 0 ≤ (0 : Int) by first | with_reducible assumption | assumption | omega) (Nat.lt_succ_self _)
set_option maxHeartbeats 4000000 in
theorem u_Group_countKeptX (l : Launch) (d_ : Nat) (Mz : zMem) (hW : zKW d_ Mz) (a0_ : Int) (ha0_a : -2147483648 ≤ a0_) (ha0_b : a0_ < 2147483648) (a1_ : Int) (ha1_a : -2147483648 ≤ a1_) (ha1_b : a1_ < 2147483648) (a2_ : Int) (ha2_a : -2147483648 ≤ a2_) (ha2_b : a2_ < 2147483648) : zC l m_Group_countKept 0 0 [.ref (d_ + 1), .int (Int32.ofInt a0_), .int (Int32.ofInt a1_), .int (Int32.ofInt a2_)] Mz (zqcI d_ [] [] [] [] Mz (fun v N => True)) := by
  refine zC_of (L0 := [some (.ref (d_ + 1)), some (.int (Int32.ofInt a0_)), some (.int (Int32.ofInt a1_)), some (.int (Int32.ofInt a2_)), none, none, none, none]) md_Group_countKept (Nat.le_of_ble_eq_true rfl) rfl ?_ zQ0
  have hf : zFc d_ [] [] [] [] Mz Mz := zFc.rf
  refine zw_iconst (pc := 0) (v := Int32.ofInt 0) (by decide) (zdal_p dlB_Group_countKept_130 (i := 0) rfl) ?_
  refine zw_istore (pc := 1) (i := 4) (L2 := [some (.ref (d_ + 1)), some (.int (Int32.ofInt a0_)), some (.int (Int32.ofInt a1_)), some (.int (Int32.ofInt a2_)), some (.int (Int32.ofInt 0)), none, none, none]) (by decide) rfl (zdal_p dlB_Group_countKept_130 (i := 1) rfl) ?_
  refine zw_iconst (pc := 3) (v := Int32.ofInt 0) (by decide) (zdal_p dlB_Group_countKept_130 (i := 2) rfl) ?_
  refine zw_istore (pc := 4) (i := 5) (L2 := [some (.ref (d_ + 1)), some (.int (Int32.ofInt a0_)), some (.int (Int32.ofInt a1_)), some (.int (Int32.ofInt a2_)), some (.int (Int32.ofInt 0)), some (.int (Int32.ofInt 0)), none, none]) (by decide) rfl (zdal_p dlB_Group_countKept_130 (i := 3) rfl) ?_
  refine zw_iconst (pc := 6) (v := Int32.ofInt 0) (by decide) (zdal_p dlB_Group_countKept_130 (i := 4) rfl) ?_
  refine zw_istore (pc := 7) (i := 6) (L2 := [some (.ref (d_ + 1)), some (.int (Int32.ofInt a0_)), some (.int (Int32.ofInt a1_)), some (.int (Int32.ofInt a2_)), some (.int (Int32.ofInt 0)), some (.int (Int32.ofInt 0)), some (.int (Int32.ofInt 0)), none]) (by decide) rfl (zdal_p dlB_Group_countKept_130 (i := 5) rfl) ?_
  have lp_9 : ∀ (n : Nat) (u1_ : Int) (hu1_a : -2147483648 ≤ u1_) (hu1_b : u1_ < 2147483648) (u2_ : Int) (hu2_a : -2147483648 ≤ u2_) (hu2_b : u2_ < 2147483648) (u3_ : Int) (hu3_a : -2147483648 ≤ u3_) (hu3_b : u3_ < 2147483648) (i4_ : 0 ≤ u3_), (ze Mz (d_ + 1) 5 - u3_).toNat < n → zW l m_Group_countKept (zn Mz + 0, zw Mz + 0) Mz 9 [some (.ref (d_ + 1)), some (.int (Int32.ofInt a0_)), some (.int (Int32.ofInt a1_)), some (.int (Int32.ofInt a2_)), some (.int (Int32.ofInt u1_)), some (.int (Int32.ofInt u2_)), some (.int (Int32.ofInt u3_)), none] [] (zqcI d_ [] [] [] [] Mz (fun v N => True)) := by
    intro n
    induction n with
    | zero =>
      intro u1_ hu1_a hu1_b u2_ hu2_a hu2_b u3_ hu3_a hu3_b i4_ h0
      exact absurd h0 (Nat.not_lt_zero _)
    | succ n ih_9 =>
      intro u1_ hu1_a hu1_b u2_ hu2_a hu2_b u3_ hu3_a hu3_b i4_ hlt_9
      refine zw_iload (pc := 9) (i := 6) (x := Int32.ofInt u3_) rfl (zdal_p dlB_Group_countKept_130 (i := 6) rfl) ?_
      refine zw_aload_n (pc := 11) (n := 0) (x := (d_ + 1)) rfl (zdal_p dlB_Group_countKept_130 (i := 7) rfl) ?_
      refine zk_getI (pc := 12) f_Group_32 rfl ((hf.w hW).kr (o := 1) (by decide)) (zdal_p dlB_Group_countKept_130 (i := 8) rfl) ?_
      have hr5_ := ze_r Mz (d_ + 1) 5
      refine zr_icmp_ge (pc := 15) (tgt := 61) ⟨hu3_a, hu3_b⟩ ⟨(ze_r Mz (d_ + 1) 5).1, (ze_r Mz (d_ + 1) 5).2⟩ (by decide) (zdal_p dlB_Group_countKept_130 (i := 9) rfl) (fun hc_15 => ?_) (fun hc_15 => ?_)
      · skip
        refine zw_iload_n (pc := 61) (n := 1) (x := Int32.ofInt a0_) rfl (zdal_p dlB_Group_countKept_131 (i := 8) rfl) ?_
        refine zr_if_ne (pc := 62) (tgt := 68) ⟨ha0_a, ha0_b⟩ (by decide) (zdal_p dlB_Group_countKept_131 (i := 9) rfl) (fun hc_62 => ?_) (fun hc_62 => ?_)
        · skip
          refine zw_iload_n (pc := 68) (n := 1) (x := Int32.ofInt a0_) rfl (zdal_p dlB_Group_countKept_131 (i := 12) rfl) ?_
          refine zw_iconst (pc := 69) (v := Int32.ofInt 1) (by decide) (zdal_p dlB_Group_countKept_131 (i := 13) rfl) ?_
          refine zr_icmp_ne (pc := 70) (tgt := 82) ⟨ha0_a, ha0_b⟩ ⟨(by decide), (by decide)⟩ (by decide) (zdal_p dlB_Group_countKept_131 (i := 14) rfl) (fun hc_70 => ?_) (fun hc_70 => ?_)
          · skip
            refine zw_iload_n (pc := 82) (n := 2) (x := Int32.ofInt a1_) rfl (zdal_p dlB_Group_countKept_131 (i := 20) rfl) ?_
            refine zw_iload (pc := 83) (i := 5) (x := Int32.ofInt u2_) rfl (zdal_p dlB_Group_countKept_131 (i := 21) rfl) ?_
            refine zr_callS hf.x (pc := 85) [.int (Int32.ofInt a1_), .int (Int32.ofInt u2_)] [] l_Group_109 (u_Group_powerX l d_ Mz (hf.w hW) a1_ ha1_a ha1_b u2_ hu2_a hu2_b) rfl rfl (by decide) (Nat.le_of_ble_eq_true rfl) (zdal_p dlB_Group_countKept_131 (i := 22) rfl) ?_
            rintro _ N6_ ⟨v7_, rfl, ⟨hv7_a, hv7_b⟩, hsN6_, -⟩
            obtain rfl := hsN6_.eq.symm
            show zW l m_Group_countKept (zn Mz + 0, zw Mz + 0) Mz 88 [some (.ref (d_ + 1)), some (.int (Int32.ofInt a0_)), some (.int (Int32.ofInt a1_)), some (.int (Int32.ofInt a2_)), some (.int (Int32.ofInt u1_)), some (.int (Int32.ofInt u2_)), some (.int (Int32.ofInt u3_)), none] [.int (Int32.ofInt v7_)] _
            exact zk_iret (pc := 88) (ty := .int) rfl rfl ⟨by omega, by omega⟩ hf trivial (zdal_p dlB_Group_countKept_131 (i := 23) rfl)
          · skip
            refine zw_aload_n (pc := 73) (n := 0) (x := (d_ + 1)) rfl (zdal_p dlB_Group_countKept_131 (i := 15) rfl) ?_
            refine zw_iload_n (pc := 74) (n := 2) (x := Int32.ofInt a1_) rfl (zdal_p dlB_Group_countKept_131 (i := 16) rfl) ?_
            refine zw_iload_n (pc := 75) (n := 3) (x := Int32.ofInt a2_) rfl (zdal_p dlB_Group_countKept_131 (i := 17) rfl) ?_
            refine zk_callV hf.x (pc := 76) [.int (Int32.ofInt a1_), .int (Int32.ofInt a2_)] [] l_Group_106 (u_Group_countSetsKeptX l d_ Mz (hf.w hW) a1_ ha1_a ha1_b a2_ ha2_a ha2_b) rfl rfl ((hf.w hW).kr (o := 1) (by decide)) (by decide) (by decide) (Nat.le_of_ble_eq_true rfl) (zdal_p dlB_Group_countKept_131 (i := 18) rfl) ?_
            rintro _ N8_ ⟨v9_, rfl, ⟨hv9_a, hv9_b⟩, hsN8_, -⟩
            obtain rfl := hsN8_.eq.symm
            show zW l m_Group_countKept (zn Mz + 0, zw Mz + 0) Mz 79 [some (.ref (d_ + 1)), some (.int (Int32.ofInt a0_)), some (.int (Int32.ofInt a1_)), some (.int (Int32.ofInt a2_)), some (.int (Int32.ofInt u1_)), some (.int (Int32.ofInt u2_)), some (.int (Int32.ofInt u3_)), none] [.int (Int32.ofInt v9_)] _
            refine zw_goto (pc := 79) (tgt := 88) (by decide) (zdal_p dlB_Group_countKept_131 (i := 19) rfl) ?_
            exact zk_iret (pc := 88) (ty := .int) rfl rfl ⟨by omega, by omega⟩ hf trivial (zdal_p dlB_Group_countKept_131 (i := 23) rfl)
        · skip
          refine zw_iload (pc := 65) (i := 4) (x := Int32.ofInt u1_) rfl (zdal_p dlB_Group_countKept_131 (i := 10) rfl) ?_
          exact zk_iret (pc := 67) (ty := .int) rfl rfl ⟨by omega, by omega⟩ hf trivial (zdal_p dlB_Group_countKept_131 (i := 11) rfl)
      · skip
        refine zw_aload_n (pc := 18) (n := 0) (x := (d_ + 1)) rfl (zdal_p dlB_Group_countKept_130 (i := 10) rfl) ?_
        refine zw_iload (pc := 19) (i := 6) (x := Int32.ofInt u3_) rfl (zdal_p dlB_Group_countKept_130 (i := 11) rfl) ?_
        refine zw_iload_n (pc := 21) (n := 3) (x := Int32.ofInt a2_) rfl (zdal_p dlB_Group_countKept_130 (i := 12) rfl) ?_
        refine zk_callV hf.x (pc := 22) [.int (Int32.ofInt u3_), .int (Int32.ofInt a2_)] [] l_Group_103 (u_Group_placesReachedX l d_ Mz (hf.w hW) u3_ hu3_a hu3_b a2_ ha2_a ha2_b) rfl rfl ((hf.w hW).kr (o := 1) (by decide)) (by decide) (by decide) (Nat.le_of_ble_eq_true rfl) (zdal_p dlB_Group_countKept_130 (i := 13) rfl) ?_
        rintro _ N10_ ⟨v11_, rfl, ⟨hv11_a, hv11_b⟩, hsN10_, -⟩
        obtain rfl := hsN10_.eq.symm
        show zW l m_Group_countKept (zn Mz + 0, zw Mz + 0) Mz 25 [some (.ref (d_ + 1)), some (.int (Int32.ofInt a0_)), some (.int (Int32.ofInt a1_)), some (.int (Int32.ofInt a2_)), some (.int (Int32.ofInt u1_)), some (.int (Int32.ofInt u2_)), some (.int (Int32.ofInt u3_)), none] [.int (Int32.ofInt v11_)] _
        refine zw_istore (pc := 25) (i := 7) (L2 := [some (.ref (d_ + 1)), some (.int (Int32.ofInt a0_)), some (.int (Int32.ofInt a1_)), some (.int (Int32.ofInt a2_)), some (.int (Int32.ofInt u1_)), some (.int (Int32.ofInt u2_)), some (.int (Int32.ofInt u3_)), some (.int (Int32.ofInt v11_))]) (by decide) rfl (zdal_p dlB_Group_countKept_130 (i := 14) rfl) ?_
        refine zw_iload (pc := 27) (i := 7) (x := Int32.ofInt v11_) rfl (zdal_p dlB_Group_countKept_130 (i := 15) rfl) ?_
        refine zw_iconst (pc := 29) (v := Int32.ofInt 1) (by decide) (zdal_p dlB_Group_countKept_130 (i := 16) rfl) ?_
        refine zw_iload (pc := 30) (i := 6) (x := Int32.ofInt u3_) rfl (zdal_p dlB_Group_countKept_130 (i := 17) rfl) ?_
        refine zr_ishl (pc := 32) (zdal_p dlB_Group_countKept_130 (i := 18) rfl) ?_
        have hr12_ := zshl_r 1 u3_
        refine zr_nmI (fun v13_ hv13_ => ?_)
        obtain ⟨hv13_a, hv13_b⟩ := hv13_
        refine zr_icmp_ne (pc := 33) (tgt := 39) ⟨hv11_a, hv11_b⟩ ⟨hv13_a, hv13_b⟩ (by decide) (zdal_p dlB_Group_countKept_130 (i := 19) rfl) (fun hc_33 => ?_) (fun hc_33 => ?_)
        · skip
          refine zw_iload (pc := 39) (i := 7) (x := Int32.ofInt v11_) rfl (zdal_p dlB_Group_countKept_130 (i := 21) rfl) ?_
          refine zw_iload (pc := 41) (i := 7) (x := Int32.ofInt v11_) rfl (zdal_p dlB_Group_countKept_130 (i := 22) rfl) ?_
          refine zr_ineg (pc := 43) (zdal_p dlB_Group_countKept_130 (i := 23) rfl) ?_
          refine zr_nmI (fun v14_ hv14_ => ?_)
          obtain ⟨hv14_a, hv14_b⟩ := hv14_
          refine zr_iand (pc := 44) (zdal_p dlB_Group_countKept_131 (i := 0) rfl) ?_
          have hr15_ := zand_r v11_ v14_
          refine zr_nmI (fun v16_ hv16_ => ?_)
          obtain ⟨hv16_a, hv16_b⟩ := hv16_
          refine zw_iconst (pc := 45) (v := Int32.ofInt 1) (by decide) (zdal_p dlB_Group_countKept_131 (i := 1) rfl) ?_
          refine zw_iload (pc := 46) (i := 6) (x := Int32.ofInt u3_) rfl (zdal_p dlB_Group_countKept_131 (i := 2) rfl) ?_
          refine zr_ishl (pc := 48) (zdal_p dlB_Group_countKept_131 (i := 3) rfl) ?_
          have hr17_ := zshl_r 1 u3_
          refine zr_nmI (fun v18_ hv18_ => ?_)
          obtain ⟨hv18_a, hv18_b⟩ := hv18_
          refine zr_icmp_ne (pc := 49) (tgt := 55) ⟨hv16_a, hv16_b⟩ ⟨hv18_a, hv18_b⟩ (by decide) (zdal_p dlB_Group_countKept_131 (i := 4) rfl) (fun hc_49 => ?_) (fun hc_49 => ?_)
          · skip
            refine zr_iinc (pc := 55) (i := 6) (a := u3_) (n := 1) (L2 := [some (.ref (d_ + 1)), some (.int (Int32.ofInt a0_)), some (.int (Int32.ofInt a1_)), some (.int (Int32.ofInt a2_)), some (.int (Int32.ofInt u1_)), some (.int (Int32.ofInt u2_)), some (.int (Int32.ofInt (u3_ + 1))), some (.int (Int32.ofInt v11_))]) rfl (by decide) rfl (zdal_p dlB_Group_countKept_131 (i := 6) rfl) ?_
            obtain ⟨v19_, hv19_a, hv19_b, hv19_e, hv19_d⟩ := zk_gen (u3_ + 1)
            rw [hv19_e]
            refine zw_goto (pc := 58) (tgt := 9) (by decide) (zdal_p dlB_Group_countKept_131 (i := 7) rfl) ?_
            refine zW_le [some (.ref (d_ + 1)), some (.int (Int32.ofInt a0_)), some (.int (Int32.ofInt a1_)), some (.int (Int32.ofInt a2_)), some (.int (Int32.ofInt u1_)), some (.int (Int32.ofInt u2_)), some (.int (Int32.ofInt v19_)), none] (⟨rfl, rfl, rfl, rfl, rfl, rfl, rfl, trivial⟩) ?_
            exact ih_9 u1_ hu1_a hu1_b u2_ hu2_a hu2_b v19_ hv19_a hv19_b (show 0 ≤ v19_ by first | with_reducible assumption | assumption | omega) (by omega)
          · skip
            refine zr_iinc (pc := 52) (i := 5) (a := u2_) (n := 1) (L2 := [some (.ref (d_ + 1)), some (.int (Int32.ofInt a0_)), some (.int (Int32.ofInt a1_)), some (.int (Int32.ofInt a2_)), some (.int (Int32.ofInt u1_)), some (.int (Int32.ofInt (u2_ + 1))), some (.int (Int32.ofInt u3_)), some (.int (Int32.ofInt v11_))]) rfl (by decide) rfl (zdal_p dlB_Group_countKept_131 (i := 5) rfl) ?_
            obtain ⟨v20_, hv20_a, hv20_b, hv20_e, hv20_d⟩ := zk_gen (u2_ + 1)
            rw [hv20_e]
            refine zr_iinc (pc := 55) (i := 6) (a := u3_) (n := 1) (L2 := [some (.ref (d_ + 1)), some (.int (Int32.ofInt a0_)), some (.int (Int32.ofInt a1_)), some (.int (Int32.ofInt a2_)), some (.int (Int32.ofInt u1_)), some (.int (Int32.ofInt v20_)), some (.int (Int32.ofInt (u3_ + 1))), some (.int (Int32.ofInt v11_))]) rfl (by decide) rfl (zdal_p dlB_Group_countKept_131 (i := 6) rfl) ?_
            obtain ⟨v21_, hv21_a, hv21_b, hv21_e, hv21_d⟩ := zk_gen (u3_ + 1)
            rw [hv21_e]
            refine zw_goto (pc := 58) (tgt := 9) (by decide) (zdal_p dlB_Group_countKept_131 (i := 7) rfl) ?_
            refine zW_le [some (.ref (d_ + 1)), some (.int (Int32.ofInt a0_)), some (.int (Int32.ofInt a1_)), some (.int (Int32.ofInt a2_)), some (.int (Int32.ofInt u1_)), some (.int (Int32.ofInt v20_)), some (.int (Int32.ofInt v21_)), none] (⟨rfl, rfl, rfl, rfl, rfl, rfl, rfl, trivial⟩) ?_
            exact ih_9 u1_ hu1_a hu1_b v20_ hv20_a hv20_b v21_ hv21_a hv21_b (show 0 ≤ v21_ by first | with_reducible assumption | assumption | omega) (by omega)
        · skip
          refine zr_iinc (pc := 36) (i := 4) (a := u1_) (n := 1) (L2 := [some (.ref (d_ + 1)), some (.int (Int32.ofInt a0_)), some (.int (Int32.ofInt a1_)), some (.int (Int32.ofInt a2_)), some (.int (Int32.ofInt (u1_ + 1))), some (.int (Int32.ofInt u2_)), some (.int (Int32.ofInt u3_)), some (.int (Int32.ofInt v11_))]) rfl (by decide) rfl (zdal_p dlB_Group_countKept_130 (i := 20) rfl) ?_
          obtain ⟨v22_, hv22_a, hv22_b, hv22_e, hv22_d⟩ := zk_gen (u1_ + 1)
          rw [hv22_e]
          refine zw_iload (pc := 39) (i := 7) (x := Int32.ofInt v11_) rfl (zdal_p dlB_Group_countKept_130 (i := 21) rfl) ?_
          refine zw_iload (pc := 41) (i := 7) (x := Int32.ofInt v11_) rfl (zdal_p dlB_Group_countKept_130 (i := 22) rfl) ?_
          refine zr_ineg (pc := 43) (zdal_p dlB_Group_countKept_130 (i := 23) rfl) ?_
          refine zr_nmI (fun v23_ hv23_ => ?_)
          obtain ⟨hv23_a, hv23_b⟩ := hv23_
          refine zr_iand (pc := 44) (zdal_p dlB_Group_countKept_131 (i := 0) rfl) ?_
          have hr24_ := zand_r v11_ v23_
          refine zr_nmI (fun v25_ hv25_ => ?_)
          obtain ⟨hv25_a, hv25_b⟩ := hv25_
          refine zw_iconst (pc := 45) (v := Int32.ofInt 1) (by decide) (zdal_p dlB_Group_countKept_131 (i := 1) rfl) ?_
          refine zw_iload (pc := 46) (i := 6) (x := Int32.ofInt u3_) rfl (zdal_p dlB_Group_countKept_131 (i := 2) rfl) ?_
          refine zr_ishl (pc := 48) (zdal_p dlB_Group_countKept_131 (i := 3) rfl) ?_
          have hr26_ := zshl_r 1 u3_
          refine zr_nmI (fun v27_ hv27_ => ?_)
          obtain ⟨hv27_a, hv27_b⟩ := hv27_
          refine zr_icmp_ne (pc := 49) (tgt := 55) ⟨hv25_a, hv25_b⟩ ⟨hv27_a, hv27_b⟩ (by decide) (zdal_p dlB_Group_countKept_131 (i := 4) rfl) (fun hc_49 => ?_) (fun hc_49 => ?_)
          · skip
            refine zr_iinc (pc := 55) (i := 6) (a := u3_) (n := 1) (L2 := [some (.ref (d_ + 1)), some (.int (Int32.ofInt a0_)), some (.int (Int32.ofInt a1_)), some (.int (Int32.ofInt a2_)), some (.int (Int32.ofInt v22_)), some (.int (Int32.ofInt u2_)), some (.int (Int32.ofInt (u3_ + 1))), some (.int (Int32.ofInt v11_))]) rfl (by decide) rfl (zdal_p dlB_Group_countKept_131 (i := 6) rfl) ?_
            obtain ⟨v28_, hv28_a, hv28_b, hv28_e, hv28_d⟩ := zk_gen (u3_ + 1)
            rw [hv28_e]
            refine zw_goto (pc := 58) (tgt := 9) (by decide) (zdal_p dlB_Group_countKept_131 (i := 7) rfl) ?_
            refine zW_le [some (.ref (d_ + 1)), some (.int (Int32.ofInt a0_)), some (.int (Int32.ofInt a1_)), some (.int (Int32.ofInt a2_)), some (.int (Int32.ofInt v22_)), some (.int (Int32.ofInt u2_)), some (.int (Int32.ofInt v28_)), none] (⟨rfl, rfl, rfl, rfl, rfl, rfl, rfl, trivial⟩) ?_
            exact ih_9 v22_ hv22_a hv22_b u2_ hu2_a hu2_b v28_ hv28_a hv28_b (show 0 ≤ v28_ by first | with_reducible assumption | assumption | omega) (by omega)
          · skip
            refine zr_iinc (pc := 52) (i := 5) (a := u2_) (n := 1) (L2 := [some (.ref (d_ + 1)), some (.int (Int32.ofInt a0_)), some (.int (Int32.ofInt a1_)), some (.int (Int32.ofInt a2_)), some (.int (Int32.ofInt v22_)), some (.int (Int32.ofInt (u2_ + 1))), some (.int (Int32.ofInt u3_)), some (.int (Int32.ofInt v11_))]) rfl (by decide) rfl (zdal_p dlB_Group_countKept_131 (i := 5) rfl) ?_
            obtain ⟨v29_, hv29_a, hv29_b, hv29_e, hv29_d⟩ := zk_gen (u2_ + 1)
            rw [hv29_e]
            refine zr_iinc (pc := 55) (i := 6) (a := u3_) (n := 1) (L2 := [some (.ref (d_ + 1)), some (.int (Int32.ofInt a0_)), some (.int (Int32.ofInt a1_)), some (.int (Int32.ofInt a2_)), some (.int (Int32.ofInt v22_)), some (.int (Int32.ofInt v29_)), some (.int (Int32.ofInt (u3_ + 1))), some (.int (Int32.ofInt v11_))]) rfl (by decide) rfl (zdal_p dlB_Group_countKept_131 (i := 6) rfl) ?_
            obtain ⟨v30_, hv30_a, hv30_b, hv30_e, hv30_d⟩ := zk_gen (u3_ + 1)
            rw [hv30_e]
            refine zw_goto (pc := 58) (tgt := 9) (by decide) (zdal_p dlB_Group_countKept_131 (i := 7) rfl) ?_
            refine zW_le [some (.ref (d_ + 1)), some (.int (Int32.ofInt a0_)), some (.int (Int32.ofInt a1_)), some (.int (Int32.ofInt a2_)), some (.int (Int32.ofInt v22_)), some (.int (Int32.ofInt v29_)), some (.int (Int32.ofInt v30_)), none] (⟨rfl, rfl, rfl, rfl, rfl, rfl, rfl, trivial⟩) ?_
            exact ih_9 v22_ hv22_a hv22_b v29_ hv29_a hv29_b v30_ hv30_a hv30_b (show 0 ≤ v30_ by first | with_reducible assumption | assumption | omega) (by omega)
  exact lp_9 _ 0 (by decide) (by decide) 0 (by decide) (by decide) 0 (by decide) (by decide) (show 0 ≤ (0 : Int) by first | with_reducible assumption | assumption | omega) (Nat.lt_succ_self _)
set_option maxHeartbeats 4000000 in
theorem u_T_takeX (l : Launch) (d_ : Nat) (Mz : zMem) (hW : zKW d_ Mz) (hnow : zf Mz 0 2 = some (d_ + 0)) (a0_ : Int) (ha0_a : -2147483648 ≤ a0_) (ha0_b : a0_ < 2147483648) (a1_ : Int) (ha1_a : -2147483648 ≤ a1_) (ha1_b : a1_ < 2147483648) : zC l m_T_take 0 0 [.ref 0, .int (Int32.ofInt a0_), .int (Int32.ofInt a1_)] Mz (zqcI d_ [] [] [(0, 7), (0, 8)] [25, 27] Mz (fun v N => True)) := by
  refine zC_of (L0 := [some (.ref 0), some (.int (Int32.ofInt a0_)), some (.int (Int32.ofInt a1_)), none, none]) md_T_take (Nat.le_of_ble_eq_true rfl) rfl ?_ zQ0
  have hf : zFc d_ [] [] [(0, 7), (0, 8)] [25, 27] Mz Mz := zFc.rf
  refine zw_iload_n (pc := 0) (n := 2) (x := Int32.ofInt a1_) rfl (zdal_p dlB_T_take_127 (i := 0) rfl) ?_
  refine zr_if_lt (pc := 1) (tgt := 14) ⟨ha1_a, ha1_b⟩ (by decide) (zdal_p dlB_T_take_127 (i := 1) rfl) (fun hc_1 => ?_) (fun hc_1 => ?_)
  · skip
    refine zw_iconst (pc := 14) (v := Int32.ofInt 0) (by decide) (zdal_p dlB_T_take_127 (i := 7) rfl) ?_
    refine zw_istore_n (pc := 15) (i := 3) (L2 := [some (.ref 0), some (.int (Int32.ofInt a0_)), some (.int (Int32.ofInt a1_)), some (.int (Int32.ofInt 0)), none]) rfl (by decide) rfl (zdal_p dlB_T_take_127 (i := 8) rfl) ?_
    refine zw_iload_n (pc := 16) (n := 1) (x := Int32.ofInt a0_) rfl (zdal_p dlB_T_take_127 (i := 9) rfl) ?_
    refine zr_if_eq (pc := 17) (tgt := 36) ⟨ha0_a, ha0_b⟩ (by decide) (zdal_p dlB_T_take_127 (i := 10) rfl) (fun hc_17 => ?_) (fun hc_17 => ?_)
    · skip
      refine zw_iconst (pc := 36) (v := Int32.ofInt 0) (by decide) d_T_take_36 ?_
      refine zw_istore (pc := 37) (i := 4) (L2 := [some (.ref 0), some (.int (Int32.ofInt a0_)), some (.int (Int32.ofInt a1_)), some (.int (Int32.ofInt 0)), some (.int (Int32.ofInt 0))]) (by decide) rfl d_T_take_37 ?_
      have lp_39 : ∀ (n : Nat) (u1_ : Int) (hu1_a : -2147483648 ≤ u1_) (hu1_b : u1_ < 2147483648) (N2_ : zMem) (hs3_ : zFc d_ [] [] [] [27] Mz N2_) (i4_ : 0 ≤ u1_), (ze Mz (d_ + 12) 7 - u1_).toNat < n → zW l m_T_take (zn Mz + 0, zw Mz + 0) N2_ 39 [some (.ref 0), some (.int (Int32.ofInt a0_)), some (.int (Int32.ofInt a1_)), some (.int (Int32.ofInt 0)), some (.int (Int32.ofInt u1_))] [] (zqcI d_ [] [] [(0, 7), (0, 8)] [25, 27] Mz (fun v N => True)) := by
        intro n
        induction n with
        | zero =>
          intro u1_ hu1_a hu1_b N2_ hs3_ i4_ h0
          exact absurd h0 (Nat.not_lt_zero _)
        | succ n ih_39 =>
          intro u1_ hu1_a hu1_b N2_ hs3_ i4_ hlt_39
          have hf_N2_ : zFc d_ [] [] [(0, 7), (0, 8)] [25, 27] Mz N2_ := hf.tr hs3_ (by decide) (by decide) (by decide) (by decide)
          refine zw_iload (pc := 39) (i := 4) (x := Int32.ofInt u1_) rfl d_T_take_39 ?_
          refine zw_aload_n (pc := 41) (n := 0) (x := 0) rfl d_T_take_41 ?_
          refine zw_getF (pc := 42) f_T_28 rfl ((hf_N2_.w hW).ka (o := 0) (by decide)) (hf_N2_.now hnow) d_T_take_42 ?_
          refine zw_getF (pc := 45) f_T_85 rfl ((hf_N2_.w hW).kr (o := 0) (by decide)) ((hf_N2_.w hW).lr (o := 0) (s := 1) (r := 12) (by decide)) d_T_take_45 ?_
          refine zk_getI (pc := 48) f_T_94 rfl ((hf_N2_.w hW).kr (o := 12) (by decide)) d_T_take_48 ?_
          rw [hf_N2_.e (by decide)]
          have hr5_ := ze_r Mz (d_ + 12) 7
          refine zr_icmp_ge (pc := 51) (tgt := 103) ⟨hu1_a, hu1_b⟩ ⟨(ze_r Mz (d_ + 12) 7).1, (ze_r Mz (d_ + 12) 7).2⟩ (by decide) d_T_take_51 (fun hc_51 => ?_) (fun hc_51 => ?_)
          · skip
            refine zw_aload_n (pc := 103) (n := 0) (x := 0) rfl d_T_take_103 ?_
            refine zw_getF (pc := 104) f_T_28 rfl ((hf_N2_.w hW).ka (o := 0) (by decide)) (hf_N2_.now hnow) d_T_take_104 ?_
            refine zw_getF (pc := 107) f_T_169 rfl ((hf_N2_.w hW).kr (o := 0) (by decide)) ((hf_N2_.w hW).lr (o := 0) (s := 2) (r := 23) (by decide)) d_T_take_107 ?_
            refine zw_bipush (pc := 110) (v := Int32.ofInt 39) (by decide) d_T_take_110 ?_
            refine zk_callV hf_N2_.x (pc := 112) [.int (Int32.ofInt 39)] [] l_T_296 (u_Sums_solveX l d_ N2_ (hf_N2_.w hW) 39 (by decide) (by decide)) rfl rfl ((hf_N2_.w hW).kr (o := 23) (by decide)) (by decide) (by decide) (Nat.le_of_ble_eq_true rfl) d_T_take_112 ?_
            rintro _ N6_ ⟨rfl, hsN6_, -⟩
            have hf_N6_ : zFc d_ [] [] [(0, 7), (0, 8)] [25, 27] Mz N6_ := hf_N2_.tr hsN6_ (by decide) (by decide) (by decide) (by decide)
            show zW l m_T_take (zn Mz + 0, zw Mz + 0) N6_ 115 [some (.ref 0), some (.int (Int32.ofInt a0_)), some (.int (Int32.ofInt a1_)), some (.int (Int32.ofInt 0)), some (.int (Int32.ofInt u1_))] [] _
            refine zw_aload_n (pc := 115) (n := 0) (x := 0) rfl d_T_take_115 ?_
            refine zw_getF (pc := 116) f_T_28 rfl ((hf_N6_.w hW).ka (o := 0) (by decide)) (hf_N6_.now hnow) d_T_take_116 ?_
            refine zw_bipush (pc := 119) (v := Int32.ofInt 39) (by decide) d_T_take_119 ?_
            refine zk_callV hf_N6_.x (pc := 121) [.int (Int32.ofInt 39)] [] l_T_284 (u_Troupe_becomeX l d_ N6_ (hf_N6_.w hW) 39 (by decide) (by decide)) rfl rfl ((hf_N6_.w hW).kr (o := 0) (by decide)) (by decide) (by decide) (Nat.le_of_ble_eq_true rfl) d_T_take_121 ?_
            rintro _ N8_ ⟨rfl, hsN8_, -⟩
            have hf_N8_ : zFc d_ [] [] [(0, 7), (0, 8)] [25, 27] Mz N8_ := hf_N6_.tr hsN8_ (by decide) (by decide) (by decide) (by decide)
            show zW l m_T_take (zn Mz + 0, zw Mz + 0) N8_ 124 [some (.ref 0), some (.int (Int32.ofInt a0_)), some (.int (Int32.ofInt a1_)), some (.int (Int32.ofInt 0)), some (.int (Int32.ofInt u1_))] [] _
            refine zw_aload_n (pc := 124) (n := 0) (x := 0) rfl d_T_take_124 ?_
            refine zw_getF (pc := 125) f_T_28 rfl ((hf_N8_.w hW).ka (o := 0) (by decide)) (hf_N8_.now hnow) d_T_take_125 ?_
            refine zw_getF (pc := 128) f_T_169 rfl ((hf_N8_.w hW).kr (o := 0) (by decide)) ((hf_N8_.w hW).lr (o := 0) (s := 2) (r := 23) (by decide)) d_T_take_128 ?_
            refine zw_iconst (pc := 131) (v := Int32.ofInt 0) (by decide) d_T_take_131 ?_
            refine zw_iconst (pc := 132) (v := Int32.ofInt 0) (by decide) d_T_take_132 ?_
            refine zk_callV hf_N8_.x (pc := 133) [.int (Int32.ofInt 0), .int (Int32.ofInt 0)] [] l_T_250 (u_Sums_markOfX l d_ N8_ (hf_N8_.w hW) 0 (by decide) (by decide) 0 (by decide) (by decide)) rfl rfl ((hf_N8_.w hW).kr (o := 23) (by decide)) (by decide) (by decide) (Nat.le_of_ble_eq_true rfl) d_T_take_133 ?_
            rintro _ N10_ ⟨v11_, rfl, ⟨hv11_a, hv11_b⟩, hsN10_, -⟩
            obtain rfl := hsN10_.eq.symm
            show zW l m_T_take (zn Mz + 0, zw Mz + 0) N8_ 136 [some (.ref 0), some (.int (Int32.ofInt a0_)), some (.int (Int32.ofInt a1_)), some (.int (Int32.ofInt 0)), some (.int (Int32.ofInt u1_))] [.long (Int64.ofInt v11_)] _
            refine zr_l2i (pc := 136) d_T_take_136 ?_
            refine zr_nmI (fun v12_ hv12_ => ?_)
            obtain ⟨hv12_a, hv12_b⟩ := hv12_
            exact zk_iret (pc := 137) (ty := .int) rfl rfl ⟨by omega, by omega⟩ hf_N8_ trivial d_T_take_137
          · skip
            refine zw_aload_n (pc := 54) (n := 0) (x := 0) rfl d_T_take_54 ?_
            refine zw_getF (pc := 55) f_T_28 rfl ((hf_N2_.w hW).ka (o := 0) (by decide)) (hf_N2_.now hnow) d_T_take_55 ?_
            refine zw_getF (pc := 58) f_T_169 rfl ((hf_N2_.w hW).kr (o := 0) (by decide)) ((hf_N2_.w hW).lr (o := 0) (s := 2) (r := 23) (by decide)) d_T_take_58 ?_
            refine zw_getF (pc := 61) f_T_262 rfl ((hf_N2_.w hW).kr (o := 23) (by decide)) ((hf_N2_.w hW).lr (o := 23) (s := 2) (r := 26) (by decide)) d_T_take_61 ?_
            refine zw_iload (pc := 64) (i := 4) (x := Int32.ofInt u1_) rfl d_T_take_64 ?_
            refine zw_aload_n (pc := 66) (n := 0) (x := 0) rfl d_T_take_66 ?_
            refine zw_getF (pc := 67) f_T_28 rfl ((hf_N2_.w hW).ka (o := 0) (by decide)) (hf_N2_.now hnow) d_T_take_67 ?_
            refine zw_getF (pc := 70) f_T_61 rfl ((hf_N2_.w hW).kr (o := 0) (by decide)) ((hf_N2_.w hW).lr (o := 0) (s := 0) (r := 1) (by decide)) d_T_take_70 ?_
            refine zw_iload_n (pc := 73) (n := 1) (x := Int32.ofInt a0_) rfl d_T_take_73 ?_
            refine zw_iload_n (pc := 74) (n := 2) (x := Int32.ofInt a1_) rfl d_T_take_74 ?_
            refine zw_aload_n (pc := 75) (n := 0) (x := 0) rfl d_T_take_75 ?_
            refine zw_getF (pc := 76) f_T_28 rfl ((hf_N2_.w hW).ka (o := 0) (by decide)) (hf_N2_.now hnow) d_T_take_76 ?_
            refine zw_getF (pc := 79) f_T_85 rfl ((hf_N2_.w hW).kr (o := 0) (by decide)) ((hf_N2_.w hW).lr (o := 0) (s := 1) (r := 12) (by decide)) d_T_take_79 ?_
            refine zw_getF (pc := 82) f_T_146 rfl ((hf_N2_.w hW).kr (o := 12) (by decide)) ((hf_N2_.w hW).lr (o := 12) (s := 4) (r := 19) (by decide)) d_T_take_82 ?_
            refine zw_iload (pc := 85) (i := 4) (x := Int32.ofInt u1_) rfl d_T_take_85 ?_
            refine zk_atG hf_N2_.x (pc := 87) l_T_118 ((hf_N2_.w hW).kr (o := 19) (by decide)) ((hf_N2_.w hW).lr (o := 19) (s := 0) (r := 20) (by decide)) ((hf_N2_.w hW).rr (o := 20) (t := 1) (n := 27) (by decide)) (by decide) ⟨by omega, by omega⟩ (by decide) (Nat.le_of_ble_eq_true rfl) d_T_take_87 (fun v13_ hv13_ hv13_a hv13_b => ?_)
            clear hv13_
            refine zk_callV hf_N2_.x (pc := 90) [.int (Int32.ofInt a0_), .int (Int32.ofInt a1_), .int (Int32.ofInt v13_)] [.int (Int32.ofInt u1_), .ref (d_ + 26)] l_T_287 (u_Group_countKeptX l d_ N2_ (hf_N2_.w hW) a0_ ha0_a ha0_b a1_ ha1_a ha1_b v13_ hv13_a hv13_b) rfl rfl ((hf_N2_.w hW).kr (o := 1) (by decide)) (by decide) (by decide) (Nat.le_of_ble_eq_true rfl) d_T_take_90 ?_
            rintro _ N14_ ⟨v15_, rfl, ⟨hv15_a, hv15_b⟩, hsN14_, -⟩
            obtain rfl := hsN14_.eq.symm
            show zW l m_T_take (zn Mz + 0, zw Mz + 0) N2_ 93 [some (.ref 0), some (.int (Int32.ofInt a0_)), some (.int (Int32.ofInt a1_)), some (.int (Int32.ofInt 0)), some (.int (Int32.ofInt u1_))] [.int (Int32.ofInt v15_), .int (Int32.ofInt u1_), .ref (d_ + 26)] _
            refine zr_i2l (pc := 93) ⟨hv15_a, hv15_b⟩ d_T_take_93 ?_
            refine zk_stGJ hf_N2_.x (pc := 94) (o := 27) (by decide) l_T_290 ((hf_N2_.w hW).kr (o := 26) (by decide)) ((hf_N2_.w hW).lr (o := 26) (s := 0) (r := 27) (by decide)) ((hf_N2_.w hW).rr (o := 27) (t := 2) (n := 27) (by decide)) (by decide) ⟨by omega, by omega⟩ (by decide) (Nat.le_of_ble_eq_true rfl) d_T_take_94 (fun N16_ hsN16_ => ?_)
            have hf_N16_ : zFc d_ [] [] [(0, 7), (0, 8)] [25, 27] Mz N16_ := hf_N2_.tr hsN16_ (by decide) (by decide) (by decide) (by decide)
            have hb0_N16_ : zFc d_ [] [] [] [27] Mz N16_ := hs3_.tr hsN16_ (by decide) (by decide) (by decide) (by decide)
            refine zr_iinc (pc := 97) (i := 4) (a := u1_) (n := 1) (L2 := [some (.ref 0), some (.int (Int32.ofInt a0_)), some (.int (Int32.ofInt a1_)), some (.int (Int32.ofInt 0)), some (.int (Int32.ofInt (u1_ + 1)))]) rfl (by decide) rfl d_T_take_97 ?_
            obtain ⟨v17_, hv17_a, hv17_b, hv17_e, hv17_d⟩ := zk_gen (u1_ + 1)
            rw [hv17_e]
            refine zw_goto (pc := 100) (tgt := 39) (by decide) d_T_take_100 ?_
            exact ih_39 v17_ hv17_a hv17_b N16_ hb0_N16_ (show 0 ≤ v17_ by first | with_reducible assumption | assumption | omega) (by omega)
      exact lp_39 _ 0 (by decide) (by decide) Mz zFc.rf (show 0 ≤ (0 : Int) by first | with_reducible assumption | assumption | omega) (Nat.lt_succ_self _)
    · skip
      refine zw_iload_n (pc := 20) (n := 3) (x := Int32.ofInt 0) rfl (zdal_p dlB_T_take_127 (i := 11) rfl) ?_
      refine zr_if_eq (pc := 21) (tgt := 34) ⟨(by decide), (by decide)⟩ (by decide) (zdal_p dlB_T_take_127 (i := 12) rfl) (fun hc_21 => ?_) (fun hc_21 => ?_)
      · skip
        refine zw_iconst (pc := 34) (v := Int32.ofInt (-1)) (by decide) (zdal_p dlB_T_take_127 (i := 19) rfl) ?_
        exact zk_iret (pc := 35) (ty := .int) rfl rfl ⟨by omega, by omega⟩ hf trivial (zdal_p dlB_T_take_127 (i := 20) rfl)
      · skip
        exact absurd hc_21 (by decide)
  · skip
    refine zw_iload_n (pc := 4) (n := 2) (x := Int32.ofInt a1_) rfl (zdal_p dlB_T_take_127 (i := 2) rfl) ?_
    refine zw_bipush (pc := 5) (v := Int32.ofInt 6) (by decide) (zdal_p dlB_T_take_127 (i := 3) rfl) ?_
    refine zr_icmp_gt (pc := 7) (tgt := 14) ⟨ha1_a, ha1_b⟩ ⟨(by decide), (by decide)⟩ (by decide) (zdal_p dlB_T_take_127 (i := 4) rfl) (fun hc_7 => ?_) (fun hc_7 => ?_)
    · skip
      refine zw_iconst (pc := 14) (v := Int32.ofInt 0) (by decide) (zdal_p dlB_T_take_127 (i := 7) rfl) ?_
      refine zw_istore_n (pc := 15) (i := 3) (L2 := [some (.ref 0), some (.int (Int32.ofInt a0_)), some (.int (Int32.ofInt a1_)), some (.int (Int32.ofInt 0)), none]) rfl (by decide) rfl (zdal_p dlB_T_take_127 (i := 8) rfl) ?_
      refine zw_iload_n (pc := 16) (n := 1) (x := Int32.ofInt a0_) rfl (zdal_p dlB_T_take_127 (i := 9) rfl) ?_
      refine zr_if_eq (pc := 17) (tgt := 36) ⟨ha0_a, ha0_b⟩ (by decide) (zdal_p dlB_T_take_127 (i := 10) rfl) (fun hc_17 => ?_) (fun hc_17 => ?_)
      · skip
        refine zw_iconst (pc := 36) (v := Int32.ofInt 0) (by decide) d_T_take_36 ?_
        refine zw_istore (pc := 37) (i := 4) (L2 := [some (.ref 0), some (.int (Int32.ofInt a0_)), some (.int (Int32.ofInt a1_)), some (.int (Int32.ofInt 0)), some (.int (Int32.ofInt 0))]) (by decide) rfl d_T_take_37 ?_
        have lp_39 : ∀ (n : Nat) (u18_ : Int) (hu18_a : -2147483648 ≤ u18_) (hu18_b : u18_ < 2147483648) (N19_ : zMem) (hs20_ : zFc d_ [] [] [] [27] Mz N19_) (i21_ : 0 ≤ u18_), (ze Mz (d_ + 12) 7 - u18_).toNat < n → zW l m_T_take (zn Mz + 0, zw Mz + 0) N19_ 39 [some (.ref 0), some (.int (Int32.ofInt a0_)), some (.int (Int32.ofInt a1_)), some (.int (Int32.ofInt 0)), some (.int (Int32.ofInt u18_))] [] (zqcI d_ [] [] [(0, 7), (0, 8)] [25, 27] Mz (fun v N => True)) := by
          intro n
          induction n with
          | zero =>
            intro u18_ hu18_a hu18_b N19_ hs20_ i21_ h0
            exact absurd h0 (Nat.not_lt_zero _)
          | succ n ih_39 =>
            intro u18_ hu18_a hu18_b N19_ hs20_ i21_ hlt_39
            have hf_N19_ : zFc d_ [] [] [(0, 7), (0, 8)] [25, 27] Mz N19_ := hf.tr hs20_ (by decide) (by decide) (by decide) (by decide)
            refine zw_iload (pc := 39) (i := 4) (x := Int32.ofInt u18_) rfl d_T_take_39 ?_
            refine zw_aload_n (pc := 41) (n := 0) (x := 0) rfl d_T_take_41 ?_
            refine zw_getF (pc := 42) f_T_28 rfl ((hf_N19_.w hW).ka (o := 0) (by decide)) (hf_N19_.now hnow) d_T_take_42 ?_
            refine zw_getF (pc := 45) f_T_85 rfl ((hf_N19_.w hW).kr (o := 0) (by decide)) ((hf_N19_.w hW).lr (o := 0) (s := 1) (r := 12) (by decide)) d_T_take_45 ?_
            refine zk_getI (pc := 48) f_T_94 rfl ((hf_N19_.w hW).kr (o := 12) (by decide)) d_T_take_48 ?_
            rw [hf_N19_.e (by decide)]
            have hr22_ := ze_r Mz (d_ + 12) 7
            refine zr_icmp_ge (pc := 51) (tgt := 103) ⟨hu18_a, hu18_b⟩ ⟨(ze_r Mz (d_ + 12) 7).1, (ze_r Mz (d_ + 12) 7).2⟩ (by decide) d_T_take_51 (fun hc_51 => ?_) (fun hc_51 => ?_)
            · skip
              refine zw_aload_n (pc := 103) (n := 0) (x := 0) rfl d_T_take_103 ?_
              refine zw_getF (pc := 104) f_T_28 rfl ((hf_N19_.w hW).ka (o := 0) (by decide)) (hf_N19_.now hnow) d_T_take_104 ?_
              refine zw_getF (pc := 107) f_T_169 rfl ((hf_N19_.w hW).kr (o := 0) (by decide)) ((hf_N19_.w hW).lr (o := 0) (s := 2) (r := 23) (by decide)) d_T_take_107 ?_
              refine zw_bipush (pc := 110) (v := Int32.ofInt 39) (by decide) d_T_take_110 ?_
              refine zk_callV hf_N19_.x (pc := 112) [.int (Int32.ofInt 39)] [] l_T_296 (u_Sums_solveX l d_ N19_ (hf_N19_.w hW) 39 (by decide) (by decide)) rfl rfl ((hf_N19_.w hW).kr (o := 23) (by decide)) (by decide) (by decide) (Nat.le_of_ble_eq_true rfl) d_T_take_112 ?_
              rintro _ N23_ ⟨rfl, hsN23_, -⟩
              have hf_N23_ : zFc d_ [] [] [(0, 7), (0, 8)] [25, 27] Mz N23_ := hf_N19_.tr hsN23_ (by decide) (by decide) (by decide) (by decide)
              show zW l m_T_take (zn Mz + 0, zw Mz + 0) N23_ 115 [some (.ref 0), some (.int (Int32.ofInt a0_)), some (.int (Int32.ofInt a1_)), some (.int (Int32.ofInt 0)), some (.int (Int32.ofInt u18_))] [] _
              refine zw_aload_n (pc := 115) (n := 0) (x := 0) rfl d_T_take_115 ?_
              refine zw_getF (pc := 116) f_T_28 rfl ((hf_N23_.w hW).ka (o := 0) (by decide)) (hf_N23_.now hnow) d_T_take_116 ?_
              refine zw_bipush (pc := 119) (v := Int32.ofInt 39) (by decide) d_T_take_119 ?_
              refine zk_callV hf_N23_.x (pc := 121) [.int (Int32.ofInt 39)] [] l_T_284 (u_Troupe_becomeX l d_ N23_ (hf_N23_.w hW) 39 (by decide) (by decide)) rfl rfl ((hf_N23_.w hW).kr (o := 0) (by decide)) (by decide) (by decide) (Nat.le_of_ble_eq_true rfl) d_T_take_121 ?_
              rintro _ N25_ ⟨rfl, hsN25_, -⟩
              have hf_N25_ : zFc d_ [] [] [(0, 7), (0, 8)] [25, 27] Mz N25_ := hf_N23_.tr hsN25_ (by decide) (by decide) (by decide) (by decide)
              show zW l m_T_take (zn Mz + 0, zw Mz + 0) N25_ 124 [some (.ref 0), some (.int (Int32.ofInt a0_)), some (.int (Int32.ofInt a1_)), some (.int (Int32.ofInt 0)), some (.int (Int32.ofInt u18_))] [] _
              refine zw_aload_n (pc := 124) (n := 0) (x := 0) rfl d_T_take_124 ?_
              refine zw_getF (pc := 125) f_T_28 rfl ((hf_N25_.w hW).ka (o := 0) (by decide)) (hf_N25_.now hnow) d_T_take_125 ?_
              refine zw_getF (pc := 128) f_T_169 rfl ((hf_N25_.w hW).kr (o := 0) (by decide)) ((hf_N25_.w hW).lr (o := 0) (s := 2) (r := 23) (by decide)) d_T_take_128 ?_
              refine zw_iconst (pc := 131) (v := Int32.ofInt 0) (by decide) d_T_take_131 ?_
              refine zw_iconst (pc := 132) (v := Int32.ofInt 0) (by decide) d_T_take_132 ?_
              refine zk_callV hf_N25_.x (pc := 133) [.int (Int32.ofInt 0), .int (Int32.ofInt 0)] [] l_T_250 (u_Sums_markOfX l d_ N25_ (hf_N25_.w hW) 0 (by decide) (by decide) 0 (by decide) (by decide)) rfl rfl ((hf_N25_.w hW).kr (o := 23) (by decide)) (by decide) (by decide) (Nat.le_of_ble_eq_true rfl) d_T_take_133 ?_
              rintro _ N27_ ⟨v28_, rfl, ⟨hv28_a, hv28_b⟩, hsN27_, -⟩
              obtain rfl := hsN27_.eq.symm
              show zW l m_T_take (zn Mz + 0, zw Mz + 0) N25_ 136 [some (.ref 0), some (.int (Int32.ofInt a0_)), some (.int (Int32.ofInt a1_)), some (.int (Int32.ofInt 0)), some (.int (Int32.ofInt u18_))] [.long (Int64.ofInt v28_)] _
              refine zr_l2i (pc := 136) d_T_take_136 ?_
              refine zr_nmI (fun v29_ hv29_ => ?_)
              obtain ⟨hv29_a, hv29_b⟩ := hv29_
              exact zk_iret (pc := 137) (ty := .int) rfl rfl ⟨by omega, by omega⟩ hf_N25_ trivial d_T_take_137
            · skip
              refine zw_aload_n (pc := 54) (n := 0) (x := 0) rfl d_T_take_54 ?_
              refine zw_getF (pc := 55) f_T_28 rfl ((hf_N19_.w hW).ka (o := 0) (by decide)) (hf_N19_.now hnow) d_T_take_55 ?_
              refine zw_getF (pc := 58) f_T_169 rfl ((hf_N19_.w hW).kr (o := 0) (by decide)) ((hf_N19_.w hW).lr (o := 0) (s := 2) (r := 23) (by decide)) d_T_take_58 ?_
              refine zw_getF (pc := 61) f_T_262 rfl ((hf_N19_.w hW).kr (o := 23) (by decide)) ((hf_N19_.w hW).lr (o := 23) (s := 2) (r := 26) (by decide)) d_T_take_61 ?_
              refine zw_iload (pc := 64) (i := 4) (x := Int32.ofInt u18_) rfl d_T_take_64 ?_
              refine zw_aload_n (pc := 66) (n := 0) (x := 0) rfl d_T_take_66 ?_
              refine zw_getF (pc := 67) f_T_28 rfl ((hf_N19_.w hW).ka (o := 0) (by decide)) (hf_N19_.now hnow) d_T_take_67 ?_
              refine zw_getF (pc := 70) f_T_61 rfl ((hf_N19_.w hW).kr (o := 0) (by decide)) ((hf_N19_.w hW).lr (o := 0) (s := 0) (r := 1) (by decide)) d_T_take_70 ?_
              refine zw_iload_n (pc := 73) (n := 1) (x := Int32.ofInt a0_) rfl d_T_take_73 ?_
              refine zw_iload_n (pc := 74) (n := 2) (x := Int32.ofInt a1_) rfl d_T_take_74 ?_
              refine zw_aload_n (pc := 75) (n := 0) (x := 0) rfl d_T_take_75 ?_
              refine zw_getF (pc := 76) f_T_28 rfl ((hf_N19_.w hW).ka (o := 0) (by decide)) (hf_N19_.now hnow) d_T_take_76 ?_
              refine zw_getF (pc := 79) f_T_85 rfl ((hf_N19_.w hW).kr (o := 0) (by decide)) ((hf_N19_.w hW).lr (o := 0) (s := 1) (r := 12) (by decide)) d_T_take_79 ?_
              refine zw_getF (pc := 82) f_T_146 rfl ((hf_N19_.w hW).kr (o := 12) (by decide)) ((hf_N19_.w hW).lr (o := 12) (s := 4) (r := 19) (by decide)) d_T_take_82 ?_
              refine zw_iload (pc := 85) (i := 4) (x := Int32.ofInt u18_) rfl d_T_take_85 ?_
              refine zk_atG hf_N19_.x (pc := 87) l_T_118 ((hf_N19_.w hW).kr (o := 19) (by decide)) ((hf_N19_.w hW).lr (o := 19) (s := 0) (r := 20) (by decide)) ((hf_N19_.w hW).rr (o := 20) (t := 1) (n := 27) (by decide)) (by decide) ⟨by omega, by omega⟩ (by decide) (Nat.le_of_ble_eq_true rfl) d_T_take_87 (fun v30_ hv30_ hv30_a hv30_b => ?_)
              clear hv30_
              refine zk_callV hf_N19_.x (pc := 90) [.int (Int32.ofInt a0_), .int (Int32.ofInt a1_), .int (Int32.ofInt v30_)] [.int (Int32.ofInt u18_), .ref (d_ + 26)] l_T_287 (u_Group_countKeptX l d_ N19_ (hf_N19_.w hW) a0_ ha0_a ha0_b a1_ ha1_a ha1_b v30_ hv30_a hv30_b) rfl rfl ((hf_N19_.w hW).kr (o := 1) (by decide)) (by decide) (by decide) (Nat.le_of_ble_eq_true rfl) d_T_take_90 ?_
              rintro _ N31_ ⟨v32_, rfl, ⟨hv32_a, hv32_b⟩, hsN31_, -⟩
              obtain rfl := hsN31_.eq.symm
              show zW l m_T_take (zn Mz + 0, zw Mz + 0) N19_ 93 [some (.ref 0), some (.int (Int32.ofInt a0_)), some (.int (Int32.ofInt a1_)), some (.int (Int32.ofInt 0)), some (.int (Int32.ofInt u18_))] [.int (Int32.ofInt v32_), .int (Int32.ofInt u18_), .ref (d_ + 26)] _
              refine zr_i2l (pc := 93) ⟨hv32_a, hv32_b⟩ d_T_take_93 ?_
              refine zk_stGJ hf_N19_.x (pc := 94) (o := 27) (by decide) l_T_290 ((hf_N19_.w hW).kr (o := 26) (by decide)) ((hf_N19_.w hW).lr (o := 26) (s := 0) (r := 27) (by decide)) ((hf_N19_.w hW).rr (o := 27) (t := 2) (n := 27) (by decide)) (by decide) ⟨by omega, by omega⟩ (by decide) (Nat.le_of_ble_eq_true rfl) d_T_take_94 (fun N33_ hsN33_ => ?_)
              have hf_N33_ : zFc d_ [] [] [(0, 7), (0, 8)] [25, 27] Mz N33_ := hf_N19_.tr hsN33_ (by decide) (by decide) (by decide) (by decide)
              have hb0_N33_ : zFc d_ [] [] [] [27] Mz N33_ := hs20_.tr hsN33_ (by decide) (by decide) (by decide) (by decide)
              refine zr_iinc (pc := 97) (i := 4) (a := u18_) (n := 1) (L2 := [some (.ref 0), some (.int (Int32.ofInt a0_)), some (.int (Int32.ofInt a1_)), some (.int (Int32.ofInt 0)), some (.int (Int32.ofInt (u18_ + 1)))]) rfl (by decide) rfl d_T_take_97 ?_
              obtain ⟨v34_, hv34_a, hv34_b, hv34_e, hv34_d⟩ := zk_gen (u18_ + 1)
              rw [hv34_e]
              refine zw_goto (pc := 100) (tgt := 39) (by decide) d_T_take_100 ?_
              exact ih_39 v34_ hv34_a hv34_b N33_ hb0_N33_ (show 0 ≤ v34_ by first | with_reducible assumption | assumption | omega) (by omega)
        exact lp_39 _ 0 (by decide) (by decide) Mz zFc.rf (show 0 ≤ (0 : Int) by first | with_reducible assumption | assumption | omega) (Nat.lt_succ_self _)
      · skip
        refine zw_iload_n (pc := 20) (n := 3) (x := Int32.ofInt 0) rfl (zdal_p dlB_T_take_127 (i := 11) rfl) ?_
        refine zr_if_eq (pc := 21) (tgt := 34) ⟨(by decide), (by decide)⟩ (by decide) (zdal_p dlB_T_take_127 (i := 12) rfl) (fun hc_21 => ?_) (fun hc_21 => ?_)
        · skip
          refine zw_iconst (pc := 34) (v := Int32.ofInt (-1)) (by decide) (zdal_p dlB_T_take_127 (i := 19) rfl) ?_
          exact zk_iret (pc := 35) (ty := .int) rfl rfl ⟨by omega, by omega⟩ hf trivial (zdal_p dlB_T_take_127 (i := 20) rfl)
        · skip
          exact absurd hc_21 (by decide)
    · skip
      refine zw_iconst (pc := 10) (v := Int32.ofInt 1) (by decide) (zdal_p dlB_T_take_127 (i := 5) rfl) ?_
      refine zw_goto (pc := 11) (tgt := 15) (by decide) (zdal_p dlB_T_take_127 (i := 6) rfl) ?_
      refine zw_istore_n (pc := 15) (i := 3) (L2 := [some (.ref 0), some (.int (Int32.ofInt a0_)), some (.int (Int32.ofInt a1_)), some (.int (Int32.ofInt 1)), none]) rfl (by decide) rfl (zdal_p dlB_T_take_127 (i := 8) rfl) ?_
      refine zw_iload_n (pc := 16) (n := 1) (x := Int32.ofInt a0_) rfl (zdal_p dlB_T_take_127 (i := 9) rfl) ?_
      refine zr_if_eq (pc := 17) (tgt := 36) ⟨ha0_a, ha0_b⟩ (by decide) (zdal_p dlB_T_take_127 (i := 10) rfl) (fun hc_17 => ?_) (fun hc_17 => ?_)
      · skip
        refine zw_iconst (pc := 36) (v := Int32.ofInt 0) (by decide) d_T_take_36 ?_
        refine zw_istore (pc := 37) (i := 4) (L2 := [some (.ref 0), some (.int (Int32.ofInt a0_)), some (.int (Int32.ofInt a1_)), some (.int (Int32.ofInt 1)), some (.int (Int32.ofInt 0))]) (by decide) rfl d_T_take_37 ?_
        have lp_39 : ∀ (n : Nat) (u35_ : Int) (hu35_a : -2147483648 ≤ u35_) (hu35_b : u35_ < 2147483648) (N36_ : zMem) (hs37_ : zFc d_ [] [] [] [27] Mz N36_) (i38_ : 0 ≤ u35_), (ze Mz (d_ + 12) 7 - u35_).toNat < n → zW l m_T_take (zn Mz + 0, zw Mz + 0) N36_ 39 [some (.ref 0), some (.int (Int32.ofInt a0_)), some (.int (Int32.ofInt a1_)), some (.int (Int32.ofInt 1)), some (.int (Int32.ofInt u35_))] [] (zqcI d_ [] [] [(0, 7), (0, 8)] [25, 27] Mz (fun v N => True)) := by
          intro n
          induction n with
          | zero =>
            intro u35_ hu35_a hu35_b N36_ hs37_ i38_ h0
            exact absurd h0 (Nat.not_lt_zero _)
          | succ n ih_39 =>
            intro u35_ hu35_a hu35_b N36_ hs37_ i38_ hlt_39
            have hf_N36_ : zFc d_ [] [] [(0, 7), (0, 8)] [25, 27] Mz N36_ := hf.tr hs37_ (by decide) (by decide) (by decide) (by decide)
            refine zw_iload (pc := 39) (i := 4) (x := Int32.ofInt u35_) rfl d_T_take_39 ?_
            refine zw_aload_n (pc := 41) (n := 0) (x := 0) rfl d_T_take_41 ?_
            refine zw_getF (pc := 42) f_T_28 rfl ((hf_N36_.w hW).ka (o := 0) (by decide)) (hf_N36_.now hnow) d_T_take_42 ?_
            refine zw_getF (pc := 45) f_T_85 rfl ((hf_N36_.w hW).kr (o := 0) (by decide)) ((hf_N36_.w hW).lr (o := 0) (s := 1) (r := 12) (by decide)) d_T_take_45 ?_
            refine zk_getI (pc := 48) f_T_94 rfl ((hf_N36_.w hW).kr (o := 12) (by decide)) d_T_take_48 ?_
            rw [hf_N36_.e (by decide)]
            have hr39_ := ze_r Mz (d_ + 12) 7
            refine zr_icmp_ge (pc := 51) (tgt := 103) ⟨hu35_a, hu35_b⟩ ⟨(ze_r Mz (d_ + 12) 7).1, (ze_r Mz (d_ + 12) 7).2⟩ (by decide) d_T_take_51 (fun hc_51 => ?_) (fun hc_51 => ?_)
            · skip
              refine zw_aload_n (pc := 103) (n := 0) (x := 0) rfl d_T_take_103 ?_
              refine zw_getF (pc := 104) f_T_28 rfl ((hf_N36_.w hW).ka (o := 0) (by decide)) (hf_N36_.now hnow) d_T_take_104 ?_
              refine zw_getF (pc := 107) f_T_169 rfl ((hf_N36_.w hW).kr (o := 0) (by decide)) ((hf_N36_.w hW).lr (o := 0) (s := 2) (r := 23) (by decide)) d_T_take_107 ?_
              refine zw_bipush (pc := 110) (v := Int32.ofInt 39) (by decide) d_T_take_110 ?_
              refine zk_callV hf_N36_.x (pc := 112) [.int (Int32.ofInt 39)] [] l_T_296 (u_Sums_solveX l d_ N36_ (hf_N36_.w hW) 39 (by decide) (by decide)) rfl rfl ((hf_N36_.w hW).kr (o := 23) (by decide)) (by decide) (by decide) (Nat.le_of_ble_eq_true rfl) d_T_take_112 ?_
              rintro _ N40_ ⟨rfl, hsN40_, -⟩
              have hf_N40_ : zFc d_ [] [] [(0, 7), (0, 8)] [25, 27] Mz N40_ := hf_N36_.tr hsN40_ (by decide) (by decide) (by decide) (by decide)
              show zW l m_T_take (zn Mz + 0, zw Mz + 0) N40_ 115 [some (.ref 0), some (.int (Int32.ofInt a0_)), some (.int (Int32.ofInt a1_)), some (.int (Int32.ofInt 1)), some (.int (Int32.ofInt u35_))] [] _
              refine zw_aload_n (pc := 115) (n := 0) (x := 0) rfl d_T_take_115 ?_
              refine zw_getF (pc := 116) f_T_28 rfl ((hf_N40_.w hW).ka (o := 0) (by decide)) (hf_N40_.now hnow) d_T_take_116 ?_
              refine zw_bipush (pc := 119) (v := Int32.ofInt 39) (by decide) d_T_take_119 ?_
              refine zk_callV hf_N40_.x (pc := 121) [.int (Int32.ofInt 39)] [] l_T_284 (u_Troupe_becomeX l d_ N40_ (hf_N40_.w hW) 39 (by decide) (by decide)) rfl rfl ((hf_N40_.w hW).kr (o := 0) (by decide)) (by decide) (by decide) (Nat.le_of_ble_eq_true rfl) d_T_take_121 ?_
              rintro _ N42_ ⟨rfl, hsN42_, -⟩
              have hf_N42_ : zFc d_ [] [] [(0, 7), (0, 8)] [25, 27] Mz N42_ := hf_N40_.tr hsN42_ (by decide) (by decide) (by decide) (by decide)
              show zW l m_T_take (zn Mz + 0, zw Mz + 0) N42_ 124 [some (.ref 0), some (.int (Int32.ofInt a0_)), some (.int (Int32.ofInt a1_)), some (.int (Int32.ofInt 1)), some (.int (Int32.ofInt u35_))] [] _
              refine zw_aload_n (pc := 124) (n := 0) (x := 0) rfl d_T_take_124 ?_
              refine zw_getF (pc := 125) f_T_28 rfl ((hf_N42_.w hW).ka (o := 0) (by decide)) (hf_N42_.now hnow) d_T_take_125 ?_
              refine zw_getF (pc := 128) f_T_169 rfl ((hf_N42_.w hW).kr (o := 0) (by decide)) ((hf_N42_.w hW).lr (o := 0) (s := 2) (r := 23) (by decide)) d_T_take_128 ?_
              refine zw_iconst (pc := 131) (v := Int32.ofInt 0) (by decide) d_T_take_131 ?_
              refine zw_iconst (pc := 132) (v := Int32.ofInt 0) (by decide) d_T_take_132 ?_
              refine zk_callV hf_N42_.x (pc := 133) [.int (Int32.ofInt 0), .int (Int32.ofInt 0)] [] l_T_250 (u_Sums_markOfX l d_ N42_ (hf_N42_.w hW) 0 (by decide) (by decide) 0 (by decide) (by decide)) rfl rfl ((hf_N42_.w hW).kr (o := 23) (by decide)) (by decide) (by decide) (Nat.le_of_ble_eq_true rfl) d_T_take_133 ?_
              rintro _ N44_ ⟨v45_, rfl, ⟨hv45_a, hv45_b⟩, hsN44_, -⟩
              obtain rfl := hsN44_.eq.symm
              show zW l m_T_take (zn Mz + 0, zw Mz + 0) N42_ 136 [some (.ref 0), some (.int (Int32.ofInt a0_)), some (.int (Int32.ofInt a1_)), some (.int (Int32.ofInt 1)), some (.int (Int32.ofInt u35_))] [.long (Int64.ofInt v45_)] _
              refine zr_l2i (pc := 136) d_T_take_136 ?_
              refine zr_nmI (fun v46_ hv46_ => ?_)
              obtain ⟨hv46_a, hv46_b⟩ := hv46_
              exact zk_iret (pc := 137) (ty := .int) rfl rfl ⟨by omega, by omega⟩ hf_N42_ trivial d_T_take_137
            · skip
              refine zw_aload_n (pc := 54) (n := 0) (x := 0) rfl d_T_take_54 ?_
              refine zw_getF (pc := 55) f_T_28 rfl ((hf_N36_.w hW).ka (o := 0) (by decide)) (hf_N36_.now hnow) d_T_take_55 ?_
              refine zw_getF (pc := 58) f_T_169 rfl ((hf_N36_.w hW).kr (o := 0) (by decide)) ((hf_N36_.w hW).lr (o := 0) (s := 2) (r := 23) (by decide)) d_T_take_58 ?_
              refine zw_getF (pc := 61) f_T_262 rfl ((hf_N36_.w hW).kr (o := 23) (by decide)) ((hf_N36_.w hW).lr (o := 23) (s := 2) (r := 26) (by decide)) d_T_take_61 ?_
              refine zw_iload (pc := 64) (i := 4) (x := Int32.ofInt u35_) rfl d_T_take_64 ?_
              refine zw_aload_n (pc := 66) (n := 0) (x := 0) rfl d_T_take_66 ?_
              refine zw_getF (pc := 67) f_T_28 rfl ((hf_N36_.w hW).ka (o := 0) (by decide)) (hf_N36_.now hnow) d_T_take_67 ?_
              refine zw_getF (pc := 70) f_T_61 rfl ((hf_N36_.w hW).kr (o := 0) (by decide)) ((hf_N36_.w hW).lr (o := 0) (s := 0) (r := 1) (by decide)) d_T_take_70 ?_
              refine zw_iload_n (pc := 73) (n := 1) (x := Int32.ofInt a0_) rfl d_T_take_73 ?_
              refine zw_iload_n (pc := 74) (n := 2) (x := Int32.ofInt a1_) rfl d_T_take_74 ?_
              refine zw_aload_n (pc := 75) (n := 0) (x := 0) rfl d_T_take_75 ?_
              refine zw_getF (pc := 76) f_T_28 rfl ((hf_N36_.w hW).ka (o := 0) (by decide)) (hf_N36_.now hnow) d_T_take_76 ?_
              refine zw_getF (pc := 79) f_T_85 rfl ((hf_N36_.w hW).kr (o := 0) (by decide)) ((hf_N36_.w hW).lr (o := 0) (s := 1) (r := 12) (by decide)) d_T_take_79 ?_
              refine zw_getF (pc := 82) f_T_146 rfl ((hf_N36_.w hW).kr (o := 12) (by decide)) ((hf_N36_.w hW).lr (o := 12) (s := 4) (r := 19) (by decide)) d_T_take_82 ?_
              refine zw_iload (pc := 85) (i := 4) (x := Int32.ofInt u35_) rfl d_T_take_85 ?_
              refine zk_atG hf_N36_.x (pc := 87) l_T_118 ((hf_N36_.w hW).kr (o := 19) (by decide)) ((hf_N36_.w hW).lr (o := 19) (s := 0) (r := 20) (by decide)) ((hf_N36_.w hW).rr (o := 20) (t := 1) (n := 27) (by decide)) (by decide) ⟨by omega, by omega⟩ (by decide) (Nat.le_of_ble_eq_true rfl) d_T_take_87 (fun v47_ hv47_ hv47_a hv47_b => ?_)
              clear hv47_
              refine zk_callV hf_N36_.x (pc := 90) [.int (Int32.ofInt a0_), .int (Int32.ofInt a1_), .int (Int32.ofInt v47_)] [.int (Int32.ofInt u35_), .ref (d_ + 26)] l_T_287 (u_Group_countKeptX l d_ N36_ (hf_N36_.w hW) a0_ ha0_a ha0_b a1_ ha1_a ha1_b v47_ hv47_a hv47_b) rfl rfl ((hf_N36_.w hW).kr (o := 1) (by decide)) (by decide) (by decide) (Nat.le_of_ble_eq_true rfl) d_T_take_90 ?_
              rintro _ N48_ ⟨v49_, rfl, ⟨hv49_a, hv49_b⟩, hsN48_, -⟩
              obtain rfl := hsN48_.eq.symm
              show zW l m_T_take (zn Mz + 0, zw Mz + 0) N36_ 93 [some (.ref 0), some (.int (Int32.ofInt a0_)), some (.int (Int32.ofInt a1_)), some (.int (Int32.ofInt 1)), some (.int (Int32.ofInt u35_))] [.int (Int32.ofInt v49_), .int (Int32.ofInt u35_), .ref (d_ + 26)] _
              refine zr_i2l (pc := 93) ⟨hv49_a, hv49_b⟩ d_T_take_93 ?_
              refine zk_stGJ hf_N36_.x (pc := 94) (o := 27) (by decide) l_T_290 ((hf_N36_.w hW).kr (o := 26) (by decide)) ((hf_N36_.w hW).lr (o := 26) (s := 0) (r := 27) (by decide)) ((hf_N36_.w hW).rr (o := 27) (t := 2) (n := 27) (by decide)) (by decide) ⟨by omega, by omega⟩ (by decide) (Nat.le_of_ble_eq_true rfl) d_T_take_94 (fun N50_ hsN50_ => ?_)
              have hf_N50_ : zFc d_ [] [] [(0, 7), (0, 8)] [25, 27] Mz N50_ := hf_N36_.tr hsN50_ (by decide) (by decide) (by decide) (by decide)
              have hb0_N50_ : zFc d_ [] [] [] [27] Mz N50_ := hs37_.tr hsN50_ (by decide) (by decide) (by decide) (by decide)
              refine zr_iinc (pc := 97) (i := 4) (a := u35_) (n := 1) (L2 := [some (.ref 0), some (.int (Int32.ofInt a0_)), some (.int (Int32.ofInt a1_)), some (.int (Int32.ofInt 1)), some (.int (Int32.ofInt (u35_ + 1)))]) rfl (by decide) rfl d_T_take_97 ?_
              obtain ⟨v51_, hv51_a, hv51_b, hv51_e, hv51_d⟩ := zk_gen (u35_ + 1)
              rw [hv51_e]
              refine zw_goto (pc := 100) (tgt := 39) (by decide) d_T_take_100 ?_
              exact ih_39 v51_ hv51_a hv51_b N50_ hb0_N50_ (show 0 ≤ v51_ by first | with_reducible assumption | assumption | omega) (by omega)
        exact lp_39 _ 0 (by decide) (by decide) Mz zFc.rf (show 0 ≤ (0 : Int) by first | with_reducible assumption | assumption | omega) (Nat.lt_succ_self _)
      · skip
        refine zw_iload_n (pc := 20) (n := 3) (x := Int32.ofInt 1) rfl (zdal_p dlB_T_take_127 (i := 11) rfl) ?_
        refine zr_if_eq (pc := 21) (tgt := 34) ⟨(by decide), (by decide)⟩ (by decide) (zdal_p dlB_T_take_127 (i := 12) rfl) (fun hc_21 => ?_) (fun hc_21 => ?_)
        · skip
          exact absurd hc_21 (by decide)
        · skip
          refine zw_iload_n (pc := 24) (n := 1) (x := Int32.ofInt a0_) rfl (zdal_p dlB_T_take_127 (i := 13) rfl) ?_
          refine zw_iconst (pc := 25) (v := Int32.ofInt 1) (by decide) (zdal_p dlB_T_take_127 (i := 14) rfl) ?_
          refine zr_icmp_eq (pc := 26) (tgt := 36) ⟨ha0_a, ha0_b⟩ ⟨(by decide), (by decide)⟩ (by decide) (zdal_p dlB_T_take_127 (i := 15) rfl) (fun hc_26 => ?_) (fun hc_26 => ?_)
          · skip
            refine zw_iconst (pc := 36) (v := Int32.ofInt 0) (by decide) d_T_take_36 ?_
            refine zw_istore (pc := 37) (i := 4) (L2 := [some (.ref 0), some (.int (Int32.ofInt a0_)), some (.int (Int32.ofInt a1_)), some (.int (Int32.ofInt 1)), some (.int (Int32.ofInt 0))]) (by decide) rfl d_T_take_37 ?_
            have lp_39 : ∀ (n : Nat) (u52_ : Int) (hu52_a : -2147483648 ≤ u52_) (hu52_b : u52_ < 2147483648) (N53_ : zMem) (hs54_ : zFc d_ [] [] [] [27] Mz N53_) (i55_ : 0 ≤ u52_), (ze Mz (d_ + 12) 7 - u52_).toNat < n → zW l m_T_take (zn Mz + 0, zw Mz + 0) N53_ 39 [some (.ref 0), some (.int (Int32.ofInt a0_)), some (.int (Int32.ofInt a1_)), some (.int (Int32.ofInt 1)), some (.int (Int32.ofInt u52_))] [] (zqcI d_ [] [] [(0, 7), (0, 8)] [25, 27] Mz (fun v N => True)) := by
              intro n
              induction n with
              | zero =>
                intro u52_ hu52_a hu52_b N53_ hs54_ i55_ h0
                exact absurd h0 (Nat.not_lt_zero _)
              | succ n ih_39 =>
                intro u52_ hu52_a hu52_b N53_ hs54_ i55_ hlt_39
                have hf_N53_ : zFc d_ [] [] [(0, 7), (0, 8)] [25, 27] Mz N53_ := hf.tr hs54_ (by decide) (by decide) (by decide) (by decide)
                refine zw_iload (pc := 39) (i := 4) (x := Int32.ofInt u52_) rfl d_T_take_39 ?_
                refine zw_aload_n (pc := 41) (n := 0) (x := 0) rfl d_T_take_41 ?_
                refine zw_getF (pc := 42) f_T_28 rfl ((hf_N53_.w hW).ka (o := 0) (by decide)) (hf_N53_.now hnow) d_T_take_42 ?_
                refine zw_getF (pc := 45) f_T_85 rfl ((hf_N53_.w hW).kr (o := 0) (by decide)) ((hf_N53_.w hW).lr (o := 0) (s := 1) (r := 12) (by decide)) d_T_take_45 ?_
                refine zk_getI (pc := 48) f_T_94 rfl ((hf_N53_.w hW).kr (o := 12) (by decide)) d_T_take_48 ?_
                rw [hf_N53_.e (by decide)]
                have hr56_ := ze_r Mz (d_ + 12) 7
                refine zr_icmp_ge (pc := 51) (tgt := 103) ⟨hu52_a, hu52_b⟩ ⟨(ze_r Mz (d_ + 12) 7).1, (ze_r Mz (d_ + 12) 7).2⟩ (by decide) d_T_take_51 (fun hc_51 => ?_) (fun hc_51 => ?_)
                · skip
                  refine zw_aload_n (pc := 103) (n := 0) (x := 0) rfl d_T_take_103 ?_
                  refine zw_getF (pc := 104) f_T_28 rfl ((hf_N53_.w hW).ka (o := 0) (by decide)) (hf_N53_.now hnow) d_T_take_104 ?_
                  refine zw_getF (pc := 107) f_T_169 rfl ((hf_N53_.w hW).kr (o := 0) (by decide)) ((hf_N53_.w hW).lr (o := 0) (s := 2) (r := 23) (by decide)) d_T_take_107 ?_
                  refine zw_bipush (pc := 110) (v := Int32.ofInt 39) (by decide) d_T_take_110 ?_
                  refine zk_callV hf_N53_.x (pc := 112) [.int (Int32.ofInt 39)] [] l_T_296 (u_Sums_solveX l d_ N53_ (hf_N53_.w hW) 39 (by decide) (by decide)) rfl rfl ((hf_N53_.w hW).kr (o := 23) (by decide)) (by decide) (by decide) (Nat.le_of_ble_eq_true rfl) d_T_take_112 ?_
                  rintro _ N57_ ⟨rfl, hsN57_, -⟩
                  have hf_N57_ : zFc d_ [] [] [(0, 7), (0, 8)] [25, 27] Mz N57_ := hf_N53_.tr hsN57_ (by decide) (by decide) (by decide) (by decide)
                  show zW l m_T_take (zn Mz + 0, zw Mz + 0) N57_ 115 [some (.ref 0), some (.int (Int32.ofInt a0_)), some (.int (Int32.ofInt a1_)), some (.int (Int32.ofInt 1)), some (.int (Int32.ofInt u52_))] [] _
                  refine zw_aload_n (pc := 115) (n := 0) (x := 0) rfl d_T_take_115 ?_
                  refine zw_getF (pc := 116) f_T_28 rfl ((hf_N57_.w hW).ka (o := 0) (by decide)) (hf_N57_.now hnow) d_T_take_116 ?_
                  refine zw_bipush (pc := 119) (v := Int32.ofInt 39) (by decide) d_T_take_119 ?_
                  refine zk_callV hf_N57_.x (pc := 121) [.int (Int32.ofInt 39)] [] l_T_284 (u_Troupe_becomeX l d_ N57_ (hf_N57_.w hW) 39 (by decide) (by decide)) rfl rfl ((hf_N57_.w hW).kr (o := 0) (by decide)) (by decide) (by decide) (Nat.le_of_ble_eq_true rfl) d_T_take_121 ?_
                  rintro _ N59_ ⟨rfl, hsN59_, -⟩
                  have hf_N59_ : zFc d_ [] [] [(0, 7), (0, 8)] [25, 27] Mz N59_ := hf_N57_.tr hsN59_ (by decide) (by decide) (by decide) (by decide)
                  show zW l m_T_take (zn Mz + 0, zw Mz + 0) N59_ 124 [some (.ref 0), some (.int (Int32.ofInt a0_)), some (.int (Int32.ofInt a1_)), some (.int (Int32.ofInt 1)), some (.int (Int32.ofInt u52_))] [] _
                  refine zw_aload_n (pc := 124) (n := 0) (x := 0) rfl d_T_take_124 ?_
                  refine zw_getF (pc := 125) f_T_28 rfl ((hf_N59_.w hW).ka (o := 0) (by decide)) (hf_N59_.now hnow) d_T_take_125 ?_
                  refine zw_getF (pc := 128) f_T_169 rfl ((hf_N59_.w hW).kr (o := 0) (by decide)) ((hf_N59_.w hW).lr (o := 0) (s := 2) (r := 23) (by decide)) d_T_take_128 ?_
                  refine zw_iconst (pc := 131) (v := Int32.ofInt 0) (by decide) d_T_take_131 ?_
                  refine zw_iconst (pc := 132) (v := Int32.ofInt 0) (by decide) d_T_take_132 ?_
                  refine zk_callV hf_N59_.x (pc := 133) [.int (Int32.ofInt 0), .int (Int32.ofInt 0)] [] l_T_250 (u_Sums_markOfX l d_ N59_ (hf_N59_.w hW) 0 (by decide) (by decide) 0 (by decide) (by decide)) rfl rfl ((hf_N59_.w hW).kr (o := 23) (by decide)) (by decide) (by decide) (Nat.le_of_ble_eq_true rfl) d_T_take_133 ?_
                  rintro _ N61_ ⟨v62_, rfl, ⟨hv62_a, hv62_b⟩, hsN61_, -⟩
                  obtain rfl := hsN61_.eq.symm
                  show zW l m_T_take (zn Mz + 0, zw Mz + 0) N59_ 136 [some (.ref 0), some (.int (Int32.ofInt a0_)), some (.int (Int32.ofInt a1_)), some (.int (Int32.ofInt 1)), some (.int (Int32.ofInt u52_))] [.long (Int64.ofInt v62_)] _
                  refine zr_l2i (pc := 136) d_T_take_136 ?_
                  refine zr_nmI (fun v63_ hv63_ => ?_)
                  obtain ⟨hv63_a, hv63_b⟩ := hv63_
                  exact zk_iret (pc := 137) (ty := .int) rfl rfl ⟨by omega, by omega⟩ hf_N59_ trivial d_T_take_137
                · skip
                  refine zw_aload_n (pc := 54) (n := 0) (x := 0) rfl d_T_take_54 ?_
                  refine zw_getF (pc := 55) f_T_28 rfl ((hf_N53_.w hW).ka (o := 0) (by decide)) (hf_N53_.now hnow) d_T_take_55 ?_
                  refine zw_getF (pc := 58) f_T_169 rfl ((hf_N53_.w hW).kr (o := 0) (by decide)) ((hf_N53_.w hW).lr (o := 0) (s := 2) (r := 23) (by decide)) d_T_take_58 ?_
                  refine zw_getF (pc := 61) f_T_262 rfl ((hf_N53_.w hW).kr (o := 23) (by decide)) ((hf_N53_.w hW).lr (o := 23) (s := 2) (r := 26) (by decide)) d_T_take_61 ?_
                  refine zw_iload (pc := 64) (i := 4) (x := Int32.ofInt u52_) rfl d_T_take_64 ?_
                  refine zw_aload_n (pc := 66) (n := 0) (x := 0) rfl d_T_take_66 ?_
                  refine zw_getF (pc := 67) f_T_28 rfl ((hf_N53_.w hW).ka (o := 0) (by decide)) (hf_N53_.now hnow) d_T_take_67 ?_
                  refine zw_getF (pc := 70) f_T_61 rfl ((hf_N53_.w hW).kr (o := 0) (by decide)) ((hf_N53_.w hW).lr (o := 0) (s := 0) (r := 1) (by decide)) d_T_take_70 ?_
                  refine zw_iload_n (pc := 73) (n := 1) (x := Int32.ofInt a0_) rfl d_T_take_73 ?_
                  refine zw_iload_n (pc := 74) (n := 2) (x := Int32.ofInt a1_) rfl d_T_take_74 ?_
                  refine zw_aload_n (pc := 75) (n := 0) (x := 0) rfl d_T_take_75 ?_
                  refine zw_getF (pc := 76) f_T_28 rfl ((hf_N53_.w hW).ka (o := 0) (by decide)) (hf_N53_.now hnow) d_T_take_76 ?_
                  refine zw_getF (pc := 79) f_T_85 rfl ((hf_N53_.w hW).kr (o := 0) (by decide)) ((hf_N53_.w hW).lr (o := 0) (s := 1) (r := 12) (by decide)) d_T_take_79 ?_
                  refine zw_getF (pc := 82) f_T_146 rfl ((hf_N53_.w hW).kr (o := 12) (by decide)) ((hf_N53_.w hW).lr (o := 12) (s := 4) (r := 19) (by decide)) d_T_take_82 ?_
                  refine zw_iload (pc := 85) (i := 4) (x := Int32.ofInt u52_) rfl d_T_take_85 ?_
                  refine zk_atG hf_N53_.x (pc := 87) l_T_118 ((hf_N53_.w hW).kr (o := 19) (by decide)) ((hf_N53_.w hW).lr (o := 19) (s := 0) (r := 20) (by decide)) ((hf_N53_.w hW).rr (o := 20) (t := 1) (n := 27) (by decide)) (by decide) ⟨by omega, by omega⟩ (by decide) (Nat.le_of_ble_eq_true rfl) d_T_take_87 (fun v64_ hv64_ hv64_a hv64_b => ?_)
                  clear hv64_
                  refine zk_callV hf_N53_.x (pc := 90) [.int (Int32.ofInt a0_), .int (Int32.ofInt a1_), .int (Int32.ofInt v64_)] [.int (Int32.ofInt u52_), .ref (d_ + 26)] l_T_287 (u_Group_countKeptX l d_ N53_ (hf_N53_.w hW) a0_ ha0_a ha0_b a1_ ha1_a ha1_b v64_ hv64_a hv64_b) rfl rfl ((hf_N53_.w hW).kr (o := 1) (by decide)) (by decide) (by decide) (Nat.le_of_ble_eq_true rfl) d_T_take_90 ?_
                  rintro _ N65_ ⟨v66_, rfl, ⟨hv66_a, hv66_b⟩, hsN65_, -⟩
                  obtain rfl := hsN65_.eq.symm
                  show zW l m_T_take (zn Mz + 0, zw Mz + 0) N53_ 93 [some (.ref 0), some (.int (Int32.ofInt a0_)), some (.int (Int32.ofInt a1_)), some (.int (Int32.ofInt 1)), some (.int (Int32.ofInt u52_))] [.int (Int32.ofInt v66_), .int (Int32.ofInt u52_), .ref (d_ + 26)] _
                  refine zr_i2l (pc := 93) ⟨hv66_a, hv66_b⟩ d_T_take_93 ?_
                  refine zk_stGJ hf_N53_.x (pc := 94) (o := 27) (by decide) l_T_290 ((hf_N53_.w hW).kr (o := 26) (by decide)) ((hf_N53_.w hW).lr (o := 26) (s := 0) (r := 27) (by decide)) ((hf_N53_.w hW).rr (o := 27) (t := 2) (n := 27) (by decide)) (by decide) ⟨by omega, by omega⟩ (by decide) (Nat.le_of_ble_eq_true rfl) d_T_take_94 (fun N67_ hsN67_ => ?_)
                  have hf_N67_ : zFc d_ [] [] [(0, 7), (0, 8)] [25, 27] Mz N67_ := hf_N53_.tr hsN67_ (by decide) (by decide) (by decide) (by decide)
                  have hb0_N67_ : zFc d_ [] [] [] [27] Mz N67_ := hs54_.tr hsN67_ (by decide) (by decide) (by decide) (by decide)
                  refine zr_iinc (pc := 97) (i := 4) (a := u52_) (n := 1) (L2 := [some (.ref 0), some (.int (Int32.ofInt a0_)), some (.int (Int32.ofInt a1_)), some (.int (Int32.ofInt 1)), some (.int (Int32.ofInt (u52_ + 1)))]) rfl (by decide) rfl d_T_take_97 ?_
                  obtain ⟨v68_, hv68_a, hv68_b, hv68_e, hv68_d⟩ := zk_gen (u52_ + 1)
                  rw [hv68_e]
                  refine zw_goto (pc := 100) (tgt := 39) (by decide) d_T_take_100 ?_
                  exact ih_39 v68_ hv68_a hv68_b N67_ hb0_N67_ (show 0 ≤ v68_ by first | with_reducible assumption | assumption | omega) (by omega)
            exact lp_39 _ 0 (by decide) (by decide) Mz zFc.rf (show 0 ≤ (0 : Int) by first | with_reducible assumption | assumption | omega) (Nat.lt_succ_self _)
          · skip
            refine zw_iload_n (pc := 29) (n := 1) (x := Int32.ofInt a0_) rfl (zdal_p dlB_T_take_127 (i := 16) rfl) ?_
            refine zw_iconst (pc := 30) (v := Int32.ofInt 2) (by decide) (zdal_p dlB_T_take_127 (i := 17) rfl) ?_
            refine zr_icmp_eq (pc := 31) (tgt := 36) ⟨ha0_a, ha0_b⟩ ⟨(by decide), (by decide)⟩ (by decide) (zdal_p dlB_T_take_127 (i := 18) rfl) (fun hc_31 => ?_) (fun hc_31 => ?_)
            · skip
              refine zw_iconst (pc := 36) (v := Int32.ofInt 0) (by decide) d_T_take_36 ?_
              refine zw_istore (pc := 37) (i := 4) (L2 := [some (.ref 0), some (.int (Int32.ofInt a0_)), some (.int (Int32.ofInt a1_)), some (.int (Int32.ofInt 1)), some (.int (Int32.ofInt 0))]) (by decide) rfl d_T_take_37 ?_
              have lp_39 : ∀ (n : Nat) (u69_ : Int) (hu69_a : -2147483648 ≤ u69_) (hu69_b : u69_ < 2147483648) (N70_ : zMem) (hs71_ : zFc d_ [] [] [] [27] Mz N70_) (i72_ : 0 ≤ u69_), (ze Mz (d_ + 12) 7 - u69_).toNat < n → zW l m_T_take (zn Mz + 0, zw Mz + 0) N70_ 39 [some (.ref 0), some (.int (Int32.ofInt a0_)), some (.int (Int32.ofInt a1_)), some (.int (Int32.ofInt 1)), some (.int (Int32.ofInt u69_))] [] (zqcI d_ [] [] [(0, 7), (0, 8)] [25, 27] Mz (fun v N => True)) := by
                intro n
                induction n with
                | zero =>
                  intro u69_ hu69_a hu69_b N70_ hs71_ i72_ h0
                  exact absurd h0 (Nat.not_lt_zero _)
                | succ n ih_39 =>
                  intro u69_ hu69_a hu69_b N70_ hs71_ i72_ hlt_39
                  have hf_N70_ : zFc d_ [] [] [(0, 7), (0, 8)] [25, 27] Mz N70_ := hf.tr hs71_ (by decide) (by decide) (by decide) (by decide)
                  refine zw_iload (pc := 39) (i := 4) (x := Int32.ofInt u69_) rfl d_T_take_39 ?_
                  refine zw_aload_n (pc := 41) (n := 0) (x := 0) rfl d_T_take_41 ?_
                  refine zw_getF (pc := 42) f_T_28 rfl ((hf_N70_.w hW).ka (o := 0) (by decide)) (hf_N70_.now hnow) d_T_take_42 ?_
                  refine zw_getF (pc := 45) f_T_85 rfl ((hf_N70_.w hW).kr (o := 0) (by decide)) ((hf_N70_.w hW).lr (o := 0) (s := 1) (r := 12) (by decide)) d_T_take_45 ?_
                  refine zk_getI (pc := 48) f_T_94 rfl ((hf_N70_.w hW).kr (o := 12) (by decide)) d_T_take_48 ?_
                  rw [hf_N70_.e (by decide)]
                  have hr73_ := ze_r Mz (d_ + 12) 7
                  refine zr_icmp_ge (pc := 51) (tgt := 103) ⟨hu69_a, hu69_b⟩ ⟨(ze_r Mz (d_ + 12) 7).1, (ze_r Mz (d_ + 12) 7).2⟩ (by decide) d_T_take_51 (fun hc_51 => ?_) (fun hc_51 => ?_)
                  · skip
                    refine zw_aload_n (pc := 103) (n := 0) (x := 0) rfl d_T_take_103 ?_
                    refine zw_getF (pc := 104) f_T_28 rfl ((hf_N70_.w hW).ka (o := 0) (by decide)) (hf_N70_.now hnow) d_T_take_104 ?_
                    refine zw_getF (pc := 107) f_T_169 rfl ((hf_N70_.w hW).kr (o := 0) (by decide)) ((hf_N70_.w hW).lr (o := 0) (s := 2) (r := 23) (by decide)) d_T_take_107 ?_
                    refine zw_bipush (pc := 110) (v := Int32.ofInt 39) (by decide) d_T_take_110 ?_
                    refine zk_callV hf_N70_.x (pc := 112) [.int (Int32.ofInt 39)] [] l_T_296 (u_Sums_solveX l d_ N70_ (hf_N70_.w hW) 39 (by decide) (by decide)) rfl rfl ((hf_N70_.w hW).kr (o := 23) (by decide)) (by decide) (by decide) (Nat.le_of_ble_eq_true rfl) d_T_take_112 ?_
                    rintro _ N74_ ⟨rfl, hsN74_, -⟩
                    have hf_N74_ : zFc d_ [] [] [(0, 7), (0, 8)] [25, 27] Mz N74_ := hf_N70_.tr hsN74_ (by decide) (by decide) (by decide) (by decide)
                    show zW l m_T_take (zn Mz + 0, zw Mz + 0) N74_ 115 [some (.ref 0), some (.int (Int32.ofInt a0_)), some (.int (Int32.ofInt a1_)), some (.int (Int32.ofInt 1)), some (.int (Int32.ofInt u69_))] [] _
                    refine zw_aload_n (pc := 115) (n := 0) (x := 0) rfl d_T_take_115 ?_
                    refine zw_getF (pc := 116) f_T_28 rfl ((hf_N74_.w hW).ka (o := 0) (by decide)) (hf_N74_.now hnow) d_T_take_116 ?_
                    refine zw_bipush (pc := 119) (v := Int32.ofInt 39) (by decide) d_T_take_119 ?_
                    refine zk_callV hf_N74_.x (pc := 121) [.int (Int32.ofInt 39)] [] l_T_284 (u_Troupe_becomeX l d_ N74_ (hf_N74_.w hW) 39 (by decide) (by decide)) rfl rfl ((hf_N74_.w hW).kr (o := 0) (by decide)) (by decide) (by decide) (Nat.le_of_ble_eq_true rfl) d_T_take_121 ?_
                    rintro _ N76_ ⟨rfl, hsN76_, -⟩
                    have hf_N76_ : zFc d_ [] [] [(0, 7), (0, 8)] [25, 27] Mz N76_ := hf_N74_.tr hsN76_ (by decide) (by decide) (by decide) (by decide)
                    show zW l m_T_take (zn Mz + 0, zw Mz + 0) N76_ 124 [some (.ref 0), some (.int (Int32.ofInt a0_)), some (.int (Int32.ofInt a1_)), some (.int (Int32.ofInt 1)), some (.int (Int32.ofInt u69_))] [] _
                    refine zw_aload_n (pc := 124) (n := 0) (x := 0) rfl d_T_take_124 ?_
                    refine zw_getF (pc := 125) f_T_28 rfl ((hf_N76_.w hW).ka (o := 0) (by decide)) (hf_N76_.now hnow) d_T_take_125 ?_
                    refine zw_getF (pc := 128) f_T_169 rfl ((hf_N76_.w hW).kr (o := 0) (by decide)) ((hf_N76_.w hW).lr (o := 0) (s := 2) (r := 23) (by decide)) d_T_take_128 ?_
                    refine zw_iconst (pc := 131) (v := Int32.ofInt 0) (by decide) d_T_take_131 ?_
                    refine zw_iconst (pc := 132) (v := Int32.ofInt 0) (by decide) d_T_take_132 ?_
                    refine zk_callV hf_N76_.x (pc := 133) [.int (Int32.ofInt 0), .int (Int32.ofInt 0)] [] l_T_250 (u_Sums_markOfX l d_ N76_ (hf_N76_.w hW) 0 (by decide) (by decide) 0 (by decide) (by decide)) rfl rfl ((hf_N76_.w hW).kr (o := 23) (by decide)) (by decide) (by decide) (Nat.le_of_ble_eq_true rfl) d_T_take_133 ?_
                    rintro _ N78_ ⟨v79_, rfl, ⟨hv79_a, hv79_b⟩, hsN78_, -⟩
                    obtain rfl := hsN78_.eq.symm
                    show zW l m_T_take (zn Mz + 0, zw Mz + 0) N76_ 136 [some (.ref 0), some (.int (Int32.ofInt a0_)), some (.int (Int32.ofInt a1_)), some (.int (Int32.ofInt 1)), some (.int (Int32.ofInt u69_))] [.long (Int64.ofInt v79_)] _
                    refine zr_l2i (pc := 136) d_T_take_136 ?_
                    refine zr_nmI (fun v80_ hv80_ => ?_)
                    obtain ⟨hv80_a, hv80_b⟩ := hv80_
                    exact zk_iret (pc := 137) (ty := .int) rfl rfl ⟨by omega, by omega⟩ hf_N76_ trivial d_T_take_137
                  · skip
                    refine zw_aload_n (pc := 54) (n := 0) (x := 0) rfl d_T_take_54 ?_
                    refine zw_getF (pc := 55) f_T_28 rfl ((hf_N70_.w hW).ka (o := 0) (by decide)) (hf_N70_.now hnow) d_T_take_55 ?_
                    refine zw_getF (pc := 58) f_T_169 rfl ((hf_N70_.w hW).kr (o := 0) (by decide)) ((hf_N70_.w hW).lr (o := 0) (s := 2) (r := 23) (by decide)) d_T_take_58 ?_
                    refine zw_getF (pc := 61) f_T_262 rfl ((hf_N70_.w hW).kr (o := 23) (by decide)) ((hf_N70_.w hW).lr (o := 23) (s := 2) (r := 26) (by decide)) d_T_take_61 ?_
                    refine zw_iload (pc := 64) (i := 4) (x := Int32.ofInt u69_) rfl d_T_take_64 ?_
                    refine zw_aload_n (pc := 66) (n := 0) (x := 0) rfl d_T_take_66 ?_
                    refine zw_getF (pc := 67) f_T_28 rfl ((hf_N70_.w hW).ka (o := 0) (by decide)) (hf_N70_.now hnow) d_T_take_67 ?_
                    refine zw_getF (pc := 70) f_T_61 rfl ((hf_N70_.w hW).kr (o := 0) (by decide)) ((hf_N70_.w hW).lr (o := 0) (s := 0) (r := 1) (by decide)) d_T_take_70 ?_
                    refine zw_iload_n (pc := 73) (n := 1) (x := Int32.ofInt a0_) rfl d_T_take_73 ?_
                    refine zw_iload_n (pc := 74) (n := 2) (x := Int32.ofInt a1_) rfl d_T_take_74 ?_
                    refine zw_aload_n (pc := 75) (n := 0) (x := 0) rfl d_T_take_75 ?_
                    refine zw_getF (pc := 76) f_T_28 rfl ((hf_N70_.w hW).ka (o := 0) (by decide)) (hf_N70_.now hnow) d_T_take_76 ?_
                    refine zw_getF (pc := 79) f_T_85 rfl ((hf_N70_.w hW).kr (o := 0) (by decide)) ((hf_N70_.w hW).lr (o := 0) (s := 1) (r := 12) (by decide)) d_T_take_79 ?_
                    refine zw_getF (pc := 82) f_T_146 rfl ((hf_N70_.w hW).kr (o := 12) (by decide)) ((hf_N70_.w hW).lr (o := 12) (s := 4) (r := 19) (by decide)) d_T_take_82 ?_
                    refine zw_iload (pc := 85) (i := 4) (x := Int32.ofInt u69_) rfl d_T_take_85 ?_
                    refine zk_atG hf_N70_.x (pc := 87) l_T_118 ((hf_N70_.w hW).kr (o := 19) (by decide)) ((hf_N70_.w hW).lr (o := 19) (s := 0) (r := 20) (by decide)) ((hf_N70_.w hW).rr (o := 20) (t := 1) (n := 27) (by decide)) (by decide) ⟨by omega, by omega⟩ (by decide) (Nat.le_of_ble_eq_true rfl) d_T_take_87 (fun v81_ hv81_ hv81_a hv81_b => ?_)
                    clear hv81_
                    refine zk_callV hf_N70_.x (pc := 90) [.int (Int32.ofInt a0_), .int (Int32.ofInt a1_), .int (Int32.ofInt v81_)] [.int (Int32.ofInt u69_), .ref (d_ + 26)] l_T_287 (u_Group_countKeptX l d_ N70_ (hf_N70_.w hW) a0_ ha0_a ha0_b a1_ ha1_a ha1_b v81_ hv81_a hv81_b) rfl rfl ((hf_N70_.w hW).kr (o := 1) (by decide)) (by decide) (by decide) (Nat.le_of_ble_eq_true rfl) d_T_take_90 ?_
                    rintro _ N82_ ⟨v83_, rfl, ⟨hv83_a, hv83_b⟩, hsN82_, -⟩
                    obtain rfl := hsN82_.eq.symm
                    show zW l m_T_take (zn Mz + 0, zw Mz + 0) N70_ 93 [some (.ref 0), some (.int (Int32.ofInt a0_)), some (.int (Int32.ofInt a1_)), some (.int (Int32.ofInt 1)), some (.int (Int32.ofInt u69_))] [.int (Int32.ofInt v83_), .int (Int32.ofInt u69_), .ref (d_ + 26)] _
                    refine zr_i2l (pc := 93) ⟨hv83_a, hv83_b⟩ d_T_take_93 ?_
                    refine zk_stGJ hf_N70_.x (pc := 94) (o := 27) (by decide) l_T_290 ((hf_N70_.w hW).kr (o := 26) (by decide)) ((hf_N70_.w hW).lr (o := 26) (s := 0) (r := 27) (by decide)) ((hf_N70_.w hW).rr (o := 27) (t := 2) (n := 27) (by decide)) (by decide) ⟨by omega, by omega⟩ (by decide) (Nat.le_of_ble_eq_true rfl) d_T_take_94 (fun N84_ hsN84_ => ?_)
                    have hf_N84_ : zFc d_ [] [] [(0, 7), (0, 8)] [25, 27] Mz N84_ := hf_N70_.tr hsN84_ (by decide) (by decide) (by decide) (by decide)
                    have hb0_N84_ : zFc d_ [] [] [] [27] Mz N84_ := hs71_.tr hsN84_ (by decide) (by decide) (by decide) (by decide)
                    refine zr_iinc (pc := 97) (i := 4) (a := u69_) (n := 1) (L2 := [some (.ref 0), some (.int (Int32.ofInt a0_)), some (.int (Int32.ofInt a1_)), some (.int (Int32.ofInt 1)), some (.int (Int32.ofInt (u69_ + 1)))]) rfl (by decide) rfl d_T_take_97 ?_
                    obtain ⟨v85_, hv85_a, hv85_b, hv85_e, hv85_d⟩ := zk_gen (u69_ + 1)
                    rw [hv85_e]
                    refine zw_goto (pc := 100) (tgt := 39) (by decide) d_T_take_100 ?_
                    exact ih_39 v85_ hv85_a hv85_b N84_ hb0_N84_ (show 0 ≤ v85_ by first | with_reducible assumption | assumption | omega) (by omega)
              exact lp_39 _ 0 (by decide) (by decide) Mz zFc.rf (show 0 ≤ (0 : Int) by first | with_reducible assumption | assumption | omega) (Nat.lt_succ_self _)
            · skip
              refine zw_iconst (pc := 34) (v := Int32.ofInt (-1)) (by decide) (zdal_p dlB_T_take_127 (i := 19) rfl) ?_
              exact zk_iret (pc := 35) (ty := .int) rfl rfl ⟨by omega, by omega⟩ hf trivial (zdal_p dlB_T_take_127 (i := 20) rfl)
set_option maxHeartbeats 4000000 in
theorem u_T_usesX (l : Launch) (d_ : Nat) (Mz : zMem) (hW : zKW d_ Mz) (hnow : zf Mz 0 2 = some (d_ + 0)) (a0_ : Int) (ha0_a : -2147483648 ≤ a0_) (ha0_b : a0_ < 2147483648) : zC l m_T_uses 0 0 [.ref 0, .int (Int32.ofInt a0_)] Mz (zqcI d_ [] [] [(0, 7), (0, 8)] [25] Mz (fun v N => True)) := by
  refine zC_of (L0 := [some (.ref 0), some (.int (Int32.ofInt a0_))]) md_T_uses (Nat.le_of_ble_eq_true rfl) rfl ?_ zQ0
  have hf : zFc d_ [] [] [(0, 7), (0, 8)] [25] Mz Mz := zFc.rf
  refine zw_aload_n (pc := 0) (n := 0) (x := 0) rfl (zdal_p dlB_T_uses_143 (i := 0) rfl) ?_
  refine zw_getF (pc := 1) f_T_28 rfl ((hf.w hW).ka (o := 0) (by decide)) (hf.now hnow) (zdal_p dlB_T_uses_143 (i := 1) rfl) ?_
  refine zw_iload_n (pc := 4) (n := 1) (x := Int32.ofInt a0_) rfl (zdal_p dlB_T_uses_143 (i := 2) rfl) ?_
  refine zk_callV hf.x (pc := 5) [.int (Int32.ofInt a0_)] [] l_T_245 (u_Troupe_hasNameX l d_ Mz (hf.w hW) a0_ ha0_a ha0_b) rfl rfl ((hf.w hW).kr (o := 0) (by decide)) (by decide) (by decide) (Nat.le_of_ble_eq_true rfl) (zdal_p dlB_T_uses_143 (i := 3) rfl) ?_
  rintro _ N1_ ⟨v2_, rfl, ⟨hv2_a, hv2_b⟩, hsN1_, hp0_N1_⟩
  obtain rfl := hsN1_.eq.symm
  replace hp0_N1_ : (v2_ = 0 ∨ v2_ = 1) := hp0_N1_
  show zW l m_T_uses (zn Mz + 0, zw Mz + 0) Mz 8 [some (.ref 0), some (.int (Int32.ofInt a0_))] [.int (Int32.ofInt v2_)] _
  refine zr_if_ne (pc := 8) (tgt := 13) ⟨hv2_a, hv2_b⟩ (by decide) (zdal_p dlB_T_uses_143 (i := 4) rfl) (fun hc_8 => ?_) (fun hc_8 => ?_)
  · skip
    refine zw_aload_n (pc := 13) (n := 0) (x := 0) rfl (zdal_p dlB_T_uses_143 (i := 7) rfl) ?_
    refine zw_getF (pc := 14) f_T_28 rfl ((hf.w hW).ka (o := 0) (by decide)) (hf.now hnow) (zdal_p dlB_T_uses_143 (i := 8) rfl) ?_
    refine zw_iconst (pc := 17) (v := Int32.ofInt 1) (by decide) (zdal_p dlB_T_uses_143 (i := 9) rfl) ?_
    refine zw_iload_n (pc := 18) (n := 1) (x := Int32.ofInt a0_) rfl (zdal_p dlB_T_uses_143 (i := 10) rfl) ?_
    refine zr_iadd (pc := 19) (zdal_p dlB_T_uses_143 (i := 11) rfl) ?_
    refine zr_nmI (fun v3_ hv3_ => ?_)
    obtain ⟨hv3_a, hv3_b⟩ := hv3_
    refine zk_callV hf.x (pc := 20) [.int (Int32.ofInt v3_)] [] l_T_284 (u_Troupe_becomeX l d_ Mz (hf.w hW) v3_ hv3_a hv3_b) rfl rfl ((hf.w hW).kr (o := 0) (by decide)) (by decide) (by decide) (Nat.le_of_ble_eq_true rfl) (zdal_p dlB_T_uses_143 (i := 12) rfl) ?_
    rintro _ N4_ ⟨rfl, hsN4_, -⟩
    have hf_N4_ : zFc d_ [] [] [(0, 7), (0, 8)] [25] Mz N4_ := hf.tr hsN4_ (by decide) (by decide) (by decide) (by decide)
    show zW l m_T_uses (zn Mz + 0, zw Mz + 0) N4_ 23 [some (.ref 0), some (.int (Int32.ofInt a0_))] [] _
    refine zw_aload_n (pc := 23) (n := 0) (x := 0) rfl (zdal_p dlB_T_uses_143 (i := 13) rfl) ?_
    refine zw_getF (pc := 24) f_T_28 rfl ((hf_N4_.w hW).ka (o := 0) (by decide)) (hf_N4_.now hnow) (zdal_p dlB_T_uses_143 (i := 14) rfl) ?_
    refine zw_getF (pc := 27) f_T_169 rfl ((hf_N4_.w hW).kr (o := 0) (by decide)) ((hf_N4_.w hW).lr (o := 0) (s := 2) (r := 23) (by decide)) (zdal_p dlB_T_uses_143 (i := 15) rfl) ?_
    refine zw_iconst (pc := 30) (v := Int32.ofInt 0) (by decide) (zdal_p dlB_T_uses_143 (i := 16) rfl) ?_
    refine zk_callV hf_N4_.x (pc := 31) [.int (Int32.ofInt 0)] [] l_T_253 (u_Sums_partsOfX l d_ N4_ (hf_N4_.w hW) 0 (by decide) (by decide)) rfl rfl ((hf_N4_.w hW).kr (o := 23) (by decide)) (by decide) (by decide) (Nat.le_of_ble_eq_true rfl) (zdal_p dlB_T_uses_143 (i := 17) rfl) ?_
    rintro _ N6_ ⟨v7_, rfl, ⟨hv7_a, hv7_b⟩, hsN6_, -⟩
    obtain rfl := hsN6_.eq.symm
    show zW l m_T_uses (zn Mz + 0, zw Mz + 0) N4_ 34 [some (.ref 0), some (.int (Int32.ofInt a0_))] [.int (Int32.ofInt v7_)] _
    exact zk_iret (pc := 34) (ty := .int) rfl rfl ⟨by omega, by omega⟩ hf_N4_ trivial (zdal_p dlB_T_uses_143 (i := 18) rfl)
  · skip
    refine zw_iconst (pc := 11) (v := Int32.ofInt (-1)) (by decide) (zdal_p dlB_T_uses_143 (i := 5) rfl) ?_
    exact zk_iret (pc := 12) (ty := .int) rfl rfl ⟨by omega, by omega⟩ hf trivial (zdal_p dlB_T_uses_143 (i := 6) rfl)
set_option maxHeartbeats 4000000 in
theorem u_Sums_isInBoundsX (l : Launch) (d_ : Nat) (Mz : zMem) (hW : zKW d_ Mz) (a0_ : Int) (ha0_a : -2147483648 ≤ a0_) (ha0_b : a0_ < 2147483648) : zC l m_Sums_isInBounds 0 0 [.ref (d_ + 23), .int (Int32.ofInt a0_)] Mz (zqcI d_ [] [] [] [] Mz (fun v N => ((v = 0 ∨ v = 1)))) := by
  refine zC_of (L0 := [some (.ref (d_ + 23)), some (.int (Int32.ofInt a0_)), none]) md_Sums_isInBounds (Nat.le_of_ble_eq_true rfl) rfl ?_ zQ0
  have hf : zFc d_ [] [] [] [] Mz Mz := zFc.rf
  refine zw_iconst (pc := 0) (v := Int32.ofInt 0) (by decide) (zdal_p dlA_Sums_isInBounds_144 (i := 0) rfl) ?_
  refine zw_istore_n (pc := 1) (i := 2) (L2 := [some (.ref (d_ + 23)), some (.int (Int32.ofInt a0_)), some (.int (Int32.ofInt 0))]) rfl (by decide) rfl (zdal_p dlA_Sums_isInBounds_144 (i := 1) rfl) ?_
  have lp_2 : ∀ (n : Nat) (u1_ : Int) (hu1_a : -2147483648 ≤ u1_) (hu1_b : u1_ < 2147483648) (i2_ : 0 ≤ u1_), (ze Mz (d_ + 12) 7 - u1_).toNat < n → zW l m_Sums_isInBounds (zn Mz + 0, zw Mz + 0) Mz 2 [some (.ref (d_ + 23)), some (.int (Int32.ofInt a0_)), some (.int (Int32.ofInt u1_))] [] (zqcI d_ [] [] [] [] Mz (fun v N => ((v = 0 ∨ v = 1)))) := by
    intro n
    induction n with
    | zero =>
      intro u1_ hu1_a hu1_b i2_ h0
      exact absurd h0 (Nat.not_lt_zero _)
    | succ n ih_2 =>
      intro u1_ hu1_a hu1_b i2_ hlt_2
      refine zw_iload_n (pc := 2) (n := 2) (x := Int32.ofInt u1_) rfl (zdal_p dlA_Sums_isInBounds_144 (i := 2) rfl) ?_
      refine zw_aload_n (pc := 3) (n := 0) (x := (d_ + 23)) rfl (zdal_p dlA_Sums_isInBounds_144 (i := 3) rfl) ?_
      refine zw_getF (pc := 4) f_Sums_23 rfl ((hf.w hW).kr (o := 23) (by decide)) ((hf.w hW).lr (o := 23) (s := 0) (r := 12) (by decide)) (zdal_p dlA_Sums_isInBounds_144 (i := 4) rfl) ?_
      refine zk_getI (pc := 7) f_Sums_35 rfl ((hf.w hW).kr (o := 12) (by decide)) (zdal_p dlA_Sums_isInBounds_144 (i := 5) rfl) ?_
      have hr3_ := ze_r Mz (d_ + 12) 7
      refine zr_icmp_ge (pc := 10) (tgt := 53) ⟨hu1_a, hu1_b⟩ ⟨(ze_r Mz (d_ + 12) 7).1, (ze_r Mz (d_ + 12) 7).2⟩ (by decide) (zdal_p dlA_Sums_isInBounds_144 (i := 6) rfl) (fun hc_10 => ?_) (fun hc_10 => ?_)
      · skip
        refine zw_iconst (pc := 53) (v := Int32.ofInt 1) (by decide) (zdal_p dlA_Sums_isInBounds_145 (i := 3) rfl) ?_
        exact zk_iret (pc := 54) (ty := .boolean) rfl (z_narB (by omega)) ⟨by omega, by omega⟩ hf (show (((1 : Int)) = 0 ∨ ((1 : Int)) = 1) by first | with_reducible assumption | assumption | omega) (zdal_p dlA_Sums_isInBounds_145 (i := 4) rfl)
      · skip
        refine zw_aload_n (pc := 13) (n := 0) (x := (d_ + 23)) rfl (zdal_p dlA_Sums_isInBounds_144 (i := 7) rfl) ?_
        refine zw_iload_n (pc := 14) (n := 1) (x := Int32.ofInt a0_) rfl (zdal_p dlA_Sums_isInBounds_144 (i := 8) rfl) ?_
        refine zw_iload_n (pc := 15) (n := 2) (x := Int32.ofInt u1_) rfl (zdal_p dlA_Sums_isInBounds_144 (i := 9) rfl) ?_
        refine zk_callV hf.x (pc := 16) [.int (Int32.ofInt a0_), .int (Int32.ofInt u1_)] [] l_Sums_67 (u_Sums_numberAtX l d_ Mz (hf.w hW) a0_ ha0_a ha0_b u1_ hu1_a hu1_b) rfl rfl ((hf.w hW).kr (o := 23) (by decide)) (by decide) (by decide) (Nat.le_of_ble_eq_true rfl) (zdal_p dlA_Sums_isInBounds_144 (i := 10) rfl) ?_
        rintro _ N4_ ⟨v5_, rfl, ⟨hv5_a, hv5_b⟩, hsN4_, -⟩
        obtain rfl := hsN4_.eq.symm
        show zW l m_Sums_isInBounds (zn Mz + 0, zw Mz + 0) Mz 19 [some (.ref (d_ + 23)), some (.int (Int32.ofInt a0_)), some (.int (Int32.ofInt u1_))] [.long (Int64.ofInt v5_)] _
        refine zk_absJ (pc := 19) x_Sums_74 (by decide) (Nat.le_of_ble_eq_true rfl) (zdal_p dlA_Sums_isInBounds_144 (i := 11) rfl) ⟨hv5_a, hv5_b⟩ (fun v6_ hv6_ => ?_)
        refine zr_nmJ (fun v7_ hv7_ => ?_)
        obtain ⟨hv7_a, hv7_b⟩ := hv7_
        refine zr_ldc2 (pc := 22) (n := 1000000000000) (by decide) k_Sums_80 (zdal_p dlA_Sums_isInBounds_144 (i := 12) rfl) ?_
        refine zr_lcmp (pc := 25) ⟨hv7_a, hv7_b⟩ ⟨(by decide), (by decide)⟩ (zdal_p dlA_Sums_isInBounds_144 (i := 13) rfl) ?_
        have hr8_ := zcmp_s v7_ 1000000000000
        refine zr_if_gt (pc := 26) (tgt := 45) ⟨(by omega), (by omega)⟩ (by decide) (zdal_p dlA_Sums_isInBounds_144 (i := 14) rfl) (fun hc_26 => ?_) (fun hc_26 => ?_)
        · skip
          refine zw_iconst (pc := 45) (v := Int32.ofInt 0) (by decide) (zdal_p dlA_Sums_isInBounds_144 (i := 23) rfl) ?_
          exact zk_iret (pc := 46) (ty := .boolean) rfl (z_narB (by omega)) ⟨by omega, by omega⟩ hf (show (((0 : Int)) = 0 ∨ ((0 : Int)) = 1) by first | with_reducible assumption | assumption | omega) (zdal_p dlA_Sums_isInBounds_145 (i := 0) rfl)
        · skip
          refine zw_aload_n (pc := 29) (n := 0) (x := (d_ + 23)) rfl (zdal_p dlA_Sums_isInBounds_144 (i := 15) rfl) ?_
          refine zw_iload_n (pc := 30) (n := 1) (x := Int32.ofInt a0_) rfl (zdal_p dlA_Sums_isInBounds_144 (i := 16) rfl) ?_
          refine zw_iload_n (pc := 31) (n := 2) (x := Int32.ofInt u1_) rfl (zdal_p dlA_Sums_isInBounds_144 (i := 17) rfl) ?_
          refine zk_callV hf.x (pc := 32) [.int (Int32.ofInt a0_), .int (Int32.ofInt u1_)] [] l_Sums_50 (u_Sums_markOfX l d_ Mz (hf.w hW) a0_ ha0_a ha0_b u1_ hu1_a hu1_b) rfl rfl ((hf.w hW).kr (o := 23) (by decide)) (by decide) (by decide) (Nat.le_of_ble_eq_true rfl) (zdal_p dlA_Sums_isInBounds_144 (i := 18) rfl) ?_
          rintro _ N9_ ⟨v10_, rfl, ⟨hv10_a, hv10_b⟩, hsN9_, -⟩
          obtain rfl := hsN9_.eq.symm
          show zW l m_Sums_isInBounds (zn Mz + 0, zw Mz + 0) Mz 35 [some (.ref (d_ + 23)), some (.int (Int32.ofInt a0_)), some (.int (Int32.ofInt u1_))] [.long (Int64.ofInt v10_)] _
          refine zk_absJ (pc := 35) x_Sums_74 (by decide) (Nat.le_of_ble_eq_true rfl) (zdal_p dlA_Sums_isInBounds_144 (i := 19) rfl) ⟨hv10_a, hv10_b⟩ (fun v11_ hv11_ => ?_)
          refine zr_nmJ (fun v12_ hv12_ => ?_)
          obtain ⟨hv12_a, hv12_b⟩ := hv12_
          refine zr_ldc2 (pc := 38) (n := 1000000000000) (by decide) k_Sums_80 (zdal_p dlA_Sums_isInBounds_144 (i := 20) rfl) ?_
          refine zr_lcmp (pc := 41) ⟨hv12_a, hv12_b⟩ ⟨(by decide), (by decide)⟩ (zdal_p dlA_Sums_isInBounds_144 (i := 21) rfl) ?_
          have hr13_ := zcmp_s v12_ 1000000000000
          refine zr_if_le (pc := 42) (tgt := 47) ⟨(by omega), (by omega)⟩ (by decide) (zdal_p dlA_Sums_isInBounds_144 (i := 22) rfl) (fun hc_42 => ?_) (fun hc_42 => ?_)
          · skip
            refine zr_iinc (pc := 47) (i := 2) (a := u1_) (n := 1) (L2 := [some (.ref (d_ + 23)), some (.int (Int32.ofInt a0_)), some (.int (Int32.ofInt (u1_ + 1)))]) rfl (by decide) rfl (zdal_p dlA_Sums_isInBounds_145 (i := 1) rfl) ?_
            obtain ⟨v14_, hv14_a, hv14_b, hv14_e, hv14_d⟩ := zk_gen (u1_ + 1)
            rw [hv14_e]
            refine zw_goto (pc := 50) (tgt := 2) (by decide) (zdal_p dlA_Sums_isInBounds_145 (i := 2) rfl) ?_
            exact ih_2 v14_ hv14_a hv14_b (show 0 ≤ v14_ by first | with_reducible assumption | assumption | omega) (by omega)
          · skip
            refine zw_iconst (pc := 45) (v := Int32.ofInt 0) (by decide) (zdal_p dlA_Sums_isInBounds_144 (i := 23) rfl) ?_
            exact zk_iret (pc := 46) (ty := .boolean) rfl (z_narB (by omega)) ⟨by omega, by omega⟩ hf (show (((0 : Int)) = 0 ∨ ((0 : Int)) = 1) by first | with_reducible assumption | assumption | omega) (zdal_p dlA_Sums_isInBounds_145 (i := 0) rfl)
  exact lp_2 _ 0 (by decide) (by decide) (show 0 ≤ (0 : Int) by first | with_reducible assumption | assumption | omega) (Nat.lt_succ_self _)
set_option maxHeartbeats 4000000 in
theorem u_Sums_putNumberX (l : Launch) (d_ : Nat) (Mz : zMem) (hW : zKW d_ Mz) (a0_ : Int) (ha0_a : -2147483648 ≤ a0_) (ha0_b : a0_ < 2147483648) (a1_ : Int) (ha1_a : -2147483648 ≤ a1_) (ha1_b : a1_ < 2147483648) (a2_ : Int) (ha2_a : -9223372036854775808 ≤ a2_) (ha2_b : a2_ < 9223372036854775808) : zC l m_Sums_putNumber 0 0 [.ref (d_ + 23), .int (Int32.ofInt a0_), .int (Int32.ofInt a1_), .long (Int64.ofInt a2_)] Mz (zqcV d_ [] [] [] [25] Mz (fun N => True)) := by
  refine zC_of (L0 := [some (.ref (d_ + 23)), some (.int (Int32.ofInt a0_)), some (.int (Int32.ofInt a1_)), some (.long (Int64.ofInt a2_)), none]) md_Sums_putNumber (Nat.le_of_ble_eq_true rfl) rfl ?_ zQ0
  have hf : zFc d_ [] [] [] [25] Mz Mz := zFc.rf
  refine zw_aload_n (pc := 0) (n := 0) (x := (d_ + 23)) rfl (zdal_p dlA_Sums_putNumber_152 (i := 0) rfl) ?_
  refine zw_getF (pc := 1) f_Sums_16 rfl ((hf.w hW).kr (o := 23) (by decide)) ((hf.w hW).lr (o := 23) (s := 1) (r := 24) (by decide)) (zdal_p dlA_Sums_putNumber_152 (i := 1) rfl) ?_
  refine zw_iload_n (pc := 4) (n := 1) (x := Int32.ofInt a0_) rfl (zdal_p dlA_Sums_putNumber_152 (i := 2) rfl) ?_
  refine zw_bipush (pc := 5) (v := Int32.ofInt 27) (by decide) (zdal_p dlA_Sums_putNumber_152 (i := 3) rfl) ?_
  refine zr_imul (pc := 7) (zdal_p dlA_Sums_putNumber_152 (i := 4) rfl) ?_
  refine zr_nmI (fun v1_ hv1_ => ?_)
  obtain ⟨hv1_a, hv1_b⟩ := hv1_
  refine zw_iload_n (pc := 8) (n := 2) (x := Int32.ofInt a1_) rfl (zdal_p dlA_Sums_putNumber_152 (i := 5) rfl) ?_
  refine zr_iadd (pc := 9) (zdal_p dlA_Sums_putNumber_152 (i := 6) rfl) ?_
  refine zr_nmI (fun v2_ hv2_ => ?_)
  obtain ⟨hv2_a, hv2_b⟩ := hv2_
  refine zw_lload_n (pc := 10) (n := 3) (x := Int64.ofInt a2_) rfl (zdal_p dlA_Sums_putNumber_152 (i := 7) rfl) ?_
  refine zk_stGJ hf.x (pc := 11) (o := 25) (by decide) l_Sums_31 ((hf.w hW).kr (o := 24) (by decide)) ((hf.w hW).lr (o := 24) (s := 0) (r := 25) (by decide)) ((hf.w hW).rr (o := 25) (t := 2) (n := 1080) (by decide)) (by decide) ⟨by omega, by omega⟩ (by decide) (Nat.le_of_ble_eq_true rfl) (zdal_p dlA_Sums_putNumber_152 (i := 8) rfl) (fun N3_ hsN3_ => ?_)
  have hf_N3_ : zFc d_ [] [] [] [25] Mz N3_ := hf.tr hsN3_ (by decide) (by decide) (by decide) (by decide)
  exact zk_vret (pc := 14) rfl hf_N3_ trivial (zdal_p dlA_Sums_putNumber_152 (i := 9) rfl)
set_option maxHeartbeats 4000000 in
theorem u_Sums_putGrownX (l : Launch) (d_ : Nat) (Mz : zMem) (hW : zKW d_ Mz) (a0_ : Int) (ha0_a : -2147483648 ≤ a0_) (ha0_b : a0_ < 2147483648) (a1_ : Int) (ha1_a : -2147483648 ≤ a1_) (ha1_b : a1_ < 2147483648) (a2_ : Int) (ha2_a : -2147483648 ≤ a2_) (ha2_b : a2_ < 2147483648) : zC l m_Sums_putGrown 0 0 [.ref (d_ + 23), .int (Int32.ofInt a0_), .int (Int32.ofInt a1_), .int (Int32.ofInt a2_)] Mz (zqcV d_ [] [] [] [25] Mz (fun N => True)) := by
  refine zC_of (L0 := [some (.ref (d_ + 23)), some (.int (Int32.ofInt a0_)), some (.int (Int32.ofInt a1_)), some (.int (Int32.ofInt a2_)), none]) md_Sums_putGrown (Nat.le_of_ble_eq_true rfl) rfl ?_ zQ0
  have hf : zFc d_ [] [] [] [25] Mz Mz := zFc.rf
  refine zw_iconst (pc := 0) (v := Int32.ofInt 0) (by decide) (zdal_p dlB_Sums_putGrown_146 (i := 0) rfl) ?_
  refine zw_istore (pc := 1) (i := 4) (L2 := [some (.ref (d_ + 23)), some (.int (Int32.ofInt a0_)), some (.int (Int32.ofInt a1_)), some (.int (Int32.ofInt a2_)), some (.int (Int32.ofInt 0))]) (by decide) rfl (zdal_p dlB_Sums_putGrown_146 (i := 1) rfl) ?_
  have lp_3 : ∀ (n : Nat) (u1_ : Int) (hu1_a : -2147483648 ≤ u1_) (hu1_b : u1_ < 2147483648) (N2_ : zMem) (hs3_ : zFc d_ [] [] [] [25] Mz N2_) (i4_ : 0 ≤ u1_), (ze Mz (d_ + 12) 7 - u1_).toNat < n → zW l m_Sums_putGrown (zn Mz + 0, zw Mz + 0) N2_ 3 [some (.ref (d_ + 23)), some (.int (Int32.ofInt a0_)), some (.int (Int32.ofInt a1_)), some (.int (Int32.ofInt a2_)), some (.int (Int32.ofInt u1_))] [] (zqcV d_ [] [] [] [25] Mz (fun N => True)) := by
    intro n
    induction n with
    | zero =>
      intro u1_ hu1_a hu1_b N2_ hs3_ i4_ h0
      exact absurd h0 (Nat.not_lt_zero _)
    | succ n ih_3 =>
      intro u1_ hu1_a hu1_b N2_ hs3_ i4_ hlt_3
      have hf_N2_ : zFc d_ [] [] [] [25] Mz N2_ := hf.tr hs3_ (by decide) (by decide) (by decide) (by decide)
      refine zw_iload (pc := 3) (i := 4) (x := Int32.ofInt u1_) rfl (zdal_p dlB_Sums_putGrown_146 (i := 2) rfl) ?_
      refine zw_aload_n (pc := 5) (n := 0) (x := (d_ + 23)) rfl (zdal_p dlB_Sums_putGrown_146 (i := 3) rfl) ?_
      refine zw_getF (pc := 6) f_Sums_23 rfl ((hf_N2_.w hW).kr (o := 23) (by decide)) ((hf_N2_.w hW).lr (o := 23) (s := 0) (r := 12) (by decide)) (zdal_p dlB_Sums_putGrown_146 (i := 4) rfl) ?_
      refine zk_getI (pc := 9) f_Sums_35 rfl ((hf_N2_.w hW).kr (o := 12) (by decide)) (zdal_p dlB_Sums_putGrown_146 (i := 5) rfl) ?_
      rw [hf_N2_.e (by decide)]
      have hr5_ := ze_r Mz (d_ + 12) 7
      refine zr_icmp_ge (pc := 12) (tgt := 52) ⟨hu1_a, hu1_b⟩ ⟨(ze_r Mz (d_ + 12) 7).1, (ze_r Mz (d_ + 12) 7).2⟩ (by decide) (zdal_p dlB_Sums_putGrown_146 (i := 6) rfl) (fun hc_12 => ?_) (fun hc_12 => ?_)
      · skip
        exact zk_vret (pc := 52) rfl hf_N2_ trivial (zdal_p dlB_Sums_putGrown_147 (i := 4) rfl)
      · skip
        refine zw_aload_n (pc := 15) (n := 0) (x := (d_ + 23)) rfl (zdal_p dlB_Sums_putGrown_146 (i := 7) rfl) ?_
        refine zw_bipush (pc := 16) (v := Int32.ofInt 39) (by decide) (zdal_p dlB_Sums_putGrown_146 (i := 8) rfl) ?_
        refine zw_iload (pc := 18) (i := 4) (x := Int32.ofInt u1_) rfl (zdal_p dlB_Sums_putGrown_146 (i := 9) rfl) ?_
        refine zw_iload_n (pc := 20) (n := 1) (x := Int32.ofInt a0_) rfl (zdal_p dlB_Sums_putGrown_146 (i := 10) rfl) ?_
        refine zr_i2l (pc := 21) ⟨ha0_a, ha0_b⟩ (zdal_p dlB_Sums_putGrown_146 (i := 11) rfl) ?_
        refine zw_aload_n (pc := 22) (n := 0) (x := (d_ + 23)) rfl (zdal_p dlB_Sums_putGrown_146 (i := 12) rfl) ?_
        refine zw_iconst (pc := 23) (v := Int32.ofInt 0) (by decide) (zdal_p dlB_Sums_putGrown_146 (i := 13) rfl) ?_
        refine zw_iload (pc := 24) (i := 4) (x := Int32.ofInt u1_) rfl (zdal_p dlB_Sums_putGrown_146 (i := 14) rfl) ?_
        refine zk_callV hf_N2_.x (pc := 26) [.int (Int32.ofInt 0), .int (Int32.ofInt u1_)] [.long (Int64.ofInt a0_), .int (Int32.ofInt u1_), .int (Int32.ofInt 39), .ref (d_ + 23)] l_Sums_67 (u_Sums_numberAtX l d_ N2_ (hf_N2_.w hW) 0 (by decide) (by decide) u1_ hu1_a hu1_b) rfl rfl ((hf_N2_.w hW).kr (o := 23) (by decide)) (by decide) (by decide) (Nat.le_of_ble_eq_true rfl) (zdal_p dlB_Sums_putGrown_146 (i := 15) rfl) ?_
        rintro _ N6_ ⟨v7_, rfl, ⟨hv7_a, hv7_b⟩, hsN6_, -⟩
        obtain rfl := hsN6_.eq.symm
        show zW l m_Sums_putGrown (zn Mz + 0, zw Mz + 0) N2_ 29 [some (.ref (d_ + 23)), some (.int (Int32.ofInt a0_)), some (.int (Int32.ofInt a1_)), some (.int (Int32.ofInt a2_)), some (.int (Int32.ofInt u1_))] [.long (Int64.ofInt v7_), .long (Int64.ofInt a0_), .int (Int32.ofInt u1_), .int (Int32.ofInt 39), .ref (d_ + 23)] _
        refine zr_lmul (pc := 29) (zdal_p dlB_Sums_putGrown_146 (i := 16) rfl) ?_
        refine zr_nmJ (fun v8_ hv8_ => ?_)
        obtain ⟨hv8_a, hv8_b⟩ := hv8_
        refine zw_iload (pc := 30) (i := 4) (x := Int32.ofInt u1_) rfl (zdal_p dlB_Sums_putGrown_146 (i := 17) rfl) ?_
        refine zw_iload_n (pc := 32) (n := 3) (x := Int32.ofInt a2_) rfl (zdal_p dlB_Sums_putGrown_146 (i := 18) rfl) ?_
        refine zr_icmp_ne (pc := 33) (tgt := 40) ⟨hu1_a, hu1_b⟩ ⟨ha2_a, ha2_b⟩ (by decide) (zdal_p dlB_Sums_putGrown_146 (i := 19) rfl) (fun hc_33 => ?_) (fun hc_33 => ?_)
        · skip
          refine zw_iconst (pc := 40) (v := Int32.ofInt 0) (by decide) (zdal_p dlB_Sums_putGrown_146 (i := 22) rfl) ?_
          refine zr_i2l (pc := 41) ⟨(by decide), (by decide)⟩ (zdal_p dlB_Sums_putGrown_146 (i := 23) rfl) ?_
          refine zr_ladd (pc := 42) (zdal_p dlB_Sums_putGrown_147 (i := 0) rfl) ?_
          refine zr_nmJ (fun v9_ hv9_ => ?_)
          obtain ⟨hv9_a, hv9_b⟩ := hv9_
          refine zk_callV hf_N2_.x (pc := 43) [.int (Int32.ofInt 39), .int (Int32.ofInt u1_), .long (Int64.ofInt v9_)] [] l_Sums_70 (u_Sums_putNumberX l d_ N2_ (hf_N2_.w hW) 39 (by decide) (by decide) u1_ hu1_a hu1_b v9_ hv9_a hv9_b) rfl rfl ((hf_N2_.w hW).kr (o := 23) (by decide)) (by decide) (by decide) (Nat.le_of_ble_eq_true rfl) (zdal_p dlB_Sums_putGrown_147 (i := 1) rfl) ?_
          rintro _ N10_ ⟨rfl, hsN10_, -⟩
          have hf_N10_ : zFc d_ [] [] [] [25] Mz N10_ := hf_N2_.tr hsN10_ (by decide) (by decide) (by decide) (by decide)
          have hb0_N10_ : zFc d_ [] [] [] [25] Mz N10_ := hs3_.tr hsN10_ (by decide) (by decide) (by decide) (by decide)
          show zW l m_Sums_putGrown (zn Mz + 0, zw Mz + 0) N10_ 46 [some (.ref (d_ + 23)), some (.int (Int32.ofInt a0_)), some (.int (Int32.ofInt a1_)), some (.int (Int32.ofInt a2_)), some (.int (Int32.ofInt u1_))] [] _
          refine zr_iinc (pc := 46) (i := 4) (a := u1_) (n := 1) (L2 := [some (.ref (d_ + 23)), some (.int (Int32.ofInt a0_)), some (.int (Int32.ofInt a1_)), some (.int (Int32.ofInt a2_)), some (.int (Int32.ofInt (u1_ + 1)))]) rfl (by decide) rfl (zdal_p dlB_Sums_putGrown_147 (i := 2) rfl) ?_
          obtain ⟨v12_, hv12_a, hv12_b, hv12_e, hv12_d⟩ := zk_gen (u1_ + 1)
          rw [hv12_e]
          refine zw_goto (pc := 49) (tgt := 3) (by decide) (zdal_p dlB_Sums_putGrown_147 (i := 3) rfl) ?_
          exact ih_3 v12_ hv12_a hv12_b N10_ hb0_N10_ (show 0 ≤ v12_ by first | with_reducible assumption | assumption | omega) (by omega)
        · skip
          refine zw_iload_n (pc := 36) (n := 2) (x := Int32.ofInt a1_) rfl (zdal_p dlB_Sums_putGrown_146 (i := 20) rfl) ?_
          refine zw_goto (pc := 37) (tgt := 41) (by decide) (zdal_p dlB_Sums_putGrown_146 (i := 21) rfl) ?_
          refine zr_i2l (pc := 41) ⟨ha1_a, ha1_b⟩ (zdal_p dlB_Sums_putGrown_146 (i := 23) rfl) ?_
          refine zr_ladd (pc := 42) (zdal_p dlB_Sums_putGrown_147 (i := 0) rfl) ?_
          refine zr_nmJ (fun v13_ hv13_ => ?_)
          obtain ⟨hv13_a, hv13_b⟩ := hv13_
          refine zk_callV hf_N2_.x (pc := 43) [.int (Int32.ofInt 39), .int (Int32.ofInt u1_), .long (Int64.ofInt v13_)] [] l_Sums_70 (u_Sums_putNumberX l d_ N2_ (hf_N2_.w hW) 39 (by decide) (by decide) u1_ hu1_a hu1_b v13_ hv13_a hv13_b) rfl rfl ((hf_N2_.w hW).kr (o := 23) (by decide)) (by decide) (by decide) (Nat.le_of_ble_eq_true rfl) (zdal_p dlB_Sums_putGrown_147 (i := 1) rfl) ?_
          rintro _ N14_ ⟨rfl, hsN14_, -⟩
          have hf_N14_ : zFc d_ [] [] [] [25] Mz N14_ := hf_N2_.tr hsN14_ (by decide) (by decide) (by decide) (by decide)
          have hb0_N14_ : zFc d_ [] [] [] [25] Mz N14_ := hs3_.tr hsN14_ (by decide) (by decide) (by decide) (by decide)
          show zW l m_Sums_putGrown (zn Mz + 0, zw Mz + 0) N14_ 46 [some (.ref (d_ + 23)), some (.int (Int32.ofInt a0_)), some (.int (Int32.ofInt a1_)), some (.int (Int32.ofInt a2_)), some (.int (Int32.ofInt u1_))] [] _
          refine zr_iinc (pc := 46) (i := 4) (a := u1_) (n := 1) (L2 := [some (.ref (d_ + 23)), some (.int (Int32.ofInt a0_)), some (.int (Int32.ofInt a1_)), some (.int (Int32.ofInt a2_)), some (.int (Int32.ofInt (u1_ + 1)))]) rfl (by decide) rfl (zdal_p dlB_Sums_putGrown_147 (i := 2) rfl) ?_
          obtain ⟨v16_, hv16_a, hv16_b, hv16_e, hv16_d⟩ := zk_gen (u1_ + 1)
          rw [hv16_e]
          refine zw_goto (pc := 49) (tgt := 3) (by decide) (zdal_p dlB_Sums_putGrown_147 (i := 3) rfl) ?_
          exact ih_3 v16_ hv16_a hv16_b N14_ hb0_N14_ (show 0 ≤ v16_ by first | with_reducible assumption | assumption | omega) (by omega)
  exact lp_3 _ 0 (by decide) (by decide) Mz zFc.rf (show 0 ≤ (0 : Int) by first | with_reducible assumption | assumption | omega) (Nat.lt_succ_self _)
set_option maxHeartbeats 4000000 in
theorem u_T_growsX (l : Launch) (d_ : Nat) (Mz : zMem) (hW : zKW d_ Mz) (hnow : zf Mz 0 2 = some (d_ + 0)) (a0_ : Int) (ha0_a : -2147483648 ≤ a0_) (ha0_b : a0_ < 2147483648) (a1_ : Int) (ha1_a : -2147483648 ≤ a1_) (ha1_b : a1_ < 2147483648) (a2_ : Int) (ha2_a : -2147483648 ≤ a2_) (ha2_b : a2_ < 2147483648) : zC l m_T_grows 0 0 [.ref 0, .int (Int32.ofInt a0_), .int (Int32.ofInt a1_), .int (Int32.ofInt a2_)] Mz (zqcJ d_ [] [] [(0, 7), (0, 8)] [25] Mz (fun v N => True)) := by
  refine zC_of (L0 := [some (.ref 0), some (.int (Int32.ofInt a0_)), some (.int (Int32.ofInt a1_)), some (.int (Int32.ofInt a2_))]) md_T_grows (Nat.le_of_ble_eq_true rfl) rfl ?_ zQ0
  have hf : zFc d_ [] [] [(0, 7), (0, 8)] [25] Mz Mz := zFc.rf
  refine zw_iload_n (pc := 0) (n := 1) (x := Int32.ofInt a0_) rfl (zdal_p dlB_T_grows_144 (i := 0) rfl) ?_
  refine zw_bipush (pc := 1) (v := Int32.ofInt (-9)) (by decide) (zdal_p dlB_T_grows_144 (i := 1) rfl) ?_
  refine zr_icmp_lt (pc := 3) (tgt := 40) ⟨ha0_a, ha0_b⟩ ⟨(by decide), (by decide)⟩ (by decide) (zdal_p dlB_T_grows_144 (i := 2) rfl) (fun hc_3 => ?_) (fun hc_3 => ?_)
  · skip
    refine zr_ldc2 (pc := 40) (n := (-9223372036854775808)) (by decide) k_T_248 d_T_grows_40 ?_
    exact zk_lret (pc := 43) rfl ⟨by omega, by omega⟩ hf trivial d_T_grows_43
  · skip
    refine zw_iload_n (pc := 6) (n := 1) (x := Int32.ofInt a0_) rfl (zdal_p dlB_T_grows_144 (i := 3) rfl) ?_
    refine zw_bipush (pc := 7) (v := Int32.ofInt 9) (by decide) (zdal_p dlB_T_grows_144 (i := 4) rfl) ?_
    refine zr_icmp_gt (pc := 9) (tgt := 40) ⟨ha0_a, ha0_b⟩ ⟨(by decide), (by decide)⟩ (by decide) (zdal_p dlB_T_grows_144 (i := 5) rfl) (fun hc_9 => ?_) (fun hc_9 => ?_)
    · skip
      refine zr_ldc2 (pc := 40) (n := (-9223372036854775808)) (by decide) k_T_248 d_T_grows_40 ?_
      exact zk_lret (pc := 43) rfl ⟨by omega, by omega⟩ hf trivial d_T_grows_43
    · skip
      refine zw_iload_n (pc := 12) (n := 2) (x := Int32.ofInt a1_) rfl (zdal_p dlB_T_grows_144 (i := 6) rfl) ?_
      refine zw_sipush (pc := 13) (v := Int32.ofInt (-999)) (by decide) (zdal_p dlB_T_grows_144 (i := 7) rfl) ?_
      refine zr_icmp_lt (pc := 16) (tgt := 40) ⟨ha1_a, ha1_b⟩ ⟨(by decide), (by decide)⟩ (by decide) (zdal_p dlB_T_grows_144 (i := 8) rfl) (fun hc_16 => ?_) (fun hc_16 => ?_)
      · skip
        refine zr_ldc2 (pc := 40) (n := (-9223372036854775808)) (by decide) k_T_248 d_T_grows_40 ?_
        exact zk_lret (pc := 43) rfl ⟨by omega, by omega⟩ hf trivial d_T_grows_43
      · skip
        refine zw_iload_n (pc := 19) (n := 2) (x := Int32.ofInt a1_) rfl (zdal_p dlB_T_grows_144 (i := 9) rfl) ?_
        refine zw_sipush (pc := 20) (v := Int32.ofInt 999) (by decide) (zdal_p dlB_T_grows_144 (i := 10) rfl) ?_
        refine zr_icmp_gt (pc := 23) (tgt := 40) ⟨ha1_a, ha1_b⟩ ⟨(by decide), (by decide)⟩ (by decide) (zdal_p dlB_T_grows_144 (i := 11) rfl) (fun hc_23 => ?_) (fun hc_23 => ?_)
        · skip
          refine zr_ldc2 (pc := 40) (n := (-9223372036854775808)) (by decide) k_T_248 d_T_grows_40 ?_
          exact zk_lret (pc := 43) rfl ⟨by omega, by omega⟩ hf trivial d_T_grows_43
        · skip
          refine zw_aload_n (pc := 26) (n := 0) (x := 0) rfl (zdal_p dlB_T_grows_144 (i := 12) rfl) ?_
          refine zw_getF (pc := 27) f_T_28 rfl ((hf.w hW).ka (o := 0) (by decide)) (hf.now hnow) (zdal_p dlB_T_grows_144 (i := 13) rfl) ?_
          refine zw_getF (pc := 30) f_T_85 rfl ((hf.w hW).kr (o := 0) (by decide)) ((hf.w hW).lr (o := 0) (s := 1) (r := 12) (by decide)) (zdal_p dlB_T_grows_144 (i := 14) rfl) ?_
          refine zw_iload_n (pc := 33) (n := 3) (x := Int32.ofInt a2_) rfl (zdal_p dlB_T_grows_144 (i := 15) rfl) ?_
          refine zk_callV hf.x (pc := 34) [.int (Int32.ofInt a2_)] [] l_T_143 (u_Sorts_hasSortX l d_ Mz (hf.w hW) a2_ ha2_a ha2_b) rfl rfl ((hf.w hW).kr (o := 12) (by decide)) (by decide) (by decide) (Nat.le_of_ble_eq_true rfl) (zdal_p dlB_T_grows_144 (i := 16) rfl) ?_
          rintro _ N1_ ⟨v2_, rfl, ⟨hv2_a, hv2_b⟩, hsN1_, hp0_N1_⟩
          obtain rfl := hsN1_.eq.symm
          replace hp0_N1_ : (v2_ = 0 ∨ v2_ = 1) := hp0_N1_
          show zW l m_T_grows (zn Mz + 0, zw Mz + 0) Mz 37 [some (.ref 0), some (.int (Int32.ofInt a0_)), some (.int (Int32.ofInt a1_)), some (.int (Int32.ofInt a2_))] [.int (Int32.ofInt v2_)] _
          refine zr_if_ne (pc := 37) (tgt := 44) ⟨hv2_a, hv2_b⟩ (by decide) (zdal_p dlB_T_grows_144 (i := 17) rfl) (fun hc_37 => ?_) (fun hc_37 => ?_)
          · skip
            refine zw_aload_n (pc := 44) (n := 0) (x := 0) rfl (zdal_p dlB_T_grows_144 (i := 20) rfl) ?_
            refine zw_getF (pc := 45) f_T_28 rfl ((hf.w hW).ka (o := 0) (by decide)) (hf.now hnow) (zdal_p dlB_T_grows_144 (i := 21) rfl) ?_
            refine zw_getF (pc := 48) f_T_169 rfl ((hf.w hW).kr (o := 0) (by decide)) ((hf.w hW).lr (o := 0) (s := 2) (r := 23) (by decide)) (zdal_p dlB_T_grows_144 (i := 22) rfl) ?_
            refine zw_iload_n (pc := 51) (n := 1) (x := Int32.ofInt a0_) rfl (zdal_p dlB_T_grows_144 (i := 23) rfl) ?_
            refine zw_iload_n (pc := 52) (n := 2) (x := Int32.ofInt a1_) rfl (zdal_p dlB_T_grows_145 (i := 0) rfl) ?_
            refine zw_iload_n (pc := 53) (n := 3) (x := Int32.ofInt a2_) rfl (zdal_p dlB_T_grows_145 (i := 1) rfl) ?_
            refine zk_callV hf.x (pc := 54) [.int (Int32.ofInt a0_), .int (Int32.ofInt a1_), .int (Int32.ofInt a2_)] [] l_T_307 (u_Sums_putGrownX l d_ Mz (hf.w hW) a0_ ha0_a ha0_b a1_ ha1_a ha1_b a2_ ha2_a ha2_b) rfl rfl ((hf.w hW).kr (o := 23) (by decide)) (by decide) (by decide) (Nat.le_of_ble_eq_true rfl) (zdal_p dlB_T_grows_145 (i := 2) rfl) ?_
            rintro _ N3_ ⟨rfl, hsN3_, -⟩
            have hf_N3_ : zFc d_ [] [] [(0, 7), (0, 8)] [25] Mz N3_ := hf.tr hsN3_ (by decide) (by decide) (by decide) (by decide)
            show zW l m_T_grows (zn Mz + 0, zw Mz + 0) N3_ 57 [some (.ref 0), some (.int (Int32.ofInt a0_)), some (.int (Int32.ofInt a1_)), some (.int (Int32.ofInt a2_))] [] _
            refine zw_aload_n (pc := 57) (n := 0) (x := 0) rfl (zdal_p dlB_T_grows_145 (i := 3) rfl) ?_
            refine zw_getF (pc := 58) f_T_28 rfl ((hf_N3_.w hW).ka (o := 0) (by decide)) (hf_N3_.now hnow) (zdal_p dlB_T_grows_145 (i := 4) rfl) ?_
            refine zw_getF (pc := 61) f_T_169 rfl ((hf_N3_.w hW).kr (o := 0) (by decide)) ((hf_N3_.w hW).lr (o := 0) (s := 2) (r := 23) (by decide)) (zdal_p dlB_T_grows_145 (i := 5) rfl) ?_
            refine zw_bipush (pc := 64) (v := Int32.ofInt 39) (by decide) (zdal_p dlB_T_grows_145 (i := 6) rfl) ?_
            refine zk_callV hf_N3_.x (pc := 66) [.int (Int32.ofInt 39)] [] l_T_311 (u_Sums_isInBoundsX l d_ N3_ (hf_N3_.w hW) 39 (by decide) (by decide)) rfl rfl ((hf_N3_.w hW).kr (o := 23) (by decide)) (by decide) (by decide) (Nat.le_of_ble_eq_true rfl) (zdal_p dlB_T_grows_145 (i := 7) rfl) ?_
            rintro _ N5_ ⟨v6_, rfl, ⟨hv6_a, hv6_b⟩, hsN5_, hp0_N5_⟩
            obtain rfl := hsN5_.eq.symm
            replace hp0_N5_ : (v6_ = 0 ∨ v6_ = 1) := hp0_N5_
            show zW l m_T_grows (zn Mz + 0, zw Mz + 0) N3_ 69 [some (.ref 0), some (.int (Int32.ofInt a0_)), some (.int (Int32.ofInt a1_)), some (.int (Int32.ofInt a2_))] [.int (Int32.ofInt v6_)] _
            refine zr_if_ne (pc := 69) (tgt := 76) ⟨hv6_a, hv6_b⟩ (by decide) (zdal_p dlB_T_grows_145 (i := 8) rfl) (fun hc_69 => ?_) (fun hc_69 => ?_)
            · skip
              refine zw_aload_n (pc := 76) (n := 0) (x := 0) rfl (zdal_p dlB_T_grows_145 (i := 11) rfl) ?_
              refine zw_getF (pc := 77) f_T_28 rfl ((hf_N3_.w hW).ka (o := 0) (by decide)) (hf_N3_.now hnow) (zdal_p dlB_T_grows_145 (i := 12) rfl) ?_
              refine zw_bipush (pc := 80) (v := Int32.ofInt 39) (by decide) (zdal_p dlB_T_grows_145 (i := 13) rfl) ?_
              refine zk_callV hf_N3_.x (pc := 82) [.int (Int32.ofInt 39)] [] l_T_284 (u_Troupe_becomeX l d_ N3_ (hf_N3_.w hW) 39 (by decide) (by decide)) rfl rfl ((hf_N3_.w hW).kr (o := 0) (by decide)) (by decide) (by decide) (Nat.le_of_ble_eq_true rfl) (zdal_p dlB_T_grows_145 (i := 14) rfl) ?_
              rintro _ N7_ ⟨rfl, hsN7_, -⟩
              have hf_N7_ : zFc d_ [] [] [(0, 7), (0, 8)] [25] Mz N7_ := hf_N3_.tr hsN7_ (by decide) (by decide) (by decide) (by decide)
              show zW l m_T_grows (zn Mz + 0, zw Mz + 0) N7_ 85 [some (.ref 0), some (.int (Int32.ofInt a0_)), some (.int (Int32.ofInt a1_)), some (.int (Int32.ofInt a2_))] [] _
              refine zw_aload_n (pc := 85) (n := 0) (x := 0) rfl (zdal_p dlB_T_grows_145 (i := 15) rfl) ?_
              refine zw_getF (pc := 86) f_T_28 rfl ((hf_N7_.w hW).ka (o := 0) (by decide)) (hf_N7_.now hnow) (zdal_p dlB_T_grows_145 (i := 16) rfl) ?_
              refine zw_getF (pc := 89) f_T_169 rfl ((hf_N7_.w hW).kr (o := 0) (by decide)) ((hf_N7_.w hW).lr (o := 0) (s := 2) (r := 23) (by decide)) (zdal_p dlB_T_grows_145 (i := 17) rfl) ?_
              refine zw_iconst (pc := 92) (v := Int32.ofInt 0) (by decide) (zdal_p dlB_T_grows_145 (i := 18) rfl) ?_
              refine zw_iload_n (pc := 93) (n := 3) (x := Int32.ofInt a2_) rfl (zdal_p dlB_T_grows_145 (i := 19) rfl) ?_
              refine zk_callV hf_N7_.x (pc := 94) [.int (Int32.ofInt 0), .int (Int32.ofInt a2_)] [] l_T_179 (u_Sums_numberAtX l d_ N7_ (hf_N7_.w hW) 0 (by decide) (by decide) a2_ ha2_a ha2_b) rfl rfl ((hf_N7_.w hW).kr (o := 23) (by decide)) (by decide) (by decide) (Nat.le_of_ble_eq_true rfl) (zdal_p dlB_T_grows_145 (i := 20) rfl) ?_
              rintro _ N9_ ⟨v10_, rfl, ⟨hv10_a, hv10_b⟩, hsN9_, -⟩
              obtain rfl := hsN9_.eq.symm
              show zW l m_T_grows (zn Mz + 0, zw Mz + 0) N7_ 97 [some (.ref 0), some (.int (Int32.ofInt a0_)), some (.int (Int32.ofInt a1_)), some (.int (Int32.ofInt a2_))] [.long (Int64.ofInt v10_)] _
              exact zk_lret (pc := 97) rfl ⟨by omega, by omega⟩ hf_N7_ trivial (zdal_p dlB_T_grows_145 (i := 21) rfl)
            · skip
              refine zr_ldc2 (pc := 72) (n := (-9223372036854775808)) (by decide) k_T_248 (zdal_p dlB_T_grows_145 (i := 9) rfl) ?_
              exact zk_lret (pc := 75) rfl ⟨by omega, by omega⟩ hf_N3_ trivial (zdal_p dlB_T_grows_145 (i := 10) rfl)
          · skip
            refine zr_ldc2 (pc := 40) (n := (-9223372036854775808)) (by decide) k_T_248 d_T_grows_40 ?_
            exact zk_lret (pc := 43) rfl ⟨by omega, by omega⟩ hf trivial d_T_grows_43
set_option maxHeartbeats 4000000 in
theorem u_Troupe_takeBackX (l : Launch) (d_ : Nat) (Mz : zMem) (hW : zKW d_ Mz) : zC l m_Troupe_takeBack 0 0 [.ref (d_ + 0)] Mz (zqcI d_ [] [] [(0, 7), (0, 8)] [25] Mz (fun v N => True)) := by
  refine zC_of (L0 := [some (.ref (d_ + 0))]) md_Troupe_takeBack (Nat.le_of_ble_eq_true rfl) rfl ?_ zQ0
  have hf : zFc d_ [] [] [(0, 7), (0, 8)] [25] Mz Mz := zFc.rf
  refine zw_aload_n (pc := 0) (n := 0) (x := (d_ + 0)) rfl (zdal_p dlB_Troupe_takeBack_149 (i := 0) rfl) ?_
  refine zw_aload_n (pc := 1) (n := 0) (x := (d_ + 0)) rfl (zdal_p dlB_Troupe_takeBack_149 (i := 1) rfl) ?_
  refine zk_getI (pc := 2) f_Troupe_71 rfl ((hf.w hW).kr (o := 0) (by decide)) (zdal_p dlB_Troupe_takeBack_149 (i := 2) rfl) ?_
  have hr1_ := ze_r Mz (d_ + 0) 8
  refine zw_bipush (pc := 5) (v := Int32.ofInt 12) (by decide) (zdal_p dlB_Troupe_takeBack_149 (i := 3) rfl) ?_
  refine zr_iadd (pc := 7) (zdal_p dlB_Troupe_takeBack_149 (i := 4) rfl) ?_
  refine zr_nmI (fun v2_ hv2_ => ?_)
  obtain ⟨hv2_a, hv2_b⟩ := hv2_
  refine zw_iconst (pc := 8) (v := Int32.ofInt 1) (by decide) (zdal_p dlB_Troupe_takeBack_149 (i := 5) rfl) ?_
  refine zr_isub (pc := 9) (zdal_p dlB_Troupe_takeBack_149 (i := 6) rfl) ?_
  refine zr_nmI (fun v3_ hv3_ => ?_)
  obtain ⟨hv3_a, hv3_b⟩ := hv3_
  refine zw_bipush (pc := 10) (v := Int32.ofInt 12) (by decide) (zdal_p dlB_Troupe_takeBack_149 (i := 7) rfl) ?_
  refine zr_irem (pc := 12) ⟨by omega, by omega⟩ (by omega) (zdal_p dlB_Troupe_takeBack_149 (i := 8) rfl) ?_
  have hr4_ := zrem_r v3_ 12
  refine zr_nmI (fun v5_ hv5_ => ?_)
  obtain ⟨hv5_a, hv5_b⟩ := hv5_
  refine zk_putR (pc := 13) (o := 0) (by decide) f_Troupe_71 rfl rfl ((hf.w hW).kr (o := 0) (by decide)) ⟨by omega, by omega⟩ rfl rfl (zdal_p dlB_Troupe_takeBack_149 (i := 9) rfl) (fun N6_ hsN6_ hvN6_ => ?_)
  have hf_N6_ : zFc d_ [] [] [(0, 7), (0, 8)] [25] Mz N6_ := hf.tr hsN6_ (by decide) (by decide) (by decide) (by decide)
  refine zw_aload_n (pc := 16) (n := 0) (x := (d_ + 0)) rfl (zdal_p dlB_Troupe_takeBack_149 (i := 10) rfl) ?_
  refine zw_dup (pc := 17) rfl (zdal_p dlB_Troupe_takeBack_149 (i := 11) rfl) ?_
  refine zk_getI (pc := 18) f_Troupe_68 rfl ((hf_N6_.w hW).kr (o := 0) (by decide)) (zdal_p dlB_Troupe_takeBack_149 (i := 12) rfl) ?_
  have hr7_ := ze_r N6_ (d_ + 0) 7
  refine zw_iconst (pc := 21) (v := Int32.ofInt 1) (by decide) (zdal_p dlB_Troupe_takeBack_149 (i := 13) rfl) ?_
  refine zr_isub (pc := 22) (zdal_p dlB_Troupe_takeBack_149 (i := 14) rfl) ?_
  refine zr_nmI (fun v8_ hv8_ => ?_)
  obtain ⟨hv8_a, hv8_b⟩ := hv8_
  refine zk_putR (pc := 23) (o := 0) (by decide) f_Troupe_68 rfl rfl ((hf_N6_.w hW).kr (o := 0) (by decide)) ⟨by omega, by omega⟩ rfl rfl (zdal_p dlB_Troupe_takeBack_149 (i := 15) rfl) (fun N9_ hsN9_ hvN9_ => ?_)
  have hf_N9_ : zFc d_ [] [] [(0, 7), (0, 8)] [25] Mz N9_ := hf_N6_.tr hsN9_ (by decide) (by decide) (by decide) (by decide)
  refine zw_aload_n (pc := 26) (n := 0) (x := (d_ + 0)) rfl (zdal_p dlB_Troupe_takeBack_149 (i := 16) rfl) ?_
  refine zw_getF (pc := 27) f_Troupe_32 rfl ((hf_N9_.w hW).kr (o := 0) (by decide)) ((hf_N9_.w hW).lr (o := 0) (s := 2) (r := 23) (by decide)) (zdal_p dlB_Troupe_takeBack_149 (i := 17) rfl) ?_
  refine zw_bipush (pc := 30) (v := Int32.ofInt 9) (by decide) (zdal_p dlB_Troupe_takeBack_149 (i := 18) rfl) ?_
  refine zw_aload_n (pc := 32) (n := 0) (x := (d_ + 0)) rfl (zdal_p dlB_Troupe_takeBack_149 (i := 19) rfl) ?_
  refine zk_getI (pc := 33) f_Troupe_71 rfl ((hf_N9_.w hW).kr (o := 0) (by decide)) (zdal_p dlB_Troupe_takeBack_149 (i := 20) rfl) ?_
  have hr10_ := ze_r N9_ (d_ + 0) 8
  refine zr_iadd (pc := 36) (zdal_p dlB_Troupe_takeBack_149 (i := 21) rfl) ?_
  refine zr_nmI (fun v11_ hv11_ => ?_)
  obtain ⟨hv11_a, hv11_b⟩ := hv11_
  refine zw_iconst (pc := 37) (v := Int32.ofInt 0) (by decide) (zdal_p dlB_Troupe_takeBack_149 (i := 22) rfl) ?_
  refine zk_callV hf_N9_.x (pc := 38) [.int (Int32.ofInt v11_), .int (Int32.ofInt 0)] [] l_Troupe_93 (u_Sums_copyX l d_ N9_ (hf_N9_.w hW) v11_ hv11_a hv11_b 0 (by decide) (by decide)) rfl rfl ((hf_N9_.w hW).kr (o := 23) (by decide)) (by decide) (by decide) (Nat.le_of_ble_eq_true rfl) (zdal_p dlB_Troupe_takeBack_149 (i := 23) rfl) ?_
  rintro _ N12_ ⟨rfl, hsN12_, -⟩
  have hf_N12_ : zFc d_ [] [] [(0, 7), (0, 8)] [25] Mz N12_ := hf_N9_.tr hsN12_ (by decide) (by decide) (by decide) (by decide)
  show zW l m_Troupe_takeBack (zn Mz + 0, zw Mz + 0) N12_ 41 [some (.ref (d_ + 0))] [] _
  refine zw_aload_n (pc := 41) (n := 0) (x := (d_ + 0)) rfl (zdal_p dlB_Troupe_takeBack_150 (i := 0) rfl) ?_
  refine zk_getI (pc := 42) f_Troupe_68 rfl ((hf_N12_.w hW).kr (o := 0) (by decide)) (zdal_p dlB_Troupe_takeBack_150 (i := 1) rfl) ?_
  have hr14_ := ze_r N12_ (d_ + 0) 7
  exact zk_iret (pc := 45) (ty := .int) rfl rfl ⟨by omega, by omega⟩ hf_N12_ trivial (zdal_p dlB_Troupe_takeBack_150 (i := 2) rfl)
set_option maxHeartbeats 4000000 in
theorem u_T_undoX (l : Launch) (d_ : Nat) (Mz : zMem) (hW : zKW d_ Mz) (hnow : zf Mz 0 2 = some (d_ + 0)) : zC l m_T_undo 0 0 [.ref 0] Mz (zqcI d_ [] [] [(0, 7), (0, 8)] [25] Mz (fun v N => True)) := by
  refine zC_of (L0 := [some (.ref 0)]) md_T_undo (Nat.le_of_ble_eq_true rfl) rfl ?_ zQ0
  have hf : zFc d_ [] [] [(0, 7), (0, 8)] [25] Mz Mz := zFc.rf
  refine zw_aload_n (pc := 0) (n := 0) (x := 0) rfl (zdal_p dlB_T_undo_148 (i := 0) rfl) ?_
  refine zw_getF (pc := 1) f_T_28 rfl ((hf.w hW).ka (o := 0) (by decide)) (hf.now hnow) (zdal_p dlB_T_undo_148 (i := 1) rfl) ?_
  refine zk_getI (pc := 4) f_T_105 rfl ((hf.w hW).kr (o := 0) (by decide)) (zdal_p dlB_T_undo_148 (i := 2) rfl) ?_
  have hr1_ := ze_r Mz (d_ + 0) 7
  refine zr_if_le (pc := 7) (tgt := 20) ⟨(ze_r Mz (d_ + 0) 7).1, (ze_r Mz (d_ + 0) 7).2⟩ (by decide) (zdal_p dlB_T_undo_148 (i := 3) rfl) (fun hc_7 => ?_) (fun hc_7 => ?_)
  · skip
    refine zw_iconst (pc := 20) (v := Int32.ofInt (-1)) (by decide) (zdal_p dlB_T_undo_148 (i := 8) rfl) ?_
    exact zk_iret (pc := 21) (ty := .int) rfl rfl ⟨by omega, by omega⟩ hf trivial (zdal_p dlB_T_undo_148 (i := 9) rfl)
  · skip
    refine zw_aload_n (pc := 10) (n := 0) (x := 0) rfl (zdal_p dlB_T_undo_148 (i := 4) rfl) ?_
    refine zw_getF (pc := 11) f_T_28 rfl ((hf.w hW).ka (o := 0) (by decide)) (hf.now hnow) (zdal_p dlB_T_undo_148 (i := 5) rfl) ?_
    refine zk_callV hf.x (pc := 14) [] [] l_T_314 (u_Troupe_takeBackX l d_ Mz (hf.w hW) ) rfl rfl ((hf.w hW).kr (o := 0) (by decide)) (by decide) (by decide) (Nat.le_of_ble_eq_true rfl) (zdal_p dlB_T_undo_148 (i := 6) rfl) ?_
    rintro _ N2_ ⟨v3_, rfl, ⟨hv3_a, hv3_b⟩, hsN2_, -⟩
    have hf_N2_ : zFc d_ [] [] [(0, 7), (0, 8)] [25] Mz N2_ := hf.tr hsN2_ (by decide) (by decide) (by decide) (by decide)
    show zW l m_T_undo (zn Mz + 0, zw Mz + 0) N2_ 17 [some (.ref 0)] [.int (Int32.ofInt v3_)] _
    refine zw_goto (pc := 17) (tgt := 21) (by decide) (zdal_p dlB_T_undo_148 (i := 7) rfl) ?_
    exact zk_iret (pc := 21) (ty := .int) rfl rfl ⟨by omega, by omega⟩ hf_N2_ trivial (zdal_p dlB_T_undo_148 (i := 9) rfl)
def zRb (b : Nat → Int) (n : Nat) (M : zMem) : Prop := ze M 81 2 = n ∧ n ≤ 700 ∧ zBy b n ∧ ∀ k, k < n → ze M 82 k = b k
def zRt (b : Nat → Int) (n : Nat) (M : zMem) : Prop := (0 ≤ ze M 81 4 ∧ ze M 81 4 ≤ n) ∧ ze M 81 3 = (zen b n (ze M 81 4).toNat : Nat) ∧ ze M 81 5 = zkd b n (ze M 81 4).toNat ∧ (zkd b n (ze M 81 4).toNat = 1 → zg M 81 11 = zw8 b (ze M 81 4).toNat (zen b n (ze M 81 4).toNat - (ze M 81 4).toNat)) ∧ (zkd b n (ze M 81 4).toNat = 2 → ze M 81 6 = zvl b (ze M 81 4).toNat (zen b n (ze M 81 4).toNat - (ze M 81 4).toNat)) ∧ (zkd b n (ze M 81 4).toNat = 3 → ze M 81 6 = b (ze M 81 4).toNat)
section ZRB
variable {b : Nat → Int} {n : Nat} {S C : List Nat} {M N : zMem}
theorem zRb.fr (hf : zFr S C M N) (h : zRb b n M) (hs : 2 ∉ S) (hc : 82 ∉ C) : zRb b n N :=
  ⟨(hf.e hs).trans h.1, h.2.1, h.2.2.1, fun k hk => (hf.ie (by decide) hc k).trans (h.2.2.2 k hk)⟩
theorem zRt.fr (hf : zFr S C M N) (h : zRt b n M) (hs : 3 ∉ S ∧ 4 ∉ S ∧ 5 ∉ S ∧ 6 ∉ S ∧ 11 ∉ S) (_ : True) : zRt b n N := by
  unfold zRt
  rw [hf.e hs.1, hf.e hs.2.1, hf.e hs.2.2.1, hf.e hs.2.2.2.1, hf.g hs.2.2.2.2]
  exact h
theorem zRb.h (h : zRb b n M) {k : Int} (h0 : 0 ≤ ze M 81 3 + k) : (ze M 81 3 + k < n ∧ zhr M k = b (ze M 81 3 + k).toNat ∧ 0 ≤ zhr M k ∧ zhr M k ≤ 255) ∨ ((n : Int) ≤ ze M 81 3 + k ∧ zhr M k = -1) := by
  unfold zhr
  rw [h.1]
  by_cases g : ze M 81 3 + k < (n : Int)
  · rw [if_pos g]
    have e := h.2.2.2 (ze M 81 3 + k).toNat (by omega)
    have hb := h.2.2.1 (ze M 81 3 + k).toNat (by omega)
    exact Or.inl ⟨g, e, by omega, by omega⟩
  · rw [if_neg g]
    exact Or.inr ⟨by omega, rfl⟩
theorem zRt.x (h : zRt b n M) : (0 ≤ ze M 81 4 ∧ ze M 81 4 ≤ n) ∧ 0 ≤ ze M 81 3 ∧ ze M 81 3 ≤ n := by
  have h1 := h.1
  have h2 := h.2.1
  have h3 := zen_le (b := b) (n := n) (s := (ze M 81 4).toNat) (by omega)
  omega
theorem zRt.nx (h : zRt b n M) (hp : ze N 81 4 = (zru zpB b n (ze M 81 3).toNat : Nat)) : ze N 81 4 = ((znx b n (ze M 81 4).toNat : Nat) : Int) ∧ (ze N 81 4).toNat = znx b n (ze M 81 4).toNat := by
  have h2 := h.2.1
  have e : (ze M 81 3).toNat = zen b n (ze M 81 4).toNat := by omega
  rw [e] at hp
  unfold znx
  exact ⟨hp, by omega⟩
theorem zRt.v2 (h : zRt b n M) (h2 : zkd b n (ze M 81 4).toNat = 2) : ze M 81 6 = znu b n (ze M 81 4).toNat ∧ 0 ≤ ze M 81 6 ∧ ze M 81 6 ≤ 999 := by
  have e : ze M 81 6 = znu b n (ze M 81 4).toNat := h.2.2.2.2.1 h2
  have := znu_b h2
  exact ⟨e, by omega, by omega⟩
theorem zRt_L {s : Nat} (es : ze M 81 4 = s) (h : s < n) (hl : zpL (b s) = true) (h3 : ze M 81 3 = (zru zpL b n s : Nat)) (h5 : ((zru zpL b n s : Nat) : Int) - s ≤ 6 → zg M 81 11 = zw8 b s (zru zpL b n s - s)) (h4 : (((zru zpL b n s : Nat) : Int) - s ≤ 6 ∧ ze M 81 5 = 1) ∨ (6 < ((zru zpL b n s : Nat) : Int) - s ∧ ze M 81 5 = 4)) : zRt b n M := by
  obtain ⟨k1, k2⟩ := zkd_L h hl
  have e : (ze M 81 4).toNat = s := by omega
  unfold zRt
  rw [e, k2, k1]
  refine ⟨⟨by omega, by omega⟩, h3, ?_, ?_, ?_, ?_⟩
  · rcases h4 with ⟨a, c⟩ | ⟨a, c⟩
    · rw [if_pos (by omega)]; exact c
    · rw [if_neg (by omega)]; exact c
  · intro hk
    refine h5 ?_
    by_cases g : zru zpL b n s ≤ s + 6
    · omega
    · rw [if_neg g] at hk; exact absurd hk (by decide)
  · intro hk
    split at hk <;> exact absurd hk (by decide)
  · intro hk
    split at hk <;> exact absurd hk (by decide)
theorem zRt_D {s : Nat} (es : ze M 81 4 = s) (h : s < n) (hl : zpL (b s) = false) (hd : zpD (b s) = true) (h3 : ze M 81 3 = (zru zpD b n s : Nat)) (h5 : zru zpD b n s ≤ s + 3 → ze M 81 6 = zvl b s (zru zpD b n s - s)) (h4 : (zNok b n s ∧ ze M 81 5 = 2) ∨ (¬ zNok b n s ∧ ze M 81 5 = 4)) : zRt b n M := by
  obtain ⟨k1, k2⟩ := zkd_D h hl hd
  have e : (ze M 81 4).toNat = s := by omega
  unfold zRt
  rw [e, k2, k1]
  refine ⟨⟨by omega, by omega⟩, h3, ?_, ?_, ?_, ?_⟩
  · rcases h4 with ⟨a, c⟩ | ⟨a, c⟩
    · rw [if_pos (by exact a)]; exact c
    · rw [if_neg (by exact a)]; exact c
  · intro hk
    split at hk <;> exact absurd hk (by decide)
  · intro hk
    refine h5 ?_
    by_cases g : zNok b n s
    · exact g.1
    · rw [if_neg (by exact g)] at hk; exact absurd hk (by decide)
  · intro hk
    split at hk <;> exact absurd hk (by decide)
theorem zRt_S {s : Nat} (es : ze M 81 4 = s) (h : s < n) (hl : zpL (b s) = false) (hd : zpD (b s) = false) (h3 : ze M 81 3 = s + 1) (h5 : ze M 81 6 = b s) (h4 : (zpS (b s) = true ∧ ze M 81 5 = 3) ∨ (zpS (b s) = false ∧ ze M 81 5 = 4)) : zRt b n M := by
  obtain ⟨k1, k2⟩ := zkd_S h hl hd
  have e : (ze M 81 4).toNat = s := by omega
  unfold zRt
  rw [e, k2, k1]
  refine ⟨⟨by omega, by omega⟩, by omega, ?_, ?_, ?_, fun _ => h5⟩
  · rcases h4 with ⟨a, c⟩ | ⟨a, c⟩
    · rw [if_pos a]; exact c
    · rw [if_neg (by rw [a]; decide)]; exact c
  · intro hk
    split at hk <;> exact absurd hk (by decide)
  · intro hk
    split at hk <;> exact absurd hk (by decide)
theorem zRt_0 {s : Nat} (es : ze M 81 4 = s) (h : n = s) (h3 : ze M 81 3 = s) (h4 : ze M 81 5 = 0) : zRt b n M := by
  obtain ⟨k1, k2⟩ := zkd_0 (b := b) (n := n) (s := s) (by omega)
  have e : (ze M 81 4).toNat = s := by omega
  unfold zRt
  rw [e, k2, k1]
  exact ⟨⟨by omega, by omega⟩, h3, h4, fun h => absurd h (by decide), fun h => absurd h (by decide), fun h => absurd h (by decide)⟩
end ZRB
theorem zw8_b {b : Nat → Int} {s : Nat} : ∀ k : Nat, (∀ i, i < k → zpL (b (s + i)) = true) → 0 ≤ zw8 b s k ∧ zw8 b s k < (256 : Int) ^ k
  | 0, _ => by
    show (0 : Int) ≤ 0 ∧ (0 : Int) < (256 : Int) ^ 0
    rw [Int.pow_zero]
    omega
  | k + 1, h => by
    have ih := zw8_b (s := s) k (fun i hi => h i (by omega))
    have hk := zpL_t.mp (h k (by omega))
    show 0 ≤ 256 * zw8 b s k + b (s + k) ∧ 256 * zw8 b s k + b (s + k) < (256 : Int) ^ (k + 1)
    rw [Int.pow_succ]
    generalize (256 : Int) ^ k = p at ih ⊢
    omega
theorem zw8_inj {b c : Nat → Int} {s t : Nat} : ∀ k m : Nat, (∀ i, i < k → zpL (b (s + i)) = true) → (∀ i, i < m → zpL (c (t + i)) = true) → zw8 b s k = zw8 c t m → k = m ∧ ∀ i, i < k → b (s + i) = c (t + i)
  | 0, 0, _, _, _ => ⟨rfl, fun i h => absurd h (by omega)⟩
  | 0, m + 1, _, h2, h => by
    have a1 := (zw8_b (b := c) (s := t) m (fun i hi => h2 i (by omega))).1
    have a2 := zpL_t.mp (h2 m (by omega))
    have e : (0 : Int) = 256 * zw8 c t m + c (t + m) := h
    exact absurd e (by omega)
  | k + 1, 0, h1, _, h => by
    have a1 := (zw8_b (b := b) (s := s) k (fun i hi => h1 i (by omega))).1
    have a2 := zpL_t.mp (h1 k (by omega))
    have e : 256 * zw8 b s k + b (s + k) = 0 := h
    exact absurd e (by omega)
  | k + 1, m + 1, h1, h2, h => by
    have a2 := zpL_t.mp (h1 k (by omega))
    have b2 := zpL_t.mp (h2 m (by omega))
    have e : 256 * zw8 b s k + b (s + k) = 256 * zw8 c t m + c (t + m) := h
    have e1 : zw8 b s k = zw8 c t m := by omega
    have e2 : b (s + k) = c (t + m) := by omega
    obtain ⟨r1, r2⟩ := zw8_inj k m (fun i hi => h1 i (by omega)) (fun i hi => h2 i (by omega)) e1
    refine ⟨by omega, fun i hi => ?_⟩
    by_cases g : i = k
    · subst g
      rw [e2, r1]
    · exact r2 i (by omega)
theorem zw8_c {b c : Nat → Int} {s t : Nat} : ∀ k : Nat, (∀ i, i < k → b (s + i) = c (t + i)) → zw8 b s k = zw8 c t k ∧ zw2 b s k = zw2 c t k
  | 0, _ => ⟨rfl, rfl⟩
  | k + 1, h => by
    obtain ⟨h1, h2⟩ := zw8_c k (fun i hi => h i (by omega))
    have e := h k (by omega)
    refine ⟨?_, ?_⟩
    · show 256 * zw8 b s k + b (s + k) = 256 * zw8 c t k + c (t + k)
      rw [h1, e]
    · show 27 * zw2 b s k + (b (s + k) - 96) = 27 * zw2 c t k + (c (t + k) - 96)
      rw [h2, e]
theorem zw28 {b c : Nat → Int} {s t k m : Nat} (h1 : ∀ i, i < k → zpL (b (s + i)) = true) (h2 : ∀ i, i < m → zpL (c (t + i)) = true) : zw2 b s k = zw2 c t m ↔ zw8 b s k = zw8 c t m := by
  constructor
  · intro h
    obtain ⟨rfl, r⟩ := zw2_inj k m h1 h2 h
    exact (zw8_c k r).1
  · intro h
    obtain ⟨rfl, r⟩ := zw8_inj k m h1 h2 h
    exact (zw8_c k r).2
def zkW8 : Nat → Int := fun i => [123610792682867, 1836021349, 7103860, 1936683636].getD i 0
theorem zkW8_k {i : Nat} (hi : i < 4) : zkW8 i = zw8 (zsb i) 0 (zsl i) := by
  have h : ∀ i, i < 4 → zkW8 i = zw8 (zsb i) 0 (zsl i) := by decide +kernel
  exact h i hi
def zke8 (b : Nat → Int) (n p : Nat) : Int := zw8 b p (zen b n p - p)
theorem zke8_w {b : Nat → Int} {n p i : Nat} (h : zkd b n p = 1) (hi : i < 4) : zke8 b n p = zkW8 i ↔ zkey b n p = zkw i := by
  obtain ⟨h1, h2, h3, h4, h5⟩ := zkd_1 h
  rw [zkW8_k hi, zsb_k (i := i) hi]
  unfold zke8 zkey
  exact (zw28 (fun j hj => h5 (p + j) (by omega) (by omega)) (fun j hj => by rw [Nat.zero_add]; exact zsb_L (i := i) hi hj)).symm
theorem zl_bv (m : Nat) (h : m < 9223372036854775808) : (Int64.ofInt (m : Int)).toBitVec.toNat = m := by
  rw [Int64.toBitVec_ofInt, BitVec.ofInt_natCast, BitVec.toNat_ofNat]
  omega
theorem zl_ti {x : Int64} {m : Nat} (h : x.toBitVec.toNat = m) (hm : m < 9223372036854775808) : x.toInt = (m : Int) := by
  show x.toBitVec.toInt = _
  rw [BitVec.toInt_eq_toNat_of_lt (by rw [h]; omega), h]
theorem zlor_n (m n : Nat) (hm : m < 9223372036854775808) (hn : n < 9223372036854775808) : zlor m n = ((m ||| n : Nat) : Int) := by
  refine zl_ti ?_ (Nat.or_lt_two_pow (n := 63) hm hn)
  rw [Int64.toBitVec_or, BitVec.toNat_or, zl_bv m hm, zl_bv n hn]
theorem zlshl8 (m : Nat) (hm : m < 36028797018963968) : zlshl m 8 = ((m * 256 : Nat) : Int) := by
  refine zl_ti ?_ (by omega)
  have e8 : ((Int32.ofInt 8).toInt64 &&& 63) = 8 := by decide
  rw [e8]
  show (Int64.ofInt (m : Int) <<< (8 : Int64)).toBitVec.toNat = _
  rw [Int64.toBitVec_shiftLeft]
  show ((Int64.ofInt (m : Int)).toBitVec <<< ((8 : Int64).toBitVec.smod 64)).toNat = _
  have e9 : (8 : Int64).toBitVec.smod 64 = 8#64 := by decide
  rw [e9]
  show ((Int64.ofInt (m : Int)).toBitVec <<< (8#64).toNat).toNat = _
  rw [BitVec.toNat_shiftLeft, zl_bv m (by omega)]
  show m <<< 8 % 2 ^ 64 = _
  rw [Nat.shiftLeft_eq]
  omega
theorem zw8_z {x c : Int} (x0 : 0 ≤ x) (x1 : x < 36028797018963968) (c0 : 0 ≤ c) (c1 : c ≤ 255) : zlor (zlshl x 8) c = 256 * x + c := by
  obtain ⟨m, rfl⟩ := Int.eq_ofNat_of_zero_le x0
  obtain ⟨k, rfl⟩ := Int.eq_ofNat_of_zero_le c0
  rw [zlshl8 m (by omega), zlor_n _ _ (by omega) (by omega), Nat.mul_comm, ← Nat.two_pow_add_eq_or_of_lt (i := 8) (b := k) (by show k < 256; omega) m]
  show ((256 * m + k : Nat) : Int) = _
  omega
theorem zw8_step {b : Nat → Int} {n : Nat} {s : Nat} {k x c v : Int} (k0 : 0 ≤ k) (k5 : k < 6) (hn : (s : Int) + k < n) (hl : ∀ j : Nat, s ≤ j → j < (s + k).toNat → zpL (b j) = true) (hx : k ≤ 6 → x = zw8 b s k.toNat) (hc : c = b (s + k).toNat) (hp : zpL c = true) (hv : v = zlor (zlshl x 8) c) : k + 1 ≤ 6 → v = zw8 b s (k + 1).toNat := by
  intro _
  have hx := hx (by omega)
  have hb := zw8_b (b := b) (s := s) k.toNat (fun i hi => hl (s + i) (by omega) (by omega))
  have h7 : (256 : Int) ^ k.toNat ≤ 1099511627776 := by
    obtain g | g | g | g | g | g : k.toNat = 0 ∨ k.toNat = 1 ∨ k.toNat = 2 ∨ k.toNat = 3 ∨ k.toNat = 4 ∨ k.toNat = 5 := by omega
    all_goals (rw [g]; decide)
  have hcl := zpL_t.mp hp
  rw [← hx] at hb
  rw [hv, zw8_z hb.1 (by omega) (by omega) (by omega), show (k + 1).toNat = k.toNat + 1 by omega]
  show _ = 256 * zw8 b s k.toNat + b (s + k.toNat)
  rw [← hx, hc, show (s + k).toNat = s + k.toNat by omega]
theorem zvl_st3 {b : Nat → Int} {n : Nat} (hb : zBy b n) {s : Nat} {k x c v : Int} (k0 : 0 ≤ k) (k5 : k < 3) (hx : k ≤ 3 → x = zvl b s k.toNat) (hc : c = b (s + k).toNat) (hv : v = 10 * x + c - 48) : k + 1 ≤ 3 → v = zvl b s (k + 1).toNat := by
  intro _
  have hx := hx (by omega)
  rw [hv, show (k + 1).toNat = k.toNat + 1 by omega]
  show _ = 10 * zvl b s k.toNat + (b (s + k.toNat) - 48)
  rw [← hx, hc, show (s + k).toNat = s + k.toNat by omega]
  omega
theorem zvl_d {b : Nat → Int} {s : Nat} : ∀ k : Nat, (∀ i, i < k → zpD (b (s + i)) = true) → 0 ≤ zvl b s k ∧ zvl b s k < (10 : Int) ^ k
  | 0, _ => by
    show (0 : Int) ≤ 0 ∧ (0 : Int) < (10 : Int) ^ 0
    rw [Int.pow_zero]
    omega
  | k + 1, h => by
    have ih := zvl_d (s := s) k (fun i hi => h i (by omega))
    have hk := zpD_t.mp (h k (by omega))
    show 0 ≤ 10 * zvl b s k + (b (s + k) - 48) ∧ 10 * zvl b s k + (b (s + k) - 48) < (10 : Int) ^ (k + 1)
    rw [Int.pow_succ]
    generalize (10 : Int) ^ k = p at ih ⊢
    omega
theorem zvl_d3 {b : Nat → Int} {s : Nat} {k x : Int} (k0 : 0 ≤ k) (k3 : k < 3) (hl : ∀ j : Nat, s ≤ j → j < (s + k).toNat → zpD (b j) = true) (hx : k ≤ 3 → x = zvl b s k.toNat) : 0 ≤ x ∧ x ≤ 99 := by
  have h := zvl_d (b := b) (s := s) k.toNat (fun i hi => hl (s + i) (by omega) (by omega))
  rw [← hx (by omega)] at h
  have h7 : (10 : Int) ^ k.toNat ≤ 100 := by
    obtain g | g | g : k.toNat = 0 ∨ k.toNat = 1 ∨ k.toNat = 2 := by omega
    all_goals (rw [g]; decide)
  omega
theorem zall_1 {b : Nat → Int} {P : Int → Bool} {s : Nat} {k c : Int} (k0 : 0 ≤ k) (hl : ∀ j : Nat, s ≤ j → j < (s + k).toNat → P (b j) = true) (hc : c = b (s + k).toNat) (hp : P c = true) : ∀ j : Nat, s ≤ j → j < (s + (k + 1)).toNat → P (b j) = true := fun j h1 h2 => by
  by_cases g : j = (s + k).toNat
  · rw [g, ← hc]
    exact hp
  · exact hl j h1 (by omega)
theorem zru_st2 {P : Int → Bool} {b : Nat → Int} {n x : Nat} {s : Nat} {k c : Int} (k0 : 0 ≤ k) (h1 : (s : Int) + k < n) (hc : c = b (s + k).toNat) (hp : P c = true) (hi : zru P b n (s + k).toNat = x) : zru P b n (s + (k + 1)).toNat = x := by
  have h := zru_step (u := (s : Int) + k) (by omega) h1 hc hp hi
  rwa [show (s : Int) + k + 1 = s + (k + 1) by omega] at h
theorem zru_sp2 {P : Int → Bool} {b : Nat → Int} {n x : Nat} {s : Nat} {k c : Int} (k0 : 0 ≤ k) (h1 : ((s : Int) + k < n ∧ c = b (s + k).toNat ∧ P c = false) ∨ (n : Int) ≤ s + k) (hi : zru P b n (s + k).toNat = x) : (s : Int) + k = (x : Int) := by
  rcases h1 with ⟨_, h2, h3⟩ | h1
  · exact zru_stop (u := (s : Int) + k) (by omega) (Or.inr ⟨h2, h3⟩) hi
  · exact zru_stop (u := (s : Int) + k) (v := 0) (by omega) (Or.inl h1) hi
