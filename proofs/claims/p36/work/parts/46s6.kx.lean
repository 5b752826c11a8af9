set_option maxHeartbeats 4000000 in
theorem u_Sums_hasNoneBelowX (l : Launch) (d_ : Nat) (Mz : zMem) (hW : zKW d_ Mz) (a0_ : Int) (ha0_a : -2147483648 ≤ a0_) (ha0_b : a0_ < 2147483648) : zC l m_Sums_hasNoneBelow 0 0 [.ref (d_ + 23), .int (Int32.ofInt a0_)] Mz (zqcI d_ [] [] [] [] Mz (fun v N => ((v = 0 ∨ v = 1)))) := by
  refine zC_of (L0 := [some (.ref (d_ + 23)), some (.int (Int32.ofInt a0_)), none]) md_Sums_hasNoneBelow (Nat.le_of_ble_eq_true rfl) rfl ?_ zQ0
  have hf : zFc d_ [] [] [] [] Mz Mz := zFc.rf
  refine zw_iconst (pc := 0) (v := Int32.ofInt 0) (by decide) d_Sums_hasNoneBelow_0 ?_
  refine zw_istore_n (pc := 1) (i := 2) (L2 := [some (.ref (d_ + 23)), some (.int (Int32.ofInt a0_)), some (.int (Int32.ofInt 0))]) rfl (by decide) rfl d_Sums_hasNoneBelow_1 ?_
  have lp_2 : ∀ (n : Nat) (u1_ : Int) (hu1_a : -2147483648 ≤ u1_) (hu1_b : u1_ < 2147483648) (i2_ : 0 ≤ u1_), (ze Mz (d_ + 12) 7 - u1_).toNat < n → zW l m_Sums_hasNoneBelow (zn Mz + 0, zw Mz + 0) Mz 2 [some (.ref (d_ + 23)), some (.int (Int32.ofInt a0_)), some (.int (Int32.ofInt u1_))] [] (zqcI d_ [] [] [] [] Mz (fun v N => ((v = 0 ∨ v = 1)))) := by
    intro n
    induction n with
    | zero =>
      intro u1_ hu1_a hu1_b i2_ h0
      exact absurd h0 (Nat.not_lt_zero _)
    | succ n ih_2 =>
      intro u1_ hu1_a hu1_b i2_ hlt_2
      refine zw_iload_n (pc := 2) (n := 2) (x := Int32.ofInt u1_) rfl d_Sums_hasNoneBelow_2 ?_
      refine zw_aload_n (pc := 3) (n := 0) (x := (d_ + 23)) rfl d_Sums_hasNoneBelow_3 ?_
      refine zw_getF (pc := 4) f_Sums_23 rfl ((hf.w hW).kr (o := 23) (by decide)) ((hf.w hW).lr (o := 23) (s := 0) (r := 12) (by decide)) d_Sums_hasNoneBelow_4 ?_
      refine zk_getI (pc := 7) f_Sums_35 rfl ((hf.w hW).kr (o := 12) (by decide)) d_Sums_hasNoneBelow_7 ?_
      have hr3_ := ze_r Mz (d_ + 12) 7
      refine zr_icmp_ge (pc := 10) (tgt := 32) ⟨hu1_a, hu1_b⟩ ⟨(ze_r Mz (d_ + 12) 7).1, (ze_r Mz (d_ + 12) 7).2⟩ (by decide) d_Sums_hasNoneBelow_10 (fun hc_10 => ?_) (fun hc_10 => ?_)
      · skip
        refine zw_iconst (pc := 32) (v := Int32.ofInt 1) (by decide) d_Sums_hasNoneBelow_32 ?_
        exact zk_iret (pc := 33) (ty := .boolean) rfl (z_narB (by omega)) ⟨by omega, by omega⟩ hf (show (((1 : Int)) = 0 ∨ ((1 : Int)) = 1) by first | assumption | omega) d_Sums_hasNoneBelow_33
      · skip
        refine zw_aload_n (pc := 13) (n := 0) (x := (d_ + 23)) rfl d_Sums_hasNoneBelow_13 ?_
        refine zw_iload_n (pc := 14) (n := 1) (x := Int32.ofInt a0_) rfl d_Sums_hasNoneBelow_14 ?_
        refine zw_iload_n (pc := 15) (n := 2) (x := Int32.ofInt u1_) rfl d_Sums_hasNoneBelow_15 ?_
        refine zk_callV hf.x (pc := 16) [.int (Int32.ofInt a0_), .int (Int32.ofInt u1_)] [] l_Sums_67 (u_Sums_numberAtX l d_ Mz (hf.w hW) a0_ ha0_a ha0_b u1_ hu1_a hu1_b) rfl rfl ((hf.w hW).kr (o := 23) (by decide)) (by decide) (by decide) (Nat.le_of_ble_eq_true rfl) d_Sums_hasNoneBelow_16 ?_
        rintro _ N4_ ⟨v5_, rfl, ⟨hv5_a, hv5_b⟩, hsN4_, -⟩
        obtain rfl := hsN4_.eq.symm
        show zW l m_Sums_hasNoneBelow (zn Mz + 0, zw Mz + 0) Mz 19 [some (.ref (d_ + 23)), some (.int (Int32.ofInt a0_)), some (.int (Int32.ofInt u1_))] [.long (Int64.ofInt v5_)] (zqcI d_ [] [] [] [] Mz (fun v N => ((v = 0 ∨ v = 1))))
        refine zw_lconst (pc := 19) (v := Int64.ofInt 0) (by decide) d_Sums_hasNoneBelow_19 ?_
        refine zr_lcmp (pc := 20) ⟨hv5_a, hv5_b⟩ ⟨(by decide), (by decide)⟩ d_Sums_hasNoneBelow_20 ?_
        have hr6_ := zcmp_s v5_ 0
        refine zr_if_ge (pc := 21) (tgt := 26) ⟨(by omega), (by omega)⟩ (by decide) d_Sums_hasNoneBelow_21 (fun hc_21 => ?_) (fun hc_21 => ?_)
        · skip
          refine zr_iinc (pc := 26) (i := 2) (a := u1_) (n := 1) (L2 := [some (.ref (d_ + 23)), some (.int (Int32.ofInt a0_)), some (.int (Int32.ofInt (u1_ + 1)))]) rfl (by decide) rfl d_Sums_hasNoneBelow_26 ?_
          obtain ⟨v7_, hv7_a, hv7_b, hv7_e, hv7_d⟩ := zk_gen (u1_ + 1)
          rw [hv7_e]
          refine zw_goto (pc := 29) (tgt := 2) (by decide) d_Sums_hasNoneBelow_29 ?_
          exact ih_2 v7_ hv7_a hv7_b (show 0 ≤ v7_ by first | assumption | omega) (by omega)
        · skip
          refine zw_iconst (pc := 24) (v := Int32.ofInt 0) (by decide) d_Sums_hasNoneBelow_24 ?_
          exact zk_iret (pc := 25) (ty := .boolean) rfl (z_narB (by omega)) ⟨by omega, by omega⟩ hf (show (((0 : Int)) = 0 ∨ ((0 : Int)) = 1) by first | assumption | omega) d_Sums_hasNoneBelow_25
  exact lp_2 _ 0 (by decide) (by decide) (show 0 ≤ (0 : Int) by first | assumption | omega) (Nat.lt_succ_self _)
set_option maxHeartbeats 4000000 in
theorem u_Sums_marksAreX (l : Launch) (d_ : Nat) (Mz : zMem) (hW : zKW d_ Mz) (a0_ : Int) (ha0_a : -2147483648 ≤ a0_) (ha0_b : a0_ < 2147483648) (a1_ : Int) (ha1_a : -2147483648 ≤ a1_) (ha1_b : a1_ < 2147483648) : zC l m_Sums_marksAre 0 0 [.ref (d_ + 23), .int (Int32.ofInt a0_), .int (Int32.ofInt a1_)] Mz (zqcI d_ [] [] [] [] Mz (fun v N => ((v = 0 ∨ v = 1)))) := by
  refine zC_of (L0 := [some (.ref (d_ + 23)), some (.int (Int32.ofInt a0_)), some (.int (Int32.ofInt a1_)), none]) md_Sums_marksAre (Nat.le_of_ble_eq_true rfl) rfl ?_ zQ0
  have hf : zFc d_ [] [] [] [] Mz Mz := zFc.rf
  refine zw_iconst (pc := 0) (v := Int32.ofInt 0) (by decide) d_Sums_marksAre_0 ?_
  refine zw_istore_n (pc := 1) (i := 3) (L2 := [some (.ref (d_ + 23)), some (.int (Int32.ofInt a0_)), some (.int (Int32.ofInt a1_)), some (.int (Int32.ofInt 0))]) rfl (by decide) rfl d_Sums_marksAre_1 ?_
  have lp_2 : ∀ (n : Nat) (u1_ : Int) (hu1_a : -2147483648 ≤ u1_) (hu1_b : u1_ < 2147483648) (i2_ : 0 ≤ u1_), (ze Mz (d_ + 12) 7 - u1_).toNat < n → zW l m_Sums_marksAre (zn Mz + 0, zw Mz + 0) Mz 2 [some (.ref (d_ + 23)), some (.int (Int32.ofInt a0_)), some (.int (Int32.ofInt a1_)), some (.int (Int32.ofInt u1_))] [] (zqcI d_ [] [] [] [] Mz (fun v N => ((v = 0 ∨ v = 1)))) := by
    intro n
    induction n with
    | zero =>
      intro u1_ hu1_a hu1_b i2_ h0
      exact absurd h0 (Nat.not_lt_zero _)
    | succ n ih_2 =>
      intro u1_ hu1_a hu1_b i2_ hlt_2
      refine zw_iload_n (pc := 2) (n := 3) (x := Int32.ofInt u1_) rfl d_Sums_marksAre_2 ?_
      refine zw_aload_n (pc := 3) (n := 0) (x := (d_ + 23)) rfl d_Sums_marksAre_3 ?_
      refine zw_getF (pc := 4) f_Sums_23 rfl ((hf.w hW).kr (o := 23) (by decide)) ((hf.w hW).lr (o := 23) (s := 0) (r := 12) (by decide)) d_Sums_marksAre_4 ?_
      refine zk_getI (pc := 7) f_Sums_35 rfl ((hf.w hW).kr (o := 12) (by decide)) d_Sums_marksAre_7 ?_
      have hr3_ := ze_r Mz (d_ + 12) 7
      refine zr_icmp_ge (pc := 10) (tgt := 49) ⟨hu1_a, hu1_b⟩ ⟨(ze_r Mz (d_ + 12) 7).1, (ze_r Mz (d_ + 12) 7).2⟩ (by decide) d_Sums_marksAre_10 (fun hc_10 => ?_) (fun hc_10 => ?_)
      · skip
        refine zw_iconst (pc := 49) (v := Int32.ofInt 1) (by decide) d_Sums_marksAre_49 ?_
        exact zk_iret (pc := 50) (ty := .boolean) rfl (z_narB (by omega)) ⟨by omega, by omega⟩ hf (show (((1 : Int)) = 0 ∨ ((1 : Int)) = 1) by first | assumption | omega) d_Sums_marksAre_50
      · skip
        refine zw_aload_n (pc := 13) (n := 0) (x := (d_ + 23)) rfl d_Sums_marksAre_13 ?_
        refine zw_getF (pc := 14) f_Sums_20 rfl ((hf.w hW).kr (o := 23) (by decide)) ((hf.w hW).lr (o := 23) (s := 2) (r := 26) (by decide)) d_Sums_marksAre_14 ?_
        refine zw_iload_n (pc := 17) (n := 3) (x := Int32.ofInt u1_) rfl d_Sums_marksAre_17 ?_
        refine zk_atGJ hf.x (pc := 18) l_Sums_27 ((hf.w hW).kr (o := 26) (by decide)) ((hf.w hW).lr (o := 26) (s := 0) (r := 27) (by decide)) ((hf.w hW).rr (o := 27) (t := 2) (n := 27) (by decide)) (by decide) ⟨by omega, by omega⟩ (by decide) (Nat.le_of_ble_eq_true rfl) d_Sums_marksAre_18 (fun v4_ hv4_ hv4_a hv4_b => ?_)
        clear hv4_
        refine zw_iload_n (pc := 21) (n := 1) (x := Int32.ofInt a0_) rfl d_Sums_marksAre_21 ?_
        refine zr_i2l (pc := 22) ⟨ha0_a, ha0_b⟩ d_Sums_marksAre_22 ?_
        refine zr_lcmp (pc := 23) ⟨hv4_a, hv4_b⟩ ⟨(by omega), (by omega)⟩ d_Sums_marksAre_23 ?_
        have hr5_ := zcmp_s v4_ a0_
        refine zr_if_eq (pc := 24) (tgt := 43) ⟨(by omega), (by omega)⟩ (by decide) d_Sums_marksAre_24 (fun hc_24 => ?_) (fun hc_24 => ?_)
        · skip
          refine zr_iinc (pc := 43) (i := 3) (a := u1_) (n := 1) (L2 := [some (.ref (d_ + 23)), some (.int (Int32.ofInt a0_)), some (.int (Int32.ofInt a1_)), some (.int (Int32.ofInt (u1_ + 1)))]) rfl (by decide) rfl d_Sums_marksAre_43 ?_
          obtain ⟨v6_, hv6_a, hv6_b, hv6_e, hv6_d⟩ := zk_gen (u1_ + 1)
          rw [hv6_e]
          refine zw_goto (pc := 46) (tgt := 2) (by decide) d_Sums_marksAre_46 ?_
          exact ih_2 v6_ hv6_a hv6_b (show 0 ≤ v6_ by first | assumption | omega) (by omega)
        · skip
          refine zw_aload_n (pc := 27) (n := 0) (x := (d_ + 23)) rfl d_Sums_marksAre_27 ?_
          refine zw_getF (pc := 28) f_Sums_20 rfl ((hf.w hW).kr (o := 23) (by decide)) ((hf.w hW).lr (o := 23) (s := 2) (r := 26) (by decide)) d_Sums_marksAre_28 ?_
          refine zw_iload_n (pc := 31) (n := 3) (x := Int32.ofInt u1_) rfl d_Sums_marksAre_31 ?_
          refine zk_atGJ hf.x (pc := 32) l_Sums_27 ((hf.w hW).kr (o := 26) (by decide)) ((hf.w hW).lr (o := 26) (s := 0) (r := 27) (by decide)) ((hf.w hW).rr (o := 27) (t := 2) (n := 27) (by decide)) (by decide) ⟨by omega, by omega⟩ (by decide) (Nat.le_of_ble_eq_true rfl) d_Sums_marksAre_32 (fun v7_ hv7_ hv7_a hv7_b => ?_)
          clear hv7_
          refine zw_iload_n (pc := 35) (n := 2) (x := Int32.ofInt a1_) rfl d_Sums_marksAre_35 ?_
          refine zr_i2l (pc := 36) ⟨ha1_a, ha1_b⟩ d_Sums_marksAre_36 ?_
          refine zr_lcmp (pc := 37) ⟨hv7_a, hv7_b⟩ ⟨(by omega), (by omega)⟩ d_Sums_marksAre_37 ?_
          have hr8_ := zcmp_s v7_ a1_
          refine zr_if_eq (pc := 38) (tgt := 43) ⟨(by omega), (by omega)⟩ (by decide) d_Sums_marksAre_38 (fun hc_38 => ?_) (fun hc_38 => ?_)
          · skip
            refine zr_iinc (pc := 43) (i := 3) (a := u1_) (n := 1) (L2 := [some (.ref (d_ + 23)), some (.int (Int32.ofInt a0_)), some (.int (Int32.ofInt a1_)), some (.int (Int32.ofInt (u1_ + 1)))]) rfl (by decide) rfl d_Sums_marksAre_43 ?_
            obtain ⟨v9_, hv9_a, hv9_b, hv9_e, hv9_d⟩ := zk_gen (u1_ + 1)
            rw [hv9_e]
            refine zw_goto (pc := 46) (tgt := 2) (by decide) d_Sums_marksAre_46 ?_
            exact ih_2 v9_ hv9_a hv9_b (show 0 ≤ v9_ by first | assumption | omega) (by omega)
          · skip
            refine zw_iconst (pc := 41) (v := Int32.ofInt 0) (by decide) d_Sums_marksAre_41 ?_
            exact zk_iret (pc := 42) (ty := .boolean) rfl (z_narB (by omega)) ⟨by omega, by omega⟩ hf (show (((0 : Int)) = 0 ∨ ((0 : Int)) = 1) by first | assumption | omega) d_Sums_marksAre_42
  exact lp_2 _ 0 (by decide) (by decide) (show 0 ≤ (0 : Int) by first | assumption | omega) (Nat.lt_succ_self _)
set_option maxHeartbeats 4000000 in
theorem u_Sums_hasMarkNoughtX (l : Launch) (d_ : Nat) (Mz : zMem) (hW : zKW d_ Mz) : zC l m_Sums_hasMarkNought 0 0 [.ref (d_ + 23)] Mz (zqcI d_ [] [] [] [] Mz (fun v N => ((v = 0 ∨ v = 1)))) := by
  refine zC_of (L0 := [some (.ref (d_ + 23)), none]) md_Sums_hasMarkNought (Nat.le_of_ble_eq_true rfl) rfl ?_ zQ0
  have hf : zFc d_ [] [] [] [] Mz Mz := zFc.rf
  refine zw_iconst (pc := 0) (v := Int32.ofInt 0) (by decide) d_Sums_hasMarkNought_0 ?_
  refine zw_istore_n (pc := 1) (i := 1) (L2 := [some (.ref (d_ + 23)), some (.int (Int32.ofInt 0))]) rfl (by decide) rfl d_Sums_hasMarkNought_1 ?_
  have lp_2 : ∀ (n : Nat) (u1_ : Int) (hu1_a : -2147483648 ≤ u1_) (hu1_b : u1_ < 2147483648) (i2_ : 0 ≤ u1_), (ze Mz (d_ + 12) 7 - u1_).toNat < n → zW l m_Sums_hasMarkNought (zn Mz + 0, zw Mz + 0) Mz 2 [some (.ref (d_ + 23)), some (.int (Int32.ofInt u1_))] [] (zqcI d_ [] [] [] [] Mz (fun v N => ((v = 0 ∨ v = 1)))) := by
    intro n
    induction n with
    | zero =>
      intro u1_ hu1_a hu1_b i2_ h0
      exact absurd h0 (Nat.not_lt_zero _)
    | succ n ih_2 =>
      intro u1_ hu1_a hu1_b i2_ hlt_2
      refine zw_iload_n (pc := 2) (n := 1) (x := Int32.ofInt u1_) rfl d_Sums_hasMarkNought_2 ?_
      refine zw_aload_n (pc := 3) (n := 0) (x := (d_ + 23)) rfl d_Sums_hasMarkNought_3 ?_
      refine zw_getF (pc := 4) f_Sums_23 rfl ((hf.w hW).kr (o := 23) (by decide)) ((hf.w hW).lr (o := 23) (s := 0) (r := 12) (by decide)) d_Sums_hasMarkNought_4 ?_
      refine zk_getI (pc := 7) f_Sums_35 rfl ((hf.w hW).kr (o := 12) (by decide)) d_Sums_hasMarkNought_7 ?_
      have hr3_ := ze_r Mz (d_ + 12) 7
      refine zr_icmp_ge (pc := 10) (tgt := 34) ⟨hu1_a, hu1_b⟩ ⟨(ze_r Mz (d_ + 12) 7).1, (ze_r Mz (d_ + 12) 7).2⟩ (by decide) d_Sums_hasMarkNought_10 (fun hc_10 => ?_) (fun hc_10 => ?_)
      · skip
        refine zw_iconst (pc := 34) (v := Int32.ofInt 0) (by decide) d_Sums_hasMarkNought_34 ?_
        exact zk_iret (pc := 35) (ty := .boolean) rfl (z_narB (by omega)) ⟨by omega, by omega⟩ hf (show (((0 : Int)) = 0 ∨ ((0 : Int)) = 1) by first | assumption | omega) d_Sums_hasMarkNought_35
      · skip
        refine zw_aload_n (pc := 13) (n := 0) (x := (d_ + 23)) rfl d_Sums_hasMarkNought_13 ?_
        refine zw_getF (pc := 14) f_Sums_20 rfl ((hf.w hW).kr (o := 23) (by decide)) ((hf.w hW).lr (o := 23) (s := 2) (r := 26) (by decide)) d_Sums_hasMarkNought_14 ?_
        refine zw_iload_n (pc := 17) (n := 1) (x := Int32.ofInt u1_) rfl d_Sums_hasMarkNought_17 ?_
        refine zk_atGJ hf.x (pc := 18) l_Sums_27 ((hf.w hW).kr (o := 26) (by decide)) ((hf.w hW).lr (o := 26) (s := 0) (r := 27) (by decide)) ((hf.w hW).rr (o := 27) (t := 2) (n := 27) (by decide)) (by decide) ⟨by omega, by omega⟩ (by decide) (Nat.le_of_ble_eq_true rfl) d_Sums_hasMarkNought_18 (fun v4_ hv4_ hv4_a hv4_b => ?_)
        clear hv4_
        refine zw_lconst (pc := 21) (v := Int64.ofInt 0) (by decide) d_Sums_hasMarkNought_21 ?_
        refine zr_lcmp (pc := 22) ⟨hv4_a, hv4_b⟩ ⟨(by decide), (by decide)⟩ d_Sums_hasMarkNought_22 ?_
        have hr5_ := zcmp_s v4_ 0
        refine zr_if_ne (pc := 23) (tgt := 28) ⟨(by omega), (by omega)⟩ (by decide) d_Sums_hasMarkNought_23 (fun hc_23 => ?_) (fun hc_23 => ?_)
        · skip
          refine zr_iinc (pc := 28) (i := 1) (a := u1_) (n := 1) (L2 := [some (.ref (d_ + 23)), some (.int (Int32.ofInt (u1_ + 1)))]) rfl (by decide) rfl d_Sums_hasMarkNought_28 ?_
          obtain ⟨v6_, hv6_a, hv6_b, hv6_e, hv6_d⟩ := zk_gen (u1_ + 1)
          rw [hv6_e]
          refine zw_goto (pc := 31) (tgt := 2) (by decide) d_Sums_hasMarkNought_31 ?_
          exact ih_2 v6_ hv6_a hv6_b (show 0 ≤ v6_ by first | assumption | omega) (by omega)
        · skip
          refine zw_iconst (pc := 26) (v := Int32.ofInt 1) (by decide) d_Sums_hasMarkNought_26 ?_
          exact zk_iret (pc := 27) (ty := .boolean) rfl (z_narB (by omega)) ⟨by omega, by omega⟩ hf (show (((1 : Int)) = 0 ∨ ((1 : Int)) = 1) by first | assumption | omega) d_Sums_hasMarkNought_27
  exact lp_2 _ 0 (by decide) (by decide) (show 0 ≤ (0 : Int) by first | assumption | omega) (Nat.lt_succ_self _)
set_option maxHeartbeats 4000000 in
theorem u_T_isX (l : Launch) (d_ : Nat) (Mz : zMem) (hW : zKW d_ Mz) (hnow : zf Mz 0 2 = some (d_ + 0)) (a0_ : Int) (ha0_a : -2147483648 ≤ a0_) (ha0_b : a0_ < 2147483648) : zC l m_T_is 0 0 [.ref 0, .int (Int32.ofInt a0_)] Mz (zqcI d_ [] [] [] [27] Mz (fun v N => True)) := by
  refine zC_of (L0 := [some (.ref 0), some (.int (Int32.ofInt a0_)), none]) md_T_is (Nat.le_of_ble_eq_true rfl) rfl ?_ zQ0
  have hf : zFc d_ [] [] [] [27] Mz Mz := zFc.rf
  refine zw_aload_n (pc := 0) (n := 0) (x := 0) rfl d_T_is_0 ?_
  refine zw_getF (pc := 1) f_T_28 rfl ((hf.w hW).ka (o := 0) (by decide)) (hf.now hnow) d_T_is_1 ?_
  refine zw_getF (pc := 4) f_T_169 rfl ((hf.w hW).kr (o := 0) (by decide)) ((hf.w hW).lr (o := 0) (s := 2) (r := 23) (by decide)) d_T_is_4 ?_
  refine zw_astore_n (pc := 7) (i := 2) (L2 := [some (.ref 0), some (.int (Int32.ofInt a0_)), some (.ref (d_ + 23))]) rfl (by decide) rfl d_T_is_7 ?_
  refine zw_aload_n (pc := 8) (n := 2) (x := (d_ + 23)) rfl d_T_is_8 ?_
  refine zw_iconst (pc := 9) (v := Int32.ofInt 0) (by decide) d_T_is_9 ?_
  refine zk_callV hf.x (pc := 10) [.int (Int32.ofInt 0)] [] l_T_256 (u_Sums_putMarksX l d_ Mz (hf.w hW) 0 (by decide) (by decide)) rfl rfl ((hf.w hW).kr (o := 23) (by decide)) (by decide) (by decide) (Nat.le_of_ble_eq_true rfl) d_T_is_10 ?_
  rintro _ N1_ ⟨rfl, hsN1_, -⟩
  have hf_N1_ : zFc d_ [] [] [] [27] Mz N1_ := hf.tr hsN1_ (by decide) (by decide) (by decide) (by decide)
  show zW l m_T_is (zn Mz + 0, zw Mz + 0) N1_ 13 [some (.ref 0), some (.int (Int32.ofInt a0_)), some (.ref (d_ + 23))] [] (zqcI d_ [] [] [] [27] Mz (fun v N => True))
  refine zw_iload_n (pc := 13) (n := 1) (x := Int32.ofInt a0_) rfl d_T_is_13 ?_
  by_cases hs_14_0 : a0_ = 0
  · refine zr_tabIn (c := 0) (off := 30) (tgt := 44) ⟨by decide, by decide⟩ hs_14_0 (by decide) (by decide) rfl (by decide) d_T_is_14 ?_
    refine zw_aload_n (pc := 44) (n := 2) (x := (d_ + 23)) rfl d_T_is_44 ?_
    refine zw_iconst (pc := 45) (v := Int32.ofInt 0) (by decide) d_T_is_45 ?_
    refine zk_callV hf_N1_.x (pc := 46) [.int (Int32.ofInt 0)] [] l_T_270 (u_Sums_hasNoneBelowX l d_ N1_ (hf_N1_.w hW) 0 (by decide) (by decide)) rfl rfl ((hf_N1_.w hW).kr (o := 23) (by decide)) (by decide) (by decide) (Nat.le_of_ble_eq_true rfl) d_T_is_46 ?_
    rintro _ N3_ ⟨v4_, rfl, ⟨hv4_a, hv4_b⟩, hsN3_, hp0_N3_⟩
    obtain rfl := hsN3_.eq.symm
    replace hp0_N3_ : (v4_ = 0 ∨ v4_ = 1) := hp0_N3_
    show zW l m_T_is (zn Mz + 0, zw Mz + 0) N1_ 49 [some (.ref 0), some (.int (Int32.ofInt a0_)), some (.ref (d_ + 23))] [.int (Int32.ofInt v4_)] (zqcI d_ [] [] [] [27] Mz (fun v N => True))
    refine zr_if_eq (pc := 49) (tgt := 56) ⟨hv4_a, hv4_b⟩ (by decide) d_T_is_49 (fun hc_49 => ?_) (fun hc_49 => ?_)
    · skip
      refine zw_iconst (pc := 56) (v := Int32.ofInt 0) (by decide) d_T_is_56 ?_
      exact zk_iret (pc := 57) (ty := .int) rfl rfl ⟨by omega, by omega⟩ hf_N1_ trivial d_T_is_57
    · skip
      refine zw_iconst (pc := 52) (v := Int32.ofInt 1) (by decide) d_T_is_52 ?_
      refine zw_goto (pc := 53) (tgt := 57) (by decide) d_T_is_53 ?_
      exact zk_iret (pc := 57) (ty := .int) rfl rfl ⟨by omega, by omega⟩ hf_N1_ trivial d_T_is_57
  by_cases hs_14_1 : a0_ = 1
  · refine zr_tabIn (c := 1) (off := 44) (tgt := 58) ⟨by decide, by decide⟩ hs_14_1 (by decide) (by decide) rfl (by decide) d_T_is_14 ?_
    refine zw_aload_n (pc := 58) (n := 2) (x := (d_ + 23)) rfl d_T_is_58 ?_
    refine zw_iconst (pc := 59) (v := Int32.ofInt 0) (by decide) d_T_is_59 ?_
    refine zw_iconst (pc := 60) (v := Int32.ofInt 1) (by decide) d_T_is_60 ?_
    refine zk_callV hf_N1_.x (pc := 61) [.int (Int32.ofInt 0), .int (Int32.ofInt 1)] [] l_T_273 (u_Sums_marksAreX l d_ N1_ (hf_N1_.w hW) 0 (by decide) (by decide) 1 (by decide) (by decide)) rfl rfl ((hf_N1_.w hW).kr (o := 23) (by decide)) (by decide) (by decide) (Nat.le_of_ble_eq_true rfl) d_T_is_61 ?_
    rintro _ N5_ ⟨v6_, rfl, ⟨hv6_a, hv6_b⟩, hsN5_, hp0_N5_⟩
    obtain rfl := hsN5_.eq.symm
    replace hp0_N5_ : (v6_ = 0 ∨ v6_ = 1) := hp0_N5_
    show zW l m_T_is (zn Mz + 0, zw Mz + 0) N1_ 64 [some (.ref 0), some (.int (Int32.ofInt a0_)), some (.ref (d_ + 23))] [.int (Int32.ofInt v6_)] (zqcI d_ [] [] [] [27] Mz (fun v N => True))
    refine zr_if_eq (pc := 64) (tgt := 71) ⟨hv6_a, hv6_b⟩ (by decide) d_T_is_64 (fun hc_64 => ?_) (fun hc_64 => ?_)
    · skip
      refine zw_iconst (pc := 71) (v := Int32.ofInt 0) (by decide) d_T_is_71 ?_
      exact zk_iret (pc := 72) (ty := .int) rfl rfl ⟨by omega, by omega⟩ hf_N1_ trivial d_T_is_72
    · skip
      refine zw_iconst (pc := 67) (v := Int32.ofInt 1) (by decide) d_T_is_67 ?_
      refine zw_goto (pc := 68) (tgt := 72) (by decide) d_T_is_68 ?_
      exact zk_iret (pc := 72) (ty := .int) rfl rfl ⟨by omega, by omega⟩ hf_N1_ trivial d_T_is_72
  by_cases hs_14_2 : a0_ = 2
  · refine zr_tabIn (c := 2) (off := 59) (tgt := 73) ⟨by decide, by decide⟩ hs_14_2 (by decide) (by decide) rfl (by decide) d_T_is_14 ?_
    refine zw_aload_n (pc := 73) (n := 2) (x := (d_ + 23)) rfl d_T_is_73 ?_
    refine zw_iconst (pc := 74) (v := Int32.ofInt (-1)) (by decide) d_T_is_74 ?_
    refine zw_iconst (pc := 75) (v := Int32.ofInt 1) (by decide) d_T_is_75 ?_
    refine zk_callV hf_N1_.x (pc := 76) [.int (Int32.ofInt ((-1))), .int (Int32.ofInt 1)] [] l_T_273 (u_Sums_marksAreX l d_ N1_ (hf_N1_.w hW) ((-1)) (by decide) (by decide) 1 (by decide) (by decide)) rfl rfl ((hf_N1_.w hW).kr (o := 23) (by decide)) (by decide) (by decide) (Nat.le_of_ble_eq_true rfl) d_T_is_76 ?_
    rintro _ N7_ ⟨v8_, rfl, ⟨hv8_a, hv8_b⟩, hsN7_, hp0_N7_⟩
    obtain rfl := hsN7_.eq.symm
    replace hp0_N7_ : (v8_ = 0 ∨ v8_ = 1) := hp0_N7_
    show zW l m_T_is (zn Mz + 0, zw Mz + 0) N1_ 79 [some (.ref 0), some (.int (Int32.ofInt a0_)), some (.ref (d_ + 23))] [.int (Int32.ofInt v8_)] (zqcI d_ [] [] [] [27] Mz (fun v N => True))
    refine zr_if_eq (pc := 79) (tgt := 86) ⟨hv8_a, hv8_b⟩ (by decide) d_T_is_79 (fun hc_79 => ?_) (fun hc_79 => ?_)
    · skip
      refine zw_iconst (pc := 86) (v := Int32.ofInt 0) (by decide) d_T_is_86 ?_
      exact zk_iret (pc := 87) (ty := .int) rfl rfl ⟨by omega, by omega⟩ hf_N1_ trivial d_T_is_87
    · skip
      refine zw_iconst (pc := 82) (v := Int32.ofInt 1) (by decide) d_T_is_82 ?_
      refine zw_goto (pc := 83) (tgt := 87) (by decide) d_T_is_83 ?_
      exact zk_iret (pc := 87) (ty := .int) rfl rfl ⟨by omega, by omega⟩ hf_N1_ trivial d_T_is_87
  by_cases hs_14_3 : a0_ = 3
  · refine zr_tabIn (c := 3) (off := 74) (tgt := 88) ⟨by decide, by decide⟩ hs_14_3 (by decide) (by decide) rfl (by decide) d_T_is_14 ?_
    refine zw_aload_n (pc := 88) (n := 2) (x := (d_ + 23)) rfl d_T_is_88 ?_
    refine zk_callV hf_N1_.x (pc := 89) [] [] l_T_277 (u_Sums_hasMarkNoughtX l d_ N1_ (hf_N1_.w hW) ) rfl rfl ((hf_N1_.w hW).kr (o := 23) (by decide)) (by decide) (by decide) (Nat.le_of_ble_eq_true rfl) d_T_is_89 ?_
    rintro _ N9_ ⟨v10_, rfl, ⟨hv10_a, hv10_b⟩, hsN9_, hp0_N9_⟩
    obtain rfl := hsN9_.eq.symm
    replace hp0_N9_ : (v10_ = 0 ∨ v10_ = 1) := hp0_N9_
    show zW l m_T_is (zn Mz + 0, zw Mz + 0) N1_ 92 [some (.ref 0), some (.int (Int32.ofInt a0_)), some (.ref (d_ + 23))] [.int (Int32.ofInt v10_)] (zqcI d_ [] [] [] [27] Mz (fun v N => True))
    refine zr_if_eq (pc := 92) (tgt := 99) ⟨hv10_a, hv10_b⟩ (by decide) d_T_is_92 (fun hc_92 => ?_) (fun hc_92 => ?_)
    · skip
      refine zw_iconst (pc := 99) (v := Int32.ofInt 0) (by decide) d_T_is_99 ?_
      exact zk_iret (pc := 100) (ty := .int) rfl rfl ⟨by omega, by omega⟩ hf_N1_ trivial d_T_is_100
    · skip
      refine zw_iconst (pc := 95) (v := Int32.ofInt 1) (by decide) d_T_is_95 ?_
      refine zw_goto (pc := 96) (tgt := 100) (by decide) d_T_is_96 ?_
      exact zk_iret (pc := 100) (ty := .int) rfl rfl ⟨by omega, by omega⟩ hf_N1_ trivial d_T_is_100
  refine zr_tabOut (tgt := 101) ⟨ha0_a, ha0_b⟩ (by omega) (by decide) d_T_is_14 ?_
  refine zw_iconst (pc := 101) (v := Int32.ofInt (-1)) (by decide) d_T_is_101 ?_
  exact zk_iret (pc := 102) (ty := .int) rfl rfl ⟨by omega, by omega⟩ hf_N1_ trivial d_T_is_102
