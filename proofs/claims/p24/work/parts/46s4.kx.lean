set_option maxHeartbeats 4000000 in
theorem u_Sums_totalOfWorkX (l : Launch) (d_ : Nat) (Mz : zMem) (hW : zKW d_ Mz) : zC l m_Sums_totalOfWork 0 0 [.ref (d_ + 23)] Mz (zqcI d_ [] [] [] [] Mz (fun v N => True)) := by
  refine zC_of (L0 := [some (.ref (d_ + 23)), none, none, none]) md_Sums_totalOfWork (Nat.le_of_ble_eq_true rfl) rfl ?_ zQ0
  have hf : zFc d_ [] [] [] [] Mz Mz := zFc.rf
  refine zw_lconst (pc := 0) (v := Int64.ofInt 0) (by decide) d_Sums_totalOfWork_0 ?_
  refine zw_lstore_n (pc := 1) (i := 1) (L2 := [some (.ref (d_ + 23)), some (.long (Int64.ofInt 0)), none, none]) rfl (by decide) rfl d_Sums_totalOfWork_1 ?_
  refine zw_iconst (pc := 2) (v := Int32.ofInt 0) (by decide) d_Sums_totalOfWork_2 ?_
  refine zw_istore_n (pc := 3) (i := 3) (L2 := [some (.ref (d_ + 23)), some (.long (Int64.ofInt 0)), none, some (.int (Int32.ofInt 0))]) rfl (by decide) rfl d_Sums_totalOfWork_3 ?_
  have lp_4 : ∀ (n : Nat) (u1_ : Int) (hu1_a : -9223372036854775808 ≤ u1_) (hu1_b : u1_ < 9223372036854775808) (u2_ : Int) (hu2_a : -2147483648 ≤ u2_) (hu2_b : u2_ < 2147483648) (i3_ : 0 ≤ u2_), (ze Mz (d_ + 12) 7 - u2_).toNat < n → zW l m_Sums_totalOfWork (zn Mz + 0, zw Mz + 0) Mz 4 [some (.ref (d_ + 23)), some (.long (Int64.ofInt u1_)), none, some (.int (Int32.ofInt u2_))] [] (zqcI d_ [] [] [] [] Mz (fun v N => True)) := by
    intro n
    induction n with
    | zero =>
      intro u1_ hu1_a hu1_b u2_ hu2_a hu2_b i3_ h0
      exact absurd h0 (Nat.not_lt_zero _)
    | succ n ih_4 =>
      intro u1_ hu1_a hu1_b u2_ hu2_a hu2_b i3_ hlt_4
      refine zw_iload_n (pc := 4) (n := 3) (x := Int32.ofInt u2_) rfl d_Sums_totalOfWork_4 ?_
      refine zw_aload_n (pc := 5) (n := 0) (x := (d_ + 23)) rfl d_Sums_totalOfWork_5 ?_
      refine zw_getF (pc := 6) f_Sums_23 rfl ((hf.w hW).kr (o := 23) (by decide)) ((hf.w hW).lr (o := 23) (s := 0) (r := 12) (by decide)) d_Sums_totalOfWork_6 ?_
      refine zk_getI (pc := 9) f_Sums_35 rfl ((hf.w hW).kr (o := 12) (by decide)) d_Sums_totalOfWork_9 ?_
      have hr4_ := ze_r Mz (d_ + 12) 7
      refine zr_icmp_ge (pc := 12) (tgt := 31) ⟨hu2_a, hu2_b⟩ ⟨(ze_r Mz (d_ + 12) 7).1, (ze_r Mz (d_ + 12) 7).2⟩ (by decide) d_Sums_totalOfWork_12 (fun hc_12 => ?_) (fun hc_12 => ?_)
      · skip
        refine zw_lload_n (pc := 31) (n := 1) (x := Int64.ofInt u1_) rfl d_Sums_totalOfWork_31 ?_
        refine zr_l2i (pc := 32) d_Sums_totalOfWork_32 ?_
        refine zr_nmI (fun v5_ hv5_ => ?_)
        obtain ⟨hv5_a, hv5_b⟩ := hv5_
        exact zk_iret (pc := 33) (ty := .int) rfl rfl ⟨by omega, by omega⟩ hf trivial d_Sums_totalOfWork_33
      · skip
        refine zw_lload_n (pc := 15) (n := 1) (x := Int64.ofInt u1_) rfl d_Sums_totalOfWork_15 ?_
        refine zw_aload_n (pc := 16) (n := 0) (x := (d_ + 23)) rfl d_Sums_totalOfWork_16 ?_
        refine zw_bipush (pc := 17) (v := Int32.ofInt 39) (by decide) d_Sums_totalOfWork_17 ?_
        refine zw_iload_n (pc := 19) (n := 3) (x := Int32.ofInt u2_) rfl d_Sums_totalOfWork_19 ?_
        refine zk_callV hf.x (pc := 20) [.int (Int32.ofInt 39), .int (Int32.ofInt u2_)] [.long (Int64.ofInt u1_)] l_Sums_67 (u_Sums_numberAtX l d_ Mz (hf.w hW) 39 (by decide) (by decide) u2_ hu2_a hu2_b) rfl rfl ((hf.w hW).kr (o := 23) (by decide)) (by decide) (by decide) (Nat.le_of_ble_eq_true rfl) d_Sums_totalOfWork_20 ?_
        rintro _ N6_ ⟨v7_, rfl, ⟨hv7_a, hv7_b⟩, hsN6_, -⟩
        obtain rfl := hsN6_.eq.symm
        show zW l m_Sums_totalOfWork (zn Mz + 0, zw Mz + 0) Mz 23 [some (.ref (d_ + 23)), some (.long (Int64.ofInt u1_)), none, some (.int (Int32.ofInt u2_))] [.long (Int64.ofInt v7_), .long (Int64.ofInt u1_)] (zqcI d_ [] [] [] [] Mz (fun v N => True))
        refine zr_ladd (pc := 23) d_Sums_totalOfWork_23 ?_
        refine zr_nmJ (fun v8_ hv8_ => ?_)
        obtain ⟨hv8_a, hv8_b⟩ := hv8_
        refine zw_lstore_n (pc := 24) (i := 1) (L2 := [some (.ref (d_ + 23)), some (.long (Int64.ofInt v8_)), none, some (.int (Int32.ofInt u2_))]) rfl (by decide) rfl d_Sums_totalOfWork_24 ?_
        refine zr_iinc (pc := 25) (i := 3) (a := u2_) (n := 1) (L2 := [some (.ref (d_ + 23)), some (.long (Int64.ofInt v8_)), none, some (.int (Int32.ofInt (u2_ + 1)))]) rfl (by decide) rfl d_Sums_totalOfWork_25 ?_
        obtain ⟨v9_, hv9_a, hv9_b, hv9_e, hv9_d⟩ := zk_gen (u2_ + 1)
        rw [hv9_e]
        refine zw_goto (pc := 28) (tgt := 4) (by decide) d_Sums_totalOfWork_28 ?_
        exact ih_4 v8_ hv8_a hv8_b v9_ hv9_a hv9_b (show 0 ≤ v9_ by first | assumption | omega) (by omega)
  exact lp_4 _ 0 (by decide) (by decide) 0 (by decide) (by decide) (show 0 ≤ (0 : Int) by first | assumption | omega) (Nat.lt_succ_self _)
set_option maxHeartbeats 4000000 in
theorem u_T_pairsX (l : Launch) (d_ : Nat) (Mz : zMem) (hW : zKW d_ Mz) (hnow : zf Mz 0 2 = some (d_ + 0)) (a0_ : Int) (ha0_a : -2147483648 ≤ a0_) (ha0_b : a0_ < 2147483648) (a1_ : Int) (ha1_a : -2147483648 ≤ a1_) (ha1_b : a1_ < 2147483648) : zC l m_T_pairs 0 0 [.ref 0, .int (Int32.ofInt a0_), .int (Int32.ofInt a1_)] Mz (zqcI d_ [] [] [] [25, 27] Mz (fun v N => True)) := by
  refine zC_of (L0 := [some (.ref 0), some (.int (Int32.ofInt a0_)), some (.int (Int32.ofInt a1_))]) md_T_pairs (Nat.le_of_ble_eq_true rfl) rfl ?_ zQ0
  have hf : zFc d_ [] [] [] [25, 27] Mz Mz := zFc.rf
  refine zw_aload_n (pc := 0) (n := 0) (x := 0) rfl d_T_pairs_0 ?_
  refine zw_getF (pc := 1) f_T_28 rfl ((hf.w hW).ka (o := 0) (by decide)) (hf.now hnow) d_T_pairs_1 ?_
  refine zw_getF (pc := 4) f_T_85 rfl ((hf.w hW).kr (o := 0) (by decide)) ((hf.w hW).lr (o := 0) (s := 1) (r := 12) (by decide)) d_T_pairs_4 ?_
  refine zw_iload_n (pc := 7) (n := 1) (x := Int32.ofInt a0_) rfl d_T_pairs_7 ?_
  refine zk_callV hf.x (pc := 8) [.int (Int32.ofInt a0_)] [] l_T_143 (u_Sorts_hasSortX l d_ Mz (hf.w hW) a0_ ha0_a ha0_b) rfl rfl ((hf.w hW).kr (o := 12) (by decide)) (by decide) (by decide) (Nat.le_of_ble_eq_true rfl) d_T_pairs_8 ?_
  rintro _ N1_ ⟨v2_, rfl, ⟨hv2_a, hv2_b⟩, hsN1_, hp0_N1_⟩
  obtain rfl := hsN1_.eq.symm
  replace hp0_N1_ : (v2_ = 0 ∨ v2_ = 1) := hp0_N1_
  show zW l m_T_pairs (zn Mz + 0, zw Mz + 0) Mz 11 [some (.ref 0), some (.int (Int32.ofInt a0_)), some (.int (Int32.ofInt a1_))] [.int (Int32.ofInt v2_)] (zqcI d_ [] [] [] [25, 27] Mz (fun v N => True))
  refine zr_if_eq (pc := 11) (tgt := 28) ⟨hv2_a, hv2_b⟩ (by decide) d_T_pairs_11 (fun hc_11 => ?_) (fun hc_11 => ?_)
  · skip
    refine zw_iconst (pc := 28) (v := Int32.ofInt (-1)) (by decide) d_T_pairs_28 ?_
    exact zk_iret (pc := 29) (ty := .int) rfl rfl ⟨by omega, by omega⟩ hf trivial d_T_pairs_29
  · skip
    refine zw_aload_n (pc := 14) (n := 0) (x := 0) rfl d_T_pairs_14 ?_
    refine zw_getF (pc := 15) f_T_28 rfl ((hf.w hW).ka (o := 0) (by decide)) (hf.now hnow) d_T_pairs_15 ?_
    refine zw_getF (pc := 18) f_T_85 rfl ((hf.w hW).kr (o := 0) (by decide)) ((hf.w hW).lr (o := 0) (s := 1) (r := 12) (by decide)) d_T_pairs_18 ?_
    refine zw_iload_n (pc := 21) (n := 2) (x := Int32.ofInt a1_) rfl d_T_pairs_21 ?_
    refine zk_callV hf.x (pc := 22) [.int (Int32.ofInt a1_)] [] l_T_143 (u_Sorts_hasSortX l d_ Mz (hf.w hW) a1_ ha1_a ha1_b) rfl rfl ((hf.w hW).kr (o := 12) (by decide)) (by decide) (by decide) (Nat.le_of_ble_eq_true rfl) d_T_pairs_22 ?_
    rintro _ N3_ ⟨v4_, rfl, ⟨hv4_a, hv4_b⟩, hsN3_, hp0_N3_⟩
    obtain rfl := hsN3_.eq.symm
    replace hp0_N3_ : (v4_ = 0 ∨ v4_ = 1) := hp0_N3_
    show zW l m_T_pairs (zn Mz + 0, zw Mz + 0) Mz 25 [some (.ref 0), some (.int (Int32.ofInt a0_)), some (.int (Int32.ofInt a1_))] [.int (Int32.ofInt v4_)] (zqcI d_ [] [] [] [25, 27] Mz (fun v N => True))
    refine zr_if_ne (pc := 25) (tgt := 30) ⟨hv4_a, hv4_b⟩ (by decide) d_T_pairs_25 (fun hc_25 => ?_) (fun hc_25 => ?_)
    · skip
      refine zw_aload_n (pc := 30) (n := 0) (x := 0) rfl d_T_pairs_30 ?_
      refine zw_getF (pc := 31) f_T_28 rfl ((hf.w hW).ka (o := 0) (by decide)) (hf.now hnow) d_T_pairs_31 ?_
      refine zw_getF (pc := 34) f_T_169 rfl ((hf.w hW).kr (o := 0) (by decide)) ((hf.w hW).lr (o := 0) (s := 2) (r := 23) (by decide)) d_T_pairs_34 ?_
      refine zw_iload_n (pc := 37) (n := 1) (x := Int32.ofInt a0_) rfl d_T_pairs_37 ?_
      refine zw_iload_n (pc := 38) (n := 2) (x := Int32.ofInt a1_) rfl d_T_pairs_38 ?_
      refine zk_callV hf.x (pc := 39) [.int (Int32.ofInt a0_), .int (Int32.ofInt a1_)] [] l_T_173 (u_Sums_putProductX l d_ Mz (hf.w hW) a0_ ha0_a ha0_b a1_ ha1_a ha1_b) rfl rfl ((hf.w hW).kr (o := 23) (by decide)) (by decide) (by decide) (Nat.le_of_ble_eq_true rfl) d_T_pairs_39 ?_
      rintro _ N5_ ⟨rfl, hsN5_, -⟩
      have hf_N5_ : zFc d_ [] [] [] [25, 27] Mz N5_ := hf.tr hsN5_ (by decide) (by decide) (by decide) (by decide)
      show zW l m_T_pairs (zn Mz + 0, zw Mz + 0) N5_ 42 [some (.ref 0), some (.int (Int32.ofInt a0_)), some (.int (Int32.ofInt a1_))] [] (zqcI d_ [] [] [] [25, 27] Mz (fun v N => True))
      refine zw_aload_n (pc := 42) (n := 0) (x := 0) rfl d_T_pairs_42 ?_
      refine zw_getF (pc := 43) f_T_28 rfl ((hf_N5_.w hW).ka (o := 0) (by decide)) (hf_N5_.now hnow) d_T_pairs_43 ?_
      refine zw_getF (pc := 46) f_T_169 rfl ((hf_N5_.w hW).kr (o := 0) (by decide)) ((hf_N5_.w hW).lr (o := 0) (s := 2) (r := 23) (by decide)) d_T_pairs_46 ?_
      refine zk_callV hf_N5_.x (pc := 49) [] [] l_T_211 (u_Sums_totalOfWorkX l d_ N5_ (hf_N5_.w hW) ) rfl rfl ((hf_N5_.w hW).kr (o := 23) (by decide)) (by decide) (by decide) (Nat.le_of_ble_eq_true rfl) d_T_pairs_49 ?_
      rintro _ N7_ ⟨v8_, rfl, ⟨hv8_a, hv8_b⟩, hsN7_, -⟩
      obtain rfl := hsN7_.eq.symm
      show zW l m_T_pairs (zn Mz + 0, zw Mz + 0) N5_ 52 [some (.ref 0), some (.int (Int32.ofInt a0_)), some (.int (Int32.ofInt a1_))] [.int (Int32.ofInt v8_)] (zqcI d_ [] [] [] [25, 27] Mz (fun v N => True))
      exact zk_iret (pc := 52) (ty := .int) rfl rfl ⟨by omega, by omega⟩ hf_N5_ trivial d_T_pairs_52
    · skip
      refine zw_iconst (pc := 28) (v := Int32.ofInt (-1)) (by decide) d_T_pairs_28 ?_
      exact zk_iret (pc := 29) (ty := .int) rfl rfl ⟨by omega, by omega⟩ hf trivial d_T_pairs_29
set_option maxHeartbeats 4000000 in
theorem u_Group_commutingPairsX (l : Launch) (d_ : Nat) (Mz : zMem) (hW : zKW d_ Mz) : zC l m_Group_commutingPairs 0 0 [.ref (d_ + 1)] Mz (zqcI d_ [] [] [] [] Mz (fun v N => True)) := by
  refine zC_of (L0 := [some (.ref (d_ + 1)), none, none]) md_Group_commutingPairs (Nat.le_of_ble_eq_true rfl) rfl ?_ zQ0
  have hf : zFc d_ [] [] [] [] Mz Mz := zFc.rf
  refine zw_iconst (pc := 0) (v := Int32.ofInt 0) (by decide) d_Group_commutingPairs_0 ?_
  refine zw_istore_n (pc := 1) (i := 1) (L2 := [some (.ref (d_ + 1)), some (.int (Int32.ofInt 0)), none]) rfl (by decide) rfl d_Group_commutingPairs_1 ?_
  refine zw_iconst (pc := 2) (v := Int32.ofInt 0) (by decide) d_Group_commutingPairs_2 ?_
  refine zw_istore_n (pc := 3) (i := 2) (L2 := [some (.ref (d_ + 1)), some (.int (Int32.ofInt 0)), some (.int (Int32.ofInt 0))]) rfl (by decide) rfl d_Group_commutingPairs_3 ?_
  have lp_4 : ∀ (n : Nat) (u1_ : Int) (hu1_a : -2147483648 ≤ u1_) (hu1_b : u1_ < 2147483648) (u2_ : Int) (hu2_a : -2147483648 ≤ u2_) (hu2_b : u2_ < 2147483648) (i3_ : 0 ≤ u2_), (ze Mz (d_ + 1) 7 - u2_).toNat < n → zW l m_Group_commutingPairs (zn Mz + 0, zw Mz + 0) Mz 4 [some (.ref (d_ + 1)), some (.int (Int32.ofInt u1_)), some (.int (Int32.ofInt u2_))] [] (zqcI d_ [] [] [] [] Mz (fun v N => True)) := by
    intro n
    induction n with
    | zero =>
      intro u1_ hu1_a hu1_b u2_ hu2_a hu2_b i3_ h0
      exact absurd h0 (Nat.not_lt_zero _)
    | succ n ih_4 =>
      intro u1_ hu1_a hu1_b u2_ hu2_a hu2_b i3_ hlt_4
      refine zw_iload_n (pc := 4) (n := 2) (x := Int32.ofInt u2_) rfl d_Group_commutingPairs_4 ?_
      refine zw_aload_n (pc := 5) (n := 0) (x := (d_ + 1)) rfl d_Group_commutingPairs_5 ?_
      refine zk_getI (pc := 6) f_Group_39 rfl ((hf.w hW).kr (o := 1) (by decide)) d_Group_commutingPairs_6 ?_
      have hr4_ := ze_r Mz (d_ + 1) 7
      refine zr_icmp_ge (pc := 9) (tgt := 33) ⟨hu2_a, hu2_b⟩ ⟨(ze_r Mz (d_ + 1) 7).1, (ze_r Mz (d_ + 1) 7).2⟩ (by decide) d_Group_commutingPairs_9 (fun hc_9 => ?_) (fun hc_9 => ?_)
      · skip
        refine zw_iload_n (pc := 33) (n := 1) (x := Int32.ofInt u1_) rfl d_Group_commutingPairs_33 ?_
        exact zk_iret (pc := 34) (ty := .int) rfl rfl ⟨by omega, by omega⟩ hf trivial d_Group_commutingPairs_34
      · skip
        refine zw_iload_n (pc := 12) (n := 1) (x := Int32.ofInt u1_) rfl d_Group_commutingPairs_12 ?_
        refine zw_aload_n (pc := 13) (n := 0) (x := (d_ + 1)) rfl d_Group_commutingPairs_13 ?_
        refine zw_iload_n (pc := 14) (n := 2) (x := Int32.ofInt u2_) rfl d_Group_commutingPairs_14 ?_
        refine zw_aload_n (pc := 15) (n := 0) (x := (d_ + 1)) rfl d_Group_commutingPairs_15 ?_
        refine zk_callV hf.x (pc := 16) [] [.int (Int32.ofInt u2_), .ref (d_ + 1), .int (Int32.ofInt u1_)] l_Group_93 (u_Group_everyoneX l d_ Mz (hf.w hW) ) rfl rfl ((hf.w hW).kr (o := 1) (by decide)) (by decide) (by decide) (Nat.le_of_ble_eq_true rfl) d_Group_commutingPairs_16 ?_
        rintro _ N5_ ⟨v6_, rfl, ⟨hv6_a, hv6_b⟩, hsN5_, -⟩
        obtain rfl := hsN5_.eq.symm
        show zW l m_Group_commutingPairs (zn Mz + 0, zw Mz + 0) Mz 19 [some (.ref (d_ + 1)), some (.int (Int32.ofInt u1_)), some (.int (Int32.ofInt u2_))] [.int (Int32.ofInt v6_), .int (Int32.ofInt u2_), .ref (d_ + 1), .int (Int32.ofInt u1_)] (zqcI d_ [] [] [] [] Mz (fun v N => True))
        refine zk_callV hf.x (pc := 19) [.int (Int32.ofInt u2_), .int (Int32.ofInt v6_)] [.int (Int32.ofInt u1_)] l_Group_97 (u_Group_commutingWithX l d_ Mz (hf.w hW) u2_ hu2_a hu2_b v6_ hv6_a hv6_b) rfl rfl ((hf.w hW).kr (o := 1) (by decide)) (by decide) (by decide) (Nat.le_of_ble_eq_true rfl) d_Group_commutingPairs_19 ?_
        rintro _ N7_ ⟨v8_, rfl, ⟨hv8_a, hv8_b⟩, hsN7_, -⟩
        obtain rfl := hsN7_.eq.symm
        show zW l m_Group_commutingPairs (zn Mz + 0, zw Mz + 0) Mz 22 [some (.ref (d_ + 1)), some (.int (Int32.ofInt u1_)), some (.int (Int32.ofInt u2_))] [.int (Int32.ofInt v8_), .int (Int32.ofInt u1_)] (zqcI d_ [] [] [] [] Mz (fun v N => True))
        refine zr_callS hf.x (pc := 22) [.int (Int32.ofInt v8_)] [.int (Int32.ofInt u1_)] l_Group_83 (u_Integer_bitCountX l d_ Mz (hf.w hW) v8_ hv8_a hv8_b) rfl rfl (by decide) (Nat.le_of_ble_eq_true rfl) d_Group_commutingPairs_22 ?_
        rintro _ N9_ ⟨v10_, rfl, ⟨hv10_a, hv10_b⟩, hsN9_, ⟨hp0_N9_, hp1_N9_⟩⟩
        obtain rfl := hsN9_.eq.symm
        show zW l m_Group_commutingPairs (zn Mz + 0, zw Mz + 0) Mz 25 [some (.ref (d_ + 1)), some (.int (Int32.ofInt u1_)), some (.int (Int32.ofInt u2_))] [.int (Int32.ofInt v10_), .int (Int32.ofInt u1_)] (zqcI d_ [] [] [] [] Mz (fun v N => True))
        refine zr_iadd (pc := 25) d_Group_commutingPairs_25 ?_
        refine zr_nmI (fun v11_ hv11_ => ?_)
        obtain ⟨hv11_a, hv11_b⟩ := hv11_
        refine zw_istore_n (pc := 26) (i := 1) (L2 := [some (.ref (d_ + 1)), some (.int (Int32.ofInt v11_)), some (.int (Int32.ofInt u2_))]) rfl (by decide) rfl d_Group_commutingPairs_26 ?_
        refine zr_iinc (pc := 27) (i := 2) (a := u2_) (n := 1) (L2 := [some (.ref (d_ + 1)), some (.int (Int32.ofInt v11_)), some (.int (Int32.ofInt (u2_ + 1)))]) rfl (by decide) rfl d_Group_commutingPairs_27 ?_
        obtain ⟨v12_, hv12_a, hv12_b, hv12_e, hv12_d⟩ := zk_gen (u2_ + 1)
        rw [hv12_e]
        refine zw_goto (pc := 30) (tgt := 4) (by decide) d_Group_commutingPairs_30 ?_
        exact ih_4 v11_ hv11_a hv11_b v12_ hv12_a hv12_b (show 0 ≤ v12_ by first | assumption | omega) (by omega)
  exact lp_4 _ 0 (by decide) (by decide) 0 (by decide) (by decide) (show 0 ≤ (0 : Int) by first | assumption | omega) (Nat.lt_succ_self _)
set_option maxHeartbeats 4000000 in
theorem u_T_alikeX (l : Launch) (d_ : Nat) (Mz : zMem) (hW : zKW d_ Mz) (hnow : zf Mz 0 2 = some (d_ + 0)) : zC l m_T_alike 0 0 [.ref 0] Mz (zqcI d_ [] [] [] [] Mz (fun v N => True)) := by
  refine zC_of (L0 := [some (.ref 0)]) md_T_alike (Nat.le_of_ble_eq_true rfl) rfl ?_ zQ0
  have hf : zFc d_ [] [] [] [] Mz Mz := zFc.rf
  refine zw_aload_n (pc := 0) (n := 0) (x := 0) rfl d_T_alike_0 ?_
  refine zw_getF (pc := 1) f_T_28 rfl ((hf.w hW).ka (o := 0) (by decide)) (hf.now hnow) d_T_alike_1 ?_
  refine zw_getF (pc := 4) f_T_61 rfl ((hf.w hW).kr (o := 0) (by decide)) ((hf.w hW).lr (o := 0) (s := 0) (r := 1) (by decide)) d_T_alike_4 ?_
  refine zk_callV hf.x (pc := 7) [] [] l_T_214 (u_Group_commutingPairsX l d_ Mz (hf.w hW) ) rfl rfl ((hf.w hW).kr (o := 1) (by decide)) (by decide) (by decide) (Nat.le_of_ble_eq_true rfl) d_T_alike_7 ?_
  rintro _ N1_ ⟨v2_, rfl, ⟨hv2_a, hv2_b⟩, hsN1_, -⟩
  obtain rfl := hsN1_.eq.symm
  show zW l m_T_alike (zn Mz + 0, zw Mz + 0) Mz 10 [some (.ref 0)] [.int (Int32.ofInt v2_)] (zqcI d_ [] [] [] [] Mz (fun v N => True))
  exact zk_iret (pc := 10) (ty := .int) rfl rfl ⟨by omega, by omega⟩ hf trivial d_T_alike_10
set_option maxHeartbeats 4000000 in
theorem u_T_meetX (l : Launch) (d_ : Nat) (Mz : zMem) (hW : zKW d_ Mz) (hnow : zf Mz 0 2 = some (d_ + 0)) (a0_ : Int) (ha0_a : -2147483648 ≤ a0_) (ha0_b : a0_ < 2147483648) (a1_ : Int) (ha1_a : -2147483648 ≤ a1_) (ha1_b : a1_ < 2147483648) : zC l m_T_meet 0 0 [.ref 0, .int (Int32.ofInt a0_), .int (Int32.ofInt a1_)] Mz (zqcI d_ [] [] [] [11] Mz (fun v N => True)) := by
  refine zC_of (L0 := [some (.ref 0), some (.int (Int32.ofInt a0_)), some (.int (Int32.ofInt a1_)), none]) md_T_meet (Nat.le_of_ble_eq_true rfl) rfl ?_ zQ0
  have hf : zFc d_ [] [] [] [11] Mz Mz := zFc.rf
  refine zw_aload_n (pc := 0) (n := 0) (x := 0) rfl d_T_meet_0 ?_
  refine zw_getF (pc := 1) f_T_28 rfl ((hf.w hW).ka (o := 0) (by decide)) (hf.now hnow) d_T_meet_1 ?_
  refine zw_getF (pc := 4) f_T_85 rfl ((hf.w hW).kr (o := 0) (by decide)) ((hf.w hW).lr (o := 0) (s := 1) (r := 12) (by decide)) d_T_meet_4 ?_
  refine zw_astore_n (pc := 7) (i := 3) (L2 := [some (.ref 0), some (.int (Int32.ofInt a0_)), some (.int (Int32.ofInt a1_)), some (.ref (d_ + 12))]) rfl (by decide) rfl d_T_meet_7 ?_
  refine zw_aload_n (pc := 8) (n := 3) (x := (d_ + 12)) rfl d_T_meet_8 ?_
  refine zw_iload_n (pc := 9) (n := 1) (x := Int32.ofInt a0_) rfl d_T_meet_9 ?_
  refine zk_callV hf.x (pc := 10) [.int (Int32.ofInt a0_)] [] l_T_143 (u_Sorts_hasSortX l d_ Mz (hf.w hW) a0_ ha0_a ha0_b) rfl rfl ((hf.w hW).kr (o := 12) (by decide)) (by decide) (by decide) (Nat.le_of_ble_eq_true rfl) d_T_meet_10 ?_
  rintro _ N1_ ⟨v2_, rfl, ⟨hv2_a, hv2_b⟩, hsN1_, hp0_N1_⟩
  obtain rfl := hsN1_.eq.symm
  replace hp0_N1_ : (v2_ = 0 ∨ v2_ = 1) := hp0_N1_
  show zW l m_T_meet (zn Mz + 0, zw Mz + 0) Mz 13 [some (.ref 0), some (.int (Int32.ofInt a0_)), some (.int (Int32.ofInt a1_)), some (.ref (d_ + 12))] [.int (Int32.ofInt v2_)] (zqcI d_ [] [] [] [11] Mz (fun v N => True))
  refine zr_if_eq (pc := 13) (tgt := 24) ⟨hv2_a, hv2_b⟩ (by decide) d_T_meet_13 (fun hc_13 => ?_) (fun hc_13 => ?_)
  · skip
    refine zw_iconst (pc := 24) (v := Int32.ofInt (-1)) (by decide) d_T_meet_24 ?_
    exact zk_iret (pc := 25) (ty := .int) rfl rfl ⟨by omega, by omega⟩ hf trivial d_T_meet_25
  · skip
    refine zw_aload_n (pc := 16) (n := 3) (x := (d_ + 12)) rfl d_T_meet_16 ?_
    refine zw_iload_n (pc := 17) (n := 2) (x := Int32.ofInt a1_) rfl d_T_meet_17 ?_
    refine zk_callV hf.x (pc := 18) [.int (Int32.ofInt a1_)] [] l_T_143 (u_Sorts_hasSortX l d_ Mz (hf.w hW) a1_ ha1_a ha1_b) rfl rfl ((hf.w hW).kr (o := 12) (by decide)) (by decide) (by decide) (Nat.le_of_ble_eq_true rfl) d_T_meet_18 ?_
    rintro _ N3_ ⟨v4_, rfl, ⟨hv4_a, hv4_b⟩, hsN3_, hp0_N3_⟩
    obtain rfl := hsN3_.eq.symm
    replace hp0_N3_ : (v4_ = 0 ∨ v4_ = 1) := hp0_N3_
    show zW l m_T_meet (zn Mz + 0, zw Mz + 0) Mz 21 [some (.ref 0), some (.int (Int32.ofInt a0_)), some (.int (Int32.ofInt a1_)), some (.ref (d_ + 12))] [.int (Int32.ofInt v4_)] (zqcI d_ [] [] [] [11] Mz (fun v N => True))
    refine zr_if_ne (pc := 21) (tgt := 26) ⟨hv4_a, hv4_b⟩ (by decide) d_T_meet_21 (fun hc_21 => ?_) (fun hc_21 => ?_)
    · skip
      refine zw_aload_n (pc := 26) (n := 3) (x := (d_ + 12)) rfl d_T_meet_26 ?_
      refine zw_aload_n (pc := 27) (n := 3) (x := (d_ + 12)) rfl d_T_meet_27 ?_
      refine zw_getF (pc := 28) f_T_146 rfl ((hf.w hW).kr (o := 12) (by decide)) ((hf.w hW).lr (o := 12) (s := 4) (r := 19) (by decide)) d_T_meet_28 ?_
      refine zw_iload_n (pc := 31) (n := 1) (x := Int32.ofInt a0_) rfl d_T_meet_31 ?_
      refine zk_atG hf.x (pc := 32) l_T_118 ((hf.w hW).kr (o := 19) (by decide)) ((hf.w hW).lr (o := 19) (s := 0) (r := 20) (by decide)) ((hf.w hW).rr (o := 20) (t := 1) (n := 27) (by decide)) (by decide) ⟨by omega, by omega⟩ (by decide) (Nat.le_of_ble_eq_true rfl) d_T_meet_32 (fun v5_ hv5_ hv5_a hv5_b => ?_)
      clear hv5_
      refine zw_aload_n (pc := 35) (n := 3) (x := (d_ + 12)) rfl d_T_meet_35 ?_
      refine zw_getF (pc := 36) f_T_146 rfl ((hf.w hW).kr (o := 12) (by decide)) ((hf.w hW).lr (o := 12) (s := 4) (r := 19) (by decide)) d_T_meet_36 ?_
      refine zw_iload_n (pc := 39) (n := 2) (x := Int32.ofInt a1_) rfl d_T_meet_39 ?_
      refine zk_atG hf.x (pc := 40) l_T_118 ((hf.w hW).kr (o := 19) (by decide)) ((hf.w hW).lr (o := 19) (s := 0) (r := 20) (by decide)) ((hf.w hW).rr (o := 20) (t := 1) (n := 27) (by decide)) (by decide) ⟨by omega, by omega⟩ (by decide) (Nat.le_of_ble_eq_true rfl) d_T_meet_40 (fun v6_ hv6_ hv6_a hv6_b => ?_)
      clear hv6_
      refine zr_iand (pc := 43) d_T_meet_43 ?_
      have hr7_ := zand_r v5_ v6_
      refine zr_nmI (fun v8_ hv8_ => ?_)
      obtain ⟨hv8_a, hv8_b⟩ := hv8_
      refine zk_callV hf.x (pc := 44) [.int (Int32.ofInt v8_)] [] l_T_140 (u_Sorts_spannedSortX l d_ Mz (hf.w hW) v8_ hv8_a hv8_b) rfl rfl ((hf.w hW).kr (o := 12) (by decide)) (by decide) (by decide) (Nat.le_of_ble_eq_true rfl) d_T_meet_44 ?_
      rintro _ N9_ ⟨v10_, rfl, ⟨hv10_a, hv10_b⟩, hsN9_, -⟩
      have hf_N9_ : zFc d_ [] [] [] [11] Mz N9_ := hf.tr hsN9_ (by decide) (by decide) (by decide) (by decide)
      show zW l m_T_meet (zn Mz + 0, zw Mz + 0) N9_ 47 [some (.ref 0), some (.int (Int32.ofInt a0_)), some (.int (Int32.ofInt a1_)), some (.ref (d_ + 12))] [.int (Int32.ofInt v10_)] (zqcI d_ [] [] [] [11] Mz (fun v N => True))
      exact zk_iret (pc := 47) (ty := .int) rfl rfl ⟨by omega, by omega⟩ hf_N9_ trivial d_T_meet_47
    · skip
      refine zw_iconst (pc := 24) (v := Int32.ofInt (-1)) (by decide) d_T_meet_24 ?_
      exact zk_iret (pc := 25) (ty := .int) rfl rfl ⟨by omega, by omega⟩ hf trivial d_T_meet_25
set_option maxHeartbeats 4000000 in
theorem u_T_joinX (l : Launch) (d_ : Nat) (Mz : zMem) (hW : zKW d_ Mz) (hnow : zf Mz 0 2 = some (d_ + 0)) (a0_ : Int) (ha0_a : -2147483648 ≤ a0_) (ha0_b : a0_ < 2147483648) (a1_ : Int) (ha1_a : -2147483648 ≤ a1_) (ha1_b : a1_ < 2147483648) : zC l m_T_join 0 0 [.ref 0, .int (Int32.ofInt a0_), .int (Int32.ofInt a1_)] Mz (zqcI d_ [] [] [] [11] Mz (fun v N => True)) := by
  refine zC_of (L0 := [some (.ref 0), some (.int (Int32.ofInt a0_)), some (.int (Int32.ofInt a1_)), none]) md_T_join (Nat.le_of_ble_eq_true rfl) rfl ?_ zQ0
  have hf : zFc d_ [] [] [] [11] Mz Mz := zFc.rf
  refine zw_aload_n (pc := 0) (n := 0) (x := 0) rfl d_T_join_0 ?_
  refine zw_getF (pc := 1) f_T_28 rfl ((hf.w hW).ka (o := 0) (by decide)) (hf.now hnow) d_T_join_1 ?_
  refine zw_getF (pc := 4) f_T_85 rfl ((hf.w hW).kr (o := 0) (by decide)) ((hf.w hW).lr (o := 0) (s := 1) (r := 12) (by decide)) d_T_join_4 ?_
  refine zw_astore_n (pc := 7) (i := 3) (L2 := [some (.ref 0), some (.int (Int32.ofInt a0_)), some (.int (Int32.ofInt a1_)), some (.ref (d_ + 12))]) rfl (by decide) rfl d_T_join_7 ?_
  refine zw_aload_n (pc := 8) (n := 3) (x := (d_ + 12)) rfl d_T_join_8 ?_
  refine zw_iload_n (pc := 9) (n := 1) (x := Int32.ofInt a0_) rfl d_T_join_9 ?_
  refine zk_callV hf.x (pc := 10) [.int (Int32.ofInt a0_)] [] l_T_143 (u_Sorts_hasSortX l d_ Mz (hf.w hW) a0_ ha0_a ha0_b) rfl rfl ((hf.w hW).kr (o := 12) (by decide)) (by decide) (by decide) (Nat.le_of_ble_eq_true rfl) d_T_join_10 ?_
  rintro _ N1_ ⟨v2_, rfl, ⟨hv2_a, hv2_b⟩, hsN1_, hp0_N1_⟩
  obtain rfl := hsN1_.eq.symm
  replace hp0_N1_ : (v2_ = 0 ∨ v2_ = 1) := hp0_N1_
  show zW l m_T_join (zn Mz + 0, zw Mz + 0) Mz 13 [some (.ref 0), some (.int (Int32.ofInt a0_)), some (.int (Int32.ofInt a1_)), some (.ref (d_ + 12))] [.int (Int32.ofInt v2_)] (zqcI d_ [] [] [] [11] Mz (fun v N => True))
  refine zr_if_eq (pc := 13) (tgt := 24) ⟨hv2_a, hv2_b⟩ (by decide) d_T_join_13 (fun hc_13 => ?_) (fun hc_13 => ?_)
  · skip
    refine zw_iconst (pc := 24) (v := Int32.ofInt (-1)) (by decide) d_T_join_24 ?_
    exact zk_iret (pc := 25) (ty := .int) rfl rfl ⟨by omega, by omega⟩ hf trivial d_T_join_25
  · skip
    refine zw_aload_n (pc := 16) (n := 3) (x := (d_ + 12)) rfl d_T_join_16 ?_
    refine zw_iload_n (pc := 17) (n := 2) (x := Int32.ofInt a1_) rfl d_T_join_17 ?_
    refine zk_callV hf.x (pc := 18) [.int (Int32.ofInt a1_)] [] l_T_143 (u_Sorts_hasSortX l d_ Mz (hf.w hW) a1_ ha1_a ha1_b) rfl rfl ((hf.w hW).kr (o := 12) (by decide)) (by decide) (by decide) (Nat.le_of_ble_eq_true rfl) d_T_join_18 ?_
    rintro _ N3_ ⟨v4_, rfl, ⟨hv4_a, hv4_b⟩, hsN3_, hp0_N3_⟩
    obtain rfl := hsN3_.eq.symm
    replace hp0_N3_ : (v4_ = 0 ∨ v4_ = 1) := hp0_N3_
    show zW l m_T_join (zn Mz + 0, zw Mz + 0) Mz 21 [some (.ref 0), some (.int (Int32.ofInt a0_)), some (.int (Int32.ofInt a1_)), some (.ref (d_ + 12))] [.int (Int32.ofInt v4_)] (zqcI d_ [] [] [] [11] Mz (fun v N => True))
    refine zr_if_ne (pc := 21) (tgt := 26) ⟨hv4_a, hv4_b⟩ (by decide) d_T_join_21 (fun hc_21 => ?_) (fun hc_21 => ?_)
    · skip
      refine zw_aload_n (pc := 26) (n := 3) (x := (d_ + 12)) rfl d_T_join_26 ?_
      refine zw_aload_n (pc := 27) (n := 3) (x := (d_ + 12)) rfl d_T_join_27 ?_
      refine zw_getF (pc := 28) f_T_146 rfl ((hf.w hW).kr (o := 12) (by decide)) ((hf.w hW).lr (o := 12) (s := 4) (r := 19) (by decide)) d_T_join_28 ?_
      refine zw_iload_n (pc := 31) (n := 1) (x := Int32.ofInt a0_) rfl d_T_join_31 ?_
      refine zk_atG hf.x (pc := 32) l_T_118 ((hf.w hW).kr (o := 19) (by decide)) ((hf.w hW).lr (o := 19) (s := 0) (r := 20) (by decide)) ((hf.w hW).rr (o := 20) (t := 1) (n := 27) (by decide)) (by decide) ⟨by omega, by omega⟩ (by decide) (Nat.le_of_ble_eq_true rfl) d_T_join_32 (fun v5_ hv5_ hv5_a hv5_b => ?_)
      clear hv5_
      refine zw_aload_n (pc := 35) (n := 3) (x := (d_ + 12)) rfl d_T_join_35 ?_
      refine zw_getF (pc := 36) f_T_146 rfl ((hf.w hW).kr (o := 12) (by decide)) ((hf.w hW).lr (o := 12) (s := 4) (r := 19) (by decide)) d_T_join_36 ?_
      refine zw_iload_n (pc := 39) (n := 2) (x := Int32.ofInt a1_) rfl d_T_join_39 ?_
      refine zk_atG hf.x (pc := 40) l_T_118 ((hf.w hW).kr (o := 19) (by decide)) ((hf.w hW).lr (o := 19) (s := 0) (r := 20) (by decide)) ((hf.w hW).rr (o := 20) (t := 1) (n := 27) (by decide)) (by decide) ⟨by omega, by omega⟩ (by decide) (Nat.le_of_ble_eq_true rfl) d_T_join_40 (fun v6_ hv6_ hv6_a hv6_b => ?_)
      clear hv6_
      refine zr_ior (pc := 43) d_T_join_43 ?_
      have hr7_ := zor_r v5_ v6_
      refine zr_nmI (fun v8_ hv8_ => ?_)
      obtain ⟨hv8_a, hv8_b⟩ := hv8_
      refine zk_callV hf.x (pc := 44) [.int (Int32.ofInt v8_)] [] l_T_140 (u_Sorts_spannedSortX l d_ Mz (hf.w hW) v8_ hv8_a hv8_b) rfl rfl ((hf.w hW).kr (o := 12) (by decide)) (by decide) (by decide) (Nat.le_of_ble_eq_true rfl) d_T_join_44 ?_
      rintro _ N9_ ⟨v10_, rfl, ⟨hv10_a, hv10_b⟩, hsN9_, -⟩
      have hf_N9_ : zFc d_ [] [] [] [11] Mz N9_ := hf.tr hsN9_ (by decide) (by decide) (by decide) (by decide)
      show zW l m_T_join (zn Mz + 0, zw Mz + 0) N9_ 47 [some (.ref 0), some (.int (Int32.ofInt a0_)), some (.int (Int32.ofInt a1_)), some (.ref (d_ + 12))] [.int (Int32.ofInt v10_)] (zqcI d_ [] [] [] [11] Mz (fun v N => True))
      exact zk_iret (pc := 47) (ty := .int) rfl rfl ⟨by omega, by omega⟩ hf_N9_ trivial d_T_join_47
    · skip
      refine zw_iconst (pc := 24) (v := Int32.ofInt (-1)) (by decide) d_T_join_24 ?_
      exact zk_iret (pc := 25) (ty := .int) rfl rfl ⟨by omega, by omega⟩ hf trivial d_T_join_25
set_option maxHeartbeats 4000000 in
theorem u_Group_countRepeatingX (l : Launch) (d_ : Nat) (Mz : zMem) (hW : zKW d_ Mz) (a0_ : Int) (ha0_a : -2147483648 ≤ a0_) (ha0_b : a0_ < 2147483648) : zC l m_Group_countRepeating 0 0 [.ref (d_ + 1), .int (Int32.ofInt a0_)] Mz (zqcI d_ [] [] [] [] Mz (fun v N => True)) := by
  refine zC_of (L0 := [some (.ref (d_ + 1)), some (.int (Int32.ofInt a0_)), none, none]) md_Group_countRepeating (Nat.le_of_ble_eq_true rfl) rfl ?_ zQ0
  have hf : zFc d_ [] [] [] [] Mz Mz := zFc.rf
  refine zw_iconst (pc := 0) (v := Int32.ofInt 0) (by decide) d_Group_countRepeating_0 ?_
  refine zw_istore_n (pc := 1) (i := 2) (L2 := [some (.ref (d_ + 1)), some (.int (Int32.ofInt a0_)), some (.int (Int32.ofInt 0)), none]) rfl (by decide) rfl d_Group_countRepeating_1 ?_
  refine zw_iconst (pc := 2) (v := Int32.ofInt 0) (by decide) d_Group_countRepeating_2 ?_
  refine zw_istore_n (pc := 3) (i := 3) (L2 := [some (.ref (d_ + 1)), some (.int (Int32.ofInt a0_)), some (.int (Int32.ofInt 0)), some (.int (Int32.ofInt 0))]) rfl (by decide) rfl d_Group_countRepeating_3 ?_
  have lp_4 : ∀ (n : Nat) (u1_ : Int) (hu1_a : -2147483648 ≤ u1_) (hu1_b : u1_ < 2147483648) (u2_ : Int) (hu2_a : -2147483648 ≤ u2_) (hu2_b : u2_ < 2147483648) (i3_ : 0 ≤ u2_), (ze Mz (d_ + 1) 7 - u2_).toNat < n → zW l m_Group_countRepeating (zn Mz + 0, zw Mz + 0) Mz 4 [some (.ref (d_ + 1)), some (.int (Int32.ofInt a0_)), some (.int (Int32.ofInt u1_)), some (.int (Int32.ofInt u2_))] [] (zqcI d_ [] [] [] [] Mz (fun v N => True)) := by
    intro n
    induction n with
    | zero =>
      intro u1_ hu1_a hu1_b u2_ hu2_a hu2_b i3_ h0
      exact absurd h0 (Nat.not_lt_zero _)
    | succ n ih_4 =>
      intro u1_ hu1_a hu1_b u2_ hu2_a hu2_b i3_ hlt_4
      refine zw_iload_n (pc := 4) (n := 3) (x := Int32.ofInt u2_) rfl d_Group_countRepeating_4 ?_
      refine zw_aload_n (pc := 5) (n := 0) (x := (d_ + 1)) rfl d_Group_countRepeating_5 ?_
      refine zk_getI (pc := 6) f_Group_39 rfl ((hf.w hW).kr (o := 1) (by decide)) d_Group_countRepeating_6 ?_
      have hr4_ := ze_r Mz (d_ + 1) 7
      refine zr_icmp_ge (pc := 9) (tgt := 30) ⟨hu2_a, hu2_b⟩ ⟨(ze_r Mz (d_ + 1) 7).1, (ze_r Mz (d_ + 1) 7).2⟩ (by decide) d_Group_countRepeating_9 (fun hc_9 => ?_) (fun hc_9 => ?_)
      · skip
        refine zw_iload_n (pc := 30) (n := 2) (x := Int32.ofInt u1_) rfl d_Group_countRepeating_30 ?_
        exact zk_iret (pc := 31) (ty := .int) rfl rfl ⟨by omega, by omega⟩ hf trivial d_Group_countRepeating_31
      · skip
        refine zw_aload_n (pc := 12) (n := 0) (x := (d_ + 1)) rfl d_Group_countRepeating_12 ?_
        refine zw_iload_n (pc := 13) (n := 3) (x := Int32.ofInt u2_) rfl d_Group_countRepeating_13 ?_
        refine zk_callV hf.x (pc := 14) [.int (Int32.ofInt u2_)] [] l_Group_70 (u_Group_repeatsOfX l d_ Mz (hf.w hW) u2_ hu2_a hu2_b) rfl rfl ((hf.w hW).kr (o := 1) (by decide)) (by decide) (by decide) (Nat.le_of_ble_eq_true rfl) d_Group_countRepeating_14 ?_
        rintro _ N5_ ⟨v6_, rfl, ⟨hv6_a, hv6_b⟩, hsN5_, -⟩
        obtain rfl := hsN5_.eq.symm
        show zW l m_Group_countRepeating (zn Mz + 0, zw Mz + 0) Mz 17 [some (.ref (d_ + 1)), some (.int (Int32.ofInt a0_)), some (.int (Int32.ofInt u1_)), some (.int (Int32.ofInt u2_))] [.int (Int32.ofInt v6_)] (zqcI d_ [] [] [] [] Mz (fun v N => True))
        refine zw_iload_n (pc := 17) (n := 1) (x := Int32.ofInt a0_) rfl d_Group_countRepeating_17 ?_
        refine zr_icmp_ne (pc := 18) (tgt := 24) ⟨hv6_a, hv6_b⟩ ⟨ha0_a, ha0_b⟩ (by decide) d_Group_countRepeating_18 (fun hc_18 => ?_) (fun hc_18 => ?_)
        · skip
          refine zr_iinc (pc := 24) (i := 3) (a := u2_) (n := 1) (L2 := [some (.ref (d_ + 1)), some (.int (Int32.ofInt a0_)), some (.int (Int32.ofInt u1_)), some (.int (Int32.ofInt (u2_ + 1)))]) rfl (by decide) rfl d_Group_countRepeating_24 ?_
          obtain ⟨v7_, hv7_a, hv7_b, hv7_e, hv7_d⟩ := zk_gen (u2_ + 1)
          rw [hv7_e]
          refine zw_goto (pc := 27) (tgt := 4) (by decide) d_Group_countRepeating_27 ?_
          exact ih_4 u1_ hu1_a hu1_b v7_ hv7_a hv7_b (show 0 ≤ v7_ by first | assumption | omega) (by omega)
        · skip
          refine zr_iinc (pc := 21) (i := 2) (a := u1_) (n := 1) (L2 := [some (.ref (d_ + 1)), some (.int (Int32.ofInt a0_)), some (.int (Int32.ofInt (u1_ + 1))), some (.int (Int32.ofInt u2_))]) rfl (by decide) rfl d_Group_countRepeating_21 ?_
          obtain ⟨v8_, hv8_a, hv8_b, hv8_e, hv8_d⟩ := zk_gen (u1_ + 1)
          rw [hv8_e]
          refine zr_iinc (pc := 24) (i := 3) (a := u2_) (n := 1) (L2 := [some (.ref (d_ + 1)), some (.int (Int32.ofInt a0_)), some (.int (Int32.ofInt v8_)), some (.int (Int32.ofInt (u2_ + 1)))]) rfl (by decide) rfl d_Group_countRepeating_24 ?_
          obtain ⟨v9_, hv9_a, hv9_b, hv9_e, hv9_d⟩ := zk_gen (u2_ + 1)
          rw [hv9_e]
          refine zw_goto (pc := 27) (tgt := 4) (by decide) d_Group_countRepeating_27 ?_
          exact ih_4 v8_ hv8_a hv8_b v9_ hv9_a hv9_b (show 0 ≤ v9_ by first | assumption | omega) (by omega)
  exact lp_4 _ 0 (by decide) (by decide) 0 (by decide) (by decide) (show 0 ≤ (0 : Int) by first | assumption | omega) (Nat.lt_succ_self _)
set_option maxHeartbeats 4000000 in
theorem u_T_ordersX (l : Launch) (d_ : Nat) (Mz : zMem) (hW : zKW d_ Mz) (hnow : zf Mz 0 2 = some (d_ + 0)) (a0_ : Int) (ha0_a : -2147483648 ≤ a0_) (ha0_b : a0_ < 2147483648) : zC l m_T_orders 0 0 [.ref 0, .int (Int32.ofInt a0_)] Mz (zqcI d_ [] [] [] [] Mz (fun v N => True)) := by
  refine zC_of (L0 := [some (.ref 0), some (.int (Int32.ofInt a0_))]) md_T_orders (Nat.le_of_ble_eq_true rfl) rfl ?_ zQ0
  have hf : zFc d_ [] [] [] [] Mz Mz := zFc.rf
  refine zw_iload_n (pc := 0) (n := 1) (x := Int32.ofInt a0_) rfl d_T_orders_0 ?_
  refine zw_iconst (pc := 1) (v := Int32.ofInt 1) (by decide) d_T_orders_1 ?_
  refine zr_icmp_lt (pc := 2) (tgt := 25) ⟨ha0_a, ha0_b⟩ ⟨(by decide), (by decide)⟩ (by decide) d_T_orders_2 (fun hc_2 => ?_) (fun hc_2 => ?_)
  · skip
    refine zw_iconst (pc := 25) (v := Int32.ofInt (-1)) (by decide) d_T_orders_25 ?_
    exact zk_iret (pc := 26) (ty := .int) rfl rfl ⟨by omega, by omega⟩ hf trivial d_T_orders_26
  · skip
    refine zw_iload_n (pc := 5) (n := 1) (x := Int32.ofInt a0_) rfl d_T_orders_5 ?_
    refine zw_bipush (pc := 6) (v := Int32.ofInt 24) (by decide) d_T_orders_6 ?_
    refine zr_icmp_gt (pc := 8) (tgt := 25) ⟨ha0_a, ha0_b⟩ ⟨(by decide), (by decide)⟩ (by decide) d_T_orders_8 (fun hc_8 => ?_) (fun hc_8 => ?_)
    · skip
      refine zw_iconst (pc := 25) (v := Int32.ofInt (-1)) (by decide) d_T_orders_25 ?_
      exact zk_iret (pc := 26) (ty := .int) rfl rfl ⟨by omega, by omega⟩ hf trivial d_T_orders_26
    · skip
      refine zw_aload_n (pc := 11) (n := 0) (x := 0) rfl d_T_orders_11 ?_
      refine zw_getF (pc := 12) f_T_28 rfl ((hf.w hW).ka (o := 0) (by decide)) (hf.now hnow) d_T_orders_12 ?_
      refine zw_getF (pc := 15) f_T_61 rfl ((hf.w hW).kr (o := 0) (by decide)) ((hf.w hW).lr (o := 0) (s := 0) (r := 1) (by decide)) d_T_orders_15 ?_
      refine zw_iload_n (pc := 18) (n := 1) (x := Int32.ofInt a0_) rfl d_T_orders_18 ?_
      refine zk_callV hf.x (pc := 19) [.int (Int32.ofInt a0_)] [] l_T_217 (u_Group_countRepeatingX l d_ Mz (hf.w hW) a0_ ha0_a ha0_b) rfl rfl ((hf.w hW).kr (o := 1) (by decide)) (by decide) (by decide) (Nat.le_of_ble_eq_true rfl) d_T_orders_19 ?_
      rintro _ N1_ ⟨v2_, rfl, ⟨hv2_a, hv2_b⟩, hsN1_, -⟩
      obtain rfl := hsN1_.eq.symm
      show zW l m_T_orders (zn Mz + 0, zw Mz + 0) Mz 22 [some (.ref 0), some (.int (Int32.ofInt a0_))] [.int (Int32.ofInt v2_)] (zqcI d_ [] [] [] [] Mz (fun v N => True))
      refine zw_goto (pc := 22) (tgt := 26) (by decide) d_T_orders_22 ?_
      exact zk_iret (pc := 26) (ty := .int) rfl rfl ⟨by omega, by omega⟩ hf trivial d_T_orders_26
set_option maxHeartbeats 4000000 in
theorem u_Group_countLikeX (l : Launch) (d_ : Nat) (Mz : zMem) (hW : zKW d_ Mz) (a0_ : Int) (ha0_a : -2147483648 ≤ a0_) (ha0_b : a0_ < 2147483648) : zC l m_Group_countLike 0 0 [.ref (d_ + 1), .int (Int32.ofInt a0_)] Mz (zqcI d_ [] [] [] [] Mz (fun v N => True)) := by
  refine zC_of (L0 := [some (.ref (d_ + 1)), some (.int (Int32.ofInt a0_)), none, none]) md_Group_countLike (Nat.le_of_ble_eq_true rfl) rfl ?_ zQ0
  have hf : zFc d_ [] [] [] [] Mz Mz := zFc.rf
  refine zw_iconst (pc := 0) (v := Int32.ofInt 0) (by decide) d_Group_countLike_0 ?_
  refine zw_istore_n (pc := 1) (i := 2) (L2 := [some (.ref (d_ + 1)), some (.int (Int32.ofInt a0_)), some (.int (Int32.ofInt 0)), none]) rfl (by decide) rfl d_Group_countLike_1 ?_
  refine zw_iconst (pc := 2) (v := Int32.ofInt 0) (by decide) d_Group_countLike_2 ?_
  refine zw_istore_n (pc := 3) (i := 3) (L2 := [some (.ref (d_ + 1)), some (.int (Int32.ofInt a0_)), some (.int (Int32.ofInt 0)), some (.int (Int32.ofInt 0))]) rfl (by decide) rfl d_Group_countLike_3 ?_
  have lp_4 : ∀ (n : Nat) (u1_ : Int) (hu1_a : -2147483648 ≤ u1_) (hu1_b : u1_ < 2147483648) (u2_ : Int) (hu2_a : -2147483648 ≤ u2_) (hu2_b : u2_ < 2147483648) (i3_ : 0 ≤ u2_), (ze Mz (d_ + 1) 7 - u2_).toNat < n → zW l m_Group_countLike (zn Mz + 0, zw Mz + 0) Mz 4 [some (.ref (d_ + 1)), some (.int (Int32.ofInt a0_)), some (.int (Int32.ofInt u1_)), some (.int (Int32.ofInt u2_))] [] (zqcI d_ [] [] [] [] Mz (fun v N => True)) := by
    intro n
    induction n with
    | zero =>
      intro u1_ hu1_a hu1_b u2_ hu2_a hu2_b i3_ h0
      exact absurd h0 (Nat.not_lt_zero _)
    | succ n ih_4 =>
      intro u1_ hu1_a hu1_b u2_ hu2_a hu2_b i3_ hlt_4
      refine zw_iload_n (pc := 4) (n := 3) (x := Int32.ofInt u2_) rfl d_Group_countLike_4 ?_
      refine zw_aload_n (pc := 5) (n := 0) (x := (d_ + 1)) rfl d_Group_countLike_5 ?_
      refine zk_getI (pc := 6) f_Group_39 rfl ((hf.w hW).kr (o := 1) (by decide)) d_Group_countLike_6 ?_
      have hr4_ := ze_r Mz (d_ + 1) 7
      refine zr_icmp_ge (pc := 9) (tgt := 29) ⟨hu2_a, hu2_b⟩ ⟨(ze_r Mz (d_ + 1) 7).1, (ze_r Mz (d_ + 1) 7).2⟩ (by decide) d_Group_countLike_9 (fun hc_9 => ?_) (fun hc_9 => ?_)
      · skip
        refine zw_iload_n (pc := 29) (n := 2) (x := Int32.ofInt u1_) rfl d_Group_countLike_29 ?_
        refine zr_callS hf.x (pc := 30) [.int (Int32.ofInt u1_)] [] l_Group_83 (u_Integer_bitCountX l d_ Mz (hf.w hW) u1_ hu1_a hu1_b) rfl rfl (by decide) (Nat.le_of_ble_eq_true rfl) d_Group_countLike_30 ?_
        rintro _ N5_ ⟨v6_, rfl, ⟨hv6_a, hv6_b⟩, hsN5_, ⟨hp0_N5_, hp1_N5_⟩⟩
        obtain rfl := hsN5_.eq.symm
        show zW l m_Group_countLike (zn Mz + 0, zw Mz + 0) Mz 33 [some (.ref (d_ + 1)), some (.int (Int32.ofInt a0_)), some (.int (Int32.ofInt u1_)), some (.int (Int32.ofInt u2_))] [.int (Int32.ofInt v6_)] (zqcI d_ [] [] [] [] Mz (fun v N => True))
        exact zk_iret (pc := 33) (ty := .int) rfl rfl ⟨by omega, by omega⟩ hf trivial d_Group_countLike_33
      · skip
        refine zw_iload_n (pc := 12) (n := 2) (x := Int32.ofInt u1_) rfl d_Group_countLike_12 ?_
        refine zw_iconst (pc := 13) (v := Int32.ofInt 1) (by decide) d_Group_countLike_13 ?_
        refine zw_aload_n (pc := 14) (n := 0) (x := (d_ + 1)) rfl d_Group_countLike_14 ?_
        refine zw_iload_n (pc := 15) (n := 1) (x := Int32.ofInt a0_) rfl d_Group_countLike_15 ?_
        refine zw_iload_n (pc := 16) (n := 3) (x := Int32.ofInt u2_) rfl d_Group_countLike_16 ?_
        refine zk_callV hf.x (pc := 17) [.int (Int32.ofInt a0_), .int (Int32.ofInt u2_)] [.int (Int32.ofInt 1), .int (Int32.ofInt u1_)] l_Group_77 (u_Group_turnX l d_ Mz (hf.w hW) a0_ ha0_a ha0_b u2_ hu2_a hu2_b) rfl rfl ((hf.w hW).kr (o := 1) (by decide)) (by decide) (by decide) (Nat.le_of_ble_eq_true rfl) d_Group_countLike_17 ?_
        rintro _ N7_ ⟨v8_, rfl, ⟨hv8_a, hv8_b⟩, hsN7_, -⟩
        obtain rfl := hsN7_.eq.symm
        show zW l m_Group_countLike (zn Mz + 0, zw Mz + 0) Mz 20 [some (.ref (d_ + 1)), some (.int (Int32.ofInt a0_)), some (.int (Int32.ofInt u1_)), some (.int (Int32.ofInt u2_))] [.int (Int32.ofInt v8_), .int (Int32.ofInt 1), .int (Int32.ofInt u1_)] (zqcI d_ [] [] [] [] Mz (fun v N => True))
        refine zr_ishl (pc := 20) d_Group_countLike_20 ?_
        have hr9_ := zshl_r 1 v8_
        refine zr_nmI (fun v10_ hv10_ => ?_)
        obtain ⟨hv10_a, hv10_b⟩ := hv10_
        refine zr_ior (pc := 21) d_Group_countLike_21 ?_
        have hr11_ := zor_r u1_ v10_
        refine zr_nmI (fun v12_ hv12_ => ?_)
        obtain ⟨hv12_a, hv12_b⟩ := hv12_
        refine zw_istore_n (pc := 22) (i := 2) (L2 := [some (.ref (d_ + 1)), some (.int (Int32.ofInt a0_)), some (.int (Int32.ofInt v12_)), some (.int (Int32.ofInt u2_))]) rfl (by decide) rfl d_Group_countLike_22 ?_
        refine zr_iinc (pc := 23) (i := 3) (a := u2_) (n := 1) (L2 := [some (.ref (d_ + 1)), some (.int (Int32.ofInt a0_)), some (.int (Int32.ofInt v12_)), some (.int (Int32.ofInt (u2_ + 1)))]) rfl (by decide) rfl d_Group_countLike_23 ?_
        obtain ⟨v13_, hv13_a, hv13_b, hv13_e, hv13_d⟩ := zk_gen (u2_ + 1)
        rw [hv13_e]
        refine zw_goto (pc := 26) (tgt := 4) (by decide) d_Group_countLike_26 ?_
        exact ih_4 v12_ hv12_a hv12_b v13_ hv13_a hv13_b (show 0 ≤ v13_ by first | assumption | omega) (by omega)
  exact lp_4 _ 0 (by decide) (by decide) 0 (by decide) (by decide) (show 0 ≤ (0 : Int) by first | assumption | omega) (Nat.lt_succ_self _)
set_option maxHeartbeats 4000000 in
theorem u_T_likesX (l : Launch) (d_ : Nat) (Mz : zMem) (hW : zKW d_ Mz) (hnow : zf Mz 0 2 = some (d_ + 0)) (a0_ : Int) (ha0_a : -2147483648 ≤ a0_) (ha0_b : a0_ < 2147483648) : zC l m_T_likes 0 0 [.ref 0, .int (Int32.ofInt a0_)] Mz (zqcI d_ [] [] [] [] Mz (fun v N => True)) := by
  refine zC_of (L0 := [some (.ref 0), some (.int (Int32.ofInt a0_))]) md_T_likes (Nat.le_of_ble_eq_true rfl) rfl ?_ zQ0
  have hf : zFc d_ [] [] [] [] Mz Mz := zFc.rf
  refine zw_aload_n (pc := 0) (n := 0) (x := 0) rfl d_T_likes_0 ?_
  refine zw_getF (pc := 1) f_T_28 rfl ((hf.w hW).ka (o := 0) (by decide)) (hf.now hnow) d_T_likes_1 ?_
  refine zw_getF (pc := 4) f_T_61 rfl ((hf.w hW).kr (o := 0) (by decide)) ((hf.w hW).lr (o := 0) (s := 0) (r := 1) (by decide)) d_T_likes_4 ?_
  refine zw_iload_n (pc := 7) (n := 1) (x := Int32.ofInt a0_) rfl d_T_likes_7 ?_
  refine zk_callV hf.x (pc := 8) [.int (Int32.ofInt a0_)] [] l_T_108 (u_Group_hasMemberX l d_ Mz (hf.w hW) a0_ ha0_a ha0_b) rfl rfl ((hf.w hW).kr (o := 1) (by decide)) (by decide) (by decide) (Nat.le_of_ble_eq_true rfl) d_T_likes_8 ?_
  rintro _ N1_ ⟨v2_, rfl, ⟨hv2_a, hv2_b⟩, hsN1_, hp0_N1_⟩
  obtain rfl := hsN1_.eq.symm
  replace hp0_N1_ : (v2_ = 0 ∨ v2_ = 1) := hp0_N1_
  show zW l m_T_likes (zn Mz + 0, zw Mz + 0) Mz 11 [some (.ref 0), some (.int (Int32.ofInt a0_))] [.int (Int32.ofInt v2_)] (zqcI d_ [] [] [] [] Mz (fun v N => True))
  refine zr_if_eq (pc := 11) (tgt := 28) ⟨hv2_a, hv2_b⟩ (by decide) d_T_likes_11 (fun hc_11 => ?_) (fun hc_11 => ?_)
  · skip
    refine zw_iconst (pc := 28) (v := Int32.ofInt (-1)) (by decide) d_T_likes_28 ?_
    exact zk_iret (pc := 29) (ty := .int) rfl rfl ⟨by omega, by omega⟩ hf trivial d_T_likes_29
  · skip
    refine zw_aload_n (pc := 14) (n := 0) (x := 0) rfl d_T_likes_14 ?_
    refine zw_getF (pc := 15) f_T_28 rfl ((hf.w hW).ka (o := 0) (by decide)) (hf.now hnow) d_T_likes_15 ?_
    refine zw_getF (pc := 18) f_T_61 rfl ((hf.w hW).kr (o := 0) (by decide)) ((hf.w hW).lr (o := 0) (s := 0) (r := 1) (by decide)) d_T_likes_18 ?_
    refine zw_iload_n (pc := 21) (n := 1) (x := Int32.ofInt a0_) rfl d_T_likes_21 ?_
    refine zk_callV hf.x (pc := 22) [.int (Int32.ofInt a0_)] [] l_T_220 (u_Group_countLikeX l d_ Mz (hf.w hW) a0_ ha0_a ha0_b) rfl rfl ((hf.w hW).kr (o := 1) (by decide)) (by decide) (by decide) (Nat.le_of_ble_eq_true rfl) d_T_likes_22 ?_
    rintro _ N3_ ⟨v4_, rfl, ⟨hv4_a, hv4_b⟩, hsN3_, -⟩
    obtain rfl := hsN3_.eq.symm
    show zW l m_T_likes (zn Mz + 0, zw Mz + 0) Mz 25 [some (.ref 0), some (.int (Int32.ofInt a0_))] [.int (Int32.ofInt v4_)] (zqcI d_ [] [] [] [] Mz (fun v N => True))
    refine zw_goto (pc := 25) (tgt := 29) (by decide) d_T_likes_25 ?_
    exact zk_iret (pc := 29) (ty := .int) rfl rfl ⟨by omega, by omega⟩ hf trivial d_T_likes_29
set_option maxHeartbeats 4000000 in
theorem u_T_greatestDivisorX (l : Launch) (d_ : Nat) (Mz : zMem) (hW : zKW d_ Mz) (a0_ : Int) (ha0_a : -2147483648 ≤ a0_) (ha0_b : a0_ < 2147483648) (a1_ : Int) (ha1_a : -2147483648 ≤ a1_) (ha1_b : a1_ < 2147483648) : zC l m_T_greatestDivisor 0 0 [.int (Int32.ofInt a0_), .int (Int32.ofInt a1_)] Mz (zqcI d_ [] [] [] [] Mz (fun v N => True)) := by
  refine zC_of (L0 := [some (.int (Int32.ofInt a0_)), some (.int (Int32.ofInt a1_)), none, none, none, none]) md_T_greatestDivisor (Nat.le_of_ble_eq_true rfl) rfl ?_ zQ0
  have hf : zFc d_ [] [] [] [] Mz Mz := zFc.rf
  refine zw_iload_n (pc := 0) (n := 0) (x := Int32.ofInt a0_) rfl d_T_greatestDivisor_0 ?_
  refine zw_istore_n (pc := 1) (i := 2) (L2 := [some (.int (Int32.ofInt a0_)), some (.int (Int32.ofInt a1_)), some (.int (Int32.ofInt a0_)), none, none, none]) rfl (by decide) rfl d_T_greatestDivisor_1 ?_
  refine zw_iload_n (pc := 2) (n := 1) (x := Int32.ofInt a1_) rfl d_T_greatestDivisor_2 ?_
  refine zw_istore_n (pc := 3) (i := 3) (L2 := [some (.int (Int32.ofInt a0_)), some (.int (Int32.ofInt a1_)), some (.int (Int32.ofInt a0_)), some (.int (Int32.ofInt a1_)), none, none]) rfl (by decide) rfl d_T_greatestDivisor_3 ?_
  refine zw_iconst (pc := 4) (v := Int32.ofInt 0) (by decide) d_T_greatestDivisor_4 ?_
  refine zw_istore (pc := 5) (i := 4) (L2 := [some (.int (Int32.ofInt a0_)), some (.int (Int32.ofInt a1_)), some (.int (Int32.ofInt a0_)), some (.int (Int32.ofInt a1_)), some (.int (Int32.ofInt 0)), none]) (by decide) rfl d_T_greatestDivisor_5 ?_
  have lp_7 : ∀ (n : Nat) (u1_ : Int) (hu1_a : -2147483648 ≤ u1_) (hu1_b : u1_ < 2147483648) (u2_ : Int) (hu2_a : -2147483648 ≤ u2_) (hu2_b : u2_ < 2147483648) (u3_ : Int) (hu3_a : -2147483648 ≤ u3_) (hu3_b : u3_ < 2147483648) (i4_ : 0 ≤ u3_), (100 - u3_).toNat < n → zW l m_T_greatestDivisor (zn Mz + 0, zw Mz + 0) Mz 7 [some (.int (Int32.ofInt a0_)), some (.int (Int32.ofInt a1_)), some (.int (Int32.ofInt u1_)), some (.int (Int32.ofInt u2_)), some (.int (Int32.ofInt u3_)), none] [] (zqcI d_ [] [] [] [] Mz (fun v N => True)) := by
    intro n
    induction n with
    | zero =>
      intro u1_ hu1_a hu1_b u2_ hu2_a hu2_b u3_ hu3_a hu3_b i4_ h0
      exact absurd h0 (Nat.not_lt_zero _)
    | succ n ih_7 =>
      intro u1_ hu1_a hu1_b u2_ hu2_a hu2_b u3_ hu3_a hu3_b i4_ hlt_7
      refine zw_iload (pc := 7) (i := 4) (x := Int32.ofInt u3_) rfl d_T_greatestDivisor_7 ?_
      refine zw_bipush (pc := 9) (v := Int32.ofInt 100) (by decide) d_T_greatestDivisor_9 ?_
      refine zr_icmp_ge (pc := 11) (tgt := 34) ⟨hu3_a, hu3_b⟩ ⟨(by decide), (by decide)⟩ (by decide) d_T_greatestDivisor_11 (fun hc_11 => ?_) (fun hc_11 => ?_)
      · skip
        refine zw_iload_n (pc := 34) (n := 2) (x := Int32.ofInt u1_) rfl d_T_greatestDivisor_34 ?_
        exact zk_iret (pc := 35) (ty := .int) rfl rfl ⟨by omega, by omega⟩ hf trivial d_T_greatestDivisor_35
      · skip
        refine zw_iload_n (pc := 14) (n := 3) (x := Int32.ofInt u2_) rfl d_T_greatestDivisor_14 ?_
        refine zr_if_eq (pc := 15) (tgt := 34) ⟨hu2_a, hu2_b⟩ (by decide) d_T_greatestDivisor_15 (fun hc_15 => ?_) (fun hc_15 => ?_)
        · skip
          refine zw_iload_n (pc := 34) (n := 2) (x := Int32.ofInt u1_) rfl d_T_greatestDivisor_34 ?_
          exact zk_iret (pc := 35) (ty := .int) rfl rfl ⟨by omega, by omega⟩ hf trivial d_T_greatestDivisor_35
        · skip
          refine zw_iload_n (pc := 18) (n := 2) (x := Int32.ofInt u1_) rfl d_T_greatestDivisor_18 ?_
          refine zw_iload_n (pc := 19) (n := 3) (x := Int32.ofInt u2_) rfl d_T_greatestDivisor_19 ?_
          refine zr_irem (pc := 20) ⟨by omega, by omega⟩ (by omega) d_T_greatestDivisor_20 ?_
          have hr5_ := zrem_r u1_ u2_
          refine zr_nmI (fun v6_ hv6_ => ?_)
          obtain ⟨hv6_a, hv6_b⟩ := hv6_
          refine zw_istore (pc := 21) (i := 5) (L2 := [some (.int (Int32.ofInt a0_)), some (.int (Int32.ofInt a1_)), some (.int (Int32.ofInt u1_)), some (.int (Int32.ofInt u2_)), some (.int (Int32.ofInt u3_)), some (.int (Int32.ofInt v6_))]) (by decide) rfl d_T_greatestDivisor_21 ?_
          refine zw_iload_n (pc := 23) (n := 3) (x := Int32.ofInt u2_) rfl d_T_greatestDivisor_23 ?_
          refine zw_istore_n (pc := 24) (i := 2) (L2 := [some (.int (Int32.ofInt a0_)), some (.int (Int32.ofInt a1_)), some (.int (Int32.ofInt u2_)), some (.int (Int32.ofInt u2_)), some (.int (Int32.ofInt u3_)), some (.int (Int32.ofInt v6_))]) rfl (by decide) rfl d_T_greatestDivisor_24 ?_
          refine zw_iload (pc := 25) (i := 5) (x := Int32.ofInt v6_) rfl d_T_greatestDivisor_25 ?_
          refine zw_istore_n (pc := 27) (i := 3) (L2 := [some (.int (Int32.ofInt a0_)), some (.int (Int32.ofInt a1_)), some (.int (Int32.ofInt u2_)), some (.int (Int32.ofInt v6_)), some (.int (Int32.ofInt u3_)), some (.int (Int32.ofInt v6_))]) rfl (by decide) rfl d_T_greatestDivisor_27 ?_
          refine zr_iinc (pc := 28) (i := 4) (a := u3_) (n := 1) (L2 := [some (.int (Int32.ofInt a0_)), some (.int (Int32.ofInt a1_)), some (.int (Int32.ofInt u2_)), some (.int (Int32.ofInt v6_)), some (.int (Int32.ofInt (u3_ + 1))), some (.int (Int32.ofInt v6_))]) rfl (by decide) rfl d_T_greatestDivisor_28 ?_
          obtain ⟨v7_, hv7_a, hv7_b, hv7_e, hv7_d⟩ := zk_gen (u3_ + 1)
          rw [hv7_e]
          refine zw_goto (pc := 31) (tgt := 7) (by decide) d_T_greatestDivisor_31 ?_
          refine zW_le [some (.int (Int32.ofInt a0_)), some (.int (Int32.ofInt a1_)), some (.int (Int32.ofInt u2_)), some (.int (Int32.ofInt v6_)), some (.int (Int32.ofInt v7_)), none] (⟨rfl, rfl, rfl, rfl, rfl, trivial⟩) ?_
          exact ih_7 u2_ hu2_a hu2_b v6_ hv6_a hv6_b v7_ hv7_a hv7_b (show 0 ≤ v7_ by first | assumption | omega) (by omega)
  exact lp_7 _ a0_ ha0_a ha0_b a1_ ha1_a ha1_b 0 (by decide) (by decide) (show 0 ≤ (0 : Int) by first | assumption | omega) (Nat.lt_succ_self _)
set_option maxHeartbeats 4000000 in
theorem u_Sums_putScaledX (l : Launch) (d_ : Nat) (Mz : zMem) (hW : zKW d_ Mz) (a0_ : Int) (ha0_a : -2147483648 ≤ a0_) (ha0_b : a0_ < 2147483648) (a1_ : Int) (ha1_a : -2147483648 ≤ a1_) (ha1_b : a1_ < 2147483648) : zC l m_Sums_putScaled 0 0 [.ref (d_ + 23), .int (Int32.ofInt a0_), .int (Int32.ofInt a1_)] Mz (zqcV d_ [] [] [] [25, 27] Mz (fun N => True)) := by
  refine zC_of (L0 := [some (.ref (d_ + 23)), some (.int (Int32.ofInt a0_)), some (.int (Int32.ofInt a1_)), none]) md_Sums_putScaled (Nat.le_of_ble_eq_true rfl) rfl ?_ zQ0
  have hf : zFc d_ [] [] [] [25, 27] Mz Mz := zFc.rf
  refine zw_iconst (pc := 0) (v := Int32.ofInt 0) (by decide) d_Sums_putScaled_0 ?_
  refine zw_istore_n (pc := 1) (i := 3) (L2 := [some (.ref (d_ + 23)), some (.int (Int32.ofInt a0_)), some (.int (Int32.ofInt a1_)), some (.int (Int32.ofInt 0))]) rfl (by decide) rfl d_Sums_putScaled_1 ?_
  have lp_2 : ∀ (n : Nat) (u1_ : Int) (hu1_a : -2147483648 ≤ u1_) (hu1_b : u1_ < 2147483648) (N2_ : zMem) (hs3_ : zFc d_ [] [] [] [27] Mz N2_) (i4_ : 0 ≤ u1_), (ze Mz (d_ + 12) 7 - u1_).toNat < n → zW l m_Sums_putScaled (zn Mz + 0, zw Mz + 0) N2_ 2 [some (.ref (d_ + 23)), some (.int (Int32.ofInt a0_)), some (.int (Int32.ofInt a1_)), some (.int (Int32.ofInt u1_))] [] (zqcV d_ [] [] [] [25, 27] Mz (fun N => True)) := by
    intro n
    induction n with
    | zero =>
      intro u1_ hu1_a hu1_b N2_ hs3_ i4_ h0
      exact absurd h0 (Nat.not_lt_zero _)
    | succ n ih_2 =>
      intro u1_ hu1_a hu1_b N2_ hs3_ i4_ hlt_2
      have hf_N2_ : zFc d_ [] [] [] [25, 27] Mz N2_ := hf.tr hs3_ (by decide) (by decide) (by decide) (by decide)
      refine zw_iload_n (pc := 2) (n := 3) (x := Int32.ofInt u1_) rfl d_Sums_putScaled_2 ?_
      refine zw_aload_n (pc := 3) (n := 0) (x := (d_ + 23)) rfl d_Sums_putScaled_3 ?_
      refine zw_getF (pc := 4) f_Sums_23 rfl ((hf_N2_.w hW).kr (o := 23) (by decide)) ((hf_N2_.w hW).lr (o := 23) (s := 0) (r := 12) (by decide)) d_Sums_putScaled_4 ?_
      refine zk_getI (pc := 7) f_Sums_35 rfl ((hf_N2_.w hW).kr (o := 12) (by decide)) d_Sums_putScaled_7 ?_
      rw [hf_N2_.e (by decide)]
      have hr5_ := ze_r Mz (d_ + 12) 7
      refine zr_icmp_ge (pc := 10) (tgt := 41) ⟨hu1_a, hu1_b⟩ ⟨(ze_r Mz (d_ + 12) 7).1, (ze_r Mz (d_ + 12) 7).2⟩ (by decide) d_Sums_putScaled_10 (fun hc_10 => ?_) (fun hc_10 => ?_)
      · skip
        refine zw_aload_n (pc := 41) (n := 0) (x := (d_ + 23)) rfl d_Sums_putScaled_41 ?_
        refine zw_bipush (pc := 42) (v := Int32.ofInt 39) (by decide) d_Sums_putScaled_42 ?_
        refine zk_callV hf_N2_.x (pc := 44) [.int (Int32.ofInt 39)] [] l_Sums_58 (u_Sums_solveX l d_ N2_ (hf_N2_.w hW) 39 (by decide) (by decide)) rfl rfl ((hf_N2_.w hW).kr (o := 23) (by decide)) (by decide) (by decide) (Nat.le_of_ble_eq_true rfl) d_Sums_putScaled_44 ?_
        rintro _ N6_ ⟨rfl, hsN6_, -⟩
        have hf_N6_ : zFc d_ [] [] [] [25, 27] Mz N6_ := hf_N2_.tr hsN6_ (by decide) (by decide) (by decide) (by decide)
        show zW l m_Sums_putScaled (zn Mz + 0, zw Mz + 0) N6_ 47 [some (.ref (d_ + 23)), some (.int (Int32.ofInt a0_)), some (.int (Int32.ofInt a1_)), some (.int (Int32.ofInt u1_))] [] (zqcV d_ [] [] [] [25, 27] Mz (fun N => True))
        exact zk_vret (pc := 47) rfl hf_N6_ trivial d_Sums_putScaled_47
      · skip
        refine zw_aload_n (pc := 13) (n := 0) (x := (d_ + 23)) rfl d_Sums_putScaled_13 ?_
        refine zw_getF (pc := 14) f_Sums_20 rfl ((hf_N2_.w hW).kr (o := 23) (by decide)) ((hf_N2_.w hW).lr (o := 23) (s := 2) (r := 26) (by decide)) d_Sums_putScaled_14 ?_
        refine zw_iload_n (pc := 17) (n := 3) (x := Int32.ofInt u1_) rfl d_Sums_putScaled_17 ?_
        refine zw_iload_n (pc := 18) (n := 1) (x := Int32.ofInt a0_) rfl d_Sums_putScaled_18 ?_
        refine zw_iload_n (pc := 19) (n := 3) (x := Int32.ofInt u1_) rfl d_Sums_putScaled_19 ?_
        refine zr_callS hf_N2_.x (pc := 20) [.int (Int32.ofInt a0_), .int (Int32.ofInt u1_)] [.int (Int32.ofInt u1_), .ref (d_ + 26)] l_Sums_61 (u_T_isInX l d_ N2_ (hf_N2_.w hW) a0_ ha0_a ha0_b u1_ hu1_a hu1_b) rfl rfl (by decide) (Nat.le_of_ble_eq_true rfl) d_Sums_putScaled_20 ?_
        rintro _ N8_ ⟨v9_, rfl, ⟨hv9_a, hv9_b⟩, hsN8_, hp0_N8_⟩
        obtain rfl := hsN8_.eq.symm
        replace hp0_N8_ : (v9_ = 0 ∨ v9_ = 1) := hp0_N8_
        show zW l m_Sums_putScaled (zn Mz + 0, zw Mz + 0) N2_ 23 [some (.ref (d_ + 23)), some (.int (Int32.ofInt a0_)), some (.int (Int32.ofInt a1_)), some (.int (Int32.ofInt u1_))] [.int (Int32.ofInt v9_), .int (Int32.ofInt u1_), .ref (d_ + 26)] (zqcV d_ [] [] [] [25, 27] Mz (fun N => True))
        refine zr_if_eq (pc := 23) (tgt := 31) ⟨hv9_a, hv9_b⟩ (by decide) d_Sums_putScaled_23 (fun hc_23 => ?_) (fun hc_23 => ?_)
        · skip
          refine zw_lconst (pc := 31) (v := Int64.ofInt 0) (by decide) d_Sums_putScaled_31 ?_
          refine zk_stGJ hf_N2_.x (pc := 32) (o := 27) (by decide) l_Sums_31 ((hf_N2_.w hW).kr (o := 26) (by decide)) ((hf_N2_.w hW).lr (o := 26) (s := 0) (r := 27) (by decide)) ((hf_N2_.w hW).rr (o := 27) (t := 2) (n := 27) (by decide)) (by decide) ⟨by omega, by omega⟩ (by decide) (Nat.le_of_ble_eq_true rfl) d_Sums_putScaled_32 (fun N10_ hsN10_ => ?_)
          have hf_N10_ : zFc d_ [] [] [] [25, 27] Mz N10_ := hf_N2_.tr hsN10_ (by decide) (by decide) (by decide) (by decide)
          have hb0_N10_ : zFc d_ [] [] [] [27] Mz N10_ := hs3_.tr hsN10_ (by decide) (by decide) (by decide) (by decide)
          refine zr_iinc (pc := 35) (i := 3) (a := u1_) (n := 1) (L2 := [some (.ref (d_ + 23)), some (.int (Int32.ofInt a0_)), some (.int (Int32.ofInt a1_)), some (.int (Int32.ofInt (u1_ + 1)))]) rfl (by decide) rfl d_Sums_putScaled_35 ?_
          obtain ⟨v11_, hv11_a, hv11_b, hv11_e, hv11_d⟩ := zk_gen (u1_ + 1)
          rw [hv11_e]
          refine zw_goto (pc := 38) (tgt := 2) (by decide) d_Sums_putScaled_38 ?_
          exact ih_2 v11_ hv11_a hv11_b N10_ hb0_N10_ (show 0 ≤ v11_ by first | assumption | omega) (by omega)
        · skip
          refine zw_iload_n (pc := 26) (n := 2) (x := Int32.ofInt a1_) rfl d_Sums_putScaled_26 ?_
          refine zr_i2l (pc := 27) ⟨ha1_a, ha1_b⟩ d_Sums_putScaled_27 ?_
          refine zw_goto (pc := 28) (tgt := 32) (by decide) d_Sums_putScaled_28 ?_
          refine zk_stGJ hf_N2_.x (pc := 32) (o := 27) (by decide) l_Sums_31 ((hf_N2_.w hW).kr (o := 26) (by decide)) ((hf_N2_.w hW).lr (o := 26) (s := 0) (r := 27) (by decide)) ((hf_N2_.w hW).rr (o := 27) (t := 2) (n := 27) (by decide)) (by decide) ⟨by omega, by omega⟩ (by decide) (Nat.le_of_ble_eq_true rfl) d_Sums_putScaled_32 (fun N12_ hsN12_ => ?_)
          have hf_N12_ : zFc d_ [] [] [] [25, 27] Mz N12_ := hf_N2_.tr hsN12_ (by decide) (by decide) (by decide) (by decide)
          have hb0_N12_ : zFc d_ [] [] [] [27] Mz N12_ := hs3_.tr hsN12_ (by decide) (by decide) (by decide) (by decide)
          refine zr_iinc (pc := 35) (i := 3) (a := u1_) (n := 1) (L2 := [some (.ref (d_ + 23)), some (.int (Int32.ofInt a0_)), some (.int (Int32.ofInt a1_)), some (.int (Int32.ofInt (u1_ + 1)))]) rfl (by decide) rfl d_Sums_putScaled_35 ?_
          obtain ⟨v13_, hv13_a, hv13_b, hv13_e, hv13_d⟩ := zk_gen (u1_ + 1)
          rw [hv13_e]
          refine zw_goto (pc := 38) (tgt := 2) (by decide) d_Sums_putScaled_38 ?_
          exact ih_2 v13_ hv13_a hv13_b N12_ hb0_N12_ (show 0 ≤ v13_ by first | assumption | omega) (by omega)
  exact lp_2 _ 0 (by decide) (by decide) Mz zFc.rf (show 0 ≤ (0 : Int) by first | assumption | omega) (Nat.lt_succ_self _)
set_option maxHeartbeats 4000000 in
theorem u_T_peakPartX (l : Launch) (d_ : Nat) (Mz : zMem) (hW : zKW d_ Mz) (hnow : zf Mz 0 2 = some (d_ + 0)) (a0_ : Int) (ha0_a : -2147483648 ≤ a0_) (ha0_b : a0_ < 2147483648) (a1_ : Int) (ha1_a : -2147483648 ≤ a1_) (ha1_b : a1_ < 2147483648) (a2_ : Int) (ha2_a : -2147483648 ≤ a2_) (ha2_b : a2_ < 2147483648) : zC l m_T_peakPart 0 0 [.ref 0, .int (Int32.ofInt a0_), .int (Int32.ofInt a1_), .int (Int32.ofInt a2_)] Mz (zqcI d_ [] [] [] [25, 27] Mz (fun v N => True)) := by
  refine zC_of (L0 := [some (.ref 0), some (.int (Int32.ofInt a0_)), some (.int (Int32.ofInt a1_)), some (.int (Int32.ofInt a2_)), none, none, none]) md_T_peakPart (Nat.le_of_ble_eq_true rfl) rfl ?_ zQ0
  have hf : zFc d_ [] [] [] [25, 27] Mz Mz := zFc.rf
  refine zw_iload_n (pc := 0) (n := 3) (x := Int32.ofInt a2_) rfl d_T_peakPart_0 ?_
  refine zr_if_eq (pc := 1) (tgt := 12) ⟨ha2_a, ha2_b⟩ (by decide) d_T_peakPart_1 (fun hc_1 => ?_) (fun hc_1 => ?_)
  · skip
    refine zw_aload_n (pc := 12) (n := 0) (x := 0) rfl d_T_peakPart_12 ?_
    refine zw_getF (pc := 13) f_T_28 rfl ((hf.w hW).ka (o := 0) (by decide)) (hf.now hnow) d_T_peakPart_13 ?_
    refine zw_getF (pc := 16) f_T_61 rfl ((hf.w hW).kr (o := 0) (by decide)) ((hf.w hW).lr (o := 0) (s := 0) (r := 1) (by decide)) d_T_peakPart_16 ?_
    refine zk_getI (pc := 19) f_T_65 rfl ((hf.w hW).kr (o := 1) (by decide)) d_T_peakPart_19 ?_
    have hr1_ := ze_r Mz (d_ + 1) 7
    refine zw_istore (pc := 22) (i := 4) (L2 := [some (.ref 0), some (.int (Int32.ofInt a0_)), some (.int (Int32.ofInt a1_)), some (.int (Int32.ofInt a2_)), some (.int (Int32.ofInt (ze Mz (d_ + 1) 7))), none, none]) (by decide) rfl d_T_peakPart_22 ?_
    refine zw_aload_n (pc := 24) (n := 0) (x := 0) rfl d_T_peakPart_24 ?_
    refine zw_getF (pc := 25) f_T_28 rfl ((hf.w hW).ka (o := 0) (by decide)) (hf.now hnow) d_T_peakPart_25 ?_
    refine zw_getF (pc := 28) f_T_169 rfl ((hf.w hW).kr (o := 0) (by decide)) ((hf.w hW).lr (o := 0) (s := 2) (r := 23) (by decide)) d_T_peakPart_28 ?_
    refine zw_iload_n (pc := 31) (n := 1) (x := Int32.ofInt a0_) rfl d_T_peakPart_31 ?_
    refine zw_iload (pc := 32) (i := 4) (x := Int32.ofInt (ze Mz (d_ + 1) 7)) rfl d_T_peakPart_32 ?_
    refine zk_callV hf.x (pc := 34) [.int (Int32.ofInt a0_), .int (Int32.ofInt (ze Mz (d_ + 1) 7))] [] l_T_317 (u_Sums_putScaledX l d_ Mz (hf.w hW) a0_ ha0_a ha0_b (ze Mz (d_ + 1) 7) (ze_r Mz (d_ + 1) 7).1 (ze_r Mz (d_ + 1) 7).2) rfl rfl ((hf.w hW).kr (o := 23) (by decide)) (by decide) (by decide) (Nat.le_of_ble_eq_true rfl) d_T_peakPart_34 ?_
    rintro _ N2_ ⟨rfl, hsN2_, -⟩
    have hf_N2_ : zFc d_ [] [] [] [25, 27] Mz N2_ := hf.tr hsN2_ (by decide) (by decide) (by decide) (by decide)
    show zW l m_T_peakPart (zn Mz + 0, zw Mz + 0) N2_ 37 [some (.ref 0), some (.int (Int32.ofInt a0_)), some (.int (Int32.ofInt a1_)), some (.int (Int32.ofInt a2_)), some (.int (Int32.ofInt (ze Mz (d_ + 1) 7))), none, none] [] (zqcI d_ [] [] [] [25, 27] Mz (fun v N => True))
    refine zw_aload_n (pc := 37) (n := 0) (x := 0) rfl d_T_peakPart_37 ?_
    refine zw_getF (pc := 38) f_T_28 rfl ((hf_N2_.w hW).ka (o := 0) (by decide)) (hf_N2_.now hnow) d_T_peakPart_38 ?_
    refine zw_getF (pc := 41) f_T_169 rfl ((hf_N2_.w hW).kr (o := 0) (by decide)) ((hf_N2_.w hW).lr (o := 0) (s := 2) (r := 23) (by decide)) d_T_peakPart_41 ?_
    refine zw_bipush (pc := 44) (v := Int32.ofInt 39) (by decide) d_T_peakPart_44 ?_
    refine zw_iload_n (pc := 46) (n := 2) (x := Int32.ofInt a1_) rfl d_T_peakPart_46 ?_
    refine zk_callV hf_N2_.x (pc := 47) [.int (Int32.ofInt 39), .int (Int32.ofInt a1_)] [] l_T_179 (u_Sums_numberAtX l d_ N2_ (hf_N2_.w hW) 39 (by decide) (by decide) a1_ ha1_a ha1_b) rfl rfl ((hf_N2_.w hW).kr (o := 23) (by decide)) (by decide) (by decide) (Nat.le_of_ble_eq_true rfl) d_T_peakPart_47 ?_
    rintro _ N4_ ⟨v5_, rfl, ⟨hv5_a, hv5_b⟩, hsN4_, -⟩
    obtain rfl := hsN4_.eq.symm
    show zW l m_T_peakPart (zn Mz + 0, zw Mz + 0) N2_ 50 [some (.ref 0), some (.int (Int32.ofInt a0_)), some (.int (Int32.ofInt a1_)), some (.int (Int32.ofInt a2_)), some (.int (Int32.ofInt (ze Mz (d_ + 1) 7))), none, none] [.long (Int64.ofInt v5_)] (zqcI d_ [] [] [] [25, 27] Mz (fun v N => True))
    refine zr_l2i (pc := 50) d_T_peakPart_50 ?_
    refine zr_nmI (fun v6_ hv6_ => ?_)
    obtain ⟨hv6_a, hv6_b⟩ := hv6_
    refine zw_istore (pc := 51) (i := 5) (L2 := [some (.ref 0), some (.int (Int32.ofInt a0_)), some (.int (Int32.ofInt a1_)), some (.int (Int32.ofInt a2_)), some (.int (Int32.ofInt (ze Mz (d_ + 1) 7))), some (.int (Int32.ofInt v6_)), none]) (by decide) rfl d_T_peakPart_51 ?_
    refine zw_iload (pc := 53) (i := 4) (x := Int32.ofInt (ze Mz (d_ + 1) 7)) rfl d_T_peakPart_53 ?_
    refine zw_iload (pc := 55) (i := 5) (x := Int32.ofInt v6_) rfl d_T_peakPart_55 ?_
    refine zk_mabs (pc := 57) x_T_320 (by decide) (Nat.le_of_ble_eq_true rfl) d_T_peakPart_57 ⟨hv6_a, hv6_b⟩ (fun v7_ hv7_ hv7_e => ?_)
    obtain ⟨hv7_a, hv7_b⟩ := hv7_
    refine zr_callS hf_N2_.x (pc := 60) [.int (Int32.ofInt (ze Mz (d_ + 1) 7)), .int (Int32.ofInt v7_)] [] l_T_325 (u_T_greatestDivisorX l d_ N2_ (hf_N2_.w hW) (ze Mz (d_ + 1) 7) (ze_r Mz (d_ + 1) 7).1 (ze_r Mz (d_ + 1) 7).2 v7_ hv7_a hv7_b) rfl rfl (by decide) (Nat.le_of_ble_eq_true rfl) d_T_peakPart_60 ?_
    rintro _ N8_ ⟨v9_, rfl, ⟨hv9_a, hv9_b⟩, hsN8_, -⟩
    obtain rfl := hsN8_.eq.symm
    show zW l m_T_peakPart (zn Mz + 0, zw Mz + 0) N2_ 63 [some (.ref 0), some (.int (Int32.ofInt a0_)), some (.int (Int32.ofInt a1_)), some (.int (Int32.ofInt a2_)), some (.int (Int32.ofInt (ze Mz (d_ + 1) 7))), some (.int (Int32.ofInt v6_)), none] [.int (Int32.ofInt v9_)] (zqcI d_ [] [] [] [25, 27] Mz (fun v N => True))
    refine zw_istore (pc := 63) (i := 6) (L2 := [some (.ref 0), some (.int (Int32.ofInt a0_)), some (.int (Int32.ofInt a1_)), some (.int (Int32.ofInt a2_)), some (.int (Int32.ofInt (ze Mz (d_ + 1) 7))), some (.int (Int32.ofInt v6_)), some (.int (Int32.ofInt v9_))]) (by decide) rfl d_T_peakPart_63 ?_
    refine zw_iload (pc := 65) (i := 6) (x := Int32.ofInt v9_) rfl d_T_peakPart_65 ?_
    refine zr_if_ne (pc := 67) (tgt := 73) ⟨hv9_a, hv9_b⟩ (by decide) d_T_peakPart_67 (fun hc_67 => ?_) (fun hc_67 => ?_)
    · skip
      refine zw_iload_n (pc := 73) (n := 3) (x := Int32.ofInt a2_) rfl d_T_peakPart_73 ?_
      refine zr_if_ne (pc := 74) (tgt := 85) ⟨ha2_a, ha2_b⟩ (by decide) d_T_peakPart_74 (fun hc_74 => ?_) (fun hc_74 => ?_)
      · skip
        refine zw_iload (pc := 85) (i := 4) (x := Int32.ofInt (ze Mz (d_ + 1) 7)) rfl d_T_peakPart_85 ?_
        refine zw_iload (pc := 87) (i := 6) (x := Int32.ofInt v9_) rfl d_T_peakPart_87 ?_
        refine zr_idiv (pc := 89) ⟨by omega, by omega⟩ (by omega) d_T_peakPart_89 ?_
        have hr10_ := zquo_r (ze Mz (d_ + 1) 7) v9_
        refine zr_nmI (fun v11_ hv11_ => ?_)
        obtain ⟨hv11_a, hv11_b⟩ := hv11_
        exact zk_iret (pc := 90) (ty := .int) rfl rfl ⟨by omega, by omega⟩ hf_N2_ trivial d_T_peakPart_90
      · skip
        refine zw_iload (pc := 77) (i := 5) (x := Int32.ofInt v6_) rfl d_T_peakPart_77 ?_
        refine zw_iload (pc := 79) (i := 6) (x := Int32.ofInt v9_) rfl d_T_peakPart_79 ?_
        refine zr_idiv (pc := 81) ⟨by omega, by omega⟩ (by omega) d_T_peakPart_81 ?_
        have hr12_ := zquo_r v6_ v9_
        refine zr_nmI (fun v13_ hv13_ => ?_)
        obtain ⟨hv13_a, hv13_b⟩ := hv13_
        refine zw_goto (pc := 82) (tgt := 90) (by decide) d_T_peakPart_82 ?_
        exact zk_iret (pc := 90) (ty := .int) rfl rfl ⟨by omega, by omega⟩ hf_N2_ trivial d_T_peakPart_90
    · skip
      refine zw_ldc (pc := 70) (v := Int32.ofInt (-1000000)) (by rw [show Int32.ofInt (-1000000) = ((-1000000) : Int32) by decide]; exact k_T_204) d_T_peakPart_70 ?_
      exact zk_iret (pc := 72) (ty := .int) rfl rfl ⟨by omega, by omega⟩ hf_N2_ trivial d_T_peakPart_72
  · skip
    refine zw_iload_n (pc := 4) (n := 3) (x := Int32.ofInt a2_) rfl d_T_peakPart_4 ?_
    refine zw_iconst (pc := 5) (v := Int32.ofInt 1) (by decide) d_T_peakPart_5 ?_
    refine zr_icmp_eq (pc := 6) (tgt := 12) ⟨ha2_a, ha2_b⟩ ⟨(by decide), (by decide)⟩ (by decide) d_T_peakPart_6 (fun hc_6 => ?_) (fun hc_6 => ?_)
    · skip
      refine zw_aload_n (pc := 12) (n := 0) (x := 0) rfl d_T_peakPart_12 ?_
      refine zw_getF (pc := 13) f_T_28 rfl ((hf.w hW).ka (o := 0) (by decide)) (hf.now hnow) d_T_peakPart_13 ?_
      refine zw_getF (pc := 16) f_T_61 rfl ((hf.w hW).kr (o := 0) (by decide)) ((hf.w hW).lr (o := 0) (s := 0) (r := 1) (by decide)) d_T_peakPart_16 ?_
      refine zk_getI (pc := 19) f_T_65 rfl ((hf.w hW).kr (o := 1) (by decide)) d_T_peakPart_19 ?_
      have hr14_ := ze_r Mz (d_ + 1) 7
      refine zw_istore (pc := 22) (i := 4) (L2 := [some (.ref 0), some (.int (Int32.ofInt a0_)), some (.int (Int32.ofInt a1_)), some (.int (Int32.ofInt a2_)), some (.int (Int32.ofInt (ze Mz (d_ + 1) 7))), none, none]) (by decide) rfl d_T_peakPart_22 ?_
      refine zw_aload_n (pc := 24) (n := 0) (x := 0) rfl d_T_peakPart_24 ?_
      refine zw_getF (pc := 25) f_T_28 rfl ((hf.w hW).ka (o := 0) (by decide)) (hf.now hnow) d_T_peakPart_25 ?_
      refine zw_getF (pc := 28) f_T_169 rfl ((hf.w hW).kr (o := 0) (by decide)) ((hf.w hW).lr (o := 0) (s := 2) (r := 23) (by decide)) d_T_peakPart_28 ?_
      refine zw_iload_n (pc := 31) (n := 1) (x := Int32.ofInt a0_) rfl d_T_peakPart_31 ?_
      refine zw_iload (pc := 32) (i := 4) (x := Int32.ofInt (ze Mz (d_ + 1) 7)) rfl d_T_peakPart_32 ?_
      refine zk_callV hf.x (pc := 34) [.int (Int32.ofInt a0_), .int (Int32.ofInt (ze Mz (d_ + 1) 7))] [] l_T_317 (u_Sums_putScaledX l d_ Mz (hf.w hW) a0_ ha0_a ha0_b (ze Mz (d_ + 1) 7) (ze_r Mz (d_ + 1) 7).1 (ze_r Mz (d_ + 1) 7).2) rfl rfl ((hf.w hW).kr (o := 23) (by decide)) (by decide) (by decide) (Nat.le_of_ble_eq_true rfl) d_T_peakPart_34 ?_
      rintro _ N15_ ⟨rfl, hsN15_, -⟩
      have hf_N15_ : zFc d_ [] [] [] [25, 27] Mz N15_ := hf.tr hsN15_ (by decide) (by decide) (by decide) (by decide)
      show zW l m_T_peakPart (zn Mz + 0, zw Mz + 0) N15_ 37 [some (.ref 0), some (.int (Int32.ofInt a0_)), some (.int (Int32.ofInt a1_)), some (.int (Int32.ofInt a2_)), some (.int (Int32.ofInt (ze Mz (d_ + 1) 7))), none, none] [] (zqcI d_ [] [] [] [25, 27] Mz (fun v N => True))
      refine zw_aload_n (pc := 37) (n := 0) (x := 0) rfl d_T_peakPart_37 ?_
      refine zw_getF (pc := 38) f_T_28 rfl ((hf_N15_.w hW).ka (o := 0) (by decide)) (hf_N15_.now hnow) d_T_peakPart_38 ?_
      refine zw_getF (pc := 41) f_T_169 rfl ((hf_N15_.w hW).kr (o := 0) (by decide)) ((hf_N15_.w hW).lr (o := 0) (s := 2) (r := 23) (by decide)) d_T_peakPart_41 ?_
      refine zw_bipush (pc := 44) (v := Int32.ofInt 39) (by decide) d_T_peakPart_44 ?_
      refine zw_iload_n (pc := 46) (n := 2) (x := Int32.ofInt a1_) rfl d_T_peakPart_46 ?_
      refine zk_callV hf_N15_.x (pc := 47) [.int (Int32.ofInt 39), .int (Int32.ofInt a1_)] [] l_T_179 (u_Sums_numberAtX l d_ N15_ (hf_N15_.w hW) 39 (by decide) (by decide) a1_ ha1_a ha1_b) rfl rfl ((hf_N15_.w hW).kr (o := 23) (by decide)) (by decide) (by decide) (Nat.le_of_ble_eq_true rfl) d_T_peakPart_47 ?_
      rintro _ N17_ ⟨v18_, rfl, ⟨hv18_a, hv18_b⟩, hsN17_, -⟩
      obtain rfl := hsN17_.eq.symm
      show zW l m_T_peakPart (zn Mz + 0, zw Mz + 0) N15_ 50 [some (.ref 0), some (.int (Int32.ofInt a0_)), some (.int (Int32.ofInt a1_)), some (.int (Int32.ofInt a2_)), some (.int (Int32.ofInt (ze Mz (d_ + 1) 7))), none, none] [.long (Int64.ofInt v18_)] (zqcI d_ [] [] [] [25, 27] Mz (fun v N => True))
      refine zr_l2i (pc := 50) d_T_peakPart_50 ?_
      refine zr_nmI (fun v19_ hv19_ => ?_)
      obtain ⟨hv19_a, hv19_b⟩ := hv19_
      refine zw_istore (pc := 51) (i := 5) (L2 := [some (.ref 0), some (.int (Int32.ofInt a0_)), some (.int (Int32.ofInt a1_)), some (.int (Int32.ofInt a2_)), some (.int (Int32.ofInt (ze Mz (d_ + 1) 7))), some (.int (Int32.ofInt v19_)), none]) (by decide) rfl d_T_peakPart_51 ?_
      refine zw_iload (pc := 53) (i := 4) (x := Int32.ofInt (ze Mz (d_ + 1) 7)) rfl d_T_peakPart_53 ?_
      refine zw_iload (pc := 55) (i := 5) (x := Int32.ofInt v19_) rfl d_T_peakPart_55 ?_
      refine zk_mabs (pc := 57) x_T_320 (by decide) (Nat.le_of_ble_eq_true rfl) d_T_peakPart_57 ⟨hv19_a, hv19_b⟩ (fun v20_ hv20_ hv20_e => ?_)
      obtain ⟨hv20_a, hv20_b⟩ := hv20_
      refine zr_callS hf_N15_.x (pc := 60) [.int (Int32.ofInt (ze Mz (d_ + 1) 7)), .int (Int32.ofInt v20_)] [] l_T_325 (u_T_greatestDivisorX l d_ N15_ (hf_N15_.w hW) (ze Mz (d_ + 1) 7) (ze_r Mz (d_ + 1) 7).1 (ze_r Mz (d_ + 1) 7).2 v20_ hv20_a hv20_b) rfl rfl (by decide) (Nat.le_of_ble_eq_true rfl) d_T_peakPart_60 ?_
      rintro _ N21_ ⟨v22_, rfl, ⟨hv22_a, hv22_b⟩, hsN21_, -⟩
      obtain rfl := hsN21_.eq.symm
      show zW l m_T_peakPart (zn Mz + 0, zw Mz + 0) N15_ 63 [some (.ref 0), some (.int (Int32.ofInt a0_)), some (.int (Int32.ofInt a1_)), some (.int (Int32.ofInt a2_)), some (.int (Int32.ofInt (ze Mz (d_ + 1) 7))), some (.int (Int32.ofInt v19_)), none] [.int (Int32.ofInt v22_)] (zqcI d_ [] [] [] [25, 27] Mz (fun v N => True))
      refine zw_istore (pc := 63) (i := 6) (L2 := [some (.ref 0), some (.int (Int32.ofInt a0_)), some (.int (Int32.ofInt a1_)), some (.int (Int32.ofInt a2_)), some (.int (Int32.ofInt (ze Mz (d_ + 1) 7))), some (.int (Int32.ofInt v19_)), some (.int (Int32.ofInt v22_))]) (by decide) rfl d_T_peakPart_63 ?_
      refine zw_iload (pc := 65) (i := 6) (x := Int32.ofInt v22_) rfl d_T_peakPart_65 ?_
      refine zr_if_ne (pc := 67) (tgt := 73) ⟨hv22_a, hv22_b⟩ (by decide) d_T_peakPart_67 (fun hc_67 => ?_) (fun hc_67 => ?_)
      · skip
        refine zw_iload_n (pc := 73) (n := 3) (x := Int32.ofInt a2_) rfl d_T_peakPart_73 ?_
        refine zr_if_ne (pc := 74) (tgt := 85) ⟨ha2_a, ha2_b⟩ (by decide) d_T_peakPart_74 (fun hc_74 => ?_) (fun hc_74 => ?_)
        · skip
          refine zw_iload (pc := 85) (i := 4) (x := Int32.ofInt (ze Mz (d_ + 1) 7)) rfl d_T_peakPart_85 ?_
          refine zw_iload (pc := 87) (i := 6) (x := Int32.ofInt v22_) rfl d_T_peakPart_87 ?_
          refine zr_idiv (pc := 89) ⟨by omega, by omega⟩ (by omega) d_T_peakPart_89 ?_
          have hr23_ := zquo_r (ze Mz (d_ + 1) 7) v22_
          refine zr_nmI (fun v24_ hv24_ => ?_)
          obtain ⟨hv24_a, hv24_b⟩ := hv24_
          exact zk_iret (pc := 90) (ty := .int) rfl rfl ⟨by omega, by omega⟩ hf_N15_ trivial d_T_peakPart_90
        · skip
          refine zw_iload (pc := 77) (i := 5) (x := Int32.ofInt v19_) rfl d_T_peakPart_77 ?_
          refine zw_iload (pc := 79) (i := 6) (x := Int32.ofInt v22_) rfl d_T_peakPart_79 ?_
          refine zr_idiv (pc := 81) ⟨by omega, by omega⟩ (by omega) d_T_peakPart_81 ?_
          have hr25_ := zquo_r v19_ v22_
          refine zr_nmI (fun v26_ hv26_ => ?_)
          obtain ⟨hv26_a, hv26_b⟩ := hv26_
          refine zw_goto (pc := 82) (tgt := 90) (by decide) d_T_peakPart_82 ?_
          exact zk_iret (pc := 90) (ty := .int) rfl rfl ⟨by omega, by omega⟩ hf_N15_ trivial d_T_peakPart_90
      · skip
        refine zw_ldc (pc := 70) (v := Int32.ofInt (-1000000)) (by rw [show Int32.ofInt (-1000000) = ((-1000000) : Int32) by decide]; exact k_T_204) d_T_peakPart_70 ?_
        exact zk_iret (pc := 72) (ty := .int) rfl rfl ⟨by omega, by omega⟩ hf_N15_ trivial d_T_peakPart_72
    · skip
      refine zw_ldc (pc := 9) (v := Int32.ofInt (-1000000)) (by rw [show Int32.ofInt (-1000000) = ((-1000000) : Int32) by decide]; exact k_T_204) d_T_peakPart_9 ?_
      exact zk_iret (pc := 11) (ty := .int) rfl rfl ⟨by omega, by omega⟩ hf trivial d_T_peakPart_11
set_option maxHeartbeats 4000000 in
theorem u_T_peakX (l : Launch) (d_ : Nat) (Mz : zMem) (hW : zKW d_ Mz) (hnow : zf Mz 0 2 = some (d_ + 0)) (a0_ : Int) (ha0_a : -2147483648 ≤ a0_) (ha0_b : a0_ < 2147483648) (a1_ : Int) (ha1_a : -2147483648 ≤ a1_) (ha1_b : a1_ < 2147483648) (a2_ : Int) (ha2_a : -2147483648 ≤ a2_) (ha2_b : a2_ < 2147483648) : zC l m_T_peak 0 0 [.ref 0, .int (Int32.ofInt a0_), .int (Int32.ofInt a1_), .int (Int32.ofInt a2_)] Mz (zqcI d_ [] [] [] [25, 27] Mz (fun v N => True)) := by
  refine zC_of (L0 := [some (.ref 0), some (.int (Int32.ofInt a0_)), some (.int (Int32.ofInt a1_)), some (.int (Int32.ofInt a2_))]) md_T_peak (Nat.le_of_ble_eq_true rfl) rfl ?_ zQ0
  have hf : zFc d_ [] [] [] [25, 27] Mz Mz := zFc.rf
  refine zw_aload_n (pc := 0) (n := 0) (x := 0) rfl d_T_peak_0 ?_
  refine zw_getF (pc := 1) f_T_28 rfl ((hf.w hW).ka (o := 0) (by decide)) (hf.now hnow) d_T_peak_1 ?_
  refine zw_getF (pc := 4) f_T_85 rfl ((hf.w hW).kr (o := 0) (by decide)) ((hf.w hW).lr (o := 0) (s := 1) (r := 12) (by decide)) d_T_peak_4 ?_
  refine zw_iload_n (pc := 7) (n := 1) (x := Int32.ofInt a0_) rfl d_T_peak_7 ?_
  refine zk_callV hf.x (pc := 8) [.int (Int32.ofInt a0_)] [] l_T_143 (u_Sorts_hasSortX l d_ Mz (hf.w hW) a0_ ha0_a ha0_b) rfl rfl ((hf.w hW).kr (o := 12) (by decide)) (by decide) (by decide) (Nat.le_of_ble_eq_true rfl) d_T_peak_8 ?_
  rintro _ N1_ ⟨v2_, rfl, ⟨hv2_a, hv2_b⟩, hsN1_, hp0_N1_⟩
  obtain rfl := hsN1_.eq.symm
  replace hp0_N1_ : (v2_ = 0 ∨ v2_ = 1) := hp0_N1_
  show zW l m_T_peak (zn Mz + 0, zw Mz + 0) Mz 11 [some (.ref 0), some (.int (Int32.ofInt a0_)), some (.int (Int32.ofInt a1_)), some (.int (Int32.ofInt a2_))] [.int (Int32.ofInt v2_)] (zqcI d_ [] [] [] [25, 27] Mz (fun v N => True))
  refine zr_if_eq (pc := 11) (tgt := 28) ⟨hv2_a, hv2_b⟩ (by decide) d_T_peak_11 (fun hc_11 => ?_) (fun hc_11 => ?_)
  · skip
    refine zw_ldc (pc := 28) (v := Int32.ofInt (-1000000)) (by rw [show Int32.ofInt (-1000000) = ((-1000000) : Int32) by decide]; exact k_T_204) d_T_peak_28 ?_
    exact zk_iret (pc := 30) (ty := .int) rfl rfl ⟨by omega, by omega⟩ hf trivial d_T_peak_30
  · skip
    refine zw_aload_n (pc := 14) (n := 0) (x := 0) rfl d_T_peak_14 ?_
    refine zw_getF (pc := 15) f_T_28 rfl ((hf.w hW).ka (o := 0) (by decide)) (hf.now hnow) d_T_peak_15 ?_
    refine zw_getF (pc := 18) f_T_85 rfl ((hf.w hW).kr (o := 0) (by decide)) ((hf.w hW).lr (o := 0) (s := 1) (r := 12) (by decide)) d_T_peak_18 ?_
    refine zw_iload_n (pc := 21) (n := 2) (x := Int32.ofInt a1_) rfl d_T_peak_21 ?_
    refine zk_callV hf.x (pc := 22) [.int (Int32.ofInt a1_)] [] l_T_143 (u_Sorts_hasSortX l d_ Mz (hf.w hW) a1_ ha1_a ha1_b) rfl rfl ((hf.w hW).kr (o := 12) (by decide)) (by decide) (by decide) (Nat.le_of_ble_eq_true rfl) d_T_peak_22 ?_
    rintro _ N3_ ⟨v4_, rfl, ⟨hv4_a, hv4_b⟩, hsN3_, hp0_N3_⟩
    obtain rfl := hsN3_.eq.symm
    replace hp0_N3_ : (v4_ = 0 ∨ v4_ = 1) := hp0_N3_
    show zW l m_T_peak (zn Mz + 0, zw Mz + 0) Mz 25 [some (.ref 0), some (.int (Int32.ofInt a0_)), some (.int (Int32.ofInt a1_)), some (.int (Int32.ofInt a2_))] [.int (Int32.ofInt v4_)] (zqcI d_ [] [] [] [25, 27] Mz (fun v N => True))
    refine zr_if_ne (pc := 25) (tgt := 31) ⟨hv4_a, hv4_b⟩ (by decide) d_T_peak_25 (fun hc_25 => ?_) (fun hc_25 => ?_)
    · skip
      refine zw_aload_n (pc := 31) (n := 0) (x := 0) rfl d_T_peak_31 ?_
      refine zw_iconst (pc := 32) (v := Int32.ofInt 1) (by decide) d_T_peak_32 ?_
      refine zw_iload_n (pc := 33) (n := 1) (x := Int32.ofInt a0_) rfl d_T_peak_33 ?_
      refine zr_ishl (pc := 34) d_T_peak_34 ?_
      have hr5_ := zshl_r 1 a0_
      refine zr_nmI (fun v6_ hv6_ => ?_)
      obtain ⟨hv6_a, hv6_b⟩ := hv6_
      refine zw_iload_n (pc := 35) (n := 2) (x := Int32.ofInt a1_) rfl d_T_peak_35 ?_
      refine zw_iload_n (pc := 36) (n := 3) (x := Int32.ofInt a2_) rfl d_T_peak_36 ?_
      refine zk_callV hf.x (pc := 37) [.int (Int32.ofInt v6_), .int (Int32.ofInt a1_), .int (Int32.ofInt a2_)] [] l_T_223 (u_T_peakPartX l d_ Mz (hf.w hW) (hf.now hnow) v6_ hv6_a hv6_b a1_ ha1_a ha1_b a2_ ha2_a ha2_b) rfl rfl ((hf.w hW).ka (o := 0) (by decide)) (by decide) (by decide) (Nat.le_of_ble_eq_true rfl) d_T_peak_37 ?_
      rintro _ N7_ ⟨v8_, rfl, ⟨hv8_a, hv8_b⟩, hsN7_, -⟩
      have hf_N7_ : zFc d_ [] [] [] [25, 27] Mz N7_ := hf.tr hsN7_ (by decide) (by decide) (by decide) (by decide)
      show zW l m_T_peak (zn Mz + 0, zw Mz + 0) N7_ 40 [some (.ref 0), some (.int (Int32.ofInt a0_)), some (.int (Int32.ofInt a1_)), some (.int (Int32.ofInt a2_))] [.int (Int32.ofInt v8_)] (zqcI d_ [] [] [] [25, 27] Mz (fun v N => True))
      exact zk_iret (pc := 40) (ty := .int) rfl rfl ⟨by omega, by omega⟩ hf_N7_ trivial d_T_peak_40
    · skip
      refine zw_ldc (pc := 28) (v := Int32.ofInt (-1000000)) (by rw [show Int32.ofInt (-1000000) = ((-1000000) : Int32) by decide]; exact k_T_204) d_T_peak_28 ?_
      exact zk_iret (pc := 30) (ty := .int) rfl rfl ⟨by omega, by omega⟩ hf trivial d_T_peak_30
set_option maxHeartbeats 4000000 in
theorem u_T_localX (l : Launch) (d_ : Nat) (Mz : zMem) (hW : zKW d_ Mz) (hnow : zf Mz 0 2 = some (d_ + 0)) (a0_ : Int) (ha0_a : -2147483648 ≤ a0_) (ha0_b : a0_ < 2147483648) (a1_ : Int) (ha1_a : -2147483648 ≤ a1_) (ha1_b : a1_ < 2147483648) (a2_ : Int) (ha2_a : -2147483648 ≤ a2_) (ha2_b : a2_ < 2147483648) (a3_ : Int) (ha3_a : -2147483648 ≤ a3_) (ha3_b : a3_ < 2147483648) : zC l m_T_local 0 0 [.ref 0, .int (Int32.ofInt a0_), .int (Int32.ofInt a1_), .int (Int32.ofInt a2_), .int (Int32.ofInt a3_)] Mz (zqcI d_ [] [] [] [25, 27] Mz (fun v N => True)) := by
  refine zC_of (L0 := [some (.ref 0), some (.int (Int32.ofInt a0_)), some (.int (Int32.ofInt a1_)), some (.int (Int32.ofInt a2_)), some (.int (Int32.ofInt a3_))]) md_T_local (Nat.le_of_ble_eq_true rfl) rfl ?_ zQ0
  have hf : zFc d_ [] [] [] [25, 27] Mz Mz := zFc.rf
  refine zw_iload_n (pc := 0) (n := 1) (x := Int32.ofInt a0_) rfl d_T_local_0 ?_
  refine zr_callS hf.x (pc := 1) [.int (Int32.ofInt a0_)] [] l_T_183 (u_T_isPrimeX l d_ Mz (hf.w hW) a0_ ha0_a ha0_b) rfl rfl (by decide) (Nat.le_of_ble_eq_true rfl) d_T_local_1 ?_
  rintro _ N1_ ⟨v2_, rfl, ⟨hv2_a, hv2_b⟩, hsN1_, ⟨hp0_N1_, hp1_N1_⟩⟩
  obtain rfl := hsN1_.eq.symm
  show zW l m_T_local (zn Mz + 0, zw Mz + 0) Mz 4 [some (.ref 0), some (.int (Int32.ofInt a0_)), some (.int (Int32.ofInt a1_)), some (.int (Int32.ofInt a2_)), some (.int (Int32.ofInt a3_))] [.int (Int32.ofInt v2_)] (zqcI d_ [] [] [] [25, 27] Mz (fun v N => True))
  refine zr_if_eq (pc := 4) (tgt := 35) ⟨hv2_a, hv2_b⟩ (by decide) d_T_local_4 (fun hc_4 => ?_) (fun hc_4 => ?_)
  · skip
    refine zw_ldc (pc := 35) (v := Int32.ofInt (-1000000)) (by rw [show Int32.ofInt (-1000000) = ((-1000000) : Int32) by decide]; exact k_T_204) d_T_local_35 ?_
    exact zk_iret (pc := 37) (ty := .int) rfl rfl ⟨by omega, by omega⟩ hf trivial d_T_local_37
  · skip
    refine zw_aload_n (pc := 7) (n := 0) (x := 0) rfl d_T_local_7 ?_
    refine zw_getF (pc := 8) f_T_28 rfl ((hf.w hW).ka (o := 0) (by decide)) (hf.now hnow) d_T_local_8 ?_
    refine zw_getF (pc := 11) f_T_85 rfl ((hf.w hW).kr (o := 0) (by decide)) ((hf.w hW).lr (o := 0) (s := 1) (r := 12) (by decide)) d_T_local_11 ?_
    refine zw_iload_n (pc := 14) (n := 2) (x := Int32.ofInt a1_) rfl d_T_local_14 ?_
    refine zk_callV hf.x (pc := 15) [.int (Int32.ofInt a1_)] [] l_T_143 (u_Sorts_hasSortX l d_ Mz (hf.w hW) a1_ ha1_a ha1_b) rfl rfl ((hf.w hW).kr (o := 12) (by decide)) (by decide) (by decide) (Nat.le_of_ble_eq_true rfl) d_T_local_15 ?_
    rintro _ N3_ ⟨v4_, rfl, ⟨hv4_a, hv4_b⟩, hsN3_, hp0_N3_⟩
    obtain rfl := hsN3_.eq.symm
    replace hp0_N3_ : (v4_ = 0 ∨ v4_ = 1) := hp0_N3_
    show zW l m_T_local (zn Mz + 0, zw Mz + 0) Mz 18 [some (.ref 0), some (.int (Int32.ofInt a0_)), some (.int (Int32.ofInt a1_)), some (.int (Int32.ofInt a2_)), some (.int (Int32.ofInt a3_))] [.int (Int32.ofInt v4_)] (zqcI d_ [] [] [] [25, 27] Mz (fun v N => True))
    refine zr_if_eq (pc := 18) (tgt := 35) ⟨hv4_a, hv4_b⟩ (by decide) d_T_local_18 (fun hc_18 => ?_) (fun hc_18 => ?_)
    · skip
      refine zw_ldc (pc := 35) (v := Int32.ofInt (-1000000)) (by rw [show Int32.ofInt (-1000000) = ((-1000000) : Int32) by decide]; exact k_T_204) d_T_local_35 ?_
      exact zk_iret (pc := 37) (ty := .int) rfl rfl ⟨by omega, by omega⟩ hf trivial d_T_local_37
    · skip
      refine zw_aload_n (pc := 21) (n := 0) (x := 0) rfl d_T_local_21 ?_
      refine zw_getF (pc := 22) f_T_28 rfl ((hf.w hW).ka (o := 0) (by decide)) (hf.now hnow) d_T_local_22 ?_
      refine zw_getF (pc := 25) f_T_85 rfl ((hf.w hW).kr (o := 0) (by decide)) ((hf.w hW).lr (o := 0) (s := 1) (r := 12) (by decide)) d_T_local_25 ?_
      refine zw_iload_n (pc := 28) (n := 3) (x := Int32.ofInt a2_) rfl d_T_local_28 ?_
      refine zk_callV hf.x (pc := 29) [.int (Int32.ofInt a2_)] [] l_T_143 (u_Sorts_hasSortX l d_ Mz (hf.w hW) a2_ ha2_a ha2_b) rfl rfl ((hf.w hW).kr (o := 12) (by decide)) (by decide) (by decide) (Nat.le_of_ble_eq_true rfl) d_T_local_29 ?_
      rintro _ N5_ ⟨v6_, rfl, ⟨hv6_a, hv6_b⟩, hsN5_, hp0_N5_⟩
      obtain rfl := hsN5_.eq.symm
      replace hp0_N5_ : (v6_ = 0 ∨ v6_ = 1) := hp0_N5_
      show zW l m_T_local (zn Mz + 0, zw Mz + 0) Mz 32 [some (.ref 0), some (.int (Int32.ofInt a0_)), some (.int (Int32.ofInt a1_)), some (.int (Int32.ofInt a2_)), some (.int (Int32.ofInt a3_))] [.int (Int32.ofInt v6_)] (zqcI d_ [] [] [] [25, 27] Mz (fun v N => True))
      refine zr_if_ne (pc := 32) (tgt := 38) ⟨hv6_a, hv6_b⟩ (by decide) d_T_local_32 (fun hc_32 => ?_) (fun hc_32 => ?_)
      · skip
        refine zw_aload_n (pc := 38) (n := 0) (x := 0) rfl d_T_local_38 ?_
        refine zw_aload_n (pc := 39) (n := 0) (x := 0) rfl d_T_local_39 ?_
        refine zw_getF (pc := 40) f_T_28 rfl ((hf.w hW).ka (o := 0) (by decide)) (hf.now hnow) d_T_local_40 ?_
        refine zw_getF (pc := 43) f_T_85 rfl ((hf.w hW).kr (o := 0) (by decide)) ((hf.w hW).lr (o := 0) (s := 1) (r := 12) (by decide)) d_T_local_43 ?_
        refine zw_iload_n (pc := 46) (n := 2) (x := Int32.ofInt a1_) rfl d_T_local_46 ?_
        refine zw_iload_n (pc := 47) (n := 1) (x := Int32.ofInt a0_) rfl d_T_local_47 ?_
        refine zk_callV hf.x (pc := 48) [.int (Int32.ofInt a1_), .int (Int32.ofInt a0_)] [.ref 0] l_T_189 (u_Sorts_blockOfX l d_ Mz (hf.w hW) a1_ ha1_a ha1_b a0_ ha0_a ha0_b (show (a0_ = 2 ∨ a0_ = 3 ∨ a0_ = 5) by first | assumption | omega)) rfl rfl ((hf.w hW).kr (o := 12) (by decide)) (by decide) (by decide) (Nat.le_of_ble_eq_true rfl) d_T_local_48 ?_
        rintro _ N7_ ⟨v8_, rfl, ⟨hv8_a, hv8_b⟩, hsN7_, -⟩
        obtain rfl := hsN7_.eq.symm
        show zW l m_T_local (zn Mz + 0, zw Mz + 0) Mz 51 [some (.ref 0), some (.int (Int32.ofInt a0_)), some (.int (Int32.ofInt a1_)), some (.int (Int32.ofInt a2_)), some (.int (Int32.ofInt a3_))] [.int (Int32.ofInt v8_), .ref 0] (zqcI d_ [] [] [] [25, 27] Mz (fun v N => True))
        refine zw_iload_n (pc := 51) (n := 3) (x := Int32.ofInt a2_) rfl d_T_local_51 ?_
        refine zw_iload (pc := 52) (i := 4) (x := Int32.ofInt a3_) rfl d_T_local_52 ?_
        refine zk_callV hf.x (pc := 54) [.int (Int32.ofInt v8_), .int (Int32.ofInt a2_), .int (Int32.ofInt a3_)] [] l_T_223 (u_T_peakPartX l d_ Mz (hf.w hW) (hf.now hnow) v8_ hv8_a hv8_b a2_ ha2_a ha2_b a3_ ha3_a ha3_b) rfl rfl ((hf.w hW).ka (o := 0) (by decide)) (by decide) (by decide) (Nat.le_of_ble_eq_true rfl) d_T_local_54 ?_
        rintro _ N9_ ⟨v10_, rfl, ⟨hv10_a, hv10_b⟩, hsN9_, -⟩
        have hf_N9_ : zFc d_ [] [] [] [25, 27] Mz N9_ := hf.tr hsN9_ (by decide) (by decide) (by decide) (by decide)
        show zW l m_T_local (zn Mz + 0, zw Mz + 0) N9_ 57 [some (.ref 0), some (.int (Int32.ofInt a0_)), some (.int (Int32.ofInt a1_)), some (.int (Int32.ofInt a2_)), some (.int (Int32.ofInt a3_))] [.int (Int32.ofInt v10_)] (zqcI d_ [] [] [] [25, 27] Mz (fun v N => True))
        exact zk_iret (pc := 57) (ty := .int) rfl rfl ⟨by omega, by omega⟩ hf_N9_ trivial d_T_local_57
      · skip
        refine zw_ldc (pc := 35) (v := Int32.ofInt (-1000000)) (by rw [show Int32.ofInt (-1000000) = ((-1000000) : Int32) by decide]; exact k_T_204) d_T_local_35 ?_
        exact zk_iret (pc := 37) (ty := .int) rfl rfl ⟨by omega, by omega⟩ hf trivial d_T_local_37
set_option maxHeartbeats 4000000 in
theorem u_Units_bitOfX (l : Launch) (d_ : Nat) (Mz : zMem) (hW : zKW d_ Mz) (a0_ : Int) (ha0_a : -2147483648 ≤ a0_) (ha0_b : a0_ < 2147483648) : zC l m_Units_bitOf 0 0 [.ref (d_ + 28), .int (Int32.ofInt a0_)] Mz (zqcI d_ [] [] [] [] Mz (fun v N => True)) := by
  refine zC_of (L0 := [some (.ref (d_ + 28)), some (.int (Int32.ofInt a0_))]) md_Units_bitOf (Nat.le_of_ble_eq_true rfl) rfl ?_ zQ0
  have hf : zFc d_ [] [] [] [] Mz Mz := zFc.rf
  refine zw_iconst (pc := 0) (v := Int32.ofInt 1) (by decide) d_Units_bitOf_0 ?_
  refine zw_aload_n (pc := 1) (n := 0) (x := (d_ + 28)) rfl d_Units_bitOf_1 ?_
  refine zw_getF (pc := 2) f_Units_23 rfl ((hf.w hW).kr (o := 28) (by decide)) ((hf.w hW).lr (o := 28) (s := 0) (r := 12) (by decide)) d_Units_bitOf_2 ?_
  refine zk_getI (pc := 5) f_Units_35 rfl ((hf.w hW).kr (o := 12) (by decide)) d_Units_bitOf_5 ?_
  have hr1_ := ze_r Mz (d_ + 12) 7
  refine zw_iconst (pc := 8) (v := Int32.ofInt 1) (by decide) d_Units_bitOf_8 ?_
  refine zr_isub (pc := 9) d_Units_bitOf_9 ?_
  refine zr_nmI (fun v2_ hv2_ => ?_)
  obtain ⟨hv2_a, hv2_b⟩ := hv2_
  refine zw_iload_n (pc := 10) (n := 1) (x := Int32.ofInt a0_) rfl d_Units_bitOf_10 ?_
  refine zr_isub (pc := 11) d_Units_bitOf_11 ?_
  refine zr_nmI (fun v3_ hv3_ => ?_)
  obtain ⟨hv3_a, hv3_b⟩ := hv3_
  refine zr_ishl (pc := 12) d_Units_bitOf_12 ?_
  have hr4_ := zshl_r 1 v3_
  refine zr_nmI (fun v5_ hv5_ => ?_)
  obtain ⟨hv5_a, hv5_b⟩ := hv5_
  exact zk_iret (pc := 13) (ty := .int) rfl rfl ⟨by omega, by omega⟩ hf trivial d_Units_bitOf_13
set_option maxHeartbeats 4000000 in
theorem u_Units_straightenX (l : Launch) (d_ : Nat) (Mz : zMem) (hW : zKW d_ Mz) : zC l m_Units_straighten 0 0 [.ref (d_ + 28)] Mz (zqcV d_ [] [] [] [30] Mz (fun N => True)) := by
  refine zC_of (L0 := [some (.ref (d_ + 28)), none, none, none, none, none]) md_Units_straighten (Nat.le_of_ble_eq_true rfl) rfl ?_ zQ0
  have hf : zFc d_ [] [] [] [30] Mz Mz := zFc.rf
  refine zw_iconst (pc := 0) (v := Int32.ofInt 0) (by decide) d_Units_straighten_0 ?_
  refine zw_istore_n (pc := 1) (i := 1) (L2 := [some (.ref (d_ + 28)), some (.int (Int32.ofInt 0)), none, none, none, none]) rfl (by decide) rfl d_Units_straighten_1 ?_
  refine zw_iconst (pc := 2) (v := Int32.ofInt 0) (by decide) d_Units_straighten_2 ?_
  refine zw_istore_n (pc := 3) (i := 2) (L2 := [some (.ref (d_ + 28)), some (.int (Int32.ofInt 0)), some (.int (Int32.ofInt 0)), none, none, none]) rfl (by decide) rfl d_Units_straighten_3 ?_
  have lp_4 : ∀ (n : Nat) (u1_ : Int) (hu1_a : -2147483648 ≤ u1_) (hu1_b : u1_ < 2147483648) (u2_ : Int) (hu2_a : -2147483648 ≤ u2_) (hu2_b : u2_ < 2147483648) (N3_ : zMem) (hs4_ : zFc d_ [] [] [] [30] Mz N3_) (i5_ : 0 ≤ u2_), (ze Mz (d_ + 12) 7 - u2_).toNat < n → zW l m_Units_straighten (zn Mz + 0, zw Mz + 0) N3_ 4 [some (.ref (d_ + 28)), some (.int (Int32.ofInt u1_)), some (.int (Int32.ofInt u2_)), none, none, none] [] (zqcV d_ [] [] [] [30] Mz (fun N => True)) := by
    intro n
    induction n with
    | zero =>
      intro u1_ hu1_a hu1_b u2_ hu2_a hu2_b N3_ hs4_ i5_ h0
      exact absurd h0 (Nat.not_lt_zero _)
    | succ n ih_4 =>
      intro u1_ hu1_a hu1_b u2_ hu2_a hu2_b N3_ hs4_ i5_ hlt_4
      have hf_N3_ : zFc d_ [] [] [] [30] Mz N3_ := hf.tr hs4_ (by decide) (by decide) (by decide) (by decide)
      refine zw_iload_n (pc := 4) (n := 2) (x := Int32.ofInt u2_) rfl d_Units_straighten_4 ?_
      refine zw_aload_n (pc := 5) (n := 0) (x := (d_ + 28)) rfl d_Units_straighten_5 ?_
      refine zw_getF (pc := 6) f_Units_23 rfl ((hf_N3_.w hW).kr (o := 28) (by decide)) ((hf_N3_.w hW).lr (o := 28) (s := 0) (r := 12) (by decide)) d_Units_straighten_6 ?_
      refine zk_getI (pc := 9) f_Units_35 rfl ((hf_N3_.w hW).kr (o := 12) (by decide)) d_Units_straighten_9 ?_
      rw [hf_N3_.e (by decide)]
      have hr6_ := ze_r Mz (d_ + 12) 7
      refine zr_icmp_ge (pc := 12) (tgt := 167) ⟨hu2_a, hu2_b⟩ ⟨(ze_r Mz (d_ + 12) 7).1, (ze_r Mz (d_ + 12) 7).2⟩ (by decide) d_Units_straighten_12 (fun hc_12 => ?_) (fun hc_12 => ?_)
      · skip
        exact zk_vret (pc := 167) rfl hf_N3_ trivial d_Units_straighten_167
      · skip
        refine zw_iload_n (pc := 15) (n := 1) (x := Int32.ofInt u1_) rfl d_Units_straighten_15 ?_
        refine zw_istore_n (pc := 16) (i := 3) (L2 := [some (.ref (d_ + 28)), some (.int (Int32.ofInt u1_)), some (.int (Int32.ofInt u2_)), some (.int (Int32.ofInt u1_)), none, none]) rfl (by decide) rfl d_Units_straighten_16 ?_
        have lp_17 : ∀ (n : Nat) (u7_ : Int) (hu7_a : -2147483648 ≤ u7_) (hu7_b : u7_ < 2147483648) (i8_ : u1_ ≤ u7_), (ze Mz (d_ + 28) 3 - u7_).toNat < n → zW l m_Units_straighten (zn Mz + 0, zw Mz + 0) N3_ 17 [some (.ref (d_ + 28)), some (.int (Int32.ofInt u1_)), some (.int (Int32.ofInt u2_)), some (.int (Int32.ofInt u7_)), none, none] [] (zqcV d_ [] [] [] [30] Mz (fun N => True)) := by
          intro n
          induction n with
          | zero =>
            intro u7_ hu7_a hu7_b i8_ h0
            exact absurd h0 (Nat.not_lt_zero _)
          | succ n ih_17 =>
            intro u7_ hu7_a hu7_b i8_ hlt_17
            refine zw_iload_n (pc := 17) (n := 3) (x := Int32.ofInt u7_) rfl d_Units_straighten_17 ?_
            refine zw_aload_n (pc := 18) (n := 0) (x := (d_ + 28)) rfl d_Units_straighten_18 ?_
            refine zk_getI (pc := 19) f_Units_31 rfl ((hf_N3_.w hW).kr (o := 28) (by decide)) d_Units_straighten_19 ?_
            rw [hf_N3_.e (by decide)]
            have hr9_ := ze_r Mz (d_ + 28) 3
            refine zr_icmp_ge (pc := 22) (tgt := 48) ⟨hu7_a, hu7_b⟩ ⟨(ze_r Mz (d_ + 28) 3).1, (ze_r Mz (d_ + 28) 3).2⟩ (by decide) d_Units_straighten_22 (fun hc_22 => ?_) (fun hc_22 => ?_)
            · skip
              refine zw_iload_n (pc := 48) (n := 3) (x := Int32.ofInt u7_) rfl d_Units_straighten_48 ?_
              refine zw_aload_n (pc := 49) (n := 0) (x := (d_ + 28)) rfl d_Units_straighten_49 ?_
              refine zk_getI (pc := 50) f_Units_31 rfl ((hf_N3_.w hW).kr (o := 28) (by decide)) d_Units_straighten_50 ?_
              rw [hf_N3_.e (by decide)]
              refine zr_icmp_lt (pc := 53) (tgt := 59) ⟨hu7_a, hu7_b⟩ ⟨(ze_r Mz (d_ + 28) 3).1, (ze_r Mz (d_ + 28) 3).2⟩ (by decide) d_Units_straighten_53 (fun hc_53 => ?_) (fun hc_53 => ?_)
              · skip
                refine zw_aload_n (pc := 59) (n := 0) (x := (d_ + 28)) rfl d_Units_straighten_59 ?_
                refine zw_getF (pc := 60) f_Units_14 rfl ((hf_N3_.w hW).kr (o := 28) (by decide)) ((hf_N3_.w hW).lr (o := 28) (s := 1) (r := 29) (by decide)) d_Units_straighten_60 ?_
                refine zw_iload_n (pc := 63) (n := 3) (x := Int32.ofInt u7_) rfl d_Units_straighten_63 ?_
                refine zk_atG hf_N3_.x (pc := 64) l_Units_57 ((hf_N3_.w hW).kr (o := 29) (by decide)) ((hf_N3_.w hW).lr (o := 29) (s := 0) (r := 30) (by decide)) ((hf_N3_.w hW).rr (o := 30) (t := 1) (n := 27) (by decide)) (by decide) ⟨by omega, by omega⟩ (by decide) (Nat.le_of_ble_eq_true rfl) d_Units_straighten_64 (fun v10_ hv10_ hv10_a hv10_b => ?_)
                clear hv10_
                refine zw_istore (pc := 67) (i := 4) (L2 := [some (.ref (d_ + 28)), some (.int (Int32.ofInt u1_)), some (.int (Int32.ofInt u2_)), some (.int (Int32.ofInt u7_)), some (.int (Int32.ofInt v10_)), none]) (by decide) rfl d_Units_straighten_67 ?_
                refine zw_aload_n (pc := 69) (n := 0) (x := (d_ + 28)) rfl d_Units_straighten_69 ?_
                refine zw_getF (pc := 70) f_Units_14 rfl ((hf_N3_.w hW).kr (o := 28) (by decide)) ((hf_N3_.w hW).lr (o := 28) (s := 1) (r := 29) (by decide)) d_Units_straighten_70 ?_
                refine zw_iload_n (pc := 73) (n := 3) (x := Int32.ofInt u7_) rfl d_Units_straighten_73 ?_
                refine zw_aload_n (pc := 74) (n := 0) (x := (d_ + 28)) rfl d_Units_straighten_74 ?_
                refine zw_getF (pc := 75) f_Units_14 rfl ((hf_N3_.w hW).kr (o := 28) (by decide)) ((hf_N3_.w hW).lr (o := 28) (s := 1) (r := 29) (by decide)) d_Units_straighten_75 ?_
                refine zw_iload_n (pc := 78) (n := 1) (x := Int32.ofInt u1_) rfl d_Units_straighten_78 ?_
                refine zk_atG hf_N3_.x (pc := 79) l_Units_57 ((hf_N3_.w hW).kr (o := 29) (by decide)) ((hf_N3_.w hW).lr (o := 29) (s := 0) (r := 30) (by decide)) ((hf_N3_.w hW).rr (o := 30) (t := 1) (n := 27) (by decide)) (by decide) ⟨by omega, by omega⟩ (by decide) (Nat.le_of_ble_eq_true rfl) d_Units_straighten_79 (fun v11_ hv11_ hv11_a hv11_b => ?_)
                clear hv11_
                refine zk_stG hf_N3_.x (pc := 82) (o := 30) (by decide) l_Units_40 ((hf_N3_.w hW).kr (o := 29) (by decide)) ((hf_N3_.w hW).lr (o := 29) (s := 0) (r := 30) (by decide)) ((hf_N3_.w hW).rr (o := 30) (t := 1) (n := 27) (by decide)) (by decide) ⟨by omega, by omega⟩ (by decide) (Nat.le_of_ble_eq_true rfl) d_Units_straighten_82 (fun N12_ hsN12_ => ?_)
                have hf_N12_ : zFc d_ [] [] [] [30] Mz N12_ := hf_N3_.tr hsN12_ (by decide) (by decide) (by decide) (by decide)
                have hb0_N12_ : zFc d_ [] [] [] [30] Mz N12_ := hs4_.tr hsN12_ (by decide) (by decide) (by decide) (by decide)
                refine zw_aload_n (pc := 85) (n := 0) (x := (d_ + 28)) rfl d_Units_straighten_85 ?_
                refine zw_getF (pc := 86) f_Units_14 rfl ((hf_N12_.w hW).kr (o := 28) (by decide)) ((hf_N12_.w hW).lr (o := 28) (s := 1) (r := 29) (by decide)) d_Units_straighten_86 ?_
                refine zw_iload_n (pc := 89) (n := 1) (x := Int32.ofInt u1_) rfl d_Units_straighten_89 ?_
                refine zw_iload (pc := 90) (i := 4) (x := Int32.ofInt v10_) rfl d_Units_straighten_90 ?_
                refine zk_stG hf_N12_.x (pc := 92) (o := 30) (by decide) l_Units_40 ((hf_N12_.w hW).kr (o := 29) (by decide)) ((hf_N12_.w hW).lr (o := 29) (s := 0) (r := 30) (by decide)) ((hf_N12_.w hW).rr (o := 30) (t := 1) (n := 27) (by decide)) (by decide) ⟨by omega, by omega⟩ (by decide) (Nat.le_of_ble_eq_true rfl) d_Units_straighten_92 (fun N13_ hsN13_ => ?_)
                have hf_N13_ : zFc d_ [] [] [] [30] Mz N13_ := hf_N12_.tr hsN13_ (by decide) (by decide) (by decide) (by decide)
                have hb0_N13_ : zFc d_ [] [] [] [30] Mz N13_ := hb0_N12_.tr hsN13_ (by decide) (by decide) (by decide) (by decide)
                refine zw_iconst (pc := 95) (v := Int32.ofInt 0) (by decide) d_Units_straighten_95 ?_
                refine zw_istore (pc := 96) (i := 5) (L2 := [some (.ref (d_ + 28)), some (.int (Int32.ofInt u1_)), some (.int (Int32.ofInt u2_)), some (.int (Int32.ofInt u7_)), some (.int (Int32.ofInt v10_)), some (.int (Int32.ofInt 0))]) (by decide) rfl d_Units_straighten_96 ?_
                have lp_98 : ∀ (n : Nat) (u14_ : Int) (hu14_a : -2147483648 ≤ u14_) (hu14_b : u14_ < 2147483648) (N15_ : zMem) (hs16_ : zFc d_ [] [] [] [30] N13_ N15_) (i17_ : 0 ≤ u14_), (ze Mz (d_ + 28) 3 - u14_).toNat < n → zW l m_Units_straighten (zn Mz + 0, zw Mz + 0) N15_ 98 [some (.ref (d_ + 28)), some (.int (Int32.ofInt u1_)), some (.int (Int32.ofInt u2_)), some (.int (Int32.ofInt u7_)), some (.int (Int32.ofInt v10_)), some (.int (Int32.ofInt u14_))] [] (zqcV d_ [] [] [] [30] Mz (fun N => True)) := by
                  intro n
                  induction n with
                  | zero =>
                    intro u14_ hu14_a hu14_b N15_ hs16_ i17_ h0
                    exact absurd h0 (Nat.not_lt_zero _)
                  | succ n ih_98 =>
                    intro u14_ hu14_a hu14_b N15_ hs16_ i17_ hlt_98
                    have hf_N15_ : zFc d_ [] [] [] [30] Mz N15_ := hf_N13_.tr hs16_ (by decide) (by decide) (by decide) (by decide)
                    have hb0_N15_ : zFc d_ [] [] [] [30] Mz N15_ := hb0_N13_.tr hs16_ (by decide) (by decide) (by decide) (by decide)
                    refine zw_iload (pc := 98) (i := 5) (x := Int32.ofInt u14_) rfl d_Units_straighten_98 ?_
                    refine zw_aload_n (pc := 100) (n := 0) (x := (d_ + 28)) rfl d_Units_straighten_100 ?_
                    refine zk_getI (pc := 101) f_Units_31 rfl ((hf_N15_.w hW).kr (o := 28) (by decide)) d_Units_straighten_101 ?_
                    rw [hf_N15_.e (by decide)]
                    refine zr_icmp_ge (pc := 104) (tgt := 158) ⟨hu14_a, hu14_b⟩ ⟨(ze_r Mz (d_ + 28) 3).1, (ze_r Mz (d_ + 28) 3).2⟩ (by decide) d_Units_straighten_104 (fun hc_104 => ?_) (fun hc_104 => ?_)
                    · skip
                      refine zr_iinc (pc := 158) (i := 1) (a := u1_) (n := 1) (L2 := [some (.ref (d_ + 28)), some (.int (Int32.ofInt (u1_ + 1))), some (.int (Int32.ofInt u2_)), some (.int (Int32.ofInt u7_)), some (.int (Int32.ofInt v10_)), some (.int (Int32.ofInt u14_))]) rfl (by decide) rfl d_Units_straighten_158 ?_
                      obtain ⟨v18_, hv18_a, hv18_b, hv18_e, hv18_d⟩ := zk_gen (u1_ + 1)
                      rw [hv18_e]
                      refine zr_iinc (pc := 161) (i := 2) (a := u2_) (n := 1) (L2 := [some (.ref (d_ + 28)), some (.int (Int32.ofInt v18_)), some (.int (Int32.ofInt (u2_ + 1))), some (.int (Int32.ofInt u7_)), some (.int (Int32.ofInt v10_)), some (.int (Int32.ofInt u14_))]) rfl (by decide) rfl d_Units_straighten_161 ?_
                      obtain ⟨v19_, hv19_a, hv19_b, hv19_e, hv19_d⟩ := zk_gen (u2_ + 1)
                      rw [hv19_e]
                      refine zw_goto (pc := 164) (tgt := 4) (by decide) d_Units_straighten_164 ?_
                      refine zW_le [some (.ref (d_ + 28)), some (.int (Int32.ofInt v18_)), some (.int (Int32.ofInt v19_)), none, none, none] (⟨rfl, rfl, rfl, trivial⟩) ?_
                      exact ih_4 v18_ hv18_a hv18_b v19_ hv19_a hv19_b N15_ hb0_N15_ (show 0 ≤ v19_ by first | assumption | omega) (by omega)
                    · skip
                      refine zw_iload (pc := 107) (i := 5) (x := Int32.ofInt u14_) rfl d_Units_straighten_107 ?_
                      refine zw_iload_n (pc := 109) (n := 1) (x := Int32.ofInt u1_) rfl d_Units_straighten_109 ?_
                      refine zr_icmp_eq (pc := 110) (tgt := 152) ⟨hu14_a, hu14_b⟩ ⟨hu1_a, hu1_b⟩ (by decide) d_Units_straighten_110 (fun hc_110 => ?_) (fun hc_110 => ?_)
                      · skip
                        refine zr_iinc (pc := 152) (i := 5) (a := u14_) (n := 1) (L2 := [some (.ref (d_ + 28)), some (.int (Int32.ofInt u1_)), some (.int (Int32.ofInt u2_)), some (.int (Int32.ofInt u7_)), some (.int (Int32.ofInt v10_)), some (.int (Int32.ofInt (u14_ + 1)))]) rfl (by decide) rfl d_Units_straighten_152 ?_
                        obtain ⟨v20_, hv20_a, hv20_b, hv20_e, hv20_d⟩ := zk_gen (u14_ + 1)
                        rw [hv20_e]
                        refine zw_goto (pc := 155) (tgt := 98) (by decide) d_Units_straighten_155 ?_
                        exact ih_98 v20_ hv20_a hv20_b N15_ hs16_ (show 0 ≤ v20_ by first | assumption | omega) (by omega)
                      · skip
                        refine zw_aload_n (pc := 113) (n := 0) (x := (d_ + 28)) rfl d_Units_straighten_113 ?_
                        refine zw_getF (pc := 114) f_Units_14 rfl ((hf_N15_.w hW).kr (o := 28) (by decide)) ((hf_N15_.w hW).lr (o := 28) (s := 1) (r := 29) (by decide)) d_Units_straighten_114 ?_
                        refine zw_iload (pc := 117) (i := 5) (x := Int32.ofInt u14_) rfl d_Units_straighten_117 ?_
                        refine zk_atG hf_N15_.x (pc := 119) l_Units_57 ((hf_N15_.w hW).kr (o := 29) (by decide)) ((hf_N15_.w hW).lr (o := 29) (s := 0) (r := 30) (by decide)) ((hf_N15_.w hW).rr (o := 30) (t := 1) (n := 27) (by decide)) (by decide) ⟨by omega, by omega⟩ (by decide) (Nat.le_of_ble_eq_true rfl) d_Units_straighten_119 (fun v21_ hv21_ hv21_a hv21_b => ?_)
                        clear hv21_
                        refine zw_aload_n (pc := 122) (n := 0) (x := (d_ + 28)) rfl d_Units_straighten_122 ?_
                        refine zw_iload_n (pc := 123) (n := 2) (x := Int32.ofInt u2_) rfl d_Units_straighten_123 ?_
                        refine zk_callV hf_N15_.x (pc := 124) [.int (Int32.ofInt u2_)] [.int (Int32.ofInt v21_)] l_Units_80 (u_Units_bitOfX l d_ N15_ (hf_N15_.w hW) u2_ hu2_a hu2_b) rfl rfl ((hf_N15_.w hW).kr (o := 28) (by decide)) (by decide) (by decide) (Nat.le_of_ble_eq_true rfl) d_Units_straighten_124 ?_
                        rintro _ N22_ ⟨v23_, rfl, ⟨hv23_a, hv23_b⟩, hsN22_, -⟩
                        obtain rfl := hsN22_.eq.symm
                        show zW l m_Units_straighten (zn Mz + 0, zw Mz + 0) N15_ 127 [some (.ref (d_ + 28)), some (.int (Int32.ofInt u1_)), some (.int (Int32.ofInt u2_)), some (.int (Int32.ofInt u7_)), some (.int (Int32.ofInt v10_)), some (.int (Int32.ofInt u14_))] [.int (Int32.ofInt v23_), .int (Int32.ofInt v21_)] (zqcV d_ [] [] [] [30] Mz (fun N => True))
                        refine zr_iand (pc := 127) d_Units_straighten_127 ?_
                        have hr24_ := zand_r v21_ v23_
                        refine zr_nmI (fun v25_ hv25_ => ?_)
                        obtain ⟨hv25_a, hv25_b⟩ := hv25_
                        refine zr_if_eq (pc := 128) (tgt := 152) ⟨hv25_a, hv25_b⟩ (by decide) d_Units_straighten_128 (fun hc_128 => ?_) (fun hc_128 => ?_)
                        · skip
                          refine zr_iinc (pc := 152) (i := 5) (a := u14_) (n := 1) (L2 := [some (.ref (d_ + 28)), some (.int (Int32.ofInt u1_)), some (.int (Int32.ofInt u2_)), some (.int (Int32.ofInt u7_)), some (.int (Int32.ofInt v10_)), some (.int (Int32.ofInt (u14_ + 1)))]) rfl (by decide) rfl d_Units_straighten_152 ?_
                          obtain ⟨v26_, hv26_a, hv26_b, hv26_e, hv26_d⟩ := zk_gen (u14_ + 1)
                          rw [hv26_e]
                          refine zw_goto (pc := 155) (tgt := 98) (by decide) d_Units_straighten_155 ?_
                          exact ih_98 v26_ hv26_a hv26_b N15_ hs16_ (show 0 ≤ v26_ by first | assumption | omega) (by omega)
                        · skip
                          refine zw_aload_n (pc := 131) (n := 0) (x := (d_ + 28)) rfl d_Units_straighten_131 ?_
                          refine zw_getF (pc := 132) f_Units_14 rfl ((hf_N15_.w hW).kr (o := 28) (by decide)) ((hf_N15_.w hW).lr (o := 28) (s := 1) (r := 29) (by decide)) d_Units_straighten_132 ?_
                          refine zw_iload (pc := 135) (i := 5) (x := Int32.ofInt u14_) rfl d_Units_straighten_135 ?_
                          refine zw_aload_n (pc := 137) (n := 0) (x := (d_ + 28)) rfl d_Units_straighten_137 ?_
                          refine zw_getF (pc := 138) f_Units_14 rfl ((hf_N15_.w hW).kr (o := 28) (by decide)) ((hf_N15_.w hW).lr (o := 28) (s := 1) (r := 29) (by decide)) d_Units_straighten_138 ?_
                          refine zw_iload (pc := 141) (i := 5) (x := Int32.ofInt u14_) rfl d_Units_straighten_141 ?_
                          refine zk_atG hf_N15_.x (pc := 143) l_Units_57 ((hf_N15_.w hW).kr (o := 29) (by decide)) ((hf_N15_.w hW).lr (o := 29) (s := 0) (r := 30) (by decide)) ((hf_N15_.w hW).rr (o := 30) (t := 1) (n := 27) (by decide)) (by decide) ⟨by omega, by omega⟩ (by decide) (Nat.le_of_ble_eq_true rfl) d_Units_straighten_143 (fun v27_ hv27_ hv27_a hv27_b => ?_)
                          clear hv27_
                          refine zw_iload (pc := 146) (i := 4) (x := Int32.ofInt v10_) rfl d_Units_straighten_146 ?_
                          refine zr_ixor (pc := 148) d_Units_straighten_148 ?_
                          have hr28_ := zxor_r v27_ v10_
                          refine zr_nmI (fun v29_ hv29_ => ?_)
                          obtain ⟨hv29_a, hv29_b⟩ := hv29_
                          refine zk_stG hf_N15_.x (pc := 149) (o := 30) (by decide) l_Units_40 ((hf_N15_.w hW).kr (o := 29) (by decide)) ((hf_N15_.w hW).lr (o := 29) (s := 0) (r := 30) (by decide)) ((hf_N15_.w hW).rr (o := 30) (t := 1) (n := 27) (by decide)) (by decide) ⟨by omega, by omega⟩ (by decide) (Nat.le_of_ble_eq_true rfl) d_Units_straighten_149 (fun N30_ hsN30_ => ?_)
                          have hf_N30_ : zFc d_ [] [] [] [30] Mz N30_ := hf_N15_.tr hsN30_ (by decide) (by decide) (by decide) (by decide)
                          have hb0_N30_ : zFc d_ [] [] [] [30] Mz N30_ := hb0_N15_.tr hsN30_ (by decide) (by decide) (by decide) (by decide)
                          have hb1_N30_ : zFc d_ [] [] [] [30] N13_ N30_ := hs16_.tr hsN30_ (by decide) (by decide) (by decide) (by decide)
                          refine zr_iinc (pc := 152) (i := 5) (a := u14_) (n := 1) (L2 := [some (.ref (d_ + 28)), some (.int (Int32.ofInt u1_)), some (.int (Int32.ofInt u2_)), some (.int (Int32.ofInt u7_)), some (.int (Int32.ofInt v10_)), some (.int (Int32.ofInt (u14_ + 1)))]) rfl (by decide) rfl d_Units_straighten_152 ?_
                          obtain ⟨v31_, hv31_a, hv31_b, hv31_e, hv31_d⟩ := zk_gen (u14_ + 1)
                          rw [hv31_e]
                          refine zw_goto (pc := 155) (tgt := 98) (by decide) d_Units_straighten_155 ?_
                          exact ih_98 v31_ hv31_a hv31_b N30_ hb1_N30_ (show 0 ≤ v31_ by first | assumption | omega) (by omega)
                exact lp_98 _ 0 (by decide) (by decide) N13_ zFc.rf (show 0 ≤ (0 : Int) by first | assumption | omega) (Nat.lt_succ_self _)
              · skip
                refine zw_goto (pc := 56) (tgt := 161) (by decide) d_Units_straighten_56 ?_
                refine zr_iinc (pc := 161) (i := 2) (a := u2_) (n := 1) (L2 := [some (.ref (d_ + 28)), some (.int (Int32.ofInt u1_)), some (.int (Int32.ofInt (u2_ + 1))), some (.int (Int32.ofInt u7_)), none, none]) rfl (by decide) rfl d_Units_straighten_161 ?_
                obtain ⟨v32_, hv32_a, hv32_b, hv32_e, hv32_d⟩ := zk_gen (u2_ + 1)
                rw [hv32_e]
                refine zw_goto (pc := 164) (tgt := 4) (by decide) d_Units_straighten_164 ?_
                refine zW_le [some (.ref (d_ + 28)), some (.int (Int32.ofInt u1_)), some (.int (Int32.ofInt v32_)), none, none, none] (⟨rfl, rfl, rfl, trivial⟩) ?_
                exact ih_4 u1_ hu1_a hu1_b v32_ hv32_a hv32_b N3_ hs4_ (show 0 ≤ v32_ by first | assumption | omega) (by omega)
            · skip
              refine zw_aload_n (pc := 25) (n := 0) (x := (d_ + 28)) rfl d_Units_straighten_25 ?_
              refine zw_getF (pc := 26) f_Units_14 rfl ((hf_N3_.w hW).kr (o := 28) (by decide)) ((hf_N3_.w hW).lr (o := 28) (s := 1) (r := 29) (by decide)) d_Units_straighten_26 ?_
              refine zw_iload_n (pc := 29) (n := 3) (x := Int32.ofInt u7_) rfl d_Units_straighten_29 ?_
              refine zk_atG hf_N3_.x (pc := 30) l_Units_57 ((hf_N3_.w hW).kr (o := 29) (by decide)) ((hf_N3_.w hW).lr (o := 29) (s := 0) (r := 30) (by decide)) ((hf_N3_.w hW).rr (o := 30) (t := 1) (n := 27) (by decide)) (by decide) ⟨by omega, by omega⟩ (by decide) (Nat.le_of_ble_eq_true rfl) d_Units_straighten_30 (fun v33_ hv33_ hv33_a hv33_b => ?_)
              clear hv33_
              refine zw_aload_n (pc := 33) (n := 0) (x := (d_ + 28)) rfl d_Units_straighten_33 ?_
              refine zw_iload_n (pc := 34) (n := 2) (x := Int32.ofInt u2_) rfl d_Units_straighten_34 ?_
              refine zk_callV hf_N3_.x (pc := 35) [.int (Int32.ofInt u2_)] [.int (Int32.ofInt v33_)] l_Units_80 (u_Units_bitOfX l d_ N3_ (hf_N3_.w hW) u2_ hu2_a hu2_b) rfl rfl ((hf_N3_.w hW).kr (o := 28) (by decide)) (by decide) (by decide) (Nat.le_of_ble_eq_true rfl) d_Units_straighten_35 ?_
              rintro _ N34_ ⟨v35_, rfl, ⟨hv35_a, hv35_b⟩, hsN34_, -⟩
              obtain rfl := hsN34_.eq.symm
              show zW l m_Units_straighten (zn Mz + 0, zw Mz + 0) N3_ 38 [some (.ref (d_ + 28)), some (.int (Int32.ofInt u1_)), some (.int (Int32.ofInt u2_)), some (.int (Int32.ofInt u7_)), none, none] [.int (Int32.ofInt v35_), .int (Int32.ofInt v33_)] (zqcV d_ [] [] [] [30] Mz (fun N => True))
              refine zr_iand (pc := 38) d_Units_straighten_38 ?_
              have hr36_ := zand_r v33_ v35_
              refine zr_nmI (fun v37_ hv37_ => ?_)
              obtain ⟨hv37_a, hv37_b⟩ := hv37_
              refine zr_if_ne (pc := 39) (tgt := 48) ⟨hv37_a, hv37_b⟩ (by decide) d_Units_straighten_39 (fun hc_39 => ?_) (fun hc_39 => ?_)
              · skip
                refine zw_iload_n (pc := 48) (n := 3) (x := Int32.ofInt u7_) rfl d_Units_straighten_48 ?_
                refine zw_aload_n (pc := 49) (n := 0) (x := (d_ + 28)) rfl d_Units_straighten_49 ?_
                refine zk_getI (pc := 50) f_Units_31 rfl ((hf_N3_.w hW).kr (o := 28) (by decide)) d_Units_straighten_50 ?_
                rw [hf_N3_.e (by decide)]
                refine zr_icmp_lt (pc := 53) (tgt := 59) ⟨hu7_a, hu7_b⟩ ⟨(ze_r Mz (d_ + 28) 3).1, (ze_r Mz (d_ + 28) 3).2⟩ (by decide) d_Units_straighten_53 (fun hc_53 => ?_) (fun hc_53 => ?_)
                · skip
                  refine zw_aload_n (pc := 59) (n := 0) (x := (d_ + 28)) rfl d_Units_straighten_59 ?_
                  refine zw_getF (pc := 60) f_Units_14 rfl ((hf_N3_.w hW).kr (o := 28) (by decide)) ((hf_N3_.w hW).lr (o := 28) (s := 1) (r := 29) (by decide)) d_Units_straighten_60 ?_
                  refine zw_iload_n (pc := 63) (n := 3) (x := Int32.ofInt u7_) rfl d_Units_straighten_63 ?_
                  refine zk_atG hf_N3_.x (pc := 64) l_Units_57 ((hf_N3_.w hW).kr (o := 29) (by decide)) ((hf_N3_.w hW).lr (o := 29) (s := 0) (r := 30) (by decide)) ((hf_N3_.w hW).rr (o := 30) (t := 1) (n := 27) (by decide)) (by decide) ⟨by omega, by omega⟩ (by decide) (Nat.le_of_ble_eq_true rfl) d_Units_straighten_64 (fun v38_ hv38_ hv38_a hv38_b => ?_)
                  clear hv38_
                  refine zw_istore (pc := 67) (i := 4) (L2 := [some (.ref (d_ + 28)), some (.int (Int32.ofInt u1_)), some (.int (Int32.ofInt u2_)), some (.int (Int32.ofInt u7_)), some (.int (Int32.ofInt v38_)), none]) (by decide) rfl d_Units_straighten_67 ?_
                  refine zw_aload_n (pc := 69) (n := 0) (x := (d_ + 28)) rfl d_Units_straighten_69 ?_
                  refine zw_getF (pc := 70) f_Units_14 rfl ((hf_N3_.w hW).kr (o := 28) (by decide)) ((hf_N3_.w hW).lr (o := 28) (s := 1) (r := 29) (by decide)) d_Units_straighten_70 ?_
                  refine zw_iload_n (pc := 73) (n := 3) (x := Int32.ofInt u7_) rfl d_Units_straighten_73 ?_
                  refine zw_aload_n (pc := 74) (n := 0) (x := (d_ + 28)) rfl d_Units_straighten_74 ?_
                  refine zw_getF (pc := 75) f_Units_14 rfl ((hf_N3_.w hW).kr (o := 28) (by decide)) ((hf_N3_.w hW).lr (o := 28) (s := 1) (r := 29) (by decide)) d_Units_straighten_75 ?_
                  refine zw_iload_n (pc := 78) (n := 1) (x := Int32.ofInt u1_) rfl d_Units_straighten_78 ?_
                  refine zk_atG hf_N3_.x (pc := 79) l_Units_57 ((hf_N3_.w hW).kr (o := 29) (by decide)) ((hf_N3_.w hW).lr (o := 29) (s := 0) (r := 30) (by decide)) ((hf_N3_.w hW).rr (o := 30) (t := 1) (n := 27) (by decide)) (by decide) ⟨by omega, by omega⟩ (by decide) (Nat.le_of_ble_eq_true rfl) d_Units_straighten_79 (fun v39_ hv39_ hv39_a hv39_b => ?_)
                  clear hv39_
                  refine zk_stG hf_N3_.x (pc := 82) (o := 30) (by decide) l_Units_40 ((hf_N3_.w hW).kr (o := 29) (by decide)) ((hf_N3_.w hW).lr (o := 29) (s := 0) (r := 30) (by decide)) ((hf_N3_.w hW).rr (o := 30) (t := 1) (n := 27) (by decide)) (by decide) ⟨by omega, by omega⟩ (by decide) (Nat.le_of_ble_eq_true rfl) d_Units_straighten_82 (fun N40_ hsN40_ => ?_)
                  have hf_N40_ : zFc d_ [] [] [] [30] Mz N40_ := hf_N3_.tr hsN40_ (by decide) (by decide) (by decide) (by decide)
                  have hb0_N40_ : zFc d_ [] [] [] [30] Mz N40_ := hs4_.tr hsN40_ (by decide) (by decide) (by decide) (by decide)
                  refine zw_aload_n (pc := 85) (n := 0) (x := (d_ + 28)) rfl d_Units_straighten_85 ?_
                  refine zw_getF (pc := 86) f_Units_14 rfl ((hf_N40_.w hW).kr (o := 28) (by decide)) ((hf_N40_.w hW).lr (o := 28) (s := 1) (r := 29) (by decide)) d_Units_straighten_86 ?_
                  refine zw_iload_n (pc := 89) (n := 1) (x := Int32.ofInt u1_) rfl d_Units_straighten_89 ?_
                  refine zw_iload (pc := 90) (i := 4) (x := Int32.ofInt v38_) rfl d_Units_straighten_90 ?_
                  refine zk_stG hf_N40_.x (pc := 92) (o := 30) (by decide) l_Units_40 ((hf_N40_.w hW).kr (o := 29) (by decide)) ((hf_N40_.w hW).lr (o := 29) (s := 0) (r := 30) (by decide)) ((hf_N40_.w hW).rr (o := 30) (t := 1) (n := 27) (by decide)) (by decide) ⟨by omega, by omega⟩ (by decide) (Nat.le_of_ble_eq_true rfl) d_Units_straighten_92 (fun N41_ hsN41_ => ?_)
                  have hf_N41_ : zFc d_ [] [] [] [30] Mz N41_ := hf_N40_.tr hsN41_ (by decide) (by decide) (by decide) (by decide)
                  have hb0_N41_ : zFc d_ [] [] [] [30] Mz N41_ := hb0_N40_.tr hsN41_ (by decide) (by decide) (by decide) (by decide)
                  refine zw_iconst (pc := 95) (v := Int32.ofInt 0) (by decide) d_Units_straighten_95 ?_
                  refine zw_istore (pc := 96) (i := 5) (L2 := [some (.ref (d_ + 28)), some (.int (Int32.ofInt u1_)), some (.int (Int32.ofInt u2_)), some (.int (Int32.ofInt u7_)), some (.int (Int32.ofInt v38_)), some (.int (Int32.ofInt 0))]) (by decide) rfl d_Units_straighten_96 ?_
                  have lp_98 : ∀ (n : Nat) (u42_ : Int) (hu42_a : -2147483648 ≤ u42_) (hu42_b : u42_ < 2147483648) (N43_ : zMem) (hs44_ : zFc d_ [] [] [] [30] N41_ N43_) (i45_ : 0 ≤ u42_), (ze Mz (d_ + 28) 3 - u42_).toNat < n → zW l m_Units_straighten (zn Mz + 0, zw Mz + 0) N43_ 98 [some (.ref (d_ + 28)), some (.int (Int32.ofInt u1_)), some (.int (Int32.ofInt u2_)), some (.int (Int32.ofInt u7_)), some (.int (Int32.ofInt v38_)), some (.int (Int32.ofInt u42_))] [] (zqcV d_ [] [] [] [30] Mz (fun N => True)) := by
                    intro n
                    induction n with
                    | zero =>
                      intro u42_ hu42_a hu42_b N43_ hs44_ i45_ h0
                      exact absurd h0 (Nat.not_lt_zero _)
                    | succ n ih_98 =>
                      intro u42_ hu42_a hu42_b N43_ hs44_ i45_ hlt_98
                      have hf_N43_ : zFc d_ [] [] [] [30] Mz N43_ := hf_N41_.tr hs44_ (by decide) (by decide) (by decide) (by decide)
                      have hb0_N43_ : zFc d_ [] [] [] [30] Mz N43_ := hb0_N41_.tr hs44_ (by decide) (by decide) (by decide) (by decide)
                      refine zw_iload (pc := 98) (i := 5) (x := Int32.ofInt u42_) rfl d_Units_straighten_98 ?_
                      refine zw_aload_n (pc := 100) (n := 0) (x := (d_ + 28)) rfl d_Units_straighten_100 ?_
                      refine zk_getI (pc := 101) f_Units_31 rfl ((hf_N43_.w hW).kr (o := 28) (by decide)) d_Units_straighten_101 ?_
                      rw [hf_N43_.e (by decide)]
                      refine zr_icmp_ge (pc := 104) (tgt := 158) ⟨hu42_a, hu42_b⟩ ⟨(ze_r Mz (d_ + 28) 3).1, (ze_r Mz (d_ + 28) 3).2⟩ (by decide) d_Units_straighten_104 (fun hc_104 => ?_) (fun hc_104 => ?_)
                      · skip
                        refine zr_iinc (pc := 158) (i := 1) (a := u1_) (n := 1) (L2 := [some (.ref (d_ + 28)), some (.int (Int32.ofInt (u1_ + 1))), some (.int (Int32.ofInt u2_)), some (.int (Int32.ofInt u7_)), some (.int (Int32.ofInt v38_)), some (.int (Int32.ofInt u42_))]) rfl (by decide) rfl d_Units_straighten_158 ?_
                        obtain ⟨v46_, hv46_a, hv46_b, hv46_e, hv46_d⟩ := zk_gen (u1_ + 1)
                        rw [hv46_e]
                        refine zr_iinc (pc := 161) (i := 2) (a := u2_) (n := 1) (L2 := [some (.ref (d_ + 28)), some (.int (Int32.ofInt v46_)), some (.int (Int32.ofInt (u2_ + 1))), some (.int (Int32.ofInt u7_)), some (.int (Int32.ofInt v38_)), some (.int (Int32.ofInt u42_))]) rfl (by decide) rfl d_Units_straighten_161 ?_
                        obtain ⟨v47_, hv47_a, hv47_b, hv47_e, hv47_d⟩ := zk_gen (u2_ + 1)
                        rw [hv47_e]
                        refine zw_goto (pc := 164) (tgt := 4) (by decide) d_Units_straighten_164 ?_
                        refine zW_le [some (.ref (d_ + 28)), some (.int (Int32.ofInt v46_)), some (.int (Int32.ofInt v47_)), none, none, none] (⟨rfl, rfl, rfl, trivial⟩) ?_
                        exact ih_4 v46_ hv46_a hv46_b v47_ hv47_a hv47_b N43_ hb0_N43_ (show 0 ≤ v47_ by first | assumption | omega) (by omega)
                      · skip
                        refine zw_iload (pc := 107) (i := 5) (x := Int32.ofInt u42_) rfl d_Units_straighten_107 ?_
                        refine zw_iload_n (pc := 109) (n := 1) (x := Int32.ofInt u1_) rfl d_Units_straighten_109 ?_
                        refine zr_icmp_eq (pc := 110) (tgt := 152) ⟨hu42_a, hu42_b⟩ ⟨hu1_a, hu1_b⟩ (by decide) d_Units_straighten_110 (fun hc_110 => ?_) (fun hc_110 => ?_)
                        · skip
                          refine zr_iinc (pc := 152) (i := 5) (a := u42_) (n := 1) (L2 := [some (.ref (d_ + 28)), some (.int (Int32.ofInt u1_)), some (.int (Int32.ofInt u2_)), some (.int (Int32.ofInt u7_)), some (.int (Int32.ofInt v38_)), some (.int (Int32.ofInt (u42_ + 1)))]) rfl (by decide) rfl d_Units_straighten_152 ?_
                          obtain ⟨v48_, hv48_a, hv48_b, hv48_e, hv48_d⟩ := zk_gen (u42_ + 1)
                          rw [hv48_e]
                          refine zw_goto (pc := 155) (tgt := 98) (by decide) d_Units_straighten_155 ?_
                          exact ih_98 v48_ hv48_a hv48_b N43_ hs44_ (show 0 ≤ v48_ by first | assumption | omega) (by omega)
                        · skip
                          refine zw_aload_n (pc := 113) (n := 0) (x := (d_ + 28)) rfl d_Units_straighten_113 ?_
                          refine zw_getF (pc := 114) f_Units_14 rfl ((hf_N43_.w hW).kr (o := 28) (by decide)) ((hf_N43_.w hW).lr (o := 28) (s := 1) (r := 29) (by decide)) d_Units_straighten_114 ?_
                          refine zw_iload (pc := 117) (i := 5) (x := Int32.ofInt u42_) rfl d_Units_straighten_117 ?_
                          refine zk_atG hf_N43_.x (pc := 119) l_Units_57 ((hf_N43_.w hW).kr (o := 29) (by decide)) ((hf_N43_.w hW).lr (o := 29) (s := 0) (r := 30) (by decide)) ((hf_N43_.w hW).rr (o := 30) (t := 1) (n := 27) (by decide)) (by decide) ⟨by omega, by omega⟩ (by decide) (Nat.le_of_ble_eq_true rfl) d_Units_straighten_119 (fun v49_ hv49_ hv49_a hv49_b => ?_)
                          clear hv49_
                          refine zw_aload_n (pc := 122) (n := 0) (x := (d_ + 28)) rfl d_Units_straighten_122 ?_
                          refine zw_iload_n (pc := 123) (n := 2) (x := Int32.ofInt u2_) rfl d_Units_straighten_123 ?_
                          refine zk_callV hf_N43_.x (pc := 124) [.int (Int32.ofInt u2_)] [.int (Int32.ofInt v49_)] l_Units_80 (u_Units_bitOfX l d_ N43_ (hf_N43_.w hW) u2_ hu2_a hu2_b) rfl rfl ((hf_N43_.w hW).kr (o := 28) (by decide)) (by decide) (by decide) (Nat.le_of_ble_eq_true rfl) d_Units_straighten_124 ?_
                          rintro _ N50_ ⟨v51_, rfl, ⟨hv51_a, hv51_b⟩, hsN50_, -⟩
                          obtain rfl := hsN50_.eq.symm
                          show zW l m_Units_straighten (zn Mz + 0, zw Mz + 0) N43_ 127 [some (.ref (d_ + 28)), some (.int (Int32.ofInt u1_)), some (.int (Int32.ofInt u2_)), some (.int (Int32.ofInt u7_)), some (.int (Int32.ofInt v38_)), some (.int (Int32.ofInt u42_))] [.int (Int32.ofInt v51_), .int (Int32.ofInt v49_)] (zqcV d_ [] [] [] [30] Mz (fun N => True))
                          refine zr_iand (pc := 127) d_Units_straighten_127 ?_
                          have hr52_ := zand_r v49_ v51_
                          refine zr_nmI (fun v53_ hv53_ => ?_)
                          obtain ⟨hv53_a, hv53_b⟩ := hv53_
                          refine zr_if_eq (pc := 128) (tgt := 152) ⟨hv53_a, hv53_b⟩ (by decide) d_Units_straighten_128 (fun hc_128 => ?_) (fun hc_128 => ?_)
                          · skip
                            refine zr_iinc (pc := 152) (i := 5) (a := u42_) (n := 1) (L2 := [some (.ref (d_ + 28)), some (.int (Int32.ofInt u1_)), some (.int (Int32.ofInt u2_)), some (.int (Int32.ofInt u7_)), some (.int (Int32.ofInt v38_)), some (.int (Int32.ofInt (u42_ + 1)))]) rfl (by decide) rfl d_Units_straighten_152 ?_
                            obtain ⟨v54_, hv54_a, hv54_b, hv54_e, hv54_d⟩ := zk_gen (u42_ + 1)
                            rw [hv54_e]
                            refine zw_goto (pc := 155) (tgt := 98) (by decide) d_Units_straighten_155 ?_
                            exact ih_98 v54_ hv54_a hv54_b N43_ hs44_ (show 0 ≤ v54_ by first | assumption | omega) (by omega)
                          · skip
                            refine zw_aload_n (pc := 131) (n := 0) (x := (d_ + 28)) rfl d_Units_straighten_131 ?_
                            refine zw_getF (pc := 132) f_Units_14 rfl ((hf_N43_.w hW).kr (o := 28) (by decide)) ((hf_N43_.w hW).lr (o := 28) (s := 1) (r := 29) (by decide)) d_Units_straighten_132 ?_
                            refine zw_iload (pc := 135) (i := 5) (x := Int32.ofInt u42_) rfl d_Units_straighten_135 ?_
                            refine zw_aload_n (pc := 137) (n := 0) (x := (d_ + 28)) rfl d_Units_straighten_137 ?_
                            refine zw_getF (pc := 138) f_Units_14 rfl ((hf_N43_.w hW).kr (o := 28) (by decide)) ((hf_N43_.w hW).lr (o := 28) (s := 1) (r := 29) (by decide)) d_Units_straighten_138 ?_
                            refine zw_iload (pc := 141) (i := 5) (x := Int32.ofInt u42_) rfl d_Units_straighten_141 ?_
                            refine zk_atG hf_N43_.x (pc := 143) l_Units_57 ((hf_N43_.w hW).kr (o := 29) (by decide)) ((hf_N43_.w hW).lr (o := 29) (s := 0) (r := 30) (by decide)) ((hf_N43_.w hW).rr (o := 30) (t := 1) (n := 27) (by decide)) (by decide) ⟨by omega, by omega⟩ (by decide) (Nat.le_of_ble_eq_true rfl) d_Units_straighten_143 (fun v55_ hv55_ hv55_a hv55_b => ?_)
                            clear hv55_
                            refine zw_iload (pc := 146) (i := 4) (x := Int32.ofInt v38_) rfl d_Units_straighten_146 ?_
                            refine zr_ixor (pc := 148) d_Units_straighten_148 ?_
                            have hr56_ := zxor_r v55_ v38_
                            refine zr_nmI (fun v57_ hv57_ => ?_)
                            obtain ⟨hv57_a, hv57_b⟩ := hv57_
                            refine zk_stG hf_N43_.x (pc := 149) (o := 30) (by decide) l_Units_40 ((hf_N43_.w hW).kr (o := 29) (by decide)) ((hf_N43_.w hW).lr (o := 29) (s := 0) (r := 30) (by decide)) ((hf_N43_.w hW).rr (o := 30) (t := 1) (n := 27) (by decide)) (by decide) ⟨by omega, by omega⟩ (by decide) (Nat.le_of_ble_eq_true rfl) d_Units_straighten_149 (fun N58_ hsN58_ => ?_)
                            have hf_N58_ : zFc d_ [] [] [] [30] Mz N58_ := hf_N43_.tr hsN58_ (by decide) (by decide) (by decide) (by decide)
                            have hb0_N58_ : zFc d_ [] [] [] [30] Mz N58_ := hb0_N43_.tr hsN58_ (by decide) (by decide) (by decide) (by decide)
                            have hb1_N58_ : zFc d_ [] [] [] [30] N41_ N58_ := hs44_.tr hsN58_ (by decide) (by decide) (by decide) (by decide)
                            refine zr_iinc (pc := 152) (i := 5) (a := u42_) (n := 1) (L2 := [some (.ref (d_ + 28)), some (.int (Int32.ofInt u1_)), some (.int (Int32.ofInt u2_)), some (.int (Int32.ofInt u7_)), some (.int (Int32.ofInt v38_)), some (.int (Int32.ofInt (u42_ + 1)))]) rfl (by decide) rfl d_Units_straighten_152 ?_
                            obtain ⟨v59_, hv59_a, hv59_b, hv59_e, hv59_d⟩ := zk_gen (u42_ + 1)
                            rw [hv59_e]
                            refine zw_goto (pc := 155) (tgt := 98) (by decide) d_Units_straighten_155 ?_
                            exact ih_98 v59_ hv59_a hv59_b N58_ hb1_N58_ (show 0 ≤ v59_ by first | assumption | omega) (by omega)
                  exact lp_98 _ 0 (by decide) (by decide) N41_ zFc.rf (show 0 ≤ (0 : Int) by first | assumption | omega) (Nat.lt_succ_self _)
                · skip
                  refine zw_goto (pc := 56) (tgt := 161) (by decide) d_Units_straighten_56 ?_
                  refine zr_iinc (pc := 161) (i := 2) (a := u2_) (n := 1) (L2 := [some (.ref (d_ + 28)), some (.int (Int32.ofInt u1_)), some (.int (Int32.ofInt (u2_ + 1))), some (.int (Int32.ofInt u7_)), none, none]) rfl (by decide) rfl d_Units_straighten_161 ?_
                  obtain ⟨v60_, hv60_a, hv60_b, hv60_e, hv60_d⟩ := zk_gen (u2_ + 1)
                  rw [hv60_e]
                  refine zw_goto (pc := 164) (tgt := 4) (by decide) d_Units_straighten_164 ?_
                  refine zW_le [some (.ref (d_ + 28)), some (.int (Int32.ofInt u1_)), some (.int (Int32.ofInt v60_)), none, none, none] (⟨rfl, rfl, rfl, trivial⟩) ?_
                  exact ih_4 u1_ hu1_a hu1_b v60_ hv60_a hv60_b N3_ hs4_ (show 0 ≤ v60_ by first | assumption | omega) (by omega)
              · skip
                refine zr_iinc (pc := 42) (i := 3) (a := u7_) (n := 1) (L2 := [some (.ref (d_ + 28)), some (.int (Int32.ofInt u1_)), some (.int (Int32.ofInt u2_)), some (.int (Int32.ofInt (u7_ + 1))), none, none]) rfl (by decide) rfl d_Units_straighten_42 ?_
                obtain ⟨v61_, hv61_a, hv61_b, hv61_e, hv61_d⟩ := zk_gen (u7_ + 1)
                rw [hv61_e]
                refine zw_goto (pc := 45) (tgt := 17) (by decide) d_Units_straighten_45 ?_
                exact ih_17 v61_ hv61_a hv61_b (show u1_ ≤ v61_ by first | assumption | omega) (by omega)
        exact lp_17 _ u1_ hu1_a hu1_b (show u1_ ≤ u1_ by first | assumption | omega) (Nat.lt_succ_self _)
  exact lp_4 _ 0 (by decide) (by decide) 0 (by decide) (by decide) Mz zFc.rf (show 0 ≤ (0 : Int) by first | assumption | omega) (Nat.lt_succ_self _)
set_option maxHeartbeats 4000000 in
theorem u_Units_narrowX (l : Launch) (d_ : Nat) (Mz : zMem) (hW : zKW d_ Mz) (a0_ : Int) (ha0_a : -2147483648 ≤ a0_) (ha0_b : a0_ < 2147483648) : zC l m_Units_narrow 0 0 [.ref (d_ + 28), .int (Int32.ofInt a0_)] Mz (zqcV d_ [] [] [(28, 3)] [30] Mz (fun N => True)) := by
  refine zC_of (L0 := [some (.ref (d_ + 28)), some (.int (Int32.ofInt a0_)), none, none]) md_Units_narrow (Nat.le_of_ble_eq_true rfl) rfl ?_ zQ0
  have hf : zFc d_ [] [] [(28, 3)] [30] Mz Mz := zFc.rf
  have r_D28_3 := ze_r Mz (d_ + 28) 3
  refine zw_iconst (pc := 0) (v := Int32.ofInt (-1)) (by decide) d_Units_narrow_0 ?_
  refine zw_istore_n (pc := 1) (i := 2) (L2 := [some (.ref (d_ + 28)), some (.int (Int32.ofInt a0_)), some (.int (Int32.ofInt ((-1)))), none]) rfl (by decide) rfl d_Units_narrow_1 ?_
  refine zw_iconst (pc := 2) (v := Int32.ofInt 0) (by decide) d_Units_narrow_2 ?_
  refine zw_istore_n (pc := 3) (i := 3) (L2 := [some (.ref (d_ + 28)), some (.int (Int32.ofInt a0_)), some (.int (Int32.ofInt ((-1)))), some (.int (Int32.ofInt 0))]) rfl (by decide) rfl d_Units_narrow_3 ?_
  have lp_4 : ∀ (n : Nat) (u1_ : Int) (hu1_a : -2147483648 ≤ u1_) (hu1_b : u1_ < 2147483648) (u2_ : Int) (hu2_a : -2147483648 ≤ u2_) (hu2_b : u2_ < 2147483648) (N3_ : zMem) (hs4_ : zFc d_ [] [] [] [30] Mz N3_) (i5_ : 0 ≤ u2_) (i6_ : ze N3_ (d_ + 28) 3 = ze Mz (d_ + 28) 3), (ze Mz (d_ + 28) 3 - u2_).toNat < n → zW l m_Units_narrow (zn Mz + 0, zw Mz + 0) N3_ 4 [some (.ref (d_ + 28)), some (.int (Int32.ofInt a0_)), some (.int (Int32.ofInt u1_)), some (.int (Int32.ofInt u2_))] [] (zqcV d_ [] [] [(28, 3)] [30] Mz (fun N => True)) := by
    intro n
    induction n with
    | zero =>
      intro u1_ hu1_a hu1_b u2_ hu2_a hu2_b N3_ hs4_ i5_ i6_ h0
      exact absurd h0 (Nat.not_lt_zero _)
    | succ n ih_4 =>
      intro u1_ hu1_a hu1_b u2_ hu2_a hu2_b N3_ hs4_ i5_ i6_ hlt_4
      have hf_N3_ : zFc d_ [] [] [(28, 3)] [30] Mz N3_ := hf.tr hs4_ (by decide) (by decide) (by decide) (by decide)
      have eD28_3_N3_ : ze N3_ (d_ + 28) 3 = ze Mz (d_ + 28) 3 := hs4_.e (by decide)
      refine zw_iload_n (pc := 4) (n := 3) (x := Int32.ofInt u2_) rfl d_Units_narrow_4 ?_
      refine zw_aload_n (pc := 5) (n := 0) (x := (d_ + 28)) rfl d_Units_narrow_5 ?_
      refine zk_getI (pc := 6) f_Units_31 rfl ((hf_N3_.w hW).kr (o := 28) (by decide)) d_Units_narrow_6 ?_
      have hr7_ := ze_r N3_ (d_ + 28) 3
      refine zr_icmp_ge (pc := 9) (tgt := 74) ⟨hu2_a, hu2_b⟩ ⟨(ze_r N3_ (d_ + 28) 3).1, (ze_r N3_ (d_ + 28) 3).2⟩ (by decide) d_Units_narrow_9 (fun hc_9 => ?_) (fun hc_9 => ?_)
      · skip
        refine zw_iload_n (pc := 74) (n := 2) (x := Int32.ofInt u1_) rfl d_Units_narrow_74 ?_
        refine zw_iconst (pc := 75) (v := Int32.ofInt (-1)) (by decide) d_Units_narrow_75 ?_
        refine zr_icmp_eq (pc := 76) (tgt := 108) ⟨hu1_a, hu1_b⟩ ⟨(by decide), (by decide)⟩ (by decide) d_Units_narrow_76 (fun hc_76 => ?_) (fun hc_76 => ?_)
        · skip
          exact zk_vret (pc := 108) rfl hf_N3_ trivial d_Units_narrow_108
        · skip
          refine zw_aload_n (pc := 79) (n := 0) (x := (d_ + 28)) rfl d_Units_narrow_79 ?_
          refine zw_dup (pc := 80) rfl d_Units_narrow_80 ?_
          refine zk_getI (pc := 81) f_Units_31 rfl ((hf_N3_.w hW).kr (o := 28) (by decide)) d_Units_narrow_81 ?_
          refine zw_iconst (pc := 84) (v := Int32.ofInt 1) (by decide) d_Units_narrow_84 ?_
          refine zr_isub (pc := 85) d_Units_narrow_85 ?_
          refine zr_nmI (fun v8_ hv8_ => ?_)
          obtain ⟨hv8_a, hv8_b⟩ := hv8_
          refine zk_putR (pc := 86) (o := 28) (by decide) f_Units_31 rfl rfl ((hf_N3_.w hW).kr (o := 28) (by decide)) ⟨by omega, by omega⟩ rfl rfl d_Units_narrow_86 (fun N9_ hsN9_ hvN9_ => ?_)
          have hf_N9_ : zFc d_ [] [] [(28, 3)] [30] Mz N9_ := hf_N3_.tr hsN9_ (by decide) (by decide) (by decide) (by decide)
          have rD28_3_N9_ := ze_r N9_ (d_ + 28) 3
          refine zw_aload_n (pc := 89) (n := 0) (x := (d_ + 28)) rfl d_Units_narrow_89 ?_
          refine zw_getF (pc := 90) f_Units_14 rfl ((hf_N9_.w hW).kr (o := 28) (by decide)) ((hf_N9_.w hW).lr (o := 28) (s := 1) (r := 29) (by decide)) d_Units_narrow_90 ?_
          refine zw_iload_n (pc := 93) (n := 2) (x := Int32.ofInt u1_) rfl d_Units_narrow_93 ?_
          refine zw_aload_n (pc := 94) (n := 0) (x := (d_ + 28)) rfl d_Units_narrow_94 ?_
          refine zw_getF (pc := 95) f_Units_14 rfl ((hf_N9_.w hW).kr (o := 28) (by decide)) ((hf_N9_.w hW).lr (o := 28) (s := 1) (r := 29) (by decide)) d_Units_narrow_95 ?_
          refine zw_aload_n (pc := 98) (n := 0) (x := (d_ + 28)) rfl d_Units_narrow_98 ?_
          refine zk_getI (pc := 99) f_Units_31 rfl ((hf_N9_.w hW).kr (o := 28) (by decide)) d_Units_narrow_99 ?_
          have hr10_ := ze_r N9_ (d_ + 28) 3
          refine zk_atG hf_N9_.x (pc := 102) l_Units_57 ((hf_N9_.w hW).kr (o := 29) (by decide)) ((hf_N9_.w hW).lr (o := 29) (s := 0) (r := 30) (by decide)) ((hf_N9_.w hW).rr (o := 30) (t := 1) (n := 27) (by decide)) (by decide) ⟨by omega, by omega⟩ (by decide) (Nat.le_of_ble_eq_true rfl) d_Units_narrow_102 (fun v11_ hv11_ hv11_a hv11_b => ?_)
          clear hv11_
          refine zk_stG hf_N9_.x (pc := 105) (o := 30) (by decide) l_Units_40 ((hf_N9_.w hW).kr (o := 29) (by decide)) ((hf_N9_.w hW).lr (o := 29) (s := 0) (r := 30) (by decide)) ((hf_N9_.w hW).rr (o := 30) (t := 1) (n := 27) (by decide)) (by decide) ⟨by omega, by omega⟩ (by decide) (Nat.le_of_ble_eq_true rfl) d_Units_narrow_105 (fun N12_ hsN12_ => ?_)
          have hf_N12_ : zFc d_ [] [] [(28, 3)] [30] Mz N12_ := hf_N9_.tr hsN12_ (by decide) (by decide) (by decide) (by decide)
          have eD28_3_N12_ : ze N12_ (d_ + 28) 3 = ze N9_ (d_ + 28) 3 := hsN12_.e (by decide)
          exact zk_vret (pc := 108) rfl hf_N12_ trivial d_Units_narrow_108
      · skip
        refine zw_aload_n (pc := 12) (n := 0) (x := (d_ + 28)) rfl d_Units_narrow_12 ?_
        refine zw_getF (pc := 13) f_Units_14 rfl ((hf_N3_.w hW).kr (o := 28) (by decide)) ((hf_N3_.w hW).lr (o := 28) (s := 1) (r := 29) (by decide)) d_Units_narrow_13 ?_
        refine zw_iload_n (pc := 16) (n := 3) (x := Int32.ofInt u2_) rfl d_Units_narrow_16 ?_
        refine zk_atG hf_N3_.x (pc := 17) l_Units_57 ((hf_N3_.w hW).kr (o := 29) (by decide)) ((hf_N3_.w hW).lr (o := 29) (s := 0) (r := 30) (by decide)) ((hf_N3_.w hW).rr (o := 30) (t := 1) (n := 27) (by decide)) (by decide) ⟨by omega, by omega⟩ (by decide) (Nat.le_of_ble_eq_true rfl) d_Units_narrow_17 (fun v13_ hv13_ hv13_a hv13_b => ?_)
        clear hv13_
        refine zw_iload_n (pc := 20) (n := 1) (x := Int32.ofInt a0_) rfl d_Units_narrow_20 ?_
        refine zr_iand (pc := 21) d_Units_narrow_21 ?_
        have hr14_ := zand_r v13_ a0_
        refine zr_nmI (fun v15_ hv15_ => ?_)
        obtain ⟨hv15_a, hv15_b⟩ := hv15_
        refine zr_callS hf_N3_.x (pc := 22) [.int (Int32.ofInt v15_)] [] l_Units_89 (u_Integer_bitCountX l d_ N3_ (hf_N3_.w hW) v15_ hv15_a hv15_b) rfl rfl (by decide) (Nat.le_of_ble_eq_true rfl) d_Units_narrow_22 ?_
        rintro _ N16_ ⟨v17_, rfl, ⟨hv17_a, hv17_b⟩, hsN16_, ⟨hp0_N16_, hp1_N16_⟩⟩
        obtain rfl := hsN16_.eq.symm
        show zW l m_Units_narrow (zn Mz + 0, zw Mz + 0) N3_ 25 [some (.ref (d_ + 28)), some (.int (Int32.ofInt a0_)), some (.int (Int32.ofInt u1_)), some (.int (Int32.ofInt u2_))] [.int (Int32.ofInt v17_)] (zqcV d_ [] [] [(28, 3)] [30] Mz (fun N => True))
        refine zw_iconst (pc := 25) (v := Int32.ofInt 1) (by decide) d_Units_narrow_25 ?_
        refine zr_iand (pc := 26) d_Units_narrow_26 ?_
        have hr18_ := zand_r v17_ 1
        refine zr_nmI (fun v19_ hv19_ => ?_)
        obtain ⟨hv19_a, hv19_b⟩ := hv19_
        refine zr_if_ne (pc := 27) (tgt := 33) ⟨hv19_a, hv19_b⟩ (by decide) d_Units_narrow_27 (fun hc_27 => ?_) (fun hc_27 => ?_)
        · skip
          refine zw_iload_n (pc := 33) (n := 2) (x := Int32.ofInt u1_) rfl d_Units_narrow_33 ?_
          refine zw_iconst (pc := 34) (v := Int32.ofInt (-1)) (by decide) d_Units_narrow_34 ?_
          refine zr_icmp_ne (pc := 35) (tgt := 43) ⟨hu1_a, hu1_b⟩ ⟨(by decide), (by decide)⟩ (by decide) d_Units_narrow_35 (fun hc_35 => ?_) (fun hc_35 => ?_)
          · skip
            refine zw_aload_n (pc := 43) (n := 0) (x := (d_ + 28)) rfl d_Units_narrow_43 ?_
            refine zw_getF (pc := 44) f_Units_14 rfl ((hf_N3_.w hW).kr (o := 28) (by decide)) ((hf_N3_.w hW).lr (o := 28) (s := 1) (r := 29) (by decide)) d_Units_narrow_44 ?_
            refine zw_iload_n (pc := 47) (n := 3) (x := Int32.ofInt u2_) rfl d_Units_narrow_47 ?_
            refine zw_aload_n (pc := 48) (n := 0) (x := (d_ + 28)) rfl d_Units_narrow_48 ?_
            refine zw_getF (pc := 49) f_Units_14 rfl ((hf_N3_.w hW).kr (o := 28) (by decide)) ((hf_N3_.w hW).lr (o := 28) (s := 1) (r := 29) (by decide)) d_Units_narrow_49 ?_
            refine zw_iload_n (pc := 52) (n := 3) (x := Int32.ofInt u2_) rfl d_Units_narrow_52 ?_
            refine zk_atG hf_N3_.x (pc := 53) l_Units_57 ((hf_N3_.w hW).kr (o := 29) (by decide)) ((hf_N3_.w hW).lr (o := 29) (s := 0) (r := 30) (by decide)) ((hf_N3_.w hW).rr (o := 30) (t := 1) (n := 27) (by decide)) (by decide) ⟨by omega, by omega⟩ (by decide) (Nat.le_of_ble_eq_true rfl) d_Units_narrow_53 (fun v20_ hv20_ hv20_a hv20_b => ?_)
            clear hv20_
            refine zw_aload_n (pc := 56) (n := 0) (x := (d_ + 28)) rfl d_Units_narrow_56 ?_
            refine zw_getF (pc := 57) f_Units_14 rfl ((hf_N3_.w hW).kr (o := 28) (by decide)) ((hf_N3_.w hW).lr (o := 28) (s := 1) (r := 29) (by decide)) d_Units_narrow_57 ?_
            refine zw_iload_n (pc := 60) (n := 2) (x := Int32.ofInt u1_) rfl d_Units_narrow_60 ?_
            refine zk_atG hf_N3_.x (pc := 61) l_Units_57 ((hf_N3_.w hW).kr (o := 29) (by decide)) ((hf_N3_.w hW).lr (o := 29) (s := 0) (r := 30) (by decide)) ((hf_N3_.w hW).rr (o := 30) (t := 1) (n := 27) (by decide)) (by decide) ⟨by omega, by omega⟩ (by decide) (Nat.le_of_ble_eq_true rfl) d_Units_narrow_61 (fun v21_ hv21_ hv21_a hv21_b => ?_)
            clear hv21_
            refine zr_ixor (pc := 64) d_Units_narrow_64 ?_
            have hr22_ := zxor_r v20_ v21_
            refine zr_nmI (fun v23_ hv23_ => ?_)
            obtain ⟨hv23_a, hv23_b⟩ := hv23_
            refine zk_stG hf_N3_.x (pc := 65) (o := 30) (by decide) l_Units_40 ((hf_N3_.w hW).kr (o := 29) (by decide)) ((hf_N3_.w hW).lr (o := 29) (s := 0) (r := 30) (by decide)) ((hf_N3_.w hW).rr (o := 30) (t := 1) (n := 27) (by decide)) (by decide) ⟨by omega, by omega⟩ (by decide) (Nat.le_of_ble_eq_true rfl) d_Units_narrow_65 (fun N24_ hsN24_ => ?_)
            have hf_N24_ : zFc d_ [] [] [(28, 3)] [30] Mz N24_ := hf_N3_.tr hsN24_ (by decide) (by decide) (by decide) (by decide)
            have hb0_N24_ : zFc d_ [] [] [] [30] Mz N24_ := hs4_.tr hsN24_ (by decide) (by decide) (by decide) (by decide)
            have eD28_3_N24_ : ze N24_ (d_ + 28) 3 = ze N3_ (d_ + 28) 3 := hsN24_.e (by decide)
            refine zr_iinc (pc := 68) (i := 3) (a := u2_) (n := 1) (L2 := [some (.ref (d_ + 28)), some (.int (Int32.ofInt a0_)), some (.int (Int32.ofInt u1_)), some (.int (Int32.ofInt (u2_ + 1)))]) rfl (by decide) rfl d_Units_narrow_68 ?_
            obtain ⟨v25_, hv25_a, hv25_b, hv25_e, hv25_d⟩ := zk_gen (u2_ + 1)
            rw [hv25_e]
            refine zw_goto (pc := 71) (tgt := 4) (by decide) d_Units_narrow_71 ?_
            exact ih_4 u1_ hu1_a hu1_b v25_ hv25_a hv25_b N24_ hb0_N24_ (show 0 ≤ v25_ by first | assumption | omega) (show ze N24_ (d_ + 28) 3 = ze Mz (d_ + 28) 3 by first | assumption | omega) (by omega)
          · skip
            refine zw_iload_n (pc := 38) (n := 3) (x := Int32.ofInt u2_) rfl d_Units_narrow_38 ?_
            refine zw_istore_n (pc := 39) (i := 2) (L2 := [some (.ref (d_ + 28)), some (.int (Int32.ofInt a0_)), some (.int (Int32.ofInt u2_)), some (.int (Int32.ofInt u2_))]) rfl (by decide) rfl d_Units_narrow_39 ?_
            refine zw_goto (pc := 40) (tgt := 68) (by decide) d_Units_narrow_40 ?_
            refine zr_iinc (pc := 68) (i := 3) (a := u2_) (n := 1) (L2 := [some (.ref (d_ + 28)), some (.int (Int32.ofInt a0_)), some (.int (Int32.ofInt u2_)), some (.int (Int32.ofInt (u2_ + 1)))]) rfl (by decide) rfl d_Units_narrow_68 ?_
            obtain ⟨v26_, hv26_a, hv26_b, hv26_e, hv26_d⟩ := zk_gen (u2_ + 1)
            rw [hv26_e]
            refine zw_goto (pc := 71) (tgt := 4) (by decide) d_Units_narrow_71 ?_
            exact ih_4 u2_ hu2_a hu2_b v26_ hv26_a hv26_b N3_ hs4_ (show 0 ≤ v26_ by first | assumption | omega) (show ze N3_ (d_ + 28) 3 = ze Mz (d_ + 28) 3 by first | assumption | omega) (by omega)
        · skip
          refine zw_goto (pc := 30) (tgt := 68) (by decide) d_Units_narrow_30 ?_
          refine zr_iinc (pc := 68) (i := 3) (a := u2_) (n := 1) (L2 := [some (.ref (d_ + 28)), some (.int (Int32.ofInt a0_)), some (.int (Int32.ofInt u1_)), some (.int (Int32.ofInt (u2_ + 1)))]) rfl (by decide) rfl d_Units_narrow_68 ?_
          obtain ⟨v27_, hv27_a, hv27_b, hv27_e, hv27_d⟩ := zk_gen (u2_ + 1)
          rw [hv27_e]
          refine zw_goto (pc := 71) (tgt := 4) (by decide) d_Units_narrow_71 ?_
          exact ih_4 u1_ hu1_a hu1_b v27_ hv27_a hv27_b N3_ hs4_ (show 0 ≤ v27_ by first | assumption | omega) (show ze N3_ (d_ + 28) 3 = ze Mz (d_ + 28) 3 by first | assumption | omega) (by omega)
  exact lp_4 _ ((-1)) (by decide) (by decide) 0 (by decide) (by decide) Mz zFc.rf (show 0 ≤ (0 : Int) by first | assumption | omega) (show ze Mz (d_ + 28) 3 = ze Mz (d_ + 28) 3 by first | assumption | omega) (Nat.lt_succ_self _)
